section
/-! ===== BEGIN words of one list among another's, by their places ===== -/
theorem goodIn_r {big : List Cond} (ws : List Cond) (ps : List Nat) (hp : ws = ps.filterMap (fun i => big[i]?)) (h : ws.all goodWord = true) : GoodIn big ws := by
  intro w hw
  have h1 := List.all_eq_true.mp h w hw
  rw [hp] at hw
  obtain ⟨i, -, hi⟩ := List.mem_filterMap.mp hw
  have hm : w ∈ big := by first | exact List.mem_of_getElem? hi | exact List.getElem?_mem hi
  exact ⟨hm, good_of_word h1⟩
theorem goodIn_app {big a b : List Cond} (ha : GoodIn big a) (hb : GoodIn big b) : GoodIn big (a ++ b) := fun w h => (List.mem_append.mp h).elim (ha w) (hb w)
theorem goodIn_ca {big a b : List Cond} {c : Cond} (ha : GoodIn big (c :: a)) (hb : GoodIn big b) : GoodIn big (c :: (a ++ b)) := fun w h => (List.mem_cons.mp h).elim (fun e => ha w (List.mem_cons.mpr (Or.inl e))) (fun h => (List.mem_append.mp h).elim (fun h => ha w (List.mem_cons.mpr (Or.inr h))) (hb w))
theorem goodIn_sub {big ws : List Cond} (hm : ∀ w ∈ ws, w ∈ big) (h : ws.all goodWord = true) : GoodIn big ws := fun w hw => ⟨hm w hw, good_of_word (List.all_eq_true.mp h w hw)⟩
/-! ===== END ===== -/

/-! ===== BEGIN exceptions that leave a method, and their catching by the caller (launches without stack traces) ===== -/
section VXA
/-! The laws vx_back, vx_callV, vx_callS, vx_callSW, vx_throw0, vx_throwS follow proofs of the library, with one case more: JvmDerived/Free/Laws.lean (Back.of_free), Shelf42/LK1.lean (callV, callS), Shelf/KitTraced.lean (throwNew0V, throwNewS). -/
/-- where a method has thrown q: the class by its name, the cell, what was written, the world -/
def vx_T (XC : String → State → State → Prop) (st : State) (q : Addr) (t : State) (mc ms : Nat) (free : Addr → Prop) : Prop :=
  ∃ (E : String) (ce : Cell) (L : List Loc), XC E st t ∧ t.heap[q]? = some ce ∧ ce.vm = .none ∧ st.vm.findClass E = some ce.cls ∧ st.WarmedH t.vm ∧ st.sameButNew ({ t with vm := st.vm } : State) L mc ms ∧ ∀ z ∈ L, free z.base
def vx_Q (Qc : Array Value → State → Outcome → State → Prop) (XC : String → State → State → Prop) (mc ms : Nat) (free : Addr → Prop) : Array Value → State → Outcome → State → Prop := fun a st o t =>
  (Qc a st o t ∧ ∃ L, FrameEnd st o t L mc ms ∧ ∀ q ∈ L, free q.base) ∨ ∃ q, o = .threw q ∧ vx_T XC st q t mc ms free
/-- a callee that returns or throws -/
def vx_Met (l : Launch) (y : MethodName) (ws : List Cond) (rm : Room) (Pc : Array Value → State → Prop) (Qc : Array Value → State → Outcome → State → Prop) (XC : String → State → State → Prop) (mc ms : Nat) (free : Addr → Prop) : Prop :=
  MetFree l y (headSpec ws rm) Pc (fun _ _ _ _ _ => True) (vx_Q Qc XC mc ms free)
def vx_Post (XC : String → State → State → Prop) (mc ms : Nat) (free : Addr → Prop) : Pt → Array Value → Addr → Pt → Prop := fun A a q B =>
  ∃ (g : JFrame) (mk : MethodId) (t : State) (L : List Loc) (E : String) (ce : Cell), B.U.heap = t.heap ∧ B.U.vm = t.vm ∧ XC E (A.U.calling g mk a) t ∧ t.heap[q]? = some ce ∧ ce.vm = .none ∧ A.U.vm.findClass E = some ce.cls ∧ B.locs = A.locs ++ L ∧ (∀ z ∈ L, free z.base) ∧ B.cells = A.cells + mc ∧ B.slots = A.slots + ms
def vx_Back (l : Launch) (R : Room) (p : Program) (e : Env) (below : List Frame) (s : State) (sargs : Array Value) (y : MethodName) (len W9 : Nat)
    (Pre : Pt → Array Value → Prop) (Post : Pt → Array Value → Option Value → Pt → Prop) (PostX : Pt → Array Value → Addr → Pt → Prop) : Prop :=
  ∀ (m : MethodId) (meth : Method) (c : Code) (A : Pt) (g : JFrame) (ig : Instr) (mk : MethodId) (a : Array Value),
    Stand p l e R s m sargs below meth c A.U A.locs A.cells A.slots → g.method = m → g.locals.size = c.maxLocals → decode c.code g.pc = .ok (ig, len) →
    2 * g.monitorRoom + (g.stack.map fun v => v.category).sum ≤ W9 → A.U.methodNamed? y = some mk → Pre A a →
    (∃ (v : Option Value) (B : Pt), Stand p l e R s m sargs below meth c B.U B.locs B.cells B.slots ∧ Post A a v B ∧
      Steps p.tables e below (doInvoke e (A.U.setTop g) [] mk a).1 (B.U.setTop { g with pc := g.pc + len, stack := v.toList ++ g.stack })) ∨
    (∃ (q : Addr) (B : Pt), Stand p l e R s m sargs below meth c B.U B.locs B.cells B.slots ∧ PostX A a q B ∧
      Steps p.tables e below (doInvoke e (A.U.setTop g) [] mk a).1 ((B.U.setTop g).pushFrame (.throwing q)))
section Payer
variable {l : Launch} {R : Room} {p : Program} {e : Env} {below : List Frame} {s : State} {sargs : Array Value} {y : MethodName} {len W9 : Nat}
theorem vx_back {ws : List Cond} {rm : Room} {Pc : Array Value → State → Prop} {Qc : Array Value → State → Outcome → State → Prop} {XC : String → State → State → Prop} {mc ms : Nat} {free : Addr → Prop} {bytes : ByteArray} {maxL : Nat} {ret : Option FieldType}
    (hM : vx_Met l y ws rm Pc Qc XC mc ms free) (hblind : FrameBlind Pc) (hrc : rm.cells = mc) (hrs : rm.slots = ms)
    (hframes : rm.frames + 1 ≤ R.frames) (hlocals : W9 + (maxL + 11) + rm.locals ≤ R.locals)
    (hws : ∀ w ∈ ws, ∀ a' U, s.WarmedH U.vm → w.before a' U = true) (hcode : Cond.code y bytes maxL ret ∈ ws) (hinit : ∀ a' U, s.WarmedH U.vm → (Cond.initialized y.cls).before a' U = true) :
    vx_Back l R p e below s sargs y len W9 (PreOf R mc ms Pc) (PostOf Qc mc ms free) (vx_Post XC mc ms free) := by
  intro m meth c A g ig mk a X hg hsize hdg hW hn hp
  have h1 : (headSpec ws rm).pre.before a A.U = true := atoms_intro fun w hw => hws w hw _ _ X.warmed
  have h2 : (Cond.code y bytes maxL ret).before a A.U = true := hws _ hcode _ _ X.warmed
  have h3 : (Cond.initialized y.cls).before a A.U = true := hinit _ _ X.warmed
  have h4 : A.cells + (headSpec ws rm).room.cells ≤ R.cells := by rw [show (headSpec ws rm).room.cells = mc from hrc]; exact hp.1
  have h5 : A.slots + (headSpec ws rm).room.slots ≤ R.slots := by rw [show (headSpec ws rm).room.slots = ms from hrs]; exact hp.2.1
  have hPc : Pc a (A.U.calling g mk a) := hblind _ _ _ _ hp.2.2
  obtain ⟨U, Ls, c0, s0⟩ := A
  dsimp only [Pt.U, Pt.locs, Pt.cells, Pt.slots] at h1 h2 h3 h4 h5 X hn hPc ⊢
  obtain ⟨methY, cY, hmY, hcY, -, hlY, -, -, -, -⟩ := Cond.code_spec hn h2
  obtain ⟨kY, hkY, -⟩ := className_of_methodNamed hn
  have hinitY : kY.init = .initialized := Cond.initialized_spec (findClass_of_methodNamed hn) hkY h3
  have h : At U g.method c below := by rw [hg]; exact X.here
  have hlocals9 : W9 + (maxL + 11) + (headSpec ws rm).room.locals ≤ R.locals := hlocals
  have happ : (headSpec ws rm).appliesLoose y e.platform (U.calling g mk a) = true :=
    Spec.appliesLoose_calling (g := g) h hdg hn hkY hinitY
      (X.room_calling (g := g) (R' := (headSpec ws rm).room) hsize hmY hcY hframes (by rw [hlY]; omega) h4 h5) h1
  obtain ⟨mid, hmid⟩ := h.above
  have hfr : (U.setTop g).frames = (.java g :: mid) ++ below := by rw [State.frames_setTop' g h.top, hmid]; rfl
  obtain ⟨o, s₂, hsteps, -, hend, hq⟩ := Steps.callFree hM p X.admits X.cas X.clock (acts := []) hfr happ hPc trivial
  have hq' : vx_Q Qc XC mc ms free a (U.calling g mk a) o s₂ := hq
  rw [State.frames_setTop' g h.top] at hend
  obtain ⟨g₀, hg0⟩ := Option.isSome_iff_exists.mp h.top
  obtain ⟨r, hr⟩ := State.topJava?_eq_some.mp hg0
  have hr' : (({ U with heap := s₂.heap, slotsUsed := s₂.slotsUsed } : State).setVm s₂.vm).frames = .java g₀ :: r := hr
  rcases hq' with ⟨hqc, L, hfe, hL⟩ | ⟨q, rfl, E, ce, L, hx, hce, hcv, hcl, hW₂, hsm, hL⟩
  · obtain ⟨⟨v, rfl⟩, hW₂, e2, q2, q3, q4, q5, q6⟩ := id hfe
    have e3 : s₂ = ({ (U.calling g mk a).setFrames s₂.frames with heap := s₂.heap, slotsUsed := s₂.slotsUsed } : State).setVm s₂.vm := by
      have : s₂ = ({ s₂ with vm := (U.calling g mk a).vm } : State).setVm s₂.vm := rfl
      rw [e2] at this
      exact this
    obtain ⟨c₂, i₂, len₂, hc₂, hd₂, hf₂⟩ := hend
    have hW' : U.WarmedH s₂.vm := hW₂
    have hcc : c₂ = c := by
      have h1 : s₂.code? g.method = U.code? g.method := by
        rw [State.code?_eq, State.code?_eq, hW'.alike.method?]
      exact Option.some.inj (hc₂.symm.trans (h1.trans h.code))
    subst hcc
    have hlen : len₂ = len := by rw [hdg] at hd₂; cases hd₂; rfl
    subst hlen
    have hs₂ : s₂ = (({ U with heap := s₂.heap, slotsUsed := s₂.slotsUsed } : State).setVm s₂.vm).setTop { g with pc := g.pc + len₂, stack := v.toList ++ g.stack } := by
      refine e3.trans ?_
      rw [hf₂, State.calling_eq h.top, State.setFrames_setFrames, State.setTop_of_frames _ hr', hr]
      rfl
    have hsame : U.sameButNew ({ U with heap := s₂.heap, slotsUsed := s₂.slotsUsed } : State) L mc ms := by
      refine ⟨?_, q2, q3, q4, q5, q6⟩
      obtain ⟨t, ht, -⟩ := State.frames_cons hr
      show ({ U with heap := s₂.heap, slotsUsed := s₂.slotsUsed } : State) = { U.setFrames U.frames with heap := s₂.heap, slotsUsed := s₂.slotsUsed }
      rw [State.setFrames_self ht]
    subst hg
    refine Or.inl ⟨v, ⟨(({ U with heap := s₂.heap, slotsUsed := s₂.slotsUsed } : State).setVm s₂.vm), Ls ++ L, c0 + mc, s0 + ms⟩,
      ⟨X.admits, X.cas, X.clock, X.frames, X.room, X.hears, X.method, X.code, (X.here.setHeapUsed s₂.heap s₂.slotsUsed).setVm hW'.alike, X.tail, State.WarmedH.trans X.warmed hW', X.limits, X.bytes, X.same.trans (hsame.setVm s.vm)⟩,
      ⟨g, mk, s₂, L, rfl, rfl, hqc, rfl, hL, rfl, rfl⟩, ?_⟩
    show Steps p.tables e below _ ((({ U with heap := s₂.heap, slotsUsed := s₂.slotsUsed } : State).setVm s₂.vm).setTop { g with pc := g.pc + len₂, stack := v.toList ++ g.stack })
    rw [← hs₂]
    exact hsteps
  · obtain ⟨e2, q2, q3, q4, q5, q6⟩ := id hsm
    have e3 : s₂ = ({ (U.calling g mk a).setFrames s₂.frames with heap := s₂.heap, slotsUsed := s₂.slotsUsed } : State).setVm s₂.vm := by
      have : s₂ = ({ s₂ with vm := (U.calling g mk a).vm } : State).setVm s₂.vm := rfl
      rw [e2] at this
      exact this
    have hf₂ : s₂.frames = .throwing q :: .java g :: U.frames.tail := hend
    have hW' : U.WarmedH s₂.vm := hW₂
    have hs₂ : s₂ = ((({ U with heap := s₂.heap, slotsUsed := s₂.slotsUsed } : State).setVm s₂.vm).setTop g).pushFrame (.throwing q) := by
      refine e3.trans ?_
      rw [hf₂, State.calling_eq h.top, State.setFrames_setFrames, State.pushFrame, State.frames_setTop _ hr', State.setTop_of_frames _ hr', State.setFrames_setFrames, hr]
      rfl
    have hsame : U.sameButNew ({ U with heap := s₂.heap, slotsUsed := s₂.slotsUsed } : State) L mc ms := by
      refine ⟨?_, q2, q3, q4, q5, q6⟩
      obtain ⟨t, ht, -⟩ := State.frames_cons hr
      show ({ U with heap := s₂.heap, slotsUsed := s₂.slotsUsed } : State) = { U.setFrames U.frames with heap := s₂.heap, slotsUsed := s₂.slotsUsed }
      rw [State.setFrames_self ht]
    subst hg
    refine Or.inr ⟨q, ⟨(({ U with heap := s₂.heap, slotsUsed := s₂.slotsUsed } : State).setVm s₂.vm), Ls ++ L, c0 + mc, s0 + ms⟩,
      ⟨X.admits, X.cas, X.clock, X.frames, X.room, X.hears, X.method, X.code, (X.here.setHeapUsed s₂.heap s₂.slotsUsed).setVm hW'.alike, X.tail, State.WarmedH.trans X.warmed hW', X.limits, X.bytes, X.same.trans (hsame.setVm s.vm)⟩,
      ⟨g, mk, s₂, L, E, ce, rfl, rfl, hx, hce, hcv, hcl, rfl, hL, rfl, rfl⟩, ?_⟩
    show Steps p.tables e below _ (((({ U with heap := s₂.heap, slotsUsed := s₂.slotsUsed } : State).setVm s₂.vm).setTop g).pushFrame (.throwing q))
    rw [← hs₂]
    exact hsteps
end Payer
section Calls
variable {p : Program} {l : Launch} {e : Env} {R : Room} {s : State} {m : MethodId} {args : Array Value} {below : List Frame} {meth : Method} {c : Code} {T : State} {locs : List Loc} {cells slots : Nat}
theorem vx_callV (X : Stand p l e R s m args below meth c T locs cells slots) (hexec : p.tables.exec = Jvm.exec) {own C : String} {index : Nat} {y : MethodName} {bytes : ByteArray} {maxL : Nat} {ret : Option FieldType}
    (hown : s.vm.findClass own = some m.cls) (hlink : (Cond.methodLink own index y).before args s = true) (hinst : (Cond.instanceMethod y).before args s = true) (hsel : (Cond.selects C y y).before args s = true)
    (hcode : (Cond.code y bytes maxL ret).before args s = true) (hy : y.cls ≠ "java/lang/invoke/MethodHandle" ∧ y.cls ≠ "java/lang/invoke/VarHandle")
    {W9 : Nat} {Pre : Pt → Array Value → Prop} {Post : Pt → Array Value → Option Value → Pt → Prop} {PostX : Pt → Array Value → Addr → Pt → Prop} (hK : vx_Back l R p e below s args y 3 W9 Pre Post PostX)
    {b : Addr} {cellB : Cell} (hcell : T.heap[b]? = some cellB) (hobj : cellB.vm.isStatics = false) (hcls : s.vm.findClass C = some cellB.cls)
    {g : JFrame} (hg : g.method = m) (hsize : g.locals.size = c.maxLocals) {argsL rest : List Value} (hlen : ∀ sig, parseMethodDescriptor y.desc = some sig → argsL.length = sig.parameters.length)
    (hstack : g.stack = argsL.reverse ++ .ref b :: rest) (hW : 2 * g.monitorRoom + (rest.map fun v => v.category).sum ≤ W9) (hdg : decode c.code g.pc = .ok (.invokevirtual index, 3))
    (hpre : ∀ vm₁, s.WarmedH vm₁ → Pre ⟨T.setVm vm₁, locs, cells, slots⟩ (Value.ref b :: argsL).toArray) :
    (∃ (v : Option Value) (vm₁ : Vm) (B : Pt), s.WarmedH vm₁ ∧ Stand p l e R s m args below meth c B.U B.locs B.cells B.slots ∧ Post ⟨T.setVm vm₁, locs, cells, slots⟩ (Value.ref b :: argsL).toArray v B ∧
      ∀ target, Steps p.tables e below (B.U.setTop { g with pc := g.pc + 3, stack := v.toList ++ rest }) target → Steps p.tables e below (T.setTop g) target) ∨
    (∃ (q : Addr) (vm₁ : Vm) (B : Pt), s.WarmedH vm₁ ∧ Stand p l e R s m args below meth c B.U B.locs B.cells B.slots ∧ PostX ⟨T.setVm vm₁, locs, cells, slots⟩ (Value.ref b :: argsL).toArray q B ∧
      Steps p.tables e below (T.setTop g) ((B.U.setTop { g with stack := rest }).pushFrame (.throwing q))) := by
  obtain ⟨mk, methM, hnamed, hmethM, hstM, habM⟩ := Cond.instanceMethod_spec hinst
  obtain ⟨methM', cM, hmethM', -, -, -, -, -, -, hsigM⟩ := Cond.code_spec hnamed hcode
  cases hmethM.symm.trans hmethM'
  obtain ⟨c2, r2, m2, q1, q2, q3, q4, kP, hkP, hkPi⟩ := Cond.selects_spec hsel
  cases hcls.symm.trans q1
  cases (State.methodFound?_of_named hnamed hy).symm.trans q2
  cases hnamed.symm.trans q3
  have hselP : selectMethod e.platform s.vm cellB.cls mk = .method mk := by rw [Launch.admits_selectMethod X.admits]; exact q4
  obtain ⟨vm₁, X₁, hstep₁⟩ := X.invokevirtual hexec hown hlink hnamed hmethM hstM hkP hkPi hy (a := b) (cell := cellB) hcell
    (fun z h => by rw [h] at hobj; cases hobj) hselP hmethM habM hkP hkPi (g := g) hg (argsL := argsL) (rest := rest) (hlen _ hsigM) hstack hdg
  rcases hK m meth c ⟨T.setVm vm₁, locs, cells, slots⟩ { g with stack := rest } (.invokevirtual index) mk (Value.ref b :: argsL).toArray X₁ hg hsize hdg hW (X₁.named hnamed) (hpre vm₁ X₁.warmed) with ⟨v, B, X', hpost, hsteps⟩ | ⟨q, B, X', hpost, hsteps⟩
  · exact Or.inl ⟨v, vm₁, B, X₁.warmed, X', hpost, fun target h => hstep₁ _ fun acts => by rw [doInvoke_state]; exact hsteps.trans h⟩
  · exact Or.inr ⟨q, vm₁, B, X₁.warmed, X', hpost, hstep₁ _ fun acts => by rw [doInvoke_state]; exact hsteps⟩
theorem vx_callS (X : Stand p l e R s m args below meth c T locs cells slots) (hexec : p.tables.exec = Jvm.exec) {own : String} {index : Nat} {y : MethodName} {bytes : ByteArray} {maxL : Nat} {ret : Option FieldType}
    (hown : s.vm.findClass own = some m.cls) (hlink : (Cond.methodLink own index y).before args s = true) (hstat : (Cond.static y).before args s = true) (hinit : (Cond.initialized y.cls).before args s = true)
    (hcode : (Cond.code y bytes maxL ret).before args s = true) (hy : y.cls ≠ "java/lang/invoke/MethodHandle" ∧ y.cls ≠ "java/lang/invoke/VarHandle")
    {W9 : Nat} {Pre : Pt → Array Value → Prop} {Post : Pt → Array Value → Option Value → Pt → Prop} {PostX : Pt → Array Value → Addr → Pt → Prop} (hK : vx_Back l R p e below s args y 3 W9 Pre Post PostX)
    {g : JFrame} (hg : g.method = m) (hsize : g.locals.size = c.maxLocals) {argsL rest : List Value} (hlen : ∀ sig, parseMethodDescriptor y.desc = some sig → argsL.length = sig.parameters.length)
    (hstack : g.stack = argsL.reverse ++ rest) (hW : 2 * g.monitorRoom + (rest.map fun v => v.category).sum ≤ W9) (hdg : decode c.code g.pc = .ok (.invokestatic index, 3))
    (hpre : ∀ vm₁, s.WarmedH vm₁ → Pre ⟨T.setVm vm₁, locs, cells, slots⟩ argsL.toArray) :
    (∃ (v : Option Value) (vm₁ : Vm) (B : Pt), s.WarmedH vm₁ ∧ Stand p l e R s m args below meth c B.U B.locs B.cells B.slots ∧ Post ⟨T.setVm vm₁, locs, cells, slots⟩ argsL.toArray v B ∧
      ∀ target, Steps p.tables e below (B.U.setTop { g with pc := g.pc + 3, stack := v.toList ++ rest }) target → Steps p.tables e below (T.setTop g) target) ∨
    (∃ (q : Addr) (vm₁ : Vm) (B : Pt), s.WarmedH vm₁ ∧ Stand p l e R s m args below meth c B.U B.locs B.cells B.slots ∧ PostX ⟨T.setVm vm₁, locs, cells, slots⟩ argsL.toArray q B ∧
      Steps p.tables e below (T.setTop g) ((B.U.setTop { g with stack := rest }).pushFrame (.throwing q))) := by
  obtain ⟨mk, hnamed⟩ := Cond.code_named hcode
  obtain ⟨methM, cM, hmethM, -, -, -, -, -, -, hsigM⟩ := Cond.code_spec hnamed hcode
  have hstatic : methM.isStatic = true := Cond.static_spec hnamed hmethM hstat
  obtain ⟨kP, hkP, -⟩ := className_of_methodNamed hnamed
  have hinitP : kP.init = .initialized := Cond.initialized_spec (findClass_of_methodNamed hnamed) hkP hinit
  obtain ⟨vm₁, X₁, hstep₁⟩ := X.invokestatic hexec hown hlink hnamed hmethM hstatic hkP hinitP hy (g := g) hg (argsL := argsL) (rest := rest) (hlen _ hsigM) hstack hdg
  rcases hK m meth c ⟨T.setVm vm₁, locs, cells, slots⟩ { g with stack := rest } (.invokestatic index) mk argsL.toArray X₁ hg hsize hdg hW (X₁.named hnamed) (hpre vm₁ X₁.warmed) with ⟨v, B, X', hpost, hsteps⟩ | ⟨q, B, X', hpost, hsteps⟩
  · exact Or.inl ⟨v, vm₁, B, X₁.warmed, X', hpost, fun target h => hstep₁ _ fun acts => by rw [doInvoke_state]; exact hsteps.trans h⟩
  · exact Or.inr ⟨q, vm₁, B, X₁.warmed, X', hpost, hstep₁ _ fun acts => by rw [doInvoke_state]; exact hsteps⟩
end Calls
theorem vx_cls {s : State} {T : State} {vm₁ : Vm} {E : String} {k : ClassId} (hW : s.WarmedH vm₁) (h : (T.setVm vm₁).vm.findClass E = some k) : s.vm.findClass E = some k := by
  have h1 : vm₁.findClass E = some k := h
  rw [hW.alike.findClass] at h1
  exact h1
/-- the method's frame g, with q thrown over it -/
def vx_W (p : Program) (l : Launch) (e : Env) (R : Room) (s : State) (m : MethodId) (args : Array Value) (below : List Frame) (meth : Method) (c : Code) (H : Heap) (locs : List Loc) (cells slots : Nat) (Q : State → Prop) (g : JFrame) (q : Addr) : Prop :=
  ∀ T : State, T.heap = H → Stand p l e R s m args below meth c T locs cells slots → ∃ t, Steps p.tables e below ((T.setTop g).pushFrame (.throwing q)) t ∧ Q t
def vx_Run (p : Program) (l : Launch) (e : Env) (R : Room) (s : State) (m : MethodId) (args : Array Value) (below : List Frame) (meth : Method) (c : Code) (H : Heap) (locs : List Loc) (cells slots mc ms : Nat) (g : JFrame) (rest : List Value) (Qa : State → Outcome → State → Prop) (XC : String → State → State → Prop) (free : Addr → Prop) : Prop :=
  ∀ T : State, T.heap = H → Stand p l e R s m args below meth c T locs cells slots →
    (∃ (v : Option Value) (st₀ t T' : State) (L : List Loc), st₀.heap = H ∧ Stand p l e R s m args below meth c T' (locs ++ L) (cells + mc) (slots + ms) ∧ (∀ q ∈ L, free q.base) ∧ T'.heap = t.heap ∧ T'.vm = t.vm ∧ Qa st₀ (.returned v) t ∧
      Goes p e below T g T' { g with pc := g.pc + 3, stack := v.toList ++ rest }) ∨
    (∃ (q : Addr) (st₀ t T' : State) (L : List Loc) (E : String) (ce : Cell), st₀.heap = H ∧ Stand p l e R s m args below meth c T' (locs ++ L) (cells + mc) (slots + ms) ∧ (∀ z ∈ L, free z.base) ∧ T'.heap = t.heap ∧ T'.vm = t.vm ∧ XC E st₀ t ∧ t.heap[q]? = some ce ∧ ce.vm = .none ∧ s.vm.findClass E = some ce.cls ∧
      Steps p.tables e below (T.setTop g) ((T'.setTop { g with stack := rest }).pushFrame (.throwing q)))
def vx_X {S : Type} (px : S → Prop) (B : String → S → State → Prop) (A : Nat → Prop) : String → State → State → Prop := fun E st t => ∃ u : S, px u ∧ B E u t ∧ va_F A st t
section Runs
variable {p : Program} {l : Launch} {e : Env} {R : Room} {s : State} {m : MethodId} {args : Array Value} {below : List Frame} {meth : Method} {c : Code} {H : Heap} {locs : List Loc} {cells slots : Nat}
variable {y : MethodName} {bytes cc : ByteArray} {maxL nL mc ms n index : Nat} {ret : Option FieldType} {ws : List Cond} {rm : Room} {Pc : Array Value → State → Prop} {Qc : Array Value → State → Outcome → State → Prop} {XC : String → State → State → Prop} {free : Addr → Prop} {Ts : List Cond} {own C : String} {b : Addr} {As rest : List Value} {g : JFrame}
theorem vx_callBack (cb : CallB R s args own index y bytes maxL ret ws rm mc ms n) (hM : vx_Met l y ws rm Pc Qc XC mc ms free) (hbl : FrameBlind Pc) : vx_Back l R p e below s args y 3 8 (PreOf R mc ms Pc) (PostOf Qc mc ms free) (vx_Post XC mc ms free) := by
  obtain ⟨hrc, hrs, hfr, hlo, hws, hcw, -, hini, -⟩ := cb
  exact vx_back (bytes := bytes) (maxL := maxL) (ret := ret) hM hbl hrc hrs hfr hlo hws hcw (fun a' U hW => word_at hW (Or.inl (by first | rfl | simp [Cond.onTables, Cond.keeps, Cond.steady])) hini)
theorem vx_runV (S : CallFix p m c cc nL s args Ts own) (hM : vx_Met l y ws rm Pc Qc XC mc ms free) (cw : CallW R s args own C index y bytes maxL ret ws rm mc ms n) (hp : PreV s H C b Pc As)
    (hg : g.method = m) (hn : As.length = n) (hsize : g.locals.size = nL) (hstack : g.stack = As.reverse ++ .ref b :: rest) (hW : 2 * g.monitorRoom + (rest.map fun v => v.category).sum ≤ 8) (hdg : decode cc g.pc = .ok (.invokevirtual index, 3)) (hf : cells + mc ≤ R.cells ∧ slots + ms ≤ R.slots) :
    vx_Run p l e R s m args below meth c H locs cells slots mc ms g rest (Qc (Value.ref b :: As).toArray) XC free := by
  have hK : vx_Back l R p e below s args y 3 8 (PreOf R mc ms Pc) (PostOf Qc mc ms free) (vx_Post XC mc ms free) := vx_callBack cw.1 hM hp.1
  obtain ⟨⟨-, -, -, -, -, -, hcode, -, hy, hlen, hl⟩, hin, hse⟩ := cw
  obtain ⟨hx, hb, hml, ho, -⟩ := S
  obtain ⟨-, ⟨cellB, hcB, hoB, hclB⟩, hPc⟩ := hp
  intro T hT X
  rcases vx_callV X hx (C := C) (bytes := bytes) (maxL := maxL) (ret := ret) ho hl hin hse hcode hy hK (by rw [hT]; exact hcB) hoB hclB hg (hsize.trans hml.symm) (argsL := As) (rest := rest) (fun sig h => hn.trans (hlen sig h)) hstack hW (by rw [hb]; exact hdg)
    (fun vm₁ hW₁ => ⟨hf.1, hf.2, hPc (T.setVm vm₁) hT hW₁⟩) with ⟨v, vm₁, ⟨U', l2, c2, s2⟩, hW₁, X', ⟨g', mk, t, L, e1, e2, hq, h1, hL, h2, h3⟩, st⟩ | ⟨q, vm₁, ⟨U', l2, c2, s2⟩, hW₁, X', ⟨g', mk, t, L, E, ce, e1, e2, hq, hce, hcv, hcl, h1, hL, h2, h3⟩, st⟩
  · dsimp only [Pt.U, Pt.locs, Pt.cells, Pt.slots] at X' e1 e2 h1 h2 h3 st
    subst h1; subst h2; subst h3
    exact Or.inl ⟨v, (T.setVm vm₁).calling g' mk (Value.ref b :: As).toArray, t, U', L, hT, X', hL, e1, e2, hq, st⟩
  · dsimp only [Pt.U, Pt.locs, Pt.cells, Pt.slots] at X' e1 e2 h1 h2 h3 st hcl
    subst h1; subst h2; subst h3
    exact Or.inr ⟨q, (T.setVm vm₁).calling g' mk (Value.ref b :: As).toArray, t, U', L, E, ce, hT, X', hL, e1, e2, hq, hce, hcv, vx_cls hW₁ hcl, st⟩
theorem vx_runS (S : CallFix p m c cc nL s args Ts own) (hM : vx_Met l y ws rm Pc Qc XC mc ms free) (cw : CallB R s args own index y bytes maxL ret ws rm mc ms n ∧ (Cond.static y).before args s = true) (hp : PreS s H Pc As)
    (hg : g.method = m) (hn : As.length = n) (hsize : g.locals.size = nL) (hstack : g.stack = As.reverse ++ rest) (hW : 2 * g.monitorRoom + (rest.map fun v => v.category).sum ≤ 8) (hdg : decode cc g.pc = .ok (.invokestatic index, 3)) (hf : cells + mc ≤ R.cells ∧ slots + ms ≤ R.slots) :
    vx_Run p l e R s m args below meth c H locs cells slots mc ms g rest (Qc As.toArray) XC free := by
  have hK : vx_Back l R p e below s args y 3 8 (PreOf R mc ms Pc) (PostOf Qc mc ms free) (vx_Post XC mc ms free) := vx_callBack cw.1 hM hp.1
  obtain ⟨⟨-, -, -, -, -, -, hcode, hini, hy, hlen, hl⟩, hstt⟩ := cw
  obtain ⟨hx, hb, hml, ho, -⟩ := S
  intro T hT X
  rcases vx_callS X hx (bytes := bytes) (maxL := maxL) (ret := ret) ho hl hstt hini hcode hy hK hg (hsize.trans hml.symm) (argsL := As) (rest := rest) (fun sig h => hn.trans (hlen sig h)) hstack hW (by rw [hb]; exact hdg)
    (fun vm₁ hW₁ => ⟨hf.1, hf.2, hp.2 (T.setVm vm₁) hT hW₁⟩) with ⟨v, vm₁, ⟨U', l2, c2, s2⟩, hW₁, X', ⟨g', mk, t, L, e1, e2, hq, h1, hL, h2, h3⟩, st⟩ | ⟨q, vm₁, ⟨U', l2, c2, s2⟩, hW₁, X', ⟨g', mk, t, L, E, ce, e1, e2, hq, hce, hcv, hcl, h1, hL, h2, h3⟩, st⟩
  · dsimp only [Pt.U, Pt.locs, Pt.cells, Pt.slots] at X' e1 e2 h1 h2 h3 st
    subst h1; subst h2; subst h3
    exact Or.inl ⟨v, (T.setVm vm₁).calling g' mk As.toArray, t, U', L, hT, X', hL, e1, e2, hq, st⟩
  · dsimp only [Pt.U, Pt.locs, Pt.cells, Pt.slots] at X' e1 e2 h1 h2 h3 st hcl
    subst h1; subst h2; subst h3
    exact Or.inr ⟨q, (T.setVm vm₁).calling g' mk As.toArray, t, U', L, E, ce, hT, X', hL, e1, e2, hq, hce, hcv, vx_cls hW₁ hcl, st⟩
end Runs
section Rows
variable {p : Program} {l : Launch} {e : Env} {R : Room} {s : State} {m : MethodId} {args : Array Value} {below : List Frame} {meth : Method} {c : Code} {H : Heap} {locs : List Loc} {cells slots : Nat} {Q : State → Prop}
variable {mc ms : Nat} {free : Addr → Prop} {A0 A1 : Nat → Prop} {H0 : Heap} {a : Array Value} {pc : Nat} {ls : Array Slot} {st0 rest : List Value}
theorem vx_keep {st₀ t T' : State} {L : List Loc} (h0 : st₀.heap = H) (e1 : T'.heap = t.heap) (hS : va_S A0 H0 H locs) (hA : ∀ q, q < H.size → A1 q → A0 q) (hf : ∀ q, free q → A0 q) (hL : ∀ q ∈ L, free q.base) (hF : va_F A1 st₀ t) :
    H.size ≤ T'.heap.size ∧ (∀ q : Nat, q < H.size → ¬ A1 q → T'.heap[q]? = H[q]?) ∧ va_S A0 H0 T'.heap (locs ++ L) := by
  obtain ⟨hz, hk⟩ := hF
  rw [h0] at hz hk
  exact ⟨by rw [e1]; exact hz, fun q h1 h2 => by rw [e1]; exact hk q h1 h2,
    ⟨Nat.le_trans hS.1 (by rw [e1]; exact hz), fun q h1 h2 => by rw [e1, hk q (Nat.lt_of_lt_of_le h1 hS.1) (fun z => h2 (hA q (Nat.lt_of_lt_of_le h1 hS.1) z))]; exact hS.2.1 q h1 h2, fun q hq => by
      rcases List.mem_append.mp hq with h | h
      · exact hS.2.2 q h
      · exact hf _ (hL q h)⟩⟩
theorem vx_calli {S SX : Type} {post : Int32 → S → Prop} {px : SX → Prop} {B : S → State → Prop} {BX : String → SX → State → Prop} {AX : Nat → Prop} (hr : vx_Run p l e R s m args below meth c H locs cells slots mc ms (F0 m pc ls st0) rest (va_Qi post B A1 a) (vx_X px BX AX) free) (hS : va_S A0 H0 H locs) (hA : ∀ q, q < H.size → A1 q → A0 q) (hf : ∀ q, free q → A0 q) (hAX : ∀ q, q < H.size → AX q → A0 q)
    (kx : ∀ (E : String) (ce : Cell) (q9 : Addr) (u : SX) (t : State) (H1 : Heap) (locs1 : List Loc), t.heap = H1 → s.vm.Alike t.vm → px u → BX E u t → H.size ≤ H1.size → (∀ q : Nat, q < H.size → ¬ AX q → H1[q]? = H[q]?) → va_S A0 H0 H1 locs1 → H1[q9]? = some ce → ce.vm = .none → s.vm.findClass E = some ce.cls → vx_W p l e R s m args below meth c H1 locs1 (cells + mc) (slots + ms) Q (F0 m pc ls rest) q9)
    (kk : ∀ (r : Int32) (u : S) (t : State) (H1 : Heap) (locs1 : List Loc), t.heap = H1 → s.vm.Alike t.vm → post r u → B u t → H.size ≤ H1.size → (∀ q : Nat, q < H.size → ¬ A1 q → H1[q]? = H[q]?) → va_S A0 H0 H1 locs1 → W p l e R s m args below meth c H1 locs1 (cells + mc) (slots + ms) Q (F0 m (pc + 3) ls (.int r :: rest))) : W p l e R s m args below meth c H locs cells slots Q (F0 m pc ls st0) := by
  intro T hT X
  rcases hr T hT X with ⟨v, st₀, t, T', L, h0, X', hL, e1, e2, ⟨⟨r, u, hv, hp, hb⟩, hF⟩, st⟩ | ⟨q, st₀, t, T', L, E, ce, h0, X', hL, e1, e2, ⟨u, hp, hb, hF⟩, hce, hcv, hcl, st⟩
  · cases hv
    obtain ⟨k1, k2, k3⟩ := vx_keep h0 e1 hS hA hf hL hF
    obtain ⟨t2, a1, b1⟩ := kk r u t T'.heap (locs ++ L) e1.symm (by rw [← e2]; exact X'.warmed.alike) hp hb k1 k2 k3 T' rfl X'
    exact ⟨t2, st t2 a1, b1⟩
  · obtain ⟨k1, k2, k3⟩ := vx_keep h0 e1 hS hAX hf hL hF
    obtain ⟨t2, a1, b1⟩ := kx E ce q u t T'.heap (locs ++ L) e1.symm (by rw [← e2]; exact X'.warmed.alike) hp hb k1 k2 k3 (by rw [e1]; exact hce) hcv hcl T' rfl X'
    exact ⟨t2, st.trans a1, b1⟩
theorem vx_calll {S SX : Type} {post : Int64 → S → Prop} {px : SX → Prop} {B : S → State → Prop} {BX : String → SX → State → Prop} {AX : Nat → Prop} (hr : vx_Run p l e R s m args below meth c H locs cells slots mc ms (F0 m pc ls st0) rest (va_Ql post B A1 a) (vx_X px BX AX) free) (hS : va_S A0 H0 H locs) (hA : ∀ q, q < H.size → A1 q → A0 q) (hf : ∀ q, free q → A0 q) (hAX : ∀ q, q < H.size → AX q → A0 q)
    (kx : ∀ (E : String) (ce : Cell) (q9 : Addr) (u : SX) (t : State) (H1 : Heap) (locs1 : List Loc), t.heap = H1 → s.vm.Alike t.vm → px u → BX E u t → H.size ≤ H1.size → (∀ q : Nat, q < H.size → ¬ AX q → H1[q]? = H[q]?) → va_S A0 H0 H1 locs1 → H1[q9]? = some ce → ce.vm = .none → s.vm.findClass E = some ce.cls → vx_W p l e R s m args below meth c H1 locs1 (cells + mc) (slots + ms) Q (F0 m pc ls rest) q9)
    (kk : ∀ (r : Int64) (u : S) (t : State) (H1 : Heap) (locs1 : List Loc), t.heap = H1 → s.vm.Alike t.vm → post r u → B u t → H.size ≤ H1.size → (∀ q : Nat, q < H.size → ¬ A1 q → H1[q]? = H[q]?) → va_S A0 H0 H1 locs1 → W p l e R s m args below meth c H1 locs1 (cells + mc) (slots + ms) Q (F0 m (pc + 3) ls (.long r :: rest))) : W p l e R s m args below meth c H locs cells slots Q (F0 m pc ls st0) := by
  intro T hT X
  rcases hr T hT X with ⟨v, st₀, t, T', L, h0, X', hL, e1, e2, ⟨⟨r, u, hv, hp, hb⟩, hF⟩, st⟩ | ⟨q, st₀, t, T', L, E, ce, h0, X', hL, e1, e2, ⟨u, hp, hb, hF⟩, hce, hcv, hcl, st⟩
  · cases hv
    obtain ⟨k1, k2, k3⟩ := vx_keep h0 e1 hS hA hf hL hF
    obtain ⟨t2, a1, b1⟩ := kk r u t T'.heap (locs ++ L) e1.symm (by rw [← e2]; exact X'.warmed.alike) hp hb k1 k2 k3 T' rfl X'
    exact ⟨t2, st t2 a1, b1⟩
  · obtain ⟨k1, k2, k3⟩ := vx_keep h0 e1 hS hAX hf hL hF
    obtain ⟨t2, a1, b1⟩ := kx E ce q u t T'.heap (locs ++ L) e1.symm (by rw [← e2]; exact X'.warmed.alike) hp hb k1 k2 k3 (by rw [e1]; exact hce) hcv hcl T' rfl X'
    exact ⟨t2, st.trans a1, b1⟩
theorem vx_callf {S SX : Type} {post : UInt32 → S → Prop} {px : SX → Prop} {B : S → State → Prop} {BX : String → SX → State → Prop} {AX : Nat → Prop} (hr : vx_Run p l e R s m args below meth c H locs cells slots mc ms (F0 m pc ls st0) rest (va_Qf post B A1 a) (vx_X px BX AX) free) (hS : va_S A0 H0 H locs) (hA : ∀ q, q < H.size → A1 q → A0 q) (hf : ∀ q, free q → A0 q) (hAX : ∀ q, q < H.size → AX q → A0 q)
    (kx : ∀ (E : String) (ce : Cell) (q9 : Addr) (u : SX) (t : State) (H1 : Heap) (locs1 : List Loc), t.heap = H1 → s.vm.Alike t.vm → px u → BX E u t → H.size ≤ H1.size → (∀ q : Nat, q < H.size → ¬ AX q → H1[q]? = H[q]?) → va_S A0 H0 H1 locs1 → H1[q9]? = some ce → ce.vm = .none → s.vm.findClass E = some ce.cls → vx_W p l e R s m args below meth c H1 locs1 (cells + mc) (slots + ms) Q (F0 m pc ls rest) q9)
    (kk : ∀ (r : UInt32) (u : S) (t : State) (H1 : Heap) (locs1 : List Loc), t.heap = H1 → s.vm.Alike t.vm → post r u → B u t → H.size ≤ H1.size → (∀ q : Nat, q < H.size → ¬ A1 q → H1[q]? = H[q]?) → va_S A0 H0 H1 locs1 → W p l e R s m args below meth c H1 locs1 (cells + mc) (slots + ms) Q (F0 m (pc + 3) ls (.float r :: rest))) : W p l e R s m args below meth c H locs cells slots Q (F0 m pc ls st0) := by
  intro T hT X
  rcases hr T hT X with ⟨v, st₀, t, T', L, h0, X', hL, e1, e2, ⟨⟨r, u, hv, hp, hb⟩, hF⟩, st⟩ | ⟨q, st₀, t, T', L, E, ce, h0, X', hL, e1, e2, ⟨u, hp, hb, hF⟩, hce, hcv, hcl, st⟩
  · cases hv
    obtain ⟨k1, k2, k3⟩ := vx_keep h0 e1 hS hA hf hL hF
    obtain ⟨t2, a1, b1⟩ := kk r u t T'.heap (locs ++ L) e1.symm (by rw [← e2]; exact X'.warmed.alike) hp hb k1 k2 k3 T' rfl X'
    exact ⟨t2, st t2 a1, b1⟩
  · obtain ⟨k1, k2, k3⟩ := vx_keep h0 e1 hS hAX hf hL hF
    obtain ⟨t2, a1, b1⟩ := kx E ce q u t T'.heap (locs ++ L) e1.symm (by rw [← e2]; exact X'.warmed.alike) hp hb k1 k2 k3 (by rw [e1]; exact hce) hcv hcl T' rfl X'
    exact ⟨t2, st.trans a1, b1⟩
theorem vx_calld {S SX : Type} {post : UInt64 → S → Prop} {px : SX → Prop} {B : S → State → Prop} {BX : String → SX → State → Prop} {AX : Nat → Prop} (hr : vx_Run p l e R s m args below meth c H locs cells slots mc ms (F0 m pc ls st0) rest (va_Qd post B A1 a) (vx_X px BX AX) free) (hS : va_S A0 H0 H locs) (hA : ∀ q, q < H.size → A1 q → A0 q) (hf : ∀ q, free q → A0 q) (hAX : ∀ q, q < H.size → AX q → A0 q)
    (kx : ∀ (E : String) (ce : Cell) (q9 : Addr) (u : SX) (t : State) (H1 : Heap) (locs1 : List Loc), t.heap = H1 → s.vm.Alike t.vm → px u → BX E u t → H.size ≤ H1.size → (∀ q : Nat, q < H.size → ¬ AX q → H1[q]? = H[q]?) → va_S A0 H0 H1 locs1 → H1[q9]? = some ce → ce.vm = .none → s.vm.findClass E = some ce.cls → vx_W p l e R s m args below meth c H1 locs1 (cells + mc) (slots + ms) Q (F0 m pc ls rest) q9)
    (kk : ∀ (r : UInt64) (u : S) (t : State) (H1 : Heap) (locs1 : List Loc), t.heap = H1 → s.vm.Alike t.vm → post r u → B u t → H.size ≤ H1.size → (∀ q : Nat, q < H.size → ¬ A1 q → H1[q]? = H[q]?) → va_S A0 H0 H1 locs1 → W p l e R s m args below meth c H1 locs1 (cells + mc) (slots + ms) Q (F0 m (pc + 3) ls (.double r :: rest))) : W p l e R s m args below meth c H locs cells slots Q (F0 m pc ls st0) := by
  intro T hT X
  rcases hr T hT X with ⟨v, st₀, t, T', L, h0, X', hL, e1, e2, ⟨⟨r, u, hv, hp, hb⟩, hF⟩, st⟩ | ⟨q, st₀, t, T', L, E, ce, h0, X', hL, e1, e2, ⟨u, hp, hb, hF⟩, hce, hcv, hcl, st⟩
  · cases hv
    obtain ⟨k1, k2, k3⟩ := vx_keep h0 e1 hS hA hf hL hF
    obtain ⟨t2, a1, b1⟩ := kk r u t T'.heap (locs ++ L) e1.symm (by rw [← e2]; exact X'.warmed.alike) hp hb k1 k2 k3 T' rfl X'
    exact ⟨t2, st t2 a1, b1⟩
  · obtain ⟨k1, k2, k3⟩ := vx_keep h0 e1 hS hAX hf hL hF
    obtain ⟨t2, a1, b1⟩ := kx E ce q u t T'.heap (locs ++ L) e1.symm (by rw [← e2]; exact X'.warmed.alike) hp hb k1 k2 k3 (by rw [e1]; exact hce) hcv hcl T' rfl X'
    exact ⟨t2, st.trans a1, b1⟩
theorem vx_callv {S SX : Type} {post : S → Prop} {px : SX → Prop} {B : S → State → Prop} {BX : String → SX → State → Prop} {AX : Nat → Prop} (hr : vx_Run p l e R s m args below meth c H locs cells slots mc ms (F0 m pc ls st0) rest (va_Qv post B A1 a) (vx_X px BX AX) free) (hS : va_S A0 H0 H locs) (hA : ∀ q, q < H.size → A1 q → A0 q) (hf : ∀ q, free q → A0 q) (hAX : ∀ q, q < H.size → AX q → A0 q)
    (kx : ∀ (E : String) (ce : Cell) (q9 : Addr) (u : SX) (t : State) (H1 : Heap) (locs1 : List Loc), t.heap = H1 → s.vm.Alike t.vm → px u → BX E u t → H.size ≤ H1.size → (∀ q : Nat, q < H.size → ¬ AX q → H1[q]? = H[q]?) → va_S A0 H0 H1 locs1 → H1[q9]? = some ce → ce.vm = .none → s.vm.findClass E = some ce.cls → vx_W p l e R s m args below meth c H1 locs1 (cells + mc) (slots + ms) Q (F0 m pc ls rest) q9)
    (kk : ∀ (u : S) (t : State) (H1 : Heap) (locs1 : List Loc), t.heap = H1 → s.vm.Alike t.vm → post u → B u t → H.size ≤ H1.size → (∀ q : Nat, q < H.size → ¬ A1 q → H1[q]? = H[q]?) → va_S A0 H0 H1 locs1 → W p l e R s m args below meth c H1 locs1 (cells + mc) (slots + ms) Q (F0 m (pc + 3) ls (rest))) : W p l e R s m args below meth c H locs cells slots Q (F0 m pc ls st0) := by
  intro T hT X
  rcases hr T hT X with ⟨v, st₀, t, T', L, h0, X', hL, e1, e2, ⟨⟨u, hv, hp, hb⟩, hF⟩, st⟩ | ⟨q, st₀, t, T', L, E, ce, h0, X', hL, e1, e2, ⟨u, hp, hb, hF⟩, hce, hcv, hcl, st⟩
  · cases hv
    obtain ⟨k1, k2, k3⟩ := vx_keep h0 e1 hS hA hf hL hF
    obtain ⟨t2, a1, b1⟩ := kk u t T'.heap (locs ++ L) e1.symm (by rw [← e2]; exact X'.warmed.alike) hp hb k1 k2 k3 T' rfl X'
    exact ⟨t2, st t2 a1, b1⟩
  · obtain ⟨k1, k2, k3⟩ := vx_keep h0 e1 hS hAX hf hL hF
    obtain ⟨t2, a1, b1⟩ := kx E ce q u t T'.heap (locs ++ L) e1.symm (by rw [← e2]; exact X'.warmed.alike) hp hb k1 k2 k3 (by rw [e1]; exact hce) hcv hcl T' rfl X'
    exact ⟨t2, st.trans a1, b1⟩
/-- caught by the row x of this method's table; the rows ahead don't take it -/
theorem vx_catch {own name : String} {E : String} {ce : Cell} {q : Addr} (hown : s.vm.findClass own = some m.cls) (pre : List ExceptionTableEntry) (x : ExceptionTableEntry) (suf : List ExceptionTableEntry) (hsplit : c.exceptionTable.toList = pre ++ x :: suf)
    (hpass : ∀ z ∈ pre, covers z pc = false ∨ (z.catchType ≠ 0 ∧ ∃ nm : String, (Cond.classLink own z.catchType nm).before args s = true ∧ va_Nc E nm s)) (hx : covers x pc = true) (h0 : x.catchType ≠ 0)
    (hlink : (Cond.classLink own x.catchType name).before args s = true) (hcast : (Cond.castable E name).before args s = true) (hcell : H[q]? = some ce) (hv : ce.vm = .none) (hcl : s.vm.findClass E = some ce.cls)
    (kk : W p l e R s m args below meth c H locs cells slots Q (F0 m x.handlerPc ls [.ref q])) : vx_W p l e R s m args below meth c H locs cells slots Q (F0 m pc ls rest) q := by
  intro T hT X
  have hpl : e.platform.magicAccessors = ({} : Platform).magicAccessors := by rw [X.admits.platform]
  obtain ⟨c3, c4, hc3, hc4, hasg⟩ := Cond.castable_spec hcast
  cases Option.some.inj (hc3.symm.trans hcl)
  obtain ⟨c5, hc5, hcl5⟩ := Cond.classLink_spec hown hlink e.platform hpl
  cases Option.some.inj (hc4.symm.trans hc5)
  obtain ⟨vm', X', st⟩ := X.thenCaughtThrough q (g := F0 m pc ls rest) rfl (Steps.refl _) (by rw [hT]; exact hcell) (by rw [hv]; rfl) (by obtain ⟨k9, h9, -⟩ := Vm.findClass_spec hcl; exact ⟨k9, h9⟩) pre x suf hsplit
    (fun z hz => by
      rcases hpass z hz with h | ⟨hz0, nm, hl1, hn1⟩
      · exact Or.inl h
      · obtain ⟨c6, hc6, hcl6⟩ := Cond.classLink_spec hown hl1 e.platform hpl
        obtain ⟨a8, b8, h1, h2, h3⟩ := hn1
        cases Option.some.inj (h1.symm.trans hcl)
        cases Option.some.inj (h2.symm.trans hc6)
        exact Or.inr ⟨hz0, _, hcl6, h3⟩) hx (Or.inr ⟨h0, c4, hcl5, hasg⟩)
  obtain ⟨t, a1, b1⟩ := kk (T.setVm vm') hT X'
  exact ⟨t, st.trans a1, b1⟩
end Rows
section Ends
variable {p : Program} {l : Launch} {e : Env} {R : Room} {s : State} {m : MethodId} {args : Array Value} {below : List Frame} {meth : Method} {c : Code} {H : Heap} {locs : List Loc} {cells slots : Nat} {Q : State → Prop}
variable {mc ms : Nat} {free : Addr → Prop} {A0 A1 : Nat → Prop} {H0 : Heap} {a : Array Value} {ls : Array Slot} {st0 rest : List Value}
variable {Qc : Array Value → State → Outcome → State → Prop} {XC : String → State → State → Prop}
/-- what a body that may throw owes at its end -/
def vx_MQ (below : List Frame) (Qc : Array Value → State → Outcome → State → Prop) (XC : String → State → State → Prop) (a : Array Value) (s : State) (mc ms : Nat) (free : Addr → Prop) : State → Prop := fun t =>
  ∃ o, t.status = .running ∧ Ended t below o ∧ vx_Q Qc XC mc ms free a s o t
theorem vx_ret {g : JFrame} {mc ms : Nat} (k : W p l e R s m args below meth c H locs cells slots (MQ below Qc args s mc ms free) g) : W p l e R s m args below meth c H locs cells slots (vx_MQ below Qc XC args s mc ms free) g := by
  intro T hT X
  obtain ⟨t, a1, o, b1, b2, b3, b4⟩ := k T hT X
  exact ⟨t, a1, o, b1, b2, Or.inl ⟨b3, b4⟩⟩
/-- not caught here: it goes on to the caller -/
theorem vx_widen {g : JFrame} {q : Addr} {k n : Nat} (h1 : cells ≤ k) (h2 : slots ≤ n) (kk : vx_W p l e R s m args below meth c H locs k n Q g q) : vx_W p l e R s m args below meth c H locs cells slots Q g q := fun T hT X => kk T hT (stand_widen X h1 h2)
theorem vx_out {pc : Nat} {E : String} {ce : Cell} {q : Addr} {mc ms : Nat} (hout : ∀ x ∈ c.exceptionTable.toList, covers x pc = false) (hlocks : meth.locks = false) (hcell : H[q]? = some ce) (hv : ce.vm = .none) (hcl : s.vm.findClass E = some ce.cls)
    (hx : ∀ t : State, t.heap = H → s.vm.Alike t.vm → XC E s t) (hf : ∀ z ∈ locs, free z.base) (hc : cells ≤ mc) (hs : slots ≤ ms) :
    vx_W p l e R s m args below meth c H locs cells slots (vx_MQ below Qc XC args s mc ms free) (F0 m pc ls rest) q := by
  intro T hT X
  obtain ⟨st1, hrun, hend, hW, hsm⟩ := X.leaveThrown q (g := F0 m pc ls rest) rfl rfl rfl hout hlocks
  have hcell9 : (T.setFrames (.throwing q :: below)).heap[q]? = some ce := by
    show T.heap[q]? = some ce
    rw [hT]; exact hcell
  exact ⟨_, st1, .threw q, hrun, hend, Or.inr ⟨q, rfl, E, ce, locs, hx _ hT hW.alike, hcell9, hv, hcl, hW, hsm.mono hc hs, hf⟩⟩
theorem vx_frame {U : State} {k n : Nat} (h : s.sameButNew ({ U with vm := s.vm } : State) locs k n) : s.heap.size ≤ U.heap.size ∧ ∀ q : Nat, q < s.heap.size → (∀ z ∈ locs, z.base ≠ q) → U.heap[q]? = s.heap[q]? := by
  obtain ⟨-, h2, -, -, -, h6⟩ := h
  refine ⟨h2, fun q hq hz => ?_⟩
  obtain ⟨c9, e1, e2, e3, e4⟩ := h6 q _ (Array.getElem?_eq_getElem hq)
  have hs : c9.slots = (s.heap[q]).slots := Array.ext_getElem? fun i => e4 i fun hm => hz _ hm rfl
  have h9 : c9 = s.heap[q] := by
    rw [hs] at e2
    exact e2
  have e5 : U.heap[q]? = some c9 := e1
  rw [e5, h9, Array.getElem?_eq_getElem hq]
/-- the words of a throw but the four that speak of the heap -/
def vx_no (w : Cond) : Bool := decide (w ≠ .isRef (.static Bundle.tN "UNASSIGNED_STACK" Bundle.steD)) && decide (w ≠ .isRef (.static Bundle.tN "SUPPRESSED_SENTINEL" Bundle.listD)) && decide (w ≠ .laysStatic Bundle.tN "UNASSIGNED_STACK" Bundle.steD) && decide (w ≠ .laysStatic Bundle.tN "SUPPRESSED_SENTINEL" Bundle.listD)
def vx_at0 (own : String) (ic : Nat) (X : String) (names : List String) : List Cond := (Bundle.ownAtoms0 own ic X names).filter vx_no
def vx_atS (own : String) (ic : Nat) (X : String) (names : List String) : List Cond := (Bundle.ownAtoms own ic X names).filter vx_no
/-- a word that the tables alone decide, or a good one -/
def vx_ot (w : Cond) : Bool := w.onTables || goodWord w
theorem vx_ot_at {args a' : Array Value} {s U : State} {w : Cond} (hW : s.WarmedH U.vm) (hvm : s.vm = U.vm) (hg : vx_ot w = true) (h : w.before args s = true) : w.before a' U = true := by
  simp only [vx_ot, Bool.or_eq_true] at hg
  rcases hg with hg | hg
  · exact va_tabs hg hvm h
  · exact word_at hW (good_of_word hg) h
/-- a list's words: the good ones out of the method's own list, the others by premises of their own -/
theorem vx_hat {args : Array Value} {s : State} {L B : List Cond} (h1 : ∀ w ∈ L.filter goodWord, w.before args s = true) (h2 : ∀ w ∈ L.filter (fun w => !goodWord w), w ∈ B) (h3 : ∀ w ∈ B, w.before args s = true) : ∀ w ∈ L, w.before args s = true := by
  intro w hw
  by_cases g : goodWord w = true
  · exact h1 w (List.mem_filter.mpr ⟨hw, g⟩)
  · refine h3 w (h2 w (List.mem_filter.mpr ⟨hw, ?_⟩))
    show (!goodWord w) = true
    cases hgw : goodWord w
    · rfl
    · exact absurd hgw g
theorem vx_c {args : Array Value} {s : State} {w : Cond} {B : List Cond} (h : w.before args s = true) (t : ∀ w ∈ B, w.before args s = true) : ∀ w' ∈ w :: B, w'.before args s = true := fun w' h' => (List.mem_cons.mp h').elim (fun e => by rw [e]; exact h) (t w')
theorem vx_n {args : Array Value} {s : State} : ∀ w ∈ ([] : List Cond), w.before args s = true := fun _ h => nomatch h
theorem vx_own {args : Array Value} {s : State} {L : List Cond} (h1 : ∀ w ∈ L.filter vx_no, w.before args s = true)
    (hU : (Cond.isRef (.static Bundle.tN "UNASSIGNED_STACK" Bundle.steD)).before args s = true) (hN : (Cond.isRef (.static Bundle.tN "SUPPRESSED_SENTINEL" Bundle.listD)).before args s = true)
    (lU : (Cond.laysStatic Bundle.tN "UNASSIGNED_STACK" Bundle.steD).before args s = true) (lN : (Cond.laysStatic Bundle.tN "SUPPRESSED_SENTINEL" Bundle.listD).before args s = true) : ∀ w ∈ L, w.before args s = true := by
  intro w hw
  by_cases e1 : w = .isRef (.static Bundle.tN "UNASSIGNED_STACK" Bundle.steD)
  · rw [e1]; exact hU
  · by_cases e2 : w = .isRef (.static Bundle.tN "SUPPRESSED_SENTINEL" Bundle.listD)
    · rw [e2]; exact hN
    · by_cases e3 : w = .laysStatic Bundle.tN "UNASSIGNED_STACK" Bundle.steD
      · rw [e3]; exact lU
      · by_cases e4 : w = .laysStatic Bundle.tN "SUPPRESSED_SENTINEL" Bundle.listD
        · rw [e4]; exact lN
        · exact h1 w (List.mem_filter.mpr ⟨hw, by unfold vx_no; rw [decide_eq_true e1, decide_eq_true e2, decide_eq_true e3, decide_eq_true e4]; rfl⟩)
/-- where a static field lies, its class's statics cell in H -/
def vx_L (C n d : String) (A : Nat → Prop) (U : State) (H : Heap) : Prop := ∃ (c : ClassId) (k : Class) (i : Nat) (f : Field) (a : Nat) (cell : Cell), U.vm.findClass C = some c ∧ U.fieldFound? C n d = some (c, k, i, f) ∧ f.isStatic = true ∧ k.statics = some a ∧ H[a]? = some cell ∧ cell.vm.isStatics = true ∧ cell.cls = c ∧ f.slot < cell.slots.size ∧ k.staticTypes[f.slot]? = some f.type ∧ ¬ A a
theorem vx_L.moved {C n d : String} {A : Nat → Prop} {u U : State} {H : Heap} (hvm : u.vm.Alike U.vm) (h : vx_L C n d A u H) : vx_L C n d A U H := by
  obtain ⟨c, k, i, f, a, cell, h1, h2, h3, h4, h5, h6, h7, h8, h9, h10⟩ := h
  obtain ⟨k', hi', he⟩ := State.fieldFound?_setVm hvm h2
  exact ⟨c, k', i, f, a, cell, by rw [hvm.findClass]; exact h1, hi', h3, by rw [he]; exact h4, h5, h6, h7, h8, by rw [he]; exact h9, h10⟩
theorem vx_L.kept {C n d : String} {A : Nat → Prop} {U : State} {H H1 : Heap} (h : vx_L C n d A U H) (hq : ∀ a : Nat, a < H.size → ¬ A a → H1[a]? = H[a]?) : vx_L C n d A U H1 := by
  obtain ⟨c, k, i, f, a, cell, h1, h2, h3, h4, h5, h6, h7, h8, h9, h10⟩ := h
  exact ⟨c, k, i, f, a, cell, h1, h2, h3, h4, by rw [hq a (Array.getElem?_eq_some_iff.mp h5).1 h10]; exact h5, h6, h7, h8, h9, h10⟩
theorem vx_L.narrow {C n d : String} {A B : Nat → Prop} {U : State} {H : Heap} (h : vx_L C n d A U H) (hAB : ∀ q, B q → A q) : vx_L C n d B U H := by
  obtain ⟨c, k, i, f, a, cell, h1, h2, h3, h4, h5, h6, h7, h8, h9, h10⟩ := h
  exact ⟨c, k, i, f, a, cell, h1, h2, h3, h4, h5, h6, h7, h8, h9, fun z => h10 (hAB _ z)⟩
theorem vx_L.word {C n d : String} {A : Nat → Prop} {s : State} {args : Array Value} (h : vx_L C n d A s s.heap) : (Cond.laysStatic C n d).before args s = true := by
  obtain ⟨c, k, i, f, a, cell, h1, h2, h3, h4, h5, h6, h7, h8, h9, -⟩ := h
  show (Cond.laysStatic C n d).holds args s none s [] = true
  exact Cond.laysStatic_of h1 h2 h3 h4 h5 h6 h7 h8 h9
/-- .. and what it holds: null or some reference -/
def vx_Zq (C n d : String) (A : Nat → Prop) (U : State) (H : Heap) : Prop := va_Zq C n d A U H ∧ vx_L C n d A U H
theorem vx_Zq.moved {C n d : String} {A : Nat → Prop} {u U : State} {H : Heap} (hvm : u.vm.Alike U.vm) (h : vx_Zq C n d A u H) : vx_Zq C n d A U H := ⟨va_Zq.moved hvm h.1, vx_L.moved hvm h.2⟩
theorem vx_Zq.kept {C n d : String} {A : Nat → Prop} {U : State} {H H1 : Heap} (h : vx_Zq C n d A U H) (hq : ∀ a : Nat, a < H.size → ¬ A a → H1[a]? = H[a]?) : vx_Zq C n d A U H1 := ⟨va_Zq.kept h.1 hq, vx_L.kept h.2 hq⟩
theorem vx_Zq.narrow {C n d : String} {A B : Nat → Prop} {U : State} {H : Heap} (h : vx_Zq C n d A U H) (hAB : ∀ q, B q → A q) : vx_Zq C n d B U H := ⟨va_Zq.narrow h.1 hAB, vx_L.narrow h.2 hAB⟩
theorem vx_Zqof {args : Array Value} {s : State} {C n d : String} {A : Nat → Prop} (hl : (Cond.laysStatic C n d).before args s = true) (hini : (Cond.initialized C).before args s = true) (h : (Cond.isRef (.static C n d)).before args s = true) (hA : ∀ a : Nat, a < s.heap.size → ¬ A a) : vx_Zq C n d A s s.heap := by
  refine ⟨va_Zqof hl hini h hA, ?_⟩
  obtain ⟨c, k, i, f, a, cell, h1, h2, h3, h4, h5, h6, h7, h8, h9⟩ := Cond.laysStatic_spec hl
  exact ⟨c, k, i, f, a, cell, h1, h2, h3, h4, h5, h6, h7, h8, h9, hA a (Array.getElem?_eq_some_iff.mp h5).1⟩
theorem vx_isRef {C n d : String} {v : Value} {A : Nat → Prop} {s : State} {args : Array Value} (h : va_Z C n d v A s s.heap) (hv : v.isRef = true) : (Cond.isRef (.static C n d)).before args s = true := by
  obtain ⟨cf, kf, fi, f, a, cell, h1, h2, h3, h4, h5, h6, h7, -⟩ := h
  have he : (Term.static C n d).eval args s none [] s = some v := by
    simp [Term.eval, State.fieldNamed?, h1, h2, h4, h5, h6, h7]
  simp only [Cond.before, Cond.holds, Cond.value, he]
  cases v <;> simp_all [Value.isRef]
theorem vx_isRefq {C n d : String} {A : Nat → Prop} {s : State} {args : Array Value} (h : va_Zq C n d A s s.heap) : (Cond.isRef (.static C n d)).before args s = true := by
  rcases h with h | ⟨t, h⟩
  · exact vx_isRef h rfl
  · exact vx_isRef h rfl
/-- the same frame, seen from here: as if the method were called anew in this heap -/
theorem vx_rebase {T : State} (X : Stand p l e R s m args below meth c T locs cells slots) {R' : Room} (hf : R'.frames ≤ R.frames) (hl : R'.locals ≤ R.locals) (hc : cells + R'.cells ≤ R.cells) (hs : slots + R'.slots ≤ R.slots) :
    Stand p l e R' ((T.setVm s.vm).setFrames (.invoking m args :: below)) m args below meth c T [] 0 0 := by
  have htop : (T.setVm s.vm).topJava?.isSome := X.here.top
  have hF : ((T.setVm s.vm).setFrames (.invoking m args :: below)).frames = .invoking m args :: below := State.frames_setFrames _ (State.cur_lt_of_top htop)
  obtain ⟨g₀, hg0⟩ := Option.isSome_iff_exists.mp htop
  obtain ⟨r, hr⟩ := State.topJava?_eq_some.mp hg0
  have hl9 : e.platform.stackLimits (T.setVm s.vm).me = e.platform.stackLimits s.me := X.limits
  have hb9 : (T.setVm s.vm).me.stackBytes = s.me.stackBytes := X.bytes
  refine ⟨X.admits, X.cas, X.clock, hF, ?_, X.hears, X.method, X.code, X.here, X.tail, X.warmed, ?_, ?_, ?_⟩
  · have h := X.room
    have hU : ((T.setVm s.vm).setFrames (.invoking m args :: below)).localsInUse = s.localsInUse := by
      rw [State.localsInUse_invoking hF (meth := meth) (c := c) X.method X.code, State.localsInUse_invoking X.frames X.method X.code]
    simp only [State.hasRoom, Bool.and_eq_true, decide_eq_true_eq] at h ⊢
    obtain ⟨⟨⟨⟨h1, h2, h3, h4, h5, h6⟩, h7⟩, h8⟩, h9⟩ := h
    rw [X.frames, List.length_cons] at h2 h3
    have q1 := X.heapSize
    have q2 := X.used
    simp only [hF, hU, List.length_cons, State.stackLimits_setFrames, State.stackBytes_setFrames, hl9, hb9]
    refine ⟨⟨⟨⟨by omega, by omega, by omega, by omega, by omega, h6⟩, ?_⟩, ?_⟩, X.book⟩
    · show T.heap.size + R'.cells ≤ e.platform.maxCells
      omega
    · show T.slotsUsed + R'.slots ≤ e.platform.maxSlots
      omega
  · rw [State.stackLimits_setFrames]; rfl
  · rw [State.stackBytes_setFrames]; rfl
  · refine ⟨?_, Nat.le_refl _, Nat.le_refl _, ?_, ?_, fun a c9 h9 => ⟨c9, h9, rfl, rfl, fun _ _ => rfl⟩⟩
    · obtain ⟨t, ht, -⟩ := State.frames_cons hr
      show T.setVm s.vm = { ((T.setVm s.vm).setFrames (.invoking m args :: below)).setFrames (T.setVm s.vm).frames with heap := T.heap, slotsUsed := T.slotsUsed }
      rw [State.setFrames_setFrames, State.setFrames_self ht]
      rfl
    · show T.slotsUsed = T.slotsUsed + ((T.heap.toList.drop T.heap.size).map (·.slots.size)).sum
      rw [List.drop_eq_nil_of_le (Nat.le_of_eq Array.length_toList)]
      rfl
    · show ((T.heap.toList.drop T.heap.size).map (·.slots.size)).sum ≤ 0
      rw [List.drop_eq_nil_of_le (Nat.le_of_eq Array.length_toList)]
      exact Nat.le_refl _
/-- 'throw new E()': new; dup; invokespecial; athrow -/
theorem vx_throw0 {cc : ByteArray} {pc : Nat} (hexec : p.tables.exec = Jvm.exec) (hb : c.code = cc) (hl : l.stackTraces = false) {own cls : String} {names : List String} {ik ic mc ms : Nat} {A : Nat → Prop}
    (hown : s.vm.findClass own = some m.cls) (hcls : Bundle.fit cls = true) (hnames : ∀ n ∈ names, Bundle.fit n = true)
    (hk : (Cond.classLink own ik cls).before args s = true) (hini : (Cond.initialized cls).before args s = true) (hat : ∀ w ∈ vx_at0 own ic cls names, w.before args s = true)
    (hgood : ∀ w ∈ Cond.classLink own ik cls :: Cond.initialized cls :: vx_at0 own ic cls names, vx_ot w = true)
    (hU : vx_Zq Bundle.tN "UNASSIGNED_STACK" Bundle.steD A s s.heap) (hN : vx_Zq Bundle.tN "SUPPRESSED_SENTINEL" Bundle.listD A s s.heap) (hS : va_S A s.heap H locs) (hsize : ls.size = c.maxLocals)
    (d0 : decode cc pc = .ok (.new ik, 3)) (d3 : decode cc (pc + 3) = .ok (.dup, 1)) (d4 : decode cc (pc + 4) = .ok (.invokespecial ic, 3)) (d7 : decode cc (pc + 7) = .ok (.athrow, 1))
    (hout : ∀ x ∈ c.exceptionTable.toList, covers x (pc + 7) = false)
    (hRframes : names.length + 3 < R.frames) (hRlocals : (rest.map fun v => v.category).sum + (13 * (names.length + 1) + 42) ≤ R.locals) (hRcells : cells + 1 ≤ R.cells) (hRslots : slots + 6 ≤ R.slots) (hlocks : meth.locks = false)
    (hx : ∀ t : State, s.vm.Alike t.vm → H.size ≤ t.heap.size → (∀ q : Nat, q < H.size → t.heap[q]? = H[q]?) → XC cls s t)
    (hf : ∀ z ∈ locs, free z.base) (hc : cells + 1 ≤ mc) (hs : slots + 6 ≤ ms) :
    W p l e R s m args below meth c H locs cells slots (vx_MQ below Qc XC args s mc ms free) (F0 m pc ls rest) := by
  intro T hT X
  have htr : e.platform.stackTraces = false := (show e.platform.stackTraces = l.stackTraces by rw [X.admits.platform]).trans hl
  have Y := vx_rebase X (R' := { frames := R.frames, locals := R.locals, cells := 1, slots := 6 }) (Nat.le_refl _) (Nat.le_refl _) hRcells hRslots
  obtain ⟨s', hA⟩ : ∃ z, z = (T.setVm s.vm).setFrames (.invoking m args :: below) := ⟨_, rfl⟩
  rw [← hA] at Y
  have hvm : s'.vm = s.vm := by rw [hA]; rfl
  have hhp : s'.heap = H := by rw [hA]; exact hT
  have hW0 : s.WarmedH s'.vm := by rw [hvm]; exact State.WarmedH.refl s
  have hat' : ∀ w ∈ vx_at0 own ic cls names, w.before args s' = true := fun w hw => vx_ot_at hW0 hvm.symm (hgood w (List.mem_cons_of_mem _ (List.mem_cons_of_mem _ hw))) (hat w hw)
  have hk' : (Cond.classLink own ik cls).before args s' = true := vx_ot_at hW0 hvm.symm (hgood _ List.mem_cons_self) hk
  have hini' : (Cond.initialized cls).before args s' = true := vx_ot_at hW0 hvm.symm (hgood _ (List.mem_cons_of_mem _ List.mem_cons_self)) hini
  have hU' : vx_Zq Bundle.tN "UNASSIGNED_STACK" Bundle.steD A s' s'.heap := by rw [hhp]; exact vx_Zq.moved hW0.alike (hU.kept hS.2.1)
  have hN' : vx_Zq Bundle.tN "SUPPRESSED_SENTINEL" Bundle.listD A s' s'.heap := by rw [hhp]; exact vx_Zq.moved hW0.alike (hN.kept hS.2.1)
  have h : ∀ w ∈ Bundle.ownAtoms0 own ic cls names, w.before args s' = true := vx_own hat' (vx_isRefq hU'.1) (vx_isRefq hN'.1) hU'.2.word hN'.2.word
  have hown' : s'.vm.findClass own = some m.cls := by rw [hvm]; exact hown
  have hins : (Cond.instantiable cls 6).before args s' = true := h _ (by simp [Bundle.ownAtoms0])
  obtain ⟨vm₁, cX, kX, hfX, hkX, -, -, X₁, st1⟩ := Y.newCold hexec (own := own) (C := cls) (index := ik) (n := 6) hown' hk' hins hini'
    (g := F0 m pc ls rest) rfl (by rw [hb]; exact d0) (Nat.le_refl _) (Nat.le_refl _)
  generalize hT1 : (T.setVm vm₁).pushCell { cls := cX, slots := kX.instanceTypes.map defaultValue, vm := .none } = T1 at X₁ st1
  have hcat : (Value.ref T.heap.size).category = 1 := rfl
  have hcellA : T1.heap[T.heap.size]? = some (freshCell cX kX) := by rw [← hT1]; exact State.heap_pushCell_size _ _
  have d3' : decode c.code (pc + 3) = .ok (.dup, 1) := by rw [hb]; exact d3
  obtain ⟨U, hsteps, hrun, hend, hW, hsame, ce, hce, hO⟩ := X₁.ctorThrow0 hexec htr (own := own) (cls := cls) (names := names) (ic := ic) hown' hcls hnames h (fun x hx => nomatch hx) hfX hkX hcellA (by rw [hhp, hT]; exact Nat.le_refl _)
    (g := { method := m, pc := pc + 4, locals := ls, stack := .ref T.heap.size :: .ref T.heap.size :: rest, locked := none }) rfl hsize rfl rfl (rest := rest) rfl
    (by rw [hb]; exact d4) (by rw [hb]; exact d7) hout hRframes (by simp only [List.map_cons, List.sum_cons, hcat]; omega) hlocks
  obtain ⟨f1, f2⟩ := vx_frame hsame
  rw [hhp] at f1 f2
  have hWs : s.WarmedH U.vm := State.WarmedH.trans hW0 hW
  have hcl : s.vm.findClass cls = some ce.cls := by
    have h9 := hO.cls
    rw [hvm] at h9
    exact h9
  have hall : s.sameButNew ({ U with vm := s.vm } : State) locs mc ms := by
    subst hA
    obtain ⟨e1, e2⟩ := hsame
    rw [State.setFrames_setFrames] at e1
    have h2 : (T.setVm s.vm).sameButNew ({ U with vm := s.vm } : State) [] (0 + 1) (0 + 6) := ⟨e1, e2⟩
    have h3 := X.same.trans h2
    rw [List.append_nil] at h3
    exact h3.mono hc hs
  refine ⟨U, ?_, .threw T.heap.size, hrun, hend, Or.inr ⟨T.heap.size, rfl, cls, ce, locs, hx U hWs.alike f1 (fun q hq => f2 q hq (fun z hz => nomatch hz)), hce, hO.vm, hcl, hWs, hall, hf⟩⟩
  refine st1 _ ?_
  show Steps p.tables e below (T1.setTop { method := m, pc := pc + 3, locals := ls, stack := .ref T.heap.size :: rest, locked := none }) _
  jvm_step X₁.here [X₁.here.top, hexec, d3', Value.category]
  exact hsteps
/-- 'throw new E("text")': new; dup; ldc; invokespecial; athrow -/
theorem vx_throwS {cc : ByteArray} {pc : Nat} (hexec : p.tables.exec = Jvm.exec) (hb : c.code = cc) (hl : l.stackTraces = false) {own cls text : String} {names : List String} {ik is ic mc ms sa : Nat} {A : Nat → Prop}
    (hown : s.vm.findClass own = some m.cls) (hcls : Bundle.fit cls = true) (hnames : ∀ n ∈ names, Bundle.fit n = true)
    (hk : (Cond.classLink own ik cls).before args s = true) (hini : (Cond.initialized cls).before args s = true) (hstr : vk_R own is text sa s) (hat : ∀ w ∈ vx_atS own ic cls names, w.before args s = true)
    (hgood : ∀ w ∈ Cond.classLink own ik cls :: Cond.initialized cls :: vx_atS own ic cls names, vx_ot w = true)
    (hU : vx_Zq Bundle.tN "UNASSIGNED_STACK" Bundle.steD A s s.heap) (hN : vx_Zq Bundle.tN "SUPPRESSED_SENTINEL" Bundle.listD A s s.heap) (hS : va_S A s.heap H locs) (hsize : ls.size = c.maxLocals)
    (d0 : decode cc pc = .ok (.new ik, 3)) (d3 : decode cc (pc + 3) = .ok (.dup, 1)) (d4 : decode cc (pc + 4) = .ok (.ldc is, 2)) (d6 : decode cc (pc + 6) = .ok (.invokespecial ic, 3)) (d9 : decode cc (pc + 9) = .ok (.athrow, 1))
    (hout : ∀ x ∈ c.exceptionTable.toList, covers x (pc + 9) = false)
    (hRframes : names.length + 3 < R.frames) (hRlocals : (rest.map fun v => v.category).sum + (13 * (names.length + 1) + 43) ≤ R.locals) (hRcells : cells + 1 ≤ R.cells) (hRslots : slots + 6 ≤ R.slots) (hlocks : meth.locks = false)
    (hx : ∀ t : State, s.vm.Alike t.vm → H.size ≤ t.heap.size → (∀ q : Nat, q < H.size → t.heap[q]? = H[q]?) → XC cls s t)
    (hf : ∀ z ∈ locs, free z.base) (hc : cells + 1 ≤ mc) (hs : slots + 6 ≤ ms) :
    W p l e R s m args below meth c H locs cells slots (vx_MQ below Qc XC args s mc ms free) (F0 m pc ls rest) := by
  intro T hT X
  have htr : e.platform.stackTraces = false := (show e.platform.stackTraces = l.stackTraces by rw [X.admits.platform]).trans hl
  have Y := vx_rebase X (R' := { frames := R.frames, locals := R.locals, cells := 1, slots := 6 }) (Nat.le_refl _) (Nat.le_refl _) hRcells hRslots
  obtain ⟨s', hA⟩ : ∃ z, z = (T.setVm s.vm).setFrames (.invoking m args :: below) := ⟨_, rfl⟩
  rw [← hA] at Y
  have hvm : s'.vm = s.vm := by rw [hA]; rfl
  have hhp : s'.heap = H := by rw [hA]; exact hT
  have hW0 : s.WarmedH s'.vm := by rw [hvm]; exact State.WarmedH.refl s
  have hat' : ∀ w ∈ vx_atS own ic cls names, w.before args s' = true := fun w hw => vx_ot_at hW0 hvm.symm (hgood w (List.mem_cons_of_mem _ (List.mem_cons_of_mem _ hw))) (hat w hw)
  have hk' : (Cond.classLink own ik cls).before args s' = true := vx_ot_at hW0 hvm.symm (hgood _ List.mem_cons_self) hk
  have hini' : (Cond.initialized cls).before args s' = true := vx_ot_at hW0 hvm.symm (hgood _ (List.mem_cons_of_mem _ List.mem_cons_self)) hini
  have hU' : vx_Zq Bundle.tN "UNASSIGNED_STACK" Bundle.steD A s' s'.heap := by rw [hhp]; exact vx_Zq.moved hW0.alike (hU.kept hS.2.1)
  have hN' : vx_Zq Bundle.tN "SUPPRESSED_SENTINEL" Bundle.listD A s' s'.heap := by rw [hhp]; exact vx_Zq.moved hW0.alike (hN.kept hS.2.1)
  have h : ∀ w ∈ Bundle.ownAtoms own ic cls names, w.before args s' = true := vx_own hat' (vx_isRefq hU'.1) (vx_isRefq hN'.1) hU'.2.word hN'.2.word
  have hown' : s'.vm.findClass own = some m.cls := by rw [hvm]; exact hown
  have hins : (Cond.instantiable cls 6).before args s' = true := h _ (by simp [Bundle.ownAtoms])
  obtain ⟨vm₁, cX, kX, hfX, hkX, -, -, X₁, st1⟩ := Y.newCold hexec (own := own) (C := cls) (index := ik) (n := 6) hown' hk' hins hini'
    (g := F0 m pc ls rest) rfl (by rw [hb]; exact d0) (Nat.le_refl _) (Nat.le_refl _)
  generalize hT1 : (T.setVm vm₁).pushCell { cls := cX, slots := kX.instanceTypes.map defaultValue, vm := .none } = T1 at X₁ st1
  have hcat : (Value.ref T.heap.size).category = 1 := rfl
  have hcellA : T1.heap[T.heap.size]? = some (freshCell cX kX) := by rw [← hT1]; exact State.heap_pushCell_size _ _
  have d3' : decode c.code (pc + 3) = .ok (.dup, 1) := by rw [hb]; exact d3
  have d4' : decode c.code (pc + 4) = .ok (.ldc is, 2) := by rw [hb]; exact d4
  have hstr' : vk_R own is text sa s' := vk_R.warm hW0 hstr
  obtain ⟨U, hsteps, hrun, hend, hW, hsame, ce, hce, hO⟩ := X₁.ctorThrowS hexec htr (own := own) (cls := cls) (names := names) (ic := ic) hown' hcls hnames h (fun x hx => nomatch hx) hfX hkX hcellA (by rw [hhp, hT]; exact Nat.le_refl _) (msg := .ref sa) rfl
    (g := { method := m, pc := pc + 6, locals := ls, stack := .ref sa :: .ref T.heap.size :: .ref T.heap.size :: rest, locked := none }) rfl hsize rfl rfl (rest := rest) rfl
    (by rw [hb]; exact d6) (by rw [hb]; exact d9) hout hRframes (by simp only [List.map_cons, List.sum_cons, hcat]; omega) hlocks
  obtain ⟨f1, f2⟩ := vx_frame hsame
  rw [hhp] at f1 f2
  have hWs : s.WarmedH U.vm := State.WarmedH.trans hW0 hW
  have hcl : s.vm.findClass cls = some ce.cls := by
    have h9 := hO.cls
    rw [hvm] at h9
    exact h9
  have hall : s.sameButNew ({ U with vm := s.vm } : State) locs mc ms := by
    subst hA
    obtain ⟨e1, e2⟩ := hsame
    rw [State.setFrames_setFrames] at e1
    have h2 : (T.setVm s.vm).sameButNew ({ U with vm := s.vm } : State) [] (0 + 1) (0 + 6) := ⟨e1, e2⟩
    have h3 := X.same.trans h2
    rw [List.append_nil] at h3
    exact h3.mono hc hs
  refine ⟨U, ?_, .threw T.heap.size, hrun, hend, Or.inr ⟨T.heap.size, rfl, cls, ce, locs, hx U hWs.alike f1 (fun q hq => f2 q hq (fun z hz => nomatch hz)), hce, hO.vm, hcl, hWs, hall, hf⟩⟩
  refine st1 _ ?_
  show Steps p.tables e below (T1.setTop { method := m, pc := pc + 3, locals := ls, stack := .ref T.heap.size :: rest, locked := none }) _
  jvm_step X₁.here [X₁.here.top, hexec, d3', Value.category]
  exact X₁.ldcString hexec (own := own) (text := text) (index := is) (a := sa) hown' hstr'.1 hstr'.2
    (g := { method := m, pc := pc + 4, locals := ls, stack := .ref T.heap.size :: .ref T.heap.size :: rest, locked := none }) rfl d4' _ hsteps
/-- 'throw new E("text")', the text by a wide index -/
theorem vx_throwSW {cc : ByteArray} {pc : Nat} (hexec : p.tables.exec = Jvm.exec) (hb : c.code = cc) (hl : l.stackTraces = false) {own cls text : String} {names : List String} {ik is ic mc ms sa : Nat} {A : Nat → Prop}
    (hown : s.vm.findClass own = some m.cls) (hcls : Bundle.fit cls = true) (hnames : ∀ n ∈ names, Bundle.fit n = true)
    (hk : (Cond.classLink own ik cls).before args s = true) (hini : (Cond.initialized cls).before args s = true) (hstr : vk_R own is text sa s) (hat : ∀ w ∈ vx_atS own ic cls names, w.before args s = true)
    (hgood : ∀ w ∈ Cond.classLink own ik cls :: Cond.initialized cls :: vx_atS own ic cls names, vx_ot w = true)
    (hU : vx_Zq Bundle.tN "UNASSIGNED_STACK" Bundle.steD A s s.heap) (hN : vx_Zq Bundle.tN "SUPPRESSED_SENTINEL" Bundle.listD A s s.heap) (hS : va_S A s.heap H locs) (hsize : ls.size = c.maxLocals)
    (d0 : decode cc pc = .ok (.new ik, 3)) (d3 : decode cc (pc + 3) = .ok (.dup, 1)) (d4 : decode cc (pc + 4) = .ok (.ldc_w is, 3)) (d7 : decode cc (pc + 7) = .ok (.invokespecial ic, 3)) (d10 : decode cc (pc + 10) = .ok (.athrow, 1))
    (hout : ∀ x ∈ c.exceptionTable.toList, covers x (pc + 10) = false)
    (hRframes : names.length + 3 < R.frames) (hRlocals : (rest.map fun v => v.category).sum + (13 * (names.length + 1) + 43) ≤ R.locals) (hRcells : cells + 1 ≤ R.cells) (hRslots : slots + 6 ≤ R.slots) (hlocks : meth.locks = false)
    (hx : ∀ t : State, s.vm.Alike t.vm → H.size ≤ t.heap.size → (∀ q : Nat, q < H.size → t.heap[q]? = H[q]?) → XC cls s t)
    (hf : ∀ z ∈ locs, free z.base) (hc : cells + 1 ≤ mc) (hs : slots + 6 ≤ ms) :
    W p l e R s m args below meth c H locs cells slots (vx_MQ below Qc XC args s mc ms free) (F0 m pc ls rest) := by
  intro T hT X
  have htr : e.platform.stackTraces = false := (show e.platform.stackTraces = l.stackTraces by rw [X.admits.platform]).trans hl
  have Y := vx_rebase X (R' := { frames := R.frames, locals := R.locals, cells := 1, slots := 6 }) (Nat.le_refl _) (Nat.le_refl _) hRcells hRslots
  obtain ⟨s', hA⟩ : ∃ z, z = (T.setVm s.vm).setFrames (.invoking m args :: below) := ⟨_, rfl⟩
  rw [← hA] at Y
  have hvm : s'.vm = s.vm := by rw [hA]; rfl
  have hhp : s'.heap = H := by rw [hA]; exact hT
  have hW0 : s.WarmedH s'.vm := by rw [hvm]; exact State.WarmedH.refl s
  have hat' : ∀ w ∈ vx_atS own ic cls names, w.before args s' = true := fun w hw => vx_ot_at hW0 hvm.symm (hgood w (List.mem_cons_of_mem _ (List.mem_cons_of_mem _ hw))) (hat w hw)
  have hk' : (Cond.classLink own ik cls).before args s' = true := vx_ot_at hW0 hvm.symm (hgood _ List.mem_cons_self) hk
  have hini' : (Cond.initialized cls).before args s' = true := vx_ot_at hW0 hvm.symm (hgood _ (List.mem_cons_of_mem _ List.mem_cons_self)) hini
  have hU' : vx_Zq Bundle.tN "UNASSIGNED_STACK" Bundle.steD A s' s'.heap := by rw [hhp]; exact vx_Zq.moved hW0.alike (hU.kept hS.2.1)
  have hN' : vx_Zq Bundle.tN "SUPPRESSED_SENTINEL" Bundle.listD A s' s'.heap := by rw [hhp]; exact vx_Zq.moved hW0.alike (hN.kept hS.2.1)
  have h : ∀ w ∈ Bundle.ownAtoms own ic cls names, w.before args s' = true := vx_own hat' (vx_isRefq hU'.1) (vx_isRefq hN'.1) hU'.2.word hN'.2.word
  have hown' : s'.vm.findClass own = some m.cls := by rw [hvm]; exact hown
  have hins : (Cond.instantiable cls 6).before args s' = true := h _ (by simp [Bundle.ownAtoms])
  obtain ⟨vm₁, cX, kX, hfX, hkX, -, -, X₁, st1⟩ := Y.newCold hexec (own := own) (C := cls) (index := ik) (n := 6) hown' hk' hins hini'
    (g := F0 m pc ls rest) rfl (by rw [hb]; exact d0) (Nat.le_refl _) (Nat.le_refl _)
  generalize hT1 : (T.setVm vm₁).pushCell { cls := cX, slots := kX.instanceTypes.map defaultValue, vm := .none } = T1 at X₁ st1
  have hcat : (Value.ref T.heap.size).category = 1 := rfl
  have hcellA : T1.heap[T.heap.size]? = some (freshCell cX kX) := by rw [← hT1]; exact State.heap_pushCell_size _ _
  have d3' : decode c.code (pc + 3) = .ok (.dup, 1) := by rw [hb]; exact d3
  have d4' : decode c.code (pc + 4) = .ok (.ldc_w is, 3) := by rw [hb]; exact d4
  have hstr' : vk_R own is text sa s' := vk_R.warm hW0 hstr
  obtain ⟨U, hsteps, hrun, hend, hW, hsame, ce, hce, hO⟩ := X₁.ctorThrowS hexec htr (own := own) (cls := cls) (names := names) (ic := ic) hown' hcls hnames h (fun x hx => nomatch hx) hfX hkX hcellA (by rw [hhp, hT]; exact Nat.le_refl _) (msg := .ref sa) rfl
    (g := { method := m, pc := pc + 7, locals := ls, stack := .ref sa :: .ref T.heap.size :: .ref T.heap.size :: rest, locked := none }) rfl hsize rfl rfl (rest := rest) rfl
    (by rw [hb]; exact d7) (by rw [hb]; exact d10) hout hRframes (by simp only [List.map_cons, List.sum_cons, hcat]; omega) hlocks
  obtain ⟨f1, f2⟩ := vx_frame hsame
  rw [hhp] at f1 f2
  have hWs : s.WarmedH U.vm := State.WarmedH.trans hW0 hW
  have hcl : s.vm.findClass cls = some ce.cls := by
    have h9 := hO.cls
    rw [hvm] at h9
    exact h9
  have hall : s.sameButNew ({ U with vm := s.vm } : State) locs mc ms := by
    subst hA
    obtain ⟨e1, e2⟩ := hsame
    rw [State.setFrames_setFrames] at e1
    have h2 : (T.setVm s.vm).sameButNew ({ U with vm := s.vm } : State) [] (0 + 1) (0 + 6) := ⟨e1, e2⟩
    have h3 := X.same.trans h2
    rw [List.append_nil] at h3
    exact h3.mono hc hs
  refine ⟨U, ?_, .threw T.heap.size, hrun, hend, Or.inr ⟨T.heap.size, rfl, cls, ce, locs, hx U hWs.alike f1 (fun q hq => f2 q hq (fun z hz => nomatch hz)), hce, hO.vm, hcl, hWs, hall, hf⟩⟩
  refine st1 _ ?_
  show Steps p.tables e below (T1.setTop { method := m, pc := pc + 3, locals := ls, stack := .ref T.heap.size :: rest, locked := none }) _
  jvm_step X₁.here [X₁.here.top, hexec, d3', Value.category]
  exact X₁.ldcStringW hexec (own := own) (text := text) (index := is) (a := sa) hown' hstr'.1 hstr'.2
    (g := { method := m, pc := pc + 4, locals := ls, stack := .ref T.heap.size :: .ref T.heap.size :: rest, locked := none }) rfl d4' _ hsteps
end Ends
section Bodies
variable {l : Launch}
theorem vx_ofW {y : MethodName} {ws ws' : List Cond} {rm : Room} {Pc : Array Value → State → Prop} {Qc : Array Value → State → Outcome → State → Prop} {XC : String → State → State → Prop} {mc ms : Nat} {free : Addr → Prop} {cc : ByteArray} {maxL : Nat} {ret : Option FieldType}
    (hy : plainName y.cls = true) (hw : ws = Cond.code y cc maxL ret :: ws')
    (body : ∀ p e s m args below meth c s₁, BodyLoose p l y (headSpec ws rm) cc maxL ret e s m args below meth c s₁ → c.maxLocals = maxL → (∀ x ∈ c.exceptionTable.toList, False) → Pc args s →
      W p l e (headSpec ws rm).room s m args below meth c s.heap [] 0 0 (vx_MQ below Qc XC args s mc ms free) (entryFrame m args maxL)) : vx_Met l y ws rm Pc Qc XC mc ms free := by
  refine MetFree.of_bodyS (code := cc) (maxLocals := maxL) (ret := ret) hy ?_ ?_
  · intro args s m h hn
    obtain ⟨meth, c, h1, h2, h3, h4, h5, h6, -, -⟩ := Cond.code_spec hn (atoms_spec (ws := ws) h _ (by rw [hw]; exact List.mem_cons_self))
    exact ⟨meth, c, h1, h2, h3, h4, h5, h6⟩
  · intro p e s m args below meth c s₁ B hml hP _
    have hh0 : s₁.heap = s.heap := by rw [B.state]; rfl
    have ht : ∀ x ∈ c.exceptionTable.toList, False := by
      obtain ⟨meth9, c9, h1, h2, -, -, -, -, h7, -⟩ := Cond.code_spec B.named (atoms_spec (ws := ws) B.pre _ (by rw [hw]; exact List.mem_cons_self))
      cases Option.some.inj (h1.symm.trans B.method)
      cases Option.some.inj (h2.symm.trans (Stand.of_body B).code)
      intro x hx
      rw [Array.isEmpty_iff.mp h7] at hx
      cases hx
    obtain ⟨t, a1, o, b1, b2, b3⟩ := body p e s m args below meth c s₁ B hml ht hP s₁ hh0 (Stand.of_body B)
    exact ⟨t, o, a1, b1, b2, b3⟩
/-- the table of a body with handlers -/
theorem vx_table {p : Program} {x y : MethodName} {S : Spec} {cc bytes : ByteArray} {maxL maxL' : Nat} {ret ret' : Option FieldType} {e : Env} {s s₁ : State} {m : MethodId} {args : Array Value} {below : List Frame} {meth : Method} {c : Code} {hh : List (Nat × Nat × Nat × Nat)}
    (B : BodyLoose p l y S cc maxL ret e s m args below meth c s₁) (h : (Cond.codeWith y bytes maxL' ret' hh).before args s = true) : c.exceptionTable.toList = tableOf hh := by
  obtain ⟨m9, meth9, c9, hn9, h1, h2, -, -, h6, -⟩ := Cond.codeWith_spec h
  cases Option.some.inj (hn9.symm.trans B.named)
  cases Option.some.inj (h1.symm.trans B.method)
  cases Option.some.inj (h2.symm.trans (Stand.of_body B).code)
  rw [← h6, table_eq]
end Bodies
end VXA
/-! ===== END ===== -/
/-! ===== BEGIN a static call of a method with an exception table ===== -/
section VXS
variable {p : Program} {l : Launch} {e : Env} {R : Room} {s : State} {m : MethodId} {args : Array Value} {below : List Frame} {meth : Method} {c : Code} {T : State} {H : Heap} {locs : List Loc} {cells slots : Nat}
abbrev vx_CSW (R : Room) (s : State) (args : Array Value) (own : String) (index : Nat) (y : MethodName) (bytes : ByteArray) (maxL : Nat) (ret : Option FieldType) (hh : List (Nat × Nat × Nat × Nat)) (ws : List Cond) (rm : Room) (mc ms n : Nat) : Prop :=
  (rm.cells = mc ∧ rm.slots = ms ∧ rm.frames + 1 ≤ R.frames ∧ 8 + (maxL + 11) + rm.locals ≤ R.locals ∧ (∀ w ∈ ws, ∀ (a' : Array Value) (U : State), s.WarmedH U.vm → w.before a' U = true) ∧ Cond.codeWith y bytes maxL ret hh ∈ ws) ∧
  (Cond.codeWith y bytes maxL ret hh).before args s = true ∧ (Cond.initialized y.cls).before args s = true ∧ (y.cls ≠ "java/lang/invoke/MethodHandle" ∧ y.cls ≠ "java/lang/invoke/VarHandle") ∧
  (∀ sig, parseMethodDescriptor y.desc = some sig → n = sig.parameters.length) ∧ (Cond.methodLink own index y).before args s = true ∧ (Cond.static y).before args s = true
theorem vx_cwSW {own : String} {index maxL mc ms : Nat} {y : MethodName} {bytes : ByteArray} {ret : Option FieldType} {hh : List (Nat × Nat × Nat × Nat)} {Ts ws ws' : List Cond} {rm : Room} (n : Nat) (ht : ∀ w ∈ Ts, w.before args s = true) (hT : GoodIn Ts (va_wsS own index y ws)) (hw : ws = Cond.codeWith y bytes maxL ret hh :: ws') (hrc : rm.cells = mc) (hrs : rm.slots = ms)
    (hd : y.cls ≠ "java/lang/invoke/MethodHandle" ∧ y.cls ≠ "java/lang/invoke/VarHandle" ∧ (parseMethodDescriptor y.desc).map (fun d => d.parameters.length) = some n) (hR : rm.frames + 1 ≤ R.frames ∧ 8 + (maxL + 11) + rm.locals ≤ R.locals) :
    vx_CSW R s args own index y bytes maxL ret hh ws rm mc ms n := by
  have ok : ∀ w ∈ va_wsS own index y ws, w.before args s = true := fun w h => ht w (hT w h).1
  have hG : GoodIn Ts ws := fun w h => hT w (by unfold va_wsS; exact List.mem_append_right _ h)
  have hc : Cond.codeWith y bytes maxL ret hh ∈ ws := by rw [hw]; exact List.mem_cons_self
  refine ⟨⟨hrc, hrs, hR.1, hR.2, pay_in ht hG, hc⟩, ht _ (hG _ hc).1, ok _ (by simp [va_wsS]), ⟨hd.1, hd.2.1⟩, fun sig h => ?_, ok _ (by simp [va_wsS]), ok _ (by simp [va_wsS])⟩
  have h2 := hd.2.2
  rw [h] at h2
  exact (Option.some.inj h2).symm
theorem vx_callSW (X : Stand p l e R s m args below meth c T locs cells slots) (hexec : p.tables.exec = Jvm.exec) {own : String} {index : Nat} {y : MethodName} {bytes : ByteArray} {maxL : Nat} {ret : Option FieldType} {hh : List (Nat × Nat × Nat × Nat)}
    (hown : s.vm.findClass own = some m.cls) (hlink : (Cond.methodLink own index y).before args s = true) (hstat : (Cond.static y).before args s = true) (hinit : (Cond.initialized y.cls).before args s = true)
    (hcode : (Cond.codeWith y bytes maxL ret hh).before args s = true) (hy : y.cls ≠ "java/lang/invoke/MethodHandle" ∧ y.cls ≠ "java/lang/invoke/VarHandle")
    {W9 : Nat} {Pre : Pt → Array Value → Prop} {Post : Pt → Array Value → Option Value → Pt → Prop} (hK : Back l R p e below s args y 3 W9 Pre Post)
    {g : JFrame} (hg : g.method = m) (hsize : g.locals.size = c.maxLocals) {argsL rest : List Value} (hlen : ∀ sig, parseMethodDescriptor y.desc = some sig → argsL.length = sig.parameters.length)
    (hstack : g.stack = argsL.reverse ++ rest) (hW : 2 * g.monitorRoom + (rest.map fun v => v.category).sum ≤ W9) (hdg : decode c.code g.pc = .ok (.invokestatic index, 3))
    (hpre : ∀ vm₁, s.WarmedH vm₁ → Pre ⟨T.setVm vm₁, locs, cells, slots⟩ argsL.toArray) :
    ∃ (v : Option Value) (vm₁ : Vm) (B : Pt), s.WarmedH vm₁ ∧ Stand p l e R s m args below meth c B.U B.locs B.cells B.slots ∧ Post ⟨T.setVm vm₁, locs, cells, slots⟩ argsL.toArray v B ∧
      ∀ target, Steps p.tables e below (B.U.setTop { g with pc := g.pc + 3, stack := v.toList ++ rest }) target → Steps p.tables e below (T.setTop g) target := by
  obtain ⟨mk, methM, cM, hnamed, hmethM, -, -, -, -, -, -, hsigM⟩ := Cond.codeWith_spec hcode
  have hstatic : methM.isStatic = true := Cond.static_spec hnamed hmethM hstat
  obtain ⟨kP, hkP, -⟩ := className_of_methodNamed hnamed
  have hinitP : kP.init = .initialized := Cond.initialized_spec (findClass_of_methodNamed hnamed) hkP hinit
  obtain ⟨vm₁, X₁, hstep₁⟩ := X.invokestatic hexec hown hlink hnamed hmethM hstatic hkP hinitP hy (g := g) hg (argsL := argsL) (rest := rest) (hlen _ hsigM) hstack hdg
  obtain ⟨v, B, X', hpost, hsteps⟩ := hK m meth c ⟨T.setVm vm₁, locs, cells, slots⟩ { g with stack := rest } (.invokestatic index) mk argsL.toArray X₁ hg hsize hdg hW (X₁.named hnamed) (hpre vm₁ X₁.warmed)
  exact ⟨v, vm₁, B, X₁.warmed, X', hpost, fun target h => hstep₁ _ fun acts => by rw [doInvoke_state]; exact hsteps.trans h⟩
theorem vx_runSW {y : MethodName} {bytes cc : ByteArray} {maxL nL mc ms n index : Nat} {ret : Option FieldType} {hh : List (Nat × Nat × Nat × Nat)} {ws : List Cond} {rm : Room} {Pc : Array Value → State → Prop} {Qc : Array Value → State → Outcome → State → Prop} {free : Addr → Prop} {Ts : List Cond} {own : String} {As rest : List Value} {g : JFrame}
    (S : CallFix p m c cc nL s args Ts own) (hM : Met l y ws rm Pc Qc mc ms free) (cw : vx_CSW R s args own index y bytes maxL ret hh ws rm mc ms n) (hp : PreS s H Pc As)
    (hg : g.method = m) (hn : As.length = n) (hsize : g.locals.size = nL) (hstack : g.stack = As.reverse ++ rest) (hW : 2 * g.monitorRoom + (rest.map fun v => v.category).sum ≤ 8) (hdg : decode cc g.pc = .ok (.invokestatic index, 3)) (hf : cells + mc ≤ R.cells ∧ slots + ms ≤ R.slots) :
    va_Run p l e R s m args below meth c H locs cells slots mc ms g rest (Qc As.toArray) (free) := by
  obtain ⟨⟨hrc, hrs, hfr, hlo, hws, hcw⟩, hcode, hini, hy, hlen, hl, hstt⟩ := cw
  have hK : Back l R p e below s args y 3 8 (PreOf R mc ms Pc) (PostOf Qc mc ms free) := va_backW (hh := hh) (bytes := bytes) (maxL := maxL) (ret := ret) hM hp.1 hrc hrs hfr hlo hws hcw (fun a' U hW => word_at hW (Or.inl (by first | rfl | simp [Cond.onTables, Cond.keeps, Cond.steady])) hini)
  obtain ⟨hx, hb, hml, ho, -⟩ := S
  intro T hT X
  obtain ⟨v, vm₁, ⟨U', l2, c2, s2⟩, hW₁, X', ⟨g', mk, t, L, e1, e2, hq, h1, hL, h2, h3⟩, st⟩ := vx_callSW X hx (hh := hh) (bytes := bytes) (maxL := maxL) (ret := ret) ho hl hstt hini hcode hy hK hg (hsize.trans hml.symm) (argsL := As) (rest := rest) (fun sig h => hn.trans (hlen sig h)) hstack hW (by rw [hb]; exact hdg)
    (fun vm₁ hW₁ => ⟨hf.1, hf.2, hp.2 (T.setVm vm₁) hT hW₁⟩)
  dsimp only [Pt.U, Pt.locs, Pt.cells, Pt.slots] at X' e1 e2 h1 h2 h3 st
  subst h1; subst h2; subst h3
  exact ⟨v, (T.setVm vm₁).calling g' mk As.toArray, t, U', L, hT, X', hL, e1, e2, hq, st⟩
/-- not caught here, past rows that name other classes: it goes on to the caller -/
theorem vx_outP {p : Program} {l : Launch} {e : Env} {R : Room} {s : State} {m : MethodId} {args : Array Value} {below : List Frame} {meth : Method} {c : Code} {H : Heap} {locs : List Loc} {cells slots : Nat} {free : Addr → Prop} {ls : Array Slot} {rest : List Value} {Qc : Array Value → State → Outcome → State → Prop} {XC : String → State → State → Prop}
    {pc : Nat} {own E : String} {ce : Cell} {q : Addr} {mc ms : Nat} (hown : s.vm.findClass own = some m.cls) (hlocks : meth.locks = false)
    (hpass : ∀ z ∈ c.exceptionTable.toList, covers z pc = false ∨ (z.catchType ≠ 0 ∧ ∃ nm : String, (Cond.classLink own z.catchType nm).before args s = true ∧ va_Nc E nm s)) (hcell : H[q]? = some ce) (hv : ce.vm = .none) (hcl : s.vm.findClass E = some ce.cls)
    (hx : ∀ t : State, t.heap = H → s.vm.Alike t.vm → XC E s t) (hf : ∀ z ∈ locs, free z.base) (hc : cells ≤ mc) (hs : slots ≤ ms) :
    vx_W p l e R s m args below meth c H locs cells slots (vx_MQ below Qc XC args s mc ms free) (F0 m pc ls rest) q := by
  intro T hT X
  have hpl : e.platform.magicAccessors = ({} : Platform).magicAccessors := by rw [X.admits.platform]
  obtain ⟨vm', hW', X', st⟩ := X.outThrough hlocks q (g := F0 m pc ls rest) rfl rfl rfl (cell := ce) (by rw [hT]; exact hcell) (by rw [hv]; rfl)
    (by obtain ⟨k9, h9, -⟩ := Vm.findClass_spec hcl; exact ⟨k9, h9⟩) (fun z hz => by
      rcases hpass z hz with h | ⟨hz0, nm, hl1, hn1⟩
      · exact Or.inl h
      · obtain ⟨c6, hc6, hcl6⟩ := Cond.classLink_spec hown hl1 e.platform hpl
        obtain ⟨a8, b8, h1, h2, h3⟩ := hn1
        cases Option.some.inj (h1.symm.trans hcl)
        cases Option.some.inj (h2.symm.trans hc6)
        exact Or.inr ⟨hz0, _, hcl6, h3⟩)
  obtain ⟨g₀, hfr⟩ := X'.frames_eq
  have hcell9 : ((T.setVm vm').setFrames (.throwing q :: below)).heap[q]? = some ce := by
    show T.heap[q]? = some ce
    rw [hT]; exact hcell
  have hend : Ended ((T.setVm vm').setFrames (.throwing q :: below)) below (.threw q) := State.frames_setFrames _ (State.cur_lt_of_frames hfr)
  refine ⟨(T.setVm vm').setFrames (.throwing q :: below), ?_, .threw q, X'.here.running, hend, Or.inr ⟨q, rfl, E, ce, locs, hx _ hT (X'.ends _).1.alike, hcell9, hv, hcl, (X'.ends _).1, (X'.ends _).2.mono hc hs, hf⟩⟩
  rw [X.pushThrowing_eq]
  exact st
/-- a thing of a world lies in the heap -/
theorem vx_lt {D : va_G} {cl : List vw_C} {ws : va_W} {H1 : Heap} (h : va_P D cl ws H1) {k : Nat} {q : Nat × va_E} (hk : ws[k]? = some q) : q.1 < H1.size := (h k q hk).lt
end VXS
/-! ===== END ===== -/
/-! ===== BEGIN methods with a table of their own: called by a name, returning or throwing ===== -/
section VXH
/-! vx_backW, vx_callVX, vx_callSX, vx_callVW, vx_runVW, vx_runVX, vx_runSX, vx_ofWH follow the same proofs as their sisters above (Free/Laws.lean, Shelf42/LK1.lean); vx_outP calls Shelf42/NT130.lean (outThrough). -/
section
variable {l : Launch} {R : Room} {p : Program} {e : Env} {below : List Frame} {s : State} {sargs : Array Value} {y : MethodName} {len W9 : Nat}
theorem vx_backW {ws : List Cond} {rm : Room} {Pc : Array Value → State → Prop} {Qc : Array Value → State → Outcome → State → Prop} {XC : String → State → State → Prop} {mc ms : Nat} {free : Addr → Prop} {bytes : ByteArray} {maxL : Nat} {ret : Option FieldType} {hh : List (Nat × Nat × Nat × Nat)}
    (hM : vx_Met l y ws rm Pc Qc XC mc ms free) (hblind : FrameBlind Pc) (hrc : rm.cells = mc) (hrs : rm.slots = ms)
    (hframes : rm.frames + 1 ≤ R.frames) (hlocals : W9 + (maxL + 11) + rm.locals ≤ R.locals)
    (hws : ∀ w ∈ ws, ∀ a' U, s.WarmedH U.vm → w.before a' U = true) (hcode : Cond.codeWith y bytes maxL ret hh ∈ ws) (hinit : ∀ a' U, s.WarmedH U.vm → (Cond.initialized y.cls).before a' U = true) :
    vx_Back l R p e below s sargs y len W9 (PreOf R mc ms Pc) (PostOf Qc mc ms free) (vx_Post XC mc ms free) := by
  intro m meth c A g ig mk a X hg hsize hdg hW hn hp
  have h1 : (headSpec ws rm).pre.before a A.U = true := atoms_intro fun w hw => hws w hw _ _ X.warmed
  have h2 : (Cond.codeWith y bytes maxL ret hh).before a A.U = true := hws _ hcode _ _ X.warmed
  have h3 : (Cond.initialized y.cls).before a A.U = true := hinit _ _ X.warmed
  have h4 : A.cells + (headSpec ws rm).room.cells ≤ R.cells := by rw [show (headSpec ws rm).room.cells = mc from hrc]; exact hp.1
  have h5 : A.slots + (headSpec ws rm).room.slots ≤ R.slots := by rw [show (headSpec ws rm).room.slots = ms from hrs]; exact hp.2.1
  have hPc : Pc a (A.U.calling g mk a) := hblind _ _ _ _ hp.2.2
  obtain ⟨U, Ls, c0, s0⟩ := A
  dsimp only [Pt.U, Pt.locs, Pt.cells, Pt.slots] at h1 h2 h3 h4 h5 X hn hPc ⊢
  obtain ⟨m9, methY, cY, hn9, hmY, hcY, -, hlY, -⟩ := Cond.codeWith_spec h2
  cases Option.some.inj (hn9.symm.trans hn)
  obtain ⟨kY, hkY, -⟩ := className_of_methodNamed hn
  have hinitY : kY.init = .initialized := Cond.initialized_spec (findClass_of_methodNamed hn) hkY h3
  have h : At U g.method c below := by rw [hg]; exact X.here
  have hlocals9 : W9 + (maxL + 11) + (headSpec ws rm).room.locals ≤ R.locals := hlocals
  have happ : (headSpec ws rm).appliesLoose y e.platform (U.calling g mk a) = true :=
    Spec.appliesLoose_calling (g := g) h hdg hn hkY hinitY
      (X.room_calling (g := g) (R' := (headSpec ws rm).room) hsize hmY hcY hframes (by rw [hlY]; omega) h4 h5) h1
  obtain ⟨mid, hmid⟩ := h.above
  have hfr : (U.setTop g).frames = (.java g :: mid) ++ below := by rw [State.frames_setTop' g h.top, hmid]; rfl
  obtain ⟨o, s₂, hsteps, -, hend, hq⟩ := Steps.callFree hM p X.admits X.cas X.clock (acts := []) hfr happ hPc trivial
  have hq' : vx_Q Qc XC mc ms free a (U.calling g mk a) o s₂ := hq
  rw [State.frames_setTop' g h.top] at hend
  obtain ⟨g₀, hg0⟩ := Option.isSome_iff_exists.mp h.top
  obtain ⟨r, hr⟩ := State.topJava?_eq_some.mp hg0
  have hr' : (({ U with heap := s₂.heap, slotsUsed := s₂.slotsUsed } : State).setVm s₂.vm).frames = .java g₀ :: r := hr
  rcases hq' with ⟨hqc, L, hfe, hL⟩ | ⟨q, rfl, E, ce, L, hx, hce, hcv, hcl, hW₂, hsm, hL⟩
  · obtain ⟨⟨v, rfl⟩, hW₂, e2, q2, q3, q4, q5, q6⟩ := id hfe
    have e3 : s₂ = ({ (U.calling g mk a).setFrames s₂.frames with heap := s₂.heap, slotsUsed := s₂.slotsUsed } : State).setVm s₂.vm := by
      have : s₂ = ({ s₂ with vm := (U.calling g mk a).vm } : State).setVm s₂.vm := rfl
      rw [e2] at this
      exact this
    obtain ⟨c₂, i₂, len₂, hc₂, hd₂, hf₂⟩ := hend
    have hW' : U.WarmedH s₂.vm := hW₂
    have hcc : c₂ = c := by
      have h1 : s₂.code? g.method = U.code? g.method := by
        rw [State.code?_eq, State.code?_eq, hW'.alike.method?]
      exact Option.some.inj (hc₂.symm.trans (h1.trans h.code))
    subst hcc
    have hlen : len₂ = len := by rw [hdg] at hd₂; cases hd₂; rfl
    subst hlen
    have hs₂ : s₂ = (({ U with heap := s₂.heap, slotsUsed := s₂.slotsUsed } : State).setVm s₂.vm).setTop { g with pc := g.pc + len₂, stack := v.toList ++ g.stack } := by
      refine e3.trans ?_
      rw [hf₂, State.calling_eq h.top, State.setFrames_setFrames, State.setTop_of_frames _ hr', hr]
      rfl
    have hsame : U.sameButNew ({ U with heap := s₂.heap, slotsUsed := s₂.slotsUsed } : State) L mc ms := by
      refine ⟨?_, q2, q3, q4, q5, q6⟩
      obtain ⟨t, ht, -⟩ := State.frames_cons hr
      show ({ U with heap := s₂.heap, slotsUsed := s₂.slotsUsed } : State) = { U.setFrames U.frames with heap := s₂.heap, slotsUsed := s₂.slotsUsed }
      rw [State.setFrames_self ht]
    subst hg
    refine Or.inl ⟨v, ⟨(({ U with heap := s₂.heap, slotsUsed := s₂.slotsUsed } : State).setVm s₂.vm), Ls ++ L, c0 + mc, s0 + ms⟩,
      ⟨X.admits, X.cas, X.clock, X.frames, X.room, X.hears, X.method, X.code, (X.here.setHeapUsed s₂.heap s₂.slotsUsed).setVm hW'.alike, X.tail, State.WarmedH.trans X.warmed hW', X.limits, X.bytes, X.same.trans (hsame.setVm s.vm)⟩,
      ⟨g, mk, s₂, L, rfl, rfl, hqc, rfl, hL, rfl, rfl⟩, ?_⟩
    show Steps p.tables e below _ ((({ U with heap := s₂.heap, slotsUsed := s₂.slotsUsed } : State).setVm s₂.vm).setTop { g with pc := g.pc + len₂, stack := v.toList ++ g.stack })
    rw [← hs₂]
    exact hsteps
  · obtain ⟨e2, q2, q3, q4, q5, q6⟩ := id hsm
    have e3 : s₂ = ({ (U.calling g mk a).setFrames s₂.frames with heap := s₂.heap, slotsUsed := s₂.slotsUsed } : State).setVm s₂.vm := by
      have : s₂ = ({ s₂ with vm := (U.calling g mk a).vm } : State).setVm s₂.vm := rfl
      rw [e2] at this
      exact this
    have hf₂ : s₂.frames = .throwing q :: .java g :: U.frames.tail := hend
    have hW' : U.WarmedH s₂.vm := hW₂
    have hs₂ : s₂ = ((({ U with heap := s₂.heap, slotsUsed := s₂.slotsUsed } : State).setVm s₂.vm).setTop g).pushFrame (.throwing q) := by
      refine e3.trans ?_
      rw [hf₂, State.calling_eq h.top, State.setFrames_setFrames, State.pushFrame, State.frames_setTop _ hr', State.setTop_of_frames _ hr', State.setFrames_setFrames, hr]
      rfl
    have hsame : U.sameButNew ({ U with heap := s₂.heap, slotsUsed := s₂.slotsUsed } : State) L mc ms := by
      refine ⟨?_, q2, q3, q4, q5, q6⟩
      obtain ⟨t, ht, -⟩ := State.frames_cons hr
      show ({ U with heap := s₂.heap, slotsUsed := s₂.slotsUsed } : State) = { U.setFrames U.frames with heap := s₂.heap, slotsUsed := s₂.slotsUsed }
      rw [State.setFrames_self ht]
    subst hg
    refine Or.inr ⟨q, ⟨(({ U with heap := s₂.heap, slotsUsed := s₂.slotsUsed } : State).setVm s₂.vm), Ls ++ L, c0 + mc, s0 + ms⟩,
      ⟨X.admits, X.cas, X.clock, X.frames, X.room, X.hears, X.method, X.code, (X.here.setHeapUsed s₂.heap s₂.slotsUsed).setVm hW'.alike, X.tail, State.WarmedH.trans X.warmed hW', X.limits, X.bytes, X.same.trans (hsame.setVm s.vm)⟩,
      ⟨g, mk, s₂, L, E, ce, rfl, rfl, hx, hce, hcv, hcl, rfl, hL, rfl, rfl⟩, ?_⟩
    show Steps p.tables e below _ (((({ U with heap := s₂.heap, slotsUsed := s₂.slotsUsed } : State).setVm s₂.vm).setTop g).pushFrame (.throwing q))
    rw [← hs₂]
    exact hsteps
end
variable {p : Program} {l : Launch} {e : Env} {R : Room} {s : State} {m : MethodId} {args : Array Value} {below : List Frame} {meth : Method} {c : Code} {T : State} {H : Heap} {locs : List Loc} {cells slots : Nat}
theorem vx_callVX (X : Stand p l e R s m args below meth c T locs cells slots) (hexec : p.tables.exec = Jvm.exec) {own C : String} {index : Nat} {y : MethodName} {bytes : ByteArray} {maxL : Nat} {ret : Option FieldType} {hh : List (Nat × Nat × Nat × Nat)}
    (hown : s.vm.findClass own = some m.cls) (hlink : (Cond.methodLink own index y).before args s = true) (hinst : (Cond.instanceMethod y).before args s = true) (hsel : (Cond.selects C y y).before args s = true)
    (hcode : (Cond.codeWith y bytes maxL ret hh).before args s = true) (hy : y.cls ≠ "java/lang/invoke/MethodHandle" ∧ y.cls ≠ "java/lang/invoke/VarHandle")
    {W9 : Nat} {Pre : Pt → Array Value → Prop} {Post : Pt → Array Value → Option Value → Pt → Prop} {PostX : Pt → Array Value → Addr → Pt → Prop} (hK : vx_Back l R p e below s args y 3 W9 Pre Post PostX)
    {b : Addr} {cellB : Cell} (hcell : T.heap[b]? = some cellB) (hobj : cellB.vm.isStatics = false) (hcls : s.vm.findClass C = some cellB.cls)
    {g : JFrame} (hg : g.method = m) (hsize : g.locals.size = c.maxLocals) {argsL rest : List Value} (hlen : ∀ sig, parseMethodDescriptor y.desc = some sig → argsL.length = sig.parameters.length)
    (hstack : g.stack = argsL.reverse ++ .ref b :: rest) (hW : 2 * g.monitorRoom + (rest.map fun v => v.category).sum ≤ W9) (hdg : decode c.code g.pc = .ok (.invokevirtual index, 3))
    (hpre : ∀ vm₁, s.WarmedH vm₁ → Pre ⟨T.setVm vm₁, locs, cells, slots⟩ (Value.ref b :: argsL).toArray) :
    (∃ (v : Option Value) (vm₁ : Vm) (B : Pt), s.WarmedH vm₁ ∧ Stand p l e R s m args below meth c B.U B.locs B.cells B.slots ∧ Post ⟨T.setVm vm₁, locs, cells, slots⟩ (Value.ref b :: argsL).toArray v B ∧
      ∀ target, Steps p.tables e below (B.U.setTop { g with pc := g.pc + 3, stack := v.toList ++ rest }) target → Steps p.tables e below (T.setTop g) target) ∨
    (∃ (q : Addr) (vm₁ : Vm) (B : Pt), s.WarmedH vm₁ ∧ Stand p l e R s m args below meth c B.U B.locs B.cells B.slots ∧ PostX ⟨T.setVm vm₁, locs, cells, slots⟩ (Value.ref b :: argsL).toArray q B ∧
      Steps p.tables e below (T.setTop g) ((B.U.setTop { g with stack := rest }).pushFrame (.throwing q))) := by
  obtain ⟨mk, methM, hnamed, hmethM, hstM, habM⟩ := Cond.instanceMethod_spec hinst
  obtain ⟨m8, methM', cM, hn8, hmethM', -, -, -, -, -, -, hsigM⟩ := Cond.codeWith_spec hcode
  cases Option.some.inj (hn8.symm.trans hnamed)
  cases hmethM.symm.trans hmethM'
  obtain ⟨c2, r2, m2, q1, q2, q3, q4, kP, hkP, hkPi⟩ := Cond.selects_spec hsel
  cases hcls.symm.trans q1
  cases (State.methodFound?_of_named hnamed hy).symm.trans q2
  cases hnamed.symm.trans q3
  have hselP : selectMethod e.platform s.vm cellB.cls mk = .method mk := by rw [Launch.admits_selectMethod X.admits]; exact q4
  obtain ⟨vm₁, X₁, hstep₁⟩ := X.invokevirtual hexec hown hlink hnamed hmethM hstM hkP hkPi hy (a := b) (cell := cellB) hcell
    (fun z h => by rw [h] at hobj; cases hobj) hselP hmethM habM hkP hkPi (g := g) hg (argsL := argsL) (rest := rest) (hlen _ hsigM) hstack hdg
  rcases hK m meth c ⟨T.setVm vm₁, locs, cells, slots⟩ { g with stack := rest } (.invokevirtual index) mk (Value.ref b :: argsL).toArray X₁ hg hsize hdg hW (X₁.named hnamed) (hpre vm₁ X₁.warmed) with ⟨v, B, X', hpost, hsteps⟩ | ⟨q, B, X', hpost, hsteps⟩
  · exact Or.inl ⟨v, vm₁, B, X₁.warmed, X', hpost, fun target h => hstep₁ _ fun acts => by rw [doInvoke_state]; exact hsteps.trans h⟩
  · exact Or.inr ⟨q, vm₁, B, X₁.warmed, X', hpost, hstep₁ _ fun acts => by rw [doInvoke_state]; exact hsteps⟩
theorem vx_callSX (X : Stand p l e R s m args below meth c T locs cells slots) (hexec : p.tables.exec = Jvm.exec) {own : String} {index : Nat} {y : MethodName} {bytes : ByteArray} {maxL : Nat} {ret : Option FieldType} {hh : List (Nat × Nat × Nat × Nat)}
    (hown : s.vm.findClass own = some m.cls) (hlink : (Cond.methodLink own index y).before args s = true) (hstat : (Cond.static y).before args s = true) (hinit : (Cond.initialized y.cls).before args s = true)
    (hcode : (Cond.codeWith y bytes maxL ret hh).before args s = true) (hy : y.cls ≠ "java/lang/invoke/MethodHandle" ∧ y.cls ≠ "java/lang/invoke/VarHandle")
    {W9 : Nat} {Pre : Pt → Array Value → Prop} {Post : Pt → Array Value → Option Value → Pt → Prop} {PostX : Pt → Array Value → Addr → Pt → Prop} (hK : vx_Back l R p e below s args y 3 W9 Pre Post PostX)
    {g : JFrame} (hg : g.method = m) (hsize : g.locals.size = c.maxLocals) {argsL rest : List Value} (hlen : ∀ sig, parseMethodDescriptor y.desc = some sig → argsL.length = sig.parameters.length)
    (hstack : g.stack = argsL.reverse ++ rest) (hW : 2 * g.monitorRoom + (rest.map fun v => v.category).sum ≤ W9) (hdg : decode c.code g.pc = .ok (.invokestatic index, 3))
    (hpre : ∀ vm₁, s.WarmedH vm₁ → Pre ⟨T.setVm vm₁, locs, cells, slots⟩ argsL.toArray) :
    (∃ (v : Option Value) (vm₁ : Vm) (B : Pt), s.WarmedH vm₁ ∧ Stand p l e R s m args below meth c B.U B.locs B.cells B.slots ∧ Post ⟨T.setVm vm₁, locs, cells, slots⟩ argsL.toArray v B ∧
      ∀ target, Steps p.tables e below (B.U.setTop { g with pc := g.pc + 3, stack := v.toList ++ rest }) target → Steps p.tables e below (T.setTop g) target) ∨
    (∃ (q : Addr) (vm₁ : Vm) (B : Pt), s.WarmedH vm₁ ∧ Stand p l e R s m args below meth c B.U B.locs B.cells B.slots ∧ PostX ⟨T.setVm vm₁, locs, cells, slots⟩ argsL.toArray q B ∧
      Steps p.tables e below (T.setTop g) ((B.U.setTop { g with stack := rest }).pushFrame (.throwing q))) := by
  obtain ⟨mk, methM, cM, hnamed, hmethM, -, -, -, -, -, -, hsigM⟩ := Cond.codeWith_spec hcode
  have hstatic : methM.isStatic = true := Cond.static_spec hnamed hmethM hstat
  obtain ⟨kP, hkP, -⟩ := className_of_methodNamed hnamed
  have hinitP : kP.init = .initialized := Cond.initialized_spec (findClass_of_methodNamed hnamed) hkP hinit
  obtain ⟨vm₁, X₁, hstep₁⟩ := X.invokestatic hexec hown hlink hnamed hmethM hstatic hkP hinitP hy (g := g) hg (argsL := argsL) (rest := rest) (hlen _ hsigM) hstack hdg
  rcases hK m meth c ⟨T.setVm vm₁, locs, cells, slots⟩ { g with stack := rest } (.invokestatic index) mk argsL.toArray X₁ hg hsize hdg hW (X₁.named hnamed) (hpre vm₁ X₁.warmed) with ⟨v, B, X', hpost, hsteps⟩ | ⟨q, B, X', hpost, hsteps⟩
  · exact Or.inl ⟨v, vm₁, B, X₁.warmed, X', hpost, fun target h => hstep₁ _ fun acts => by rw [doInvoke_state]; exact hsteps.trans h⟩
  · exact Or.inr ⟨q, vm₁, B, X₁.warmed, X', hpost, hstep₁ _ fun acts => by rw [doInvoke_state]; exact hsteps⟩
theorem vx_callVW (X : Stand p l e R s m args below meth c T locs cells slots) (hexec : p.tables.exec = Jvm.exec) {own C : String} {index : Nat} {y : MethodName} {bytes : ByteArray} {maxL : Nat} {ret : Option FieldType} {hh : List (Nat × Nat × Nat × Nat)}
    (hown : s.vm.findClass own = some m.cls) (hlink : (Cond.methodLink own index y).before args s = true) (hinst : (Cond.instanceMethod y).before args s = true) (hsel : (Cond.selects C y y).before args s = true)
    (hcode : (Cond.codeWith y bytes maxL ret hh).before args s = true) (hy : y.cls ≠ "java/lang/invoke/MethodHandle" ∧ y.cls ≠ "java/lang/invoke/VarHandle")
    {W9 : Nat} {Pre : Pt → Array Value → Prop} {Post : Pt → Array Value → Option Value → Pt → Prop} (hK : Back l R p e below s args y 3 W9 Pre Post)
    {b : Addr} {cellB : Cell} (hcell : T.heap[b]? = some cellB) (hobj : cellB.vm.isStatics = false) (hcls : s.vm.findClass C = some cellB.cls)
    {g : JFrame} (hg : g.method = m) (hsize : g.locals.size = c.maxLocals) {argsL rest : List Value} (hlen : ∀ sig, parseMethodDescriptor y.desc = some sig → argsL.length = sig.parameters.length)
    (hstack : g.stack = argsL.reverse ++ .ref b :: rest) (hW : 2 * g.monitorRoom + (rest.map fun v => v.category).sum ≤ W9) (hdg : decode c.code g.pc = .ok (.invokevirtual index, 3))
    (hpre : ∀ vm₁, s.WarmedH vm₁ → Pre ⟨T.setVm vm₁, locs, cells, slots⟩ (Value.ref b :: argsL).toArray) :
    ∃ (v : Option Value) (vm₁ : Vm) (B : Pt), s.WarmedH vm₁ ∧ Stand p l e R s m args below meth c B.U B.locs B.cells B.slots ∧ Post ⟨T.setVm vm₁, locs, cells, slots⟩ (Value.ref b :: argsL).toArray v B ∧
      ∀ target, Steps p.tables e below (B.U.setTop { g with pc := g.pc + 3, stack := v.toList ++ rest }) target → Steps p.tables e below (T.setTop g) target := by
  obtain ⟨mk, methM, hnamed, hmethM, hstM, habM⟩ := Cond.instanceMethod_spec hinst
  obtain ⟨m8, methM', cM, hn8, hmethM', -, -, -, -, -, -, hsigM⟩ := Cond.codeWith_spec hcode
  cases Option.some.inj (hn8.symm.trans hnamed)
  cases hmethM.symm.trans hmethM'
  obtain ⟨c2, r2, m2, q1, q2, q3, q4, kP, hkP, hkPi⟩ := Cond.selects_spec hsel
  cases hcls.symm.trans q1
  cases (State.methodFound?_of_named hnamed hy).symm.trans q2
  cases hnamed.symm.trans q3
  have hselP : selectMethod e.platform s.vm cellB.cls mk = .method mk := by rw [Launch.admits_selectMethod X.admits]; exact q4
  obtain ⟨vm₁, X₁, hstep₁⟩ := X.invokevirtual hexec hown hlink hnamed hmethM hstM hkP hkPi hy (a := b) (cell := cellB) hcell
    (fun z h => by rw [h] at hobj; cases hobj) hselP hmethM habM hkP hkPi (g := g) hg (argsL := argsL) (rest := rest) (hlen _ hsigM) hstack hdg
  obtain ⟨v, B, X', hpost, hsteps⟩ := hK m meth c ⟨T.setVm vm₁, locs, cells, slots⟩ { g with stack := rest } (.invokevirtual index) mk (Value.ref b :: argsL).toArray X₁ hg hsize hdg hW (X₁.named hnamed) (hpre vm₁ X₁.warmed)
  exact ⟨v, vm₁, B, X₁.warmed, X', hpost, fun target h => hstep₁ _ fun acts => by rw [doInvoke_state]; exact hsteps.trans h⟩
abbrev vx_CVW (R : Room) (s : State) (args : Array Value) (own C : String) (index : Nat) (y : MethodName) (bytes : ByteArray) (maxL : Nat) (ret : Option FieldType) (hh : List (Nat × Nat × Nat × Nat)) (ws : List Cond) (rm : Room) (mc ms n : Nat) : Prop :=
  (rm.cells = mc ∧ rm.slots = ms ∧ rm.frames + 1 ≤ R.frames ∧ 8 + (maxL + 11) + rm.locals ≤ R.locals ∧ (∀ w ∈ ws, ∀ (a' : Array Value) (U : State), s.WarmedH U.vm → w.before a' U = true) ∧ Cond.codeWith y bytes maxL ret hh ∈ ws) ∧
  (Cond.codeWith y bytes maxL ret hh).before args s = true ∧ (Cond.initialized y.cls).before args s = true ∧ (y.cls ≠ "java/lang/invoke/MethodHandle" ∧ y.cls ≠ "java/lang/invoke/VarHandle") ∧
  (∀ sig, parseMethodDescriptor y.desc = some sig → n = sig.parameters.length) ∧ (Cond.methodLink own index y).before args s = true ∧ (Cond.instanceMethod y).before args s = true ∧ (Cond.selects C y y).before args s = true
theorem vx_cwVW {own C : String} {index maxL mc ms : Nat} {y : MethodName} {bytes : ByteArray} {ret : Option FieldType} {hh : List (Nat × Nat × Nat × Nat)} {Ts ws ws' : List Cond} {rm : Room} (n : Nat) (ht : ∀ w ∈ Ts, w.before args s = true) (hT : GoodIn Ts (wsV own index C y ws)) (hw : ws = Cond.codeWith y bytes maxL ret hh :: ws') (hrc : rm.cells = mc) (hrs : rm.slots = ms)
    (hd : y.cls = C ∧ y.cls ≠ "java/lang/invoke/MethodHandle" ∧ y.cls ≠ "java/lang/invoke/VarHandle" ∧ (parseMethodDescriptor y.desc).map (fun d => d.parameters.length) = some n) (hR : rm.frames + 1 ≤ R.frames ∧ 8 + (maxL + 11) + rm.locals ≤ R.locals) :
    vx_CVW R s args own C index y bytes maxL ret hh ws rm mc ms n := by
  obtain ⟨hC, hd⟩ := hd
  subst hC
  have ok : ∀ w ∈ wsV own index y.cls y ws, w.before args s = true := fun w h => ht w (hT w h).1
  have hG : GoodIn Ts ws := fun w h => hT w (by unfold wsV; exact List.mem_append_right _ h)
  have hc : Cond.codeWith y bytes maxL ret hh ∈ ws := by rw [hw]; exact List.mem_cons_self
  refine ⟨⟨hrc, hrs, hR.1, hR.2, pay_in ht hG, hc⟩, ht _ (hG _ hc).1, ok _ (by simp [wsV]), ⟨hd.1, hd.2.1⟩, fun sig h => ?_, ok _ (by simp [wsV]), ok _ (by simp [wsV]), ok _ (by simp [wsV])⟩
  have h2 := hd.2.2
  rw [h] at h2
  exact (Option.some.inj h2).symm
theorem vx_runVW {y : MethodName} {bytes cc : ByteArray} {maxL nL mc ms n index : Nat} {ret : Option FieldType} {hh : List (Nat × Nat × Nat × Nat)} {ws : List Cond} {rm : Room} {Pc : Array Value → State → Prop} {Qc : Array Value → State → Outcome → State → Prop} {free : Addr → Prop} {Ts : List Cond} {own C : String} {b : Addr} {As rest : List Value} {g : JFrame}
    (S : CallFix p m c cc nL s args Ts own) (hM : Met l y ws rm Pc Qc mc ms free) (cw : vx_CVW R s args own C index y bytes maxL ret hh ws rm mc ms n) (hp : PreV s H C b Pc As)
    (hg : g.method = m) (hn : As.length = n) (hsize : g.locals.size = nL) (hstack : g.stack = As.reverse ++ .ref b :: rest) (hW : 2 * g.monitorRoom + (rest.map fun v => v.category).sum ≤ 8) (hdg : decode cc g.pc = .ok (.invokevirtual index, 3)) (hf : cells + mc ≤ R.cells ∧ slots + ms ≤ R.slots) :
    va_Run p l e R s m args below meth c H locs cells slots mc ms g rest (Qc (Value.ref b :: As).toArray) free := by
  obtain ⟨⟨hrc, hrs, hfr, hlo, hws, hcw⟩, hcode, hini, hy, hlen, hl, hin, hse⟩ := cw
  have hK : Back l R p e below s args y 3 8 (PreOf R mc ms Pc) (PostOf Qc mc ms free) := va_backW (hh := hh) (bytes := bytes) (maxL := maxL) (ret := ret) hM hp.1 hrc hrs hfr hlo hws hcw (fun a' U hW => word_at hW (Or.inl (by first | rfl | simp [Cond.onTables, Cond.keeps, Cond.steady])) hini)
  obtain ⟨hx, hb, hml, ho, -⟩ := S
  obtain ⟨-, ⟨cellB, hcB, hoB, hclB⟩, hPc⟩ := hp
  intro T hT X
  obtain ⟨v, vm₁, ⟨U', l2, c2, s2⟩, hW₁, X', ⟨g', mk, t, L, e1, e2, hq, h1, hL, h2, h3⟩, st⟩ := vx_callVW X hx (C := C) (hh := hh) (bytes := bytes) (maxL := maxL) (ret := ret) ho hl hin hse hcode hy hK (by rw [hT]; exact hcB) hoB hclB hg (hsize.trans hml.symm) (argsL := As) (rest := rest) (fun sig h => hn.trans (hlen sig h)) hstack hW (by rw [hb]; exact hdg)
    (fun vm₁ hW₁ => ⟨hf.1, hf.2, hPc (T.setVm vm₁) hT hW₁⟩)
  dsimp only [Pt.U, Pt.locs, Pt.cells, Pt.slots] at X' e1 e2 h1 h2 h3 st
  subst h1; subst h2; subst h3
  exact ⟨v, (T.setVm vm₁).calling g' mk (Value.ref b :: As).toArray, t, U', L, hT, X', hL, e1, e2, hq, st⟩
section
variable {y : MethodName} {bytes cc : ByteArray} {maxL nL mc ms n index : Nat} {ret : Option FieldType} {ws : List Cond} {rm : Room} {Pc : Array Value → State → Prop} {Qc : Array Value → State → Outcome → State → Prop} {XC : String → State → State → Prop} {free : Addr → Prop} {Ts : List Cond} {own C : String} {b : Addr} {As rest : List Value} {g : JFrame}
theorem vx_runVX {hh : List (Nat × Nat × Nat × Nat)} (S : CallFix p m c cc nL s args Ts own) (hM : vx_Met l y ws rm Pc Qc XC mc ms free) (cw : vx_CVW R s args own C index y bytes maxL ret hh ws rm mc ms n) (hp : PreV s H C b Pc As)
    (hg : g.method = m) (hn : As.length = n) (hsize : g.locals.size = nL) (hstack : g.stack = As.reverse ++ .ref b :: rest) (hW : 2 * g.monitorRoom + (rest.map fun v => v.category).sum ≤ 8) (hdg : decode cc g.pc = .ok (.invokevirtual index, 3)) (hf : cells + mc ≤ R.cells ∧ slots + ms ≤ R.slots) :
    vx_Run p l e R s m args below meth c H locs cells slots mc ms g rest (Qc (Value.ref b :: As).toArray) XC free := by
  obtain ⟨⟨hrc, hrs, hfr, hlo, hws, hcw⟩, hcode, hini, hy, hlen, hl, hin, hse⟩ := cw
  have hK : vx_Back l R p e below s args y 3 8 (PreOf R mc ms Pc) (PostOf Qc mc ms free) (vx_Post XC mc ms free) := vx_backW (hh := hh) (bytes := bytes) (maxL := maxL) (ret := ret) hM hp.1 hrc hrs hfr hlo hws hcw (fun a' U hW => word_at hW (Or.inl (by first | rfl | simp [Cond.onTables, Cond.keeps, Cond.steady])) hini)
  obtain ⟨hx, hb, hml, ho, -⟩ := S
  obtain ⟨-, ⟨cellB, hcB, hoB, hclB⟩, hPc⟩ := hp
  intro T hT X
  rcases vx_callVX X hx (C := C) (hh := hh) (bytes := bytes) (maxL := maxL) (ret := ret) ho hl hin hse hcode hy hK (by rw [hT]; exact hcB) hoB hclB hg (hsize.trans hml.symm) (argsL := As) (rest := rest) (fun sig h => hn.trans (hlen sig h)) hstack hW (by rw [hb]; exact hdg)
    (fun vm₁ hW₁ => ⟨hf.1, hf.2, hPc (T.setVm vm₁) hT hW₁⟩) with ⟨v, vm₁, ⟨U', l2, c2, s2⟩, hW₁, X', ⟨g', mk, t, L, e1, e2, hq, h1, hL, h2, h3⟩, st⟩ | ⟨q, vm₁, ⟨U', l2, c2, s2⟩, hW₁, X', ⟨g', mk, t, L, E, ce, e1, e2, hq, hce, hcv, hcl, h1, hL, h2, h3⟩, st⟩
  · dsimp only [Pt.U, Pt.locs, Pt.cells, Pt.slots] at X' e1 e2 h1 h2 h3 st
    subst h1; subst h2; subst h3
    exact Or.inl ⟨v, (T.setVm vm₁).calling g' mk (Value.ref b :: As).toArray, t, U', L, hT, X', hL, e1, e2, hq, st⟩
  · dsimp only [Pt.U, Pt.locs, Pt.cells, Pt.slots] at X' e1 e2 h1 h2 h3 st hcl
    subst h1; subst h2; subst h3
    exact Or.inr ⟨q, (T.setVm vm₁).calling g' mk (Value.ref b :: As).toArray, t, U', L, E, ce, hT, X', hL, e1, e2, hq, hce, hcv, vx_cls hW₁ hcl, st⟩
theorem vx_runSX {hh : List (Nat × Nat × Nat × Nat)} (S : CallFix p m c cc nL s args Ts own) (hM : vx_Met l y ws rm Pc Qc XC mc ms free) (cw : vx_CSW R s args own index y bytes maxL ret hh ws rm mc ms n) (hp : PreS s H Pc As)
    (hg : g.method = m) (hn : As.length = n) (hsize : g.locals.size = nL) (hstack : g.stack = As.reverse ++ rest) (hW : 2 * g.monitorRoom + (rest.map fun v => v.category).sum ≤ 8) (hdg : decode cc g.pc = .ok (.invokestatic index, 3)) (hf : cells + mc ≤ R.cells ∧ slots + ms ≤ R.slots) :
    vx_Run p l e R s m args below meth c H locs cells slots mc ms g rest (Qc As.toArray) XC free := by
  obtain ⟨⟨hrc, hrs, hfr, hlo, hws, hcw⟩, hcode, hini, hy, hlen, hl, hstt⟩ := cw
  have hK : vx_Back l R p e below s args y 3 8 (PreOf R mc ms Pc) (PostOf Qc mc ms free) (vx_Post XC mc ms free) := vx_backW (hh := hh) (bytes := bytes) (maxL := maxL) (ret := ret) hM hp.1 hrc hrs hfr hlo hws hcw (fun a' U hW => word_at hW (Or.inl (by first | rfl | simp [Cond.onTables, Cond.keeps, Cond.steady])) hini)
  obtain ⟨hx, hb, hml, ho, -⟩ := S
  intro T hT X
  rcases vx_callSX X hx (hh := hh) (bytes := bytes) (maxL := maxL) (ret := ret) ho hl hstt hini hcode hy hK hg (hsize.trans hml.symm) (argsL := As) (rest := rest) (fun sig h => hn.trans (hlen sig h)) hstack hW (by rw [hb]; exact hdg)
    (fun vm₁ hW₁ => ⟨hf.1, hf.2, hp.2 (T.setVm vm₁) hT hW₁⟩) with ⟨v, vm₁, ⟨U', l2, c2, s2⟩, hW₁, X', ⟨g', mk, t, L, e1, e2, hq, h1, hL, h2, h3⟩, st⟩ | ⟨q, vm₁, ⟨U', l2, c2, s2⟩, hW₁, X', ⟨g', mk, t, L, E, ce, e1, e2, hq, hce, hcv, hcl, h1, hL, h2, h3⟩, st⟩
  · dsimp only [Pt.U, Pt.locs, Pt.cells, Pt.slots] at X' e1 e2 h1 h2 h3 st
    subst h1; subst h2; subst h3
    exact Or.inl ⟨v, (T.setVm vm₁).calling g' mk As.toArray, t, U', L, hT, X', hL, e1, e2, hq, st⟩
  · dsimp only [Pt.U, Pt.locs, Pt.cells, Pt.slots] at X' e1 e2 h1 h2 h3 st hcl
    subst h1; subst h2; subst h3
    exact Or.inr ⟨q, (T.setVm vm₁).calling g' mk As.toArray, t, U', L, E, ce, hT, X', hL, e1, e2, hq, hce, hcv, vx_cls hW₁ hcl, st⟩
end
end VXH
theorem vx_ofWH {l : Launch} {y : MethodName} {ws ws' : List Cond} {rm : Room} {Pc : Array Value → State → Prop} {Qc : Array Value → State → Outcome → State → Prop} {XC : String → State → State → Prop} {mc ms : Nat} {free : Addr → Prop} {cc : ByteArray} {maxL : Nat} {ret : Option FieldType} {hh : List (Nat × Nat × Nat × Nat)}
    (hy : plainName y.cls = true) (hw : ws = Cond.codeWith y cc maxL ret hh :: ws')
    (body : ∀ p e s m args below meth c s₁, BodyLoose p l y (headSpec ws rm) cc maxL ret e s m args below meth c s₁ → c.maxLocals = maxL → Pc args s →
      W p l e (headSpec ws rm).room s m args below meth c s.heap [] 0 0 (vx_MQ below Qc XC args s mc ms free) (entryFrame m args maxL)) : vx_Met l y ws rm Pc Qc XC mc ms free := by
  refine MetFree.of_bodyS (code := cc) (maxLocals := maxL) (ret := ret) hy ?_ ?_
  · intro args s m h hn
    obtain ⟨m9, meth, c, hn9, h1, h2, h3, h4, -, h5, h6, -⟩ := Cond.codeWith_spec (atoms_spec (ws := ws) h _ (by rw [hw]; exact List.mem_cons_self))
    cases hn.symm.trans hn9
    exact ⟨meth, c, h1, h2, h3, h4, h5, h6⟩
  · intro p e s m args below meth c s₁ B hml hP _
    have hh0 : s₁.heap = s.heap := by rw [B.state]; rfl
    obtain ⟨t, a1, o, b1, b2, b3⟩ := body p e s m args below meth c s₁ B hml hP s₁ hh0 (Stand.of_body B)
    exact ⟨t, o, a1, b1, b2, b3⟩
/-! ===== END ===== -/
end
section
def RX0 : String := "RegisterRows$Bank"
def TX0 : u_T := fun k => match k with
  | 0 => ("RegisterRows$Bank", "cells", "[J", true)
  | _ => ("RegisterRows$Bank", "levels", "[I", true)
def tyX0 : Nat → FieldType := fun k => match k with
  | 0 => .array .long
  | _ => .array .int
abbrev wsX00 : List Cond := u_ws RX0 TX0 2
theorem nmX0 : ∀ a, a < 2 → ∀ b, b < 2 → a ≠ b → (TX0 a).2.1 ≠ (TX0 b).2.1 := by decide +kernel
theorem tyX0_ok : ∀ k, k < 2 → parseFieldDescriptor (TX0 k).2.2.1 = some (tyX0 k) := by decide +kernel
abbrev cX0_init : ByteArray := prog_2_method_1_code
def yX0_init : MethodName := ⟨RX0, "<init>", "()V"⟩
abbrev cX0_home : ByteArray := prog_2_method_2_code
def yX0_home : MethodName := ⟨RX0, "home", "(II)I"⟩
abbrev cX0_place : ByteArray := prog_2_method_3_code
def yX0_place : MethodName := ⟨RX0, "place", "(II)I"⟩
abbrev cX0_copyTo : ByteArray := prog_2_method_4_code
def yX0_copyTo : MethodName := ⟨RX0, "copyTo", "([JII)V"⟩
abbrev cX0_copyFrom : ByteArray := prog_2_method_5_code
def yX0_copyFrom : MethodName := ⟨RX0, "copyFrom", "([JIII)V"⟩
def RX1 : String := "RegisterRows$Ended"
def TX1 : u_T := fun k => match k with
  | 0 => ("RegisterRows$Ended", "kinds", "[I", true)
  | 1 => ("RegisterRows$Ended", "registers", "[I", true)
  | 2 => ("RegisterRows$Ended", "again", "[I", true)
  | 3 => ("RegisterRows$Ended", "tokens", "[I", true)
  | 4 => ("RegisterRows$Ended", "many", "I", false)
  | 5 => ("RegisterRows$Ended", "back", "I", false)
  | _ => ("RegisterRows$Ended", "manyTokens", "I", false)
def tyX1 : Nat → FieldType := fun k => match k with
  | 0 => .array .int
  | 1 => .array .int
  | 2 => .array .int
  | 3 => .array .int
  | 4 => .int
  | 5 => .int
  | _ => .int
abbrev wsX10 : List Cond := u_ws RX1 TX1 7
theorem nmX1 : ∀ a, a < 7 → ∀ b, b < 7 → a ≠ b → (TX1 a).2.1 ≠ (TX1 b).2.1 := by decide +kernel
theorem tyX1_ok : ∀ k, k < 7 → parseFieldDescriptor (TX1 k).2.2.1 = some (tyX1 k) := by decide +kernel
abbrev cX1_init : ByteArray := prog_3_method_1_code
def yX1_init : MethodName := ⟨RX1, "<init>", "()V"⟩
abbrev cX1_clear : ByteArray := prog_3_method_2_code
def yX1_clear : MethodName := ⟨RX1, "clear", "()V"⟩
abbrev cX1_append : ByteArray := prog_3_method_3_code
def yX1_append : MethodName := ⟨RX1, "append", "(IIZ)V"⟩
abbrev cX1_appendToken : ByteArray := prog_3_method_4_code
def yX1_appendToken : MethodName := ⟨RX1, "appendToken", "(I)V"⟩
abbrev cX1_copyTokens : ByteArray := prog_3_method_5_code
def yX1_copyTokens : MethodName := ⟨RX1, "copyTokens", "(LRegisterRows$Groups;)V"⟩
def RX2 : String := "RegisterRows$Groups"
def TX2 : u_T := fun k => match k with
  | 0 => ("RegisterRows$Groups", "firstsKept", "[I", true)
  | 1 => ("RegisterRows$Groups", "firstTokens", "[I", true)
  | 2 => ("RegisterRows$Groups", "tokens", "[I", true)
  | 3 => ("RegisterRows$Groups", "depth", "I", false)
  | _ => ("RegisterRows$Groups", "many", "I", false)
def tyX2 : Nat → FieldType := fun k => match k with
  | 0 => .array .int
  | 1 => .array .int
  | 2 => .array .int
  | 3 => .int
  | _ => .int
abbrev wsX20 : List Cond := u_ws RX2 TX2 5
theorem nmX2 : ∀ a, a < 5 → ∀ b, b < 5 → a ≠ b → (TX2 a).2.1 ≠ (TX2 b).2.1 := by decide +kernel
theorem tyX2_ok : ∀ k, k < 5 → parseFieldDescriptor (TX2 k).2.2.1 = some (tyX2 k) := by decide +kernel
abbrev cX2_init : ByteArray := prog_4_method_1_code
def yX2_init : MethodName := ⟨RX2, "<init>", "()V"⟩
abbrev cX2_open : ByteArray := prog_4_method_2_code
def yX2_open : MethodName := ⟨RX2, "open", "(I)V"⟩
abbrev cX2_append : ByteArray := prog_4_method_3_code
def yX2_append : MethodName := ⟨RX2, "append", "(I)V"⟩
abbrev cX2_firstKept : ByteArray := prog_4_method_4_code
def yX2_firstKept : MethodName := ⟨RX2, "firstKept", "()I"⟩
abbrev cX2_firstToken : ByteArray := prog_4_method_5_code
def yX2_firstToken : MethodName := ⟨RX2, "firstToken", "()I"⟩
abbrev cX2_close : ByteArray := prog_4_method_6_code
def yX2_close : MethodName := ⟨RX2, "close", "()V"⟩
def RX3 : String := "RegisterRows$Pile"
def TX3 : u_T := fun k => match k with
  | 0 => ("RegisterRows$Pile", "kinds", "[I", true)
  | 1 => ("RegisterRows$Pile", "registers", "[I", true)
  | 2 => ("RegisterRows$Pile", "levels", "[I", true)
  | 3 => ("RegisterRows$Pile", "cells", "[J", true)
  | _ => ("RegisterRows$Pile", "many", "I", false)
def tyX3 : Nat → FieldType := fun k => match k with
  | 0 => .array .int
  | 1 => .array .int
  | 2 => .array .int
  | 3 => .array .long
  | _ => .int
abbrev wsX30 : List Cond := u_ws RX3 TX3 5
theorem nmX3 : ∀ a, a < 5 → ∀ b, b < 5 → a ≠ b → (TX3 a).2.1 ≠ (TX3 b).2.1 := by decide +kernel
theorem tyX3_ok : ∀ k, k < 5 → parseFieldDescriptor (TX3 k).2.2.1 = some (tyX3 k) := by decide +kernel
abbrev cX3_init : ByteArray := prog_5_method_1_code
def yX3_init : MethodName := ⟨RX3, "<init>", "()V"⟩
abbrev cX3_keep : ByteArray := prog_5_method_2_code
def yX3_keep : MethodName := ⟨RX3, "keep", "(LRegisterRows$Bank;II)V"⟩
def RX4 : String := "RegisterRows$Signs"
def TX4 : u_T := fun k => match k with
  | 0 => ("RegisterRows$Signs", "signs", "[I", true)
  | _ => ("RegisterRows$Signs", "many", "I", false)
def tyX4 : Nat → FieldType := fun k => match k with
  | 0 => .array .int
  | _ => .int
abbrev wsX40 : List Cond := u_ws RX4 TX4 2
theorem nmX4 : ∀ a, a < 2 → ∀ b, b < 2 → a ≠ b → (TX4 a).2.1 ≠ (TX4 b).2.1 := by decide +kernel
theorem tyX4_ok : ∀ k, k < 2 → parseFieldDescriptor (TX4 k).2.2.1 = some (tyX4 k) := by decide +kernel
abbrev cX4_init : ByteArray := prog_6_method_1_code
def yX4_init : MethodName := ⟨RX4, "<init>", "()V"⟩
abbrev cX4_clear : ByteArray := prog_6_method_2_code
def yX4_clear : MethodName := ⟨RX4, "clear", "()V"⟩
abbrev cX4_signAt : ByteArray := prog_6_method_3_code
def yX4_signAt : MethodName := ⟨RX4, "signAt", "(I)I"⟩
abbrev cX4_write : ByteArray := prog_6_method_4_code
def yX4_write : MethodName := ⟨RX4, "write", "(I)V"⟩
abbrev cX4_writeText : ByteArray := prog_6_method_5_code
def yX4_writeText : MethodName := ⟨RX4, "writeText", "(Ljava/lang/String;)V"⟩
abbrev cX4_writeNumber : ByteArray := prog_6_method_6_code
def yX4_writeNumber : MethodName := ⟨RX4, "writeNumber", "(J)V"⟩
abbrev cX4_writeDigits : ByteArray := prog_6_method_7_code
def yX4_writeDigits : MethodName := ⟨RX4, "writeDigits", "(J)V"⟩
abbrev cX4_writeLength : ByteArray := prog_6_method_8_code
def yX4_writeLength : MethodName := ⟨RX4, "writeLength", "(J)V"⟩
abbrev cX4_writeFraction : ByteArray := prog_6_method_9_code
def yX4_writeFraction : MethodName := ⟨RX4, "writeFraction", "(J)V"⟩
def RX5 : String := "RegisterRows"
def TX5 : u_T := fun k => match k with
  | 0 => ("RegisterRows", "bank", "LRegisterRows$Bank;", true)
  | 1 => ("RegisterRows", "pile", "LRegisterRows$Pile;", true)
  | 2 => ("RegisterRows", "groups", "LRegisterRows$Groups;", true)
  | 3 => ("RegisterRows", "ended", "LRegisterRows$Ended;", true)
  | 4 => ("RegisterRows", "signs", "LRegisterRows$Signs;", true)
  | 5 => ("RegisterRows", "glueThatWaits", "[J", true)
  | 6 => ("RegisterRows", "rowThatWaits", "[J", true)
  | _ => ("RegisterRows", "made", "[J", true)
def tyX5 : Nat → FieldType := fun k => match k with
  | 0 => .object "RegisterRows$Bank"
  | 1 => .object "RegisterRows$Pile"
  | 2 => .object "RegisterRows$Groups"
  | 3 => .object "RegisterRows$Ended"
  | 4 => .object "RegisterRows$Signs"
  | 5 => .array .long
  | 6 => .array .long
  | _ => .array .long
abbrev wsX50 : List Cond := u_ws RX5 TX5 8
theorem nmX5 : ∀ a, a < 8 → ∀ b, b < 8 → a ≠ b → (TX5 a).2.1 ≠ (TX5 b).2.1 := by decide +kernel
theorem tyX5_ok : ∀ k, k < 8 → parseFieldDescriptor (TX5 k).2.2.1 = some (tyX5 k) := by decide +kernel
abbrev cX5_init : ByteArray := prog_1_method_1_code
def yX5_init : MethodName := ⟨RX5, "<init>", "()V"⟩
abbrev cX5_token : ByteArray := prog_1_method_2_code
def yX5_token : MethodName := ⟨RX5, "token", "(I)I"⟩
abbrev cX5_glue : ByteArray := prog_1_method_3_code
def yX5_glue : MethodName := ⟨RX5, "glue", "(JJIJI)V"⟩
abbrev cX5_set : ByteArray := prog_1_method_4_code
def yX5_set : MethodName := ⟨RX5, "set", "(IIJZ)I"⟩
abbrev cX5_get : ByteArray := prog_1_method_5_code
def yX5_get : MethodName := ⟨RX5, "get", "(II)J"⟩
abbrev cX5_part : ByteArray := prog_1_method_6_code
def yX5_part : MethodName := ⟨RX5, "part", "(II)J"⟩
abbrev cX5_at : ByteArray := prog_1_method_7_code
def yX5_at : MethodName := ⟨RX5, "at", "(II)I"⟩
abbrev cX5_add : ByteArray := prog_1_method_8_code
def yX5_add : MethodName := ⟨RX5, "add", "(IIJZ)I"⟩
abbrev cX5_multiply : ByteArray := prog_1_method_9_code
def yX5_multiply : MethodName := ⟨RX5, "multiply", "(IIJZ)I"⟩
abbrev cX5_divide : ByteArray := prog_1_method_10_code
def yX5_divide : MethodName := ⟨RX5, "divide", "(IIJZ)I"⟩
abbrev cX5_take : ByteArray := prog_1_method_11_code
def yX5_take : MethodName := ⟨RX5, "take", "(I)I"⟩
abbrev cX5_group : ByteArray := prog_1_method_12_code
def yX5_group : MethodName := ⟨RX5, "group", "()I"⟩
abbrev cX5_after : ByteArray := prog_1_method_13_code
def yX5_after : MethodName := ⟨RX5, "after", "(I)I"⟩
abbrev cX5_end : ByteArray := prog_1_method_14_code
def yX5_end : MethodName := ⟨RX5, "end", "()I"⟩
abbrev cX5_restored : ByteArray := prog_1_method_15_code
def yX5_restored : MethodName := ⟨RX5, "restored", "(II)I"⟩
abbrev cX5_behind : ByteArray := prog_1_method_16_code
def yX5_behind : MethodName := ⟨RX5, "behind", "(I)I"⟩
abbrev cX5_scaled : ByteArray := prog_1_method_17_code
def yX5_scaled : MethodName := ⟨RX5, "scaled", "(III)J"⟩
abbrev cX5_fraction : ByteArray := prog_1_method_18_code
def yX5_fraction : MethodName := ⟨RX5, "fraction", "(II)I"⟩
abbrev cX5_shown : ByteArray := prog_1_method_19_code
def yX5_shown : MethodName := ⟨RX5, "shown", "(III)I"⟩
abbrev cX5_told : ByteArray := prog_1_method_20_code
def yX5_told : MethodName := ⟨RX5, "told", "(II)I"⟩
abbrev cX5_within : ByteArray := prog_1_method_21_code
def yX5_within : MethodName := ⟨RX5, "within", "(JJJ)Z"⟩
abbrev cX5_isCount : ByteArray := prog_1_method_22_code
def yX5_isCount : MethodName := ⟨RX5, "isCount", "(J)Z"⟩
abbrev cX5_isLength : ByteArray := prog_1_method_23_code
def yX5_isLength : MethodName := ⟨RX5, "isLength", "(J)Z"⟩
abbrev cX5_checkKind : ByteArray := prog_1_method_24_code
def yX5_checkKind : MethodName := ⟨RX5, "checkKind", "(II)V"⟩
abbrev cX5_checkRegister : ByteArray := prog_1_method_25_code
def yX5_checkRegister : MethodName := ⟨RX5, "checkRegister", "(J)V"⟩
abbrev cX5_checkToken : ByteArray := prog_1_method_26_code
def yX5_checkToken : MethodName := ⟨RX5, "checkToken", "(I)V"⟩
abbrev cX5_makeGiven : ByteArray := prog_1_method_27_code
def yX5_makeGiven : MethodName := ⟨RX5, "makeGiven", "(IJ)V"⟩
abbrev cX5_madeFits : ByteArray := prog_1_method_28_code
def yX5_madeFits : MethodName := ⟨RX5, "madeFits", "(I)Z"⟩
abbrev cX5_putMade : ByteArray := prog_1_method_29_code
def yX5_putMade : MethodName := ⟨RX5, "putMade", "(IIZ)I"⟩
abbrev cX5_addGlue : ByteArray := prog_1_method_30_code
def yX5_addGlue : MethodName := ⟨RX5, "addGlue", "(I)V"⟩
abbrev cX5_addFlexible : ByteArray := prog_1_method_31_code
def yX5_addFlexible : MethodName := ⟨RX5, "addFlexible", "(IJJ)V"⟩
abbrev cX5_giveBackKept : ByteArray := prog_1_method_32_code
def yX5_giveBackKept : MethodName := ⟨RX5, "giveBackKept", "(I)V"⟩
abbrev cX5_inPoints : ByteArray := prog_1_method_33_code
def yX5_inPoints : MethodName := ⟨RX5, "inPoints", "(JJJJ)J"⟩
abbrev cX5_writeRegister : ByteArray := prog_1_method_34_code
def yX5_writeRegister : MethodName := ⟨RX5, "writeRegister", "(II)V"⟩
abbrev cX5_writeGlue : ByteArray := prog_1_method_35_code
def yX5_writeGlue : MethodName := ⟨RX5, "writeGlue", "(I)V"⟩
abbrev cX5_writeFlexible : ByteArray := prog_1_method_36_code
def yX5_writeFlexible : MethodName := ⟨RX5, "writeFlexible", "(Ljava/lang/String;I)V"⟩
abbrev cX5_orderName : ByteArray := prog_1_method_37_code
def yX5_orderName : MethodName := ⟨RX5, "orderName", "(J)Ljava/lang/String;"⟩
abbrev cX5_writeRow : ByteArray := prog_1_method_38_code
def yX5_writeRow : MethodName := ⟨RX5, "writeRow", "(I)V"⟩
def RX6 : String := "RegisterRowsModel"
def TX6 : u_T := fun k => match k with
  | 0 => ("RegisterRowsModel", "thrown", "I", false)
  | 1 => ("RegisterRowsModel", "cells", "[J", true)
  | 2 => ("RegisterRowsModel", "levels", "[I", true)
  | 3 => ("RegisterRowsModel", "depth", "I", false)
  | 4 => ("RegisterRowsModel", "kept", "I", false)
  | 5 => ("RegisterRowsModel", "keptCells", "[J", true)
  | 6 => ("RegisterRowsModel", "keptOf", "[I", true)
  | 7 => ("RegisterRowsModel", "keptLevel", "[I", true)
  | 8 => ("RegisterRowsModel", "keptDepth", "[I", true)
  | 9 => ("RegisterRowsModel", "waitingGlue", "[J", true)
  | 10 => ("RegisterRowsModel", "waitingRow", "[J", true)
  | 11 => ("RegisterRowsModel", "value", "[J", true)
  | 12 => ("RegisterRowsModel", "told", "I", false)
  | 13 => ("RegisterRowsModel", "toldToken", "[I", true)
  | 14 => ("RegisterRowsModel", "toldDepth", "[I", true)
  | 15 => ("RegisterRowsModel", "gone", "I", false)
  | 16 => ("RegisterRowsModel", "goneOf", "[I", true)
  | 17 => ("RegisterRowsModel", "goneAgain", "[I", true)
  | 18 => ("RegisterRowsModel", "behind", "I", false)
  | 19 => ("RegisterRowsModel", "behindToken", "[I", true)
  | 20 => ("RegisterRowsModel", "size", "I", false)
  | 21 => ("RegisterRowsModel", "text", "[I", true)
  | 22 => ("RegisterRowsModel", "backSize", "I", false)
  | _ => ("RegisterRowsModel", "back", "[I", true)
def tyX6 : Nat → FieldType := fun k => match k with
  | 0 => .int
  | 1 => .array .long
  | 2 => .array .int
  | 3 => .int
  | 4 => .int
  | 5 => .array .long
  | 6 => .array .int
  | 7 => .array .int
  | 8 => .array .int
  | 9 => .array .long
  | 10 => .array .long
  | 11 => .array .long
  | 12 => .int
  | 13 => .array .int
  | 14 => .array .int
  | 15 => .int
  | 16 => .array .int
  | 17 => .array .int
  | 18 => .int
  | 19 => .array .int
  | 20 => .int
  | 21 => .array .int
  | 22 => .int
  | _ => .array .int
abbrev wsX60 : List Cond := u_ws RX6 TX6 24
theorem nmX6 : ∀ a, a < 24 → ∀ b, b < 24 → a ≠ b → (TX6 a).2.1 ≠ (TX6 b).2.1 := by decide +kernel
theorem tyX6_ok : ∀ k, k < 24 → parseFieldDescriptor (TX6 k).2.2.1 = some (tyX6 k) := by decide +kernel
abbrev cX6_init : ByteArray := prog_8_method_1_code
def yX6_init : MethodName := ⟨RX6, "<init>", "()V"⟩
abbrev cX6_thrown : ByteArray := prog_8_method_2_code
def yX6_thrown : MethodName := ⟨RX6, "thrown", "()I"⟩
abbrev cX6_in : ByteArray := prog_8_method_3_code
def yX6_in : MethodName := ⟨RX6, "in", "(JJJ)Z"⟩
abbrev cX6_isKind : ByteArray := prog_8_method_4_code
def yX6_isKind : MethodName := ⟨RX6, "isKind", "(I)Z"⟩
abbrev cX6_isRegister : ByteArray := prog_8_method_5_code
def yX6_isRegister : MethodName := ⟨RX6, "isRegister", "(I)Z"⟩
abbrev cX6_isLength : ByteArray := prog_8_method_6_code
def yX6_isLength : MethodName := ⟨RX6, "isLength", "(J)Z"⟩
abbrev cX6_token : ByteArray := prog_8_method_7_code
def yX6_token : MethodName := ⟨RX6, "token", "(I)I"⟩
abbrev cX6_glue : ByteArray := prog_8_method_8_code
def yX6_glue : MethodName := ⟨RX6, "glue", "(JJIJI)V"⟩
abbrev cX6_isWithin : ByteArray := prog_8_method_9_code
def yX6_isWithin : MethodName := ⟨RX6, "isWithin", "(I)Z"⟩
abbrev cX6_isFull : ByteArray := prog_8_method_10_code
def yX6_isFull : MethodName := ⟨RX6, "isFull", "(IZ)Z"⟩
abbrev cX6_put : ByteArray := prog_8_method_11_code
def yX6_put : MethodName := ⟨RX6, "put", "(IZ)V"⟩
abbrev cX6_finish : ByteArray := prog_8_method_12_code
def yX6_finish : MethodName := ⟨RX6, "finish", "(IIZI)I"⟩
abbrev cX6_fetch : ByteArray := prog_8_method_13_code
def yX6_fetch : MethodName := ⟨RX6, "fetch", "(II)V"⟩
abbrev cX6_set : ByteArray := prog_8_method_14_code
def yX6_set : MethodName := ⟨RX6, "set", "(IIJZ)I"⟩
abbrev cX6_addPart : ByteArray := prog_8_method_15_code
def yX6_addPart : MethodName := ⟨RX6, "addPart", "(II)V"⟩
abbrev cX6_add : ByteArray := prog_8_method_16_code
def yX6_add : MethodName := ⟨RX6, "add", "(IIJZ)I"⟩
abbrev cX6_scale : ByteArray := prog_8_method_17_code
def yX6_scale : MethodName := ⟨RX6, "scale", "(IJZ)V"⟩
abbrev cX6_multiply : ByteArray := prog_8_method_18_code
def yX6_multiply : MethodName := ⟨RX6, "multiply", "(IIJZ)I"⟩
abbrev cX6_divide : ByteArray := prog_8_method_19_code
def yX6_divide : MethodName := ⟨RX6, "divide", "(IIJZ)I"⟩
abbrev cX6_take : ByteArray := prog_8_method_20_code
def yX6_take : MethodName := ⟨RX6, "take", "(I)I"⟩
abbrev cX6_group : ByteArray := prog_8_method_21_code
def yX6_group : MethodName := ⟨RX6, "group", "()I"⟩
abbrev cX6_after : ByteArray := prog_8_method_22_code
def yX6_after : MethodName := ⟨RX6, "after", "(I)I"⟩
abbrev cX6_end : ByteArray := prog_8_method_23_code
def yX6_end : MethodName := ⟨RX6, "end", "()I"⟩
abbrev cX6_restored : ByteArray := prog_8_method_24_code
def yX6_restored : MethodName := ⟨RX6, "restored", "(II)I"⟩
abbrev cX6_behind : ByteArray := prog_8_method_25_code
def yX6_behind : MethodName := ⟨RX6, "behind", "(I)I"⟩
abbrev cX6_get : ByteArray := prog_8_method_26_code
def yX6_get : MethodName := ⟨RX6, "get", "(II)J"⟩
abbrev cX6_part : ByteArray := prog_8_method_27_code
def yX6_part : MethodName := ⟨RX6, "part", "(II)J"⟩
abbrev cX6_at : ByteArray := prog_8_method_28_code
def yX6_at : MethodName := ⟨RX6, "at", "(II)I"⟩
abbrev cX6_told : ByteArray := prog_8_method_29_code
def yX6_told : MethodName := ⟨RX6, "told", "(II)I"⟩
abbrev cX6_upOf : ByteArray := prog_8_method_30_code
def yX6_upOf : MethodName := ⟨RX6, "upOf", "(I)J"⟩
abbrev cX6_lowOf : ByteArray := prog_8_method_31_code
def yX6_lowOf : MethodName := ⟨RX6, "lowOf", "(I)J"⟩
abbrev cX6_scaled : ByteArray := prog_8_method_32_code
def yX6_scaled : MethodName := ⟨RX6, "scaled", "(III)J"⟩
abbrev cX6_fraction : ByteArray := prog_8_method_33_code
def yX6_fraction : MethodName := ⟨RX6, "fraction", "(II)I"⟩
abbrev cX6_say : ByteArray := prog_8_method_34_code
def yX6_say : MethodName := ⟨RX6, "say", "(I)V"⟩
abbrev cX6_sayNumber : ByteArray := prog_8_method_35_code
def yX6_sayNumber : MethodName := ⟨RX6, "sayNumber", "(J)V"⟩
abbrev cX6_sayLength : ByteArray := prog_8_method_36_code
def yX6_sayLength : MethodName := ⟨RX6, "sayLength", "(J)V"⟩
abbrev cX6_sayOrder : ByteArray := prog_8_method_37_code
def yX6_sayOrder : MethodName := ⟨RX6, "sayOrder", "(J)V"⟩
abbrev cX6_sayWord : ByteArray := prog_8_method_38_code
def yX6_sayWord : MethodName := ⟨RX6, "sayWord", "(Z)V"⟩
abbrev cX6_sayGlue : ByteArray := prog_8_method_39_code
def yX6_sayGlue : MethodName := ⟨RX6, "sayGlue", "(I)V"⟩
abbrev cX6_sayVoid : ByteArray := prog_8_method_40_code
def yX6_sayVoid : MethodName := ⟨RX6, "sayVoid", "()V"⟩
abbrev cX6_shown : ByteArray := prog_8_method_41_code
def yX6_shown : MethodName := ⟨RX6, "shown", "(III)I"⟩
def RJx00060 : String := "java/lang/ArrayIndexOutOfBoundsException"
def TJx00060 : u_T := fun k => match k with
  | 0 => ("java/lang/Throwable", "backtrace", "Ljava/lang/Object;", false)
  | 1 => ("java/lang/Throwable", "detailMessage", "Ljava/lang/String;", false)
  | 2 => ("java/lang/Throwable", "cause", "Ljava/lang/Throwable;", false)
  | 3 => ("java/lang/Throwable", "stackTrace", "[Ljava/lang/StackTraceElement;", false)
  | 4 => ("java/lang/Throwable", "depth", "I", false)
  | _ => ("java/lang/Throwable", "suppressedExceptions", "Ljava/util/List;", false)
def tyJx00060 : Nat → FieldType := fun k => match k with
  | 0 => .object "java/lang/Object"
  | 1 => .object "java/lang/String"
  | 2 => .object "java/lang/Throwable"
  | 3 => .array (.object "java/lang/StackTraceElement")
  | 4 => .int
  | _ => .object "java/util/List"
abbrev wsJx000600 : List Cond := u_ws RJx00060 TJx00060 6
theorem nmJx00060 : ∀ a, a < 6 → ∀ b, b < 6 → a ≠ b → (TJx00060 a).2.1 ≠ (TJx00060 b).2.1 := by decide +kernel
theorem tyJx00060_ok : ∀ k, k < 6 → parseFieldDescriptor (TJx00060 k).2.2.1 = some (tyJx00060 k) := by decide +kernel
abbrev cJx00060_init_a7421 : ByteArray := prog_10_method_2_code
def yJx00060_init_a7421 : MethodName := ⟨RJx00060, "<init>", "(Ljava/lang/String;)V"⟩
def RJ0 : String := "java/lang/String"
def TJ0 : u_T := fun k => match k with
  | 0 => ("java/lang/String", "value", "[B", true)
  | _ => ("java/lang/String", "coder", "B", true)
def tyJ0 : Nat → FieldType := fun k => match k with
  | 0 => .array .byte
  | _ => .byte
abbrev wsJ00 : List Cond := u_ws RJ0 TJ0 2
theorem nmJ0 : ∀ a, a < 2 → ∀ b, b < 2 → a ≠ b → (TJ0 a).2.1 ≠ (TJ0 b).2.1 := by decide +kernel
theorem tyJ0_ok : ∀ k, k < 2 → parseFieldDescriptor (TJ0 k).2.2.1 = some (tyJ0 k) := by decide +kernel
abbrev cJ0_length_8abf5 : ByteArray := prog_16_method_54_code
def yJ0_length_8abf5 : MethodName := ⟨RJ0, "length", "()I"⟩
abbrev cJ0_charAt_5068e : ByteArray := prog_16_method_56_code
def yJ0_charAt_5068e : MethodName := ⟨RJ0, "charAt", "(I)C"⟩
abbrev cJ0_coder_7d493 : ByteArray := prog_16_method_152_code
def yJ0_coder_7d493 : MethodName := ⟨RJ0, "coder", "()B"⟩
abbrev cJ0_isLatin1_aae02 : ByteArray := prog_16_method_154_code
def yJ0_isLatin1_aae02 : MethodName := ⟨RJ0, "isLatin1", "()Z"⟩
abbrev cJ0_checkIndex_df160 : ByteArray := prog_16_method_155_code
def yJ0_checkIndex_df160 : MethodName := ⟨RJ0, "checkIndex", "(II)V"⟩
def RJ1 : String := "java/lang/StringLatin1"
def TJ1 : u_T := fun k => match k with
  | _ => ("", "", "", false)
def tyJ1 : Nat → FieldType := fun k => match k with
  | _ => .int
abbrev wsJ10 : List Cond := u_ws RJ1 TJ1 0
theorem nmJ1 : ∀ a, a < 0 → ∀ b, b < 0 → a ≠ b → (TJ1 a).2.1 ≠ (TJ1 b).2.1 := by decide +kernel
theorem tyJ1_ok : ∀ k, k < 0 → parseFieldDescriptor (TJ1 k).2.2.1 = some (tyJ1 k) := by decide +kernel
abbrev cJ1_charAt_3b067 : ByteArray := prog_17_method_2_code
def yJ1_charAt_3b067 : MethodName := ⟨RJ1, "charAt", "([BI)C"⟩
def RJ2 : String := "java/lang/StringUTF16"
def TJ2 : u_T := fun k => match k with
  | _ => ("", "", "", false)
def tyJ2 : Nat → FieldType := fun k => match k with
  | _ => .int
abbrev wsJ20 : List Cond := u_ws RJ2 TJ2 0
theorem nmJ2 : ∀ a, a < 0 → ∀ b, b < 0 → a ≠ b → (TJ2 a).2.1 ≠ (TJ2 b).2.1 := by decide +kernel
theorem tyJ2_ok : ∀ k, k < 0 → parseFieldDescriptor (TJ2 k).2.2.1 = some (tyJ2 k) := by decide +kernel
abbrev cJ2_getChar_3b067 : ByteArray := prog_18_method_5_code
def yJ2_getChar_3b067 : MethodName := ⟨RJ2, "getChar", "([BI)C"⟩
abbrev cJ2_length_9d52b : ByteArray := prog_18_method_6_code
def yJ2_length_9d52b : MethodName := ⟨RJ2, "length", "([B)I"⟩
abbrev cJ2_charAt_3b067 : ByteArray := prog_18_method_83_code
def yJ2_charAt_3b067 : MethodName := ⟨RJ2, "charAt", "([BI)C"⟩
abbrev cJ2_checkIndex_2214a : ByteArray := prog_18_method_91_code
def yJ2_checkIndex_2214a : MethodName := ⟨RJ2, "checkIndex", "(I[B)V"⟩
def RJ10 : String := "java/lang/System"
def TJ10 : u_T := fun k => match k with
  | _ => ("", "", "", false)
def tyJ10 : Nat → FieldType := fun k => match k with
  | _ => .int
abbrev wsJ100 : List Cond := u_ws RJ10 TJ10 0
theorem nmJ10 : ∀ a, a < 0 → ∀ b, b < 0 → a ≠ b → (TJ10 a).2.1 ≠ (TJ10 b).2.1 := by decide +kernel
theorem tyJ10_ok : ∀ k, k < 0 → parseFieldDescriptor (TJ10 k).2.2.1 = some (tyJ10 k) := by decide +kernel
def RJ3 : String := "jdk/internal/util/Preconditions"
def TJ3 : u_T := fun k => match k with
  | _ => ("", "", "", false)
def tyJ3 : Nat → FieldType := fun k => match k with
  | _ => .int
abbrev wsJ30 : List Cond := u_ws RJ3 TJ3 0
theorem nmJ3 : ∀ a, a < 0 → ∀ b, b < 0 → a ≠ b → (TJ3 a).2.1 ≠ (TJ3 b).2.1 := by decide +kernel
theorem tyJ3_ok : ∀ k, k < 0 → parseFieldDescriptor (TJ3 k).2.2.1 = some (tyJ3 k) := by decide +kernel
abbrev cJ3_checkIndex_8e157 : ByteArray := prog_22_method_11_code
def yJ3_checkIndex_8e157 : MethodName := ⟨RJ3, "checkIndex", "(IILjava/util/function/BiFunction;)I"⟩
def RL : String := "RegisterRowsLaw"
abbrev cL_token : ByteArray := method_3_code
def yL_token : MethodName := ⟨RL, "token", "(LRegisterRows;I[J)I"⟩
abbrev cL_glue : ByteArray := method_4_code
def yL_glue : MethodName := ⟨RL, "glue", "(LRegisterRows;JJIJI)I"⟩
abbrev cL_set : ByteArray := method_5_code
def yL_set : MethodName := ⟨RL, "set", "(LRegisterRows;IIJZ[J)I"⟩
abbrev cL_get : ByteArray := method_6_code
def yL_get : MethodName := ⟨RL, "get", "(LRegisterRows;II[J)I"⟩
abbrev cL_part : ByteArray := method_7_code
def yL_part : MethodName := ⟨RL, "part", "(LRegisterRows;II[J)I"⟩
abbrev cL_at : ByteArray := method_8_code
def yL_at : MethodName := ⟨RL, "at", "(LRegisterRows;II[J)I"⟩
abbrev cL_add : ByteArray := method_9_code
def yL_add : MethodName := ⟨RL, "add", "(LRegisterRows;IIJZ[J)I"⟩
abbrev cL_multiply : ByteArray := method_10_code
def yL_multiply : MethodName := ⟨RL, "multiply", "(LRegisterRows;IIJZ[J)I"⟩
abbrev cL_divide : ByteArray := method_11_code
def yL_divide : MethodName := ⟨RL, "divide", "(LRegisterRows;IIJZ[J)I"⟩
abbrev cL_take : ByteArray := method_12_code
def yL_take : MethodName := ⟨RL, "take", "(LRegisterRows;I[J)I"⟩
abbrev cL_group : ByteArray := method_13_code
def yL_group : MethodName := ⟨RL, "group", "(LRegisterRows;[J)I"⟩
abbrev cL_after : ByteArray := method_14_code
def yL_after : MethodName := ⟨RL, "after", "(LRegisterRows;I[J)I"⟩
abbrev cL_end : ByteArray := method_15_code
def yL_end : MethodName := ⟨RL, "end", "(LRegisterRows;[J)I"⟩
abbrev cL_restored : ByteArray := method_16_code
def yL_restored : MethodName := ⟨RL, "restored", "(LRegisterRows;II[J)I"⟩
abbrev cL_scaled : ByteArray := method_17_code
def yL_scaled : MethodName := ⟨RL, "scaled", "(LRegisterRows;III[J)I"⟩
abbrev cL_fraction : ByteArray := method_18_code
def yL_fraction : MethodName := ⟨RL, "fraction", "(LRegisterRows;II[J)I"⟩
abbrev cL_shown : ByteArray := method_19_code
def yL_shown : MethodName := ⟨RL, "shown", "(LRegisterRows;III[J)I"⟩
abbrev cL_told : ByteArray := method_20_code
def yL_told : MethodName := ⟨RL, "told", "(LRegisterRows;II[J)I"⟩
abbrev cL_law : ByteArray := code
def yL_law : MethodName := ⟨RL, "law", "([I)Z"⟩
abbrev vwCl : List vw_C := [(RJ0, TJ0, 2), (RJx00060, TJx00060, 6), (RX0, TX0, 2), (RX1, TX1, 7), (RX2, TX2, 5), (RX3, TX3, 5), (RX4, TX4, 2), (RX5, TX5, 8), (RX6, TX6, 24)]
def bW_0 : List Cond := [Cond.initialized RL, Cond.initialized RX5, Cond.initialized RX0, Cond.initialized RX3, Cond.initialized RX2, Cond.initialized RX1, Cond.initialized RX4, Cond.initialized RX6, Cond.initialized "java/lang/Throwable", Cond.initialized "java/lang/Exception", Cond.initialized "java/lang/RuntimeException", Cond.initialized "java/lang/IllegalArgumentException", Cond.initialized "java/lang/IndexOutOfBoundsException", Cond.initialized RJx00060, Cond.initialized RJ0, Cond.initialized RJ10, Cond.initialized "java/lang/UnsupportedOperationException", Cond.initialized "java/lang/ArithmeticException", Cond.initialized "java/lang/IllegalStateException", Cond.initialized RJ1, Cond.initialized RJ3, Cond.initialized RJ2, Cond.classLink RL 8 RX5, Cond.instantiable RX5 8]
def bW_1 : List Cond := [Cond.methodLink RL 81 yX5_init, Cond.instanceMethod yX5_init, Cond.code yX5_init cX5_init 1 none, Cond.methodLink RX5 1 ⟨"java/lang/Object", "<init>", "()V"⟩, Cond.instanceMethod ⟨"java/lang/Object", "<init>", "()V"⟩, Cond.code ⟨"java/lang/Object", "<init>", "()V"⟩ object_method_1_code 1 none, Cond.classLink RX5 7 RX0, Cond.instantiable RX0 2, Cond.methodLink RX5 9 yX0_init, Cond.instanceMethod yX0_init, Cond.code yX0_init cX0_init 2 none, Cond.methodLink RX0 3 ⟨"java/lang/Object", "<init>", "()V"⟩, Cond.methodLink RX0 19 yX0_home, Cond.static yX0_home, Cond.code yX0_home cX0_home 2 (some (.int)), Cond.constantLong RX0 23 (-1), Cond.fieldLink RX0 9 "RegisterRows$Bank" "cells" "[J", Cond.fieldLink RX3 36 "RegisterRows$Bank" "cells" "[J", Cond.fieldLink RX5 99 "RegisterRows$Bank" "cells" "[J", Cond.fieldLink RX0 15 "RegisterRows$Bank" "levels" "[I", Cond.fieldLink RX3 29 "RegisterRows$Bank" "levels" "[I", Cond.fieldLink RX5 246 "RegisterRows$Bank" "levels" "[I", Cond.laysFinal RX0 "RegisterRows$Bank" "cells" "[J", Cond.laysFinal RX0 "RegisterRows$Bank" "levels" "[I"]
def bW_2 : List Cond := [Cond.superclass RX0 "java/lang/Object", Cond.arrayClass .long, Cond.arrayClass .int, Cond.classLink RX5 16 RX3, Cond.instantiable RX3 5, Cond.instanceMethod yX3_init, Cond.code yX3_init cX3_init 1 none, Cond.methodLink RX3 3 ⟨"java/lang/Object", "<init>", "()V"⟩, Cond.fieldLink RX3 9 "RegisterRows$Pile" "kinds" "[I", Cond.fieldLink RX5 292 "RegisterRows$Pile" "kinds" "[I", Cond.fieldLink RX3 15 "RegisterRows$Pile" "registers" "[I", Cond.fieldLink RX5 293 "RegisterRows$Pile" "registers" "[I", Cond.fieldLink RX3 18 "RegisterRows$Pile" "levels" "[I", Cond.fieldLink RX5 295 "RegisterRows$Pile" "levels" "[I", Cond.fieldLink RX3 21 "RegisterRows$Pile" "cells" "[J", Cond.fieldLink RX5 294 "RegisterRows$Pile" "cells" "[J", Cond.fieldLink RX3 25 "RegisterRows$Pile" "many" "I", Cond.fieldLink RX5 143 "RegisterRows$Pile" "many" "I", Cond.laysFinal RX3 "RegisterRows$Pile" "kinds" "[I", Cond.laysFinal RX3 "RegisterRows$Pile" "registers" "[I", Cond.laysFinal RX3 "RegisterRows$Pile" "levels" "[I", Cond.laysFinal RX3 "RegisterRows$Pile" "cells" "[J", Cond.lays RX3 "RegisterRows$Pile" "many" "I", Cond.superclass RX3 "java/lang/Object"]
def bW_3 : List Cond := [Cond.classLink RX5 23 RX2, Cond.instantiable RX2 5, Cond.instanceMethod yX2_init, Cond.code yX2_init cX2_init 1 none, Cond.methodLink RX2 3 ⟨"java/lang/Object", "<init>", "()V"⟩, Cond.fieldLink RX2 9 "RegisterRows$Groups" "firstsKept" "[I", Cond.fieldLink RX2 15 "RegisterRows$Groups" "firstTokens" "[I", Cond.fieldLink RX2 18 "RegisterRows$Groups" "tokens" "[I", Cond.fieldLink RX1 41 "RegisterRows$Groups" "tokens" "[I", Cond.fieldLink RX2 21 "RegisterRows$Groups" "depth" "I", Cond.fieldLink RX5 134 "RegisterRows$Groups" "depth" "I", Cond.fieldLink RX2 25 "RegisterRows$Groups" "many" "I", Cond.fieldLink RX1 40 "RegisterRows$Groups" "many" "I", Cond.fieldLink RX5 154 "RegisterRows$Groups" "many" "I", Cond.laysFinal RX2 "RegisterRows$Groups" "firstsKept" "[I", Cond.laysFinal RX2 "RegisterRows$Groups" "firstTokens" "[I", Cond.laysFinal RX2 "RegisterRows$Groups" "tokens" "[I", Cond.lays RX2 "RegisterRows$Groups" "depth" "I", Cond.lays RX2 "RegisterRows$Groups" "many" "I", Cond.superclass RX2 "java/lang/Object", Cond.classLink RX5 30 RX1, Cond.instantiable RX1 7, Cond.instanceMethod yX1_init, Cond.code yX1_init cX1_init 1 none]
def bW_4 : List Cond := [Cond.methodLink RX1 3 ⟨"java/lang/Object", "<init>", "()V"⟩, Cond.fieldLink RX1 9 "RegisterRows$Ended" "kinds" "[I", Cond.fieldLink RX5 188 "RegisterRows$Ended" "kinds" "[I", Cond.fieldLink RX1 15 "RegisterRows$Ended" "registers" "[I", Cond.fieldLink RX5 192 "RegisterRows$Ended" "registers" "[I", Cond.fieldLink RX1 18 "RegisterRows$Ended" "again" "[I", Cond.fieldLink RX5 195 "RegisterRows$Ended" "again" "[I", Cond.fieldLink RX1 21 "RegisterRows$Ended" "tokens" "[I", Cond.fieldLink RX5 201 "RegisterRows$Ended" "tokens" "[I", Cond.fieldLink RX1 24 "RegisterRows$Ended" "many" "I", Cond.fieldLink RX5 183 "RegisterRows$Ended" "many" "I", Cond.fieldLink RX1 28 "RegisterRows$Ended" "back" "I", Cond.fieldLink RX5 180 "RegisterRows$Ended" "back" "I", Cond.fieldLink RX1 31 "RegisterRows$Ended" "manyTokens" "I", Cond.fieldLink RX5 198 "RegisterRows$Ended" "manyTokens" "I", Cond.laysFinal RX1 "RegisterRows$Ended" "kinds" "[I", Cond.laysFinal RX1 "RegisterRows$Ended" "registers" "[I", Cond.laysFinal RX1 "RegisterRows$Ended" "again" "[I", Cond.laysFinal RX1 "RegisterRows$Ended" "tokens" "[I", Cond.lays RX1 "RegisterRows$Ended" "many" "I", Cond.lays RX1 "RegisterRows$Ended" "back" "I", Cond.lays RX1 "RegisterRows$Ended" "manyTokens" "I", Cond.superclass RX1 "java/lang/Object", Cond.classLink RX5 37 RX4]
def bW_5 : List Cond := [Cond.instantiable RX4 2, Cond.instanceMethod yX4_init, Cond.code yX4_init cX4_init 1 none, Cond.methodLink RX4 3 ⟨"java/lang/Object", "<init>", "()V"⟩, Cond.fieldLink RX4 9 "RegisterRows$Signs" "signs" "[I", Cond.fieldLink RX4 15 "RegisterRows$Signs" "many" "I", Cond.laysFinal RX4 "RegisterRows$Signs" "signs" "[I", Cond.lays RX4 "RegisterRows$Signs" "many" "I", Cond.superclass RX4 "java/lang/Object", Cond.fieldLink RX5 10 "RegisterRows" "bank" "LRegisterRows$Bank;", Cond.fieldLink RX5 19 "RegisterRows" "pile" "LRegisterRows$Pile;", Cond.fieldLink RX5 26 "RegisterRows" "groups" "LRegisterRows$Groups;", Cond.fieldLink RX5 33 "RegisterRows" "ended" "LRegisterRows$Ended;", Cond.fieldLink RX5 40 "RegisterRows" "signs" "LRegisterRows$Signs;", Cond.fieldLink RX5 44 "RegisterRows" "glueThatWaits" "[J", Cond.fieldLink RX5 48 "RegisterRows" "rowThatWaits" "[J", Cond.fieldLink RX5 51 "RegisterRows" "made" "[J", Cond.laysFinal RX5 "RegisterRows" "bank" "LRegisterRows$Bank;", Cond.laysFinal RX5 "RegisterRows" "pile" "LRegisterRows$Pile;", Cond.laysFinal RX5 "RegisterRows" "groups" "LRegisterRows$Groups;", Cond.laysFinal RX5 "RegisterRows" "ended" "LRegisterRows$Ended;", Cond.laysFinal RX5 "RegisterRows" "signs" "LRegisterRows$Signs;", Cond.laysFinal RX5 "RegisterRows" "glueThatWaits" "[J", Cond.laysFinal RX5 "RegisterRows" "rowThatWaits" "[J"]
def bW_6 : List Cond := [Cond.laysFinal RX5 "RegisterRows" "made" "[J", Cond.superclass RX5 "java/lang/Object", Cond.methodLink RL 139 yX5_behind, Cond.instanceMethod yX5_behind, Cond.selects RX5 yX5_behind yX5_behind, Cond.code yX5_behind cX5_behind 2 (some (.int)), Cond.methodLink RL 85 yL_token, Cond.static yL_token, Cond.codeWith yL_token cL_token 4 (some (.int)) [(0, 9, 12, 13)], Cond.classLink RL 13 "java/lang/IllegalArgumentException", Cond.methodLink RL 7 yX5_token, Cond.instanceMethod yX5_token, Cond.selects RX5 yX5_token yX5_token, Cond.code yX5_token cX5_token 3 (some (.int)), Cond.methodLink RX5 54 yX5_checkToken, Cond.static yX5_checkToken, Cond.code yX5_checkToken cX5_checkToken 1 none, Cond.constantLong RX5 264 (255), Cond.methodLink RX5 71 yX5_within, Cond.static yX5_within, Cond.code yX5_within cX5_within 6 (some (.boolean)), Cond.classLink RX5 62 "java/lang/IllegalArgumentException", Cond.instantiable "java/lang/IllegalArgumentException" 6, Cond.selects "java/lang/IllegalArgumentException" ⟨"java/lang/Throwable", "fillInStackTrace", "(I)Ljava/lang/Throwable;"⟩ ⟨"java/lang/Throwable", "fillInStackTrace", "(I)Ljava/lang/Throwable;"⟩]
def bW_7 : List Cond := [Cond.selects "java/lang/IllegalArgumentException" ⟨"java/lang/Throwable", "fillInStackTrace", "()Ljava/lang/Throwable;"⟩ ⟨"java/lang/Throwable", "fillInStackTrace", "()Ljava/lang/Throwable;"⟩, Cond.lays "java/lang/IllegalArgumentException" "java/lang/Throwable" "cause" "Ljava/lang/Throwable;", Cond.lays "java/lang/Throwable" "java/lang/Throwable" "cause" "Ljava/lang/Throwable;", Cond.lays "java/lang/IllegalArgumentException" "java/lang/Throwable" "stackTrace" "[Ljava/lang/StackTraceElement;", Cond.lays "java/lang/Throwable" "java/lang/Throwable" "stackTrace" "[Ljava/lang/StackTraceElement;", Cond.lays "java/lang/IllegalArgumentException" "java/lang/Throwable" "suppressedExceptions" "Ljava/util/List;", Cond.lays "java/lang/Throwable" "java/lang/Throwable" "suppressedExceptions" "Ljava/util/List;", Cond.lays "java/lang/IllegalArgumentException" "java/lang/Throwable" "detailMessage" "Ljava/lang/String;", Cond.lays "java/lang/Throwable" "java/lang/Throwable" "detailMessage" "Ljava/lang/String;", Cond.lays "java/lang/IllegalArgumentException" "java/lang/Throwable" "backtrace" "Ljava/lang/Object;", Cond.lays "java/lang/Throwable" "java/lang/Throwable" "backtrace" "Ljava/lang/Object;", Cond.fieldLink "java/lang/Throwable" 198 "java/lang/Throwable" "backtrace" "Ljava/lang/Object;", Cond.superclass "java/lang/Throwable" "java/lang/Object", Cond.instanceMethod ⟨"java/lang/Throwable", "<init>", "()V"⟩, Cond.code ⟨"java/lang/Throwable", "<init>", "()V"⟩ prog_20_method_1_code 1 none, Cond.methodLink "java/lang/Throwable" 1 ⟨"java/lang/Object", "<init>", "()V"⟩, Cond.fieldLink "java/lang/Throwable" 13 "java/lang/Throwable" "UNASSIGNED_STACK" "[Ljava/lang/StackTraceElement;", Cond.fieldLink "java/lang/Throwable" 20 "java/lang/Throwable" "SUPPRESSED_SENTINEL" "Ljava/util/List;", Cond.methodLink "java/lang/Throwable" 27 ⟨"java/lang/Throwable", "fillInStackTrace", "()Ljava/lang/Throwable;"⟩, Cond.instanceMethod ⟨"java/lang/Throwable", "fillInStackTrace", "()Ljava/lang/Throwable;"⟩, Cond.sameMethod "java/lang/Throwable" "java/lang/Throwable" "fillInStackTrace" "()Ljava/lang/Throwable;", Cond.selects "java/lang/ArithmeticException" ⟨"java/lang/Throwable", "fillInStackTrace", "()Ljava/lang/Throwable;"⟩ ⟨"java/lang/Throwable", "fillInStackTrace", "()Ljava/lang/Throwable;"⟩, Cond.selects RJx00060 ⟨"java/lang/Throwable", "fillInStackTrace", "()Ljava/lang/Throwable;"⟩ ⟨"java/lang/Throwable", "fillInStackTrace", "()Ljava/lang/Throwable;"⟩, Cond.selects "java/lang/IllegalStateException" ⟨"java/lang/Throwable", "fillInStackTrace", "()Ljava/lang/Throwable;"⟩ ⟨"java/lang/Throwable", "fillInStackTrace", "()Ljava/lang/Throwable;"⟩]
def bW_8 : List Cond := [Cond.selects "java/lang/IndexOutOfBoundsException" ⟨"java/lang/Throwable", "fillInStackTrace", "()Ljava/lang/Throwable;"⟩ ⟨"java/lang/Throwable", "fillInStackTrace", "()Ljava/lang/Throwable;"⟩, Cond.selects "java/lang/UnsupportedOperationException" ⟨"java/lang/Throwable", "fillInStackTrace", "()Ljava/lang/Throwable;"⟩ ⟨"java/lang/Throwable", "fillInStackTrace", "()Ljava/lang/Throwable;"⟩, Cond.codeSync ⟨"java/lang/Throwable", "fillInStackTrace", "()Ljava/lang/Throwable;"⟩ prog_20_method_18_code 1 (some (.object "java/lang/Throwable")), Cond.methodLink "java/lang/Throwable" 202 ⟨"java/lang/Throwable", "fillInStackTrace", "(I)Ljava/lang/Throwable;"⟩, Cond.instanceMethod ⟨"java/lang/Throwable", "fillInStackTrace", "(I)Ljava/lang/Throwable;"⟩, Cond.instantiable "java/lang/Throwable" 6, Cond.native ⟨"java/lang/Throwable", "fillInStackTrace", "(I)Ljava/lang/Throwable;"⟩, Cond.methodLink RX5 66 ⟨"java/lang/IllegalArgumentException", "<init>", "(Ljava/lang/String;)V"⟩, Cond.instanceMethod ⟨"java/lang/IllegalArgumentException", "<init>", "(Ljava/lang/String;)V"⟩, Cond.code ⟨"java/lang/IllegalArgumentException", "<init>", "(Ljava/lang/String;)V"⟩ prog_12_method_2_code 2 none, Cond.methodLink "java/lang/IllegalArgumentException" 7 ⟨"java/lang/RuntimeException", "<init>", "(Ljava/lang/String;)V"⟩, Cond.instanceMethod ⟨"java/lang/RuntimeException", "<init>", "(Ljava/lang/String;)V"⟩, Cond.code ⟨"java/lang/RuntimeException", "<init>", "(Ljava/lang/String;)V"⟩ prog_15_method_2_code 2 none, Cond.methodLink "java/lang/RuntimeException" 7 ⟨"java/lang/Exception", "<init>", "(Ljava/lang/String;)V"⟩, Cond.instanceMethod ⟨"java/lang/Exception", "<init>", "(Ljava/lang/String;)V"⟩, Cond.code ⟨"java/lang/Exception", "<init>", "(Ljava/lang/String;)V"⟩ prog_11_method_2_code 2 none, Cond.methodLink "java/lang/Exception" 7 ⟨"java/lang/Throwable", "<init>", "(Ljava/lang/String;)V"⟩, Cond.instanceMethod ⟨"java/lang/Throwable", "<init>", "(Ljava/lang/String;)V"⟩, Cond.code ⟨"java/lang/Throwable", "<init>", "(Ljava/lang/String;)V"⟩ prog_20_method_2_code 2 none, Cond.fieldLink "java/lang/Throwable" 198 "java/lang/Throwable" "backtrace" "Ljava/lang/Object;", Cond.fieldLink "java/lang/Throwable" 31 "java/lang/Throwable" "detailMessage" "Ljava/lang/String;", Cond.fieldLink "java/lang/Throwable" 7 "java/lang/Throwable" "cause" "Ljava/lang/Throwable;", Cond.fieldLink "java/lang/Throwable" 17 "java/lang/Throwable" "stackTrace" "[Ljava/lang/StackTraceElement;", Cond.fieldLink "java/lang/Throwable" 24 "java/lang/Throwable" "suppressedExceptions" "Ljava/util/List;"]
def bW_9 : List Cond := [Cond.lays "java/lang/IllegalArgumentException" "java/lang/Throwable" "depth" "I", Cond.superclass "java/lang/IllegalArgumentException" "java/lang/RuntimeException", Cond.arrayClass .byte, Cond.methodLink RL 96 yL_glue, Cond.static yL_glue, Cond.codeWith yL_glue cL_glue 10 (some (.int)) [(0, 12, 15, 13)], Cond.methodLink RL 15 yX5_glue, Cond.instanceMethod yX5_glue, Cond.selects RX5 yX5_glue yX5_glue, Cond.code yX5_glue cX5_glue 9 none, Cond.methodLink RX5 58 yX5_isLength, Cond.static yX5_isLength, Cond.code yX5_isLength cX5_isLength 2 (some (.boolean)), Cond.constantLong RX5 256 (-1073741823), Cond.constantLong RX5 204 (1073741823), Cond.constantLong RX5 69 (3), Cond.methodLink RL 100 yL_set, Cond.static yL_set, Cond.codeWith yL_set cL_set 8 (some (.int)) [(0, 14, 17, 13), (0, 14, 21, 23), (0, 14, 25, 25)], Cond.classLink RL 23 "java/lang/IndexOutOfBoundsException", Cond.instantiable RJx00060 6, Cond.instanceMethod yJx00060_init_a7421, Cond.code yJx00060_init_a7421 cJx00060_init_a7421 2 none, Cond.methodLink RJx00060 7 ⟨"java/lang/IndexOutOfBoundsException", "<init>", "(Ljava/lang/String;)V"⟩]
def bW_10 : List Cond := [Cond.instanceMethod ⟨"java/lang/IndexOutOfBoundsException", "<init>", "(Ljava/lang/String;)V"⟩, Cond.code ⟨"java/lang/IndexOutOfBoundsException", "<init>", "(Ljava/lang/String;)V"⟩ prog_14_method_2_code 2 none, Cond.methodLink "java/lang/IndexOutOfBoundsException" 7 ⟨"java/lang/RuntimeException", "<init>", "(Ljava/lang/String;)V"⟩, Cond.lays RJx00060 "java/lang/Throwable" "backtrace" "Ljava/lang/Object;", Cond.lays RJx00060 "java/lang/Throwable" "detailMessage" "Ljava/lang/String;", Cond.lays RJx00060 "java/lang/Throwable" "cause" "Ljava/lang/Throwable;", Cond.lays RJx00060 "java/lang/Throwable" "stackTrace" "[Ljava/lang/StackTraceElement;", Cond.lays RJx00060 "java/lang/Throwable" "depth" "I", Cond.lays RJx00060 "java/lang/Throwable" "suppressedExceptions" "Ljava/util/List;", Cond.superclass RJx00060 "java/lang/IndexOutOfBoundsException", Cond.selects RJx00060 ⟨"java/lang/Throwable", "fillInStackTrace", "(I)Ljava/lang/Throwable;"⟩ ⟨"java/lang/Throwable", "fillInStackTrace", "(I)Ljava/lang/Throwable;"⟩, Cond.instantiable RJ0 4, Cond.laysFinal RJ0 "java/lang/String" "value" "[B", Cond.laysFinal RJ0 "java/lang/String" "coder" "B", Cond.classLink RL 25 "java/lang/UnsupportedOperationException", Cond.methodLink RL 19 yX5_set, Cond.instanceMethod yX5_set, Cond.selects RX5 yX5_set yX5_set, Cond.code yX5_set cX5_set 7 (some (.int)), Cond.methodLink RX5 77 yX5_checkKind, Cond.static yX5_checkKind, Cond.code yX5_checkKind cX5_checkKind 2 none, Cond.constantLong RX5 81 (-1), Cond.constantLong RX5 83 (999)]
def bW_11 : List Cond := [Cond.methodLink RX5 87 yX5_checkRegister, Cond.static yX5_checkRegister, Cond.code yX5_checkRegister cX5_checkRegister 2 none, Cond.constantLong RX5 260 (31), Cond.classLink RX5 108 "java/lang/IndexOutOfBoundsException", Cond.instantiable "java/lang/IndexOutOfBoundsException" 6, Cond.selects "java/lang/IndexOutOfBoundsException" ⟨"java/lang/Throwable", "fillInStackTrace", "(I)Ljava/lang/Throwable;"⟩ ⟨"java/lang/Throwable", "fillInStackTrace", "(I)Ljava/lang/Throwable;"⟩, Cond.lays "java/lang/IndexOutOfBoundsException" "java/lang/Throwable" "cause" "Ljava/lang/Throwable;", Cond.lays "java/lang/IndexOutOfBoundsException" "java/lang/Throwable" "stackTrace" "[Ljava/lang/StackTraceElement;", Cond.lays "java/lang/IndexOutOfBoundsException" "java/lang/Throwable" "suppressedExceptions" "Ljava/util/List;", Cond.lays "java/lang/IndexOutOfBoundsException" "java/lang/Throwable" "detailMessage" "Ljava/lang/String;", Cond.lays "java/lang/IndexOutOfBoundsException" "java/lang/Throwable" "backtrace" "Ljava/lang/Object;", Cond.methodLink RX5 112 ⟨"java/lang/IndexOutOfBoundsException", "<init>", "(Ljava/lang/String;)V"⟩, Cond.lays "java/lang/IndexOutOfBoundsException" "java/lang/Throwable" "depth" "I", Cond.superclass "java/lang/IndexOutOfBoundsException" "java/lang/RuntimeException", Cond.methodLink RX5 91 yX5_makeGiven, Cond.instanceMethod yX5_makeGiven, Cond.code yX5_makeGiven cX5_makeGiven 4 none, Cond.methodLink RX5 268 ⟨"java/lang/System", "arraycopy", "(Ljava/lang/Object;ILjava/lang/Object;II)V"⟩, Cond.static ⟨"java/lang/System", "arraycopy", "(Ljava/lang/Object;ILjava/lang/Object;II)V"⟩, Cond.native ⟨"java/lang/System", "arraycopy", "(Ljava/lang/Object;ILjava/lang/Object;II)V"⟩, Cond.methodLink RX5 95 yX5_putMade, Cond.instanceMethod yX5_putMade, Cond.code yX5_putMade cX5_putMade 5 (some (.int))]
def bW_12 : List Cond := [Cond.methodLink RX5 274 yX5_madeFits, Cond.instanceMethod yX5_madeFits, Cond.code yX5_madeFits cX5_madeFits 2 (some (.boolean)), Cond.methodLink RX5 126 yX5_isCount, Cond.static yX5_isCount, Cond.code yX5_isCount cX5_isCount 2 (some (.boolean)), Cond.constantLong RX5 252 (-2147483647), Cond.constantLong RX5 254 (2147483647), Cond.methodLink RX5 249 yX0_place, Cond.static yX0_place, Cond.code yX0_place cX0_place 2 (some (.int)), Cond.classLink RX5 138 "java/lang/UnsupportedOperationException", Cond.instantiable "java/lang/UnsupportedOperationException" 6, Cond.selects "java/lang/UnsupportedOperationException" ⟨"java/lang/Throwable", "fillInStackTrace", "(I)Ljava/lang/Throwable;"⟩ ⟨"java/lang/Throwable", "fillInStackTrace", "(I)Ljava/lang/Throwable;"⟩, Cond.lays "java/lang/UnsupportedOperationException" "java/lang/Throwable" "cause" "Ljava/lang/Throwable;", Cond.lays "java/lang/UnsupportedOperationException" "java/lang/Throwable" "stackTrace" "[Ljava/lang/StackTraceElement;", Cond.lays "java/lang/UnsupportedOperationException" "java/lang/Throwable" "suppressedExceptions" "Ljava/util/List;", Cond.lays "java/lang/UnsupportedOperationException" "java/lang/Throwable" "detailMessage" "Ljava/lang/String;", Cond.lays "java/lang/UnsupportedOperationException" "java/lang/Throwable" "backtrace" "Ljava/lang/Object;", Cond.methodLink RX5 142 ⟨"java/lang/UnsupportedOperationException", "<init>", "(Ljava/lang/String;)V"⟩, Cond.instanceMethod ⟨"java/lang/UnsupportedOperationException", "<init>", "(Ljava/lang/String;)V"⟩, Cond.code ⟨"java/lang/UnsupportedOperationException", "<init>", "(Ljava/lang/String;)V"⟩ prog_21_method_2_code 2 none, Cond.methodLink "java/lang/UnsupportedOperationException" 7 ⟨"java/lang/RuntimeException", "<init>", "(Ljava/lang/String;)V"⟩, Cond.lays "java/lang/UnsupportedOperationException" "java/lang/Throwable" "depth" "I"]
def bW_13 : List Cond := [Cond.superclass "java/lang/UnsupportedOperationException" "java/lang/RuntimeException", Cond.methodLink RX5 280 yX3_keep, Cond.instanceMethod yX3_keep, Cond.selects RX3 yX3_keep yX3_keep, Cond.code yX3_keep cX3_keep 4 none, Cond.methodLink RX3 32 yX0_place, Cond.methodLink RX3 37 yX0_home, Cond.methodLink RX3 43 ⟨"java/lang/System", "arraycopy", "(Ljava/lang/Object;ILjava/lang/Object;II)V"⟩, Cond.methodLink RX5 284 yX0_copyFrom, Cond.instanceMethod yX0_copyFrom, Cond.selects RX0 yX0_copyFrom yX0_copyFrom, Cond.code yX0_copyFrom cX0_copyFrom 5 none, Cond.methodLink RX0 31 ⟨"java/lang/System", "arraycopy", "(Ljava/lang/Object;ILjava/lang/Object;II)V"⟩, Cond.methodLink RL 104 yL_get, Cond.static yL_get, Cond.codeWith yL_get cL_get 5 (some (.int)) [(0, 9, 12, 13), (0, 9, 16, 23)], Cond.methodLink RL 27 yX5_get, Cond.instanceMethod yX5_get, Cond.selects RX5 yX5_get yX5_get, Cond.code yX5_get cX5_get 3 (some (.long)), Cond.methodLink RX5 102 yX0_home, Cond.methodLink RL 108 yL_part, Cond.static yL_part, Cond.codeWith yL_part cL_part 5 (some (.int)) [(0, 9, 12, 23)]]
def bW_14 : List Cond := [Cond.methodLink RL 31 yX5_part, Cond.instanceMethod yX5_part, Cond.selects RX5 yX5_part yX5_part, Cond.code yX5_part cX5_part 3 (some (.long)), Cond.constantLong RX5 106 (4), Cond.methodLink RL 111 yL_at, Cond.static yL_at, Cond.codeWith yL_at cL_at 5 (some (.int)) [(0, 10, 13, 23)], Cond.methodLink RL 34 yX5_at, Cond.instanceMethod yX5_at, Cond.selects RX5 yX5_at yX5_at, Cond.code yX5_at cX5_at 4 (some (.int)), Cond.methodLink RL 114 yL_add, Cond.static yL_add, Cond.codeWith yL_add cL_add 8 (some (.int)) [(0, 14, 17, 13), (0, 14, 21, 23), (0, 14, 25, 25)], Cond.methodLink RL 38 yX5_add, Cond.instanceMethod yX5_add, Cond.selects RX5 yX5_add yX5_add, Cond.code yX5_add cX5_add 6 (some (.int)), Cond.methodLink RX5 115 yX0_copyTo, Cond.instanceMethod yX0_copyTo, Cond.selects RX0 yX0_copyTo yX0_copyTo, Cond.code yX0_copyTo cX0_copyTo 4 none, Cond.methodLink RX5 119 yX5_addGlue]
def bW_15 : List Cond := [Cond.instanceMethod yX5_addGlue, Cond.code yX5_addGlue cX5_addGlue 2 none, Cond.methodLink RX5 288 yX5_addFlexible, Cond.instanceMethod yX5_addFlexible, Cond.code yX5_addFlexible cX5_addFlexible 8 none, Cond.constantLong RX5 122 (-4294967294), Cond.constantLong RX5 124 (4294967294), Cond.methodLink RL 117 yL_multiply, Cond.static yL_multiply, Cond.codeWith yL_multiply cL_multiply 8 (some (.int)) [(0, 14, 17, 13), (0, 14, 21, 23), (0, 14, 25, 25)], Cond.methodLink RL 41 yX5_multiply, Cond.instanceMethod yX5_multiply, Cond.selects RX5 yX5_multiply yX5_multiply, Cond.code yX5_multiply cX5_multiply 6 (some (.int)), Cond.methodLink RL 120 yL_divide, Cond.static yL_divide, Cond.codeWith yL_divide cL_divide 8 (some (.int)) [(0, 14, 17, 13), (0, 14, 21, 23), (0, 14, 25, 47), (0, 14, 29, 25)], Cond.classLink RL 47 "java/lang/ArithmeticException", Cond.instantiable "java/lang/ArithmeticException" 6, Cond.instanceMethod ⟨"java/lang/ArithmeticException", "<init>", "(Ljava/lang/String;)V"⟩, Cond.code ⟨"java/lang/ArithmeticException", "<init>", "(Ljava/lang/String;)V"⟩ prog_9_method_2_code 2 none, Cond.methodLink "java/lang/ArithmeticException" 7 ⟨"java/lang/RuntimeException", "<init>", "(Ljava/lang/String;)V"⟩, Cond.lays "java/lang/ArithmeticException" "java/lang/Throwable" "backtrace" "Ljava/lang/Object;", Cond.lays "java/lang/ArithmeticException" "java/lang/Throwable" "detailMessage" "Ljava/lang/String;"]
def bW_16 : List Cond := [Cond.lays "java/lang/ArithmeticException" "java/lang/Throwable" "cause" "Ljava/lang/Throwable;", Cond.lays "java/lang/ArithmeticException" "java/lang/Throwable" "stackTrace" "[Ljava/lang/StackTraceElement;", Cond.lays "java/lang/ArithmeticException" "java/lang/Throwable" "depth" "I", Cond.lays "java/lang/ArithmeticException" "java/lang/Throwable" "suppressedExceptions" "Ljava/util/List;", Cond.superclass "java/lang/ArithmeticException" "java/lang/RuntimeException", Cond.selects "java/lang/ArithmeticException" ⟨"java/lang/Throwable", "fillInStackTrace", "(I)Ljava/lang/Throwable;"⟩ ⟨"java/lang/Throwable", "fillInStackTrace", "(I)Ljava/lang/Throwable;"⟩, Cond.methodLink RL 44 yX5_divide, Cond.instanceMethod yX5_divide, Cond.selects RX5 yX5_divide yX5_divide, Cond.code yX5_divide cX5_divide 6 (some (.int)), Cond.classLink RX5 129 "java/lang/ArithmeticException", Cond.methodLink RX5 133 ⟨"java/lang/ArithmeticException", "<init>", "(Ljava/lang/String;)V"⟩, Cond.methodLink RL 123 yL_take, Cond.static yL_take, Cond.codeWith yL_take cL_take 4 (some (.int)) [(0, 9, 12, 23)], Cond.methodLink RL 49 yX5_take, Cond.instanceMethod yX5_take, Cond.selects RX5 yX5_take yX5_take, Cond.code yX5_take cX5_take 4 (some (.int)), Cond.methodLink RL 126 yL_group, Cond.static yL_group, Cond.codeWith yL_group cL_group 3 (some (.int)) [(0, 8, 11, 25)], Cond.methodLink RL 52 yX5_group, Cond.instanceMethod yX5_group]
def bW_17 : List Cond := [Cond.selects RX5 yX5_group yX5_group, Cond.code yX5_group cX5_group 1 (some (.int)), Cond.methodLink RX5 146 yX2_open, Cond.instanceMethod yX2_open, Cond.selects RX2 yX2_open yX2_open, Cond.code yX2_open cX2_open 2 none, Cond.methodLink RL 130 yL_after, Cond.static yL_after, Cond.codeWith yL_after cL_after 4 (some (.int)) [(0, 9, 12, 13), (0, 9, 15, 59), (0, 9, 18, 25)], Cond.classLink RL 59 "java/lang/IllegalStateException", Cond.methodLink RL 56 yX5_after, Cond.instanceMethod yX5_after, Cond.selects RX5 yX5_after yX5_after, Cond.code yX5_after cX5_after 2 (some (.int)), Cond.classLink RX5 149 "java/lang/IllegalStateException", Cond.instantiable "java/lang/IllegalStateException" 6, Cond.selects "java/lang/IllegalStateException" ⟨"java/lang/Throwable", "fillInStackTrace", "(I)Ljava/lang/Throwable;"⟩ ⟨"java/lang/Throwable", "fillInStackTrace", "(I)Ljava/lang/Throwable;"⟩, Cond.lays "java/lang/IllegalStateException" "java/lang/Throwable" "cause" "Ljava/lang/Throwable;", Cond.lays "java/lang/IllegalStateException" "java/lang/Throwable" "stackTrace" "[Ljava/lang/StackTraceElement;", Cond.lays "java/lang/IllegalStateException" "java/lang/Throwable" "suppressedExceptions" "Ljava/util/List;", Cond.lays "java/lang/IllegalStateException" "java/lang/Throwable" "detailMessage" "Ljava/lang/String;", Cond.lays "java/lang/IllegalStateException" "java/lang/Throwable" "backtrace" "Ljava/lang/Object;", Cond.methodLink RX5 153 ⟨"java/lang/IllegalStateException", "<init>", "(Ljava/lang/String;)V"⟩, Cond.instanceMethod ⟨"java/lang/IllegalStateException", "<init>", "(Ljava/lang/String;)V"⟩]
def bW_18 : List Cond := [Cond.code ⟨"java/lang/IllegalStateException", "<init>", "(Ljava/lang/String;)V"⟩ prog_13_method_2_code 2 none, Cond.methodLink "java/lang/IllegalStateException" 7 ⟨"java/lang/RuntimeException", "<init>", "(Ljava/lang/String;)V"⟩, Cond.lays "java/lang/IllegalStateException" "java/lang/Throwable" "depth" "I", Cond.superclass "java/lang/IllegalStateException" "java/lang/RuntimeException", Cond.methodLink RX5 157 yX2_append, Cond.instanceMethod yX2_append, Cond.selects RX2 yX2_append yX2_append, Cond.code yX2_append cX2_append 2 none, Cond.methodLink RX5 160 yX2_firstToken, Cond.instanceMethod yX2_firstToken, Cond.selects RX2 yX2_firstToken yX2_firstToken, Cond.code yX2_firstToken cX2_firstToken 1 (some (.int)), Cond.methodLink RL 133 yL_end, Cond.static yL_end, Cond.codeWith yL_end cL_end 3 (some (.int)) [(0, 8, 11, 59)], Cond.methodLink RL 61 yX5_end, Cond.instanceMethod yX5_end, Cond.selects RX5 yX5_end yX5_end, Cond.code yX5_end cX5_end 1 (some (.int)), Cond.methodLink RX5 164 yX1_clear, Cond.instanceMethod yX1_clear, Cond.selects RX1 yX1_clear yX1_clear, Cond.code yX1_clear cX1_clear 1 none, Cond.methodLink RX5 167 yX2_firstKept]
def bW_19 : List Cond := [Cond.instanceMethod yX2_firstKept, Cond.selects RX2 yX2_firstKept yX2_firstKept, Cond.code yX2_firstKept cX2_firstKept 1 (some (.int)), Cond.methodLink RX5 170 yX5_giveBackKept, Cond.instanceMethod yX5_giveBackKept, Cond.code yX5_giveBackKept cX5_giveBackKept 7 none, Cond.methodLink RX5 296 yX1_append, Cond.instanceMethod yX1_append, Cond.selects RX1 yX1_append yX1_append, Cond.code yX1_append cX1_append 4 none, Cond.methodLink RX5 173 yX1_copyTokens, Cond.instanceMethod yX1_copyTokens, Cond.selects RX1 yX1_copyTokens yX1_copyTokens, Cond.code yX1_copyTokens cX1_copyTokens 3 none, Cond.methodLink RX1 34 yX2_firstToken, Cond.methodLink RX1 42 yX1_appendToken, Cond.instanceMethod yX1_appendToken, Cond.selects RX1 yX1_appendToken yX1_appendToken, Cond.code yX1_appendToken cX1_appendToken 2 none, Cond.methodLink RX5 177 yX2_close, Cond.instanceMethod yX2_close, Cond.selects RX2 yX2_close yX2_close, Cond.code yX2_close cX2_close 1 none, Cond.methodLink RX2 28 yX2_firstToken]
def bW_20 : List Cond := [Cond.methodLink RL 136 yL_restored, Cond.static yL_restored, Cond.codeWith yL_restored cL_restored 5 (some (.int)) [(0, 10, 13, 23)], Cond.methodLink RL 64 yX5_restored, Cond.instanceMethod yX5_restored, Cond.selects RX5 yX5_restored yX5_restored, Cond.code yX5_restored cX5_restored 3 (some (.int)), Cond.constantLong RX5 184 (2), Cond.methodLink RL 143 yL_scaled, Cond.static yL_scaled, Cond.codeWith yL_scaled cL_scaled 6 (some (.int)) [(0, 11, 14, 13)], Cond.methodLink RL 67 yX5_scaled, Cond.instanceMethod yX5_scaled, Cond.selects RX5 yX5_scaled yX5_scaled, Cond.code yX5_scaled cX5_scaled 6 (some (.long)), Cond.constantLong RX5 206 (8), Cond.constantLong RX5 210 (65535), Cond.fieldLink RX5 214 "RegisterRows" "NUMERATORS" "[J", Cond.fieldLink RX5 217 "RegisterRows" "DENOMINATORS" "[J", Cond.methodLink RX5 220 yX5_inPoints, Cond.static yX5_inPoints, Cond.code yX5_inPoints cX5_inPoints 12 (some (.long)), Cond.constantLong RX5 299 (65536), Cond.methodLink RL 147 yL_fraction]
def bW_21 : List Cond := [Cond.static yL_fraction, Cond.codeWith yL_fraction cL_fraction 5 (some (.int)) [(0, 10, 13, 13)], Cond.methodLink RL 71 yX5_fraction, Cond.instanceMethod yX5_fraction, Cond.selects RX5 yX5_fraction yX5_fraction, Cond.code yX5_fraction cX5_fraction 7 (some (.int)), Cond.constantLong RX5 224 (9), Cond.constantLong RX5 228 (131072), Cond.constantLong RX5 230 (10), Cond.methodLink RL 150 yL_shown, Cond.static yL_shown, Cond.codeWith yL_shown cL_shown 6 (some (.int)) [(0, 12, 15, 13), (0, 12, 19, 23)], Cond.methodLink RL 74 yX5_shown, Cond.instanceMethod yX5_shown, Cond.selects RX5 yX5_shown yX5_shown, Cond.code yX5_shown cX5_shown 4 (some (.int)), Cond.methodLink RX5 234 yX4_clear, Cond.instanceMethod yX4_clear, Cond.selects RX4 yX4_clear yX4_clear, Cond.code yX4_clear cX4_clear 1 none, Cond.methodLink RX5 235 yX5_writeRegister, Cond.instanceMethod yX5_writeRegister, Cond.code yX5_writeRegister cX5_writeRegister 3 none, Cond.methodLink RX5 301 yX4_writeNumber]
def bW_22 : List Cond := [Cond.instanceMethod yX4_writeNumber, Cond.selects RX4 yX4_writeNumber yX4_writeNumber, Cond.code yX4_writeNumber cX4_writeNumber 3 none, Cond.methodLink RX4 29 yX4_write, Cond.instanceMethod yX4_write, Cond.selects RX4 yX4_write yX4_write, Cond.code yX4_write cX4_write 2 none, Cond.methodLink RX4 33 yX4_writeDigits, Cond.instanceMethod yX4_writeDigits, Cond.selects RX4 yX4_writeDigits yX4_writeDigits, Cond.code yX4_writeDigits cX4_writeDigits 6 none, Cond.constantLong RX4 37 (10), Cond.methodLink RX5 304 yX4_writeLength, Cond.instanceMethod yX4_writeLength, Cond.selects RX4 yX4_writeLength yX4_writeLength, Cond.code yX4_writeLength cX4_writeLength 5 none, Cond.constantLong RX4 39 (65536), Cond.methodLink RX4 41 yX4_writeFraction, Cond.instanceMethod yX4_writeFraction, Cond.selects RX4 yX4_writeFraction yX4_writeFraction, Cond.code yX4_writeFraction cX4_writeFraction 8 none, Cond.constantLong RX4 44 (5), Cond.constantLong RX4 46 (17232), Cond.methodLink RX5 307 yX5_writeGlue]
def bW_23 : List Cond := [Cond.instanceMethod yX5_writeGlue, Cond.code yX5_writeGlue cX5_writeGlue 2 none, Cond.methodLink RX5 315 yX4_writeText, Cond.instanceMethod yX4_writeText, Cond.selects RX4 yX4_writeText yX4_writeText, Cond.code yX4_writeText cX4_writeText 3 none, Cond.methodLink RX4 19 yJ0_length_8abf5, Cond.instanceMethod yJ0_length_8abf5, Cond.selects RJ0 yJ0_length_8abf5 yJ0_length_8abf5, Cond.code yJ0_length_8abf5 cJ0_length_8abf5 1 (some (.int)), Cond.methodLink RJ0 335 yJ0_coder_7d493, Cond.instanceMethod yJ0_coder_7d493, Cond.selects RJ0 yJ0_coder_7d493 yJ0_coder_7d493, Cond.code yJ0_coder_7d493 cJ0_coder_7d493 1 (some (.byte)), Cond.fieldLink RJ0 38 "java/lang/String" "COMPACT_STRINGS" "Z", Cond.methodLink RX4 25 yJ0_charAt_5068e, Cond.instanceMethod yJ0_charAt_5068e, Cond.selects RJ0 yJ0_charAt_5068e yJ0_charAt_5068e, Cond.code yJ0_charAt_5068e cJ0_charAt_5068e 2 (some (.char)), Cond.methodLink RJ0 492 yJ0_isLatin1_aae02, Cond.instanceMethod yJ0_isLatin1_aae02, Cond.selects RJ0 yJ0_isLatin1_aae02 yJ0_isLatin1_aae02, Cond.code yJ0_isLatin1_aae02 cJ0_isLatin1_aae02 1 (some (.boolean)), Cond.methodLink RJ0 495 yJ1_charAt_3b067]
def bW_24 : List Cond := [Cond.static yJ1_charAt_3b067, Cond.code yJ1_charAt_3b067 cJ1_charAt_3b067 2 (some (.char)), Cond.methodLink RJ1 9 yJ0_checkIndex_df160, Cond.static yJ0_checkIndex_df160, Cond.code yJ0_checkIndex_df160 cJ0_checkIndex_df160 2 none, Cond.fieldLink RJ0 1053 "jdk/internal/util/Preconditions" "SIOOBE_FORMATTER" "Ljava/util/function/BiFunction;", Cond.methodLink RJ0 1059 yJ3_checkIndex_8e157, Cond.static yJ3_checkIndex_8e157, Cond.code yJ3_checkIndex_8e157 cJ3_checkIndex_8e157 3 (some (.int)), Cond.methodLink RJ0 498 yJ2_charAt_3b067, Cond.static yJ2_charAt_3b067, Cond.code yJ2_charAt_3b067 cJ2_charAt_3b067 2 (some (.char)), Cond.methodLink RJ2 67 yJ2_checkIndex_2214a, Cond.static yJ2_checkIndex_2214a, Cond.code yJ2_checkIndex_2214a cJ2_checkIndex_2214a 2 none, Cond.methodLink RJ2 48 yJ2_length_9d52b, Cond.static yJ2_length_9d52b, Cond.code yJ2_length_9d52b cJ2_length_9d52b 1 (some (.int)), Cond.methodLink RJ2 414 yJ0_checkIndex_df160, Cond.methodLink RJ2 71 yJ2_getChar_3b067, Cond.static yJ2_getChar_3b067, Cond.code yJ2_getChar_3b067 cJ2_getChar_3b067 2 (some (.char)), Cond.fieldLink RJ2 44 "java/lang/StringUTF16" "$assertionsDisabled" "Z", Cond.fieldLink RJ2 59 "java/lang/StringUTF16" "HI_BYTE_SHIFT" "I"]
def bW_25 : List Cond := [Cond.fieldLink RJ2 63 "java/lang/StringUTF16" "LO_BYTE_SHIFT" "I", Cond.methodLink RX5 322 yX5_writeFlexible, Cond.instanceMethod yX5_writeFlexible, Cond.code yX5_writeFlexible cX5_writeFlexible 3 none, Cond.methodLink RX5 328 yX5_orderName, Cond.static yX5_orderName, Cond.code yX5_orderName cX5_orderName 2 (some (.object "java/lang/String")), Cond.methodLink RX5 310 yX5_writeRow, Cond.instanceMethod yX5_writeRow, Cond.code yX5_writeRow cX5_writeRow 3 none, Cond.methodLink RX5 338 yX4_write, Cond.methodLink RX5 238 yX4_signAt, Cond.instanceMethod yX4_signAt, Cond.selects RX4 yX4_signAt yX4_signAt, Cond.code yX4_signAt cX4_signAt 2 (some (.int)), Cond.methodLink RL 153 yL_told, Cond.static yL_told, Cond.codeWith yL_told cL_told 5 (some (.int)) [(0, 10, 13, 13), (0, 10, 17, 23)], Cond.methodLink RL 78 yX5_told, Cond.instanceMethod yX5_told, Cond.selects RX5 yX5_told yX5_told, Cond.code yX5_told cX5_told 3 (some (.int)), Cond.constantLong RX5 242 (14), Cond.classLink RL 82 RX6]
def bW_26 : List Cond := [Cond.instantiable RX6 24, Cond.methodLink RL 84 yX6_init, Cond.instanceMethod yX6_init, Cond.code yX6_init cX6_init 2 none, Cond.methodLink RX6 1 ⟨"java/lang/Object", "<init>", "()V"⟩, Cond.constantLong RX6 59 (-1), Cond.fieldLink RX6 61 "RegisterRowsModel" "thrown" "I", Cond.fieldLink RX6 7 "RegisterRowsModel" "cells" "[J", Cond.fieldLink RX6 13 "RegisterRowsModel" "levels" "[I", Cond.fieldLink RX6 91 "RegisterRowsModel" "depth" "I", Cond.fieldLink RX6 94 "RegisterRowsModel" "kept" "I", Cond.fieldLink RX6 17 "RegisterRowsModel" "keptCells" "[J", Cond.fieldLink RX6 20 "RegisterRowsModel" "keptOf" "[I", Cond.fieldLink RX6 23 "RegisterRowsModel" "keptLevel" "[I", Cond.fieldLink RX6 26 "RegisterRowsModel" "keptDepth" "[I", Cond.fieldLink RX6 29 "RegisterRowsModel" "waitingGlue" "[J", Cond.fieldLink RX6 32 "RegisterRowsModel" "waitingRow" "[J", Cond.fieldLink RX6 35 "RegisterRowsModel" "value" "[J", Cond.fieldLink RX6 138 "RegisterRowsModel" "told" "I", Cond.fieldLink RX6 38 "RegisterRowsModel" "toldToken" "[I", Cond.fieldLink RX6 41 "RegisterRowsModel" "toldDepth" "[I", Cond.fieldLink RX6 141 "RegisterRowsModel" "gone" "I", Cond.fieldLink RX6 44 "RegisterRowsModel" "goneOf" "[I", Cond.fieldLink RX6 47 "RegisterRowsModel" "goneAgain" "[I"]
def bW_27 : List Cond := [Cond.fieldLink RX6 144 "RegisterRowsModel" "behind" "I", Cond.fieldLink RX6 50 "RegisterRowsModel" "behindToken" "[I", Cond.fieldLink RX6 186 "RegisterRowsModel" "size" "I", Cond.fieldLink RX6 53 "RegisterRowsModel" "text" "[I", Cond.fieldLink RX6 193 "RegisterRowsModel" "backSize" "I", Cond.fieldLink RX6 56 "RegisterRowsModel" "back" "[I", Cond.lays RX6 "RegisterRowsModel" "thrown" "I", Cond.laysFinal RX6 "RegisterRowsModel" "cells" "[J", Cond.laysFinal RX6 "RegisterRowsModel" "levels" "[I", Cond.lays RX6 "RegisterRowsModel" "depth" "I", Cond.lays RX6 "RegisterRowsModel" "kept" "I", Cond.laysFinal RX6 "RegisterRowsModel" "keptCells" "[J", Cond.laysFinal RX6 "RegisterRowsModel" "keptOf" "[I", Cond.laysFinal RX6 "RegisterRowsModel" "keptLevel" "[I", Cond.laysFinal RX6 "RegisterRowsModel" "keptDepth" "[I", Cond.laysFinal RX6 "RegisterRowsModel" "waitingGlue" "[J", Cond.laysFinal RX6 "RegisterRowsModel" "waitingRow" "[J", Cond.laysFinal RX6 "RegisterRowsModel" "value" "[J", Cond.lays RX6 "RegisterRowsModel" "told" "I", Cond.laysFinal RX6 "RegisterRowsModel" "toldToken" "[I", Cond.laysFinal RX6 "RegisterRowsModel" "toldDepth" "[I", Cond.lays RX6 "RegisterRowsModel" "gone" "I", Cond.laysFinal RX6 "RegisterRowsModel" "goneOf" "[I", Cond.laysFinal RX6 "RegisterRowsModel" "goneAgain" "[I"]
def bW_28 : List Cond := [Cond.lays RX6 "RegisterRowsModel" "behind" "I", Cond.laysFinal RX6 "RegisterRowsModel" "behindToken" "[I", Cond.lays RX6 "RegisterRowsModel" "size" "I", Cond.laysFinal RX6 "RegisterRowsModel" "text" "[I", Cond.lays RX6 "RegisterRowsModel" "backSize" "I", Cond.laysFinal RX6 "RegisterRowsModel" "back" "[I", Cond.superclass RX6 "java/lang/Object", Cond.methodLink RL 91 yX6_thrown, Cond.instanceMethod yX6_thrown, Cond.selects RX6 yX6_thrown yX6_thrown, Cond.code yX6_thrown cX6_thrown 1 (some (.int)), Cond.methodLink RL 90 yX6_token, Cond.instanceMethod yX6_token, Cond.selects RX6 yX6_token yX6_token, Cond.code yX6_token cX6_token 2 (some (.int)), Cond.constantLong RX6 77 (255), Cond.methodLink RX6 67 yX6_in, Cond.static yX6_in, Cond.code yX6_in cX6_in 6 (some (.boolean)), Cond.constantLong RX6 79 (20), Cond.methodLink RL 99 yX6_glue, Cond.instanceMethod yX6_glue, Cond.selects RX6 yX6_glue yX6_glue, Cond.code yX6_glue cX6_glue 10 none]
def bW_29 : List Cond := [Cond.methodLink RX6 81 yX6_isLength, Cond.static yX6_isLength, Cond.code yX6_isLength cX6_isLength 2 (some (.boolean)), Cond.constantLong RX6 73 (-1073741823), Cond.constantLong RX6 75 (1073741823), Cond.constantLong RX6 85 (3), Cond.methodLink RL 103 yX6_set, Cond.instanceMethod yX6_set, Cond.selects RX6 yX6_set yX6_set, Cond.code yX6_set cX6_set 7 (some (.int)), Cond.methodLink RX6 109 yX6_isKind, Cond.static yX6_isKind, Cond.code yX6_isKind cX6_isKind 1 (some (.boolean)), Cond.constantLong RX6 65 (4), Cond.constantLong RX6 112 (999), Cond.methodLink RX6 114 yX6_isRegister, Cond.static yX6_isRegister, Cond.code yX6_isRegister cX6_isRegister 1 (some (.boolean)), Cond.constantLong RX6 71 (31), Cond.methodLink RX6 117 yX6_finish, Cond.instanceMethod yX6_finish, Cond.code yX6_finish cX6_finish 6 (some (.int)), Cond.methodLink RX6 97 yX6_isWithin, Cond.instanceMethod yX6_isWithin]
def bW_30 : List Cond := [Cond.code yX6_isWithin cX6_isWithin 2 (some (.boolean)), Cond.constantLong RX6 87 (-2147483647), Cond.constantLong RX6 89 (2147483647), Cond.methodLink RX6 101 yX6_isFull, Cond.instanceMethod yX6_isFull, Cond.code yX6_isFull cX6_isFull 3 (some (.boolean)), Cond.methodLink RX6 105 yX6_put, Cond.instanceMethod yX6_put, Cond.code yX6_put cX6_put 4 none, Cond.methodLink RL 116 yX6_add, Cond.instanceMethod yX6_add, Cond.selects RX6 yX6_add yX6_add, Cond.code yX6_add cX6_add 6 (some (.int)), Cond.constantLong RX6 121 (2), Cond.methodLink RX6 123 yX6_fetch, Cond.instanceMethod yX6_fetch, Cond.code yX6_fetch cX6_fetch 4 none, Cond.methodLink RX6 127 yX6_addPart, Cond.instanceMethod yX6_addPart, Cond.code yX6_addPart cX6_addPart 9 none, Cond.constantLong RX6 130 (-6442450941), Cond.constantLong RX6 132 (6442450941), Cond.methodLink RL 119 yX6_multiply, Cond.instanceMethod yX6_multiply]
def bW_31 : List Cond := [Cond.selects RX6 yX6_multiply yX6_multiply, Cond.code yX6_multiply cX6_multiply 6 (some (.int)), Cond.methodLink RX6 134 yX6_scale, Cond.instanceMethod yX6_scale, Cond.code yX6_scale cX6_scale 6 none, Cond.methodLink RL 122 yX6_divide, Cond.instanceMethod yX6_divide, Cond.selects RX6 yX6_divide yX6_divide, Cond.code yX6_divide cX6_divide 6 (some (.int)), Cond.methodLink RL 125 yX6_take, Cond.instanceMethod yX6_take, Cond.selects RX6 yX6_take yX6_take, Cond.code yX6_take cX6_take 4 (some (.int)), Cond.methodLink RL 129 yX6_group, Cond.instanceMethod yX6_group, Cond.selects RX6 yX6_group yX6_group, Cond.code yX6_group cX6_group 1 (some (.int)), Cond.methodLink RL 132 yX6_after, Cond.instanceMethod yX6_after, Cond.selects RX6 yX6_after yX6_after, Cond.code yX6_after cX6_after 4 (some (.int)), Cond.methodLink RL 135 yX6_end, Cond.instanceMethod yX6_end, Cond.selects RX6 yX6_end yX6_end]
def bW_32 : List Cond := [Cond.code yX6_end cX6_end 4 (some (.int)), Cond.methodLink RL 138 yX6_restored, Cond.instanceMethod yX6_restored, Cond.selects RX6 yX6_restored yX6_restored, Cond.code yX6_restored cX6_restored 3 (some (.int)), Cond.methodLink RL 142 yX6_behind, Cond.instanceMethod yX6_behind, Cond.selects RX6 yX6_behind yX6_behind, Cond.code yX6_behind cX6_behind 2 (some (.int)), Cond.methodLink RL 107 yX6_get, Cond.instanceMethod yX6_get, Cond.selects RX6 yX6_get yX6_get, Cond.code yX6_get cX6_get 3 (some (.long)), Cond.methodLink RL 110 yX6_part, Cond.instanceMethod yX6_part, Cond.selects RX6 yX6_part yX6_part, Cond.code yX6_part cX6_part 3 (some (.long)), Cond.methodLink RL 113 yX6_at, Cond.instanceMethod yX6_at, Cond.selects RX6 yX6_at yX6_at, Cond.code yX6_at cX6_at 4 (some (.int)), Cond.methodLink RL 155 yX6_told, Cond.instanceMethod yX6_told, Cond.selects RX6 yX6_told yX6_told]
def bW_33 : List Cond := [Cond.code yX6_told cX6_told 4 (some (.int)), Cond.constantLong RX6 147 (10), Cond.constantLong RX6 149 (14), Cond.methodLink RL 146 yX6_scaled, Cond.instanceMethod yX6_scaled, Cond.selects RX6 yX6_scaled yX6_scaled, Cond.code yX6_scaled cX6_scaled 10 (some (.long)), Cond.constantLong RX6 169 (65535), Cond.constantLong RX6 171 (8), Cond.methodLink RX6 173 yX6_upOf, Cond.static yX6_upOf, Cond.code yX6_upOf cX6_upOf 1 (some (.long)), Cond.constantLong RX6 151 (12), Cond.constantLong RX6 153 (1238), Cond.constantLong RX6 155 (14856), Cond.constantLong RX6 157 (7227), Cond.constantLong RX6 177 (65536), Cond.methodLink RX6 179 yX6_lowOf, Cond.static yX6_lowOf, Cond.code yX6_lowOf cX6_lowOf 1 (some (.long)), Cond.constantLong RX6 159 (100), Cond.constantLong RX6 161 (254), Cond.constantLong RX6 163 (2540), Cond.constantLong RX6 165 (7200)]
def bW_34 : List Cond := [Cond.constantLong RX6 167 (1157), Cond.methodLink RL 149 yX6_fraction, Cond.instanceMethod yX6_fraction, Cond.selects RX6 yX6_fraction yX6_fraction, Cond.code yX6_fraction cX6_fraction 10 (some (.int)), Cond.constantLong RX6 182 (9), Cond.constantLong RX6 184 (131072), Cond.methodLink RL 152 yX6_shown, Cond.instanceMethod yX6_shown, Cond.selects RX6 yX6_shown yX6_shown, Cond.code yX6_shown cX6_shown 6 (some (.int)), Cond.methodLink RX6 206 yX6_sayLength, Cond.instanceMethod yX6_sayLength, Cond.code yX6_sayLength cX6_sayLength 10 none, Cond.methodLink RX6 189 yX6_say, Cond.instanceMethod yX6_say, Cond.code yX6_say cX6_say 2 none, Cond.methodLink RX6 198 yX6_sayNumber, Cond.instanceMethod yX6_sayNumber, Cond.code yX6_sayNumber cX6_sayNumber 5 none, Cond.constantLong RX6 196 (48), Cond.constantLong RX6 202 (5), Cond.constantLong RX6 204 (17232), Cond.methodLink RX6 216 yX6_sayGlue]
def bW_35 : List Cond := [Cond.instanceMethod yX6_sayGlue, Cond.code yX6_sayGlue cX6_sayGlue 3 none, Cond.methodLink RX6 209 yX6_sayOrder, Cond.instanceMethod yX6_sayOrder, Cond.code yX6_sayOrder cX6_sayOrder 4 none, Cond.methodLink RX6 212 yX6_sayWord, Cond.instanceMethod yX6_sayWord, Cond.code yX6_sayWord cX6_sayWord 2 none, Cond.methodLink RX6 219 yX6_sayVoid, Cond.instanceMethod yX6_sayVoid, Cond.code yX6_sayVoid cX6_sayVoid 1 none, Cond.constantLong RL 94 (4294967295), Cond.sameMethod "java/lang/Throwable" "java/lang/Throwable" "fillInStackTrace" "(I)Ljava/lang/Throwable;", Cond.fieldLink RJ0 9 "java/lang/String" "value" "[B", Cond.fieldLink RJ0 15 "java/lang/String" "coder" "B", Cond.selects "java/lang/Throwable" ⟨"java/lang/Throwable", "fillInStackTrace", "(I)Ljava/lang/Throwable;"⟩ ⟨"java/lang/Throwable", "fillInStackTrace", "(I)Ljava/lang/Throwable;"⟩, Cond.selects RX5 yX5_makeGiven yX5_makeGiven, Cond.selects RX5 yX5_putMade yX5_putMade, Cond.selects RX5 yX5_madeFits yX5_madeFits, Cond.selects RX5 yX5_addGlue yX5_addGlue, Cond.selects RX5 yX5_addFlexible yX5_addFlexible, Cond.selects RX5 yX5_giveBackKept yX5_giveBackKept, Cond.selects RX5 yX5_writeRegister yX5_writeRegister, Cond.selects RX5 yX5_writeGlue yX5_writeGlue]
def bW_36 : List Cond := [Cond.selects RX5 yX5_writeFlexible yX5_writeFlexible, Cond.selects RX5 yX5_writeRow yX5_writeRow, Cond.selects RX6 yX6_finish yX6_finish, Cond.selects RX6 yX6_isWithin yX6_isWithin, Cond.selects RX6 yX6_isFull yX6_isFull, Cond.selects RX6 yX6_put yX6_put, Cond.selects RX6 yX6_fetch yX6_fetch, Cond.selects RX6 yX6_addPart yX6_addPart, Cond.selects RX6 yX6_scale yX6_scale, Cond.selects RX6 yX6_sayLength yX6_sayLength, Cond.selects RX6 yX6_say yX6_say, Cond.selects RX6 yX6_sayNumber yX6_sayNumber, Cond.selects RX6 yX6_sayGlue yX6_sayGlue, Cond.selects RX6 yX6_sayOrder yX6_sayOrder, Cond.selects RX6 yX6_sayWord yX6_sayWord, Cond.selects RX6 yX6_sayVoid yX6_sayVoid]
def bG_0 : List Cond := bW_0 ++ (bW_1 ++ (bW_2 ++ (bW_3 ++ (bW_4 ++ (bW_5 ++ (bW_6 ++ (bW_7)))))))
def bG_1 : List Cond := bW_8 ++ (bW_9 ++ (bW_10 ++ (bW_11 ++ (bW_12 ++ (bW_13 ++ (bW_14 ++ (bW_15)))))))
def bG_2 : List Cond := bW_16 ++ (bW_17 ++ (bW_18 ++ (bW_19 ++ (bW_20 ++ (bW_21 ++ (bW_22 ++ (bW_23)))))))
def bG_3 : List Cond := bW_24 ++ (bW_25 ++ (bW_26 ++ (bW_27 ++ (bW_28 ++ (bW_29 ++ (bW_30 ++ (bW_31)))))))
def bG_4 : List Cond := bW_32 ++ (bW_33 ++ (bW_34 ++ (bW_35 ++ (bW_36))))
/-- the good words of the tables: every method takes all of them -/
def bigW : List Cond := bG_0 ++ (bG_1 ++ (bG_2 ++ (bG_3 ++ (bG_4))))
theorem bi_0 : ∀ w ∈ bW_0, w ∈ bigW := fun w h => List.mem_append_left _ (List.mem_append_left _ (h))
theorem bi_1 : ∀ w ∈ bW_1, w ∈ bigW := fun w h => List.mem_append_left _ (List.mem_append_right _ (List.mem_append_left _ (h)))
theorem bi_2 : ∀ w ∈ bW_2, w ∈ bigW := fun w h => List.mem_append_left _ (List.mem_append_right _ (List.mem_append_right _ (List.mem_append_left _ (h))))
theorem bi_3 : ∀ w ∈ bW_3, w ∈ bigW := fun w h => List.mem_append_left _ (List.mem_append_right _ (List.mem_append_right _ (List.mem_append_right _ (List.mem_append_left _ (h)))))
theorem bi_4 : ∀ w ∈ bW_4, w ∈ bigW := fun w h => List.mem_append_left _ (List.mem_append_right _ (List.mem_append_right _ (List.mem_append_right _ (List.mem_append_right _ (List.mem_append_left _ (h))))))
theorem bi_5 : ∀ w ∈ bW_5, w ∈ bigW := fun w h => List.mem_append_left _ (List.mem_append_right _ (List.mem_append_right _ (List.mem_append_right _ (List.mem_append_right _ (List.mem_append_right _ (List.mem_append_left _ (h)))))))
theorem bi_6 : ∀ w ∈ bW_6, w ∈ bigW := fun w h => List.mem_append_left _ (List.mem_append_right _ (List.mem_append_right _ (List.mem_append_right _ (List.mem_append_right _ (List.mem_append_right _ (List.mem_append_right _ (List.mem_append_left _ (h))))))))
theorem bi_7 : ∀ w ∈ bW_7, w ∈ bigW := fun w h => List.mem_append_left _ (List.mem_append_right _ (List.mem_append_right _ (List.mem_append_right _ (List.mem_append_right _ (List.mem_append_right _ (List.mem_append_right _ (List.mem_append_right _ (h))))))))
theorem bi_8 : ∀ w ∈ bW_8, w ∈ bigW := fun w h => List.mem_append_right _ (List.mem_append_left _ (List.mem_append_left _ (h)))
theorem bi_9 : ∀ w ∈ bW_9, w ∈ bigW := fun w h => List.mem_append_right _ (List.mem_append_left _ (List.mem_append_right _ (List.mem_append_left _ (h))))
theorem bi_10 : ∀ w ∈ bW_10, w ∈ bigW := fun w h => List.mem_append_right _ (List.mem_append_left _ (List.mem_append_right _ (List.mem_append_right _ (List.mem_append_left _ (h)))))
theorem bi_11 : ∀ w ∈ bW_11, w ∈ bigW := fun w h => List.mem_append_right _ (List.mem_append_left _ (List.mem_append_right _ (List.mem_append_right _ (List.mem_append_right _ (List.mem_append_left _ (h))))))
theorem bi_12 : ∀ w ∈ bW_12, w ∈ bigW := fun w h => List.mem_append_right _ (List.mem_append_left _ (List.mem_append_right _ (List.mem_append_right _ (List.mem_append_right _ (List.mem_append_right _ (List.mem_append_left _ (h)))))))
theorem bi_13 : ∀ w ∈ bW_13, w ∈ bigW := fun w h => List.mem_append_right _ (List.mem_append_left _ (List.mem_append_right _ (List.mem_append_right _ (List.mem_append_right _ (List.mem_append_right _ (List.mem_append_right _ (List.mem_append_left _ (h))))))))
theorem bi_14 : ∀ w ∈ bW_14, w ∈ bigW := fun w h => List.mem_append_right _ (List.mem_append_left _ (List.mem_append_right _ (List.mem_append_right _ (List.mem_append_right _ (List.mem_append_right _ (List.mem_append_right _ (List.mem_append_right _ (List.mem_append_left _ (h)))))))))
theorem bi_15 : ∀ w ∈ bW_15, w ∈ bigW := fun w h => List.mem_append_right _ (List.mem_append_left _ (List.mem_append_right _ (List.mem_append_right _ (List.mem_append_right _ (List.mem_append_right _ (List.mem_append_right _ (List.mem_append_right _ (List.mem_append_right _ (h)))))))))
theorem bi_16 : ∀ w ∈ bW_16, w ∈ bigW := fun w h => List.mem_append_right _ (List.mem_append_right _ (List.mem_append_left _ (List.mem_append_left _ (h))))
theorem bi_17 : ∀ w ∈ bW_17, w ∈ bigW := fun w h => List.mem_append_right _ (List.mem_append_right _ (List.mem_append_left _ (List.mem_append_right _ (List.mem_append_left _ (h)))))
theorem bi_18 : ∀ w ∈ bW_18, w ∈ bigW := fun w h => List.mem_append_right _ (List.mem_append_right _ (List.mem_append_left _ (List.mem_append_right _ (List.mem_append_right _ (List.mem_append_left _ (h))))))
theorem bi_19 : ∀ w ∈ bW_19, w ∈ bigW := fun w h => List.mem_append_right _ (List.mem_append_right _ (List.mem_append_left _ (List.mem_append_right _ (List.mem_append_right _ (List.mem_append_right _ (List.mem_append_left _ (h)))))))
theorem bi_20 : ∀ w ∈ bW_20, w ∈ bigW := fun w h => List.mem_append_right _ (List.mem_append_right _ (List.mem_append_left _ (List.mem_append_right _ (List.mem_append_right _ (List.mem_append_right _ (List.mem_append_right _ (List.mem_append_left _ (h))))))))
theorem bi_21 : ∀ w ∈ bW_21, w ∈ bigW := fun w h => List.mem_append_right _ (List.mem_append_right _ (List.mem_append_left _ (List.mem_append_right _ (List.mem_append_right _ (List.mem_append_right _ (List.mem_append_right _ (List.mem_append_right _ (List.mem_append_left _ (h)))))))))
theorem bi_22 : ∀ w ∈ bW_22, w ∈ bigW := fun w h => List.mem_append_right _ (List.mem_append_right _ (List.mem_append_left _ (List.mem_append_right _ (List.mem_append_right _ (List.mem_append_right _ (List.mem_append_right _ (List.mem_append_right _ (List.mem_append_right _ (List.mem_append_left _ (h))))))))))
theorem bi_23 : ∀ w ∈ bW_23, w ∈ bigW := fun w h => List.mem_append_right _ (List.mem_append_right _ (List.mem_append_left _ (List.mem_append_right _ (List.mem_append_right _ (List.mem_append_right _ (List.mem_append_right _ (List.mem_append_right _ (List.mem_append_right _ (List.mem_append_right _ (h))))))))))
theorem bi_24 : ∀ w ∈ bW_24, w ∈ bigW := fun w h => List.mem_append_right _ (List.mem_append_right _ (List.mem_append_right _ (List.mem_append_left _ (List.mem_append_left _ (h)))))
theorem bi_25 : ∀ w ∈ bW_25, w ∈ bigW := fun w h => List.mem_append_right _ (List.mem_append_right _ (List.mem_append_right _ (List.mem_append_left _ (List.mem_append_right _ (List.mem_append_left _ (h))))))
theorem bi_26 : ∀ w ∈ bW_26, w ∈ bigW := fun w h => List.mem_append_right _ (List.mem_append_right _ (List.mem_append_right _ (List.mem_append_left _ (List.mem_append_right _ (List.mem_append_right _ (List.mem_append_left _ (h)))))))
theorem bi_27 : ∀ w ∈ bW_27, w ∈ bigW := fun w h => List.mem_append_right _ (List.mem_append_right _ (List.mem_append_right _ (List.mem_append_left _ (List.mem_append_right _ (List.mem_append_right _ (List.mem_append_right _ (List.mem_append_left _ (h))))))))
theorem bi_28 : ∀ w ∈ bW_28, w ∈ bigW := fun w h => List.mem_append_right _ (List.mem_append_right _ (List.mem_append_right _ (List.mem_append_left _ (List.mem_append_right _ (List.mem_append_right _ (List.mem_append_right _ (List.mem_append_right _ (List.mem_append_left _ (h)))))))))
theorem bi_29 : ∀ w ∈ bW_29, w ∈ bigW := fun w h => List.mem_append_right _ (List.mem_append_right _ (List.mem_append_right _ (List.mem_append_left _ (List.mem_append_right _ (List.mem_append_right _ (List.mem_append_right _ (List.mem_append_right _ (List.mem_append_right _ (List.mem_append_left _ (h))))))))))
theorem bi_30 : ∀ w ∈ bW_30, w ∈ bigW := fun w h => List.mem_append_right _ (List.mem_append_right _ (List.mem_append_right _ (List.mem_append_left _ (List.mem_append_right _ (List.mem_append_right _ (List.mem_append_right _ (List.mem_append_right _ (List.mem_append_right _ (List.mem_append_right _ (List.mem_append_left _ (h)))))))))))
theorem bi_31 : ∀ w ∈ bW_31, w ∈ bigW := fun w h => List.mem_append_right _ (List.mem_append_right _ (List.mem_append_right _ (List.mem_append_left _ (List.mem_append_right _ (List.mem_append_right _ (List.mem_append_right _ (List.mem_append_right _ (List.mem_append_right _ (List.mem_append_right _ (List.mem_append_right _ (h)))))))))))
theorem bi_32 : ∀ w ∈ bW_32, w ∈ bigW := fun w h => List.mem_append_right _ (List.mem_append_right _ (List.mem_append_right _ (List.mem_append_right _ (List.mem_append_left _ (h)))))
theorem bi_33 : ∀ w ∈ bW_33, w ∈ bigW := fun w h => List.mem_append_right _ (List.mem_append_right _ (List.mem_append_right _ (List.mem_append_right _ (List.mem_append_right _ (List.mem_append_left _ (h))))))
theorem bi_34 : ∀ w ∈ bW_34, w ∈ bigW := fun w h => List.mem_append_right _ (List.mem_append_right _ (List.mem_append_right _ (List.mem_append_right _ (List.mem_append_right _ (List.mem_append_right _ (List.mem_append_left _ (h)))))))
theorem bi_35 : ∀ w ∈ bW_35, w ∈ bigW := fun w h => List.mem_append_right _ (List.mem_append_right _ (List.mem_append_right _ (List.mem_append_right _ (List.mem_append_right _ (List.mem_append_right _ (List.mem_append_right _ (List.mem_append_left _ (h))))))))
theorem bi_36 : ∀ w ∈ bW_36, w ∈ bigW := fun w h => List.mem_append_right _ (List.mem_append_right _ (List.mem_append_right _ (List.mem_append_right _ (List.mem_append_right _ (List.mem_append_right _ (List.mem_append_right _ (List.mem_append_right _ (h))))))))
theorem bg_0 : bW_0.all goodWord = true := by decide +kernel
theorem bg_1 : bW_1.all goodWord = true := by decide +kernel
theorem bg_2 : bW_2.all goodWord = true := by decide +kernel
theorem bg_3 : bW_3.all goodWord = true := by decide +kernel
theorem bg_4 : bW_4.all goodWord = true := by decide +kernel
theorem bg_5 : bW_5.all goodWord = true := by decide +kernel
theorem bg_6 : bW_6.all goodWord = true := by decide +kernel
theorem bg_7 : bW_7.all goodWord = true := by decide +kernel
theorem bg_8 : bW_8.all goodWord = true := by decide +kernel
theorem bg_9 : bW_9.all goodWord = true := by decide +kernel
theorem bg_10 : bW_10.all goodWord = true := by decide +kernel
theorem bg_11 : bW_11.all goodWord = true := by decide +kernel
theorem bg_12 : bW_12.all goodWord = true := by decide +kernel
theorem bg_13 : bW_13.all goodWord = true := by decide +kernel
theorem bg_14 : bW_14.all goodWord = true := by decide +kernel
theorem bg_15 : bW_15.all goodWord = true := by decide +kernel
theorem bg_16 : bW_16.all goodWord = true := by decide +kernel
theorem bg_17 : bW_17.all goodWord = true := by decide +kernel
theorem bg_18 : bW_18.all goodWord = true := by decide +kernel
theorem bg_19 : bW_19.all goodWord = true := by decide +kernel
theorem bg_20 : bW_20.all goodWord = true := by decide +kernel
theorem bg_21 : bW_21.all goodWord = true := by decide +kernel
theorem bg_22 : bW_22.all goodWord = true := by decide +kernel
theorem bg_23 : bW_23.all goodWord = true := by decide +kernel
theorem bg_24 : bW_24.all goodWord = true := by decide +kernel
theorem bg_25 : bW_25.all goodWord = true := by decide +kernel
theorem bg_26 : bW_26.all goodWord = true := by decide +kernel
theorem bg_27 : bW_27.all goodWord = true := by decide +kernel
theorem bg_28 : bW_28.all goodWord = true := by decide +kernel
theorem bg_29 : bW_29.all goodWord = true := by decide +kernel
theorem bg_30 : bW_30.all goodWord = true := by decide +kernel
theorem bg_31 : bW_31.all goodWord = true := by decide +kernel
theorem bg_32 : bW_32.all goodWord = true := by decide +kernel
theorem bg_33 : bW_33.all goodWord = true := by decide +kernel
theorem bg_34 : bW_34.all goodWord = true := by decide +kernel
theorem bg_35 : bW_35.all goodWord = true := by decide +kernel
theorem bg_36 : bW_36.all goodWord = true := by decide +kernel
theorem all_app {a b : List Cond} (ha : a.all goodWord = true) (hb : b.all goodWord = true) : (a ++ b).all goodWord = true := by rw [List.all_append, ha, hb]; rfl
theorem bgG_0 : bG_0.all goodWord = true := all_app bg_0 (all_app bg_1 (all_app bg_2 (all_app bg_3 (all_app bg_4 (all_app bg_5 (all_app bg_6 (bg_7)))))))
theorem bgG_1 : bG_1.all goodWord = true := all_app bg_8 (all_app bg_9 (all_app bg_10 (all_app bg_11 (all_app bg_12 (all_app bg_13 (all_app bg_14 (bg_15)))))))
theorem bgG_2 : bG_2.all goodWord = true := all_app bg_16 (all_app bg_17 (all_app bg_18 (all_app bg_19 (all_app bg_20 (all_app bg_21 (all_app bg_22 (bg_23)))))))
theorem bgG_3 : bG_3.all goodWord = true := all_app bg_24 (all_app bg_25 (all_app bg_26 (all_app bg_27 (all_app bg_28 (all_app bg_29 (all_app bg_30 (bg_31)))))))
theorem bgG_4 : bG_4.all goodWord = true := all_app bg_32 (all_app bg_33 (all_app bg_34 (all_app bg_35 (bg_36))))
theorem bigW_good : bigW.all goodWord = true := all_app bgG_0 (all_app bgG_1 (all_app bgG_2 (all_app bgG_3 (bgG_4))))
end
section
theorem mN_RL : Cond.initialized RL ∈ bigW := bi_0 _ (List.mem_of_getElem? (i := 0) rfl)
theorem mN_RX5 : Cond.initialized RX5 ∈ bigW := bi_0 _ (List.mem_of_getElem? (i := 1) rfl)
theorem mN_RX0 : Cond.initialized RX0 ∈ bigW := bi_0 _ (List.mem_of_getElem? (i := 2) rfl)
theorem mN_RX3 : Cond.initialized RX3 ∈ bigW := bi_0 _ (List.mem_of_getElem? (i := 3) rfl)
theorem mN_RX2 : Cond.initialized RX2 ∈ bigW := bi_0 _ (List.mem_of_getElem? (i := 4) rfl)
theorem mN_RX1 : Cond.initialized RX1 ∈ bigW := bi_0 _ (List.mem_of_getElem? (i := 5) rfl)
theorem mN_RX4 : Cond.initialized RX4 ∈ bigW := bi_0 _ (List.mem_of_getElem? (i := 6) rfl)
theorem mN_RX6 : Cond.initialized RX6 ∈ bigW := bi_0 _ (List.mem_of_getElem? (i := 7) rfl)
theorem mN_Throwable : Cond.initialized "java/lang/Throwable" ∈ bigW := bi_0 _ (List.mem_of_getElem? (i := 8) rfl)
theorem mN_Exception : Cond.initialized "java/lang/Exception" ∈ bigW := bi_0 _ (List.mem_of_getElem? (i := 9) rfl)
theorem mN_RuntimeException : Cond.initialized "java/lang/RuntimeException" ∈ bigW := bi_0 _ (List.mem_of_getElem? (i := 10) rfl)
theorem mN_IllegalArgumentException : Cond.initialized "java/lang/IllegalArgumentException" ∈ bigW := bi_0 _ (List.mem_of_getElem? (i := 11) rfl)
theorem mN_IndexOutOfBoundsException : Cond.initialized "java/lang/IndexOutOfBoundsException" ∈ bigW := bi_0 _ (List.mem_of_getElem? (i := 12) rfl)
theorem mN_RJx00060 : Cond.initialized RJx00060 ∈ bigW := bi_0 _ (List.mem_of_getElem? (i := 13) rfl)
theorem mN_RJ0 : Cond.initialized RJ0 ∈ bigW := bi_0 _ (List.mem_of_getElem? (i := 14) rfl)
theorem mN_RJ10 : Cond.initialized RJ10 ∈ bigW := bi_0 _ (List.mem_of_getElem? (i := 15) rfl)
theorem mN_UnsupportedOperationException : Cond.initialized "java/lang/UnsupportedOperationException" ∈ bigW := bi_0 _ (List.mem_of_getElem? (i := 16) rfl)
theorem mN_ArithmeticException : Cond.initialized "java/lang/ArithmeticException" ∈ bigW := bi_0 _ (List.mem_of_getElem? (i := 17) rfl)
theorem mN_IllegalStateException : Cond.initialized "java/lang/IllegalStateException" ∈ bigW := bi_0 _ (List.mem_of_getElem? (i := 18) rfl)
theorem mN_RJ1 : Cond.initialized RJ1 ∈ bigW := bi_0 _ (List.mem_of_getElem? (i := 19) rfl)
theorem mN_RJ3 : Cond.initialized RJ3 ∈ bigW := bi_0 _ (List.mem_of_getElem? (i := 20) rfl)
theorem mN_RJ2 : Cond.initialized RJ2 ∈ bigW := bi_0 _ (List.mem_of_getElem? (i := 21) rfl)
theorem mC_RL_8 : Cond.classLink RL 8 RX5 ∈ bigW := bi_0 _ (List.mem_of_getElem? (i := 22) rfl)
theorem mA_RX5 : Cond.instantiable RX5 8 ∈ bigW := bi_0 _ (List.mem_of_getElem? (i := 23) rfl)
theorem mM_RL_81 : Cond.methodLink RL 81 yX5_init ∈ bigW := bi_1 _ (List.mem_of_getElem? (i := 0) rfl)
theorem mI_X5_init : Cond.instanceMethod yX5_init ∈ bigW := bi_1 _ (List.mem_of_getElem? (i := 1) rfl)
theorem mY_X5_init : Cond.code yX5_init cX5_init 1 none ∈ bigW := bi_1 _ (List.mem_of_getElem? (i := 2) rfl)
theorem mM_RX5_1 : Cond.methodLink RX5 1 ⟨"java/lang/Object", "<init>", "()V"⟩ ∈ bigW := bi_1 _ (List.mem_of_getElem? (i := 3) rfl)
theorem mC_RX5_7 : Cond.classLink RX5 7 RX0 ∈ bigW := bi_1 _ (List.mem_of_getElem? (i := 6) rfl)
theorem mA_RX0 : Cond.instantiable RX0 2 ∈ bigW := bi_1 _ (List.mem_of_getElem? (i := 7) rfl)
theorem mM_RX5_9 : Cond.methodLink RX5 9 yX0_init ∈ bigW := bi_1 _ (List.mem_of_getElem? (i := 8) rfl)
theorem mI_X0_init : Cond.instanceMethod yX0_init ∈ bigW := bi_1 _ (List.mem_of_getElem? (i := 9) rfl)
theorem mY_X0_init : Cond.code yX0_init cX0_init 2 none ∈ bigW := bi_1 _ (List.mem_of_getElem? (i := 10) rfl)
theorem mM_RX0_3 : Cond.methodLink RX0 3 ⟨"java/lang/Object", "<init>", "()V"⟩ ∈ bigW := bi_1 _ (List.mem_of_getElem? (i := 11) rfl)
theorem mM_RX0_19 : Cond.methodLink RX0 19 yX0_home ∈ bigW := bi_1 _ (List.mem_of_getElem? (i := 12) rfl)
theorem mS_X0_home : Cond.static yX0_home ∈ bigW := bi_1 _ (List.mem_of_getElem? (i := 13) rfl)
theorem mY_X0_home : Cond.code yX0_home cX0_home 2 (some (.int)) ∈ bigW := bi_1 _ (List.mem_of_getElem? (i := 14) rfl)
theorem mK_RX0_23 : Cond.constantLong RX0 23 (-1) ∈ bigW := bi_1 _ (List.mem_of_getElem? (i := 15) rfl)
theorem mF_RX0_9 : Cond.fieldLink RX0 9 "RegisterRows$Bank" "cells" "[J" ∈ bigW := bi_1 _ (List.mem_of_getElem? (i := 16) rfl)
theorem mF_RX3_36 : Cond.fieldLink RX3 36 "RegisterRows$Bank" "cells" "[J" ∈ bigW := bi_1 _ (List.mem_of_getElem? (i := 17) rfl)
theorem mF_RX5_99 : Cond.fieldLink RX5 99 "RegisterRows$Bank" "cells" "[J" ∈ bigW := bi_1 _ (List.mem_of_getElem? (i := 18) rfl)
theorem mF_RX0_15 : Cond.fieldLink RX0 15 "RegisterRows$Bank" "levels" "[I" ∈ bigW := bi_1 _ (List.mem_of_getElem? (i := 19) rfl)
theorem mF_RX3_29 : Cond.fieldLink RX3 29 "RegisterRows$Bank" "levels" "[I" ∈ bigW := bi_1 _ (List.mem_of_getElem? (i := 20) rfl)
theorem mF_RX5_246 : Cond.fieldLink RX5 246 "RegisterRows$Bank" "levels" "[I" ∈ bigW := bi_1 _ (List.mem_of_getElem? (i := 21) rfl)
theorem mB_long : Cond.arrayClass .long ∈ bigW := bi_2 _ (List.mem_of_getElem? (i := 1) rfl)
theorem mB_int : Cond.arrayClass .int ∈ bigW := bi_2 _ (List.mem_of_getElem? (i := 2) rfl)
theorem mC_RX5_16 : Cond.classLink RX5 16 RX3 ∈ bigW := bi_2 _ (List.mem_of_getElem? (i := 3) rfl)
theorem mA_RX3 : Cond.instantiable RX3 5 ∈ bigW := bi_2 _ (List.mem_of_getElem? (i := 4) rfl)
theorem mI_X3_init : Cond.instanceMethod yX3_init ∈ bigW := bi_2 _ (List.mem_of_getElem? (i := 5) rfl)
theorem mY_X3_init : Cond.code yX3_init cX3_init 1 none ∈ bigW := bi_2 _ (List.mem_of_getElem? (i := 6) rfl)
theorem mM_RX3_3 : Cond.methodLink RX3 3 ⟨"java/lang/Object", "<init>", "()V"⟩ ∈ bigW := bi_2 _ (List.mem_of_getElem? (i := 7) rfl)
theorem mF_RX3_9 : Cond.fieldLink RX3 9 "RegisterRows$Pile" "kinds" "[I" ∈ bigW := bi_2 _ (List.mem_of_getElem? (i := 8) rfl)
theorem mF_RX5_292 : Cond.fieldLink RX5 292 "RegisterRows$Pile" "kinds" "[I" ∈ bigW := bi_2 _ (List.mem_of_getElem? (i := 9) rfl)
theorem mF_RX3_15 : Cond.fieldLink RX3 15 "RegisterRows$Pile" "registers" "[I" ∈ bigW := bi_2 _ (List.mem_of_getElem? (i := 10) rfl)
theorem mF_RX5_293 : Cond.fieldLink RX5 293 "RegisterRows$Pile" "registers" "[I" ∈ bigW := bi_2 _ (List.mem_of_getElem? (i := 11) rfl)
theorem mF_RX3_18 : Cond.fieldLink RX3 18 "RegisterRows$Pile" "levels" "[I" ∈ bigW := bi_2 _ (List.mem_of_getElem? (i := 12) rfl)
theorem mF_RX5_295 : Cond.fieldLink RX5 295 "RegisterRows$Pile" "levels" "[I" ∈ bigW := bi_2 _ (List.mem_of_getElem? (i := 13) rfl)
theorem mF_RX3_21 : Cond.fieldLink RX3 21 "RegisterRows$Pile" "cells" "[J" ∈ bigW := bi_2 _ (List.mem_of_getElem? (i := 14) rfl)
theorem mF_RX5_294 : Cond.fieldLink RX5 294 "RegisterRows$Pile" "cells" "[J" ∈ bigW := bi_2 _ (List.mem_of_getElem? (i := 15) rfl)
theorem mF_RX3_25 : Cond.fieldLink RX3 25 "RegisterRows$Pile" "many" "I" ∈ bigW := bi_2 _ (List.mem_of_getElem? (i := 16) rfl)
theorem mF_RX5_143 : Cond.fieldLink RX5 143 "RegisterRows$Pile" "many" "I" ∈ bigW := bi_2 _ (List.mem_of_getElem? (i := 17) rfl)
theorem mC_RX5_23 : Cond.classLink RX5 23 RX2 ∈ bigW := bi_3 _ (List.mem_of_getElem? (i := 0) rfl)
theorem mA_RX2 : Cond.instantiable RX2 5 ∈ bigW := bi_3 _ (List.mem_of_getElem? (i := 1) rfl)
theorem mI_X2_init : Cond.instanceMethod yX2_init ∈ bigW := bi_3 _ (List.mem_of_getElem? (i := 2) rfl)
theorem mY_X2_init : Cond.code yX2_init cX2_init 1 none ∈ bigW := bi_3 _ (List.mem_of_getElem? (i := 3) rfl)
theorem mM_RX2_3 : Cond.methodLink RX2 3 ⟨"java/lang/Object", "<init>", "()V"⟩ ∈ bigW := bi_3 _ (List.mem_of_getElem? (i := 4) rfl)
theorem mF_RX2_9 : Cond.fieldLink RX2 9 "RegisterRows$Groups" "firstsKept" "[I" ∈ bigW := bi_3 _ (List.mem_of_getElem? (i := 5) rfl)
theorem mF_RX2_15 : Cond.fieldLink RX2 15 "RegisterRows$Groups" "firstTokens" "[I" ∈ bigW := bi_3 _ (List.mem_of_getElem? (i := 6) rfl)
theorem mF_RX2_18 : Cond.fieldLink RX2 18 "RegisterRows$Groups" "tokens" "[I" ∈ bigW := bi_3 _ (List.mem_of_getElem? (i := 7) rfl)
theorem mF_RX1_41 : Cond.fieldLink RX1 41 "RegisterRows$Groups" "tokens" "[I" ∈ bigW := bi_3 _ (List.mem_of_getElem? (i := 8) rfl)
theorem mF_RX2_21 : Cond.fieldLink RX2 21 "RegisterRows$Groups" "depth" "I" ∈ bigW := bi_3 _ (List.mem_of_getElem? (i := 9) rfl)
theorem mF_RX5_134 : Cond.fieldLink RX5 134 "RegisterRows$Groups" "depth" "I" ∈ bigW := bi_3 _ (List.mem_of_getElem? (i := 10) rfl)
theorem mF_RX2_25 : Cond.fieldLink RX2 25 "RegisterRows$Groups" "many" "I" ∈ bigW := bi_3 _ (List.mem_of_getElem? (i := 11) rfl)
theorem mF_RX1_40 : Cond.fieldLink RX1 40 "RegisterRows$Groups" "many" "I" ∈ bigW := bi_3 _ (List.mem_of_getElem? (i := 12) rfl)
theorem mF_RX5_154 : Cond.fieldLink RX5 154 "RegisterRows$Groups" "many" "I" ∈ bigW := bi_3 _ (List.mem_of_getElem? (i := 13) rfl)
theorem mC_RX5_30 : Cond.classLink RX5 30 RX1 ∈ bigW := bi_3 _ (List.mem_of_getElem? (i := 20) rfl)
theorem mA_RX1 : Cond.instantiable RX1 7 ∈ bigW := bi_3 _ (List.mem_of_getElem? (i := 21) rfl)
theorem mI_X1_init : Cond.instanceMethod yX1_init ∈ bigW := bi_3 _ (List.mem_of_getElem? (i := 22) rfl)
theorem mY_X1_init : Cond.code yX1_init cX1_init 1 none ∈ bigW := bi_3 _ (List.mem_of_getElem? (i := 23) rfl)
theorem mM_RX1_3 : Cond.methodLink RX1 3 ⟨"java/lang/Object", "<init>", "()V"⟩ ∈ bigW := bi_4 _ (List.mem_of_getElem? (i := 0) rfl)
theorem mF_RX1_9 : Cond.fieldLink RX1 9 "RegisterRows$Ended" "kinds" "[I" ∈ bigW := bi_4 _ (List.mem_of_getElem? (i := 1) rfl)
theorem mF_RX5_188 : Cond.fieldLink RX5 188 "RegisterRows$Ended" "kinds" "[I" ∈ bigW := bi_4 _ (List.mem_of_getElem? (i := 2) rfl)
theorem mF_RX1_15 : Cond.fieldLink RX1 15 "RegisterRows$Ended" "registers" "[I" ∈ bigW := bi_4 _ (List.mem_of_getElem? (i := 3) rfl)
theorem mF_RX5_192 : Cond.fieldLink RX5 192 "RegisterRows$Ended" "registers" "[I" ∈ bigW := bi_4 _ (List.mem_of_getElem? (i := 4) rfl)
theorem mF_RX1_18 : Cond.fieldLink RX1 18 "RegisterRows$Ended" "again" "[I" ∈ bigW := bi_4 _ (List.mem_of_getElem? (i := 5) rfl)
theorem mF_RX5_195 : Cond.fieldLink RX5 195 "RegisterRows$Ended" "again" "[I" ∈ bigW := bi_4 _ (List.mem_of_getElem? (i := 6) rfl)
theorem mF_RX1_21 : Cond.fieldLink RX1 21 "RegisterRows$Ended" "tokens" "[I" ∈ bigW := bi_4 _ (List.mem_of_getElem? (i := 7) rfl)
theorem mF_RX5_201 : Cond.fieldLink RX5 201 "RegisterRows$Ended" "tokens" "[I" ∈ bigW := bi_4 _ (List.mem_of_getElem? (i := 8) rfl)
theorem mF_RX1_24 : Cond.fieldLink RX1 24 "RegisterRows$Ended" "many" "I" ∈ bigW := bi_4 _ (List.mem_of_getElem? (i := 9) rfl)
theorem mF_RX5_183 : Cond.fieldLink RX5 183 "RegisterRows$Ended" "many" "I" ∈ bigW := bi_4 _ (List.mem_of_getElem? (i := 10) rfl)
theorem mF_RX1_28 : Cond.fieldLink RX1 28 "RegisterRows$Ended" "back" "I" ∈ bigW := bi_4 _ (List.mem_of_getElem? (i := 11) rfl)
theorem mF_RX5_180 : Cond.fieldLink RX5 180 "RegisterRows$Ended" "back" "I" ∈ bigW := bi_4 _ (List.mem_of_getElem? (i := 12) rfl)
theorem mF_RX1_31 : Cond.fieldLink RX1 31 "RegisterRows$Ended" "manyTokens" "I" ∈ bigW := bi_4 _ (List.mem_of_getElem? (i := 13) rfl)
theorem mF_RX5_198 : Cond.fieldLink RX5 198 "RegisterRows$Ended" "manyTokens" "I" ∈ bigW := bi_4 _ (List.mem_of_getElem? (i := 14) rfl)
theorem mC_RX5_37 : Cond.classLink RX5 37 RX4 ∈ bigW := bi_4 _ (List.mem_of_getElem? (i := 23) rfl)
theorem mA_RX4 : Cond.instantiable RX4 2 ∈ bigW := bi_5 _ (List.mem_of_getElem? (i := 0) rfl)
theorem mI_X4_init : Cond.instanceMethod yX4_init ∈ bigW := bi_5 _ (List.mem_of_getElem? (i := 1) rfl)
theorem mY_X4_init : Cond.code yX4_init cX4_init 1 none ∈ bigW := bi_5 _ (List.mem_of_getElem? (i := 2) rfl)
theorem mM_RX4_3 : Cond.methodLink RX4 3 ⟨"java/lang/Object", "<init>", "()V"⟩ ∈ bigW := bi_5 _ (List.mem_of_getElem? (i := 3) rfl)
theorem mF_RX4_9 : Cond.fieldLink RX4 9 "RegisterRows$Signs" "signs" "[I" ∈ bigW := bi_5 _ (List.mem_of_getElem? (i := 4) rfl)
theorem mF_RX4_15 : Cond.fieldLink RX4 15 "RegisterRows$Signs" "many" "I" ∈ bigW := bi_5 _ (List.mem_of_getElem? (i := 5) rfl)
theorem mF_RX5_10 : Cond.fieldLink RX5 10 "RegisterRows" "bank" "LRegisterRows$Bank;" ∈ bigW := bi_5 _ (List.mem_of_getElem? (i := 9) rfl)
theorem mF_RX5_19 : Cond.fieldLink RX5 19 "RegisterRows" "pile" "LRegisterRows$Pile;" ∈ bigW := bi_5 _ (List.mem_of_getElem? (i := 10) rfl)
theorem mF_RX5_26 : Cond.fieldLink RX5 26 "RegisterRows" "groups" "LRegisterRows$Groups;" ∈ bigW := bi_5 _ (List.mem_of_getElem? (i := 11) rfl)
theorem mF_RX5_33 : Cond.fieldLink RX5 33 "RegisterRows" "ended" "LRegisterRows$Ended;" ∈ bigW := bi_5 _ (List.mem_of_getElem? (i := 12) rfl)
theorem mF_RX5_40 : Cond.fieldLink RX5 40 "RegisterRows" "signs" "LRegisterRows$Signs;" ∈ bigW := bi_5 _ (List.mem_of_getElem? (i := 13) rfl)
theorem mF_RX5_44 : Cond.fieldLink RX5 44 "RegisterRows" "glueThatWaits" "[J" ∈ bigW := bi_5 _ (List.mem_of_getElem? (i := 14) rfl)
theorem mF_RX5_48 : Cond.fieldLink RX5 48 "RegisterRows" "rowThatWaits" "[J" ∈ bigW := bi_5 _ (List.mem_of_getElem? (i := 15) rfl)
theorem mF_RX5_51 : Cond.fieldLink RX5 51 "RegisterRows" "made" "[J" ∈ bigW := bi_5 _ (List.mem_of_getElem? (i := 16) rfl)
theorem mM_RL_139 : Cond.methodLink RL 139 yX5_behind ∈ bigW := bi_6 _ (List.mem_of_getElem? (i := 2) rfl)
theorem mI_X5_behind : Cond.instanceMethod yX5_behind ∈ bigW := bi_6 _ (List.mem_of_getElem? (i := 3) rfl)
theorem mV_X5_behind : Cond.selects RX5 yX5_behind yX5_behind ∈ bigW := bi_6 _ (List.mem_of_getElem? (i := 4) rfl)
theorem mY_X5_behind : Cond.code yX5_behind cX5_behind 2 (some (.int)) ∈ bigW := bi_6 _ (List.mem_of_getElem? (i := 5) rfl)
theorem mM_RL_85 : Cond.methodLink RL 85 yL_token ∈ bigW := bi_6 _ (List.mem_of_getElem? (i := 6) rfl)
theorem mS_L_token : Cond.static yL_token ∈ bigW := bi_6 _ (List.mem_of_getElem? (i := 7) rfl)
theorem mY_L_token : Cond.codeWith yL_token cL_token 4 (some (.int)) [(0, 9, 12, 13)] ∈ bigW := bi_6 _ (List.mem_of_getElem? (i := 8) rfl)
theorem mC_RL_13 : Cond.classLink RL 13 "java/lang/IllegalArgumentException" ∈ bigW := bi_6 _ (List.mem_of_getElem? (i := 9) rfl)
theorem mM_RL_7 : Cond.methodLink RL 7 yX5_token ∈ bigW := bi_6 _ (List.mem_of_getElem? (i := 10) rfl)
theorem mI_X5_token : Cond.instanceMethod yX5_token ∈ bigW := bi_6 _ (List.mem_of_getElem? (i := 11) rfl)
theorem mV_X5_token : Cond.selects RX5 yX5_token yX5_token ∈ bigW := bi_6 _ (List.mem_of_getElem? (i := 12) rfl)
theorem mY_X5_token : Cond.code yX5_token cX5_token 3 (some (.int)) ∈ bigW := bi_6 _ (List.mem_of_getElem? (i := 13) rfl)
theorem mM_RX5_54 : Cond.methodLink RX5 54 yX5_checkToken ∈ bigW := bi_6 _ (List.mem_of_getElem? (i := 14) rfl)
theorem mS_X5_checkToken : Cond.static yX5_checkToken ∈ bigW := bi_6 _ (List.mem_of_getElem? (i := 15) rfl)
theorem mY_X5_checkToken : Cond.code yX5_checkToken cX5_checkToken 1 none ∈ bigW := bi_6 _ (List.mem_of_getElem? (i := 16) rfl)
theorem mK_RX5_264 : Cond.constantLong RX5 264 (255) ∈ bigW := bi_6 _ (List.mem_of_getElem? (i := 17) rfl)
theorem mM_RX5_71 : Cond.methodLink RX5 71 yX5_within ∈ bigW := bi_6 _ (List.mem_of_getElem? (i := 18) rfl)
theorem mS_X5_within : Cond.static yX5_within ∈ bigW := bi_6 _ (List.mem_of_getElem? (i := 19) rfl)
theorem mY_X5_within : Cond.code yX5_within cX5_within 6 (some (.boolean)) ∈ bigW := bi_6 _ (List.mem_of_getElem? (i := 20) rfl)
theorem mC_RX5_62 : Cond.classLink RX5 62 "java/lang/IllegalArgumentException" ∈ bigW := bi_6 _ (List.mem_of_getElem? (i := 21) rfl)
theorem mM_RX5_66 : Cond.methodLink RX5 66 ⟨"java/lang/IllegalArgumentException", "<init>", "(Ljava/lang/String;)V"⟩ ∈ bigW := bi_8 _ (List.mem_of_getElem? (i := 7) rfl)
theorem mB_byte : Cond.arrayClass .byte ∈ bigW := bi_9 _ (List.mem_of_getElem? (i := 2) rfl)
theorem mM_RL_96 : Cond.methodLink RL 96 yL_glue ∈ bigW := bi_9 _ (List.mem_of_getElem? (i := 3) rfl)
theorem mS_L_glue : Cond.static yL_glue ∈ bigW := bi_9 _ (List.mem_of_getElem? (i := 4) rfl)
theorem mY_L_glue : Cond.codeWith yL_glue cL_glue 10 (some (.int)) [(0, 12, 15, 13)] ∈ bigW := bi_9 _ (List.mem_of_getElem? (i := 5) rfl)
theorem mM_RL_15 : Cond.methodLink RL 15 yX5_glue ∈ bigW := bi_9 _ (List.mem_of_getElem? (i := 6) rfl)
theorem mI_X5_glue : Cond.instanceMethod yX5_glue ∈ bigW := bi_9 _ (List.mem_of_getElem? (i := 7) rfl)
theorem mV_X5_glue : Cond.selects RX5 yX5_glue yX5_glue ∈ bigW := bi_9 _ (List.mem_of_getElem? (i := 8) rfl)
theorem mY_X5_glue : Cond.code yX5_glue cX5_glue 9 none ∈ bigW := bi_9 _ (List.mem_of_getElem? (i := 9) rfl)
theorem mM_RX5_58 : Cond.methodLink RX5 58 yX5_isLength ∈ bigW := bi_9 _ (List.mem_of_getElem? (i := 10) rfl)
theorem mS_X5_isLength : Cond.static yX5_isLength ∈ bigW := bi_9 _ (List.mem_of_getElem? (i := 11) rfl)
theorem mY_X5_isLength : Cond.code yX5_isLength cX5_isLength 2 (some (.boolean)) ∈ bigW := bi_9 _ (List.mem_of_getElem? (i := 12) rfl)
theorem mK_RX5_256 : Cond.constantLong RX5 256 (-1073741823) ∈ bigW := bi_9 _ (List.mem_of_getElem? (i := 13) rfl)
theorem mK_RX5_204 : Cond.constantLong RX5 204 (1073741823) ∈ bigW := bi_9 _ (List.mem_of_getElem? (i := 14) rfl)
theorem mK_RX5_69 : Cond.constantLong RX5 69 (3) ∈ bigW := bi_9 _ (List.mem_of_getElem? (i := 15) rfl)
theorem mM_RL_100 : Cond.methodLink RL 100 yL_set ∈ bigW := bi_9 _ (List.mem_of_getElem? (i := 16) rfl)
theorem mS_L_set : Cond.static yL_set ∈ bigW := bi_9 _ (List.mem_of_getElem? (i := 17) rfl)
theorem mY_L_set : Cond.codeWith yL_set cL_set 8 (some (.int)) [(0, 14, 17, 13), (0, 14, 21, 23), (0, 14, 25, 25)] ∈ bigW := bi_9 _ (List.mem_of_getElem? (i := 18) rfl)
theorem mC_RL_23 : Cond.classLink RL 23 "java/lang/IndexOutOfBoundsException" ∈ bigW := bi_9 _ (List.mem_of_getElem? (i := 19) rfl)
theorem mA_RJx00060 : Cond.instantiable RJx00060 6 ∈ bigW := bi_9 _ (List.mem_of_getElem? (i := 20) rfl)
theorem mI_Jx00060_init_a7421 : Cond.instanceMethod yJx00060_init_a7421 ∈ bigW := bi_9 _ (List.mem_of_getElem? (i := 21) rfl)
theorem mY_Jx00060_init_a7421 : Cond.code yJx00060_init_a7421 cJx00060_init_a7421 2 none ∈ bigW := bi_9 _ (List.mem_of_getElem? (i := 22) rfl)
theorem mM_RJx00060_7 : Cond.methodLink RJx00060 7 ⟨"java/lang/IndexOutOfBoundsException", "<init>", "(Ljava/lang/String;)V"⟩ ∈ bigW := bi_9 _ (List.mem_of_getElem? (i := 23) rfl)
theorem mA_RJ0 : Cond.instantiable RJ0 4 ∈ bigW := bi_10 _ (List.mem_of_getElem? (i := 11) rfl)
theorem mC_RL_25 : Cond.classLink RL 25 "java/lang/UnsupportedOperationException" ∈ bigW := bi_10 _ (List.mem_of_getElem? (i := 14) rfl)
theorem mM_RL_19 : Cond.methodLink RL 19 yX5_set ∈ bigW := bi_10 _ (List.mem_of_getElem? (i := 15) rfl)
theorem mI_X5_set : Cond.instanceMethod yX5_set ∈ bigW := bi_10 _ (List.mem_of_getElem? (i := 16) rfl)
theorem mV_X5_set : Cond.selects RX5 yX5_set yX5_set ∈ bigW := bi_10 _ (List.mem_of_getElem? (i := 17) rfl)
theorem mY_X5_set : Cond.code yX5_set cX5_set 7 (some (.int)) ∈ bigW := bi_10 _ (List.mem_of_getElem? (i := 18) rfl)
theorem mM_RX5_77 : Cond.methodLink RX5 77 yX5_checkKind ∈ bigW := bi_10 _ (List.mem_of_getElem? (i := 19) rfl)
theorem mS_X5_checkKind : Cond.static yX5_checkKind ∈ bigW := bi_10 _ (List.mem_of_getElem? (i := 20) rfl)
theorem mY_X5_checkKind : Cond.code yX5_checkKind cX5_checkKind 2 none ∈ bigW := bi_10 _ (List.mem_of_getElem? (i := 21) rfl)
theorem mK_RX5_81 : Cond.constantLong RX5 81 (-1) ∈ bigW := bi_10 _ (List.mem_of_getElem? (i := 22) rfl)
theorem mK_RX5_83 : Cond.constantLong RX5 83 (999) ∈ bigW := bi_10 _ (List.mem_of_getElem? (i := 23) rfl)
theorem mM_RX5_87 : Cond.methodLink RX5 87 yX5_checkRegister ∈ bigW := bi_11 _ (List.mem_of_getElem? (i := 0) rfl)
theorem mS_X5_checkRegister : Cond.static yX5_checkRegister ∈ bigW := bi_11 _ (List.mem_of_getElem? (i := 1) rfl)
theorem mY_X5_checkRegister : Cond.code yX5_checkRegister cX5_checkRegister 2 none ∈ bigW := bi_11 _ (List.mem_of_getElem? (i := 2) rfl)
theorem mK_RX5_260 : Cond.constantLong RX5 260 (31) ∈ bigW := bi_11 _ (List.mem_of_getElem? (i := 3) rfl)
theorem mC_RX5_108 : Cond.classLink RX5 108 "java/lang/IndexOutOfBoundsException" ∈ bigW := bi_11 _ (List.mem_of_getElem? (i := 4) rfl)
theorem mM_RX5_112 : Cond.methodLink RX5 112 ⟨"java/lang/IndexOutOfBoundsException", "<init>", "(Ljava/lang/String;)V"⟩ ∈ bigW := bi_11 _ (List.mem_of_getElem? (i := 12) rfl)
theorem mM_RX5_91 : Cond.methodLink RX5 91 yX5_makeGiven ∈ bigW := bi_11 _ (List.mem_of_getElem? (i := 15) rfl)
theorem mI_X5_makeGiven : Cond.instanceMethod yX5_makeGiven ∈ bigW := bi_11 _ (List.mem_of_getElem? (i := 16) rfl)
theorem mY_X5_makeGiven : Cond.code yX5_makeGiven cX5_makeGiven 4 none ∈ bigW := bi_11 _ (List.mem_of_getElem? (i := 17) rfl)
theorem mM_RX5_268 : Cond.methodLink RX5 268 ⟨"java/lang/System", "arraycopy", "(Ljava/lang/Object;ILjava/lang/Object;II)V"⟩ ∈ bigW := bi_11 _ (List.mem_of_getElem? (i := 18) rfl)
theorem mM_RX5_95 : Cond.methodLink RX5 95 yX5_putMade ∈ bigW := bi_11 _ (List.mem_of_getElem? (i := 21) rfl)
theorem mI_X5_putMade : Cond.instanceMethod yX5_putMade ∈ bigW := bi_11 _ (List.mem_of_getElem? (i := 22) rfl)
theorem mY_X5_putMade : Cond.code yX5_putMade cX5_putMade 5 (some (.int)) ∈ bigW := bi_11 _ (List.mem_of_getElem? (i := 23) rfl)
theorem mM_RX5_274 : Cond.methodLink RX5 274 yX5_madeFits ∈ bigW := bi_12 _ (List.mem_of_getElem? (i := 0) rfl)
theorem mI_X5_madeFits : Cond.instanceMethod yX5_madeFits ∈ bigW := bi_12 _ (List.mem_of_getElem? (i := 1) rfl)
theorem mY_X5_madeFits : Cond.code yX5_madeFits cX5_madeFits 2 (some (.boolean)) ∈ bigW := bi_12 _ (List.mem_of_getElem? (i := 2) rfl)
theorem mM_RX5_126 : Cond.methodLink RX5 126 yX5_isCount ∈ bigW := bi_12 _ (List.mem_of_getElem? (i := 3) rfl)
theorem mS_X5_isCount : Cond.static yX5_isCount ∈ bigW := bi_12 _ (List.mem_of_getElem? (i := 4) rfl)
theorem mY_X5_isCount : Cond.code yX5_isCount cX5_isCount 2 (some (.boolean)) ∈ bigW := bi_12 _ (List.mem_of_getElem? (i := 5) rfl)
theorem mK_RX5_252 : Cond.constantLong RX5 252 (-2147483647) ∈ bigW := bi_12 _ (List.mem_of_getElem? (i := 6) rfl)
theorem mK_RX5_254 : Cond.constantLong RX5 254 (2147483647) ∈ bigW := bi_12 _ (List.mem_of_getElem? (i := 7) rfl)
theorem mM_RX5_249 : Cond.methodLink RX5 249 yX0_place ∈ bigW := bi_12 _ (List.mem_of_getElem? (i := 8) rfl)
theorem mS_X0_place : Cond.static yX0_place ∈ bigW := bi_12 _ (List.mem_of_getElem? (i := 9) rfl)
theorem mY_X0_place : Cond.code yX0_place cX0_place 2 (some (.int)) ∈ bigW := bi_12 _ (List.mem_of_getElem? (i := 10) rfl)
theorem mC_RX5_138 : Cond.classLink RX5 138 "java/lang/UnsupportedOperationException" ∈ bigW := bi_12 _ (List.mem_of_getElem? (i := 11) rfl)
theorem mM_RX5_142 : Cond.methodLink RX5 142 ⟨"java/lang/UnsupportedOperationException", "<init>", "(Ljava/lang/String;)V"⟩ ∈ bigW := bi_12 _ (List.mem_of_getElem? (i := 19) rfl)
theorem mM_RX5_280 : Cond.methodLink RX5 280 yX3_keep ∈ bigW := bi_13 _ (List.mem_of_getElem? (i := 1) rfl)
theorem mI_X3_keep : Cond.instanceMethod yX3_keep ∈ bigW := bi_13 _ (List.mem_of_getElem? (i := 2) rfl)
theorem mV_X3_keep : Cond.selects RX3 yX3_keep yX3_keep ∈ bigW := bi_13 _ (List.mem_of_getElem? (i := 3) rfl)
theorem mY_X3_keep : Cond.code yX3_keep cX3_keep 4 none ∈ bigW := bi_13 _ (List.mem_of_getElem? (i := 4) rfl)
theorem mM_RX3_32 : Cond.methodLink RX3 32 yX0_place ∈ bigW := bi_13 _ (List.mem_of_getElem? (i := 5) rfl)
theorem mM_RX3_37 : Cond.methodLink RX3 37 yX0_home ∈ bigW := bi_13 _ (List.mem_of_getElem? (i := 6) rfl)
theorem mM_RX3_43 : Cond.methodLink RX3 43 ⟨"java/lang/System", "arraycopy", "(Ljava/lang/Object;ILjava/lang/Object;II)V"⟩ ∈ bigW := bi_13 _ (List.mem_of_getElem? (i := 7) rfl)
theorem mM_RX5_284 : Cond.methodLink RX5 284 yX0_copyFrom ∈ bigW := bi_13 _ (List.mem_of_getElem? (i := 8) rfl)
theorem mI_X0_copyFrom : Cond.instanceMethod yX0_copyFrom ∈ bigW := bi_13 _ (List.mem_of_getElem? (i := 9) rfl)
theorem mV_X0_copyFrom : Cond.selects RX0 yX0_copyFrom yX0_copyFrom ∈ bigW := bi_13 _ (List.mem_of_getElem? (i := 10) rfl)
theorem mY_X0_copyFrom : Cond.code yX0_copyFrom cX0_copyFrom 5 none ∈ bigW := bi_13 _ (List.mem_of_getElem? (i := 11) rfl)
theorem mM_RX0_31 : Cond.methodLink RX0 31 ⟨"java/lang/System", "arraycopy", "(Ljava/lang/Object;ILjava/lang/Object;II)V"⟩ ∈ bigW := bi_13 _ (List.mem_of_getElem? (i := 12) rfl)
theorem mM_RL_104 : Cond.methodLink RL 104 yL_get ∈ bigW := bi_13 _ (List.mem_of_getElem? (i := 13) rfl)
theorem mS_L_get : Cond.static yL_get ∈ bigW := bi_13 _ (List.mem_of_getElem? (i := 14) rfl)
theorem mY_L_get : Cond.codeWith yL_get cL_get 5 (some (.int)) [(0, 9, 12, 13), (0, 9, 16, 23)] ∈ bigW := bi_13 _ (List.mem_of_getElem? (i := 15) rfl)
theorem mM_RL_27 : Cond.methodLink RL 27 yX5_get ∈ bigW := bi_13 _ (List.mem_of_getElem? (i := 16) rfl)
theorem mI_X5_get : Cond.instanceMethod yX5_get ∈ bigW := bi_13 _ (List.mem_of_getElem? (i := 17) rfl)
theorem mV_X5_get : Cond.selects RX5 yX5_get yX5_get ∈ bigW := bi_13 _ (List.mem_of_getElem? (i := 18) rfl)
theorem mY_X5_get : Cond.code yX5_get cX5_get 3 (some (.long)) ∈ bigW := bi_13 _ (List.mem_of_getElem? (i := 19) rfl)
theorem mM_RX5_102 : Cond.methodLink RX5 102 yX0_home ∈ bigW := bi_13 _ (List.mem_of_getElem? (i := 20) rfl)
theorem mM_RL_108 : Cond.methodLink RL 108 yL_part ∈ bigW := bi_13 _ (List.mem_of_getElem? (i := 21) rfl)
theorem mS_L_part : Cond.static yL_part ∈ bigW := bi_13 _ (List.mem_of_getElem? (i := 22) rfl)
theorem mY_L_part : Cond.codeWith yL_part cL_part 5 (some (.int)) [(0, 9, 12, 23)] ∈ bigW := bi_13 _ (List.mem_of_getElem? (i := 23) rfl)
theorem mM_RL_31 : Cond.methodLink RL 31 yX5_part ∈ bigW := bi_14 _ (List.mem_of_getElem? (i := 0) rfl)
theorem mI_X5_part : Cond.instanceMethod yX5_part ∈ bigW := bi_14 _ (List.mem_of_getElem? (i := 1) rfl)
theorem mV_X5_part : Cond.selects RX5 yX5_part yX5_part ∈ bigW := bi_14 _ (List.mem_of_getElem? (i := 2) rfl)
theorem mY_X5_part : Cond.code yX5_part cX5_part 3 (some (.long)) ∈ bigW := bi_14 _ (List.mem_of_getElem? (i := 3) rfl)
theorem mK_RX5_106 : Cond.constantLong RX5 106 (4) ∈ bigW := bi_14 _ (List.mem_of_getElem? (i := 4) rfl)
theorem mM_RL_111 : Cond.methodLink RL 111 yL_at ∈ bigW := bi_14 _ (List.mem_of_getElem? (i := 5) rfl)
theorem mS_L_at : Cond.static yL_at ∈ bigW := bi_14 _ (List.mem_of_getElem? (i := 6) rfl)
theorem mY_L_at : Cond.codeWith yL_at cL_at 5 (some (.int)) [(0, 10, 13, 23)] ∈ bigW := bi_14 _ (List.mem_of_getElem? (i := 7) rfl)
theorem mM_RL_34 : Cond.methodLink RL 34 yX5_at ∈ bigW := bi_14 _ (List.mem_of_getElem? (i := 8) rfl)
theorem mI_X5_at : Cond.instanceMethod yX5_at ∈ bigW := bi_14 _ (List.mem_of_getElem? (i := 9) rfl)
theorem mV_X5_at : Cond.selects RX5 yX5_at yX5_at ∈ bigW := bi_14 _ (List.mem_of_getElem? (i := 10) rfl)
theorem mY_X5_at : Cond.code yX5_at cX5_at 4 (some (.int)) ∈ bigW := bi_14 _ (List.mem_of_getElem? (i := 11) rfl)
theorem mM_RL_114 : Cond.methodLink RL 114 yL_add ∈ bigW := bi_14 _ (List.mem_of_getElem? (i := 12) rfl)
theorem mS_L_add : Cond.static yL_add ∈ bigW := bi_14 _ (List.mem_of_getElem? (i := 13) rfl)
theorem mY_L_add : Cond.codeWith yL_add cL_add 8 (some (.int)) [(0, 14, 17, 13), (0, 14, 21, 23), (0, 14, 25, 25)] ∈ bigW := bi_14 _ (List.mem_of_getElem? (i := 14) rfl)
theorem mM_RL_38 : Cond.methodLink RL 38 yX5_add ∈ bigW := bi_14 _ (List.mem_of_getElem? (i := 15) rfl)
theorem mI_X5_add : Cond.instanceMethod yX5_add ∈ bigW := bi_14 _ (List.mem_of_getElem? (i := 16) rfl)
theorem mV_X5_add : Cond.selects RX5 yX5_add yX5_add ∈ bigW := bi_14 _ (List.mem_of_getElem? (i := 17) rfl)
theorem mY_X5_add : Cond.code yX5_add cX5_add 6 (some (.int)) ∈ bigW := bi_14 _ (List.mem_of_getElem? (i := 18) rfl)
theorem mM_RX5_115 : Cond.methodLink RX5 115 yX0_copyTo ∈ bigW := bi_14 _ (List.mem_of_getElem? (i := 19) rfl)
theorem mI_X0_copyTo : Cond.instanceMethod yX0_copyTo ∈ bigW := bi_14 _ (List.mem_of_getElem? (i := 20) rfl)
theorem mV_X0_copyTo : Cond.selects RX0 yX0_copyTo yX0_copyTo ∈ bigW := bi_14 _ (List.mem_of_getElem? (i := 21) rfl)
theorem mY_X0_copyTo : Cond.code yX0_copyTo cX0_copyTo 4 none ∈ bigW := bi_14 _ (List.mem_of_getElem? (i := 22) rfl)
theorem mM_RX5_119 : Cond.methodLink RX5 119 yX5_addGlue ∈ bigW := bi_14 _ (List.mem_of_getElem? (i := 23) rfl)
theorem mI_X5_addGlue : Cond.instanceMethod yX5_addGlue ∈ bigW := bi_15 _ (List.mem_of_getElem? (i := 0) rfl)
theorem mY_X5_addGlue : Cond.code yX5_addGlue cX5_addGlue 2 none ∈ bigW := bi_15 _ (List.mem_of_getElem? (i := 1) rfl)
theorem mM_RX5_288 : Cond.methodLink RX5 288 yX5_addFlexible ∈ bigW := bi_15 _ (List.mem_of_getElem? (i := 2) rfl)
theorem mI_X5_addFlexible : Cond.instanceMethod yX5_addFlexible ∈ bigW := bi_15 _ (List.mem_of_getElem? (i := 3) rfl)
theorem mY_X5_addFlexible : Cond.code yX5_addFlexible cX5_addFlexible 8 none ∈ bigW := bi_15 _ (List.mem_of_getElem? (i := 4) rfl)
theorem mK_RX5_122 : Cond.constantLong RX5 122 (-4294967294) ∈ bigW := bi_15 _ (List.mem_of_getElem? (i := 5) rfl)
theorem mK_RX5_124 : Cond.constantLong RX5 124 (4294967294) ∈ bigW := bi_15 _ (List.mem_of_getElem? (i := 6) rfl)
theorem mM_RL_117 : Cond.methodLink RL 117 yL_multiply ∈ bigW := bi_15 _ (List.mem_of_getElem? (i := 7) rfl)
theorem mS_L_multiply : Cond.static yL_multiply ∈ bigW := bi_15 _ (List.mem_of_getElem? (i := 8) rfl)
theorem mY_L_multiply : Cond.codeWith yL_multiply cL_multiply 8 (some (.int)) [(0, 14, 17, 13), (0, 14, 21, 23), (0, 14, 25, 25)] ∈ bigW := bi_15 _ (List.mem_of_getElem? (i := 9) rfl)
theorem mM_RL_41 : Cond.methodLink RL 41 yX5_multiply ∈ bigW := bi_15 _ (List.mem_of_getElem? (i := 10) rfl)
theorem mI_X5_multiply : Cond.instanceMethod yX5_multiply ∈ bigW := bi_15 _ (List.mem_of_getElem? (i := 11) rfl)
theorem mV_X5_multiply : Cond.selects RX5 yX5_multiply yX5_multiply ∈ bigW := bi_15 _ (List.mem_of_getElem? (i := 12) rfl)
theorem mY_X5_multiply : Cond.code yX5_multiply cX5_multiply 6 (some (.int)) ∈ bigW := bi_15 _ (List.mem_of_getElem? (i := 13) rfl)
theorem mM_RL_120 : Cond.methodLink RL 120 yL_divide ∈ bigW := bi_15 _ (List.mem_of_getElem? (i := 14) rfl)
theorem mS_L_divide : Cond.static yL_divide ∈ bigW := bi_15 _ (List.mem_of_getElem? (i := 15) rfl)
theorem mY_L_divide : Cond.codeWith yL_divide cL_divide 8 (some (.int)) [(0, 14, 17, 13), (0, 14, 21, 23), (0, 14, 25, 47), (0, 14, 29, 25)] ∈ bigW := bi_15 _ (List.mem_of_getElem? (i := 16) rfl)
theorem mC_RL_47 : Cond.classLink RL 47 "java/lang/ArithmeticException" ∈ bigW := bi_15 _ (List.mem_of_getElem? (i := 17) rfl)
theorem mM_RL_44 : Cond.methodLink RL 44 yX5_divide ∈ bigW := bi_16 _ (List.mem_of_getElem? (i := 6) rfl)
theorem mI_X5_divide : Cond.instanceMethod yX5_divide ∈ bigW := bi_16 _ (List.mem_of_getElem? (i := 7) rfl)
theorem mV_X5_divide : Cond.selects RX5 yX5_divide yX5_divide ∈ bigW := bi_16 _ (List.mem_of_getElem? (i := 8) rfl)
theorem mY_X5_divide : Cond.code yX5_divide cX5_divide 6 (some (.int)) ∈ bigW := bi_16 _ (List.mem_of_getElem? (i := 9) rfl)
theorem mC_RX5_129 : Cond.classLink RX5 129 "java/lang/ArithmeticException" ∈ bigW := bi_16 _ (List.mem_of_getElem? (i := 10) rfl)
theorem mM_RX5_133 : Cond.methodLink RX5 133 ⟨"java/lang/ArithmeticException", "<init>", "(Ljava/lang/String;)V"⟩ ∈ bigW := bi_16 _ (List.mem_of_getElem? (i := 11) rfl)
theorem mM_RL_123 : Cond.methodLink RL 123 yL_take ∈ bigW := bi_16 _ (List.mem_of_getElem? (i := 12) rfl)
theorem mS_L_take : Cond.static yL_take ∈ bigW := bi_16 _ (List.mem_of_getElem? (i := 13) rfl)
theorem mY_L_take : Cond.codeWith yL_take cL_take 4 (some (.int)) [(0, 9, 12, 23)] ∈ bigW := bi_16 _ (List.mem_of_getElem? (i := 14) rfl)
theorem mM_RL_49 : Cond.methodLink RL 49 yX5_take ∈ bigW := bi_16 _ (List.mem_of_getElem? (i := 15) rfl)
theorem mI_X5_take : Cond.instanceMethod yX5_take ∈ bigW := bi_16 _ (List.mem_of_getElem? (i := 16) rfl)
theorem mV_X5_take : Cond.selects RX5 yX5_take yX5_take ∈ bigW := bi_16 _ (List.mem_of_getElem? (i := 17) rfl)
theorem mY_X5_take : Cond.code yX5_take cX5_take 4 (some (.int)) ∈ bigW := bi_16 _ (List.mem_of_getElem? (i := 18) rfl)
theorem mM_RL_126 : Cond.methodLink RL 126 yL_group ∈ bigW := bi_16 _ (List.mem_of_getElem? (i := 19) rfl)
theorem mS_L_group : Cond.static yL_group ∈ bigW := bi_16 _ (List.mem_of_getElem? (i := 20) rfl)
theorem mY_L_group : Cond.codeWith yL_group cL_group 3 (some (.int)) [(0, 8, 11, 25)] ∈ bigW := bi_16 _ (List.mem_of_getElem? (i := 21) rfl)
theorem mM_RL_52 : Cond.methodLink RL 52 yX5_group ∈ bigW := bi_16 _ (List.mem_of_getElem? (i := 22) rfl)
theorem mI_X5_group : Cond.instanceMethod yX5_group ∈ bigW := bi_16 _ (List.mem_of_getElem? (i := 23) rfl)
theorem mV_X5_group : Cond.selects RX5 yX5_group yX5_group ∈ bigW := bi_17 _ (List.mem_of_getElem? (i := 0) rfl)
theorem mY_X5_group : Cond.code yX5_group cX5_group 1 (some (.int)) ∈ bigW := bi_17 _ (List.mem_of_getElem? (i := 1) rfl)
theorem mM_RX5_146 : Cond.methodLink RX5 146 yX2_open ∈ bigW := bi_17 _ (List.mem_of_getElem? (i := 2) rfl)
theorem mI_X2_open : Cond.instanceMethod yX2_open ∈ bigW := bi_17 _ (List.mem_of_getElem? (i := 3) rfl)
theorem mV_X2_open : Cond.selects RX2 yX2_open yX2_open ∈ bigW := bi_17 _ (List.mem_of_getElem? (i := 4) rfl)
theorem mY_X2_open : Cond.code yX2_open cX2_open 2 none ∈ bigW := bi_17 _ (List.mem_of_getElem? (i := 5) rfl)
theorem mM_RL_130 : Cond.methodLink RL 130 yL_after ∈ bigW := bi_17 _ (List.mem_of_getElem? (i := 6) rfl)
theorem mS_L_after : Cond.static yL_after ∈ bigW := bi_17 _ (List.mem_of_getElem? (i := 7) rfl)
theorem mY_L_after : Cond.codeWith yL_after cL_after 4 (some (.int)) [(0, 9, 12, 13), (0, 9, 15, 59), (0, 9, 18, 25)] ∈ bigW := bi_17 _ (List.mem_of_getElem? (i := 8) rfl)
theorem mC_RL_59 : Cond.classLink RL 59 "java/lang/IllegalStateException" ∈ bigW := bi_17 _ (List.mem_of_getElem? (i := 9) rfl)
theorem mM_RL_56 : Cond.methodLink RL 56 yX5_after ∈ bigW := bi_17 _ (List.mem_of_getElem? (i := 10) rfl)
theorem mI_X5_after : Cond.instanceMethod yX5_after ∈ bigW := bi_17 _ (List.mem_of_getElem? (i := 11) rfl)
theorem mV_X5_after : Cond.selects RX5 yX5_after yX5_after ∈ bigW := bi_17 _ (List.mem_of_getElem? (i := 12) rfl)
theorem mY_X5_after : Cond.code yX5_after cX5_after 2 (some (.int)) ∈ bigW := bi_17 _ (List.mem_of_getElem? (i := 13) rfl)
theorem mC_RX5_149 : Cond.classLink RX5 149 "java/lang/IllegalStateException" ∈ bigW := bi_17 _ (List.mem_of_getElem? (i := 14) rfl)
theorem mM_RX5_153 : Cond.methodLink RX5 153 ⟨"java/lang/IllegalStateException", "<init>", "(Ljava/lang/String;)V"⟩ ∈ bigW := bi_17 _ (List.mem_of_getElem? (i := 22) rfl)
theorem mM_RX5_157 : Cond.methodLink RX5 157 yX2_append ∈ bigW := bi_18 _ (List.mem_of_getElem? (i := 4) rfl)
theorem mI_X2_append : Cond.instanceMethod yX2_append ∈ bigW := bi_18 _ (List.mem_of_getElem? (i := 5) rfl)
theorem mV_X2_append : Cond.selects RX2 yX2_append yX2_append ∈ bigW := bi_18 _ (List.mem_of_getElem? (i := 6) rfl)
theorem mY_X2_append : Cond.code yX2_append cX2_append 2 none ∈ bigW := bi_18 _ (List.mem_of_getElem? (i := 7) rfl)
theorem mM_RX5_160 : Cond.methodLink RX5 160 yX2_firstToken ∈ bigW := bi_18 _ (List.mem_of_getElem? (i := 8) rfl)
theorem mI_X2_firstToken : Cond.instanceMethod yX2_firstToken ∈ bigW := bi_18 _ (List.mem_of_getElem? (i := 9) rfl)
theorem mV_X2_firstToken : Cond.selects RX2 yX2_firstToken yX2_firstToken ∈ bigW := bi_18 _ (List.mem_of_getElem? (i := 10) rfl)
theorem mY_X2_firstToken : Cond.code yX2_firstToken cX2_firstToken 1 (some (.int)) ∈ bigW := bi_18 _ (List.mem_of_getElem? (i := 11) rfl)
theorem mM_RL_133 : Cond.methodLink RL 133 yL_end ∈ bigW := bi_18 _ (List.mem_of_getElem? (i := 12) rfl)
theorem mS_L_end : Cond.static yL_end ∈ bigW := bi_18 _ (List.mem_of_getElem? (i := 13) rfl)
theorem mY_L_end : Cond.codeWith yL_end cL_end 3 (some (.int)) [(0, 8, 11, 59)] ∈ bigW := bi_18 _ (List.mem_of_getElem? (i := 14) rfl)
theorem mM_RL_61 : Cond.methodLink RL 61 yX5_end ∈ bigW := bi_18 _ (List.mem_of_getElem? (i := 15) rfl)
theorem mI_X5_end : Cond.instanceMethod yX5_end ∈ bigW := bi_18 _ (List.mem_of_getElem? (i := 16) rfl)
theorem mV_X5_end : Cond.selects RX5 yX5_end yX5_end ∈ bigW := bi_18 _ (List.mem_of_getElem? (i := 17) rfl)
theorem mY_X5_end : Cond.code yX5_end cX5_end 1 (some (.int)) ∈ bigW := bi_18 _ (List.mem_of_getElem? (i := 18) rfl)
theorem mM_RX5_164 : Cond.methodLink RX5 164 yX1_clear ∈ bigW := bi_18 _ (List.mem_of_getElem? (i := 19) rfl)
theorem mI_X1_clear : Cond.instanceMethod yX1_clear ∈ bigW := bi_18 _ (List.mem_of_getElem? (i := 20) rfl)
theorem mV_X1_clear : Cond.selects RX1 yX1_clear yX1_clear ∈ bigW := bi_18 _ (List.mem_of_getElem? (i := 21) rfl)
theorem mY_X1_clear : Cond.code yX1_clear cX1_clear 1 none ∈ bigW := bi_18 _ (List.mem_of_getElem? (i := 22) rfl)
theorem mM_RX5_167 : Cond.methodLink RX5 167 yX2_firstKept ∈ bigW := bi_18 _ (List.mem_of_getElem? (i := 23) rfl)
theorem mI_X2_firstKept : Cond.instanceMethod yX2_firstKept ∈ bigW := bi_19 _ (List.mem_of_getElem? (i := 0) rfl)
theorem mV_X2_firstKept : Cond.selects RX2 yX2_firstKept yX2_firstKept ∈ bigW := bi_19 _ (List.mem_of_getElem? (i := 1) rfl)
theorem mY_X2_firstKept : Cond.code yX2_firstKept cX2_firstKept 1 (some (.int)) ∈ bigW := bi_19 _ (List.mem_of_getElem? (i := 2) rfl)
theorem mM_RX5_170 : Cond.methodLink RX5 170 yX5_giveBackKept ∈ bigW := bi_19 _ (List.mem_of_getElem? (i := 3) rfl)
theorem mI_X5_giveBackKept : Cond.instanceMethod yX5_giveBackKept ∈ bigW := bi_19 _ (List.mem_of_getElem? (i := 4) rfl)
theorem mY_X5_giveBackKept : Cond.code yX5_giveBackKept cX5_giveBackKept 7 none ∈ bigW := bi_19 _ (List.mem_of_getElem? (i := 5) rfl)
theorem mM_RX5_296 : Cond.methodLink RX5 296 yX1_append ∈ bigW := bi_19 _ (List.mem_of_getElem? (i := 6) rfl)
theorem mI_X1_append : Cond.instanceMethod yX1_append ∈ bigW := bi_19 _ (List.mem_of_getElem? (i := 7) rfl)
theorem mV_X1_append : Cond.selects RX1 yX1_append yX1_append ∈ bigW := bi_19 _ (List.mem_of_getElem? (i := 8) rfl)
theorem mY_X1_append : Cond.code yX1_append cX1_append 4 none ∈ bigW := bi_19 _ (List.mem_of_getElem? (i := 9) rfl)
theorem mM_RX5_173 : Cond.methodLink RX5 173 yX1_copyTokens ∈ bigW := bi_19 _ (List.mem_of_getElem? (i := 10) rfl)
theorem mI_X1_copyTokens : Cond.instanceMethod yX1_copyTokens ∈ bigW := bi_19 _ (List.mem_of_getElem? (i := 11) rfl)
theorem mV_X1_copyTokens : Cond.selects RX1 yX1_copyTokens yX1_copyTokens ∈ bigW := bi_19 _ (List.mem_of_getElem? (i := 12) rfl)
theorem mY_X1_copyTokens : Cond.code yX1_copyTokens cX1_copyTokens 3 none ∈ bigW := bi_19 _ (List.mem_of_getElem? (i := 13) rfl)
theorem mM_RX1_34 : Cond.methodLink RX1 34 yX2_firstToken ∈ bigW := bi_19 _ (List.mem_of_getElem? (i := 14) rfl)
theorem mM_RX1_42 : Cond.methodLink RX1 42 yX1_appendToken ∈ bigW := bi_19 _ (List.mem_of_getElem? (i := 15) rfl)
theorem mI_X1_appendToken : Cond.instanceMethod yX1_appendToken ∈ bigW := bi_19 _ (List.mem_of_getElem? (i := 16) rfl)
theorem mV_X1_appendToken : Cond.selects RX1 yX1_appendToken yX1_appendToken ∈ bigW := bi_19 _ (List.mem_of_getElem? (i := 17) rfl)
theorem mY_X1_appendToken : Cond.code yX1_appendToken cX1_appendToken 2 none ∈ bigW := bi_19 _ (List.mem_of_getElem? (i := 18) rfl)
theorem mM_RX5_177 : Cond.methodLink RX5 177 yX2_close ∈ bigW := bi_19 _ (List.mem_of_getElem? (i := 19) rfl)
theorem mI_X2_close : Cond.instanceMethod yX2_close ∈ bigW := bi_19 _ (List.mem_of_getElem? (i := 20) rfl)
theorem mV_X2_close : Cond.selects RX2 yX2_close yX2_close ∈ bigW := bi_19 _ (List.mem_of_getElem? (i := 21) rfl)
theorem mY_X2_close : Cond.code yX2_close cX2_close 1 none ∈ bigW := bi_19 _ (List.mem_of_getElem? (i := 22) rfl)
theorem mM_RX2_28 : Cond.methodLink RX2 28 yX2_firstToken ∈ bigW := bi_19 _ (List.mem_of_getElem? (i := 23) rfl)
theorem mM_RL_136 : Cond.methodLink RL 136 yL_restored ∈ bigW := bi_20 _ (List.mem_of_getElem? (i := 0) rfl)
theorem mS_L_restored : Cond.static yL_restored ∈ bigW := bi_20 _ (List.mem_of_getElem? (i := 1) rfl)
theorem mY_L_restored : Cond.codeWith yL_restored cL_restored 5 (some (.int)) [(0, 10, 13, 23)] ∈ bigW := bi_20 _ (List.mem_of_getElem? (i := 2) rfl)
theorem mM_RL_64 : Cond.methodLink RL 64 yX5_restored ∈ bigW := bi_20 _ (List.mem_of_getElem? (i := 3) rfl)
theorem mI_X5_restored : Cond.instanceMethod yX5_restored ∈ bigW := bi_20 _ (List.mem_of_getElem? (i := 4) rfl)
theorem mV_X5_restored : Cond.selects RX5 yX5_restored yX5_restored ∈ bigW := bi_20 _ (List.mem_of_getElem? (i := 5) rfl)
theorem mY_X5_restored : Cond.code yX5_restored cX5_restored 3 (some (.int)) ∈ bigW := bi_20 _ (List.mem_of_getElem? (i := 6) rfl)
theorem mK_RX5_184 : Cond.constantLong RX5 184 (2) ∈ bigW := bi_20 _ (List.mem_of_getElem? (i := 7) rfl)
theorem mM_RL_143 : Cond.methodLink RL 143 yL_scaled ∈ bigW := bi_20 _ (List.mem_of_getElem? (i := 8) rfl)
theorem mS_L_scaled : Cond.static yL_scaled ∈ bigW := bi_20 _ (List.mem_of_getElem? (i := 9) rfl)
theorem mY_L_scaled : Cond.codeWith yL_scaled cL_scaled 6 (some (.int)) [(0, 11, 14, 13)] ∈ bigW := bi_20 _ (List.mem_of_getElem? (i := 10) rfl)
theorem mM_RL_67 : Cond.methodLink RL 67 yX5_scaled ∈ bigW := bi_20 _ (List.mem_of_getElem? (i := 11) rfl)
theorem mI_X5_scaled : Cond.instanceMethod yX5_scaled ∈ bigW := bi_20 _ (List.mem_of_getElem? (i := 12) rfl)
theorem mV_X5_scaled : Cond.selects RX5 yX5_scaled yX5_scaled ∈ bigW := bi_20 _ (List.mem_of_getElem? (i := 13) rfl)
theorem mY_X5_scaled : Cond.code yX5_scaled cX5_scaled 6 (some (.long)) ∈ bigW := bi_20 _ (List.mem_of_getElem? (i := 14) rfl)
theorem mK_RX5_206 : Cond.constantLong RX5 206 (8) ∈ bigW := bi_20 _ (List.mem_of_getElem? (i := 15) rfl)
theorem mK_RX5_210 : Cond.constantLong RX5 210 (65535) ∈ bigW := bi_20 _ (List.mem_of_getElem? (i := 16) rfl)
theorem mF_RX5_214 : Cond.fieldLink RX5 214 "RegisterRows" "NUMERATORS" "[J" ∈ bigW := bi_20 _ (List.mem_of_getElem? (i := 17) rfl)
theorem mF_RX5_217 : Cond.fieldLink RX5 217 "RegisterRows" "DENOMINATORS" "[J" ∈ bigW := bi_20 _ (List.mem_of_getElem? (i := 18) rfl)
theorem mM_RX5_220 : Cond.methodLink RX5 220 yX5_inPoints ∈ bigW := bi_20 _ (List.mem_of_getElem? (i := 19) rfl)
theorem mS_X5_inPoints : Cond.static yX5_inPoints ∈ bigW := bi_20 _ (List.mem_of_getElem? (i := 20) rfl)
theorem mY_X5_inPoints : Cond.code yX5_inPoints cX5_inPoints 12 (some (.long)) ∈ bigW := bi_20 _ (List.mem_of_getElem? (i := 21) rfl)
theorem mK_RX5_299 : Cond.constantLong RX5 299 (65536) ∈ bigW := bi_20 _ (List.mem_of_getElem? (i := 22) rfl)
theorem mM_RL_147 : Cond.methodLink RL 147 yL_fraction ∈ bigW := bi_20 _ (List.mem_of_getElem? (i := 23) rfl)
theorem mS_L_fraction : Cond.static yL_fraction ∈ bigW := bi_21 _ (List.mem_of_getElem? (i := 0) rfl)
theorem mY_L_fraction : Cond.codeWith yL_fraction cL_fraction 5 (some (.int)) [(0, 10, 13, 13)] ∈ bigW := bi_21 _ (List.mem_of_getElem? (i := 1) rfl)
theorem mM_RL_71 : Cond.methodLink RL 71 yX5_fraction ∈ bigW := bi_21 _ (List.mem_of_getElem? (i := 2) rfl)
theorem mI_X5_fraction : Cond.instanceMethod yX5_fraction ∈ bigW := bi_21 _ (List.mem_of_getElem? (i := 3) rfl)
theorem mV_X5_fraction : Cond.selects RX5 yX5_fraction yX5_fraction ∈ bigW := bi_21 _ (List.mem_of_getElem? (i := 4) rfl)
theorem mY_X5_fraction : Cond.code yX5_fraction cX5_fraction 7 (some (.int)) ∈ bigW := bi_21 _ (List.mem_of_getElem? (i := 5) rfl)
theorem mK_RX5_224 : Cond.constantLong RX5 224 (9) ∈ bigW := bi_21 _ (List.mem_of_getElem? (i := 6) rfl)
theorem mK_RX5_228 : Cond.constantLong RX5 228 (131072) ∈ bigW := bi_21 _ (List.mem_of_getElem? (i := 7) rfl)
theorem mK_RX5_230 : Cond.constantLong RX5 230 (10) ∈ bigW := bi_21 _ (List.mem_of_getElem? (i := 8) rfl)
theorem mM_RL_150 : Cond.methodLink RL 150 yL_shown ∈ bigW := bi_21 _ (List.mem_of_getElem? (i := 9) rfl)
theorem mS_L_shown : Cond.static yL_shown ∈ bigW := bi_21 _ (List.mem_of_getElem? (i := 10) rfl)
theorem mY_L_shown : Cond.codeWith yL_shown cL_shown 6 (some (.int)) [(0, 12, 15, 13), (0, 12, 19, 23)] ∈ bigW := bi_21 _ (List.mem_of_getElem? (i := 11) rfl)
theorem mM_RL_74 : Cond.methodLink RL 74 yX5_shown ∈ bigW := bi_21 _ (List.mem_of_getElem? (i := 12) rfl)
theorem mI_X5_shown : Cond.instanceMethod yX5_shown ∈ bigW := bi_21 _ (List.mem_of_getElem? (i := 13) rfl)
theorem mV_X5_shown : Cond.selects RX5 yX5_shown yX5_shown ∈ bigW := bi_21 _ (List.mem_of_getElem? (i := 14) rfl)
theorem mY_X5_shown : Cond.code yX5_shown cX5_shown 4 (some (.int)) ∈ bigW := bi_21 _ (List.mem_of_getElem? (i := 15) rfl)
theorem mM_RX5_234 : Cond.methodLink RX5 234 yX4_clear ∈ bigW := bi_21 _ (List.mem_of_getElem? (i := 16) rfl)
theorem mI_X4_clear : Cond.instanceMethod yX4_clear ∈ bigW := bi_21 _ (List.mem_of_getElem? (i := 17) rfl)
theorem mV_X4_clear : Cond.selects RX4 yX4_clear yX4_clear ∈ bigW := bi_21 _ (List.mem_of_getElem? (i := 18) rfl)
theorem mY_X4_clear : Cond.code yX4_clear cX4_clear 1 none ∈ bigW := bi_21 _ (List.mem_of_getElem? (i := 19) rfl)
theorem mM_RX5_235 : Cond.methodLink RX5 235 yX5_writeRegister ∈ bigW := bi_21 _ (List.mem_of_getElem? (i := 20) rfl)
theorem mI_X5_writeRegister : Cond.instanceMethod yX5_writeRegister ∈ bigW := bi_21 _ (List.mem_of_getElem? (i := 21) rfl)
theorem mY_X5_writeRegister : Cond.code yX5_writeRegister cX5_writeRegister 3 none ∈ bigW := bi_21 _ (List.mem_of_getElem? (i := 22) rfl)
theorem mM_RX5_301 : Cond.methodLink RX5 301 yX4_writeNumber ∈ bigW := bi_21 _ (List.mem_of_getElem? (i := 23) rfl)
theorem mI_X4_writeNumber : Cond.instanceMethod yX4_writeNumber ∈ bigW := bi_22 _ (List.mem_of_getElem? (i := 0) rfl)
theorem mV_X4_writeNumber : Cond.selects RX4 yX4_writeNumber yX4_writeNumber ∈ bigW := bi_22 _ (List.mem_of_getElem? (i := 1) rfl)
theorem mY_X4_writeNumber : Cond.code yX4_writeNumber cX4_writeNumber 3 none ∈ bigW := bi_22 _ (List.mem_of_getElem? (i := 2) rfl)
theorem mM_RX4_29 : Cond.methodLink RX4 29 yX4_write ∈ bigW := bi_22 _ (List.mem_of_getElem? (i := 3) rfl)
theorem mI_X4_write : Cond.instanceMethod yX4_write ∈ bigW := bi_22 _ (List.mem_of_getElem? (i := 4) rfl)
theorem mV_X4_write : Cond.selects RX4 yX4_write yX4_write ∈ bigW := bi_22 _ (List.mem_of_getElem? (i := 5) rfl)
theorem mY_X4_write : Cond.code yX4_write cX4_write 2 none ∈ bigW := bi_22 _ (List.mem_of_getElem? (i := 6) rfl)
theorem mM_RX4_33 : Cond.methodLink RX4 33 yX4_writeDigits ∈ bigW := bi_22 _ (List.mem_of_getElem? (i := 7) rfl)
theorem mI_X4_writeDigits : Cond.instanceMethod yX4_writeDigits ∈ bigW := bi_22 _ (List.mem_of_getElem? (i := 8) rfl)
theorem mV_X4_writeDigits : Cond.selects RX4 yX4_writeDigits yX4_writeDigits ∈ bigW := bi_22 _ (List.mem_of_getElem? (i := 9) rfl)
theorem mY_X4_writeDigits : Cond.code yX4_writeDigits cX4_writeDigits 6 none ∈ bigW := bi_22 _ (List.mem_of_getElem? (i := 10) rfl)
theorem mK_RX4_37 : Cond.constantLong RX4 37 (10) ∈ bigW := bi_22 _ (List.mem_of_getElem? (i := 11) rfl)
theorem mM_RX5_304 : Cond.methodLink RX5 304 yX4_writeLength ∈ bigW := bi_22 _ (List.mem_of_getElem? (i := 12) rfl)
theorem mI_X4_writeLength : Cond.instanceMethod yX4_writeLength ∈ bigW := bi_22 _ (List.mem_of_getElem? (i := 13) rfl)
theorem mV_X4_writeLength : Cond.selects RX4 yX4_writeLength yX4_writeLength ∈ bigW := bi_22 _ (List.mem_of_getElem? (i := 14) rfl)
theorem mY_X4_writeLength : Cond.code yX4_writeLength cX4_writeLength 5 none ∈ bigW := bi_22 _ (List.mem_of_getElem? (i := 15) rfl)
theorem mK_RX4_39 : Cond.constantLong RX4 39 (65536) ∈ bigW := bi_22 _ (List.mem_of_getElem? (i := 16) rfl)
theorem mM_RX4_41 : Cond.methodLink RX4 41 yX4_writeFraction ∈ bigW := bi_22 _ (List.mem_of_getElem? (i := 17) rfl)
theorem mI_X4_writeFraction : Cond.instanceMethod yX4_writeFraction ∈ bigW := bi_22 _ (List.mem_of_getElem? (i := 18) rfl)
theorem mV_X4_writeFraction : Cond.selects RX4 yX4_writeFraction yX4_writeFraction ∈ bigW := bi_22 _ (List.mem_of_getElem? (i := 19) rfl)
theorem mY_X4_writeFraction : Cond.code yX4_writeFraction cX4_writeFraction 8 none ∈ bigW := bi_22 _ (List.mem_of_getElem? (i := 20) rfl)
theorem mK_RX4_44 : Cond.constantLong RX4 44 (5) ∈ bigW := bi_22 _ (List.mem_of_getElem? (i := 21) rfl)
theorem mK_RX4_46 : Cond.constantLong RX4 46 (17232) ∈ bigW := bi_22 _ (List.mem_of_getElem? (i := 22) rfl)
theorem mM_RX5_307 : Cond.methodLink RX5 307 yX5_writeGlue ∈ bigW := bi_22 _ (List.mem_of_getElem? (i := 23) rfl)
theorem mI_X5_writeGlue : Cond.instanceMethod yX5_writeGlue ∈ bigW := bi_23 _ (List.mem_of_getElem? (i := 0) rfl)
theorem mY_X5_writeGlue : Cond.code yX5_writeGlue cX5_writeGlue 2 none ∈ bigW := bi_23 _ (List.mem_of_getElem? (i := 1) rfl)
theorem mM_RX5_315 : Cond.methodLink RX5 315 yX4_writeText ∈ bigW := bi_23 _ (List.mem_of_getElem? (i := 2) rfl)
theorem mI_X4_writeText : Cond.instanceMethod yX4_writeText ∈ bigW := bi_23 _ (List.mem_of_getElem? (i := 3) rfl)
theorem mV_X4_writeText : Cond.selects RX4 yX4_writeText yX4_writeText ∈ bigW := bi_23 _ (List.mem_of_getElem? (i := 4) rfl)
theorem mY_X4_writeText : Cond.code yX4_writeText cX4_writeText 3 none ∈ bigW := bi_23 _ (List.mem_of_getElem? (i := 5) rfl)
theorem mM_RX4_19 : Cond.methodLink RX4 19 yJ0_length_8abf5 ∈ bigW := bi_23 _ (List.mem_of_getElem? (i := 6) rfl)
theorem mI_J0_length_8abf5 : Cond.instanceMethod yJ0_length_8abf5 ∈ bigW := bi_23 _ (List.mem_of_getElem? (i := 7) rfl)
theorem mV_J0_length_8abf5 : Cond.selects RJ0 yJ0_length_8abf5 yJ0_length_8abf5 ∈ bigW := bi_23 _ (List.mem_of_getElem? (i := 8) rfl)
theorem mY_J0_length_8abf5 : Cond.code yJ0_length_8abf5 cJ0_length_8abf5 1 (some (.int)) ∈ bigW := bi_23 _ (List.mem_of_getElem? (i := 9) rfl)
theorem mM_RJ0_335 : Cond.methodLink RJ0 335 yJ0_coder_7d493 ∈ bigW := bi_23 _ (List.mem_of_getElem? (i := 10) rfl)
theorem mI_J0_coder_7d493 : Cond.instanceMethod yJ0_coder_7d493 ∈ bigW := bi_23 _ (List.mem_of_getElem? (i := 11) rfl)
theorem mV_J0_coder_7d493 : Cond.selects RJ0 yJ0_coder_7d493 yJ0_coder_7d493 ∈ bigW := bi_23 _ (List.mem_of_getElem? (i := 12) rfl)
theorem mY_J0_coder_7d493 : Cond.code yJ0_coder_7d493 cJ0_coder_7d493 1 (some (.byte)) ∈ bigW := bi_23 _ (List.mem_of_getElem? (i := 13) rfl)
theorem mF_RJ0_38 : Cond.fieldLink RJ0 38 "java/lang/String" "COMPACT_STRINGS" "Z" ∈ bigW := bi_23 _ (List.mem_of_getElem? (i := 14) rfl)
theorem mM_RX4_25 : Cond.methodLink RX4 25 yJ0_charAt_5068e ∈ bigW := bi_23 _ (List.mem_of_getElem? (i := 15) rfl)
theorem mI_J0_charAt_5068e : Cond.instanceMethod yJ0_charAt_5068e ∈ bigW := bi_23 _ (List.mem_of_getElem? (i := 16) rfl)
theorem mV_J0_charAt_5068e : Cond.selects RJ0 yJ0_charAt_5068e yJ0_charAt_5068e ∈ bigW := bi_23 _ (List.mem_of_getElem? (i := 17) rfl)
theorem mY_J0_charAt_5068e : Cond.code yJ0_charAt_5068e cJ0_charAt_5068e 2 (some (.char)) ∈ bigW := bi_23 _ (List.mem_of_getElem? (i := 18) rfl)
theorem mM_RJ0_492 : Cond.methodLink RJ0 492 yJ0_isLatin1_aae02 ∈ bigW := bi_23 _ (List.mem_of_getElem? (i := 19) rfl)
theorem mI_J0_isLatin1_aae02 : Cond.instanceMethod yJ0_isLatin1_aae02 ∈ bigW := bi_23 _ (List.mem_of_getElem? (i := 20) rfl)
theorem mV_J0_isLatin1_aae02 : Cond.selects RJ0 yJ0_isLatin1_aae02 yJ0_isLatin1_aae02 ∈ bigW := bi_23 _ (List.mem_of_getElem? (i := 21) rfl)
theorem mY_J0_isLatin1_aae02 : Cond.code yJ0_isLatin1_aae02 cJ0_isLatin1_aae02 1 (some (.boolean)) ∈ bigW := bi_23 _ (List.mem_of_getElem? (i := 22) rfl)
theorem mM_RJ0_495 : Cond.methodLink RJ0 495 yJ1_charAt_3b067 ∈ bigW := bi_23 _ (List.mem_of_getElem? (i := 23) rfl)
theorem mS_J1_charAt_3b067 : Cond.static yJ1_charAt_3b067 ∈ bigW := bi_24 _ (List.mem_of_getElem? (i := 0) rfl)
theorem mY_J1_charAt_3b067 : Cond.code yJ1_charAt_3b067 cJ1_charAt_3b067 2 (some (.char)) ∈ bigW := bi_24 _ (List.mem_of_getElem? (i := 1) rfl)
theorem mM_RJ1_9 : Cond.methodLink RJ1 9 yJ0_checkIndex_df160 ∈ bigW := bi_24 _ (List.mem_of_getElem? (i := 2) rfl)
theorem mS_J0_checkIndex_df160 : Cond.static yJ0_checkIndex_df160 ∈ bigW := bi_24 _ (List.mem_of_getElem? (i := 3) rfl)
theorem mY_J0_checkIndex_df160 : Cond.code yJ0_checkIndex_df160 cJ0_checkIndex_df160 2 none ∈ bigW := bi_24 _ (List.mem_of_getElem? (i := 4) rfl)
theorem mF_RJ0_1053 : Cond.fieldLink RJ0 1053 "jdk/internal/util/Preconditions" "SIOOBE_FORMATTER" "Ljava/util/function/BiFunction;" ∈ bigW := bi_24 _ (List.mem_of_getElem? (i := 5) rfl)
theorem mM_RJ0_1059 : Cond.methodLink RJ0 1059 yJ3_checkIndex_8e157 ∈ bigW := bi_24 _ (List.mem_of_getElem? (i := 6) rfl)
theorem mS_J3_checkIndex_8e157 : Cond.static yJ3_checkIndex_8e157 ∈ bigW := bi_24 _ (List.mem_of_getElem? (i := 7) rfl)
theorem mY_J3_checkIndex_8e157 : Cond.code yJ3_checkIndex_8e157 cJ3_checkIndex_8e157 3 (some (.int)) ∈ bigW := bi_24 _ (List.mem_of_getElem? (i := 8) rfl)
theorem mM_RJ0_498 : Cond.methodLink RJ0 498 yJ2_charAt_3b067 ∈ bigW := bi_24 _ (List.mem_of_getElem? (i := 9) rfl)
theorem mS_J2_charAt_3b067 : Cond.static yJ2_charAt_3b067 ∈ bigW := bi_24 _ (List.mem_of_getElem? (i := 10) rfl)
theorem mY_J2_charAt_3b067 : Cond.code yJ2_charAt_3b067 cJ2_charAt_3b067 2 (some (.char)) ∈ bigW := bi_24 _ (List.mem_of_getElem? (i := 11) rfl)
theorem mM_RJ2_67 : Cond.methodLink RJ2 67 yJ2_checkIndex_2214a ∈ bigW := bi_24 _ (List.mem_of_getElem? (i := 12) rfl)
theorem mS_J2_checkIndex_2214a : Cond.static yJ2_checkIndex_2214a ∈ bigW := bi_24 _ (List.mem_of_getElem? (i := 13) rfl)
theorem mY_J2_checkIndex_2214a : Cond.code yJ2_checkIndex_2214a cJ2_checkIndex_2214a 2 none ∈ bigW := bi_24 _ (List.mem_of_getElem? (i := 14) rfl)
theorem mM_RJ2_48 : Cond.methodLink RJ2 48 yJ2_length_9d52b ∈ bigW := bi_24 _ (List.mem_of_getElem? (i := 15) rfl)
theorem mS_J2_length_9d52b : Cond.static yJ2_length_9d52b ∈ bigW := bi_24 _ (List.mem_of_getElem? (i := 16) rfl)
theorem mY_J2_length_9d52b : Cond.code yJ2_length_9d52b cJ2_length_9d52b 1 (some (.int)) ∈ bigW := bi_24 _ (List.mem_of_getElem? (i := 17) rfl)
theorem mM_RJ2_414 : Cond.methodLink RJ2 414 yJ0_checkIndex_df160 ∈ bigW := bi_24 _ (List.mem_of_getElem? (i := 18) rfl)
theorem mM_RJ2_71 : Cond.methodLink RJ2 71 yJ2_getChar_3b067 ∈ bigW := bi_24 _ (List.mem_of_getElem? (i := 19) rfl)
theorem mS_J2_getChar_3b067 : Cond.static yJ2_getChar_3b067 ∈ bigW := bi_24 _ (List.mem_of_getElem? (i := 20) rfl)
theorem mY_J2_getChar_3b067 : Cond.code yJ2_getChar_3b067 cJ2_getChar_3b067 2 (some (.char)) ∈ bigW := bi_24 _ (List.mem_of_getElem? (i := 21) rfl)
theorem mF_RJ2_44 : Cond.fieldLink RJ2 44 "java/lang/StringUTF16" "$assertionsDisabled" "Z" ∈ bigW := bi_24 _ (List.mem_of_getElem? (i := 22) rfl)
theorem mF_RJ2_59 : Cond.fieldLink RJ2 59 "java/lang/StringUTF16" "HI_BYTE_SHIFT" "I" ∈ bigW := bi_24 _ (List.mem_of_getElem? (i := 23) rfl)
theorem mF_RJ2_63 : Cond.fieldLink RJ2 63 "java/lang/StringUTF16" "LO_BYTE_SHIFT" "I" ∈ bigW := bi_25 _ (List.mem_of_getElem? (i := 0) rfl)
theorem mM_RX5_322 : Cond.methodLink RX5 322 yX5_writeFlexible ∈ bigW := bi_25 _ (List.mem_of_getElem? (i := 1) rfl)
theorem mI_X5_writeFlexible : Cond.instanceMethod yX5_writeFlexible ∈ bigW := bi_25 _ (List.mem_of_getElem? (i := 2) rfl)
theorem mY_X5_writeFlexible : Cond.code yX5_writeFlexible cX5_writeFlexible 3 none ∈ bigW := bi_25 _ (List.mem_of_getElem? (i := 3) rfl)
theorem mM_RX5_328 : Cond.methodLink RX5 328 yX5_orderName ∈ bigW := bi_25 _ (List.mem_of_getElem? (i := 4) rfl)
theorem mS_X5_orderName : Cond.static yX5_orderName ∈ bigW := bi_25 _ (List.mem_of_getElem? (i := 5) rfl)
theorem mY_X5_orderName : Cond.code yX5_orderName cX5_orderName 2 (some (.object "java/lang/String")) ∈ bigW := bi_25 _ (List.mem_of_getElem? (i := 6) rfl)
theorem mM_RX5_310 : Cond.methodLink RX5 310 yX5_writeRow ∈ bigW := bi_25 _ (List.mem_of_getElem? (i := 7) rfl)
theorem mI_X5_writeRow : Cond.instanceMethod yX5_writeRow ∈ bigW := bi_25 _ (List.mem_of_getElem? (i := 8) rfl)
theorem mY_X5_writeRow : Cond.code yX5_writeRow cX5_writeRow 3 none ∈ bigW := bi_25 _ (List.mem_of_getElem? (i := 9) rfl)
theorem mM_RX5_338 : Cond.methodLink RX5 338 yX4_write ∈ bigW := bi_25 _ (List.mem_of_getElem? (i := 10) rfl)
theorem mM_RX5_238 : Cond.methodLink RX5 238 yX4_signAt ∈ bigW := bi_25 _ (List.mem_of_getElem? (i := 11) rfl)
theorem mI_X4_signAt : Cond.instanceMethod yX4_signAt ∈ bigW := bi_25 _ (List.mem_of_getElem? (i := 12) rfl)
theorem mV_X4_signAt : Cond.selects RX4 yX4_signAt yX4_signAt ∈ bigW := bi_25 _ (List.mem_of_getElem? (i := 13) rfl)
theorem mY_X4_signAt : Cond.code yX4_signAt cX4_signAt 2 (some (.int)) ∈ bigW := bi_25 _ (List.mem_of_getElem? (i := 14) rfl)
theorem mM_RL_153 : Cond.methodLink RL 153 yL_told ∈ bigW := bi_25 _ (List.mem_of_getElem? (i := 15) rfl)
theorem mS_L_told : Cond.static yL_told ∈ bigW := bi_25 _ (List.mem_of_getElem? (i := 16) rfl)
theorem mY_L_told : Cond.codeWith yL_told cL_told 5 (some (.int)) [(0, 10, 13, 13), (0, 10, 17, 23)] ∈ bigW := bi_25 _ (List.mem_of_getElem? (i := 17) rfl)
theorem mM_RL_78 : Cond.methodLink RL 78 yX5_told ∈ bigW := bi_25 _ (List.mem_of_getElem? (i := 18) rfl)
theorem mI_X5_told : Cond.instanceMethod yX5_told ∈ bigW := bi_25 _ (List.mem_of_getElem? (i := 19) rfl)
theorem mV_X5_told : Cond.selects RX5 yX5_told yX5_told ∈ bigW := bi_25 _ (List.mem_of_getElem? (i := 20) rfl)
theorem mY_X5_told : Cond.code yX5_told cX5_told 3 (some (.int)) ∈ bigW := bi_25 _ (List.mem_of_getElem? (i := 21) rfl)
theorem mK_RX5_242 : Cond.constantLong RX5 242 (14) ∈ bigW := bi_25 _ (List.mem_of_getElem? (i := 22) rfl)
theorem mC_RL_82 : Cond.classLink RL 82 RX6 ∈ bigW := bi_25 _ (List.mem_of_getElem? (i := 23) rfl)
theorem mA_RX6 : Cond.instantiable RX6 24 ∈ bigW := bi_26 _ (List.mem_of_getElem? (i := 0) rfl)
theorem mM_RL_84 : Cond.methodLink RL 84 yX6_init ∈ bigW := bi_26 _ (List.mem_of_getElem? (i := 1) rfl)
theorem mI_X6_init : Cond.instanceMethod yX6_init ∈ bigW := bi_26 _ (List.mem_of_getElem? (i := 2) rfl)
theorem mY_X6_init : Cond.code yX6_init cX6_init 2 none ∈ bigW := bi_26 _ (List.mem_of_getElem? (i := 3) rfl)
theorem mM_RX6_1 : Cond.methodLink RX6 1 ⟨"java/lang/Object", "<init>", "()V"⟩ ∈ bigW := bi_26 _ (List.mem_of_getElem? (i := 4) rfl)
theorem mK_RX6_59 : Cond.constantLong RX6 59 (-1) ∈ bigW := bi_26 _ (List.mem_of_getElem? (i := 5) rfl)
theorem mF_RX6_61 : Cond.fieldLink RX6 61 "RegisterRowsModel" "thrown" "I" ∈ bigW := bi_26 _ (List.mem_of_getElem? (i := 6) rfl)
theorem mF_RX6_7 : Cond.fieldLink RX6 7 "RegisterRowsModel" "cells" "[J" ∈ bigW := bi_26 _ (List.mem_of_getElem? (i := 7) rfl)
theorem mF_RX6_13 : Cond.fieldLink RX6 13 "RegisterRowsModel" "levels" "[I" ∈ bigW := bi_26 _ (List.mem_of_getElem? (i := 8) rfl)
theorem mF_RX6_91 : Cond.fieldLink RX6 91 "RegisterRowsModel" "depth" "I" ∈ bigW := bi_26 _ (List.mem_of_getElem? (i := 9) rfl)
theorem mF_RX6_94 : Cond.fieldLink RX6 94 "RegisterRowsModel" "kept" "I" ∈ bigW := bi_26 _ (List.mem_of_getElem? (i := 10) rfl)
theorem mF_RX6_17 : Cond.fieldLink RX6 17 "RegisterRowsModel" "keptCells" "[J" ∈ bigW := bi_26 _ (List.mem_of_getElem? (i := 11) rfl)
theorem mF_RX6_20 : Cond.fieldLink RX6 20 "RegisterRowsModel" "keptOf" "[I" ∈ bigW := bi_26 _ (List.mem_of_getElem? (i := 12) rfl)
theorem mF_RX6_23 : Cond.fieldLink RX6 23 "RegisterRowsModel" "keptLevel" "[I" ∈ bigW := bi_26 _ (List.mem_of_getElem? (i := 13) rfl)
theorem mF_RX6_26 : Cond.fieldLink RX6 26 "RegisterRowsModel" "keptDepth" "[I" ∈ bigW := bi_26 _ (List.mem_of_getElem? (i := 14) rfl)
theorem mF_RX6_29 : Cond.fieldLink RX6 29 "RegisterRowsModel" "waitingGlue" "[J" ∈ bigW := bi_26 _ (List.mem_of_getElem? (i := 15) rfl)
theorem mF_RX6_32 : Cond.fieldLink RX6 32 "RegisterRowsModel" "waitingRow" "[J" ∈ bigW := bi_26 _ (List.mem_of_getElem? (i := 16) rfl)
theorem mF_RX6_35 : Cond.fieldLink RX6 35 "RegisterRowsModel" "value" "[J" ∈ bigW := bi_26 _ (List.mem_of_getElem? (i := 17) rfl)
theorem mF_RX6_138 : Cond.fieldLink RX6 138 "RegisterRowsModel" "told" "I" ∈ bigW := bi_26 _ (List.mem_of_getElem? (i := 18) rfl)
theorem mF_RX6_38 : Cond.fieldLink RX6 38 "RegisterRowsModel" "toldToken" "[I" ∈ bigW := bi_26 _ (List.mem_of_getElem? (i := 19) rfl)
theorem mF_RX6_41 : Cond.fieldLink RX6 41 "RegisterRowsModel" "toldDepth" "[I" ∈ bigW := bi_26 _ (List.mem_of_getElem? (i := 20) rfl)
theorem mF_RX6_141 : Cond.fieldLink RX6 141 "RegisterRowsModel" "gone" "I" ∈ bigW := bi_26 _ (List.mem_of_getElem? (i := 21) rfl)
theorem mF_RX6_44 : Cond.fieldLink RX6 44 "RegisterRowsModel" "goneOf" "[I" ∈ bigW := bi_26 _ (List.mem_of_getElem? (i := 22) rfl)
theorem mF_RX6_47 : Cond.fieldLink RX6 47 "RegisterRowsModel" "goneAgain" "[I" ∈ bigW := bi_26 _ (List.mem_of_getElem? (i := 23) rfl)
theorem mF_RX6_144 : Cond.fieldLink RX6 144 "RegisterRowsModel" "behind" "I" ∈ bigW := bi_27 _ (List.mem_of_getElem? (i := 0) rfl)
theorem mF_RX6_50 : Cond.fieldLink RX6 50 "RegisterRowsModel" "behindToken" "[I" ∈ bigW := bi_27 _ (List.mem_of_getElem? (i := 1) rfl)
theorem mF_RX6_186 : Cond.fieldLink RX6 186 "RegisterRowsModel" "size" "I" ∈ bigW := bi_27 _ (List.mem_of_getElem? (i := 2) rfl)
theorem mF_RX6_53 : Cond.fieldLink RX6 53 "RegisterRowsModel" "text" "[I" ∈ bigW := bi_27 _ (List.mem_of_getElem? (i := 3) rfl)
theorem mF_RX6_193 : Cond.fieldLink RX6 193 "RegisterRowsModel" "backSize" "I" ∈ bigW := bi_27 _ (List.mem_of_getElem? (i := 4) rfl)
theorem mF_RX6_56 : Cond.fieldLink RX6 56 "RegisterRowsModel" "back" "[I" ∈ bigW := bi_27 _ (List.mem_of_getElem? (i := 5) rfl)
theorem mM_RL_91 : Cond.methodLink RL 91 yX6_thrown ∈ bigW := bi_28 _ (List.mem_of_getElem? (i := 7) rfl)
theorem mI_X6_thrown : Cond.instanceMethod yX6_thrown ∈ bigW := bi_28 _ (List.mem_of_getElem? (i := 8) rfl)
theorem mV_X6_thrown : Cond.selects RX6 yX6_thrown yX6_thrown ∈ bigW := bi_28 _ (List.mem_of_getElem? (i := 9) rfl)
theorem mY_X6_thrown : Cond.code yX6_thrown cX6_thrown 1 (some (.int)) ∈ bigW := bi_28 _ (List.mem_of_getElem? (i := 10) rfl)
theorem mM_RL_90 : Cond.methodLink RL 90 yX6_token ∈ bigW := bi_28 _ (List.mem_of_getElem? (i := 11) rfl)
theorem mI_X6_token : Cond.instanceMethod yX6_token ∈ bigW := bi_28 _ (List.mem_of_getElem? (i := 12) rfl)
theorem mV_X6_token : Cond.selects RX6 yX6_token yX6_token ∈ bigW := bi_28 _ (List.mem_of_getElem? (i := 13) rfl)
theorem mY_X6_token : Cond.code yX6_token cX6_token 2 (some (.int)) ∈ bigW := bi_28 _ (List.mem_of_getElem? (i := 14) rfl)
theorem mK_RX6_77 : Cond.constantLong RX6 77 (255) ∈ bigW := bi_28 _ (List.mem_of_getElem? (i := 15) rfl)
theorem mM_RX6_67 : Cond.methodLink RX6 67 yX6_in ∈ bigW := bi_28 _ (List.mem_of_getElem? (i := 16) rfl)
theorem mS_X6_in : Cond.static yX6_in ∈ bigW := bi_28 _ (List.mem_of_getElem? (i := 17) rfl)
theorem mY_X6_in : Cond.code yX6_in cX6_in 6 (some (.boolean)) ∈ bigW := bi_28 _ (List.mem_of_getElem? (i := 18) rfl)
theorem mK_RX6_79 : Cond.constantLong RX6 79 (20) ∈ bigW := bi_28 _ (List.mem_of_getElem? (i := 19) rfl)
theorem mM_RL_99 : Cond.methodLink RL 99 yX6_glue ∈ bigW := bi_28 _ (List.mem_of_getElem? (i := 20) rfl)
theorem mI_X6_glue : Cond.instanceMethod yX6_glue ∈ bigW := bi_28 _ (List.mem_of_getElem? (i := 21) rfl)
theorem mV_X6_glue : Cond.selects RX6 yX6_glue yX6_glue ∈ bigW := bi_28 _ (List.mem_of_getElem? (i := 22) rfl)
theorem mY_X6_glue : Cond.code yX6_glue cX6_glue 10 none ∈ bigW := bi_28 _ (List.mem_of_getElem? (i := 23) rfl)
theorem mM_RX6_81 : Cond.methodLink RX6 81 yX6_isLength ∈ bigW := bi_29 _ (List.mem_of_getElem? (i := 0) rfl)
theorem mS_X6_isLength : Cond.static yX6_isLength ∈ bigW := bi_29 _ (List.mem_of_getElem? (i := 1) rfl)
theorem mY_X6_isLength : Cond.code yX6_isLength cX6_isLength 2 (some (.boolean)) ∈ bigW := bi_29 _ (List.mem_of_getElem? (i := 2) rfl)
theorem mK_RX6_73 : Cond.constantLong RX6 73 (-1073741823) ∈ bigW := bi_29 _ (List.mem_of_getElem? (i := 3) rfl)
theorem mK_RX6_75 : Cond.constantLong RX6 75 (1073741823) ∈ bigW := bi_29 _ (List.mem_of_getElem? (i := 4) rfl)
theorem mK_RX6_85 : Cond.constantLong RX6 85 (3) ∈ bigW := bi_29 _ (List.mem_of_getElem? (i := 5) rfl)
theorem mM_RL_103 : Cond.methodLink RL 103 yX6_set ∈ bigW := bi_29 _ (List.mem_of_getElem? (i := 6) rfl)
theorem mI_X6_set : Cond.instanceMethod yX6_set ∈ bigW := bi_29 _ (List.mem_of_getElem? (i := 7) rfl)
theorem mV_X6_set : Cond.selects RX6 yX6_set yX6_set ∈ bigW := bi_29 _ (List.mem_of_getElem? (i := 8) rfl)
theorem mY_X6_set : Cond.code yX6_set cX6_set 7 (some (.int)) ∈ bigW := bi_29 _ (List.mem_of_getElem? (i := 9) rfl)
theorem mM_RX6_109 : Cond.methodLink RX6 109 yX6_isKind ∈ bigW := bi_29 _ (List.mem_of_getElem? (i := 10) rfl)
theorem mS_X6_isKind : Cond.static yX6_isKind ∈ bigW := bi_29 _ (List.mem_of_getElem? (i := 11) rfl)
theorem mY_X6_isKind : Cond.code yX6_isKind cX6_isKind 1 (some (.boolean)) ∈ bigW := bi_29 _ (List.mem_of_getElem? (i := 12) rfl)
theorem mK_RX6_65 : Cond.constantLong RX6 65 (4) ∈ bigW := bi_29 _ (List.mem_of_getElem? (i := 13) rfl)
theorem mK_RX6_112 : Cond.constantLong RX6 112 (999) ∈ bigW := bi_29 _ (List.mem_of_getElem? (i := 14) rfl)
theorem mM_RX6_114 : Cond.methodLink RX6 114 yX6_isRegister ∈ bigW := bi_29 _ (List.mem_of_getElem? (i := 15) rfl)
theorem mS_X6_isRegister : Cond.static yX6_isRegister ∈ bigW := bi_29 _ (List.mem_of_getElem? (i := 16) rfl)
theorem mY_X6_isRegister : Cond.code yX6_isRegister cX6_isRegister 1 (some (.boolean)) ∈ bigW := bi_29 _ (List.mem_of_getElem? (i := 17) rfl)
theorem mK_RX6_71 : Cond.constantLong RX6 71 (31) ∈ bigW := bi_29 _ (List.mem_of_getElem? (i := 18) rfl)
theorem mM_RX6_117 : Cond.methodLink RX6 117 yX6_finish ∈ bigW := bi_29 _ (List.mem_of_getElem? (i := 19) rfl)
theorem mI_X6_finish : Cond.instanceMethod yX6_finish ∈ bigW := bi_29 _ (List.mem_of_getElem? (i := 20) rfl)
theorem mY_X6_finish : Cond.code yX6_finish cX6_finish 6 (some (.int)) ∈ bigW := bi_29 _ (List.mem_of_getElem? (i := 21) rfl)
theorem mM_RX6_97 : Cond.methodLink RX6 97 yX6_isWithin ∈ bigW := bi_29 _ (List.mem_of_getElem? (i := 22) rfl)
theorem mI_X6_isWithin : Cond.instanceMethod yX6_isWithin ∈ bigW := bi_29 _ (List.mem_of_getElem? (i := 23) rfl)
theorem mY_X6_isWithin : Cond.code yX6_isWithin cX6_isWithin 2 (some (.boolean)) ∈ bigW := bi_30 _ (List.mem_of_getElem? (i := 0) rfl)
theorem mK_RX6_87 : Cond.constantLong RX6 87 (-2147483647) ∈ bigW := bi_30 _ (List.mem_of_getElem? (i := 1) rfl)
theorem mK_RX6_89 : Cond.constantLong RX6 89 (2147483647) ∈ bigW := bi_30 _ (List.mem_of_getElem? (i := 2) rfl)
theorem mM_RX6_101 : Cond.methodLink RX6 101 yX6_isFull ∈ bigW := bi_30 _ (List.mem_of_getElem? (i := 3) rfl)
theorem mI_X6_isFull : Cond.instanceMethod yX6_isFull ∈ bigW := bi_30 _ (List.mem_of_getElem? (i := 4) rfl)
theorem mY_X6_isFull : Cond.code yX6_isFull cX6_isFull 3 (some (.boolean)) ∈ bigW := bi_30 _ (List.mem_of_getElem? (i := 5) rfl)
theorem mM_RX6_105 : Cond.methodLink RX6 105 yX6_put ∈ bigW := bi_30 _ (List.mem_of_getElem? (i := 6) rfl)
theorem mI_X6_put : Cond.instanceMethod yX6_put ∈ bigW := bi_30 _ (List.mem_of_getElem? (i := 7) rfl)
theorem mY_X6_put : Cond.code yX6_put cX6_put 4 none ∈ bigW := bi_30 _ (List.mem_of_getElem? (i := 8) rfl)
theorem mM_RL_116 : Cond.methodLink RL 116 yX6_add ∈ bigW := bi_30 _ (List.mem_of_getElem? (i := 9) rfl)
theorem mI_X6_add : Cond.instanceMethod yX6_add ∈ bigW := bi_30 _ (List.mem_of_getElem? (i := 10) rfl)
theorem mV_X6_add : Cond.selects RX6 yX6_add yX6_add ∈ bigW := bi_30 _ (List.mem_of_getElem? (i := 11) rfl)
theorem mY_X6_add : Cond.code yX6_add cX6_add 6 (some (.int)) ∈ bigW := bi_30 _ (List.mem_of_getElem? (i := 12) rfl)
theorem mK_RX6_121 : Cond.constantLong RX6 121 (2) ∈ bigW := bi_30 _ (List.mem_of_getElem? (i := 13) rfl)
theorem mM_RX6_123 : Cond.methodLink RX6 123 yX6_fetch ∈ bigW := bi_30 _ (List.mem_of_getElem? (i := 14) rfl)
theorem mI_X6_fetch : Cond.instanceMethod yX6_fetch ∈ bigW := bi_30 _ (List.mem_of_getElem? (i := 15) rfl)
theorem mY_X6_fetch : Cond.code yX6_fetch cX6_fetch 4 none ∈ bigW := bi_30 _ (List.mem_of_getElem? (i := 16) rfl)
theorem mM_RX6_127 : Cond.methodLink RX6 127 yX6_addPart ∈ bigW := bi_30 _ (List.mem_of_getElem? (i := 17) rfl)
theorem mI_X6_addPart : Cond.instanceMethod yX6_addPart ∈ bigW := bi_30 _ (List.mem_of_getElem? (i := 18) rfl)
theorem mY_X6_addPart : Cond.code yX6_addPart cX6_addPart 9 none ∈ bigW := bi_30 _ (List.mem_of_getElem? (i := 19) rfl)
theorem mK_RX6_130 : Cond.constantLong RX6 130 (-6442450941) ∈ bigW := bi_30 _ (List.mem_of_getElem? (i := 20) rfl)
theorem mK_RX6_132 : Cond.constantLong RX6 132 (6442450941) ∈ bigW := bi_30 _ (List.mem_of_getElem? (i := 21) rfl)
theorem mM_RL_119 : Cond.methodLink RL 119 yX6_multiply ∈ bigW := bi_30 _ (List.mem_of_getElem? (i := 22) rfl)
theorem mI_X6_multiply : Cond.instanceMethod yX6_multiply ∈ bigW := bi_30 _ (List.mem_of_getElem? (i := 23) rfl)
theorem mV_X6_multiply : Cond.selects RX6 yX6_multiply yX6_multiply ∈ bigW := bi_31 _ (List.mem_of_getElem? (i := 0) rfl)
theorem mY_X6_multiply : Cond.code yX6_multiply cX6_multiply 6 (some (.int)) ∈ bigW := bi_31 _ (List.mem_of_getElem? (i := 1) rfl)
theorem mM_RX6_134 : Cond.methodLink RX6 134 yX6_scale ∈ bigW := bi_31 _ (List.mem_of_getElem? (i := 2) rfl)
theorem mI_X6_scale : Cond.instanceMethod yX6_scale ∈ bigW := bi_31 _ (List.mem_of_getElem? (i := 3) rfl)
theorem mY_X6_scale : Cond.code yX6_scale cX6_scale 6 none ∈ bigW := bi_31 _ (List.mem_of_getElem? (i := 4) rfl)
theorem mM_RL_122 : Cond.methodLink RL 122 yX6_divide ∈ bigW := bi_31 _ (List.mem_of_getElem? (i := 5) rfl)
theorem mI_X6_divide : Cond.instanceMethod yX6_divide ∈ bigW := bi_31 _ (List.mem_of_getElem? (i := 6) rfl)
theorem mV_X6_divide : Cond.selects RX6 yX6_divide yX6_divide ∈ bigW := bi_31 _ (List.mem_of_getElem? (i := 7) rfl)
theorem mY_X6_divide : Cond.code yX6_divide cX6_divide 6 (some (.int)) ∈ bigW := bi_31 _ (List.mem_of_getElem? (i := 8) rfl)
theorem mM_RL_125 : Cond.methodLink RL 125 yX6_take ∈ bigW := bi_31 _ (List.mem_of_getElem? (i := 9) rfl)
theorem mI_X6_take : Cond.instanceMethod yX6_take ∈ bigW := bi_31 _ (List.mem_of_getElem? (i := 10) rfl)
theorem mV_X6_take : Cond.selects RX6 yX6_take yX6_take ∈ bigW := bi_31 _ (List.mem_of_getElem? (i := 11) rfl)
theorem mY_X6_take : Cond.code yX6_take cX6_take 4 (some (.int)) ∈ bigW := bi_31 _ (List.mem_of_getElem? (i := 12) rfl)
theorem mM_RL_129 : Cond.methodLink RL 129 yX6_group ∈ bigW := bi_31 _ (List.mem_of_getElem? (i := 13) rfl)
theorem mI_X6_group : Cond.instanceMethod yX6_group ∈ bigW := bi_31 _ (List.mem_of_getElem? (i := 14) rfl)
theorem mV_X6_group : Cond.selects RX6 yX6_group yX6_group ∈ bigW := bi_31 _ (List.mem_of_getElem? (i := 15) rfl)
theorem mY_X6_group : Cond.code yX6_group cX6_group 1 (some (.int)) ∈ bigW := bi_31 _ (List.mem_of_getElem? (i := 16) rfl)
theorem mM_RL_132 : Cond.methodLink RL 132 yX6_after ∈ bigW := bi_31 _ (List.mem_of_getElem? (i := 17) rfl)
theorem mI_X6_after : Cond.instanceMethod yX6_after ∈ bigW := bi_31 _ (List.mem_of_getElem? (i := 18) rfl)
theorem mV_X6_after : Cond.selects RX6 yX6_after yX6_after ∈ bigW := bi_31 _ (List.mem_of_getElem? (i := 19) rfl)
theorem mY_X6_after : Cond.code yX6_after cX6_after 4 (some (.int)) ∈ bigW := bi_31 _ (List.mem_of_getElem? (i := 20) rfl)
theorem mM_RL_135 : Cond.methodLink RL 135 yX6_end ∈ bigW := bi_31 _ (List.mem_of_getElem? (i := 21) rfl)
theorem mI_X6_end : Cond.instanceMethod yX6_end ∈ bigW := bi_31 _ (List.mem_of_getElem? (i := 22) rfl)
theorem mV_X6_end : Cond.selects RX6 yX6_end yX6_end ∈ bigW := bi_31 _ (List.mem_of_getElem? (i := 23) rfl)
theorem mY_X6_end : Cond.code yX6_end cX6_end 4 (some (.int)) ∈ bigW := bi_32 _ (List.mem_of_getElem? (i := 0) rfl)
theorem mM_RL_138 : Cond.methodLink RL 138 yX6_restored ∈ bigW := bi_32 _ (List.mem_of_getElem? (i := 1) rfl)
theorem mI_X6_restored : Cond.instanceMethod yX6_restored ∈ bigW := bi_32 _ (List.mem_of_getElem? (i := 2) rfl)
theorem mV_X6_restored : Cond.selects RX6 yX6_restored yX6_restored ∈ bigW := bi_32 _ (List.mem_of_getElem? (i := 3) rfl)
theorem mY_X6_restored : Cond.code yX6_restored cX6_restored 3 (some (.int)) ∈ bigW := bi_32 _ (List.mem_of_getElem? (i := 4) rfl)
theorem mM_RL_142 : Cond.methodLink RL 142 yX6_behind ∈ bigW := bi_32 _ (List.mem_of_getElem? (i := 5) rfl)
theorem mI_X6_behind : Cond.instanceMethod yX6_behind ∈ bigW := bi_32 _ (List.mem_of_getElem? (i := 6) rfl)
theorem mV_X6_behind : Cond.selects RX6 yX6_behind yX6_behind ∈ bigW := bi_32 _ (List.mem_of_getElem? (i := 7) rfl)
theorem mY_X6_behind : Cond.code yX6_behind cX6_behind 2 (some (.int)) ∈ bigW := bi_32 _ (List.mem_of_getElem? (i := 8) rfl)
theorem mM_RL_107 : Cond.methodLink RL 107 yX6_get ∈ bigW := bi_32 _ (List.mem_of_getElem? (i := 9) rfl)
theorem mI_X6_get : Cond.instanceMethod yX6_get ∈ bigW := bi_32 _ (List.mem_of_getElem? (i := 10) rfl)
theorem mV_X6_get : Cond.selects RX6 yX6_get yX6_get ∈ bigW := bi_32 _ (List.mem_of_getElem? (i := 11) rfl)
theorem mY_X6_get : Cond.code yX6_get cX6_get 3 (some (.long)) ∈ bigW := bi_32 _ (List.mem_of_getElem? (i := 12) rfl)
theorem mM_RL_110 : Cond.methodLink RL 110 yX6_part ∈ bigW := bi_32 _ (List.mem_of_getElem? (i := 13) rfl)
theorem mI_X6_part : Cond.instanceMethod yX6_part ∈ bigW := bi_32 _ (List.mem_of_getElem? (i := 14) rfl)
theorem mV_X6_part : Cond.selects RX6 yX6_part yX6_part ∈ bigW := bi_32 _ (List.mem_of_getElem? (i := 15) rfl)
theorem mY_X6_part : Cond.code yX6_part cX6_part 3 (some (.long)) ∈ bigW := bi_32 _ (List.mem_of_getElem? (i := 16) rfl)
theorem mM_RL_113 : Cond.methodLink RL 113 yX6_at ∈ bigW := bi_32 _ (List.mem_of_getElem? (i := 17) rfl)
theorem mI_X6_at : Cond.instanceMethod yX6_at ∈ bigW := bi_32 _ (List.mem_of_getElem? (i := 18) rfl)
theorem mV_X6_at : Cond.selects RX6 yX6_at yX6_at ∈ bigW := bi_32 _ (List.mem_of_getElem? (i := 19) rfl)
theorem mY_X6_at : Cond.code yX6_at cX6_at 4 (some (.int)) ∈ bigW := bi_32 _ (List.mem_of_getElem? (i := 20) rfl)
theorem mM_RL_155 : Cond.methodLink RL 155 yX6_told ∈ bigW := bi_32 _ (List.mem_of_getElem? (i := 21) rfl)
theorem mI_X6_told : Cond.instanceMethod yX6_told ∈ bigW := bi_32 _ (List.mem_of_getElem? (i := 22) rfl)
theorem mV_X6_told : Cond.selects RX6 yX6_told yX6_told ∈ bigW := bi_32 _ (List.mem_of_getElem? (i := 23) rfl)
theorem mY_X6_told : Cond.code yX6_told cX6_told 4 (some (.int)) ∈ bigW := bi_33 _ (List.mem_of_getElem? (i := 0) rfl)
theorem mK_RX6_147 : Cond.constantLong RX6 147 (10) ∈ bigW := bi_33 _ (List.mem_of_getElem? (i := 1) rfl)
theorem mK_RX6_149 : Cond.constantLong RX6 149 (14) ∈ bigW := bi_33 _ (List.mem_of_getElem? (i := 2) rfl)
theorem mM_RL_146 : Cond.methodLink RL 146 yX6_scaled ∈ bigW := bi_33 _ (List.mem_of_getElem? (i := 3) rfl)
theorem mI_X6_scaled : Cond.instanceMethod yX6_scaled ∈ bigW := bi_33 _ (List.mem_of_getElem? (i := 4) rfl)
theorem mV_X6_scaled : Cond.selects RX6 yX6_scaled yX6_scaled ∈ bigW := bi_33 _ (List.mem_of_getElem? (i := 5) rfl)
theorem mY_X6_scaled : Cond.code yX6_scaled cX6_scaled 10 (some (.long)) ∈ bigW := bi_33 _ (List.mem_of_getElem? (i := 6) rfl)
theorem mK_RX6_169 : Cond.constantLong RX6 169 (65535) ∈ bigW := bi_33 _ (List.mem_of_getElem? (i := 7) rfl)
theorem mK_RX6_171 : Cond.constantLong RX6 171 (8) ∈ bigW := bi_33 _ (List.mem_of_getElem? (i := 8) rfl)
theorem mM_RX6_173 : Cond.methodLink RX6 173 yX6_upOf ∈ bigW := bi_33 _ (List.mem_of_getElem? (i := 9) rfl)
theorem mS_X6_upOf : Cond.static yX6_upOf ∈ bigW := bi_33 _ (List.mem_of_getElem? (i := 10) rfl)
theorem mY_X6_upOf : Cond.code yX6_upOf cX6_upOf 1 (some (.long)) ∈ bigW := bi_33 _ (List.mem_of_getElem? (i := 11) rfl)
theorem mK_RX6_151 : Cond.constantLong RX6 151 (12) ∈ bigW := bi_33 _ (List.mem_of_getElem? (i := 12) rfl)
theorem mK_RX6_153 : Cond.constantLong RX6 153 (1238) ∈ bigW := bi_33 _ (List.mem_of_getElem? (i := 13) rfl)
theorem mK_RX6_155 : Cond.constantLong RX6 155 (14856) ∈ bigW := bi_33 _ (List.mem_of_getElem? (i := 14) rfl)
theorem mK_RX6_157 : Cond.constantLong RX6 157 (7227) ∈ bigW := bi_33 _ (List.mem_of_getElem? (i := 15) rfl)
theorem mK_RX6_177 : Cond.constantLong RX6 177 (65536) ∈ bigW := bi_33 _ (List.mem_of_getElem? (i := 16) rfl)
theorem mM_RX6_179 : Cond.methodLink RX6 179 yX6_lowOf ∈ bigW := bi_33 _ (List.mem_of_getElem? (i := 17) rfl)
theorem mS_X6_lowOf : Cond.static yX6_lowOf ∈ bigW := bi_33 _ (List.mem_of_getElem? (i := 18) rfl)
theorem mY_X6_lowOf : Cond.code yX6_lowOf cX6_lowOf 1 (some (.long)) ∈ bigW := bi_33 _ (List.mem_of_getElem? (i := 19) rfl)
theorem mK_RX6_159 : Cond.constantLong RX6 159 (100) ∈ bigW := bi_33 _ (List.mem_of_getElem? (i := 20) rfl)
theorem mK_RX6_161 : Cond.constantLong RX6 161 (254) ∈ bigW := bi_33 _ (List.mem_of_getElem? (i := 21) rfl)
theorem mK_RX6_163 : Cond.constantLong RX6 163 (2540) ∈ bigW := bi_33 _ (List.mem_of_getElem? (i := 22) rfl)
theorem mK_RX6_165 : Cond.constantLong RX6 165 (7200) ∈ bigW := bi_33 _ (List.mem_of_getElem? (i := 23) rfl)
theorem mK_RX6_167 : Cond.constantLong RX6 167 (1157) ∈ bigW := bi_34 _ (List.mem_of_getElem? (i := 0) rfl)
theorem mM_RL_149 : Cond.methodLink RL 149 yX6_fraction ∈ bigW := bi_34 _ (List.mem_of_getElem? (i := 1) rfl)
theorem mI_X6_fraction : Cond.instanceMethod yX6_fraction ∈ bigW := bi_34 _ (List.mem_of_getElem? (i := 2) rfl)
theorem mV_X6_fraction : Cond.selects RX6 yX6_fraction yX6_fraction ∈ bigW := bi_34 _ (List.mem_of_getElem? (i := 3) rfl)
theorem mY_X6_fraction : Cond.code yX6_fraction cX6_fraction 10 (some (.int)) ∈ bigW := bi_34 _ (List.mem_of_getElem? (i := 4) rfl)
theorem mK_RX6_182 : Cond.constantLong RX6 182 (9) ∈ bigW := bi_34 _ (List.mem_of_getElem? (i := 5) rfl)
theorem mK_RX6_184 : Cond.constantLong RX6 184 (131072) ∈ bigW := bi_34 _ (List.mem_of_getElem? (i := 6) rfl)
theorem mM_RL_152 : Cond.methodLink RL 152 yX6_shown ∈ bigW := bi_34 _ (List.mem_of_getElem? (i := 7) rfl)
theorem mI_X6_shown : Cond.instanceMethod yX6_shown ∈ bigW := bi_34 _ (List.mem_of_getElem? (i := 8) rfl)
theorem mV_X6_shown : Cond.selects RX6 yX6_shown yX6_shown ∈ bigW := bi_34 _ (List.mem_of_getElem? (i := 9) rfl)
theorem mY_X6_shown : Cond.code yX6_shown cX6_shown 6 (some (.int)) ∈ bigW := bi_34 _ (List.mem_of_getElem? (i := 10) rfl)
theorem mM_RX6_206 : Cond.methodLink RX6 206 yX6_sayLength ∈ bigW := bi_34 _ (List.mem_of_getElem? (i := 11) rfl)
theorem mI_X6_sayLength : Cond.instanceMethod yX6_sayLength ∈ bigW := bi_34 _ (List.mem_of_getElem? (i := 12) rfl)
theorem mY_X6_sayLength : Cond.code yX6_sayLength cX6_sayLength 10 none ∈ bigW := bi_34 _ (List.mem_of_getElem? (i := 13) rfl)
theorem mM_RX6_189 : Cond.methodLink RX6 189 yX6_say ∈ bigW := bi_34 _ (List.mem_of_getElem? (i := 14) rfl)
theorem mI_X6_say : Cond.instanceMethod yX6_say ∈ bigW := bi_34 _ (List.mem_of_getElem? (i := 15) rfl)
theorem mY_X6_say : Cond.code yX6_say cX6_say 2 none ∈ bigW := bi_34 _ (List.mem_of_getElem? (i := 16) rfl)
theorem mM_RX6_198 : Cond.methodLink RX6 198 yX6_sayNumber ∈ bigW := bi_34 _ (List.mem_of_getElem? (i := 17) rfl)
theorem mI_X6_sayNumber : Cond.instanceMethod yX6_sayNumber ∈ bigW := bi_34 _ (List.mem_of_getElem? (i := 18) rfl)
theorem mY_X6_sayNumber : Cond.code yX6_sayNumber cX6_sayNumber 5 none ∈ bigW := bi_34 _ (List.mem_of_getElem? (i := 19) rfl)
theorem mK_RX6_196 : Cond.constantLong RX6 196 (48) ∈ bigW := bi_34 _ (List.mem_of_getElem? (i := 20) rfl)
theorem mK_RX6_202 : Cond.constantLong RX6 202 (5) ∈ bigW := bi_34 _ (List.mem_of_getElem? (i := 21) rfl)
theorem mK_RX6_204 : Cond.constantLong RX6 204 (17232) ∈ bigW := bi_34 _ (List.mem_of_getElem? (i := 22) rfl)
theorem mM_RX6_216 : Cond.methodLink RX6 216 yX6_sayGlue ∈ bigW := bi_34 _ (List.mem_of_getElem? (i := 23) rfl)
theorem mI_X6_sayGlue : Cond.instanceMethod yX6_sayGlue ∈ bigW := bi_35 _ (List.mem_of_getElem? (i := 0) rfl)
theorem mY_X6_sayGlue : Cond.code yX6_sayGlue cX6_sayGlue 3 none ∈ bigW := bi_35 _ (List.mem_of_getElem? (i := 1) rfl)
theorem mM_RX6_209 : Cond.methodLink RX6 209 yX6_sayOrder ∈ bigW := bi_35 _ (List.mem_of_getElem? (i := 2) rfl)
theorem mI_X6_sayOrder : Cond.instanceMethod yX6_sayOrder ∈ bigW := bi_35 _ (List.mem_of_getElem? (i := 3) rfl)
theorem mY_X6_sayOrder : Cond.code yX6_sayOrder cX6_sayOrder 4 none ∈ bigW := bi_35 _ (List.mem_of_getElem? (i := 4) rfl)
theorem mM_RX6_212 : Cond.methodLink RX6 212 yX6_sayWord ∈ bigW := bi_35 _ (List.mem_of_getElem? (i := 5) rfl)
theorem mI_X6_sayWord : Cond.instanceMethod yX6_sayWord ∈ bigW := bi_35 _ (List.mem_of_getElem? (i := 6) rfl)
theorem mY_X6_sayWord : Cond.code yX6_sayWord cX6_sayWord 2 none ∈ bigW := bi_35 _ (List.mem_of_getElem? (i := 7) rfl)
theorem mM_RX6_219 : Cond.methodLink RX6 219 yX6_sayVoid ∈ bigW := bi_35 _ (List.mem_of_getElem? (i := 8) rfl)
theorem mI_X6_sayVoid : Cond.instanceMethod yX6_sayVoid ∈ bigW := bi_35 _ (List.mem_of_getElem? (i := 9) rfl)
theorem mY_X6_sayVoid : Cond.code yX6_sayVoid cX6_sayVoid 1 none ∈ bigW := bi_35 _ (List.mem_of_getElem? (i := 10) rfl)
theorem mK_RL_94 : Cond.constantLong RL 94 (4294967295) ∈ bigW := bi_35 _ (List.mem_of_getElem? (i := 11) rfl)
theorem mF_RJ0_9 : Cond.fieldLink RJ0 9 "java/lang/String" "value" "[B" ∈ bigW := bi_35 _ (List.mem_of_getElem? (i := 13) rfl)
theorem mF_RJ0_15 : Cond.fieldLink RJ0 15 "java/lang/String" "coder" "B" ∈ bigW := bi_35 _ (List.mem_of_getElem? (i := 14) rfl)
theorem mV_X5_makeGiven : Cond.selects RX5 yX5_makeGiven yX5_makeGiven ∈ bigW := bi_35 _ (List.mem_of_getElem? (i := 16) rfl)
theorem mV_X5_putMade : Cond.selects RX5 yX5_putMade yX5_putMade ∈ bigW := bi_35 _ (List.mem_of_getElem? (i := 17) rfl)
theorem mV_X5_madeFits : Cond.selects RX5 yX5_madeFits yX5_madeFits ∈ bigW := bi_35 _ (List.mem_of_getElem? (i := 18) rfl)
theorem mV_X5_addGlue : Cond.selects RX5 yX5_addGlue yX5_addGlue ∈ bigW := bi_35 _ (List.mem_of_getElem? (i := 19) rfl)
theorem mV_X5_addFlexible : Cond.selects RX5 yX5_addFlexible yX5_addFlexible ∈ bigW := bi_35 _ (List.mem_of_getElem? (i := 20) rfl)
theorem mV_X5_giveBackKept : Cond.selects RX5 yX5_giveBackKept yX5_giveBackKept ∈ bigW := bi_35 _ (List.mem_of_getElem? (i := 21) rfl)
theorem mV_X5_writeRegister : Cond.selects RX5 yX5_writeRegister yX5_writeRegister ∈ bigW := bi_35 _ (List.mem_of_getElem? (i := 22) rfl)
theorem mV_X5_writeGlue : Cond.selects RX5 yX5_writeGlue yX5_writeGlue ∈ bigW := bi_35 _ (List.mem_of_getElem? (i := 23) rfl)
theorem mV_X5_writeFlexible : Cond.selects RX5 yX5_writeFlexible yX5_writeFlexible ∈ bigW := bi_36 _ (List.mem_of_getElem? (i := 0) rfl)
theorem mV_X5_writeRow : Cond.selects RX5 yX5_writeRow yX5_writeRow ∈ bigW := bi_36 _ (List.mem_of_getElem? (i := 1) rfl)
theorem mV_X6_finish : Cond.selects RX6 yX6_finish yX6_finish ∈ bigW := bi_36 _ (List.mem_of_getElem? (i := 2) rfl)
theorem mV_X6_isWithin : Cond.selects RX6 yX6_isWithin yX6_isWithin ∈ bigW := bi_36 _ (List.mem_of_getElem? (i := 3) rfl)
theorem mV_X6_isFull : Cond.selects RX6 yX6_isFull yX6_isFull ∈ bigW := bi_36 _ (List.mem_of_getElem? (i := 4) rfl)
theorem mV_X6_put : Cond.selects RX6 yX6_put yX6_put ∈ bigW := bi_36 _ (List.mem_of_getElem? (i := 5) rfl)
theorem mV_X6_fetch : Cond.selects RX6 yX6_fetch yX6_fetch ∈ bigW := bi_36 _ (List.mem_of_getElem? (i := 6) rfl)
theorem mV_X6_addPart : Cond.selects RX6 yX6_addPart yX6_addPart ∈ bigW := bi_36 _ (List.mem_of_getElem? (i := 7) rfl)
theorem mV_X6_scale : Cond.selects RX6 yX6_scale yX6_scale ∈ bigW := bi_36 _ (List.mem_of_getElem? (i := 8) rfl)
theorem mV_X6_sayLength : Cond.selects RX6 yX6_sayLength yX6_sayLength ∈ bigW := bi_36 _ (List.mem_of_getElem? (i := 9) rfl)
theorem mV_X6_say : Cond.selects RX6 yX6_say yX6_say ∈ bigW := bi_36 _ (List.mem_of_getElem? (i := 10) rfl)
theorem mV_X6_sayNumber : Cond.selects RX6 yX6_sayNumber yX6_sayNumber ∈ bigW := bi_36 _ (List.mem_of_getElem? (i := 11) rfl)
theorem mV_X6_sayGlue : Cond.selects RX6 yX6_sayGlue yX6_sayGlue ∈ bigW := bi_36 _ (List.mem_of_getElem? (i := 12) rfl)
theorem mV_X6_sayOrder : Cond.selects RX6 yX6_sayOrder yX6_sayOrder ∈ bigW := bi_36 _ (List.mem_of_getElem? (i := 13) rfl)
theorem mV_X6_sayWord : Cond.selects RX6 yX6_sayWord yX6_sayWord ∈ bigW := bi_36 _ (List.mem_of_getElem? (i := 14) rfl)
theorem mV_X6_sayVoid : Cond.selects RX6 yX6_sayVoid yX6_sayVoid ∈ bigW := bi_36 _ (List.mem_of_getElem? (i := 15) rfl)
theorem iW_X0 : ∀ w ∈ wsX00, w ∈ bigW := by decide +kernel
theorem iW_X1 : ∀ w ∈ wsX10, w ∈ bigW := by decide +kernel
theorem iW_X2 : ∀ w ∈ wsX20, w ∈ bigW := by decide +kernel
theorem iW_X3 : ∀ w ∈ wsX30, w ∈ bigW := by decide +kernel
theorem iW_X4 : ∀ w ∈ wsX40, w ∈ bigW := by decide +kernel
theorem iW_X5 : ∀ w ∈ wsX50, w ∈ bigW := by decide +kernel
theorem iW_X6 : ∀ w ∈ wsX60, w ∈ bigW := by decide +kernel
theorem iW_J0 : ∀ w ∈ wsJ00, w ∈ bigW := by decide +kernel
end
section
theorem dX0_init_0 : decode cX0_init 0 = .ok (.aload_n 0, 1) := by decide +kernel
theorem dX0_init_1 : decode cX0_init 1 = .ok (.invokespecial 3, 3) := by decide +kernel
theorem dX0_init_4 : decode cX0_init 4 = .ok (.aload_n 0, 1) := by decide +kernel
theorem dX0_init_5 : decode cX0_init 5 = .ok (.sipush 928, 3) := by decide +kernel
theorem dX0_init_8 : decode cX0_init 8 = .ok (.newarray .long, 2) := by decide +kernel
theorem dX0_init_10 : decode cX0_init 10 = .ok (.putfield 9, 3) := by decide +kernel
theorem dX0_init_13 : decode cX0_init 13 = .ok (.aload_n 0, 1) := by decide +kernel
theorem dX0_init_14 : decode cX0_init 14 = .ok (.sipush 160, 3) := by decide +kernel
theorem dX0_init_17 : decode cX0_init 17 = .ok (.newarray .int, 2) := by decide +kernel
theorem dX0_init_19 : decode cX0_init 19 = .ok (.putfield 15, 3) := by decide +kernel
theorem dX0_init_22 : decode cX0_init 22 = .ok (.iconst 0, 1) := by decide +kernel
theorem dX0_init_23 : decode cX0_init 23 = .ok (.istore_n 1, 1) := by decide +kernel
theorem dX0_init_24 : decode cX0_init 24 = .ok (.iload_n 1, 1) := by decide +kernel
theorem dX0_init_25 : decode cX0_init 25 = .ok (.bipush 32, 2) := by decide +kernel
theorem dX0_init_27 : decode cX0_init 27 = .ok (.if_icmp .ge 22, 3) := by decide +kernel
theorem dX0_init_30 : decode cX0_init 30 = .ok (.aload_n 0, 1) := by decide +kernel
theorem dX0_init_31 : decode cX0_init 31 = .ok (.getfield 9, 3) := by decide +kernel
theorem dX0_init_34 : decode cX0_init 34 = .ok (.iconst 4, 1) := by decide +kernel
theorem dX0_init_35 : decode cX0_init 35 = .ok (.iload_n 1, 1) := by decide +kernel
theorem dX0_init_36 : decode cX0_init 36 = .ok (.invokestatic 19, 3) := by decide +kernel
theorem dX0_init_39 : decode cX0_init 39 = .ok (.ldc2_w 23, 3) := by decide +kernel
theorem dX0_init_42 : decode cX0_init 42 = .ok (.lastore, 1) := by decide +kernel
theorem dX0_init_43 : decode cX0_init 43 = .ok (.iinc 1 1, 3) := by decide +kernel
theorem dX0_init_46 : decode cX0_init 46 = .ok (.goto (-22), 3) := by decide +kernel
theorem dX0_init_49 : decode cX0_init 49 = .ok (.return_, 1) := by decide +kernel
theorem dX0_home_0 : decode cX0_home 0 = .ok (.getstatic 25, 3) := by decide +kernel
theorem dX0_home_3 : decode cX0_home 3 = .ok (.iload_n 0, 1) := by decide +kernel
theorem dX0_home_4 : decode cX0_home 4 = .ok (.iaload, 1) := by decide +kernel
theorem dX0_home_5 : decode cX0_home 5 = .ok (.iload_n 1, 1) := by decide +kernel
theorem dX0_home_6 : decode cX0_home 6 = .ok (.getstatic 28, 3) := by decide +kernel
theorem dX0_home_9 : decode cX0_home 9 = .ok (.iload_n 0, 1) := by decide +kernel
theorem dX0_home_10 : decode cX0_home 10 = .ok (.iaload, 1) := by decide +kernel
theorem dX0_home_11 : decode cX0_home 11 = .ok (.imul, 1) := by decide +kernel
theorem dX0_home_12 : decode cX0_home 12 = .ok (.iadd, 1) := by decide +kernel
theorem dX0_home_13 : decode cX0_home 13 = .ok (.ireturn, 1) := by decide +kernel
theorem dX0_place_0 : decode cX0_place 0 = .ok (.iload_n 0, 1) := by decide +kernel
theorem dX0_place_1 : decode cX0_place 1 = .ok (.bipush 32, 2) := by decide +kernel
theorem dX0_place_3 : decode cX0_place 3 = .ok (.imul, 1) := by decide +kernel
theorem dX0_place_4 : decode cX0_place 4 = .ok (.iload_n 1, 1) := by decide +kernel
theorem dX0_place_5 : decode cX0_place 5 = .ok (.iadd, 1) := by decide +kernel
theorem dX0_place_6 : decode cX0_place 6 = .ok (.ireturn, 1) := by decide +kernel
theorem dX0_copyTo_0 : decode cX0_copyTo 0 = .ok (.aload_n 0, 1) := by decide +kernel
theorem dX0_copyTo_1 : decode cX0_copyTo 1 = .ok (.getfield 9, 3) := by decide +kernel
theorem dX0_copyTo_4 : decode cX0_copyTo 4 = .ok (.iload_n 2, 1) := by decide +kernel
theorem dX0_copyTo_5 : decode cX0_copyTo 5 = .ok (.iload_n 3, 1) := by decide +kernel
theorem dX0_copyTo_6 : decode cX0_copyTo 6 = .ok (.invokestatic 19, 3) := by decide +kernel
theorem dX0_copyTo_9 : decode cX0_copyTo 9 = .ok (.aload_n 1, 1) := by decide +kernel
theorem dX0_copyTo_10 : decode cX0_copyTo 10 = .ok (.iconst 0, 1) := by decide +kernel
theorem dX0_copyTo_11 : decode cX0_copyTo 11 = .ok (.getstatic 28, 3) := by decide +kernel
theorem dX0_copyTo_14 : decode cX0_copyTo 14 = .ok (.iload_n 2, 1) := by decide +kernel
theorem dX0_copyTo_15 : decode cX0_copyTo 15 = .ok (.iaload, 1) := by decide +kernel
theorem dX0_copyTo_16 : decode cX0_copyTo 16 = .ok (.invokestatic 31, 3) := by decide +kernel
theorem dX0_copyTo_19 : decode cX0_copyTo 19 = .ok (.return_, 1) := by decide +kernel
theorem dX0_copyFrom_0 : decode cX0_copyFrom 0 = .ok (.aload_n 1, 1) := by decide +kernel
theorem dX0_copyFrom_1 : decode cX0_copyFrom 1 = .ok (.iload_n 2, 1) := by decide +kernel
theorem dX0_copyFrom_2 : decode cX0_copyFrom 2 = .ok (.aload_n 0, 1) := by decide +kernel
theorem dX0_copyFrom_3 : decode cX0_copyFrom 3 = .ok (.getfield 9, 3) := by decide +kernel
theorem dX0_copyFrom_6 : decode cX0_copyFrom 6 = .ok (.iload_n 3, 1) := by decide +kernel
theorem dX0_copyFrom_7 : decode cX0_copyFrom 7 = .ok (.iload 4, 2) := by decide +kernel
theorem dX0_copyFrom_9 : decode cX0_copyFrom 9 = .ok (.invokestatic 19, 3) := by decide +kernel
theorem dX0_copyFrom_12 : decode cX0_copyFrom 12 = .ok (.getstatic 28, 3) := by decide +kernel
theorem dX0_copyFrom_15 : decode cX0_copyFrom 15 = .ok (.iload_n 3, 1) := by decide +kernel
theorem dX0_copyFrom_16 : decode cX0_copyFrom 16 = .ok (.iaload, 1) := by decide +kernel
theorem dX0_copyFrom_17 : decode cX0_copyFrom 17 = .ok (.invokestatic 31, 3) := by decide +kernel
theorem dX0_copyFrom_20 : decode cX0_copyFrom 20 = .ok (.return_, 1) := by decide +kernel
theorem dX1_init_0 : decode cX1_init 0 = .ok (.aload_n 0, 1) := by decide +kernel
theorem dX1_init_1 : decode cX1_init 1 = .ok (.invokespecial 3, 3) := by decide +kernel
theorem dX1_init_4 : decode cX1_init 4 = .ok (.aload_n 0, 1) := by decide +kernel
theorem dX1_init_5 : decode cX1_init 5 = .ok (.sipush 200, 3) := by decide +kernel
theorem dX1_init_8 : decode cX1_init 8 = .ok (.newarray .int, 2) := by decide +kernel
theorem dX1_init_10 : decode cX1_init 10 = .ok (.putfield 9, 3) := by decide +kernel
theorem dX1_init_13 : decode cX1_init 13 = .ok (.aload_n 0, 1) := by decide +kernel
theorem dX1_init_14 : decode cX1_init 14 = .ok (.sipush 200, 3) := by decide +kernel
theorem dX1_init_17 : decode cX1_init 17 = .ok (.newarray .int, 2) := by decide +kernel
theorem dX1_init_19 : decode cX1_init 19 = .ok (.putfield 15, 3) := by decide +kernel
theorem dX1_init_22 : decode cX1_init 22 = .ok (.aload_n 0, 1) := by decide +kernel
theorem dX1_init_23 : decode cX1_init 23 = .ok (.sipush 200, 3) := by decide +kernel
theorem dX1_init_26 : decode cX1_init 26 = .ok (.newarray .int, 2) := by decide +kernel
theorem dX1_init_28 : decode cX1_init 28 = .ok (.putfield 18, 3) := by decide +kernel
theorem dX1_init_31 : decode cX1_init 31 = .ok (.aload_n 0, 1) := by decide +kernel
theorem dX1_init_32 : decode cX1_init 32 = .ok (.bipush 60, 2) := by decide +kernel
theorem dX1_init_34 : decode cX1_init 34 = .ok (.newarray .int, 2) := by decide +kernel
theorem dX1_init_36 : decode cX1_init 36 = .ok (.putfield 21, 3) := by decide +kernel
theorem dX1_init_39 : decode cX1_init 39 = .ok (.return_, 1) := by decide +kernel
theorem dX1_clear_0 : decode cX1_clear 0 = .ok (.aload_n 0, 1) := by decide +kernel
theorem dX1_clear_1 : decode cX1_clear 1 = .ok (.iconst 0, 1) := by decide +kernel
theorem dX1_clear_2 : decode cX1_clear 2 = .ok (.putfield 24, 3) := by decide +kernel
theorem dX1_clear_5 : decode cX1_clear 5 = .ok (.aload_n 0, 1) := by decide +kernel
theorem dX1_clear_6 : decode cX1_clear 6 = .ok (.iconst 0, 1) := by decide +kernel
theorem dX1_clear_7 : decode cX1_clear 7 = .ok (.putfield 28, 3) := by decide +kernel
theorem dX1_clear_10 : decode cX1_clear 10 = .ok (.aload_n 0, 1) := by decide +kernel
theorem dX1_clear_11 : decode cX1_clear 11 = .ok (.iconst 0, 1) := by decide +kernel
theorem dX1_clear_12 : decode cX1_clear 12 = .ok (.putfield 31, 3) := by decide +kernel
theorem dX1_clear_15 : decode cX1_clear 15 = .ok (.return_, 1) := by decide +kernel
theorem dX1_append_0 : decode cX1_append 0 = .ok (.aload_n 0, 1) := by decide +kernel
theorem dX1_append_1 : decode cX1_append 1 = .ok (.getfield 24, 3) := by decide +kernel
theorem dX1_append_4 : decode cX1_append 4 = .ok (.ifCond .lt 79, 3) := by decide +kernel
theorem dX1_append_7 : decode cX1_append 7 = .ok (.aload_n 0, 1) := by decide +kernel
theorem dX1_append_8 : decode cX1_append 8 = .ok (.getfield 24, 3) := by decide +kernel
theorem dX1_append_11 : decode cX1_append 11 = .ok (.sipush 200, 3) := by decide +kernel
theorem dX1_append_14 : decode cX1_append 14 = .ok (.if_icmp .ge 69, 3) := by decide +kernel
theorem dX1_append_17 : decode cX1_append 17 = .ok (.aload_n 0, 1) := by decide +kernel
theorem dX1_append_18 : decode cX1_append 18 = .ok (.getfield 9, 3) := by decide +kernel
theorem dX1_append_21 : decode cX1_append 21 = .ok (.aload_n 0, 1) := by decide +kernel
theorem dX1_append_22 : decode cX1_append 22 = .ok (.getfield 24, 3) := by decide +kernel
theorem dX1_append_25 : decode cX1_append 25 = .ok (.iload_n 1, 1) := by decide +kernel
theorem dX1_append_26 : decode cX1_append 26 = .ok (.iastore, 1) := by decide +kernel
theorem dX1_append_27 : decode cX1_append 27 = .ok (.aload_n 0, 1) := by decide +kernel
theorem dX1_append_28 : decode cX1_append 28 = .ok (.getfield 15, 3) := by decide +kernel
theorem dX1_append_31 : decode cX1_append 31 = .ok (.aload_n 0, 1) := by decide +kernel
theorem dX1_append_32 : decode cX1_append 32 = .ok (.getfield 24, 3) := by decide +kernel
theorem dX1_append_35 : decode cX1_append 35 = .ok (.iload_n 2, 1) := by decide +kernel
theorem dX1_append_36 : decode cX1_append 36 = .ok (.iastore, 1) := by decide +kernel
theorem dX1_append_37 : decode cX1_append 37 = .ok (.aload_n 0, 1) := by decide +kernel
theorem dX1_append_38 : decode cX1_append 38 = .ok (.getfield 18, 3) := by decide +kernel
theorem dX1_append_41 : decode cX1_append 41 = .ok (.aload_n 0, 1) := by decide +kernel
theorem dX1_append_42 : decode cX1_append 42 = .ok (.getfield 24, 3) := by decide +kernel
theorem dX1_append_45 : decode cX1_append 45 = .ok (.iload_n 3, 1) := by decide +kernel
theorem dX1_append_46 : decode cX1_append 46 = .ok (.ifCond .eq 7, 3) := by decide +kernel
theorem dX1_append_49 : decode cX1_append 49 = .ok (.iconst 1, 1) := by decide +kernel
theorem dX1_append_50 : decode cX1_append 50 = .ok (.goto 4, 3) := by decide +kernel
theorem dX1_append_53 : decode cX1_append 53 = .ok (.iconst 0, 1) := by decide +kernel
theorem dX1_append_54 : decode cX1_append 54 = .ok (.iastore, 1) := by decide +kernel
theorem dX1_append_55 : decode cX1_append 55 = .ok (.aload_n 0, 1) := by decide +kernel
theorem dX1_append_56 : decode cX1_append 56 = .ok (.dup, 1) := by decide +kernel
theorem dX1_append_57 : decode cX1_append 57 = .ok (.getfield 28, 3) := by decide +kernel
theorem dX1_append_60 : decode cX1_append 60 = .ok (.aload_n 0, 1) := by decide +kernel
theorem dX1_append_61 : decode cX1_append 61 = .ok (.getfield 18, 3) := by decide +kernel
theorem dX1_append_64 : decode cX1_append 64 = .ok (.aload_n 0, 1) := by decide +kernel
theorem dX1_append_65 : decode cX1_append 65 = .ok (.getfield 24, 3) := by decide +kernel
theorem dX1_append_68 : decode cX1_append 68 = .ok (.iaload, 1) := by decide +kernel
theorem dX1_append_69 : decode cX1_append 69 = .ok (.iadd, 1) := by decide +kernel
theorem dX1_append_70 : decode cX1_append 70 = .ok (.putfield 28, 3) := by decide +kernel
theorem dX1_append_73 : decode cX1_append 73 = .ok (.aload_n 0, 1) := by decide +kernel
theorem dX1_append_74 : decode cX1_append 74 = .ok (.dup, 1) := by decide +kernel
theorem dX1_append_75 : decode cX1_append 75 = .ok (.getfield 24, 3) := by decide +kernel
theorem dX1_append_78 : decode cX1_append 78 = .ok (.iconst 1, 1) := by decide +kernel
theorem dX1_append_79 : decode cX1_append 79 = .ok (.iadd, 1) := by decide +kernel
theorem dX1_append_80 : decode cX1_append 80 = .ok (.putfield 24, 3) := by decide +kernel
theorem dX1_append_83 : decode cX1_append 83 = .ok (.return_, 1) := by decide +kernel
theorem dX1_appendToken_0 : decode cX1_appendToken 0 = .ok (.aload_n 0, 1) := by decide +kernel
theorem dX1_appendToken_1 : decode cX1_appendToken 1 = .ok (.getfield 31, 3) := by decide +kernel
theorem dX1_appendToken_4 : decode cX1_appendToken 4 = .ok (.ifCond .lt 32, 3) := by decide +kernel
theorem dX1_appendToken_7 : decode cX1_appendToken 7 = .ok (.aload_n 0, 1) := by decide +kernel
theorem dX1_appendToken_8 : decode cX1_appendToken 8 = .ok (.getfield 31, 3) := by decide +kernel
theorem dX1_appendToken_11 : decode cX1_appendToken 11 = .ok (.bipush 60, 2) := by decide +kernel
theorem dX1_appendToken_13 : decode cX1_appendToken 13 = .ok (.if_icmp .ge 23, 3) := by decide +kernel
theorem dX1_appendToken_16 : decode cX1_appendToken 16 = .ok (.aload_n 0, 1) := by decide +kernel
theorem dX1_appendToken_17 : decode cX1_appendToken 17 = .ok (.getfield 21, 3) := by decide +kernel
theorem dX1_appendToken_20 : decode cX1_appendToken 20 = .ok (.aload_n 0, 1) := by decide +kernel
theorem dX1_appendToken_21 : decode cX1_appendToken 21 = .ok (.getfield 31, 3) := by decide +kernel
theorem dX1_appendToken_24 : decode cX1_appendToken 24 = .ok (.iload_n 1, 1) := by decide +kernel
theorem dX1_appendToken_25 : decode cX1_appendToken 25 = .ok (.iastore, 1) := by decide +kernel
theorem dX1_appendToken_26 : decode cX1_appendToken 26 = .ok (.aload_n 0, 1) := by decide +kernel
theorem dX1_appendToken_27 : decode cX1_appendToken 27 = .ok (.dup, 1) := by decide +kernel
theorem dX1_appendToken_28 : decode cX1_appendToken 28 = .ok (.getfield 31, 3) := by decide +kernel
theorem dX1_appendToken_31 : decode cX1_appendToken 31 = .ok (.iconst 1, 1) := by decide +kernel
theorem dX1_appendToken_32 : decode cX1_appendToken 32 = .ok (.iadd, 1) := by decide +kernel
theorem dX1_appendToken_33 : decode cX1_appendToken 33 = .ok (.putfield 31, 3) := by decide +kernel
theorem dX1_appendToken_36 : decode cX1_appendToken 36 = .ok (.return_, 1) := by decide +kernel
theorem dX1_copyTokens_0 : decode cX1_copyTokens 0 = .ok (.aload_n 1, 1) := by decide +kernel
theorem dX1_copyTokens_1 : decode cX1_copyTokens 1 = .ok (.invokevirtual 34, 3) := by decide +kernel
theorem dX1_copyTokens_4 : decode cX1_copyTokens 4 = .ok (.istore_n 2, 1) := by decide +kernel
theorem dX1_copyTokens_5 : decode cX1_copyTokens 5 = .ok (.iload_n 2, 1) := by decide +kernel
theorem dX1_copyTokens_6 : decode cX1_copyTokens 6 = .ok (.ifCond .lt 33, 3) := by decide +kernel
theorem dX1_copyTokens_9 : decode cX1_copyTokens 9 = .ok (.iload_n 2, 1) := by decide +kernel
theorem dX1_copyTokens_10 : decode cX1_copyTokens 10 = .ok (.aload_n 1, 1) := by decide +kernel
theorem dX1_copyTokens_11 : decode cX1_copyTokens 11 = .ok (.getfield 40, 3) := by decide +kernel
theorem dX1_copyTokens_14 : decode cX1_copyTokens 14 = .ok (.if_icmp .ge 25, 3) := by decide +kernel
theorem dX1_copyTokens_17 : decode cX1_copyTokens 17 = .ok (.iload_n 2, 1) := by decide +kernel
theorem dX1_copyTokens_18 : decode cX1_copyTokens 18 = .ok (.bipush 60, 2) := by decide +kernel
theorem dX1_copyTokens_20 : decode cX1_copyTokens 20 = .ok (.if_icmp .ge 19, 3) := by decide +kernel
theorem dX1_copyTokens_23 : decode cX1_copyTokens 23 = .ok (.aload_n 0, 1) := by decide +kernel
theorem dX1_copyTokens_24 : decode cX1_copyTokens 24 = .ok (.aload_n 1, 1) := by decide +kernel
theorem dX1_copyTokens_25 : decode cX1_copyTokens 25 = .ok (.getfield 41, 3) := by decide +kernel
theorem dX1_copyTokens_28 : decode cX1_copyTokens 28 = .ok (.iload_n 2, 1) := by decide +kernel
theorem dX1_copyTokens_29 : decode cX1_copyTokens 29 = .ok (.iaload, 1) := by decide +kernel
theorem dX1_copyTokens_30 : decode cX1_copyTokens 30 = .ok (.invokevirtual 42, 3) := by decide +kernel
theorem dX1_copyTokens_33 : decode cX1_copyTokens 33 = .ok (.iinc 2 1, 3) := by decide +kernel
theorem dX1_copyTokens_36 : decode cX1_copyTokens 36 = .ok (.goto (-31), 3) := by decide +kernel
theorem dX1_copyTokens_39 : decode cX1_copyTokens 39 = .ok (.return_, 1) := by decide +kernel
theorem dX2_init_0 : decode cX2_init 0 = .ok (.aload_n 0, 1) := by decide +kernel
theorem dX2_init_1 : decode cX2_init 1 = .ok (.invokespecial 3, 3) := by decide +kernel
theorem dX2_init_4 : decode cX2_init 4 = .ok (.aload_n 0, 1) := by decide +kernel
theorem dX2_init_5 : decode cX2_init 5 = .ok (.bipush 20, 2) := by decide +kernel
theorem dX2_init_7 : decode cX2_init 7 = .ok (.newarray .int, 2) := by decide +kernel
theorem dX2_init_9 : decode cX2_init 9 = .ok (.putfield 9, 3) := by decide +kernel
theorem dX2_init_12 : decode cX2_init 12 = .ok (.aload_n 0, 1) := by decide +kernel
theorem dX2_init_13 : decode cX2_init 13 = .ok (.bipush 20, 2) := by decide +kernel
theorem dX2_init_15 : decode cX2_init 15 = .ok (.newarray .int, 2) := by decide +kernel
theorem dX2_init_17 : decode cX2_init 17 = .ok (.putfield 15, 3) := by decide +kernel
theorem dX2_init_20 : decode cX2_init 20 = .ok (.aload_n 0, 1) := by decide +kernel
theorem dX2_init_21 : decode cX2_init 21 = .ok (.bipush 60, 2) := by decide +kernel
theorem dX2_init_23 : decode cX2_init 23 = .ok (.newarray .int, 2) := by decide +kernel
theorem dX2_init_25 : decode cX2_init 25 = .ok (.putfield 18, 3) := by decide +kernel
theorem dX2_init_28 : decode cX2_init 28 = .ok (.return_, 1) := by decide +kernel
theorem dX2_open_0 : decode cX2_open 0 = .ok (.aload_n 0, 1) := by decide +kernel
theorem dX2_open_1 : decode cX2_open 1 = .ok (.getfield 21, 3) := by decide +kernel
theorem dX2_open_4 : decode cX2_open 4 = .ok (.ifCond .lt 45, 3) := by decide +kernel
theorem dX2_open_7 : decode cX2_open 7 = .ok (.aload_n 0, 1) := by decide +kernel
theorem dX2_open_8 : decode cX2_open 8 = .ok (.getfield 21, 3) := by decide +kernel
theorem dX2_open_11 : decode cX2_open 11 = .ok (.bipush 20, 2) := by decide +kernel
theorem dX2_open_13 : decode cX2_open 13 = .ok (.if_icmp .ge 36, 3) := by decide +kernel
theorem dX2_open_16 : decode cX2_open 16 = .ok (.aload_n 0, 1) := by decide +kernel
theorem dX2_open_17 : decode cX2_open 17 = .ok (.getfield 9, 3) := by decide +kernel
theorem dX2_open_20 : decode cX2_open 20 = .ok (.aload_n 0, 1) := by decide +kernel
theorem dX2_open_21 : decode cX2_open 21 = .ok (.getfield 21, 3) := by decide +kernel
theorem dX2_open_24 : decode cX2_open 24 = .ok (.iload_n 1, 1) := by decide +kernel
theorem dX2_open_25 : decode cX2_open 25 = .ok (.iastore, 1) := by decide +kernel
theorem dX2_open_26 : decode cX2_open 26 = .ok (.aload_n 0, 1) := by decide +kernel
theorem dX2_open_27 : decode cX2_open 27 = .ok (.getfield 15, 3) := by decide +kernel
theorem dX2_open_30 : decode cX2_open 30 = .ok (.aload_n 0, 1) := by decide +kernel
theorem dX2_open_31 : decode cX2_open 31 = .ok (.getfield 21, 3) := by decide +kernel
theorem dX2_open_34 : decode cX2_open 34 = .ok (.aload_n 0, 1) := by decide +kernel
theorem dX2_open_35 : decode cX2_open 35 = .ok (.getfield 25, 3) := by decide +kernel
theorem dX2_open_38 : decode cX2_open 38 = .ok (.iastore, 1) := by decide +kernel
theorem dX2_open_39 : decode cX2_open 39 = .ok (.aload_n 0, 1) := by decide +kernel
theorem dX2_open_40 : decode cX2_open 40 = .ok (.dup, 1) := by decide +kernel
theorem dX2_open_41 : decode cX2_open 41 = .ok (.getfield 21, 3) := by decide +kernel
theorem dX2_open_44 : decode cX2_open 44 = .ok (.iconst 1, 1) := by decide +kernel
theorem dX2_open_45 : decode cX2_open 45 = .ok (.iadd, 1) := by decide +kernel
theorem dX2_open_46 : decode cX2_open 46 = .ok (.putfield 21, 3) := by decide +kernel
theorem dX2_open_49 : decode cX2_open 49 = .ok (.return_, 1) := by decide +kernel
theorem dX2_append_0 : decode cX2_append 0 = .ok (.aload_n 0, 1) := by decide +kernel
theorem dX2_append_1 : decode cX2_append 1 = .ok (.getfield 25, 3) := by decide +kernel
theorem dX2_append_4 : decode cX2_append 4 = .ok (.ifCond .lt 32, 3) := by decide +kernel
theorem dX2_append_7 : decode cX2_append 7 = .ok (.aload_n 0, 1) := by decide +kernel
theorem dX2_append_8 : decode cX2_append 8 = .ok (.getfield 25, 3) := by decide +kernel
theorem dX2_append_11 : decode cX2_append 11 = .ok (.bipush 60, 2) := by decide +kernel
theorem dX2_append_13 : decode cX2_append 13 = .ok (.if_icmp .ge 23, 3) := by decide +kernel
theorem dX2_append_16 : decode cX2_append 16 = .ok (.aload_n 0, 1) := by decide +kernel
theorem dX2_append_17 : decode cX2_append 17 = .ok (.getfield 18, 3) := by decide +kernel
theorem dX2_append_20 : decode cX2_append 20 = .ok (.aload_n 0, 1) := by decide +kernel
theorem dX2_append_21 : decode cX2_append 21 = .ok (.getfield 25, 3) := by decide +kernel
theorem dX2_append_24 : decode cX2_append 24 = .ok (.iload_n 1, 1) := by decide +kernel
theorem dX2_append_25 : decode cX2_append 25 = .ok (.iastore, 1) := by decide +kernel
theorem dX2_append_26 : decode cX2_append 26 = .ok (.aload_n 0, 1) := by decide +kernel
theorem dX2_append_27 : decode cX2_append 27 = .ok (.dup, 1) := by decide +kernel
theorem dX2_append_28 : decode cX2_append 28 = .ok (.getfield 25, 3) := by decide +kernel
theorem dX2_append_31 : decode cX2_append 31 = .ok (.iconst 1, 1) := by decide +kernel
theorem dX2_append_32 : decode cX2_append 32 = .ok (.iadd, 1) := by decide +kernel
theorem dX2_append_33 : decode cX2_append 33 = .ok (.putfield 25, 3) := by decide +kernel
theorem dX2_append_36 : decode cX2_append 36 = .ok (.return_, 1) := by decide +kernel
theorem dX2_firstKept_0 : decode cX2_firstKept 0 = .ok (.aload_n 0, 1) := by decide +kernel
theorem dX2_firstKept_1 : decode cX2_firstKept 1 = .ok (.getfield 21, 3) := by decide +kernel
theorem dX2_firstKept_4 : decode cX2_firstKept 4 = .ok (.ifCond .le 26, 3) := by decide +kernel
theorem dX2_firstKept_7 : decode cX2_firstKept 7 = .ok (.aload_n 0, 1) := by decide +kernel
theorem dX2_firstKept_8 : decode cX2_firstKept 8 = .ok (.getfield 21, 3) := by decide +kernel
theorem dX2_firstKept_11 : decode cX2_firstKept 11 = .ok (.bipush 20, 2) := by decide +kernel
theorem dX2_firstKept_13 : decode cX2_firstKept 13 = .ok (.if_icmp .gt 17, 3) := by decide +kernel
theorem dX2_firstKept_16 : decode cX2_firstKept 16 = .ok (.aload_n 0, 1) := by decide +kernel
theorem dX2_firstKept_17 : decode cX2_firstKept 17 = .ok (.getfield 9, 3) := by decide +kernel
theorem dX2_firstKept_20 : decode cX2_firstKept 20 = .ok (.aload_n 0, 1) := by decide +kernel
theorem dX2_firstKept_21 : decode cX2_firstKept 21 = .ok (.getfield 21, 3) := by decide +kernel
theorem dX2_firstKept_24 : decode cX2_firstKept 24 = .ok (.iconst 1, 1) := by decide +kernel
theorem dX2_firstKept_25 : decode cX2_firstKept 25 = .ok (.isub, 1) := by decide +kernel
theorem dX2_firstKept_26 : decode cX2_firstKept 26 = .ok (.iaload, 1) := by decide +kernel
theorem dX2_firstKept_27 : decode cX2_firstKept 27 = .ok (.goto 4, 3) := by decide +kernel
theorem dX2_firstKept_30 : decode cX2_firstKept 30 = .ok (.iconst 0, 1) := by decide +kernel
theorem dX2_firstKept_31 : decode cX2_firstKept 31 = .ok (.ireturn, 1) := by decide +kernel
theorem dX2_firstToken_0 : decode cX2_firstToken 0 = .ok (.aload_n 0, 1) := by decide +kernel
theorem dX2_firstToken_1 : decode cX2_firstToken 1 = .ok (.getfield 21, 3) := by decide +kernel
theorem dX2_firstToken_4 : decode cX2_firstToken 4 = .ok (.ifCond .le 26, 3) := by decide +kernel
theorem dX2_firstToken_7 : decode cX2_firstToken 7 = .ok (.aload_n 0, 1) := by decide +kernel
theorem dX2_firstToken_8 : decode cX2_firstToken 8 = .ok (.getfield 21, 3) := by decide +kernel
theorem dX2_firstToken_11 : decode cX2_firstToken 11 = .ok (.bipush 20, 2) := by decide +kernel
theorem dX2_firstToken_13 : decode cX2_firstToken 13 = .ok (.if_icmp .gt 17, 3) := by decide +kernel
theorem dX2_firstToken_16 : decode cX2_firstToken 16 = .ok (.aload_n 0, 1) := by decide +kernel
theorem dX2_firstToken_17 : decode cX2_firstToken 17 = .ok (.getfield 15, 3) := by decide +kernel
theorem dX2_firstToken_20 : decode cX2_firstToken 20 = .ok (.aload_n 0, 1) := by decide +kernel
theorem dX2_firstToken_21 : decode cX2_firstToken 21 = .ok (.getfield 21, 3) := by decide +kernel
theorem dX2_firstToken_24 : decode cX2_firstToken 24 = .ok (.iconst 1, 1) := by decide +kernel
theorem dX2_firstToken_25 : decode cX2_firstToken 25 = .ok (.isub, 1) := by decide +kernel
theorem dX2_firstToken_26 : decode cX2_firstToken 26 = .ok (.iaload, 1) := by decide +kernel
theorem dX2_firstToken_27 : decode cX2_firstToken 27 = .ok (.goto 4, 3) := by decide +kernel
theorem dX2_firstToken_30 : decode cX2_firstToken 30 = .ok (.iconst 0, 1) := by decide +kernel
theorem dX2_firstToken_31 : decode cX2_firstToken 31 = .ok (.ireturn, 1) := by decide +kernel
theorem dX2_close_0 : decode cX2_close 0 = .ok (.aload_n 0, 1) := by decide +kernel
theorem dX2_close_1 : decode cX2_close 1 = .ok (.getfield 21, 3) := by decide +kernel
theorem dX2_close_4 : decode cX2_close 4 = .ok (.ifCond .le 21, 3) := by decide +kernel
theorem dX2_close_7 : decode cX2_close 7 = .ok (.aload_n 0, 1) := by decide +kernel
theorem dX2_close_8 : decode cX2_close 8 = .ok (.aload_n 0, 1) := by decide +kernel
theorem dX2_close_9 : decode cX2_close 9 = .ok (.invokevirtual 28, 3) := by decide +kernel
theorem dX2_close_12 : decode cX2_close 12 = .ok (.putfield 25, 3) := by decide +kernel
theorem dX2_close_15 : decode cX2_close 15 = .ok (.aload_n 0, 1) := by decide +kernel
theorem dX2_close_16 : decode cX2_close 16 = .ok (.dup, 1) := by decide +kernel
theorem dX2_close_17 : decode cX2_close 17 = .ok (.getfield 21, 3) := by decide +kernel
theorem dX2_close_20 : decode cX2_close 20 = .ok (.iconst 1, 1) := by decide +kernel
theorem dX2_close_21 : decode cX2_close 21 = .ok (.isub, 1) := by decide +kernel
theorem dX2_close_22 : decode cX2_close 22 = .ok (.putfield 21, 3) := by decide +kernel
theorem dX2_close_25 : decode cX2_close 25 = .ok (.return_, 1) := by decide +kernel
theorem dX3_init_0 : decode cX3_init 0 = .ok (.aload_n 0, 1) := by decide +kernel
theorem dX3_init_1 : decode cX3_init 1 = .ok (.invokespecial 3, 3) := by decide +kernel
theorem dX3_init_4 : decode cX3_init 4 = .ok (.aload_n 0, 1) := by decide +kernel
theorem dX3_init_5 : decode cX3_init 5 = .ok (.sipush 200, 3) := by decide +kernel
theorem dX3_init_8 : decode cX3_init 8 = .ok (.newarray .int, 2) := by decide +kernel
theorem dX3_init_10 : decode cX3_init 10 = .ok (.putfield 9, 3) := by decide +kernel
theorem dX3_init_13 : decode cX3_init 13 = .ok (.aload_n 0, 1) := by decide +kernel
theorem dX3_init_14 : decode cX3_init 14 = .ok (.sipush 200, 3) := by decide +kernel
theorem dX3_init_17 : decode cX3_init 17 = .ok (.newarray .int, 2) := by decide +kernel
theorem dX3_init_19 : decode cX3_init 19 = .ok (.putfield 15, 3) := by decide +kernel
theorem dX3_init_22 : decode cX3_init 22 = .ok (.aload_n 0, 1) := by decide +kernel
theorem dX3_init_23 : decode cX3_init 23 = .ok (.sipush 200, 3) := by decide +kernel
theorem dX3_init_26 : decode cX3_init 26 = .ok (.newarray .int, 2) := by decide +kernel
theorem dX3_init_28 : decode cX3_init 28 = .ok (.putfield 18, 3) := by decide +kernel
theorem dX3_init_31 : decode cX3_init 31 = .ok (.aload_n 0, 1) := by decide +kernel
theorem dX3_init_32 : decode cX3_init 32 = .ok (.sipush 4200, 3) := by decide +kernel
theorem dX3_init_35 : decode cX3_init 35 = .ok (.newarray .long, 2) := by decide +kernel
theorem dX3_init_37 : decode cX3_init 37 = .ok (.putfield 21, 3) := by decide +kernel
theorem dX3_init_40 : decode cX3_init 40 = .ok (.return_, 1) := by decide +kernel
theorem dX3_keep_0 : decode cX3_keep 0 = .ok (.aload_n 0, 1) := by decide +kernel
theorem dX3_keep_1 : decode cX3_keep 1 = .ok (.getfield 25, 3) := by decide +kernel
theorem dX3_keep_4 : decode cX3_keep 4 = .ok (.ifCond .lt 13, 3) := by decide +kernel
theorem dX3_keep_7 : decode cX3_keep 7 = .ok (.aload_n 0, 1) := by decide +kernel
theorem dX3_keep_8 : decode cX3_keep 8 = .ok (.getfield 25, 3) := by decide +kernel
theorem dX3_keep_11 : decode cX3_keep 11 = .ok (.sipush 200, 3) := by decide +kernel
theorem dX3_keep_14 : decode cX3_keep 14 = .ok (.if_icmp .lt 4, 3) := by decide +kernel
theorem dX3_keep_17 : decode cX3_keep 17 = .ok (.return_, 1) := by decide +kernel
theorem dX3_keep_18 : decode cX3_keep 18 = .ok (.aload_n 0, 1) := by decide +kernel
theorem dX3_keep_19 : decode cX3_keep 19 = .ok (.getfield 9, 3) := by decide +kernel
theorem dX3_keep_22 : decode cX3_keep 22 = .ok (.aload_n 0, 1) := by decide +kernel
theorem dX3_keep_23 : decode cX3_keep 23 = .ok (.getfield 25, 3) := by decide +kernel
theorem dX3_keep_26 : decode cX3_keep 26 = .ok (.iload_n 2, 1) := by decide +kernel
theorem dX3_keep_27 : decode cX3_keep 27 = .ok (.iastore, 1) := by decide +kernel
theorem dX3_keep_28 : decode cX3_keep 28 = .ok (.aload_n 0, 1) := by decide +kernel
theorem dX3_keep_29 : decode cX3_keep 29 = .ok (.getfield 15, 3) := by decide +kernel
theorem dX3_keep_32 : decode cX3_keep 32 = .ok (.aload_n 0, 1) := by decide +kernel
theorem dX3_keep_33 : decode cX3_keep 33 = .ok (.getfield 25, 3) := by decide +kernel
theorem dX3_keep_36 : decode cX3_keep 36 = .ok (.iload_n 3, 1) := by decide +kernel
theorem dX3_keep_37 : decode cX3_keep 37 = .ok (.iastore, 1) := by decide +kernel
theorem dX3_keep_38 : decode cX3_keep 38 = .ok (.aload_n 0, 1) := by decide +kernel
theorem dX3_keep_39 : decode cX3_keep 39 = .ok (.getfield 18, 3) := by decide +kernel
theorem dX3_keep_42 : decode cX3_keep 42 = .ok (.aload_n 0, 1) := by decide +kernel
theorem dX3_keep_43 : decode cX3_keep 43 = .ok (.getfield 25, 3) := by decide +kernel
theorem dX3_keep_46 : decode cX3_keep 46 = .ok (.aload_n 1, 1) := by decide +kernel
theorem dX3_keep_47 : decode cX3_keep 47 = .ok (.getfield 29, 3) := by decide +kernel
theorem dX3_keep_50 : decode cX3_keep 50 = .ok (.iload_n 2, 1) := by decide +kernel
theorem dX3_keep_51 : decode cX3_keep 51 = .ok (.iload_n 3, 1) := by decide +kernel
theorem dX3_keep_52 : decode cX3_keep 52 = .ok (.invokestatic 32, 3) := by decide +kernel
theorem dX3_keep_55 : decode cX3_keep 55 = .ok (.iaload, 1) := by decide +kernel
theorem dX3_keep_56 : decode cX3_keep 56 = .ok (.iastore, 1) := by decide +kernel
theorem dX3_keep_57 : decode cX3_keep 57 = .ok (.aload_n 1, 1) := by decide +kernel
theorem dX3_keep_58 : decode cX3_keep 58 = .ok (.getfield 36, 3) := by decide +kernel
theorem dX3_keep_61 : decode cX3_keep 61 = .ok (.iload_n 2, 1) := by decide +kernel
theorem dX3_keep_62 : decode cX3_keep 62 = .ok (.iload_n 3, 1) := by decide +kernel
theorem dX3_keep_63 : decode cX3_keep 63 = .ok (.invokestatic 37, 3) := by decide +kernel
theorem dX3_keep_66 : decode cX3_keep 66 = .ok (.aload_n 0, 1) := by decide +kernel
theorem dX3_keep_67 : decode cX3_keep 67 = .ok (.getfield 21, 3) := by decide +kernel
theorem dX3_keep_70 : decode cX3_keep 70 = .ok (.aload_n 0, 1) := by decide +kernel
theorem dX3_keep_71 : decode cX3_keep 71 = .ok (.getfield 25, 3) := by decide +kernel
theorem dX3_keep_74 : decode cX3_keep 74 = .ok (.bipush 21, 2) := by decide +kernel
theorem dX3_keep_76 : decode cX3_keep 76 = .ok (.imul, 1) := by decide +kernel
theorem dX3_keep_77 : decode cX3_keep 77 = .ok (.getstatic 40, 3) := by decide +kernel
theorem dX3_keep_80 : decode cX3_keep 80 = .ok (.iload_n 2, 1) := by decide +kernel
theorem dX3_keep_81 : decode cX3_keep 81 = .ok (.iaload, 1) := by decide +kernel
theorem dX3_keep_82 : decode cX3_keep 82 = .ok (.invokestatic 43, 3) := by decide +kernel
theorem dX3_keep_85 : decode cX3_keep 85 = .ok (.aload_n 0, 1) := by decide +kernel
theorem dX3_keep_86 : decode cX3_keep 86 = .ok (.dup, 1) := by decide +kernel
theorem dX3_keep_87 : decode cX3_keep 87 = .ok (.getfield 25, 3) := by decide +kernel
theorem dX3_keep_90 : decode cX3_keep 90 = .ok (.iconst 1, 1) := by decide +kernel
theorem dX3_keep_91 : decode cX3_keep 91 = .ok (.iadd, 1) := by decide +kernel
theorem dX3_keep_92 : decode cX3_keep 92 = .ok (.putfield 25, 3) := by decide +kernel
theorem dX3_keep_95 : decode cX3_keep 95 = .ok (.return_, 1) := by decide +kernel
theorem dX4_init_0 : decode cX4_init 0 = .ok (.aload_n 0, 1) := by decide +kernel
theorem dX4_init_1 : decode cX4_init 1 = .ok (.invokespecial 3, 3) := by decide +kernel
theorem dX4_init_4 : decode cX4_init 4 = .ok (.aload_n 0, 1) := by decide +kernel
theorem dX4_init_5 : decode cX4_init 5 = .ok (.bipush 61, 2) := by decide +kernel
theorem dX4_init_7 : decode cX4_init 7 = .ok (.newarray .int, 2) := by decide +kernel
theorem dX4_init_9 : decode cX4_init 9 = .ok (.putfield 9, 3) := by decide +kernel
theorem dX4_init_12 : decode cX4_init 12 = .ok (.return_, 1) := by decide +kernel
theorem dX4_clear_0 : decode cX4_clear 0 = .ok (.aload_n 0, 1) := by decide +kernel
theorem dX4_clear_1 : decode cX4_clear 1 = .ok (.iconst 0, 1) := by decide +kernel
theorem dX4_clear_2 : decode cX4_clear 2 = .ok (.putfield 15, 3) := by decide +kernel
theorem dX4_clear_5 : decode cX4_clear 5 = .ok (.return_, 1) := by decide +kernel
theorem dX4_signAt_0 : decode cX4_signAt 0 = .ok (.iload_n 1, 1) := by decide +kernel
theorem dX4_signAt_1 : decode cX4_signAt 1 = .ok (.ifCond .lt 17, 3) := by decide +kernel
theorem dX4_signAt_4 : decode cX4_signAt 4 = .ok (.iload_n 1, 1) := by decide +kernel
theorem dX4_signAt_5 : decode cX4_signAt 5 = .ok (.aload_n 0, 1) := by decide +kernel
theorem dX4_signAt_6 : decode cX4_signAt 6 = .ok (.getfield 15, 3) := by decide +kernel
theorem dX4_signAt_9 : decode cX4_signAt 9 = .ok (.if_icmp .ge 9, 3) := by decide +kernel
theorem dX4_signAt_12 : decode cX4_signAt 12 = .ok (.iload_n 1, 1) := by decide +kernel
theorem dX4_signAt_13 : decode cX4_signAt 13 = .ok (.bipush 61, 2) := by decide +kernel
theorem dX4_signAt_15 : decode cX4_signAt 15 = .ok (.if_icmp .lt 7, 3) := by decide +kernel
theorem dX4_signAt_18 : decode cX4_signAt 18 = .ok (.iconst (-1), 1) := by decide +kernel
theorem dX4_signAt_19 : decode cX4_signAt 19 = .ok (.goto 9, 3) := by decide +kernel
theorem dX4_signAt_22 : decode cX4_signAt 22 = .ok (.aload_n 0, 1) := by decide +kernel
theorem dX4_signAt_23 : decode cX4_signAt 23 = .ok (.getfield 9, 3) := by decide +kernel
theorem dX4_signAt_26 : decode cX4_signAt 26 = .ok (.iload_n 1, 1) := by decide +kernel
theorem dX4_signAt_27 : decode cX4_signAt 27 = .ok (.iaload, 1) := by decide +kernel
theorem dX4_signAt_28 : decode cX4_signAt 28 = .ok (.ireturn, 1) := by decide +kernel
theorem dX4_write_0 : decode cX4_write 0 = .ok (.aload_n 0, 1) := by decide +kernel
theorem dX4_write_1 : decode cX4_write 1 = .ok (.getfield 15, 3) := by decide +kernel
theorem dX4_write_4 : decode cX4_write 4 = .ok (.ifCond .lt 32, 3) := by decide +kernel
theorem dX4_write_7 : decode cX4_write 7 = .ok (.aload_n 0, 1) := by decide +kernel
theorem dX4_write_8 : decode cX4_write 8 = .ok (.getfield 15, 3) := by decide +kernel
theorem dX4_write_11 : decode cX4_write 11 = .ok (.bipush 61, 2) := by decide +kernel
theorem dX4_write_13 : decode cX4_write 13 = .ok (.if_icmp .ge 23, 3) := by decide +kernel
theorem dX4_write_16 : decode cX4_write 16 = .ok (.aload_n 0, 1) := by decide +kernel
theorem dX4_write_17 : decode cX4_write 17 = .ok (.getfield 9, 3) := by decide +kernel
theorem dX4_write_20 : decode cX4_write 20 = .ok (.aload_n 0, 1) := by decide +kernel
theorem dX4_write_21 : decode cX4_write 21 = .ok (.getfield 15, 3) := by decide +kernel
theorem dX4_write_24 : decode cX4_write 24 = .ok (.iload_n 1, 1) := by decide +kernel
theorem dX4_write_25 : decode cX4_write 25 = .ok (.iastore, 1) := by decide +kernel
theorem dX4_write_26 : decode cX4_write 26 = .ok (.aload_n 0, 1) := by decide +kernel
theorem dX4_write_27 : decode cX4_write 27 = .ok (.dup, 1) := by decide +kernel
theorem dX4_write_28 : decode cX4_write 28 = .ok (.getfield 15, 3) := by decide +kernel
theorem dX4_write_31 : decode cX4_write 31 = .ok (.iconst 1, 1) := by decide +kernel
theorem dX4_write_32 : decode cX4_write 32 = .ok (.iadd, 1) := by decide +kernel
theorem dX4_write_33 : decode cX4_write 33 = .ok (.putfield 15, 3) := by decide +kernel
theorem dX4_write_36 : decode cX4_write 36 = .ok (.return_, 1) := by decide +kernel
theorem dX4_writeText_0 : decode cX4_writeText 0 = .ok (.iconst 0, 1) := by decide +kernel
theorem dX4_writeText_1 : decode cX4_writeText 1 = .ok (.istore_n 2, 1) := by decide +kernel
theorem dX4_writeText_2 : decode cX4_writeText 2 = .ok (.iload_n 2, 1) := by decide +kernel
theorem dX4_writeText_3 : decode cX4_writeText 3 = .ok (.aload_n 1, 1) := by decide +kernel
theorem dX4_writeText_4 : decode cX4_writeText 4 = .ok (.invokevirtual 19, 3) := by decide +kernel
theorem dX4_writeText_7 : decode cX4_writeText 7 = .ok (.if_icmp .ge 18, 3) := by decide +kernel
theorem dX4_writeText_10 : decode cX4_writeText 10 = .ok (.aload_n 0, 1) := by decide +kernel
theorem dX4_writeText_11 : decode cX4_writeText 11 = .ok (.aload_n 1, 1) := by decide +kernel
theorem dX4_writeText_12 : decode cX4_writeText 12 = .ok (.iload_n 2, 1) := by decide +kernel
theorem dX4_writeText_13 : decode cX4_writeText 13 = .ok (.invokevirtual 25, 3) := by decide +kernel
theorem dX4_writeText_16 : decode cX4_writeText 16 = .ok (.invokevirtual 29, 3) := by decide +kernel
theorem dX4_writeText_19 : decode cX4_writeText 19 = .ok (.iinc 2 1, 3) := by decide +kernel
theorem dX4_writeText_22 : decode cX4_writeText 22 = .ok (.goto (-20), 3) := by decide +kernel
theorem dX4_writeText_25 : decode cX4_writeText 25 = .ok (.return_, 1) := by decide +kernel
theorem dX4_writeNumber_0 : decode cX4_writeNumber 0 = .ok (.lload_n 1, 1) := by decide +kernel
theorem dX4_writeNumber_1 : decode cX4_writeNumber 1 = .ok (.lconst 0, 1) := by decide +kernel
theorem dX4_writeNumber_2 : decode cX4_writeNumber 2 = .ok (.lcmp, 1) := by decide +kernel
theorem dX4_writeNumber_3 : decode cX4_writeNumber 3 = .ok (.ifCond .ge 9, 3) := by decide +kernel
theorem dX4_writeNumber_6 : decode cX4_writeNumber 6 = .ok (.aload_n 0, 1) := by decide +kernel
theorem dX4_writeNumber_7 : decode cX4_writeNumber 7 = .ok (.bipush 45, 2) := by decide +kernel
theorem dX4_writeNumber_9 : decode cX4_writeNumber 9 = .ok (.invokevirtual 29, 3) := by decide +kernel
theorem dX4_writeNumber_12 : decode cX4_writeNumber 12 = .ok (.aload_n 0, 1) := by decide +kernel
theorem dX4_writeNumber_13 : decode cX4_writeNumber 13 = .ok (.lload_n 1, 1) := by decide +kernel
theorem dX4_writeNumber_14 : decode cX4_writeNumber 14 = .ok (.lconst 0, 1) := by decide +kernel
theorem dX4_writeNumber_15 : decode cX4_writeNumber 15 = .ok (.lcmp, 1) := by decide +kernel
theorem dX4_writeNumber_16 : decode cX4_writeNumber 16 = .ok (.ifCond .ge 8, 3) := by decide +kernel
theorem dX4_writeNumber_19 : decode cX4_writeNumber 19 = .ok (.lload_n 1, 1) := by decide +kernel
theorem dX4_writeNumber_20 : decode cX4_writeNumber 20 = .ok (.lneg, 1) := by decide +kernel
theorem dX4_writeNumber_21 : decode cX4_writeNumber 21 = .ok (.goto 4, 3) := by decide +kernel
theorem dX4_writeNumber_24 : decode cX4_writeNumber 24 = .ok (.lload_n 1, 1) := by decide +kernel
theorem dX4_writeNumber_25 : decode cX4_writeNumber 25 = .ok (.invokevirtual 33, 3) := by decide +kernel
theorem dX4_writeNumber_28 : decode cX4_writeNumber 28 = .ok (.return_, 1) := by decide +kernel
theorem dX4_writeDigits_0 : decode cX4_writeDigits 0 = .ok (.lconst 1, 1) := by decide +kernel
theorem dX4_writeDigits_1 : decode cX4_writeDigits 1 = .ok (.lstore_n 3, 1) := by decide +kernel
theorem dX4_writeDigits_2 : decode cX4_writeDigits 2 = .ok (.iconst 0, 1) := by decide +kernel
theorem dX4_writeDigits_3 : decode cX4_writeDigits 3 = .ok (.istore 5, 2) := by decide +kernel
theorem dX4_writeDigits_5 : decode cX4_writeDigits 5 = .ok (.iload 5, 2) := by decide +kernel
theorem dX4_writeDigits_7 : decode cX4_writeDigits 7 = .ok (.bipush 9, 2) := by decide +kernel
theorem dX4_writeDigits_9 : decode cX4_writeDigits 9 = .ok (.if_icmp .ge 25, 3) := by decide +kernel
theorem dX4_writeDigits_12 : decode cX4_writeDigits 12 = .ok (.lload_n 1, 1) := by decide +kernel
theorem dX4_writeDigits_13 : decode cX4_writeDigits 13 = .ok (.ldc2_w 37, 3) := by decide +kernel
theorem dX4_writeDigits_16 : decode cX4_writeDigits 16 = .ok (.ldiv, 1) := by decide +kernel
theorem dX4_writeDigits_17 : decode cX4_writeDigits 17 = .ok (.lload_n 3, 1) := by decide +kernel
theorem dX4_writeDigits_18 : decode cX4_writeDigits 18 = .ok (.lcmp, 1) := by decide +kernel
theorem dX4_writeDigits_19 : decode cX4_writeDigits 19 = .ok (.ifCond .lt 15, 3) := by decide +kernel
theorem dX4_writeDigits_22 : decode cX4_writeDigits 22 = .ok (.lload_n 3, 1) := by decide +kernel
theorem dX4_writeDigits_23 : decode cX4_writeDigits 23 = .ok (.ldc2_w 37, 3) := by decide +kernel
theorem dX4_writeDigits_26 : decode cX4_writeDigits 26 = .ok (.lmul, 1) := by decide +kernel
theorem dX4_writeDigits_27 : decode cX4_writeDigits 27 = .ok (.lstore_n 3, 1) := by decide +kernel
theorem dX4_writeDigits_28 : decode cX4_writeDigits 28 = .ok (.iinc 5 1, 3) := by decide +kernel
theorem dX4_writeDigits_31 : decode cX4_writeDigits 31 = .ok (.goto (-26), 3) := by decide +kernel
theorem dX4_writeDigits_34 : decode cX4_writeDigits 34 = .ok (.iconst 0, 1) := by decide +kernel
theorem dX4_writeDigits_35 : decode cX4_writeDigits 35 = .ok (.istore 5, 2) := by decide +kernel
theorem dX4_writeDigits_37 : decode cX4_writeDigits 37 = .ok (.iload 5, 2) := by decide +kernel
theorem dX4_writeDigits_39 : decode cX4_writeDigits 39 = .ok (.bipush 9, 2) := by decide +kernel
theorem dX4_writeDigits_41 : decode cX4_writeDigits 41 = .ok (.if_icmp .gt 36, 3) := by decide +kernel
theorem dX4_writeDigits_44 : decode cX4_writeDigits 44 = .ok (.lload_n 3, 1) := by decide +kernel
theorem dX4_writeDigits_45 : decode cX4_writeDigits 45 = .ok (.lconst 0, 1) := by decide +kernel
theorem dX4_writeDigits_46 : decode cX4_writeDigits 46 = .ok (.lcmp, 1) := by decide +kernel
theorem dX4_writeDigits_47 : decode cX4_writeDigits 47 = .ok (.ifCond .le 30, 3) := by decide +kernel
theorem dX4_writeDigits_50 : decode cX4_writeDigits 50 = .ok (.aload_n 0, 1) := by decide +kernel
theorem dX4_writeDigits_51 : decode cX4_writeDigits 51 = .ok (.bipush 48, 2) := by decide +kernel
theorem dX4_writeDigits_53 : decode cX4_writeDigits 53 = .ok (.lload_n 1, 1) := by decide +kernel
theorem dX4_writeDigits_54 : decode cX4_writeDigits 54 = .ok (.lload_n 3, 1) := by decide +kernel
theorem dX4_writeDigits_55 : decode cX4_writeDigits 55 = .ok (.ldiv, 1) := by decide +kernel
theorem dX4_writeDigits_56 : decode cX4_writeDigits 56 = .ok (.ldc2_w 37, 3) := by decide +kernel
theorem dX4_writeDigits_59 : decode cX4_writeDigits 59 = .ok (.lrem, 1) := by decide +kernel
theorem dX4_writeDigits_60 : decode cX4_writeDigits 60 = .ok (.l2i, 1) := by decide +kernel
theorem dX4_writeDigits_61 : decode cX4_writeDigits 61 = .ok (.iadd, 1) := by decide +kernel
theorem dX4_writeDigits_62 : decode cX4_writeDigits 62 = .ok (.invokevirtual 29, 3) := by decide +kernel
theorem dX4_writeDigits_65 : decode cX4_writeDigits 65 = .ok (.lload_n 3, 1) := by decide +kernel
theorem dX4_writeDigits_66 : decode cX4_writeDigits 66 = .ok (.ldc2_w 37, 3) := by decide +kernel
theorem dX4_writeDigits_69 : decode cX4_writeDigits 69 = .ok (.ldiv, 1) := by decide +kernel
theorem dX4_writeDigits_70 : decode cX4_writeDigits 70 = .ok (.lstore_n 3, 1) := by decide +kernel
theorem dX4_writeDigits_71 : decode cX4_writeDigits 71 = .ok (.iinc 5 1, 3) := by decide +kernel
theorem dX4_writeDigits_74 : decode cX4_writeDigits 74 = .ok (.goto (-37), 3) := by decide +kernel
theorem dX4_writeDigits_77 : decode cX4_writeDigits 77 = .ok (.return_, 1) := by decide +kernel
theorem dX4_writeLength_0 : decode cX4_writeLength 0 = .ok (.lload_n 1, 1) := by decide +kernel
theorem dX4_writeLength_1 : decode cX4_writeLength 1 = .ok (.lconst 0, 1) := by decide +kernel
theorem dX4_writeLength_2 : decode cX4_writeLength 2 = .ok (.lcmp, 1) := by decide +kernel
theorem dX4_writeLength_3 : decode cX4_writeLength 3 = .ok (.ifCond .ge 9, 3) := by decide +kernel
theorem dX4_writeLength_6 : decode cX4_writeLength 6 = .ok (.aload_n 0, 1) := by decide +kernel
theorem dX4_writeLength_7 : decode cX4_writeLength 7 = .ok (.bipush 45, 2) := by decide +kernel
theorem dX4_writeLength_9 : decode cX4_writeLength 9 = .ok (.invokevirtual 29, 3) := by decide +kernel
theorem dX4_writeLength_12 : decode cX4_writeLength 12 = .ok (.lload_n 1, 1) := by decide +kernel
theorem dX4_writeLength_13 : decode cX4_writeLength 13 = .ok (.lconst 0, 1) := by decide +kernel
theorem dX4_writeLength_14 : decode cX4_writeLength 14 = .ok (.lcmp, 1) := by decide +kernel
theorem dX4_writeLength_15 : decode cX4_writeLength 15 = .ok (.ifCond .ge 8, 3) := by decide +kernel
theorem dX4_writeLength_18 : decode cX4_writeLength 18 = .ok (.lload_n 1, 1) := by decide +kernel
theorem dX4_writeLength_19 : decode cX4_writeLength 19 = .ok (.lneg, 1) := by decide +kernel
theorem dX4_writeLength_20 : decode cX4_writeLength 20 = .ok (.goto 4, 3) := by decide +kernel
theorem dX4_writeLength_23 : decode cX4_writeLength 23 = .ok (.lload_n 1, 1) := by decide +kernel
theorem dX4_writeLength_24 : decode cX4_writeLength 24 = .ok (.lstore_n 3, 1) := by decide +kernel
theorem dX4_writeLength_25 : decode cX4_writeLength 25 = .ok (.aload_n 0, 1) := by decide +kernel
theorem dX4_writeLength_26 : decode cX4_writeLength 26 = .ok (.lload_n 3, 1) := by decide +kernel
theorem dX4_writeLength_27 : decode cX4_writeLength 27 = .ok (.ldc2_w 39, 3) := by decide +kernel
theorem dX4_writeLength_30 : decode cX4_writeLength 30 = .ok (.ldiv, 1) := by decide +kernel
theorem dX4_writeLength_31 : decode cX4_writeLength 31 = .ok (.invokevirtual 33, 3) := by decide +kernel
theorem dX4_writeLength_34 : decode cX4_writeLength 34 = .ok (.aload_n 0, 1) := by decide +kernel
theorem dX4_writeLength_35 : decode cX4_writeLength 35 = .ok (.bipush 46, 2) := by decide +kernel
theorem dX4_writeLength_37 : decode cX4_writeLength 37 = .ok (.invokevirtual 29, 3) := by decide +kernel
theorem dX4_writeLength_40 : decode cX4_writeLength 40 = .ok (.aload_n 0, 1) := by decide +kernel
theorem dX4_writeLength_41 : decode cX4_writeLength 41 = .ok (.lload_n 3, 1) := by decide +kernel
theorem dX4_writeLength_42 : decode cX4_writeLength 42 = .ok (.ldc2_w 39, 3) := by decide +kernel
theorem dX4_writeLength_45 : decode cX4_writeLength 45 = .ok (.lrem, 1) := by decide +kernel
theorem dX4_writeLength_46 : decode cX4_writeLength 46 = .ok (.invokevirtual 41, 3) := by decide +kernel
theorem dX4_writeLength_49 : decode cX4_writeLength 49 = .ok (.return_, 1) := by decide +kernel
theorem dX4_writeFraction_0 : decode cX4_writeFraction 0 = .ok (.ldc2_w 37, 3) := by decide +kernel
theorem dX4_writeFraction_3 : decode cX4_writeFraction 3 = .ok (.lload_n 1, 1) := by decide +kernel
theorem dX4_writeFraction_4 : decode cX4_writeFraction 4 = .ok (.lmul, 1) := by decide +kernel
theorem dX4_writeFraction_5 : decode cX4_writeFraction 5 = .ok (.ldc2_w 44, 3) := by decide +kernel
theorem dX4_writeFraction_8 : decode cX4_writeFraction 8 = .ok (.ladd, 1) := by decide +kernel
theorem dX4_writeFraction_9 : decode cX4_writeFraction 9 = .ok (.lstore_n 3, 1) := by decide +kernel
theorem dX4_writeFraction_10 : decode cX4_writeFraction 10 = .ok (.ldc2_w 37, 3) := by decide +kernel
theorem dX4_writeFraction_13 : decode cX4_writeFraction 13 = .ok (.lstore 5, 2) := by decide +kernel
theorem dX4_writeFraction_15 : decode cX4_writeFraction 15 = .ok (.iconst 0, 1) := by decide +kernel
theorem dX4_writeFraction_16 : decode cX4_writeFraction 16 = .ok (.istore 7, 2) := by decide +kernel
theorem dX4_writeFraction_18 : decode cX4_writeFraction 18 = .ok (.iload 7, 2) := by decide +kernel
theorem dX4_writeFraction_20 : decode cX4_writeFraction 20 = .ok (.bipush 9, 2) := by decide +kernel
theorem dX4_writeFraction_22 : decode cX4_writeFraction 22 = .ok (.if_icmp .ge 67, 3) := by decide +kernel
theorem dX4_writeFraction_25 : decode cX4_writeFraction 25 = .ok (.iload 7, 2) := by decide +kernel
theorem dX4_writeFraction_27 : decode cX4_writeFraction 27 = .ok (.ifCond .eq 10, 3) := by decide +kernel
theorem dX4_writeFraction_30 : decode cX4_writeFraction 30 = .ok (.lload_n 3, 1) := by decide +kernel
theorem dX4_writeFraction_31 : decode cX4_writeFraction 31 = .ok (.lload 5, 2) := by decide +kernel
theorem dX4_writeFraction_33 : decode cX4_writeFraction 33 = .ok (.lcmp, 1) := by decide +kernel
theorem dX4_writeFraction_34 : decode cX4_writeFraction 34 = .ok (.ifCond .le 55, 3) := by decide +kernel
theorem dX4_writeFraction_37 : decode cX4_writeFraction 37 = .ok (.lload 5, 2) := by decide +kernel
theorem dX4_writeFraction_39 : decode cX4_writeFraction 39 = .ok (.ldc2_w 39, 3) := by decide +kernel
theorem dX4_writeFraction_42 : decode cX4_writeFraction 42 = .ok (.lcmp, 1) := by decide +kernel
theorem dX4_writeFraction_43 : decode cX4_writeFraction 43 = .ok (.ifCond .le 9, 3) := by decide +kernel
theorem dX4_writeFraction_46 : decode cX4_writeFraction 46 = .ok (.lload_n 3, 1) := by decide +kernel
theorem dX4_writeFraction_47 : decode cX4_writeFraction 47 = .ok (.ldc2_w 46, 3) := by decide +kernel
theorem dX4_writeFraction_50 : decode cX4_writeFraction 50 = .ok (.lsub, 1) := by decide +kernel
theorem dX4_writeFraction_51 : decode cX4_writeFraction 51 = .ok (.lstore_n 3, 1) := by decide +kernel
theorem dX4_writeFraction_52 : decode cX4_writeFraction 52 = .ok (.aload_n 0, 1) := by decide +kernel
theorem dX4_writeFraction_53 : decode cX4_writeFraction 53 = .ok (.bipush 48, 2) := by decide +kernel
theorem dX4_writeFraction_55 : decode cX4_writeFraction 55 = .ok (.lload_n 3, 1) := by decide +kernel
theorem dX4_writeFraction_56 : decode cX4_writeFraction 56 = .ok (.ldc2_w 39, 3) := by decide +kernel
theorem dX4_writeFraction_59 : decode cX4_writeFraction 59 = .ok (.ldiv, 1) := by decide +kernel
theorem dX4_writeFraction_60 : decode cX4_writeFraction 60 = .ok (.l2i, 1) := by decide +kernel
theorem dX4_writeFraction_61 : decode cX4_writeFraction 61 = .ok (.iadd, 1) := by decide +kernel
theorem dX4_writeFraction_62 : decode cX4_writeFraction 62 = .ok (.invokevirtual 29, 3) := by decide +kernel
theorem dX4_writeFraction_65 : decode cX4_writeFraction 65 = .ok (.ldc2_w 37, 3) := by decide +kernel
theorem dX4_writeFraction_68 : decode cX4_writeFraction 68 = .ok (.lload_n 3, 1) := by decide +kernel
theorem dX4_writeFraction_69 : decode cX4_writeFraction 69 = .ok (.ldc2_w 39, 3) := by decide +kernel
theorem dX4_writeFraction_72 : decode cX4_writeFraction 72 = .ok (.lrem, 1) := by decide +kernel
theorem dX4_writeFraction_73 : decode cX4_writeFraction 73 = .ok (.lmul, 1) := by decide +kernel
theorem dX4_writeFraction_74 : decode cX4_writeFraction 74 = .ok (.lstore_n 3, 1) := by decide +kernel
theorem dX4_writeFraction_75 : decode cX4_writeFraction 75 = .ok (.lload 5, 2) := by decide +kernel
theorem dX4_writeFraction_77 : decode cX4_writeFraction 77 = .ok (.ldc2_w 37, 3) := by decide +kernel
theorem dX4_writeFraction_80 : decode cX4_writeFraction 80 = .ok (.lmul, 1) := by decide +kernel
theorem dX4_writeFraction_81 : decode cX4_writeFraction 81 = .ok (.lstore 5, 2) := by decide +kernel
theorem dX4_writeFraction_83 : decode cX4_writeFraction 83 = .ok (.iinc 7 1, 3) := by decide +kernel
theorem dX4_writeFraction_86 : decode cX4_writeFraction 86 = .ok (.goto (-68), 3) := by decide +kernel
theorem dX4_writeFraction_89 : decode cX4_writeFraction 89 = .ok (.return_, 1) := by decide +kernel
theorem dX5_init_0 : decode cX5_init 0 = .ok (.aload_n 0, 1) := by decide +kernel
theorem dX5_init_1 : decode cX5_init 1 = .ok (.invokespecial 1, 3) := by decide +kernel
theorem dX5_init_4 : decode cX5_init 4 = .ok (.aload_n 0, 1) := by decide +kernel
theorem dX5_init_5 : decode cX5_init 5 = .ok (.new 7, 3) := by decide +kernel
theorem dX5_init_8 : decode cX5_init 8 = .ok (.dup, 1) := by decide +kernel
theorem dX5_init_9 : decode cX5_init 9 = .ok (.invokespecial 9, 3) := by decide +kernel
theorem dX5_init_12 : decode cX5_init 12 = .ok (.putfield 10, 3) := by decide +kernel
theorem dX5_init_15 : decode cX5_init 15 = .ok (.aload_n 0, 1) := by decide +kernel
theorem dX5_init_16 : decode cX5_init 16 = .ok (.new 16, 3) := by decide +kernel
theorem dX5_init_19 : decode cX5_init 19 = .ok (.dup, 1) := by decide +kernel
theorem dX5_init_20 : decode cX5_init 20 = .ok (.invokespecial 18, 3) := by decide +kernel
theorem dX5_init_23 : decode cX5_init 23 = .ok (.putfield 19, 3) := by decide +kernel
theorem dX5_init_26 : decode cX5_init 26 = .ok (.aload_n 0, 1) := by decide +kernel
theorem dX5_init_27 : decode cX5_init 27 = .ok (.new 23, 3) := by decide +kernel
theorem dX5_init_30 : decode cX5_init 30 = .ok (.dup, 1) := by decide +kernel
theorem dX5_init_31 : decode cX5_init 31 = .ok (.invokespecial 25, 3) := by decide +kernel
theorem dX5_init_34 : decode cX5_init 34 = .ok (.putfield 26, 3) := by decide +kernel
theorem dX5_init_37 : decode cX5_init 37 = .ok (.aload_n 0, 1) := by decide +kernel
theorem dX5_init_38 : decode cX5_init 38 = .ok (.new 30, 3) := by decide +kernel
theorem dX5_init_41 : decode cX5_init 41 = .ok (.dup, 1) := by decide +kernel
theorem dX5_init_42 : decode cX5_init 42 = .ok (.invokespecial 32, 3) := by decide +kernel
theorem dX5_init_45 : decode cX5_init 45 = .ok (.putfield 33, 3) := by decide +kernel
theorem dX5_init_48 : decode cX5_init 48 = .ok (.aload_n 0, 1) := by decide +kernel
theorem dX5_init_49 : decode cX5_init 49 = .ok (.new 37, 3) := by decide +kernel
theorem dX5_init_52 : decode cX5_init 52 = .ok (.dup, 1) := by decide +kernel
theorem dX5_init_53 : decode cX5_init 53 = .ok (.invokespecial 39, 3) := by decide +kernel
theorem dX5_init_56 : decode cX5_init 56 = .ok (.putfield 40, 3) := by decide +kernel
theorem dX5_init_59 : decode cX5_init 59 = .ok (.aload_n 0, 1) := by decide +kernel
theorem dX5_init_60 : decode cX5_init 60 = .ok (.iconst 5, 1) := by decide +kernel
theorem dX5_init_61 : decode cX5_init 61 = .ok (.newarray .long, 2) := by decide +kernel
theorem dX5_init_63 : decode cX5_init 63 = .ok (.putfield 44, 3) := by decide +kernel
theorem dX5_init_66 : decode cX5_init 66 = .ok (.aload_n 0, 1) := by decide +kernel
theorem dX5_init_67 : decode cX5_init 67 = .ok (.bipush 21, 2) := by decide +kernel
theorem dX5_init_69 : decode cX5_init 69 = .ok (.newarray .long, 2) := by decide +kernel
theorem dX5_init_71 : decode cX5_init 71 = .ok (.putfield 48, 3) := by decide +kernel
theorem dX5_init_74 : decode cX5_init 74 = .ok (.aload_n 0, 1) := by decide +kernel
theorem dX5_init_75 : decode cX5_init 75 = .ok (.bipush 21, 2) := by decide +kernel
theorem dX5_init_77 : decode cX5_init 77 = .ok (.newarray .long, 2) := by decide +kernel
theorem dX5_init_79 : decode cX5_init 79 = .ok (.putfield 51, 3) := by decide +kernel
theorem dX5_init_82 : decode cX5_init 82 = .ok (.return_, 1) := by decide +kernel
theorem dX5_token_0 : decode cX5_token 0 = .ok (.iload_n 1, 1) := by decide +kernel
theorem dX5_token_1 : decode cX5_token 1 = .ok (.invokestatic 54, 3) := by decide +kernel
theorem dX5_token_4 : decode cX5_token 4 = .ok (.aload_n 0, 1) := by decide +kernel
theorem dX5_token_5 : decode cX5_token 5 = .ok (.getfield 48, 3) := by decide +kernel
theorem dX5_token_8 : decode cX5_token 8 = .ok (.iconst 0, 1) := by decide +kernel
theorem dX5_token_9 : decode cX5_token 9 = .ok (.laload, 1) := by decide +kernel
theorem dX5_token_10 : decode cX5_token 10 = .ok (.l2i, 1) := by decide +kernel
theorem dX5_token_11 : decode cX5_token 11 = .ok (.istore_n 2, 1) := by decide +kernel
theorem dX5_token_12 : decode cX5_token 12 = .ok (.iload_n 2, 1) := by decide +kernel
theorem dX5_token_13 : decode cX5_token 13 = .ok (.ifCond .lt 9, 3) := by decide +kernel
theorem dX5_token_16 : decode cX5_token 16 = .ok (.iload_n 2, 1) := by decide +kernel
theorem dX5_token_17 : decode cX5_token 17 = .ok (.bipush 20, 2) := by decide +kernel
theorem dX5_token_19 : decode cX5_token 19 = .ok (.if_icmp .lt 5, 3) := by decide +kernel
theorem dX5_token_22 : decode cX5_token 22 = .ok (.iconst (-1), 1) := by decide +kernel
theorem dX5_token_23 : decode cX5_token 23 = .ok (.ireturn, 1) := by decide +kernel
theorem dX5_token_24 : decode cX5_token 24 = .ok (.aload_n 0, 1) := by decide +kernel
theorem dX5_token_25 : decode cX5_token 25 = .ok (.getfield 48, 3) := by decide +kernel
theorem dX5_token_28 : decode cX5_token 28 = .ok (.iload_n 2, 1) := by decide +kernel
theorem dX5_token_29 : decode cX5_token 29 = .ok (.iconst 1, 1) := by decide +kernel
theorem dX5_token_30 : decode cX5_token 30 = .ok (.iadd, 1) := by decide +kernel
theorem dX5_token_31 : decode cX5_token 31 = .ok (.iload_n 1, 1) := by decide +kernel
theorem dX5_token_32 : decode cX5_token 32 = .ok (.i2l, 1) := by decide +kernel
theorem dX5_token_33 : decode cX5_token 33 = .ok (.lastore, 1) := by decide +kernel
theorem dX5_token_34 : decode cX5_token 34 = .ok (.aload_n 0, 1) := by decide +kernel
theorem dX5_token_35 : decode cX5_token 35 = .ok (.getfield 48, 3) := by decide +kernel
theorem dX5_token_38 : decode cX5_token 38 = .ok (.iconst 0, 1) := by decide +kernel
theorem dX5_token_39 : decode cX5_token 39 = .ok (.iload_n 2, 1) := by decide +kernel
theorem dX5_token_40 : decode cX5_token 40 = .ok (.iconst 1, 1) := by decide +kernel
theorem dX5_token_41 : decode cX5_token 41 = .ok (.iadd, 1) := by decide +kernel
theorem dX5_token_42 : decode cX5_token 42 = .ok (.i2l, 1) := by decide +kernel
theorem dX5_token_43 : decode cX5_token 43 = .ok (.lastore, 1) := by decide +kernel
theorem dX5_token_44 : decode cX5_token 44 = .ok (.iload_n 2, 1) := by decide +kernel
theorem dX5_token_45 : decode cX5_token 45 = .ok (.iconst 1, 1) := by decide +kernel
theorem dX5_token_46 : decode cX5_token 46 = .ok (.iadd, 1) := by decide +kernel
theorem dX5_token_47 : decode cX5_token 47 = .ok (.ireturn, 1) := by decide +kernel
theorem dX5_glue_0 : decode cX5_glue 0 = .ok (.lload_n 1, 1) := by decide +kernel
theorem dX5_glue_1 : decode cX5_glue 1 = .ok (.invokestatic 58, 3) := by decide +kernel
theorem dX5_glue_4 : decode cX5_glue 4 = .ok (.ifCond .eq 18, 3) := by decide +kernel
theorem dX5_glue_7 : decode cX5_glue 7 = .ok (.lload_n 3, 1) := by decide +kernel
theorem dX5_glue_8 : decode cX5_glue 8 = .ok (.invokestatic 58, 3) := by decide +kernel
theorem dX5_glue_11 : decode cX5_glue 11 = .ok (.ifCond .eq 11, 3) := by decide +kernel
theorem dX5_glue_14 : decode cX5_glue 14 = .ok (.lload 6, 2) := by decide +kernel
theorem dX5_glue_16 : decode cX5_glue 16 = .ok (.invokestatic 58, 3) := by decide +kernel
theorem dX5_glue_19 : decode cX5_glue 19 = .ok (.ifCond .ne 13, 3) := by decide +kernel
theorem dX5_glue_22 : decode cX5_glue 22 = .ok (.new 62, 3) := by decide +kernel
theorem dX5_glue_25 : decode cX5_glue 25 = .ok (.dup, 1) := by decide +kernel
theorem dX5_glue_26 : decode cX5_glue 26 = .ok (.ldc 64, 2) := by decide +kernel
theorem dX5_glue_28 : decode cX5_glue 28 = .ok (.invokespecial 66, 3) := by decide +kernel
theorem dX5_glue_31 : decode cX5_glue 31 = .ok (.athrow, 1) := by decide +kernel
theorem dX5_glue_32 : decode cX5_glue 32 = .ok (.iload 5, 2) := by decide +kernel
theorem dX5_glue_34 : decode cX5_glue 34 = .ok (.i2l, 1) := by decide +kernel
theorem dX5_glue_35 : decode cX5_glue 35 = .ok (.lconst 0, 1) := by decide +kernel
theorem dX5_glue_36 : decode cX5_glue 36 = .ok (.ldc2_w 69, 3) := by decide +kernel
theorem dX5_glue_39 : decode cX5_glue 39 = .ok (.invokestatic 71, 3) := by decide +kernel
theorem dX5_glue_42 : decode cX5_glue 42 = .ok (.ifCond .eq 16, 3) := by decide +kernel
theorem dX5_glue_45 : decode cX5_glue 45 = .ok (.iload 8, 2) := by decide +kernel
theorem dX5_glue_47 : decode cX5_glue 47 = .ok (.i2l, 1) := by decide +kernel
theorem dX5_glue_48 : decode cX5_glue 48 = .ok (.lconst 0, 1) := by decide +kernel
theorem dX5_glue_49 : decode cX5_glue 49 = .ok (.ldc2_w 69, 3) := by decide +kernel
theorem dX5_glue_52 : decode cX5_glue 52 = .ok (.invokestatic 71, 3) := by decide +kernel
theorem dX5_glue_55 : decode cX5_glue 55 = .ok (.ifCond .ne 13, 3) := by decide +kernel
theorem dX5_glue_58 : decode cX5_glue 58 = .ok (.new 62, 3) := by decide +kernel
theorem dX5_glue_61 : decode cX5_glue 61 = .ok (.dup, 1) := by decide +kernel
theorem dX5_glue_62 : decode cX5_glue 62 = .ok (.ldc 75, 2) := by decide +kernel
theorem dX5_glue_64 : decode cX5_glue 64 = .ok (.invokespecial 66, 3) := by decide +kernel
theorem dX5_glue_67 : decode cX5_glue 67 = .ok (.athrow, 1) := by decide +kernel
theorem dX5_glue_68 : decode cX5_glue 68 = .ok (.aload_n 0, 1) := by decide +kernel
theorem dX5_glue_69 : decode cX5_glue 69 = .ok (.getfield 44, 3) := by decide +kernel
theorem dX5_glue_72 : decode cX5_glue 72 = .ok (.iconst 0, 1) := by decide +kernel
theorem dX5_glue_73 : decode cX5_glue 73 = .ok (.lload_n 1, 1) := by decide +kernel
theorem dX5_glue_74 : decode cX5_glue 74 = .ok (.lastore, 1) := by decide +kernel
theorem dX5_glue_75 : decode cX5_glue 75 = .ok (.aload_n 0, 1) := by decide +kernel
theorem dX5_glue_76 : decode cX5_glue 76 = .ok (.getfield 44, 3) := by decide +kernel
theorem dX5_glue_79 : decode cX5_glue 79 = .ok (.iconst 1, 1) := by decide +kernel
theorem dX5_glue_80 : decode cX5_glue 80 = .ok (.lload_n 3, 1) := by decide +kernel
theorem dX5_glue_81 : decode cX5_glue 81 = .ok (.lastore, 1) := by decide +kernel
theorem dX5_glue_82 : decode cX5_glue 82 = .ok (.aload_n 0, 1) := by decide +kernel
theorem dX5_glue_83 : decode cX5_glue 83 = .ok (.getfield 44, 3) := by decide +kernel
theorem dX5_glue_86 : decode cX5_glue 86 = .ok (.iconst 2, 1) := by decide +kernel
theorem dX5_glue_87 : decode cX5_glue 87 = .ok (.iload 5, 2) := by decide +kernel
theorem dX5_glue_89 : decode cX5_glue 89 = .ok (.i2l, 1) := by decide +kernel
theorem dX5_glue_90 : decode cX5_glue 90 = .ok (.lastore, 1) := by decide +kernel
theorem dX5_glue_91 : decode cX5_glue 91 = .ok (.aload_n 0, 1) := by decide +kernel
theorem dX5_glue_92 : decode cX5_glue 92 = .ok (.getfield 44, 3) := by decide +kernel
theorem dX5_glue_95 : decode cX5_glue 95 = .ok (.iconst 3, 1) := by decide +kernel
theorem dX5_glue_96 : decode cX5_glue 96 = .ok (.lload 6, 2) := by decide +kernel
theorem dX5_glue_98 : decode cX5_glue 98 = .ok (.lastore, 1) := by decide +kernel
theorem dX5_glue_99 : decode cX5_glue 99 = .ok (.aload_n 0, 1) := by decide +kernel
theorem dX5_glue_100 : decode cX5_glue 100 = .ok (.getfield 44, 3) := by decide +kernel
theorem dX5_glue_103 : decode cX5_glue 103 = .ok (.iconst 4, 1) := by decide +kernel
theorem dX5_glue_104 : decode cX5_glue 104 = .ok (.iload 8, 2) := by decide +kernel
theorem dX5_glue_106 : decode cX5_glue 106 = .ok (.i2l, 1) := by decide +kernel
theorem dX5_glue_107 : decode cX5_glue 107 = .ok (.lastore, 1) := by decide +kernel
theorem dX5_glue_108 : decode cX5_glue 108 = .ok (.return_, 1) := by decide +kernel
theorem dX5_set_0 : decode cX5_set 0 = .ok (.iload_n 1, 1) := by decide +kernel
theorem dX5_set_1 : decode cX5_set 1 = .ok (.iconst 4, 1) := by decide +kernel
theorem dX5_set_2 : decode cX5_set 2 = .ok (.invokestatic 77, 3) := by decide +kernel
theorem dX5_set_5 : decode cX5_set 5 = .ok (.iload_n 1, 1) := by decide +kernel
theorem dX5_set_6 : decode cX5_set 6 = .ok (.iconst 4, 1) := by decide +kernel
theorem dX5_set_7 : decode cX5_set 7 = .ok (.if_icmp .ne 26, 3) := by decide +kernel
theorem dX5_set_10 : decode cX5_set 10 = .ok (.lload_n 3, 1) := by decide +kernel
theorem dX5_set_11 : decode cX5_set 11 = .ok (.ldc2_w 81, 3) := by decide +kernel
theorem dX5_set_14 : decode cX5_set 14 = .ok (.ldc2_w 83, 3) := by decide +kernel
theorem dX5_set_17 : decode cX5_set 17 = .ok (.invokestatic 71, 3) := by decide +kernel
theorem dX5_set_20 : decode cX5_set 20 = .ok (.ifCond .ne 13, 3) := by decide +kernel
theorem dX5_set_23 : decode cX5_set 23 = .ok (.new 62, 3) := by decide +kernel
theorem dX5_set_26 : decode cX5_set 26 = .ok (.dup, 1) := by decide +kernel
theorem dX5_set_27 : decode cX5_set 27 = .ok (.ldc 85, 2) := by decide +kernel
theorem dX5_set_29 : decode cX5_set 29 = .ok (.invokespecial 66, 3) := by decide +kernel
theorem dX5_set_32 : decode cX5_set 32 = .ok (.athrow, 1) := by decide +kernel
theorem dX5_set_33 : decode cX5_set 33 = .ok (.iload_n 2, 1) := by decide +kernel
theorem dX5_set_34 : decode cX5_set 34 = .ok (.i2l, 1) := by decide +kernel
theorem dX5_set_35 : decode cX5_set 35 = .ok (.invokestatic 87, 3) := by decide +kernel
theorem dX5_set_38 : decode cX5_set 38 = .ok (.aload_n 0, 1) := by decide +kernel
theorem dX5_set_39 : decode cX5_set 39 = .ok (.iload_n 1, 1) := by decide +kernel
theorem dX5_set_40 : decode cX5_set 40 = .ok (.lload_n 3, 1) := by decide +kernel
theorem dX5_set_41 : decode cX5_set 41 = .ok (.invokevirtual 91, 3) := by decide +kernel
theorem dX5_set_44 : decode cX5_set 44 = .ok (.aload_n 0, 1) := by decide +kernel
theorem dX5_set_45 : decode cX5_set 45 = .ok (.iload_n 1, 1) := by decide +kernel
theorem dX5_set_46 : decode cX5_set 46 = .ok (.iload_n 2, 1) := by decide +kernel
theorem dX5_set_47 : decode cX5_set 47 = .ok (.iload 5, 2) := by decide +kernel
theorem dX5_set_49 : decode cX5_set 49 = .ok (.invokevirtual 95, 3) := by decide +kernel
theorem dX5_set_52 : decode cX5_set 52 = .ok (.istore 6, 2) := by decide +kernel
theorem dX5_set_54 : decode cX5_set 54 = .ok (.iload_n 1, 1) := by decide +kernel
theorem dX5_set_55 : decode cX5_set 55 = .ok (.iconst 3, 1) := by decide +kernel
theorem dX5_set_56 : decode cX5_set 56 = .ok (.if_icmp .ne 10, 3) := by decide +kernel
theorem dX5_set_59 : decode cX5_set 59 = .ok (.aload_n 0, 1) := by decide +kernel
theorem dX5_set_60 : decode cX5_set 60 = .ok (.getfield 48, 3) := by decide +kernel
theorem dX5_set_63 : decode cX5_set 63 = .ok (.iconst 0, 1) := by decide +kernel
theorem dX5_set_64 : decode cX5_set 64 = .ok (.lconst 0, 1) := by decide +kernel
theorem dX5_set_65 : decode cX5_set 65 = .ok (.lastore, 1) := by decide +kernel
theorem dX5_set_66 : decode cX5_set 66 = .ok (.iload 6, 2) := by decide +kernel
theorem dX5_set_68 : decode cX5_set 68 = .ok (.ireturn, 1) := by decide +kernel
theorem dX5_get_0 : decode cX5_get 0 = .ok (.iload_n 1, 1) := by decide +kernel
theorem dX5_get_1 : decode cX5_get 1 = .ok (.iconst 4, 1) := by decide +kernel
theorem dX5_get_2 : decode cX5_get 2 = .ok (.invokestatic 77, 3) := by decide +kernel
theorem dX5_get_5 : decode cX5_get 5 = .ok (.iload_n 2, 1) := by decide +kernel
theorem dX5_get_6 : decode cX5_get 6 = .ok (.i2l, 1) := by decide +kernel
theorem dX5_get_7 : decode cX5_get 7 = .ok (.invokestatic 87, 3) := by decide +kernel
theorem dX5_get_10 : decode cX5_get 10 = .ok (.aload_n 0, 1) := by decide +kernel
theorem dX5_get_11 : decode cX5_get 11 = .ok (.getfield 10, 3) := by decide +kernel
theorem dX5_get_14 : decode cX5_get 14 = .ok (.getfield 99, 3) := by decide +kernel
theorem dX5_get_17 : decode cX5_get 17 = .ok (.iload_n 1, 1) := by decide +kernel
theorem dX5_get_18 : decode cX5_get 18 = .ok (.iload_n 2, 1) := by decide +kernel
theorem dX5_get_19 : decode cX5_get 19 = .ok (.invokestatic 102, 3) := by decide +kernel
theorem dX5_get_22 : decode cX5_get 22 = .ok (.laload, 1) := by decide +kernel
theorem dX5_get_23 : decode cX5_get 23 = .ok (.lreturn, 1) := by decide +kernel
theorem dX5_part_0 : decode cX5_part 0 = .ok (.iload_n 1, 1) := by decide +kernel
theorem dX5_part_1 : decode cX5_part 1 = .ok (.i2l, 1) := by decide +kernel
theorem dX5_part_2 : decode cX5_part 2 = .ok (.invokestatic 87, 3) := by decide +kernel
theorem dX5_part_5 : decode cX5_part 5 = .ok (.iload_n 2, 1) := by decide +kernel
theorem dX5_part_6 : decode cX5_part 6 = .ok (.i2l, 1) := by decide +kernel
theorem dX5_part_7 : decode cX5_part 7 = .ok (.lconst 0, 1) := by decide +kernel
theorem dX5_part_8 : decode cX5_part 8 = .ok (.ldc2_w 106, 3) := by decide +kernel
theorem dX5_part_11 : decode cX5_part 11 = .ok (.invokestatic 71, 3) := by decide +kernel
theorem dX5_part_14 : decode cX5_part 14 = .ok (.ifCond .ne 13, 3) := by decide +kernel
theorem dX5_part_17 : decode cX5_part 17 = .ok (.new 108, 3) := by decide +kernel
theorem dX5_part_20 : decode cX5_part 20 = .ok (.dup, 1) := by decide +kernel
theorem dX5_part_21 : decode cX5_part 21 = .ok (.ldc 110, 2) := by decide +kernel
theorem dX5_part_23 : decode cX5_part 23 = .ok (.invokespecial 112, 3) := by decide +kernel
theorem dX5_part_26 : decode cX5_part 26 = .ok (.athrow, 1) := by decide +kernel
theorem dX5_part_27 : decode cX5_part 27 = .ok (.aload_n 0, 1) := by decide +kernel
theorem dX5_part_28 : decode cX5_part 28 = .ok (.getfield 10, 3) := by decide +kernel
theorem dX5_part_31 : decode cX5_part 31 = .ok (.getfield 99, 3) := by decide +kernel
theorem dX5_part_34 : decode cX5_part 34 = .ok (.iconst 2, 1) := by decide +kernel
theorem dX5_part_35 : decode cX5_part 35 = .ok (.iload_n 1, 1) := by decide +kernel
theorem dX5_part_36 : decode cX5_part 36 = .ok (.invokestatic 102, 3) := by decide +kernel
theorem dX5_part_39 : decode cX5_part 39 = .ok (.iload_n 2, 1) := by decide +kernel
theorem dX5_part_40 : decode cX5_part 40 = .ok (.iadd, 1) := by decide +kernel
theorem dX5_part_41 : decode cX5_part 41 = .ok (.laload, 1) := by decide +kernel
theorem dX5_part_42 : decode cX5_part 42 = .ok (.lreturn, 1) := by decide +kernel
theorem dX5_at_0 : decode cX5_at 0 = .ok (.iload_n 1, 1) := by decide +kernel
theorem dX5_at_1 : decode cX5_at 1 = .ok (.i2l, 1) := by decide +kernel
theorem dX5_at_2 : decode cX5_at 2 = .ok (.invokestatic 87, 3) := by decide +kernel
theorem dX5_at_5 : decode cX5_at 5 = .ok (.iconst 3, 1) := by decide +kernel
theorem dX5_at_6 : decode cX5_at 6 = .ok (.iload_n 1, 1) := by decide +kernel
theorem dX5_at_7 : decode cX5_at 7 = .ok (.invokestatic 102, 3) := by decide +kernel
theorem dX5_at_10 : decode cX5_at 10 = .ok (.istore_n 3, 1) := by decide +kernel
theorem dX5_at_11 : decode cX5_at 11 = .ok (.iload_n 2, 1) := by decide +kernel
theorem dX5_at_12 : decode cX5_at 12 = .ok (.ifCond .lt 24, 3) := by decide +kernel
theorem dX5_at_15 : decode cX5_at 15 = .ok (.iload_n 2, 1) := by decide +kernel
theorem dX5_at_16 : decode cX5_at 16 = .ok (.bipush 20, 2) := by decide +kernel
theorem dX5_at_18 : decode cX5_at 18 = .ok (.if_icmp .ge 18, 3) := by decide +kernel
theorem dX5_at_21 : decode cX5_at 21 = .ok (.iload_n 2, 1) := by decide +kernel
theorem dX5_at_22 : decode cX5_at 22 = .ok (.i2l, 1) := by decide +kernel
theorem dX5_at_23 : decode cX5_at 23 = .ok (.aload_n 0, 1) := by decide +kernel
theorem dX5_at_24 : decode cX5_at 24 = .ok (.getfield 10, 3) := by decide +kernel
theorem dX5_at_27 : decode cX5_at 27 = .ok (.getfield 99, 3) := by decide +kernel
theorem dX5_at_30 : decode cX5_at 30 = .ok (.iload_n 3, 1) := by decide +kernel
theorem dX5_at_31 : decode cX5_at 31 = .ok (.laload, 1) := by decide +kernel
theorem dX5_at_32 : decode cX5_at 32 = .ok (.lcmp, 1) := by decide +kernel
theorem dX5_at_33 : decode cX5_at 33 = .ok (.ifCond .lt 13, 3) := by decide +kernel
theorem dX5_at_36 : decode cX5_at 36 = .ok (.new 108, 3) := by decide +kernel
theorem dX5_at_39 : decode cX5_at 39 = .ok (.dup, 1) := by decide +kernel
theorem dX5_at_40 : decode cX5_at 40 = .ok (.ldc 113, 2) := by decide +kernel
theorem dX5_at_42 : decode cX5_at 42 = .ok (.invokespecial 112, 3) := by decide +kernel
theorem dX5_at_45 : decode cX5_at 45 = .ok (.athrow, 1) := by decide +kernel
theorem dX5_at_46 : decode cX5_at 46 = .ok (.aload_n 0, 1) := by decide +kernel
theorem dX5_at_47 : decode cX5_at 47 = .ok (.getfield 10, 3) := by decide +kernel
theorem dX5_at_50 : decode cX5_at 50 = .ok (.getfield 99, 3) := by decide +kernel
theorem dX5_at_53 : decode cX5_at 53 = .ok (.iload_n 3, 1) := by decide +kernel
theorem dX5_at_54 : decode cX5_at 54 = .ok (.iconst 1, 1) := by decide +kernel
theorem dX5_at_55 : decode cX5_at 55 = .ok (.iadd, 1) := by decide +kernel
theorem dX5_at_56 : decode cX5_at 56 = .ok (.iload_n 2, 1) := by decide +kernel
theorem dX5_at_57 : decode cX5_at 57 = .ok (.iadd, 1) := by decide +kernel
theorem dX5_at_58 : decode cX5_at 58 = .ok (.laload, 1) := by decide +kernel
theorem dX5_at_59 : decode cX5_at 59 = .ok (.l2i, 1) := by decide +kernel
theorem dX5_at_60 : decode cX5_at 60 = .ok (.ireturn, 1) := by decide +kernel
theorem dX5_add_0 : decode cX5_add 0 = .ok (.iload_n 1, 1) := by decide +kernel
theorem dX5_add_1 : decode cX5_add 1 = .ok (.iconst 2, 1) := by decide +kernel
theorem dX5_add_2 : decode cX5_add 2 = .ok (.invokestatic 77, 3) := by decide +kernel
theorem dX5_add_5 : decode cX5_add 5 = .ok (.iload_n 2, 1) := by decide +kernel
theorem dX5_add_6 : decode cX5_add 6 = .ok (.i2l, 1) := by decide +kernel
theorem dX5_add_7 : decode cX5_add 7 = .ok (.invokestatic 87, 3) := by decide +kernel
theorem dX5_add_10 : decode cX5_add 10 = .ok (.iload_n 1, 1) := by decide +kernel
theorem dX5_add_11 : decode cX5_add 11 = .ok (.iconst 2, 1) := by decide +kernel
theorem dX5_add_12 : decode cX5_add 12 = .ok (.if_icmp .ne 39, 3) := by decide +kernel
theorem dX5_add_15 : decode cX5_add 15 = .ok (.lload_n 3, 1) := by decide +kernel
theorem dX5_add_16 : decode cX5_add 16 = .ok (.invokestatic 87, 3) := by decide +kernel
theorem dX5_add_19 : decode cX5_add 19 = .ok (.aload_n 0, 1) := by decide +kernel
theorem dX5_add_20 : decode cX5_add 20 = .ok (.getfield 10, 3) := by decide +kernel
theorem dX5_add_23 : decode cX5_add 23 = .ok (.aload_n 0, 1) := by decide +kernel
theorem dX5_add_24 : decode cX5_add 24 = .ok (.getfield 51, 3) := by decide +kernel
theorem dX5_add_27 : decode cX5_add 27 = .ok (.iconst 2, 1) := by decide +kernel
theorem dX5_add_28 : decode cX5_add 28 = .ok (.iload_n 2, 1) := by decide +kernel
theorem dX5_add_29 : decode cX5_add 29 = .ok (.invokevirtual 115, 3) := by decide +kernel
theorem dX5_add_32 : decode cX5_add 32 = .ok (.aload_n 0, 1) := by decide +kernel
theorem dX5_add_33 : decode cX5_add 33 = .ok (.iconst 2, 1) := by decide +kernel
theorem dX5_add_34 : decode cX5_add 34 = .ok (.lload_n 3, 1) := by decide +kernel
theorem dX5_add_35 : decode cX5_add 35 = .ok (.l2i, 1) := by decide +kernel
theorem dX5_add_36 : decode cX5_add 36 = .ok (.invokestatic 102, 3) := by decide +kernel
theorem dX5_add_39 : decode cX5_add 39 = .ok (.invokevirtual 119, 3) := by decide +kernel
theorem dX5_add_42 : decode cX5_add 42 = .ok (.aload_n 0, 1) := by decide +kernel
theorem dX5_add_43 : decode cX5_add 43 = .ok (.iload_n 1, 1) := by decide +kernel
theorem dX5_add_44 : decode cX5_add 44 = .ok (.iload_n 2, 1) := by decide +kernel
theorem dX5_add_45 : decode cX5_add 45 = .ok (.iload 5, 2) := by decide +kernel
theorem dX5_add_47 : decode cX5_add 47 = .ok (.invokevirtual 95, 3) := by decide +kernel
theorem dX5_add_50 : decode cX5_add 50 = .ok (.ireturn, 1) := by decide +kernel
theorem dX5_add_51 : decode cX5_add 51 = .ok (.lload_n 3, 1) := by decide +kernel
theorem dX5_add_52 : decode cX5_add 52 = .ok (.ldc2_w 122, 3) := by decide +kernel
theorem dX5_add_55 : decode cX5_add 55 = .ok (.ldc2_w 124, 3) := by decide +kernel
theorem dX5_add_58 : decode cX5_add 58 = .ok (.invokestatic 71, 3) := by decide +kernel
theorem dX5_add_61 : decode cX5_add 61 = .ok (.ifCond .ne 5, 3) := by decide +kernel
theorem dX5_add_64 : decode cX5_add 64 = .ok (.iconst 0, 1) := by decide +kernel
theorem dX5_add_65 : decode cX5_add 65 = .ok (.ireturn, 1) := by decide +kernel
theorem dX5_add_66 : decode cX5_add 66 = .ok (.aload_n 0, 1) := by decide +kernel
theorem dX5_add_67 : decode cX5_add 67 = .ok (.getfield 10, 3) := by decide +kernel
theorem dX5_add_70 : decode cX5_add 70 = .ok (.aload_n 0, 1) := by decide +kernel
theorem dX5_add_71 : decode cX5_add 71 = .ok (.getfield 51, 3) := by decide +kernel
theorem dX5_add_74 : decode cX5_add 74 = .ok (.iload_n 1, 1) := by decide +kernel
theorem dX5_add_75 : decode cX5_add 75 = .ok (.iload_n 2, 1) := by decide +kernel
theorem dX5_add_76 : decode cX5_add 76 = .ok (.invokevirtual 115, 3) := by decide +kernel
theorem dX5_add_79 : decode cX5_add 79 = .ok (.aload_n 0, 1) := by decide +kernel
theorem dX5_add_80 : decode cX5_add 80 = .ok (.getfield 51, 3) := by decide +kernel
theorem dX5_add_83 : decode cX5_add 83 = .ok (.iconst 0, 1) := by decide +kernel
theorem dX5_add_84 : decode cX5_add 84 = .ok (.dup2, 1) := by decide +kernel
theorem dX5_add_85 : decode cX5_add 85 = .ok (.laload, 1) := by decide +kernel
theorem dX5_add_86 : decode cX5_add 86 = .ok (.lload_n 3, 1) := by decide +kernel
theorem dX5_add_87 : decode cX5_add 87 = .ok (.ladd, 1) := by decide +kernel
theorem dX5_add_88 : decode cX5_add 88 = .ok (.lastore, 1) := by decide +kernel
theorem dX5_add_89 : decode cX5_add 89 = .ok (.aload_n 0, 1) := by decide +kernel
theorem dX5_add_90 : decode cX5_add 90 = .ok (.iload_n 1, 1) := by decide +kernel
theorem dX5_add_91 : decode cX5_add 91 = .ok (.iload_n 2, 1) := by decide +kernel
theorem dX5_add_92 : decode cX5_add 92 = .ok (.iload 5, 2) := by decide +kernel
theorem dX5_add_94 : decode cX5_add 94 = .ok (.invokevirtual 95, 3) := by decide +kernel
theorem dX5_add_97 : decode cX5_add 97 = .ok (.ireturn, 1) := by decide +kernel
theorem dX5_multiply_0 : decode cX5_multiply 0 = .ok (.iload_n 1, 1) := by decide +kernel
theorem dX5_multiply_1 : decode cX5_multiply 1 = .ok (.iconst 2, 1) := by decide +kernel
theorem dX5_multiply_2 : decode cX5_multiply 2 = .ok (.invokestatic 77, 3) := by decide +kernel
theorem dX5_multiply_5 : decode cX5_multiply 5 = .ok (.iload_n 2, 1) := by decide +kernel
theorem dX5_multiply_6 : decode cX5_multiply 6 = .ok (.i2l, 1) := by decide +kernel
theorem dX5_multiply_7 : decode cX5_multiply 7 = .ok (.invokestatic 87, 3) := by decide +kernel
theorem dX5_multiply_10 : decode cX5_multiply 10 = .ok (.lload_n 3, 1) := by decide +kernel
theorem dX5_multiply_11 : decode cX5_multiply 11 = .ok (.invokestatic 126, 3) := by decide +kernel
theorem dX5_multiply_14 : decode cX5_multiply 14 = .ok (.ifCond .ne 5, 3) := by decide +kernel
theorem dX5_multiply_17 : decode cX5_multiply 17 = .ok (.iconst 0, 1) := by decide +kernel
theorem dX5_multiply_18 : decode cX5_multiply 18 = .ok (.ireturn, 1) := by decide +kernel
theorem dX5_multiply_19 : decode cX5_multiply 19 = .ok (.aload_n 0, 1) := by decide +kernel
theorem dX5_multiply_20 : decode cX5_multiply 20 = .ok (.getfield 10, 3) := by decide +kernel
theorem dX5_multiply_23 : decode cX5_multiply 23 = .ok (.aload_n 0, 1) := by decide +kernel
theorem dX5_multiply_24 : decode cX5_multiply 24 = .ok (.getfield 51, 3) := by decide +kernel
theorem dX5_multiply_27 : decode cX5_multiply 27 = .ok (.iload_n 1, 1) := by decide +kernel
theorem dX5_multiply_28 : decode cX5_multiply 28 = .ok (.iload_n 2, 1) := by decide +kernel
theorem dX5_multiply_29 : decode cX5_multiply 29 = .ok (.invokevirtual 115, 3) := by decide +kernel
theorem dX5_multiply_32 : decode cX5_multiply 32 = .ok (.aload_n 0, 1) := by decide +kernel
theorem dX5_multiply_33 : decode cX5_multiply 33 = .ok (.getfield 51, 3) := by decide +kernel
theorem dX5_multiply_36 : decode cX5_multiply 36 = .ok (.iconst 0, 1) := by decide +kernel
theorem dX5_multiply_37 : decode cX5_multiply 37 = .ok (.dup2, 1) := by decide +kernel
theorem dX5_multiply_38 : decode cX5_multiply 38 = .ok (.laload, 1) := by decide +kernel
theorem dX5_multiply_39 : decode cX5_multiply 39 = .ok (.lload_n 3, 1) := by decide +kernel
theorem dX5_multiply_40 : decode cX5_multiply 40 = .ok (.lmul, 1) := by decide +kernel
theorem dX5_multiply_41 : decode cX5_multiply 41 = .ok (.lastore, 1) := by decide +kernel
theorem dX5_multiply_42 : decode cX5_multiply 42 = .ok (.iload_n 1, 1) := by decide +kernel
theorem dX5_multiply_43 : decode cX5_multiply 43 = .ok (.iconst 2, 1) := by decide +kernel
theorem dX5_multiply_44 : decode cX5_multiply 44 = .ok (.if_icmp .ne 23, 3) := by decide +kernel
theorem dX5_multiply_47 : decode cX5_multiply 47 = .ok (.aload_n 0, 1) := by decide +kernel
theorem dX5_multiply_48 : decode cX5_multiply 48 = .ok (.getfield 51, 3) := by decide +kernel
theorem dX5_multiply_51 : decode cX5_multiply 51 = .ok (.iconst 1, 1) := by decide +kernel
theorem dX5_multiply_52 : decode cX5_multiply 52 = .ok (.dup2, 1) := by decide +kernel
theorem dX5_multiply_53 : decode cX5_multiply 53 = .ok (.laload, 1) := by decide +kernel
theorem dX5_multiply_54 : decode cX5_multiply 54 = .ok (.lload_n 3, 1) := by decide +kernel
theorem dX5_multiply_55 : decode cX5_multiply 55 = .ok (.lmul, 1) := by decide +kernel
theorem dX5_multiply_56 : decode cX5_multiply 56 = .ok (.lastore, 1) := by decide +kernel
theorem dX5_multiply_57 : decode cX5_multiply 57 = .ok (.aload_n 0, 1) := by decide +kernel
theorem dX5_multiply_58 : decode cX5_multiply 58 = .ok (.getfield 51, 3) := by decide +kernel
theorem dX5_multiply_61 : decode cX5_multiply 61 = .ok (.iconst 3, 1) := by decide +kernel
theorem dX5_multiply_62 : decode cX5_multiply 62 = .ok (.dup2, 1) := by decide +kernel
theorem dX5_multiply_63 : decode cX5_multiply 63 = .ok (.laload, 1) := by decide +kernel
theorem dX5_multiply_64 : decode cX5_multiply 64 = .ok (.lload_n 3, 1) := by decide +kernel
theorem dX5_multiply_65 : decode cX5_multiply 65 = .ok (.lmul, 1) := by decide +kernel
theorem dX5_multiply_66 : decode cX5_multiply 66 = .ok (.lastore, 1) := by decide +kernel
theorem dX5_multiply_67 : decode cX5_multiply 67 = .ok (.aload_n 0, 1) := by decide +kernel
theorem dX5_multiply_68 : decode cX5_multiply 68 = .ok (.iload_n 1, 1) := by decide +kernel
theorem dX5_multiply_69 : decode cX5_multiply 69 = .ok (.iload_n 2, 1) := by decide +kernel
theorem dX5_multiply_70 : decode cX5_multiply 70 = .ok (.iload 5, 2) := by decide +kernel
theorem dX5_multiply_72 : decode cX5_multiply 72 = .ok (.invokevirtual 95, 3) := by decide +kernel
theorem dX5_multiply_75 : decode cX5_multiply 75 = .ok (.ireturn, 1) := by decide +kernel
theorem dX5_divide_0 : decode cX5_divide 0 = .ok (.iload_n 1, 1) := by decide +kernel
theorem dX5_divide_1 : decode cX5_divide 1 = .ok (.iconst 2, 1) := by decide +kernel
theorem dX5_divide_2 : decode cX5_divide 2 = .ok (.invokestatic 77, 3) := by decide +kernel
theorem dX5_divide_5 : decode cX5_divide 5 = .ok (.iload_n 2, 1) := by decide +kernel
theorem dX5_divide_6 : decode cX5_divide 6 = .ok (.i2l, 1) := by decide +kernel
theorem dX5_divide_7 : decode cX5_divide 7 = .ok (.invokestatic 87, 3) := by decide +kernel
theorem dX5_divide_10 : decode cX5_divide 10 = .ok (.lload_n 3, 1) := by decide +kernel
theorem dX5_divide_11 : decode cX5_divide 11 = .ok (.lconst 0, 1) := by decide +kernel
theorem dX5_divide_12 : decode cX5_divide 12 = .ok (.lcmp, 1) := by decide +kernel
theorem dX5_divide_13 : decode cX5_divide 13 = .ok (.ifCond .ne 13, 3) := by decide +kernel
theorem dX5_divide_16 : decode cX5_divide 16 = .ok (.new 129, 3) := by decide +kernel
theorem dX5_divide_19 : decode cX5_divide 19 = .ok (.dup, 1) := by decide +kernel
theorem dX5_divide_20 : decode cX5_divide 20 = .ok (.ldc 131, 2) := by decide +kernel
theorem dX5_divide_22 : decode cX5_divide 22 = .ok (.invokespecial 133, 3) := by decide +kernel
theorem dX5_divide_25 : decode cX5_divide 25 = .ok (.athrow, 1) := by decide +kernel
theorem dX5_divide_26 : decode cX5_divide 26 = .ok (.aload_n 0, 1) := by decide +kernel
theorem dX5_divide_27 : decode cX5_divide 27 = .ok (.getfield 10, 3) := by decide +kernel
theorem dX5_divide_30 : decode cX5_divide 30 = .ok (.aload_n 0, 1) := by decide +kernel
theorem dX5_divide_31 : decode cX5_divide 31 = .ok (.getfield 51, 3) := by decide +kernel
theorem dX5_divide_34 : decode cX5_divide 34 = .ok (.iload_n 1, 1) := by decide +kernel
theorem dX5_divide_35 : decode cX5_divide 35 = .ok (.iload_n 2, 1) := by decide +kernel
theorem dX5_divide_36 : decode cX5_divide 36 = .ok (.invokevirtual 115, 3) := by decide +kernel
theorem dX5_divide_39 : decode cX5_divide 39 = .ok (.aload_n 0, 1) := by decide +kernel
theorem dX5_divide_40 : decode cX5_divide 40 = .ok (.getfield 51, 3) := by decide +kernel
theorem dX5_divide_43 : decode cX5_divide 43 = .ok (.iconst 0, 1) := by decide +kernel
theorem dX5_divide_44 : decode cX5_divide 44 = .ok (.dup2, 1) := by decide +kernel
theorem dX5_divide_45 : decode cX5_divide 45 = .ok (.laload, 1) := by decide +kernel
theorem dX5_divide_46 : decode cX5_divide 46 = .ok (.lload_n 3, 1) := by decide +kernel
theorem dX5_divide_47 : decode cX5_divide 47 = .ok (.ldiv, 1) := by decide +kernel
theorem dX5_divide_48 : decode cX5_divide 48 = .ok (.lastore, 1) := by decide +kernel
theorem dX5_divide_49 : decode cX5_divide 49 = .ok (.iload_n 1, 1) := by decide +kernel
theorem dX5_divide_50 : decode cX5_divide 50 = .ok (.iconst 2, 1) := by decide +kernel
theorem dX5_divide_51 : decode cX5_divide 51 = .ok (.if_icmp .ne 23, 3) := by decide +kernel
theorem dX5_divide_54 : decode cX5_divide 54 = .ok (.aload_n 0, 1) := by decide +kernel
theorem dX5_divide_55 : decode cX5_divide 55 = .ok (.getfield 51, 3) := by decide +kernel
theorem dX5_divide_58 : decode cX5_divide 58 = .ok (.iconst 1, 1) := by decide +kernel
theorem dX5_divide_59 : decode cX5_divide 59 = .ok (.dup2, 1) := by decide +kernel
theorem dX5_divide_60 : decode cX5_divide 60 = .ok (.laload, 1) := by decide +kernel
theorem dX5_divide_61 : decode cX5_divide 61 = .ok (.lload_n 3, 1) := by decide +kernel
theorem dX5_divide_62 : decode cX5_divide 62 = .ok (.ldiv, 1) := by decide +kernel
theorem dX5_divide_63 : decode cX5_divide 63 = .ok (.lastore, 1) := by decide +kernel
theorem dX5_divide_64 : decode cX5_divide 64 = .ok (.aload_n 0, 1) := by decide +kernel
theorem dX5_divide_65 : decode cX5_divide 65 = .ok (.getfield 51, 3) := by decide +kernel
theorem dX5_divide_68 : decode cX5_divide 68 = .ok (.iconst 3, 1) := by decide +kernel
theorem dX5_divide_69 : decode cX5_divide 69 = .ok (.dup2, 1) := by decide +kernel
theorem dX5_divide_70 : decode cX5_divide 70 = .ok (.laload, 1) := by decide +kernel
theorem dX5_divide_71 : decode cX5_divide 71 = .ok (.lload_n 3, 1) := by decide +kernel
theorem dX5_divide_72 : decode cX5_divide 72 = .ok (.ldiv, 1) := by decide +kernel
theorem dX5_divide_73 : decode cX5_divide 73 = .ok (.lastore, 1) := by decide +kernel
theorem dX5_divide_74 : decode cX5_divide 74 = .ok (.aload_n 0, 1) := by decide +kernel
theorem dX5_divide_75 : decode cX5_divide 75 = .ok (.iload_n 1, 1) := by decide +kernel
theorem dX5_divide_76 : decode cX5_divide 76 = .ok (.iload_n 2, 1) := by decide +kernel
theorem dX5_divide_77 : decode cX5_divide 77 = .ok (.iload 5, 2) := by decide +kernel
theorem dX5_divide_79 : decode cX5_divide 79 = .ok (.invokevirtual 95, 3) := by decide +kernel
theorem dX5_divide_82 : decode cX5_divide 82 = .ok (.ireturn, 1) := by decide +kernel
theorem dX5_take_0 : decode cX5_take 0 = .ok (.iload_n 1, 1) := by decide +kernel
theorem dX5_take_1 : decode cX5_take 1 = .ok (.i2l, 1) := by decide +kernel
theorem dX5_take_2 : decode cX5_take 2 = .ok (.invokestatic 87, 3) := by decide +kernel
theorem dX5_take_5 : decode cX5_take 5 = .ok (.iconst 4, 1) := by decide +kernel
theorem dX5_take_6 : decode cX5_take 6 = .ok (.iload_n 1, 1) := by decide +kernel
theorem dX5_take_7 : decode cX5_take 7 = .ok (.invokestatic 102, 3) := by decide +kernel
theorem dX5_take_10 : decode cX5_take 10 = .ok (.istore_n 2, 1) := by decide +kernel
theorem dX5_take_11 : decode cX5_take 11 = .ok (.aload_n 0, 1) := by decide +kernel
theorem dX5_take_12 : decode cX5_take 12 = .ok (.getfield 10, 3) := by decide +kernel
theorem dX5_take_15 : decode cX5_take 15 = .ok (.getfield 99, 3) := by decide +kernel
theorem dX5_take_18 : decode cX5_take 18 = .ok (.iload_n 2, 1) := by decide +kernel
theorem dX5_take_19 : decode cX5_take 19 = .ok (.laload, 1) := by decide +kernel
theorem dX5_take_20 : decode cX5_take 20 = .ok (.l2i, 1) := by decide +kernel
theorem dX5_take_21 : decode cX5_take 21 = .ok (.istore_n 3, 1) := by decide +kernel
theorem dX5_take_22 : decode cX5_take 22 = .ok (.aload_n 0, 1) := by decide +kernel
theorem dX5_take_23 : decode cX5_take 23 = .ok (.getfield 10, 3) := by decide +kernel
theorem dX5_take_26 : decode cX5_take 26 = .ok (.getfield 99, 3) := by decide +kernel
theorem dX5_take_29 : decode cX5_take 29 = .ok (.iload_n 2, 1) := by decide +kernel
theorem dX5_take_30 : decode cX5_take 30 = .ok (.ldc2_w 81, 3) := by decide +kernel
theorem dX5_take_33 : decode cX5_take 33 = .ok (.lastore, 1) := by decide +kernel
theorem dX5_take_34 : decode cX5_take 34 = .ok (.iload_n 3, 1) := by decide +kernel
theorem dX5_take_35 : decode cX5_take 35 = .ok (.iconst (-1), 1) := by decide +kernel
theorem dX5_take_36 : decode cX5_take 36 = .ok (.if_icmp .ne 7, 3) := by decide +kernel
theorem dX5_take_39 : decode cX5_take 39 = .ok (.iconst (-1), 1) := by decide +kernel
theorem dX5_take_40 : decode cX5_take 40 = .ok (.goto 4, 3) := by decide +kernel
theorem dX5_take_43 : decode cX5_take 43 = .ok (.iload_n 3, 1) := by decide +kernel
theorem dX5_take_44 : decode cX5_take 44 = .ok (.ireturn, 1) := by decide +kernel
theorem dX5_group_0 : decode cX5_group 0 = .ok (.aload_n 0, 1) := by decide +kernel
theorem dX5_group_1 : decode cX5_group 1 = .ok (.getfield 26, 3) := by decide +kernel
theorem dX5_group_4 : decode cX5_group 4 = .ok (.getfield 134, 3) := by decide +kernel
theorem dX5_group_7 : decode cX5_group 7 = .ok (.ifCond .lt 15, 3) := by decide +kernel
theorem dX5_group_10 : decode cX5_group 10 = .ok (.aload_n 0, 1) := by decide +kernel
theorem dX5_group_11 : decode cX5_group 11 = .ok (.getfield 26, 3) := by decide +kernel
theorem dX5_group_14 : decode cX5_group 14 = .ok (.getfield 134, 3) := by decide +kernel
theorem dX5_group_17 : decode cX5_group 17 = .ok (.bipush 20, 2) := by decide +kernel
theorem dX5_group_19 : decode cX5_group 19 = .ok (.if_icmp .lt 13, 3) := by decide +kernel
theorem dX5_group_22 : decode cX5_group 22 = .ok (.new 138, 3) := by decide +kernel
theorem dX5_group_25 : decode cX5_group 25 = .ok (.dup, 1) := by decide +kernel
theorem dX5_group_26 : decode cX5_group 26 = .ok (.ldc 140, 2) := by decide +kernel
theorem dX5_group_28 : decode cX5_group 28 = .ok (.invokespecial 142, 3) := by decide +kernel
theorem dX5_group_31 : decode cX5_group 31 = .ok (.athrow, 1) := by decide +kernel
theorem dX5_group_32 : decode cX5_group 32 = .ok (.aload_n 0, 1) := by decide +kernel
theorem dX5_group_33 : decode cX5_group 33 = .ok (.getfield 26, 3) := by decide +kernel
theorem dX5_group_36 : decode cX5_group 36 = .ok (.aload_n 0, 1) := by decide +kernel
theorem dX5_group_37 : decode cX5_group 37 = .ok (.getfield 19, 3) := by decide +kernel
theorem dX5_group_40 : decode cX5_group 40 = .ok (.getfield 143, 3) := by decide +kernel
theorem dX5_group_43 : decode cX5_group 43 = .ok (.invokevirtual 146, 3) := by decide +kernel
theorem dX5_group_46 : decode cX5_group 46 = .ok (.aload_n 0, 1) := by decide +kernel
theorem dX5_group_47 : decode cX5_group 47 = .ok (.getfield 26, 3) := by decide +kernel
theorem dX5_group_50 : decode cX5_group 50 = .ok (.getfield 134, 3) := by decide +kernel
theorem dX5_group_53 : decode cX5_group 53 = .ok (.ireturn, 1) := by decide +kernel
theorem dX5_after_0 : decode cX5_after 0 = .ok (.iload_n 1, 1) := by decide +kernel
theorem dX5_after_1 : decode cX5_after 1 = .ok (.invokestatic 54, 3) := by decide +kernel
theorem dX5_after_4 : decode cX5_after 4 = .ok (.aload_n 0, 1) := by decide +kernel
theorem dX5_after_5 : decode cX5_after 5 = .ok (.getfield 26, 3) := by decide +kernel
theorem dX5_after_8 : decode cX5_after 8 = .ok (.getfield 134, 3) := by decide +kernel
theorem dX5_after_11 : decode cX5_after 11 = .ok (.ifCond .gt 13, 3) := by decide +kernel
theorem dX5_after_14 : decode cX5_after 14 = .ok (.new 149, 3) := by decide +kernel
theorem dX5_after_17 : decode cX5_after 17 = .ok (.dup, 1) := by decide +kernel
theorem dX5_after_18 : decode cX5_after 18 = .ok (.ldc 151, 2) := by decide +kernel
theorem dX5_after_20 : decode cX5_after 20 = .ok (.invokespecial 153, 3) := by decide +kernel
theorem dX5_after_23 : decode cX5_after 23 = .ok (.athrow, 1) := by decide +kernel
theorem dX5_after_24 : decode cX5_after 24 = .ok (.aload_n 0, 1) := by decide +kernel
theorem dX5_after_25 : decode cX5_after 25 = .ok (.getfield 26, 3) := by decide +kernel
theorem dX5_after_28 : decode cX5_after 28 = .ok (.getfield 154, 3) := by decide +kernel
theorem dX5_after_31 : decode cX5_after 31 = .ok (.ifCond .lt 15, 3) := by decide +kernel
theorem dX5_after_34 : decode cX5_after 34 = .ok (.aload_n 0, 1) := by decide +kernel
theorem dX5_after_35 : decode cX5_after 35 = .ok (.getfield 26, 3) := by decide +kernel
theorem dX5_after_38 : decode cX5_after 38 = .ok (.getfield 154, 3) := by decide +kernel
theorem dX5_after_41 : decode cX5_after 41 = .ok (.bipush 60, 2) := by decide +kernel
theorem dX5_after_43 : decode cX5_after 43 = .ok (.if_icmp .lt 13, 3) := by decide +kernel
theorem dX5_after_46 : decode cX5_after 46 = .ok (.new 138, 3) := by decide +kernel
theorem dX5_after_49 : decode cX5_after 49 = .ok (.dup, 1) := by decide +kernel
theorem dX5_after_50 : decode cX5_after 50 = .ok (.ldc 155, 2) := by decide +kernel
theorem dX5_after_52 : decode cX5_after 52 = .ok (.invokespecial 142, 3) := by decide +kernel
theorem dX5_after_55 : decode cX5_after 55 = .ok (.athrow, 1) := by decide +kernel
theorem dX5_after_56 : decode cX5_after 56 = .ok (.aload_n 0, 1) := by decide +kernel
theorem dX5_after_57 : decode cX5_after 57 = .ok (.getfield 26, 3) := by decide +kernel
theorem dX5_after_60 : decode cX5_after 60 = .ok (.iload_n 1, 1) := by decide +kernel
theorem dX5_after_61 : decode cX5_after 61 = .ok (.invokevirtual 157, 3) := by decide +kernel
theorem dX5_after_64 : decode cX5_after 64 = .ok (.aload_n 0, 1) := by decide +kernel
theorem dX5_after_65 : decode cX5_after 65 = .ok (.getfield 26, 3) := by decide +kernel
theorem dX5_after_68 : decode cX5_after 68 = .ok (.getfield 154, 3) := by decide +kernel
theorem dX5_after_71 : decode cX5_after 71 = .ok (.aload_n 0, 1) := by decide +kernel
theorem dX5_after_72 : decode cX5_after 72 = .ok (.getfield 26, 3) := by decide +kernel
theorem dX5_after_75 : decode cX5_after 75 = .ok (.invokevirtual 160, 3) := by decide +kernel
theorem dX5_after_78 : decode cX5_after 78 = .ok (.isub, 1) := by decide +kernel
theorem dX5_after_79 : decode cX5_after 79 = .ok (.ireturn, 1) := by decide +kernel
theorem dX5_end_0 : decode cX5_end 0 = .ok (.aload_n 0, 1) := by decide +kernel
theorem dX5_end_1 : decode cX5_end 1 = .ok (.getfield 26, 3) := by decide +kernel
theorem dX5_end_4 : decode cX5_end 4 = .ok (.getfield 134, 3) := by decide +kernel
theorem dX5_end_7 : decode cX5_end 7 = .ok (.ifCond .gt 13, 3) := by decide +kernel
theorem dX5_end_10 : decode cX5_end 10 = .ok (.new 149, 3) := by decide +kernel
theorem dX5_end_13 : decode cX5_end 13 = .ok (.dup, 1) := by decide +kernel
theorem dX5_end_14 : decode cX5_end 14 = .ok (.ldc 151, 2) := by decide +kernel
theorem dX5_end_16 : decode cX5_end 16 = .ok (.invokespecial 153, 3) := by decide +kernel
theorem dX5_end_19 : decode cX5_end 19 = .ok (.athrow, 1) := by decide +kernel
theorem dX5_end_20 : decode cX5_end 20 = .ok (.aload_n 0, 1) := by decide +kernel
theorem dX5_end_21 : decode cX5_end 21 = .ok (.getfield 33, 3) := by decide +kernel
theorem dX5_end_24 : decode cX5_end 24 = .ok (.invokevirtual 164, 3) := by decide +kernel
theorem dX5_end_27 : decode cX5_end 27 = .ok (.aload_n 0, 1) := by decide +kernel
theorem dX5_end_28 : decode cX5_end 28 = .ok (.aload_n 0, 1) := by decide +kernel
theorem dX5_end_29 : decode cX5_end 29 = .ok (.getfield 26, 3) := by decide +kernel
theorem dX5_end_32 : decode cX5_end 32 = .ok (.invokevirtual 167, 3) := by decide +kernel
theorem dX5_end_35 : decode cX5_end 35 = .ok (.invokevirtual 170, 3) := by decide +kernel
theorem dX5_end_38 : decode cX5_end 38 = .ok (.aload_n 0, 1) := by decide +kernel
theorem dX5_end_39 : decode cX5_end 39 = .ok (.getfield 33, 3) := by decide +kernel
theorem dX5_end_42 : decode cX5_end 42 = .ok (.aload_n 0, 1) := by decide +kernel
theorem dX5_end_43 : decode cX5_end 43 = .ok (.getfield 26, 3) := by decide +kernel
theorem dX5_end_46 : decode cX5_end 46 = .ok (.invokevirtual 173, 3) := by decide +kernel
theorem dX5_end_49 : decode cX5_end 49 = .ok (.aload_n 0, 1) := by decide +kernel
theorem dX5_end_50 : decode cX5_end 50 = .ok (.getfield 26, 3) := by decide +kernel
theorem dX5_end_53 : decode cX5_end 53 = .ok (.invokevirtual 177, 3) := by decide +kernel
theorem dX5_end_56 : decode cX5_end 56 = .ok (.aload_n 0, 1) := by decide +kernel
theorem dX5_end_57 : decode cX5_end 57 = .ok (.getfield 33, 3) := by decide +kernel
theorem dX5_end_60 : decode cX5_end 60 = .ok (.getfield 180, 3) := by decide +kernel
theorem dX5_end_63 : decode cX5_end 63 = .ok (.ireturn, 1) := by decide +kernel
theorem dX5_restored_0 : decode cX5_restored 0 = .ok (.iload_n 1, 1) := by decide +kernel
theorem dX5_restored_1 : decode cX5_restored 1 = .ok (.ifCond .lt 33, 3) := by decide +kernel
theorem dX5_restored_4 : decode cX5_restored 4 = .ok (.iload_n 1, 1) := by decide +kernel
theorem dX5_restored_5 : decode cX5_restored 5 = .ok (.aload_n 0, 1) := by decide +kernel
theorem dX5_restored_6 : decode cX5_restored 6 = .ok (.getfield 33, 3) := by decide +kernel
theorem dX5_restored_9 : decode cX5_restored 9 = .ok (.getfield 183, 3) := by decide +kernel
theorem dX5_restored_12 : decode cX5_restored 12 = .ok (.if_icmp .ge 22, 3) := by decide +kernel
theorem dX5_restored_15 : decode cX5_restored 15 = .ok (.iload_n 1, 1) := by decide +kernel
theorem dX5_restored_16 : decode cX5_restored 16 = .ok (.sipush 200, 3) := by decide +kernel
theorem dX5_restored_19 : decode cX5_restored 19 = .ok (.if_icmp .ge 15, 3) := by decide +kernel
theorem dX5_restored_22 : decode cX5_restored 22 = .ok (.iload_n 2, 1) := by decide +kernel
theorem dX5_restored_23 : decode cX5_restored 23 = .ok (.i2l, 1) := by decide +kernel
theorem dX5_restored_24 : decode cX5_restored 24 = .ok (.lconst 0, 1) := by decide +kernel
theorem dX5_restored_25 : decode cX5_restored 25 = .ok (.ldc2_w 184, 3) := by decide +kernel
theorem dX5_restored_28 : decode cX5_restored 28 = .ok (.invokestatic 71, 3) := by decide +kernel
theorem dX5_restored_31 : decode cX5_restored 31 = .ok (.ifCond .ne 13, 3) := by decide +kernel
theorem dX5_restored_34 : decode cX5_restored 34 = .ok (.new 108, 3) := by decide +kernel
theorem dX5_restored_37 : decode cX5_restored 37 = .ok (.dup, 1) := by decide +kernel
theorem dX5_restored_38 : decode cX5_restored 38 = .ok (.ldc 186, 2) := by decide +kernel
theorem dX5_restored_40 : decode cX5_restored 40 = .ok (.invokespecial 112, 3) := by decide +kernel
theorem dX5_restored_43 : decode cX5_restored 43 = .ok (.athrow, 1) := by decide +kernel
theorem dX5_restored_44 : decode cX5_restored 44 = .ok (.iload_n 2, 1) := by decide +kernel
theorem dX5_restored_45 : decode cX5_restored 45 = .ok (.ifCond .ne 15, 3) := by decide +kernel
theorem dX5_restored_48 : decode cX5_restored 48 = .ok (.aload_n 0, 1) := by decide +kernel
theorem dX5_restored_49 : decode cX5_restored 49 = .ok (.getfield 33, 3) := by decide +kernel
theorem dX5_restored_52 : decode cX5_restored 52 = .ok (.getfield 188, 3) := by decide +kernel
theorem dX5_restored_55 : decode cX5_restored 55 = .ok (.iload_n 1, 1) := by decide +kernel
theorem dX5_restored_56 : decode cX5_restored 56 = .ok (.iaload, 1) := by decide +kernel
theorem dX5_restored_57 : decode cX5_restored 57 = .ok (.goto 29, 3) := by decide +kernel
theorem dX5_restored_60 : decode cX5_restored 60 = .ok (.iload_n 2, 1) := by decide +kernel
theorem dX5_restored_61 : decode cX5_restored 61 = .ok (.iconst 1, 1) := by decide +kernel
theorem dX5_restored_62 : decode cX5_restored 62 = .ok (.if_icmp .ne 15, 3) := by decide +kernel
theorem dX5_restored_65 : decode cX5_restored 65 = .ok (.aload_n 0, 1) := by decide +kernel
theorem dX5_restored_66 : decode cX5_restored 66 = .ok (.getfield 33, 3) := by decide +kernel
theorem dX5_restored_69 : decode cX5_restored 69 = .ok (.getfield 192, 3) := by decide +kernel
theorem dX5_restored_72 : decode cX5_restored 72 = .ok (.iload_n 1, 1) := by decide +kernel
theorem dX5_restored_73 : decode cX5_restored 73 = .ok (.iaload, 1) := by decide +kernel
theorem dX5_restored_74 : decode cX5_restored 74 = .ok (.goto 12, 3) := by decide +kernel
theorem dX5_restored_77 : decode cX5_restored 77 = .ok (.aload_n 0, 1) := by decide +kernel
theorem dX5_restored_78 : decode cX5_restored 78 = .ok (.getfield 33, 3) := by decide +kernel
theorem dX5_restored_81 : decode cX5_restored 81 = .ok (.getfield 195, 3) := by decide +kernel
theorem dX5_restored_84 : decode cX5_restored 84 = .ok (.iload_n 1, 1) := by decide +kernel
theorem dX5_restored_85 : decode cX5_restored 85 = .ok (.iaload, 1) := by decide +kernel
theorem dX5_restored_86 : decode cX5_restored 86 = .ok (.ireturn, 1) := by decide +kernel
theorem dX5_behind_0 : decode cX5_behind 0 = .ok (.iload_n 1, 1) := by decide +kernel
theorem dX5_behind_1 : decode cX5_behind 1 = .ok (.ifCond .lt 20, 3) := by decide +kernel
theorem dX5_behind_4 : decode cX5_behind 4 = .ok (.iload_n 1, 1) := by decide +kernel
theorem dX5_behind_5 : decode cX5_behind 5 = .ok (.aload_n 0, 1) := by decide +kernel
theorem dX5_behind_6 : decode cX5_behind 6 = .ok (.getfield 33, 3) := by decide +kernel
theorem dX5_behind_9 : decode cX5_behind 9 = .ok (.getfield 198, 3) := by decide +kernel
theorem dX5_behind_12 : decode cX5_behind 12 = .ok (.if_icmp .ge 9, 3) := by decide +kernel
theorem dX5_behind_15 : decode cX5_behind 15 = .ok (.iload_n 1, 1) := by decide +kernel
theorem dX5_behind_16 : decode cX5_behind 16 = .ok (.bipush 60, 2) := by decide +kernel
theorem dX5_behind_18 : decode cX5_behind 18 = .ok (.if_icmp .lt 5, 3) := by decide +kernel
theorem dX5_behind_21 : decode cX5_behind 21 = .ok (.iconst (-1), 1) := by decide +kernel
theorem dX5_behind_22 : decode cX5_behind 22 = .ok (.ireturn, 1) := by decide +kernel
theorem dX5_behind_23 : decode cX5_behind 23 = .ok (.aload_n 0, 1) := by decide +kernel
theorem dX5_behind_24 : decode cX5_behind 24 = .ok (.getfield 33, 3) := by decide +kernel
theorem dX5_behind_27 : decode cX5_behind 27 = .ok (.getfield 201, 3) := by decide +kernel
theorem dX5_behind_30 : decode cX5_behind 30 = .ok (.iload_n 1, 1) := by decide +kernel
theorem dX5_behind_31 : decode cX5_behind 31 = .ok (.iaload, 1) := by decide +kernel
theorem dX5_behind_32 : decode cX5_behind 32 = .ok (.ireturn, 1) := by decide +kernel
theorem dX5_scaled_0 : decode cX5_scaled 0 = .ok (.iload_n 1, 1) := by decide +kernel
theorem dX5_scaled_1 : decode cX5_scaled 1 = .ok (.i2l, 1) := by decide +kernel
theorem dX5_scaled_2 : decode cX5_scaled 2 = .ok (.lconst 0, 1) := by decide +kernel
theorem dX5_scaled_3 : decode cX5_scaled 3 = .ok (.ldc2_w 204, 3) := by decide +kernel
theorem dX5_scaled_6 : decode cX5_scaled 6 = .ok (.invokestatic 71, 3) := by decide +kernel
theorem dX5_scaled_9 : decode cX5_scaled 9 = .ok (.ifCond .eq 15, 3) := by decide +kernel
theorem dX5_scaled_12 : decode cX5_scaled 12 = .ok (.iload_n 3, 1) := by decide +kernel
theorem dX5_scaled_13 : decode cX5_scaled 13 = .ok (.i2l, 1) := by decide +kernel
theorem dX5_scaled_14 : decode cX5_scaled 14 = .ok (.lconst 0, 1) := by decide +kernel
theorem dX5_scaled_15 : decode cX5_scaled 15 = .ok (.ldc2_w 206, 3) := by decide +kernel
theorem dX5_scaled_18 : decode cX5_scaled 18 = .ok (.invokestatic 71, 3) := by decide +kernel
theorem dX5_scaled_21 : decode cX5_scaled 21 = .ok (.ifCond .ne 13, 3) := by decide +kernel
theorem dX5_scaled_24 : decode cX5_scaled 24 = .ok (.new 62, 3) := by decide +kernel
theorem dX5_scaled_27 : decode cX5_scaled 27 = .ok (.dup, 1) := by decide +kernel
theorem dX5_scaled_28 : decode cX5_scaled 28 = .ok (.ldc 208, 2) := by decide +kernel
theorem dX5_scaled_30 : decode cX5_scaled 30 = .ok (.invokespecial 66, 3) := by decide +kernel
theorem dX5_scaled_33 : decode cX5_scaled 33 = .ok (.athrow, 1) := by decide +kernel
theorem dX5_scaled_34 : decode cX5_scaled 34 = .ok (.iload_n 3, 1) := by decide +kernel
theorem dX5_scaled_35 : decode cX5_scaled 35 = .ok (.bipush 8, 2) := by decide +kernel
theorem dX5_scaled_37 : decode cX5_scaled 37 = .ok (.if_icmp .ne 6, 3) := by decide +kernel
theorem dX5_scaled_40 : decode cX5_scaled 40 = .ok (.iload_n 1, 1) := by decide +kernel
theorem dX5_scaled_41 : decode cX5_scaled 41 = .ok (.i2l, 1) := by decide +kernel
theorem dX5_scaled_42 : decode cX5_scaled 42 = .ok (.lreturn, 1) := by decide +kernel
theorem dX5_scaled_43 : decode cX5_scaled 43 = .ok (.iload_n 2, 1) := by decide +kernel
theorem dX5_scaled_44 : decode cX5_scaled 44 = .ok (.i2l, 1) := by decide +kernel
theorem dX5_scaled_45 : decode cX5_scaled 45 = .ok (.lconst 0, 1) := by decide +kernel
theorem dX5_scaled_46 : decode cX5_scaled 46 = .ok (.ldc2_w 210, 3) := by decide +kernel
theorem dX5_scaled_49 : decode cX5_scaled 49 = .ok (.invokestatic 71, 3) := by decide +kernel
theorem dX5_scaled_52 : decode cX5_scaled 52 = .ok (.ifCond .ne 13, 3) := by decide +kernel
theorem dX5_scaled_55 : decode cX5_scaled 55 = .ok (.new 62, 3) := by decide +kernel
theorem dX5_scaled_58 : decode cX5_scaled 58 = .ok (.dup, 1) := by decide +kernel
theorem dX5_scaled_59 : decode cX5_scaled 59 = .ok (.ldc 212, 2) := by decide +kernel
theorem dX5_scaled_61 : decode cX5_scaled 61 = .ok (.invokespecial 66, 3) := by decide +kernel
theorem dX5_scaled_64 : decode cX5_scaled 64 = .ok (.athrow, 1) := by decide +kernel
theorem dX5_scaled_65 : decode cX5_scaled 65 = .ok (.iload_n 1, 1) := by decide +kernel
theorem dX5_scaled_66 : decode cX5_scaled 66 = .ok (.i2l, 1) := by decide +kernel
theorem dX5_scaled_67 : decode cX5_scaled 67 = .ok (.iload_n 2, 1) := by decide +kernel
theorem dX5_scaled_68 : decode cX5_scaled 68 = .ok (.i2l, 1) := by decide +kernel
theorem dX5_scaled_69 : decode cX5_scaled 69 = .ok (.getstatic 214, 3) := by decide +kernel
theorem dX5_scaled_72 : decode cX5_scaled 72 = .ok (.iload_n 3, 1) := by decide +kernel
theorem dX5_scaled_73 : decode cX5_scaled 73 = .ok (.laload, 1) := by decide +kernel
theorem dX5_scaled_74 : decode cX5_scaled 74 = .ok (.getstatic 217, 3) := by decide +kernel
theorem dX5_scaled_77 : decode cX5_scaled 77 = .ok (.iload_n 3, 1) := by decide +kernel
theorem dX5_scaled_78 : decode cX5_scaled 78 = .ok (.laload, 1) := by decide +kernel
theorem dX5_scaled_79 : decode cX5_scaled 79 = .ok (.invokestatic 220, 3) := by decide +kernel
theorem dX5_scaled_82 : decode cX5_scaled 82 = .ok (.lstore 4, 2) := by decide +kernel
theorem dX5_scaled_84 : decode cX5_scaled 84 = .ok (.lload 4, 2) := by decide +kernel
theorem dX5_scaled_86 : decode cX5_scaled 86 = .ok (.ldc2_w 204, 3) := by decide +kernel
theorem dX5_scaled_89 : decode cX5_scaled 89 = .ok (.lcmp, 1) := by decide +kernel
theorem dX5_scaled_90 : decode cX5_scaled 90 = .ok (.ifCond .le 9, 3) := by decide +kernel
theorem dX5_scaled_93 : decode cX5_scaled 93 = .ok (.ldc2_w 81, 3) := by decide +kernel
theorem dX5_scaled_96 : decode cX5_scaled 96 = .ok (.goto 5, 3) := by decide +kernel
theorem dX5_scaled_99 : decode cX5_scaled 99 = .ok (.lload 4, 2) := by decide +kernel
theorem dX5_scaled_101 : decode cX5_scaled 101 = .ok (.lreturn, 1) := by decide +kernel
theorem dX5_fraction_0 : decode cX5_fraction 0 = .ok (.iload_n 2, 1) := by decide +kernel
theorem dX5_fraction_1 : decode cX5_fraction 1 = .ok (.i2l, 1) := by decide +kernel
theorem dX5_fraction_2 : decode cX5_fraction 2 = .ok (.lconst 1, 1) := by decide +kernel
theorem dX5_fraction_3 : decode cX5_fraction 3 = .ok (.ldc2_w 224, 3) := by decide +kernel
theorem dX5_fraction_6 : decode cX5_fraction 6 = .ok (.invokestatic 71, 3) := by decide +kernel
theorem dX5_fraction_9 : decode cX5_fraction 9 = .ok (.ifCond .eq 7, 3) := by decide +kernel
theorem dX5_fraction_12 : decode cX5_fraction 12 = .ok (.iload_n 1, 1) := by decide +kernel
theorem dX5_fraction_13 : decode cX5_fraction 13 = .ok (.ifCond .ge 13, 3) := by decide +kernel
theorem dX5_fraction_16 : decode cX5_fraction 16 = .ok (.new 62, 3) := by decide +kernel
theorem dX5_fraction_19 : decode cX5_fraction 19 = .ok (.dup, 1) := by decide +kernel
theorem dX5_fraction_20 : decode cX5_fraction 20 = .ok (.ldc 226, 2) := by decide +kernel
theorem dX5_fraction_22 : decode cX5_fraction 22 = .ok (.invokespecial 66, 3) := by decide +kernel
theorem dX5_fraction_25 : decode cX5_fraction 25 = .ok (.athrow, 1) := by decide +kernel
theorem dX5_fraction_26 : decode cX5_fraction 26 = .ok (.iload_n 1, 1) := by decide +kernel
theorem dX5_fraction_27 : decode cX5_fraction 27 = .ok (.istore_n 3, 1) := by decide +kernel
theorem dX5_fraction_28 : decode cX5_fraction 28 = .ok (.lconst 0, 1) := by decide +kernel
theorem dX5_fraction_29 : decode cX5_fraction 29 = .ok (.lstore 4, 2) := by decide +kernel
theorem dX5_fraction_31 : decode cX5_fraction 31 = .ok (.iconst 0, 1) := by decide +kernel
theorem dX5_fraction_32 : decode cX5_fraction 32 = .ok (.istore 6, 2) := by decide +kernel
theorem dX5_fraction_34 : decode cX5_fraction 34 = .ok (.iload 6, 2) := by decide +kernel
theorem dX5_fraction_36 : decode cX5_fraction 36 = .ok (.iload_n 2, 1) := by decide +kernel
theorem dX5_fraction_37 : decode cX5_fraction 37 = .ok (.if_icmp .ge 32, 3) := by decide +kernel
theorem dX5_fraction_40 : decode cX5_fraction 40 = .ok (.lload 4, 2) := by decide +kernel
theorem dX5_fraction_42 : decode cX5_fraction 42 = .ok (.ldc2_w 228, 3) := by decide +kernel
theorem dX5_fraction_45 : decode cX5_fraction 45 = .ok (.iload_n 3, 1) := by decide +kernel
theorem dX5_fraction_46 : decode cX5_fraction 46 = .ok (.bipush 10, 2) := by decide +kernel
theorem dX5_fraction_48 : decode cX5_fraction 48 = .ok (.irem, 1) := by decide +kernel
theorem dX5_fraction_49 : decode cX5_fraction 49 = .ok (.i2l, 1) := by decide +kernel
theorem dX5_fraction_50 : decode cX5_fraction 50 = .ok (.lmul, 1) := by decide +kernel
theorem dX5_fraction_51 : decode cX5_fraction 51 = .ok (.ladd, 1) := by decide +kernel
theorem dX5_fraction_52 : decode cX5_fraction 52 = .ok (.ldc2_w 230, 3) := by decide +kernel
theorem dX5_fraction_55 : decode cX5_fraction 55 = .ok (.ldiv, 1) := by decide +kernel
theorem dX5_fraction_56 : decode cX5_fraction 56 = .ok (.lstore 4, 2) := by decide +kernel
theorem dX5_fraction_58 : decode cX5_fraction 58 = .ok (.iload_n 3, 1) := by decide +kernel
theorem dX5_fraction_59 : decode cX5_fraction 59 = .ok (.bipush 10, 2) := by decide +kernel
theorem dX5_fraction_61 : decode cX5_fraction 61 = .ok (.idiv, 1) := by decide +kernel
theorem dX5_fraction_62 : decode cX5_fraction 62 = .ok (.istore_n 3, 1) := by decide +kernel
theorem dX5_fraction_63 : decode cX5_fraction 63 = .ok (.iinc 6 1, 3) := by decide +kernel
theorem dX5_fraction_66 : decode cX5_fraction 66 = .ok (.goto (-32), 3) := by decide +kernel
theorem dX5_fraction_69 : decode cX5_fraction 69 = .ok (.iload_n 3, 1) := by decide +kernel
theorem dX5_fraction_70 : decode cX5_fraction 70 = .ok (.ifCond .eq 13, 3) := by decide +kernel
theorem dX5_fraction_73 : decode cX5_fraction 73 = .ok (.new 62, 3) := by decide +kernel
theorem dX5_fraction_76 : decode cX5_fraction 76 = .ok (.dup, 1) := by decide +kernel
theorem dX5_fraction_77 : decode cX5_fraction 77 = .ok (.ldc 232, 2) := by decide +kernel
theorem dX5_fraction_79 : decode cX5_fraction 79 = .ok (.invokespecial 66, 3) := by decide +kernel
theorem dX5_fraction_82 : decode cX5_fraction 82 = .ok (.athrow, 1) := by decide +kernel
theorem dX5_fraction_83 : decode cX5_fraction 83 = .ok (.lload 4, 2) := by decide +kernel
theorem dX5_fraction_85 : decode cX5_fraction 85 = .ok (.lconst 1, 1) := by decide +kernel
theorem dX5_fraction_86 : decode cX5_fraction 86 = .ok (.ladd, 1) := by decide +kernel
theorem dX5_fraction_87 : decode cX5_fraction 87 = .ok (.ldc2_w 184, 3) := by decide +kernel
theorem dX5_fraction_90 : decode cX5_fraction 90 = .ok (.ldiv, 1) := by decide +kernel
theorem dX5_fraction_91 : decode cX5_fraction 91 = .ok (.l2i, 1) := by decide +kernel
theorem dX5_fraction_92 : decode cX5_fraction 92 = .ok (.ireturn, 1) := by decide +kernel
theorem dX5_shown_0 : decode cX5_shown 0 = .ok (.iload_n 1, 1) := by decide +kernel
theorem dX5_shown_1 : decode cX5_shown 1 = .ok (.iconst 4, 1) := by decide +kernel
theorem dX5_shown_2 : decode cX5_shown 2 = .ok (.invokestatic 77, 3) := by decide +kernel
theorem dX5_shown_5 : decode cX5_shown 5 = .ok (.iload_n 2, 1) := by decide +kernel
theorem dX5_shown_6 : decode cX5_shown 6 = .ok (.i2l, 1) := by decide +kernel
theorem dX5_shown_7 : decode cX5_shown 7 = .ok (.invokestatic 87, 3) := by decide +kernel
theorem dX5_shown_10 : decode cX5_shown 10 = .ok (.aload_n 0, 1) := by decide +kernel
theorem dX5_shown_11 : decode cX5_shown 11 = .ok (.getfield 40, 3) := by decide +kernel
theorem dX5_shown_14 : decode cX5_shown 14 = .ok (.invokevirtual 234, 3) := by decide +kernel
theorem dX5_shown_17 : decode cX5_shown 17 = .ok (.aload_n 0, 1) := by decide +kernel
theorem dX5_shown_18 : decode cX5_shown 18 = .ok (.iload_n 1, 1) := by decide +kernel
theorem dX5_shown_19 : decode cX5_shown 19 = .ok (.iload_n 1, 1) := by decide +kernel
theorem dX5_shown_20 : decode cX5_shown 20 = .ok (.iload_n 2, 1) := by decide +kernel
theorem dX5_shown_21 : decode cX5_shown 21 = .ok (.invokestatic 102, 3) := by decide +kernel
theorem dX5_shown_24 : decode cX5_shown 24 = .ok (.invokevirtual 235, 3) := by decide +kernel
theorem dX5_shown_27 : decode cX5_shown 27 = .ok (.aload_n 0, 1) := by decide +kernel
theorem dX5_shown_28 : decode cX5_shown 28 = .ok (.getfield 40, 3) := by decide +kernel
theorem dX5_shown_31 : decode cX5_shown 31 = .ok (.iload_n 3, 1) := by decide +kernel
theorem dX5_shown_32 : decode cX5_shown 32 = .ok (.invokevirtual 238, 3) := by decide +kernel
theorem dX5_shown_35 : decode cX5_shown 35 = .ok (.ireturn, 1) := by decide +kernel
theorem dX5_told_0 : decode cX5_told 0 = .ok (.iload_n 1, 1) := by decide +kernel
theorem dX5_told_1 : decode cX5_told 1 = .ok (.ifCond .ne 11, 3) := by decide +kernel
theorem dX5_told_4 : decode cX5_told 4 = .ok (.aload_n 0, 1) := by decide +kernel
theorem dX5_told_5 : decode cX5_told 5 = .ok (.getfield 26, 3) := by decide +kernel
theorem dX5_told_8 : decode cX5_told 8 = .ok (.getfield 134, 3) := by decide +kernel
theorem dX5_told_11 : decode cX5_told 11 = .ok (.ireturn, 1) := by decide +kernel
theorem dX5_told_12 : decode cX5_told 12 = .ok (.iload_n 1, 1) := by decide +kernel
theorem dX5_told_13 : decode cX5_told 13 = .ok (.iconst 1, 1) := by decide +kernel
theorem dX5_told_14 : decode cX5_told 14 = .ok (.if_icmp .ne 11, 3) := by decide +kernel
theorem dX5_told_17 : decode cX5_told 17 = .ok (.aload_n 0, 1) := by decide +kernel
theorem dX5_told_18 : decode cX5_told 18 = .ok (.getfield 19, 3) := by decide +kernel
theorem dX5_told_21 : decode cX5_told 21 = .ok (.getfield 143, 3) := by decide +kernel
theorem dX5_told_24 : decode cX5_told 24 = .ok (.ireturn, 1) := by decide +kernel
theorem dX5_told_25 : decode cX5_told 25 = .ok (.iload_n 1, 1) := by decide +kernel
theorem dX5_told_26 : decode cX5_told 26 = .ok (.i2l, 1) := by decide +kernel
theorem dX5_told_27 : decode cX5_told 27 = .ok (.ldc2_w 230, 3) := by decide +kernel
theorem dX5_told_30 : decode cX5_told 30 = .ok (.ldc2_w 242, 3) := by decide +kernel
theorem dX5_told_33 : decode cX5_told 33 = .ok (.invokestatic 71, 3) := by decide +kernel
theorem dX5_told_36 : decode cX5_told 36 = .ok (.ifCond .ne 13, 3) := by decide +kernel
theorem dX5_told_39 : decode cX5_told 39 = .ok (.new 62, 3) := by decide +kernel
theorem dX5_told_42 : decode cX5_told 42 = .ok (.dup, 1) := by decide +kernel
theorem dX5_told_43 : decode cX5_told 43 = .ok (.ldc 244, 2) := by decide +kernel
theorem dX5_told_45 : decode cX5_told 45 = .ok (.invokespecial 66, 3) := by decide +kernel
theorem dX5_told_48 : decode cX5_told 48 = .ok (.athrow, 1) := by decide +kernel
theorem dX5_told_49 : decode cX5_told 49 = .ok (.iload_n 2, 1) := by decide +kernel
theorem dX5_told_50 : decode cX5_told 50 = .ok (.i2l, 1) := by decide +kernel
theorem dX5_told_51 : decode cX5_told 51 = .ok (.invokestatic 87, 3) := by decide +kernel
theorem dX5_told_54 : decode cX5_told 54 = .ok (.aload_n 0, 1) := by decide +kernel
theorem dX5_told_55 : decode cX5_told 55 = .ok (.getfield 10, 3) := by decide +kernel
theorem dX5_told_58 : decode cX5_told 58 = .ok (.getfield 246, 3) := by decide +kernel
theorem dX5_told_61 : decode cX5_told 61 = .ok (.iload_n 1, 1) := by decide +kernel
theorem dX5_told_62 : decode cX5_told 62 = .ok (.bipush 10, 2) := by decide +kernel
theorem dX5_told_64 : decode cX5_told 64 = .ok (.isub, 1) := by decide +kernel
theorem dX5_told_65 : decode cX5_told 65 = .ok (.iload_n 2, 1) := by decide +kernel
theorem dX5_told_66 : decode cX5_told 66 = .ok (.invokestatic 249, 3) := by decide +kernel
theorem dX5_told_69 : decode cX5_told 69 = .ok (.iaload, 1) := by decide +kernel
theorem dX5_told_70 : decode cX5_told 70 = .ok (.ireturn, 1) := by decide +kernel
theorem dX5_within_0 : decode cX5_within 0 = .ok (.lload_n 0, 1) := by decide +kernel
theorem dX5_within_1 : decode cX5_within 1 = .ok (.lload_n 2, 1) := by decide +kernel
theorem dX5_within_2 : decode cX5_within 2 = .ok (.lcmp, 1) := by decide +kernel
theorem dX5_within_3 : decode cX5_within 3 = .ok (.ifCond .lt 14, 3) := by decide +kernel
theorem dX5_within_6 : decode cX5_within 6 = .ok (.lload_n 0, 1) := by decide +kernel
theorem dX5_within_7 : decode cX5_within 7 = .ok (.lload 4, 2) := by decide +kernel
theorem dX5_within_9 : decode cX5_within 9 = .ok (.lcmp, 1) := by decide +kernel
theorem dX5_within_10 : decode cX5_within 10 = .ok (.ifCond .gt 7, 3) := by decide +kernel
theorem dX5_within_13 : decode cX5_within 13 = .ok (.iconst 1, 1) := by decide +kernel
theorem dX5_within_14 : decode cX5_within 14 = .ok (.goto 4, 3) := by decide +kernel
theorem dX5_within_17 : decode cX5_within 17 = .ok (.iconst 0, 1) := by decide +kernel
theorem dX5_within_18 : decode cX5_within 18 = .ok (.ireturn, 1) := by decide +kernel
theorem dX5_isCount_0 : decode cX5_isCount 0 = .ok (.lload_n 0, 1) := by decide +kernel
theorem dX5_isCount_1 : decode cX5_isCount 1 = .ok (.ldc2_w 252, 3) := by decide +kernel
theorem dX5_isCount_4 : decode cX5_isCount 4 = .ok (.ldc2_w 254, 3) := by decide +kernel
theorem dX5_isCount_7 : decode cX5_isCount 7 = .ok (.invokestatic 71, 3) := by decide +kernel
theorem dX5_isCount_10 : decode cX5_isCount 10 = .ok (.ireturn, 1) := by decide +kernel
theorem dX5_isLength_0 : decode cX5_isLength 0 = .ok (.lload_n 0, 1) := by decide +kernel
theorem dX5_isLength_1 : decode cX5_isLength 1 = .ok (.ldc2_w 256, 3) := by decide +kernel
theorem dX5_isLength_4 : decode cX5_isLength 4 = .ok (.ldc2_w 204, 3) := by decide +kernel
theorem dX5_isLength_7 : decode cX5_isLength 7 = .ok (.invokestatic 71, 3) := by decide +kernel
theorem dX5_isLength_10 : decode cX5_isLength 10 = .ok (.ireturn, 1) := by decide +kernel
theorem dX5_checkKind_0 : decode cX5_checkKind 0 = .ok (.iload_n 0, 1) := by decide +kernel
theorem dX5_checkKind_1 : decode cX5_checkKind 1 = .ok (.ifCond .lt 8, 3) := by decide +kernel
theorem dX5_checkKind_4 : decode cX5_checkKind 4 = .ok (.iload_n 0, 1) := by decide +kernel
theorem dX5_checkKind_5 : decode cX5_checkKind 5 = .ok (.iload_n 1, 1) := by decide +kernel
theorem dX5_checkKind_6 : decode cX5_checkKind 6 = .ok (.if_icmp .le 14, 3) := by decide +kernel
theorem dX5_checkKind_9 : decode cX5_checkKind 9 = .ok (.new 62, 3) := by decide +kernel
theorem dX5_checkKind_12 : decode cX5_checkKind 12 = .ok (.dup, 1) := by decide +kernel
theorem dX5_checkKind_13 : decode cX5_checkKind 13 = .ok (.ldc_w 258, 3) := by decide +kernel
theorem dX5_checkKind_16 : decode cX5_checkKind 16 = .ok (.invokespecial 66, 3) := by decide +kernel
theorem dX5_checkKind_19 : decode cX5_checkKind 19 = .ok (.athrow, 1) := by decide +kernel
theorem dX5_checkKind_20 : decode cX5_checkKind 20 = .ok (.return_, 1) := by decide +kernel
theorem dX5_checkRegister_0 : decode cX5_checkRegister 0 = .ok (.lload_n 0, 1) := by decide +kernel
theorem dX5_checkRegister_1 : decode cX5_checkRegister 1 = .ok (.lconst 0, 1) := by decide +kernel
theorem dX5_checkRegister_2 : decode cX5_checkRegister 2 = .ok (.ldc2_w 260, 3) := by decide +kernel
theorem dX5_checkRegister_5 : decode cX5_checkRegister 5 = .ok (.invokestatic 71, 3) := by decide +kernel
theorem dX5_checkRegister_8 : decode cX5_checkRegister 8 = .ok (.ifCond .ne 14, 3) := by decide +kernel
theorem dX5_checkRegister_11 : decode cX5_checkRegister 11 = .ok (.new 108, 3) := by decide +kernel
theorem dX5_checkRegister_14 : decode cX5_checkRegister 14 = .ok (.dup, 1) := by decide +kernel
theorem dX5_checkRegister_15 : decode cX5_checkRegister 15 = .ok (.ldc_w 262, 3) := by decide +kernel
theorem dX5_checkRegister_18 : decode cX5_checkRegister 18 = .ok (.invokespecial 112, 3) := by decide +kernel
theorem dX5_checkRegister_21 : decode cX5_checkRegister 21 = .ok (.athrow, 1) := by decide +kernel
theorem dX5_checkRegister_22 : decode cX5_checkRegister 22 = .ok (.return_, 1) := by decide +kernel
theorem dX5_checkToken_0 : decode cX5_checkToken 0 = .ok (.iload_n 0, 1) := by decide +kernel
theorem dX5_checkToken_1 : decode cX5_checkToken 1 = .ok (.i2l, 1) := by decide +kernel
theorem dX5_checkToken_2 : decode cX5_checkToken 2 = .ok (.lconst 0, 1) := by decide +kernel
theorem dX5_checkToken_3 : decode cX5_checkToken 3 = .ok (.ldc2_w 264, 3) := by decide +kernel
theorem dX5_checkToken_6 : decode cX5_checkToken 6 = .ok (.invokestatic 71, 3) := by decide +kernel
theorem dX5_checkToken_9 : decode cX5_checkToken 9 = .ok (.ifCond .ne 14, 3) := by decide +kernel
theorem dX5_checkToken_12 : decode cX5_checkToken 12 = .ok (.new 62, 3) := by decide +kernel
theorem dX5_checkToken_15 : decode cX5_checkToken 15 = .ok (.dup, 1) := by decide +kernel
theorem dX5_checkToken_16 : decode cX5_checkToken 16 = .ok (.ldc_w 266, 3) := by decide +kernel
theorem dX5_checkToken_19 : decode cX5_checkToken 19 = .ok (.invokespecial 66, 3) := by decide +kernel
theorem dX5_checkToken_22 : decode cX5_checkToken 22 = .ok (.athrow, 1) := by decide +kernel
theorem dX5_checkToken_23 : decode cX5_checkToken 23 = .ok (.return_, 1) := by decide +kernel
theorem dX5_makeGiven_0 : decode cX5_makeGiven 0 = .ok (.iload_n 1, 1) := by decide +kernel
theorem dX5_makeGiven_1 : decode cX5_makeGiven 1 = .ok (.iconst 2, 1) := by decide +kernel
theorem dX5_makeGiven_2 : decode cX5_makeGiven 2 = .ok (.if_icmp .ne 20, 3) := by decide +kernel
theorem dX5_makeGiven_5 : decode cX5_makeGiven 5 = .ok (.aload_n 0, 1) := by decide +kernel
theorem dX5_makeGiven_6 : decode cX5_makeGiven 6 = .ok (.getfield 44, 3) := by decide +kernel
theorem dX5_makeGiven_9 : decode cX5_makeGiven 9 = .ok (.iconst 0, 1) := by decide +kernel
theorem dX5_makeGiven_10 : decode cX5_makeGiven 10 = .ok (.aload_n 0, 1) := by decide +kernel
theorem dX5_makeGiven_11 : decode cX5_makeGiven 11 = .ok (.getfield 51, 3) := by decide +kernel
theorem dX5_makeGiven_14 : decode cX5_makeGiven 14 = .ok (.iconst 0, 1) := by decide +kernel
theorem dX5_makeGiven_15 : decode cX5_makeGiven 15 = .ok (.iconst 5, 1) := by decide +kernel
theorem dX5_makeGiven_16 : decode cX5_makeGiven 16 = .ok (.invokestatic 268, 3) := by decide +kernel
theorem dX5_makeGiven_19 : decode cX5_makeGiven 19 = .ok (.goto 33, 3) := by decide +kernel
theorem dX5_makeGiven_22 : decode cX5_makeGiven 22 = .ok (.iload_n 1, 1) := by decide +kernel
theorem dX5_makeGiven_23 : decode cX5_makeGiven 23 = .ok (.iconst 3, 1) := by decide +kernel
theorem dX5_makeGiven_24 : decode cX5_makeGiven 24 = .ok (.if_icmp .ne 21, 3) := by decide +kernel
theorem dX5_makeGiven_27 : decode cX5_makeGiven 27 = .ok (.aload_n 0, 1) := by decide +kernel
theorem dX5_makeGiven_28 : decode cX5_makeGiven 28 = .ok (.getfield 48, 3) := by decide +kernel
theorem dX5_makeGiven_31 : decode cX5_makeGiven 31 = .ok (.iconst 0, 1) := by decide +kernel
theorem dX5_makeGiven_32 : decode cX5_makeGiven 32 = .ok (.aload_n 0, 1) := by decide +kernel
theorem dX5_makeGiven_33 : decode cX5_makeGiven 33 = .ok (.getfield 51, 3) := by decide +kernel
theorem dX5_makeGiven_36 : decode cX5_makeGiven 36 = .ok (.iconst 0, 1) := by decide +kernel
theorem dX5_makeGiven_37 : decode cX5_makeGiven 37 = .ok (.bipush 21, 2) := by decide +kernel
theorem dX5_makeGiven_39 : decode cX5_makeGiven 39 = .ok (.invokestatic 268, 3) := by decide +kernel
theorem dX5_makeGiven_42 : decode cX5_makeGiven 42 = .ok (.goto 10, 3) := by decide +kernel
theorem dX5_makeGiven_45 : decode cX5_makeGiven 45 = .ok (.aload_n 0, 1) := by decide +kernel
theorem dX5_makeGiven_46 : decode cX5_makeGiven 46 = .ok (.getfield 51, 3) := by decide +kernel
theorem dX5_makeGiven_49 : decode cX5_makeGiven 49 = .ok (.iconst 0, 1) := by decide +kernel
theorem dX5_makeGiven_50 : decode cX5_makeGiven 50 = .ok (.lload_n 2, 1) := by decide +kernel
theorem dX5_makeGiven_51 : decode cX5_makeGiven 51 = .ok (.lastore, 1) := by decide +kernel
theorem dX5_makeGiven_52 : decode cX5_makeGiven 52 = .ok (.return_, 1) := by decide +kernel
theorem dX5_madeFits_0 : decode cX5_madeFits 0 = .ok (.iload_n 1, 1) := by decide +kernel
theorem dX5_madeFits_1 : decode cX5_madeFits 1 = .ok (.ifCond .ne 13, 3) := by decide +kernel
theorem dX5_madeFits_4 : decode cX5_madeFits 4 = .ok (.aload_n 0, 1) := by decide +kernel
theorem dX5_madeFits_5 : decode cX5_madeFits 5 = .ok (.getfield 51, 3) := by decide +kernel
theorem dX5_madeFits_8 : decode cX5_madeFits 8 = .ok (.iconst 0, 1) := by decide +kernel
theorem dX5_madeFits_9 : decode cX5_madeFits 9 = .ok (.laload, 1) := by decide +kernel
theorem dX5_madeFits_10 : decode cX5_madeFits 10 = .ok (.invokestatic 126, 3) := by decide +kernel
theorem dX5_madeFits_13 : decode cX5_madeFits 13 = .ok (.ireturn, 1) := by decide +kernel
theorem dX5_madeFits_14 : decode cX5_madeFits 14 = .ok (.iload_n 1, 1) := by decide +kernel
theorem dX5_madeFits_15 : decode cX5_madeFits 15 = .ok (.iconst 1, 1) := by decide +kernel
theorem dX5_madeFits_16 : decode cX5_madeFits 16 = .ok (.if_icmp .ne 13, 3) := by decide +kernel
theorem dX5_madeFits_19 : decode cX5_madeFits 19 = .ok (.aload_n 0, 1) := by decide +kernel
theorem dX5_madeFits_20 : decode cX5_madeFits 20 = .ok (.getfield 51, 3) := by decide +kernel
theorem dX5_madeFits_23 : decode cX5_madeFits 23 = .ok (.iconst 0, 1) := by decide +kernel
theorem dX5_madeFits_24 : decode cX5_madeFits 24 = .ok (.laload, 1) := by decide +kernel
theorem dX5_madeFits_25 : decode cX5_madeFits 25 = .ok (.invokestatic 58, 3) := by decide +kernel
theorem dX5_madeFits_28 : decode cX5_madeFits 28 = .ok (.ireturn, 1) := by decide +kernel
theorem dX5_madeFits_29 : decode cX5_madeFits 29 = .ok (.iload_n 1, 1) := by decide +kernel
theorem dX5_madeFits_30 : decode cX5_madeFits 30 = .ok (.iconst 2, 1) := by decide +kernel
theorem dX5_madeFits_31 : decode cX5_madeFits 31 = .ok (.if_icmp .ne 39, 3) := by decide +kernel
theorem dX5_madeFits_34 : decode cX5_madeFits 34 = .ok (.aload_n 0, 1) := by decide +kernel
theorem dX5_madeFits_35 : decode cX5_madeFits 35 = .ok (.getfield 51, 3) := by decide +kernel
theorem dX5_madeFits_38 : decode cX5_madeFits 38 = .ok (.iconst 0, 1) := by decide +kernel
theorem dX5_madeFits_39 : decode cX5_madeFits 39 = .ok (.laload, 1) := by decide +kernel
theorem dX5_madeFits_40 : decode cX5_madeFits 40 = .ok (.invokestatic 58, 3) := by decide +kernel
theorem dX5_madeFits_43 : decode cX5_madeFits 43 = .ok (.ifCond .eq 31, 3) := by decide +kernel
theorem dX5_madeFits_46 : decode cX5_madeFits 46 = .ok (.aload_n 0, 1) := by decide +kernel
theorem dX5_madeFits_47 : decode cX5_madeFits 47 = .ok (.getfield 51, 3) := by decide +kernel
theorem dX5_madeFits_50 : decode cX5_madeFits 50 = .ok (.iconst 1, 1) := by decide +kernel
theorem dX5_madeFits_51 : decode cX5_madeFits 51 = .ok (.laload, 1) := by decide +kernel
theorem dX5_madeFits_52 : decode cX5_madeFits 52 = .ok (.invokestatic 58, 3) := by decide +kernel
theorem dX5_madeFits_55 : decode cX5_madeFits 55 = .ok (.ifCond .eq 19, 3) := by decide +kernel
theorem dX5_madeFits_58 : decode cX5_madeFits 58 = .ok (.aload_n 0, 1) := by decide +kernel
theorem dX5_madeFits_59 : decode cX5_madeFits 59 = .ok (.getfield 51, 3) := by decide +kernel
theorem dX5_madeFits_62 : decode cX5_madeFits 62 = .ok (.iconst 3, 1) := by decide +kernel
theorem dX5_madeFits_63 : decode cX5_madeFits 63 = .ok (.laload, 1) := by decide +kernel
theorem dX5_madeFits_64 : decode cX5_madeFits 64 = .ok (.invokestatic 58, 3) := by decide +kernel
theorem dX5_madeFits_67 : decode cX5_madeFits 67 = .ok (.ifCond .eq 7, 3) := by decide +kernel
theorem dX5_madeFits_70 : decode cX5_madeFits 70 = .ok (.iconst 1, 1) := by decide +kernel
theorem dX5_madeFits_71 : decode cX5_madeFits 71 = .ok (.goto 4, 3) := by decide +kernel
theorem dX5_madeFits_74 : decode cX5_madeFits 74 = .ok (.iconst 0, 1) := by decide +kernel
theorem dX5_madeFits_75 : decode cX5_madeFits 75 = .ok (.ireturn, 1) := by decide +kernel
theorem dX5_putMade_0 : decode cX5_putMade 0 = .ok (.aload_n 0, 1) := by decide +kernel
theorem dX5_putMade_1 : decode cX5_putMade 1 = .ok (.iload_n 1, 1) := by decide +kernel
theorem dX5_putMade_2 : decode cX5_putMade 2 = .ok (.invokevirtual 274, 3) := by decide +kernel
theorem dX5_putMade_5 : decode cX5_putMade 5 = .ok (.ifCond .ne 5, 3) := by decide +kernel
theorem dX5_putMade_8 : decode cX5_putMade 8 = .ok (.iconst 0, 1) := by decide +kernel
theorem dX5_putMade_9 : decode cX5_putMade 9 = .ok (.ireturn, 1) := by decide +kernel
theorem dX5_putMade_10 : decode cX5_putMade 10 = .ok (.iload_n 1, 1) := by decide +kernel
theorem dX5_putMade_11 : decode cX5_putMade 11 = .ok (.iload_n 2, 1) := by decide +kernel
theorem dX5_putMade_12 : decode cX5_putMade 12 = .ok (.invokestatic 249, 3) := by decide +kernel
theorem dX5_putMade_15 : decode cX5_putMade 15 = .ok (.istore 4, 2) := by decide +kernel
theorem dX5_putMade_17 : decode cX5_putMade 17 = .ok (.iload_n 3, 1) := by decide +kernel
theorem dX5_putMade_18 : decode cX5_putMade 18 = .ok (.ifCond .ne 70, 3) := by decide +kernel
theorem dX5_putMade_21 : decode cX5_putMade 21 = .ok (.aload_n 0, 1) := by decide +kernel
theorem dX5_putMade_22 : decode cX5_putMade 22 = .ok (.getfield 10, 3) := by decide +kernel
theorem dX5_putMade_25 : decode cX5_putMade 25 = .ok (.getfield 246, 3) := by decide +kernel
theorem dX5_putMade_28 : decode cX5_putMade 28 = .ok (.iload 4, 2) := by decide +kernel
theorem dX5_putMade_30 : decode cX5_putMade 30 = .ok (.iaload, 1) := by decide +kernel
theorem dX5_putMade_31 : decode cX5_putMade 31 = .ok (.aload_n 0, 1) := by decide +kernel
theorem dX5_putMade_32 : decode cX5_putMade 32 = .ok (.getfield 26, 3) := by decide +kernel
theorem dX5_putMade_35 : decode cX5_putMade 35 = .ok (.getfield 134, 3) := by decide +kernel
theorem dX5_putMade_38 : decode cX5_putMade 38 = .ok (.if_icmp .ge 50, 3) := by decide +kernel
theorem dX5_putMade_41 : decode cX5_putMade 41 = .ok (.aload_n 0, 1) := by decide +kernel
theorem dX5_putMade_42 : decode cX5_putMade 42 = .ok (.getfield 19, 3) := by decide +kernel
theorem dX5_putMade_45 : decode cX5_putMade 45 = .ok (.getfield 143, 3) := by decide +kernel
theorem dX5_putMade_48 : decode cX5_putMade 48 = .ok (.ifCond .lt 16, 3) := by decide +kernel
theorem dX5_putMade_51 : decode cX5_putMade 51 = .ok (.aload_n 0, 1) := by decide +kernel
theorem dX5_putMade_52 : decode cX5_putMade 52 = .ok (.getfield 19, 3) := by decide +kernel
theorem dX5_putMade_55 : decode cX5_putMade 55 = .ok (.getfield 143, 3) := by decide +kernel
theorem dX5_putMade_58 : decode cX5_putMade 58 = .ok (.sipush 200, 3) := by decide +kernel
theorem dX5_putMade_61 : decode cX5_putMade 61 = .ok (.if_icmp .lt 14, 3) := by decide +kernel
theorem dX5_putMade_64 : decode cX5_putMade 64 = .ok (.new 138, 3) := by decide +kernel
theorem dX5_putMade_67 : decode cX5_putMade 67 = .ok (.dup, 1) := by decide +kernel
theorem dX5_putMade_68 : decode cX5_putMade 68 = .ok (.ldc_w 278, 3) := by decide +kernel
theorem dX5_putMade_71 : decode cX5_putMade 71 = .ok (.invokespecial 142, 3) := by decide +kernel
theorem dX5_putMade_74 : decode cX5_putMade 74 = .ok (.athrow, 1) := by decide +kernel
theorem dX5_putMade_75 : decode cX5_putMade 75 = .ok (.aload_n 0, 1) := by decide +kernel
theorem dX5_putMade_76 : decode cX5_putMade 76 = .ok (.getfield 19, 3) := by decide +kernel
theorem dX5_putMade_79 : decode cX5_putMade 79 = .ok (.aload_n 0, 1) := by decide +kernel
theorem dX5_putMade_80 : decode cX5_putMade 80 = .ok (.getfield 10, 3) := by decide +kernel
theorem dX5_putMade_83 : decode cX5_putMade 83 = .ok (.iload_n 1, 1) := by decide +kernel
theorem dX5_putMade_84 : decode cX5_putMade 84 = .ok (.iload_n 2, 1) := by decide +kernel
theorem dX5_putMade_85 : decode cX5_putMade 85 = .ok (.invokevirtual 280, 3) := by decide +kernel
theorem dX5_putMade_88 : decode cX5_putMade 88 = .ok (.aload_n 0, 1) := by decide +kernel
theorem dX5_putMade_89 : decode cX5_putMade 89 = .ok (.getfield 10, 3) := by decide +kernel
theorem dX5_putMade_92 : decode cX5_putMade 92 = .ok (.aload_n 0, 1) := by decide +kernel
theorem dX5_putMade_93 : decode cX5_putMade 93 = .ok (.getfield 51, 3) := by decide +kernel
theorem dX5_putMade_96 : decode cX5_putMade 96 = .ok (.iconst 0, 1) := by decide +kernel
theorem dX5_putMade_97 : decode cX5_putMade 97 = .ok (.iload_n 1, 1) := by decide +kernel
theorem dX5_putMade_98 : decode cX5_putMade 98 = .ok (.iload_n 2, 1) := by decide +kernel
theorem dX5_putMade_99 : decode cX5_putMade 99 = .ok (.invokevirtual 284, 3) := by decide +kernel
theorem dX5_putMade_102 : decode cX5_putMade 102 = .ok (.aload_n 0, 1) := by decide +kernel
theorem dX5_putMade_103 : decode cX5_putMade 103 = .ok (.getfield 10, 3) := by decide +kernel
theorem dX5_putMade_106 : decode cX5_putMade 106 = .ok (.getfield 246, 3) := by decide +kernel
theorem dX5_putMade_109 : decode cX5_putMade 109 = .ok (.iload 4, 2) := by decide +kernel
theorem dX5_putMade_111 : decode cX5_putMade 111 = .ok (.iload_n 3, 1) := by decide +kernel
theorem dX5_putMade_112 : decode cX5_putMade 112 = .ok (.ifCond .eq 7, 3) := by decide +kernel
theorem dX5_putMade_115 : decode cX5_putMade 115 = .ok (.iconst 0, 1) := by decide +kernel
theorem dX5_putMade_116 : decode cX5_putMade 116 = .ok (.goto 10, 3) := by decide +kernel
theorem dX5_putMade_119 : decode cX5_putMade 119 = .ok (.aload_n 0, 1) := by decide +kernel
theorem dX5_putMade_120 : decode cX5_putMade 120 = .ok (.getfield 26, 3) := by decide +kernel
theorem dX5_putMade_123 : decode cX5_putMade 123 = .ok (.getfield 134, 3) := by decide +kernel
theorem dX5_putMade_126 : decode cX5_putMade 126 = .ok (.iastore, 1) := by decide +kernel
theorem dX5_putMade_127 : decode cX5_putMade 127 = .ok (.iconst 1, 1) := by decide +kernel
theorem dX5_putMade_128 : decode cX5_putMade 128 = .ok (.ireturn, 1) := by decide +kernel
theorem dX5_addGlue_0 : decode cX5_addGlue 0 = .ok (.aload_n 0, 1) := by decide +kernel
theorem dX5_addGlue_1 : decode cX5_addGlue 1 = .ok (.getfield 51, 3) := by decide +kernel
theorem dX5_addGlue_4 : decode cX5_addGlue 4 = .ok (.iconst 0, 1) := by decide +kernel
theorem dX5_addGlue_5 : decode cX5_addGlue 5 = .ok (.dup2, 1) := by decide +kernel
theorem dX5_addGlue_6 : decode cX5_addGlue 6 = .ok (.laload, 1) := by decide +kernel
theorem dX5_addGlue_7 : decode cX5_addGlue 7 = .ok (.aload_n 0, 1) := by decide +kernel
theorem dX5_addGlue_8 : decode cX5_addGlue 8 = .ok (.getfield 10, 3) := by decide +kernel
theorem dX5_addGlue_11 : decode cX5_addGlue 11 = .ok (.getfield 99, 3) := by decide +kernel
theorem dX5_addGlue_14 : decode cX5_addGlue 14 = .ok (.iload_n 1, 1) := by decide +kernel
theorem dX5_addGlue_15 : decode cX5_addGlue 15 = .ok (.laload, 1) := by decide +kernel
theorem dX5_addGlue_16 : decode cX5_addGlue 16 = .ok (.ladd, 1) := by decide +kernel
theorem dX5_addGlue_17 : decode cX5_addGlue 17 = .ok (.lastore, 1) := by decide +kernel
theorem dX5_addGlue_18 : decode cX5_addGlue 18 = .ok (.aload_n 0, 1) := by decide +kernel
theorem dX5_addGlue_19 : decode cX5_addGlue 19 = .ok (.iconst 1, 1) := by decide +kernel
theorem dX5_addGlue_20 : decode cX5_addGlue 20 = .ok (.aload_n 0, 1) := by decide +kernel
theorem dX5_addGlue_21 : decode cX5_addGlue 21 = .ok (.getfield 10, 3) := by decide +kernel
theorem dX5_addGlue_24 : decode cX5_addGlue 24 = .ok (.getfield 99, 3) := by decide +kernel
theorem dX5_addGlue_27 : decode cX5_addGlue 27 = .ok (.iload_n 1, 1) := by decide +kernel
theorem dX5_addGlue_28 : decode cX5_addGlue 28 = .ok (.iconst 1, 1) := by decide +kernel
theorem dX5_addGlue_29 : decode cX5_addGlue 29 = .ok (.iadd, 1) := by decide +kernel
theorem dX5_addGlue_30 : decode cX5_addGlue 30 = .ok (.laload, 1) := by decide +kernel
theorem dX5_addGlue_31 : decode cX5_addGlue 31 = .ok (.aload_n 0, 1) := by decide +kernel
theorem dX5_addGlue_32 : decode cX5_addGlue 32 = .ok (.getfield 10, 3) := by decide +kernel
theorem dX5_addGlue_35 : decode cX5_addGlue 35 = .ok (.getfield 99, 3) := by decide +kernel
theorem dX5_addGlue_38 : decode cX5_addGlue 38 = .ok (.iload_n 1, 1) := by decide +kernel
theorem dX5_addGlue_39 : decode cX5_addGlue 39 = .ok (.iconst 1, 1) := by decide +kernel
theorem dX5_addGlue_40 : decode cX5_addGlue 40 = .ok (.iadd, 1) := by decide +kernel
theorem dX5_addGlue_41 : decode cX5_addGlue 41 = .ok (.iconst 1, 1) := by decide +kernel
theorem dX5_addGlue_42 : decode cX5_addGlue 42 = .ok (.iadd, 1) := by decide +kernel
theorem dX5_addGlue_43 : decode cX5_addGlue 43 = .ok (.laload, 1) := by decide +kernel
theorem dX5_addGlue_44 : decode cX5_addGlue 44 = .ok (.invokevirtual 288, 3) := by decide +kernel
theorem dX5_addGlue_47 : decode cX5_addGlue 47 = .ok (.aload_n 0, 1) := by decide +kernel
theorem dX5_addGlue_48 : decode cX5_addGlue 48 = .ok (.iconst 3, 1) := by decide +kernel
theorem dX5_addGlue_49 : decode cX5_addGlue 49 = .ok (.aload_n 0, 1) := by decide +kernel
theorem dX5_addGlue_50 : decode cX5_addGlue 50 = .ok (.getfield 10, 3) := by decide +kernel
theorem dX5_addGlue_53 : decode cX5_addGlue 53 = .ok (.getfield 99, 3) := by decide +kernel
theorem dX5_addGlue_56 : decode cX5_addGlue 56 = .ok (.iload_n 1, 1) := by decide +kernel
theorem dX5_addGlue_57 : decode cX5_addGlue 57 = .ok (.iconst 3, 1) := by decide +kernel
theorem dX5_addGlue_58 : decode cX5_addGlue 58 = .ok (.iadd, 1) := by decide +kernel
theorem dX5_addGlue_59 : decode cX5_addGlue 59 = .ok (.laload, 1) := by decide +kernel
theorem dX5_addGlue_60 : decode cX5_addGlue 60 = .ok (.aload_n 0, 1) := by decide +kernel
theorem dX5_addGlue_61 : decode cX5_addGlue 61 = .ok (.getfield 10, 3) := by decide +kernel
theorem dX5_addGlue_64 : decode cX5_addGlue 64 = .ok (.getfield 99, 3) := by decide +kernel
theorem dX5_addGlue_67 : decode cX5_addGlue 67 = .ok (.iload_n 1, 1) := by decide +kernel
theorem dX5_addGlue_68 : decode cX5_addGlue 68 = .ok (.iconst 3, 1) := by decide +kernel
theorem dX5_addGlue_69 : decode cX5_addGlue 69 = .ok (.iadd, 1) := by decide +kernel
theorem dX5_addGlue_70 : decode cX5_addGlue 70 = .ok (.iconst 1, 1) := by decide +kernel
theorem dX5_addGlue_71 : decode cX5_addGlue 71 = .ok (.iadd, 1) := by decide +kernel
theorem dX5_addGlue_72 : decode cX5_addGlue 72 = .ok (.laload, 1) := by decide +kernel
theorem dX5_addGlue_73 : decode cX5_addGlue 73 = .ok (.invokevirtual 288, 3) := by decide +kernel
theorem dX5_addGlue_76 : decode cX5_addGlue 76 = .ok (.return_, 1) := by decide +kernel
theorem dX5_addFlexible_0 : decode cX5_addFlexible 0 = .ok (.aload_n 0, 1) := by decide +kernel
theorem dX5_addFlexible_1 : decode cX5_addFlexible 1 = .ok (.getfield 51, 3) := by decide +kernel
theorem dX5_addFlexible_4 : decode cX5_addFlexible 4 = .ok (.iload_n 1, 1) := by decide +kernel
theorem dX5_addFlexible_5 : decode cX5_addFlexible 5 = .ok (.laload, 1) := by decide +kernel
theorem dX5_addFlexible_6 : decode cX5_addFlexible 6 = .ok (.lconst 0, 1) := by decide +kernel
theorem dX5_addFlexible_7 : decode cX5_addFlexible 7 = .ok (.lcmp, 1) := by decide +kernel
theorem dX5_addFlexible_8 : decode cX5_addFlexible 8 = .ok (.ifCond .ne 7, 3) := by decide +kernel
theorem dX5_addFlexible_11 : decode cX5_addFlexible 11 = .ok (.lconst 0, 1) := by decide +kernel
theorem dX5_addFlexible_12 : decode cX5_addFlexible 12 = .ok (.goto 11, 3) := by decide +kernel
theorem dX5_addFlexible_15 : decode cX5_addFlexible 15 = .ok (.aload_n 0, 1) := by decide +kernel
theorem dX5_addFlexible_16 : decode cX5_addFlexible 16 = .ok (.getfield 51, 3) := by decide +kernel
theorem dX5_addFlexible_19 : decode cX5_addFlexible 19 = .ok (.iload_n 1, 1) := by decide +kernel
theorem dX5_addFlexible_20 : decode cX5_addFlexible 20 = .ok (.iconst 1, 1) := by decide +kernel
theorem dX5_addFlexible_21 : decode cX5_addFlexible 21 = .ok (.iadd, 1) := by decide +kernel
theorem dX5_addFlexible_22 : decode cX5_addFlexible 22 = .ok (.laload, 1) := by decide +kernel
theorem dX5_addFlexible_23 : decode cX5_addFlexible 23 = .ok (.lstore 6, 2) := by decide +kernel
theorem dX5_addFlexible_25 : decode cX5_addFlexible 25 = .ok (.lload 4, 2) := by decide +kernel
theorem dX5_addFlexible_27 : decode cX5_addFlexible 27 = .ok (.lload 6, 2) := by decide +kernel
theorem dX5_addFlexible_29 : decode cX5_addFlexible 29 = .ok (.lcmp, 1) := by decide +kernel
theorem dX5_addFlexible_30 : decode cX5_addFlexible 30 = .ok (.ifCond .ne 26, 3) := by decide +kernel
theorem dX5_addFlexible_33 : decode cX5_addFlexible 33 = .ok (.aload_n 0, 1) := by decide +kernel
theorem dX5_addFlexible_34 : decode cX5_addFlexible 34 = .ok (.getfield 51, 3) := by decide +kernel
theorem dX5_addFlexible_37 : decode cX5_addFlexible 37 = .ok (.iload_n 1, 1) := by decide +kernel
theorem dX5_addFlexible_38 : decode cX5_addFlexible 38 = .ok (.dup2, 1) := by decide +kernel
theorem dX5_addFlexible_39 : decode cX5_addFlexible 39 = .ok (.laload, 1) := by decide +kernel
theorem dX5_addFlexible_40 : decode cX5_addFlexible 40 = .ok (.lload_n 2, 1) := by decide +kernel
theorem dX5_addFlexible_41 : decode cX5_addFlexible 41 = .ok (.ladd, 1) := by decide +kernel
theorem dX5_addFlexible_42 : decode cX5_addFlexible 42 = .ok (.lastore, 1) := by decide +kernel
theorem dX5_addFlexible_43 : decode cX5_addFlexible 43 = .ok (.aload_n 0, 1) := by decide +kernel
theorem dX5_addFlexible_44 : decode cX5_addFlexible 44 = .ok (.getfield 51, 3) := by decide +kernel
theorem dX5_addFlexible_47 : decode cX5_addFlexible 47 = .ok (.iload_n 1, 1) := by decide +kernel
theorem dX5_addFlexible_48 : decode cX5_addFlexible 48 = .ok (.iconst 1, 1) := by decide +kernel
theorem dX5_addFlexible_49 : decode cX5_addFlexible 49 = .ok (.iadd, 1) := by decide +kernel
theorem dX5_addFlexible_50 : decode cX5_addFlexible 50 = .ok (.lload 6, 2) := by decide +kernel
theorem dX5_addFlexible_52 : decode cX5_addFlexible 52 = .ok (.lastore, 1) := by decide +kernel
theorem dX5_addFlexible_53 : decode cX5_addFlexible 53 = .ok (.goto 34, 3) := by decide +kernel
theorem dX5_addFlexible_56 : decode cX5_addFlexible 56 = .ok (.lload 4, 2) := by decide +kernel
theorem dX5_addFlexible_58 : decode cX5_addFlexible 58 = .ok (.lload 6, 2) := by decide +kernel
theorem dX5_addFlexible_60 : decode cX5_addFlexible 60 = .ok (.lcmp, 1) := by decide +kernel
theorem dX5_addFlexible_61 : decode cX5_addFlexible 61 = .ok (.ifCond .le 26, 3) := by decide +kernel
theorem dX5_addFlexible_64 : decode cX5_addFlexible 64 = .ok (.lload_n 2, 1) := by decide +kernel
theorem dX5_addFlexible_65 : decode cX5_addFlexible 65 = .ok (.lconst 0, 1) := by decide +kernel
theorem dX5_addFlexible_66 : decode cX5_addFlexible 66 = .ok (.lcmp, 1) := by decide +kernel
theorem dX5_addFlexible_67 : decode cX5_addFlexible 67 = .ok (.ifCond .eq 20, 3) := by decide +kernel
theorem dX5_addFlexible_70 : decode cX5_addFlexible 70 = .ok (.aload_n 0, 1) := by decide +kernel
theorem dX5_addFlexible_71 : decode cX5_addFlexible 71 = .ok (.getfield 51, 3) := by decide +kernel
theorem dX5_addFlexible_74 : decode cX5_addFlexible 74 = .ok (.iload_n 1, 1) := by decide +kernel
theorem dX5_addFlexible_75 : decode cX5_addFlexible 75 = .ok (.lload_n 2, 1) := by decide +kernel
theorem dX5_addFlexible_76 : decode cX5_addFlexible 76 = .ok (.lastore, 1) := by decide +kernel
theorem dX5_addFlexible_77 : decode cX5_addFlexible 77 = .ok (.aload_n 0, 1) := by decide +kernel
theorem dX5_addFlexible_78 : decode cX5_addFlexible 78 = .ok (.getfield 51, 3) := by decide +kernel
theorem dX5_addFlexible_81 : decode cX5_addFlexible 81 = .ok (.iload_n 1, 1) := by decide +kernel
theorem dX5_addFlexible_82 : decode cX5_addFlexible 82 = .ok (.iconst 1, 1) := by decide +kernel
theorem dX5_addFlexible_83 : decode cX5_addFlexible 83 = .ok (.iadd, 1) := by decide +kernel
theorem dX5_addFlexible_84 : decode cX5_addFlexible 84 = .ok (.lload 4, 2) := by decide +kernel
theorem dX5_addFlexible_86 : decode cX5_addFlexible 86 = .ok (.lastore, 1) := by decide +kernel
theorem dX5_addFlexible_87 : decode cX5_addFlexible 87 = .ok (.return_, 1) := by decide +kernel
theorem dX5_giveBackKept_0 : decode cX5_giveBackKept 0 = .ok (.aload_n 0, 1) := by decide +kernel
theorem dX5_giveBackKept_1 : decode cX5_giveBackKept 1 = .ok (.getfield 19, 3) := by decide +kernel
theorem dX5_giveBackKept_4 : decode cX5_giveBackKept 4 = .ok (.getfield 143, 3) := by decide +kernel
theorem dX5_giveBackKept_7 : decode cX5_giveBackKept 7 = .ok (.iconst 1, 1) := by decide +kernel
theorem dX5_giveBackKept_8 : decode cX5_giveBackKept 8 = .ok (.isub, 1) := by decide +kernel
theorem dX5_giveBackKept_9 : decode cX5_giveBackKept 9 = .ok (.istore_n 2, 1) := by decide +kernel
theorem dX5_giveBackKept_10 : decode cX5_giveBackKept 10 = .ok (.iload_n 2, 1) := by decide +kernel
theorem dX5_giveBackKept_11 : decode cX5_giveBackKept 11 = .ok (.iload_n 1, 1) := by decide +kernel
theorem dX5_giveBackKept_12 : decode cX5_giveBackKept 12 = .ok (.if_icmp .lt 154, 3) := by decide +kernel
theorem dX5_giveBackKept_15 : decode cX5_giveBackKept 15 = .ok (.iload_n 2, 1) := by decide +kernel
theorem dX5_giveBackKept_16 : decode cX5_giveBackKept 16 = .ok (.ifCond .lt 150, 3) := by decide +kernel
theorem dX5_giveBackKept_19 : decode cX5_giveBackKept 19 = .ok (.iload_n 2, 1) := by decide +kernel
theorem dX5_giveBackKept_20 : decode cX5_giveBackKept 20 = .ok (.sipush 200, 3) := by decide +kernel
theorem dX5_giveBackKept_23 : decode cX5_giveBackKept 23 = .ok (.if_icmp .ge 143, 3) := by decide +kernel
theorem dX5_giveBackKept_26 : decode cX5_giveBackKept 26 = .ok (.aload_n 0, 1) := by decide +kernel
theorem dX5_giveBackKept_27 : decode cX5_giveBackKept 27 = .ok (.getfield 19, 3) := by decide +kernel
theorem dX5_giveBackKept_30 : decode cX5_giveBackKept 30 = .ok (.getfield 292, 3) := by decide +kernel
theorem dX5_giveBackKept_33 : decode cX5_giveBackKept 33 = .ok (.iload_n 2, 1) := by decide +kernel
theorem dX5_giveBackKept_34 : decode cX5_giveBackKept 34 = .ok (.iaload, 1) := by decide +kernel
theorem dX5_giveBackKept_35 : decode cX5_giveBackKept 35 = .ok (.istore_n 3, 1) := by decide +kernel
theorem dX5_giveBackKept_36 : decode cX5_giveBackKept 36 = .ok (.aload_n 0, 1) := by decide +kernel
theorem dX5_giveBackKept_37 : decode cX5_giveBackKept 37 = .ok (.getfield 19, 3) := by decide +kernel
theorem dX5_giveBackKept_40 : decode cX5_giveBackKept 40 = .ok (.getfield 293, 3) := by decide +kernel
theorem dX5_giveBackKept_43 : decode cX5_giveBackKept 43 = .ok (.iload_n 2, 1) := by decide +kernel
theorem dX5_giveBackKept_44 : decode cX5_giveBackKept 44 = .ok (.iaload, 1) := by decide +kernel
theorem dX5_giveBackKept_45 : decode cX5_giveBackKept 45 = .ok (.istore 4, 2) := by decide +kernel
theorem dX5_giveBackKept_47 : decode cX5_giveBackKept 47 = .ok (.iload_n 3, 1) := by decide +kernel
theorem dX5_giveBackKept_48 : decode cX5_giveBackKept 48 = .ok (.i2l, 1) := by decide +kernel
theorem dX5_giveBackKept_49 : decode cX5_giveBackKept 49 = .ok (.lconst 0, 1) := by decide +kernel
theorem dX5_giveBackKept_50 : decode cX5_giveBackKept 50 = .ok (.ldc2_w 106, 3) := by decide +kernel
theorem dX5_giveBackKept_53 : decode cX5_giveBackKept 53 = .ok (.invokestatic 71, 3) := by decide +kernel
theorem dX5_giveBackKept_56 : decode cX5_giveBackKept 56 = .ok (.ifCond .eq 104, 3) := by decide +kernel
theorem dX5_giveBackKept_59 : decode cX5_giveBackKept 59 = .ok (.iload 4, 2) := by decide +kernel
theorem dX5_giveBackKept_61 : decode cX5_giveBackKept 61 = .ok (.i2l, 1) := by decide +kernel
theorem dX5_giveBackKept_62 : decode cX5_giveBackKept 62 = .ok (.lconst 0, 1) := by decide +kernel
theorem dX5_giveBackKept_63 : decode cX5_giveBackKept 63 = .ok (.ldc2_w 260, 3) := by decide +kernel
theorem dX5_giveBackKept_66 : decode cX5_giveBackKept 66 = .ok (.invokestatic 71, 3) := by decide +kernel
theorem dX5_giveBackKept_69 : decode cX5_giveBackKept 69 = .ok (.ifCond .ne 6, 3) := by decide +kernel
theorem dX5_giveBackKept_72 : decode cX5_giveBackKept 72 = .ok (.goto 88, 3) := by decide +kernel
theorem dX5_giveBackKept_75 : decode cX5_giveBackKept 75 = .ok (.iload_n 3, 1) := by decide +kernel
theorem dX5_giveBackKept_76 : decode cX5_giveBackKept 76 = .ok (.iload 4, 2) := by decide +kernel
theorem dX5_giveBackKept_78 : decode cX5_giveBackKept 78 = .ok (.invokestatic 249, 3) := by decide +kernel
theorem dX5_giveBackKept_81 : decode cX5_giveBackKept 81 = .ok (.istore 5, 2) := by decide +kernel
theorem dX5_giveBackKept_83 : decode cX5_giveBackKept 83 = .ok (.aload_n 0, 1) := by decide +kernel
theorem dX5_giveBackKept_84 : decode cX5_giveBackKept 84 = .ok (.getfield 10, 3) := by decide +kernel
theorem dX5_giveBackKept_87 : decode cX5_giveBackKept 87 = .ok (.getfield 246, 3) := by decide +kernel
theorem dX5_giveBackKept_90 : decode cX5_giveBackKept 90 = .ok (.iload 5, 2) := by decide +kernel
theorem dX5_giveBackKept_92 : decode cX5_giveBackKept 92 = .ok (.iaload, 1) := by decide +kernel
theorem dX5_giveBackKept_93 : decode cX5_giveBackKept 93 = .ok (.ifCond .eq 7, 3) := by decide +kernel
theorem dX5_giveBackKept_96 : decode cX5_giveBackKept 96 = .ok (.iconst 1, 1) := by decide +kernel
theorem dX5_giveBackKept_97 : decode cX5_giveBackKept 97 = .ok (.goto 4, 3) := by decide +kernel
theorem dX5_giveBackKept_100 : decode cX5_giveBackKept 100 = .ok (.iconst 0, 1) := by decide +kernel
theorem dX5_giveBackKept_101 : decode cX5_giveBackKept 101 = .ok (.istore 6, 2) := by decide +kernel
theorem dX5_giveBackKept_103 : decode cX5_giveBackKept 103 = .ok (.iload 6, 2) := by decide +kernel
theorem dX5_giveBackKept_105 : decode cX5_giveBackKept 105 = .ok (.ifCond .eq 43, 3) := by decide +kernel
theorem dX5_giveBackKept_108 : decode cX5_giveBackKept 108 = .ok (.aload_n 0, 1) := by decide +kernel
theorem dX5_giveBackKept_109 : decode cX5_giveBackKept 109 = .ok (.getfield 10, 3) := by decide +kernel
theorem dX5_giveBackKept_112 : decode cX5_giveBackKept 112 = .ok (.aload_n 0, 1) := by decide +kernel
theorem dX5_giveBackKept_113 : decode cX5_giveBackKept 113 = .ok (.getfield 19, 3) := by decide +kernel
theorem dX5_giveBackKept_116 : decode cX5_giveBackKept 116 = .ok (.getfield 294, 3) := by decide +kernel
theorem dX5_giveBackKept_119 : decode cX5_giveBackKept 119 = .ok (.iload_n 2, 1) := by decide +kernel
theorem dX5_giveBackKept_120 : decode cX5_giveBackKept 120 = .ok (.bipush 21, 2) := by decide +kernel
theorem dX5_giveBackKept_122 : decode cX5_giveBackKept 122 = .ok (.imul, 1) := by decide +kernel
theorem dX5_giveBackKept_123 : decode cX5_giveBackKept 123 = .ok (.iload_n 3, 1) := by decide +kernel
theorem dX5_giveBackKept_124 : decode cX5_giveBackKept 124 = .ok (.iload 4, 2) := by decide +kernel
theorem dX5_giveBackKept_126 : decode cX5_giveBackKept 126 = .ok (.invokevirtual 284, 3) := by decide +kernel
theorem dX5_giveBackKept_129 : decode cX5_giveBackKept 129 = .ok (.aload_n 0, 1) := by decide +kernel
theorem dX5_giveBackKept_130 : decode cX5_giveBackKept 130 = .ok (.getfield 10, 3) := by decide +kernel
theorem dX5_giveBackKept_133 : decode cX5_giveBackKept 133 = .ok (.getfield 246, 3) := by decide +kernel
theorem dX5_giveBackKept_136 : decode cX5_giveBackKept 136 = .ok (.iload 5, 2) := by decide +kernel
theorem dX5_giveBackKept_138 : decode cX5_giveBackKept 138 = .ok (.aload_n 0, 1) := by decide +kernel
theorem dX5_giveBackKept_139 : decode cX5_giveBackKept 139 = .ok (.getfield 19, 3) := by decide +kernel
theorem dX5_giveBackKept_142 : decode cX5_giveBackKept 142 = .ok (.getfield 295, 3) := by decide +kernel
theorem dX5_giveBackKept_145 : decode cX5_giveBackKept 145 = .ok (.iload_n 2, 1) := by decide +kernel
theorem dX5_giveBackKept_146 : decode cX5_giveBackKept 146 = .ok (.iaload, 1) := by decide +kernel
theorem dX5_giveBackKept_147 : decode cX5_giveBackKept 147 = .ok (.iastore, 1) := by decide +kernel
theorem dX5_giveBackKept_148 : decode cX5_giveBackKept 148 = .ok (.aload_n 0, 1) := by decide +kernel
theorem dX5_giveBackKept_149 : decode cX5_giveBackKept 149 = .ok (.getfield 33, 3) := by decide +kernel
theorem dX5_giveBackKept_152 : decode cX5_giveBackKept 152 = .ok (.iload_n 3, 1) := by decide +kernel
theorem dX5_giveBackKept_153 : decode cX5_giveBackKept 153 = .ok (.iload 4, 2) := by decide +kernel
theorem dX5_giveBackKept_155 : decode cX5_giveBackKept 155 = .ok (.iload 6, 2) := by decide +kernel
theorem dX5_giveBackKept_157 : decode cX5_giveBackKept 157 = .ok (.invokevirtual 296, 3) := by decide +kernel
theorem dX5_giveBackKept_160 : decode cX5_giveBackKept 160 = .ok (.iinc 2 (-1), 3) := by decide +kernel
theorem dX5_giveBackKept_163 : decode cX5_giveBackKept 163 = .ok (.goto (-153), 3) := by decide +kernel
theorem dX5_giveBackKept_166 : decode cX5_giveBackKept 166 = .ok (.aload_n 0, 1) := by decide +kernel
theorem dX5_giveBackKept_167 : decode cX5_giveBackKept 167 = .ok (.getfield 19, 3) := by decide +kernel
theorem dX5_giveBackKept_170 : decode cX5_giveBackKept 170 = .ok (.iload_n 1, 1) := by decide +kernel
theorem dX5_giveBackKept_171 : decode cX5_giveBackKept 171 = .ok (.putfield 143, 3) := by decide +kernel
theorem dX5_giveBackKept_174 : decode cX5_giveBackKept 174 = .ok (.return_, 1) := by decide +kernel
theorem dX5_inPoints_0 : decode cX5_inPoints 0 = .ok (.lload 6, 2) := by decide +kernel
theorem dX5_inPoints_2 : decode cX5_inPoints 2 = .ok (.lconst 0, 1) := by decide +kernel
theorem dX5_inPoints_3 : decode cX5_inPoints 3 = .ok (.lcmp, 1) := by decide +kernel
theorem dX5_inPoints_4 : decode cX5_inPoints 4 = .ok (.ifCond .gt 5, 3) := by decide +kernel
theorem dX5_inPoints_7 : decode cX5_inPoints 7 = .ok (.lconst 0, 1) := by decide +kernel
theorem dX5_inPoints_8 : decode cX5_inPoints 8 = .ok (.lreturn, 1) := by decide +kernel
theorem dX5_inPoints_9 : decode cX5_inPoints 9 = .ok (.lload_n 0, 1) := by decide +kernel
theorem dX5_inPoints_10 : decode cX5_inPoints 10 = .ok (.lload 4, 2) := by decide +kernel
theorem dX5_inPoints_12 : decode cX5_inPoints 12 = .ok (.lmul, 1) := by decide +kernel
theorem dX5_inPoints_13 : decode cX5_inPoints 13 = .ok (.lload 6, 2) := by decide +kernel
theorem dX5_inPoints_15 : decode cX5_inPoints 15 = .ok (.ldiv, 1) := by decide +kernel
theorem dX5_inPoints_16 : decode cX5_inPoints 16 = .ok (.lstore 8, 2) := by decide +kernel
theorem dX5_inPoints_18 : decode cX5_inPoints 18 = .ok (.lload_n 0, 1) := by decide +kernel
theorem dX5_inPoints_19 : decode cX5_inPoints 19 = .ok (.lload 4, 2) := by decide +kernel
theorem dX5_inPoints_21 : decode cX5_inPoints 21 = .ok (.lmul, 1) := by decide +kernel
theorem dX5_inPoints_22 : decode cX5_inPoints 22 = .ok (.lload 6, 2) := by decide +kernel
theorem dX5_inPoints_24 : decode cX5_inPoints 24 = .ok (.lrem, 1) := by decide +kernel
theorem dX5_inPoints_25 : decode cX5_inPoints 25 = .ok (.lstore 10, 2) := by decide +kernel
theorem dX5_inPoints_27 : decode cX5_inPoints 27 = .ok (.ldc2_w 299, 3) := by decide +kernel
theorem dX5_inPoints_30 : decode cX5_inPoints 30 = .ok (.lload 8, 2) := by decide +kernel
theorem dX5_inPoints_32 : decode cX5_inPoints 32 = .ok (.lmul, 1) := by decide +kernel
theorem dX5_inPoints_33 : decode cX5_inPoints 33 = .ok (.lload 4, 2) := by decide +kernel
theorem dX5_inPoints_35 : decode cX5_inPoints 35 = .ok (.lload_n 2, 1) := by decide +kernel
theorem dX5_inPoints_36 : decode cX5_inPoints 36 = .ok (.lmul, 1) := by decide +kernel
theorem dX5_inPoints_37 : decode cX5_inPoints 37 = .ok (.ldc2_w 299, 3) := by decide +kernel
theorem dX5_inPoints_40 : decode cX5_inPoints 40 = .ok (.lload 10, 2) := by decide +kernel
theorem dX5_inPoints_42 : decode cX5_inPoints 42 = .ok (.lmul, 1) := by decide +kernel
theorem dX5_inPoints_43 : decode cX5_inPoints 43 = .ok (.ladd, 1) := by decide +kernel
theorem dX5_inPoints_44 : decode cX5_inPoints 44 = .ok (.lload 6, 2) := by decide +kernel
theorem dX5_inPoints_46 : decode cX5_inPoints 46 = .ok (.ldiv, 1) := by decide +kernel
theorem dX5_inPoints_47 : decode cX5_inPoints 47 = .ok (.ladd, 1) := by decide +kernel
theorem dX5_inPoints_48 : decode cX5_inPoints 48 = .ok (.lreturn, 1) := by decide +kernel
theorem dX5_writeRegister_0 : decode cX5_writeRegister 0 = .ok (.iload_n 1, 1) := by decide +kernel
theorem dX5_writeRegister_1 : decode cX5_writeRegister 1 = .ok (.ifCond .ne 22, 3) := by decide +kernel
theorem dX5_writeRegister_4 : decode cX5_writeRegister 4 = .ok (.aload_n 0, 1) := by decide +kernel
theorem dX5_writeRegister_5 : decode cX5_writeRegister 5 = .ok (.getfield 40, 3) := by decide +kernel
theorem dX5_writeRegister_8 : decode cX5_writeRegister 8 = .ok (.aload_n 0, 1) := by decide +kernel
theorem dX5_writeRegister_9 : decode cX5_writeRegister 9 = .ok (.getfield 10, 3) := by decide +kernel
theorem dX5_writeRegister_12 : decode cX5_writeRegister 12 = .ok (.getfield 99, 3) := by decide +kernel
theorem dX5_writeRegister_15 : decode cX5_writeRegister 15 = .ok (.iload_n 2, 1) := by decide +kernel
theorem dX5_writeRegister_16 : decode cX5_writeRegister 16 = .ok (.laload, 1) := by decide +kernel
theorem dX5_writeRegister_17 : decode cX5_writeRegister 17 = .ok (.invokevirtual 301, 3) := by decide +kernel
theorem dX5_writeRegister_20 : decode cX5_writeRegister 20 = .ok (.goto 98, 3) := by decide +kernel
theorem dX5_writeRegister_23 : decode cX5_writeRegister 23 = .ok (.iload_n 1, 1) := by decide +kernel
theorem dX5_writeRegister_24 : decode cX5_writeRegister 24 = .ok (.iconst 1, 1) := by decide +kernel
theorem dX5_writeRegister_25 : decode cX5_writeRegister 25 = .ok (.if_icmp .ne 22, 3) := by decide +kernel
theorem dX5_writeRegister_28 : decode cX5_writeRegister 28 = .ok (.aload_n 0, 1) := by decide +kernel
theorem dX5_writeRegister_29 : decode cX5_writeRegister 29 = .ok (.getfield 40, 3) := by decide +kernel
theorem dX5_writeRegister_32 : decode cX5_writeRegister 32 = .ok (.aload_n 0, 1) := by decide +kernel
theorem dX5_writeRegister_33 : decode cX5_writeRegister 33 = .ok (.getfield 10, 3) := by decide +kernel
theorem dX5_writeRegister_36 : decode cX5_writeRegister 36 = .ok (.getfield 99, 3) := by decide +kernel
theorem dX5_writeRegister_39 : decode cX5_writeRegister 39 = .ok (.iload_n 2, 1) := by decide +kernel
theorem dX5_writeRegister_40 : decode cX5_writeRegister 40 = .ok (.laload, 1) := by decide +kernel
theorem dX5_writeRegister_41 : decode cX5_writeRegister 41 = .ok (.invokevirtual 304, 3) := by decide +kernel
theorem dX5_writeRegister_44 : decode cX5_writeRegister 44 = .ok (.goto 74, 3) := by decide +kernel
theorem dX5_writeRegister_47 : decode cX5_writeRegister 47 = .ok (.iload_n 1, 1) := by decide +kernel
theorem dX5_writeRegister_48 : decode cX5_writeRegister 48 = .ok (.iconst 2, 1) := by decide +kernel
theorem dX5_writeRegister_49 : decode cX5_writeRegister 49 = .ok (.if_icmp .ne 11, 3) := by decide +kernel
theorem dX5_writeRegister_52 : decode cX5_writeRegister 52 = .ok (.aload_n 0, 1) := by decide +kernel
theorem dX5_writeRegister_53 : decode cX5_writeRegister 53 = .ok (.iload_n 2, 1) := by decide +kernel
theorem dX5_writeRegister_54 : decode cX5_writeRegister 54 = .ok (.invokevirtual 307, 3) := by decide +kernel
theorem dX5_writeRegister_57 : decode cX5_writeRegister 57 = .ok (.goto 61, 3) := by decide +kernel
theorem dX5_writeRegister_60 : decode cX5_writeRegister 60 = .ok (.iload_n 1, 1) := by decide +kernel
theorem dX5_writeRegister_61 : decode cX5_writeRegister 61 = .ok (.iconst 3, 1) := by decide +kernel
theorem dX5_writeRegister_62 : decode cX5_writeRegister 62 = .ok (.if_icmp .ne 11, 3) := by decide +kernel
theorem dX5_writeRegister_65 : decode cX5_writeRegister 65 = .ok (.aload_n 0, 1) := by decide +kernel
theorem dX5_writeRegister_66 : decode cX5_writeRegister 66 = .ok (.iload_n 2, 1) := by decide +kernel
theorem dX5_writeRegister_67 : decode cX5_writeRegister 67 = .ok (.invokevirtual 310, 3) := by decide +kernel
theorem dX5_writeRegister_70 : decode cX5_writeRegister 70 = .ok (.goto 48, 3) := by decide +kernel
theorem dX5_writeRegister_73 : decode cX5_writeRegister 73 = .ok (.aload_n 0, 1) := by decide +kernel
theorem dX5_writeRegister_74 : decode cX5_writeRegister 74 = .ok (.getfield 10, 3) := by decide +kernel
theorem dX5_writeRegister_77 : decode cX5_writeRegister 77 = .ok (.getfield 99, 3) := by decide +kernel
theorem dX5_writeRegister_80 : decode cX5_writeRegister 80 = .ok (.iload_n 2, 1) := by decide +kernel
theorem dX5_writeRegister_81 : decode cX5_writeRegister 81 = .ok (.laload, 1) := by decide +kernel
theorem dX5_writeRegister_82 : decode cX5_writeRegister 82 = .ok (.ldc2_w 81, 3) := by decide +kernel
theorem dX5_writeRegister_85 : decode cX5_writeRegister 85 = .ok (.lcmp, 1) := by decide +kernel
theorem dX5_writeRegister_86 : decode cX5_writeRegister 86 = .ok (.ifCond .ne 16, 3) := by decide +kernel
theorem dX5_writeRegister_89 : decode cX5_writeRegister 89 = .ok (.aload_n 0, 1) := by decide +kernel
theorem dX5_writeRegister_90 : decode cX5_writeRegister 90 = .ok (.getfield 40, 3) := by decide +kernel
theorem dX5_writeRegister_93 : decode cX5_writeRegister 93 = .ok (.ldc_w 313, 3) := by decide +kernel
theorem dX5_writeRegister_96 : decode cX5_writeRegister 96 = .ok (.invokevirtual 315, 3) := by decide +kernel
theorem dX5_writeRegister_99 : decode cX5_writeRegister 99 = .ok (.goto 19, 3) := by decide +kernel
theorem dX5_writeRegister_102 : decode cX5_writeRegister 102 = .ok (.aload_n 0, 1) := by decide +kernel
theorem dX5_writeRegister_103 : decode cX5_writeRegister 103 = .ok (.getfield 40, 3) := by decide +kernel
theorem dX5_writeRegister_106 : decode cX5_writeRegister 106 = .ok (.aload_n 0, 1) := by decide +kernel
theorem dX5_writeRegister_107 : decode cX5_writeRegister 107 = .ok (.getfield 10, 3) := by decide +kernel
theorem dX5_writeRegister_110 : decode cX5_writeRegister 110 = .ok (.getfield 99, 3) := by decide +kernel
theorem dX5_writeRegister_113 : decode cX5_writeRegister 113 = .ok (.iload_n 2, 1) := by decide +kernel
theorem dX5_writeRegister_114 : decode cX5_writeRegister 114 = .ok (.laload, 1) := by decide +kernel
theorem dX5_writeRegister_115 : decode cX5_writeRegister 115 = .ok (.invokevirtual 301, 3) := by decide +kernel
theorem dX5_writeRegister_118 : decode cX5_writeRegister 118 = .ok (.return_, 1) := by decide +kernel
theorem dX5_writeGlue_0 : decode cX5_writeGlue 0 = .ok (.aload_n 0, 1) := by decide +kernel
theorem dX5_writeGlue_1 : decode cX5_writeGlue 1 = .ok (.getfield 40, 3) := by decide +kernel
theorem dX5_writeGlue_4 : decode cX5_writeGlue 4 = .ok (.aload_n 0, 1) := by decide +kernel
theorem dX5_writeGlue_5 : decode cX5_writeGlue 5 = .ok (.getfield 10, 3) := by decide +kernel
theorem dX5_writeGlue_8 : decode cX5_writeGlue 8 = .ok (.getfield 99, 3) := by decide +kernel
theorem dX5_writeGlue_11 : decode cX5_writeGlue 11 = .ok (.iload_n 1, 1) := by decide +kernel
theorem dX5_writeGlue_12 : decode cX5_writeGlue 12 = .ok (.laload, 1) := by decide +kernel
theorem dX5_writeGlue_13 : decode cX5_writeGlue 13 = .ok (.invokevirtual 304, 3) := by decide +kernel
theorem dX5_writeGlue_16 : decode cX5_writeGlue 16 = .ok (.aload_n 0, 1) := by decide +kernel
theorem dX5_writeGlue_17 : decode cX5_writeGlue 17 = .ok (.getfield 40, 3) := by decide +kernel
theorem dX5_writeGlue_20 : decode cX5_writeGlue 20 = .ok (.ldc_w 318, 3) := by decide +kernel
theorem dX5_writeGlue_23 : decode cX5_writeGlue 23 = .ok (.invokevirtual 315, 3) := by decide +kernel
theorem dX5_writeGlue_26 : decode cX5_writeGlue 26 = .ok (.aload_n 0, 1) := by decide +kernel
theorem dX5_writeGlue_27 : decode cX5_writeGlue 27 = .ok (.ldc_w 320, 3) := by decide +kernel
theorem dX5_writeGlue_30 : decode cX5_writeGlue 30 = .ok (.iload_n 1, 1) := by decide +kernel
theorem dX5_writeGlue_31 : decode cX5_writeGlue 31 = .ok (.iconst 1, 1) := by decide +kernel
theorem dX5_writeGlue_32 : decode cX5_writeGlue 32 = .ok (.iadd, 1) := by decide +kernel
theorem dX5_writeGlue_33 : decode cX5_writeGlue 33 = .ok (.invokevirtual 322, 3) := by decide +kernel
theorem dX5_writeGlue_36 : decode cX5_writeGlue 36 = .ok (.aload_n 0, 1) := by decide +kernel
theorem dX5_writeGlue_37 : decode cX5_writeGlue 37 = .ok (.ldc_w 326, 3) := by decide +kernel
theorem dX5_writeGlue_40 : decode cX5_writeGlue 40 = .ok (.iload_n 1, 1) := by decide +kernel
theorem dX5_writeGlue_41 : decode cX5_writeGlue 41 = .ok (.iconst 3, 1) := by decide +kernel
theorem dX5_writeGlue_42 : decode cX5_writeGlue 42 = .ok (.iadd, 1) := by decide +kernel
theorem dX5_writeGlue_43 : decode cX5_writeGlue 43 = .ok (.invokevirtual 322, 3) := by decide +kernel
theorem dX5_writeGlue_46 : decode cX5_writeGlue 46 = .ok (.return_, 1) := by decide +kernel
theorem dX5_writeFlexible_0 : decode cX5_writeFlexible 0 = .ok (.aload_n 0, 1) := by decide +kernel
theorem dX5_writeFlexible_1 : decode cX5_writeFlexible 1 = .ok (.getfield 10, 3) := by decide +kernel
theorem dX5_writeFlexible_4 : decode cX5_writeFlexible 4 = .ok (.getfield 99, 3) := by decide +kernel
theorem dX5_writeFlexible_7 : decode cX5_writeFlexible 7 = .ok (.iload_n 2, 1) := by decide +kernel
theorem dX5_writeFlexible_8 : decode cX5_writeFlexible 8 = .ok (.laload, 1) := by decide +kernel
theorem dX5_writeFlexible_9 : decode cX5_writeFlexible 9 = .ok (.lconst 0, 1) := by decide +kernel
theorem dX5_writeFlexible_10 : decode cX5_writeFlexible 10 = .ok (.lcmp, 1) := by decide +kernel
theorem dX5_writeFlexible_11 : decode cX5_writeFlexible 11 = .ok (.ifCond .eq 48, 3) := by decide +kernel
theorem dX5_writeFlexible_14 : decode cX5_writeFlexible 14 = .ok (.aload_n 0, 1) := by decide +kernel
theorem dX5_writeFlexible_15 : decode cX5_writeFlexible 15 = .ok (.getfield 40, 3) := by decide +kernel
theorem dX5_writeFlexible_18 : decode cX5_writeFlexible 18 = .ok (.aload_n 1, 1) := by decide +kernel
theorem dX5_writeFlexible_19 : decode cX5_writeFlexible 19 = .ok (.invokevirtual 315, 3) := by decide +kernel
theorem dX5_writeFlexible_22 : decode cX5_writeFlexible 22 = .ok (.aload_n 0, 1) := by decide +kernel
theorem dX5_writeFlexible_23 : decode cX5_writeFlexible 23 = .ok (.getfield 40, 3) := by decide +kernel
theorem dX5_writeFlexible_26 : decode cX5_writeFlexible 26 = .ok (.aload_n 0, 1) := by decide +kernel
theorem dX5_writeFlexible_27 : decode cX5_writeFlexible 27 = .ok (.getfield 10, 3) := by decide +kernel
theorem dX5_writeFlexible_30 : decode cX5_writeFlexible 30 = .ok (.getfield 99, 3) := by decide +kernel
theorem dX5_writeFlexible_33 : decode cX5_writeFlexible 33 = .ok (.iload_n 2, 1) := by decide +kernel
theorem dX5_writeFlexible_34 : decode cX5_writeFlexible 34 = .ok (.laload, 1) := by decide +kernel
theorem dX5_writeFlexible_35 : decode cX5_writeFlexible 35 = .ok (.invokevirtual 304, 3) := by decide +kernel
theorem dX5_writeFlexible_38 : decode cX5_writeFlexible 38 = .ok (.aload_n 0, 1) := by decide +kernel
theorem dX5_writeFlexible_39 : decode cX5_writeFlexible 39 = .ok (.getfield 40, 3) := by decide +kernel
theorem dX5_writeFlexible_42 : decode cX5_writeFlexible 42 = .ok (.aload_n 0, 1) := by decide +kernel
theorem dX5_writeFlexible_43 : decode cX5_writeFlexible 43 = .ok (.getfield 10, 3) := by decide +kernel
theorem dX5_writeFlexible_46 : decode cX5_writeFlexible 46 = .ok (.getfield 99, 3) := by decide +kernel
theorem dX5_writeFlexible_49 : decode cX5_writeFlexible 49 = .ok (.iload_n 2, 1) := by decide +kernel
theorem dX5_writeFlexible_50 : decode cX5_writeFlexible 50 = .ok (.iconst 1, 1) := by decide +kernel
theorem dX5_writeFlexible_51 : decode cX5_writeFlexible 51 = .ok (.iadd, 1) := by decide +kernel
theorem dX5_writeFlexible_52 : decode cX5_writeFlexible 52 = .ok (.laload, 1) := by decide +kernel
theorem dX5_writeFlexible_53 : decode cX5_writeFlexible 53 = .ok (.invokestatic 328, 3) := by decide +kernel
theorem dX5_writeFlexible_56 : decode cX5_writeFlexible 56 = .ok (.invokevirtual 315, 3) := by decide +kernel
theorem dX5_writeFlexible_59 : decode cX5_writeFlexible 59 = .ok (.return_, 1) := by decide +kernel
theorem dX5_orderName_0 : decode cX5_orderName 0 = .ok (.lload_n 0, 1) := by decide +kernel
theorem dX5_orderName_1 : decode cX5_orderName 1 = .ok (.lconst 0, 1) := by decide +kernel
theorem dX5_orderName_2 : decode cX5_orderName 2 = .ok (.lcmp, 1) := by decide +kernel
theorem dX5_orderName_3 : decode cX5_orderName 3 = .ok (.ifCond .ne 7, 3) := by decide +kernel
theorem dX5_orderName_6 : decode cX5_orderName 6 = .ok (.ldc_w 318, 3) := by decide +kernel
theorem dX5_orderName_9 : decode cX5_orderName 9 = .ok (.areturn, 1) := by decide +kernel
theorem dX5_orderName_10 : decode cX5_orderName 10 = .ok (.lload_n 0, 1) := by decide +kernel
theorem dX5_orderName_11 : decode cX5_orderName 11 = .ok (.lconst 1, 1) := by decide +kernel
theorem dX5_orderName_12 : decode cX5_orderName 12 = .ok (.lcmp, 1) := by decide +kernel
theorem dX5_orderName_13 : decode cX5_orderName 13 = .ok (.ifCond .ne 9, 3) := by decide +kernel
theorem dX5_orderName_16 : decode cX5_orderName 16 = .ok (.ldc_w 332, 3) := by decide +kernel
theorem dX5_orderName_19 : decode cX5_orderName 19 = .ok (.goto 20, 3) := by decide +kernel
theorem dX5_orderName_22 : decode cX5_orderName 22 = .ok (.lload_n 0, 1) := by decide +kernel
theorem dX5_orderName_23 : decode cX5_orderName 23 = .ok (.ldc2_w 184, 3) := by decide +kernel
theorem dX5_orderName_26 : decode cX5_orderName 26 = .ok (.lcmp, 1) := by decide +kernel
theorem dX5_orderName_27 : decode cX5_orderName 27 = .ok (.ifCond .ne 9, 3) := by decide +kernel
theorem dX5_orderName_30 : decode cX5_orderName 30 = .ok (.ldc_w 334, 3) := by decide +kernel
theorem dX5_orderName_33 : decode cX5_orderName 33 = .ok (.goto 6, 3) := by decide +kernel
theorem dX5_orderName_36 : decode cX5_orderName 36 = .ok (.ldc_w 336, 3) := by decide +kernel
theorem dX5_orderName_39 : decode cX5_orderName 39 = .ok (.areturn, 1) := by decide +kernel
theorem dX5_writeRow_0 : decode cX5_writeRow 0 = .ok (.iconst 0, 1) := by decide +kernel
theorem dX5_writeRow_1 : decode cX5_writeRow 1 = .ok (.istore_n 2, 1) := by decide +kernel
theorem dX5_writeRow_2 : decode cX5_writeRow 2 = .ok (.iload_n 2, 1) := by decide +kernel
theorem dX5_writeRow_3 : decode cX5_writeRow 3 = .ok (.bipush 20, 2) := by decide +kernel
theorem dX5_writeRow_5 : decode cX5_writeRow 5 = .ok (.if_icmp .ge 45, 3) := by decide +kernel
theorem dX5_writeRow_8 : decode cX5_writeRow 8 = .ok (.iload_n 2, 1) := by decide +kernel
theorem dX5_writeRow_9 : decode cX5_writeRow 9 = .ok (.i2l, 1) := by decide +kernel
theorem dX5_writeRow_10 : decode cX5_writeRow 10 = .ok (.aload_n 0, 1) := by decide +kernel
theorem dX5_writeRow_11 : decode cX5_writeRow 11 = .ok (.getfield 10, 3) := by decide +kernel
theorem dX5_writeRow_14 : decode cX5_writeRow 14 = .ok (.getfield 99, 3) := by decide +kernel
theorem dX5_writeRow_17 : decode cX5_writeRow 17 = .ok (.iload_n 1, 1) := by decide +kernel
theorem dX5_writeRow_18 : decode cX5_writeRow 18 = .ok (.laload, 1) := by decide +kernel
theorem dX5_writeRow_19 : decode cX5_writeRow 19 = .ok (.lcmp, 1) := by decide +kernel
theorem dX5_writeRow_20 : decode cX5_writeRow 20 = .ok (.ifCond .ge 30, 3) := by decide +kernel
theorem dX5_writeRow_23 : decode cX5_writeRow 23 = .ok (.aload_n 0, 1) := by decide +kernel
theorem dX5_writeRow_24 : decode cX5_writeRow 24 = .ok (.getfield 40, 3) := by decide +kernel
theorem dX5_writeRow_27 : decode cX5_writeRow 27 = .ok (.aload_n 0, 1) := by decide +kernel
theorem dX5_writeRow_28 : decode cX5_writeRow 28 = .ok (.getfield 10, 3) := by decide +kernel
theorem dX5_writeRow_31 : decode cX5_writeRow 31 = .ok (.getfield 99, 3) := by decide +kernel
theorem dX5_writeRow_34 : decode cX5_writeRow 34 = .ok (.iload_n 1, 1) := by decide +kernel
theorem dX5_writeRow_35 : decode cX5_writeRow 35 = .ok (.iconst 1, 1) := by decide +kernel
theorem dX5_writeRow_36 : decode cX5_writeRow 36 = .ok (.iadd, 1) := by decide +kernel
theorem dX5_writeRow_37 : decode cX5_writeRow 37 = .ok (.iload_n 2, 1) := by decide +kernel
theorem dX5_writeRow_38 : decode cX5_writeRow 38 = .ok (.iadd, 1) := by decide +kernel
theorem dX5_writeRow_39 : decode cX5_writeRow 39 = .ok (.laload, 1) := by decide +kernel
theorem dX5_writeRow_40 : decode cX5_writeRow 40 = .ok (.l2i, 1) := by decide +kernel
theorem dX5_writeRow_41 : decode cX5_writeRow 41 = .ok (.invokevirtual 338, 3) := by decide +kernel
theorem dX5_writeRow_44 : decode cX5_writeRow 44 = .ok (.iinc 2 1, 3) := by decide +kernel
theorem dX5_writeRow_47 : decode cX5_writeRow 47 = .ok (.goto (-45), 3) := by decide +kernel
theorem dX5_writeRow_50 : decode cX5_writeRow 50 = .ok (.return_, 1) := by decide +kernel
theorem dX6_init_0 : decode cX6_init 0 = .ok (.aload_n 0, 1) := by decide +kernel
theorem dX6_init_1 : decode cX6_init 1 = .ok (.invokespecial 1, 3) := by decide +kernel
theorem dX6_init_4 : decode cX6_init 4 = .ok (.aload_n 0, 1) := by decide +kernel
theorem dX6_init_5 : decode cX6_init 5 = .ok (.sipush 3360, 3) := by decide +kernel
theorem dX6_init_8 : decode cX6_init 8 = .ok (.newarray .long, 2) := by decide +kernel
theorem dX6_init_10 : decode cX6_init 10 = .ok (.putfield 7, 3) := by decide +kernel
theorem dX6_init_13 : decode cX6_init 13 = .ok (.aload_n 0, 1) := by decide +kernel
theorem dX6_init_14 : decode cX6_init 14 = .ok (.sipush 160, 3) := by decide +kernel
theorem dX6_init_17 : decode cX6_init 17 = .ok (.newarray .int, 2) := by decide +kernel
theorem dX6_init_19 : decode cX6_init 19 = .ok (.putfield 13, 3) := by decide +kernel
theorem dX6_init_22 : decode cX6_init 22 = .ok (.aload_n 0, 1) := by decide +kernel
theorem dX6_init_23 : decode cX6_init 23 = .ok (.sipush 4200, 3) := by decide +kernel
theorem dX6_init_26 : decode cX6_init 26 = .ok (.newarray .long, 2) := by decide +kernel
theorem dX6_init_28 : decode cX6_init 28 = .ok (.putfield 17, 3) := by decide +kernel
theorem dX6_init_31 : decode cX6_init 31 = .ok (.aload_n 0, 1) := by decide +kernel
theorem dX6_init_32 : decode cX6_init 32 = .ok (.sipush 200, 3) := by decide +kernel
theorem dX6_init_35 : decode cX6_init 35 = .ok (.newarray .int, 2) := by decide +kernel
theorem dX6_init_37 : decode cX6_init 37 = .ok (.putfield 20, 3) := by decide +kernel
theorem dX6_init_40 : decode cX6_init 40 = .ok (.aload_n 0, 1) := by decide +kernel
theorem dX6_init_41 : decode cX6_init 41 = .ok (.sipush 200, 3) := by decide +kernel
theorem dX6_init_44 : decode cX6_init 44 = .ok (.newarray .int, 2) := by decide +kernel
theorem dX6_init_46 : decode cX6_init 46 = .ok (.putfield 23, 3) := by decide +kernel
theorem dX6_init_49 : decode cX6_init 49 = .ok (.aload_n 0, 1) := by decide +kernel
theorem dX6_init_50 : decode cX6_init 50 = .ok (.sipush 200, 3) := by decide +kernel
theorem dX6_init_53 : decode cX6_init 53 = .ok (.newarray .int, 2) := by decide +kernel
theorem dX6_init_55 : decode cX6_init 55 = .ok (.putfield 26, 3) := by decide +kernel
theorem dX6_init_58 : decode cX6_init 58 = .ok (.aload_n 0, 1) := by decide +kernel
theorem dX6_init_59 : decode cX6_init 59 = .ok (.iconst 5, 1) := by decide +kernel
theorem dX6_init_60 : decode cX6_init 60 = .ok (.newarray .long, 2) := by decide +kernel
theorem dX6_init_62 : decode cX6_init 62 = .ok (.putfield 29, 3) := by decide +kernel
theorem dX6_init_65 : decode cX6_init 65 = .ok (.aload_n 0, 1) := by decide +kernel
theorem dX6_init_66 : decode cX6_init 66 = .ok (.bipush 21, 2) := by decide +kernel
theorem dX6_init_68 : decode cX6_init 68 = .ok (.newarray .long, 2) := by decide +kernel
theorem dX6_init_70 : decode cX6_init 70 = .ok (.putfield 32, 3) := by decide +kernel
theorem dX6_init_73 : decode cX6_init 73 = .ok (.aload_n 0, 1) := by decide +kernel
theorem dX6_init_74 : decode cX6_init 74 = .ok (.bipush 21, 2) := by decide +kernel
theorem dX6_init_76 : decode cX6_init 76 = .ok (.newarray .long, 2) := by decide +kernel
theorem dX6_init_78 : decode cX6_init 78 = .ok (.putfield 35, 3) := by decide +kernel
theorem dX6_init_81 : decode cX6_init 81 = .ok (.aload_n 0, 1) := by decide +kernel
theorem dX6_init_82 : decode cX6_init 82 = .ok (.bipush 60, 2) := by decide +kernel
theorem dX6_init_84 : decode cX6_init 84 = .ok (.newarray .int, 2) := by decide +kernel
theorem dX6_init_86 : decode cX6_init 86 = .ok (.putfield 38, 3) := by decide +kernel
theorem dX6_init_89 : decode cX6_init 89 = .ok (.aload_n 0, 1) := by decide +kernel
theorem dX6_init_90 : decode cX6_init 90 = .ok (.bipush 60, 2) := by decide +kernel
theorem dX6_init_92 : decode cX6_init 92 = .ok (.newarray .int, 2) := by decide +kernel
theorem dX6_init_94 : decode cX6_init 94 = .ok (.putfield 41, 3) := by decide +kernel
theorem dX6_init_97 : decode cX6_init 97 = .ok (.aload_n 0, 1) := by decide +kernel
theorem dX6_init_98 : decode cX6_init 98 = .ok (.sipush 200, 3) := by decide +kernel
theorem dX6_init_101 : decode cX6_init 101 = .ok (.newarray .int, 2) := by decide +kernel
theorem dX6_init_103 : decode cX6_init 103 = .ok (.putfield 44, 3) := by decide +kernel
theorem dX6_init_106 : decode cX6_init 106 = .ok (.aload_n 0, 1) := by decide +kernel
theorem dX6_init_107 : decode cX6_init 107 = .ok (.sipush 200, 3) := by decide +kernel
theorem dX6_init_110 : decode cX6_init 110 = .ok (.newarray .int, 2) := by decide +kernel
theorem dX6_init_112 : decode cX6_init 112 = .ok (.putfield 47, 3) := by decide +kernel
theorem dX6_init_115 : decode cX6_init 115 = .ok (.aload_n 0, 1) := by decide +kernel
theorem dX6_init_116 : decode cX6_init 116 = .ok (.bipush 60, 2) := by decide +kernel
theorem dX6_init_118 : decode cX6_init 118 = .ok (.newarray .int, 2) := by decide +kernel
theorem dX6_init_120 : decode cX6_init 120 = .ok (.putfield 50, 3) := by decide +kernel
theorem dX6_init_123 : decode cX6_init 123 = .ok (.aload_n 0, 1) := by decide +kernel
theorem dX6_init_124 : decode cX6_init 124 = .ok (.bipush 120, 2) := by decide +kernel
theorem dX6_init_126 : decode cX6_init 126 = .ok (.newarray .int, 2) := by decide +kernel
theorem dX6_init_128 : decode cX6_init 128 = .ok (.putfield 53, 3) := by decide +kernel
theorem dX6_init_131 : decode cX6_init 131 = .ok (.aload_n 0, 1) := by decide +kernel
theorem dX6_init_132 : decode cX6_init 132 = .ok (.bipush 20, 2) := by decide +kernel
theorem dX6_init_134 : decode cX6_init 134 = .ok (.newarray .int, 2) := by decide +kernel
theorem dX6_init_136 : decode cX6_init 136 = .ok (.putfield 56, 3) := by decide +kernel
theorem dX6_init_139 : decode cX6_init 139 = .ok (.iconst 0, 1) := by decide +kernel
theorem dX6_init_140 : decode cX6_init 140 = .ok (.istore_n 1, 1) := by decide +kernel
theorem dX6_init_141 : decode cX6_init 141 = .ok (.iload_n 1, 1) := by decide +kernel
theorem dX6_init_142 : decode cX6_init 142 = .ok (.bipush 32, 2) := by decide +kernel
theorem dX6_init_144 : decode cX6_init 144 = .ok (.if_icmp .ge 25, 3) := by decide +kernel
theorem dX6_init_147 : decode cX6_init 147 = .ok (.aload_n 0, 1) := by decide +kernel
theorem dX6_init_148 : decode cX6_init 148 = .ok (.getfield 7, 3) := by decide +kernel
theorem dX6_init_151 : decode cX6_init 151 = .ok (.bipush 21, 2) := by decide +kernel
theorem dX6_init_153 : decode cX6_init 153 = .ok (.sipush 128, 3) := by decide +kernel
theorem dX6_init_156 : decode cX6_init 156 = .ok (.iload_n 1, 1) := by decide +kernel
theorem dX6_init_157 : decode cX6_init 157 = .ok (.iadd, 1) := by decide +kernel
theorem dX6_init_158 : decode cX6_init 158 = .ok (.imul, 1) := by decide +kernel
theorem dX6_init_159 : decode cX6_init 159 = .ok (.ldc2_w 59, 3) := by decide +kernel
theorem dX6_init_162 : decode cX6_init 162 = .ok (.lastore, 1) := by decide +kernel
theorem dX6_init_163 : decode cX6_init 163 = .ok (.iinc 1 1, 3) := by decide +kernel
theorem dX6_init_166 : decode cX6_init 166 = .ok (.goto (-25), 3) := by decide +kernel
theorem dX6_init_169 : decode cX6_init 169 = .ok (.return_, 1) := by decide +kernel
theorem dX6_thrown_0 : decode cX6_thrown 0 = .ok (.aload_n 0, 1) := by decide +kernel
theorem dX6_thrown_1 : decode cX6_thrown 1 = .ok (.getfield 61, 3) := by decide +kernel
theorem dX6_thrown_4 : decode cX6_thrown 4 = .ok (.ireturn, 1) := by decide +kernel
theorem dX6_in_0 : decode cX6_in 0 = .ok (.lload_n 0, 1) := by decide +kernel
theorem dX6_in_1 : decode cX6_in 1 = .ok (.lload_n 2, 1) := by decide +kernel
theorem dX6_in_2 : decode cX6_in 2 = .ok (.lcmp, 1) := by decide +kernel
theorem dX6_in_3 : decode cX6_in 3 = .ok (.ifCond .lt 14, 3) := by decide +kernel
theorem dX6_in_6 : decode cX6_in 6 = .ok (.lload_n 0, 1) := by decide +kernel
theorem dX6_in_7 : decode cX6_in 7 = .ok (.lload 4, 2) := by decide +kernel
theorem dX6_in_9 : decode cX6_in 9 = .ok (.lcmp, 1) := by decide +kernel
theorem dX6_in_10 : decode cX6_in 10 = .ok (.ifCond .gt 7, 3) := by decide +kernel
theorem dX6_in_13 : decode cX6_in 13 = .ok (.iconst 1, 1) := by decide +kernel
theorem dX6_in_14 : decode cX6_in 14 = .ok (.goto 4, 3) := by decide +kernel
theorem dX6_in_17 : decode cX6_in 17 = .ok (.iconst 0, 1) := by decide +kernel
theorem dX6_in_18 : decode cX6_in 18 = .ok (.ireturn, 1) := by decide +kernel
theorem dX6_isKind_0 : decode cX6_isKind 0 = .ok (.iload_n 0, 1) := by decide +kernel
theorem dX6_isKind_1 : decode cX6_isKind 1 = .ok (.i2l, 1) := by decide +kernel
theorem dX6_isKind_2 : decode cX6_isKind 2 = .ok (.lconst 0, 1) := by decide +kernel
theorem dX6_isKind_3 : decode cX6_isKind 3 = .ok (.ldc2_w 65, 3) := by decide +kernel
theorem dX6_isKind_6 : decode cX6_isKind 6 = .ok (.invokestatic 67, 3) := by decide +kernel
theorem dX6_isKind_9 : decode cX6_isKind 9 = .ok (.ireturn, 1) := by decide +kernel
theorem dX6_isRegister_0 : decode cX6_isRegister 0 = .ok (.iload_n 0, 1) := by decide +kernel
theorem dX6_isRegister_1 : decode cX6_isRegister 1 = .ok (.i2l, 1) := by decide +kernel
theorem dX6_isRegister_2 : decode cX6_isRegister 2 = .ok (.lconst 0, 1) := by decide +kernel
theorem dX6_isRegister_3 : decode cX6_isRegister 3 = .ok (.ldc2_w 71, 3) := by decide +kernel
theorem dX6_isRegister_6 : decode cX6_isRegister 6 = .ok (.invokestatic 67, 3) := by decide +kernel
theorem dX6_isRegister_9 : decode cX6_isRegister 9 = .ok (.ireturn, 1) := by decide +kernel
theorem dX6_isLength_0 : decode cX6_isLength 0 = .ok (.lload_n 0, 1) := by decide +kernel
theorem dX6_isLength_1 : decode cX6_isLength 1 = .ok (.ldc2_w 73, 3) := by decide +kernel
theorem dX6_isLength_4 : decode cX6_isLength 4 = .ok (.ldc2_w 75, 3) := by decide +kernel
theorem dX6_isLength_7 : decode cX6_isLength 7 = .ok (.invokestatic 67, 3) := by decide +kernel
theorem dX6_isLength_10 : decode cX6_isLength 10 = .ok (.ireturn, 1) := by decide +kernel
theorem dX6_token_0 : decode cX6_token 0 = .ok (.aload_n 0, 1) := by decide +kernel
theorem dX6_token_1 : decode cX6_token 1 = .ok (.iload_n 1, 1) := by decide +kernel
theorem dX6_token_2 : decode cX6_token 2 = .ok (.i2l, 1) := by decide +kernel
theorem dX6_token_3 : decode cX6_token 3 = .ok (.lconst 0, 1) := by decide +kernel
theorem dX6_token_4 : decode cX6_token 4 = .ok (.ldc2_w 77, 3) := by decide +kernel
theorem dX6_token_7 : decode cX6_token 7 = .ok (.invokestatic 67, 3) := by decide +kernel
theorem dX6_token_10 : decode cX6_token 10 = .ok (.ifCond .eq 7, 3) := by decide +kernel
theorem dX6_token_13 : decode cX6_token 13 = .ok (.iconst 0, 1) := by decide +kernel
theorem dX6_token_14 : decode cX6_token 14 = .ok (.goto 4, 3) := by decide +kernel
theorem dX6_token_17 : decode cX6_token 17 = .ok (.iconst 1, 1) := by decide +kernel
theorem dX6_token_18 : decode cX6_token 18 = .ok (.putfield 61, 3) := by decide +kernel
theorem dX6_token_21 : decode cX6_token 21 = .ok (.aload_n 0, 1) := by decide +kernel
theorem dX6_token_22 : decode cX6_token 22 = .ok (.getfield 61, 3) := by decide +kernel
theorem dX6_token_25 : decode cX6_token 25 = .ok (.ifCond .le 5, 3) := by decide +kernel
theorem dX6_token_28 : decode cX6_token 28 = .ok (.iconst 0, 1) := by decide +kernel
theorem dX6_token_29 : decode cX6_token 29 = .ok (.ireturn, 1) := by decide +kernel
theorem dX6_token_30 : decode cX6_token 30 = .ok (.aload_n 0, 1) := by decide +kernel
theorem dX6_token_31 : decode cX6_token 31 = .ok (.getfield 32, 3) := by decide +kernel
theorem dX6_token_34 : decode cX6_token 34 = .ok (.iconst 0, 1) := by decide +kernel
theorem dX6_token_35 : decode cX6_token 35 = .ok (.laload, 1) := by decide +kernel
theorem dX6_token_36 : decode cX6_token 36 = .ok (.ldc2_w 79, 3) := by decide +kernel
theorem dX6_token_39 : decode cX6_token 39 = .ok (.lcmp, 1) := by decide +kernel
theorem dX6_token_40 : decode cX6_token 40 = .ok (.ifCond .ne 5, 3) := by decide +kernel
theorem dX6_token_43 : decode cX6_token 43 = .ok (.iconst (-1), 1) := by decide +kernel
theorem dX6_token_44 : decode cX6_token 44 = .ok (.ireturn, 1) := by decide +kernel
theorem dX6_token_45 : decode cX6_token 45 = .ok (.aload_n 0, 1) := by decide +kernel
theorem dX6_token_46 : decode cX6_token 46 = .ok (.getfield 32, 3) := by decide +kernel
theorem dX6_token_49 : decode cX6_token 49 = .ok (.iconst 0, 1) := by decide +kernel
theorem dX6_token_50 : decode cX6_token 50 = .ok (.dup2, 1) := by decide +kernel
theorem dX6_token_51 : decode cX6_token 51 = .ok (.laload, 1) := by decide +kernel
theorem dX6_token_52 : decode cX6_token 52 = .ok (.lconst 1, 1) := by decide +kernel
theorem dX6_token_53 : decode cX6_token 53 = .ok (.ladd, 1) := by decide +kernel
theorem dX6_token_54 : decode cX6_token 54 = .ok (.lastore, 1) := by decide +kernel
theorem dX6_token_55 : decode cX6_token 55 = .ok (.aload_n 0, 1) := by decide +kernel
theorem dX6_token_56 : decode cX6_token 56 = .ok (.getfield 32, 3) := by decide +kernel
theorem dX6_token_59 : decode cX6_token 59 = .ok (.aload_n 0, 1) := by decide +kernel
theorem dX6_token_60 : decode cX6_token 60 = .ok (.getfield 32, 3) := by decide +kernel
theorem dX6_token_63 : decode cX6_token 63 = .ok (.iconst 0, 1) := by decide +kernel
theorem dX6_token_64 : decode cX6_token 64 = .ok (.laload, 1) := by decide +kernel
theorem dX6_token_65 : decode cX6_token 65 = .ok (.l2i, 1) := by decide +kernel
theorem dX6_token_66 : decode cX6_token 66 = .ok (.iload_n 1, 1) := by decide +kernel
theorem dX6_token_67 : decode cX6_token 67 = .ok (.i2l, 1) := by decide +kernel
theorem dX6_token_68 : decode cX6_token 68 = .ok (.lastore, 1) := by decide +kernel
theorem dX6_token_69 : decode cX6_token 69 = .ok (.aload_n 0, 1) := by decide +kernel
theorem dX6_token_70 : decode cX6_token 70 = .ok (.getfield 32, 3) := by decide +kernel
theorem dX6_token_73 : decode cX6_token 73 = .ok (.iconst 0, 1) := by decide +kernel
theorem dX6_token_74 : decode cX6_token 74 = .ok (.laload, 1) := by decide +kernel
theorem dX6_token_75 : decode cX6_token 75 = .ok (.l2i, 1) := by decide +kernel
theorem dX6_token_76 : decode cX6_token 76 = .ok (.ireturn, 1) := by decide +kernel
theorem dX6_glue_0 : decode cX6_glue 0 = .ok (.lload_n 1, 1) := by decide +kernel
theorem dX6_glue_1 : decode cX6_glue 1 = .ok (.invokestatic 81, 3) := by decide +kernel
theorem dX6_glue_4 : decode cX6_glue 4 = .ok (.ifCond .eq 48, 3) := by decide +kernel
theorem dX6_glue_7 : decode cX6_glue 7 = .ok (.lload_n 3, 1) := by decide +kernel
theorem dX6_glue_8 : decode cX6_glue 8 = .ok (.invokestatic 81, 3) := by decide +kernel
theorem dX6_glue_11 : decode cX6_glue 11 = .ok (.ifCond .eq 41, 3) := by decide +kernel
theorem dX6_glue_14 : decode cX6_glue 14 = .ok (.iload 5, 2) := by decide +kernel
theorem dX6_glue_16 : decode cX6_glue 16 = .ok (.i2l, 1) := by decide +kernel
theorem dX6_glue_17 : decode cX6_glue 17 = .ok (.lconst 0, 1) := by decide +kernel
theorem dX6_glue_18 : decode cX6_glue 18 = .ok (.ldc2_w 85, 3) := by decide +kernel
theorem dX6_glue_21 : decode cX6_glue 21 = .ok (.invokestatic 67, 3) := by decide +kernel
theorem dX6_glue_24 : decode cX6_glue 24 = .ok (.ifCond .eq 28, 3) := by decide +kernel
theorem dX6_glue_27 : decode cX6_glue 27 = .ok (.lload 6, 2) := by decide +kernel
theorem dX6_glue_29 : decode cX6_glue 29 = .ok (.invokestatic 81, 3) := by decide +kernel
theorem dX6_glue_32 : decode cX6_glue 32 = .ok (.ifCond .eq 20, 3) := by decide +kernel
theorem dX6_glue_35 : decode cX6_glue 35 = .ok (.iload 8, 2) := by decide +kernel
theorem dX6_glue_37 : decode cX6_glue 37 = .ok (.i2l, 1) := by decide +kernel
theorem dX6_glue_38 : decode cX6_glue 38 = .ok (.lconst 0, 1) := by decide +kernel
theorem dX6_glue_39 : decode cX6_glue 39 = .ok (.ldc2_w 85, 3) := by decide +kernel
theorem dX6_glue_42 : decode cX6_glue 42 = .ok (.invokestatic 67, 3) := by decide +kernel
theorem dX6_glue_45 : decode cX6_glue 45 = .ok (.ifCond .eq 7, 3) := by decide +kernel
theorem dX6_glue_48 : decode cX6_glue 48 = .ok (.iconst 1, 1) := by decide +kernel
theorem dX6_glue_49 : decode cX6_glue 49 = .ok (.goto 4, 3) := by decide +kernel
theorem dX6_glue_52 : decode cX6_glue 52 = .ok (.iconst 0, 1) := by decide +kernel
theorem dX6_glue_53 : decode cX6_glue 53 = .ok (.istore 9, 2) := by decide +kernel
theorem dX6_glue_55 : decode cX6_glue 55 = .ok (.aload_n 0, 1) := by decide +kernel
theorem dX6_glue_56 : decode cX6_glue 56 = .ok (.iload 9, 2) := by decide +kernel
theorem dX6_glue_58 : decode cX6_glue 58 = .ok (.ifCond .eq 7, 3) := by decide +kernel
theorem dX6_glue_61 : decode cX6_glue 61 = .ok (.iconst 0, 1) := by decide +kernel
theorem dX6_glue_62 : decode cX6_glue 62 = .ok (.goto 4, 3) := by decide +kernel
theorem dX6_glue_65 : decode cX6_glue 65 = .ok (.iconst 1, 1) := by decide +kernel
theorem dX6_glue_66 : decode cX6_glue 66 = .ok (.putfield 61, 3) := by decide +kernel
theorem dX6_glue_69 : decode cX6_glue 69 = .ok (.aload_n 0, 1) := by decide +kernel
theorem dX6_glue_70 : decode cX6_glue 70 = .ok (.getfield 61, 3) := by decide +kernel
theorem dX6_glue_73 : decode cX6_glue 73 = .ok (.ifCond .le 4, 3) := by decide +kernel
theorem dX6_glue_76 : decode cX6_glue 76 = .ok (.return_, 1) := by decide +kernel
theorem dX6_glue_77 : decode cX6_glue 77 = .ok (.aload_n 0, 1) := by decide +kernel
theorem dX6_glue_78 : decode cX6_glue 78 = .ok (.getfield 29, 3) := by decide +kernel
theorem dX6_glue_81 : decode cX6_glue 81 = .ok (.iconst 0, 1) := by decide +kernel
theorem dX6_glue_82 : decode cX6_glue 82 = .ok (.lload_n 1, 1) := by decide +kernel
theorem dX6_glue_83 : decode cX6_glue 83 = .ok (.lastore, 1) := by decide +kernel
theorem dX6_glue_84 : decode cX6_glue 84 = .ok (.aload_n 0, 1) := by decide +kernel
theorem dX6_glue_85 : decode cX6_glue 85 = .ok (.getfield 29, 3) := by decide +kernel
theorem dX6_glue_88 : decode cX6_glue 88 = .ok (.iconst 1, 1) := by decide +kernel
theorem dX6_glue_89 : decode cX6_glue 89 = .ok (.lload_n 3, 1) := by decide +kernel
theorem dX6_glue_90 : decode cX6_glue 90 = .ok (.lastore, 1) := by decide +kernel
theorem dX6_glue_91 : decode cX6_glue 91 = .ok (.aload_n 0, 1) := by decide +kernel
theorem dX6_glue_92 : decode cX6_glue 92 = .ok (.getfield 29, 3) := by decide +kernel
theorem dX6_glue_95 : decode cX6_glue 95 = .ok (.iconst 2, 1) := by decide +kernel
theorem dX6_glue_96 : decode cX6_glue 96 = .ok (.iload 5, 2) := by decide +kernel
theorem dX6_glue_98 : decode cX6_glue 98 = .ok (.i2l, 1) := by decide +kernel
theorem dX6_glue_99 : decode cX6_glue 99 = .ok (.lastore, 1) := by decide +kernel
theorem dX6_glue_100 : decode cX6_glue 100 = .ok (.aload_n 0, 1) := by decide +kernel
theorem dX6_glue_101 : decode cX6_glue 101 = .ok (.getfield 29, 3) := by decide +kernel
theorem dX6_glue_104 : decode cX6_glue 104 = .ok (.iconst 3, 1) := by decide +kernel
theorem dX6_glue_105 : decode cX6_glue 105 = .ok (.lload 6, 2) := by decide +kernel
theorem dX6_glue_107 : decode cX6_glue 107 = .ok (.lastore, 1) := by decide +kernel
theorem dX6_glue_108 : decode cX6_glue 108 = .ok (.aload_n 0, 1) := by decide +kernel
theorem dX6_glue_109 : decode cX6_glue 109 = .ok (.getfield 29, 3) := by decide +kernel
theorem dX6_glue_112 : decode cX6_glue 112 = .ok (.iconst 4, 1) := by decide +kernel
theorem dX6_glue_113 : decode cX6_glue 113 = .ok (.iload 8, 2) := by decide +kernel
theorem dX6_glue_115 : decode cX6_glue 115 = .ok (.i2l, 1) := by decide +kernel
theorem dX6_glue_116 : decode cX6_glue 116 = .ok (.lastore, 1) := by decide +kernel
theorem dX6_glue_117 : decode cX6_glue 117 = .ok (.return_, 1) := by decide +kernel
theorem dX6_isWithin_0 : decode cX6_isWithin 0 = .ok (.iload_n 1, 1) := by decide +kernel
theorem dX6_isWithin_1 : decode cX6_isWithin 1 = .ok (.ifCond .ne 19, 3) := by decide +kernel
theorem dX6_isWithin_4 : decode cX6_isWithin 4 = .ok (.aload_n 0, 1) := by decide +kernel
theorem dX6_isWithin_5 : decode cX6_isWithin 5 = .ok (.getfield 35, 3) := by decide +kernel
theorem dX6_isWithin_8 : decode cX6_isWithin 8 = .ok (.iconst 0, 1) := by decide +kernel
theorem dX6_isWithin_9 : decode cX6_isWithin 9 = .ok (.laload, 1) := by decide +kernel
theorem dX6_isWithin_10 : decode cX6_isWithin 10 = .ok (.ldc2_w 87, 3) := by decide +kernel
theorem dX6_isWithin_13 : decode cX6_isWithin 13 = .ok (.ldc2_w 89, 3) := by decide +kernel
theorem dX6_isWithin_16 : decode cX6_isWithin 16 = .ok (.invokestatic 67, 3) := by decide +kernel
theorem dX6_isWithin_19 : decode cX6_isWithin 19 = .ok (.ireturn, 1) := by decide +kernel
theorem dX6_isWithin_20 : decode cX6_isWithin 20 = .ok (.iload_n 1, 1) := by decide +kernel
theorem dX6_isWithin_21 : decode cX6_isWithin 21 = .ok (.iconst 1, 1) := by decide +kernel
theorem dX6_isWithin_22 : decode cX6_isWithin 22 = .ok (.if_icmp .ne 13, 3) := by decide +kernel
theorem dX6_isWithin_25 : decode cX6_isWithin 25 = .ok (.aload_n 0, 1) := by decide +kernel
theorem dX6_isWithin_26 : decode cX6_isWithin 26 = .ok (.getfield 35, 3) := by decide +kernel
theorem dX6_isWithin_29 : decode cX6_isWithin 29 = .ok (.iconst 0, 1) := by decide +kernel
theorem dX6_isWithin_30 : decode cX6_isWithin 30 = .ok (.laload, 1) := by decide +kernel
theorem dX6_isWithin_31 : decode cX6_isWithin 31 = .ok (.invokestatic 81, 3) := by decide +kernel
theorem dX6_isWithin_34 : decode cX6_isWithin 34 = .ok (.ireturn, 1) := by decide +kernel
theorem dX6_isWithin_35 : decode cX6_isWithin 35 = .ok (.iload_n 1, 1) := by decide +kernel
theorem dX6_isWithin_36 : decode cX6_isWithin 36 = .ok (.iconst 2, 1) := by decide +kernel
theorem dX6_isWithin_37 : decode cX6_isWithin 37 = .ok (.if_icmp .ne 39, 3) := by decide +kernel
theorem dX6_isWithin_40 : decode cX6_isWithin 40 = .ok (.aload_n 0, 1) := by decide +kernel
theorem dX6_isWithin_41 : decode cX6_isWithin 41 = .ok (.getfield 35, 3) := by decide +kernel
theorem dX6_isWithin_44 : decode cX6_isWithin 44 = .ok (.iconst 0, 1) := by decide +kernel
theorem dX6_isWithin_45 : decode cX6_isWithin 45 = .ok (.laload, 1) := by decide +kernel
theorem dX6_isWithin_46 : decode cX6_isWithin 46 = .ok (.invokestatic 81, 3) := by decide +kernel
theorem dX6_isWithin_49 : decode cX6_isWithin 49 = .ok (.ifCond .eq 31, 3) := by decide +kernel
theorem dX6_isWithin_52 : decode cX6_isWithin 52 = .ok (.aload_n 0, 1) := by decide +kernel
theorem dX6_isWithin_53 : decode cX6_isWithin 53 = .ok (.getfield 35, 3) := by decide +kernel
theorem dX6_isWithin_56 : decode cX6_isWithin 56 = .ok (.iconst 1, 1) := by decide +kernel
theorem dX6_isWithin_57 : decode cX6_isWithin 57 = .ok (.laload, 1) := by decide +kernel
theorem dX6_isWithin_58 : decode cX6_isWithin 58 = .ok (.invokestatic 81, 3) := by decide +kernel
theorem dX6_isWithin_61 : decode cX6_isWithin 61 = .ok (.ifCond .eq 19, 3) := by decide +kernel
theorem dX6_isWithin_64 : decode cX6_isWithin 64 = .ok (.aload_n 0, 1) := by decide +kernel
theorem dX6_isWithin_65 : decode cX6_isWithin 65 = .ok (.getfield 35, 3) := by decide +kernel
theorem dX6_isWithin_68 : decode cX6_isWithin 68 = .ok (.iconst 3, 1) := by decide +kernel
theorem dX6_isWithin_69 : decode cX6_isWithin 69 = .ok (.laload, 1) := by decide +kernel
theorem dX6_isWithin_70 : decode cX6_isWithin 70 = .ok (.invokestatic 81, 3) := by decide +kernel
theorem dX6_isWithin_73 : decode cX6_isWithin 73 = .ok (.ifCond .eq 7, 3) := by decide +kernel
theorem dX6_isWithin_76 : decode cX6_isWithin 76 = .ok (.iconst 1, 1) := by decide +kernel
theorem dX6_isWithin_77 : decode cX6_isWithin 77 = .ok (.goto 4, 3) := by decide +kernel
theorem dX6_isWithin_80 : decode cX6_isWithin 80 = .ok (.iconst 0, 1) := by decide +kernel
theorem dX6_isWithin_81 : decode cX6_isWithin 81 = .ok (.ireturn, 1) := by decide +kernel
theorem dX6_isFull_0 : decode cX6_isFull 0 = .ok (.iload_n 2, 1) := by decide +kernel
theorem dX6_isFull_1 : decode cX6_isFull 1 = .ok (.ifCond .ne 30, 3) := by decide +kernel
theorem dX6_isFull_4 : decode cX6_isFull 4 = .ok (.aload_n 0, 1) := by decide +kernel
theorem dX6_isFull_5 : decode cX6_isFull 5 = .ok (.getfield 13, 3) := by decide +kernel
theorem dX6_isFull_8 : decode cX6_isFull 8 = .ok (.iload_n 1, 1) := by decide +kernel
theorem dX6_isFull_9 : decode cX6_isFull 9 = .ok (.iaload, 1) := by decide +kernel
theorem dX6_isFull_10 : decode cX6_isFull 10 = .ok (.aload_n 0, 1) := by decide +kernel
theorem dX6_isFull_11 : decode cX6_isFull 11 = .ok (.getfield 91, 3) := by decide +kernel
theorem dX6_isFull_14 : decode cX6_isFull 14 = .ok (.if_icmp .ge 17, 3) := by decide +kernel
theorem dX6_isFull_17 : decode cX6_isFull 17 = .ok (.aload_n 0, 1) := by decide +kernel
theorem dX6_isFull_18 : decode cX6_isFull 18 = .ok (.getfield 94, 3) := by decide +kernel
theorem dX6_isFull_21 : decode cX6_isFull 21 = .ok (.sipush 200, 3) := by decide +kernel
theorem dX6_isFull_24 : decode cX6_isFull 24 = .ok (.if_icmp .ne 7, 3) := by decide +kernel
theorem dX6_isFull_27 : decode cX6_isFull 27 = .ok (.iconst 1, 1) := by decide +kernel
theorem dX6_isFull_28 : decode cX6_isFull 28 = .ok (.goto 4, 3) := by decide +kernel
theorem dX6_isFull_31 : decode cX6_isFull 31 = .ok (.iconst 0, 1) := by decide +kernel
theorem dX6_isFull_32 : decode cX6_isFull 32 = .ok (.ireturn, 1) := by decide +kernel
theorem dX6_put_0 : decode cX6_put 0 = .ok (.iload_n 2, 1) := by decide +kernel
theorem dX6_put_1 : decode cX6_put 1 = .ok (.ifCond .ne 103, 3) := by decide +kernel
theorem dX6_put_4 : decode cX6_put 4 = .ok (.aload_n 0, 1) := by decide +kernel
theorem dX6_put_5 : decode cX6_put 5 = .ok (.getfield 13, 3) := by decide +kernel
theorem dX6_put_8 : decode cX6_put 8 = .ok (.iload_n 1, 1) := by decide +kernel
theorem dX6_put_9 : decode cX6_put 9 = .ok (.iaload, 1) := by decide +kernel
theorem dX6_put_10 : decode cX6_put 10 = .ok (.aload_n 0, 1) := by decide +kernel
theorem dX6_put_11 : decode cX6_put 11 = .ok (.getfield 91, 3) := by decide +kernel
theorem dX6_put_14 : decode cX6_put 14 = .ok (.if_icmp .ge 90, 3) := by decide +kernel
theorem dX6_put_17 : decode cX6_put 17 = .ok (.iconst 0, 1) := by decide +kernel
theorem dX6_put_18 : decode cX6_put 18 = .ok (.istore_n 3, 1) := by decide +kernel
theorem dX6_put_19 : decode cX6_put 19 = .ok (.iload_n 3, 1) := by decide +kernel
theorem dX6_put_20 : decode cX6_put 20 = .ok (.bipush 21, 2) := by decide +kernel
theorem dX6_put_22 : decode cX6_put 22 = .ok (.if_icmp .ge 34, 3) := by decide +kernel
theorem dX6_put_25 : decode cX6_put 25 = .ok (.aload_n 0, 1) := by decide +kernel
theorem dX6_put_26 : decode cX6_put 26 = .ok (.getfield 17, 3) := by decide +kernel
theorem dX6_put_29 : decode cX6_put 29 = .ok (.bipush 21, 2) := by decide +kernel
theorem dX6_put_31 : decode cX6_put 31 = .ok (.aload_n 0, 1) := by decide +kernel
theorem dX6_put_32 : decode cX6_put 32 = .ok (.getfield 94, 3) := by decide +kernel
theorem dX6_put_35 : decode cX6_put 35 = .ok (.imul, 1) := by decide +kernel
theorem dX6_put_36 : decode cX6_put 36 = .ok (.iload_n 3, 1) := by decide +kernel
theorem dX6_put_37 : decode cX6_put 37 = .ok (.iadd, 1) := by decide +kernel
theorem dX6_put_38 : decode cX6_put 38 = .ok (.aload_n 0, 1) := by decide +kernel
theorem dX6_put_39 : decode cX6_put 39 = .ok (.getfield 7, 3) := by decide +kernel
theorem dX6_put_42 : decode cX6_put 42 = .ok (.bipush 21, 2) := by decide +kernel
theorem dX6_put_44 : decode cX6_put 44 = .ok (.iload_n 1, 1) := by decide +kernel
theorem dX6_put_45 : decode cX6_put 45 = .ok (.imul, 1) := by decide +kernel
theorem dX6_put_46 : decode cX6_put 46 = .ok (.iload_n 3, 1) := by decide +kernel
theorem dX6_put_47 : decode cX6_put 47 = .ok (.iadd, 1) := by decide +kernel
theorem dX6_put_48 : decode cX6_put 48 = .ok (.laload, 1) := by decide +kernel
theorem dX6_put_49 : decode cX6_put 49 = .ok (.lastore, 1) := by decide +kernel
theorem dX6_put_50 : decode cX6_put 50 = .ok (.iinc 3 1, 3) := by decide +kernel
theorem dX6_put_53 : decode cX6_put 53 = .ok (.goto (-34), 3) := by decide +kernel
theorem dX6_put_56 : decode cX6_put 56 = .ok (.aload_n 0, 1) := by decide +kernel
theorem dX6_put_57 : decode cX6_put 57 = .ok (.getfield 20, 3) := by decide +kernel
theorem dX6_put_60 : decode cX6_put 60 = .ok (.aload_n 0, 1) := by decide +kernel
theorem dX6_put_61 : decode cX6_put 61 = .ok (.getfield 94, 3) := by decide +kernel
theorem dX6_put_64 : decode cX6_put 64 = .ok (.iload_n 1, 1) := by decide +kernel
theorem dX6_put_65 : decode cX6_put 65 = .ok (.iastore, 1) := by decide +kernel
theorem dX6_put_66 : decode cX6_put 66 = .ok (.aload_n 0, 1) := by decide +kernel
theorem dX6_put_67 : decode cX6_put 67 = .ok (.getfield 23, 3) := by decide +kernel
theorem dX6_put_70 : decode cX6_put 70 = .ok (.aload_n 0, 1) := by decide +kernel
theorem dX6_put_71 : decode cX6_put 71 = .ok (.getfield 94, 3) := by decide +kernel
theorem dX6_put_74 : decode cX6_put 74 = .ok (.aload_n 0, 1) := by decide +kernel
theorem dX6_put_75 : decode cX6_put 75 = .ok (.getfield 13, 3) := by decide +kernel
theorem dX6_put_78 : decode cX6_put 78 = .ok (.iload_n 1, 1) := by decide +kernel
theorem dX6_put_79 : decode cX6_put 79 = .ok (.iaload, 1) := by decide +kernel
theorem dX6_put_80 : decode cX6_put 80 = .ok (.iastore, 1) := by decide +kernel
theorem dX6_put_81 : decode cX6_put 81 = .ok (.aload_n 0, 1) := by decide +kernel
theorem dX6_put_82 : decode cX6_put 82 = .ok (.getfield 26, 3) := by decide +kernel
theorem dX6_put_85 : decode cX6_put 85 = .ok (.aload_n 0, 1) := by decide +kernel
theorem dX6_put_86 : decode cX6_put 86 = .ok (.getfield 94, 3) := by decide +kernel
theorem dX6_put_89 : decode cX6_put 89 = .ok (.aload_n 0, 1) := by decide +kernel
theorem dX6_put_90 : decode cX6_put 90 = .ok (.getfield 91, 3) := by decide +kernel
theorem dX6_put_93 : decode cX6_put 93 = .ok (.iastore, 1) := by decide +kernel
theorem dX6_put_94 : decode cX6_put 94 = .ok (.aload_n 0, 1) := by decide +kernel
theorem dX6_put_95 : decode cX6_put 95 = .ok (.dup, 1) := by decide +kernel
theorem dX6_put_96 : decode cX6_put 96 = .ok (.getfield 94, 3) := by decide +kernel
theorem dX6_put_99 : decode cX6_put 99 = .ok (.iconst 1, 1) := by decide +kernel
theorem dX6_put_100 : decode cX6_put 100 = .ok (.iadd, 1) := by decide +kernel
theorem dX6_put_101 : decode cX6_put 101 = .ok (.putfield 94, 3) := by decide +kernel
theorem dX6_put_104 : decode cX6_put 104 = .ok (.iconst 0, 1) := by decide +kernel
theorem dX6_put_105 : decode cX6_put 105 = .ok (.istore_n 3, 1) := by decide +kernel
theorem dX6_put_106 : decode cX6_put 106 = .ok (.iload_n 3, 1) := by decide +kernel
theorem dX6_put_107 : decode cX6_put 107 = .ok (.bipush 21, 2) := by decide +kernel
theorem dX6_put_109 : decode cX6_put 109 = .ok (.if_icmp .ge 26, 3) := by decide +kernel
theorem dX6_put_112 : decode cX6_put 112 = .ok (.aload_n 0, 1) := by decide +kernel
theorem dX6_put_113 : decode cX6_put 113 = .ok (.getfield 7, 3) := by decide +kernel
theorem dX6_put_116 : decode cX6_put 116 = .ok (.bipush 21, 2) := by decide +kernel
theorem dX6_put_118 : decode cX6_put 118 = .ok (.iload_n 1, 1) := by decide +kernel
theorem dX6_put_119 : decode cX6_put 119 = .ok (.imul, 1) := by decide +kernel
theorem dX6_put_120 : decode cX6_put 120 = .ok (.iload_n 3, 1) := by decide +kernel
theorem dX6_put_121 : decode cX6_put 121 = .ok (.iadd, 1) := by decide +kernel
theorem dX6_put_122 : decode cX6_put 122 = .ok (.aload_n 0, 1) := by decide +kernel
theorem dX6_put_123 : decode cX6_put 123 = .ok (.getfield 35, 3) := by decide +kernel
theorem dX6_put_126 : decode cX6_put 126 = .ok (.iload_n 3, 1) := by decide +kernel
theorem dX6_put_127 : decode cX6_put 127 = .ok (.laload, 1) := by decide +kernel
theorem dX6_put_128 : decode cX6_put 128 = .ok (.lastore, 1) := by decide +kernel
theorem dX6_put_129 : decode cX6_put 129 = .ok (.iinc 3 1, 3) := by decide +kernel
theorem dX6_put_132 : decode cX6_put 132 = .ok (.goto (-26), 3) := by decide +kernel
theorem dX6_put_135 : decode cX6_put 135 = .ok (.aload_n 0, 1) := by decide +kernel
theorem dX6_put_136 : decode cX6_put 136 = .ok (.getfield 13, 3) := by decide +kernel
theorem dX6_put_139 : decode cX6_put 139 = .ok (.iload_n 1, 1) := by decide +kernel
theorem dX6_put_140 : decode cX6_put 140 = .ok (.iload_n 2, 1) := by decide +kernel
theorem dX6_put_141 : decode cX6_put 141 = .ok (.ifCond .eq 7, 3) := by decide +kernel
theorem dX6_put_144 : decode cX6_put 144 = .ok (.iconst 0, 1) := by decide +kernel
theorem dX6_put_145 : decode cX6_put 145 = .ok (.goto 7, 3) := by decide +kernel
theorem dX6_put_148 : decode cX6_put 148 = .ok (.aload_n 0, 1) := by decide +kernel
theorem dX6_put_149 : decode cX6_put 149 = .ok (.getfield 91, 3) := by decide +kernel
theorem dX6_put_152 : decode cX6_put 152 = .ok (.iastore, 1) := by decide +kernel
theorem dX6_put_153 : decode cX6_put 153 = .ok (.return_, 1) := by decide +kernel
theorem dX6_finish_0 : decode cX6_finish 0 = .ok (.aload_n 0, 1) := by decide +kernel
theorem dX6_finish_1 : decode cX6_finish 1 = .ok (.iload_n 1, 1) := by decide +kernel
theorem dX6_finish_2 : decode cX6_finish 2 = .ok (.invokevirtual 97, 3) := by decide +kernel
theorem dX6_finish_5 : decode cX6_finish 5 = .ok (.ifCond .ne 5, 3) := by decide +kernel
theorem dX6_finish_8 : decode cX6_finish 8 = .ok (.iconst 0, 1) := by decide +kernel
theorem dX6_finish_9 : decode cX6_finish 9 = .ok (.ireturn, 1) := by decide +kernel
theorem dX6_finish_10 : decode cX6_finish 10 = .ok (.bipush 32, 2) := by decide +kernel
theorem dX6_finish_12 : decode cX6_finish 12 = .ok (.iload_n 1, 1) := by decide +kernel
theorem dX6_finish_13 : decode cX6_finish 13 = .ok (.imul, 1) := by decide +kernel
theorem dX6_finish_14 : decode cX6_finish 14 = .ok (.iload_n 2, 1) := by decide +kernel
theorem dX6_finish_15 : decode cX6_finish 15 = .ok (.iadd, 1) := by decide +kernel
theorem dX6_finish_16 : decode cX6_finish 16 = .ok (.istore 5, 2) := by decide +kernel
theorem dX6_finish_18 : decode cX6_finish 18 = .ok (.aload_n 0, 1) := by decide +kernel
theorem dX6_finish_19 : decode cX6_finish 19 = .ok (.aload_n 0, 1) := by decide +kernel
theorem dX6_finish_20 : decode cX6_finish 20 = .ok (.iload 5, 2) := by decide +kernel
theorem dX6_finish_22 : decode cX6_finish 22 = .ok (.iload_n 3, 1) := by decide +kernel
theorem dX6_finish_23 : decode cX6_finish 23 = .ok (.invokevirtual 101, 3) := by decide +kernel
theorem dX6_finish_26 : decode cX6_finish 26 = .ok (.ifCond .eq 8, 3) := by decide +kernel
theorem dX6_finish_29 : decode cX6_finish 29 = .ok (.iload 4, 2) := by decide +kernel
theorem dX6_finish_31 : decode cX6_finish 31 = .ok (.goto 4, 3) := by decide +kernel
theorem dX6_finish_34 : decode cX6_finish 34 = .ok (.iconst 0, 1) := by decide +kernel
theorem dX6_finish_35 : decode cX6_finish 35 = .ok (.putfield 61, 3) := by decide +kernel
theorem dX6_finish_38 : decode cX6_finish 38 = .ok (.aload_n 0, 1) := by decide +kernel
theorem dX6_finish_39 : decode cX6_finish 39 = .ok (.getfield 61, 3) := by decide +kernel
theorem dX6_finish_42 : decode cX6_finish 42 = .ok (.ifCond .le 5, 3) := by decide +kernel
theorem dX6_finish_45 : decode cX6_finish 45 = .ok (.iconst 0, 1) := by decide +kernel
theorem dX6_finish_46 : decode cX6_finish 46 = .ok (.ireturn, 1) := by decide +kernel
theorem dX6_finish_47 : decode cX6_finish 47 = .ok (.aload_n 0, 1) := by decide +kernel
theorem dX6_finish_48 : decode cX6_finish 48 = .ok (.iload 5, 2) := by decide +kernel
theorem dX6_finish_50 : decode cX6_finish 50 = .ok (.iload_n 3, 1) := by decide +kernel
theorem dX6_finish_51 : decode cX6_finish 51 = .ok (.invokevirtual 105, 3) := by decide +kernel
theorem dX6_finish_54 : decode cX6_finish 54 = .ok (.iconst 1, 1) := by decide +kernel
theorem dX6_finish_55 : decode cX6_finish 55 = .ok (.ireturn, 1) := by decide +kernel
theorem dX6_fetch_0 : decode cX6_fetch 0 = .ok (.iconst 0, 1) := by decide +kernel
theorem dX6_fetch_1 : decode cX6_fetch 1 = .ok (.istore_n 3, 1) := by decide +kernel
theorem dX6_fetch_2 : decode cX6_fetch 2 = .ok (.iload_n 3, 1) := by decide +kernel
theorem dX6_fetch_3 : decode cX6_fetch 3 = .ok (.bipush 21, 2) := by decide +kernel
theorem dX6_fetch_5 : decode cX6_fetch 5 = .ok (.if_icmp .ge 31, 3) := by decide +kernel
theorem dX6_fetch_8 : decode cX6_fetch 8 = .ok (.aload_n 0, 1) := by decide +kernel
theorem dX6_fetch_9 : decode cX6_fetch 9 = .ok (.getfield 35, 3) := by decide +kernel
theorem dX6_fetch_12 : decode cX6_fetch 12 = .ok (.iload_n 3, 1) := by decide +kernel
theorem dX6_fetch_13 : decode cX6_fetch 13 = .ok (.aload_n 0, 1) := by decide +kernel
theorem dX6_fetch_14 : decode cX6_fetch 14 = .ok (.getfield 7, 3) := by decide +kernel
theorem dX6_fetch_17 : decode cX6_fetch 17 = .ok (.bipush 21, 2) := by decide +kernel
theorem dX6_fetch_19 : decode cX6_fetch 19 = .ok (.bipush 32, 2) := by decide +kernel
theorem dX6_fetch_21 : decode cX6_fetch 21 = .ok (.iload_n 1, 1) := by decide +kernel
theorem dX6_fetch_22 : decode cX6_fetch 22 = .ok (.imul, 1) := by decide +kernel
theorem dX6_fetch_23 : decode cX6_fetch 23 = .ok (.iload_n 2, 1) := by decide +kernel
theorem dX6_fetch_24 : decode cX6_fetch 24 = .ok (.iadd, 1) := by decide +kernel
theorem dX6_fetch_25 : decode cX6_fetch 25 = .ok (.imul, 1) := by decide +kernel
theorem dX6_fetch_26 : decode cX6_fetch 26 = .ok (.iload_n 3, 1) := by decide +kernel
theorem dX6_fetch_27 : decode cX6_fetch 27 = .ok (.iadd, 1) := by decide +kernel
theorem dX6_fetch_28 : decode cX6_fetch 28 = .ok (.laload, 1) := by decide +kernel
theorem dX6_fetch_29 : decode cX6_fetch 29 = .ok (.lastore, 1) := by decide +kernel
theorem dX6_fetch_30 : decode cX6_fetch 30 = .ok (.iinc 3 1, 3) := by decide +kernel
theorem dX6_fetch_33 : decode cX6_fetch 33 = .ok (.goto (-31), 3) := by decide +kernel
theorem dX6_fetch_36 : decode cX6_fetch 36 = .ok (.return_, 1) := by decide +kernel
theorem dX6_set_0 : decode cX6_set 0 = .ok (.aload_n 0, 1) := by decide +kernel
theorem dX6_set_1 : decode cX6_set 1 = .ok (.iload_n 1, 1) := by decide +kernel
theorem dX6_set_2 : decode cX6_set 2 = .ok (.invokestatic 109, 3) := by decide +kernel
theorem dX6_set_5 : decode cX6_set 5 = .ok (.ifCond .eq 21, 3) := by decide +kernel
theorem dX6_set_8 : decode cX6_set 8 = .ok (.iload_n 1, 1) := by decide +kernel
theorem dX6_set_9 : decode cX6_set 9 = .ok (.iconst 4, 1) := by decide +kernel
theorem dX6_set_10 : decode cX6_set 10 = .ok (.if_icmp .ne 20, 3) := by decide +kernel
theorem dX6_set_13 : decode cX6_set 13 = .ok (.lload_n 3, 1) := by decide +kernel
theorem dX6_set_14 : decode cX6_set 14 = .ok (.ldc2_w 59, 3) := by decide +kernel
theorem dX6_set_17 : decode cX6_set 17 = .ok (.ldc2_w 112, 3) := by decide +kernel
theorem dX6_set_20 : decode cX6_set 20 = .ok (.invokestatic 67, 3) := by decide +kernel
theorem dX6_set_23 : decode cX6_set 23 = .ok (.ifCond .ne 7, 3) := by decide +kernel
theorem dX6_set_26 : decode cX6_set 26 = .ok (.iconst 1, 1) := by decide +kernel
theorem dX6_set_27 : decode cX6_set 27 = .ok (.goto 15, 3) := by decide +kernel
theorem dX6_set_30 : decode cX6_set 30 = .ok (.iload_n 2, 1) := by decide +kernel
theorem dX6_set_31 : decode cX6_set 31 = .ok (.invokestatic 114, 3) := by decide +kernel
theorem dX6_set_34 : decode cX6_set 34 = .ok (.ifCond .ne 7, 3) := by decide +kernel
theorem dX6_set_37 : decode cX6_set 37 = .ok (.iconst 2, 1) := by decide +kernel
theorem dX6_set_38 : decode cX6_set 38 = .ok (.goto 4, 3) := by decide +kernel
theorem dX6_set_41 : decode cX6_set 41 = .ok (.iconst 0, 1) := by decide +kernel
theorem dX6_set_42 : decode cX6_set 42 = .ok (.putfield 61, 3) := by decide +kernel
theorem dX6_set_45 : decode cX6_set 45 = .ok (.aload_n 0, 1) := by decide +kernel
theorem dX6_set_46 : decode cX6_set 46 = .ok (.getfield 61, 3) := by decide +kernel
theorem dX6_set_49 : decode cX6_set 49 = .ok (.ifCond .le 5, 3) := by decide +kernel
theorem dX6_set_52 : decode cX6_set 52 = .ok (.iconst 0, 1) := by decide +kernel
theorem dX6_set_53 : decode cX6_set 53 = .ok (.ireturn, 1) := by decide +kernel
theorem dX6_set_54 : decode cX6_set 54 = .ok (.iconst 0, 1) := by decide +kernel
theorem dX6_set_55 : decode cX6_set 55 = .ok (.istore 6, 2) := by decide +kernel
theorem dX6_set_57 : decode cX6_set 57 = .ok (.iload 6, 2) := by decide +kernel
theorem dX6_set_59 : decode cX6_set 59 = .ok (.bipush 21, 2) := by decide +kernel
theorem dX6_set_61 : decode cX6_set 61 = .ok (.if_icmp .ge 66, 3) := by decide +kernel
theorem dX6_set_64 : decode cX6_set 64 = .ok (.aload_n 0, 1) := by decide +kernel
theorem dX6_set_65 : decode cX6_set 65 = .ok (.getfield 35, 3) := by decide +kernel
theorem dX6_set_68 : decode cX6_set 68 = .ok (.iload 6, 2) := by decide +kernel
theorem dX6_set_70 : decode cX6_set 70 = .ok (.iload_n 1, 1) := by decide +kernel
theorem dX6_set_71 : decode cX6_set 71 = .ok (.iconst 3, 1) := by decide +kernel
theorem dX6_set_72 : decode cX6_set 72 = .ok (.if_icmp .ne 13, 3) := by decide +kernel
theorem dX6_set_75 : decode cX6_set 75 = .ok (.aload_n 0, 1) := by decide +kernel
theorem dX6_set_76 : decode cX6_set 76 = .ok (.getfield 32, 3) := by decide +kernel
theorem dX6_set_79 : decode cX6_set 79 = .ok (.iload 6, 2) := by decide +kernel
theorem dX6_set_81 : decode cX6_set 81 = .ok (.laload, 1) := by decide +kernel
theorem dX6_set_82 : decode cX6_set 82 = .ok (.goto 38, 3) := by decide +kernel
theorem dX6_set_85 : decode cX6_set 85 = .ok (.iload_n 1, 1) := by decide +kernel
theorem dX6_set_86 : decode cX6_set 86 = .ok (.iconst 2, 1) := by decide +kernel
theorem dX6_set_87 : decode cX6_set 87 = .ok (.if_icmp .ne 23, 3) := by decide +kernel
theorem dX6_set_90 : decode cX6_set 90 = .ok (.iload 6, 2) := by decide +kernel
theorem dX6_set_92 : decode cX6_set 92 = .ok (.iconst 5, 1) := by decide +kernel
theorem dX6_set_93 : decode cX6_set 93 = .ok (.if_icmp .ge 13, 3) := by decide +kernel
theorem dX6_set_96 : decode cX6_set 96 = .ok (.aload_n 0, 1) := by decide +kernel
theorem dX6_set_97 : decode cX6_set 97 = .ok (.getfield 29, 3) := by decide +kernel
theorem dX6_set_100 : decode cX6_set 100 = .ok (.iload 6, 2) := by decide +kernel
theorem dX6_set_102 : decode cX6_set 102 = .ok (.laload, 1) := by decide +kernel
theorem dX6_set_103 : decode cX6_set 103 = .ok (.goto 17, 3) := by decide +kernel
theorem dX6_set_106 : decode cX6_set 106 = .ok (.lconst 0, 1) := by decide +kernel
theorem dX6_set_107 : decode cX6_set 107 = .ok (.goto 13, 3) := by decide +kernel
theorem dX6_set_110 : decode cX6_set 110 = .ok (.iload 6, 2) := by decide +kernel
theorem dX6_set_112 : decode cX6_set 112 = .ok (.ifCond .ne 7, 3) := by decide +kernel
theorem dX6_set_115 : decode cX6_set 115 = .ok (.lload_n 3, 1) := by decide +kernel
theorem dX6_set_116 : decode cX6_set 116 = .ok (.goto 4, 3) := by decide +kernel
theorem dX6_set_119 : decode cX6_set 119 = .ok (.lconst 0, 1) := by decide +kernel
theorem dX6_set_120 : decode cX6_set 120 = .ok (.lastore, 1) := by decide +kernel
theorem dX6_set_121 : decode cX6_set 121 = .ok (.iinc 6 1, 3) := by decide +kernel
theorem dX6_set_124 : decode cX6_set 124 = .ok (.goto (-67), 3) := by decide +kernel
theorem dX6_set_127 : decode cX6_set 127 = .ok (.aload_n 0, 1) := by decide +kernel
theorem dX6_set_128 : decode cX6_set 128 = .ok (.iload_n 1, 1) := by decide +kernel
theorem dX6_set_129 : decode cX6_set 129 = .ok (.iload_n 2, 1) := by decide +kernel
theorem dX6_set_130 : decode cX6_set 130 = .ok (.iload 5, 2) := by decide +kernel
theorem dX6_set_132 : decode cX6_set 132 = .ok (.iconst 3, 1) := by decide +kernel
theorem dX6_set_133 : decode cX6_set 133 = .ok (.invokevirtual 117, 3) := by decide +kernel
theorem dX6_set_136 : decode cX6_set 136 = .ok (.istore 6, 2) := by decide +kernel
theorem dX6_set_138 : decode cX6_set 138 = .ok (.iload 6, 2) := by decide +kernel
theorem dX6_set_140 : decode cX6_set 140 = .ok (.iconst 1, 1) := by decide +kernel
theorem dX6_set_141 : decode cX6_set 141 = .ok (.if_icmp .ne 15, 3) := by decide +kernel
theorem dX6_set_144 : decode cX6_set 144 = .ok (.iload_n 1, 1) := by decide +kernel
theorem dX6_set_145 : decode cX6_set 145 = .ok (.iconst 3, 1) := by decide +kernel
theorem dX6_set_146 : decode cX6_set 146 = .ok (.if_icmp .ne 10, 3) := by decide +kernel
theorem dX6_set_149 : decode cX6_set 149 = .ok (.aload_n 0, 1) := by decide +kernel
theorem dX6_set_150 : decode cX6_set 150 = .ok (.getfield 32, 3) := by decide +kernel
theorem dX6_set_153 : decode cX6_set 153 = .ok (.iconst 0, 1) := by decide +kernel
theorem dX6_set_154 : decode cX6_set 154 = .ok (.lconst 0, 1) := by decide +kernel
theorem dX6_set_155 : decode cX6_set 155 = .ok (.lastore, 1) := by decide +kernel
theorem dX6_set_156 : decode cX6_set 156 = .ok (.iload 6, 2) := by decide +kernel
theorem dX6_set_158 : decode cX6_set 158 = .ok (.ireturn, 1) := by decide +kernel
theorem dX6_addPart_0 : decode cX6_addPart 0 = .ok (.aload_n 0, 1) := by decide +kernel
theorem dX6_addPart_1 : decode cX6_addPart 1 = .ok (.getfield 7, 3) := by decide +kernel
theorem dX6_addPart_4 : decode cX6_addPart 4 = .ok (.bipush 21, 2) := by decide +kernel
theorem dX6_addPart_6 : decode cX6_addPart 6 = .ok (.bipush 64, 2) := by decide +kernel
theorem dX6_addPart_8 : decode cX6_addPart 8 = .ok (.iload_n 1, 1) := by decide +kernel
theorem dX6_addPart_9 : decode cX6_addPart 9 = .ok (.iadd, 1) := by decide +kernel
theorem dX6_addPart_10 : decode cX6_addPart 10 = .ok (.imul, 1) := by decide +kernel
theorem dX6_addPart_11 : decode cX6_addPart 11 = .ok (.iload_n 2, 1) := by decide +kernel
theorem dX6_addPart_12 : decode cX6_addPart 12 = .ok (.iadd, 1) := by decide +kernel
theorem dX6_addPart_13 : decode cX6_addPart 13 = .ok (.laload, 1) := by decide +kernel
theorem dX6_addPart_14 : decode cX6_addPart 14 = .ok (.lstore_n 3, 1) := by decide +kernel
theorem dX6_addPart_15 : decode cX6_addPart 15 = .ok (.aload_n 0, 1) := by decide +kernel
theorem dX6_addPart_16 : decode cX6_addPart 16 = .ok (.getfield 7, 3) := by decide +kernel
theorem dX6_addPart_19 : decode cX6_addPart 19 = .ok (.bipush 21, 2) := by decide +kernel
theorem dX6_addPart_21 : decode cX6_addPart 21 = .ok (.bipush 64, 2) := by decide +kernel
theorem dX6_addPart_23 : decode cX6_addPart 23 = .ok (.iload_n 1, 1) := by decide +kernel
theorem dX6_addPart_24 : decode cX6_addPart 24 = .ok (.iadd, 1) := by decide +kernel
theorem dX6_addPart_25 : decode cX6_addPart 25 = .ok (.imul, 1) := by decide +kernel
theorem dX6_addPart_26 : decode cX6_addPart 26 = .ok (.iload_n 2, 1) := by decide +kernel
theorem dX6_addPart_27 : decode cX6_addPart 27 = .ok (.iadd, 1) := by decide +kernel
theorem dX6_addPart_28 : decode cX6_addPart 28 = .ok (.iconst 1, 1) := by decide +kernel
theorem dX6_addPart_29 : decode cX6_addPart 29 = .ok (.iadd, 1) := by decide +kernel
theorem dX6_addPart_30 : decode cX6_addPart 30 = .ok (.laload, 1) := by decide +kernel
theorem dX6_addPart_31 : decode cX6_addPart 31 = .ok (.lstore 5, 2) := by decide +kernel
theorem dX6_addPart_33 : decode cX6_addPart 33 = .ok (.aload_n 0, 1) := by decide +kernel
theorem dX6_addPart_34 : decode cX6_addPart 34 = .ok (.getfield 35, 3) := by decide +kernel
theorem dX6_addPart_37 : decode cX6_addPart 37 = .ok (.iload_n 2, 1) := by decide +kernel
theorem dX6_addPart_38 : decode cX6_addPart 38 = .ok (.laload, 1) := by decide +kernel
theorem dX6_addPart_39 : decode cX6_addPart 39 = .ok (.lconst 0, 1) := by decide +kernel
theorem dX6_addPart_40 : decode cX6_addPart 40 = .ok (.lcmp, 1) := by decide +kernel
theorem dX6_addPart_41 : decode cX6_addPart 41 = .ok (.ifCond .ne 7, 3) := by decide +kernel
theorem dX6_addPart_44 : decode cX6_addPart 44 = .ok (.lconst 0, 1) := by decide +kernel
theorem dX6_addPart_45 : decode cX6_addPart 45 = .ok (.goto 11, 3) := by decide +kernel
theorem dX6_addPart_48 : decode cX6_addPart 48 = .ok (.aload_n 0, 1) := by decide +kernel
theorem dX6_addPart_49 : decode cX6_addPart 49 = .ok (.getfield 35, 3) := by decide +kernel
theorem dX6_addPart_52 : decode cX6_addPart 52 = .ok (.iload_n 2, 1) := by decide +kernel
theorem dX6_addPart_53 : decode cX6_addPart 53 = .ok (.iconst 1, 1) := by decide +kernel
theorem dX6_addPart_54 : decode cX6_addPart 54 = .ok (.iadd, 1) := by decide +kernel
theorem dX6_addPart_55 : decode cX6_addPart 55 = .ok (.laload, 1) := by decide +kernel
theorem dX6_addPart_56 : decode cX6_addPart 56 = .ok (.lstore 7, 2) := by decide +kernel
theorem dX6_addPart_58 : decode cX6_addPart 58 = .ok (.lload 5, 2) := by decide +kernel
theorem dX6_addPart_60 : decode cX6_addPart 60 = .ok (.lload 7, 2) := by decide +kernel
theorem dX6_addPart_62 : decode cX6_addPart 62 = .ok (.lcmp, 1) := by decide +kernel
theorem dX6_addPart_63 : decode cX6_addPart 63 = .ok (.ifCond .ne 30, 3) := by decide +kernel
theorem dX6_addPart_66 : decode cX6_addPart 66 = .ok (.aload_n 0, 1) := by decide +kernel
theorem dX6_addPart_67 : decode cX6_addPart 67 = .ok (.getfield 35, 3) := by decide +kernel
theorem dX6_addPart_70 : decode cX6_addPart 70 = .ok (.iload_n 2, 1) := by decide +kernel
theorem dX6_addPart_71 : decode cX6_addPart 71 = .ok (.aload_n 0, 1) := by decide +kernel
theorem dX6_addPart_72 : decode cX6_addPart 72 = .ok (.getfield 35, 3) := by decide +kernel
theorem dX6_addPart_75 : decode cX6_addPart 75 = .ok (.iload_n 2, 1) := by decide +kernel
theorem dX6_addPart_76 : decode cX6_addPart 76 = .ok (.laload, 1) := by decide +kernel
theorem dX6_addPart_77 : decode cX6_addPart 77 = .ok (.lload_n 3, 1) := by decide +kernel
theorem dX6_addPart_78 : decode cX6_addPart 78 = .ok (.ladd, 1) := by decide +kernel
theorem dX6_addPart_79 : decode cX6_addPart 79 = .ok (.lastore, 1) := by decide +kernel
theorem dX6_addPart_80 : decode cX6_addPart 80 = .ok (.aload_n 0, 1) := by decide +kernel
theorem dX6_addPart_81 : decode cX6_addPart 81 = .ok (.getfield 35, 3) := by decide +kernel
theorem dX6_addPart_84 : decode cX6_addPart 84 = .ok (.iload_n 2, 1) := by decide +kernel
theorem dX6_addPart_85 : decode cX6_addPart 85 = .ok (.iconst 1, 1) := by decide +kernel
theorem dX6_addPart_86 : decode cX6_addPart 86 = .ok (.iadd, 1) := by decide +kernel
theorem dX6_addPart_87 : decode cX6_addPart 87 = .ok (.lload 7, 2) := by decide +kernel
theorem dX6_addPart_89 : decode cX6_addPart 89 = .ok (.lastore, 1) := by decide +kernel
theorem dX6_addPart_90 : decode cX6_addPart 90 = .ok (.goto 34, 3) := by decide +kernel
theorem dX6_addPart_93 : decode cX6_addPart 93 = .ok (.lload 5, 2) := by decide +kernel
theorem dX6_addPart_95 : decode cX6_addPart 95 = .ok (.lload 7, 2) := by decide +kernel
theorem dX6_addPart_97 : decode cX6_addPart 97 = .ok (.lcmp, 1) := by decide +kernel
theorem dX6_addPart_98 : decode cX6_addPart 98 = .ok (.ifCond .le 26, 3) := by decide +kernel
theorem dX6_addPart_101 : decode cX6_addPart 101 = .ok (.lload_n 3, 1) := by decide +kernel
theorem dX6_addPart_102 : decode cX6_addPart 102 = .ok (.lconst 0, 1) := by decide +kernel
theorem dX6_addPart_103 : decode cX6_addPart 103 = .ok (.lcmp, 1) := by decide +kernel
theorem dX6_addPart_104 : decode cX6_addPart 104 = .ok (.ifCond .eq 20, 3) := by decide +kernel
theorem dX6_addPart_107 : decode cX6_addPart 107 = .ok (.aload_n 0, 1) := by decide +kernel
theorem dX6_addPart_108 : decode cX6_addPart 108 = .ok (.getfield 35, 3) := by decide +kernel
theorem dX6_addPart_111 : decode cX6_addPart 111 = .ok (.iload_n 2, 1) := by decide +kernel
theorem dX6_addPart_112 : decode cX6_addPart 112 = .ok (.lload_n 3, 1) := by decide +kernel
theorem dX6_addPart_113 : decode cX6_addPart 113 = .ok (.lastore, 1) := by decide +kernel
theorem dX6_addPart_114 : decode cX6_addPart 114 = .ok (.aload_n 0, 1) := by decide +kernel
theorem dX6_addPart_115 : decode cX6_addPart 115 = .ok (.getfield 35, 3) := by decide +kernel
theorem dX6_addPart_118 : decode cX6_addPart 118 = .ok (.iload_n 2, 1) := by decide +kernel
theorem dX6_addPart_119 : decode cX6_addPart 119 = .ok (.iconst 1, 1) := by decide +kernel
theorem dX6_addPart_120 : decode cX6_addPart 120 = .ok (.iadd, 1) := by decide +kernel
theorem dX6_addPart_121 : decode cX6_addPart 121 = .ok (.lload 5, 2) := by decide +kernel
theorem dX6_addPart_123 : decode cX6_addPart 123 = .ok (.lastore, 1) := by decide +kernel
theorem dX6_addPart_124 : decode cX6_addPart 124 = .ok (.return_, 1) := by decide +kernel
theorem dX6_add_0 : decode cX6_add 0 = .ok (.aload_n 0, 1) := by decide +kernel
theorem dX6_add_1 : decode cX6_add 1 = .ok (.iload_n 1, 1) := by decide +kernel
theorem dX6_add_2 : decode cX6_add 2 = .ok (.i2l, 1) := by decide +kernel
theorem dX6_add_3 : decode cX6_add 3 = .ok (.lconst 0, 1) := by decide +kernel
theorem dX6_add_4 : decode cX6_add 4 = .ok (.ldc2_w 121, 3) := by decide +kernel
theorem dX6_add_7 : decode cX6_add 7 = .ok (.invokestatic 67, 3) := by decide +kernel
theorem dX6_add_10 : decode cX6_add 10 = .ok (.ifCond .ne 7, 3) := by decide +kernel
theorem dX6_add_13 : decode cX6_add 13 = .ok (.iconst 1, 1) := by decide +kernel
theorem dX6_add_14 : decode cX6_add 14 = .ok (.goto 31, 3) := by decide +kernel
theorem dX6_add_17 : decode cX6_add 17 = .ok (.iload_n 2, 1) := by decide +kernel
theorem dX6_add_18 : decode cX6_add 18 = .ok (.invokestatic 114, 3) := by decide +kernel
theorem dX6_add_21 : decode cX6_add 21 = .ok (.ifCond .eq 19, 3) := by decide +kernel
theorem dX6_add_24 : decode cX6_add 24 = .ok (.iload_n 1, 1) := by decide +kernel
theorem dX6_add_25 : decode cX6_add 25 = .ok (.iconst 2, 1) := by decide +kernel
theorem dX6_add_26 : decode cX6_add 26 = .ok (.if_icmp .ne 18, 3) := by decide +kernel
theorem dX6_add_29 : decode cX6_add 29 = .ok (.lload_n 3, 1) := by decide +kernel
theorem dX6_add_30 : decode cX6_add 30 = .ok (.lconst 0, 1) := by decide +kernel
theorem dX6_add_31 : decode cX6_add 31 = .ok (.ldc2_w 71, 3) := by decide +kernel
theorem dX6_add_34 : decode cX6_add 34 = .ok (.invokestatic 67, 3) := by decide +kernel
theorem dX6_add_37 : decode cX6_add 37 = .ok (.ifCond .ne 7, 3) := by decide +kernel
theorem dX6_add_40 : decode cX6_add 40 = .ok (.iconst 2, 1) := by decide +kernel
theorem dX6_add_41 : decode cX6_add 41 = .ok (.goto 4, 3) := by decide +kernel
theorem dX6_add_44 : decode cX6_add 44 = .ok (.iconst 0, 1) := by decide +kernel
theorem dX6_add_45 : decode cX6_add 45 = .ok (.putfield 61, 3) := by decide +kernel
theorem dX6_add_48 : decode cX6_add 48 = .ok (.aload_n 0, 1) := by decide +kernel
theorem dX6_add_49 : decode cX6_add 49 = .ok (.getfield 61, 3) := by decide +kernel
theorem dX6_add_52 : decode cX6_add 52 = .ok (.ifCond .le 5, 3) := by decide +kernel
theorem dX6_add_55 : decode cX6_add 55 = .ok (.iconst 0, 1) := by decide +kernel
theorem dX6_add_56 : decode cX6_add 56 = .ok (.ireturn, 1) := by decide +kernel
theorem dX6_add_57 : decode cX6_add 57 = .ok (.aload_n 0, 1) := by decide +kernel
theorem dX6_add_58 : decode cX6_add 58 = .ok (.iload_n 1, 1) := by decide +kernel
theorem dX6_add_59 : decode cX6_add 59 = .ok (.iload_n 2, 1) := by decide +kernel
theorem dX6_add_60 : decode cX6_add 60 = .ok (.invokevirtual 123, 3) := by decide +kernel
theorem dX6_add_63 : decode cX6_add 63 = .ok (.iload_n 1, 1) := by decide +kernel
theorem dX6_add_64 : decode cX6_add 64 = .ok (.iconst 2, 1) := by decide +kernel
theorem dX6_add_65 : decode cX6_add 65 = .ok (.if_icmp .ne 46, 3) := by decide +kernel
theorem dX6_add_68 : decode cX6_add 68 = .ok (.aload_n 0, 1) := by decide +kernel
theorem dX6_add_69 : decode cX6_add 69 = .ok (.getfield 35, 3) := by decide +kernel
theorem dX6_add_72 : decode cX6_add 72 = .ok (.iconst 0, 1) := by decide +kernel
theorem dX6_add_73 : decode cX6_add 73 = .ok (.aload_n 0, 1) := by decide +kernel
theorem dX6_add_74 : decode cX6_add 74 = .ok (.getfield 35, 3) := by decide +kernel
theorem dX6_add_77 : decode cX6_add 77 = .ok (.iconst 0, 1) := by decide +kernel
theorem dX6_add_78 : decode cX6_add 78 = .ok (.laload, 1) := by decide +kernel
theorem dX6_add_79 : decode cX6_add 79 = .ok (.aload_n 0, 1) := by decide +kernel
theorem dX6_add_80 : decode cX6_add 80 = .ok (.getfield 7, 3) := by decide +kernel
theorem dX6_add_83 : decode cX6_add 83 = .ok (.bipush 21, 2) := by decide +kernel
theorem dX6_add_85 : decode cX6_add 85 = .ok (.bipush 64, 2) := by decide +kernel
theorem dX6_add_87 : decode cX6_add 87 = .ok (.lload_n 3, 1) := by decide +kernel
theorem dX6_add_88 : decode cX6_add 88 = .ok (.l2i, 1) := by decide +kernel
theorem dX6_add_89 : decode cX6_add 89 = .ok (.iadd, 1) := by decide +kernel
theorem dX6_add_90 : decode cX6_add 90 = .ok (.imul, 1) := by decide +kernel
theorem dX6_add_91 : decode cX6_add 91 = .ok (.laload, 1) := by decide +kernel
theorem dX6_add_92 : decode cX6_add 92 = .ok (.ladd, 1) := by decide +kernel
theorem dX6_add_93 : decode cX6_add 93 = .ok (.lastore, 1) := by decide +kernel
theorem dX6_add_94 : decode cX6_add 94 = .ok (.aload_n 0, 1) := by decide +kernel
theorem dX6_add_95 : decode cX6_add 95 = .ok (.lload_n 3, 1) := by decide +kernel
theorem dX6_add_96 : decode cX6_add 96 = .ok (.l2i, 1) := by decide +kernel
theorem dX6_add_97 : decode cX6_add 97 = .ok (.iconst 1, 1) := by decide +kernel
theorem dX6_add_98 : decode cX6_add 98 = .ok (.invokevirtual 127, 3) := by decide +kernel
theorem dX6_add_101 : decode cX6_add 101 = .ok (.aload_n 0, 1) := by decide +kernel
theorem dX6_add_102 : decode cX6_add 102 = .ok (.lload_n 3, 1) := by decide +kernel
theorem dX6_add_103 : decode cX6_add 103 = .ok (.l2i, 1) := by decide +kernel
theorem dX6_add_104 : decode cX6_add 104 = .ok (.iconst 3, 1) := by decide +kernel
theorem dX6_add_105 : decode cX6_add 105 = .ok (.invokevirtual 127, 3) := by decide +kernel
theorem dX6_add_108 : decode cX6_add 108 = .ok (.goto 35, 3) := by decide +kernel
theorem dX6_add_111 : decode cX6_add 111 = .ok (.lload_n 3, 1) := by decide +kernel
theorem dX6_add_112 : decode cX6_add 112 = .ok (.ldc2_w 130, 3) := by decide +kernel
theorem dX6_add_115 : decode cX6_add 115 = .ok (.ldc2_w 132, 3) := by decide +kernel
theorem dX6_add_118 : decode cX6_add 118 = .ok (.invokestatic 67, 3) := by decide +kernel
theorem dX6_add_121 : decode cX6_add 121 = .ok (.ifCond .eq 20, 3) := by decide +kernel
theorem dX6_add_124 : decode cX6_add 124 = .ok (.aload_n 0, 1) := by decide +kernel
theorem dX6_add_125 : decode cX6_add 125 = .ok (.getfield 35, 3) := by decide +kernel
theorem dX6_add_128 : decode cX6_add 128 = .ok (.iconst 0, 1) := by decide +kernel
theorem dX6_add_129 : decode cX6_add 129 = .ok (.aload_n 0, 1) := by decide +kernel
theorem dX6_add_130 : decode cX6_add 130 = .ok (.getfield 35, 3) := by decide +kernel
theorem dX6_add_133 : decode cX6_add 133 = .ok (.iconst 0, 1) := by decide +kernel
theorem dX6_add_134 : decode cX6_add 134 = .ok (.laload, 1) := by decide +kernel
theorem dX6_add_135 : decode cX6_add 135 = .ok (.lload_n 3, 1) := by decide +kernel
theorem dX6_add_136 : decode cX6_add 136 = .ok (.ladd, 1) := by decide +kernel
theorem dX6_add_137 : decode cX6_add 137 = .ok (.lastore, 1) := by decide +kernel
theorem dX6_add_138 : decode cX6_add 138 = .ok (.goto 5, 3) := by decide +kernel
theorem dX6_add_141 : decode cX6_add 141 = .ok (.iconst 0, 1) := by decide +kernel
theorem dX6_add_142 : decode cX6_add 142 = .ok (.ireturn, 1) := by decide +kernel
theorem dX6_add_143 : decode cX6_add 143 = .ok (.aload_n 0, 1) := by decide +kernel
theorem dX6_add_144 : decode cX6_add 144 = .ok (.iload_n 1, 1) := by decide +kernel
theorem dX6_add_145 : decode cX6_add 145 = .ok (.iload_n 2, 1) := by decide +kernel
theorem dX6_add_146 : decode cX6_add 146 = .ok (.iload 5, 2) := by decide +kernel
theorem dX6_add_148 : decode cX6_add 148 = .ok (.iconst 3, 1) := by decide +kernel
theorem dX6_add_149 : decode cX6_add 149 = .ok (.invokevirtual 117, 3) := by decide +kernel
theorem dX6_add_152 : decode cX6_add 152 = .ok (.ireturn, 1) := by decide +kernel
theorem dX6_scale_0 : decode cX6_scale 0 = .ok (.iconst 0, 1) := by decide +kernel
theorem dX6_scale_1 : decode cX6_scale 1 = .ok (.istore 5, 2) := by decide +kernel
theorem dX6_scale_3 : decode cX6_scale 3 = .ok (.iload 5, 2) := by decide +kernel
theorem dX6_scale_5 : decode cX6_scale 5 = .ok (.iconst 4, 1) := by decide +kernel
theorem dX6_scale_6 : decode cX6_scale 6 = .ok (.if_icmp .ge 58, 3) := by decide +kernel
theorem dX6_scale_9 : decode cX6_scale 9 = .ok (.iload 5, 2) := by decide +kernel
theorem dX6_scale_11 : decode cX6_scale 11 = .ok (.ifCond .eq 14, 3) := by decide +kernel
theorem dX6_scale_14 : decode cX6_scale 14 = .ok (.iload_n 1, 1) := by decide +kernel
theorem dX6_scale_15 : decode cX6_scale 15 = .ok (.iconst 2, 1) := by decide +kernel
theorem dX6_scale_16 : decode cX6_scale 16 = .ok (.if_icmp .ne 42, 3) := by decide +kernel
theorem dX6_scale_19 : decode cX6_scale 19 = .ok (.iload 5, 2) := by decide +kernel
theorem dX6_scale_21 : decode cX6_scale 21 = .ok (.iconst 2, 1) := by decide +kernel
theorem dX6_scale_22 : decode cX6_scale 22 = .ok (.if_icmp .eq 36, 3) := by decide +kernel
theorem dX6_scale_25 : decode cX6_scale 25 = .ok (.aload_n 0, 1) := by decide +kernel
theorem dX6_scale_26 : decode cX6_scale 26 = .ok (.getfield 35, 3) := by decide +kernel
theorem dX6_scale_29 : decode cX6_scale 29 = .ok (.iload 5, 2) := by decide +kernel
theorem dX6_scale_31 : decode cX6_scale 31 = .ok (.iload 4, 2) := by decide +kernel
theorem dX6_scale_33 : decode cX6_scale 33 = .ok (.ifCond .eq 15, 3) := by decide +kernel
theorem dX6_scale_36 : decode cX6_scale 36 = .ok (.aload_n 0, 1) := by decide +kernel
theorem dX6_scale_37 : decode cX6_scale 37 = .ok (.getfield 35, 3) := by decide +kernel
theorem dX6_scale_40 : decode cX6_scale 40 = .ok (.iload 5, 2) := by decide +kernel
theorem dX6_scale_42 : decode cX6_scale 42 = .ok (.laload, 1) := by decide +kernel
theorem dX6_scale_43 : decode cX6_scale 43 = .ok (.lload_n 2, 1) := by decide +kernel
theorem dX6_scale_44 : decode cX6_scale 44 = .ok (.ldiv, 1) := by decide +kernel
theorem dX6_scale_45 : decode cX6_scale 45 = .ok (.goto 12, 3) := by decide +kernel
theorem dX6_scale_48 : decode cX6_scale 48 = .ok (.aload_n 0, 1) := by decide +kernel
theorem dX6_scale_49 : decode cX6_scale 49 = .ok (.getfield 35, 3) := by decide +kernel
theorem dX6_scale_52 : decode cX6_scale 52 = .ok (.iload 5, 2) := by decide +kernel
theorem dX6_scale_54 : decode cX6_scale 54 = .ok (.laload, 1) := by decide +kernel
theorem dX6_scale_55 : decode cX6_scale 55 = .ok (.lload_n 2, 1) := by decide +kernel
theorem dX6_scale_56 : decode cX6_scale 56 = .ok (.lmul, 1) := by decide +kernel
theorem dX6_scale_57 : decode cX6_scale 57 = .ok (.lastore, 1) := by decide +kernel
theorem dX6_scale_58 : decode cX6_scale 58 = .ok (.iinc 5 1, 3) := by decide +kernel
theorem dX6_scale_61 : decode cX6_scale 61 = .ok (.goto (-58), 3) := by decide +kernel
theorem dX6_scale_64 : decode cX6_scale 64 = .ok (.return_, 1) := by decide +kernel
theorem dX6_multiply_0 : decode cX6_multiply 0 = .ok (.aload_n 0, 1) := by decide +kernel
theorem dX6_multiply_1 : decode cX6_multiply 1 = .ok (.iload_n 1, 1) := by decide +kernel
theorem dX6_multiply_2 : decode cX6_multiply 2 = .ok (.i2l, 1) := by decide +kernel
theorem dX6_multiply_3 : decode cX6_multiply 3 = .ok (.lconst 0, 1) := by decide +kernel
theorem dX6_multiply_4 : decode cX6_multiply 4 = .ok (.ldc2_w 121, 3) := by decide +kernel
theorem dX6_multiply_7 : decode cX6_multiply 7 = .ok (.invokestatic 67, 3) := by decide +kernel
theorem dX6_multiply_10 : decode cX6_multiply 10 = .ok (.ifCond .ne 7, 3) := by decide +kernel
theorem dX6_multiply_13 : decode cX6_multiply 13 = .ok (.iconst 1, 1) := by decide +kernel
theorem dX6_multiply_14 : decode cX6_multiply 14 = .ok (.goto 15, 3) := by decide +kernel
theorem dX6_multiply_17 : decode cX6_multiply 17 = .ok (.iload_n 2, 1) := by decide +kernel
theorem dX6_multiply_18 : decode cX6_multiply 18 = .ok (.invokestatic 114, 3) := by decide +kernel
theorem dX6_multiply_21 : decode cX6_multiply 21 = .ok (.ifCond .ne 7, 3) := by decide +kernel
theorem dX6_multiply_24 : decode cX6_multiply 24 = .ok (.iconst 2, 1) := by decide +kernel
theorem dX6_multiply_25 : decode cX6_multiply 25 = .ok (.goto 4, 3) := by decide +kernel
theorem dX6_multiply_28 : decode cX6_multiply 28 = .ok (.iconst 0, 1) := by decide +kernel
theorem dX6_multiply_29 : decode cX6_multiply 29 = .ok (.putfield 61, 3) := by decide +kernel
theorem dX6_multiply_32 : decode cX6_multiply 32 = .ok (.aload_n 0, 1) := by decide +kernel
theorem dX6_multiply_33 : decode cX6_multiply 33 = .ok (.getfield 61, 3) := by decide +kernel
theorem dX6_multiply_36 : decode cX6_multiply 36 = .ok (.ifCond .gt 16, 3) := by decide +kernel
theorem dX6_multiply_39 : decode cX6_multiply 39 = .ok (.lload_n 3, 1) := by decide +kernel
theorem dX6_multiply_40 : decode cX6_multiply 40 = .ok (.ldc2_w 87, 3) := by decide +kernel
theorem dX6_multiply_43 : decode cX6_multiply 43 = .ok (.ldc2_w 89, 3) := by decide +kernel
theorem dX6_multiply_46 : decode cX6_multiply 46 = .ok (.invokestatic 67, 3) := by decide +kernel
theorem dX6_multiply_49 : decode cX6_multiply 49 = .ok (.ifCond .ne 5, 3) := by decide +kernel
theorem dX6_multiply_52 : decode cX6_multiply 52 = .ok (.iconst 0, 1) := by decide +kernel
theorem dX6_multiply_53 : decode cX6_multiply 53 = .ok (.ireturn, 1) := by decide +kernel
theorem dX6_multiply_54 : decode cX6_multiply 54 = .ok (.aload_n 0, 1) := by decide +kernel
theorem dX6_multiply_55 : decode cX6_multiply 55 = .ok (.iload_n 1, 1) := by decide +kernel
theorem dX6_multiply_56 : decode cX6_multiply 56 = .ok (.iload_n 2, 1) := by decide +kernel
theorem dX6_multiply_57 : decode cX6_multiply 57 = .ok (.invokevirtual 123, 3) := by decide +kernel
theorem dX6_multiply_60 : decode cX6_multiply 60 = .ok (.aload_n 0, 1) := by decide +kernel
theorem dX6_multiply_61 : decode cX6_multiply 61 = .ok (.iload_n 1, 1) := by decide +kernel
theorem dX6_multiply_62 : decode cX6_multiply 62 = .ok (.lload_n 3, 1) := by decide +kernel
theorem dX6_multiply_63 : decode cX6_multiply 63 = .ok (.iconst 0, 1) := by decide +kernel
theorem dX6_multiply_64 : decode cX6_multiply 64 = .ok (.invokevirtual 134, 3) := by decide +kernel
theorem dX6_multiply_67 : decode cX6_multiply 67 = .ok (.aload_n 0, 1) := by decide +kernel
theorem dX6_multiply_68 : decode cX6_multiply 68 = .ok (.iload_n 1, 1) := by decide +kernel
theorem dX6_multiply_69 : decode cX6_multiply 69 = .ok (.iload_n 2, 1) := by decide +kernel
theorem dX6_multiply_70 : decode cX6_multiply 70 = .ok (.iload 5, 2) := by decide +kernel
theorem dX6_multiply_72 : decode cX6_multiply 72 = .ok (.iconst 3, 1) := by decide +kernel
theorem dX6_multiply_73 : decode cX6_multiply 73 = .ok (.invokevirtual 117, 3) := by decide +kernel
theorem dX6_multiply_76 : decode cX6_multiply 76 = .ok (.ireturn, 1) := by decide +kernel
theorem dX6_divide_0 : decode cX6_divide 0 = .ok (.aload_n 0, 1) := by decide +kernel
theorem dX6_divide_1 : decode cX6_divide 1 = .ok (.iload_n 1, 1) := by decide +kernel
theorem dX6_divide_2 : decode cX6_divide 2 = .ok (.i2l, 1) := by decide +kernel
theorem dX6_divide_3 : decode cX6_divide 3 = .ok (.lconst 0, 1) := by decide +kernel
theorem dX6_divide_4 : decode cX6_divide 4 = .ok (.ldc2_w 121, 3) := by decide +kernel
theorem dX6_divide_7 : decode cX6_divide 7 = .ok (.invokestatic 67, 3) := by decide +kernel
theorem dX6_divide_10 : decode cX6_divide 10 = .ok (.ifCond .ne 7, 3) := by decide +kernel
theorem dX6_divide_13 : decode cX6_divide 13 = .ok (.iconst 1, 1) := by decide +kernel
theorem dX6_divide_14 : decode cX6_divide 14 = .ok (.goto 25, 3) := by decide +kernel
theorem dX6_divide_17 : decode cX6_divide 17 = .ok (.iload_n 2, 1) := by decide +kernel
theorem dX6_divide_18 : decode cX6_divide 18 = .ok (.invokestatic 114, 3) := by decide +kernel
theorem dX6_divide_21 : decode cX6_divide 21 = .ok (.ifCond .ne 7, 3) := by decide +kernel
theorem dX6_divide_24 : decode cX6_divide 24 = .ok (.iconst 2, 1) := by decide +kernel
theorem dX6_divide_25 : decode cX6_divide 25 = .ok (.goto 14, 3) := by decide +kernel
theorem dX6_divide_28 : decode cX6_divide 28 = .ok (.lload_n 3, 1) := by decide +kernel
theorem dX6_divide_29 : decode cX6_divide 29 = .ok (.lconst 0, 1) := by decide +kernel
theorem dX6_divide_30 : decode cX6_divide 30 = .ok (.lcmp, 1) := by decide +kernel
theorem dX6_divide_31 : decode cX6_divide 31 = .ok (.ifCond .ne 7, 3) := by decide +kernel
theorem dX6_divide_34 : decode cX6_divide 34 = .ok (.iconst 3, 1) := by decide +kernel
theorem dX6_divide_35 : decode cX6_divide 35 = .ok (.goto 4, 3) := by decide +kernel
theorem dX6_divide_38 : decode cX6_divide 38 = .ok (.iconst 0, 1) := by decide +kernel
theorem dX6_divide_39 : decode cX6_divide 39 = .ok (.putfield 61, 3) := by decide +kernel
theorem dX6_divide_42 : decode cX6_divide 42 = .ok (.aload_n 0, 1) := by decide +kernel
theorem dX6_divide_43 : decode cX6_divide 43 = .ok (.getfield 61, 3) := by decide +kernel
theorem dX6_divide_46 : decode cX6_divide 46 = .ok (.ifCond .le 5, 3) := by decide +kernel
theorem dX6_divide_49 : decode cX6_divide 49 = .ok (.iconst 0, 1) := by decide +kernel
theorem dX6_divide_50 : decode cX6_divide 50 = .ok (.ireturn, 1) := by decide +kernel
theorem dX6_divide_51 : decode cX6_divide 51 = .ok (.aload_n 0, 1) := by decide +kernel
theorem dX6_divide_52 : decode cX6_divide 52 = .ok (.iload_n 1, 1) := by decide +kernel
theorem dX6_divide_53 : decode cX6_divide 53 = .ok (.iload_n 2, 1) := by decide +kernel
theorem dX6_divide_54 : decode cX6_divide 54 = .ok (.invokevirtual 123, 3) := by decide +kernel
theorem dX6_divide_57 : decode cX6_divide 57 = .ok (.aload_n 0, 1) := by decide +kernel
theorem dX6_divide_58 : decode cX6_divide 58 = .ok (.iload_n 1, 1) := by decide +kernel
theorem dX6_divide_59 : decode cX6_divide 59 = .ok (.lload_n 3, 1) := by decide +kernel
theorem dX6_divide_60 : decode cX6_divide 60 = .ok (.iconst 1, 1) := by decide +kernel
theorem dX6_divide_61 : decode cX6_divide 61 = .ok (.invokevirtual 134, 3) := by decide +kernel
theorem dX6_divide_64 : decode cX6_divide 64 = .ok (.aload_n 0, 1) := by decide +kernel
theorem dX6_divide_65 : decode cX6_divide 65 = .ok (.iload_n 1, 1) := by decide +kernel
theorem dX6_divide_66 : decode cX6_divide 66 = .ok (.iload_n 2, 1) := by decide +kernel
theorem dX6_divide_67 : decode cX6_divide 67 = .ok (.iload 5, 2) := by decide +kernel
theorem dX6_divide_69 : decode cX6_divide 69 = .ok (.iconst 4, 1) := by decide +kernel
theorem dX6_divide_70 : decode cX6_divide 70 = .ok (.invokevirtual 117, 3) := by decide +kernel
theorem dX6_divide_73 : decode cX6_divide 73 = .ok (.ireturn, 1) := by decide +kernel
theorem dX6_take_0 : decode cX6_take 0 = .ok (.aload_n 0, 1) := by decide +kernel
theorem dX6_take_1 : decode cX6_take 1 = .ok (.iload_n 1, 1) := by decide +kernel
theorem dX6_take_2 : decode cX6_take 2 = .ok (.invokestatic 114, 3) := by decide +kernel
theorem dX6_take_5 : decode cX6_take 5 = .ok (.ifCond .eq 7, 3) := by decide +kernel
theorem dX6_take_8 : decode cX6_take 8 = .ok (.iconst 0, 1) := by decide +kernel
theorem dX6_take_9 : decode cX6_take 9 = .ok (.goto 4, 3) := by decide +kernel
theorem dX6_take_12 : decode cX6_take 12 = .ok (.iconst 1, 1) := by decide +kernel
theorem dX6_take_13 : decode cX6_take 13 = .ok (.putfield 61, 3) := by decide +kernel
theorem dX6_take_16 : decode cX6_take 16 = .ok (.aload_n 0, 1) := by decide +kernel
theorem dX6_take_17 : decode cX6_take 17 = .ok (.getfield 61, 3) := by decide +kernel
theorem dX6_take_20 : decode cX6_take 20 = .ok (.ifCond .le 5, 3) := by decide +kernel
theorem dX6_take_23 : decode cX6_take 23 = .ok (.iconst 0, 1) := by decide +kernel
theorem dX6_take_24 : decode cX6_take 24 = .ok (.ireturn, 1) := by decide +kernel
theorem dX6_take_25 : decode cX6_take 25 = .ok (.bipush 21, 2) := by decide +kernel
theorem dX6_take_27 : decode cX6_take 27 = .ok (.sipush 128, 3) := by decide +kernel
theorem dX6_take_30 : decode cX6_take 30 = .ok (.iload_n 1, 1) := by decide +kernel
theorem dX6_take_31 : decode cX6_take 31 = .ok (.iadd, 1) := by decide +kernel
theorem dX6_take_32 : decode cX6_take 32 = .ok (.imul, 1) := by decide +kernel
theorem dX6_take_33 : decode cX6_take 33 = .ok (.istore_n 2, 1) := by decide +kernel
theorem dX6_take_34 : decode cX6_take 34 = .ok (.aload_n 0, 1) := by decide +kernel
theorem dX6_take_35 : decode cX6_take 35 = .ok (.getfield 7, 3) := by decide +kernel
theorem dX6_take_38 : decode cX6_take 38 = .ok (.iload_n 2, 1) := by decide +kernel
theorem dX6_take_39 : decode cX6_take 39 = .ok (.laload, 1) := by decide +kernel
theorem dX6_take_40 : decode cX6_take 40 = .ok (.l2i, 1) := by decide +kernel
theorem dX6_take_41 : decode cX6_take 41 = .ok (.istore_n 3, 1) := by decide +kernel
theorem dX6_take_42 : decode cX6_take 42 = .ok (.aload_n 0, 1) := by decide +kernel
theorem dX6_take_43 : decode cX6_take 43 = .ok (.getfield 7, 3) := by decide +kernel
theorem dX6_take_46 : decode cX6_take 46 = .ok (.iload_n 2, 1) := by decide +kernel
theorem dX6_take_47 : decode cX6_take 47 = .ok (.ldc2_w 59, 3) := by decide +kernel
theorem dX6_take_50 : decode cX6_take 50 = .ok (.lastore, 1) := by decide +kernel
theorem dX6_take_51 : decode cX6_take 51 = .ok (.iload_n 3, 1) := by decide +kernel
theorem dX6_take_52 : decode cX6_take 52 = .ok (.ireturn, 1) := by decide +kernel
theorem dX6_group_0 : decode cX6_group 0 = .ok (.aload_n 0, 1) := by decide +kernel
theorem dX6_group_1 : decode cX6_group 1 = .ok (.aload_n 0, 1) := by decide +kernel
theorem dX6_group_2 : decode cX6_group 2 = .ok (.getfield 91, 3) := by decide +kernel
theorem dX6_group_5 : decode cX6_group 5 = .ok (.bipush 20, 2) := by decide +kernel
theorem dX6_group_7 : decode cX6_group 7 = .ok (.if_icmp .ne 7, 3) := by decide +kernel
theorem dX6_group_10 : decode cX6_group 10 = .ok (.iconst 1, 1) := by decide +kernel
theorem dX6_group_11 : decode cX6_group 11 = .ok (.goto 4, 3) := by decide +kernel
theorem dX6_group_14 : decode cX6_group 14 = .ok (.iconst 0, 1) := by decide +kernel
theorem dX6_group_15 : decode cX6_group 15 = .ok (.putfield 61, 3) := by decide +kernel
theorem dX6_group_18 : decode cX6_group 18 = .ok (.aload_n 0, 1) := by decide +kernel
theorem dX6_group_19 : decode cX6_group 19 = .ok (.getfield 61, 3) := by decide +kernel
theorem dX6_group_22 : decode cX6_group 22 = .ok (.ifCond .le 5, 3) := by decide +kernel
theorem dX6_group_25 : decode cX6_group 25 = .ok (.iconst 0, 1) := by decide +kernel
theorem dX6_group_26 : decode cX6_group 26 = .ok (.ireturn, 1) := by decide +kernel
theorem dX6_group_27 : decode cX6_group 27 = .ok (.aload_n 0, 1) := by decide +kernel
theorem dX6_group_28 : decode cX6_group 28 = .ok (.dup, 1) := by decide +kernel
theorem dX6_group_29 : decode cX6_group 29 = .ok (.getfield 91, 3) := by decide +kernel
theorem dX6_group_32 : decode cX6_group 32 = .ok (.iconst 1, 1) := by decide +kernel
theorem dX6_group_33 : decode cX6_group 33 = .ok (.iadd, 1) := by decide +kernel
theorem dX6_group_34 : decode cX6_group 34 = .ok (.putfield 91, 3) := by decide +kernel
theorem dX6_group_37 : decode cX6_group 37 = .ok (.aload_n 0, 1) := by decide +kernel
theorem dX6_group_38 : decode cX6_group 38 = .ok (.getfield 91, 3) := by decide +kernel
theorem dX6_group_41 : decode cX6_group 41 = .ok (.ireturn, 1) := by decide +kernel
theorem dX6_after_0 : decode cX6_after 0 = .ok (.aload_n 0, 1) := by decide +kernel
theorem dX6_after_1 : decode cX6_after 1 = .ok (.iload_n 1, 1) := by decide +kernel
theorem dX6_after_2 : decode cX6_after 2 = .ok (.i2l, 1) := by decide +kernel
theorem dX6_after_3 : decode cX6_after 3 = .ok (.lconst 0, 1) := by decide +kernel
theorem dX6_after_4 : decode cX6_after 4 = .ok (.ldc2_w 77, 3) := by decide +kernel
theorem dX6_after_7 : decode cX6_after 7 = .ok (.invokestatic 67, 3) := by decide +kernel
theorem dX6_after_10 : decode cX6_after 10 = .ok (.ifCond .ne 7, 3) := by decide +kernel
theorem dX6_after_13 : decode cX6_after 13 = .ok (.iconst 1, 1) := by decide +kernel
theorem dX6_after_14 : decode cX6_after 14 = .ok (.goto 28, 3) := by decide +kernel
theorem dX6_after_17 : decode cX6_after 17 = .ok (.aload_n 0, 1) := by decide +kernel
theorem dX6_after_18 : decode cX6_after 18 = .ok (.getfield 91, 3) := by decide +kernel
theorem dX6_after_21 : decode cX6_after 21 = .ok (.ifCond .ne 7, 3) := by decide +kernel
theorem dX6_after_24 : decode cX6_after 24 = .ok (.iconst 2, 1) := by decide +kernel
theorem dX6_after_25 : decode cX6_after 25 = .ok (.goto 17, 3) := by decide +kernel
theorem dX6_after_28 : decode cX6_after 28 = .ok (.aload_n 0, 1) := by decide +kernel
theorem dX6_after_29 : decode cX6_after 29 = .ok (.getfield 138, 3) := by decide +kernel
theorem dX6_after_32 : decode cX6_after 32 = .ok (.bipush 60, 2) := by decide +kernel
theorem dX6_after_34 : decode cX6_after 34 = .ok (.if_icmp .ne 7, 3) := by decide +kernel
theorem dX6_after_37 : decode cX6_after 37 = .ok (.iconst 3, 1) := by decide +kernel
theorem dX6_after_38 : decode cX6_after 38 = .ok (.goto 4, 3) := by decide +kernel
theorem dX6_after_41 : decode cX6_after 41 = .ok (.iconst 0, 1) := by decide +kernel
theorem dX6_after_42 : decode cX6_after 42 = .ok (.putfield 61, 3) := by decide +kernel
theorem dX6_after_45 : decode cX6_after 45 = .ok (.aload_n 0, 1) := by decide +kernel
theorem dX6_after_46 : decode cX6_after 46 = .ok (.getfield 61, 3) := by decide +kernel
theorem dX6_after_49 : decode cX6_after 49 = .ok (.ifCond .le 5, 3) := by decide +kernel
theorem dX6_after_52 : decode cX6_after 52 = .ok (.iconst 0, 1) := by decide +kernel
theorem dX6_after_53 : decode cX6_after 53 = .ok (.ireturn, 1) := by decide +kernel
theorem dX6_after_54 : decode cX6_after 54 = .ok (.aload_n 0, 1) := by decide +kernel
theorem dX6_after_55 : decode cX6_after 55 = .ok (.getfield 38, 3) := by decide +kernel
theorem dX6_after_58 : decode cX6_after 58 = .ok (.aload_n 0, 1) := by decide +kernel
theorem dX6_after_59 : decode cX6_after 59 = .ok (.getfield 138, 3) := by decide +kernel
theorem dX6_after_62 : decode cX6_after 62 = .ok (.iload_n 1, 1) := by decide +kernel
theorem dX6_after_63 : decode cX6_after 63 = .ok (.iastore, 1) := by decide +kernel
theorem dX6_after_64 : decode cX6_after 64 = .ok (.aload_n 0, 1) := by decide +kernel
theorem dX6_after_65 : decode cX6_after 65 = .ok (.getfield 41, 3) := by decide +kernel
theorem dX6_after_68 : decode cX6_after 68 = .ok (.aload_n 0, 1) := by decide +kernel
theorem dX6_after_69 : decode cX6_after 69 = .ok (.getfield 138, 3) := by decide +kernel
theorem dX6_after_72 : decode cX6_after 72 = .ok (.aload_n 0, 1) := by decide +kernel
theorem dX6_after_73 : decode cX6_after 73 = .ok (.getfield 91, 3) := by decide +kernel
theorem dX6_after_76 : decode cX6_after 76 = .ok (.iastore, 1) := by decide +kernel
theorem dX6_after_77 : decode cX6_after 77 = .ok (.aload_n 0, 1) := by decide +kernel
theorem dX6_after_78 : decode cX6_after 78 = .ok (.dup, 1) := by decide +kernel
theorem dX6_after_79 : decode cX6_after 79 = .ok (.getfield 138, 3) := by decide +kernel
theorem dX6_after_82 : decode cX6_after 82 = .ok (.iconst 1, 1) := by decide +kernel
theorem dX6_after_83 : decode cX6_after 83 = .ok (.iadd, 1) := by decide +kernel
theorem dX6_after_84 : decode cX6_after 84 = .ok (.putfield 138, 3) := by decide +kernel
theorem dX6_after_87 : decode cX6_after 87 = .ok (.iconst 0, 1) := by decide +kernel
theorem dX6_after_88 : decode cX6_after 88 = .ok (.istore_n 2, 1) := by decide +kernel
theorem dX6_after_89 : decode cX6_after 89 = .ok (.iconst 0, 1) := by decide +kernel
theorem dX6_after_90 : decode cX6_after 90 = .ok (.istore_n 3, 1) := by decide +kernel
theorem dX6_after_91 : decode cX6_after 91 = .ok (.iload_n 3, 1) := by decide +kernel
theorem dX6_after_92 : decode cX6_after 92 = .ok (.aload_n 0, 1) := by decide +kernel
theorem dX6_after_93 : decode cX6_after 93 = .ok (.getfield 138, 3) := by decide +kernel
theorem dX6_after_96 : decode cX6_after 96 = .ok (.if_icmp .ge 30, 3) := by decide +kernel
theorem dX6_after_99 : decode cX6_after 99 = .ok (.aload_n 0, 1) := by decide +kernel
theorem dX6_after_100 : decode cX6_after 100 = .ok (.getfield 41, 3) := by decide +kernel
theorem dX6_after_103 : decode cX6_after 103 = .ok (.iload_n 3, 1) := by decide +kernel
theorem dX6_after_104 : decode cX6_after 104 = .ok (.iaload, 1) := by decide +kernel
theorem dX6_after_105 : decode cX6_after 105 = .ok (.aload_n 0, 1) := by decide +kernel
theorem dX6_after_106 : decode cX6_after 106 = .ok (.getfield 91, 3) := by decide +kernel
theorem dX6_after_109 : decode cX6_after 109 = .ok (.if_icmp .ne 9, 3) := by decide +kernel
theorem dX6_after_112 : decode cX6_after 112 = .ok (.iload_n 2, 1) := by decide +kernel
theorem dX6_after_113 : decode cX6_after 113 = .ok (.iconst 1, 1) := by decide +kernel
theorem dX6_after_114 : decode cX6_after 114 = .ok (.iadd, 1) := by decide +kernel
theorem dX6_after_115 : decode cX6_after 115 = .ok (.goto 4, 3) := by decide +kernel
theorem dX6_after_118 : decode cX6_after 118 = .ok (.iload_n 2, 1) := by decide +kernel
theorem dX6_after_119 : decode cX6_after 119 = .ok (.istore_n 2, 1) := by decide +kernel
theorem dX6_after_120 : decode cX6_after 120 = .ok (.iinc 3 1, 3) := by decide +kernel
theorem dX6_after_123 : decode cX6_after 123 = .ok (.goto (-32), 3) := by decide +kernel
theorem dX6_after_126 : decode cX6_after 126 = .ok (.iload_n 2, 1) := by decide +kernel
theorem dX6_after_127 : decode cX6_after 127 = .ok (.ireturn, 1) := by decide +kernel
theorem dX6_end_0 : decode cX6_end 0 = .ok (.aload_n 0, 1) := by decide +kernel
theorem dX6_end_1 : decode cX6_end 1 = .ok (.aload_n 0, 1) := by decide +kernel
theorem dX6_end_2 : decode cX6_end 2 = .ok (.getfield 91, 3) := by decide +kernel
theorem dX6_end_5 : decode cX6_end 5 = .ok (.ifCond .ne 7, 3) := by decide +kernel
theorem dX6_end_8 : decode cX6_end 8 = .ok (.iconst 1, 1) := by decide +kernel
theorem dX6_end_9 : decode cX6_end 9 = .ok (.goto 4, 3) := by decide +kernel
theorem dX6_end_12 : decode cX6_end 12 = .ok (.iconst 0, 1) := by decide +kernel
theorem dX6_end_13 : decode cX6_end 13 = .ok (.putfield 61, 3) := by decide +kernel
theorem dX6_end_16 : decode cX6_end 16 = .ok (.aload_n 0, 1) := by decide +kernel
theorem dX6_end_17 : decode cX6_end 17 = .ok (.getfield 61, 3) := by decide +kernel
theorem dX6_end_20 : decode cX6_end 20 = .ok (.ifCond .le 5, 3) := by decide +kernel
theorem dX6_end_23 : decode cX6_end 23 = .ok (.iconst 0, 1) := by decide +kernel
theorem dX6_end_24 : decode cX6_end 24 = .ok (.ireturn, 1) := by decide +kernel
theorem dX6_end_25 : decode cX6_end 25 = .ok (.aload_n 0, 1) := by decide +kernel
theorem dX6_end_26 : decode cX6_end 26 = .ok (.iconst 0, 1) := by decide +kernel
theorem dX6_end_27 : decode cX6_end 27 = .ok (.putfield 141, 3) := by decide +kernel
theorem dX6_end_30 : decode cX6_end 30 = .ok (.iconst 0, 1) := by decide +kernel
theorem dX6_end_31 : decode cX6_end 31 = .ok (.istore_n 1, 1) := by decide +kernel
theorem dX6_end_32 : decode cX6_end 32 = .ok (.aload_n 0, 1) := by decide +kernel
theorem dX6_end_33 : decode cX6_end 33 = .ok (.getfield 94, 3) := by decide +kernel
theorem dX6_end_36 : decode cX6_end 36 = .ok (.ifCond .le 175, 3) := by decide +kernel
theorem dX6_end_39 : decode cX6_end 39 = .ok (.aload_n 0, 1) := by decide +kernel
theorem dX6_end_40 : decode cX6_end 40 = .ok (.getfield 26, 3) := by decide +kernel
theorem dX6_end_43 : decode cX6_end 43 = .ok (.aload_n 0, 1) := by decide +kernel
theorem dX6_end_44 : decode cX6_end 44 = .ok (.getfield 94, 3) := by decide +kernel
theorem dX6_end_47 : decode cX6_end 47 = .ok (.iconst 1, 1) := by decide +kernel
theorem dX6_end_48 : decode cX6_end 48 = .ok (.isub, 1) := by decide +kernel
theorem dX6_end_49 : decode cX6_end 49 = .ok (.iaload, 1) := by decide +kernel
theorem dX6_end_50 : decode cX6_end 50 = .ok (.aload_n 0, 1) := by decide +kernel
theorem dX6_end_51 : decode cX6_end 51 = .ok (.getfield 91, 3) := by decide +kernel
theorem dX6_end_54 : decode cX6_end 54 = .ok (.if_icmp .ne 157, 3) := by decide +kernel
theorem dX6_end_57 : decode cX6_end 57 = .ok (.aload_n 0, 1) := by decide +kernel
theorem dX6_end_58 : decode cX6_end 58 = .ok (.dup, 1) := by decide +kernel
theorem dX6_end_59 : decode cX6_end 59 = .ok (.getfield 94, 3) := by decide +kernel
theorem dX6_end_62 : decode cX6_end 62 = .ok (.iconst 1, 1) := by decide +kernel
theorem dX6_end_63 : decode cX6_end 63 = .ok (.isub, 1) := by decide +kernel
theorem dX6_end_64 : decode cX6_end 64 = .ok (.putfield 94, 3) := by decide +kernel
theorem dX6_end_67 : decode cX6_end 67 = .ok (.aload_n 0, 1) := by decide +kernel
theorem dX6_end_68 : decode cX6_end 68 = .ok (.getfield 20, 3) := by decide +kernel
theorem dX6_end_71 : decode cX6_end 71 = .ok (.aload_n 0, 1) := by decide +kernel
theorem dX6_end_72 : decode cX6_end 72 = .ok (.getfield 94, 3) := by decide +kernel
theorem dX6_end_75 : decode cX6_end 75 = .ok (.iaload, 1) := by decide +kernel
theorem dX6_end_76 : decode cX6_end 76 = .ok (.istore_n 2, 1) := by decide +kernel
theorem dX6_end_77 : decode cX6_end 77 = .ok (.aload_n 0, 1) := by decide +kernel
theorem dX6_end_78 : decode cX6_end 78 = .ok (.getfield 44, 3) := by decide +kernel
theorem dX6_end_81 : decode cX6_end 81 = .ok (.aload_n 0, 1) := by decide +kernel
theorem dX6_end_82 : decode cX6_end 82 = .ok (.getfield 141, 3) := by decide +kernel
theorem dX6_end_85 : decode cX6_end 85 = .ok (.iload_n 2, 1) := by decide +kernel
theorem dX6_end_86 : decode cX6_end 86 = .ok (.iastore, 1) := by decide +kernel
theorem dX6_end_87 : decode cX6_end 87 = .ok (.aload_n 0, 1) := by decide +kernel
theorem dX6_end_88 : decode cX6_end 88 = .ok (.getfield 47, 3) := by decide +kernel
theorem dX6_end_91 : decode cX6_end 91 = .ok (.aload_n 0, 1) := by decide +kernel
theorem dX6_end_92 : decode cX6_end 92 = .ok (.getfield 141, 3) := by decide +kernel
theorem dX6_end_95 : decode cX6_end 95 = .ok (.aload_n 0, 1) := by decide +kernel
theorem dX6_end_96 : decode cX6_end 96 = .ok (.getfield 13, 3) := by decide +kernel
theorem dX6_end_99 : decode cX6_end 99 = .ok (.iload_n 2, 1) := by decide +kernel
theorem dX6_end_100 : decode cX6_end 100 = .ok (.iaload, 1) := by decide +kernel
theorem dX6_end_101 : decode cX6_end 101 = .ok (.ifCond .ne 7, 3) := by decide +kernel
theorem dX6_end_104 : decode cX6_end 104 = .ok (.iconst 0, 1) := by decide +kernel
theorem dX6_end_105 : decode cX6_end 105 = .ok (.goto 4, 3) := by decide +kernel
theorem dX6_end_108 : decode cX6_end 108 = .ok (.iconst 1, 1) := by decide +kernel
theorem dX6_end_109 : decode cX6_end 109 = .ok (.iastore, 1) := by decide +kernel
theorem dX6_end_110 : decode cX6_end 110 = .ok (.iload_n 1, 1) := by decide +kernel
theorem dX6_end_111 : decode cX6_end 111 = .ok (.aload_n 0, 1) := by decide +kernel
theorem dX6_end_112 : decode cX6_end 112 = .ok (.getfield 47, 3) := by decide +kernel
theorem dX6_end_115 : decode cX6_end 115 = .ok (.aload_n 0, 1) := by decide +kernel
theorem dX6_end_116 : decode cX6_end 116 = .ok (.getfield 141, 3) := by decide +kernel
theorem dX6_end_119 : decode cX6_end 119 = .ok (.iaload, 1) := by decide +kernel
theorem dX6_end_120 : decode cX6_end 120 = .ok (.iadd, 1) := by decide +kernel
theorem dX6_end_121 : decode cX6_end 121 = .ok (.istore_n 1, 1) := by decide +kernel
theorem dX6_end_122 : decode cX6_end 122 = .ok (.iconst 0, 1) := by decide +kernel
theorem dX6_end_123 : decode cX6_end 123 = .ok (.istore_n 3, 1) := by decide +kernel
theorem dX6_end_124 : decode cX6_end 124 = .ok (.iload_n 3, 1) := by decide +kernel
theorem dX6_end_125 : decode cX6_end 125 = .ok (.bipush 21, 2) := by decide +kernel
theorem dX6_end_127 : decode cX6_end 127 = .ok (.if_icmp .ge 43, 3) := by decide +kernel
theorem dX6_end_130 : decode cX6_end 130 = .ok (.aload_n 0, 1) := by decide +kernel
theorem dX6_end_131 : decode cX6_end 131 = .ok (.getfield 13, 3) := by decide +kernel
theorem dX6_end_134 : decode cX6_end 134 = .ok (.iload_n 2, 1) := by decide +kernel
theorem dX6_end_135 : decode cX6_end 135 = .ok (.iaload, 1) := by decide +kernel
theorem dX6_end_136 : decode cX6_end 136 = .ok (.ifCond .eq 34, 3) := by decide +kernel
theorem dX6_end_139 : decode cX6_end 139 = .ok (.aload_n 0, 1) := by decide +kernel
theorem dX6_end_140 : decode cX6_end 140 = .ok (.getfield 7, 3) := by decide +kernel
theorem dX6_end_143 : decode cX6_end 143 = .ok (.bipush 21, 2) := by decide +kernel
theorem dX6_end_145 : decode cX6_end 145 = .ok (.iload_n 2, 1) := by decide +kernel
theorem dX6_end_146 : decode cX6_end 146 = .ok (.imul, 1) := by decide +kernel
theorem dX6_end_147 : decode cX6_end 147 = .ok (.iload_n 3, 1) := by decide +kernel
theorem dX6_end_148 : decode cX6_end 148 = .ok (.iadd, 1) := by decide +kernel
theorem dX6_end_149 : decode cX6_end 149 = .ok (.aload_n 0, 1) := by decide +kernel
theorem dX6_end_150 : decode cX6_end 150 = .ok (.getfield 17, 3) := by decide +kernel
theorem dX6_end_153 : decode cX6_end 153 = .ok (.bipush 21, 2) := by decide +kernel
theorem dX6_end_155 : decode cX6_end 155 = .ok (.aload_n 0, 1) := by decide +kernel
theorem dX6_end_156 : decode cX6_end 156 = .ok (.getfield 94, 3) := by decide +kernel
theorem dX6_end_159 : decode cX6_end 159 = .ok (.imul, 1) := by decide +kernel
theorem dX6_end_160 : decode cX6_end 160 = .ok (.iload_n 3, 1) := by decide +kernel
theorem dX6_end_161 : decode cX6_end 161 = .ok (.iadd, 1) := by decide +kernel
theorem dX6_end_162 : decode cX6_end 162 = .ok (.laload, 1) := by decide +kernel
theorem dX6_end_163 : decode cX6_end 163 = .ok (.lastore, 1) := by decide +kernel
theorem dX6_end_164 : decode cX6_end 164 = .ok (.iinc 3 1, 3) := by decide +kernel
theorem dX6_end_167 : decode cX6_end 167 = .ok (.goto (-43), 3) := by decide +kernel
theorem dX6_end_170 : decode cX6_end 170 = .ok (.aload_n 0, 1) := by decide +kernel
theorem dX6_end_171 : decode cX6_end 171 = .ok (.getfield 13, 3) := by decide +kernel
theorem dX6_end_174 : decode cX6_end 174 = .ok (.iload_n 2, 1) := by decide +kernel
theorem dX6_end_175 : decode cX6_end 175 = .ok (.aload_n 0, 1) := by decide +kernel
theorem dX6_end_176 : decode cX6_end 176 = .ok (.getfield 13, 3) := by decide +kernel
theorem dX6_end_179 : decode cX6_end 179 = .ok (.iload_n 2, 1) := by decide +kernel
theorem dX6_end_180 : decode cX6_end 180 = .ok (.iaload, 1) := by decide +kernel
theorem dX6_end_181 : decode cX6_end 181 = .ok (.ifCond .ne 7, 3) := by decide +kernel
theorem dX6_end_184 : decode cX6_end 184 = .ok (.iconst 0, 1) := by decide +kernel
theorem dX6_end_185 : decode cX6_end 185 = .ok (.goto 12, 3) := by decide +kernel
theorem dX6_end_188 : decode cX6_end 188 = .ok (.aload_n 0, 1) := by decide +kernel
theorem dX6_end_189 : decode cX6_end 189 = .ok (.getfield 23, 3) := by decide +kernel
theorem dX6_end_192 : decode cX6_end 192 = .ok (.aload_n 0, 1) := by decide +kernel
theorem dX6_end_193 : decode cX6_end 193 = .ok (.getfield 94, 3) := by decide +kernel
theorem dX6_end_196 : decode cX6_end 196 = .ok (.iaload, 1) := by decide +kernel
theorem dX6_end_197 : decode cX6_end 197 = .ok (.iastore, 1) := by decide +kernel
theorem dX6_end_198 : decode cX6_end 198 = .ok (.aload_n 0, 1) := by decide +kernel
theorem dX6_end_199 : decode cX6_end 199 = .ok (.dup, 1) := by decide +kernel
theorem dX6_end_200 : decode cX6_end 200 = .ok (.getfield 141, 3) := by decide +kernel
theorem dX6_end_203 : decode cX6_end 203 = .ok (.iconst 1, 1) := by decide +kernel
theorem dX6_end_204 : decode cX6_end 204 = .ok (.iadd, 1) := by decide +kernel
theorem dX6_end_205 : decode cX6_end 205 = .ok (.putfield 141, 3) := by decide +kernel
theorem dX6_end_208 : decode cX6_end 208 = .ok (.goto (-176), 3) := by decide +kernel
theorem dX6_end_211 : decode cX6_end 211 = .ok (.aload_n 0, 1) := by decide +kernel
theorem dX6_end_212 : decode cX6_end 212 = .ok (.iconst 0, 1) := by decide +kernel
theorem dX6_end_213 : decode cX6_end 213 = .ok (.putfield 144, 3) := by decide +kernel
theorem dX6_end_216 : decode cX6_end 216 = .ok (.iconst 0, 1) := by decide +kernel
theorem dX6_end_217 : decode cX6_end 217 = .ok (.istore_n 2, 1) := by decide +kernel
theorem dX6_end_218 : decode cX6_end 218 = .ok (.iconst 0, 1) := by decide +kernel
theorem dX6_end_219 : decode cX6_end 219 = .ok (.istore_n 3, 1) := by decide +kernel
theorem dX6_end_220 : decode cX6_end 220 = .ok (.iload_n 3, 1) := by decide +kernel
theorem dX6_end_221 : decode cX6_end 221 = .ok (.aload_n 0, 1) := by decide +kernel
theorem dX6_end_222 : decode cX6_end 222 = .ok (.getfield 138, 3) := by decide +kernel
theorem dX6_end_225 : decode cX6_end 225 = .ok (.if_icmp .ge 53, 3) := by decide +kernel
theorem dX6_end_228 : decode cX6_end 228 = .ok (.aload_n 0, 1) := by decide +kernel
theorem dX6_end_229 : decode cX6_end 229 = .ok (.getfield 41, 3) := by decide +kernel
theorem dX6_end_232 : decode cX6_end 232 = .ok (.iload_n 3, 1) := by decide +kernel
theorem dX6_end_233 : decode cX6_end 233 = .ok (.iaload, 1) := by decide +kernel
theorem dX6_end_234 : decode cX6_end 234 = .ok (.aload_n 0, 1) := by decide +kernel
theorem dX6_end_235 : decode cX6_end 235 = .ok (.getfield 91, 3) := by decide +kernel
theorem dX6_end_238 : decode cX6_end 238 = .ok (.if_icmp .ne 31, 3) := by decide +kernel
theorem dX6_end_241 : decode cX6_end 241 = .ok (.aload_n 0, 1) := by decide +kernel
theorem dX6_end_242 : decode cX6_end 242 = .ok (.getfield 50, 3) := by decide +kernel
theorem dX6_end_245 : decode cX6_end 245 = .ok (.aload_n 0, 1) := by decide +kernel
theorem dX6_end_246 : decode cX6_end 246 = .ok (.getfield 144, 3) := by decide +kernel
theorem dX6_end_249 : decode cX6_end 249 = .ok (.aload_n 0, 1) := by decide +kernel
theorem dX6_end_250 : decode cX6_end 250 = .ok (.getfield 38, 3) := by decide +kernel
theorem dX6_end_253 : decode cX6_end 253 = .ok (.iload_n 3, 1) := by decide +kernel
theorem dX6_end_254 : decode cX6_end 254 = .ok (.iaload, 1) := by decide +kernel
theorem dX6_end_255 : decode cX6_end 255 = .ok (.iastore, 1) := by decide +kernel
theorem dX6_end_256 : decode cX6_end 256 = .ok (.aload_n 0, 1) := by decide +kernel
theorem dX6_end_257 : decode cX6_end 257 = .ok (.dup, 1) := by decide +kernel
theorem dX6_end_258 : decode cX6_end 258 = .ok (.getfield 144, 3) := by decide +kernel
theorem dX6_end_261 : decode cX6_end 261 = .ok (.iconst 1, 1) := by decide +kernel
theorem dX6_end_262 : decode cX6_end 262 = .ok (.iadd, 1) := by decide +kernel
theorem dX6_end_263 : decode cX6_end 263 = .ok (.putfield 144, 3) := by decide +kernel
theorem dX6_end_266 : decode cX6_end 266 = .ok (.goto 6, 3) := by decide +kernel
theorem dX6_end_269 : decode cX6_end 269 = .ok (.iinc 2 1, 3) := by decide +kernel
theorem dX6_end_272 : decode cX6_end 272 = .ok (.iinc 3 1, 3) := by decide +kernel
theorem dX6_end_275 : decode cX6_end 275 = .ok (.goto (-55), 3) := by decide +kernel
theorem dX6_end_278 : decode cX6_end 278 = .ok (.aload_n 0, 1) := by decide +kernel
theorem dX6_end_279 : decode cX6_end 279 = .ok (.iload_n 2, 1) := by decide +kernel
theorem dX6_end_280 : decode cX6_end 280 = .ok (.putfield 138, 3) := by decide +kernel
theorem dX6_end_283 : decode cX6_end 283 = .ok (.aload_n 0, 1) := by decide +kernel
theorem dX6_end_284 : decode cX6_end 284 = .ok (.dup, 1) := by decide +kernel
theorem dX6_end_285 : decode cX6_end 285 = .ok (.getfield 91, 3) := by decide +kernel
theorem dX6_end_288 : decode cX6_end 288 = .ok (.iconst 1, 1) := by decide +kernel
theorem dX6_end_289 : decode cX6_end 289 = .ok (.isub, 1) := by decide +kernel
theorem dX6_end_290 : decode cX6_end 290 = .ok (.putfield 91, 3) := by decide +kernel
theorem dX6_end_293 : decode cX6_end 293 = .ok (.iload_n 1, 1) := by decide +kernel
theorem dX6_end_294 : decode cX6_end 294 = .ok (.ireturn, 1) := by decide +kernel
theorem dX6_restored_0 : decode cX6_restored 0 = .ok (.aload_n 0, 1) := by decide +kernel
theorem dX6_restored_1 : decode cX6_restored 1 = .ok (.iload_n 1, 1) := by decide +kernel
theorem dX6_restored_2 : decode cX6_restored 2 = .ok (.i2l, 1) := by decide +kernel
theorem dX6_restored_3 : decode cX6_restored 3 = .ok (.lconst 0, 1) := by decide +kernel
theorem dX6_restored_4 : decode cX6_restored 4 = .ok (.aload_n 0, 1) := by decide +kernel
theorem dX6_restored_5 : decode cX6_restored 5 = .ok (.getfield 141, 3) := by decide +kernel
theorem dX6_restored_8 : decode cX6_restored 8 = .ok (.i2l, 1) := by decide +kernel
theorem dX6_restored_9 : decode cX6_restored 9 = .ok (.lconst 1, 1) := by decide +kernel
theorem dX6_restored_10 : decode cX6_restored 10 = .ok (.lsub, 1) := by decide +kernel
theorem dX6_restored_11 : decode cX6_restored 11 = .ok (.invokestatic 67, 3) := by decide +kernel
theorem dX6_restored_14 : decode cX6_restored 14 = .ok (.ifCond .eq 19, 3) := by decide +kernel
theorem dX6_restored_17 : decode cX6_restored 17 = .ok (.iload_n 2, 1) := by decide +kernel
theorem dX6_restored_18 : decode cX6_restored 18 = .ok (.i2l, 1) := by decide +kernel
theorem dX6_restored_19 : decode cX6_restored 19 = .ok (.lconst 0, 1) := by decide +kernel
theorem dX6_restored_20 : decode cX6_restored 20 = .ok (.ldc2_w 121, 3) := by decide +kernel
theorem dX6_restored_23 : decode cX6_restored 23 = .ok (.invokestatic 67, 3) := by decide +kernel
theorem dX6_restored_26 : decode cX6_restored 26 = .ok (.ifCond .eq 7, 3) := by decide +kernel
theorem dX6_restored_29 : decode cX6_restored 29 = .ok (.iconst 0, 1) := by decide +kernel
theorem dX6_restored_30 : decode cX6_restored 30 = .ok (.goto 4, 3) := by decide +kernel
theorem dX6_restored_33 : decode cX6_restored 33 = .ok (.iconst 1, 1) := by decide +kernel
theorem dX6_restored_34 : decode cX6_restored 34 = .ok (.putfield 61, 3) := by decide +kernel
theorem dX6_restored_37 : decode cX6_restored 37 = .ok (.aload_n 0, 1) := by decide +kernel
theorem dX6_restored_38 : decode cX6_restored 38 = .ok (.getfield 61, 3) := by decide +kernel
theorem dX6_restored_41 : decode cX6_restored 41 = .ok (.ifCond .le 5, 3) := by decide +kernel
theorem dX6_restored_44 : decode cX6_restored 44 = .ok (.iconst 0, 1) := by decide +kernel
theorem dX6_restored_45 : decode cX6_restored 45 = .ok (.ireturn, 1) := by decide +kernel
theorem dX6_restored_46 : decode cX6_restored 46 = .ok (.iload_n 2, 1) := by decide +kernel
theorem dX6_restored_47 : decode cX6_restored 47 = .ok (.ifCond .ne 15, 3) := by decide +kernel
theorem dX6_restored_50 : decode cX6_restored 50 = .ok (.aload_n 0, 1) := by decide +kernel
theorem dX6_restored_51 : decode cX6_restored 51 = .ok (.getfield 44, 3) := by decide +kernel
theorem dX6_restored_54 : decode cX6_restored 54 = .ok (.iload_n 1, 1) := by decide +kernel
theorem dX6_restored_55 : decode cX6_restored 55 = .ok (.iaload, 1) := by decide +kernel
theorem dX6_restored_56 : decode cX6_restored 56 = .ok (.bipush 32, 2) := by decide +kernel
theorem dX6_restored_58 : decode cX6_restored 58 = .ok (.idiv, 1) := by decide +kernel
theorem dX6_restored_59 : decode cX6_restored 59 = .ok (.goto 26, 3) := by decide +kernel
theorem dX6_restored_62 : decode cX6_restored 62 = .ok (.iload_n 2, 1) := by decide +kernel
theorem dX6_restored_63 : decode cX6_restored 63 = .ok (.iconst 1, 1) := by decide +kernel
theorem dX6_restored_64 : decode cX6_restored 64 = .ok (.if_icmp .ne 15, 3) := by decide +kernel
theorem dX6_restored_67 : decode cX6_restored 67 = .ok (.aload_n 0, 1) := by decide +kernel
theorem dX6_restored_68 : decode cX6_restored 68 = .ok (.getfield 44, 3) := by decide +kernel
theorem dX6_restored_71 : decode cX6_restored 71 = .ok (.iload_n 1, 1) := by decide +kernel
theorem dX6_restored_72 : decode cX6_restored 72 = .ok (.iaload, 1) := by decide +kernel
theorem dX6_restored_73 : decode cX6_restored 73 = .ok (.bipush 32, 2) := by decide +kernel
theorem dX6_restored_75 : decode cX6_restored 75 = .ok (.irem, 1) := by decide +kernel
theorem dX6_restored_76 : decode cX6_restored 76 = .ok (.goto 9, 3) := by decide +kernel
theorem dX6_restored_79 : decode cX6_restored 79 = .ok (.aload_n 0, 1) := by decide +kernel
theorem dX6_restored_80 : decode cX6_restored 80 = .ok (.getfield 47, 3) := by decide +kernel
theorem dX6_restored_83 : decode cX6_restored 83 = .ok (.iload_n 1, 1) := by decide +kernel
theorem dX6_restored_84 : decode cX6_restored 84 = .ok (.iaload, 1) := by decide +kernel
theorem dX6_restored_85 : decode cX6_restored 85 = .ok (.ireturn, 1) := by decide +kernel
theorem dX6_behind_0 : decode cX6_behind 0 = .ok (.aload_n 0, 1) := by decide +kernel
theorem dX6_behind_1 : decode cX6_behind 1 = .ok (.iconst 0, 1) := by decide +kernel
theorem dX6_behind_2 : decode cX6_behind 2 = .ok (.putfield 61, 3) := by decide +kernel
theorem dX6_behind_5 : decode cX6_behind 5 = .ok (.iload_n 1, 1) := by decide +kernel
theorem dX6_behind_6 : decode cX6_behind 6 = .ok (.ifCond .lt 20, 3) := by decide +kernel
theorem dX6_behind_9 : decode cX6_behind 9 = .ok (.iload_n 1, 1) := by decide +kernel
theorem dX6_behind_10 : decode cX6_behind 10 = .ok (.aload_n 0, 1) := by decide +kernel
theorem dX6_behind_11 : decode cX6_behind 11 = .ok (.getfield 144, 3) := by decide +kernel
theorem dX6_behind_14 : decode cX6_behind 14 = .ok (.if_icmp .ge 12, 3) := by decide +kernel
theorem dX6_behind_17 : decode cX6_behind 17 = .ok (.aload_n 0, 1) := by decide +kernel
theorem dX6_behind_18 : decode cX6_behind 18 = .ok (.getfield 50, 3) := by decide +kernel
theorem dX6_behind_21 : decode cX6_behind 21 = .ok (.iload_n 1, 1) := by decide +kernel
theorem dX6_behind_22 : decode cX6_behind 22 = .ok (.iaload, 1) := by decide +kernel
theorem dX6_behind_23 : decode cX6_behind 23 = .ok (.goto 4, 3) := by decide +kernel
theorem dX6_behind_26 : decode cX6_behind 26 = .ok (.iconst (-1), 1) := by decide +kernel
theorem dX6_behind_27 : decode cX6_behind 27 = .ok (.ireturn, 1) := by decide +kernel
theorem dX6_get_0 : decode cX6_get 0 = .ok (.aload_n 0, 1) := by decide +kernel
theorem dX6_get_1 : decode cX6_get 1 = .ok (.iload_n 1, 1) := by decide +kernel
theorem dX6_get_2 : decode cX6_get 2 = .ok (.invokestatic 109, 3) := by decide +kernel
theorem dX6_get_5 : decode cX6_get 5 = .ok (.ifCond .ne 7, 3) := by decide +kernel
theorem dX6_get_8 : decode cX6_get 8 = .ok (.iconst 1, 1) := by decide +kernel
theorem dX6_get_9 : decode cX6_get 9 = .ok (.goto 15, 3) := by decide +kernel
theorem dX6_get_12 : decode cX6_get 12 = .ok (.iload_n 2, 1) := by decide +kernel
theorem dX6_get_13 : decode cX6_get 13 = .ok (.invokestatic 114, 3) := by decide +kernel
theorem dX6_get_16 : decode cX6_get 16 = .ok (.ifCond .ne 7, 3) := by decide +kernel
theorem dX6_get_19 : decode cX6_get 19 = .ok (.iconst 2, 1) := by decide +kernel
theorem dX6_get_20 : decode cX6_get 20 = .ok (.goto 4, 3) := by decide +kernel
theorem dX6_get_23 : decode cX6_get 23 = .ok (.iconst 0, 1) := by decide +kernel
theorem dX6_get_24 : decode cX6_get 24 = .ok (.putfield 61, 3) := by decide +kernel
theorem dX6_get_27 : decode cX6_get 27 = .ok (.aload_n 0, 1) := by decide +kernel
theorem dX6_get_28 : decode cX6_get 28 = .ok (.getfield 61, 3) := by decide +kernel
theorem dX6_get_31 : decode cX6_get 31 = .ok (.ifCond .le 7, 3) := by decide +kernel
theorem dX6_get_34 : decode cX6_get 34 = .ok (.lconst 0, 1) := by decide +kernel
theorem dX6_get_35 : decode cX6_get 35 = .ok (.goto 17, 3) := by decide +kernel
theorem dX6_get_38 : decode cX6_get 38 = .ok (.aload_n 0, 1) := by decide +kernel
theorem dX6_get_39 : decode cX6_get 39 = .ok (.getfield 7, 3) := by decide +kernel
theorem dX6_get_42 : decode cX6_get 42 = .ok (.bipush 21, 2) := by decide +kernel
theorem dX6_get_44 : decode cX6_get 44 = .ok (.bipush 32, 2) := by decide +kernel
theorem dX6_get_46 : decode cX6_get 46 = .ok (.iload_n 1, 1) := by decide +kernel
theorem dX6_get_47 : decode cX6_get 47 = .ok (.imul, 1) := by decide +kernel
theorem dX6_get_48 : decode cX6_get 48 = .ok (.iload_n 2, 1) := by decide +kernel
theorem dX6_get_49 : decode cX6_get 49 = .ok (.iadd, 1) := by decide +kernel
theorem dX6_get_50 : decode cX6_get 50 = .ok (.imul, 1) := by decide +kernel
theorem dX6_get_51 : decode cX6_get 51 = .ok (.laload, 1) := by decide +kernel
theorem dX6_get_52 : decode cX6_get 52 = .ok (.lreturn, 1) := by decide +kernel
theorem dX6_part_0 : decode cX6_part 0 = .ok (.aload_n 0, 1) := by decide +kernel
theorem dX6_part_1 : decode cX6_part 1 = .ok (.iload_n 1, 1) := by decide +kernel
theorem dX6_part_2 : decode cX6_part 2 = .ok (.invokestatic 114, 3) := by decide +kernel
theorem dX6_part_5 : decode cX6_part 5 = .ok (.ifCond .eq 19, 3) := by decide +kernel
theorem dX6_part_8 : decode cX6_part 8 = .ok (.iload_n 2, 1) := by decide +kernel
theorem dX6_part_9 : decode cX6_part 9 = .ok (.i2l, 1) := by decide +kernel
theorem dX6_part_10 : decode cX6_part 10 = .ok (.lconst 0, 1) := by decide +kernel
theorem dX6_part_11 : decode cX6_part 11 = .ok (.ldc2_w 65, 3) := by decide +kernel
theorem dX6_part_14 : decode cX6_part 14 = .ok (.invokestatic 67, 3) := by decide +kernel
theorem dX6_part_17 : decode cX6_part 17 = .ok (.ifCond .eq 7, 3) := by decide +kernel
theorem dX6_part_20 : decode cX6_part 20 = .ok (.iconst 0, 1) := by decide +kernel
theorem dX6_part_21 : decode cX6_part 21 = .ok (.goto 4, 3) := by decide +kernel
theorem dX6_part_24 : decode cX6_part 24 = .ok (.iconst 1, 1) := by decide +kernel
theorem dX6_part_25 : decode cX6_part 25 = .ok (.putfield 61, 3) := by decide +kernel
theorem dX6_part_28 : decode cX6_part 28 = .ok (.aload_n 0, 1) := by decide +kernel
theorem dX6_part_29 : decode cX6_part 29 = .ok (.getfield 61, 3) := by decide +kernel
theorem dX6_part_32 : decode cX6_part 32 = .ok (.ifCond .le 7, 3) := by decide +kernel
theorem dX6_part_35 : decode cX6_part 35 = .ok (.lconst 0, 1) := by decide +kernel
theorem dX6_part_36 : decode cX6_part 36 = .ok (.goto 17, 3) := by decide +kernel
theorem dX6_part_39 : decode cX6_part 39 = .ok (.aload_n 0, 1) := by decide +kernel
theorem dX6_part_40 : decode cX6_part 40 = .ok (.getfield 7, 3) := by decide +kernel
theorem dX6_part_43 : decode cX6_part 43 = .ok (.bipush 21, 2) := by decide +kernel
theorem dX6_part_45 : decode cX6_part 45 = .ok (.bipush 64, 2) := by decide +kernel
theorem dX6_part_47 : decode cX6_part 47 = .ok (.iload_n 1, 1) := by decide +kernel
theorem dX6_part_48 : decode cX6_part 48 = .ok (.iadd, 1) := by decide +kernel
theorem dX6_part_49 : decode cX6_part 49 = .ok (.imul, 1) := by decide +kernel
theorem dX6_part_50 : decode cX6_part 50 = .ok (.iload_n 2, 1) := by decide +kernel
theorem dX6_part_51 : decode cX6_part 51 = .ok (.iadd, 1) := by decide +kernel
theorem dX6_part_52 : decode cX6_part 52 = .ok (.laload, 1) := by decide +kernel
theorem dX6_part_53 : decode cX6_part 53 = .ok (.lreturn, 1) := by decide +kernel
theorem dX6_at_0 : decode cX6_at 0 = .ok (.iload_n 1, 1) := by decide +kernel
theorem dX6_at_1 : decode cX6_at 1 = .ok (.invokestatic 114, 3) := by decide +kernel
theorem dX6_at_4 : decode cX6_at 4 = .ok (.ifCond .eq 11, 3) := by decide +kernel
theorem dX6_at_7 : decode cX6_at 7 = .ok (.iload_n 2, 1) := by decide +kernel
theorem dX6_at_8 : decode cX6_at 8 = .ok (.ifCond .lt 7, 3) := by decide +kernel
theorem dX6_at_11 : decode cX6_at 11 = .ok (.iconst 1, 1) := by decide +kernel
theorem dX6_at_12 : decode cX6_at 12 = .ok (.goto 4, 3) := by decide +kernel
theorem dX6_at_15 : decode cX6_at 15 = .ok (.iconst 0, 1) := by decide +kernel
theorem dX6_at_16 : decode cX6_at 16 = .ok (.istore_n 3, 1) := by decide +kernel
theorem dX6_at_17 : decode cX6_at 17 = .ok (.aload_n 0, 1) := by decide +kernel
theorem dX6_at_18 : decode cX6_at 18 = .ok (.iload_n 3, 1) := by decide +kernel
theorem dX6_at_19 : decode cX6_at 19 = .ok (.ifCond .eq 25, 3) := by decide +kernel
theorem dX6_at_22 : decode cX6_at 22 = .ok (.iload_n 2, 1) := by decide +kernel
theorem dX6_at_23 : decode cX6_at 23 = .ok (.i2l, 1) := by decide +kernel
theorem dX6_at_24 : decode cX6_at 24 = .ok (.aload_n 0, 1) := by decide +kernel
theorem dX6_at_25 : decode cX6_at 25 = .ok (.getfield 7, 3) := by decide +kernel
theorem dX6_at_28 : decode cX6_at 28 = .ok (.bipush 21, 2) := by decide +kernel
theorem dX6_at_30 : decode cX6_at 30 = .ok (.bipush 96, 2) := by decide +kernel
theorem dX6_at_32 : decode cX6_at 32 = .ok (.iload_n 1, 1) := by decide +kernel
theorem dX6_at_33 : decode cX6_at 33 = .ok (.iadd, 1) := by decide +kernel
theorem dX6_at_34 : decode cX6_at 34 = .ok (.imul, 1) := by decide +kernel
theorem dX6_at_35 : decode cX6_at 35 = .ok (.laload, 1) := by decide +kernel
theorem dX6_at_36 : decode cX6_at 36 = .ok (.lcmp, 1) := by decide +kernel
theorem dX6_at_37 : decode cX6_at 37 = .ok (.ifCond .ge 7, 3) := by decide +kernel
theorem dX6_at_40 : decode cX6_at 40 = .ok (.iconst 0, 1) := by decide +kernel
theorem dX6_at_41 : decode cX6_at 41 = .ok (.goto 4, 3) := by decide +kernel
theorem dX6_at_44 : decode cX6_at 44 = .ok (.iconst 1, 1) := by decide +kernel
theorem dX6_at_45 : decode cX6_at 45 = .ok (.putfield 61, 3) := by decide +kernel
theorem dX6_at_48 : decode cX6_at 48 = .ok (.aload_n 0, 1) := by decide +kernel
theorem dX6_at_49 : decode cX6_at 49 = .ok (.getfield 61, 3) := by decide +kernel
theorem dX6_at_52 : decode cX6_at 52 = .ok (.ifCond .le 7, 3) := by decide +kernel
theorem dX6_at_55 : decode cX6_at 55 = .ok (.iconst 0, 1) := by decide +kernel
theorem dX6_at_56 : decode cX6_at 56 = .ok (.goto 20, 3) := by decide +kernel
theorem dX6_at_59 : decode cX6_at 59 = .ok (.aload_n 0, 1) := by decide +kernel
theorem dX6_at_60 : decode cX6_at 60 = .ok (.getfield 7, 3) := by decide +kernel
theorem dX6_at_63 : decode cX6_at 63 = .ok (.bipush 21, 2) := by decide +kernel
theorem dX6_at_65 : decode cX6_at 65 = .ok (.bipush 96, 2) := by decide +kernel
theorem dX6_at_67 : decode cX6_at 67 = .ok (.iload_n 1, 1) := by decide +kernel
theorem dX6_at_68 : decode cX6_at 68 = .ok (.iadd, 1) := by decide +kernel
theorem dX6_at_69 : decode cX6_at 69 = .ok (.imul, 1) := by decide +kernel
theorem dX6_at_70 : decode cX6_at 70 = .ok (.iconst 1, 1) := by decide +kernel
theorem dX6_at_71 : decode cX6_at 71 = .ok (.iadd, 1) := by decide +kernel
theorem dX6_at_72 : decode cX6_at 72 = .ok (.iload_n 2, 1) := by decide +kernel
theorem dX6_at_73 : decode cX6_at 73 = .ok (.iadd, 1) := by decide +kernel
theorem dX6_at_74 : decode cX6_at 74 = .ok (.laload, 1) := by decide +kernel
theorem dX6_at_75 : decode cX6_at 75 = .ok (.l2i, 1) := by decide +kernel
theorem dX6_at_76 : decode cX6_at 76 = .ok (.ireturn, 1) := by decide +kernel
theorem dX6_told_0 : decode cX6_told 0 = .ok (.iload_n 1, 1) := by decide +kernel
theorem dX6_told_1 : decode cX6_told 1 = .ok (.i2l, 1) := by decide +kernel
theorem dX6_told_2 : decode cX6_told 2 = .ok (.ldc2_w 147, 3) := by decide +kernel
theorem dX6_told_5 : decode cX6_told 5 = .ok (.ldc2_w 149, 3) := by decide +kernel
theorem dX6_told_8 : decode cX6_told 8 = .ok (.invokestatic 67, 3) := by decide +kernel
theorem dX6_told_11 : decode cX6_told 11 = .ok (.istore_n 3, 1) := by decide +kernel
theorem dX6_told_12 : decode cX6_told 12 = .ok (.aload_n 0, 1) := by decide +kernel
theorem dX6_told_13 : decode cX6_told 13 = .ok (.iload_n 1, 1) := by decide +kernel
theorem dX6_told_14 : decode cX6_told 14 = .ok (.i2l, 1) := by decide +kernel
theorem dX6_told_15 : decode cX6_told 15 = .ok (.lconst 0, 1) := by decide +kernel
theorem dX6_told_16 : decode cX6_told 16 = .ok (.lconst 1, 1) := by decide +kernel
theorem dX6_told_17 : decode cX6_told 17 = .ok (.invokestatic 67, 3) := by decide +kernel
theorem dX6_told_20 : decode cX6_told 20 = .ok (.ifCond .ne 11, 3) := by decide +kernel
theorem dX6_told_23 : decode cX6_told 23 = .ok (.iload_n 3, 1) := by decide +kernel
theorem dX6_told_24 : decode cX6_told 24 = .ok (.ifCond .ne 7, 3) := by decide +kernel
theorem dX6_told_27 : decode cX6_told 27 = .ok (.iconst 1, 1) := by decide +kernel
theorem dX6_told_28 : decode cX6_told 28 = .ok (.goto 19, 3) := by decide +kernel
theorem dX6_told_31 : decode cX6_told 31 = .ok (.iload_n 3, 1) := by decide +kernel
theorem dX6_told_32 : decode cX6_told 32 = .ok (.ifCond .eq 14, 3) := by decide +kernel
theorem dX6_told_35 : decode cX6_told 35 = .ok (.iload_n 2, 1) := by decide +kernel
theorem dX6_told_36 : decode cX6_told 36 = .ok (.invokestatic 114, 3) := by decide +kernel
theorem dX6_told_39 : decode cX6_told 39 = .ok (.ifCond .ne 7, 3) := by decide +kernel
theorem dX6_told_42 : decode cX6_told 42 = .ok (.iconst 2, 1) := by decide +kernel
theorem dX6_told_43 : decode cX6_told 43 = .ok (.goto 4, 3) := by decide +kernel
theorem dX6_told_46 : decode cX6_told 46 = .ok (.iconst 0, 1) := by decide +kernel
theorem dX6_told_47 : decode cX6_told 47 = .ok (.putfield 61, 3) := by decide +kernel
theorem dX6_told_50 : decode cX6_told 50 = .ok (.aload_n 0, 1) := by decide +kernel
theorem dX6_told_51 : decode cX6_told 51 = .ok (.getfield 61, 3) := by decide +kernel
theorem dX6_told_54 : decode cX6_told 54 = .ok (.ifCond .le 5, 3) := by decide +kernel
theorem dX6_told_57 : decode cX6_told 57 = .ok (.iconst 0, 1) := by decide +kernel
theorem dX6_told_58 : decode cX6_told 58 = .ok (.ireturn, 1) := by decide +kernel
theorem dX6_told_59 : decode cX6_told 59 = .ok (.iload_n 3, 1) := by decide +kernel
theorem dX6_told_60 : decode cX6_told 60 = .ok (.ifCond .eq 20, 3) := by decide +kernel
theorem dX6_told_63 : decode cX6_told 63 = .ok (.aload_n 0, 1) := by decide +kernel
theorem dX6_told_64 : decode cX6_told 64 = .ok (.getfield 13, 3) := by decide +kernel
theorem dX6_told_67 : decode cX6_told 67 = .ok (.bipush 32, 2) := by decide +kernel
theorem dX6_told_69 : decode cX6_told 69 = .ok (.iload_n 1, 1) := by decide +kernel
theorem dX6_told_70 : decode cX6_told 70 = .ok (.bipush 10, 2) := by decide +kernel
theorem dX6_told_72 : decode cX6_told 72 = .ok (.isub, 1) := by decide +kernel
theorem dX6_told_73 : decode cX6_told 73 = .ok (.imul, 1) := by decide +kernel
theorem dX6_told_74 : decode cX6_told 74 = .ok (.iload_n 2, 1) := by decide +kernel
theorem dX6_told_75 : decode cX6_told 75 = .ok (.iadd, 1) := by decide +kernel
theorem dX6_told_76 : decode cX6_told 76 = .ok (.iaload, 1) := by decide +kernel
theorem dX6_told_77 : decode cX6_told 77 = .ok (.goto 18, 3) := by decide +kernel
theorem dX6_told_80 : decode cX6_told 80 = .ok (.iload_n 1, 1) := by decide +kernel
theorem dX6_told_81 : decode cX6_told 81 = .ok (.ifCond .ne 10, 3) := by decide +kernel
theorem dX6_told_84 : decode cX6_told 84 = .ok (.aload_n 0, 1) := by decide +kernel
theorem dX6_told_85 : decode cX6_told 85 = .ok (.getfield 91, 3) := by decide +kernel
theorem dX6_told_88 : decode cX6_told 88 = .ok (.goto 7, 3) := by decide +kernel
theorem dX6_told_91 : decode cX6_told 91 = .ok (.aload_n 0, 1) := by decide +kernel
theorem dX6_told_92 : decode cX6_told 92 = .ok (.getfield 94, 3) := by decide +kernel
theorem dX6_told_95 : decode cX6_told 95 = .ok (.ireturn, 1) := by decide +kernel
theorem dX6_upOf_0 : decode cX6_upOf 0 = .ok (.iload_n 0, 1) := by decide +kernel
theorem dX6_upOf_1 : decode cX6_upOf 1 = .ok (.ifCond .ne 5, 3) := by decide +kernel
theorem dX6_upOf_4 : decode cX6_upOf 4 = .ok (.lconst 1, 1) := by decide +kernel
theorem dX6_upOf_5 : decode cX6_upOf 5 = .ok (.lreturn, 1) := by decide +kernel
theorem dX6_upOf_6 : decode cX6_upOf 6 = .ok (.iload_n 0, 1) := by decide +kernel
theorem dX6_upOf_7 : decode cX6_upOf 7 = .ok (.iconst 2, 1) := by decide +kernel
theorem dX6_upOf_8 : decode cX6_upOf 8 = .ok (.if_icmp .ne 7, 3) := by decide +kernel
theorem dX6_upOf_11 : decode cX6_upOf 11 = .ok (.ldc2_w 151, 3) := by decide +kernel
theorem dX6_upOf_14 : decode cX6_upOf 14 = .ok (.lreturn, 1) := by decide +kernel
theorem dX6_upOf_15 : decode cX6_upOf 15 = .ok (.iload_n 0, 1) := by decide +kernel
theorem dX6_upOf_16 : decode cX6_upOf 16 = .ok (.bipush 6, 2) := by decide +kernel
theorem dX6_upOf_18 : decode cX6_upOf 18 = .ok (.if_icmp .ne 9, 3) := by decide +kernel
theorem dX6_upOf_21 : decode cX6_upOf 21 = .ok (.ldc2_w 153, 3) := by decide +kernel
theorem dX6_upOf_24 : decode cX6_upOf 24 = .ok (.goto 18, 3) := by decide +kernel
theorem dX6_upOf_27 : decode cX6_upOf 27 = .ok (.iload_n 0, 1) := by decide +kernel
theorem dX6_upOf_28 : decode cX6_upOf 28 = .ok (.bipush 7, 2) := by decide +kernel
theorem dX6_upOf_30 : decode cX6_upOf 30 = .ok (.if_icmp .ne 9, 3) := by decide +kernel
theorem dX6_upOf_33 : decode cX6_upOf 33 = .ok (.ldc2_w 155, 3) := by decide +kernel
theorem dX6_upOf_36 : decode cX6_upOf 36 = .ok (.goto 6, 3) := by decide +kernel
theorem dX6_upOf_39 : decode cX6_upOf 39 = .ok (.ldc2_w 157, 3) := by decide +kernel
theorem dX6_upOf_42 : decode cX6_upOf 42 = .ok (.lreturn, 1) := by decide +kernel
theorem dX6_lowOf_0 : decode cX6_lowOf 0 = .ok (.iload_n 0, 1) := by decide +kernel
theorem dX6_lowOf_1 : decode cX6_lowOf 1 = .ok (.ifCond .eq 8, 3) := by decide +kernel
theorem dX6_lowOf_4 : decode cX6_lowOf 4 = .ok (.iload_n 0, 1) := by decide +kernel
theorem dX6_lowOf_5 : decode cX6_lowOf 5 = .ok (.iconst 2, 1) := by decide +kernel
theorem dX6_lowOf_6 : decode cX6_lowOf 6 = .ok (.if_icmp .ne 5, 3) := by decide +kernel
theorem dX6_lowOf_9 : decode cX6_lowOf 9 = .ok (.lconst 1, 1) := by decide +kernel
theorem dX6_lowOf_10 : decode cX6_lowOf 10 = .ok (.lreturn, 1) := by decide +kernel
theorem dX6_lowOf_11 : decode cX6_lowOf 11 = .ok (.iload_n 0, 1) := by decide +kernel
theorem dX6_lowOf_12 : decode cX6_lowOf 12 = .ok (.iconst 1, 1) := by decide +kernel
theorem dX6_lowOf_13 : decode cX6_lowOf 13 = .ok (.if_icmp .ne 7, 3) := by decide +kernel
theorem dX6_lowOf_16 : decode cX6_lowOf 16 = .ok (.ldc2_w 159, 3) := by decide +kernel
theorem dX6_lowOf_19 : decode cX6_lowOf 19 = .ok (.lreturn, 1) := by decide +kernel
theorem dX6_lowOf_20 : decode cX6_lowOf 20 = .ok (.iload_n 0, 1) := by decide +kernel
theorem dX6_lowOf_21 : decode cX6_lowOf 21 = .ok (.iconst 3, 1) := by decide +kernel
theorem dX6_lowOf_22 : decode cX6_lowOf 22 = .ok (.if_icmp .ne 9, 3) := by decide +kernel
theorem dX6_lowOf_25 : decode cX6_lowOf 25 = .ok (.ldc2_w 161, 3) := by decide +kernel
theorem dX6_lowOf_28 : decode cX6_lowOf 28 = .ok (.goto 28, 3) := by decide +kernel
theorem dX6_lowOf_31 : decode cX6_lowOf 31 = .ok (.iload_n 0, 1) := by decide +kernel
theorem dX6_lowOf_32 : decode cX6_lowOf 32 = .ok (.iconst 4, 1) := by decide +kernel
theorem dX6_lowOf_33 : decode cX6_lowOf 33 = .ok (.if_icmp .ne 9, 3) := by decide +kernel
theorem dX6_lowOf_36 : decode cX6_lowOf 36 = .ok (.ldc2_w 163, 3) := by decide +kernel
theorem dX6_lowOf_39 : decode cX6_lowOf 39 = .ok (.goto 17, 3) := by decide +kernel
theorem dX6_lowOf_42 : decode cX6_lowOf 42 = .ok (.iload_n 0, 1) := by decide +kernel
theorem dX6_lowOf_43 : decode cX6_lowOf 43 = .ok (.iconst 5, 1) := by decide +kernel
theorem dX6_lowOf_44 : decode cX6_lowOf 44 = .ok (.if_icmp .ne 9, 3) := by decide +kernel
theorem dX6_lowOf_47 : decode cX6_lowOf 47 = .ok (.ldc2_w 165, 3) := by decide +kernel
theorem dX6_lowOf_50 : decode cX6_lowOf 50 = .ok (.goto 6, 3) := by decide +kernel
theorem dX6_lowOf_53 : decode cX6_lowOf 53 = .ok (.ldc2_w 167, 3) := by decide +kernel
theorem dX6_lowOf_56 : decode cX6_lowOf 56 = .ok (.lreturn, 1) := by decide +kernel
theorem dX6_scaled_0 : decode cX6_scaled 0 = .ok (.aload_n 0, 1) := by decide +kernel
theorem dX6_scaled_1 : decode cX6_scaled 1 = .ok (.iload_n 1, 1) := by decide +kernel
theorem dX6_scaled_2 : decode cX6_scaled 2 = .ok (.i2l, 1) := by decide +kernel
theorem dX6_scaled_3 : decode cX6_scaled 3 = .ok (.lconst 0, 1) := by decide +kernel
theorem dX6_scaled_4 : decode cX6_scaled 4 = .ok (.ldc2_w 75, 3) := by decide +kernel
theorem dX6_scaled_7 : decode cX6_scaled 7 = .ok (.invokestatic 67, 3) := by decide +kernel
theorem dX6_scaled_10 : decode cX6_scaled 10 = .ok (.ifCond .eq 31, 3) := by decide +kernel
theorem dX6_scaled_13 : decode cX6_scaled 13 = .ok (.iload_n 2, 1) := by decide +kernel
theorem dX6_scaled_14 : decode cX6_scaled 14 = .ok (.i2l, 1) := by decide +kernel
theorem dX6_scaled_15 : decode cX6_scaled 15 = .ok (.lconst 0, 1) := by decide +kernel
theorem dX6_scaled_16 : decode cX6_scaled 16 = .ok (.ldc2_w 169, 3) := by decide +kernel
theorem dX6_scaled_19 : decode cX6_scaled 19 = .ok (.invokestatic 67, 3) := by decide +kernel
theorem dX6_scaled_22 : decode cX6_scaled 22 = .ok (.ifCond .eq 19, 3) := by decide +kernel
theorem dX6_scaled_25 : decode cX6_scaled 25 = .ok (.iload_n 3, 1) := by decide +kernel
theorem dX6_scaled_26 : decode cX6_scaled 26 = .ok (.i2l, 1) := by decide +kernel
theorem dX6_scaled_27 : decode cX6_scaled 27 = .ok (.lconst 0, 1) := by decide +kernel
theorem dX6_scaled_28 : decode cX6_scaled 28 = .ok (.ldc2_w 171, 3) := by decide +kernel
theorem dX6_scaled_31 : decode cX6_scaled 31 = .ok (.invokestatic 67, 3) := by decide +kernel
theorem dX6_scaled_34 : decode cX6_scaled 34 = .ok (.ifCond .eq 7, 3) := by decide +kernel
theorem dX6_scaled_37 : decode cX6_scaled 37 = .ok (.iconst 0, 1) := by decide +kernel
theorem dX6_scaled_38 : decode cX6_scaled 38 = .ok (.goto 4, 3) := by decide +kernel
theorem dX6_scaled_41 : decode cX6_scaled 41 = .ok (.iconst 1, 1) := by decide +kernel
theorem dX6_scaled_42 : decode cX6_scaled 42 = .ok (.putfield 61, 3) := by decide +kernel
theorem dX6_scaled_45 : decode cX6_scaled 45 = .ok (.aload_n 0, 1) := by decide +kernel
theorem dX6_scaled_46 : decode cX6_scaled 46 = .ok (.getfield 61, 3) := by decide +kernel
theorem dX6_scaled_49 : decode cX6_scaled 49 = .ok (.ifCond .le 5, 3) := by decide +kernel
theorem dX6_scaled_52 : decode cX6_scaled 52 = .ok (.lconst 0, 1) := by decide +kernel
theorem dX6_scaled_53 : decode cX6_scaled 53 = .ok (.lreturn, 1) := by decide +kernel
theorem dX6_scaled_54 : decode cX6_scaled 54 = .ok (.iload_n 1, 1) := by decide +kernel
theorem dX6_scaled_55 : decode cX6_scaled 55 = .ok (.i2l, 1) := by decide +kernel
theorem dX6_scaled_56 : decode cX6_scaled 56 = .ok (.lstore 4, 2) := by decide +kernel
theorem dX6_scaled_58 : decode cX6_scaled 58 = .ok (.iload_n 3, 1) := by decide +kernel
theorem dX6_scaled_59 : decode cX6_scaled 59 = .ok (.bipush 8, 2) := by decide +kernel
theorem dX6_scaled_61 : decode cX6_scaled 61 = .ok (.if_icmp .ge 54, 3) := by decide +kernel
theorem dX6_scaled_64 : decode cX6_scaled 64 = .ok (.iload_n 1, 1) := by decide +kernel
theorem dX6_scaled_65 : decode cX6_scaled 65 = .ok (.i2l, 1) := by decide +kernel
theorem dX6_scaled_66 : decode cX6_scaled 66 = .ok (.iload_n 3, 1) := by decide +kernel
theorem dX6_scaled_67 : decode cX6_scaled 67 = .ok (.invokestatic 173, 3) := by decide +kernel
theorem dX6_scaled_70 : decode cX6_scaled 70 = .ok (.lmul, 1) := by decide +kernel
theorem dX6_scaled_71 : decode cX6_scaled 71 = .ok (.lstore 6, 2) := by decide +kernel
theorem dX6_scaled_73 : decode cX6_scaled 73 = .ok (.iload_n 3, 1) := by decide +kernel
theorem dX6_scaled_74 : decode cX6_scaled 74 = .ok (.invokestatic 173, 3) := by decide +kernel
theorem dX6_scaled_77 : decode cX6_scaled 77 = .ok (.iload_n 2, 1) := by decide +kernel
theorem dX6_scaled_78 : decode cX6_scaled 78 = .ok (.i2l, 1) := by decide +kernel
theorem dX6_scaled_79 : decode cX6_scaled 79 = .ok (.lmul, 1) := by decide +kernel
theorem dX6_scaled_80 : decode cX6_scaled 80 = .ok (.ldc2_w 177, 3) := by decide +kernel
theorem dX6_scaled_83 : decode cX6_scaled 83 = .ok (.lload 6, 2) := by decide +kernel
theorem dX6_scaled_85 : decode cX6_scaled 85 = .ok (.iload_n 3, 1) := by decide +kernel
theorem dX6_scaled_86 : decode cX6_scaled 86 = .ok (.invokestatic 179, 3) := by decide +kernel
theorem dX6_scaled_89 : decode cX6_scaled 89 = .ok (.lrem, 1) := by decide +kernel
theorem dX6_scaled_90 : decode cX6_scaled 90 = .ok (.lmul, 1) := by decide +kernel
theorem dX6_scaled_91 : decode cX6_scaled 91 = .ok (.ladd, 1) := by decide +kernel
theorem dX6_scaled_92 : decode cX6_scaled 92 = .ok (.iload_n 3, 1) := by decide +kernel
theorem dX6_scaled_93 : decode cX6_scaled 93 = .ok (.invokestatic 179, 3) := by decide +kernel
theorem dX6_scaled_96 : decode cX6_scaled 96 = .ok (.ldiv, 1) := by decide +kernel
theorem dX6_scaled_97 : decode cX6_scaled 97 = .ok (.lstore 8, 2) := by decide +kernel
theorem dX6_scaled_99 : decode cX6_scaled 99 = .ok (.ldc2_w 177, 3) := by decide +kernel
theorem dX6_scaled_102 : decode cX6_scaled 102 = .ok (.lload 6, 2) := by decide +kernel
theorem dX6_scaled_104 : decode cX6_scaled 104 = .ok (.iload_n 3, 1) := by decide +kernel
theorem dX6_scaled_105 : decode cX6_scaled 105 = .ok (.invokestatic 179, 3) := by decide +kernel
theorem dX6_scaled_108 : decode cX6_scaled 108 = .ok (.ldiv, 1) := by decide +kernel
theorem dX6_scaled_109 : decode cX6_scaled 109 = .ok (.lmul, 1) := by decide +kernel
theorem dX6_scaled_110 : decode cX6_scaled 110 = .ok (.lload 8, 2) := by decide +kernel
theorem dX6_scaled_112 : decode cX6_scaled 112 = .ok (.ladd, 1) := by decide +kernel
theorem dX6_scaled_113 : decode cX6_scaled 113 = .ok (.lstore 4, 2) := by decide +kernel
theorem dX6_scaled_115 : decode cX6_scaled 115 = .ok (.lload 4, 2) := by decide +kernel
theorem dX6_scaled_117 : decode cX6_scaled 117 = .ok (.ldc2_w 75, 3) := by decide +kernel
theorem dX6_scaled_120 : decode cX6_scaled 120 = .ok (.lcmp, 1) := by decide +kernel
theorem dX6_scaled_121 : decode cX6_scaled 121 = .ok (.ifCond .le 9, 3) := by decide +kernel
theorem dX6_scaled_124 : decode cX6_scaled 124 = .ok (.ldc2_w 59, 3) := by decide +kernel
theorem dX6_scaled_127 : decode cX6_scaled 127 = .ok (.goto 5, 3) := by decide +kernel
theorem dX6_scaled_130 : decode cX6_scaled 130 = .ok (.lload 4, 2) := by decide +kernel
theorem dX6_scaled_132 : decode cX6_scaled 132 = .ok (.lreturn, 1) := by decide +kernel
theorem dX6_fraction_0 : decode cX6_fraction 0 = .ok (.iload_n 2, 1) := by decide +kernel
theorem dX6_fraction_1 : decode cX6_fraction 1 = .ok (.i2l, 1) := by decide +kernel
theorem dX6_fraction_2 : decode cX6_fraction 2 = .ok (.lconst 1, 1) := by decide +kernel
theorem dX6_fraction_3 : decode cX6_fraction 3 = .ok (.ldc2_w 182, 3) := by decide +kernel
theorem dX6_fraction_6 : decode cX6_fraction 6 = .ok (.invokestatic 67, 3) := by decide +kernel
theorem dX6_fraction_9 : decode cX6_fraction 9 = .ok (.ifCond .eq 11, 3) := by decide +kernel
theorem dX6_fraction_12 : decode cX6_fraction 12 = .ok (.iload_n 1, 1) := by decide +kernel
theorem dX6_fraction_13 : decode cX6_fraction 13 = .ok (.ifCond .lt 7, 3) := by decide +kernel
theorem dX6_fraction_16 : decode cX6_fraction 16 = .ok (.iconst 1, 1) := by decide +kernel
theorem dX6_fraction_17 : decode cX6_fraction 17 = .ok (.goto 4, 3) := by decide +kernel
theorem dX6_fraction_20 : decode cX6_fraction 20 = .ok (.iconst 0, 1) := by decide +kernel
theorem dX6_fraction_21 : decode cX6_fraction 21 = .ok (.istore_n 3, 1) := by decide +kernel
theorem dX6_fraction_22 : decode cX6_fraction 22 = .ok (.lconst 1, 1) := by decide +kernel
theorem dX6_fraction_23 : decode cX6_fraction 23 = .ok (.lstore 4, 2) := by decide +kernel
theorem dX6_fraction_25 : decode cX6_fraction 25 = .ok (.iconst 0, 1) := by decide +kernel
theorem dX6_fraction_26 : decode cX6_fraction 26 = .ok (.istore 6, 2) := by decide +kernel
theorem dX6_fraction_28 : decode cX6_fraction 28 = .ok (.iload 6, 2) := by decide +kernel
theorem dX6_fraction_30 : decode cX6_fraction 30 = .ok (.iload_n 2, 1) := by decide +kernel
theorem dX6_fraction_31 : decode cX6_fraction 31 = .ok (.if_icmp .ge 21, 3) := by decide +kernel
theorem dX6_fraction_34 : decode cX6_fraction 34 = .ok (.iload_n 3, 1) := by decide +kernel
theorem dX6_fraction_35 : decode cX6_fraction 35 = .ok (.ifCond .eq 17, 3) := by decide +kernel
theorem dX6_fraction_38 : decode cX6_fraction 38 = .ok (.ldc2_w 147, 3) := by decide +kernel
theorem dX6_fraction_41 : decode cX6_fraction 41 = .ok (.lload 4, 2) := by decide +kernel
theorem dX6_fraction_43 : decode cX6_fraction 43 = .ok (.lmul, 1) := by decide +kernel
theorem dX6_fraction_44 : decode cX6_fraction 44 = .ok (.lstore 4, 2) := by decide +kernel
theorem dX6_fraction_46 : decode cX6_fraction 46 = .ok (.iinc 6 1, 3) := by decide +kernel
theorem dX6_fraction_49 : decode cX6_fraction 49 = .ok (.goto (-21), 3) := by decide +kernel
theorem dX6_fraction_52 : decode cX6_fraction 52 = .ok (.aload_n 0, 1) := by decide +kernel
theorem dX6_fraction_53 : decode cX6_fraction 53 = .ok (.iload_n 3, 1) := by decide +kernel
theorem dX6_fraction_54 : decode cX6_fraction 54 = .ok (.ifCond .eq 15, 3) := by decide +kernel
theorem dX6_fraction_57 : decode cX6_fraction 57 = .ok (.iload_n 1, 1) := by decide +kernel
theorem dX6_fraction_58 : decode cX6_fraction 58 = .ok (.i2l, 1) := by decide +kernel
theorem dX6_fraction_59 : decode cX6_fraction 59 = .ok (.lload 4, 2) := by decide +kernel
theorem dX6_fraction_61 : decode cX6_fraction 61 = .ok (.lcmp, 1) := by decide +kernel
theorem dX6_fraction_62 : decode cX6_fraction 62 = .ok (.ifCond .ge 7, 3) := by decide +kernel
theorem dX6_fraction_65 : decode cX6_fraction 65 = .ok (.iconst 0, 1) := by decide +kernel
theorem dX6_fraction_66 : decode cX6_fraction 66 = .ok (.goto 4, 3) := by decide +kernel
theorem dX6_fraction_69 : decode cX6_fraction 69 = .ok (.iconst 1, 1) := by decide +kernel
theorem dX6_fraction_70 : decode cX6_fraction 70 = .ok (.putfield 61, 3) := by decide +kernel
theorem dX6_fraction_73 : decode cX6_fraction 73 = .ok (.aload_n 0, 1) := by decide +kernel
theorem dX6_fraction_74 : decode cX6_fraction 74 = .ok (.getfield 61, 3) := by decide +kernel
theorem dX6_fraction_77 : decode cX6_fraction 77 = .ok (.ifCond .le 5, 3) := by decide +kernel
theorem dX6_fraction_80 : decode cX6_fraction 80 = .ok (.iconst 0, 1) := by decide +kernel
theorem dX6_fraction_81 : decode cX6_fraction 81 = .ok (.ireturn, 1) := by decide +kernel
theorem dX6_fraction_82 : decode cX6_fraction 82 = .ok (.iload_n 1, 1) := by decide +kernel
theorem dX6_fraction_83 : decode cX6_fraction 83 = .ok (.istore 6, 2) := by decide +kernel
theorem dX6_fraction_85 : decode cX6_fraction 85 = .ok (.lconst 0, 1) := by decide +kernel
theorem dX6_fraction_86 : decode cX6_fraction 86 = .ok (.lstore 7, 2) := by decide +kernel
theorem dX6_fraction_88 : decode cX6_fraction 88 = .ok (.iconst 0, 1) := by decide +kernel
theorem dX6_fraction_89 : decode cX6_fraction 89 = .ok (.istore 9, 2) := by decide +kernel
theorem dX6_fraction_91 : decode cX6_fraction 91 = .ok (.iload 9, 2) := by decide +kernel
theorem dX6_fraction_93 : decode cX6_fraction 93 = .ok (.iload_n 2, 1) := by decide +kernel
theorem dX6_fraction_94 : decode cX6_fraction 94 = .ok (.if_icmp .ge 35, 3) := by decide +kernel
theorem dX6_fraction_97 : decode cX6_fraction 97 = .ok (.lload 7, 2) := by decide +kernel
theorem dX6_fraction_99 : decode cX6_fraction 99 = .ok (.ldc2_w 184, 3) := by decide +kernel
theorem dX6_fraction_102 : decode cX6_fraction 102 = .ok (.iload 6, 2) := by decide +kernel
theorem dX6_fraction_104 : decode cX6_fraction 104 = .ok (.bipush 10, 2) := by decide +kernel
theorem dX6_fraction_106 : decode cX6_fraction 106 = .ok (.irem, 1) := by decide +kernel
theorem dX6_fraction_107 : decode cX6_fraction 107 = .ok (.i2l, 1) := by decide +kernel
theorem dX6_fraction_108 : decode cX6_fraction 108 = .ok (.lmul, 1) := by decide +kernel
theorem dX6_fraction_109 : decode cX6_fraction 109 = .ok (.ladd, 1) := by decide +kernel
theorem dX6_fraction_110 : decode cX6_fraction 110 = .ok (.ldc2_w 147, 3) := by decide +kernel
theorem dX6_fraction_113 : decode cX6_fraction 113 = .ok (.ldiv, 1) := by decide +kernel
theorem dX6_fraction_114 : decode cX6_fraction 114 = .ok (.lstore 7, 2) := by decide +kernel
theorem dX6_fraction_116 : decode cX6_fraction 116 = .ok (.iload 6, 2) := by decide +kernel
theorem dX6_fraction_118 : decode cX6_fraction 118 = .ok (.bipush 10, 2) := by decide +kernel
theorem dX6_fraction_120 : decode cX6_fraction 120 = .ok (.idiv, 1) := by decide +kernel
theorem dX6_fraction_121 : decode cX6_fraction 121 = .ok (.istore 6, 2) := by decide +kernel
theorem dX6_fraction_123 : decode cX6_fraction 123 = .ok (.iinc 9 1, 3) := by decide +kernel
theorem dX6_fraction_126 : decode cX6_fraction 126 = .ok (.goto (-35), 3) := by decide +kernel
theorem dX6_fraction_129 : decode cX6_fraction 129 = .ok (.lload 7, 2) := by decide +kernel
theorem dX6_fraction_131 : decode cX6_fraction 131 = .ok (.lconst 1, 1) := by decide +kernel
theorem dX6_fraction_132 : decode cX6_fraction 132 = .ok (.ladd, 1) := by decide +kernel
theorem dX6_fraction_133 : decode cX6_fraction 133 = .ok (.ldc2_w 121, 3) := by decide +kernel
theorem dX6_fraction_136 : decode cX6_fraction 136 = .ok (.ldiv, 1) := by decide +kernel
theorem dX6_fraction_137 : decode cX6_fraction 137 = .ok (.l2i, 1) := by decide +kernel
theorem dX6_fraction_138 : decode cX6_fraction 138 = .ok (.ireturn, 1) := by decide +kernel
theorem dX6_say_0 : decode cX6_say 0 = .ok (.aload_n 0, 1) := by decide +kernel
theorem dX6_say_1 : decode cX6_say 1 = .ok (.getfield 53, 3) := by decide +kernel
theorem dX6_say_4 : decode cX6_say 4 = .ok (.aload_n 0, 1) := by decide +kernel
theorem dX6_say_5 : decode cX6_say 5 = .ok (.getfield 186, 3) := by decide +kernel
theorem dX6_say_8 : decode cX6_say 8 = .ok (.iload_n 1, 1) := by decide +kernel
theorem dX6_say_9 : decode cX6_say 9 = .ok (.iastore, 1) := by decide +kernel
theorem dX6_say_10 : decode cX6_say 10 = .ok (.aload_n 0, 1) := by decide +kernel
theorem dX6_say_11 : decode cX6_say 11 = .ok (.dup, 1) := by decide +kernel
theorem dX6_say_12 : decode cX6_say 12 = .ok (.getfield 186, 3) := by decide +kernel
theorem dX6_say_15 : decode cX6_say 15 = .ok (.iconst 1, 1) := by decide +kernel
theorem dX6_say_16 : decode cX6_say 16 = .ok (.iadd, 1) := by decide +kernel
theorem dX6_say_17 : decode cX6_say 17 = .ok (.putfield 186, 3) := by decide +kernel
theorem dX6_say_20 : decode cX6_say 20 = .ok (.return_, 1) := by decide +kernel
theorem dX6_sayNumber_0 : decode cX6_sayNumber 0 = .ok (.lload_n 1, 1) := by decide +kernel
theorem dX6_sayNumber_1 : decode cX6_sayNumber 1 = .ok (.lconst 0, 1) := by decide +kernel
theorem dX6_sayNumber_2 : decode cX6_sayNumber 2 = .ok (.lcmp, 1) := by decide +kernel
theorem dX6_sayNumber_3 : decode cX6_sayNumber 3 = .ok (.ifCond .ge 9, 3) := by decide +kernel
theorem dX6_sayNumber_6 : decode cX6_sayNumber 6 = .ok (.aload_n 0, 1) := by decide +kernel
theorem dX6_sayNumber_7 : decode cX6_sayNumber 7 = .ok (.bipush 45, 2) := by decide +kernel
theorem dX6_sayNumber_9 : decode cX6_sayNumber 9 = .ok (.invokevirtual 189, 3) := by decide +kernel
theorem dX6_sayNumber_12 : decode cX6_sayNumber 12 = .ok (.aload_n 0, 1) := by decide +kernel
theorem dX6_sayNumber_13 : decode cX6_sayNumber 13 = .ok (.iconst 0, 1) := by decide +kernel
theorem dX6_sayNumber_14 : decode cX6_sayNumber 14 = .ok (.putfield 193, 3) := by decide +kernel
theorem dX6_sayNumber_17 : decode cX6_sayNumber 17 = .ok (.lload_n 1, 1) := by decide +kernel
theorem dX6_sayNumber_18 : decode cX6_sayNumber 18 = .ok (.lconst 0, 1) := by decide +kernel
theorem dX6_sayNumber_19 : decode cX6_sayNumber 19 = .ok (.lcmp, 1) := by decide +kernel
theorem dX6_sayNumber_20 : decode cX6_sayNumber 20 = .ok (.ifCond .ge 8, 3) := by decide +kernel
theorem dX6_sayNumber_23 : decode cX6_sayNumber 23 = .ok (.lload_n 1, 1) := by decide +kernel
theorem dX6_sayNumber_24 : decode cX6_sayNumber 24 = .ok (.lneg, 1) := by decide +kernel
theorem dX6_sayNumber_25 : decode cX6_sayNumber 25 = .ok (.goto 4, 3) := by decide +kernel
theorem dX6_sayNumber_28 : decode cX6_sayNumber 28 = .ok (.lload_n 1, 1) := by decide +kernel
theorem dX6_sayNumber_29 : decode cX6_sayNumber 29 = .ok (.lstore_n 3, 1) := by decide +kernel
theorem dX6_sayNumber_30 : decode cX6_sayNumber 30 = .ok (.lload_n 3, 1) := by decide +kernel
theorem dX6_sayNumber_31 : decode cX6_sayNumber 31 = .ok (.lconst 0, 1) := by decide +kernel
theorem dX6_sayNumber_32 : decode cX6_sayNumber 32 = .ok (.lcmp, 1) := by decide +kernel
theorem dX6_sayNumber_33 : decode cX6_sayNumber 33 = .ok (.ifCond .gt 10, 3) := by decide +kernel
theorem dX6_sayNumber_36 : decode cX6_sayNumber 36 = .ok (.aload_n 0, 1) := by decide +kernel
theorem dX6_sayNumber_37 : decode cX6_sayNumber 37 = .ok (.getfield 193, 3) := by decide +kernel
theorem dX6_sayNumber_40 : decode cX6_sayNumber 40 = .ok (.ifCond .ne 41, 3) := by decide +kernel
theorem dX6_sayNumber_43 : decode cX6_sayNumber 43 = .ok (.aload_n 0, 1) := by decide +kernel
theorem dX6_sayNumber_44 : decode cX6_sayNumber 44 = .ok (.getfield 56, 3) := by decide +kernel
theorem dX6_sayNumber_47 : decode cX6_sayNumber 47 = .ok (.aload_n 0, 1) := by decide +kernel
theorem dX6_sayNumber_48 : decode cX6_sayNumber 48 = .ok (.getfield 193, 3) := by decide +kernel
theorem dX6_sayNumber_51 : decode cX6_sayNumber 51 = .ok (.ldc2_w 196, 3) := by decide +kernel
theorem dX6_sayNumber_54 : decode cX6_sayNumber 54 = .ok (.lload_n 3, 1) := by decide +kernel
theorem dX6_sayNumber_55 : decode cX6_sayNumber 55 = .ok (.ldc2_w 147, 3) := by decide +kernel
theorem dX6_sayNumber_58 : decode cX6_sayNumber 58 = .ok (.lrem, 1) := by decide +kernel
theorem dX6_sayNumber_59 : decode cX6_sayNumber 59 = .ok (.ladd, 1) := by decide +kernel
theorem dX6_sayNumber_60 : decode cX6_sayNumber 60 = .ok (.l2i, 1) := by decide +kernel
theorem dX6_sayNumber_61 : decode cX6_sayNumber 61 = .ok (.iastore, 1) := by decide +kernel
theorem dX6_sayNumber_62 : decode cX6_sayNumber 62 = .ok (.aload_n 0, 1) := by decide +kernel
theorem dX6_sayNumber_63 : decode cX6_sayNumber 63 = .ok (.dup, 1) := by decide +kernel
theorem dX6_sayNumber_64 : decode cX6_sayNumber 64 = .ok (.getfield 193, 3) := by decide +kernel
theorem dX6_sayNumber_67 : decode cX6_sayNumber 67 = .ok (.iconst 1, 1) := by decide +kernel
theorem dX6_sayNumber_68 : decode cX6_sayNumber 68 = .ok (.iadd, 1) := by decide +kernel
theorem dX6_sayNumber_69 : decode cX6_sayNumber 69 = .ok (.putfield 193, 3) := by decide +kernel
theorem dX6_sayNumber_72 : decode cX6_sayNumber 72 = .ok (.lload_n 3, 1) := by decide +kernel
theorem dX6_sayNumber_73 : decode cX6_sayNumber 73 = .ok (.ldc2_w 147, 3) := by decide +kernel
theorem dX6_sayNumber_76 : decode cX6_sayNumber 76 = .ok (.ldiv, 1) := by decide +kernel
theorem dX6_sayNumber_77 : decode cX6_sayNumber 77 = .ok (.lstore_n 3, 1) := by decide +kernel
theorem dX6_sayNumber_78 : decode cX6_sayNumber 78 = .ok (.goto (-48), 3) := by decide +kernel
theorem dX6_sayNumber_81 : decode cX6_sayNumber 81 = .ok (.aload_n 0, 1) := by decide +kernel
theorem dX6_sayNumber_82 : decode cX6_sayNumber 82 = .ok (.getfield 193, 3) := by decide +kernel
theorem dX6_sayNumber_85 : decode cX6_sayNumber 85 = .ok (.ifCond .le 29, 3) := by decide +kernel
theorem dX6_sayNumber_88 : decode cX6_sayNumber 88 = .ok (.aload_n 0, 1) := by decide +kernel
theorem dX6_sayNumber_89 : decode cX6_sayNumber 89 = .ok (.dup, 1) := by decide +kernel
theorem dX6_sayNumber_90 : decode cX6_sayNumber 90 = .ok (.getfield 193, 3) := by decide +kernel
theorem dX6_sayNumber_93 : decode cX6_sayNumber 93 = .ok (.iconst 1, 1) := by decide +kernel
theorem dX6_sayNumber_94 : decode cX6_sayNumber 94 = .ok (.isub, 1) := by decide +kernel
theorem dX6_sayNumber_95 : decode cX6_sayNumber 95 = .ok (.putfield 193, 3) := by decide +kernel
theorem dX6_sayNumber_98 : decode cX6_sayNumber 98 = .ok (.aload_n 0, 1) := by decide +kernel
theorem dX6_sayNumber_99 : decode cX6_sayNumber 99 = .ok (.aload_n 0, 1) := by decide +kernel
theorem dX6_sayNumber_100 : decode cX6_sayNumber 100 = .ok (.getfield 56, 3) := by decide +kernel
theorem dX6_sayNumber_103 : decode cX6_sayNumber 103 = .ok (.aload_n 0, 1) := by decide +kernel
theorem dX6_sayNumber_104 : decode cX6_sayNumber 104 = .ok (.getfield 193, 3) := by decide +kernel
theorem dX6_sayNumber_107 : decode cX6_sayNumber 107 = .ok (.iaload, 1) := by decide +kernel
theorem dX6_sayNumber_108 : decode cX6_sayNumber 108 = .ok (.invokevirtual 189, 3) := by decide +kernel
theorem dX6_sayNumber_111 : decode cX6_sayNumber 111 = .ok (.goto (-30), 3) := by decide +kernel
theorem dX6_sayNumber_114 : decode cX6_sayNumber 114 = .ok (.return_, 1) := by decide +kernel
theorem dX6_sayLength_0 : decode cX6_sayLength 0 = .ok (.lload_n 1, 1) := by decide +kernel
theorem dX6_sayLength_1 : decode cX6_sayLength 1 = .ok (.lconst 0, 1) := by decide +kernel
theorem dX6_sayLength_2 : decode cX6_sayLength 2 = .ok (.lcmp, 1) := by decide +kernel
theorem dX6_sayLength_3 : decode cX6_sayLength 3 = .ok (.ifCond .ge 9, 3) := by decide +kernel
theorem dX6_sayLength_6 : decode cX6_sayLength 6 = .ok (.aload_n 0, 1) := by decide +kernel
theorem dX6_sayLength_7 : decode cX6_sayLength 7 = .ok (.bipush 45, 2) := by decide +kernel
theorem dX6_sayLength_9 : decode cX6_sayLength 9 = .ok (.invokevirtual 189, 3) := by decide +kernel
theorem dX6_sayLength_12 : decode cX6_sayLength 12 = .ok (.lload_n 1, 1) := by decide +kernel
theorem dX6_sayLength_13 : decode cX6_sayLength 13 = .ok (.lconst 0, 1) := by decide +kernel
theorem dX6_sayLength_14 : decode cX6_sayLength 14 = .ok (.lcmp, 1) := by decide +kernel
theorem dX6_sayLength_15 : decode cX6_sayLength 15 = .ok (.ifCond .ge 8, 3) := by decide +kernel
theorem dX6_sayLength_18 : decode cX6_sayLength 18 = .ok (.lload_n 1, 1) := by decide +kernel
theorem dX6_sayLength_19 : decode cX6_sayLength 19 = .ok (.lneg, 1) := by decide +kernel
theorem dX6_sayLength_20 : decode cX6_sayLength 20 = .ok (.goto 4, 3) := by decide +kernel
theorem dX6_sayLength_23 : decode cX6_sayLength 23 = .ok (.lload_n 1, 1) := by decide +kernel
theorem dX6_sayLength_24 : decode cX6_sayLength 24 = .ok (.lstore_n 3, 1) := by decide +kernel
theorem dX6_sayLength_25 : decode cX6_sayLength 25 = .ok (.aload_n 0, 1) := by decide +kernel
theorem dX6_sayLength_26 : decode cX6_sayLength 26 = .ok (.lload_n 3, 1) := by decide +kernel
theorem dX6_sayLength_27 : decode cX6_sayLength 27 = .ok (.ldc2_w 177, 3) := by decide +kernel
theorem dX6_sayLength_30 : decode cX6_sayLength 30 = .ok (.ldiv, 1) := by decide +kernel
theorem dX6_sayLength_31 : decode cX6_sayLength 31 = .ok (.invokevirtual 198, 3) := by decide +kernel
theorem dX6_sayLength_34 : decode cX6_sayLength 34 = .ok (.aload_n 0, 1) := by decide +kernel
theorem dX6_sayLength_35 : decode cX6_sayLength 35 = .ok (.bipush 46, 2) := by decide +kernel
theorem dX6_sayLength_37 : decode cX6_sayLength 37 = .ok (.invokevirtual 189, 3) := by decide +kernel
theorem dX6_sayLength_40 : decode cX6_sayLength 40 = .ok (.ldc2_w 147, 3) := by decide +kernel
theorem dX6_sayLength_43 : decode cX6_sayLength 43 = .ok (.lload_n 3, 1) := by decide +kernel
theorem dX6_sayLength_44 : decode cX6_sayLength 44 = .ok (.ldc2_w 177, 3) := by decide +kernel
theorem dX6_sayLength_47 : decode cX6_sayLength 47 = .ok (.lrem, 1) := by decide +kernel
theorem dX6_sayLength_48 : decode cX6_sayLength 48 = .ok (.lmul, 1) := by decide +kernel
theorem dX6_sayLength_49 : decode cX6_sayLength 49 = .ok (.ldc2_w 202, 3) := by decide +kernel
theorem dX6_sayLength_52 : decode cX6_sayLength 52 = .ok (.ladd, 1) := by decide +kernel
theorem dX6_sayLength_53 : decode cX6_sayLength 53 = .ok (.lstore 5, 2) := by decide +kernel
theorem dX6_sayLength_55 : decode cX6_sayLength 55 = .ok (.ldc2_w 147, 3) := by decide +kernel
theorem dX6_sayLength_58 : decode cX6_sayLength 58 = .ok (.lstore 7, 2) := by decide +kernel
theorem dX6_sayLength_60 : decode cX6_sayLength 60 = .ok (.iconst 1, 1) := by decide +kernel
theorem dX6_sayLength_61 : decode cX6_sayLength 61 = .ok (.istore 9, 2) := by decide +kernel
theorem dX6_sayLength_63 : decode cX6_sayLength 63 = .ok (.iload 9, 2) := by decide +kernel
theorem dX6_sayLength_65 : decode cX6_sayLength 65 = .ok (.ifCond .eq 78, 3) := by decide +kernel
theorem dX6_sayLength_68 : decode cX6_sayLength 68 = .ok (.lload 7, 2) := by decide +kernel
theorem dX6_sayLength_70 : decode cX6_sayLength 70 = .ok (.ldc2_w 177, 3) := by decide +kernel
theorem dX6_sayLength_73 : decode cX6_sayLength 73 = .ok (.lcmp, 1) := by decide +kernel
theorem dX6_sayLength_74 : decode cX6_sayLength 74 = .ok (.ifCond .le 12, 3) := by decide +kernel
theorem dX6_sayLength_77 : decode cX6_sayLength 77 = .ok (.lload 5, 2) := by decide +kernel
theorem dX6_sayLength_79 : decode cX6_sayLength 79 = .ok (.ldc2_w 204, 3) := by decide +kernel
theorem dX6_sayLength_82 : decode cX6_sayLength 82 = .ok (.lsub, 1) := by decide +kernel
theorem dX6_sayLength_83 : decode cX6_sayLength 83 = .ok (.goto 5, 3) := by decide +kernel
theorem dX6_sayLength_86 : decode cX6_sayLength 86 = .ok (.lload 5, 2) := by decide +kernel
theorem dX6_sayLength_88 : decode cX6_sayLength 88 = .ok (.lstore 5, 2) := by decide +kernel
theorem dX6_sayLength_90 : decode cX6_sayLength 90 = .ok (.aload_n 0, 1) := by decide +kernel
theorem dX6_sayLength_91 : decode cX6_sayLength 91 = .ok (.ldc2_w 196, 3) := by decide +kernel
theorem dX6_sayLength_94 : decode cX6_sayLength 94 = .ok (.lload 5, 2) := by decide +kernel
theorem dX6_sayLength_96 : decode cX6_sayLength 96 = .ok (.ldc2_w 177, 3) := by decide +kernel
theorem dX6_sayLength_99 : decode cX6_sayLength 99 = .ok (.ldiv, 1) := by decide +kernel
theorem dX6_sayLength_100 : decode cX6_sayLength 100 = .ok (.ladd, 1) := by decide +kernel
theorem dX6_sayLength_101 : decode cX6_sayLength 101 = .ok (.l2i, 1) := by decide +kernel
theorem dX6_sayLength_102 : decode cX6_sayLength 102 = .ok (.invokevirtual 189, 3) := by decide +kernel
theorem dX6_sayLength_105 : decode cX6_sayLength 105 = .ok (.ldc2_w 147, 3) := by decide +kernel
theorem dX6_sayLength_108 : decode cX6_sayLength 108 = .ok (.lload 5, 2) := by decide +kernel
theorem dX6_sayLength_110 : decode cX6_sayLength 110 = .ok (.ldc2_w 177, 3) := by decide +kernel
theorem dX6_sayLength_113 : decode cX6_sayLength 113 = .ok (.lrem, 1) := by decide +kernel
theorem dX6_sayLength_114 : decode cX6_sayLength 114 = .ok (.lmul, 1) := by decide +kernel
theorem dX6_sayLength_115 : decode cX6_sayLength 115 = .ok (.lstore 5, 2) := by decide +kernel
theorem dX6_sayLength_117 : decode cX6_sayLength 117 = .ok (.ldc2_w 147, 3) := by decide +kernel
theorem dX6_sayLength_120 : decode cX6_sayLength 120 = .ok (.lload 7, 2) := by decide +kernel
theorem dX6_sayLength_122 : decode cX6_sayLength 122 = .ok (.lmul, 1) := by decide +kernel
theorem dX6_sayLength_123 : decode cX6_sayLength 123 = .ok (.lstore 7, 2) := by decide +kernel
theorem dX6_sayLength_125 : decode cX6_sayLength 125 = .ok (.lload 5, 2) := by decide +kernel
theorem dX6_sayLength_127 : decode cX6_sayLength 127 = .ok (.lload 7, 2) := by decide +kernel
theorem dX6_sayLength_129 : decode cX6_sayLength 129 = .ok (.lcmp, 1) := by decide +kernel
theorem dX6_sayLength_130 : decode cX6_sayLength 130 = .ok (.ifCond .le 7, 3) := by decide +kernel
theorem dX6_sayLength_133 : decode cX6_sayLength 133 = .ok (.iconst 1, 1) := by decide +kernel
theorem dX6_sayLength_134 : decode cX6_sayLength 134 = .ok (.goto 4, 3) := by decide +kernel
theorem dX6_sayLength_137 : decode cX6_sayLength 137 = .ok (.iconst 0, 1) := by decide +kernel
theorem dX6_sayLength_138 : decode cX6_sayLength 138 = .ok (.istore 9, 2) := by decide +kernel
theorem dX6_sayLength_140 : decode cX6_sayLength 140 = .ok (.goto (-77), 3) := by decide +kernel
theorem dX6_sayLength_143 : decode cX6_sayLength 143 = .ok (.return_, 1) := by decide +kernel
theorem dX6_sayOrder_0 : decode cX6_sayOrder 0 = .ok (.aload_n 0, 1) := by decide +kernel
theorem dX6_sayOrder_1 : decode cX6_sayOrder 1 = .ok (.lload_n 1, 1) := by decide +kernel
theorem dX6_sayOrder_2 : decode cX6_sayOrder 2 = .ok (.lconst 0, 1) := by decide +kernel
theorem dX6_sayOrder_3 : decode cX6_sayOrder 3 = .ok (.lcmp, 1) := by decide +kernel
theorem dX6_sayOrder_4 : decode cX6_sayOrder 4 = .ok (.ifCond .ne 8, 3) := by decide +kernel
theorem dX6_sayOrder_7 : decode cX6_sayOrder 7 = .ok (.bipush 112, 2) := by decide +kernel
theorem dX6_sayOrder_9 : decode cX6_sayOrder 9 = .ok (.goto 5, 3) := by decide +kernel
theorem dX6_sayOrder_12 : decode cX6_sayOrder 12 = .ok (.bipush 102, 2) := by decide +kernel
theorem dX6_sayOrder_14 : decode cX6_sayOrder 14 = .ok (.invokevirtual 189, 3) := by decide +kernel
theorem dX6_sayOrder_17 : decode cX6_sayOrder 17 = .ok (.aload_n 0, 1) := by decide +kernel
theorem dX6_sayOrder_18 : decode cX6_sayOrder 18 = .ok (.lload_n 1, 1) := by decide +kernel
theorem dX6_sayOrder_19 : decode cX6_sayOrder 19 = .ok (.lconst 0, 1) := by decide +kernel
theorem dX6_sayOrder_20 : decode cX6_sayOrder 20 = .ok (.lcmp, 1) := by decide +kernel
theorem dX6_sayOrder_21 : decode cX6_sayOrder 21 = .ok (.ifCond .ne 8, 3) := by decide +kernel
theorem dX6_sayOrder_24 : decode cX6_sayOrder 24 = .ok (.bipush 116, 2) := by decide +kernel
theorem dX6_sayOrder_26 : decode cX6_sayOrder 26 = .ok (.goto 5, 3) := by decide +kernel
theorem dX6_sayOrder_29 : decode cX6_sayOrder 29 = .ok (.bipush 105, 2) := by decide +kernel
theorem dX6_sayOrder_31 : decode cX6_sayOrder 31 = .ok (.invokevirtual 189, 3) := by decide +kernel
theorem dX6_sayOrder_34 : decode cX6_sayOrder 34 = .ok (.iconst 0, 1) := by decide +kernel
theorem dX6_sayOrder_35 : decode cX6_sayOrder 35 = .ok (.istore_n 3, 1) := by decide +kernel
theorem dX6_sayOrder_36 : decode cX6_sayOrder 36 = .ok (.iload_n 3, 1) := by decide +kernel
theorem dX6_sayOrder_37 : decode cX6_sayOrder 37 = .ok (.i2l, 1) := by decide +kernel
theorem dX6_sayOrder_38 : decode cX6_sayOrder 38 = .ok (.lload_n 1, 1) := by decide +kernel
theorem dX6_sayOrder_39 : decode cX6_sayOrder 39 = .ok (.lcmp, 1) := by decide +kernel
theorem dX6_sayOrder_40 : decode cX6_sayOrder 40 = .ok (.ifCond .ge 15, 3) := by decide +kernel
theorem dX6_sayOrder_43 : decode cX6_sayOrder 43 = .ok (.aload_n 0, 1) := by decide +kernel
theorem dX6_sayOrder_44 : decode cX6_sayOrder 44 = .ok (.bipush 108, 2) := by decide +kernel
theorem dX6_sayOrder_46 : decode cX6_sayOrder 46 = .ok (.invokevirtual 189, 3) := by decide +kernel
theorem dX6_sayOrder_49 : decode cX6_sayOrder 49 = .ok (.iinc 3 1, 3) := by decide +kernel
theorem dX6_sayOrder_52 : decode cX6_sayOrder 52 = .ok (.goto (-16), 3) := by decide +kernel
theorem dX6_sayOrder_55 : decode cX6_sayOrder 55 = .ok (.return_, 1) := by decide +kernel
theorem dX6_sayWord_0 : decode cX6_sayWord 0 = .ok (.aload_n 0, 1) := by decide +kernel
theorem dX6_sayWord_1 : decode cX6_sayWord 1 = .ok (.bipush 32, 2) := by decide +kernel
theorem dX6_sayWord_3 : decode cX6_sayWord 3 = .ok (.invokevirtual 189, 3) := by decide +kernel
theorem dX6_sayWord_6 : decode cX6_sayWord 6 = .ok (.aload_n 0, 1) := by decide +kernel
theorem dX6_sayWord_7 : decode cX6_sayWord 7 = .ok (.iload_n 1, 1) := by decide +kernel
theorem dX6_sayWord_8 : decode cX6_sayWord 8 = .ok (.ifCond .eq 8, 3) := by decide +kernel
theorem dX6_sayWord_11 : decode cX6_sayWord 11 = .ok (.bipush 112, 2) := by decide +kernel
theorem dX6_sayWord_13 : decode cX6_sayWord 13 = .ok (.goto 5, 3) := by decide +kernel
theorem dX6_sayWord_16 : decode cX6_sayWord 16 = .ok (.bipush 109, 2) := by decide +kernel
theorem dX6_sayWord_18 : decode cX6_sayWord 18 = .ok (.invokevirtual 189, 3) := by decide +kernel
theorem dX6_sayWord_21 : decode cX6_sayWord 21 = .ok (.aload_n 0, 1) := by decide +kernel
theorem dX6_sayWord_22 : decode cX6_sayWord 22 = .ok (.iload_n 1, 1) := by decide +kernel
theorem dX6_sayWord_23 : decode cX6_sayWord 23 = .ok (.ifCond .eq 8, 3) := by decide +kernel
theorem dX6_sayWord_26 : decode cX6_sayWord 26 = .ok (.bipush 108, 2) := by decide +kernel
theorem dX6_sayWord_28 : decode cX6_sayWord 28 = .ok (.goto 5, 3) := by decide +kernel
theorem dX6_sayWord_31 : decode cX6_sayWord 31 = .ok (.bipush 105, 2) := by decide +kernel
theorem dX6_sayWord_33 : decode cX6_sayWord 33 = .ok (.invokevirtual 189, 3) := by decide +kernel
theorem dX6_sayWord_36 : decode cX6_sayWord 36 = .ok (.aload_n 0, 1) := by decide +kernel
theorem dX6_sayWord_37 : decode cX6_sayWord 37 = .ok (.iload_n 1, 1) := by decide +kernel
theorem dX6_sayWord_38 : decode cX6_sayWord 38 = .ok (.ifCond .eq 8, 3) := by decide +kernel
theorem dX6_sayWord_41 : decode cX6_sayWord 41 = .ok (.bipush 117, 2) := by decide +kernel
theorem dX6_sayWord_43 : decode cX6_sayWord 43 = .ok (.goto 5, 3) := by decide +kernel
theorem dX6_sayWord_46 : decode cX6_sayWord 46 = .ok (.bipush 110, 2) := by decide +kernel
theorem dX6_sayWord_48 : decode cX6_sayWord 48 = .ok (.invokevirtual 189, 3) := by decide +kernel
theorem dX6_sayWord_51 : decode cX6_sayWord 51 = .ok (.aload_n 0, 1) := by decide +kernel
theorem dX6_sayWord_52 : decode cX6_sayWord 52 = .ok (.iload_n 1, 1) := by decide +kernel
theorem dX6_sayWord_53 : decode cX6_sayWord 53 = .ok (.ifCond .eq 8, 3) := by decide +kernel
theorem dX6_sayWord_56 : decode cX6_sayWord 56 = .ok (.bipush 115, 2) := by decide +kernel
theorem dX6_sayWord_58 : decode cX6_sayWord 58 = .ok (.goto 5, 3) := by decide +kernel
theorem dX6_sayWord_61 : decode cX6_sayWord 61 = .ok (.bipush 117, 2) := by decide +kernel
theorem dX6_sayWord_63 : decode cX6_sayWord 63 = .ok (.invokevirtual 189, 3) := by decide +kernel
theorem dX6_sayWord_66 : decode cX6_sayWord 66 = .ok (.iload_n 1, 1) := by decide +kernel
theorem dX6_sayWord_67 : decode cX6_sayWord 67 = .ok (.ifCond .ne 9, 3) := by decide +kernel
theorem dX6_sayWord_70 : decode cX6_sayWord 70 = .ok (.aload_n 0, 1) := by decide +kernel
theorem dX6_sayWord_71 : decode cX6_sayWord 71 = .ok (.bipush 115, 2) := by decide +kernel
theorem dX6_sayWord_73 : decode cX6_sayWord 73 = .ok (.invokevirtual 189, 3) := by decide +kernel
theorem dX6_sayWord_76 : decode cX6_sayWord 76 = .ok (.aload_n 0, 1) := by decide +kernel
theorem dX6_sayWord_77 : decode cX6_sayWord 77 = .ok (.bipush 32, 2) := by decide +kernel
theorem dX6_sayWord_79 : decode cX6_sayWord 79 = .ok (.invokevirtual 189, 3) := by decide +kernel
theorem dX6_sayWord_82 : decode cX6_sayWord 82 = .ok (.return_, 1) := by decide +kernel
theorem dX6_sayGlue_0 : decode cX6_sayGlue 0 = .ok (.aload_n 0, 1) := by decide +kernel
theorem dX6_sayGlue_1 : decode cX6_sayGlue 1 = .ok (.aload_n 0, 1) := by decide +kernel
theorem dX6_sayGlue_2 : decode cX6_sayGlue 2 = .ok (.getfield 7, 3) := by decide +kernel
theorem dX6_sayGlue_5 : decode cX6_sayGlue 5 = .ok (.iload_n 1, 1) := by decide +kernel
theorem dX6_sayGlue_6 : decode cX6_sayGlue 6 = .ok (.laload, 1) := by decide +kernel
theorem dX6_sayGlue_7 : decode cX6_sayGlue 7 = .ok (.invokevirtual 206, 3) := by decide +kernel
theorem dX6_sayGlue_10 : decode cX6_sayGlue 10 = .ok (.aload_n 0, 1) := by decide +kernel
theorem dX6_sayGlue_11 : decode cX6_sayGlue 11 = .ok (.lconst 0, 1) := by decide +kernel
theorem dX6_sayGlue_12 : decode cX6_sayGlue 12 = .ok (.invokevirtual 209, 3) := by decide +kernel
theorem dX6_sayGlue_15 : decode cX6_sayGlue 15 = .ok (.iconst 1, 1) := by decide +kernel
theorem dX6_sayGlue_16 : decode cX6_sayGlue 16 = .ok (.istore_n 2, 1) := by decide +kernel
theorem dX6_sayGlue_17 : decode cX6_sayGlue 17 = .ok (.iload_n 2, 1) := by decide +kernel
theorem dX6_sayGlue_18 : decode cX6_sayGlue 18 = .ok (.iconst 4, 1) := by decide +kernel
theorem dX6_sayGlue_19 : decode cX6_sayGlue 19 = .ok (.if_icmp .ge 62, 3) := by decide +kernel
theorem dX6_sayGlue_22 : decode cX6_sayGlue 22 = .ok (.aload_n 0, 1) := by decide +kernel
theorem dX6_sayGlue_23 : decode cX6_sayGlue 23 = .ok (.getfield 7, 3) := by decide +kernel
theorem dX6_sayGlue_26 : decode cX6_sayGlue 26 = .ok (.iload_n 1, 1) := by decide +kernel
theorem dX6_sayGlue_27 : decode cX6_sayGlue 27 = .ok (.iload_n 2, 1) := by decide +kernel
theorem dX6_sayGlue_28 : decode cX6_sayGlue 28 = .ok (.iadd, 1) := by decide +kernel
theorem dX6_sayGlue_29 : decode cX6_sayGlue 29 = .ok (.laload, 1) := by decide +kernel
theorem dX6_sayGlue_30 : decode cX6_sayGlue 30 = .ok (.lconst 0, 1) := by decide +kernel
theorem dX6_sayGlue_31 : decode cX6_sayGlue 31 = .ok (.lcmp, 1) := by decide +kernel
theorem dX6_sayGlue_32 : decode cX6_sayGlue 32 = .ok (.ifCond .eq 43, 3) := by decide +kernel
theorem dX6_sayGlue_35 : decode cX6_sayGlue 35 = .ok (.aload_n 0, 1) := by decide +kernel
theorem dX6_sayGlue_36 : decode cX6_sayGlue 36 = .ok (.iload_n 2, 1) := by decide +kernel
theorem dX6_sayGlue_37 : decode cX6_sayGlue 37 = .ok (.iconst 1, 1) := by decide +kernel
theorem dX6_sayGlue_38 : decode cX6_sayGlue 38 = .ok (.if_icmp .ne 7, 3) := by decide +kernel
theorem dX6_sayGlue_41 : decode cX6_sayGlue 41 = .ok (.iconst 1, 1) := by decide +kernel
theorem dX6_sayGlue_42 : decode cX6_sayGlue 42 = .ok (.goto 4, 3) := by decide +kernel
theorem dX6_sayGlue_45 : decode cX6_sayGlue 45 = .ok (.iconst 0, 1) := by decide +kernel
theorem dX6_sayGlue_46 : decode cX6_sayGlue 46 = .ok (.invokevirtual 212, 3) := by decide +kernel
theorem dX6_sayGlue_49 : decode cX6_sayGlue 49 = .ok (.aload_n 0, 1) := by decide +kernel
theorem dX6_sayGlue_50 : decode cX6_sayGlue 50 = .ok (.aload_n 0, 1) := by decide +kernel
theorem dX6_sayGlue_51 : decode cX6_sayGlue 51 = .ok (.getfield 7, 3) := by decide +kernel
theorem dX6_sayGlue_54 : decode cX6_sayGlue 54 = .ok (.iload_n 1, 1) := by decide +kernel
theorem dX6_sayGlue_55 : decode cX6_sayGlue 55 = .ok (.iload_n 2, 1) := by decide +kernel
theorem dX6_sayGlue_56 : decode cX6_sayGlue 56 = .ok (.iadd, 1) := by decide +kernel
theorem dX6_sayGlue_57 : decode cX6_sayGlue 57 = .ok (.laload, 1) := by decide +kernel
theorem dX6_sayGlue_58 : decode cX6_sayGlue 58 = .ok (.invokevirtual 206, 3) := by decide +kernel
theorem dX6_sayGlue_61 : decode cX6_sayGlue 61 = .ok (.aload_n 0, 1) := by decide +kernel
theorem dX6_sayGlue_62 : decode cX6_sayGlue 62 = .ok (.aload_n 0, 1) := by decide +kernel
theorem dX6_sayGlue_63 : decode cX6_sayGlue 63 = .ok (.getfield 7, 3) := by decide +kernel
theorem dX6_sayGlue_66 : decode cX6_sayGlue 66 = .ok (.iload_n 1, 1) := by decide +kernel
theorem dX6_sayGlue_67 : decode cX6_sayGlue 67 = .ok (.iload_n 2, 1) := by decide +kernel
theorem dX6_sayGlue_68 : decode cX6_sayGlue 68 = .ok (.iadd, 1) := by decide +kernel
theorem dX6_sayGlue_69 : decode cX6_sayGlue 69 = .ok (.iconst 1, 1) := by decide +kernel
theorem dX6_sayGlue_70 : decode cX6_sayGlue 70 = .ok (.iadd, 1) := by decide +kernel
theorem dX6_sayGlue_71 : decode cX6_sayGlue 71 = .ok (.laload, 1) := by decide +kernel
theorem dX6_sayGlue_72 : decode cX6_sayGlue 72 = .ok (.invokevirtual 209, 3) := by decide +kernel
theorem dX6_sayGlue_75 : decode cX6_sayGlue 75 = .ok (.iinc 2 2, 3) := by decide +kernel
theorem dX6_sayGlue_78 : decode cX6_sayGlue 78 = .ok (.goto (-61), 3) := by decide +kernel
theorem dX6_sayGlue_81 : decode cX6_sayGlue 81 = .ok (.return_, 1) := by decide +kernel
theorem dX6_sayVoid_0 : decode cX6_sayVoid 0 = .ok (.aload_n 0, 1) := by decide +kernel
theorem dX6_sayVoid_1 : decode cX6_sayVoid 1 = .ok (.bipush 118, 2) := by decide +kernel
theorem dX6_sayVoid_3 : decode cX6_sayVoid 3 = .ok (.invokevirtual 189, 3) := by decide +kernel
theorem dX6_sayVoid_6 : decode cX6_sayVoid 6 = .ok (.aload_n 0, 1) := by decide +kernel
theorem dX6_sayVoid_7 : decode cX6_sayVoid 7 = .ok (.bipush 111, 2) := by decide +kernel
theorem dX6_sayVoid_9 : decode cX6_sayVoid 9 = .ok (.invokevirtual 189, 3) := by decide +kernel
theorem dX6_sayVoid_12 : decode cX6_sayVoid 12 = .ok (.aload_n 0, 1) := by decide +kernel
theorem dX6_sayVoid_13 : decode cX6_sayVoid 13 = .ok (.bipush 105, 2) := by decide +kernel
theorem dX6_sayVoid_15 : decode cX6_sayVoid 15 = .ok (.invokevirtual 189, 3) := by decide +kernel
theorem dX6_sayVoid_18 : decode cX6_sayVoid 18 = .ok (.aload_n 0, 1) := by decide +kernel
theorem dX6_sayVoid_19 : decode cX6_sayVoid 19 = .ok (.bipush 100, 2) := by decide +kernel
theorem dX6_sayVoid_21 : decode cX6_sayVoid 21 = .ok (.invokevirtual 189, 3) := by decide +kernel
theorem dX6_sayVoid_24 : decode cX6_sayVoid 24 = .ok (.return_, 1) := by decide +kernel
theorem dX6_shown_0 : decode cX6_shown 0 = .ok (.aload_n 0, 1) := by decide +kernel
theorem dX6_shown_1 : decode cX6_shown 1 = .ok (.iload_n 1, 1) := by decide +kernel
theorem dX6_shown_2 : decode cX6_shown 2 = .ok (.invokestatic 109, 3) := by decide +kernel
theorem dX6_shown_5 : decode cX6_shown 5 = .ok (.ifCond .ne 7, 3) := by decide +kernel
theorem dX6_shown_8 : decode cX6_shown 8 = .ok (.iconst 1, 1) := by decide +kernel
theorem dX6_shown_9 : decode cX6_shown 9 = .ok (.goto 15, 3) := by decide +kernel
theorem dX6_shown_12 : decode cX6_shown 12 = .ok (.iload_n 2, 1) := by decide +kernel
theorem dX6_shown_13 : decode cX6_shown 13 = .ok (.invokestatic 114, 3) := by decide +kernel
theorem dX6_shown_16 : decode cX6_shown 16 = .ok (.ifCond .ne 7, 3) := by decide +kernel
theorem dX6_shown_19 : decode cX6_shown 19 = .ok (.iconst 2, 1) := by decide +kernel
theorem dX6_shown_20 : decode cX6_shown 20 = .ok (.goto 4, 3) := by decide +kernel
theorem dX6_shown_23 : decode cX6_shown 23 = .ok (.iconst 0, 1) := by decide +kernel
theorem dX6_shown_24 : decode cX6_shown 24 = .ok (.putfield 61, 3) := by decide +kernel
theorem dX6_shown_27 : decode cX6_shown 27 = .ok (.aload_n 0, 1) := by decide +kernel
theorem dX6_shown_28 : decode cX6_shown 28 = .ok (.getfield 61, 3) := by decide +kernel
theorem dX6_shown_31 : decode cX6_shown 31 = .ok (.ifCond .le 5, 3) := by decide +kernel
theorem dX6_shown_34 : decode cX6_shown 34 = .ok (.iconst 0, 1) := by decide +kernel
theorem dX6_shown_35 : decode cX6_shown 35 = .ok (.ireturn, 1) := by decide +kernel
theorem dX6_shown_36 : decode cX6_shown 36 = .ok (.aload_n 0, 1) := by decide +kernel
theorem dX6_shown_37 : decode cX6_shown 37 = .ok (.iconst 0, 1) := by decide +kernel
theorem dX6_shown_38 : decode cX6_shown 38 = .ok (.putfield 186, 3) := by decide +kernel
theorem dX6_shown_41 : decode cX6_shown 41 = .ok (.bipush 21, 2) := by decide +kernel
theorem dX6_shown_43 : decode cX6_shown 43 = .ok (.bipush 32, 2) := by decide +kernel
theorem dX6_shown_45 : decode cX6_shown 45 = .ok (.iload_n 1, 1) := by decide +kernel
theorem dX6_shown_46 : decode cX6_shown 46 = .ok (.imul, 1) := by decide +kernel
theorem dX6_shown_47 : decode cX6_shown 47 = .ok (.iload_n 2, 1) := by decide +kernel
theorem dX6_shown_48 : decode cX6_shown 48 = .ok (.iadd, 1) := by decide +kernel
theorem dX6_shown_49 : decode cX6_shown 49 = .ok (.imul, 1) := by decide +kernel
theorem dX6_shown_50 : decode cX6_shown 50 = .ok (.istore 4, 2) := by decide +kernel
theorem dX6_shown_52 : decode cX6_shown 52 = .ok (.iload_n 1, 1) := by decide +kernel
theorem dX6_shown_53 : decode cX6_shown 53 = .ok (.iconst 1, 1) := by decide +kernel
theorem dX6_shown_54 : decode cX6_shown 54 = .ok (.if_icmp .ne 17, 3) := by decide +kernel
theorem dX6_shown_57 : decode cX6_shown 57 = .ok (.aload_n 0, 1) := by decide +kernel
theorem dX6_shown_58 : decode cX6_shown 58 = .ok (.aload_n 0, 1) := by decide +kernel
theorem dX6_shown_59 : decode cX6_shown 59 = .ok (.getfield 7, 3) := by decide +kernel
theorem dX6_shown_62 : decode cX6_shown 62 = .ok (.iload 4, 2) := by decide +kernel
theorem dX6_shown_64 : decode cX6_shown 64 = .ok (.laload, 1) := by decide +kernel
theorem dX6_shown_65 : decode cX6_shown 65 = .ok (.invokevirtual 206, 3) := by decide +kernel
theorem dX6_shown_68 : decode cX6_shown 68 = .ok (.goto 100, 3) := by decide +kernel
theorem dX6_shown_71 : decode cX6_shown 71 = .ok (.iload_n 1, 1) := by decide +kernel
theorem dX6_shown_72 : decode cX6_shown 72 = .ok (.iconst 2, 1) := by decide +kernel
theorem dX6_shown_73 : decode cX6_shown 73 = .ok (.if_icmp .ne 12, 3) := by decide +kernel
theorem dX6_shown_76 : decode cX6_shown 76 = .ok (.aload_n 0, 1) := by decide +kernel
theorem dX6_shown_77 : decode cX6_shown 77 = .ok (.iload 4, 2) := by decide +kernel
theorem dX6_shown_79 : decode cX6_shown 79 = .ok (.invokevirtual 216, 3) := by decide +kernel
theorem dX6_shown_82 : decode cX6_shown 82 = .ok (.goto 86, 3) := by decide +kernel
theorem dX6_shown_85 : decode cX6_shown 85 = .ok (.iload_n 1, 1) := by decide +kernel
theorem dX6_shown_86 : decode cX6_shown 86 = .ok (.iconst 3, 1) := by decide +kernel
theorem dX6_shown_87 : decode cX6_shown 87 = .ok (.if_icmp .ne 46, 3) := by decide +kernel
theorem dX6_shown_90 : decode cX6_shown 90 = .ok (.iconst 0, 1) := by decide +kernel
theorem dX6_shown_91 : decode cX6_shown 91 = .ok (.istore 5, 2) := by decide +kernel
theorem dX6_shown_93 : decode cX6_shown 93 = .ok (.iload 5, 2) := by decide +kernel
theorem dX6_shown_95 : decode cX6_shown 95 = .ok (.i2l, 1) := by decide +kernel
theorem dX6_shown_96 : decode cX6_shown 96 = .ok (.aload_n 0, 1) := by decide +kernel
theorem dX6_shown_97 : decode cX6_shown 97 = .ok (.getfield 7, 3) := by decide +kernel
theorem dX6_shown_100 : decode cX6_shown 100 = .ok (.iload 4, 2) := by decide +kernel
theorem dX6_shown_102 : decode cX6_shown 102 = .ok (.laload, 1) := by decide +kernel
theorem dX6_shown_103 : decode cX6_shown 103 = .ok (.lcmp, 1) := by decide +kernel
theorem dX6_shown_104 : decode cX6_shown 104 = .ok (.ifCond .ge 26, 3) := by decide +kernel
theorem dX6_shown_107 : decode cX6_shown 107 = .ok (.aload_n 0, 1) := by decide +kernel
theorem dX6_shown_108 : decode cX6_shown 108 = .ok (.aload_n 0, 1) := by decide +kernel
theorem dX6_shown_109 : decode cX6_shown 109 = .ok (.getfield 7, 3) := by decide +kernel
theorem dX6_shown_112 : decode cX6_shown 112 = .ok (.iload 4, 2) := by decide +kernel
theorem dX6_shown_114 : decode cX6_shown 114 = .ok (.iconst 1, 1) := by decide +kernel
theorem dX6_shown_115 : decode cX6_shown 115 = .ok (.iadd, 1) := by decide +kernel
theorem dX6_shown_116 : decode cX6_shown 116 = .ok (.iload 5, 2) := by decide +kernel
theorem dX6_shown_118 : decode cX6_shown 118 = .ok (.iadd, 1) := by decide +kernel
theorem dX6_shown_119 : decode cX6_shown 119 = .ok (.laload, 1) := by decide +kernel
theorem dX6_shown_120 : decode cX6_shown 120 = .ok (.l2i, 1) := by decide +kernel
theorem dX6_shown_121 : decode cX6_shown 121 = .ok (.invokevirtual 189, 3) := by decide +kernel
theorem dX6_shown_124 : decode cX6_shown 124 = .ok (.iinc 5 1, 3) := by decide +kernel
theorem dX6_shown_127 : decode cX6_shown 127 = .ok (.goto (-34), 3) := by decide +kernel
theorem dX6_shown_130 : decode cX6_shown 130 = .ok (.goto 38, 3) := by decide +kernel
theorem dX6_shown_133 : decode cX6_shown 133 = .ok (.iload_n 1, 1) := by decide +kernel
theorem dX6_shown_134 : decode cX6_shown 134 = .ok (.iconst 4, 1) := by decide +kernel
theorem dX6_shown_135 : decode cX6_shown 135 = .ok (.if_icmp .ne 22, 3) := by decide +kernel
theorem dX6_shown_138 : decode cX6_shown 138 = .ok (.aload_n 0, 1) := by decide +kernel
theorem dX6_shown_139 : decode cX6_shown 139 = .ok (.getfield 7, 3) := by decide +kernel
theorem dX6_shown_142 : decode cX6_shown 142 = .ok (.iload 4, 2) := by decide +kernel
theorem dX6_shown_144 : decode cX6_shown 144 = .ok (.laload, 1) := by decide +kernel
theorem dX6_shown_145 : decode cX6_shown 145 = .ok (.lconst 0, 1) := by decide +kernel
theorem dX6_shown_146 : decode cX6_shown 146 = .ok (.lcmp, 1) := by decide +kernel
theorem dX6_shown_147 : decode cX6_shown 147 = .ok (.ifCond .ge 10, 3) := by decide +kernel
theorem dX6_shown_150 : decode cX6_shown 150 = .ok (.aload_n 0, 1) := by decide +kernel
theorem dX6_shown_151 : decode cX6_shown 151 = .ok (.invokevirtual 219, 3) := by decide +kernel
theorem dX6_shown_154 : decode cX6_shown 154 = .ok (.goto 14, 3) := by decide +kernel
theorem dX6_shown_157 : decode cX6_shown 157 = .ok (.aload_n 0, 1) := by decide +kernel
theorem dX6_shown_158 : decode cX6_shown 158 = .ok (.aload_n 0, 1) := by decide +kernel
theorem dX6_shown_159 : decode cX6_shown 159 = .ok (.getfield 7, 3) := by decide +kernel
theorem dX6_shown_162 : decode cX6_shown 162 = .ok (.iload 4, 2) := by decide +kernel
theorem dX6_shown_164 : decode cX6_shown 164 = .ok (.laload, 1) := by decide +kernel
theorem dX6_shown_165 : decode cX6_shown 165 = .ok (.invokevirtual 198, 3) := by decide +kernel
theorem dX6_shown_168 : decode cX6_shown 168 = .ok (.iload_n 3, 1) := by decide +kernel
theorem dX6_shown_169 : decode cX6_shown 169 = .ok (.ifCond .lt 20, 3) := by decide +kernel
theorem dX6_shown_172 : decode cX6_shown 172 = .ok (.iload_n 3, 1) := by decide +kernel
theorem dX6_shown_173 : decode cX6_shown 173 = .ok (.aload_n 0, 1) := by decide +kernel
theorem dX6_shown_174 : decode cX6_shown 174 = .ok (.getfield 186, 3) := by decide +kernel
theorem dX6_shown_177 : decode cX6_shown 177 = .ok (.if_icmp .ge 12, 3) := by decide +kernel
theorem dX6_shown_180 : decode cX6_shown 180 = .ok (.aload_n 0, 1) := by decide +kernel
theorem dX6_shown_181 : decode cX6_shown 181 = .ok (.getfield 53, 3) := by decide +kernel
theorem dX6_shown_184 : decode cX6_shown 184 = .ok (.iload_n 3, 1) := by decide +kernel
theorem dX6_shown_185 : decode cX6_shown 185 = .ok (.iaload, 1) := by decide +kernel
theorem dX6_shown_186 : decode cX6_shown 186 = .ok (.goto 4, 3) := by decide +kernel
theorem dX6_shown_189 : decode cX6_shown 189 = .ok (.iconst (-1), 1) := by decide +kernel
theorem dX6_shown_190 : decode cX6_shown 190 = .ok (.ireturn, 1) := by decide +kernel
theorem dJ0_length_8abf5_0 : decode cJ0_length_8abf5 0 = .ok (.aload_n 0, 1) := by decide +kernel
theorem dJ0_length_8abf5_1 : decode cJ0_length_8abf5 1 = .ok (.getfield 9, 3) := by decide +kernel
theorem dJ0_length_8abf5_4 : decode cJ0_length_8abf5 4 = .ok (.arraylength, 1) := by decide +kernel
theorem dJ0_length_8abf5_5 : decode cJ0_length_8abf5 5 = .ok (.aload_n 0, 1) := by decide +kernel
theorem dJ0_length_8abf5_6 : decode cJ0_length_8abf5 6 = .ok (.invokevirtual 335, 3) := by decide +kernel
theorem dJ0_length_8abf5_9 : decode cJ0_length_8abf5 9 = .ok (.ishr, 1) := by decide +kernel
theorem dJ0_length_8abf5_10 : decode cJ0_length_8abf5 10 = .ok (.ireturn, 1) := by decide +kernel
theorem dJ0_charAt_5068e_0 : decode cJ0_charAt_5068e 0 = .ok (.aload_n 0, 1) := by decide +kernel
theorem dJ0_charAt_5068e_1 : decode cJ0_charAt_5068e 1 = .ok (.invokevirtual 492, 3) := by decide +kernel
theorem dJ0_charAt_5068e_4 : decode cJ0_charAt_5068e 4 = .ok (.ifCond .eq 12, 3) := by decide +kernel
theorem dJ0_charAt_5068e_7 : decode cJ0_charAt_5068e 7 = .ok (.aload_n 0, 1) := by decide +kernel
theorem dJ0_charAt_5068e_8 : decode cJ0_charAt_5068e 8 = .ok (.getfield 9, 3) := by decide +kernel
theorem dJ0_charAt_5068e_11 : decode cJ0_charAt_5068e 11 = .ok (.iload_n 1, 1) := by decide +kernel
theorem dJ0_charAt_5068e_12 : decode cJ0_charAt_5068e 12 = .ok (.invokestatic 495, 3) := by decide +kernel
theorem dJ0_charAt_5068e_15 : decode cJ0_charAt_5068e 15 = .ok (.ireturn, 1) := by decide +kernel
theorem dJ0_charAt_5068e_16 : decode cJ0_charAt_5068e 16 = .ok (.aload_n 0, 1) := by decide +kernel
theorem dJ0_charAt_5068e_17 : decode cJ0_charAt_5068e 17 = .ok (.getfield 9, 3) := by decide +kernel
theorem dJ0_charAt_5068e_20 : decode cJ0_charAt_5068e 20 = .ok (.iload_n 1, 1) := by decide +kernel
theorem dJ0_charAt_5068e_21 : decode cJ0_charAt_5068e 21 = .ok (.invokestatic 498, 3) := by decide +kernel
theorem dJ0_charAt_5068e_24 : decode cJ0_charAt_5068e 24 = .ok (.ireturn, 1) := by decide +kernel
theorem dJ0_coder_7d493_0 : decode cJ0_coder_7d493 0 = .ok (.getstatic 38, 3) := by decide +kernel
theorem dJ0_coder_7d493_3 : decode cJ0_coder_7d493 3 = .ok (.ifCond .eq 10, 3) := by decide +kernel
theorem dJ0_coder_7d493_6 : decode cJ0_coder_7d493 6 = .ok (.aload_n 0, 1) := by decide +kernel
theorem dJ0_coder_7d493_7 : decode cJ0_coder_7d493 7 = .ok (.getfield 15, 3) := by decide +kernel
theorem dJ0_coder_7d493_10 : decode cJ0_coder_7d493 10 = .ok (.goto 4, 3) := by decide +kernel
theorem dJ0_coder_7d493_13 : decode cJ0_coder_7d493 13 = .ok (.iconst 1, 1) := by decide +kernel
theorem dJ0_coder_7d493_14 : decode cJ0_coder_7d493 14 = .ok (.ireturn, 1) := by decide +kernel
theorem dJ0_isLatin1_aae02_0 : decode cJ0_isLatin1_aae02 0 = .ok (.getstatic 38, 3) := by decide +kernel
theorem dJ0_isLatin1_aae02_3 : decode cJ0_isLatin1_aae02 3 = .ok (.ifCond .eq 14, 3) := by decide +kernel
theorem dJ0_isLatin1_aae02_6 : decode cJ0_isLatin1_aae02 6 = .ok (.aload_n 0, 1) := by decide +kernel
theorem dJ0_isLatin1_aae02_7 : decode cJ0_isLatin1_aae02 7 = .ok (.getfield 15, 3) := by decide +kernel
theorem dJ0_isLatin1_aae02_10 : decode cJ0_isLatin1_aae02 10 = .ok (.ifCond .ne 7, 3) := by decide +kernel
theorem dJ0_isLatin1_aae02_13 : decode cJ0_isLatin1_aae02 13 = .ok (.iconst 1, 1) := by decide +kernel
theorem dJ0_isLatin1_aae02_14 : decode cJ0_isLatin1_aae02 14 = .ok (.goto 4, 3) := by decide +kernel
theorem dJ0_isLatin1_aae02_17 : decode cJ0_isLatin1_aae02 17 = .ok (.iconst 0, 1) := by decide +kernel
theorem dJ0_isLatin1_aae02_18 : decode cJ0_isLatin1_aae02 18 = .ok (.ireturn, 1) := by decide +kernel
theorem dJ0_checkIndex_df160_0 : decode cJ0_checkIndex_df160 0 = .ok (.iload_n 0, 1) := by decide +kernel
theorem dJ0_checkIndex_df160_1 : decode cJ0_checkIndex_df160 1 = .ok (.iload_n 1, 1) := by decide +kernel
theorem dJ0_checkIndex_df160_2 : decode cJ0_checkIndex_df160 2 = .ok (.getstatic 1053, 3) := by decide +kernel
theorem dJ0_checkIndex_df160_5 : decode cJ0_checkIndex_df160 5 = .ok (.invokestatic 1059, 3) := by decide +kernel
theorem dJ0_checkIndex_df160_8 : decode cJ0_checkIndex_df160 8 = .ok (.pop, 1) := by decide +kernel
theorem dJ0_checkIndex_df160_9 : decode cJ0_checkIndex_df160 9 = .ok (.return_, 1) := by decide +kernel
end
section
/-- the object's own cells, by their addresses, and all that is new -/
def fA (n : Nat) (ad : Nat → Nat) (sz : Nat) : Nat → Prop := fun q => (∃ k, k < n ∧ q = ad k) ∨ sz ≤ q
def fI (n : Nat) (ad : Nat → Nat) : Prop := ∀ i j, i < n → j < n → ad i = ad j → i = j
theorem fA_new {n : Nat} {ad : Nat → Nat} {sz q : Nat} (h : sz ≤ q) : fA n ad sz q := Or.inr h
theorem fA_mono {n : Nat} {ad : Nat → Nat} {sz sz' q : Nat} (h : sz ≤ sz') (x : fA n ad sz' q) : fA n ad sz q := x.elim Or.inl (fun y => Or.inr (Nat.le_trans h y))
theorem fA_D {n : Nat} {ad : Nat → Nat} {sz : Nat} {ws : va_W} (hi : fI n ad) (hw : ws.map Prod.fst = (List.range n).map ad) : va_D (fA n ad sz) ws := by
  have key : ∀ (k : Nat) (q : Nat × va_E), ws[k]? = some q → k < n ∧ q.1 = ad k := by
    intro k q hk
    have h1 : (ws.map Prod.fst)[k]? = some q.1 := by rw [List.getElem?_map, hk]; rfl
    rw [hw, List.getElem?_map] at h1
    cases h2 : (List.range n)[k]? with
    | none => rw [h2] at h1; cases h1
    | some z =>
      rw [h2] at h1
      have h3 := List.getElem?_eq_some_iff.mp h2
      obtain ⟨h4, h5⟩ := h3
      rw [List.getElem_range] at h5
      rw [List.length_range] at h4
      subst h5
      exact ⟨h4, (Option.some.inj h1).symm⟩
  refine ⟨fun i j p q hp hq e => ?_, fun k q hk => Or.inl ⟨k, (key k q hk).1, (key k q hk).2⟩⟩
  obtain ⟨a1, a2⟩ := key i p hp
  obtain ⟨b1, b2⟩ := key j q hq
  exact hi i j a1 b1 (by rw [← a2, ← b2, e])
/-- a method that throws leaves this -/
def exN : Nat → String
  | 1 => "java/lang/IllegalArgumentException"
  | 2 => "java/lang/IndexOutOfBoundsException"
  | 3 => "java/lang/UnsupportedOperationException"
  | 4 => "java/lang/IllegalStateException"
  | _ => "java/lang/ArithmeticException"
theorem lc_lt {x y : Int64} : lg_cmp x y < 0 ↔ x < y := by
  unfold lg_cmp
  by_cases h : x > y
  · rw [if_pos h]
    exact ⟨fun z => absurd z (by decide), fun z => absurd (Int64.lt_trans h z) Int64.lt_irrefl⟩
  · rw [if_neg h]
    by_cases h2 : x = y
    · rw [if_pos h2]
      exact ⟨fun z => absurd z (by decide), fun z => absurd (h2 ▸ z) Int64.lt_irrefl⟩
    · rw [if_neg h2]
      exact ⟨fun _ => Int64.lt_of_le_of_ne (Int64.not_lt.mp h) h2, fun _ => by decide⟩
theorem lc_gt {x y : Int64} : 0 < lg_cmp x y ↔ y < x := by
  unfold lg_cmp
  by_cases h : x > y
  · rw [if_pos h]
    exact ⟨fun _ => h, fun _ => by decide⟩
  · rw [if_neg h]
    by_cases h2 : x = y
    · rw [if_pos h2]
      exact ⟨fun z => absurd z (by decide), fun z => absurd z h⟩
    · rw [if_neg h2]
      exact ⟨fun z => absurd z (by decide), fun z => absurd z h⟩
theorem lc_eq {x y : Int64} : lg_cmp x y = 0 ↔ x = y := by
  unfold lg_cmp
  by_cases h : x > y
  · rw [if_pos h]
    exact ⟨fun z => absurd z (by decide), fun z => absurd (z ▸ h) Int64.lt_irrefl⟩
  · rw [if_neg h]
    by_cases h2 : x = y
    · rw [if_pos h2]
      exact ⟨fun _ => h2, fun _ => rfl⟩
    · rw [if_neg h2]
      exact ⟨fun z => absurd z (by decide), fun z => absurd z h2⟩
theorem lc_le {x y : Int64} : lg_cmp x y ≤ 0 ↔ x ≤ y := by
  rw [← Int32.not_lt, lc_gt, Int64.not_lt]
theorem lc_ge {x y : Int64} : 0 ≤ lg_cmp x y ↔ y ≤ x := by
  rw [← Int32.not_lt, lc_lt, Int64.not_lt]
/-- a static array of the class -/
def sA (n d : String) (ty : FieldType) (N : Nat) (f : Nat → Value) (A : Nat → Prop) (U : State) (H : Heap) : Prop := ∃ t : Nat, va_Z "RegisterRows" n d (.ref t) A U H ∧ va_T ty t N f A U H
theorem sA.moved {n d : String} {ty : FieldType} {N : Nat} {f : Nat → Value} {A : Nat → Prop} {u U : State} {H : Heap} (hvm : u.vm.Alike U.vm) (h : sA n d ty N f A u H) : sA n d ty N f A U H := h.elim fun t z => ⟨t, va_Z.moved hvm z.1, va_T.moved hvm z.2⟩
theorem sA.kept {n d : String} {ty : FieldType} {N : Nat} {f : Nat → Value} {A : Nat → Prop} {U : State} {H H1 : Heap} (h : sA n d ty N f A U H) (hq : ∀ a : Nat, a < H.size → ¬ A a → H1[a]? = H[a]?) : sA n d ty N f A U H1 := h.elim fun t z => ⟨t, va_Z.kept z.1 hq, va_T.kept z.2 hq⟩
theorem sA.narrow {n d : String} {ty : FieldType} {N : Nat} {f : Nat → Value} {A B : Nat → Prop} {U : State} {H : Heap} (h : sA n d ty N f A U H) (hAB : ∀ q, B q → A q) : sA n d ty N f B U H := h.elim fun t z => ⟨t, va_Z.narrow z.1 hAB, va_T.narrow z.2 hAB⟩
def lHOMES : List Int32 := [0, 32, 64, 224, 896]
def lWIDTHS : List Int32 := [1, 1, 5, 21, 1]
def lNUMS : List Int64 := [1, 7227, 12, 7227, 7227, 7227, 1238, 14856]
def lDENS : List Int64 := [1, 100, 1, 254, 2540, 7200, 1157, 1157]
def gHOMES (i : Int32) : Int32 := lHOMES.getD i.toNatClampNeg 0
def gWIDTHS (i : Int32) : Int32 := lWIDTHS.getD i.toNatClampNeg 0
def gNUMS (i : Int32) : Int64 := lNUMS.getD i.toNatClampNeg 0
def gDENS (i : Int32) : Int64 := lDENS.getD i.toNatClampNeg 0
theorem Nw_go {w : Cond} (hw : w.onTables = true) {u U : State} (h : w.before #[] (u.setVm U.vm) = true) : va_Nw w U := by
  have e := Cond.onTables_vm (A := #[]) (A' := #[]) (U := u) (U' := U) U.vm w hw
  have hU : U.setVm U.vm = U := rfl
  rw [hU] at e
  show w.before #[] U = true
  rw [← e]
  exact h
theorem Nw_cast {C T : String} {u U : State} (hvm : u.vm.Alike U.vm) (h : va_Nw (.castable C T) u) : va_Nw (.castable C T) U := Nw_go rfl (by rw [Cond.castable_setVm hvm]; exact h)
theorem Nw_decl {x : MethodName} {u U : State} (hvm : u.vm.Alike U.vm) (h : va_Nw (.declares x) u) : va_Nw (.declares x) U := Nw_go rfl (by rw [Cond.declares_setVm hvm]; exact h)
def exNs : List String := ["java/lang/IllegalArgumentException", "java/lang/IndexOutOfBoundsException", "java/lang/UnsupportedOperationException", "java/lang/IllegalStateException", "java/lang/ArithmeticException"]
def dcNs : List String := ["java/lang/RuntimeException", "java/lang/Exception", "java/lang/Throwable"]
def cStr : List (Nat × String) := [(266, "no TOKEN"), (64, "a LENGTH beyond the bounds"), (75, "no such ORDER"), (258, "no such KIND"), (85, "no BOX"), (262, "no such REGISTER"), (278, "no more are KEPT"), (110, "no such part of GLUE"), (113, "no such TOKEN"), (131, "divided by 0"), (140, "no more GROUPS"), (151, "no GROUP"), (155, "no more TOKENS behind GROUPS"), (186, "none such went from the pile"), (208, "no such number of points, or no such UNIT"), (212, "no such number of 65536ths"), (226, "no such digits"), (232, "more digits than told"), (244, "nothing such is told")]
/-- what every method takes as given of the machine -/
def cxt (A : Nat → Prop) (U : State) (H : Heap) : Prop :=
  vx_Zq Bundle.tN "UNASSIGNED_STACK" Bundle.steD A U H ∧ vx_Zq Bundle.tN "SUPPRESSED_SENTINEL" Bundle.listD A U H ∧
  sA "HOMES" "[I" .int 5 (fun j => .int (lHOMES.getD j 0)) A U H ∧ sA "WIDTHS" "[I" .int 5 (fun j => .int (lWIDTHS.getD j 0)) A U H ∧
  sA "NUMERATORS" "[J" .long 8 (fun j => .long (lNUMS.getD j 0)) A U H ∧ sA "DENOMINATORS" "[J" .long 8 (fun j => .long (lDENS.getD j 0)) A U H ∧
  (va_Nw (.fieldLinkNest "RegisterRows$Bank" 25 "RegisterRows" "HOMES" "[I" "RegisterRows") U ∧ va_Nw (.fieldLinkNest "RegisterRows$Bank" 28 "RegisterRows" "WIDTHS" "[I" "RegisterRows") U ∧ va_Nw (.fieldLinkNest "RegisterRows$Pile" 40 "RegisterRows" "WIDTHS" "[I" "RegisterRows") U) ∧
  (∀ C ∈ exNs, va_Nw (.castable C C) U) ∧ (∀ C ∈ dcNs, va_Nw (.declares ⟨C, "<init>", "(Ljava/lang/String;)V"⟩) U) ∧ (∀ C ∈ exNs, ∀ T ∈ exNs, C ≠ T → va_Nc C T U) ∧ (∀ q ∈ cStr, ∃ a, vk_R "RegisterRows" q.1 q.2 a U)
theorem cxt.go {A B : Nat → Prop} {s U : State} {H H1 : Heap} (h : cxt A s H) (hq : ∀ a : Nat, a < H.size → ¬ A a → H1[a]? = H[a]?) (hW : s.WarmedH U.vm) (hAB : ∀ q, B q → A q) : cxt B U H1 := by
  obtain ⟨h1, h2, h3, h4, h5, h6, ⟨h7, h8, h9⟩, h10, h13, h11, h12⟩ := h
  have v := hW.alike
  exact ⟨((h1.kept hq).narrow hAB).moved v, ((h2.kept hq).narrow hAB).moved v, ((h3.kept hq).narrow hAB).moved v, ((h4.kept hq).narrow hAB).moved v, ((h5.kept hq).narrow hAB).moved v, ((h6.kept hq).narrow hAB).moved v, ⟨h7.warmF hW, h8.warmF hW, h9.warmF hW⟩, fun C hC => Nw_cast v (h10 C hC), fun C hC => Nw_decl v (h13 C hC), fun C hC T hT hn => (h11 C hC T hT hn).moved v, fun q hm => (h12 q hm).elim fun a z => ⟨a, z.warm hW⟩⟩
theorem cxt.here {A B : Nat → Prop} {s U : State} {H : Heap} {locs : List Loc} (h : cxt A s s.heap) (hS : va_S A s.heap H locs) (hU : U.heap = H) (hW : s.WarmedH U.vm) (hAB : ∀ q, B q → A q) : cxt B U U.heap := by
  rw [hU]
  exact h.go hS.2.1 hW hAB
theorem cxt.call {A : Nat → Prop} {U : State} {g : JFrame} {mk : MethodId} {a : Array Value} (h : cxt A U U.heap) : cxt A (U.calling g mk a) (U.calling g mk a).heap := h.go (fun _ _ _ => rfl) (State.WarmedH.refl U) (fun _ z => z)
theorem cxt.str {A : Nat → Prop} {s : State} {H : Heap} (h : cxt A s H) (i : Nat) (q : Nat × String) (hq : cStr[i]? = some q) : ∃ a, vk_R "RegisterRows" q.1 q.2 a s := h.2.2.2.2.2.2.2.2.2.2 q (List.mem_of_getElem? hq)
abbrev x_IAE : String := "java/lang/IllegalArgumentException"
abbrev x_IOO : String := "java/lang/IndexOutOfBoundsException"
abbrev x_UOE : String := "java/lang/UnsupportedOperationException"
abbrev x_ISE : String := "java/lang/IllegalStateException"
abbrev x_ARI : String := "java/lang/ArithmeticException"
abbrev x_nam : List String := ["java/lang/RuntimeException", "java/lang/Exception"]
theorem nm_x : ∀ n ∈ x_nam, Bundle.fit n = true := by decide +kernel
abbrev x_bad (E : String) : List Cond := [Cond.castable E E, Cond.declares ⟨"java/lang/RuntimeException", "<init>", "(Ljava/lang/String;)V"⟩, Cond.declares ⟨"java/lang/Exception", "<init>", "(Ljava/lang/String;)V"⟩, Cond.declares ⟨"java/lang/Throwable", "<init>", "(Ljava/lang/String;)V"⟩]
theorem x_bads {A : Nat → Prop} {args : Array Value} {s : State} {H : Heap} {E : String} (hC : cxt A s H) (hE : E ∈ exNs) : ∀ w ∈ x_bad E, w.before args s = true := by
  obtain ⟨-, -, -, -, -, -, -, h10, h13, -, -⟩ := hC
  exact vx_c (va_Nw.use rfl (h10 E hE)) (vx_c (va_Nw.use rfl (h13 _ (by decide +kernel))) (vx_c (va_Nw.use rfl (h13 _ (by decide +kernel))) (vx_c (va_Nw.use rfl (h13 _ (by decide +kernel))) vx_n)))
theorem xg_IAE : ∀ w ∈ Cond.classLink RX5 62 x_IAE :: Cond.initialized x_IAE :: vx_atS RX5 66 x_IAE x_nam, vx_ot w = true := by decide +kernel
theorem xb_IAE : ∀ w ∈ (vx_atS RX5 66 x_IAE x_nam).filter (fun w => !goodWord w), w ∈ x_bad x_IAE := by decide +kernel
theorem xi_IAE : ∀ w ∈ (vx_atS RX5 66 x_IAE x_nam).filter goodWord, w ∈ bigW := by decide +kernel
theorem xw_IAE {A : Nat → Prop} {args : Array Value} {s : State} {H : Heap} (hts : ∀ w ∈ bigW, w.before args s = true) (hC : cxt A s H) : ∀ w ∈ vx_atS RX5 66 x_IAE x_nam, w.before args s = true := vx_hat (fun w h => hts w (xi_IAE w h)) xb_IAE (x_bads hC (by decide +kernel))
theorem xg_IOO : ∀ w ∈ Cond.classLink RX5 108 x_IOO :: Cond.initialized x_IOO :: vx_atS RX5 112 x_IOO x_nam, vx_ot w = true := by decide +kernel
theorem xb_IOO : ∀ w ∈ (vx_atS RX5 112 x_IOO x_nam).filter (fun w => !goodWord w), w ∈ x_bad x_IOO := by decide +kernel
theorem xi_IOO : ∀ w ∈ (vx_atS RX5 112 x_IOO x_nam).filter goodWord, w ∈ bigW := by decide +kernel
theorem xw_IOO {A : Nat → Prop} {args : Array Value} {s : State} {H : Heap} (hts : ∀ w ∈ bigW, w.before args s = true) (hC : cxt A s H) : ∀ w ∈ vx_atS RX5 112 x_IOO x_nam, w.before args s = true := vx_hat (fun w h => hts w (xi_IOO w h)) xb_IOO (x_bads hC (by decide +kernel))
theorem xg_UOE : ∀ w ∈ Cond.classLink RX5 138 x_UOE :: Cond.initialized x_UOE :: vx_atS RX5 142 x_UOE x_nam, vx_ot w = true := by decide +kernel
theorem xb_UOE : ∀ w ∈ (vx_atS RX5 142 x_UOE x_nam).filter (fun w => !goodWord w), w ∈ x_bad x_UOE := by decide +kernel
theorem xi_UOE : ∀ w ∈ (vx_atS RX5 142 x_UOE x_nam).filter goodWord, w ∈ bigW := by decide +kernel
theorem xw_UOE {A : Nat → Prop} {args : Array Value} {s : State} {H : Heap} (hts : ∀ w ∈ bigW, w.before args s = true) (hC : cxt A s H) : ∀ w ∈ vx_atS RX5 142 x_UOE x_nam, w.before args s = true := vx_hat (fun w h => hts w (xi_UOE w h)) xb_UOE (x_bads hC (by decide +kernel))
theorem xg_ISE : ∀ w ∈ Cond.classLink RX5 149 x_ISE :: Cond.initialized x_ISE :: vx_atS RX5 153 x_ISE x_nam, vx_ot w = true := by decide +kernel
theorem xb_ISE : ∀ w ∈ (vx_atS RX5 153 x_ISE x_nam).filter (fun w => !goodWord w), w ∈ x_bad x_ISE := by decide +kernel
theorem xi_ISE : ∀ w ∈ (vx_atS RX5 153 x_ISE x_nam).filter goodWord, w ∈ bigW := by decide +kernel
theorem xw_ISE {A : Nat → Prop} {args : Array Value} {s : State} {H : Heap} (hts : ∀ w ∈ bigW, w.before args s = true) (hC : cxt A s H) : ∀ w ∈ vx_atS RX5 153 x_ISE x_nam, w.before args s = true := vx_hat (fun w h => hts w (xi_ISE w h)) xb_ISE (x_bads hC (by decide +kernel))
theorem xg_ARI : ∀ w ∈ Cond.classLink RX5 129 x_ARI :: Cond.initialized x_ARI :: vx_atS RX5 133 x_ARI x_nam, vx_ot w = true := by decide +kernel
theorem xb_ARI : ∀ w ∈ (vx_atS RX5 133 x_ARI x_nam).filter (fun w => !goodWord w), w ∈ x_bad x_ARI := by decide +kernel
theorem xi_ARI : ∀ w ∈ (vx_atS RX5 133 x_ARI x_nam).filter goodWord, w ∈ bigW := by decide +kernel
theorem xw_ARI {A : Nat → Prop} {args : Array Value} {s : State} {H : Heap} (hts : ∀ w ∈ bigW, w.before args s = true) (hC : cxt A s H) : ∀ w ∈ vx_atS RX5 133 x_ARI x_nam, w.before args s = true := vx_hat (fun w h => hts w (xi_ARI w h)) xb_ARI (x_bads hC (by decide +kernel))
/-- a method's words: its own code, and the tables' good words -/
def mW (y : MethodName) (cc : ByteArray) (n : Nat) (ret : Option FieldType) : List Cond := Cond.code y cc n ret :: bigW
theorem mW_hts {y : MethodName} {cc : ByteArray} {n : Nat} {ret : Option FieldType} {args : Array Value} {s : State} (h : ∀ w ∈ mW y cc n ret, w.before args s = true) : ∀ w ∈ bigW, w.before args s = true := fun w hw => h w (List.mem_cons_of_mem _ hw)
theorem mW_G {y : MethodName} {cc : ByteArray} {n : Nat} {ret : Option FieldType} (h : Cond.code y cc n ret ∈ bigW) : GoodIn bigW (mW y cc n ret) := goodIn_sub (fun w hw => (List.mem_cons.mp hw).elim (fun e => by rw [e]; exact h) (fun z => z)) (by rw [mW, List.all_cons, bigW_good]; rfl)
theorem kS {R : Room} {s : State} {args : Array Value} {own : String} {idx maxL mc ms : Nat} {y : MethodName} {cc : ByteArray} {ret : Option FieldType} {rm : Room} (n : Nat) (hts : ∀ w ∈ bigW, w.before args s = true) (h1 : Cond.methodLink own idx y ∈ bigW) (h2 : Cond.static y ∈ bigW) (h3 : Cond.initialized y.cls ∈ bigW) (h4 : Cond.code y cc maxL ret ∈ bigW) (hrc : rm.cells = mc) (hrs : rm.slots = ms) (hd : y.cls ≠ "java/lang/invoke/MethodHandle" ∧ y.cls ≠ "java/lang/invoke/VarHandle" ∧ (parseMethodDescriptor y.desc).map (fun d => d.parameters.length) = some n) (hR : rm.frames + 1 ≤ R.frames ∧ 8 + (maxL + 11) + rm.locals ≤ R.locals) : CallB R s args own idx y cc maxL ret (mW y cc maxL ret) rm mc ms n ∧ (Cond.static y).before args s = true := ⟨callB_of n hts (mW_G h4) rfl hrc hrs (hts _ h3) (hts _ h1) hd hR, hts _ h2⟩
theorem kV {R : Room} {s : State} {args : Array Value} {own : String} {idx maxL mc ms : Nat} {y : MethodName} {cc : ByteArray} {ret : Option FieldType} {rm : Room} (n : Nat) (hts : ∀ w ∈ bigW, w.before args s = true) (h1 : Cond.methodLink own idx y ∈ bigW) (h2 : Cond.instanceMethod y ∈ bigW) (h3 : Cond.initialized y.cls ∈ bigW) (h4 : Cond.code y cc maxL ret ∈ bigW) (h5 : Cond.selects y.cls y y ∈ bigW) (hrc : rm.cells = mc) (hrs : rm.slots = ms) (hd : y.cls ≠ "java/lang/invoke/MethodHandle" ∧ y.cls ≠ "java/lang/invoke/VarHandle" ∧ (parseMethodDescriptor y.desc).map (fun d => d.parameters.length) = some n) (hR : rm.frames + 1 ≤ R.frames ∧ 8 + (maxL + 11) + rm.locals ≤ R.locals) : CallW R s args own y.cls idx y cc maxL ret (mW y cc maxL ret) rm mc ms n := ⟨callB_of n hts (mW_G h4) rfl hrc hrs (hts _ h3) (hts _ h1) hd hR, hts _ h2, hts _ h5⟩
/-- the RegisterRows object: 23 cells -/
abbrev wC (ad : Nat → Nat) (cI cJ : ClassId) (Bc : Nat → Int64) (Bl Pk Pr Pl : Nat → Int32) (Pc : Nat → Int64) (Pm : Int32) (Gf Gt Gx : Nat → Int32) (Gd Gm : Int32) (Ek Er Ea Ex : Nat → Int32) (Em Eb Et : Int32) (Ss : Nat → Int32) (Sm : Int32) (Wg Wr Md : Nat → Int64) : va_W :=
  [(ad 0, .inr (7, [.ref (ad 1), .ref (ad 4), .ref (ad 9), .ref (ad 13), .ref (ad 18), .ref (ad 20), .ref (ad 21), .ref (ad 22)])),
   (ad 1, .inr (2, [.ref (ad 2), .ref (ad 3)])), (ad 2, .inl (cJ, 928, .inr (.inl Bc))), (ad 3, .inl (cI, 160, .inl Bl)),
   (ad 4, .inr (5, [.ref (ad 5), .ref (ad 6), .ref (ad 7), .ref (ad 8), .int Pm])), (ad 5, .inl (cI, 200, .inl Pk)), (ad 6, .inl (cI, 200, .inl Pr)), (ad 7, .inl (cI, 200, .inl Pl)), (ad 8, .inl (cJ, 4200, .inr (.inl Pc))),
   (ad 9, .inr (4, [.ref (ad 10), .ref (ad 11), .ref (ad 12), .int Gd, .int Gm])), (ad 10, .inl (cI, 20, .inl Gf)), (ad 11, .inl (cI, 20, .inl Gt)), (ad 12, .inl (cI, 60, .inl Gx)),
   (ad 13, .inr (3, [.ref (ad 14), .ref (ad 15), .ref (ad 16), .ref (ad 17), .int Em, .int Eb, .int Et])), (ad 14, .inl (cI, 200, .inl Ek)), (ad 15, .inl (cI, 200, .inl Er)), (ad 16, .inl (cI, 200, .inl Ea)), (ad 17, .inl (cI, 60, .inl Ex)),
   (ad 18, .inr (6, [.ref (ad 19), .int Sm])), (ad 19, .inl (cI, 61, .inl Ss)),
   (ad 20, .inl (cJ, 5, .inr (.inl Wg))), (ad 21, .inl (cJ, 21, .inr (.inl Wr))), (ad 22, .inl (cJ, 21, .inr (.inl Md)))]
/-- the reference's object: 17 cells -/
abbrev wM (ad : Nat → Nat) (cI cJ : ClassId) (Th : Int32) (Ce : Nat → Int64) (Le : Nat → Int32) (De Ke : Int32) (Kc : Nat → Int64) (Ko Kl Kd : Nat → Int32) (Ug Ur Va : Nat → Int64) (To : Int32) (Tt Td : Nat → Int32) (Go : Int32) (Gg Ga : Nat → Int32) (Be : Int32) (Bt : Nat → Int32) (Si : Int32) (Te : Nat → Int32) (Bz : Int32) (Bk : Nat → Int32) : va_W :=
  [(ad 0, .inr (8, [.int Th, .ref (ad 1), .ref (ad 2), .int De, .int Ke, .ref (ad 3), .ref (ad 4), .ref (ad 5), .ref (ad 6), .ref (ad 7), .ref (ad 8), .ref (ad 9), .int To, .ref (ad 10), .ref (ad 11), .int Go, .ref (ad 12), .ref (ad 13), .int Be, .ref (ad 14), .int Si, .ref (ad 15), .int Bz, .ref (ad 16)])),
   (ad 1, .inl (cJ, 3360, .inr (.inl Ce))), (ad 2, .inl (cI, 160, .inl Le)), (ad 3, .inl (cJ, 4200, .inr (.inl Kc))), (ad 4, .inl (cI, 200, .inl Ko)), (ad 5, .inl (cI, 200, .inl Kl)), (ad 6, .inl (cI, 200, .inl Kd)),
   (ad 7, .inl (cJ, 5, .inr (.inl Ug))), (ad 8, .inl (cJ, 21, .inr (.inl Ur))), (ad 9, .inl (cJ, 21, .inr (.inl Va))), (ad 10, .inl (cI, 60, .inl Tt)), (ad 11, .inl (cI, 60, .inl Td)), (ad 12, .inl (cI, 200, .inl Gg)), (ad 13, .inl (cI, 200, .inl Ga)), (ad 14, .inl (cI, 60, .inl Bt)), (ad 15, .inl (cI, 120, .inl Te)), (ad 16, .inl (cI, 20, .inl Bk))]
end
section
theorem W_gen {p : Program} {l : Launch} {e : Env} {R : Room} {s : State} {m : MethodId} {args : Array Value} {below : List Frame} {meth : Method} {c : Code} {H : Heap} {locs : List Loc} {cells slots : Nat} {Q : State → Prop} {g : JFrame} (k : ∀ Q9 : State → Prop, Q9 = Q → W p l e R s m args below meth c H locs cells slots Q9 g) : W p l e R s m args below meth c H locs cells slots Q g := k Q rfl
theorem mcp1 : Cond.native arraycopyName ∈ bigW := by decide +kernel
theorem mcp2 : Cond.static arraycopyName ∈ bigW := by decide +kernel
theorem mcp3 : Cond.initialized "java/lang/System" ∈ bigW := by decide +kernel
theorem nb_if {c : Prop} [Decidable c] {a b : Int32} (ha : narrow .boolean (.int a) = .int a) (hb : narrow .boolean (.int b) = .int b) : narrow .boolean (.int (if c then a else b)) = .int (if c then a else b) := by
  by_cases h : c
  · rw [if_pos h]; exact ha
  · rw [if_neg h]; exact hb

def f_X5_within (a0 : Int64) (a1 : Int64) (a2 : Int64) : Int32 := (if a0 < a1 then (0 : Int32) else (if a2 < a0 then (0 : Int32) else (1 : Int32)))
set_option maxHeartbeats 4000000 in
set_option maxRecDepth 100000 in
theorem c_X5_within (l : Launch) (hp : Heap) (a0 : Int64) (a1 : Int64) (a2 : Int64) : Met l yX5_within (mW yX5_within cX5_within 6 (some .boolean)) { frames := 0, cells := 0, slots := 0, locals := 0 } (va_Pc [.long a0, .long a1, .long a2] (fun U => U.heap = hp)) (va_Qi (fun (r : Int32) (_ : Unit) => r = f_X5_within a0 a1 a2) (fun _ t => t.heap = hp) (fun q : Nat => hp.size ≤ q)) 0 0 (fun q : Nat => hp.size ≤ q) := by
  refine Met.ofW (cc := cX5_within) (maxL := 6) (ret := (some .boolean)) (by decide) rfl ?_
  intro p e s m args below meth c s₁ B hml hv
  obtain ⟨rfl, hh⟩ := hv
  have hx := B.exec
  have hb := B.bytes
  have hr := B.returns
  have hts := mW_hts (atoms_spec (ws := (mW yX5_within cX5_within 6 (some .boolean))) B.pre)
  have hown : s.vm.findClass RX5 = some m.cls := findClass_of_methodNamed B.named
  have hlocks := B.notSynchronized
  subst hh
  have hA : ∀ (n : Nat) (q : Nat), s.heap.size ≤ n → n ≤ q → s.heap.size ≤ q := fun n q h1 h2 => Nat.le_trans h1 h2
  have hS : va_S ((fun q : Nat => s.heap.size ≤ q)) s.heap s.heap [] := va_S.rf
  have hA : ∀ q, s.heap.size ≤ q → ((fun q : Nat => s.heap.size ≤ q)) q := fun q h => h
  have hl := lv_entry ([.long a0, .long a1, .long a2]) (n := 6) (Nat.le_of_ble_eq_true rfl)
  rw [lg_entry_eq]
  generalize (lg_sl ([.long a0, .long a1, .long a2]) ++ List.replicate (6 - (lg_sl ([.long a0, .long a1, .long a2])).length) Slot.unset).toArray = ls at hl ⊢
  have hl : lv_has ls 6 [(0, .long a0), (2, .long a1), (4, .long a2)] := hl
  refine W_gen (fun Q9 hQ9 => ?_)
  refine lv_lload_n hx hb dX5_within_0 rfl (lv_at hl 0 rfl) ?_
  refine lv_lload_n hx hb dX5_within_1 rfl (lv_at hl 1 rfl) ?_
  refine W.lcmp hx hb dX5_within_2 ?_
  refine lv_if_lt (tgt := 17) hx hb dX5_within_3 (by decide) (fun c1 => ?_) (fun c1 => ?_)
  · have c1 : a0 < a1 := lc_lt.mp c1
    refine lv_iconst (v := 0) hx hb dX5_within_17 (by decide) ?_
    rw [hQ9]
    have hf : f_X5_within a0 a1 a2 = (0 : Int32) := by simp only [f_X5_within, if_pos c1]
    exact W.zret (v := (0 : Int32)) (ty := .boolean) hx hb hr (rfl) (fun t ht hW => ⟨⟨(0 : Int32), (), rfl, by rw [hf], ht⟩, hS.F ht⟩) hS.2.2 dX5_within_18
  · have c1 : ¬ a0 < a1 := fun z => c1 (lc_lt.mpr z)
    refine lv_lload_n hx hb dX5_within_6 rfl (lv_at hl 0 rfl) ?_
    refine lv_lload hx hb dX5_within_7 (lv_at hl 2 rfl) ?_
    refine W.lcmp hx hb dX5_within_9 ?_
    refine lv_if_gt (tgt := 17) hx hb dX5_within_10 (by decide) (fun c2 => ?_) (fun c2 => ?_)
    · have c2 : a2 < a0 := lc_gt.mp c2
      refine lv_iconst (v := 0) hx hb dX5_within_17 (by decide) ?_
      rw [hQ9]
      have hf : f_X5_within a0 a1 a2 = (0 : Int32) := by simp only [f_X5_within, if_neg c1, if_pos c2]
      exact W.zret (v := (0 : Int32)) (ty := .boolean) hx hb hr (rfl) (fun t ht hW => ⟨⟨(0 : Int32), (), rfl, by rw [hf], ht⟩, hS.F ht⟩) hS.2.2 dX5_within_18
    · have c2 : ¬ a2 < a0 := fun z => c2 (lc_gt.mpr z)
      refine lv_iconst (v := 1) hx hb dX5_within_13 (by decide) ?_
      refine lv_goto (tgt := 18) hx hb dX5_within_14 (by decide) ?_
      rw [hQ9]
      have hf : f_X5_within a0 a1 a2 = (1 : Int32) := by simp only [f_X5_within, if_neg c1, if_neg c2]
      exact W.zret (v := (1 : Int32)) (ty := .boolean) hx hb hr (rfl) (fun t ht hW => ⟨⟨(1 : Int32), (), rfl, by rw [hf], ht⟩, hS.F ht⟩) hS.2.2 dX5_within_18
theorem q_X5_within {p : Program} {l : Launch} {e : Env} {R : Room} {s : State} {m : MethodId} {args : Array Value} {below : List Frame} {meth : Method} {c : Code} {H : Heap} {locs : List Loc} {cells slots : Nat} {Q : State → Prop} {pc : Nat} {ls : Array Slot} {rest : List Value} {cc : ByteArray} {nL idx : Nat} {own : String} {A0 : Nat → Prop} (hx : p.tables.exec = Jvm.exec) (hb : c.code = cc) (hml : c.maxLocals = nL) (hown : s.vm.findClass own = some m.cls) (hts : ∀ w ∈ bigW, w.before args s = true) (hlk : Cond.methodLink own idx yX5_within ∈ bigW) (hR : 1 ≤ R.frames ∧ 25 ≤ R.locals) (hf : cells + 0 ≤ R.cells ∧ slots + 0 ≤ R.slots) (hz : ls.size = nL) (hw : (rest.map fun v => v.category).sum ≤ 8) (hS : va_S A0 s.heap H locs) (hd : decode cc pc = .ok (.invokestatic idx, 3)) (hA : ∀ q, s.heap.size ≤ q → A0 q) (a0 : Int64) (a1 : Int64) (a2 : Int64) (k : ∀ locs, va_S A0 s.heap H locs → W p l e R s m args below meth c H locs cells slots Q (F0 m (pc + 3) ls (.int (f_X5_within a0 a1 a2) :: rest))) : W p l e R s m args below meth c H locs cells slots Q (F0 m pc ls (.long a2 :: .long a1 :: .long a0 :: rest)) :=
  va_calli (va_runS (As := [.long a0, .long a1, .long a2]) (rest := rest) ⟨hx, hb, hml, hown, hts⟩ (c_X5_within l H a0 a1 a2) (kS 3 hts hlk mS_X5_within mN_RX5 mY_X5_within rfl rfl (by decide +kernel) hR) ⟨fun a U g mk q => q, fun U hU hW => ⟨rfl, hU⟩⟩ rfl rfl hz rfl (lv_room hw) hd hf) hS (fun q h1 h2 => absurd h1 (Nat.not_lt.mpr h2)) (fun q h => hA q (Nat.le_trans hS.1 h)) (fun r u t H1 locs1 ht hvm hw9 hB hz1 hk1 hS1 => by
    have e : H1 = H := by rw [← ht]; exact hB
    subst e; subst hw9
    exact k locs1 hS1)

def f_X5_checkKind (a0 : Int32) (a1 : Int32) : Nat := (if a0 < 0 then 1 else (if a0 ≤ a1 then 0 else 1))
set_option maxHeartbeats 4000000 in
set_option maxRecDepth 100000 in
theorem c_X5_checkKind (l : Launch) (hst : l.stackTraces = false) (hp : Heap) (a0 : Int32) (a1 : Int32) : vx_Met l yX5_checkKind (mW yX5_checkKind cX5_checkKind 2 none) { frames := 6, cells := 1, slots := 6, locals := 92 } (va_Pc [.int a0, .int a1] (fun U => U.heap = hp ∧ cxt (fun q : Nat => hp.size ≤ q) U U.heap)) (va_Qv (fun (_ : Unit) => f_X5_checkKind a0 a1 = 0) (fun _ t => t.heap = hp) (fun q : Nat => hp.size ≤ q)) (vx_X (fun _ : Unit => ¬ f_X5_checkKind a0 a1 = 0) (fun E _ t => E = exN (f_X5_checkKind a0 a1) ∧ True) (fun q : Nat => hp.size ≤ q)) 1 6 (fun q : Nat => hp.size ≤ q) := by
  refine vx_ofW (cc := cX5_checkKind) (maxL := 2) (ret := none) (by decide) rfl ?_
  intro p e s m args below meth c s₁ B hml ht hv
  obtain ⟨rfl, hh, hC⟩ := hv
  have hx := B.exec
  have hb := B.bytes
  have hr := B.returns
  have hts := mW_hts (atoms_spec (ws := (mW yX5_checkKind cX5_checkKind 2 none)) B.pre)
  have hown : s.vm.findClass RX5 = some m.cls := findClass_of_methodNamed B.named
  have hlocks := B.notSynchronized
  subst hh
  have hA : ∀ (n : Nat) (q : Nat), s.heap.size ≤ n → n ≤ q → s.heap.size ≤ q := fun n q h1 h2 => Nat.le_trans h1 h2
  have hS : va_S ((fun q : Nat => s.heap.size ≤ q)) s.heap s.heap [] := va_S.rf
  have hA : ∀ q, s.heap.size ≤ q → ((fun q : Nat => s.heap.size ≤ q)) q := fun q h => h
  have hl := lv_entry ([.int a0, .int a1]) (n := 2) (Nat.le_of_ble_eq_true rfl)
  rw [lg_entry_eq]
  generalize (lg_sl ([.int a0, .int a1]) ++ List.replicate (2 - (lg_sl ([.int a0, .int a1])).length) Slot.unset).toArray = ls at hl ⊢
  have hl : lv_has ls 2 [(0, .int a0), (1, .int a1)] := hl
  refine W_gen (fun Q9 hQ9 => ?_)
  refine lv_iload_n hx hb dX5_checkKind_0 rfl (lv_at hl 0 rfl) ?_
  refine lv_if_lt (tgt := 9) hx hb dX5_checkKind_1 (by decide) (fun c1 => ?_) (fun c1 => ?_)
  · rw [hQ9]
    have hf : f_X5_checkKind a0 a1 = 1 := by simp only [f_X5_checkKind, if_pos c1]
    obtain ⟨sa2, hsa2⟩ := hC.str 3 _ rfl
    refine vx_throwSW (mc := 1) (ms := 6) (ik := 62) (ic := 66) (is := 258) (own := RX5) (cls := x_IAE) (text := "no such KIND") (names := x_nam) hx hb hst hown (by decide) nm_x (hts _ mC_RX5_62) (hts _ mN_IllegalArgumentException) hsa2 (xw_IAE hts hC) xg_IAE hC.1 hC.2.1 hS (by rw [hml]; exact hl.1) dX5_checkKind_9 dX5_checkKind_12 dX5_checkKind_13 dX5_checkKind_16 dX5_checkKind_19 (fun x hx => (ht x hx).elim) (Nat.le_of_ble_eq_true rfl) (Nat.le_of_ble_eq_true rfl) (Nat.le_of_ble_eq_true rfl) (Nat.le_of_ble_eq_true rfl) hlocks (fun t hv hz hk => ⟨(), by rw [hf]; decide, ⟨by rw [hf]; rfl, True.intro⟩, ⟨Nat.le_trans hS.1 hz, fun q h1 h2 => (hk q (Nat.lt_of_lt_of_le h1 hS.1)).trans (hS.2.1 q h1 h2)⟩⟩) hS.2.2 (Nat.le_of_ble_eq_true rfl) (Nat.le_of_ble_eq_true rfl)
  · refine lv_iload_n hx hb dX5_checkKind_4 rfl (lv_at hl 0 rfl) ?_
    refine lv_iload_n hx hb dX5_checkKind_5 rfl (lv_at hl 1 rfl) ?_
    refine lv_icmp_le (tgt := 20) hx hb dX5_checkKind_6 (by decide) (fun c3 => ?_) (fun c3 => ?_)
    · rw [hQ9]
      have hf : f_X5_checkKind a0 a1 = 0 := by simp only [f_X5_checkKind, if_neg c1, if_pos c3]
      refine vx_ret ?_
      refine W.widen (k := 1) (n := 6) (Nat.le_of_ble_eq_true rfl) (Nat.le_of_ble_eq_true rfl) ?_
      exact W.vret hx hb hr (fun t ht hW => ⟨⟨(), rfl, by rw [hf], ht⟩, hS.F ht⟩) hS.2.2 dX5_checkKind_20
    · rw [hQ9]
      have hf : f_X5_checkKind a0 a1 = 1 := by simp only [f_X5_checkKind, if_neg c1, if_neg c3]
      obtain ⟨sa4, hsa4⟩ := hC.str 3 _ rfl
      refine vx_throwSW (mc := 1) (ms := 6) (ik := 62) (ic := 66) (is := 258) (own := RX5) (cls := x_IAE) (text := "no such KIND") (names := x_nam) hx hb hst hown (by decide) nm_x (hts _ mC_RX5_62) (hts _ mN_IllegalArgumentException) hsa4 (xw_IAE hts hC) xg_IAE hC.1 hC.2.1 hS (by rw [hml]; exact hl.1) dX5_checkKind_9 dX5_checkKind_12 dX5_checkKind_13 dX5_checkKind_16 dX5_checkKind_19 (fun x hx => (ht x hx).elim) (Nat.le_of_ble_eq_true rfl) (Nat.le_of_ble_eq_true rfl) (Nat.le_of_ble_eq_true rfl) (Nat.le_of_ble_eq_true rfl) hlocks (fun t hv hz hk => ⟨(), by rw [hf]; decide, ⟨by rw [hf]; rfl, True.intro⟩, ⟨Nat.le_trans hS.1 hz, fun q h1 h2 => (hk q (Nat.lt_of_lt_of_le h1 hS.1)).trans (hS.2.1 q h1 h2)⟩⟩) hS.2.2 (Nat.le_of_ble_eq_true rfl) (Nat.le_of_ble_eq_true rfl)
theorem q_X5_checkKind {p : Program} {l : Launch} {e : Env} {R : Room} {s : State} {m : MethodId} {args : Array Value} {below : List Frame} {meth : Method} {c : Code} {H : Heap} {locs : List Loc} {cells slots : Nat} {Q : State → Prop} {pc : Nat} {ls : Array Slot} {rest : List Value} {cc : ByteArray} {nL idx : Nat} {own : String} {A0 : Nat → Prop} (hst : l.stackTraces = false) (hx : p.tables.exec = Jvm.exec) (hb : c.code = cc) (hml : c.maxLocals = nL) (hown : s.vm.findClass own = some m.cls) (hts : ∀ w ∈ bigW, w.before args s = true) (hlk : Cond.methodLink own idx yX5_checkKind ∈ bigW) (hR : 7 ≤ R.frames ∧ 113 ≤ R.locals) (hf : cells + 1 ≤ R.cells ∧ slots + 6 ≤ R.slots) (hz : ls.size = nL) (hw : (rest.map fun v => v.category).sum ≤ 8) (hS : va_S A0 s.heap H locs) (hd : decode cc pc = .ok (.invokestatic idx, 3)) (hA : ∀ q, s.heap.size ≤ q → A0 q) (hC : cxt A0 s s.heap) (a0 : Int32) (a1 : Int32) (u : Nat) (hu : u = f_X5_checkKind a0 a1) (kx : ∀ {E : String} (hE : E = exN u) (ho : ¬ u = 0) (H1 : Heap) (locs1 : List Loc), (∀ q : Nat, q < H.size → H1[q]? = H[q]?) → H.size ≤ H1.size → va_S A0 s.heap H1 locs1 → ∀ (ce : Cell) (q9 : Addr), H1[q9]? = some ce → ce.vm = .none → s.vm.findClass E = some ce.cls → vx_W p l e R s m args below meth c H1 locs1 (cells + 1) (slots + 6) Q (F0 m pc ls rest) q9) (k : u = 0 → ∀ locs, va_S A0 s.heap H locs → W p l e R s m args below meth c H locs (cells + 1) (slots + 6) Q (F0 m (pc + 3) ls (rest))) : W p l e R s m args below meth c H locs cells slots Q (F0 m pc ls (.int a1 :: .int a0 :: rest)) := by
  subst hu
  exact vx_callv (vx_runS (As := [.int a0, .int a1]) (rest := rest) ⟨hx, hb, hml, hown, hts⟩ (c_X5_checkKind l hst H a0 a1) (kS 2 hts hlk mS_X5_checkKind mN_RX5 mY_X5_checkKind rfl rfl (by decide +kernel) hR) ⟨fun a U g mk q => ⟨q.1, q.2.1, q.2.2.call⟩, fun U hU hW => ⟨rfl, hU, hC.here hS hU hW (fun q h => hA q (Nat.le_trans hS.1 h))⟩⟩ rfl rfl hz rfl (lv_room hw) hd hf) hS (fun q h1 h2 => absurd h1 (Nat.not_lt.mpr h2)) (fun q h => hA q (Nat.le_trans hS.1 h)) (fun q h1 h2 => absurd h1 (Nat.not_lt.mpr h2)) (fun E ce q9 u t H1 locs1 ht hvm hw9 hB hz1 hk1 hS1 h1 h2 h3 => kx hB.1 hw9 H1 locs1 (fun q hq => hk1 q hq (Nat.not_le.mpr hq)) hz1 hS1 ce q9 h1 h2 h3) (fun u t H1 locs1 ht hvm hw9 hB hz1 hk1 hS1 => by
    have e : H1 = H := by rw [← ht]; exact hB
    subst e; have e1 := hw9
    exact k e1 locs1 hS1)

def f_X4_clear (Sm : Int32) : Int32 := (0 : Int32)
set_option maxHeartbeats 4000000 in
set_option maxRecDepth 100000 in
theorem c_X4_clear (l : Launch) (dC : Nat → ClassId) (dI : Nat → Nat → Nat) (cI cJ : ClassId) (ad : Nat → Nat) (hi : fI 23 ad) (sz : Nat) (Bc : Nat → Int64) (Bl : Nat → Int32) (Pk : Nat → Int32) (Pr : Nat → Int32) (Pl : Nat → Int32) (Pc : Nat → Int64) (Pm : Int32) (Gf : Nat → Int32) (Gt : Nat → Int32) (Gx : Nat → Int32) (Gd : Int32) (Gm : Int32) (Ek : Nat → Int32) (Er : Nat → Int32) (Ea : Nat → Int32) (Ex : Nat → Int32) (Em : Int32) (Eb : Int32) (Et : Int32) (Ss : Nat → Int32) (Sm : Int32) (Wg : Nat → Int64) (Wr : Nat → Int64) (Md : Nat → Int64) : Met l yX4_clear (mW yX4_clear cX4_clear 1 none) { frames := 0, cells := 0, slots := 0, locals := 0 } (va_Pc [.ref (ad 18)] (fun U => U.heap.size = sz ∧ va_P (dC, dI) vwCl (wC ad cI cJ Bc Bl Pk Pr Pl Pc Pm Gf Gt Gx Gd Gm Ek Er Ea Ex Em Eb Et Ss Sm Wg Wr Md) U.heap ∧ va_K (dC, dI) vwCl [(cI, .int), (cJ, .long)] U)) (va_Qv (fun (_ : Unit) => True) (fun _ t => va_P (dC, dI) vwCl (wC ad cI cJ Bc Bl Pk Pr Pl Pc Pm Gf Gt Gx Gd Gm Ek Er Ea Ex Em Eb Et Ss (f_X4_clear Sm) Wg Wr Md) t.heap) (fA 23 ad sz)) 0 0 (fA 23 ad sz) := by
  refine Met.ofW (cc := cX4_clear) (maxL := 1) (ret := none) (by decide) rfl ?_
  intro p e s m args below meth c s₁ B hml hv
  obtain ⟨rfl, hsz, hP, hK⟩ := hv
  have hx := B.exec
  have hb := B.bytes
  have hr := B.returns
  have hts := mW_hts (atoms_spec (ws := (mW yX4_clear cX4_clear 1 none)) B.pre)
  have hown : s.vm.findClass RX4 = some m.cls := findClass_of_methodNamed B.named
  have hlocks := B.notSynchronized
  subst hsz
  have hA : ∀ (n : Nat) (q : Nat), s.heap.size ≤ n → n ≤ q → fA 23 ad s.heap.size q := fun n q h1 h2 => Or.inr (Nat.le_trans h1 h2)
  have hS : va_S (fA 23 ad s.heap.size) s.heap s.heap [] := va_S.rf
  have hA : ∀ q, s.heap.size ≤ q → (fA 23 ad s.heap.size) q := fun q h => Or.inr h
  have hl := lv_entry ([.ref (ad 18)]) (n := 1) (Nat.le_of_ble_eq_true rfl)
  rw [lg_entry_eq]
  generalize (lg_sl ([.ref (ad 18)]) ++ List.replicate (1 - (lg_sl ([.ref (ad 18)])).length) Slot.unset).toArray = ls at hl ⊢
  have hl : lv_has ls 1 [(0, .ref (ad 18))] := hl
  refine W_gen (fun Q9 hQ9 => ?_)
  refine lv_aload_n hx hb dX4_clear_0 rfl (lv_at hl 0 rfl) ?_
  refine lv_iconst (v := 0) hx hb dX4_clear_1 (by decide) ?_
  refine va_put (D := (dC, dI)) (ci := 6) (v := .int (0 : Int32)) (ty := .int) (C := RX4) (T := TX4) (N := 2) hx hb hts iW_X4 tyX4 tyX4_ok nmX4 hown hK hP (fA_D hi rfl) hS 18 rfl rfl 1 (by decide) (hts _ mF_RX4_15) (fun _ h9 => h9) rfl (by decide +kernel) rfl rfl (Nat.le_of_ble_eq_true rfl) dX4_clear_2 (fun H locs hP _ hS => ?_)
  have hP : va_P (dC, dI) vwCl (wC ad cI cJ Bc Bl Pk Pr Pl Pc Pm Gf Gt Gx Gd Gm Ek Er Ea Ex Em Eb Et Ss (0 : Int32) Wg Wr Md) H := hP
  rw [hQ9]
  have hf : f_X4_clear Sm = (0 : Int32) := by simp only [f_X4_clear]
  exact W.vret hx hb hr (fun t ht hW => ⟨⟨(), rfl, True.intro, by rw [hf]; show va_P (dC, dI) vwCl _ t.heap; rw [ht]; exact hP⟩, hS.F ht⟩) hS.2.2 dX4_clear_5
theorem q_X4_clear {p : Program} {l : Launch} {e : Env} {R : Room} {s : State} {m : MethodId} {args : Array Value} {below : List Frame} {meth : Method} {c : Code} {H : Heap} {locs : List Loc} {cells slots : Nat} {Q : State → Prop} {pc : Nat} {ls : Array Slot} {rest : List Value} {cc : ByteArray} {nL idx : Nat} {own : String} {A0 : Nat → Prop} {dC : Nat → ClassId} {dI : Nat → Nat → Nat} {cI cJ : ClassId} {ad : Nat → Nat} {Bc : Nat → Int64} {Bl : Nat → Int32} {Pk : Nat → Int32} {Pr : Nat → Int32} {Pl : Nat → Int32} {Pc : Nat → Int64} {Pm : Int32} {Gf : Nat → Int32} {Gt : Nat → Int32} {Gx : Nat → Int32} {Gd : Int32} {Gm : Int32} {Ek : Nat → Int32} {Er : Nat → Int32} {Ea : Nat → Int32} {Ex : Nat → Int32} {Em : Int32} {Eb : Int32} {Et : Int32} {Ss : Nat → Int32} {Sm : Int32} {Wg : Nat → Int64} {Wr : Nat → Int64} {Md : Nat → Int64} (hx : p.tables.exec = Jvm.exec) (hb : c.code = cc) (hml : c.maxLocals = nL) (hown : s.vm.findClass own = some m.cls) (hts : ∀ w ∈ bigW, w.before args s = true) (hlk : Cond.methodLink own idx yX4_clear ∈ bigW) (hR : 1 ≤ R.frames ∧ 20 ≤ R.locals) (hf : cells + 0 ≤ R.cells ∧ slots + 0 ≤ R.slots) (hz : ls.size = nL) (hw : (rest.map fun v => v.category).sum ≤ 8) (hS : va_S A0 s.heap H locs) (hd : decode cc pc = .ok (.invokevirtual idx, 3)) (hA : ∀ q, fA 23 ad H.size q → A0 q) (hi : fI 23 ad) (hK : va_K (dC, dI) vwCl [(cI, .int), (cJ, .long)] s) (hP : va_P (dC, dI) vwCl (wC ad cI cJ Bc Bl Pk Pr Pl Pc Pm Gf Gt Gx Gd Gm Ek Er Ea Ex Em Eb Et Ss Sm Wg Wr Md) H)  (u : Int32) (hu : u = f_X4_clear Sm) (k : ∀ (H1 : Heap) (locs1 : List Loc), va_P (dC, dI) vwCl (wC ad cI cJ Bc Bl Pk Pr Pl Pc Pm Gf Gt Gx Gd Gm Ek Er Ea Ex Em Eb Et Ss u Wg Wr Md) H1 → va_S A0 s.heap H1 locs1 → W p l e R s m args below meth c H1 locs1 (cells + 0) (slots + 0) Q (F0 m (pc + 3) ls (rest))) : W p l e R s m args below meth c H locs cells slots Q (F0 m pc ls (.ref (ad 18) :: rest)) := by
  subst hu
  exact va_callv (va_runV (As := []) (rest := rest) ⟨hx, hb, hml, hown, hts⟩ (c_X4_clear l dC dI cI cJ ad hi H.size Bc Bl Pk Pr Pl Pc Pm Gf Gt Gx Gd Gm Ek Er Ea Ex Em Eb Et Ss Sm Wg Wr Md) (kV 0 hts hlk mI_X4_clear mN_RX4 mY_X4_clear mV_X4_clear rfl rfl (by decide +kernel) hR) ⟨fun a U g mk q => ⟨q.1, q.2.1, q.2.2.1, va_K.moved (u := U) (U := U.calling g mk a) (Vm.Alike.refl U.vm) q.2.2.2⟩, va_recv hK hP (ci := 6) (q0 := 18) rfl rfl, fun U hU hW => ⟨rfl, by rw [hU], by rw [hU]; exact hP, va_K.moved hW.alike hK⟩⟩ rfl rfl hz rfl (lv_room hw) hd hf) hS (fun q _ h => hA q h) (fun q h => hA q h) (fun u t H1 locs1 ht hvm hw9 hB hz1 hk1 hS1 => by
    skip
    exact k H1 locs1 (by rw [← ht]; exact hB) hS1)

def f_X4_write (a0 : Int32) (Ss : Nat → Int32) (Sm : Int32) : (Nat → Int32) × Int32 := (if Sm < 0 then (Ss, Sm) else (if (61 : Int32) ≤ Sm then (Ss, Sm) else ((upd Ss Sm.toNatClampNeg a0), (Sm + (1 : Int32)))))
def S_X4_write (a0 : Int32) (Ss : Nat → Int32) (Sm : Int32) : Prop := (Sm < 0 → (True)) ∧ (¬ Sm < 0 → (((61 : Int32) ≤ Sm → (True)) ∧ (¬ (61 : Int32) ≤ Sm → ((vp_in Sm 61) ∧ (True)))))
set_option maxHeartbeats 4000000 in
set_option maxRecDepth 100000 in
theorem c_X4_write (l : Launch) (dC : Nat → ClassId) (dI : Nat → Nat → Nat) (cI cJ : ClassId) (ad : Nat → Nat) (hi : fI 23 ad) (sz : Nat) (Bc : Nat → Int64) (Bl : Nat → Int32) (Pk : Nat → Int32) (Pr : Nat → Int32) (Pl : Nat → Int32) (Pc : Nat → Int64) (Pm : Int32) (Gf : Nat → Int32) (Gt : Nat → Int32) (Gx : Nat → Int32) (Gd : Int32) (Gm : Int32) (Ek : Nat → Int32) (Er : Nat → Int32) (Ea : Nat → Int32) (Ex : Nat → Int32) (Em : Int32) (Eb : Int32) (Et : Int32) (Ss : Nat → Int32) (Sm : Int32) (Wg : Nat → Int64) (Wr : Nat → Int64) (Md : Nat → Int64) (a0 : Int32) (hs : S_X4_write a0 Ss Sm) : Met l yX4_write (mW yX4_write cX4_write 2 none) { frames := 0, cells := 0, slots := 0, locals := 0 } (va_Pc [.ref (ad 18), .int a0] (fun U => U.heap.size = sz ∧ va_P (dC, dI) vwCl (wC ad cI cJ Bc Bl Pk Pr Pl Pc Pm Gf Gt Gx Gd Gm Ek Er Ea Ex Em Eb Et Ss Sm Wg Wr Md) U.heap ∧ va_K (dC, dI) vwCl [(cI, .int), (cJ, .long)] U)) (va_Qv (fun (_ : Unit) => True) (fun _ t => va_P (dC, dI) vwCl (wC ad cI cJ Bc Bl Pk Pr Pl Pc Pm Gf Gt Gx Gd Gm Ek Er Ea Ex Em Eb Et ((f_X4_write a0 Ss Sm).1) ((f_X4_write a0 Ss Sm).2) Wg Wr Md) t.heap) (fA 23 ad sz)) 0 0 (fA 23 ad sz) := by
  refine Met.ofW (cc := cX4_write) (maxL := 2) (ret := none) (by decide) rfl ?_
  intro p e s m args below meth c s₁ B hml hv
  obtain ⟨rfl, hsz, hP, hK⟩ := hv
  have hx := B.exec
  have hb := B.bytes
  have hr := B.returns
  have hts := mW_hts (atoms_spec (ws := (mW yX4_write cX4_write 2 none)) B.pre)
  have hown : s.vm.findClass RX4 = some m.cls := findClass_of_methodNamed B.named
  have hlocks := B.notSynchronized
  subst hsz
  have hA : ∀ (n : Nat) (q : Nat), s.heap.size ≤ n → n ≤ q → fA 23 ad s.heap.size q := fun n q h1 h2 => Or.inr (Nat.le_trans h1 h2)
  have hS : va_S (fA 23 ad s.heap.size) s.heap s.heap [] := va_S.rf
  have hA : ∀ q, s.heap.size ≤ q → (fA 23 ad s.heap.size) q := fun q h => Or.inr h
  unfold S_X4_write at hs
  have hl := lv_entry ([.ref (ad 18), .int a0]) (n := 2) (Nat.le_of_ble_eq_true rfl)
  rw [lg_entry_eq]
  generalize (lg_sl ([.ref (ad 18), .int a0]) ++ List.replicate (2 - (lg_sl ([.ref (ad 18), .int a0])).length) Slot.unset).toArray = ls at hl ⊢
  have hl : lv_has ls 2 [(0, .ref (ad 18)), (1, .int a0)] := hl
  refine W_gen (fun Q9 hQ9 => ?_)
  refine lv_aload_n hx hb dX4_write_0 rfl (lv_at hl 0 rfl) ?_
  refine va_get (D := (dC, dI)) (ci := 6) (v := .int Sm) (C := RX4) (T := TX4) (N := 2) hx hb hts iW_X4 hown hK hP 18 rfl rfl 1 (by decide) (hts _ mF_RX4_15) (fun _ h9 => h9) rfl dX4_write_1 ?_
  refine lv_if_lt (tgt := 36) hx hb dX4_write_4 (by decide) (fun c1 => ?_) (fun c1 => ?_)
  · have hs := hs.1 c1
    rw [hQ9]
    have hf : f_X4_write a0 Ss Sm = (Ss, Sm) := by simp only [f_X4_write, if_pos c1]
    exact W.vret hx hb hr (fun t ht hW => ⟨⟨(), rfl, True.intro, by rw [hf]; show va_P (dC, dI) vwCl _ t.heap; rw [ht]; exact hP⟩, hS.F ht⟩) hS.2.2 dX4_write_36
  · have hs := hs.2 c1
    refine lv_aload_n hx hb dX4_write_7 rfl (lv_at hl 0 rfl) ?_
    refine va_get (D := (dC, dI)) (ci := 6) (v := .int Sm) (C := RX4) (T := TX4) (N := 2) hx hb hts iW_X4 hown hK hP 18 rfl rfl 1 (by decide) (hts _ mF_RX4_15) (fun _ h9 => h9) rfl dX4_write_8 ?_
    refine lv_bipush (v := 61) hx hb dX4_write_11 (by decide) ?_
    refine lv_icmp_ge (tgt := 36) hx hb dX4_write_13 (by decide) (fun c2 => ?_) (fun c2 => ?_)
    · have hs := hs.1 c2
      rw [hQ9]
      have hf : f_X4_write a0 Ss Sm = (Ss, Sm) := by simp only [f_X4_write, if_neg c1, if_pos c2]
      exact W.vret hx hb hr (fun t ht hW => ⟨⟨(), rfl, True.intro, by rw [hf]; show va_P (dC, dI) vwCl _ t.heap; rw [ht]; exact hP⟩, hS.F ht⟩) hS.2.2 dX4_write_36
    · have hs := hs.2 c2
      refine lv_aload_n hx hb dX4_write_16 rfl (lv_at hl 0 rfl) ?_
      refine va_get (D := (dC, dI)) (ci := 6) (v := .ref (ad 19)) (C := RX4) (T := TX4) (N := 2) hx hb hts iW_X4 hown hK hP 18 rfl rfl 0 (by decide) (hts _ mF_RX4_9) (fun _ h9 => h9) rfl dX4_write_17 ?_
      refine lv_aload_n hx hb dX4_write_20 rfl (lv_at hl 0 rfl) ?_
      refine va_get (D := (dC, dI)) (ci := 6) (v := .int Sm) (C := RX4) (T := TX4) (N := 2) hx hb hts iW_X4 hown hK hP 18 rfl rfl 1 (by decide) (hts _ mF_RX4_15) (fun _ h9 => h9) rfl dX4_write_21 ?_
      refine lv_iload_n hx hb dX4_write_24 rfl (lv_at hl 1 rfl) ?_
      obtain ⟨h3, hs⟩ := hs
      refine va_iast hx hb hK hP (fA_D hi rfl) hS 19 0 rfl rfl h3 dX4_write_25 (fun H locs hP _ hS => ?_)
      have hP : va_P (dC, dI) vwCl (wC ad cI cJ Bc Bl Pk Pr Pl Pc Pm Gf Gt Gx Gd Gm Ek Er Ea Ex Em Eb Et (upd Ss Sm.toNatClampNeg a0) Sm Wg Wr Md) H := hP
      refine lv_aload_n hx hb dX4_write_26 rfl (lv_at hl 0 rfl) ?_
      refine lv_dup hx hb dX4_write_27 rfl ?_
      refine va_get (D := (dC, dI)) (ci := 6) (v := .int Sm) (C := RX4) (T := TX4) (N := 2) hx hb hts iW_X4 hown hK hP 18 rfl rfl 1 (by decide) (hts _ mF_RX4_15) (fun _ h9 => h9) rfl dX4_write_28 ?_
      refine lv_iconst (v := 1) hx hb dX4_write_31 (by decide) ?_
      refine lv_iadd hx hb dX4_write_32 ?_
      refine va_put (D := (dC, dI)) (ci := 6) (v := .int (Sm + (1 : Int32))) (ty := .int) (C := RX4) (T := TX4) (N := 2) hx hb hts iW_X4 tyX4 tyX4_ok nmX4 hown hK hP (fA_D hi rfl) hS 18 rfl rfl 1 (by decide) (hts _ mF_RX4_15) (fun _ h9 => h9) rfl (by decide +kernel) rfl rfl (Nat.le_of_ble_eq_true rfl) dX4_write_33 (fun H locs hP _ hS => ?_)
      have hP : va_P (dC, dI) vwCl (wC ad cI cJ Bc Bl Pk Pr Pl Pc Pm Gf Gt Gx Gd Gm Ek Er Ea Ex Em Eb Et (upd Ss Sm.toNatClampNeg a0) (Sm + (1 : Int32)) Wg Wr Md) H := hP
      rw [hQ9]
      have hf : f_X4_write a0 Ss Sm = ((upd Ss Sm.toNatClampNeg a0), (Sm + (1 : Int32))) := by simp only [f_X4_write, if_neg c1, if_neg c2]
      exact W.vret hx hb hr (fun t ht hW => ⟨⟨(), rfl, True.intro, by rw [hf]; show va_P (dC, dI) vwCl _ t.heap; rw [ht]; exact hP⟩, hS.F ht⟩) hS.2.2 dX4_write_36
theorem q_X4_write {p : Program} {l : Launch} {e : Env} {R : Room} {s : State} {m : MethodId} {args : Array Value} {below : List Frame} {meth : Method} {c : Code} {H : Heap} {locs : List Loc} {cells slots : Nat} {Q : State → Prop} {pc : Nat} {ls : Array Slot} {rest : List Value} {cc : ByteArray} {nL idx : Nat} {own : String} {A0 : Nat → Prop} {dC : Nat → ClassId} {dI : Nat → Nat → Nat} {cI cJ : ClassId} {ad : Nat → Nat} {Bc : Nat → Int64} {Bl : Nat → Int32} {Pk : Nat → Int32} {Pr : Nat → Int32} {Pl : Nat → Int32} {Pc : Nat → Int64} {Pm : Int32} {Gf : Nat → Int32} {Gt : Nat → Int32} {Gx : Nat → Int32} {Gd : Int32} {Gm : Int32} {Ek : Nat → Int32} {Er : Nat → Int32} {Ea : Nat → Int32} {Ex : Nat → Int32} {Em : Int32} {Eb : Int32} {Et : Int32} {Ss : Nat → Int32} {Sm : Int32} {Wg : Nat → Int64} {Wr : Nat → Int64} {Md : Nat → Int64} (hx : p.tables.exec = Jvm.exec) (hb : c.code = cc) (hml : c.maxLocals = nL) (hown : s.vm.findClass own = some m.cls) (hts : ∀ w ∈ bigW, w.before args s = true) (hlk : Cond.methodLink own idx yX4_write ∈ bigW) (hR : 1 ≤ R.frames ∧ 21 ≤ R.locals) (hf : cells + 0 ≤ R.cells ∧ slots + 0 ≤ R.slots) (hz : ls.size = nL) (hw : (rest.map fun v => v.category).sum ≤ 8) (hS : va_S A0 s.heap H locs) (hd : decode cc pc = .ok (.invokevirtual idx, 3)) (hA : ∀ q, fA 23 ad H.size q → A0 q) (hi : fI 23 ad) (hK : va_K (dC, dI) vwCl [(cI, .int), (cJ, .long)] s) (hP : va_P (dC, dI) vwCl (wC ad cI cJ Bc Bl Pk Pr Pl Pc Pm Gf Gt Gx Gd Gm Ek Er Ea Ex Em Eb Et Ss Sm Wg Wr Md) H) (a0 : Int32) (hs : S_X4_write a0 Ss Sm)  (u : (Nat → Int32) × Int32) (hu : u = f_X4_write a0 Ss Sm) (k : ∀ (H1 : Heap) (locs1 : List Loc), va_P (dC, dI) vwCl (wC ad cI cJ Bc Bl Pk Pr Pl Pc Pm Gf Gt Gx Gd Gm Ek Er Ea Ex Em Eb Et u.1 u.2 Wg Wr Md) H1 → va_S A0 s.heap H1 locs1 → W p l e R s m args below meth c H1 locs1 (cells + 0) (slots + 0) Q (F0 m (pc + 3) ls (rest))) : W p l e R s m args below meth c H locs cells slots Q (F0 m pc ls (.int a0 :: .ref (ad 18) :: rest)) := by
  subst hu
  exact va_callv (va_runV (As := [.int a0]) (rest := rest) ⟨hx, hb, hml, hown, hts⟩ (c_X4_write l dC dI cI cJ ad hi H.size Bc Bl Pk Pr Pl Pc Pm Gf Gt Gx Gd Gm Ek Er Ea Ex Em Eb Et Ss Sm Wg Wr Md a0 hs) (kV 1 hts hlk mI_X4_write mN_RX4 mY_X4_write mV_X4_write rfl rfl (by decide +kernel) hR) ⟨fun a U g mk q => ⟨q.1, q.2.1, q.2.2.1, va_K.moved (u := U) (U := U.calling g mk a) (Vm.Alike.refl U.vm) q.2.2.2⟩, va_recv hK hP (ci := 6) (q0 := 18) rfl rfl, fun U hU hW => ⟨rfl, by rw [hU], by rw [hU]; exact hP, va_K.moved hW.alike hK⟩⟩ rfl rfl hz rfl (lv_room hw) hd hf) hS (fun q _ h => hA q h) (fun q h => hA q h) (fun u t H1 locs1 ht hvm hw9 hB hz1 hk1 hS1 => by
    skip
    exact k H1 locs1 (by rw [← ht]; exact hB) hS1)

def f_X0_place (a0 : Int32) (a1 : Int32) : Int32 := ((a0 * (32 : Int32)) + a1)
set_option maxHeartbeats 4000000 in
set_option maxRecDepth 100000 in
theorem c_X0_place (l : Launch) (hp : Heap) (a0 : Int32) (a1 : Int32) : Met l yX0_place (mW yX0_place cX0_place 2 (some .int)) { frames := 0, cells := 0, slots := 0, locals := 0 } (va_Pc [.int a0, .int a1] (fun U => U.heap = hp)) (va_Qi (fun (r : Int32) (_ : Unit) => r = f_X0_place a0 a1) (fun _ t => t.heap = hp) (fun q : Nat => hp.size ≤ q)) 0 0 (fun q : Nat => hp.size ≤ q) := by
  refine Met.ofW (cc := cX0_place) (maxL := 2) (ret := (some .int)) (by decide) rfl ?_
  intro p e s m args below meth c s₁ B hml hv
  obtain ⟨rfl, hh⟩ := hv
  have hx := B.exec
  have hb := B.bytes
  have hr := B.returns
  have hts := mW_hts (atoms_spec (ws := (mW yX0_place cX0_place 2 (some .int))) B.pre)
  have hown : s.vm.findClass RX0 = some m.cls := findClass_of_methodNamed B.named
  have hlocks := B.notSynchronized
  subst hh
  have hA : ∀ (n : Nat) (q : Nat), s.heap.size ≤ n → n ≤ q → s.heap.size ≤ q := fun n q h1 h2 => Nat.le_trans h1 h2
  have hS : va_S ((fun q : Nat => s.heap.size ≤ q)) s.heap s.heap [] := va_S.rf
  have hA : ∀ q, s.heap.size ≤ q → ((fun q : Nat => s.heap.size ≤ q)) q := fun q h => h
  have hl := lv_entry ([.int a0, .int a1]) (n := 2) (Nat.le_of_ble_eq_true rfl)
  rw [lg_entry_eq]
  generalize (lg_sl ([.int a0, .int a1]) ++ List.replicate (2 - (lg_sl ([.int a0, .int a1])).length) Slot.unset).toArray = ls at hl ⊢
  have hl : lv_has ls 2 [(0, .int a0), (1, .int a1)] := hl
  refine W_gen (fun Q9 hQ9 => ?_)
  refine lv_iload_n hx hb dX0_place_0 rfl (lv_at hl 0 rfl) ?_
  refine lv_bipush (v := 32) hx hb dX0_place_1 (by decide) ?_
  refine lv_imul hx hb dX0_place_3 ?_
  refine lv_iload_n hx hb dX0_place_4 rfl (lv_at hl 1 rfl) ?_
  refine lv_iadd hx hb dX0_place_5 ?_
  rw [hQ9]
  have hf : f_X0_place a0 a1 = ((a0 * (32 : Int32)) + a1) := by simp only [f_X0_place]
  exact W.iret (v := ((a0 * (32 : Int32)) + a1)) hx hb hr (fun t ht hW => ⟨⟨((a0 * (32 : Int32)) + a1), (), rfl, by rw [hf], ht⟩, hS.F ht⟩) hS.2.2 dX0_place_6
theorem q_X0_place {p : Program} {l : Launch} {e : Env} {R : Room} {s : State} {m : MethodId} {args : Array Value} {below : List Frame} {meth : Method} {c : Code} {H : Heap} {locs : List Loc} {cells slots : Nat} {Q : State → Prop} {pc : Nat} {ls : Array Slot} {rest : List Value} {cc : ByteArray} {nL idx : Nat} {own : String} {A0 : Nat → Prop} (hx : p.tables.exec = Jvm.exec) (hb : c.code = cc) (hml : c.maxLocals = nL) (hown : s.vm.findClass own = some m.cls) (hts : ∀ w ∈ bigW, w.before args s = true) (hlk : Cond.methodLink own idx yX0_place ∈ bigW) (hR : 1 ≤ R.frames ∧ 21 ≤ R.locals) (hf : cells + 0 ≤ R.cells ∧ slots + 0 ≤ R.slots) (hz : ls.size = nL) (hw : (rest.map fun v => v.category).sum ≤ 8) (hS : va_S A0 s.heap H locs) (hd : decode cc pc = .ok (.invokestatic idx, 3)) (hA : ∀ q, s.heap.size ≤ q → A0 q) (a0 : Int32) (a1 : Int32) (k : ∀ locs, va_S A0 s.heap H locs → W p l e R s m args below meth c H locs cells slots Q (F0 m (pc + 3) ls (.int (f_X0_place a0 a1) :: rest))) : W p l e R s m args below meth c H locs cells slots Q (F0 m pc ls (.int a1 :: .int a0 :: rest)) :=
  va_calli (va_runS (As := [.int a0, .int a1]) (rest := rest) ⟨hx, hb, hml, hown, hts⟩ (c_X0_place l H a0 a1) (kS 2 hts hlk mS_X0_place mN_RX0 mY_X0_place rfl rfl (by decide +kernel) hR) ⟨fun a U g mk q => q, fun U hU hW => ⟨rfl, hU⟩⟩ rfl rfl hz rfl (lv_room hw) hd hf) hS (fun q h1 h2 => absurd h1 (Nat.not_lt.mpr h2)) (fun q h => hA q (Nat.le_trans hS.1 h)) (fun r u t H1 locs1 ht hvm hw9 hB hz1 hk1 hS1 => by
    have e : H1 = H := by rw [← ht]; exact hB
    subst e; subst hw9
    exact k locs1 hS1)

def f_X0_home (a0 : Int32) (a1 : Int32) : Int32 := ((gHOMES a0) + (a1 * (gWIDTHS a0)))
def S_X0_home (a0 : Int32) (a1 : Int32) : Prop := (vp_in a0 5) ∧ ((vp_in a0 5) ∧ (True))
set_option maxHeartbeats 4000000 in
set_option maxRecDepth 100000 in
theorem c_X0_home (l : Launch) (hp : Heap) (a0 : Int32) (a1 : Int32) (hs : S_X0_home a0 a1) : Met l yX0_home (mW yX0_home cX0_home 2 (some .int)) { frames := 0, cells := 0, slots := 0, locals := 0 } (va_Pc [.int a0, .int a1] (fun U => U.heap = hp ∧ cxt (fun q : Nat => hp.size ≤ q) U U.heap)) (va_Qi (fun (r : Int32) (_ : Unit) => r = f_X0_home a0 a1) (fun _ t => t.heap = hp) (fun q : Nat => hp.size ≤ q)) 0 0 (fun q : Nat => hp.size ≤ q) := by
  refine Met.ofW (cc := cX0_home) (maxL := 2) (ret := (some .int)) (by decide) rfl ?_
  intro p e s m args below meth c s₁ B hml hv
  obtain ⟨rfl, hh, hC⟩ := hv
  have hx := B.exec
  have hb := B.bytes
  have hr := B.returns
  have hts := mW_hts (atoms_spec (ws := (mW yX0_home cX0_home 2 (some .int))) B.pre)
  have hown : s.vm.findClass RX0 = some m.cls := findClass_of_methodNamed B.named
  have hlocks := B.notSynchronized
  subst hh
  have hA : ∀ (n : Nat) (q : Nat), s.heap.size ≤ n → n ≤ q → s.heap.size ≤ q := fun n q h1 h2 => Nat.le_trans h1 h2
  have hS : va_S ((fun q : Nat => s.heap.size ≤ q)) s.heap s.heap [] := va_S.rf
  have hA : ∀ q, s.heap.size ≤ q → ((fun q : Nat => s.heap.size ≤ q)) q := fun q h => h
  unfold S_X0_home at hs
  have hl := lv_entry ([.int a0, .int a1]) (n := 2) (Nat.le_of_ble_eq_true rfl)
  rw [lg_entry_eq]
  generalize (lg_sl ([.int a0, .int a1]) ++ List.replicate (2 - (lg_sl ([.int a0, .int a1])).length) Slot.unset).toArray = ls at hl ⊢
  have hl : lv_has ls 2 [(0, .int a0), (1, .int a1)] := hl
  refine W_gen (fun Q9 hQ9 => ?_)
  obtain ⟨t1, hZt1, hTt1⟩ := hC.2.2.1
  refine va_getsN hx hb hZt1 hS hown (va_Nw.use rfl hC.2.2.2.2.2.2.1.1) (fun _ h9 => h9) dX0_home_0 ?_
  refine lv_iload_n hx hb dX0_home_3 rfl (lv_at hl 0 rfl) ?_
  obtain ⟨h2, hs⟩ := hs
  refine va_ti hx hb hTt1 hS h2 (v := .int (gHOMES a0)) rfl dX0_home_4 ?_
  refine lv_iload_n hx hb dX0_home_5 rfl (lv_at hl 1 rfl) ?_
  obtain ⟨t3, hZt3, hTt3⟩ := hC.2.2.2.1
  refine va_getsN hx hb hZt3 hS hown (va_Nw.use rfl hC.2.2.2.2.2.2.1.2.1) (fun _ h9 => h9) dX0_home_6 ?_
  refine lv_iload_n hx hb dX0_home_9 rfl (lv_at hl 0 rfl) ?_
  obtain ⟨h4, hs⟩ := hs
  refine va_ti hx hb hTt3 hS h4 (v := .int (gWIDTHS a0)) rfl dX0_home_10 ?_
  refine lv_imul hx hb dX0_home_11 ?_
  refine lv_iadd hx hb dX0_home_12 ?_
  rw [hQ9]
  have hf : f_X0_home a0 a1 = ((gHOMES a0) + (a1 * (gWIDTHS a0))) := by simp only [f_X0_home]
  exact W.iret (v := ((gHOMES a0) + (a1 * (gWIDTHS a0)))) hx hb hr (fun t ht hW => ⟨⟨((gHOMES a0) + (a1 * (gWIDTHS a0))), (), rfl, by rw [hf], ht⟩, hS.F ht⟩) hS.2.2 dX0_home_13
theorem q_X0_home {p : Program} {l : Launch} {e : Env} {R : Room} {s : State} {m : MethodId} {args : Array Value} {below : List Frame} {meth : Method} {c : Code} {H : Heap} {locs : List Loc} {cells slots : Nat} {Q : State → Prop} {pc : Nat} {ls : Array Slot} {rest : List Value} {cc : ByteArray} {nL idx : Nat} {own : String} {A0 : Nat → Prop} (hx : p.tables.exec = Jvm.exec) (hb : c.code = cc) (hml : c.maxLocals = nL) (hown : s.vm.findClass own = some m.cls) (hts : ∀ w ∈ bigW, w.before args s = true) (hlk : Cond.methodLink own idx yX0_home ∈ bigW) (hR : 1 ≤ R.frames ∧ 21 ≤ R.locals) (hf : cells + 0 ≤ R.cells ∧ slots + 0 ≤ R.slots) (hz : ls.size = nL) (hw : (rest.map fun v => v.category).sum ≤ 8) (hS : va_S A0 s.heap H locs) (hd : decode cc pc = .ok (.invokestatic idx, 3)) (hA : ∀ q, s.heap.size ≤ q → A0 q) (hC : cxt A0 s s.heap) (a0 : Int32) (a1 : Int32) (hs : S_X0_home a0 a1) (k : ∀ locs, va_S A0 s.heap H locs → W p l e R s m args below meth c H locs cells slots Q (F0 m (pc + 3) ls (.int (f_X0_home a0 a1) :: rest))) : W p l e R s m args below meth c H locs cells slots Q (F0 m pc ls (.int a1 :: .int a0 :: rest)) :=
  va_calli (va_runS (As := [.int a0, .int a1]) (rest := rest) ⟨hx, hb, hml, hown, hts⟩ (c_X0_home l H a0 a1 hs) (kS 2 hts hlk mS_X0_home mN_RX0 mY_X0_home rfl rfl (by decide +kernel) hR) ⟨fun a U g mk q => ⟨q.1, q.2.1, q.2.2.call⟩, fun U hU hW => ⟨rfl, hU, hC.here hS hU hW (fun q h => hA q (Nat.le_trans hS.1 h))⟩⟩ rfl rfl hz rfl (lv_room hw) hd hf) hS (fun q h1 h2 => absurd h1 (Nat.not_lt.mpr h2)) (fun q h => hA q (Nat.le_trans hS.1 h)) (fun r u t H1 locs1 ht hvm hw9 hB hz1 hk1 hS1 => by
    have e : H1 = H := by rw [← ht]; exact hB
    subst e; subst hw9
    exact k locs1 hS1)

def f_X0_copyTo (a1 : Int32) (a2 : Int32) (Bc : Nat → Int64) (Md : Nat → Int64) : (Nat → Int64) := (va_cpy Bc Md (f_X0_home a1 a2).toNatClampNeg (0 : Int32).toNatClampNeg (gWIDTHS a1).toNatClampNeg)
def S_X0_copyTo (a1 : Int32) (a2 : Int32) (Bc : Nat → Int64) (Md : Nat → Int64) : Prop := (S_X0_home a1 a2) ∧ ((vp_in a1 5) ∧ ((¬ (f_X0_home a1 a2) < 0) ∧ ((¬ (0 : Int32) < 0) ∧ ((¬ (gWIDTHS a1) < 0) ∧ (((f_X0_home a1 a2).toNatClampNeg + (gWIDTHS a1).toNatClampNeg ≤ 928) ∧ (((0 : Int32).toNatClampNeg + (gWIDTHS a1).toNatClampNeg ≤ 21) ∧ (True)))))))
set_option maxHeartbeats 4000000 in
set_option maxRecDepth 100000 in
theorem c_X0_copyTo (l : Launch) (dC : Nat → ClassId) (dI : Nat → Nat → Nat) (cI cJ : ClassId) (ad : Nat → Nat) (hi : fI 23 ad) (sz : Nat) (Bc : Nat → Int64) (Bl : Nat → Int32) (Pk : Nat → Int32) (Pr : Nat → Int32) (Pl : Nat → Int32) (Pc : Nat → Int64) (Pm : Int32) (Gf : Nat → Int32) (Gt : Nat → Int32) (Gx : Nat → Int32) (Gd : Int32) (Gm : Int32) (Ek : Nat → Int32) (Er : Nat → Int32) (Ea : Nat → Int32) (Ex : Nat → Int32) (Em : Int32) (Eb : Int32) (Et : Int32) (Ss : Nat → Int32) (Sm : Int32) (Wg : Nat → Int64) (Wr : Nat → Int64) (Md : Nat → Int64) (a1 : Int32) (a2 : Int32) (hs : S_X0_copyTo a1 a2 Bc Md) : Met l yX0_copyTo (mW yX0_copyTo cX0_copyTo 4 none) { frames := 1, cells := 0, slots := 0, locals := 60 } (va_Pc [.ref (ad 1), .ref (ad 22), .int a1, .int a2] (fun U => U.heap.size = sz ∧ va_P (dC, dI) vwCl (wC ad cI cJ Bc Bl Pk Pr Pl Pc Pm Gf Gt Gx Gd Gm Ek Er Ea Ex Em Eb Et Ss Sm Wg Wr Md) U.heap ∧ va_K (dC, dI) vwCl [(cI, .int), (cJ, .long)] U ∧ cxt (fA 23 ad sz) U U.heap)) (va_Qv (fun (_ : Unit) => True) (fun _ t => va_P (dC, dI) vwCl (wC ad cI cJ Bc Bl Pk Pr Pl Pc Pm Gf Gt Gx Gd Gm Ek Er Ea Ex Em Eb Et Ss Sm Wg Wr (f_X0_copyTo a1 a2 Bc Md)) t.heap) (fA 23 ad sz)) 0 0 (fA 23 ad sz) := by
  refine Met.ofW (cc := cX0_copyTo) (maxL := 4) (ret := none) (by decide) rfl ?_
  intro p e s m args below meth c s₁ B hml hv
  obtain ⟨rfl, hsz, hP, hK, hC⟩ := hv
  have hx := B.exec
  have hb := B.bytes
  have hr := B.returns
  have hts := mW_hts (atoms_spec (ws := (mW yX0_copyTo cX0_copyTo 4 none)) B.pre)
  have hown : s.vm.findClass RX0 = some m.cls := findClass_of_methodNamed B.named
  have hlocks := B.notSynchronized
  subst hsz
  have hA : ∀ (n : Nat) (q : Nat), s.heap.size ≤ n → n ≤ q → fA 23 ad s.heap.size q := fun n q h1 h2 => Or.inr (Nat.le_trans h1 h2)
  have hS : va_S (fA 23 ad s.heap.size) s.heap s.heap [] := va_S.rf
  have hA : ∀ q, s.heap.size ≤ q → (fA 23 ad s.heap.size) q := fun q h => Or.inr h
  unfold S_X0_copyTo at hs
  have hl := lv_entry ([.ref (ad 1), .ref (ad 22), .int a1, .int a2]) (n := 4) (Nat.le_of_ble_eq_true rfl)
  rw [lg_entry_eq]
  generalize (lg_sl ([.ref (ad 1), .ref (ad 22), .int a1, .int a2]) ++ List.replicate (4 - (lg_sl ([.ref (ad 1), .ref (ad 22), .int a1, .int a2])).length) Slot.unset).toArray = ls at hl ⊢
  have hl : lv_has ls 4 [(0, .ref (ad 1)), (1, .ref (ad 22)), (2, .int a1), (3, .int a2)] := hl
  refine W_gen (fun Q9 hQ9 => ?_)
  refine lv_aload_n hx hb dX0_copyTo_0 rfl (lv_at hl 0 rfl) ?_
  refine va_get (D := (dC, dI)) (ci := 2) (v := .ref (ad 2)) (C := RX0) (T := TX0) (N := 2) hx hb hts iW_X0 hown hK hP 1 rfl rfl 0 (by decide) (hts _ mF_RX0_9) (fun _ h9 => h9) rfl dX0_copyTo_1 ?_
  refine lv_iload_n hx hb dX0_copyTo_4 rfl (lv_at hl 2 rfl) ?_
  refine lv_iload_n hx hb dX0_copyTo_5 rfl (lv_at hl 3 rfl) ?_
  obtain ⟨h1, hs⟩ := hs
  refine q_X0_home hx hb hml hown hts mM_RX0_19 ⟨Nat.le_of_ble_eq_true rfl, Nat.le_of_ble_eq_true rfl⟩ ⟨Nat.le_of_ble_eq_true rfl, Nat.le_of_ble_eq_true rfl⟩ hl.1 (Nat.le_of_ble_eq_true rfl) hS dX0_copyTo_6 hA hC a1 a2 h1 (fun locs hS => ?_)
  refine lv_aload_n hx hb dX0_copyTo_9 rfl (lv_at hl 1 rfl) ?_
  refine lv_iconst (v := 0) hx hb dX0_copyTo_10 (by decide) ?_
  obtain ⟨t2, hZt2, hTt2⟩ := hC.2.2.2.1
  refine va_getsN hx hb hZt2 hS hown (va_Nw.use rfl hC.2.2.2.2.2.2.1.2.1) (fun _ h9 => h9) dX0_copyTo_11 ?_
  refine lv_iload_n hx hb dX0_copyTo_14 rfl (lv_at hl 2 rfl) ?_
  obtain ⟨h3, hs⟩ := hs
  refine va_ti hx hb hTt2 hS h3 (v := .int (gWIDTHS a1)) rfl dX0_copyTo_15 ?_
  obtain ⟨h4, hs⟩ := hs
  obtain ⟨h5, hs⟩ := hs
  obtain ⟨h6, hs⟩ := hs
  obtain ⟨h7, hs⟩ := hs
  obtain ⟨h8, hs⟩ := hs
  refine va_copyl hx hb (by rw [hml]; exact hl.1.symm) hown (hts _ mM_RX0_31) (hts _ mcp1) (hts _ mcp2) (hts _ mcp3) hK hP (fA_D hi rfl) hS 2 22 1 1 rfl rfl rfl rfl rfl h4 h5 h6 h7 h8 (fun _ _ => rfl) (Nat.le_of_ble_eq_true rfl) (Nat.le_of_ble_eq_true rfl) dX0_copyTo_16 (fun H locs hP _ hS => ?_)
  have hP : va_P (dC, dI) vwCl (wC ad cI cJ Bc Bl Pk Pr Pl Pc Pm Gf Gt Gx Gd Gm Ek Er Ea Ex Em Eb Et Ss Sm Wg Wr (va_cpy Bc Md (f_X0_home a1 a2).toNatClampNeg (0 : Int32).toNatClampNeg (gWIDTHS a1).toNatClampNeg)) H := hP
  rw [hQ9]
  have hf : f_X0_copyTo a1 a2 Bc Md = (va_cpy Bc Md (f_X0_home a1 a2).toNatClampNeg (0 : Int32).toNatClampNeg (gWIDTHS a1).toNatClampNeg) := by simp only [f_X0_copyTo]
  exact W.vret hx hb hr (fun t ht hW => ⟨⟨(), rfl, True.intro, by rw [hf]; show va_P (dC, dI) vwCl _ t.heap; rw [ht]; exact hP⟩, hS.F ht⟩) hS.2.2 dX0_copyTo_19
theorem q_X0_copyTo {p : Program} {l : Launch} {e : Env} {R : Room} {s : State} {m : MethodId} {args : Array Value} {below : List Frame} {meth : Method} {c : Code} {H : Heap} {locs : List Loc} {cells slots : Nat} {Q : State → Prop} {pc : Nat} {ls : Array Slot} {rest : List Value} {cc : ByteArray} {nL idx : Nat} {own : String} {A0 : Nat → Prop} {dC : Nat → ClassId} {dI : Nat → Nat → Nat} {cI cJ : ClassId} {ad : Nat → Nat} {Bc : Nat → Int64} {Bl : Nat → Int32} {Pk : Nat → Int32} {Pr : Nat → Int32} {Pl : Nat → Int32} {Pc : Nat → Int64} {Pm : Int32} {Gf : Nat → Int32} {Gt : Nat → Int32} {Gx : Nat → Int32} {Gd : Int32} {Gm : Int32} {Ek : Nat → Int32} {Er : Nat → Int32} {Ea : Nat → Int32} {Ex : Nat → Int32} {Em : Int32} {Eb : Int32} {Et : Int32} {Ss : Nat → Int32} {Sm : Int32} {Wg : Nat → Int64} {Wr : Nat → Int64} {Md : Nat → Int64} (hx : p.tables.exec = Jvm.exec) (hb : c.code = cc) (hml : c.maxLocals = nL) (hown : s.vm.findClass own = some m.cls) (hts : ∀ w ∈ bigW, w.before args s = true) (hlk : Cond.methodLink own idx yX0_copyTo ∈ bigW) (hR : 2 ≤ R.frames ∧ 83 ≤ R.locals) (hf : cells + 0 ≤ R.cells ∧ slots + 0 ≤ R.slots) (hz : ls.size = nL) (hw : (rest.map fun v => v.category).sum ≤ 8) (hS : va_S A0 s.heap H locs) (hd : decode cc pc = .ok (.invokevirtual idx, 3)) (hA : ∀ q, fA 23 ad H.size q → A0 q) (hi : fI 23 ad) (hK : va_K (dC, dI) vwCl [(cI, .int), (cJ, .long)] s) (hP : va_P (dC, dI) vwCl (wC ad cI cJ Bc Bl Pk Pr Pl Pc Pm Gf Gt Gx Gd Gm Ek Er Ea Ex Em Eb Et Ss Sm Wg Wr Md) H) (hC : cxt A0 s s.heap) (a1 : Int32) (a2 : Int32) (hs : S_X0_copyTo a1 a2 Bc Md)  (u : (Nat → Int64)) (hu : u = f_X0_copyTo a1 a2 Bc Md) (k : ∀ (H1 : Heap) (locs1 : List Loc), va_P (dC, dI) vwCl (wC ad cI cJ Bc Bl Pk Pr Pl Pc Pm Gf Gt Gx Gd Gm Ek Er Ea Ex Em Eb Et Ss Sm Wg Wr u) H1 → va_S A0 s.heap H1 locs1 → W p l e R s m args below meth c H1 locs1 (cells + 0) (slots + 0) Q (F0 m (pc + 3) ls (rest))) : W p l e R s m args below meth c H locs cells slots Q (F0 m pc ls (.int a2 :: .int a1 :: .ref (ad 22) :: .ref (ad 1) :: rest)) := by
  subst hu
  exact va_callv (va_runV (As := [.ref (ad 22), .int a1, .int a2]) (rest := rest) ⟨hx, hb, hml, hown, hts⟩ (c_X0_copyTo l dC dI cI cJ ad hi H.size Bc Bl Pk Pr Pl Pc Pm Gf Gt Gx Gd Gm Ek Er Ea Ex Em Eb Et Ss Sm Wg Wr Md a1 a2 hs) (kV 3 hts hlk mI_X0_copyTo mN_RX0 mY_X0_copyTo mV_X0_copyTo rfl rfl (by decide +kernel) hR) ⟨fun a U g mk q => ⟨q.1, q.2.1, q.2.2.1, va_K.moved (u := U) (U := U.calling g mk a) (Vm.Alike.refl U.vm) q.2.2.2.1, q.2.2.2.2.call⟩, va_recv hK hP (ci := 2) (q0 := 1) rfl rfl, fun U hU hW => ⟨rfl, by rw [hU], by rw [hU]; exact hP, va_K.moved hW.alike hK, by have h9 := hC.here hS hU hW hA; exact h9⟩⟩ rfl rfl hz rfl (lv_room hw) hd hf) hS (fun q _ h => hA q h) (fun q h => hA q h) (fun u t H1 locs1 ht hvm hw9 hB hz1 hk1 hS1 => by
    skip
    exact k H1 locs1 (by rw [← ht]; exact hB) hS1)

def f_X0_copyFromM (a1 : Int32) (a2 : Int32) (a3 : Int32) (Bc : Nat → Int64) (Md : Nat → Int64) : (Nat → Int64) := (va_cpy Md Bc a1.toNatClampNeg (f_X0_home a2 a3).toNatClampNeg (gWIDTHS a2).toNatClampNeg)
def S_X0_copyFromM (a1 : Int32) (a2 : Int32) (a3 : Int32) (Bc : Nat → Int64) (Md : Nat → Int64) : Prop := (S_X0_home a2 a3) ∧ ((vp_in a2 5) ∧ ((¬ a1 < 0) ∧ ((¬ (f_X0_home a2 a3) < 0) ∧ ((¬ (gWIDTHS a2) < 0) ∧ ((a1.toNatClampNeg + (gWIDTHS a2).toNatClampNeg ≤ 21) ∧ (((f_X0_home a2 a3).toNatClampNeg + (gWIDTHS a2).toNatClampNeg ≤ 928) ∧ (True)))))))
set_option maxHeartbeats 4000000 in
set_option maxRecDepth 100000 in
theorem c_X0_copyFromM (l : Launch) (dC : Nat → ClassId) (dI : Nat → Nat → Nat) (cI cJ : ClassId) (ad : Nat → Nat) (hi : fI 23 ad) (sz : Nat) (Bc : Nat → Int64) (Bl : Nat → Int32) (Pk : Nat → Int32) (Pr : Nat → Int32) (Pl : Nat → Int32) (Pc : Nat → Int64) (Pm : Int32) (Gf : Nat → Int32) (Gt : Nat → Int32) (Gx : Nat → Int32) (Gd : Int32) (Gm : Int32) (Ek : Nat → Int32) (Er : Nat → Int32) (Ea : Nat → Int32) (Ex : Nat → Int32) (Em : Int32) (Eb : Int32) (Et : Int32) (Ss : Nat → Int32) (Sm : Int32) (Wg : Nat → Int64) (Wr : Nat → Int64) (Md : Nat → Int64) (a1 : Int32) (a2 : Int32) (a3 : Int32) (hs : S_X0_copyFromM a1 a2 a3 Bc Md) : Met l yX0_copyFrom (mW yX0_copyFrom cX0_copyFrom 5 none) { frames := 1, cells := 0, slots := 0, locals := 60 } (va_Pc [.ref (ad 1), .ref (ad 22), .int a1, .int a2, .int a3] (fun U => U.heap.size = sz ∧ va_P (dC, dI) vwCl (wC ad cI cJ Bc Bl Pk Pr Pl Pc Pm Gf Gt Gx Gd Gm Ek Er Ea Ex Em Eb Et Ss Sm Wg Wr Md) U.heap ∧ va_K (dC, dI) vwCl [(cI, .int), (cJ, .long)] U ∧ cxt (fA 23 ad sz) U U.heap)) (va_Qv (fun (_ : Unit) => True) (fun _ t => va_P (dC, dI) vwCl (wC ad cI cJ (f_X0_copyFromM a1 a2 a3 Bc Md) Bl Pk Pr Pl Pc Pm Gf Gt Gx Gd Gm Ek Er Ea Ex Em Eb Et Ss Sm Wg Wr Md) t.heap) (fA 23 ad sz)) 0 0 (fA 23 ad sz) := by
  refine Met.ofW (cc := cX0_copyFrom) (maxL := 5) (ret := none) (by decide) rfl ?_
  intro p e s m args below meth c s₁ B hml hv
  obtain ⟨rfl, hsz, hP, hK, hC⟩ := hv
  have hx := B.exec
  have hb := B.bytes
  have hr := B.returns
  have hts := mW_hts (atoms_spec (ws := (mW yX0_copyFrom cX0_copyFrom 5 none)) B.pre)
  have hown : s.vm.findClass RX0 = some m.cls := findClass_of_methodNamed B.named
  have hlocks := B.notSynchronized
  subst hsz
  have hA : ∀ (n : Nat) (q : Nat), s.heap.size ≤ n → n ≤ q → fA 23 ad s.heap.size q := fun n q h1 h2 => Or.inr (Nat.le_trans h1 h2)
  have hS : va_S (fA 23 ad s.heap.size) s.heap s.heap [] := va_S.rf
  have hA : ∀ q, s.heap.size ≤ q → (fA 23 ad s.heap.size) q := fun q h => Or.inr h
  unfold S_X0_copyFromM at hs
  have hl := lv_entry ([.ref (ad 1), .ref (ad 22), .int a1, .int a2, .int a3]) (n := 5) (Nat.le_of_ble_eq_true rfl)
  rw [lg_entry_eq]
  generalize (lg_sl ([.ref (ad 1), .ref (ad 22), .int a1, .int a2, .int a3]) ++ List.replicate (5 - (lg_sl ([.ref (ad 1), .ref (ad 22), .int a1, .int a2, .int a3])).length) Slot.unset).toArray = ls at hl ⊢
  have hl : lv_has ls 5 [(0, .ref (ad 1)), (1, .ref (ad 22)), (2, .int a1), (3, .int a2), (4, .int a3)] := hl
  refine W_gen (fun Q9 hQ9 => ?_)
  refine lv_aload_n hx hb dX0_copyFrom_0 rfl (lv_at hl 1 rfl) ?_
  refine lv_iload_n hx hb dX0_copyFrom_1 rfl (lv_at hl 2 rfl) ?_
  refine lv_aload_n hx hb dX0_copyFrom_2 rfl (lv_at hl 0 rfl) ?_
  refine va_get (D := (dC, dI)) (ci := 2) (v := .ref (ad 2)) (C := RX0) (T := TX0) (N := 2) hx hb hts iW_X0 hown hK hP 1 rfl rfl 0 (by decide) (hts _ mF_RX0_9) (fun _ h9 => h9) rfl dX0_copyFrom_3 ?_
  refine lv_iload_n hx hb dX0_copyFrom_6 rfl (lv_at hl 3 rfl) ?_
  refine lv_iload hx hb dX0_copyFrom_7 (lv_at hl 4 rfl) ?_
  obtain ⟨h1, hs⟩ := hs
  refine q_X0_home hx hb hml hown hts mM_RX0_19 ⟨Nat.le_of_ble_eq_true rfl, Nat.le_of_ble_eq_true rfl⟩ ⟨Nat.le_of_ble_eq_true rfl, Nat.le_of_ble_eq_true rfl⟩ hl.1 (Nat.le_of_ble_eq_true rfl) hS dX0_copyFrom_9 hA hC a2 a3 h1 (fun locs hS => ?_)
  obtain ⟨t2, hZt2, hTt2⟩ := hC.2.2.2.1
  refine va_getsN hx hb hZt2 hS hown (va_Nw.use rfl hC.2.2.2.2.2.2.1.2.1) (fun _ h9 => h9) dX0_copyFrom_12 ?_
  refine lv_iload_n hx hb dX0_copyFrom_15 rfl (lv_at hl 3 rfl) ?_
  obtain ⟨h3, hs⟩ := hs
  refine va_ti hx hb hTt2 hS h3 (v := .int (gWIDTHS a2)) rfl dX0_copyFrom_16 ?_
  obtain ⟨h4, hs⟩ := hs
  obtain ⟨h5, hs⟩ := hs
  obtain ⟨h6, hs⟩ := hs
  obtain ⟨h7, hs⟩ := hs
  obtain ⟨h8, hs⟩ := hs
  refine va_copyl hx hb (by rw [hml]; exact hl.1.symm) hown (hts _ mM_RX0_31) (hts _ mcp1) (hts _ mcp2) (hts _ mcp3) hK hP (fA_D hi rfl) hS 22 2 1 1 rfl rfl rfl rfl rfl h4 h5 h6 h7 h8 (fun _ _ => rfl) (Nat.le_of_ble_eq_true rfl) (Nat.le_of_ble_eq_true rfl) dX0_copyFrom_17 (fun H locs hP _ hS => ?_)
  have hP : va_P (dC, dI) vwCl (wC ad cI cJ (va_cpy Md Bc a1.toNatClampNeg (f_X0_home a2 a3).toNatClampNeg (gWIDTHS a2).toNatClampNeg) Bl Pk Pr Pl Pc Pm Gf Gt Gx Gd Gm Ek Er Ea Ex Em Eb Et Ss Sm Wg Wr Md) H := hP
  rw [hQ9]
  have hf : f_X0_copyFromM a1 a2 a3 Bc Md = (va_cpy Md Bc a1.toNatClampNeg (f_X0_home a2 a3).toNatClampNeg (gWIDTHS a2).toNatClampNeg) := by simp only [f_X0_copyFromM]
  exact W.vret hx hb hr (fun t ht hW => ⟨⟨(), rfl, True.intro, by rw [hf]; show va_P (dC, dI) vwCl _ t.heap; rw [ht]; exact hP⟩, hS.F ht⟩) hS.2.2 dX0_copyFrom_20
theorem q_X0_copyFromM {p : Program} {l : Launch} {e : Env} {R : Room} {s : State} {m : MethodId} {args : Array Value} {below : List Frame} {meth : Method} {c : Code} {H : Heap} {locs : List Loc} {cells slots : Nat} {Q : State → Prop} {pc : Nat} {ls : Array Slot} {rest : List Value} {cc : ByteArray} {nL idx : Nat} {own : String} {A0 : Nat → Prop} {dC : Nat → ClassId} {dI : Nat → Nat → Nat} {cI cJ : ClassId} {ad : Nat → Nat} {Bc : Nat → Int64} {Bl : Nat → Int32} {Pk : Nat → Int32} {Pr : Nat → Int32} {Pl : Nat → Int32} {Pc : Nat → Int64} {Pm : Int32} {Gf : Nat → Int32} {Gt : Nat → Int32} {Gx : Nat → Int32} {Gd : Int32} {Gm : Int32} {Ek : Nat → Int32} {Er : Nat → Int32} {Ea : Nat → Int32} {Ex : Nat → Int32} {Em : Int32} {Eb : Int32} {Et : Int32} {Ss : Nat → Int32} {Sm : Int32} {Wg : Nat → Int64} {Wr : Nat → Int64} {Md : Nat → Int64} (hx : p.tables.exec = Jvm.exec) (hb : c.code = cc) (hml : c.maxLocals = nL) (hown : s.vm.findClass own = some m.cls) (hts : ∀ w ∈ bigW, w.before args s = true) (hlk : Cond.methodLink own idx yX0_copyFrom ∈ bigW) (hR : 2 ≤ R.frames ∧ 84 ≤ R.locals) (hf : cells + 0 ≤ R.cells ∧ slots + 0 ≤ R.slots) (hz : ls.size = nL) (hw : (rest.map fun v => v.category).sum ≤ 8) (hS : va_S A0 s.heap H locs) (hd : decode cc pc = .ok (.invokevirtual idx, 3)) (hA : ∀ q, fA 23 ad H.size q → A0 q) (hi : fI 23 ad) (hK : va_K (dC, dI) vwCl [(cI, .int), (cJ, .long)] s) (hP : va_P (dC, dI) vwCl (wC ad cI cJ Bc Bl Pk Pr Pl Pc Pm Gf Gt Gx Gd Gm Ek Er Ea Ex Em Eb Et Ss Sm Wg Wr Md) H) (hC : cxt A0 s s.heap) (a1 : Int32) (a2 : Int32) (a3 : Int32) (hs : S_X0_copyFromM a1 a2 a3 Bc Md)  (u : (Nat → Int64)) (hu : u = f_X0_copyFromM a1 a2 a3 Bc Md) (k : ∀ (H1 : Heap) (locs1 : List Loc), va_P (dC, dI) vwCl (wC ad cI cJ u Bl Pk Pr Pl Pc Pm Gf Gt Gx Gd Gm Ek Er Ea Ex Em Eb Et Ss Sm Wg Wr Md) H1 → va_S A0 s.heap H1 locs1 → W p l e R s m args below meth c H1 locs1 (cells + 0) (slots + 0) Q (F0 m (pc + 3) ls (rest))) : W p l e R s m args below meth c H locs cells slots Q (F0 m pc ls (.int a3 :: .int a2 :: .int a1 :: .ref (ad 22) :: .ref (ad 1) :: rest)) := by
  subst hu
  exact va_callv (va_runV (As := [.ref (ad 22), .int a1, .int a2, .int a3]) (rest := rest) ⟨hx, hb, hml, hown, hts⟩ (c_X0_copyFromM l dC dI cI cJ ad hi H.size Bc Bl Pk Pr Pl Pc Pm Gf Gt Gx Gd Gm Ek Er Ea Ex Em Eb Et Ss Sm Wg Wr Md a1 a2 a3 hs) (kV 4 hts hlk mI_X0_copyFrom mN_RX0 mY_X0_copyFrom mV_X0_copyFrom rfl rfl (by decide +kernel) hR) ⟨fun a U g mk q => ⟨q.1, q.2.1, q.2.2.1, va_K.moved (u := U) (U := U.calling g mk a) (Vm.Alike.refl U.vm) q.2.2.2.1, q.2.2.2.2.call⟩, va_recv hK hP (ci := 2) (q0 := 1) rfl rfl, fun U hU hW => ⟨rfl, by rw [hU], by rw [hU]; exact hP, va_K.moved hW.alike hK, by have h9 := hC.here hS hU hW hA; exact h9⟩⟩ rfl rfl hz rfl (lv_room hw) hd hf) hS (fun q _ h => hA q h) (fun q h => hA q h) (fun u t H1 locs1 ht hvm hw9 hB hz1 hk1 hS1 => by
    skip
    exact k H1 locs1 (by rw [← ht]; exact hB) hS1)

def f_X0_copyFromP (a1 : Int32) (a2 : Int32) (a3 : Int32) (Bc : Nat → Int64) (Pc : Nat → Int64) : (Nat → Int64) := (va_cpy Pc Bc a1.toNatClampNeg (f_X0_home a2 a3).toNatClampNeg (gWIDTHS a2).toNatClampNeg)
def S_X0_copyFromP (a1 : Int32) (a2 : Int32) (a3 : Int32) (Bc : Nat → Int64) (Pc : Nat → Int64) : Prop := (S_X0_home a2 a3) ∧ ((vp_in a2 5) ∧ ((¬ a1 < 0) ∧ ((¬ (f_X0_home a2 a3) < 0) ∧ ((¬ (gWIDTHS a2) < 0) ∧ ((a1.toNatClampNeg + (gWIDTHS a2).toNatClampNeg ≤ 4200) ∧ (((f_X0_home a2 a3).toNatClampNeg + (gWIDTHS a2).toNatClampNeg ≤ 928) ∧ (True)))))))
set_option maxHeartbeats 4000000 in
set_option maxRecDepth 100000 in
theorem c_X0_copyFromP (l : Launch) (dC : Nat → ClassId) (dI : Nat → Nat → Nat) (cI cJ : ClassId) (ad : Nat → Nat) (hi : fI 23 ad) (sz : Nat) (Bc : Nat → Int64) (Bl : Nat → Int32) (Pk : Nat → Int32) (Pr : Nat → Int32) (Pl : Nat → Int32) (Pc : Nat → Int64) (Pm : Int32) (Gf : Nat → Int32) (Gt : Nat → Int32) (Gx : Nat → Int32) (Gd : Int32) (Gm : Int32) (Ek : Nat → Int32) (Er : Nat → Int32) (Ea : Nat → Int32) (Ex : Nat → Int32) (Em : Int32) (Eb : Int32) (Et : Int32) (Ss : Nat → Int32) (Sm : Int32) (Wg : Nat → Int64) (Wr : Nat → Int64) (Md : Nat → Int64) (a1 : Int32) (a2 : Int32) (a3 : Int32) (hs : S_X0_copyFromP a1 a2 a3 Bc Pc) : Met l yX0_copyFrom (mW yX0_copyFrom cX0_copyFrom 5 none) { frames := 1, cells := 0, slots := 0, locals := 60 } (va_Pc [.ref (ad 1), .ref (ad 8), .int a1, .int a2, .int a3] (fun U => U.heap.size = sz ∧ va_P (dC, dI) vwCl (wC ad cI cJ Bc Bl Pk Pr Pl Pc Pm Gf Gt Gx Gd Gm Ek Er Ea Ex Em Eb Et Ss Sm Wg Wr Md) U.heap ∧ va_K (dC, dI) vwCl [(cI, .int), (cJ, .long)] U ∧ cxt (fA 23 ad sz) U U.heap)) (va_Qv (fun (_ : Unit) => True) (fun _ t => va_P (dC, dI) vwCl (wC ad cI cJ (f_X0_copyFromP a1 a2 a3 Bc Pc) Bl Pk Pr Pl Pc Pm Gf Gt Gx Gd Gm Ek Er Ea Ex Em Eb Et Ss Sm Wg Wr Md) t.heap) (fA 23 ad sz)) 0 0 (fA 23 ad sz) := by
  refine Met.ofW (cc := cX0_copyFrom) (maxL := 5) (ret := none) (by decide) rfl ?_
  intro p e s m args below meth c s₁ B hml hv
  obtain ⟨rfl, hsz, hP, hK, hC⟩ := hv
  have hx := B.exec
  have hb := B.bytes
  have hr := B.returns
  have hts := mW_hts (atoms_spec (ws := (mW yX0_copyFrom cX0_copyFrom 5 none)) B.pre)
  have hown : s.vm.findClass RX0 = some m.cls := findClass_of_methodNamed B.named
  have hlocks := B.notSynchronized
  subst hsz
  have hA : ∀ (n : Nat) (q : Nat), s.heap.size ≤ n → n ≤ q → fA 23 ad s.heap.size q := fun n q h1 h2 => Or.inr (Nat.le_trans h1 h2)
  have hS : va_S (fA 23 ad s.heap.size) s.heap s.heap [] := va_S.rf
  have hA : ∀ q, s.heap.size ≤ q → (fA 23 ad s.heap.size) q := fun q h => Or.inr h
  unfold S_X0_copyFromP at hs
  have hl := lv_entry ([.ref (ad 1), .ref (ad 8), .int a1, .int a2, .int a3]) (n := 5) (Nat.le_of_ble_eq_true rfl)
  rw [lg_entry_eq]
  generalize (lg_sl ([.ref (ad 1), .ref (ad 8), .int a1, .int a2, .int a3]) ++ List.replicate (5 - (lg_sl ([.ref (ad 1), .ref (ad 8), .int a1, .int a2, .int a3])).length) Slot.unset).toArray = ls at hl ⊢
  have hl : lv_has ls 5 [(0, .ref (ad 1)), (1, .ref (ad 8)), (2, .int a1), (3, .int a2), (4, .int a3)] := hl
  refine W_gen (fun Q9 hQ9 => ?_)
  refine lv_aload_n hx hb dX0_copyFrom_0 rfl (lv_at hl 1 rfl) ?_
  refine lv_iload_n hx hb dX0_copyFrom_1 rfl (lv_at hl 2 rfl) ?_
  refine lv_aload_n hx hb dX0_copyFrom_2 rfl (lv_at hl 0 rfl) ?_
  refine va_get (D := (dC, dI)) (ci := 2) (v := .ref (ad 2)) (C := RX0) (T := TX0) (N := 2) hx hb hts iW_X0 hown hK hP 1 rfl rfl 0 (by decide) (hts _ mF_RX0_9) (fun _ h9 => h9) rfl dX0_copyFrom_3 ?_
  refine lv_iload_n hx hb dX0_copyFrom_6 rfl (lv_at hl 3 rfl) ?_
  refine lv_iload hx hb dX0_copyFrom_7 (lv_at hl 4 rfl) ?_
  obtain ⟨h1, hs⟩ := hs
  refine q_X0_home hx hb hml hown hts mM_RX0_19 ⟨Nat.le_of_ble_eq_true rfl, Nat.le_of_ble_eq_true rfl⟩ ⟨Nat.le_of_ble_eq_true rfl, Nat.le_of_ble_eq_true rfl⟩ hl.1 (Nat.le_of_ble_eq_true rfl) hS dX0_copyFrom_9 hA hC a2 a3 h1 (fun locs hS => ?_)
  obtain ⟨t2, hZt2, hTt2⟩ := hC.2.2.2.1
  refine va_getsN hx hb hZt2 hS hown (va_Nw.use rfl hC.2.2.2.2.2.2.1.2.1) (fun _ h9 => h9) dX0_copyFrom_12 ?_
  refine lv_iload_n hx hb dX0_copyFrom_15 rfl (lv_at hl 3 rfl) ?_
  obtain ⟨h3, hs⟩ := hs
  refine va_ti hx hb hTt2 hS h3 (v := .int (gWIDTHS a2)) rfl dX0_copyFrom_16 ?_
  obtain ⟨h4, hs⟩ := hs
  obtain ⟨h5, hs⟩ := hs
  obtain ⟨h6, hs⟩ := hs
  obtain ⟨h7, hs⟩ := hs
  obtain ⟨h8, hs⟩ := hs
  refine va_copyl hx hb (by rw [hml]; exact hl.1.symm) hown (hts _ mM_RX0_31) (hts _ mcp1) (hts _ mcp2) (hts _ mcp3) hK hP (fA_D hi rfl) hS 8 2 1 1 rfl rfl rfl rfl rfl h4 h5 h6 h7 h8 (fun _ _ => rfl) (Nat.le_of_ble_eq_true rfl) (Nat.le_of_ble_eq_true rfl) dX0_copyFrom_17 (fun H locs hP _ hS => ?_)
  have hP : va_P (dC, dI) vwCl (wC ad cI cJ (va_cpy Pc Bc a1.toNatClampNeg (f_X0_home a2 a3).toNatClampNeg (gWIDTHS a2).toNatClampNeg) Bl Pk Pr Pl Pc Pm Gf Gt Gx Gd Gm Ek Er Ea Ex Em Eb Et Ss Sm Wg Wr Md) H := hP
  rw [hQ9]
  have hf : f_X0_copyFromP a1 a2 a3 Bc Pc = (va_cpy Pc Bc a1.toNatClampNeg (f_X0_home a2 a3).toNatClampNeg (gWIDTHS a2).toNatClampNeg) := by simp only [f_X0_copyFromP]
  exact W.vret hx hb hr (fun t ht hW => ⟨⟨(), rfl, True.intro, by rw [hf]; show va_P (dC, dI) vwCl _ t.heap; rw [ht]; exact hP⟩, hS.F ht⟩) hS.2.2 dX0_copyFrom_20
theorem q_X0_copyFromP {p : Program} {l : Launch} {e : Env} {R : Room} {s : State} {m : MethodId} {args : Array Value} {below : List Frame} {meth : Method} {c : Code} {H : Heap} {locs : List Loc} {cells slots : Nat} {Q : State → Prop} {pc : Nat} {ls : Array Slot} {rest : List Value} {cc : ByteArray} {nL idx : Nat} {own : String} {A0 : Nat → Prop} {dC : Nat → ClassId} {dI : Nat → Nat → Nat} {cI cJ : ClassId} {ad : Nat → Nat} {Bc : Nat → Int64} {Bl : Nat → Int32} {Pk : Nat → Int32} {Pr : Nat → Int32} {Pl : Nat → Int32} {Pc : Nat → Int64} {Pm : Int32} {Gf : Nat → Int32} {Gt : Nat → Int32} {Gx : Nat → Int32} {Gd : Int32} {Gm : Int32} {Ek : Nat → Int32} {Er : Nat → Int32} {Ea : Nat → Int32} {Ex : Nat → Int32} {Em : Int32} {Eb : Int32} {Et : Int32} {Ss : Nat → Int32} {Sm : Int32} {Wg : Nat → Int64} {Wr : Nat → Int64} {Md : Nat → Int64} (hx : p.tables.exec = Jvm.exec) (hb : c.code = cc) (hml : c.maxLocals = nL) (hown : s.vm.findClass own = some m.cls) (hts : ∀ w ∈ bigW, w.before args s = true) (hlk : Cond.methodLink own idx yX0_copyFrom ∈ bigW) (hR : 2 ≤ R.frames ∧ 84 ≤ R.locals) (hf : cells + 0 ≤ R.cells ∧ slots + 0 ≤ R.slots) (hz : ls.size = nL) (hw : (rest.map fun v => v.category).sum ≤ 8) (hS : va_S A0 s.heap H locs) (hd : decode cc pc = .ok (.invokevirtual idx, 3)) (hA : ∀ q, fA 23 ad H.size q → A0 q) (hi : fI 23 ad) (hK : va_K (dC, dI) vwCl [(cI, .int), (cJ, .long)] s) (hP : va_P (dC, dI) vwCl (wC ad cI cJ Bc Bl Pk Pr Pl Pc Pm Gf Gt Gx Gd Gm Ek Er Ea Ex Em Eb Et Ss Sm Wg Wr Md) H) (hC : cxt A0 s s.heap) (a1 : Int32) (a2 : Int32) (a3 : Int32) (hs : S_X0_copyFromP a1 a2 a3 Bc Pc)  (u : (Nat → Int64)) (hu : u = f_X0_copyFromP a1 a2 a3 Bc Pc) (k : ∀ (H1 : Heap) (locs1 : List Loc), va_P (dC, dI) vwCl (wC ad cI cJ u Bl Pk Pr Pl Pc Pm Gf Gt Gx Gd Gm Ek Er Ea Ex Em Eb Et Ss Sm Wg Wr Md) H1 → va_S A0 s.heap H1 locs1 → W p l e R s m args below meth c H1 locs1 (cells + 0) (slots + 0) Q (F0 m (pc + 3) ls (rest))) : W p l e R s m args below meth c H locs cells slots Q (F0 m pc ls (.int a3 :: .int a2 :: .int a1 :: .ref (ad 8) :: .ref (ad 1) :: rest)) := by
  subst hu
  exact va_callv (va_runV (As := [.ref (ad 8), .int a1, .int a2, .int a3]) (rest := rest) ⟨hx, hb, hml, hown, hts⟩ (c_X0_copyFromP l dC dI cI cJ ad hi H.size Bc Bl Pk Pr Pl Pc Pm Gf Gt Gx Gd Gm Ek Er Ea Ex Em Eb Et Ss Sm Wg Wr Md a1 a2 a3 hs) (kV 4 hts hlk mI_X0_copyFrom mN_RX0 mY_X0_copyFrom mV_X0_copyFrom rfl rfl (by decide +kernel) hR) ⟨fun a U g mk q => ⟨q.1, q.2.1, q.2.2.1, va_K.moved (u := U) (U := U.calling g mk a) (Vm.Alike.refl U.vm) q.2.2.2.1, q.2.2.2.2.call⟩, va_recv hK hP (ci := 2) (q0 := 1) rfl rfl, fun U hU hW => ⟨rfl, by rw [hU], by rw [hU]; exact hP, va_K.moved hW.alike hK, by have h9 := hC.here hS hU hW hA; exact h9⟩⟩ rfl rfl hz rfl (lv_room hw) hd hf) hS (fun q _ h => hA q h) (fun q h => hA q h) (fun u t H1 locs1 ht hvm hw9 hB hz1 hk1 hS1 => by
    skip
    exact k H1 locs1 (by rw [← ht]; exact hB) hS1)

theorem nb_within (v a b : Int64) : narrow .boolean (.int (f_X5_within v a b)) = .int (f_X5_within v a b) := by unfold f_X5_within; exact nb_if rfl (nb_if rfl rfl)

def f_X5_isCount (a0 : Int64) : Int32 := (f_X5_within a0 (-2147483647 : Int64) (2147483647 : Int64))
set_option maxHeartbeats 4000000 in
set_option maxRecDepth 100000 in
theorem c_X5_isCount (l : Launch) (hp : Heap) (a0 : Int64) : Met l yX5_isCount (mW yX5_isCount cX5_isCount 2 (some .boolean)) { frames := 1, cells := 0, slots := 0, locals := 25 } (va_Pc [.long a0] (fun U => U.heap = hp)) (va_Qi (fun (r : Int32) (_ : Unit) => r = f_X5_isCount a0) (fun _ t => t.heap = hp) (fun q : Nat => hp.size ≤ q)) 0 0 (fun q : Nat => hp.size ≤ q) := by
  refine Met.ofW (cc := cX5_isCount) (maxL := 2) (ret := (some .boolean)) (by decide) rfl ?_
  intro p e s m args below meth c s₁ B hml hv
  obtain ⟨rfl, hh⟩ := hv
  have hx := B.exec
  have hb := B.bytes
  have hr := B.returns
  have hts := mW_hts (atoms_spec (ws := (mW yX5_isCount cX5_isCount 2 (some .boolean))) B.pre)
  have hown : s.vm.findClass RX5 = some m.cls := findClass_of_methodNamed B.named
  have hlocks := B.notSynchronized
  subst hh
  have hA : ∀ (n : Nat) (q : Nat), s.heap.size ≤ n → n ≤ q → s.heap.size ≤ q := fun n q h1 h2 => Nat.le_trans h1 h2
  have hS : va_S ((fun q : Nat => s.heap.size ≤ q)) s.heap s.heap [] := va_S.rf
  have hA : ∀ q, s.heap.size ≤ q → ((fun q : Nat => s.heap.size ≤ q)) q := fun q h => h
  have hl := lv_entry ([.long a0]) (n := 2) (Nat.le_of_ble_eq_true rfl)
  rw [lg_entry_eq]
  generalize (lg_sl ([.long a0]) ++ List.replicate (2 - (lg_sl ([.long a0])).length) Slot.unset).toArray = ls at hl ⊢
  have hl : lv_has ls 2 [(0, .long a0)] := hl
  refine W_gen (fun Q9 hQ9 => ?_)
  refine lv_lload_n hx hb dX5_isCount_0 rfl (lv_at hl 0 rfl) ?_
  refine lv_ldc2 hx hb hown (hts _ mK_RX5_252) dX5_isCount_1 ?_
  refine lv_ldc2 hx hb hown (hts _ mK_RX5_254) dX5_isCount_4 ?_
  refine q_X5_within hx hb hml hown hts mM_RX5_71 ⟨Nat.le_of_ble_eq_true rfl, Nat.le_of_ble_eq_true rfl⟩ ⟨Nat.le_of_ble_eq_true rfl, Nat.le_of_ble_eq_true rfl⟩ hl.1 (Nat.le_of_ble_eq_true rfl) hS dX5_isCount_7 hA a0 (-2147483647 : Int64) (2147483647 : Int64) (fun locs hS => ?_)
  rw [hQ9]
  have hf : f_X5_isCount a0 = (f_X5_within a0 (-2147483647 : Int64) (2147483647 : Int64)) := by simp only [f_X5_isCount]
  exact W.zret (v := (f_X5_within a0 (-2147483647 : Int64) (2147483647 : Int64))) (ty := .boolean) hx hb hr (nb_within _ _ _) (fun t ht hW => ⟨⟨(f_X5_within a0 (-2147483647 : Int64) (2147483647 : Int64)), (), rfl, by rw [hf], ht⟩, hS.F ht⟩) hS.2.2 dX5_isCount_10
theorem q_X5_isCount {p : Program} {l : Launch} {e : Env} {R : Room} {s : State} {m : MethodId} {args : Array Value} {below : List Frame} {meth : Method} {c : Code} {H : Heap} {locs : List Loc} {cells slots : Nat} {Q : State → Prop} {pc : Nat} {ls : Array Slot} {rest : List Value} {cc : ByteArray} {nL idx : Nat} {own : String} {A0 : Nat → Prop} (hx : p.tables.exec = Jvm.exec) (hb : c.code = cc) (hml : c.maxLocals = nL) (hown : s.vm.findClass own = some m.cls) (hts : ∀ w ∈ bigW, w.before args s = true) (hlk : Cond.methodLink own idx yX5_isCount ∈ bigW) (hR : 2 ≤ R.frames ∧ 46 ≤ R.locals) (hf : cells + 0 ≤ R.cells ∧ slots + 0 ≤ R.slots) (hz : ls.size = nL) (hw : (rest.map fun v => v.category).sum ≤ 8) (hS : va_S A0 s.heap H locs) (hd : decode cc pc = .ok (.invokestatic idx, 3)) (hA : ∀ q, s.heap.size ≤ q → A0 q) (a0 : Int64) (k : ∀ locs, va_S A0 s.heap H locs → W p l e R s m args below meth c H locs cells slots Q (F0 m (pc + 3) ls (.int (f_X5_isCount a0) :: rest))) : W p l e R s m args below meth c H locs cells slots Q (F0 m pc ls (.long a0 :: rest)) :=
  va_calli (va_runS (As := [.long a0]) (rest := rest) ⟨hx, hb, hml, hown, hts⟩ (c_X5_isCount l H a0) (kS 1 hts hlk mS_X5_isCount mN_RX5 mY_X5_isCount rfl rfl (by decide +kernel) hR) ⟨fun a U g mk q => q, fun U hU hW => ⟨rfl, hU⟩⟩ rfl rfl hz rfl (lv_room hw) hd hf) hS (fun q h1 h2 => absurd h1 (Nat.not_lt.mpr h2)) (fun q h => hA q (Nat.le_trans hS.1 h)) (fun r u t H1 locs1 ht hvm hw9 hB hz1 hk1 hS1 => by
    have e : H1 = H := by rw [← ht]; exact hB
    subst e; subst hw9
    exact k locs1 hS1)

def f_X5_isLength (a0 : Int64) : Int32 := (f_X5_within a0 (-1073741823 : Int64) (1073741823 : Int64))
set_option maxHeartbeats 4000000 in
set_option maxRecDepth 100000 in
theorem c_X5_isLength (l : Launch) (hp : Heap) (a0 : Int64) : Met l yX5_isLength (mW yX5_isLength cX5_isLength 2 (some .boolean)) { frames := 1, cells := 0, slots := 0, locals := 25 } (va_Pc [.long a0] (fun U => U.heap = hp)) (va_Qi (fun (r : Int32) (_ : Unit) => r = f_X5_isLength a0) (fun _ t => t.heap = hp) (fun q : Nat => hp.size ≤ q)) 0 0 (fun q : Nat => hp.size ≤ q) := by
  refine Met.ofW (cc := cX5_isLength) (maxL := 2) (ret := (some .boolean)) (by decide) rfl ?_
  intro p e s m args below meth c s₁ B hml hv
  obtain ⟨rfl, hh⟩ := hv
  have hx := B.exec
  have hb := B.bytes
  have hr := B.returns
  have hts := mW_hts (atoms_spec (ws := (mW yX5_isLength cX5_isLength 2 (some .boolean))) B.pre)
  have hown : s.vm.findClass RX5 = some m.cls := findClass_of_methodNamed B.named
  have hlocks := B.notSynchronized
  subst hh
  have hA : ∀ (n : Nat) (q : Nat), s.heap.size ≤ n → n ≤ q → s.heap.size ≤ q := fun n q h1 h2 => Nat.le_trans h1 h2
  have hS : va_S ((fun q : Nat => s.heap.size ≤ q)) s.heap s.heap [] := va_S.rf
  have hA : ∀ q, s.heap.size ≤ q → ((fun q : Nat => s.heap.size ≤ q)) q := fun q h => h
  have hl := lv_entry ([.long a0]) (n := 2) (Nat.le_of_ble_eq_true rfl)
  rw [lg_entry_eq]
  generalize (lg_sl ([.long a0]) ++ List.replicate (2 - (lg_sl ([.long a0])).length) Slot.unset).toArray = ls at hl ⊢
  have hl : lv_has ls 2 [(0, .long a0)] := hl
  refine W_gen (fun Q9 hQ9 => ?_)
  refine lv_lload_n hx hb dX5_isLength_0 rfl (lv_at hl 0 rfl) ?_
  refine lv_ldc2 hx hb hown (hts _ mK_RX5_256) dX5_isLength_1 ?_
  refine lv_ldc2 hx hb hown (hts _ mK_RX5_204) dX5_isLength_4 ?_
  refine q_X5_within hx hb hml hown hts mM_RX5_71 ⟨Nat.le_of_ble_eq_true rfl, Nat.le_of_ble_eq_true rfl⟩ ⟨Nat.le_of_ble_eq_true rfl, Nat.le_of_ble_eq_true rfl⟩ hl.1 (Nat.le_of_ble_eq_true rfl) hS dX5_isLength_7 hA a0 (-1073741823 : Int64) (1073741823 : Int64) (fun locs hS => ?_)
  rw [hQ9]
  have hf : f_X5_isLength a0 = (f_X5_within a0 (-1073741823 : Int64) (1073741823 : Int64)) := by simp only [f_X5_isLength]
  exact W.zret (v := (f_X5_within a0 (-1073741823 : Int64) (1073741823 : Int64))) (ty := .boolean) hx hb hr (nb_within _ _ _) (fun t ht hW => ⟨⟨(f_X5_within a0 (-1073741823 : Int64) (1073741823 : Int64)), (), rfl, by rw [hf], ht⟩, hS.F ht⟩) hS.2.2 dX5_isLength_10
theorem q_X5_isLength {p : Program} {l : Launch} {e : Env} {R : Room} {s : State} {m : MethodId} {args : Array Value} {below : List Frame} {meth : Method} {c : Code} {H : Heap} {locs : List Loc} {cells slots : Nat} {Q : State → Prop} {pc : Nat} {ls : Array Slot} {rest : List Value} {cc : ByteArray} {nL idx : Nat} {own : String} {A0 : Nat → Prop} (hx : p.tables.exec = Jvm.exec) (hb : c.code = cc) (hml : c.maxLocals = nL) (hown : s.vm.findClass own = some m.cls) (hts : ∀ w ∈ bigW, w.before args s = true) (hlk : Cond.methodLink own idx yX5_isLength ∈ bigW) (hR : 2 ≤ R.frames ∧ 46 ≤ R.locals) (hf : cells + 0 ≤ R.cells ∧ slots + 0 ≤ R.slots) (hz : ls.size = nL) (hw : (rest.map fun v => v.category).sum ≤ 8) (hS : va_S A0 s.heap H locs) (hd : decode cc pc = .ok (.invokestatic idx, 3)) (hA : ∀ q, s.heap.size ≤ q → A0 q) (a0 : Int64) (k : ∀ locs, va_S A0 s.heap H locs → W p l e R s m args below meth c H locs cells slots Q (F0 m (pc + 3) ls (.int (f_X5_isLength a0) :: rest))) : W p l e R s m args below meth c H locs cells slots Q (F0 m pc ls (.long a0 :: rest)) :=
  va_calli (va_runS (As := [.long a0]) (rest := rest) ⟨hx, hb, hml, hown, hts⟩ (c_X5_isLength l H a0) (kS 1 hts hlk mS_X5_isLength mN_RX5 mY_X5_isLength rfl rfl (by decide +kernel) hR) ⟨fun a U g mk q => q, fun U hU hW => ⟨rfl, hU⟩⟩ rfl rfl hz rfl (lv_room hw) hd hf) hS (fun q h1 h2 => absurd h1 (Nat.not_lt.mpr h2)) (fun q h => hA q (Nat.le_trans hS.1 h)) (fun r u t H1 locs1 ht hvm hw9 hB hz1 hk1 hS1 => by
    have e : H1 = H := by rw [← ht]; exact hB
    subst e; subst hw9
    exact k locs1 hS1)

def f_X5_checkRegister (a0 : Int64) : Nat := (if (f_X5_within a0 (0 : Int64) (31 : Int64)) = 0 then 2 else 0)
set_option maxHeartbeats 4000000 in
set_option maxRecDepth 100000 in
theorem c_X5_checkRegister (l : Launch) (hst : l.stackTraces = false) (hp : Heap) (a0 : Int64) : vx_Met l yX5_checkRegister (mW yX5_checkRegister cX5_checkRegister 2 none) { frames := 6, cells := 1, slots := 6, locals := 92 } (va_Pc [.long a0] (fun U => U.heap = hp ∧ cxt (fun q : Nat => hp.size ≤ q) U U.heap)) (va_Qv (fun (_ : Unit) => f_X5_checkRegister a0 = 0) (fun _ t => t.heap = hp) (fun q : Nat => hp.size ≤ q)) (vx_X (fun _ : Unit => ¬ f_X5_checkRegister a0 = 0) (fun E _ t => E = exN (f_X5_checkRegister a0) ∧ True) (fun q : Nat => hp.size ≤ q)) 1 6 (fun q : Nat => hp.size ≤ q) := by
  refine vx_ofW (cc := cX5_checkRegister) (maxL := 2) (ret := none) (by decide) rfl ?_
  intro p e s m args below meth c s₁ B hml ht hv
  obtain ⟨rfl, hh, hC⟩ := hv
  have hx := B.exec
  have hb := B.bytes
  have hr := B.returns
  have hts := mW_hts (atoms_spec (ws := (mW yX5_checkRegister cX5_checkRegister 2 none)) B.pre)
  have hown : s.vm.findClass RX5 = some m.cls := findClass_of_methodNamed B.named
  have hlocks := B.notSynchronized
  subst hh
  have hA : ∀ (n : Nat) (q : Nat), s.heap.size ≤ n → n ≤ q → s.heap.size ≤ q := fun n q h1 h2 => Nat.le_trans h1 h2
  have hS : va_S ((fun q : Nat => s.heap.size ≤ q)) s.heap s.heap [] := va_S.rf
  have hA : ∀ q, s.heap.size ≤ q → ((fun q : Nat => s.heap.size ≤ q)) q := fun q h => h
  have hl := lv_entry ([.long a0]) (n := 2) (Nat.le_of_ble_eq_true rfl)
  rw [lg_entry_eq]
  generalize (lg_sl ([.long a0]) ++ List.replicate (2 - (lg_sl ([.long a0])).length) Slot.unset).toArray = ls at hl ⊢
  have hl : lv_has ls 2 [(0, .long a0)] := hl
  refine W_gen (fun Q9 hQ9 => ?_)
  refine lv_lload_n hx hb dX5_checkRegister_0 rfl (lv_at hl 0 rfl) ?_
  refine lv_lconst (v := 0) hx hb dX5_checkRegister_1 (by decide) ?_
  refine lv_ldc2 hx hb hown (hts _ mK_RX5_260) dX5_checkRegister_2 ?_
  refine q_X5_within hx hb hml hown hts mM_RX5_71 ⟨Nat.le_of_ble_eq_true rfl, Nat.le_of_ble_eq_true rfl⟩ ⟨Nat.le_of_ble_eq_true rfl, Nat.le_of_ble_eq_true rfl⟩ hl.1 (Nat.le_of_ble_eq_true rfl) hS dX5_checkRegister_5 hA a0 (0 : Int64) (31 : Int64) (fun locs hS => ?_)
  refine lv_if_ne (tgt := 22) hx hb dX5_checkRegister_8 (by decide) (fun c1 => ?_) (fun c1 => ?_)
  · rw [hQ9]
    have hf : f_X5_checkRegister a0 = 0 := by simp only [f_X5_checkRegister, if_neg c1]
    refine vx_ret ?_
    refine W.widen (k := 1) (n := 6) (Nat.le_of_ble_eq_true rfl) (Nat.le_of_ble_eq_true rfl) ?_
    exact W.vret hx hb hr (fun t ht hW => ⟨⟨(), rfl, by rw [hf], ht⟩, hS.F ht⟩) hS.2.2 dX5_checkRegister_22
  · rw [hQ9]
    have hf : f_X5_checkRegister a0 = 2 := by simp only [f_X5_checkRegister, if_pos c1]
    obtain ⟨sa2, hsa2⟩ := hC.str 5 _ rfl
    refine vx_throwSW (mc := 1) (ms := 6) (ik := 108) (ic := 112) (is := 262) (own := RX5) (cls := x_IOO) (text := "no such REGISTER") (names := x_nam) hx hb hst hown (by decide) nm_x (hts _ mC_RX5_108) (hts _ mN_IndexOutOfBoundsException) hsa2 (xw_IOO hts hC) xg_IOO hC.1 hC.2.1 hS (by rw [hml]; exact hl.1) dX5_checkRegister_11 dX5_checkRegister_14 dX5_checkRegister_15 dX5_checkRegister_18 dX5_checkRegister_21 (fun x hx => (ht x hx).elim) (Nat.le_of_ble_eq_true rfl) (Nat.le_of_ble_eq_true rfl) (Nat.le_of_ble_eq_true rfl) (Nat.le_of_ble_eq_true rfl) hlocks (fun t hv hz hk => ⟨(), by rw [hf]; decide, ⟨by rw [hf]; rfl, True.intro⟩, ⟨Nat.le_trans hS.1 hz, fun q h1 h2 => (hk q (Nat.lt_of_lt_of_le h1 hS.1)).trans (hS.2.1 q h1 h2)⟩⟩) hS.2.2 (Nat.le_of_ble_eq_true rfl) (Nat.le_of_ble_eq_true rfl)
theorem q_X5_checkRegister {p : Program} {l : Launch} {e : Env} {R : Room} {s : State} {m : MethodId} {args : Array Value} {below : List Frame} {meth : Method} {c : Code} {H : Heap} {locs : List Loc} {cells slots : Nat} {Q : State → Prop} {pc : Nat} {ls : Array Slot} {rest : List Value} {cc : ByteArray} {nL idx : Nat} {own : String} {A0 : Nat → Prop} (hst : l.stackTraces = false) (hx : p.tables.exec = Jvm.exec) (hb : c.code = cc) (hml : c.maxLocals = nL) (hown : s.vm.findClass own = some m.cls) (hts : ∀ w ∈ bigW, w.before args s = true) (hlk : Cond.methodLink own idx yX5_checkRegister ∈ bigW) (hR : 7 ≤ R.frames ∧ 113 ≤ R.locals) (hf : cells + 1 ≤ R.cells ∧ slots + 6 ≤ R.slots) (hz : ls.size = nL) (hw : (rest.map fun v => v.category).sum ≤ 8) (hS : va_S A0 s.heap H locs) (hd : decode cc pc = .ok (.invokestatic idx, 3)) (hA : ∀ q, s.heap.size ≤ q → A0 q) (hC : cxt A0 s s.heap) (a0 : Int64) (u : Nat) (hu : u = f_X5_checkRegister a0) (kx : ∀ {E : String} (hE : E = exN u) (ho : ¬ u = 0) (H1 : Heap) (locs1 : List Loc), (∀ q : Nat, q < H.size → H1[q]? = H[q]?) → H.size ≤ H1.size → va_S A0 s.heap H1 locs1 → ∀ (ce : Cell) (q9 : Addr), H1[q9]? = some ce → ce.vm = .none → s.vm.findClass E = some ce.cls → vx_W p l e R s m args below meth c H1 locs1 (cells + 1) (slots + 6) Q (F0 m pc ls rest) q9) (k : u = 0 → ∀ locs, va_S A0 s.heap H locs → W p l e R s m args below meth c H locs (cells + 1) (slots + 6) Q (F0 m (pc + 3) ls (rest))) : W p l e R s m args below meth c H locs cells slots Q (F0 m pc ls (.long a0 :: rest)) := by
  subst hu
  exact vx_callv (vx_runS (As := [.long a0]) (rest := rest) ⟨hx, hb, hml, hown, hts⟩ (c_X5_checkRegister l hst H a0) (kS 1 hts hlk mS_X5_checkRegister mN_RX5 mY_X5_checkRegister rfl rfl (by decide +kernel) hR) ⟨fun a U g mk q => ⟨q.1, q.2.1, q.2.2.call⟩, fun U hU hW => ⟨rfl, hU, hC.here hS hU hW (fun q h => hA q (Nat.le_trans hS.1 h))⟩⟩ rfl rfl hz rfl (lv_room hw) hd hf) hS (fun q h1 h2 => absurd h1 (Nat.not_lt.mpr h2)) (fun q h => hA q (Nat.le_trans hS.1 h)) (fun q h1 h2 => absurd h1 (Nat.not_lt.mpr h2)) (fun E ce q9 u t H1 locs1 ht hvm hw9 hB hz1 hk1 hS1 h1 h2 h3 => kx hB.1 hw9 H1 locs1 (fun q hq => hk1 q hq (Nat.not_le.mpr hq)) hz1 hS1 ce q9 h1 h2 h3) (fun u t H1 locs1 ht hvm hw9 hB hz1 hk1 hS1 => by
    have e : H1 = H := by rw [← ht]; exact hB
    subst e; have e1 := hw9
    exact k e1 locs1 hS1)

def f_X5_checkToken (a0 : Int32) : Nat := (if (f_X5_within a0.toInt64 (0 : Int64) (255 : Int64)) = 0 then 1 else 0)
set_option maxHeartbeats 4000000 in
set_option maxRecDepth 100000 in
theorem c_X5_checkToken (l : Launch) (hst : l.stackTraces = false) (hp : Heap) (a0 : Int32) : vx_Met l yX5_checkToken (mW yX5_checkToken cX5_checkToken 1 none) { frames := 6, cells := 1, slots := 6, locals := 92 } (va_Pc [.int a0] (fun U => U.heap = hp ∧ cxt (fun q : Nat => hp.size ≤ q) U U.heap)) (va_Qv (fun (_ : Unit) => f_X5_checkToken a0 = 0) (fun _ t => t.heap = hp) (fun q : Nat => hp.size ≤ q)) (vx_X (fun _ : Unit => ¬ f_X5_checkToken a0 = 0) (fun E _ t => E = exN (f_X5_checkToken a0) ∧ True) (fun q : Nat => hp.size ≤ q)) 1 6 (fun q : Nat => hp.size ≤ q) := by
  refine vx_ofW (cc := cX5_checkToken) (maxL := 1) (ret := none) (by decide) rfl ?_
  intro p e s m args below meth c s₁ B hml ht hv
  obtain ⟨rfl, hh, hC⟩ := hv
  have hx := B.exec
  have hb := B.bytes
  have hr := B.returns
  have hts := mW_hts (atoms_spec (ws := (mW yX5_checkToken cX5_checkToken 1 none)) B.pre)
  have hown : s.vm.findClass RX5 = some m.cls := findClass_of_methodNamed B.named
  have hlocks := B.notSynchronized
  subst hh
  have hA : ∀ (n : Nat) (q : Nat), s.heap.size ≤ n → n ≤ q → s.heap.size ≤ q := fun n q h1 h2 => Nat.le_trans h1 h2
  have hS : va_S ((fun q : Nat => s.heap.size ≤ q)) s.heap s.heap [] := va_S.rf
  have hA : ∀ q, s.heap.size ≤ q → ((fun q : Nat => s.heap.size ≤ q)) q := fun q h => h
  have hl := lv_entry ([.int a0]) (n := 1) (Nat.le_of_ble_eq_true rfl)
  rw [lg_entry_eq]
  generalize (lg_sl ([.int a0]) ++ List.replicate (1 - (lg_sl ([.int a0])).length) Slot.unset).toArray = ls at hl ⊢
  have hl : lv_has ls 1 [(0, .int a0)] := hl
  refine W_gen (fun Q9 hQ9 => ?_)
  refine lv_iload_n hx hb dX5_checkToken_0 rfl (lv_at hl 0 rfl) ?_
  refine lv_i2l hx hb dX5_checkToken_1 rfl ?_
  refine lv_lconst (v := 0) hx hb dX5_checkToken_2 (by decide) ?_
  refine lv_ldc2 hx hb hown (hts _ mK_RX5_264) dX5_checkToken_3 ?_
  refine q_X5_within hx hb hml hown hts mM_RX5_71 ⟨Nat.le_of_ble_eq_true rfl, Nat.le_of_ble_eq_true rfl⟩ ⟨Nat.le_of_ble_eq_true rfl, Nat.le_of_ble_eq_true rfl⟩ hl.1 (Nat.le_of_ble_eq_true rfl) hS dX5_checkToken_6 hA a0.toInt64 (0 : Int64) (255 : Int64) (fun locs hS => ?_)
  refine lv_if_ne (tgt := 23) hx hb dX5_checkToken_9 (by decide) (fun c1 => ?_) (fun c1 => ?_)
  · rw [hQ9]
    have hf : f_X5_checkToken a0 = 0 := by simp only [f_X5_checkToken, if_neg c1]
    refine vx_ret ?_
    refine W.widen (k := 1) (n := 6) (Nat.le_of_ble_eq_true rfl) (Nat.le_of_ble_eq_true rfl) ?_
    exact W.vret hx hb hr (fun t ht hW => ⟨⟨(), rfl, by rw [hf], ht⟩, hS.F ht⟩) hS.2.2 dX5_checkToken_23
  · rw [hQ9]
    have hf : f_X5_checkToken a0 = 1 := by simp only [f_X5_checkToken, if_pos c1]
    obtain ⟨sa2, hsa2⟩ := hC.str 0 _ rfl
    refine vx_throwSW (mc := 1) (ms := 6) (ik := 62) (ic := 66) (is := 266) (own := RX5) (cls := x_IAE) (text := "no TOKEN") (names := x_nam) hx hb hst hown (by decide) nm_x (hts _ mC_RX5_62) (hts _ mN_IllegalArgumentException) hsa2 (xw_IAE hts hC) xg_IAE hC.1 hC.2.1 hS (by rw [hml]; exact hl.1) dX5_checkToken_12 dX5_checkToken_15 dX5_checkToken_16 dX5_checkToken_19 dX5_checkToken_22 (fun x hx => (ht x hx).elim) (Nat.le_of_ble_eq_true rfl) (Nat.le_of_ble_eq_true rfl) (Nat.le_of_ble_eq_true rfl) (Nat.le_of_ble_eq_true rfl) hlocks (fun t hv hz hk => ⟨(), by rw [hf]; decide, ⟨by rw [hf]; rfl, True.intro⟩, ⟨Nat.le_trans hS.1 hz, fun q h1 h2 => (hk q (Nat.lt_of_lt_of_le h1 hS.1)).trans (hS.2.1 q h1 h2)⟩⟩) hS.2.2 (Nat.le_of_ble_eq_true rfl) (Nat.le_of_ble_eq_true rfl)
theorem q_X5_checkToken {p : Program} {l : Launch} {e : Env} {R : Room} {s : State} {m : MethodId} {args : Array Value} {below : List Frame} {meth : Method} {c : Code} {H : Heap} {locs : List Loc} {cells slots : Nat} {Q : State → Prop} {pc : Nat} {ls : Array Slot} {rest : List Value} {cc : ByteArray} {nL idx : Nat} {own : String} {A0 : Nat → Prop} (hst : l.stackTraces = false) (hx : p.tables.exec = Jvm.exec) (hb : c.code = cc) (hml : c.maxLocals = nL) (hown : s.vm.findClass own = some m.cls) (hts : ∀ w ∈ bigW, w.before args s = true) (hlk : Cond.methodLink own idx yX5_checkToken ∈ bigW) (hR : 7 ≤ R.frames ∧ 112 ≤ R.locals) (hf : cells + 1 ≤ R.cells ∧ slots + 6 ≤ R.slots) (hz : ls.size = nL) (hw : (rest.map fun v => v.category).sum ≤ 8) (hS : va_S A0 s.heap H locs) (hd : decode cc pc = .ok (.invokestatic idx, 3)) (hA : ∀ q, s.heap.size ≤ q → A0 q) (hC : cxt A0 s s.heap) (a0 : Int32) (u : Nat) (hu : u = f_X5_checkToken a0) (kx : ∀ {E : String} (hE : E = exN u) (ho : ¬ u = 0) (H1 : Heap) (locs1 : List Loc), (∀ q : Nat, q < H.size → H1[q]? = H[q]?) → H.size ≤ H1.size → va_S A0 s.heap H1 locs1 → ∀ (ce : Cell) (q9 : Addr), H1[q9]? = some ce → ce.vm = .none → s.vm.findClass E = some ce.cls → vx_W p l e R s m args below meth c H1 locs1 (cells + 1) (slots + 6) Q (F0 m pc ls rest) q9) (k : u = 0 → ∀ locs, va_S A0 s.heap H locs → W p l e R s m args below meth c H locs (cells + 1) (slots + 6) Q (F0 m (pc + 3) ls (rest))) : W p l e R s m args below meth c H locs cells slots Q (F0 m pc ls (.int a0 :: rest)) := by
  subst hu
  exact vx_callv (vx_runS (As := [.int a0]) (rest := rest) ⟨hx, hb, hml, hown, hts⟩ (c_X5_checkToken l hst H a0) (kS 1 hts hlk mS_X5_checkToken mN_RX5 mY_X5_checkToken rfl rfl (by decide +kernel) hR) ⟨fun a U g mk q => ⟨q.1, q.2.1, q.2.2.call⟩, fun U hU hW => ⟨rfl, hU, hC.here hS hU hW (fun q h => hA q (Nat.le_trans hS.1 h))⟩⟩ rfl rfl hz rfl (lv_room hw) hd hf) hS (fun q h1 h2 => absurd h1 (Nat.not_lt.mpr h2)) (fun q h => hA q (Nat.le_trans hS.1 h)) (fun q h1 h2 => absurd h1 (Nat.not_lt.mpr h2)) (fun E ce q9 u t H1 locs1 ht hvm hw9 hB hz1 hk1 hS1 h1 h2 h3 => kx hB.1 hw9 H1 locs1 (fun q hq => hk1 q hq (Nat.not_le.mpr hq)) hz1 hS1 ce q9 h1 h2 h3) (fun u t H1 locs1 ht hvm hw9 hB hz1 hk1 hS1 => by
    have e : H1 = H := by rw [← ht]; exact hB
    subst e; have e1 := hw9
    exact k e1 locs1 hS1)

def f_X5_token (a0 : Int32) (Wr : Nat → Int64) : Nat × Int32 × (Nat → Int64) := (let u1 := f_X5_checkToken a0; (if u1 = 0 then (if (Wr (0 : Int32).toNatClampNeg).toInt32 < 0 then (0, (-1 : Int32), Wr) else (if (Wr (0 : Int32).toNatClampNeg).toInt32 < (20 : Int32) then (0, ((Wr (0 : Int32).toNatClampNeg).toInt32 + (1 : Int32)), (vp_updL (vp_updL Wr ((Wr (0 : Int32).toNatClampNeg).toInt32 + (1 : Int32)).toNatClampNeg a0.toInt64) (0 : Int32).toNatClampNeg ((Wr (0 : Int32).toNatClampNeg).toInt32 + (1 : Int32)).toInt64)) else (0, (-1 : Int32), Wr))) else (u1, 0, Wr)))
def S_X5_token (a0 : Int32) (Wr : Nat → Int64) : Prop := ∀ u1, u1 = f_X5_checkToken a0 → (u1 = 0 → ((vp_in (0 : Int32) 21) ∧ (((Wr (0 : Int32).toNatClampNeg).toInt32 < 0 → (True)) ∧ (¬ (Wr (0 : Int32).toNatClampNeg).toInt32 < 0 → (((Wr (0 : Int32).toNatClampNeg).toInt32 < (20 : Int32) → ((vp_in ((Wr (0 : Int32).toNatClampNeg).toInt32 + (1 : Int32)) 21) ∧ ((vp_in (0 : Int32) 21) ∧ (True)))) ∧ (¬ (Wr (0 : Int32).toNatClampNeg).toInt32 < (20 : Int32) → (True)))))))
set_option maxHeartbeats 4000000 in
set_option maxRecDepth 100000 in
theorem c_X5_token (l : Launch) (hst : l.stackTraces = false) (dC : Nat → ClassId) (dI : Nat → Nat → Nat) (cI cJ : ClassId) (ad : Nat → Nat) (hi : fI 23 ad) (sz : Nat) (Bc : Nat → Int64) (Bl : Nat → Int32) (Pk : Nat → Int32) (Pr : Nat → Int32) (Pl : Nat → Int32) (Pc : Nat → Int64) (Pm : Int32) (Gf : Nat → Int32) (Gt : Nat → Int32) (Gx : Nat → Int32) (Gd : Int32) (Gm : Int32) (Ek : Nat → Int32) (Er : Nat → Int32) (Ea : Nat → Int32) (Ex : Nat → Int32) (Em : Int32) (Eb : Int32) (Et : Int32) (Ss : Nat → Int32) (Sm : Int32) (Wg : Nat → Int64) (Wr : Nat → Int64) (Md : Nat → Int64) (a0 : Int32) (hs : S_X5_token a0 Wr) : vx_Met l yX5_token (mW yX5_token cX5_token 3 (some .int)) { frames := 7, cells := 1, slots := 6, locals := 112 } (va_Pc [.ref (ad 0), .int a0] (fun U => U.heap.size = sz ∧ va_P (dC, dI) vwCl (wC ad cI cJ Bc Bl Pk Pr Pl Pc Pm Gf Gt Gx Gd Gm Ek Er Ea Ex Em Eb Et Ss Sm Wg Wr Md) U.heap ∧ va_K (dC, dI) vwCl [(cI, .int), (cJ, .long)] U ∧ cxt (fA 23 ad sz) U U.heap)) (va_Qi (fun (r : Int32) (_ : Unit) => (f_X5_token a0 Wr).1 = 0 ∧ r = (f_X5_token a0 Wr).2.1) (fun _ t => va_P (dC, dI) vwCl (wC ad cI cJ Bc Bl Pk Pr Pl Pc Pm Gf Gt Gx Gd Gm Ek Er Ea Ex Em Eb Et Ss Sm Wg ((f_X5_token a0 Wr).2.2) Md) t.heap) (fA 23 ad sz)) (vx_X (fun _ : Unit => ¬ (f_X5_token a0 Wr).1 = 0) (fun E _ t => E = exN ((f_X5_token a0 Wr).1) ∧ va_P (dC, dI) vwCl (wC ad cI cJ Bc Bl Pk Pr Pl Pc Pm Gf Gt Gx Gd Gm Ek Er Ea Ex Em Eb Et Ss Sm Wg ((f_X5_token a0 Wr).2.2) Md) t.heap) (fA 23 ad sz)) 1 6 (fA 23 ad sz) := by
  refine vx_ofW (cc := cX5_token) (maxL := 3) (ret := (some .int)) (by decide) rfl ?_
  intro p e s m args below meth c s₁ B hml ht hv
  obtain ⟨rfl, hsz, hP, hK, hC⟩ := hv
  have hx := B.exec
  have hb := B.bytes
  have hr := B.returns
  have hts := mW_hts (atoms_spec (ws := (mW yX5_token cX5_token 3 (some .int))) B.pre)
  have hown : s.vm.findClass RX5 = some m.cls := findClass_of_methodNamed B.named
  have hlocks := B.notSynchronized
  subst hsz
  have hA : ∀ (n : Nat) (q : Nat), s.heap.size ≤ n → n ≤ q → fA 23 ad s.heap.size q := fun n q h1 h2 => Or.inr (Nat.le_trans h1 h2)
  have hS : va_S (fA 23 ad s.heap.size) s.heap s.heap [] := va_S.rf
  have hA : ∀ q, s.heap.size ≤ q → (fA 23 ad s.heap.size) q := fun q h => Or.inr h
  unfold S_X5_token at hs
  have hl := lv_entry ([.ref (ad 0), .int a0]) (n := 3) (Nat.le_of_ble_eq_true rfl)
  rw [lg_entry_eq]
  generalize (lg_sl ([.ref (ad 0), .int a0]) ++ List.replicate (3 - (lg_sl ([.ref (ad 0), .int a0])).length) Slot.unset).toArray = ls at hl ⊢
  have hl : lv_has ls 3 [(0, .ref (ad 0)), (1, .int a0)] := hl
  refine W_gen (fun Q9 hQ9 => ?_)
  refine lv_iload_n hx hb dX5_token_0 rfl (lv_at hl 1 rfl) ?_
  obtain ⟨u1, hu1⟩ : ∃ z, z = f_X5_checkToken a0 := ⟨_, rfl⟩
  have hs := hs u1 hu1
  refine q_X5_checkToken hst hx hb hml hown hts mM_RX5_54 ⟨Nat.le_of_ble_eq_true rfl, Nat.le_of_ble_eq_true rfl⟩ ⟨Nat.le_of_ble_eq_true rfl, Nat.le_of_ble_eq_true rfl⟩ hl.1 (Nat.le_of_ble_eq_true rfl) hS dX5_token_1 hA hC a0 u1 hu1 (fun hE c2 H locs hk hz hS ce q9 h71 h72 h73 => ?_) (fun c2 locs hS => ?_)
  · have hP := hP.kept (H1 := H) (fun k z hkz => hk z.1 (hP k z hkz).lt)
    rw [hQ9]
    have hf : f_X5_token a0 Wr = (u1, 0, Wr) := by simp only [f_X5_token, ← hu1, if_neg c2]
    refine vx_widen (k := 1) (n := 6) (Nat.le_of_ble_eq_true rfl) (Nat.le_of_ble_eq_true rfl) (vx_out (fun x hx => (ht x hx).elim) hlocks h71 h72 h73 (fun t hh hv => ⟨(), by rw [hf]; exact c2, ⟨by rw [hf]; exact hE, by rw [hf]; show va_P (dC, dI) vwCl _ t.heap; rw [hh]; exact hP⟩, hS.F hh⟩) hS.2.2 (Nat.le_of_ble_eq_true rfl) (Nat.le_of_ble_eq_true rfl))
  · have hs := hs c2
    refine lv_aload_n hx hb dX5_token_4 rfl (lv_at hl 0 rfl) ?_
    refine va_get (D := (dC, dI)) (ci := 7) (v := .ref (ad 21)) (C := RX5) (T := TX5) (N := 8) hx hb hts iW_X5 hown hK hP 0 rfl rfl 6 (by decide) (hts _ mF_RX5_48) (fun _ h9 => h9) rfl dX5_token_5 ?_
    refine lv_iconst (v := 0) hx hb dX5_token_8 (by decide) ?_
    obtain ⟨h3, hs⟩ := hs
    refine va_lald hx hb hK hP 21 1 rfl rfl h3 dX5_token_9 ?_
    refine lv_l2i hx hb dX5_token_10 rfl ?_
    refine lv_istore_n (lv' := [(2, .int (Wr (0 : Int32).toNatClampNeg).toInt32), (0, .ref (ad 0)), (1, .int a0)]) hx hb dX5_token_11 rfl hl (by decide) rfl (fun ls hl => ?_)
    refine lv_iload_n hx hb dX5_token_12 rfl (lv_at hl 0 rfl) ?_
    refine lv_if_lt (tgt := 22) hx hb dX5_token_13 (by decide) (fun c4 => ?_) (fun c4 => ?_)
    · have hs := hs.1 c4
      refine lv_iconst (v := (-1)) hx hb dX5_token_22 (by decide) ?_
      rw [hQ9]
      have hf : f_X5_token a0 Wr = (0, (-1 : Int32), Wr) := by simp only [f_X5_token, ← hu1, if_pos c2, if_pos c4]
      refine vx_ret ?_
      exact W.iret (v := (-1 : Int32)) hx hb hr (fun t ht hW => ⟨⟨(-1 : Int32), (), rfl, ⟨by rw [hf], by rw [hf]⟩, by rw [hf]; show va_P (dC, dI) vwCl _ t.heap; rw [ht]; exact hP⟩, hS.F ht⟩) hS.2.2 dX5_token_23
    · have hs := hs.2 c4
      refine lv_iload_n hx hb dX5_token_16 rfl (lv_at hl 0 rfl) ?_
      refine lv_bipush (v := 20) hx hb dX5_token_17 (by decide) ?_
      refine lv_icmp_lt (tgt := 24) hx hb dX5_token_19 (by decide) (fun c5 => ?_) (fun c5 => ?_)
      · have hs := hs.1 c5
        refine lv_aload_n hx hb dX5_token_24 rfl (lv_at hl 1 rfl) ?_
        refine va_get (D := (dC, dI)) (ci := 7) (v := .ref (ad 21)) (C := RX5) (T := TX5) (N := 8) hx hb hts iW_X5 hown hK hP 0 rfl rfl 6 (by decide) (hts _ mF_RX5_48) (fun _ h9 => h9) rfl dX5_token_25 ?_
        refine lv_iload_n hx hb dX5_token_28 rfl (lv_at hl 0 rfl) ?_
        refine lv_iconst (v := 1) hx hb dX5_token_29 (by decide) ?_
        refine lv_iadd hx hb dX5_token_30 ?_
        refine lv_iload_n hx hb dX5_token_31 rfl (lv_at hl 2 rfl) ?_
        refine lv_i2l hx hb dX5_token_32 rfl ?_
        obtain ⟨h6, hs⟩ := hs
        refine va_last hx hb hK hP (fA_D hi rfl) hS 21 1 rfl rfl h6 dX5_token_33 (fun H locs hP _ hS => ?_)
        have hP : va_P (dC, dI) vwCl (wC ad cI cJ Bc Bl Pk Pr Pl Pc Pm Gf Gt Gx Gd Gm Ek Er Ea Ex Em Eb Et Ss Sm Wg (vp_updL Wr ((Wr (0 : Int32).toNatClampNeg).toInt32 + (1 : Int32)).toNatClampNeg a0.toInt64) Md) H := hP
        refine lv_aload_n hx hb dX5_token_34 rfl (lv_at hl 1 rfl) ?_
        refine va_get (D := (dC, dI)) (ci := 7) (v := .ref (ad 21)) (C := RX5) (T := TX5) (N := 8) hx hb hts iW_X5 hown hK hP 0 rfl rfl 6 (by decide) (hts _ mF_RX5_48) (fun _ h9 => h9) rfl dX5_token_35 ?_
        refine lv_iconst (v := 0) hx hb dX5_token_38 (by decide) ?_
        refine lv_iload_n hx hb dX5_token_39 rfl (lv_at hl 0 rfl) ?_
        refine lv_iconst (v := 1) hx hb dX5_token_40 (by decide) ?_
        refine lv_iadd hx hb dX5_token_41 ?_
        refine lv_i2l hx hb dX5_token_42 rfl ?_
        obtain ⟨h7, hs⟩ := hs
        refine va_last hx hb hK hP (fA_D hi rfl) hS 21 1 rfl rfl h7 dX5_token_43 (fun H locs hP _ hS => ?_)
        have hP : va_P (dC, dI) vwCl (wC ad cI cJ Bc Bl Pk Pr Pl Pc Pm Gf Gt Gx Gd Gm Ek Er Ea Ex Em Eb Et Ss Sm Wg (vp_updL (vp_updL Wr ((Wr (0 : Int32).toNatClampNeg).toInt32 + (1 : Int32)).toNatClampNeg a0.toInt64) (0 : Int32).toNatClampNeg ((Wr (0 : Int32).toNatClampNeg).toInt32 + (1 : Int32)).toInt64) Md) H := hP
        refine lv_iload_n hx hb dX5_token_44 rfl (lv_at hl 0 rfl) ?_
        refine lv_iconst (v := 1) hx hb dX5_token_45 (by decide) ?_
        refine lv_iadd hx hb dX5_token_46 ?_
        rw [hQ9]
        have hf : f_X5_token a0 Wr = (0, ((Wr (0 : Int32).toNatClampNeg).toInt32 + (1 : Int32)), (vp_updL (vp_updL Wr ((Wr (0 : Int32).toNatClampNeg).toInt32 + (1 : Int32)).toNatClampNeg a0.toInt64) (0 : Int32).toNatClampNeg ((Wr (0 : Int32).toNatClampNeg).toInt32 + (1 : Int32)).toInt64)) := by simp only [f_X5_token, ← hu1, if_pos c2, if_neg c4, if_pos c5]
        refine vx_ret ?_
        exact W.iret (v := ((Wr (0 : Int32).toNatClampNeg).toInt32 + (1 : Int32))) hx hb hr (fun t ht hW => ⟨⟨((Wr (0 : Int32).toNatClampNeg).toInt32 + (1 : Int32)), (), rfl, ⟨by rw [hf], by rw [hf]⟩, by rw [hf]; show va_P (dC, dI) vwCl _ t.heap; rw [ht]; exact hP⟩, hS.F ht⟩) hS.2.2 dX5_token_47
      · have hs := hs.2 c5
        refine lv_iconst (v := (-1)) hx hb dX5_token_22 (by decide) ?_
        rw [hQ9]
        have hf : f_X5_token a0 Wr = (0, (-1 : Int32), Wr) := by simp only [f_X5_token, ← hu1, if_pos c2, if_neg c4, if_neg c5]
        refine vx_ret ?_
        exact W.iret (v := (-1 : Int32)) hx hb hr (fun t ht hW => ⟨⟨(-1 : Int32), (), rfl, ⟨by rw [hf], by rw [hf]⟩, by rw [hf]; show va_P (dC, dI) vwCl _ t.heap; rw [ht]; exact hP⟩, hS.F ht⟩) hS.2.2 dX5_token_23
theorem q_X5_token {p : Program} {l : Launch} {e : Env} {R : Room} {s : State} {m : MethodId} {args : Array Value} {below : List Frame} {meth : Method} {c : Code} {H : Heap} {locs : List Loc} {cells slots : Nat} {Q : State → Prop} {pc : Nat} {ls : Array Slot} {rest : List Value} {cc : ByteArray} {nL idx : Nat} {own : String} {A0 : Nat → Prop} {dC : Nat → ClassId} {dI : Nat → Nat → Nat} {cI cJ : ClassId} {ad : Nat → Nat} {Bc : Nat → Int64} {Bl : Nat → Int32} {Pk : Nat → Int32} {Pr : Nat → Int32} {Pl : Nat → Int32} {Pc : Nat → Int64} {Pm : Int32} {Gf : Nat → Int32} {Gt : Nat → Int32} {Gx : Nat → Int32} {Gd : Int32} {Gm : Int32} {Ek : Nat → Int32} {Er : Nat → Int32} {Ea : Nat → Int32} {Ex : Nat → Int32} {Em : Int32} {Eb : Int32} {Et : Int32} {Ss : Nat → Int32} {Sm : Int32} {Wg : Nat → Int64} {Wr : Nat → Int64} {Md : Nat → Int64} (hst : l.stackTraces = false) (hx : p.tables.exec = Jvm.exec) (hb : c.code = cc) (hml : c.maxLocals = nL) (hown : s.vm.findClass own = some m.cls) (hts : ∀ w ∈ bigW, w.before args s = true) (hlk : Cond.methodLink own idx yX5_token ∈ bigW) (hR : 8 ≤ R.frames ∧ 134 ≤ R.locals) (hf : cells + 1 ≤ R.cells ∧ slots + 6 ≤ R.slots) (hz : ls.size = nL) (hw : (rest.map fun v => v.category).sum ≤ 8) (hS : va_S A0 s.heap H locs) (hd : decode cc pc = .ok (.invokevirtual idx, 3)) (hA : ∀ q, fA 23 ad H.size q → A0 q) (hi : fI 23 ad) (hK : va_K (dC, dI) vwCl [(cI, .int), (cJ, .long)] s) (hP : va_P (dC, dI) vwCl (wC ad cI cJ Bc Bl Pk Pr Pl Pc Pm Gf Gt Gx Gd Gm Ek Er Ea Ex Em Eb Et Ss Sm Wg Wr Md) H) (hC : cxt A0 s s.heap) (a0 : Int32) (hs : S_X5_token a0 Wr)  (u : Nat × Int32 × (Nat → Int64)) (hu : u = f_X5_token a0 Wr) (kx : ∀ {E : String} (hE : E = exN u.1) (ho : ¬ u.1 = 0) (H1 : Heap) (locs1 : List Loc), va_P (dC, dI) vwCl (wC ad cI cJ Bc Bl Pk Pr Pl Pc Pm Gf Gt Gx Gd Gm Ek Er Ea Ex Em Eb Et Ss Sm Wg u.2.2 Md) H1 → va_S A0 s.heap H1 locs1 → ∀ (ce : Cell) (q9 : Addr), H1[q9]? = some ce → ce.vm = .none → s.vm.findClass E = some ce.cls → vx_W p l e R s m args below meth c H1 locs1 (cells + 1) (slots + 6) Q (F0 m pc ls rest) q9) (k : u.1 = 0 → ∀ (H1 : Heap) (locs1 : List Loc), va_P (dC, dI) vwCl (wC ad cI cJ Bc Bl Pk Pr Pl Pc Pm Gf Gt Gx Gd Gm Ek Er Ea Ex Em Eb Et Ss Sm Wg u.2.2 Md) H1 → va_S A0 s.heap H1 locs1 → W p l e R s m args below meth c H1 locs1 (cells + 1) (slots + 6) Q (F0 m (pc + 3) ls (.int u.2.1 :: rest))) : W p l e R s m args below meth c H locs cells slots Q (F0 m pc ls (.int a0 :: .ref (ad 0) :: rest)) := by
  subst hu
  exact vx_calli (vx_runV (As := [.int a0]) (rest := rest) ⟨hx, hb, hml, hown, hts⟩ (c_X5_token l hst dC dI cI cJ ad hi H.size Bc Bl Pk Pr Pl Pc Pm Gf Gt Gx Gd Gm Ek Er Ea Ex Em Eb Et Ss Sm Wg Wr Md a0 hs) (kV 1 hts hlk mI_X5_token mN_RX5 mY_X5_token mV_X5_token rfl rfl (by decide +kernel) hR) ⟨fun a U g mk q => ⟨q.1, q.2.1, q.2.2.1, va_K.moved (u := U) (U := U.calling g mk a) (Vm.Alike.refl U.vm) q.2.2.2.1, q.2.2.2.2.call⟩, va_recv hK hP (ci := 7) (q0 := 0) rfl rfl, fun U hU hW => ⟨rfl, by rw [hU], by rw [hU]; exact hP, va_K.moved hW.alike hK, by have h9 := hC.here hS hU hW hA; exact h9⟩⟩ rfl rfl hz rfl (lv_room hw) hd hf) hS (fun q _ h => hA q h) (fun q h => hA q h) (fun q _ h => hA q h) (fun E ce q9 u t H1 locs1 ht hvm hw9 hB hz1 hk1 hS1 h1 h2 h3 => kx hB.1 hw9 H1 locs1 (by rw [← ht]; exact hB.2) hS1 ce q9 h1 h2 h3) (fun r u t H1 locs1 ht hvm hw9 hB hz1 hk1 hS1 => by
    obtain ⟨e1, rfl⟩ := hw9
    exact k e1 H1 locs1 (by rw [← ht]; exact hB) hS1)
end
section
def f_X2_open (a0 : Int32) (Gf : Nat → Int32) (Gt : Nat → Int32) (Gd : Int32) (Gm : Int32) : (Nat → Int32) × (Nat → Int32) × Int32 := (if Gd < 0 then (Gf, Gt, Gd) else (if (20 : Int32) ≤ Gd then (Gf, Gt, Gd) else ((upd Gf Gd.toNatClampNeg a0), (upd Gt Gd.toNatClampNeg Gm), (Gd + (1 : Int32)))))
def S_X2_open (a0 : Int32) (Gf : Nat → Int32) (Gt : Nat → Int32) (Gd : Int32) (Gm : Int32) : Prop := (Gd < 0 → (True)) ∧ (¬ Gd < 0 → (((20 : Int32) ≤ Gd → (True)) ∧ (¬ (20 : Int32) ≤ Gd → ((vp_in Gd 20) ∧ ((vp_in Gd 20) ∧ (True))))))
set_option maxHeartbeats 4000000 in
set_option maxRecDepth 100000 in
theorem c_X2_open (l : Launch) (dC : Nat → ClassId) (dI : Nat → Nat → Nat) (cI cJ : ClassId) (ad : Nat → Nat) (hi : fI 23 ad) (sz : Nat) (Bc : Nat → Int64) (Bl : Nat → Int32) (Pk : Nat → Int32) (Pr : Nat → Int32) (Pl : Nat → Int32) (Pc : Nat → Int64) (Pm : Int32) (Gf : Nat → Int32) (Gt : Nat → Int32) (Gx : Nat → Int32) (Gd : Int32) (Gm : Int32) (Ek : Nat → Int32) (Er : Nat → Int32) (Ea : Nat → Int32) (Ex : Nat → Int32) (Em : Int32) (Eb : Int32) (Et : Int32) (Ss : Nat → Int32) (Sm : Int32) (Wg : Nat → Int64) (Wr : Nat → Int64) (Md : Nat → Int64) (a0 : Int32) (hs : S_X2_open a0 Gf Gt Gd Gm) : Met l yX2_open (mW yX2_open cX2_open 2 none) { frames := 0, cells := 0, slots := 0, locals := 0 } (va_Pc [.ref (ad 9), .int a0] (fun U => U.heap.size = sz ∧ va_P (dC, dI) vwCl (wC ad cI cJ Bc Bl Pk Pr Pl Pc Pm Gf Gt Gx Gd Gm Ek Er Ea Ex Em Eb Et Ss Sm Wg Wr Md) U.heap ∧ va_K (dC, dI) vwCl [(cI, .int), (cJ, .long)] U)) (va_Qv (fun (_ : Unit) => True) (fun _ t => va_P (dC, dI) vwCl (wC ad cI cJ Bc Bl Pk Pr Pl Pc Pm ((f_X2_open a0 Gf Gt Gd Gm).1) ((f_X2_open a0 Gf Gt Gd Gm).2.1) Gx ((f_X2_open a0 Gf Gt Gd Gm).2.2) Gm Ek Er Ea Ex Em Eb Et Ss Sm Wg Wr Md) t.heap) (fA 23 ad sz)) 0 0 (fA 23 ad sz) := by
  refine Met.ofW (cc := cX2_open) (maxL := 2) (ret := none) (by decide) rfl ?_
  intro p e s m args below meth c s₁ B hml hv
  obtain ⟨rfl, hsz, hP, hK⟩ := hv
  have hx := B.exec
  have hb := B.bytes
  have hr := B.returns
  have hts := mW_hts (atoms_spec (ws := (mW yX2_open cX2_open 2 none)) B.pre)
  have hown : s.vm.findClass RX2 = some m.cls := findClass_of_methodNamed B.named
  have hlocks := B.notSynchronized
  subst hsz
  have hA : ∀ (n : Nat) (q : Nat), s.heap.size ≤ n → n ≤ q → fA 23 ad s.heap.size q := fun n q h1 h2 => Or.inr (Nat.le_trans h1 h2)
  have hS : va_S (fA 23 ad s.heap.size) s.heap s.heap [] := va_S.rf
  have hA : ∀ q, s.heap.size ≤ q → (fA 23 ad s.heap.size) q := fun q h => Or.inr h
  unfold S_X2_open at hs
  have hl := lv_entry ([.ref (ad 9), .int a0]) (n := 2) (Nat.le_of_ble_eq_true rfl)
  rw [lg_entry_eq]
  generalize (lg_sl ([.ref (ad 9), .int a0]) ++ List.replicate (2 - (lg_sl ([.ref (ad 9), .int a0])).length) Slot.unset).toArray = ls at hl ⊢
  have hl : lv_has ls 2 [(0, .ref (ad 9)), (1, .int a0)] := hl
  refine W_gen (fun Q9 hQ9 => ?_)
  refine lv_aload_n hx hb dX2_open_0 rfl (lv_at hl 0 rfl) ?_
  refine va_get (D := (dC, dI)) (ci := 4) (v := .int Gd) (C := RX2) (T := TX2) (N := 5) hx hb hts iW_X2 hown hK hP 9 rfl rfl 3 (by decide) (hts _ mF_RX2_21) (fun _ h9 => h9) rfl dX2_open_1 ?_
  refine lv_if_lt (tgt := 49) hx hb dX2_open_4 (by decide) (fun c1 => ?_) (fun c1 => ?_)
  · have hs := hs.1 c1
    rw [hQ9]
    have hf : f_X2_open a0 Gf Gt Gd Gm = (Gf, Gt, Gd) := by simp only [f_X2_open, if_pos c1]
    exact W.vret hx hb hr (fun t ht hW => ⟨⟨(), rfl, True.intro, by rw [hf]; show va_P (dC, dI) vwCl _ t.heap; rw [ht]; exact hP⟩, hS.F ht⟩) hS.2.2 dX2_open_49
  · have hs := hs.2 c1
    refine lv_aload_n hx hb dX2_open_7 rfl (lv_at hl 0 rfl) ?_
    refine va_get (D := (dC, dI)) (ci := 4) (v := .int Gd) (C := RX2) (T := TX2) (N := 5) hx hb hts iW_X2 hown hK hP 9 rfl rfl 3 (by decide) (hts _ mF_RX2_21) (fun _ h9 => h9) rfl dX2_open_8 ?_
    refine lv_bipush (v := 20) hx hb dX2_open_11 (by decide) ?_
    refine lv_icmp_ge (tgt := 49) hx hb dX2_open_13 (by decide) (fun c2 => ?_) (fun c2 => ?_)
    · have hs := hs.1 c2
      rw [hQ9]
      have hf : f_X2_open a0 Gf Gt Gd Gm = (Gf, Gt, Gd) := by simp only [f_X2_open, if_neg c1, if_pos c2]
      exact W.vret hx hb hr (fun t ht hW => ⟨⟨(), rfl, True.intro, by rw [hf]; show va_P (dC, dI) vwCl _ t.heap; rw [ht]; exact hP⟩, hS.F ht⟩) hS.2.2 dX2_open_49
    · have hs := hs.2 c2
      refine lv_aload_n hx hb dX2_open_16 rfl (lv_at hl 0 rfl) ?_
      refine va_get (D := (dC, dI)) (ci := 4) (v := .ref (ad 10)) (C := RX2) (T := TX2) (N := 5) hx hb hts iW_X2 hown hK hP 9 rfl rfl 0 (by decide) (hts _ mF_RX2_9) (fun _ h9 => h9) rfl dX2_open_17 ?_
      refine lv_aload_n hx hb dX2_open_20 rfl (lv_at hl 0 rfl) ?_
      refine va_get (D := (dC, dI)) (ci := 4) (v := .int Gd) (C := RX2) (T := TX2) (N := 5) hx hb hts iW_X2 hown hK hP 9 rfl rfl 3 (by decide) (hts _ mF_RX2_21) (fun _ h9 => h9) rfl dX2_open_21 ?_
      refine lv_iload_n hx hb dX2_open_24 rfl (lv_at hl 1 rfl) ?_
      obtain ⟨h3, hs⟩ := hs
      refine va_iast hx hb hK hP (fA_D hi rfl) hS 10 0 rfl rfl h3 dX2_open_25 (fun H locs hP _ hS => ?_)
      have hP : va_P (dC, dI) vwCl (wC ad cI cJ Bc Bl Pk Pr Pl Pc Pm (upd Gf Gd.toNatClampNeg a0) Gt Gx Gd Gm Ek Er Ea Ex Em Eb Et Ss Sm Wg Wr Md) H := hP
      refine lv_aload_n hx hb dX2_open_26 rfl (lv_at hl 0 rfl) ?_
      refine va_get (D := (dC, dI)) (ci := 4) (v := .ref (ad 11)) (C := RX2) (T := TX2) (N := 5) hx hb hts iW_X2 hown hK hP 9 rfl rfl 1 (by decide) (hts _ mF_RX2_15) (fun _ h9 => h9) rfl dX2_open_27 ?_
      refine lv_aload_n hx hb dX2_open_30 rfl (lv_at hl 0 rfl) ?_
      refine va_get (D := (dC, dI)) (ci := 4) (v := .int Gd) (C := RX2) (T := TX2) (N := 5) hx hb hts iW_X2 hown hK hP 9 rfl rfl 3 (by decide) (hts _ mF_RX2_21) (fun _ h9 => h9) rfl dX2_open_31 ?_
      refine lv_aload_n hx hb dX2_open_34 rfl (lv_at hl 0 rfl) ?_
      refine va_get (D := (dC, dI)) (ci := 4) (v := .int Gm) (C := RX2) (T := TX2) (N := 5) hx hb hts iW_X2 hown hK hP 9 rfl rfl 4 (by decide) (hts _ mF_RX2_25) (fun _ h9 => h9) rfl dX2_open_35 ?_
      obtain ⟨h4, hs⟩ := hs
      refine va_iast hx hb hK hP (fA_D hi rfl) hS 11 0 rfl rfl h4 dX2_open_38 (fun H locs hP _ hS => ?_)
      have hP : va_P (dC, dI) vwCl (wC ad cI cJ Bc Bl Pk Pr Pl Pc Pm (upd Gf Gd.toNatClampNeg a0) (upd Gt Gd.toNatClampNeg Gm) Gx Gd Gm Ek Er Ea Ex Em Eb Et Ss Sm Wg Wr Md) H := hP
      refine lv_aload_n hx hb dX2_open_39 rfl (lv_at hl 0 rfl) ?_
      refine lv_dup hx hb dX2_open_40 rfl ?_
      refine va_get (D := (dC, dI)) (ci := 4) (v := .int Gd) (C := RX2) (T := TX2) (N := 5) hx hb hts iW_X2 hown hK hP 9 rfl rfl 3 (by decide) (hts _ mF_RX2_21) (fun _ h9 => h9) rfl dX2_open_41 ?_
      refine lv_iconst (v := 1) hx hb dX2_open_44 (by decide) ?_
      refine lv_iadd hx hb dX2_open_45 ?_
      refine va_put (D := (dC, dI)) (ci := 4) (v := .int (Gd + (1 : Int32))) (ty := .int) (C := RX2) (T := TX2) (N := 5) hx hb hts iW_X2 tyX2 tyX2_ok nmX2 hown hK hP (fA_D hi rfl) hS 9 rfl rfl 3 (by decide) (hts _ mF_RX2_21) (fun _ h9 => h9) rfl (by decide +kernel) rfl rfl (Nat.le_of_ble_eq_true rfl) dX2_open_46 (fun H locs hP _ hS => ?_)
      have hP : va_P (dC, dI) vwCl (wC ad cI cJ Bc Bl Pk Pr Pl Pc Pm (upd Gf Gd.toNatClampNeg a0) (upd Gt Gd.toNatClampNeg Gm) Gx (Gd + (1 : Int32)) Gm Ek Er Ea Ex Em Eb Et Ss Sm Wg Wr Md) H := hP
      rw [hQ9]
      have hf : f_X2_open a0 Gf Gt Gd Gm = ((upd Gf Gd.toNatClampNeg a0), (upd Gt Gd.toNatClampNeg Gm), (Gd + (1 : Int32))) := by simp only [f_X2_open, if_neg c1, if_neg c2]
      exact W.vret hx hb hr (fun t ht hW => ⟨⟨(), rfl, True.intro, by rw [hf]; show va_P (dC, dI) vwCl _ t.heap; rw [ht]; exact hP⟩, hS.F ht⟩) hS.2.2 dX2_open_49
theorem q_X2_open {p : Program} {l : Launch} {e : Env} {R : Room} {s : State} {m : MethodId} {args : Array Value} {below : List Frame} {meth : Method} {c : Code} {H : Heap} {locs : List Loc} {cells slots : Nat} {Q : State → Prop} {pc : Nat} {ls : Array Slot} {rest : List Value} {cc : ByteArray} {nL idx : Nat} {own : String} {A0 : Nat → Prop} {dC : Nat → ClassId} {dI : Nat → Nat → Nat} {cI cJ : ClassId} {ad : Nat → Nat} {Bc : Nat → Int64} {Bl : Nat → Int32} {Pk : Nat → Int32} {Pr : Nat → Int32} {Pl : Nat → Int32} {Pc : Nat → Int64} {Pm : Int32} {Gf : Nat → Int32} {Gt : Nat → Int32} {Gx : Nat → Int32} {Gd : Int32} {Gm : Int32} {Ek : Nat → Int32} {Er : Nat → Int32} {Ea : Nat → Int32} {Ex : Nat → Int32} {Em : Int32} {Eb : Int32} {Et : Int32} {Ss : Nat → Int32} {Sm : Int32} {Wg : Nat → Int64} {Wr : Nat → Int64} {Md : Nat → Int64} (hx : p.tables.exec = Jvm.exec) (hb : c.code = cc) (hml : c.maxLocals = nL) (hown : s.vm.findClass own = some m.cls) (hts : ∀ w ∈ bigW, w.before args s = true) (hlk : Cond.methodLink own idx yX2_open ∈ bigW) (hR : 1 ≤ R.frames ∧ 21 ≤ R.locals) (hf : cells + 0 ≤ R.cells ∧ slots + 0 ≤ R.slots) (hz : ls.size = nL) (hw : (rest.map fun v => v.category).sum ≤ 8) (hS : va_S A0 s.heap H locs) (hd : decode cc pc = .ok (.invokevirtual idx, 3)) (hA : ∀ q, fA 23 ad H.size q → A0 q) (hi : fI 23 ad) (hK : va_K (dC, dI) vwCl [(cI, .int), (cJ, .long)] s) (hP : va_P (dC, dI) vwCl (wC ad cI cJ Bc Bl Pk Pr Pl Pc Pm Gf Gt Gx Gd Gm Ek Er Ea Ex Em Eb Et Ss Sm Wg Wr Md) H) (a0 : Int32) (hs : S_X2_open a0 Gf Gt Gd Gm)  (u : (Nat → Int32) × (Nat → Int32) × Int32) (hu : u = f_X2_open a0 Gf Gt Gd Gm) (k : ∀ (H1 : Heap) (locs1 : List Loc), va_P (dC, dI) vwCl (wC ad cI cJ Bc Bl Pk Pr Pl Pc Pm u.1 u.2.1 Gx u.2.2 Gm Ek Er Ea Ex Em Eb Et Ss Sm Wg Wr Md) H1 → va_S A0 s.heap H1 locs1 → W p l e R s m args below meth c H1 locs1 (cells + 0) (slots + 0) Q (F0 m (pc + 3) ls (rest))) : W p l e R s m args below meth c H locs cells slots Q (F0 m pc ls (.int a0 :: .ref (ad 9) :: rest)) := by
  subst hu
  exact va_callv (va_runV (As := [.int a0]) (rest := rest) ⟨hx, hb, hml, hown, hts⟩ (c_X2_open l dC dI cI cJ ad hi H.size Bc Bl Pk Pr Pl Pc Pm Gf Gt Gx Gd Gm Ek Er Ea Ex Em Eb Et Ss Sm Wg Wr Md a0 hs) (kV 1 hts hlk mI_X2_open mN_RX2 mY_X2_open mV_X2_open rfl rfl (by decide +kernel) hR) ⟨fun a U g mk q => ⟨q.1, q.2.1, q.2.2.1, va_K.moved (u := U) (U := U.calling g mk a) (Vm.Alike.refl U.vm) q.2.2.2⟩, va_recv hK hP (ci := 4) (q0 := 9) rfl rfl, fun U hU hW => ⟨rfl, by rw [hU], by rw [hU]; exact hP, va_K.moved hW.alike hK⟩⟩ rfl rfl hz rfl (lv_room hw) hd hf) hS (fun q _ h => hA q h) (fun q h => hA q h) (fun u t H1 locs1 ht hvm hw9 hB hz1 hk1 hS1 => by
    skip
    exact k H1 locs1 (by rw [← ht]; exact hB) hS1)

def f_X2_append (a0 : Int32) (Gx : Nat → Int32) (Gm : Int32) : (Nat → Int32) × Int32 := (if Gm < 0 then (Gx, Gm) else (if (60 : Int32) ≤ Gm then (Gx, Gm) else ((upd Gx Gm.toNatClampNeg a0), (Gm + (1 : Int32)))))
def S_X2_append (a0 : Int32) (Gx : Nat → Int32) (Gm : Int32) : Prop := (Gm < 0 → (True)) ∧ (¬ Gm < 0 → (((60 : Int32) ≤ Gm → (True)) ∧ (¬ (60 : Int32) ≤ Gm → ((vp_in Gm 60) ∧ (True)))))
set_option maxHeartbeats 4000000 in
set_option maxRecDepth 100000 in
theorem c_X2_append (l : Launch) (dC : Nat → ClassId) (dI : Nat → Nat → Nat) (cI cJ : ClassId) (ad : Nat → Nat) (hi : fI 23 ad) (sz : Nat) (Bc : Nat → Int64) (Bl : Nat → Int32) (Pk : Nat → Int32) (Pr : Nat → Int32) (Pl : Nat → Int32) (Pc : Nat → Int64) (Pm : Int32) (Gf : Nat → Int32) (Gt : Nat → Int32) (Gx : Nat → Int32) (Gd : Int32) (Gm : Int32) (Ek : Nat → Int32) (Er : Nat → Int32) (Ea : Nat → Int32) (Ex : Nat → Int32) (Em : Int32) (Eb : Int32) (Et : Int32) (Ss : Nat → Int32) (Sm : Int32) (Wg : Nat → Int64) (Wr : Nat → Int64) (Md : Nat → Int64) (a0 : Int32) (hs : S_X2_append a0 Gx Gm) : Met l yX2_append (mW yX2_append cX2_append 2 none) { frames := 0, cells := 0, slots := 0, locals := 0 } (va_Pc [.ref (ad 9), .int a0] (fun U => U.heap.size = sz ∧ va_P (dC, dI) vwCl (wC ad cI cJ Bc Bl Pk Pr Pl Pc Pm Gf Gt Gx Gd Gm Ek Er Ea Ex Em Eb Et Ss Sm Wg Wr Md) U.heap ∧ va_K (dC, dI) vwCl [(cI, .int), (cJ, .long)] U)) (va_Qv (fun (_ : Unit) => True) (fun _ t => va_P (dC, dI) vwCl (wC ad cI cJ Bc Bl Pk Pr Pl Pc Pm Gf Gt ((f_X2_append a0 Gx Gm).1) Gd ((f_X2_append a0 Gx Gm).2) Ek Er Ea Ex Em Eb Et Ss Sm Wg Wr Md) t.heap) (fA 23 ad sz)) 0 0 (fA 23 ad sz) := by
  refine Met.ofW (cc := cX2_append) (maxL := 2) (ret := none) (by decide) rfl ?_
  intro p e s m args below meth c s₁ B hml hv
  obtain ⟨rfl, hsz, hP, hK⟩ := hv
  have hx := B.exec
  have hb := B.bytes
  have hr := B.returns
  have hts := mW_hts (atoms_spec (ws := (mW yX2_append cX2_append 2 none)) B.pre)
  have hown : s.vm.findClass RX2 = some m.cls := findClass_of_methodNamed B.named
  have hlocks := B.notSynchronized
  subst hsz
  have hA : ∀ (n : Nat) (q : Nat), s.heap.size ≤ n → n ≤ q → fA 23 ad s.heap.size q := fun n q h1 h2 => Or.inr (Nat.le_trans h1 h2)
  have hS : va_S (fA 23 ad s.heap.size) s.heap s.heap [] := va_S.rf
  have hA : ∀ q, s.heap.size ≤ q → (fA 23 ad s.heap.size) q := fun q h => Or.inr h
  unfold S_X2_append at hs
  have hl := lv_entry ([.ref (ad 9), .int a0]) (n := 2) (Nat.le_of_ble_eq_true rfl)
  rw [lg_entry_eq]
  generalize (lg_sl ([.ref (ad 9), .int a0]) ++ List.replicate (2 - (lg_sl ([.ref (ad 9), .int a0])).length) Slot.unset).toArray = ls at hl ⊢
  have hl : lv_has ls 2 [(0, .ref (ad 9)), (1, .int a0)] := hl
  refine W_gen (fun Q9 hQ9 => ?_)
  refine lv_aload_n hx hb dX2_append_0 rfl (lv_at hl 0 rfl) ?_
  refine va_get (D := (dC, dI)) (ci := 4) (v := .int Gm) (C := RX2) (T := TX2) (N := 5) hx hb hts iW_X2 hown hK hP 9 rfl rfl 4 (by decide) (hts _ mF_RX2_25) (fun _ h9 => h9) rfl dX2_append_1 ?_
  refine lv_if_lt (tgt := 36) hx hb dX2_append_4 (by decide) (fun c1 => ?_) (fun c1 => ?_)
  · have hs := hs.1 c1
    rw [hQ9]
    have hf : f_X2_append a0 Gx Gm = (Gx, Gm) := by simp only [f_X2_append, if_pos c1]
    exact W.vret hx hb hr (fun t ht hW => ⟨⟨(), rfl, True.intro, by rw [hf]; show va_P (dC, dI) vwCl _ t.heap; rw [ht]; exact hP⟩, hS.F ht⟩) hS.2.2 dX2_append_36
  · have hs := hs.2 c1
    refine lv_aload_n hx hb dX2_append_7 rfl (lv_at hl 0 rfl) ?_
    refine va_get (D := (dC, dI)) (ci := 4) (v := .int Gm) (C := RX2) (T := TX2) (N := 5) hx hb hts iW_X2 hown hK hP 9 rfl rfl 4 (by decide) (hts _ mF_RX2_25) (fun _ h9 => h9) rfl dX2_append_8 ?_
    refine lv_bipush (v := 60) hx hb dX2_append_11 (by decide) ?_
    refine lv_icmp_ge (tgt := 36) hx hb dX2_append_13 (by decide) (fun c2 => ?_) (fun c2 => ?_)
    · have hs := hs.1 c2
      rw [hQ9]
      have hf : f_X2_append a0 Gx Gm = (Gx, Gm) := by simp only [f_X2_append, if_neg c1, if_pos c2]
      exact W.vret hx hb hr (fun t ht hW => ⟨⟨(), rfl, True.intro, by rw [hf]; show va_P (dC, dI) vwCl _ t.heap; rw [ht]; exact hP⟩, hS.F ht⟩) hS.2.2 dX2_append_36
    · have hs := hs.2 c2
      refine lv_aload_n hx hb dX2_append_16 rfl (lv_at hl 0 rfl) ?_
      refine va_get (D := (dC, dI)) (ci := 4) (v := .ref (ad 12)) (C := RX2) (T := TX2) (N := 5) hx hb hts iW_X2 hown hK hP 9 rfl rfl 2 (by decide) (hts _ mF_RX2_18) (fun _ h9 => h9) rfl dX2_append_17 ?_
      refine lv_aload_n hx hb dX2_append_20 rfl (lv_at hl 0 rfl) ?_
      refine va_get (D := (dC, dI)) (ci := 4) (v := .int Gm) (C := RX2) (T := TX2) (N := 5) hx hb hts iW_X2 hown hK hP 9 rfl rfl 4 (by decide) (hts _ mF_RX2_25) (fun _ h9 => h9) rfl dX2_append_21 ?_
      refine lv_iload_n hx hb dX2_append_24 rfl (lv_at hl 1 rfl) ?_
      obtain ⟨h3, hs⟩ := hs
      refine va_iast hx hb hK hP (fA_D hi rfl) hS 12 0 rfl rfl h3 dX2_append_25 (fun H locs hP _ hS => ?_)
      have hP : va_P (dC, dI) vwCl (wC ad cI cJ Bc Bl Pk Pr Pl Pc Pm Gf Gt (upd Gx Gm.toNatClampNeg a0) Gd Gm Ek Er Ea Ex Em Eb Et Ss Sm Wg Wr Md) H := hP
      refine lv_aload_n hx hb dX2_append_26 rfl (lv_at hl 0 rfl) ?_
      refine lv_dup hx hb dX2_append_27 rfl ?_
      refine va_get (D := (dC, dI)) (ci := 4) (v := .int Gm) (C := RX2) (T := TX2) (N := 5) hx hb hts iW_X2 hown hK hP 9 rfl rfl 4 (by decide) (hts _ mF_RX2_25) (fun _ h9 => h9) rfl dX2_append_28 ?_
      refine lv_iconst (v := 1) hx hb dX2_append_31 (by decide) ?_
      refine lv_iadd hx hb dX2_append_32 ?_
      refine va_put (D := (dC, dI)) (ci := 4) (v := .int (Gm + (1 : Int32))) (ty := .int) (C := RX2) (T := TX2) (N := 5) hx hb hts iW_X2 tyX2 tyX2_ok nmX2 hown hK hP (fA_D hi rfl) hS 9 rfl rfl 4 (by decide) (hts _ mF_RX2_25) (fun _ h9 => h9) rfl (by decide +kernel) rfl rfl (Nat.le_of_ble_eq_true rfl) dX2_append_33 (fun H locs hP _ hS => ?_)
      have hP : va_P (dC, dI) vwCl (wC ad cI cJ Bc Bl Pk Pr Pl Pc Pm Gf Gt (upd Gx Gm.toNatClampNeg a0) Gd (Gm + (1 : Int32)) Ek Er Ea Ex Em Eb Et Ss Sm Wg Wr Md) H := hP
      rw [hQ9]
      have hf : f_X2_append a0 Gx Gm = ((upd Gx Gm.toNatClampNeg a0), (Gm + (1 : Int32))) := by simp only [f_X2_append, if_neg c1, if_neg c2]
      exact W.vret hx hb hr (fun t ht hW => ⟨⟨(), rfl, True.intro, by rw [hf]; show va_P (dC, dI) vwCl _ t.heap; rw [ht]; exact hP⟩, hS.F ht⟩) hS.2.2 dX2_append_36
theorem q_X2_append {p : Program} {l : Launch} {e : Env} {R : Room} {s : State} {m : MethodId} {args : Array Value} {below : List Frame} {meth : Method} {c : Code} {H : Heap} {locs : List Loc} {cells slots : Nat} {Q : State → Prop} {pc : Nat} {ls : Array Slot} {rest : List Value} {cc : ByteArray} {nL idx : Nat} {own : String} {A0 : Nat → Prop} {dC : Nat → ClassId} {dI : Nat → Nat → Nat} {cI cJ : ClassId} {ad : Nat → Nat} {Bc : Nat → Int64} {Bl : Nat → Int32} {Pk : Nat → Int32} {Pr : Nat → Int32} {Pl : Nat → Int32} {Pc : Nat → Int64} {Pm : Int32} {Gf : Nat → Int32} {Gt : Nat → Int32} {Gx : Nat → Int32} {Gd : Int32} {Gm : Int32} {Ek : Nat → Int32} {Er : Nat → Int32} {Ea : Nat → Int32} {Ex : Nat → Int32} {Em : Int32} {Eb : Int32} {Et : Int32} {Ss : Nat → Int32} {Sm : Int32} {Wg : Nat → Int64} {Wr : Nat → Int64} {Md : Nat → Int64} (hx : p.tables.exec = Jvm.exec) (hb : c.code = cc) (hml : c.maxLocals = nL) (hown : s.vm.findClass own = some m.cls) (hts : ∀ w ∈ bigW, w.before args s = true) (hlk : Cond.methodLink own idx yX2_append ∈ bigW) (hR : 1 ≤ R.frames ∧ 21 ≤ R.locals) (hf : cells + 0 ≤ R.cells ∧ slots + 0 ≤ R.slots) (hz : ls.size = nL) (hw : (rest.map fun v => v.category).sum ≤ 8) (hS : va_S A0 s.heap H locs) (hd : decode cc pc = .ok (.invokevirtual idx, 3)) (hA : ∀ q, fA 23 ad H.size q → A0 q) (hi : fI 23 ad) (hK : va_K (dC, dI) vwCl [(cI, .int), (cJ, .long)] s) (hP : va_P (dC, dI) vwCl (wC ad cI cJ Bc Bl Pk Pr Pl Pc Pm Gf Gt Gx Gd Gm Ek Er Ea Ex Em Eb Et Ss Sm Wg Wr Md) H) (a0 : Int32) (hs : S_X2_append a0 Gx Gm)  (u : (Nat → Int32) × Int32) (hu : u = f_X2_append a0 Gx Gm) (k : ∀ (H1 : Heap) (locs1 : List Loc), va_P (dC, dI) vwCl (wC ad cI cJ Bc Bl Pk Pr Pl Pc Pm Gf Gt u.1 Gd u.2 Ek Er Ea Ex Em Eb Et Ss Sm Wg Wr Md) H1 → va_S A0 s.heap H1 locs1 → W p l e R s m args below meth c H1 locs1 (cells + 0) (slots + 0) Q (F0 m (pc + 3) ls (rest))) : W p l e R s m args below meth c H locs cells slots Q (F0 m pc ls (.int a0 :: .ref (ad 9) :: rest)) := by
  subst hu
  exact va_callv (va_runV (As := [.int a0]) (rest := rest) ⟨hx, hb, hml, hown, hts⟩ (c_X2_append l dC dI cI cJ ad hi H.size Bc Bl Pk Pr Pl Pc Pm Gf Gt Gx Gd Gm Ek Er Ea Ex Em Eb Et Ss Sm Wg Wr Md a0 hs) (kV 1 hts hlk mI_X2_append mN_RX2 mY_X2_append mV_X2_append rfl rfl (by decide +kernel) hR) ⟨fun a U g mk q => ⟨q.1, q.2.1, q.2.2.1, va_K.moved (u := U) (U := U.calling g mk a) (Vm.Alike.refl U.vm) q.2.2.2⟩, va_recv hK hP (ci := 4) (q0 := 9) rfl rfl, fun U hU hW => ⟨rfl, by rw [hU], by rw [hU]; exact hP, va_K.moved hW.alike hK⟩⟩ rfl rfl hz rfl (lv_room hw) hd hf) hS (fun q _ h => hA q h) (fun q h => hA q h) (fun u t H1 locs1 ht hvm hw9 hB hz1 hk1 hS1 => by
    skip
    exact k H1 locs1 (by rw [← ht]; exact hB) hS1)

def f_X2_firstKept (Gf : Nat → Int32) (Gd : Int32) : Int32 := (if Gd ≤ 0 then (0 : Int32) else (if (20 : Int32) < Gd then (0 : Int32) else (Gf (Gd - (1 : Int32)).toNatClampNeg)))
def S_X2_firstKept (Gf : Nat → Int32) (Gd : Int32) : Prop := (Gd ≤ 0 → (True)) ∧ (¬ Gd ≤ 0 → (((20 : Int32) < Gd → (True)) ∧ (¬ (20 : Int32) < Gd → ((vp_in (Gd - (1 : Int32)) 20) ∧ (True)))))
set_option maxHeartbeats 4000000 in
set_option maxRecDepth 100000 in
theorem c_X2_firstKept (l : Launch) (dC : Nat → ClassId) (dI : Nat → Nat → Nat) (cI cJ : ClassId) (ad : Nat → Nat) (hi : fI 23 ad) (sz : Nat) (Bc : Nat → Int64) (Bl : Nat → Int32) (Pk : Nat → Int32) (Pr : Nat → Int32) (Pl : Nat → Int32) (Pc : Nat → Int64) (Pm : Int32) (Gf : Nat → Int32) (Gt : Nat → Int32) (Gx : Nat → Int32) (Gd : Int32) (Gm : Int32) (Ek : Nat → Int32) (Er : Nat → Int32) (Ea : Nat → Int32) (Ex : Nat → Int32) (Em : Int32) (Eb : Int32) (Et : Int32) (Ss : Nat → Int32) (Sm : Int32) (Wg : Nat → Int64) (Wr : Nat → Int64) (Md : Nat → Int64) (hs : S_X2_firstKept Gf Gd) : Met l yX2_firstKept (mW yX2_firstKept cX2_firstKept 1 (some .int)) { frames := 0, cells := 0, slots := 0, locals := 0 } (va_Pc [.ref (ad 9)] (fun U => U.heap.size = sz ∧ va_P (dC, dI) vwCl (wC ad cI cJ Bc Bl Pk Pr Pl Pc Pm Gf Gt Gx Gd Gm Ek Er Ea Ex Em Eb Et Ss Sm Wg Wr Md) U.heap ∧ va_K (dC, dI) vwCl [(cI, .int), (cJ, .long)] U)) (va_Qi (fun (r : Int32) (_ : Unit) => r = f_X2_firstKept Gf Gd) (fun _ t => va_P (dC, dI) vwCl (wC ad cI cJ Bc Bl Pk Pr Pl Pc Pm Gf Gt Gx Gd Gm Ek Er Ea Ex Em Eb Et Ss Sm Wg Wr Md) t.heap) (fA 23 ad sz)) 0 0 (fA 23 ad sz) := by
  refine Met.ofW (cc := cX2_firstKept) (maxL := 1) (ret := (some .int)) (by decide) rfl ?_
  intro p e s m args below meth c s₁ B hml hv
  obtain ⟨rfl, hsz, hP, hK⟩ := hv
  have hx := B.exec
  have hb := B.bytes
  have hr := B.returns
  have hts := mW_hts (atoms_spec (ws := (mW yX2_firstKept cX2_firstKept 1 (some .int))) B.pre)
  have hown : s.vm.findClass RX2 = some m.cls := findClass_of_methodNamed B.named
  have hlocks := B.notSynchronized
  subst hsz
  have hA : ∀ (n : Nat) (q : Nat), s.heap.size ≤ n → n ≤ q → fA 23 ad s.heap.size q := fun n q h1 h2 => Or.inr (Nat.le_trans h1 h2)
  have hS : va_S (fA 23 ad s.heap.size) s.heap s.heap [] := va_S.rf
  have hA : ∀ q, s.heap.size ≤ q → (fA 23 ad s.heap.size) q := fun q h => Or.inr h
  unfold S_X2_firstKept at hs
  have hl := lv_entry ([.ref (ad 9)]) (n := 1) (Nat.le_of_ble_eq_true rfl)
  rw [lg_entry_eq]
  generalize (lg_sl ([.ref (ad 9)]) ++ List.replicate (1 - (lg_sl ([.ref (ad 9)])).length) Slot.unset).toArray = ls at hl ⊢
  have hl : lv_has ls 1 [(0, .ref (ad 9))] := hl
  refine W_gen (fun Q9 hQ9 => ?_)
  refine lv_aload_n hx hb dX2_firstKept_0 rfl (lv_at hl 0 rfl) ?_
  refine va_get (D := (dC, dI)) (ci := 4) (v := .int Gd) (C := RX2) (T := TX2) (N := 5) hx hb hts iW_X2 hown hK hP 9 rfl rfl 3 (by decide) (hts _ mF_RX2_21) (fun _ h9 => h9) rfl dX2_firstKept_1 ?_
  refine lv_if_le (tgt := 30) hx hb dX2_firstKept_4 (by decide) (fun c1 => ?_) (fun c1 => ?_)
  · have hs := hs.1 c1
    refine lv_iconst (v := 0) hx hb dX2_firstKept_30 (by decide) ?_
    rw [hQ9]
    have hf : f_X2_firstKept Gf Gd = (0 : Int32) := by simp only [f_X2_firstKept, if_pos c1]
    exact W.iret (v := (0 : Int32)) hx hb hr (fun t ht hW => ⟨⟨(0 : Int32), (), rfl, by rw [hf], by show va_P (dC, dI) vwCl _ t.heap; rw [ht]; exact hP⟩, hS.F ht⟩) hS.2.2 dX2_firstKept_31
  · have hs := hs.2 c1
    refine lv_aload_n hx hb dX2_firstKept_7 rfl (lv_at hl 0 rfl) ?_
    refine va_get (D := (dC, dI)) (ci := 4) (v := .int Gd) (C := RX2) (T := TX2) (N := 5) hx hb hts iW_X2 hown hK hP 9 rfl rfl 3 (by decide) (hts _ mF_RX2_21) (fun _ h9 => h9) rfl dX2_firstKept_8 ?_
    refine lv_bipush (v := 20) hx hb dX2_firstKept_11 (by decide) ?_
    refine lv_icmp_gt (tgt := 30) hx hb dX2_firstKept_13 (by decide) (fun c2 => ?_) (fun c2 => ?_)
    · have hs := hs.1 c2
      refine lv_iconst (v := 0) hx hb dX2_firstKept_30 (by decide) ?_
      rw [hQ9]
      have hf : f_X2_firstKept Gf Gd = (0 : Int32) := by simp only [f_X2_firstKept, if_neg c1, if_pos c2]
      exact W.iret (v := (0 : Int32)) hx hb hr (fun t ht hW => ⟨⟨(0 : Int32), (), rfl, by rw [hf], by show va_P (dC, dI) vwCl _ t.heap; rw [ht]; exact hP⟩, hS.F ht⟩) hS.2.2 dX2_firstKept_31
    · have hs := hs.2 c2
      refine lv_aload_n hx hb dX2_firstKept_16 rfl (lv_at hl 0 rfl) ?_
      refine va_get (D := (dC, dI)) (ci := 4) (v := .ref (ad 10)) (C := RX2) (T := TX2) (N := 5) hx hb hts iW_X2 hown hK hP 9 rfl rfl 0 (by decide) (hts _ mF_RX2_9) (fun _ h9 => h9) rfl dX2_firstKept_17 ?_
      refine lv_aload_n hx hb dX2_firstKept_20 rfl (lv_at hl 0 rfl) ?_
      refine va_get (D := (dC, dI)) (ci := 4) (v := .int Gd) (C := RX2) (T := TX2) (N := 5) hx hb hts iW_X2 hown hK hP 9 rfl rfl 3 (by decide) (hts _ mF_RX2_21) (fun _ h9 => h9) rfl dX2_firstKept_21 ?_
      refine lv_iconst (v := 1) hx hb dX2_firstKept_24 (by decide) ?_
      refine lv_isub hx hb dX2_firstKept_25 ?_
      obtain ⟨h3, hs⟩ := hs
      refine va_iald hx hb hK hP 10 0 rfl rfl h3 dX2_firstKept_26 ?_
      refine lv_goto (tgt := 31) hx hb dX2_firstKept_27 (by decide) ?_
      rw [hQ9]
      have hf : f_X2_firstKept Gf Gd = (Gf (Gd - (1 : Int32)).toNatClampNeg) := by simp only [f_X2_firstKept, if_neg c1, if_neg c2]
      exact W.iret (v := (Gf (Gd - (1 : Int32)).toNatClampNeg)) hx hb hr (fun t ht hW => ⟨⟨(Gf (Gd - (1 : Int32)).toNatClampNeg), (), rfl, by rw [hf], by show va_P (dC, dI) vwCl _ t.heap; rw [ht]; exact hP⟩, hS.F ht⟩) hS.2.2 dX2_firstKept_31
theorem q_X2_firstKept {p : Program} {l : Launch} {e : Env} {R : Room} {s : State} {m : MethodId} {args : Array Value} {below : List Frame} {meth : Method} {c : Code} {H : Heap} {locs : List Loc} {cells slots : Nat} {Q : State → Prop} {pc : Nat} {ls : Array Slot} {rest : List Value} {cc : ByteArray} {nL idx : Nat} {own : String} {A0 : Nat → Prop} {dC : Nat → ClassId} {dI : Nat → Nat → Nat} {cI cJ : ClassId} {ad : Nat → Nat} {Bc : Nat → Int64} {Bl : Nat → Int32} {Pk : Nat → Int32} {Pr : Nat → Int32} {Pl : Nat → Int32} {Pc : Nat → Int64} {Pm : Int32} {Gf : Nat → Int32} {Gt : Nat → Int32} {Gx : Nat → Int32} {Gd : Int32} {Gm : Int32} {Ek : Nat → Int32} {Er : Nat → Int32} {Ea : Nat → Int32} {Ex : Nat → Int32} {Em : Int32} {Eb : Int32} {Et : Int32} {Ss : Nat → Int32} {Sm : Int32} {Wg : Nat → Int64} {Wr : Nat → Int64} {Md : Nat → Int64} (hx : p.tables.exec = Jvm.exec) (hb : c.code = cc) (hml : c.maxLocals = nL) (hown : s.vm.findClass own = some m.cls) (hts : ∀ w ∈ bigW, w.before args s = true) (hlk : Cond.methodLink own idx yX2_firstKept ∈ bigW) (hR : 1 ≤ R.frames ∧ 20 ≤ R.locals) (hf : cells + 0 ≤ R.cells ∧ slots + 0 ≤ R.slots) (hz : ls.size = nL) (hw : (rest.map fun v => v.category).sum ≤ 8) (hS : va_S A0 s.heap H locs) (hd : decode cc pc = .ok (.invokevirtual idx, 3)) (hA : ∀ q, fA 23 ad H.size q → A0 q) (hi : fI 23 ad) (hK : va_K (dC, dI) vwCl [(cI, .int), (cJ, .long)] s) (hP : va_P (dC, dI) vwCl (wC ad cI cJ Bc Bl Pk Pr Pl Pc Pm Gf Gt Gx Gd Gm Ek Er Ea Ex Em Eb Et Ss Sm Wg Wr Md) H) (hs : S_X2_firstKept Gf Gd)  (u : Int32) (hu : u = f_X2_firstKept Gf Gd) (k : ∀ (H1 : Heap) (locs1 : List Loc), va_P (dC, dI) vwCl (wC ad cI cJ Bc Bl Pk Pr Pl Pc Pm Gf Gt Gx Gd Gm Ek Er Ea Ex Em Eb Et Ss Sm Wg Wr Md) H1 → va_S A0 s.heap H1 locs1 → W p l e R s m args below meth c H1 locs1 (cells + 0) (slots + 0) Q (F0 m (pc + 3) ls (.int u :: rest))) : W p l e R s m args below meth c H locs cells slots Q (F0 m pc ls (.ref (ad 9) :: rest)) := by
  subst hu
  exact va_calli (va_runV (As := []) (rest := rest) ⟨hx, hb, hml, hown, hts⟩ (c_X2_firstKept l dC dI cI cJ ad hi H.size Bc Bl Pk Pr Pl Pc Pm Gf Gt Gx Gd Gm Ek Er Ea Ex Em Eb Et Ss Sm Wg Wr Md hs) (kV 0 hts hlk mI_X2_firstKept mN_RX2 mY_X2_firstKept mV_X2_firstKept rfl rfl (by decide +kernel) hR) ⟨fun a U g mk q => ⟨q.1, q.2.1, q.2.2.1, va_K.moved (u := U) (U := U.calling g mk a) (Vm.Alike.refl U.vm) q.2.2.2⟩, va_recv hK hP (ci := 4) (q0 := 9) rfl rfl, fun U hU hW => ⟨rfl, by rw [hU], by rw [hU]; exact hP, va_K.moved hW.alike hK⟩⟩ rfl rfl hz rfl (lv_room hw) hd hf) hS (fun q _ h => hA q h) (fun q h => hA q h) (fun r u t H1 locs1 ht hvm hw9 hB hz1 hk1 hS1 => by
    subst hw9
    exact k H1 locs1 (by rw [← ht]; exact hB) hS1)

def f_X2_firstToken (Gt : Nat → Int32) (Gd : Int32) : Int32 := (if Gd ≤ 0 then (0 : Int32) else (if (20 : Int32) < Gd then (0 : Int32) else (Gt (Gd - (1 : Int32)).toNatClampNeg)))
def S_X2_firstToken (Gt : Nat → Int32) (Gd : Int32) : Prop := (Gd ≤ 0 → (True)) ∧ (¬ Gd ≤ 0 → (((20 : Int32) < Gd → (True)) ∧ (¬ (20 : Int32) < Gd → ((vp_in (Gd - (1 : Int32)) 20) ∧ (True)))))
set_option maxHeartbeats 4000000 in
set_option maxRecDepth 100000 in
theorem c_X2_firstToken (l : Launch) (dC : Nat → ClassId) (dI : Nat → Nat → Nat) (cI cJ : ClassId) (ad : Nat → Nat) (hi : fI 23 ad) (sz : Nat) (Bc : Nat → Int64) (Bl : Nat → Int32) (Pk : Nat → Int32) (Pr : Nat → Int32) (Pl : Nat → Int32) (Pc : Nat → Int64) (Pm : Int32) (Gf : Nat → Int32) (Gt : Nat → Int32) (Gx : Nat → Int32) (Gd : Int32) (Gm : Int32) (Ek : Nat → Int32) (Er : Nat → Int32) (Ea : Nat → Int32) (Ex : Nat → Int32) (Em : Int32) (Eb : Int32) (Et : Int32) (Ss : Nat → Int32) (Sm : Int32) (Wg : Nat → Int64) (Wr : Nat → Int64) (Md : Nat → Int64) (hs : S_X2_firstToken Gt Gd) : Met l yX2_firstToken (mW yX2_firstToken cX2_firstToken 1 (some .int)) { frames := 0, cells := 0, slots := 0, locals := 0 } (va_Pc [.ref (ad 9)] (fun U => U.heap.size = sz ∧ va_P (dC, dI) vwCl (wC ad cI cJ Bc Bl Pk Pr Pl Pc Pm Gf Gt Gx Gd Gm Ek Er Ea Ex Em Eb Et Ss Sm Wg Wr Md) U.heap ∧ va_K (dC, dI) vwCl [(cI, .int), (cJ, .long)] U)) (va_Qi (fun (r : Int32) (_ : Unit) => r = f_X2_firstToken Gt Gd) (fun _ t => va_P (dC, dI) vwCl (wC ad cI cJ Bc Bl Pk Pr Pl Pc Pm Gf Gt Gx Gd Gm Ek Er Ea Ex Em Eb Et Ss Sm Wg Wr Md) t.heap) (fA 23 ad sz)) 0 0 (fA 23 ad sz) := by
  refine Met.ofW (cc := cX2_firstToken) (maxL := 1) (ret := (some .int)) (by decide) rfl ?_
  intro p e s m args below meth c s₁ B hml hv
  obtain ⟨rfl, hsz, hP, hK⟩ := hv
  have hx := B.exec
  have hb := B.bytes
  have hr := B.returns
  have hts := mW_hts (atoms_spec (ws := (mW yX2_firstToken cX2_firstToken 1 (some .int))) B.pre)
  have hown : s.vm.findClass RX2 = some m.cls := findClass_of_methodNamed B.named
  have hlocks := B.notSynchronized
  subst hsz
  have hA : ∀ (n : Nat) (q : Nat), s.heap.size ≤ n → n ≤ q → fA 23 ad s.heap.size q := fun n q h1 h2 => Or.inr (Nat.le_trans h1 h2)
  have hS : va_S (fA 23 ad s.heap.size) s.heap s.heap [] := va_S.rf
  have hA : ∀ q, s.heap.size ≤ q → (fA 23 ad s.heap.size) q := fun q h => Or.inr h
  unfold S_X2_firstToken at hs
  have hl := lv_entry ([.ref (ad 9)]) (n := 1) (Nat.le_of_ble_eq_true rfl)
  rw [lg_entry_eq]
  generalize (lg_sl ([.ref (ad 9)]) ++ List.replicate (1 - (lg_sl ([.ref (ad 9)])).length) Slot.unset).toArray = ls at hl ⊢
  have hl : lv_has ls 1 [(0, .ref (ad 9))] := hl
  refine W_gen (fun Q9 hQ9 => ?_)
  refine lv_aload_n hx hb dX2_firstToken_0 rfl (lv_at hl 0 rfl) ?_
  refine va_get (D := (dC, dI)) (ci := 4) (v := .int Gd) (C := RX2) (T := TX2) (N := 5) hx hb hts iW_X2 hown hK hP 9 rfl rfl 3 (by decide) (hts _ mF_RX2_21) (fun _ h9 => h9) rfl dX2_firstToken_1 ?_
  refine lv_if_le (tgt := 30) hx hb dX2_firstToken_4 (by decide) (fun c1 => ?_) (fun c1 => ?_)
  · have hs := hs.1 c1
    refine lv_iconst (v := 0) hx hb dX2_firstToken_30 (by decide) ?_
    rw [hQ9]
    have hf : f_X2_firstToken Gt Gd = (0 : Int32) := by simp only [f_X2_firstToken, if_pos c1]
    exact W.iret (v := (0 : Int32)) hx hb hr (fun t ht hW => ⟨⟨(0 : Int32), (), rfl, by rw [hf], by show va_P (dC, dI) vwCl _ t.heap; rw [ht]; exact hP⟩, hS.F ht⟩) hS.2.2 dX2_firstToken_31
  · have hs := hs.2 c1
    refine lv_aload_n hx hb dX2_firstToken_7 rfl (lv_at hl 0 rfl) ?_
    refine va_get (D := (dC, dI)) (ci := 4) (v := .int Gd) (C := RX2) (T := TX2) (N := 5) hx hb hts iW_X2 hown hK hP 9 rfl rfl 3 (by decide) (hts _ mF_RX2_21) (fun _ h9 => h9) rfl dX2_firstToken_8 ?_
    refine lv_bipush (v := 20) hx hb dX2_firstToken_11 (by decide) ?_
    refine lv_icmp_gt (tgt := 30) hx hb dX2_firstToken_13 (by decide) (fun c2 => ?_) (fun c2 => ?_)
    · have hs := hs.1 c2
      refine lv_iconst (v := 0) hx hb dX2_firstToken_30 (by decide) ?_
      rw [hQ9]
      have hf : f_X2_firstToken Gt Gd = (0 : Int32) := by simp only [f_X2_firstToken, if_neg c1, if_pos c2]
      exact W.iret (v := (0 : Int32)) hx hb hr (fun t ht hW => ⟨⟨(0 : Int32), (), rfl, by rw [hf], by show va_P (dC, dI) vwCl _ t.heap; rw [ht]; exact hP⟩, hS.F ht⟩) hS.2.2 dX2_firstToken_31
    · have hs := hs.2 c2
      refine lv_aload_n hx hb dX2_firstToken_16 rfl (lv_at hl 0 rfl) ?_
      refine va_get (D := (dC, dI)) (ci := 4) (v := .ref (ad 11)) (C := RX2) (T := TX2) (N := 5) hx hb hts iW_X2 hown hK hP 9 rfl rfl 1 (by decide) (hts _ mF_RX2_15) (fun _ h9 => h9) rfl dX2_firstToken_17 ?_
      refine lv_aload_n hx hb dX2_firstToken_20 rfl (lv_at hl 0 rfl) ?_
      refine va_get (D := (dC, dI)) (ci := 4) (v := .int Gd) (C := RX2) (T := TX2) (N := 5) hx hb hts iW_X2 hown hK hP 9 rfl rfl 3 (by decide) (hts _ mF_RX2_21) (fun _ h9 => h9) rfl dX2_firstToken_21 ?_
      refine lv_iconst (v := 1) hx hb dX2_firstToken_24 (by decide) ?_
      refine lv_isub hx hb dX2_firstToken_25 ?_
      obtain ⟨h3, hs⟩ := hs
      refine va_iald hx hb hK hP 11 0 rfl rfl h3 dX2_firstToken_26 ?_
      refine lv_goto (tgt := 31) hx hb dX2_firstToken_27 (by decide) ?_
      rw [hQ9]
      have hf : f_X2_firstToken Gt Gd = (Gt (Gd - (1 : Int32)).toNatClampNeg) := by simp only [f_X2_firstToken, if_neg c1, if_neg c2]
      exact W.iret (v := (Gt (Gd - (1 : Int32)).toNatClampNeg)) hx hb hr (fun t ht hW => ⟨⟨(Gt (Gd - (1 : Int32)).toNatClampNeg), (), rfl, by rw [hf], by show va_P (dC, dI) vwCl _ t.heap; rw [ht]; exact hP⟩, hS.F ht⟩) hS.2.2 dX2_firstToken_31
theorem q_X2_firstToken {p : Program} {l : Launch} {e : Env} {R : Room} {s : State} {m : MethodId} {args : Array Value} {below : List Frame} {meth : Method} {c : Code} {H : Heap} {locs : List Loc} {cells slots : Nat} {Q : State → Prop} {pc : Nat} {ls : Array Slot} {rest : List Value} {cc : ByteArray} {nL idx : Nat} {own : String} {A0 : Nat → Prop} {dC : Nat → ClassId} {dI : Nat → Nat → Nat} {cI cJ : ClassId} {ad : Nat → Nat} {Bc : Nat → Int64} {Bl : Nat → Int32} {Pk : Nat → Int32} {Pr : Nat → Int32} {Pl : Nat → Int32} {Pc : Nat → Int64} {Pm : Int32} {Gf : Nat → Int32} {Gt : Nat → Int32} {Gx : Nat → Int32} {Gd : Int32} {Gm : Int32} {Ek : Nat → Int32} {Er : Nat → Int32} {Ea : Nat → Int32} {Ex : Nat → Int32} {Em : Int32} {Eb : Int32} {Et : Int32} {Ss : Nat → Int32} {Sm : Int32} {Wg : Nat → Int64} {Wr : Nat → Int64} {Md : Nat → Int64} (hx : p.tables.exec = Jvm.exec) (hb : c.code = cc) (hml : c.maxLocals = nL) (hown : s.vm.findClass own = some m.cls) (hts : ∀ w ∈ bigW, w.before args s = true) (hlk : Cond.methodLink own idx yX2_firstToken ∈ bigW) (hR : 1 ≤ R.frames ∧ 20 ≤ R.locals) (hf : cells + 0 ≤ R.cells ∧ slots + 0 ≤ R.slots) (hz : ls.size = nL) (hw : (rest.map fun v => v.category).sum ≤ 8) (hS : va_S A0 s.heap H locs) (hd : decode cc pc = .ok (.invokevirtual idx, 3)) (hA : ∀ q, fA 23 ad H.size q → A0 q) (hi : fI 23 ad) (hK : va_K (dC, dI) vwCl [(cI, .int), (cJ, .long)] s) (hP : va_P (dC, dI) vwCl (wC ad cI cJ Bc Bl Pk Pr Pl Pc Pm Gf Gt Gx Gd Gm Ek Er Ea Ex Em Eb Et Ss Sm Wg Wr Md) H) (hs : S_X2_firstToken Gt Gd)  (u : Int32) (hu : u = f_X2_firstToken Gt Gd) (k : ∀ (H1 : Heap) (locs1 : List Loc), va_P (dC, dI) vwCl (wC ad cI cJ Bc Bl Pk Pr Pl Pc Pm Gf Gt Gx Gd Gm Ek Er Ea Ex Em Eb Et Ss Sm Wg Wr Md) H1 → va_S A0 s.heap H1 locs1 → W p l e R s m args below meth c H1 locs1 (cells + 0) (slots + 0) Q (F0 m (pc + 3) ls (.int u :: rest))) : W p l e R s m args below meth c H locs cells slots Q (F0 m pc ls (.ref (ad 9) :: rest)) := by
  subst hu
  exact va_calli (va_runV (As := []) (rest := rest) ⟨hx, hb, hml, hown, hts⟩ (c_X2_firstToken l dC dI cI cJ ad hi H.size Bc Bl Pk Pr Pl Pc Pm Gf Gt Gx Gd Gm Ek Er Ea Ex Em Eb Et Ss Sm Wg Wr Md hs) (kV 0 hts hlk mI_X2_firstToken mN_RX2 mY_X2_firstToken mV_X2_firstToken rfl rfl (by decide +kernel) hR) ⟨fun a U g mk q => ⟨q.1, q.2.1, q.2.2.1, va_K.moved (u := U) (U := U.calling g mk a) (Vm.Alike.refl U.vm) q.2.2.2⟩, va_recv hK hP (ci := 4) (q0 := 9) rfl rfl, fun U hU hW => ⟨rfl, by rw [hU], by rw [hU]; exact hP, va_K.moved hW.alike hK⟩⟩ rfl rfl hz rfl (lv_room hw) hd hf) hS (fun q _ h => hA q h) (fun q h => hA q h) (fun r u t H1 locs1 ht hvm hw9 hB hz1 hk1 hS1 => by
    subst hw9
    exact k H1 locs1 (by rw [← ht]; exact hB) hS1)

def f_X2_close (Gt : Nat → Int32) (Gd : Int32) (Gm : Int32) : Int32 × Int32 := (if Gd ≤ 0 then (Gd, Gm) else (let u3 := f_X2_firstToken Gt Gd; ((Gd - (1 : Int32)), u3)))
def S_X2_close (Gt : Nat → Int32) (Gd : Int32) (Gm : Int32) : Prop := (Gd ≤ 0 → (True)) ∧ (¬ Gd ≤ 0 → ((S_X2_firstToken Gt Gd) ∧ (∀ u3, u3 = f_X2_firstToken Gt Gd → (True))))
set_option maxHeartbeats 4000000 in
set_option maxRecDepth 100000 in
theorem c_X2_close (l : Launch) (dC : Nat → ClassId) (dI : Nat → Nat → Nat) (cI cJ : ClassId) (ad : Nat → Nat) (hi : fI 23 ad) (sz : Nat) (Bc : Nat → Int64) (Bl : Nat → Int32) (Pk : Nat → Int32) (Pr : Nat → Int32) (Pl : Nat → Int32) (Pc : Nat → Int64) (Pm : Int32) (Gf : Nat → Int32) (Gt : Nat → Int32) (Gx : Nat → Int32) (Gd : Int32) (Gm : Int32) (Ek : Nat → Int32) (Er : Nat → Int32) (Ea : Nat → Int32) (Ex : Nat → Int32) (Em : Int32) (Eb : Int32) (Et : Int32) (Ss : Nat → Int32) (Sm : Int32) (Wg : Nat → Int64) (Wr : Nat → Int64) (Md : Nat → Int64) (hs : S_X2_close Gt Gd Gm) : Met l yX2_close (mW yX2_close cX2_close 1 none) { frames := 1, cells := 0, slots := 0, locals := 20 } (va_Pc [.ref (ad 9)] (fun U => U.heap.size = sz ∧ va_P (dC, dI) vwCl (wC ad cI cJ Bc Bl Pk Pr Pl Pc Pm Gf Gt Gx Gd Gm Ek Er Ea Ex Em Eb Et Ss Sm Wg Wr Md) U.heap ∧ va_K (dC, dI) vwCl [(cI, .int), (cJ, .long)] U)) (va_Qv (fun (_ : Unit) => True) (fun _ t => va_P (dC, dI) vwCl (wC ad cI cJ Bc Bl Pk Pr Pl Pc Pm Gf Gt Gx ((f_X2_close Gt Gd Gm).1) ((f_X2_close Gt Gd Gm).2) Ek Er Ea Ex Em Eb Et Ss Sm Wg Wr Md) t.heap) (fA 23 ad sz)) 0 0 (fA 23 ad sz) := by
  refine Met.ofW (cc := cX2_close) (maxL := 1) (ret := none) (by decide) rfl ?_
  intro p e s m args below meth c s₁ B hml hv
  obtain ⟨rfl, hsz, hP, hK⟩ := hv
  have hx := B.exec
  have hb := B.bytes
  have hr := B.returns
  have hts := mW_hts (atoms_spec (ws := (mW yX2_close cX2_close 1 none)) B.pre)
  have hown : s.vm.findClass RX2 = some m.cls := findClass_of_methodNamed B.named
  have hlocks := B.notSynchronized
  subst hsz
  have hA : ∀ (n : Nat) (q : Nat), s.heap.size ≤ n → n ≤ q → fA 23 ad s.heap.size q := fun n q h1 h2 => Or.inr (Nat.le_trans h1 h2)
  have hS : va_S (fA 23 ad s.heap.size) s.heap s.heap [] := va_S.rf
  have hA : ∀ q, s.heap.size ≤ q → (fA 23 ad s.heap.size) q := fun q h => Or.inr h
  unfold S_X2_close at hs
  have hl := lv_entry ([.ref (ad 9)]) (n := 1) (Nat.le_of_ble_eq_true rfl)
  rw [lg_entry_eq]
  generalize (lg_sl ([.ref (ad 9)]) ++ List.replicate (1 - (lg_sl ([.ref (ad 9)])).length) Slot.unset).toArray = ls at hl ⊢
  have hl : lv_has ls 1 [(0, .ref (ad 9))] := hl
  refine W_gen (fun Q9 hQ9 => ?_)
  refine lv_aload_n hx hb dX2_close_0 rfl (lv_at hl 0 rfl) ?_
  refine va_get (D := (dC, dI)) (ci := 4) (v := .int Gd) (C := RX2) (T := TX2) (N := 5) hx hb hts iW_X2 hown hK hP 9 rfl rfl 3 (by decide) (hts _ mF_RX2_21) (fun _ h9 => h9) rfl dX2_close_1 ?_
  refine lv_if_le (tgt := 25) hx hb dX2_close_4 (by decide) (fun c1 => ?_) (fun c1 => ?_)
  · have hs := hs.1 c1
    rw [hQ9]
    have hf : f_X2_close Gt Gd Gm = (Gd, Gm) := by simp only [f_X2_close, if_pos c1]
    exact W.vret hx hb hr (fun t ht hW => ⟨⟨(), rfl, True.intro, by rw [hf]; show va_P (dC, dI) vwCl _ t.heap; rw [ht]; exact hP⟩, hS.F ht⟩) hS.2.2 dX2_close_25
  · have hs := hs.2 c1
    refine lv_aload_n hx hb dX2_close_7 rfl (lv_at hl 0 rfl) ?_
    refine lv_aload_n hx hb dX2_close_8 rfl (lv_at hl 0 rfl) ?_
    obtain ⟨h2, hs⟩ := hs
    obtain ⟨u3, hu3⟩ : ∃ z, z = f_X2_firstToken Gt Gd := ⟨_, rfl⟩
    have hs := hs u3 hu3
    refine q_X2_firstToken hx hb hml hown hts mM_RX2_28 ⟨Nat.le_of_ble_eq_true rfl, Nat.le_of_ble_eq_true rfl⟩ ⟨Nat.le_of_ble_eq_true rfl, Nat.le_of_ble_eq_true rfl⟩ hl.1 (Nat.le_of_ble_eq_true rfl) hS dX2_close_9 (fun _ h9 => fA_mono hS.1 h9) hi hK hP h2 u3 hu3 (fun H locs hP hS => ?_)
    refine va_put (D := (dC, dI)) (ci := 4) (v := .int u3) (ty := .int) (C := RX2) (T := TX2) (N := 5) hx hb hts iW_X2 tyX2 tyX2_ok nmX2 hown hK hP (fA_D hi rfl) hS 9 rfl rfl 4 (by decide) (hts _ mF_RX2_25) (fun _ h9 => h9) rfl (by decide +kernel) rfl rfl (Nat.le_of_ble_eq_true rfl) dX2_close_12 (fun H locs hP _ hS => ?_)
    have hP : va_P (dC, dI) vwCl (wC ad cI cJ Bc Bl Pk Pr Pl Pc Pm Gf Gt Gx Gd u3 Ek Er Ea Ex Em Eb Et Ss Sm Wg Wr Md) H := hP
    refine lv_aload_n hx hb dX2_close_15 rfl (lv_at hl 0 rfl) ?_
    refine lv_dup hx hb dX2_close_16 rfl ?_
    refine va_get (D := (dC, dI)) (ci := 4) (v := .int Gd) (C := RX2) (T := TX2) (N := 5) hx hb hts iW_X2 hown hK hP 9 rfl rfl 3 (by decide) (hts _ mF_RX2_21) (fun _ h9 => h9) rfl dX2_close_17 ?_
    refine lv_iconst (v := 1) hx hb dX2_close_20 (by decide) ?_
    refine lv_isub hx hb dX2_close_21 ?_
    refine va_put (D := (dC, dI)) (ci := 4) (v := .int (Gd - (1 : Int32))) (ty := .int) (C := RX2) (T := TX2) (N := 5) hx hb hts iW_X2 tyX2 tyX2_ok nmX2 hown hK hP (fA_D hi rfl) hS 9 rfl rfl 3 (by decide) (hts _ mF_RX2_21) (fun _ h9 => h9) rfl (by decide +kernel) rfl rfl (Nat.le_of_ble_eq_true rfl) dX2_close_22 (fun H locs hP _ hS => ?_)
    have hP : va_P (dC, dI) vwCl (wC ad cI cJ Bc Bl Pk Pr Pl Pc Pm Gf Gt Gx (Gd - (1 : Int32)) u3 Ek Er Ea Ex Em Eb Et Ss Sm Wg Wr Md) H := hP
    rw [hQ9]
    have hf : f_X2_close Gt Gd Gm = ((Gd - (1 : Int32)), u3) := by simp only [f_X2_close, if_neg c1, ← hu3]
    exact W.vret hx hb hr (fun t ht hW => ⟨⟨(), rfl, True.intro, by rw [hf]; show va_P (dC, dI) vwCl _ t.heap; rw [ht]; exact hP⟩, hS.F ht⟩) hS.2.2 dX2_close_25
theorem q_X2_close {p : Program} {l : Launch} {e : Env} {R : Room} {s : State} {m : MethodId} {args : Array Value} {below : List Frame} {meth : Method} {c : Code} {H : Heap} {locs : List Loc} {cells slots : Nat} {Q : State → Prop} {pc : Nat} {ls : Array Slot} {rest : List Value} {cc : ByteArray} {nL idx : Nat} {own : String} {A0 : Nat → Prop} {dC : Nat → ClassId} {dI : Nat → Nat → Nat} {cI cJ : ClassId} {ad : Nat → Nat} {Bc : Nat → Int64} {Bl : Nat → Int32} {Pk : Nat → Int32} {Pr : Nat → Int32} {Pl : Nat → Int32} {Pc : Nat → Int64} {Pm : Int32} {Gf : Nat → Int32} {Gt : Nat → Int32} {Gx : Nat → Int32} {Gd : Int32} {Gm : Int32} {Ek : Nat → Int32} {Er : Nat → Int32} {Ea : Nat → Int32} {Ex : Nat → Int32} {Em : Int32} {Eb : Int32} {Et : Int32} {Ss : Nat → Int32} {Sm : Int32} {Wg : Nat → Int64} {Wr : Nat → Int64} {Md : Nat → Int64} (hx : p.tables.exec = Jvm.exec) (hb : c.code = cc) (hml : c.maxLocals = nL) (hown : s.vm.findClass own = some m.cls) (hts : ∀ w ∈ bigW, w.before args s = true) (hlk : Cond.methodLink own idx yX2_close ∈ bigW) (hR : 2 ≤ R.frames ∧ 40 ≤ R.locals) (hf : cells + 0 ≤ R.cells ∧ slots + 0 ≤ R.slots) (hz : ls.size = nL) (hw : (rest.map fun v => v.category).sum ≤ 8) (hS : va_S A0 s.heap H locs) (hd : decode cc pc = .ok (.invokevirtual idx, 3)) (hA : ∀ q, fA 23 ad H.size q → A0 q) (hi : fI 23 ad) (hK : va_K (dC, dI) vwCl [(cI, .int), (cJ, .long)] s) (hP : va_P (dC, dI) vwCl (wC ad cI cJ Bc Bl Pk Pr Pl Pc Pm Gf Gt Gx Gd Gm Ek Er Ea Ex Em Eb Et Ss Sm Wg Wr Md) H) (hs : S_X2_close Gt Gd Gm)  (u : Int32 × Int32) (hu : u = f_X2_close Gt Gd Gm) (k : ∀ (H1 : Heap) (locs1 : List Loc), va_P (dC, dI) vwCl (wC ad cI cJ Bc Bl Pk Pr Pl Pc Pm Gf Gt Gx u.1 u.2 Ek Er Ea Ex Em Eb Et Ss Sm Wg Wr Md) H1 → va_S A0 s.heap H1 locs1 → W p l e R s m args below meth c H1 locs1 (cells + 0) (slots + 0) Q (F0 m (pc + 3) ls (rest))) : W p l e R s m args below meth c H locs cells slots Q (F0 m pc ls (.ref (ad 9) :: rest)) := by
  subst hu
  exact va_callv (va_runV (As := []) (rest := rest) ⟨hx, hb, hml, hown, hts⟩ (c_X2_close l dC dI cI cJ ad hi H.size Bc Bl Pk Pr Pl Pc Pm Gf Gt Gx Gd Gm Ek Er Ea Ex Em Eb Et Ss Sm Wg Wr Md hs) (kV 0 hts hlk mI_X2_close mN_RX2 mY_X2_close mV_X2_close rfl rfl (by decide +kernel) hR) ⟨fun a U g mk q => ⟨q.1, q.2.1, q.2.2.1, va_K.moved (u := U) (U := U.calling g mk a) (Vm.Alike.refl U.vm) q.2.2.2⟩, va_recv hK hP (ci := 4) (q0 := 9) rfl rfl, fun U hU hW => ⟨rfl, by rw [hU], by rw [hU]; exact hP, va_K.moved hW.alike hK⟩⟩ rfl rfl hz rfl (lv_room hw) hd hf) hS (fun q _ h => hA q h) (fun q h => hA q h) (fun u t H1 locs1 ht hvm hw9 hB hz1 hk1 hS1 => by
    skip
    exact k H1 locs1 (by rw [← ht]; exact hB) hS1)

def f_X1_clear (Em : Int32) (Eb : Int32) (Et : Int32) : Int32 × Int32 × Int32 := ((0 : Int32), (0 : Int32), (0 : Int32))
set_option maxHeartbeats 4000000 in
set_option maxRecDepth 100000 in
theorem c_X1_clear (l : Launch) (dC : Nat → ClassId) (dI : Nat → Nat → Nat) (cI cJ : ClassId) (ad : Nat → Nat) (hi : fI 23 ad) (sz : Nat) (Bc : Nat → Int64) (Bl : Nat → Int32) (Pk : Nat → Int32) (Pr : Nat → Int32) (Pl : Nat → Int32) (Pc : Nat → Int64) (Pm : Int32) (Gf : Nat → Int32) (Gt : Nat → Int32) (Gx : Nat → Int32) (Gd : Int32) (Gm : Int32) (Ek : Nat → Int32) (Er : Nat → Int32) (Ea : Nat → Int32) (Ex : Nat → Int32) (Em : Int32) (Eb : Int32) (Et : Int32) (Ss : Nat → Int32) (Sm : Int32) (Wg : Nat → Int64) (Wr : Nat → Int64) (Md : Nat → Int64) : Met l yX1_clear (mW yX1_clear cX1_clear 1 none) { frames := 0, cells := 0, slots := 0, locals := 0 } (va_Pc [.ref (ad 13)] (fun U => U.heap.size = sz ∧ va_P (dC, dI) vwCl (wC ad cI cJ Bc Bl Pk Pr Pl Pc Pm Gf Gt Gx Gd Gm Ek Er Ea Ex Em Eb Et Ss Sm Wg Wr Md) U.heap ∧ va_K (dC, dI) vwCl [(cI, .int), (cJ, .long)] U)) (va_Qv (fun (_ : Unit) => True) (fun _ t => va_P (dC, dI) vwCl (wC ad cI cJ Bc Bl Pk Pr Pl Pc Pm Gf Gt Gx Gd Gm Ek Er Ea Ex ((f_X1_clear Em Eb Et).1) ((f_X1_clear Em Eb Et).2.1) ((f_X1_clear Em Eb Et).2.2) Ss Sm Wg Wr Md) t.heap) (fA 23 ad sz)) 0 0 (fA 23 ad sz) := by
  refine Met.ofW (cc := cX1_clear) (maxL := 1) (ret := none) (by decide) rfl ?_
  intro p e s m args below meth c s₁ B hml hv
  obtain ⟨rfl, hsz, hP, hK⟩ := hv
  have hx := B.exec
  have hb := B.bytes
  have hr := B.returns
  have hts := mW_hts (atoms_spec (ws := (mW yX1_clear cX1_clear 1 none)) B.pre)
  have hown : s.vm.findClass RX1 = some m.cls := findClass_of_methodNamed B.named
  have hlocks := B.notSynchronized
  subst hsz
  have hA : ∀ (n : Nat) (q : Nat), s.heap.size ≤ n → n ≤ q → fA 23 ad s.heap.size q := fun n q h1 h2 => Or.inr (Nat.le_trans h1 h2)
  have hS : va_S (fA 23 ad s.heap.size) s.heap s.heap [] := va_S.rf
  have hA : ∀ q, s.heap.size ≤ q → (fA 23 ad s.heap.size) q := fun q h => Or.inr h
  have hl := lv_entry ([.ref (ad 13)]) (n := 1) (Nat.le_of_ble_eq_true rfl)
  rw [lg_entry_eq]
  generalize (lg_sl ([.ref (ad 13)]) ++ List.replicate (1 - (lg_sl ([.ref (ad 13)])).length) Slot.unset).toArray = ls at hl ⊢
  have hl : lv_has ls 1 [(0, .ref (ad 13))] := hl
  refine W_gen (fun Q9 hQ9 => ?_)
  refine lv_aload_n hx hb dX1_clear_0 rfl (lv_at hl 0 rfl) ?_
  refine lv_iconst (v := 0) hx hb dX1_clear_1 (by decide) ?_
  refine va_put (D := (dC, dI)) (ci := 3) (v := .int (0 : Int32)) (ty := .int) (C := RX1) (T := TX1) (N := 7) hx hb hts iW_X1 tyX1 tyX1_ok nmX1 hown hK hP (fA_D hi rfl) hS 13 rfl rfl 4 (by decide) (hts _ mF_RX1_24) (fun _ h9 => h9) rfl (by decide +kernel) rfl rfl (Nat.le_of_ble_eq_true rfl) dX1_clear_2 (fun H locs hP _ hS => ?_)
  have hP : va_P (dC, dI) vwCl (wC ad cI cJ Bc Bl Pk Pr Pl Pc Pm Gf Gt Gx Gd Gm Ek Er Ea Ex (0 : Int32) Eb Et Ss Sm Wg Wr Md) H := hP
  refine lv_aload_n hx hb dX1_clear_5 rfl (lv_at hl 0 rfl) ?_
  refine lv_iconst (v := 0) hx hb dX1_clear_6 (by decide) ?_
  refine va_put (D := (dC, dI)) (ci := 3) (v := .int (0 : Int32)) (ty := .int) (C := RX1) (T := TX1) (N := 7) hx hb hts iW_X1 tyX1 tyX1_ok nmX1 hown hK hP (fA_D hi rfl) hS 13 rfl rfl 5 (by decide) (hts _ mF_RX1_28) (fun _ h9 => h9) rfl (by decide +kernel) rfl rfl (Nat.le_of_ble_eq_true rfl) dX1_clear_7 (fun H locs hP _ hS => ?_)
  have hP : va_P (dC, dI) vwCl (wC ad cI cJ Bc Bl Pk Pr Pl Pc Pm Gf Gt Gx Gd Gm Ek Er Ea Ex (0 : Int32) (0 : Int32) Et Ss Sm Wg Wr Md) H := hP
  refine lv_aload_n hx hb dX1_clear_10 rfl (lv_at hl 0 rfl) ?_
  refine lv_iconst (v := 0) hx hb dX1_clear_11 (by decide) ?_
  refine va_put (D := (dC, dI)) (ci := 3) (v := .int (0 : Int32)) (ty := .int) (C := RX1) (T := TX1) (N := 7) hx hb hts iW_X1 tyX1 tyX1_ok nmX1 hown hK hP (fA_D hi rfl) hS 13 rfl rfl 6 (by decide) (hts _ mF_RX1_31) (fun _ h9 => h9) rfl (by decide +kernel) rfl rfl (Nat.le_of_ble_eq_true rfl) dX1_clear_12 (fun H locs hP _ hS => ?_)
  have hP : va_P (dC, dI) vwCl (wC ad cI cJ Bc Bl Pk Pr Pl Pc Pm Gf Gt Gx Gd Gm Ek Er Ea Ex (0 : Int32) (0 : Int32) (0 : Int32) Ss Sm Wg Wr Md) H := hP
  rw [hQ9]
  have hf : f_X1_clear Em Eb Et = ((0 : Int32), (0 : Int32), (0 : Int32)) := by simp only [f_X1_clear]
  exact W.vret hx hb hr (fun t ht hW => ⟨⟨(), rfl, True.intro, by rw [hf]; show va_P (dC, dI) vwCl _ t.heap; rw [ht]; exact hP⟩, hS.F ht⟩) hS.2.2 dX1_clear_15
theorem q_X1_clear {p : Program} {l : Launch} {e : Env} {R : Room} {s : State} {m : MethodId} {args : Array Value} {below : List Frame} {meth : Method} {c : Code} {H : Heap} {locs : List Loc} {cells slots : Nat} {Q : State → Prop} {pc : Nat} {ls : Array Slot} {rest : List Value} {cc : ByteArray} {nL idx : Nat} {own : String} {A0 : Nat → Prop} {dC : Nat → ClassId} {dI : Nat → Nat → Nat} {cI cJ : ClassId} {ad : Nat → Nat} {Bc : Nat → Int64} {Bl : Nat → Int32} {Pk : Nat → Int32} {Pr : Nat → Int32} {Pl : Nat → Int32} {Pc : Nat → Int64} {Pm : Int32} {Gf : Nat → Int32} {Gt : Nat → Int32} {Gx : Nat → Int32} {Gd : Int32} {Gm : Int32} {Ek : Nat → Int32} {Er : Nat → Int32} {Ea : Nat → Int32} {Ex : Nat → Int32} {Em : Int32} {Eb : Int32} {Et : Int32} {Ss : Nat → Int32} {Sm : Int32} {Wg : Nat → Int64} {Wr : Nat → Int64} {Md : Nat → Int64} (hx : p.tables.exec = Jvm.exec) (hb : c.code = cc) (hml : c.maxLocals = nL) (hown : s.vm.findClass own = some m.cls) (hts : ∀ w ∈ bigW, w.before args s = true) (hlk : Cond.methodLink own idx yX1_clear ∈ bigW) (hR : 1 ≤ R.frames ∧ 20 ≤ R.locals) (hf : cells + 0 ≤ R.cells ∧ slots + 0 ≤ R.slots) (hz : ls.size = nL) (hw : (rest.map fun v => v.category).sum ≤ 8) (hS : va_S A0 s.heap H locs) (hd : decode cc pc = .ok (.invokevirtual idx, 3)) (hA : ∀ q, fA 23 ad H.size q → A0 q) (hi : fI 23 ad) (hK : va_K (dC, dI) vwCl [(cI, .int), (cJ, .long)] s) (hP : va_P (dC, dI) vwCl (wC ad cI cJ Bc Bl Pk Pr Pl Pc Pm Gf Gt Gx Gd Gm Ek Er Ea Ex Em Eb Et Ss Sm Wg Wr Md) H)  (u : Int32 × Int32 × Int32) (hu : u = f_X1_clear Em Eb Et) (k : ∀ (H1 : Heap) (locs1 : List Loc), va_P (dC, dI) vwCl (wC ad cI cJ Bc Bl Pk Pr Pl Pc Pm Gf Gt Gx Gd Gm Ek Er Ea Ex u.1 u.2.1 u.2.2 Ss Sm Wg Wr Md) H1 → va_S A0 s.heap H1 locs1 → W p l e R s m args below meth c H1 locs1 (cells + 0) (slots + 0) Q (F0 m (pc + 3) ls (rest))) : W p l e R s m args below meth c H locs cells slots Q (F0 m pc ls (.ref (ad 13) :: rest)) := by
  subst hu
  exact va_callv (va_runV (As := []) (rest := rest) ⟨hx, hb, hml, hown, hts⟩ (c_X1_clear l dC dI cI cJ ad hi H.size Bc Bl Pk Pr Pl Pc Pm Gf Gt Gx Gd Gm Ek Er Ea Ex Em Eb Et Ss Sm Wg Wr Md) (kV 0 hts hlk mI_X1_clear mN_RX1 mY_X1_clear mV_X1_clear rfl rfl (by decide +kernel) hR) ⟨fun a U g mk q => ⟨q.1, q.2.1, q.2.2.1, va_K.moved (u := U) (U := U.calling g mk a) (Vm.Alike.refl U.vm) q.2.2.2⟩, va_recv hK hP (ci := 3) (q0 := 13) rfl rfl, fun U hU hW => ⟨rfl, by rw [hU], by rw [hU]; exact hP, va_K.moved hW.alike hK⟩⟩ rfl rfl hz rfl (lv_room hw) hd hf) hS (fun q _ h => hA q h) (fun q h => hA q h) (fun u t H1 locs1 ht hvm hw9 hB hz1 hk1 hS1 => by
    skip
    exact k H1 locs1 (by rw [← ht]; exact hB) hS1)

def f_X1_append (a0 : Int32) (a1 : Int32) (a2 : Int32) (Ek : Nat → Int32) (Er : Nat → Int32) (Ea : Nat → Int32) (Em : Int32) (Eb : Int32) : (Nat → Int32) × (Nat → Int32) × (Nat → Int32) × Int32 × Int32 := (if Em < 0 then (Ek, Er, Ea, Em, Eb) else (if (200 : Int32) ≤ Em then (Ek, Er, Ea, Em, Eb) else (if a2 = 0 then ((upd Ek Em.toNatClampNeg a0), (upd Er Em.toNatClampNeg a1), (upd Ea Em.toNatClampNeg (0 : Int32)), (Em + (1 : Int32)), (Eb + ((upd Ea Em.toNatClampNeg (0 : Int32)) Em.toNatClampNeg))) else ((upd Ek Em.toNatClampNeg a0), (upd Er Em.toNatClampNeg a1), (upd Ea Em.toNatClampNeg (1 : Int32)), (Em + (1 : Int32)), (Eb + ((upd Ea Em.toNatClampNeg (1 : Int32)) Em.toNatClampNeg))))))
def S_X1_append (a0 : Int32) (a1 : Int32) (a2 : Int32) (Ek : Nat → Int32) (Er : Nat → Int32) (Ea : Nat → Int32) (Em : Int32) (Eb : Int32) : Prop := (Em < 0 → (True)) ∧ (¬ Em < 0 → (((200 : Int32) ≤ Em → (True)) ∧ (¬ (200 : Int32) ≤ Em → ((vp_in Em 200) ∧ ((vp_in Em 200) ∧ ((a2 = 0 → ((vp_in Em 200) ∧ ((vp_in Em 200) ∧ (True)))) ∧ (¬ a2 = 0 → ((vp_in Em 200) ∧ ((vp_in Em 200) ∧ (True))))))))))
set_option maxHeartbeats 4000000 in
set_option maxRecDepth 100000 in
theorem c_X1_append (l : Launch) (dC : Nat → ClassId) (dI : Nat → Nat → Nat) (cI cJ : ClassId) (ad : Nat → Nat) (hi : fI 23 ad) (sz : Nat) (Bc : Nat → Int64) (Bl : Nat → Int32) (Pk : Nat → Int32) (Pr : Nat → Int32) (Pl : Nat → Int32) (Pc : Nat → Int64) (Pm : Int32) (Gf : Nat → Int32) (Gt : Nat → Int32) (Gx : Nat → Int32) (Gd : Int32) (Gm : Int32) (Ek : Nat → Int32) (Er : Nat → Int32) (Ea : Nat → Int32) (Ex : Nat → Int32) (Em : Int32) (Eb : Int32) (Et : Int32) (Ss : Nat → Int32) (Sm : Int32) (Wg : Nat → Int64) (Wr : Nat → Int64) (Md : Nat → Int64) (a0 : Int32) (a1 : Int32) (a2 : Int32) (hs : S_X1_append a0 a1 a2 Ek Er Ea Em Eb) : Met l yX1_append (mW yX1_append cX1_append 4 none) { frames := 0, cells := 0, slots := 0, locals := 0 } (va_Pc [.ref (ad 13), .int a0, .int a1, .int a2] (fun U => U.heap.size = sz ∧ va_P (dC, dI) vwCl (wC ad cI cJ Bc Bl Pk Pr Pl Pc Pm Gf Gt Gx Gd Gm Ek Er Ea Ex Em Eb Et Ss Sm Wg Wr Md) U.heap ∧ va_K (dC, dI) vwCl [(cI, .int), (cJ, .long)] U)) (va_Qv (fun (_ : Unit) => True) (fun _ t => va_P (dC, dI) vwCl (wC ad cI cJ Bc Bl Pk Pr Pl Pc Pm Gf Gt Gx Gd Gm ((f_X1_append a0 a1 a2 Ek Er Ea Em Eb).1) ((f_X1_append a0 a1 a2 Ek Er Ea Em Eb).2.1) ((f_X1_append a0 a1 a2 Ek Er Ea Em Eb).2.2.1) Ex ((f_X1_append a0 a1 a2 Ek Er Ea Em Eb).2.2.2.1) ((f_X1_append a0 a1 a2 Ek Er Ea Em Eb).2.2.2.2) Et Ss Sm Wg Wr Md) t.heap) (fA 23 ad sz)) 0 0 (fA 23 ad sz) := by
  refine Met.ofW (cc := cX1_append) (maxL := 4) (ret := none) (by decide) rfl ?_
  intro p e s m args below meth c s₁ B hml hv
  obtain ⟨rfl, hsz, hP, hK⟩ := hv
  have hx := B.exec
  have hb := B.bytes
  have hr := B.returns
  have hts := mW_hts (atoms_spec (ws := (mW yX1_append cX1_append 4 none)) B.pre)
  have hown : s.vm.findClass RX1 = some m.cls := findClass_of_methodNamed B.named
  have hlocks := B.notSynchronized
  subst hsz
  have hA : ∀ (n : Nat) (q : Nat), s.heap.size ≤ n → n ≤ q → fA 23 ad s.heap.size q := fun n q h1 h2 => Or.inr (Nat.le_trans h1 h2)
  have hS : va_S (fA 23 ad s.heap.size) s.heap s.heap [] := va_S.rf
  have hA : ∀ q, s.heap.size ≤ q → (fA 23 ad s.heap.size) q := fun q h => Or.inr h
  unfold S_X1_append at hs
  have hl := lv_entry ([.ref (ad 13), .int a0, .int a1, .int a2]) (n := 4) (Nat.le_of_ble_eq_true rfl)
  rw [lg_entry_eq]
  generalize (lg_sl ([.ref (ad 13), .int a0, .int a1, .int a2]) ++ List.replicate (4 - (lg_sl ([.ref (ad 13), .int a0, .int a1, .int a2])).length) Slot.unset).toArray = ls at hl ⊢
  have hl : lv_has ls 4 [(0, .ref (ad 13)), (1, .int a0), (2, .int a1), (3, .int a2)] := hl
  refine W_gen (fun Q9 hQ9 => ?_)
  refine lv_aload_n hx hb dX1_append_0 rfl (lv_at hl 0 rfl) ?_
  refine va_get (D := (dC, dI)) (ci := 3) (v := .int Em) (C := RX1) (T := TX1) (N := 7) hx hb hts iW_X1 hown hK hP 13 rfl rfl 4 (by decide) (hts _ mF_RX1_24) (fun _ h9 => h9) rfl dX1_append_1 ?_
  refine lv_if_lt (tgt := 83) hx hb dX1_append_4 (by decide) (fun c1 => ?_) (fun c1 => ?_)
  · have hs := hs.1 c1
    rw [hQ9]
    have hf : f_X1_append a0 a1 a2 Ek Er Ea Em Eb = (Ek, Er, Ea, Em, Eb) := by simp only [f_X1_append, if_pos c1]
    exact W.vret hx hb hr (fun t ht hW => ⟨⟨(), rfl, True.intro, by rw [hf]; show va_P (dC, dI) vwCl _ t.heap; rw [ht]; exact hP⟩, hS.F ht⟩) hS.2.2 dX1_append_83
  · have hs := hs.2 c1
    refine lv_aload_n hx hb dX1_append_7 rfl (lv_at hl 0 rfl) ?_
    refine va_get (D := (dC, dI)) (ci := 3) (v := .int Em) (C := RX1) (T := TX1) (N := 7) hx hb hts iW_X1 hown hK hP 13 rfl rfl 4 (by decide) (hts _ mF_RX1_24) (fun _ h9 => h9) rfl dX1_append_8 ?_
    refine lv_sipush (v := 200) hx hb dX1_append_11 (by decide) ?_
    refine lv_icmp_ge (tgt := 83) hx hb dX1_append_14 (by decide) (fun c2 => ?_) (fun c2 => ?_)
    · have hs := hs.1 c2
      rw [hQ9]
      have hf : f_X1_append a0 a1 a2 Ek Er Ea Em Eb = (Ek, Er, Ea, Em, Eb) := by simp only [f_X1_append, if_neg c1, if_pos c2]
      exact W.vret hx hb hr (fun t ht hW => ⟨⟨(), rfl, True.intro, by rw [hf]; show va_P (dC, dI) vwCl _ t.heap; rw [ht]; exact hP⟩, hS.F ht⟩) hS.2.2 dX1_append_83
    · have hs := hs.2 c2
      refine lv_aload_n hx hb dX1_append_17 rfl (lv_at hl 0 rfl) ?_
      refine va_get (D := (dC, dI)) (ci := 3) (v := .ref (ad 14)) (C := RX1) (T := TX1) (N := 7) hx hb hts iW_X1 hown hK hP 13 rfl rfl 0 (by decide) (hts _ mF_RX1_9) (fun _ h9 => h9) rfl dX1_append_18 ?_
      refine lv_aload_n hx hb dX1_append_21 rfl (lv_at hl 0 rfl) ?_
      refine va_get (D := (dC, dI)) (ci := 3) (v := .int Em) (C := RX1) (T := TX1) (N := 7) hx hb hts iW_X1 hown hK hP 13 rfl rfl 4 (by decide) (hts _ mF_RX1_24) (fun _ h9 => h9) rfl dX1_append_22 ?_
      refine lv_iload_n hx hb dX1_append_25 rfl (lv_at hl 1 rfl) ?_
      obtain ⟨h3, hs⟩ := hs
      refine va_iast hx hb hK hP (fA_D hi rfl) hS 14 0 rfl rfl h3 dX1_append_26 (fun H locs hP _ hS => ?_)
      have hP : va_P (dC, dI) vwCl (wC ad cI cJ Bc Bl Pk Pr Pl Pc Pm Gf Gt Gx Gd Gm (upd Ek Em.toNatClampNeg a0) Er Ea Ex Em Eb Et Ss Sm Wg Wr Md) H := hP
      refine lv_aload_n hx hb dX1_append_27 rfl (lv_at hl 0 rfl) ?_
      refine va_get (D := (dC, dI)) (ci := 3) (v := .ref (ad 15)) (C := RX1) (T := TX1) (N := 7) hx hb hts iW_X1 hown hK hP 13 rfl rfl 1 (by decide) (hts _ mF_RX1_15) (fun _ h9 => h9) rfl dX1_append_28 ?_
      refine lv_aload_n hx hb dX1_append_31 rfl (lv_at hl 0 rfl) ?_
      refine va_get (D := (dC, dI)) (ci := 3) (v := .int Em) (C := RX1) (T := TX1) (N := 7) hx hb hts iW_X1 hown hK hP 13 rfl rfl 4 (by decide) (hts _ mF_RX1_24) (fun _ h9 => h9) rfl dX1_append_32 ?_
      refine lv_iload_n hx hb dX1_append_35 rfl (lv_at hl 2 rfl) ?_
      obtain ⟨h4, hs⟩ := hs
      refine va_iast hx hb hK hP (fA_D hi rfl) hS 15 0 rfl rfl h4 dX1_append_36 (fun H locs hP _ hS => ?_)
      have hP : va_P (dC, dI) vwCl (wC ad cI cJ Bc Bl Pk Pr Pl Pc Pm Gf Gt Gx Gd Gm (upd Ek Em.toNatClampNeg a0) (upd Er Em.toNatClampNeg a1) Ea Ex Em Eb Et Ss Sm Wg Wr Md) H := hP
      refine lv_aload_n hx hb dX1_append_37 rfl (lv_at hl 0 rfl) ?_
      refine va_get (D := (dC, dI)) (ci := 3) (v := .ref (ad 16)) (C := RX1) (T := TX1) (N := 7) hx hb hts iW_X1 hown hK hP 13 rfl rfl 2 (by decide) (hts _ mF_RX1_18) (fun _ h9 => h9) rfl dX1_append_38 ?_
      refine lv_aload_n hx hb dX1_append_41 rfl (lv_at hl 0 rfl) ?_
      refine va_get (D := (dC, dI)) (ci := 3) (v := .int Em) (C := RX1) (T := TX1) (N := 7) hx hb hts iW_X1 hown hK hP 13 rfl rfl 4 (by decide) (hts _ mF_RX1_24) (fun _ h9 => h9) rfl dX1_append_42 ?_
      refine lv_iload_n hx hb dX1_append_45 rfl (lv_at hl 3 rfl) ?_
      refine lv_if_eq (tgt := 53) hx hb dX1_append_46 (by decide) (fun c5 => ?_) (fun c5 => ?_)
      · have hs := hs.1 c5
        refine lv_iconst (v := 0) hx hb dX1_append_53 (by decide) ?_
        obtain ⟨h6, hs⟩ := hs
        refine va_iast hx hb hK hP (fA_D hi rfl) hS 16 0 rfl rfl h6 dX1_append_54 (fun H locs hP _ hS => ?_)
        have hP : va_P (dC, dI) vwCl (wC ad cI cJ Bc Bl Pk Pr Pl Pc Pm Gf Gt Gx Gd Gm (upd Ek Em.toNatClampNeg a0) (upd Er Em.toNatClampNeg a1) (upd Ea Em.toNatClampNeg (0 : Int32)) Ex Em Eb Et Ss Sm Wg Wr Md) H := hP
        refine lv_aload_n hx hb dX1_append_55 rfl (lv_at hl 0 rfl) ?_
        refine lv_dup hx hb dX1_append_56 rfl ?_
        refine va_get (D := (dC, dI)) (ci := 3) (v := .int Eb) (C := RX1) (T := TX1) (N := 7) hx hb hts iW_X1 hown hK hP 13 rfl rfl 5 (by decide) (hts _ mF_RX1_28) (fun _ h9 => h9) rfl dX1_append_57 ?_
        refine lv_aload_n hx hb dX1_append_60 rfl (lv_at hl 0 rfl) ?_
        refine va_get (D := (dC, dI)) (ci := 3) (v := .ref (ad 16)) (C := RX1) (T := TX1) (N := 7) hx hb hts iW_X1 hown hK hP 13 rfl rfl 2 (by decide) (hts _ mF_RX1_18) (fun _ h9 => h9) rfl dX1_append_61 ?_
        refine lv_aload_n hx hb dX1_append_64 rfl (lv_at hl 0 rfl) ?_
        refine va_get (D := (dC, dI)) (ci := 3) (v := .int Em) (C := RX1) (T := TX1) (N := 7) hx hb hts iW_X1 hown hK hP 13 rfl rfl 4 (by decide) (hts _ mF_RX1_24) (fun _ h9 => h9) rfl dX1_append_65 ?_
        obtain ⟨h7, hs⟩ := hs
        refine va_iald hx hb hK hP 16 0 rfl rfl h7 dX1_append_68 ?_
        refine lv_iadd hx hb dX1_append_69 ?_
        refine va_put (D := (dC, dI)) (ci := 3) (v := .int (Eb + ((upd Ea Em.toNatClampNeg (0 : Int32)) Em.toNatClampNeg))) (ty := .int) (C := RX1) (T := TX1) (N := 7) hx hb hts iW_X1 tyX1 tyX1_ok nmX1 hown hK hP (fA_D hi rfl) hS 13 rfl rfl 5 (by decide) (hts _ mF_RX1_28) (fun _ h9 => h9) rfl (by decide +kernel) rfl rfl (Nat.le_of_ble_eq_true rfl) dX1_append_70 (fun H locs hP _ hS => ?_)
        have hP : va_P (dC, dI) vwCl (wC ad cI cJ Bc Bl Pk Pr Pl Pc Pm Gf Gt Gx Gd Gm (upd Ek Em.toNatClampNeg a0) (upd Er Em.toNatClampNeg a1) (upd Ea Em.toNatClampNeg (0 : Int32)) Ex Em (Eb + ((upd Ea Em.toNatClampNeg (0 : Int32)) Em.toNatClampNeg)) Et Ss Sm Wg Wr Md) H := hP
        refine lv_aload_n hx hb dX1_append_73 rfl (lv_at hl 0 rfl) ?_
        refine lv_dup hx hb dX1_append_74 rfl ?_
        refine va_get (D := (dC, dI)) (ci := 3) (v := .int Em) (C := RX1) (T := TX1) (N := 7) hx hb hts iW_X1 hown hK hP 13 rfl rfl 4 (by decide) (hts _ mF_RX1_24) (fun _ h9 => h9) rfl dX1_append_75 ?_
        refine lv_iconst (v := 1) hx hb dX1_append_78 (by decide) ?_
        refine lv_iadd hx hb dX1_append_79 ?_
        refine va_put (D := (dC, dI)) (ci := 3) (v := .int (Em + (1 : Int32))) (ty := .int) (C := RX1) (T := TX1) (N := 7) hx hb hts iW_X1 tyX1 tyX1_ok nmX1 hown hK hP (fA_D hi rfl) hS 13 rfl rfl 4 (by decide) (hts _ mF_RX1_24) (fun _ h9 => h9) rfl (by decide +kernel) rfl rfl (Nat.le_of_ble_eq_true rfl) dX1_append_80 (fun H locs hP _ hS => ?_)
        have hP : va_P (dC, dI) vwCl (wC ad cI cJ Bc Bl Pk Pr Pl Pc Pm Gf Gt Gx Gd Gm (upd Ek Em.toNatClampNeg a0) (upd Er Em.toNatClampNeg a1) (upd Ea Em.toNatClampNeg (0 : Int32)) Ex (Em + (1 : Int32)) (Eb + ((upd Ea Em.toNatClampNeg (0 : Int32)) Em.toNatClampNeg)) Et Ss Sm Wg Wr Md) H := hP
        rw [hQ9]
        have hf : f_X1_append a0 a1 a2 Ek Er Ea Em Eb = ((upd Ek Em.toNatClampNeg a0), (upd Er Em.toNatClampNeg a1), (upd Ea Em.toNatClampNeg (0 : Int32)), (Em + (1 : Int32)), (Eb + ((upd Ea Em.toNatClampNeg (0 : Int32)) Em.toNatClampNeg))) := by simp only [f_X1_append, if_neg c1, if_neg c2, if_pos c5]
        exact W.vret hx hb hr (fun t ht hW => ⟨⟨(), rfl, True.intro, by rw [hf]; show va_P (dC, dI) vwCl _ t.heap; rw [ht]; exact hP⟩, hS.F ht⟩) hS.2.2 dX1_append_83
      · have hs := hs.2 c5
        refine lv_iconst (v := 1) hx hb dX1_append_49 (by decide) ?_
        refine lv_goto (tgt := 54) hx hb dX1_append_50 (by decide) ?_
        obtain ⟨h8, hs⟩ := hs
        refine va_iast hx hb hK hP (fA_D hi rfl) hS 16 0 rfl rfl h8 dX1_append_54 (fun H locs hP _ hS => ?_)
        have hP : va_P (dC, dI) vwCl (wC ad cI cJ Bc Bl Pk Pr Pl Pc Pm Gf Gt Gx Gd Gm (upd Ek Em.toNatClampNeg a0) (upd Er Em.toNatClampNeg a1) (upd Ea Em.toNatClampNeg (1 : Int32)) Ex Em Eb Et Ss Sm Wg Wr Md) H := hP
        refine lv_aload_n hx hb dX1_append_55 rfl (lv_at hl 0 rfl) ?_
        refine lv_dup hx hb dX1_append_56 rfl ?_
        refine va_get (D := (dC, dI)) (ci := 3) (v := .int Eb) (C := RX1) (T := TX1) (N := 7) hx hb hts iW_X1 hown hK hP 13 rfl rfl 5 (by decide) (hts _ mF_RX1_28) (fun _ h9 => h9) rfl dX1_append_57 ?_
        refine lv_aload_n hx hb dX1_append_60 rfl (lv_at hl 0 rfl) ?_
        refine va_get (D := (dC, dI)) (ci := 3) (v := .ref (ad 16)) (C := RX1) (T := TX1) (N := 7) hx hb hts iW_X1 hown hK hP 13 rfl rfl 2 (by decide) (hts _ mF_RX1_18) (fun _ h9 => h9) rfl dX1_append_61 ?_
        refine lv_aload_n hx hb dX1_append_64 rfl (lv_at hl 0 rfl) ?_
        refine va_get (D := (dC, dI)) (ci := 3) (v := .int Em) (C := RX1) (T := TX1) (N := 7) hx hb hts iW_X1 hown hK hP 13 rfl rfl 4 (by decide) (hts _ mF_RX1_24) (fun _ h9 => h9) rfl dX1_append_65 ?_
        obtain ⟨h9, hs⟩ := hs
        refine va_iald hx hb hK hP 16 0 rfl rfl h9 dX1_append_68 ?_
        refine lv_iadd hx hb dX1_append_69 ?_
        refine va_put (D := (dC, dI)) (ci := 3) (v := .int (Eb + ((upd Ea Em.toNatClampNeg (1 : Int32)) Em.toNatClampNeg))) (ty := .int) (C := RX1) (T := TX1) (N := 7) hx hb hts iW_X1 tyX1 tyX1_ok nmX1 hown hK hP (fA_D hi rfl) hS 13 rfl rfl 5 (by decide) (hts _ mF_RX1_28) (fun _ h9 => h9) rfl (by decide +kernel) rfl rfl (Nat.le_of_ble_eq_true rfl) dX1_append_70 (fun H locs hP _ hS => ?_)
        have hP : va_P (dC, dI) vwCl (wC ad cI cJ Bc Bl Pk Pr Pl Pc Pm Gf Gt Gx Gd Gm (upd Ek Em.toNatClampNeg a0) (upd Er Em.toNatClampNeg a1) (upd Ea Em.toNatClampNeg (1 : Int32)) Ex Em (Eb + ((upd Ea Em.toNatClampNeg (1 : Int32)) Em.toNatClampNeg)) Et Ss Sm Wg Wr Md) H := hP
        refine lv_aload_n hx hb dX1_append_73 rfl (lv_at hl 0 rfl) ?_
        refine lv_dup hx hb dX1_append_74 rfl ?_
        refine va_get (D := (dC, dI)) (ci := 3) (v := .int Em) (C := RX1) (T := TX1) (N := 7) hx hb hts iW_X1 hown hK hP 13 rfl rfl 4 (by decide) (hts _ mF_RX1_24) (fun _ h9 => h9) rfl dX1_append_75 ?_
        refine lv_iconst (v := 1) hx hb dX1_append_78 (by decide) ?_
        refine lv_iadd hx hb dX1_append_79 ?_
        refine va_put (D := (dC, dI)) (ci := 3) (v := .int (Em + (1 : Int32))) (ty := .int) (C := RX1) (T := TX1) (N := 7) hx hb hts iW_X1 tyX1 tyX1_ok nmX1 hown hK hP (fA_D hi rfl) hS 13 rfl rfl 4 (by decide) (hts _ mF_RX1_24) (fun _ h9 => h9) rfl (by decide +kernel) rfl rfl (Nat.le_of_ble_eq_true rfl) dX1_append_80 (fun H locs hP _ hS => ?_)
        have hP : va_P (dC, dI) vwCl (wC ad cI cJ Bc Bl Pk Pr Pl Pc Pm Gf Gt Gx Gd Gm (upd Ek Em.toNatClampNeg a0) (upd Er Em.toNatClampNeg a1) (upd Ea Em.toNatClampNeg (1 : Int32)) Ex (Em + (1 : Int32)) (Eb + ((upd Ea Em.toNatClampNeg (1 : Int32)) Em.toNatClampNeg)) Et Ss Sm Wg Wr Md) H := hP
        rw [hQ9]
        have hf : f_X1_append a0 a1 a2 Ek Er Ea Em Eb = ((upd Ek Em.toNatClampNeg a0), (upd Er Em.toNatClampNeg a1), (upd Ea Em.toNatClampNeg (1 : Int32)), (Em + (1 : Int32)), (Eb + ((upd Ea Em.toNatClampNeg (1 : Int32)) Em.toNatClampNeg))) := by simp only [f_X1_append, if_neg c1, if_neg c2, if_neg c5]
        exact W.vret hx hb hr (fun t ht hW => ⟨⟨(), rfl, True.intro, by rw [hf]; show va_P (dC, dI) vwCl _ t.heap; rw [ht]; exact hP⟩, hS.F ht⟩) hS.2.2 dX1_append_83
theorem q_X1_append {p : Program} {l : Launch} {e : Env} {R : Room} {s : State} {m : MethodId} {args : Array Value} {below : List Frame} {meth : Method} {c : Code} {H : Heap} {locs : List Loc} {cells slots : Nat} {Q : State → Prop} {pc : Nat} {ls : Array Slot} {rest : List Value} {cc : ByteArray} {nL idx : Nat} {own : String} {A0 : Nat → Prop} {dC : Nat → ClassId} {dI : Nat → Nat → Nat} {cI cJ : ClassId} {ad : Nat → Nat} {Bc : Nat → Int64} {Bl : Nat → Int32} {Pk : Nat → Int32} {Pr : Nat → Int32} {Pl : Nat → Int32} {Pc : Nat → Int64} {Pm : Int32} {Gf : Nat → Int32} {Gt : Nat → Int32} {Gx : Nat → Int32} {Gd : Int32} {Gm : Int32} {Ek : Nat → Int32} {Er : Nat → Int32} {Ea : Nat → Int32} {Ex : Nat → Int32} {Em : Int32} {Eb : Int32} {Et : Int32} {Ss : Nat → Int32} {Sm : Int32} {Wg : Nat → Int64} {Wr : Nat → Int64} {Md : Nat → Int64} (hx : p.tables.exec = Jvm.exec) (hb : c.code = cc) (hml : c.maxLocals = nL) (hown : s.vm.findClass own = some m.cls) (hts : ∀ w ∈ bigW, w.before args s = true) (hlk : Cond.methodLink own idx yX1_append ∈ bigW) (hR : 1 ≤ R.frames ∧ 23 ≤ R.locals) (hf : cells + 0 ≤ R.cells ∧ slots + 0 ≤ R.slots) (hz : ls.size = nL) (hw : (rest.map fun v => v.category).sum ≤ 8) (hS : va_S A0 s.heap H locs) (hd : decode cc pc = .ok (.invokevirtual idx, 3)) (hA : ∀ q, fA 23 ad H.size q → A0 q) (hi : fI 23 ad) (hK : va_K (dC, dI) vwCl [(cI, .int), (cJ, .long)] s) (hP : va_P (dC, dI) vwCl (wC ad cI cJ Bc Bl Pk Pr Pl Pc Pm Gf Gt Gx Gd Gm Ek Er Ea Ex Em Eb Et Ss Sm Wg Wr Md) H) (a0 : Int32) (a1 : Int32) (a2 : Int32) (hs : S_X1_append a0 a1 a2 Ek Er Ea Em Eb)  (u : (Nat → Int32) × (Nat → Int32) × (Nat → Int32) × Int32 × Int32) (hu : u = f_X1_append a0 a1 a2 Ek Er Ea Em Eb) (k : ∀ (H1 : Heap) (locs1 : List Loc), va_P (dC, dI) vwCl (wC ad cI cJ Bc Bl Pk Pr Pl Pc Pm Gf Gt Gx Gd Gm u.1 u.2.1 u.2.2.1 Ex u.2.2.2.1 u.2.2.2.2 Et Ss Sm Wg Wr Md) H1 → va_S A0 s.heap H1 locs1 → W p l e R s m args below meth c H1 locs1 (cells + 0) (slots + 0) Q (F0 m (pc + 3) ls (rest))) : W p l e R s m args below meth c H locs cells slots Q (F0 m pc ls (.int a2 :: .int a1 :: .int a0 :: .ref (ad 13) :: rest)) := by
  subst hu
  exact va_callv (va_runV (As := [.int a0, .int a1, .int a2]) (rest := rest) ⟨hx, hb, hml, hown, hts⟩ (c_X1_append l dC dI cI cJ ad hi H.size Bc Bl Pk Pr Pl Pc Pm Gf Gt Gx Gd Gm Ek Er Ea Ex Em Eb Et Ss Sm Wg Wr Md a0 a1 a2 hs) (kV 3 hts hlk mI_X1_append mN_RX1 mY_X1_append mV_X1_append rfl rfl (by decide +kernel) hR) ⟨fun a U g mk q => ⟨q.1, q.2.1, q.2.2.1, va_K.moved (u := U) (U := U.calling g mk a) (Vm.Alike.refl U.vm) q.2.2.2⟩, va_recv hK hP (ci := 3) (q0 := 13) rfl rfl, fun U hU hW => ⟨rfl, by rw [hU], by rw [hU]; exact hP, va_K.moved hW.alike hK⟩⟩ rfl rfl hz rfl (lv_room hw) hd hf) hS (fun q _ h => hA q h) (fun q h => hA q h) (fun u t H1 locs1 ht hvm hw9 hB hz1 hk1 hS1 => by
    skip
    exact k H1 locs1 (by rw [← ht]; exact hB) hS1)

def f_X1_appendToken (a0 : Int32) (Ex : Nat → Int32) (Et : Int32) : (Nat → Int32) × Int32 := (if Et < 0 then (Ex, Et) else (if (60 : Int32) ≤ Et then (Ex, Et) else ((upd Ex Et.toNatClampNeg a0), (Et + (1 : Int32)))))
def S_X1_appendToken (a0 : Int32) (Ex : Nat → Int32) (Et : Int32) : Prop := (Et < 0 → (True)) ∧ (¬ Et < 0 → (((60 : Int32) ≤ Et → (True)) ∧ (¬ (60 : Int32) ≤ Et → ((vp_in Et 60) ∧ (True)))))
set_option maxHeartbeats 4000000 in
set_option maxRecDepth 100000 in
theorem c_X1_appendToken (l : Launch) (dC : Nat → ClassId) (dI : Nat → Nat → Nat) (cI cJ : ClassId) (ad : Nat → Nat) (hi : fI 23 ad) (sz : Nat) (Bc : Nat → Int64) (Bl : Nat → Int32) (Pk : Nat → Int32) (Pr : Nat → Int32) (Pl : Nat → Int32) (Pc : Nat → Int64) (Pm : Int32) (Gf : Nat → Int32) (Gt : Nat → Int32) (Gx : Nat → Int32) (Gd : Int32) (Gm : Int32) (Ek : Nat → Int32) (Er : Nat → Int32) (Ea : Nat → Int32) (Ex : Nat → Int32) (Em : Int32) (Eb : Int32) (Et : Int32) (Ss : Nat → Int32) (Sm : Int32) (Wg : Nat → Int64) (Wr : Nat → Int64) (Md : Nat → Int64) (a0 : Int32) (hs : S_X1_appendToken a0 Ex Et) : Met l yX1_appendToken (mW yX1_appendToken cX1_appendToken 2 none) { frames := 0, cells := 0, slots := 0, locals := 0 } (va_Pc [.ref (ad 13), .int a0] (fun U => U.heap.size = sz ∧ va_P (dC, dI) vwCl (wC ad cI cJ Bc Bl Pk Pr Pl Pc Pm Gf Gt Gx Gd Gm Ek Er Ea Ex Em Eb Et Ss Sm Wg Wr Md) U.heap ∧ va_K (dC, dI) vwCl [(cI, .int), (cJ, .long)] U)) (va_Qv (fun (_ : Unit) => True) (fun _ t => va_P (dC, dI) vwCl (wC ad cI cJ Bc Bl Pk Pr Pl Pc Pm Gf Gt Gx Gd Gm Ek Er Ea ((f_X1_appendToken a0 Ex Et).1) Em Eb ((f_X1_appendToken a0 Ex Et).2) Ss Sm Wg Wr Md) t.heap) (fA 23 ad sz)) 0 0 (fA 23 ad sz) := by
  refine Met.ofW (cc := cX1_appendToken) (maxL := 2) (ret := none) (by decide) rfl ?_
  intro p e s m args below meth c s₁ B hml hv
  obtain ⟨rfl, hsz, hP, hK⟩ := hv
  have hx := B.exec
  have hb := B.bytes
  have hr := B.returns
  have hts := mW_hts (atoms_spec (ws := (mW yX1_appendToken cX1_appendToken 2 none)) B.pre)
  have hown : s.vm.findClass RX1 = some m.cls := findClass_of_methodNamed B.named
  have hlocks := B.notSynchronized
  subst hsz
  have hA : ∀ (n : Nat) (q : Nat), s.heap.size ≤ n → n ≤ q → fA 23 ad s.heap.size q := fun n q h1 h2 => Or.inr (Nat.le_trans h1 h2)
  have hS : va_S (fA 23 ad s.heap.size) s.heap s.heap [] := va_S.rf
  have hA : ∀ q, s.heap.size ≤ q → (fA 23 ad s.heap.size) q := fun q h => Or.inr h
  unfold S_X1_appendToken at hs
  have hl := lv_entry ([.ref (ad 13), .int a0]) (n := 2) (Nat.le_of_ble_eq_true rfl)
  rw [lg_entry_eq]
  generalize (lg_sl ([.ref (ad 13), .int a0]) ++ List.replicate (2 - (lg_sl ([.ref (ad 13), .int a0])).length) Slot.unset).toArray = ls at hl ⊢
  have hl : lv_has ls 2 [(0, .ref (ad 13)), (1, .int a0)] := hl
  refine W_gen (fun Q9 hQ9 => ?_)
  refine lv_aload_n hx hb dX1_appendToken_0 rfl (lv_at hl 0 rfl) ?_
  refine va_get (D := (dC, dI)) (ci := 3) (v := .int Et) (C := RX1) (T := TX1) (N := 7) hx hb hts iW_X1 hown hK hP 13 rfl rfl 6 (by decide) (hts _ mF_RX1_31) (fun _ h9 => h9) rfl dX1_appendToken_1 ?_
  refine lv_if_lt (tgt := 36) hx hb dX1_appendToken_4 (by decide) (fun c1 => ?_) (fun c1 => ?_)
  · have hs := hs.1 c1
    rw [hQ9]
    have hf : f_X1_appendToken a0 Ex Et = (Ex, Et) := by simp only [f_X1_appendToken, if_pos c1]
    exact W.vret hx hb hr (fun t ht hW => ⟨⟨(), rfl, True.intro, by rw [hf]; show va_P (dC, dI) vwCl _ t.heap; rw [ht]; exact hP⟩, hS.F ht⟩) hS.2.2 dX1_appendToken_36
  · have hs := hs.2 c1
    refine lv_aload_n hx hb dX1_appendToken_7 rfl (lv_at hl 0 rfl) ?_
    refine va_get (D := (dC, dI)) (ci := 3) (v := .int Et) (C := RX1) (T := TX1) (N := 7) hx hb hts iW_X1 hown hK hP 13 rfl rfl 6 (by decide) (hts _ mF_RX1_31) (fun _ h9 => h9) rfl dX1_appendToken_8 ?_
    refine lv_bipush (v := 60) hx hb dX1_appendToken_11 (by decide) ?_
    refine lv_icmp_ge (tgt := 36) hx hb dX1_appendToken_13 (by decide) (fun c2 => ?_) (fun c2 => ?_)
    · have hs := hs.1 c2
      rw [hQ9]
      have hf : f_X1_appendToken a0 Ex Et = (Ex, Et) := by simp only [f_X1_appendToken, if_neg c1, if_pos c2]
      exact W.vret hx hb hr (fun t ht hW => ⟨⟨(), rfl, True.intro, by rw [hf]; show va_P (dC, dI) vwCl _ t.heap; rw [ht]; exact hP⟩, hS.F ht⟩) hS.2.2 dX1_appendToken_36
    · have hs := hs.2 c2
      refine lv_aload_n hx hb dX1_appendToken_16 rfl (lv_at hl 0 rfl) ?_
      refine va_get (D := (dC, dI)) (ci := 3) (v := .ref (ad 17)) (C := RX1) (T := TX1) (N := 7) hx hb hts iW_X1 hown hK hP 13 rfl rfl 3 (by decide) (hts _ mF_RX1_21) (fun _ h9 => h9) rfl dX1_appendToken_17 ?_
      refine lv_aload_n hx hb dX1_appendToken_20 rfl (lv_at hl 0 rfl) ?_
      refine va_get (D := (dC, dI)) (ci := 3) (v := .int Et) (C := RX1) (T := TX1) (N := 7) hx hb hts iW_X1 hown hK hP 13 rfl rfl 6 (by decide) (hts _ mF_RX1_31) (fun _ h9 => h9) rfl dX1_appendToken_21 ?_
      refine lv_iload_n hx hb dX1_appendToken_24 rfl (lv_at hl 1 rfl) ?_
      obtain ⟨h3, hs⟩ := hs
      refine va_iast hx hb hK hP (fA_D hi rfl) hS 17 0 rfl rfl h3 dX1_appendToken_25 (fun H locs hP _ hS => ?_)
      have hP : va_P (dC, dI) vwCl (wC ad cI cJ Bc Bl Pk Pr Pl Pc Pm Gf Gt Gx Gd Gm Ek Er Ea (upd Ex Et.toNatClampNeg a0) Em Eb Et Ss Sm Wg Wr Md) H := hP
      refine lv_aload_n hx hb dX1_appendToken_26 rfl (lv_at hl 0 rfl) ?_
      refine lv_dup hx hb dX1_appendToken_27 rfl ?_
      refine va_get (D := (dC, dI)) (ci := 3) (v := .int Et) (C := RX1) (T := TX1) (N := 7) hx hb hts iW_X1 hown hK hP 13 rfl rfl 6 (by decide) (hts _ mF_RX1_31) (fun _ h9 => h9) rfl dX1_appendToken_28 ?_
      refine lv_iconst (v := 1) hx hb dX1_appendToken_31 (by decide) ?_
      refine lv_iadd hx hb dX1_appendToken_32 ?_
      refine va_put (D := (dC, dI)) (ci := 3) (v := .int (Et + (1 : Int32))) (ty := .int) (C := RX1) (T := TX1) (N := 7) hx hb hts iW_X1 tyX1 tyX1_ok nmX1 hown hK hP (fA_D hi rfl) hS 13 rfl rfl 6 (by decide) (hts _ mF_RX1_31) (fun _ h9 => h9) rfl (by decide +kernel) rfl rfl (Nat.le_of_ble_eq_true rfl) dX1_appendToken_33 (fun H locs hP _ hS => ?_)
      have hP : va_P (dC, dI) vwCl (wC ad cI cJ Bc Bl Pk Pr Pl Pc Pm Gf Gt Gx Gd Gm Ek Er Ea (upd Ex Et.toNatClampNeg a0) Em Eb (Et + (1 : Int32)) Ss Sm Wg Wr Md) H := hP
      rw [hQ9]
      have hf : f_X1_appendToken a0 Ex Et = ((upd Ex Et.toNatClampNeg a0), (Et + (1 : Int32))) := by simp only [f_X1_appendToken, if_neg c1, if_neg c2]
      exact W.vret hx hb hr (fun t ht hW => ⟨⟨(), rfl, True.intro, by rw [hf]; show va_P (dC, dI) vwCl _ t.heap; rw [ht]; exact hP⟩, hS.F ht⟩) hS.2.2 dX1_appendToken_36
theorem q_X1_appendToken {p : Program} {l : Launch} {e : Env} {R : Room} {s : State} {m : MethodId} {args : Array Value} {below : List Frame} {meth : Method} {c : Code} {H : Heap} {locs : List Loc} {cells slots : Nat} {Q : State → Prop} {pc : Nat} {ls : Array Slot} {rest : List Value} {cc : ByteArray} {nL idx : Nat} {own : String} {A0 : Nat → Prop} {dC : Nat → ClassId} {dI : Nat → Nat → Nat} {cI cJ : ClassId} {ad : Nat → Nat} {Bc : Nat → Int64} {Bl : Nat → Int32} {Pk : Nat → Int32} {Pr : Nat → Int32} {Pl : Nat → Int32} {Pc : Nat → Int64} {Pm : Int32} {Gf : Nat → Int32} {Gt : Nat → Int32} {Gx : Nat → Int32} {Gd : Int32} {Gm : Int32} {Ek : Nat → Int32} {Er : Nat → Int32} {Ea : Nat → Int32} {Ex : Nat → Int32} {Em : Int32} {Eb : Int32} {Et : Int32} {Ss : Nat → Int32} {Sm : Int32} {Wg : Nat → Int64} {Wr : Nat → Int64} {Md : Nat → Int64} (hx : p.tables.exec = Jvm.exec) (hb : c.code = cc) (hml : c.maxLocals = nL) (hown : s.vm.findClass own = some m.cls) (hts : ∀ w ∈ bigW, w.before args s = true) (hlk : Cond.methodLink own idx yX1_appendToken ∈ bigW) (hR : 1 ≤ R.frames ∧ 21 ≤ R.locals) (hf : cells + 0 ≤ R.cells ∧ slots + 0 ≤ R.slots) (hz : ls.size = nL) (hw : (rest.map fun v => v.category).sum ≤ 8) (hS : va_S A0 s.heap H locs) (hd : decode cc pc = .ok (.invokevirtual idx, 3)) (hA : ∀ q, fA 23 ad H.size q → A0 q) (hi : fI 23 ad) (hK : va_K (dC, dI) vwCl [(cI, .int), (cJ, .long)] s) (hP : va_P (dC, dI) vwCl (wC ad cI cJ Bc Bl Pk Pr Pl Pc Pm Gf Gt Gx Gd Gm Ek Er Ea Ex Em Eb Et Ss Sm Wg Wr Md) H) (a0 : Int32) (hs : S_X1_appendToken a0 Ex Et)  (u : (Nat → Int32) × Int32) (hu : u = f_X1_appendToken a0 Ex Et) (k : ∀ (H1 : Heap) (locs1 : List Loc), va_P (dC, dI) vwCl (wC ad cI cJ Bc Bl Pk Pr Pl Pc Pm Gf Gt Gx Gd Gm Ek Er Ea u.1 Em Eb u.2 Ss Sm Wg Wr Md) H1 → va_S A0 s.heap H1 locs1 → W p l e R s m args below meth c H1 locs1 (cells + 0) (slots + 0) Q (F0 m (pc + 3) ls (rest))) : W p l e R s m args below meth c H locs cells slots Q (F0 m pc ls (.int a0 :: .ref (ad 13) :: rest)) := by
  subst hu
  exact va_callv (va_runV (As := [.int a0]) (rest := rest) ⟨hx, hb, hml, hown, hts⟩ (c_X1_appendToken l dC dI cI cJ ad hi H.size Bc Bl Pk Pr Pl Pc Pm Gf Gt Gx Gd Gm Ek Er Ea Ex Em Eb Et Ss Sm Wg Wr Md a0 hs) (kV 1 hts hlk mI_X1_appendToken mN_RX1 mY_X1_appendToken mV_X1_appendToken rfl rfl (by decide +kernel) hR) ⟨fun a U g mk q => ⟨q.1, q.2.1, q.2.2.1, va_K.moved (u := U) (U := U.calling g mk a) (Vm.Alike.refl U.vm) q.2.2.2⟩, va_recv hK hP (ci := 3) (q0 := 13) rfl rfl, fun U hU hW => ⟨rfl, by rw [hU], by rw [hU]; exact hP, va_K.moved hW.alike hK⟩⟩ rfl rfl hz rfl (lv_room hw) hd hf) hS (fun q _ h => hA q h) (fun q h => hA q h) (fun u t H1 locs1 ht hvm hw9 hB hz1 hk1 hS1 => by
    skip
    exact k H1 locs1 (by rw [← ht]; exact hB) hS1)

def L_X1_copyTokens_5 : Nat → Int32 → (Nat → Int32) → Int32 → (Nat → Int32) → Int32 → Int32 × (Nat → Int32) × Int32
  | 0, x2, Ex, Et, Gx, Gm => (x2, Ex, Et)
  | n + 1, x2, Ex, Et, Gx, Gm => (if x2 < 0 then (x2, Ex, Et) else (if Gm ≤ x2 then (x2, Ex, Et) else (if (60 : Int32) ≤ x2 then (x2, Ex, Et) else (let u8 := f_X1_appendToken (Gx x2.toNatClampNeg) Ex Et; L_X1_copyTokens_5 n (x2 + 1) u8.1 u8.2 Gx Gm))))
def SL_X1_copyTokens_5 : Nat → Int32 → (Nat → Int32) → Int32 → (Nat → Int32) → Int32 → Prop
  | 0, _, _, _, _, _ => False
  | n + 1, x2, Ex, Et, Gx, Gm => (x2 < 0 → (True)) ∧ (¬ x2 < 0 → ((Gm ≤ x2 → (True)) ∧ (¬ Gm ≤ x2 → (((60 : Int32) ≤ x2 → (True)) ∧ (¬ (60 : Int32) ≤ x2 → ((vp_in x2 60) ∧ ((S_X1_appendToken (Gx x2.toNatClampNeg) Ex Et) ∧ (∀ u8, u8 = f_X1_appendToken (Gx x2.toNatClampNeg) Ex Et → (SL_X1_copyTokens_5 n (x2 + 1) u8.1 u8.2 Gx Gm)))))))))
def f_X1_copyTokens (Gt : Nat → Int32) (Gx : Nat → Int32) (Gd : Int32) (Gm : Int32) (Ex : Nat → Int32) (Et : Int32) : (Nat → Int32) × Int32 := (let u2 := f_X2_firstToken Gt Gd; (let u3 := L_X1_copyTokens_5 61 u2 Ex Et Gx Gm; (u3.2.1, u3.2.2)))
def S_X1_copyTokens (Gt : Nat → Int32) (Gx : Nat → Int32) (Gd : Int32) (Gm : Int32) (Ex : Nat → Int32) (Et : Int32) : Prop := (S_X2_firstToken Gt Gd) ∧ (∀ u2, u2 = f_X2_firstToken Gt Gd → ((SL_X1_copyTokens_5 61 u2 Ex Et Gx Gm) ∧ (∀ u3, u3 = L_X1_copyTokens_5 61 u2 Ex Et Gx Gm → (True))))
set_option maxHeartbeats 4000000 in
set_option maxRecDepth 100000 in
theorem c_X1_copyTokens (l : Launch) (dC : Nat → ClassId) (dI : Nat → Nat → Nat) (cI cJ : ClassId) (ad : Nat → Nat) (hi : fI 23 ad) (sz : Nat) (Bc : Nat → Int64) (Bl : Nat → Int32) (Pk : Nat → Int32) (Pr : Nat → Int32) (Pl : Nat → Int32) (Pc : Nat → Int64) (Pm : Int32) (Gf : Nat → Int32) (Gt : Nat → Int32) (Gx : Nat → Int32) (Gd : Int32) (Gm : Int32) (Ek : Nat → Int32) (Er : Nat → Int32) (Ea : Nat → Int32) (Ex : Nat → Int32) (Em : Int32) (Eb : Int32) (Et : Int32) (Ss : Nat → Int32) (Sm : Int32) (Wg : Nat → Int64) (Wr : Nat → Int64) (Md : Nat → Int64) (hs : S_X1_copyTokens Gt Gx Gd Gm Ex Et) : Met l yX1_copyTokens (mW yX1_copyTokens cX1_copyTokens 3 none) { frames := 1, cells := 0, slots := 0, locals := 21 } (va_Pc [.ref (ad 13), .ref (ad 9)] (fun U => U.heap.size = sz ∧ va_P (dC, dI) vwCl (wC ad cI cJ Bc Bl Pk Pr Pl Pc Pm Gf Gt Gx Gd Gm Ek Er Ea Ex Em Eb Et Ss Sm Wg Wr Md) U.heap ∧ va_K (dC, dI) vwCl [(cI, .int), (cJ, .long)] U)) (va_Qv (fun (_ : Unit) => True) (fun _ t => va_P (dC, dI) vwCl (wC ad cI cJ Bc Bl Pk Pr Pl Pc Pm Gf Gt Gx Gd Gm Ek Er Ea ((f_X1_copyTokens Gt Gx Gd Gm Ex Et).1) Em Eb ((f_X1_copyTokens Gt Gx Gd Gm Ex Et).2) Ss Sm Wg Wr Md) t.heap) (fA 23 ad sz)) 0 0 (fA 23 ad sz) := by
  refine Met.ofW (cc := cX1_copyTokens) (maxL := 3) (ret := none) (by decide) rfl ?_
  intro p e s m args below meth c s₁ B hml hv
  obtain ⟨rfl, hsz, hP, hK⟩ := hv
  have hx := B.exec
  have hb := B.bytes
  have hr := B.returns
  have hts := mW_hts (atoms_spec (ws := (mW yX1_copyTokens cX1_copyTokens 3 none)) B.pre)
  have hown : s.vm.findClass RX1 = some m.cls := findClass_of_methodNamed B.named
  have hlocks := B.notSynchronized
  subst hsz
  have hA : ∀ (n : Nat) (q : Nat), s.heap.size ≤ n → n ≤ q → fA 23 ad s.heap.size q := fun n q h1 h2 => Or.inr (Nat.le_trans h1 h2)
  have hS : va_S (fA 23 ad s.heap.size) s.heap s.heap [] := va_S.rf
  have hA : ∀ q, s.heap.size ≤ q → (fA 23 ad s.heap.size) q := fun q h => Or.inr h
  unfold S_X1_copyTokens at hs
  have hl := lv_entry ([.ref (ad 13), .ref (ad 9)]) (n := 3) (Nat.le_of_ble_eq_true rfl)
  rw [lg_entry_eq]
  generalize (lg_sl ([.ref (ad 13), .ref (ad 9)]) ++ List.replicate (3 - (lg_sl ([.ref (ad 13), .ref (ad 9)])).length) Slot.unset).toArray = ls at hl ⊢
  have hl : lv_has ls 3 [(0, .ref (ad 13)), (1, .ref (ad 9))] := hl
  refine W_gen (fun Q9 hQ9 => ?_)
  refine lv_aload_n hx hb dX1_copyTokens_0 rfl (lv_at hl 1 rfl) ?_
  obtain ⟨h1, hs⟩ := hs
  obtain ⟨u2, hu2⟩ : ∃ z, z = f_X2_firstToken Gt Gd := ⟨_, rfl⟩
  have hs := hs u2 hu2
  refine q_X2_firstToken hx hb hml hown hts mM_RX1_34 ⟨Nat.le_of_ble_eq_true rfl, Nat.le_of_ble_eq_true rfl⟩ ⟨Nat.le_of_ble_eq_true rfl, Nat.le_of_ble_eq_true rfl⟩ hl.1 (Nat.le_of_ble_eq_true rfl) hS dX1_copyTokens_1 (fun _ h9 => fA_mono hS.1 h9) hi hK hP h1 u2 hu2 (fun H locs hP hS => ?_)
  refine lv_istore_n (lv' := [(2, .int u2), (0, .ref (ad 13)), (1, .ref (ad 9))]) hx hb dX1_copyTokens_4 rfl hl (by decide) rfl (fun ls hl => ?_)
  obtain ⟨h4, hs⟩ := hs
  obtain ⟨u3, hu3⟩ : ∃ z, z = L_X1_copyTokens_5 61 u2 Ex Et Gx Gm := ⟨_, rfl⟩
  have hs := hs u3 hu3
  have hex5 : ∀ (H : Heap) (locs : List Loc) (ls : Array Slot), va_P (dC, dI) vwCl (wC ad cI cJ Bc Bl Pk Pr Pl Pc Pm Gf Gt Gx Gd Gm Ek Er Ea u3.2.1 Em Eb u3.2.2 Ss Sm Wg Wr Md) H → va_S (fA 23 ad s.heap.size) s.heap H locs → lv_has ls 3 [(2, .int u3.1), (0, .ref (ad 13)), (1, .ref (ad 9))] → W p l e (headSpec (mW yX1_copyTokens cX1_copyTokens 3 none) { frames := 1, cells := 0, slots := 0, locals := 21 }).room s m ([.ref (ad 13), .ref (ad 9)] : List Value).toArray below meth c H locs 0 0 Q9 (F0 m 39 ls []) := by
    intro H locs ls hP hS hl
    rw [hQ9]
    have hf : f_X1_copyTokens Gt Gx Gd Gm Ex Et = (u3.2.1, u3.2.2) := by simp only [f_X1_copyTokens, ← hu2, ← hu3]
    exact W.vret hx hb hr (fun t ht hW => ⟨⟨(), rfl, True.intro, by rw [hf]; show va_P (dC, dI) vwCl _ t.heap; rw [ht]; exact hP⟩, hS.F ht⟩) hS.2.2 dX1_copyTokens_39
  have hlp6 : ∀ (n : Nat) (x2v : Int32) (Exv : Nat → Int32) (Etv : Int32) (H : Heap) (locs : List Loc) (ls : Array Slot), SL_X1_copyTokens_5 n x2v Exv Etv Gx Gm → u3 = L_X1_copyTokens_5 n x2v Exv Etv Gx Gm → va_P (dC, dI) vwCl (wC ad cI cJ Bc Bl Pk Pr Pl Pc Pm Gf Gt Gx Gd Gm Ek Er Ea Exv Em Eb Etv Ss Sm Wg Wr Md) H → va_S (fA 23 ad s.heap.size) s.heap H locs → lv_has ls 3 [(2, .int x2v), (0, .ref (ad 13)), (1, .ref (ad 9))] → W p l e (headSpec (mW yX1_copyTokens cX1_copyTokens 3 none) { frames := 1, cells := 0, slots := 0, locals := 21 }).room s m ([.ref (ad 13), .ref (ad 9)] : List Value).toArray below meth c H locs 0 0 Q9 (F0 m 5 ls []) := by
    intro n
    induction n with
    | zero => intro x2v Exv Etv H locs ls hs; rw [SL_X1_copyTokens_5] at hs; exact hs.elim
    | succ n ih =>
      intro x2v Exv Etv H locs ls hs hq7 hP hS hl
      rw [SL_X1_copyTokens_5] at hs
      refine lv_iload_n hx hb dX1_copyTokens_5 rfl (lv_at hl 0 rfl) ?_
      refine lv_if_lt (tgt := 39) hx hb dX1_copyTokens_6 (by decide) (fun c8 => ?_) (fun c8 => ?_)
      · have hs := hs.1 c8
        have he9 : u3 = (x2v, Exv, Etv) := by rw [hq7, L_X1_copyTokens_5]; simp only [if_pos c8]
        exact hex5 _ _ _ (by first | exact hP | (rw [he9]; exact hP)) hS (by first | exact lv_sub hl [0, 1, 2] rfl | (rw [he9]; exact lv_sub hl [0, 1, 2] rfl))
      · have hs := hs.2 c8
        refine lv_iload_n hx hb dX1_copyTokens_9 rfl (lv_at hl 0 rfl) ?_
        refine lv_aload_n hx hb dX1_copyTokens_10 rfl (lv_at hl 2 rfl) ?_
        refine va_get (D := (dC, dI)) (ci := 4) (v := .int Gm) (C := RX2) (T := TX2) (N := 5) hx hb hts iW_X2 hown hK hP 9 rfl rfl 4 (by decide) (hts _ mF_RX1_40) (fun _ h9 => h9) rfl dX1_copyTokens_11 ?_
        refine lv_icmp_ge (tgt := 39) hx hb dX1_copyTokens_14 (by decide) (fun c10 => ?_) (fun c10 => ?_)
        · have hs := hs.1 c10
          have he11 : u3 = (x2v, Exv, Etv) := by rw [hq7, L_X1_copyTokens_5]; simp only [if_neg c8, if_pos c10]
          exact hex5 _ _ _ (by first | exact hP | (rw [he11]; exact hP)) hS (by first | exact lv_sub hl [0, 1, 2] rfl | (rw [he11]; exact lv_sub hl [0, 1, 2] rfl))
        · have hs := hs.2 c10
          refine lv_iload_n hx hb dX1_copyTokens_17 rfl (lv_at hl 0 rfl) ?_
          refine lv_bipush (v := 60) hx hb dX1_copyTokens_18 (by decide) ?_
          refine lv_icmp_ge (tgt := 39) hx hb dX1_copyTokens_20 (by decide) (fun c12 => ?_) (fun c12 => ?_)
          · have hs := hs.1 c12
            have he13 : u3 = (x2v, Exv, Etv) := by rw [hq7, L_X1_copyTokens_5]; simp only [if_neg c8, if_neg c10, if_pos c12]
            exact hex5 _ _ _ (by first | exact hP | (rw [he13]; exact hP)) hS (by first | exact lv_sub hl [0, 1, 2] rfl | (rw [he13]; exact lv_sub hl [0, 1, 2] rfl))
          · have hs := hs.2 c12
            refine lv_aload_n hx hb dX1_copyTokens_23 rfl (lv_at hl 1 rfl) ?_
            refine lv_aload_n hx hb dX1_copyTokens_24 rfl (lv_at hl 2 rfl) ?_
            refine va_get (D := (dC, dI)) (ci := 4) (v := .ref (ad 12)) (C := RX2) (T := TX2) (N := 5) hx hb hts iW_X2 hown hK hP 9 rfl rfl 2 (by decide) (hts _ mF_RX1_41) (fun _ h9 => h9) rfl dX1_copyTokens_25 ?_
            refine lv_iload_n hx hb dX1_copyTokens_28 rfl (lv_at hl 0 rfl) ?_
            obtain ⟨h14, hs⟩ := hs
            refine va_iald hx hb hK hP 12 0 rfl rfl h14 dX1_copyTokens_29 ?_
            obtain ⟨h15, hs⟩ := hs
            obtain ⟨u16, hu16⟩ : ∃ z, z = f_X1_appendToken (Gx x2v.toNatClampNeg) Exv Etv := ⟨_, rfl⟩
            have hs := hs u16 hu16
            refine q_X1_appendToken hx hb hml hown hts mM_RX1_42 ⟨Nat.le_of_ble_eq_true rfl, Nat.le_of_ble_eq_true rfl⟩ ⟨Nat.le_of_ble_eq_true rfl, Nat.le_of_ble_eq_true rfl⟩ hl.1 (Nat.le_of_ble_eq_true rfl) hS dX1_copyTokens_30 (fun _ h9 => fA_mono hS.1 h9) hi hK hP (Gx x2v.toNatClampNeg) h15 u16 hu16 (fun H locs hP hS => ?_)
            refine lv_iinc (v := (x2v + 1)) (lv' := [(2, .int (x2v + 1)), (0, .ref (ad 13)), (1, .ref (ad 9))]) hx hb dX1_copyTokens_33 hl (k := 0) rfl rfl (by decide) rfl (fun ls hl => ?_)
            refine lv_goto (tgt := 5) hx hb dX1_copyTokens_36 (by decide) ?_
            exact ih (x2v + 1) u16.1 u16.2 _ _ _ hs (by rw [hq7, L_X1_copyTokens_5]; simp only [if_neg c8, if_neg c10, if_neg c12, ← hu16]) hP hS (lv_sub hl [0, 1, 2] rfl)
  exact hlp6 61 u2 Ex Et _ _ _ h4 hu3 hP hS (lv_sub hl [0, 1, 2] rfl)
theorem q_X1_copyTokens {p : Program} {l : Launch} {e : Env} {R : Room} {s : State} {m : MethodId} {args : Array Value} {below : List Frame} {meth : Method} {c : Code} {H : Heap} {locs : List Loc} {cells slots : Nat} {Q : State → Prop} {pc : Nat} {ls : Array Slot} {rest : List Value} {cc : ByteArray} {nL idx : Nat} {own : String} {A0 : Nat → Prop} {dC : Nat → ClassId} {dI : Nat → Nat → Nat} {cI cJ : ClassId} {ad : Nat → Nat} {Bc : Nat → Int64} {Bl : Nat → Int32} {Pk : Nat → Int32} {Pr : Nat → Int32} {Pl : Nat → Int32} {Pc : Nat → Int64} {Pm : Int32} {Gf : Nat → Int32} {Gt : Nat → Int32} {Gx : Nat → Int32} {Gd : Int32} {Gm : Int32} {Ek : Nat → Int32} {Er : Nat → Int32} {Ea : Nat → Int32} {Ex : Nat → Int32} {Em : Int32} {Eb : Int32} {Et : Int32} {Ss : Nat → Int32} {Sm : Int32} {Wg : Nat → Int64} {Wr : Nat → Int64} {Md : Nat → Int64} (hx : p.tables.exec = Jvm.exec) (hb : c.code = cc) (hml : c.maxLocals = nL) (hown : s.vm.findClass own = some m.cls) (hts : ∀ w ∈ bigW, w.before args s = true) (hlk : Cond.methodLink own idx yX1_copyTokens ∈ bigW) (hR : 2 ≤ R.frames ∧ 43 ≤ R.locals) (hf : cells + 0 ≤ R.cells ∧ slots + 0 ≤ R.slots) (hz : ls.size = nL) (hw : (rest.map fun v => v.category).sum ≤ 8) (hS : va_S A0 s.heap H locs) (hd : decode cc pc = .ok (.invokevirtual idx, 3)) (hA : ∀ q, fA 23 ad H.size q → A0 q) (hi : fI 23 ad) (hK : va_K (dC, dI) vwCl [(cI, .int), (cJ, .long)] s) (hP : va_P (dC, dI) vwCl (wC ad cI cJ Bc Bl Pk Pr Pl Pc Pm Gf Gt Gx Gd Gm Ek Er Ea Ex Em Eb Et Ss Sm Wg Wr Md) H) (hs : S_X1_copyTokens Gt Gx Gd Gm Ex Et)  (u : (Nat → Int32) × Int32) (hu : u = f_X1_copyTokens Gt Gx Gd Gm Ex Et) (k : ∀ (H1 : Heap) (locs1 : List Loc), va_P (dC, dI) vwCl (wC ad cI cJ Bc Bl Pk Pr Pl Pc Pm Gf Gt Gx Gd Gm Ek Er Ea u.1 Em Eb u.2 Ss Sm Wg Wr Md) H1 → va_S A0 s.heap H1 locs1 → W p l e R s m args below meth c H1 locs1 (cells + 0) (slots + 0) Q (F0 m (pc + 3) ls (rest))) : W p l e R s m args below meth c H locs cells slots Q (F0 m pc ls (.ref (ad 9) :: .ref (ad 13) :: rest)) := by
  subst hu
  exact va_callv (va_runV (As := [.ref (ad 9)]) (rest := rest) ⟨hx, hb, hml, hown, hts⟩ (c_X1_copyTokens l dC dI cI cJ ad hi H.size Bc Bl Pk Pr Pl Pc Pm Gf Gt Gx Gd Gm Ek Er Ea Ex Em Eb Et Ss Sm Wg Wr Md hs) (kV 1 hts hlk mI_X1_copyTokens mN_RX1 mY_X1_copyTokens mV_X1_copyTokens rfl rfl (by decide +kernel) hR) ⟨fun a U g mk q => ⟨q.1, q.2.1, q.2.2.1, va_K.moved (u := U) (U := U.calling g mk a) (Vm.Alike.refl U.vm) q.2.2.2⟩, va_recv hK hP (ci := 3) (q0 := 13) rfl rfl, fun U hU hW => ⟨rfl, by rw [hU], by rw [hU]; exact hP, va_K.moved hW.alike hK⟩⟩ rfl rfl hz rfl (lv_room hw) hd hf) hS (fun q _ h => hA q h) (fun q h => hA q h) (fun u t H1 locs1 ht hvm hw9 hB hz1 hk1 hS1 => by
    skip
    exact k H1 locs1 (by rw [← ht]; exact hB) hS1)

def f_X3_keep (a1 : Int32) (a2 : Int32) (Bc : Nat → Int64) (Bl : Nat → Int32) (Pk : Nat → Int32) (Pr : Nat → Int32) (Pl : Nat → Int32) (Pc : Nat → Int64) (Pm : Int32) : (Nat → Int32) × (Nat → Int32) × (Nat → Int32) × (Nat → Int64) × Int32 := (if Pm < 0 then (Pk, Pr, Pl, Pc, Pm) else (if Pm < (200 : Int32) then ((upd Pk Pm.toNatClampNeg a1), (upd Pr Pm.toNatClampNeg a2), (upd Pl Pm.toNatClampNeg (Bl (f_X0_place a1 a2).toNatClampNeg)), (va_cpy Bc Pc (f_X0_home a1 a2).toNatClampNeg (Pm * (21 : Int32)).toNatClampNeg (gWIDTHS a1).toNatClampNeg), (Pm + (1 : Int32))) else (Pk, Pr, Pl, Pc, Pm)))
def S_X3_keep (a1 : Int32) (a2 : Int32) (Bc : Nat → Int64) (Bl : Nat → Int32) (Pk : Nat → Int32) (Pr : Nat → Int32) (Pl : Nat → Int32) (Pc : Nat → Int64) (Pm : Int32) : Prop := (Pm < 0 → (True)) ∧ (¬ Pm < 0 → ((Pm < (200 : Int32) → ((vp_in Pm 200) ∧ ((vp_in Pm 200) ∧ ((vp_in (f_X0_place a1 a2) 160) ∧ ((vp_in Pm 200) ∧ ((S_X0_home a1 a2) ∧ ((vp_in a1 5) ∧ ((¬ (f_X0_home a1 a2) < 0) ∧ ((¬ (Pm * (21 : Int32)) < 0) ∧ ((¬ (gWIDTHS a1) < 0) ∧ (((f_X0_home a1 a2).toNatClampNeg + (gWIDTHS a1).toNatClampNeg ≤ 928) ∧ (((Pm * (21 : Int32)).toNatClampNeg + (gWIDTHS a1).toNatClampNeg ≤ 4200) ∧ (True))))))))))))) ∧ (¬ Pm < (200 : Int32) → (True))))
set_option maxHeartbeats 4000000 in
set_option maxRecDepth 100000 in
theorem c_X3_keep (l : Launch) (dC : Nat → ClassId) (dI : Nat → Nat → Nat) (cI cJ : ClassId) (ad : Nat → Nat) (hi : fI 23 ad) (sz : Nat) (Bc : Nat → Int64) (Bl : Nat → Int32) (Pk : Nat → Int32) (Pr : Nat → Int32) (Pl : Nat → Int32) (Pc : Nat → Int64) (Pm : Int32) (Gf : Nat → Int32) (Gt : Nat → Int32) (Gx : Nat → Int32) (Gd : Int32) (Gm : Int32) (Ek : Nat → Int32) (Er : Nat → Int32) (Ea : Nat → Int32) (Ex : Nat → Int32) (Em : Int32) (Eb : Int32) (Et : Int32) (Ss : Nat → Int32) (Sm : Int32) (Wg : Nat → Int64) (Wr : Nat → Int64) (Md : Nat → Int64) (a1 : Int32) (a2 : Int32) (hs : S_X3_keep a1 a2 Bc Bl Pk Pr Pl Pc Pm) : Met l yX3_keep (mW yX3_keep cX3_keep 4 none) { frames := 1, cells := 0, slots := 0, locals := 60 } (va_Pc [.ref (ad 4), .ref (ad 1), .int a1, .int a2] (fun U => U.heap.size = sz ∧ va_P (dC, dI) vwCl (wC ad cI cJ Bc Bl Pk Pr Pl Pc Pm Gf Gt Gx Gd Gm Ek Er Ea Ex Em Eb Et Ss Sm Wg Wr Md) U.heap ∧ va_K (dC, dI) vwCl [(cI, .int), (cJ, .long)] U ∧ cxt (fA 23 ad sz) U U.heap)) (va_Qv (fun (_ : Unit) => True) (fun _ t => va_P (dC, dI) vwCl (wC ad cI cJ Bc Bl ((f_X3_keep a1 a2 Bc Bl Pk Pr Pl Pc Pm).1) ((f_X3_keep a1 a2 Bc Bl Pk Pr Pl Pc Pm).2.1) ((f_X3_keep a1 a2 Bc Bl Pk Pr Pl Pc Pm).2.2.1) ((f_X3_keep a1 a2 Bc Bl Pk Pr Pl Pc Pm).2.2.2.1) ((f_X3_keep a1 a2 Bc Bl Pk Pr Pl Pc Pm).2.2.2.2) Gf Gt Gx Gd Gm Ek Er Ea Ex Em Eb Et Ss Sm Wg Wr Md) t.heap) (fA 23 ad sz)) 0 0 (fA 23 ad sz) := by
  refine Met.ofW (cc := cX3_keep) (maxL := 4) (ret := none) (by decide) rfl ?_
  intro p e s m args below meth c s₁ B hml hv
  obtain ⟨rfl, hsz, hP, hK, hC⟩ := hv
  have hx := B.exec
  have hb := B.bytes
  have hr := B.returns
  have hts := mW_hts (atoms_spec (ws := (mW yX3_keep cX3_keep 4 none)) B.pre)
  have hown : s.vm.findClass RX3 = some m.cls := findClass_of_methodNamed B.named
  have hlocks := B.notSynchronized
  subst hsz
  have hA : ∀ (n : Nat) (q : Nat), s.heap.size ≤ n → n ≤ q → fA 23 ad s.heap.size q := fun n q h1 h2 => Or.inr (Nat.le_trans h1 h2)
  have hS : va_S (fA 23 ad s.heap.size) s.heap s.heap [] := va_S.rf
  have hA : ∀ q, s.heap.size ≤ q → (fA 23 ad s.heap.size) q := fun q h => Or.inr h
  unfold S_X3_keep at hs
  have hl := lv_entry ([.ref (ad 4), .ref (ad 1), .int a1, .int a2]) (n := 4) (Nat.le_of_ble_eq_true rfl)
  rw [lg_entry_eq]
  generalize (lg_sl ([.ref (ad 4), .ref (ad 1), .int a1, .int a2]) ++ List.replicate (4 - (lg_sl ([.ref (ad 4), .ref (ad 1), .int a1, .int a2])).length) Slot.unset).toArray = ls at hl ⊢
  have hl : lv_has ls 4 [(0, .ref (ad 4)), (1, .ref (ad 1)), (2, .int a1), (3, .int a2)] := hl
  refine W_gen (fun Q9 hQ9 => ?_)
  refine lv_aload_n hx hb dX3_keep_0 rfl (lv_at hl 0 rfl) ?_
  refine va_get (D := (dC, dI)) (ci := 5) (v := .int Pm) (C := RX3) (T := TX3) (N := 5) hx hb hts iW_X3 hown hK hP 4 rfl rfl 4 (by decide) (hts _ mF_RX3_25) (fun _ h9 => h9) rfl dX3_keep_1 ?_
  refine lv_if_lt (tgt := 17) hx hb dX3_keep_4 (by decide) (fun c1 => ?_) (fun c1 => ?_)
  · have hs := hs.1 c1
    rw [hQ9]
    have hf : f_X3_keep a1 a2 Bc Bl Pk Pr Pl Pc Pm = (Pk, Pr, Pl, Pc, Pm) := by simp only [f_X3_keep, if_pos c1]
    exact W.vret hx hb hr (fun t ht hW => ⟨⟨(), rfl, True.intro, by rw [hf]; show va_P (dC, dI) vwCl _ t.heap; rw [ht]; exact hP⟩, hS.F ht⟩) hS.2.2 dX3_keep_17
  · have hs := hs.2 c1
    refine lv_aload_n hx hb dX3_keep_7 rfl (lv_at hl 0 rfl) ?_
    refine va_get (D := (dC, dI)) (ci := 5) (v := .int Pm) (C := RX3) (T := TX3) (N := 5) hx hb hts iW_X3 hown hK hP 4 rfl rfl 4 (by decide) (hts _ mF_RX3_25) (fun _ h9 => h9) rfl dX3_keep_8 ?_
    refine lv_sipush (v := 200) hx hb dX3_keep_11 (by decide) ?_
    refine lv_icmp_lt (tgt := 18) hx hb dX3_keep_14 (by decide) (fun c2 => ?_) (fun c2 => ?_)
    · have hs := hs.1 c2
      refine lv_aload_n hx hb dX3_keep_18 rfl (lv_at hl 0 rfl) ?_
      refine va_get (D := (dC, dI)) (ci := 5) (v := .ref (ad 5)) (C := RX3) (T := TX3) (N := 5) hx hb hts iW_X3 hown hK hP 4 rfl rfl 0 (by decide) (hts _ mF_RX3_9) (fun _ h9 => h9) rfl dX3_keep_19 ?_
      refine lv_aload_n hx hb dX3_keep_22 rfl (lv_at hl 0 rfl) ?_
      refine va_get (D := (dC, dI)) (ci := 5) (v := .int Pm) (C := RX3) (T := TX3) (N := 5) hx hb hts iW_X3 hown hK hP 4 rfl rfl 4 (by decide) (hts _ mF_RX3_25) (fun _ h9 => h9) rfl dX3_keep_23 ?_
      refine lv_iload_n hx hb dX3_keep_26 rfl (lv_at hl 2 rfl) ?_
      obtain ⟨h3, hs⟩ := hs
      refine va_iast hx hb hK hP (fA_D hi rfl) hS 5 0 rfl rfl h3 dX3_keep_27 (fun H locs hP _ hS => ?_)
      have hP : va_P (dC, dI) vwCl (wC ad cI cJ Bc Bl (upd Pk Pm.toNatClampNeg a1) Pr Pl Pc Pm Gf Gt Gx Gd Gm Ek Er Ea Ex Em Eb Et Ss Sm Wg Wr Md) H := hP
      refine lv_aload_n hx hb dX3_keep_28 rfl (lv_at hl 0 rfl) ?_
      refine va_get (D := (dC, dI)) (ci := 5) (v := .ref (ad 6)) (C := RX3) (T := TX3) (N := 5) hx hb hts iW_X3 hown hK hP 4 rfl rfl 1 (by decide) (hts _ mF_RX3_15) (fun _ h9 => h9) rfl dX3_keep_29 ?_
      refine lv_aload_n hx hb dX3_keep_32 rfl (lv_at hl 0 rfl) ?_
      refine va_get (D := (dC, dI)) (ci := 5) (v := .int Pm) (C := RX3) (T := TX3) (N := 5) hx hb hts iW_X3 hown hK hP 4 rfl rfl 4 (by decide) (hts _ mF_RX3_25) (fun _ h9 => h9) rfl dX3_keep_33 ?_
      refine lv_iload_n hx hb dX3_keep_36 rfl (lv_at hl 3 rfl) ?_
      obtain ⟨h4, hs⟩ := hs
      refine va_iast hx hb hK hP (fA_D hi rfl) hS 6 0 rfl rfl h4 dX3_keep_37 (fun H locs hP _ hS => ?_)
      have hP : va_P (dC, dI) vwCl (wC ad cI cJ Bc Bl (upd Pk Pm.toNatClampNeg a1) (upd Pr Pm.toNatClampNeg a2) Pl Pc Pm Gf Gt Gx Gd Gm Ek Er Ea Ex Em Eb Et Ss Sm Wg Wr Md) H := hP
      refine lv_aload_n hx hb dX3_keep_38 rfl (lv_at hl 0 rfl) ?_
      refine va_get (D := (dC, dI)) (ci := 5) (v := .ref (ad 7)) (C := RX3) (T := TX3) (N := 5) hx hb hts iW_X3 hown hK hP 4 rfl rfl 2 (by decide) (hts _ mF_RX3_18) (fun _ h9 => h9) rfl dX3_keep_39 ?_
      refine lv_aload_n hx hb dX3_keep_42 rfl (lv_at hl 0 rfl) ?_
      refine va_get (D := (dC, dI)) (ci := 5) (v := .int Pm) (C := RX3) (T := TX3) (N := 5) hx hb hts iW_X3 hown hK hP 4 rfl rfl 4 (by decide) (hts _ mF_RX3_25) (fun _ h9 => h9) rfl dX3_keep_43 ?_
      refine lv_aload_n hx hb dX3_keep_46 rfl (lv_at hl 1 rfl) ?_
      refine va_get (D := (dC, dI)) (ci := 2) (v := .ref (ad 3)) (C := RX0) (T := TX0) (N := 2) hx hb hts iW_X0 hown hK hP 1 rfl rfl 1 (by decide) (hts _ mF_RX3_29) (fun _ h9 => h9) rfl dX3_keep_47 ?_
      refine lv_iload_n hx hb dX3_keep_50 rfl (lv_at hl 2 rfl) ?_
      refine lv_iload_n hx hb dX3_keep_51 rfl (lv_at hl 3 rfl) ?_
      refine q_X0_place hx hb hml hown hts mM_RX3_32 ⟨Nat.le_of_ble_eq_true rfl, Nat.le_of_ble_eq_true rfl⟩ ⟨Nat.le_of_ble_eq_true rfl, Nat.le_of_ble_eq_true rfl⟩ hl.1 (Nat.le_of_ble_eq_true rfl) hS dX3_keep_52 hA a1 a2 (fun locs hS => ?_)
      obtain ⟨h5, hs⟩ := hs
      refine va_iald hx hb hK hP 3 0 rfl rfl h5 dX3_keep_55 ?_
      obtain ⟨h6, hs⟩ := hs
      refine va_iast hx hb hK hP (fA_D hi rfl) hS 7 0 rfl rfl h6 dX3_keep_56 (fun H locs hP _ hS => ?_)
      have hP : va_P (dC, dI) vwCl (wC ad cI cJ Bc Bl (upd Pk Pm.toNatClampNeg a1) (upd Pr Pm.toNatClampNeg a2) (upd Pl Pm.toNatClampNeg (Bl (f_X0_place a1 a2).toNatClampNeg)) Pc Pm Gf Gt Gx Gd Gm Ek Er Ea Ex Em Eb Et Ss Sm Wg Wr Md) H := hP
      refine lv_aload_n hx hb dX3_keep_57 rfl (lv_at hl 1 rfl) ?_
      refine va_get (D := (dC, dI)) (ci := 2) (v := .ref (ad 2)) (C := RX0) (T := TX0) (N := 2) hx hb hts iW_X0 hown hK hP 1 rfl rfl 0 (by decide) (hts _ mF_RX3_36) (fun _ h9 => h9) rfl dX3_keep_58 ?_
      refine lv_iload_n hx hb dX3_keep_61 rfl (lv_at hl 2 rfl) ?_
      refine lv_iload_n hx hb dX3_keep_62 rfl (lv_at hl 3 rfl) ?_
      obtain ⟨h7, hs⟩ := hs
      refine q_X0_home hx hb hml hown hts mM_RX3_37 ⟨Nat.le_of_ble_eq_true rfl, Nat.le_of_ble_eq_true rfl⟩ ⟨Nat.le_of_ble_eq_true rfl, Nat.le_of_ble_eq_true rfl⟩ hl.1 (Nat.le_of_ble_eq_true rfl) hS dX3_keep_63 hA hC a1 a2 h7 (fun locs hS => ?_)
      refine lv_aload_n hx hb dX3_keep_66 rfl (lv_at hl 0 rfl) ?_
      refine va_get (D := (dC, dI)) (ci := 5) (v := .ref (ad 8)) (C := RX3) (T := TX3) (N := 5) hx hb hts iW_X3 hown hK hP 4 rfl rfl 3 (by decide) (hts _ mF_RX3_21) (fun _ h9 => h9) rfl dX3_keep_67 ?_
      refine lv_aload_n hx hb dX3_keep_70 rfl (lv_at hl 0 rfl) ?_
      refine va_get (D := (dC, dI)) (ci := 5) (v := .int Pm) (C := RX3) (T := TX3) (N := 5) hx hb hts iW_X3 hown hK hP 4 rfl rfl 4 (by decide) (hts _ mF_RX3_25) (fun _ h9 => h9) rfl dX3_keep_71 ?_
      refine lv_bipush (v := 21) hx hb dX3_keep_74 (by decide) ?_
      refine lv_imul hx hb dX3_keep_76 ?_
      obtain ⟨t8, hZt8, hTt8⟩ := hC.2.2.2.1
      refine va_getsN hx hb hZt8 hS hown (va_Nw.use rfl hC.2.2.2.2.2.2.1.2.2) (fun _ h9 => h9) dX3_keep_77 ?_
      refine lv_iload_n hx hb dX3_keep_80 rfl (lv_at hl 2 rfl) ?_
      obtain ⟨h9, hs⟩ := hs
      refine va_ti hx hb hTt8 hS h9 (v := .int (gWIDTHS a1)) rfl dX3_keep_81 ?_
      obtain ⟨h10, hs⟩ := hs
      obtain ⟨h11, hs⟩ := hs
      obtain ⟨h12, hs⟩ := hs
      obtain ⟨h13, hs⟩ := hs
      obtain ⟨h14, hs⟩ := hs
      refine va_copyl hx hb (by rw [hml]; exact hl.1.symm) hown (hts _ mM_RX3_43) (hts _ mcp1) (hts _ mcp2) (hts _ mcp3) hK hP (fA_D hi rfl) hS 2 8 1 1 rfl rfl rfl rfl rfl h10 h11 h12 h13 h14 (fun _ _ => rfl) (Nat.le_of_ble_eq_true rfl) (Nat.le_of_ble_eq_true rfl) dX3_keep_82 (fun H locs hP _ hS => ?_)
      have hP : va_P (dC, dI) vwCl (wC ad cI cJ Bc Bl (upd Pk Pm.toNatClampNeg a1) (upd Pr Pm.toNatClampNeg a2) (upd Pl Pm.toNatClampNeg (Bl (f_X0_place a1 a2).toNatClampNeg)) (va_cpy Bc Pc (f_X0_home a1 a2).toNatClampNeg (Pm * (21 : Int32)).toNatClampNeg (gWIDTHS a1).toNatClampNeg) Pm Gf Gt Gx Gd Gm Ek Er Ea Ex Em Eb Et Ss Sm Wg Wr Md) H := hP
      refine lv_aload_n hx hb dX3_keep_85 rfl (lv_at hl 0 rfl) ?_
      refine lv_dup hx hb dX3_keep_86 rfl ?_
      refine va_get (D := (dC, dI)) (ci := 5) (v := .int Pm) (C := RX3) (T := TX3) (N := 5) hx hb hts iW_X3 hown hK hP 4 rfl rfl 4 (by decide) (hts _ mF_RX3_25) (fun _ h9 => h9) rfl dX3_keep_87 ?_
      refine lv_iconst (v := 1) hx hb dX3_keep_90 (by decide) ?_
      refine lv_iadd hx hb dX3_keep_91 ?_
      refine va_put (D := (dC, dI)) (ci := 5) (v := .int (Pm + (1 : Int32))) (ty := .int) (C := RX3) (T := TX3) (N := 5) hx hb hts iW_X3 tyX3 tyX3_ok nmX3 hown hK hP (fA_D hi rfl) hS 4 rfl rfl 4 (by decide) (hts _ mF_RX3_25) (fun _ h9 => h9) rfl (by decide +kernel) rfl rfl (Nat.le_of_ble_eq_true rfl) dX3_keep_92 (fun H locs hP _ hS => ?_)
      have hP : va_P (dC, dI) vwCl (wC ad cI cJ Bc Bl (upd Pk Pm.toNatClampNeg a1) (upd Pr Pm.toNatClampNeg a2) (upd Pl Pm.toNatClampNeg (Bl (f_X0_place a1 a2).toNatClampNeg)) (va_cpy Bc Pc (f_X0_home a1 a2).toNatClampNeg (Pm * (21 : Int32)).toNatClampNeg (gWIDTHS a1).toNatClampNeg) (Pm + (1 : Int32)) Gf Gt Gx Gd Gm Ek Er Ea Ex Em Eb Et Ss Sm Wg Wr Md) H := hP
      rw [hQ9]
      have hf : f_X3_keep a1 a2 Bc Bl Pk Pr Pl Pc Pm = ((upd Pk Pm.toNatClampNeg a1), (upd Pr Pm.toNatClampNeg a2), (upd Pl Pm.toNatClampNeg (Bl (f_X0_place a1 a2).toNatClampNeg)), (va_cpy Bc Pc (f_X0_home a1 a2).toNatClampNeg (Pm * (21 : Int32)).toNatClampNeg (gWIDTHS a1).toNatClampNeg), (Pm + (1 : Int32))) := by simp only [f_X3_keep, if_neg c1, if_pos c2]
      exact W.vret hx hb hr (fun t ht hW => ⟨⟨(), rfl, True.intro, by rw [hf]; show va_P (dC, dI) vwCl _ t.heap; rw [ht]; exact hP⟩, hS.F ht⟩) hS.2.2 dX3_keep_95
    · have hs := hs.2 c2
      rw [hQ9]
      have hf : f_X3_keep a1 a2 Bc Bl Pk Pr Pl Pc Pm = (Pk, Pr, Pl, Pc, Pm) := by simp only [f_X3_keep, if_neg c1, if_neg c2]
      exact W.vret hx hb hr (fun t ht hW => ⟨⟨(), rfl, True.intro, by rw [hf]; show va_P (dC, dI) vwCl _ t.heap; rw [ht]; exact hP⟩, hS.F ht⟩) hS.2.2 dX3_keep_17
theorem q_X3_keep {p : Program} {l : Launch} {e : Env} {R : Room} {s : State} {m : MethodId} {args : Array Value} {below : List Frame} {meth : Method} {c : Code} {H : Heap} {locs : List Loc} {cells slots : Nat} {Q : State → Prop} {pc : Nat} {ls : Array Slot} {rest : List Value} {cc : ByteArray} {nL idx : Nat} {own : String} {A0 : Nat → Prop} {dC : Nat → ClassId} {dI : Nat → Nat → Nat} {cI cJ : ClassId} {ad : Nat → Nat} {Bc : Nat → Int64} {Bl : Nat → Int32} {Pk : Nat → Int32} {Pr : Nat → Int32} {Pl : Nat → Int32} {Pc : Nat → Int64} {Pm : Int32} {Gf : Nat → Int32} {Gt : Nat → Int32} {Gx : Nat → Int32} {Gd : Int32} {Gm : Int32} {Ek : Nat → Int32} {Er : Nat → Int32} {Ea : Nat → Int32} {Ex : Nat → Int32} {Em : Int32} {Eb : Int32} {Et : Int32} {Ss : Nat → Int32} {Sm : Int32} {Wg : Nat → Int64} {Wr : Nat → Int64} {Md : Nat → Int64} (hx : p.tables.exec = Jvm.exec) (hb : c.code = cc) (hml : c.maxLocals = nL) (hown : s.vm.findClass own = some m.cls) (hts : ∀ w ∈ bigW, w.before args s = true) (hlk : Cond.methodLink own idx yX3_keep ∈ bigW) (hR : 2 ≤ R.frames ∧ 83 ≤ R.locals) (hf : cells + 0 ≤ R.cells ∧ slots + 0 ≤ R.slots) (hz : ls.size = nL) (hw : (rest.map fun v => v.category).sum ≤ 8) (hS : va_S A0 s.heap H locs) (hd : decode cc pc = .ok (.invokevirtual idx, 3)) (hA : ∀ q, fA 23 ad H.size q → A0 q) (hi : fI 23 ad) (hK : va_K (dC, dI) vwCl [(cI, .int), (cJ, .long)] s) (hP : va_P (dC, dI) vwCl (wC ad cI cJ Bc Bl Pk Pr Pl Pc Pm Gf Gt Gx Gd Gm Ek Er Ea Ex Em Eb Et Ss Sm Wg Wr Md) H) (hC : cxt A0 s s.heap) (a1 : Int32) (a2 : Int32) (hs : S_X3_keep a1 a2 Bc Bl Pk Pr Pl Pc Pm)  (u : (Nat → Int32) × (Nat → Int32) × (Nat → Int32) × (Nat → Int64) × Int32) (hu : u = f_X3_keep a1 a2 Bc Bl Pk Pr Pl Pc Pm) (k : ∀ (H1 : Heap) (locs1 : List Loc), va_P (dC, dI) vwCl (wC ad cI cJ Bc Bl u.1 u.2.1 u.2.2.1 u.2.2.2.1 u.2.2.2.2 Gf Gt Gx Gd Gm Ek Er Ea Ex Em Eb Et Ss Sm Wg Wr Md) H1 → va_S A0 s.heap H1 locs1 → W p l e R s m args below meth c H1 locs1 (cells + 0) (slots + 0) Q (F0 m (pc + 3) ls (rest))) : W p l e R s m args below meth c H locs cells slots Q (F0 m pc ls (.int a2 :: .int a1 :: .ref (ad 1) :: .ref (ad 4) :: rest)) := by
  subst hu
  exact va_callv (va_runV (As := [.ref (ad 1), .int a1, .int a2]) (rest := rest) ⟨hx, hb, hml, hown, hts⟩ (c_X3_keep l dC dI cI cJ ad hi H.size Bc Bl Pk Pr Pl Pc Pm Gf Gt Gx Gd Gm Ek Er Ea Ex Em Eb Et Ss Sm Wg Wr Md a1 a2 hs) (kV 3 hts hlk mI_X3_keep mN_RX3 mY_X3_keep mV_X3_keep rfl rfl (by decide +kernel) hR) ⟨fun a U g mk q => ⟨q.1, q.2.1, q.2.2.1, va_K.moved (u := U) (U := U.calling g mk a) (Vm.Alike.refl U.vm) q.2.2.2.1, q.2.2.2.2.call⟩, va_recv hK hP (ci := 5) (q0 := 4) rfl rfl, fun U hU hW => ⟨rfl, by rw [hU], by rw [hU]; exact hP, va_K.moved hW.alike hK, by have h9 := hC.here hS hU hW hA; exact h9⟩⟩ rfl rfl hz rfl (lv_room hw) hd hf) hS (fun q _ h => hA q h) (fun q h => hA q h) (fun u t H1 locs1 ht hvm hw9 hB hz1 hk1 hS1 => by
    skip
    exact k H1 locs1 (by rw [← ht]; exact hB) hS1)

def f_X4_signAt (a0 : Int32) (Ss : Nat → Int32) (Sm : Int32) : Int32 := (if a0 < 0 then (-1 : Int32) else (if Sm ≤ a0 then (-1 : Int32) else (if a0 < (61 : Int32) then (Ss a0.toNatClampNeg) else (-1 : Int32))))
def S_X4_signAt (a0 : Int32) (Ss : Nat → Int32) (Sm : Int32) : Prop := (a0 < 0 → (True)) ∧ (¬ a0 < 0 → ((Sm ≤ a0 → (True)) ∧ (¬ Sm ≤ a0 → ((a0 < (61 : Int32) → ((vp_in a0 61) ∧ (True))) ∧ (¬ a0 < (61 : Int32) → (True))))))
set_option maxHeartbeats 4000000 in
set_option maxRecDepth 100000 in
theorem c_X4_signAt (l : Launch) (dC : Nat → ClassId) (dI : Nat → Nat → Nat) (cI cJ : ClassId) (ad : Nat → Nat) (hi : fI 23 ad) (sz : Nat) (Bc : Nat → Int64) (Bl : Nat → Int32) (Pk : Nat → Int32) (Pr : Nat → Int32) (Pl : Nat → Int32) (Pc : Nat → Int64) (Pm : Int32) (Gf : Nat → Int32) (Gt : Nat → Int32) (Gx : Nat → Int32) (Gd : Int32) (Gm : Int32) (Ek : Nat → Int32) (Er : Nat → Int32) (Ea : Nat → Int32) (Ex : Nat → Int32) (Em : Int32) (Eb : Int32) (Et : Int32) (Ss : Nat → Int32) (Sm : Int32) (Wg : Nat → Int64) (Wr : Nat → Int64) (Md : Nat → Int64) (a0 : Int32) (hs : S_X4_signAt a0 Ss Sm) : Met l yX4_signAt (mW yX4_signAt cX4_signAt 2 (some .int)) { frames := 0, cells := 0, slots := 0, locals := 0 } (va_Pc [.ref (ad 18), .int a0] (fun U => U.heap.size = sz ∧ va_P (dC, dI) vwCl (wC ad cI cJ Bc Bl Pk Pr Pl Pc Pm Gf Gt Gx Gd Gm Ek Er Ea Ex Em Eb Et Ss Sm Wg Wr Md) U.heap ∧ va_K (dC, dI) vwCl [(cI, .int), (cJ, .long)] U)) (va_Qi (fun (r : Int32) (_ : Unit) => r = f_X4_signAt a0 Ss Sm) (fun _ t => va_P (dC, dI) vwCl (wC ad cI cJ Bc Bl Pk Pr Pl Pc Pm Gf Gt Gx Gd Gm Ek Er Ea Ex Em Eb Et Ss Sm Wg Wr Md) t.heap) (fA 23 ad sz)) 0 0 (fA 23 ad sz) := by
  refine Met.ofW (cc := cX4_signAt) (maxL := 2) (ret := (some .int)) (by decide) rfl ?_
  intro p e s m args below meth c s₁ B hml hv
  obtain ⟨rfl, hsz, hP, hK⟩ := hv
  have hx := B.exec
  have hb := B.bytes
  have hr := B.returns
  have hts := mW_hts (atoms_spec (ws := (mW yX4_signAt cX4_signAt 2 (some .int))) B.pre)
  have hown : s.vm.findClass RX4 = some m.cls := findClass_of_methodNamed B.named
  have hlocks := B.notSynchronized
  subst hsz
  have hA : ∀ (n : Nat) (q : Nat), s.heap.size ≤ n → n ≤ q → fA 23 ad s.heap.size q := fun n q h1 h2 => Or.inr (Nat.le_trans h1 h2)
  have hS : va_S (fA 23 ad s.heap.size) s.heap s.heap [] := va_S.rf
  have hA : ∀ q, s.heap.size ≤ q → (fA 23 ad s.heap.size) q := fun q h => Or.inr h
  unfold S_X4_signAt at hs
  have hl := lv_entry ([.ref (ad 18), .int a0]) (n := 2) (Nat.le_of_ble_eq_true rfl)
  rw [lg_entry_eq]
  generalize (lg_sl ([.ref (ad 18), .int a0]) ++ List.replicate (2 - (lg_sl ([.ref (ad 18), .int a0])).length) Slot.unset).toArray = ls at hl ⊢
  have hl : lv_has ls 2 [(0, .ref (ad 18)), (1, .int a0)] := hl
  refine W_gen (fun Q9 hQ9 => ?_)
  refine lv_iload_n hx hb dX4_signAt_0 rfl (lv_at hl 1 rfl) ?_
  refine lv_if_lt (tgt := 18) hx hb dX4_signAt_1 (by decide) (fun c1 => ?_) (fun c1 => ?_)
  · have hs := hs.1 c1
    refine lv_iconst (v := (-1)) hx hb dX4_signAt_18 (by decide) ?_
    refine lv_goto (tgt := 28) hx hb dX4_signAt_19 (by decide) ?_
    rw [hQ9]
    have hf : f_X4_signAt a0 Ss Sm = (-1 : Int32) := by simp only [f_X4_signAt, if_pos c1]
    exact W.iret (v := (-1 : Int32)) hx hb hr (fun t ht hW => ⟨⟨(-1 : Int32), (), rfl, by rw [hf], by show va_P (dC, dI) vwCl _ t.heap; rw [ht]; exact hP⟩, hS.F ht⟩) hS.2.2 dX4_signAt_28
  · have hs := hs.2 c1
    refine lv_iload_n hx hb dX4_signAt_4 rfl (lv_at hl 1 rfl) ?_
    refine lv_aload_n hx hb dX4_signAt_5 rfl (lv_at hl 0 rfl) ?_
    refine va_get (D := (dC, dI)) (ci := 6) (v := .int Sm) (C := RX4) (T := TX4) (N := 2) hx hb hts iW_X4 hown hK hP 18 rfl rfl 1 (by decide) (hts _ mF_RX4_15) (fun _ h9 => h9) rfl dX4_signAt_6 ?_
    refine lv_icmp_ge (tgt := 18) hx hb dX4_signAt_9 (by decide) (fun c2 => ?_) (fun c2 => ?_)
    · have hs := hs.1 c2
      refine lv_iconst (v := (-1)) hx hb dX4_signAt_18 (by decide) ?_
      refine lv_goto (tgt := 28) hx hb dX4_signAt_19 (by decide) ?_
      rw [hQ9]
      have hf : f_X4_signAt a0 Ss Sm = (-1 : Int32) := by simp only [f_X4_signAt, if_neg c1, if_pos c2]
      exact W.iret (v := (-1 : Int32)) hx hb hr (fun t ht hW => ⟨⟨(-1 : Int32), (), rfl, by rw [hf], by show va_P (dC, dI) vwCl _ t.heap; rw [ht]; exact hP⟩, hS.F ht⟩) hS.2.2 dX4_signAt_28
    · have hs := hs.2 c2
      refine lv_iload_n hx hb dX4_signAt_12 rfl (lv_at hl 1 rfl) ?_
      refine lv_bipush (v := 61) hx hb dX4_signAt_13 (by decide) ?_
      refine lv_icmp_lt (tgt := 22) hx hb dX4_signAt_15 (by decide) (fun c3 => ?_) (fun c3 => ?_)
      · have hs := hs.1 c3
        refine lv_aload_n hx hb dX4_signAt_22 rfl (lv_at hl 0 rfl) ?_
        refine va_get (D := (dC, dI)) (ci := 6) (v := .ref (ad 19)) (C := RX4) (T := TX4) (N := 2) hx hb hts iW_X4 hown hK hP 18 rfl rfl 0 (by decide) (hts _ mF_RX4_9) (fun _ h9 => h9) rfl dX4_signAt_23 ?_
        refine lv_iload_n hx hb dX4_signAt_26 rfl (lv_at hl 1 rfl) ?_
        obtain ⟨h4, hs⟩ := hs
        refine va_iald hx hb hK hP 19 0 rfl rfl h4 dX4_signAt_27 ?_
        rw [hQ9]
        have hf : f_X4_signAt a0 Ss Sm = (Ss a0.toNatClampNeg) := by simp only [f_X4_signAt, if_neg c1, if_neg c2, if_pos c3]
        exact W.iret (v := (Ss a0.toNatClampNeg)) hx hb hr (fun t ht hW => ⟨⟨(Ss a0.toNatClampNeg), (), rfl, by rw [hf], by show va_P (dC, dI) vwCl _ t.heap; rw [ht]; exact hP⟩, hS.F ht⟩) hS.2.2 dX4_signAt_28
      · have hs := hs.2 c3
        refine lv_iconst (v := (-1)) hx hb dX4_signAt_18 (by decide) ?_
        refine lv_goto (tgt := 28) hx hb dX4_signAt_19 (by decide) ?_
        rw [hQ9]
        have hf : f_X4_signAt a0 Ss Sm = (-1 : Int32) := by simp only [f_X4_signAt, if_neg c1, if_neg c2, if_neg c3]
        exact W.iret (v := (-1 : Int32)) hx hb hr (fun t ht hW => ⟨⟨(-1 : Int32), (), rfl, by rw [hf], by show va_P (dC, dI) vwCl _ t.heap; rw [ht]; exact hP⟩, hS.F ht⟩) hS.2.2 dX4_signAt_28
theorem q_X4_signAt {p : Program} {l : Launch} {e : Env} {R : Room} {s : State} {m : MethodId} {args : Array Value} {below : List Frame} {meth : Method} {c : Code} {H : Heap} {locs : List Loc} {cells slots : Nat} {Q : State → Prop} {pc : Nat} {ls : Array Slot} {rest : List Value} {cc : ByteArray} {nL idx : Nat} {own : String} {A0 : Nat → Prop} {dC : Nat → ClassId} {dI : Nat → Nat → Nat} {cI cJ : ClassId} {ad : Nat → Nat} {Bc : Nat → Int64} {Bl : Nat → Int32} {Pk : Nat → Int32} {Pr : Nat → Int32} {Pl : Nat → Int32} {Pc : Nat → Int64} {Pm : Int32} {Gf : Nat → Int32} {Gt : Nat → Int32} {Gx : Nat → Int32} {Gd : Int32} {Gm : Int32} {Ek : Nat → Int32} {Er : Nat → Int32} {Ea : Nat → Int32} {Ex : Nat → Int32} {Em : Int32} {Eb : Int32} {Et : Int32} {Ss : Nat → Int32} {Sm : Int32} {Wg : Nat → Int64} {Wr : Nat → Int64} {Md : Nat → Int64} (hx : p.tables.exec = Jvm.exec) (hb : c.code = cc) (hml : c.maxLocals = nL) (hown : s.vm.findClass own = some m.cls) (hts : ∀ w ∈ bigW, w.before args s = true) (hlk : Cond.methodLink own idx yX4_signAt ∈ bigW) (hR : 1 ≤ R.frames ∧ 21 ≤ R.locals) (hf : cells + 0 ≤ R.cells ∧ slots + 0 ≤ R.slots) (hz : ls.size = nL) (hw : (rest.map fun v => v.category).sum ≤ 8) (hS : va_S A0 s.heap H locs) (hd : decode cc pc = .ok (.invokevirtual idx, 3)) (hA : ∀ q, fA 23 ad H.size q → A0 q) (hi : fI 23 ad) (hK : va_K (dC, dI) vwCl [(cI, .int), (cJ, .long)] s) (hP : va_P (dC, dI) vwCl (wC ad cI cJ Bc Bl Pk Pr Pl Pc Pm Gf Gt Gx Gd Gm Ek Er Ea Ex Em Eb Et Ss Sm Wg Wr Md) H) (a0 : Int32) (hs : S_X4_signAt a0 Ss Sm)  (u : Int32) (hu : u = f_X4_signAt a0 Ss Sm) (k : ∀ (H1 : Heap) (locs1 : List Loc), va_P (dC, dI) vwCl (wC ad cI cJ Bc Bl Pk Pr Pl Pc Pm Gf Gt Gx Gd Gm Ek Er Ea Ex Em Eb Et Ss Sm Wg Wr Md) H1 → va_S A0 s.heap H1 locs1 → W p l e R s m args below meth c H1 locs1 (cells + 0) (slots + 0) Q (F0 m (pc + 3) ls (.int u :: rest))) : W p l e R s m args below meth c H locs cells slots Q (F0 m pc ls (.int a0 :: .ref (ad 18) :: rest)) := by
  subst hu
  exact va_calli (va_runV (As := [.int a0]) (rest := rest) ⟨hx, hb, hml, hown, hts⟩ (c_X4_signAt l dC dI cI cJ ad hi H.size Bc Bl Pk Pr Pl Pc Pm Gf Gt Gx Gd Gm Ek Er Ea Ex Em Eb Et Ss Sm Wg Wr Md a0 hs) (kV 1 hts hlk mI_X4_signAt mN_RX4 mY_X4_signAt mV_X4_signAt rfl rfl (by decide +kernel) hR) ⟨fun a U g mk q => ⟨q.1, q.2.1, q.2.2.1, va_K.moved (u := U) (U := U.calling g mk a) (Vm.Alike.refl U.vm) q.2.2.2⟩, va_recv hK hP (ci := 6) (q0 := 18) rfl rfl, fun U hU hW => ⟨rfl, by rw [hU], by rw [hU]; exact hP, va_K.moved hW.alike hK⟩⟩ rfl rfl hz rfl (lv_room hw) hd hf) hS (fun q _ h => hA q h) (fun q h => hA q h) (fun r u t H1 locs1 ht hvm hw9 hB hz1 hk1 hS1 => by
    subst hw9
    exact k H1 locs1 (by rw [← ht]; exact hB) hS1)

def L_X4_writeDigits_37 : Nat → Int64 → Int32 → (Nat → Int32) → Int32 → Int64 → Int64 × Int32 × (Nat → Int32) × Int32
  | 0, x3, x5, Ss, Sm, x1 => (x3, x5, Ss, Sm)
  | n + 1, x3, x5, Ss, Sm, x1 => (if (9 : Int32) < x5 then (x3, x5, Ss, Sm) else (if x3 ≤ (0 : Int64) then (x3, x5, Ss, Sm) else (let u8 := f_X4_write ((48 : Int32) + ((x1 / x3) - (x1 / x3) / (10 : Int64) * (10 : Int64)).toInt32) Ss Sm; L_X4_writeDigits_37 n (x3 / (10 : Int64)) (x5 + 1) u8.1 u8.2 x1)))
def SL_X4_writeDigits_37 : Nat → Int64 → Int32 → (Nat → Int32) → Int32 → Int64 → Prop
  | 0, _, _, _, _, _ => False
  | n + 1, x3, x5, Ss, Sm, x1 => ((9 : Int32) < x5 → (True)) ∧ (¬ (9 : Int32) < x5 → ((x3 ≤ (0 : Int64) → (True)) ∧ (¬ x3 ≤ (0 : Int64) → ((¬ x3 = 0) ∧ ((S_X4_write ((48 : Int32) + ((x1 / x3) - (x1 / x3) / (10 : Int64) * (10 : Int64)).toInt32) Ss Sm) ∧ (∀ u8, u8 = f_X4_write ((48 : Int32) + ((x1 / x3) - (x1 / x3) / (10 : Int64) * (10 : Int64)).toInt32) Ss Sm → (SL_X4_writeDigits_37 n (x3 / (10 : Int64)) (x5 + 1) u8.1 u8.2 x1)))))))
def L_X4_writeDigits_5 : Nat → Int64 → Int32 → Int64 → Int64 × Int32
  | 0, x3, x5, x1 => (x3, x5)
  | n + 1, x3, x5, x1 => (if (9 : Int32) ≤ x5 then (x3, x5) else (if (x1 / (10 : Int64)) < x3 then (x3, x5) else L_X4_writeDigits_5 n (x3 * (10 : Int64)) (x5 + 1) x1))
def SL_X4_writeDigits_5 : Nat → Int64 → Int32 → Int64 → Prop
  | 0, _, _, _ => False
  | n + 1, x3, x5, x1 => ((9 : Int32) ≤ x5 → (True)) ∧ (¬ (9 : Int32) ≤ x5 → (((x1 / (10 : Int64)) < x3 → (True)) ∧ (¬ (x1 / (10 : Int64)) < x3 → (SL_X4_writeDigits_5 n (x3 * (10 : Int64)) (x5 + 1) x1))))
def f_X4_writeDigits (a0 : Int64) (Ss : Nat → Int32) (Sm : Int32) : (Nat → Int32) × Int32 := (let u1 := L_X4_writeDigits_5 10 (1 : Int64) (0 : Int32) a0; (let u4 := L_X4_writeDigits_37 12 u1.1 (0 : Int32) Ss Sm a0; (u4.2.2.1, u4.2.2.2)))
def S_X4_writeDigits (a0 : Int64) (Ss : Nat → Int32) (Sm : Int32) : Prop := (SL_X4_writeDigits_5 10 (1 : Int64) (0 : Int32) a0) ∧ (∀ u1, u1 = L_X4_writeDigits_5 10 (1 : Int64) (0 : Int32) a0 → ((SL_X4_writeDigits_37 12 u1.1 (0 : Int32) Ss Sm a0) ∧ (∀ u4, u4 = L_X4_writeDigits_37 12 u1.1 (0 : Int32) Ss Sm a0 → (True))))
set_option maxHeartbeats 4000000 in
set_option maxRecDepth 100000 in
theorem c_X4_writeDigits (l : Launch) (dC : Nat → ClassId) (dI : Nat → Nat → Nat) (cI cJ : ClassId) (ad : Nat → Nat) (hi : fI 23 ad) (sz : Nat) (Bc : Nat → Int64) (Bl : Nat → Int32) (Pk : Nat → Int32) (Pr : Nat → Int32) (Pl : Nat → Int32) (Pc : Nat → Int64) (Pm : Int32) (Gf : Nat → Int32) (Gt : Nat → Int32) (Gx : Nat → Int32) (Gd : Int32) (Gm : Int32) (Ek : Nat → Int32) (Er : Nat → Int32) (Ea : Nat → Int32) (Ex : Nat → Int32) (Em : Int32) (Eb : Int32) (Et : Int32) (Ss : Nat → Int32) (Sm : Int32) (Wg : Nat → Int64) (Wr : Nat → Int64) (Md : Nat → Int64) (a0 : Int64) (hs : S_X4_writeDigits a0 Ss Sm) : Met l yX4_writeDigits (mW yX4_writeDigits cX4_writeDigits 6 none) { frames := 1, cells := 0, slots := 0, locals := 21 } (va_Pc [.ref (ad 18), .long a0] (fun U => U.heap.size = sz ∧ va_P (dC, dI) vwCl (wC ad cI cJ Bc Bl Pk Pr Pl Pc Pm Gf Gt Gx Gd Gm Ek Er Ea Ex Em Eb Et Ss Sm Wg Wr Md) U.heap ∧ va_K (dC, dI) vwCl [(cI, .int), (cJ, .long)] U)) (va_Qv (fun (_ : Unit) => True) (fun _ t => va_P (dC, dI) vwCl (wC ad cI cJ Bc Bl Pk Pr Pl Pc Pm Gf Gt Gx Gd Gm Ek Er Ea Ex Em Eb Et ((f_X4_writeDigits a0 Ss Sm).1) ((f_X4_writeDigits a0 Ss Sm).2) Wg Wr Md) t.heap) (fA 23 ad sz)) 0 0 (fA 23 ad sz) := by
  refine Met.ofW (cc := cX4_writeDigits) (maxL := 6) (ret := none) (by decide) rfl ?_
  intro p e s m args below meth c s₁ B hml hv
  obtain ⟨rfl, hsz, hP, hK⟩ := hv
  have hx := B.exec
  have hb := B.bytes
  have hr := B.returns
  have hts := mW_hts (atoms_spec (ws := (mW yX4_writeDigits cX4_writeDigits 6 none)) B.pre)
  have hown : s.vm.findClass RX4 = some m.cls := findClass_of_methodNamed B.named
  have hlocks := B.notSynchronized
  subst hsz
  have hA : ∀ (n : Nat) (q : Nat), s.heap.size ≤ n → n ≤ q → fA 23 ad s.heap.size q := fun n q h1 h2 => Or.inr (Nat.le_trans h1 h2)
  have hS : va_S (fA 23 ad s.heap.size) s.heap s.heap [] := va_S.rf
  have hA : ∀ q, s.heap.size ≤ q → (fA 23 ad s.heap.size) q := fun q h => Or.inr h
  unfold S_X4_writeDigits at hs
  have hl := lv_entry ([.ref (ad 18), .long a0]) (n := 6) (Nat.le_of_ble_eq_true rfl)
  rw [lg_entry_eq]
  generalize (lg_sl ([.ref (ad 18), .long a0]) ++ List.replicate (6 - (lg_sl ([.ref (ad 18), .long a0])).length) Slot.unset).toArray = ls at hl ⊢
  have hl : lv_has ls 6 [(0, .ref (ad 18)), (1, .long a0)] := hl
  refine W_gen (fun Q9 hQ9 => ?_)
  refine lv_lconst (v := 1) hx hb dX4_writeDigits_0 (by decide) ?_
  refine lv_lstore_n (lv' := [(3, .long (1 : Int64)), (0, .ref (ad 18)), (1, .long a0)]) hx hb dX4_writeDigits_1 rfl hl (by decide) rfl (fun ls hl => ?_)
  refine lv_iconst (v := 0) hx hb dX4_writeDigits_2 (by decide) ?_
  refine lv_istore (lv' := [(5, .int (0 : Int32)), (3, .long (1 : Int64)), (0, .ref (ad 18)), (1, .long a0)]) hx hb dX4_writeDigits_3 hl (by decide) rfl (fun ls hl => ?_)
  obtain ⟨h2, hs⟩ := hs
  obtain ⟨u1, hu1⟩ : ∃ z, z = L_X4_writeDigits_5 10 (1 : Int64) (0 : Int32) a0 := ⟨_, rfl⟩
  have hs := hs u1 hu1
  have hex3 : ∀ (H : Heap) (locs : List Loc) (ls : Array Slot), va_P (dC, dI) vwCl (wC ad cI cJ Bc Bl Pk Pr Pl Pc Pm Gf Gt Gx Gd Gm Ek Er Ea Ex Em Eb Et Ss Sm Wg Wr Md) H → va_S (fA 23 ad s.heap.size) s.heap H locs → lv_has ls 6 [(3, .long u1.1), (5, .int u1.2), (0, .ref (ad 18)), (1, .long a0)] → W p l e (headSpec (mW yX4_writeDigits cX4_writeDigits 6 none) { frames := 1, cells := 0, slots := 0, locals := 21 }).room s m ([.ref (ad 18), .long a0] : List Value).toArray below meth c H locs 0 0 Q9 (F0 m 34 ls []) := by
    intro H locs ls hP hS hl
    refine lv_iconst (v := 0) hx hb dX4_writeDigits_34 (by decide) ?_
    refine lv_istore (lv' := [(5, .int (0 : Int32)), (3, .long u1.1), (0, .ref (ad 18)), (1, .long a0)]) hx hb dX4_writeDigits_35 hl (by decide) rfl (fun ls hl => ?_)
    obtain ⟨h5, hs⟩ := hs
    obtain ⟨u4, hu4⟩ : ∃ z, z = L_X4_writeDigits_37 12 u1.1 (0 : Int32) Ss Sm a0 := ⟨_, rfl⟩
    have hs := hs u4 hu4
    have hex6 : ∀ (H : Heap) (locs : List Loc) (ls : Array Slot), va_P (dC, dI) vwCl (wC ad cI cJ Bc Bl Pk Pr Pl Pc Pm Gf Gt Gx Gd Gm Ek Er Ea Ex Em Eb Et u4.2.2.1 u4.2.2.2 Wg Wr Md) H → va_S (fA 23 ad s.heap.size) s.heap H locs → lv_has ls 6 [(3, .long u4.1), (5, .int u4.2.1), (0, .ref (ad 18)), (1, .long a0)] → W p l e (headSpec (mW yX4_writeDigits cX4_writeDigits 6 none) { frames := 1, cells := 0, slots := 0, locals := 21 }).room s m ([.ref (ad 18), .long a0] : List Value).toArray below meth c H locs 0 0 Q9 (F0 m 77 ls []) := by
      intro H locs ls hP hS hl
      rw [hQ9]
      have hf : f_X4_writeDigits a0 Ss Sm = (u4.2.2.1, u4.2.2.2) := by simp only [f_X4_writeDigits, ← hu1, ← hu4]
      exact W.vret hx hb hr (fun t ht hW => ⟨⟨(), rfl, True.intro, by rw [hf]; show va_P (dC, dI) vwCl _ t.heap; rw [ht]; exact hP⟩, hS.F ht⟩) hS.2.2 dX4_writeDigits_77
    have hlp7 : ∀ (n : Nat) (x3v : Int64) (x5v : Int32) (Ssv : Nat → Int32) (Smv : Int32) (H : Heap) (locs : List Loc) (ls : Array Slot), SL_X4_writeDigits_37 n x3v x5v Ssv Smv a0 → u4 = L_X4_writeDigits_37 n x3v x5v Ssv Smv a0 → va_P (dC, dI) vwCl (wC ad cI cJ Bc Bl Pk Pr Pl Pc Pm Gf Gt Gx Gd Gm Ek Er Ea Ex Em Eb Et Ssv Smv Wg Wr Md) H → va_S (fA 23 ad s.heap.size) s.heap H locs → lv_has ls 6 [(3, .long x3v), (5, .int x5v), (0, .ref (ad 18)), (1, .long a0)] → W p l e (headSpec (mW yX4_writeDigits cX4_writeDigits 6 none) { frames := 1, cells := 0, slots := 0, locals := 21 }).room s m ([.ref (ad 18), .long a0] : List Value).toArray below meth c H locs 0 0 Q9 (F0 m 37 ls []) := by
      intro n
      induction n with
      | zero => intro x3v x5v Ssv Smv H locs ls hs; rw [SL_X4_writeDigits_37] at hs; exact hs.elim
      | succ n ih =>
        intro x3v x5v Ssv Smv H locs ls hs hq8 hP hS hl
        rw [SL_X4_writeDigits_37] at hs
        refine lv_iload hx hb dX4_writeDigits_37 (lv_at hl 1 rfl) ?_
        refine lv_bipush (v := 9) hx hb dX4_writeDigits_39 (by decide) ?_
        refine lv_icmp_gt (tgt := 77) hx hb dX4_writeDigits_41 (by decide) (fun c9 => ?_) (fun c9 => ?_)
        · have hs := hs.1 c9
          have he10 : u4 = (x3v, x5v, Ssv, Smv) := by rw [hq8, L_X4_writeDigits_37]; simp only [if_pos c9]
          exact hex6 _ _ _ (by first | exact hP | (rw [he10]; exact hP)) hS (by first | exact lv_sub hl [0, 1, 2, 3] rfl | (rw [he10]; exact lv_sub hl [0, 1, 2, 3] rfl))
        · have hs := hs.2 c9
          refine lv_lload_n hx hb dX4_writeDigits_44 rfl (lv_at hl 0 rfl) ?_
          refine lv_lconst (v := 0) hx hb dX4_writeDigits_45 (by decide) ?_
          refine W.lcmp hx hb dX4_writeDigits_46 ?_
          refine lv_if_le (tgt := 77) hx hb dX4_writeDigits_47 (by decide) (fun c11 => ?_) (fun c11 => ?_)
          · have c11 : x3v ≤ (0 : Int64) := lc_le.mp c11
            have hs := hs.1 c11
            have he12 : u4 = (x3v, x5v, Ssv, Smv) := by rw [hq8, L_X4_writeDigits_37]; simp only [if_neg c9, if_pos c11]
            exact hex6 _ _ _ (by first | exact hP | (rw [he12]; exact hP)) hS (by first | exact lv_sub hl [0, 1, 2, 3] rfl | (rw [he12]; exact lv_sub hl [0, 1, 2, 3] rfl))
          · have c11 : ¬ x3v ≤ (0 : Int64) := fun z => c11 (lc_le.mpr z)
            have hs := hs.2 c11
            refine lv_aload_n hx hb dX4_writeDigits_50 rfl (lv_at hl 2 rfl) ?_
            refine lv_bipush (v := 48) hx hb dX4_writeDigits_51 (by decide) ?_
            refine lv_lload_n hx hb dX4_writeDigits_53 rfl (lv_at hl 3 rfl) ?_
            refine lv_lload_n hx hb dX4_writeDigits_54 rfl (lv_at hl 0 rfl) ?_
            obtain ⟨h13, hs⟩ := hs
            refine lv_ldiv hx hb dX4_writeDigits_55 h13 ?_
            refine lv_ldc2 hx hb hown (hts _ mK_RX4_37) dX4_writeDigits_56 ?_
            refine lv_lrem hx hb dX4_writeDigits_59 (by decide) ?_
            refine lv_l2i hx hb dX4_writeDigits_60 rfl ?_
            refine lv_iadd hx hb dX4_writeDigits_61 ?_
            obtain ⟨h14, hs⟩ := hs
            obtain ⟨u15, hu15⟩ : ∃ z, z = f_X4_write ((48 : Int32) + ((a0 / x3v) - (a0 / x3v) / (10 : Int64) * (10 : Int64)).toInt32) Ssv Smv := ⟨_, rfl⟩
            have hs := hs u15 hu15
            refine q_X4_write hx hb hml hown hts mM_RX4_29 ⟨Nat.le_of_ble_eq_true rfl, Nat.le_of_ble_eq_true rfl⟩ ⟨Nat.le_of_ble_eq_true rfl, Nat.le_of_ble_eq_true rfl⟩ hl.1 (Nat.le_of_ble_eq_true rfl) hS dX4_writeDigits_62 (fun _ h9 => fA_mono hS.1 h9) hi hK hP ((48 : Int32) + ((a0 / x3v) - (a0 / x3v) / (10 : Int64) * (10 : Int64)).toInt32) h14 u15 hu15 (fun H locs hP hS => ?_)
            refine lv_lload_n hx hb dX4_writeDigits_65 rfl (lv_at hl 0 rfl) ?_
            refine lv_ldc2 hx hb hown (hts _ mK_RX4_37) dX4_writeDigits_66 ?_
            refine lv_ldiv hx hb dX4_writeDigits_69 (by decide) ?_
            refine lv_lstore_n (lv' := [(3, .long (x3v / (10 : Int64))), (5, .int x5v), (0, .ref (ad 18)), (1, .long a0)]) hx hb dX4_writeDigits_70 rfl hl (by decide) rfl (fun ls hl => ?_)
            refine lv_iinc (v := (x5v + 1)) (lv' := [(5, .int (x5v + 1)), (3, .long (x3v / (10 : Int64))), (0, .ref (ad 18)), (1, .long a0)]) hx hb dX4_writeDigits_71 hl (k := 1) rfl rfl (by decide) rfl (fun ls hl => ?_)
            refine lv_goto (tgt := 37) hx hb dX4_writeDigits_74 (by decide) ?_
            exact ih (x3v / (10 : Int64)) (x5v + 1) u15.1 u15.2 _ _ _ hs (by rw [hq8, L_X4_writeDigits_37]; simp only [if_neg c9, if_neg c11, ← hu15]) hP hS (lv_sub hl [1, 0, 2, 3] rfl)
    exact hlp7 12 u1.1 (0 : Int32) Ss Sm _ _ _ h5 hu4 hP hS (lv_sub hl [1, 0, 2, 3] rfl)
  have hlp16 : ∀ (n : Nat) (x3v : Int64) (x5v : Int32) (H : Heap) (locs : List Loc) (ls : Array Slot), SL_X4_writeDigits_5 n x3v x5v a0 → u1 = L_X4_writeDigits_5 n x3v x5v a0 → va_P (dC, dI) vwCl (wC ad cI cJ Bc Bl Pk Pr Pl Pc Pm Gf Gt Gx Gd Gm Ek Er Ea Ex Em Eb Et Ss Sm Wg Wr Md) H → va_S (fA 23 ad s.heap.size) s.heap H locs → lv_has ls 6 [(3, .long x3v), (5, .int x5v), (0, .ref (ad 18)), (1, .long a0)] → W p l e (headSpec (mW yX4_writeDigits cX4_writeDigits 6 none) { frames := 1, cells := 0, slots := 0, locals := 21 }).room s m ([.ref (ad 18), .long a0] : List Value).toArray below meth c H locs 0 0 Q9 (F0 m 5 ls []) := by
    intro n
    induction n with
    | zero => intro x3v x5v H locs ls hs; rw [SL_X4_writeDigits_5] at hs; exact hs.elim
    | succ n ih =>
      intro x3v x5v H locs ls hs hq17 hP hS hl
      rw [SL_X4_writeDigits_5] at hs
      refine lv_iload hx hb dX4_writeDigits_5 (lv_at hl 1 rfl) ?_
      refine lv_bipush (v := 9) hx hb dX4_writeDigits_7 (by decide) ?_
      refine lv_icmp_ge (tgt := 34) hx hb dX4_writeDigits_9 (by decide) (fun c18 => ?_) (fun c18 => ?_)
      · have hs := hs.1 c18
        have he19 : u1 = (x3v, x5v) := by rw [hq17, L_X4_writeDigits_5]; simp only [if_pos c18]
        exact hex3 _ _ _ (by first | exact hP | (rw [he19]; exact hP)) hS (by first | exact lv_sub hl [0, 1, 2, 3] rfl | (rw [he19]; exact lv_sub hl [0, 1, 2, 3] rfl))
      · have hs := hs.2 c18
        refine lv_lload_n hx hb dX4_writeDigits_12 rfl (lv_at hl 3 rfl) ?_
        refine lv_ldc2 hx hb hown (hts _ mK_RX4_37) dX4_writeDigits_13 ?_
        refine lv_ldiv hx hb dX4_writeDigits_16 (by decide) ?_
        refine lv_lload_n hx hb dX4_writeDigits_17 rfl (lv_at hl 0 rfl) ?_
        refine W.lcmp hx hb dX4_writeDigits_18 ?_
        refine lv_if_lt (tgt := 34) hx hb dX4_writeDigits_19 (by decide) (fun c20 => ?_) (fun c20 => ?_)
        · have c20 : (a0 / (10 : Int64)) < x3v := lc_lt.mp c20
          have hs := hs.1 c20
          have he21 : u1 = (x3v, x5v) := by rw [hq17, L_X4_writeDigits_5]; simp only [if_neg c18, if_pos c20]
          exact hex3 _ _ _ (by first | exact hP | (rw [he21]; exact hP)) hS (by first | exact lv_sub hl [0, 1, 2, 3] rfl | (rw [he21]; exact lv_sub hl [0, 1, 2, 3] rfl))
        · have c20 : ¬ (a0 / (10 : Int64)) < x3v := fun z => c20 (lc_lt.mpr z)
          have hs := hs.2 c20
          refine lv_lload_n hx hb dX4_writeDigits_22 rfl (lv_at hl 0 rfl) ?_
          refine lv_ldc2 hx hb hown (hts _ mK_RX4_37) dX4_writeDigits_23 ?_
          refine lv_lmul hx hb dX4_writeDigits_26 ?_
          refine lv_lstore_n (lv' := [(3, .long (x3v * (10 : Int64))), (5, .int x5v), (0, .ref (ad 18)), (1, .long a0)]) hx hb dX4_writeDigits_27 rfl hl (by decide) rfl (fun ls hl => ?_)
          refine lv_iinc (v := (x5v + 1)) (lv' := [(5, .int (x5v + 1)), (3, .long (x3v * (10 : Int64))), (0, .ref (ad 18)), (1, .long a0)]) hx hb dX4_writeDigits_28 hl (k := 1) rfl rfl (by decide) rfl (fun ls hl => ?_)
          refine lv_goto (tgt := 5) hx hb dX4_writeDigits_31 (by decide) ?_
          exact ih (x3v * (10 : Int64)) (x5v + 1) _ _ _ hs (by rw [hq17, L_X4_writeDigits_5]; simp only [if_neg c18, if_neg c20]) hP hS (lv_sub hl [1, 0, 2, 3] rfl)
  exact hlp16 10 (1 : Int64) (0 : Int32) _ _ _ h2 hu1 hP hS (lv_sub hl [1, 0, 2, 3] rfl)
theorem q_X4_writeDigits {p : Program} {l : Launch} {e : Env} {R : Room} {s : State} {m : MethodId} {args : Array Value} {below : List Frame} {meth : Method} {c : Code} {H : Heap} {locs : List Loc} {cells slots : Nat} {Q : State → Prop} {pc : Nat} {ls : Array Slot} {rest : List Value} {cc : ByteArray} {nL idx : Nat} {own : String} {A0 : Nat → Prop} {dC : Nat → ClassId} {dI : Nat → Nat → Nat} {cI cJ : ClassId} {ad : Nat → Nat} {Bc : Nat → Int64} {Bl : Nat → Int32} {Pk : Nat → Int32} {Pr : Nat → Int32} {Pl : Nat → Int32} {Pc : Nat → Int64} {Pm : Int32} {Gf : Nat → Int32} {Gt : Nat → Int32} {Gx : Nat → Int32} {Gd : Int32} {Gm : Int32} {Ek : Nat → Int32} {Er : Nat → Int32} {Ea : Nat → Int32} {Ex : Nat → Int32} {Em : Int32} {Eb : Int32} {Et : Int32} {Ss : Nat → Int32} {Sm : Int32} {Wg : Nat → Int64} {Wr : Nat → Int64} {Md : Nat → Int64} (hx : p.tables.exec = Jvm.exec) (hb : c.code = cc) (hml : c.maxLocals = nL) (hown : s.vm.findClass own = some m.cls) (hts : ∀ w ∈ bigW, w.before args s = true) (hlk : Cond.methodLink own idx yX4_writeDigits ∈ bigW) (hR : 2 ≤ R.frames ∧ 46 ≤ R.locals) (hf : cells + 0 ≤ R.cells ∧ slots + 0 ≤ R.slots) (hz : ls.size = nL) (hw : (rest.map fun v => v.category).sum ≤ 8) (hS : va_S A0 s.heap H locs) (hd : decode cc pc = .ok (.invokevirtual idx, 3)) (hA : ∀ q, fA 23 ad H.size q → A0 q) (hi : fI 23 ad) (hK : va_K (dC, dI) vwCl [(cI, .int), (cJ, .long)] s) (hP : va_P (dC, dI) vwCl (wC ad cI cJ Bc Bl Pk Pr Pl Pc Pm Gf Gt Gx Gd Gm Ek Er Ea Ex Em Eb Et Ss Sm Wg Wr Md) H) (a0 : Int64) (hs : S_X4_writeDigits a0 Ss Sm)  (u : (Nat → Int32) × Int32) (hu : u = f_X4_writeDigits a0 Ss Sm) (k : ∀ (H1 : Heap) (locs1 : List Loc), va_P (dC, dI) vwCl (wC ad cI cJ Bc Bl Pk Pr Pl Pc Pm Gf Gt Gx Gd Gm Ek Er Ea Ex Em Eb Et u.1 u.2 Wg Wr Md) H1 → va_S A0 s.heap H1 locs1 → W p l e R s m args below meth c H1 locs1 (cells + 0) (slots + 0) Q (F0 m (pc + 3) ls (rest))) : W p l e R s m args below meth c H locs cells slots Q (F0 m pc ls (.long a0 :: .ref (ad 18) :: rest)) := by
  subst hu
  exact va_callv (va_runV (As := [.long a0]) (rest := rest) ⟨hx, hb, hml, hown, hts⟩ (c_X4_writeDigits l dC dI cI cJ ad hi H.size Bc Bl Pk Pr Pl Pc Pm Gf Gt Gx Gd Gm Ek Er Ea Ex Em Eb Et Ss Sm Wg Wr Md a0 hs) (kV 1 hts hlk mI_X4_writeDigits mN_RX4 mY_X4_writeDigits mV_X4_writeDigits rfl rfl (by decide +kernel) hR) ⟨fun a U g mk q => ⟨q.1, q.2.1, q.2.2.1, va_K.moved (u := U) (U := U.calling g mk a) (Vm.Alike.refl U.vm) q.2.2.2⟩, va_recv hK hP (ci := 6) (q0 := 18) rfl rfl, fun U hU hW => ⟨rfl, by rw [hU], by rw [hU]; exact hP, va_K.moved hW.alike hK⟩⟩ rfl rfl hz rfl (lv_room hw) hd hf) hS (fun q _ h => hA q h) (fun q h => hA q h) (fun u t H1 locs1 ht hvm hw9 hB hz1 hk1 hS1 => by
    skip
    exact k H1 locs1 (by rw [← ht]; exact hB) hS1)

def f_X4_writeNumber (a0 : Int64) (Ss : Nat → Int32) (Sm : Int32) : (Nat → Int32) × Int32 := (if (0 : Int64) ≤ a0 then (let u4 := f_X4_writeDigits a0 Ss Sm; (u4.1, u4.2)) else (let u6 := f_X4_write (45 : Int32) Ss Sm; (let u9 := f_X4_writeDigits (-a0) u6.1 u6.2; (u9.1, u9.2))))
def S_X4_writeNumber (a0 : Int64) (Ss : Nat → Int32) (Sm : Int32) : Prop := ((0 : Int64) ≤ a0 → ((S_X4_writeDigits a0 Ss Sm) ∧ (∀ u4, u4 = f_X4_writeDigits a0 Ss Sm → (True)))) ∧ (¬ (0 : Int64) ≤ a0 → ((S_X4_write (45 : Int32) Ss Sm) ∧ (∀ u6, u6 = f_X4_write (45 : Int32) Ss Sm → ((S_X4_writeDigits (-a0) u6.1 u6.2) ∧ (∀ u9, u9 = f_X4_writeDigits (-a0) u6.1 u6.2 → (True))))))
set_option maxHeartbeats 4000000 in
set_option maxRecDepth 100000 in
theorem c_X4_writeNumber (l : Launch) (dC : Nat → ClassId) (dI : Nat → Nat → Nat) (cI cJ : ClassId) (ad : Nat → Nat) (hi : fI 23 ad) (sz : Nat) (Bc : Nat → Int64) (Bl : Nat → Int32) (Pk : Nat → Int32) (Pr : Nat → Int32) (Pl : Nat → Int32) (Pc : Nat → Int64) (Pm : Int32) (Gf : Nat → Int32) (Gt : Nat → Int32) (Gx : Nat → Int32) (Gd : Int32) (Gm : Int32) (Ek : Nat → Int32) (Er : Nat → Int32) (Ea : Nat → Int32) (Ex : Nat → Int32) (Em : Int32) (Eb : Int32) (Et : Int32) (Ss : Nat → Int32) (Sm : Int32) (Wg : Nat → Int64) (Wr : Nat → Int64) (Md : Nat → Int64) (a0 : Int64) (hs : S_X4_writeNumber a0 Ss Sm) : Met l yX4_writeNumber (mW yX4_writeNumber cX4_writeNumber 3 none) { frames := 2, cells := 0, slots := 0, locals := 46 } (va_Pc [.ref (ad 18), .long a0] (fun U => U.heap.size = sz ∧ va_P (dC, dI) vwCl (wC ad cI cJ Bc Bl Pk Pr Pl Pc Pm Gf Gt Gx Gd Gm Ek Er Ea Ex Em Eb Et Ss Sm Wg Wr Md) U.heap ∧ va_K (dC, dI) vwCl [(cI, .int), (cJ, .long)] U)) (va_Qv (fun (_ : Unit) => True) (fun _ t => va_P (dC, dI) vwCl (wC ad cI cJ Bc Bl Pk Pr Pl Pc Pm Gf Gt Gx Gd Gm Ek Er Ea Ex Em Eb Et ((f_X4_writeNumber a0 Ss Sm).1) ((f_X4_writeNumber a0 Ss Sm).2) Wg Wr Md) t.heap) (fA 23 ad sz)) 0 0 (fA 23 ad sz) := by
  refine Met.ofW (cc := cX4_writeNumber) (maxL := 3) (ret := none) (by decide) rfl ?_
  intro p e s m args below meth c s₁ B hml hv
  obtain ⟨rfl, hsz, hP, hK⟩ := hv
  have hx := B.exec
  have hb := B.bytes
  have hr := B.returns
  have hts := mW_hts (atoms_spec (ws := (mW yX4_writeNumber cX4_writeNumber 3 none)) B.pre)
  have hown : s.vm.findClass RX4 = some m.cls := findClass_of_methodNamed B.named
  have hlocks := B.notSynchronized
  subst hsz
  have hA : ∀ (n : Nat) (q : Nat), s.heap.size ≤ n → n ≤ q → fA 23 ad s.heap.size q := fun n q h1 h2 => Or.inr (Nat.le_trans h1 h2)
  have hS : va_S (fA 23 ad s.heap.size) s.heap s.heap [] := va_S.rf
  have hA : ∀ q, s.heap.size ≤ q → (fA 23 ad s.heap.size) q := fun q h => Or.inr h
  unfold S_X4_writeNumber at hs
  have hl := lv_entry ([.ref (ad 18), .long a0]) (n := 3) (Nat.le_of_ble_eq_true rfl)
  rw [lg_entry_eq]
  generalize (lg_sl ([.ref (ad 18), .long a0]) ++ List.replicate (3 - (lg_sl ([.ref (ad 18), .long a0])).length) Slot.unset).toArray = ls at hl ⊢
  have hl : lv_has ls 3 [(0, .ref (ad 18)), (1, .long a0)] := hl
  refine W_gen (fun Q9 hQ9 => ?_)
  refine lv_lload_n hx hb dX4_writeNumber_0 rfl (lv_at hl 1 rfl) ?_
  refine lv_lconst (v := 0) hx hb dX4_writeNumber_1 (by decide) ?_
  refine W.lcmp hx hb dX4_writeNumber_2 ?_
  refine lv_if_ge (tgt := 12) hx hb dX4_writeNumber_3 (by decide) (fun c1 => ?_) (fun c1 => ?_)
  · have c1 : (0 : Int64) ≤ a0 := lc_ge.mp c1
    have hs := hs.1 c1
    refine lv_aload_n hx hb dX4_writeNumber_12 rfl (lv_at hl 0 rfl) ?_
    refine lv_lload_n hx hb dX4_writeNumber_13 rfl (lv_at hl 1 rfl) ?_
    refine lv_lconst (v := 0) hx hb dX4_writeNumber_14 (by decide) ?_
    refine W.lcmp hx hb dX4_writeNumber_15 ?_
    refine lv_if_ge (tgt := 24) hx hb dX4_writeNumber_16 (by decide) (fun c2 => ?_) (fun c2 => ?_)
    · have c2 : (0 : Int64) ≤ a0 := lc_ge.mp c2
      refine lv_lload_n hx hb dX4_writeNumber_24 rfl (lv_at hl 1 rfl) ?_
      obtain ⟨h3, hs⟩ := hs
      obtain ⟨u4, hu4⟩ : ∃ z, z = f_X4_writeDigits a0 Ss Sm := ⟨_, rfl⟩
      have hs := hs u4 hu4
      refine q_X4_writeDigits hx hb hml hown hts mM_RX4_33 ⟨Nat.le_of_ble_eq_true rfl, Nat.le_of_ble_eq_true rfl⟩ ⟨Nat.le_of_ble_eq_true rfl, Nat.le_of_ble_eq_true rfl⟩ hl.1 (Nat.le_of_ble_eq_true rfl) hS dX4_writeNumber_25 (fun _ h9 => fA_mono hS.1 h9) hi hK hP a0 h3 u4 hu4 (fun H locs hP hS => ?_)
      rw [hQ9]
      have hf : f_X4_writeNumber a0 Ss Sm = (u4.1, u4.2) := by simp only [f_X4_writeNumber, if_pos c1, ← hu4]
      exact W.vret hx hb hr (fun t ht hW => ⟨⟨(), rfl, True.intro, by rw [hf]; show va_P (dC, dI) vwCl _ t.heap; rw [ht]; exact hP⟩, hS.F ht⟩) hS.2.2 dX4_writeNumber_28
    · have c2 : ¬ (0 : Int64) ≤ a0 := fun z => c2 (lc_ge.mpr z)
      exact absurd c1 c2
  · have c1 : ¬ (0 : Int64) ≤ a0 := fun z => c1 (lc_ge.mpr z)
    have hs := hs.2 c1
    refine lv_aload_n hx hb dX4_writeNumber_6 rfl (lv_at hl 0 rfl) ?_
    refine lv_bipush (v := 45) hx hb dX4_writeNumber_7 (by decide) ?_
    obtain ⟨h5, hs⟩ := hs
    obtain ⟨u6, hu6⟩ : ∃ z, z = f_X4_write (45 : Int32) Ss Sm := ⟨_, rfl⟩
    have hs := hs u6 hu6
    refine q_X4_write hx hb hml hown hts mM_RX4_29 ⟨Nat.le_of_ble_eq_true rfl, Nat.le_of_ble_eq_true rfl⟩ ⟨Nat.le_of_ble_eq_true rfl, Nat.le_of_ble_eq_true rfl⟩ hl.1 (Nat.le_of_ble_eq_true rfl) hS dX4_writeNumber_9 (fun _ h9 => fA_mono hS.1 h9) hi hK hP (45 : Int32) h5 u6 hu6 (fun H locs hP hS => ?_)
    refine lv_aload_n hx hb dX4_writeNumber_12 rfl (lv_at hl 0 rfl) ?_
    refine lv_lload_n hx hb dX4_writeNumber_13 rfl (lv_at hl 1 rfl) ?_
    refine lv_lconst (v := 0) hx hb dX4_writeNumber_14 (by decide) ?_
    refine W.lcmp hx hb dX4_writeNumber_15 ?_
    refine lv_if_ge (tgt := 24) hx hb dX4_writeNumber_16 (by decide) (fun c7 => ?_) (fun c7 => ?_)
    · have c7 : (0 : Int64) ≤ a0 := lc_ge.mp c7
      exact absurd c7 c1
    · have c7 : ¬ (0 : Int64) ≤ a0 := fun z => c7 (lc_ge.mpr z)
      refine lv_lload_n hx hb dX4_writeNumber_19 rfl (lv_at hl 1 rfl) ?_
      refine lv_lneg hx hb dX4_writeNumber_20 ?_
      refine lv_goto (tgt := 25) hx hb dX4_writeNumber_21 (by decide) ?_
      obtain ⟨h8, hs⟩ := hs
      obtain ⟨u9, hu9⟩ : ∃ z, z = f_X4_writeDigits (-a0) u6.1 u6.2 := ⟨_, rfl⟩
      have hs := hs u9 hu9
      refine q_X4_writeDigits hx hb hml hown hts mM_RX4_33 ⟨Nat.le_of_ble_eq_true rfl, Nat.le_of_ble_eq_true rfl⟩ ⟨Nat.le_of_ble_eq_true rfl, Nat.le_of_ble_eq_true rfl⟩ hl.1 (Nat.le_of_ble_eq_true rfl) hS dX4_writeNumber_25 (fun _ h9 => fA_mono hS.1 h9) hi hK hP (-a0) h8 u9 hu9 (fun H locs hP hS => ?_)
      rw [hQ9]
      have hf : f_X4_writeNumber a0 Ss Sm = (u9.1, u9.2) := by simp only [f_X4_writeNumber, if_neg c1, ← hu6, ← hu9]
      exact W.vret hx hb hr (fun t ht hW => ⟨⟨(), rfl, True.intro, by rw [hf]; show va_P (dC, dI) vwCl _ t.heap; rw [ht]; exact hP⟩, hS.F ht⟩) hS.2.2 dX4_writeNumber_28
theorem q_X4_writeNumber {p : Program} {l : Launch} {e : Env} {R : Room} {s : State} {m : MethodId} {args : Array Value} {below : List Frame} {meth : Method} {c : Code} {H : Heap} {locs : List Loc} {cells slots : Nat} {Q : State → Prop} {pc : Nat} {ls : Array Slot} {rest : List Value} {cc : ByteArray} {nL idx : Nat} {own : String} {A0 : Nat → Prop} {dC : Nat → ClassId} {dI : Nat → Nat → Nat} {cI cJ : ClassId} {ad : Nat → Nat} {Bc : Nat → Int64} {Bl : Nat → Int32} {Pk : Nat → Int32} {Pr : Nat → Int32} {Pl : Nat → Int32} {Pc : Nat → Int64} {Pm : Int32} {Gf : Nat → Int32} {Gt : Nat → Int32} {Gx : Nat → Int32} {Gd : Int32} {Gm : Int32} {Ek : Nat → Int32} {Er : Nat → Int32} {Ea : Nat → Int32} {Ex : Nat → Int32} {Em : Int32} {Eb : Int32} {Et : Int32} {Ss : Nat → Int32} {Sm : Int32} {Wg : Nat → Int64} {Wr : Nat → Int64} {Md : Nat → Int64} (hx : p.tables.exec = Jvm.exec) (hb : c.code = cc) (hml : c.maxLocals = nL) (hown : s.vm.findClass own = some m.cls) (hts : ∀ w ∈ bigW, w.before args s = true) (hlk : Cond.methodLink own idx yX4_writeNumber ∈ bigW) (hR : 3 ≤ R.frames ∧ 68 ≤ R.locals) (hf : cells + 0 ≤ R.cells ∧ slots + 0 ≤ R.slots) (hz : ls.size = nL) (hw : (rest.map fun v => v.category).sum ≤ 8) (hS : va_S A0 s.heap H locs) (hd : decode cc pc = .ok (.invokevirtual idx, 3)) (hA : ∀ q, fA 23 ad H.size q → A0 q) (hi : fI 23 ad) (hK : va_K (dC, dI) vwCl [(cI, .int), (cJ, .long)] s) (hP : va_P (dC, dI) vwCl (wC ad cI cJ Bc Bl Pk Pr Pl Pc Pm Gf Gt Gx Gd Gm Ek Er Ea Ex Em Eb Et Ss Sm Wg Wr Md) H) (a0 : Int64) (hs : S_X4_writeNumber a0 Ss Sm)  (u : (Nat → Int32) × Int32) (hu : u = f_X4_writeNumber a0 Ss Sm) (k : ∀ (H1 : Heap) (locs1 : List Loc), va_P (dC, dI) vwCl (wC ad cI cJ Bc Bl Pk Pr Pl Pc Pm Gf Gt Gx Gd Gm Ek Er Ea Ex Em Eb Et u.1 u.2 Wg Wr Md) H1 → va_S A0 s.heap H1 locs1 → W p l e R s m args below meth c H1 locs1 (cells + 0) (slots + 0) Q (F0 m (pc + 3) ls (rest))) : W p l e R s m args below meth c H locs cells slots Q (F0 m pc ls (.long a0 :: .ref (ad 18) :: rest)) := by
  subst hu
  exact va_callv (va_runV (As := [.long a0]) (rest := rest) ⟨hx, hb, hml, hown, hts⟩ (c_X4_writeNumber l dC dI cI cJ ad hi H.size Bc Bl Pk Pr Pl Pc Pm Gf Gt Gx Gd Gm Ek Er Ea Ex Em Eb Et Ss Sm Wg Wr Md a0 hs) (kV 1 hts hlk mI_X4_writeNumber mN_RX4 mY_X4_writeNumber mV_X4_writeNumber rfl rfl (by decide +kernel) hR) ⟨fun a U g mk q => ⟨q.1, q.2.1, q.2.2.1, va_K.moved (u := U) (U := U.calling g mk a) (Vm.Alike.refl U.vm) q.2.2.2⟩, va_recv hK hP (ci := 6) (q0 := 18) rfl rfl, fun U hU hW => ⟨rfl, by rw [hU], by rw [hU]; exact hP, va_K.moved hW.alike hK⟩⟩ rfl rfl hz rfl (lv_room hw) hd hf) hS (fun q _ h => hA q h) (fun q h => hA q h) (fun u t H1 locs1 ht hvm hw9 hB hz1 hk1 hS1 => by
    skip
    exact k H1 locs1 (by rw [← ht]; exact hB) hS1)

def L_X4_writeFraction_18 : Nat → Int64 → Int64 → Int32 → (Nat → Int32) → Int32 → Int64 × Int64 × Int32 × (Nat → Int32) × Int32
  | 0, x3, x5, x7, Ss, Sm => (x3, x5, x7, Ss, Sm)
  | n + 1, x3, x5, x7, Ss, Sm => (if (9 : Int32) ≤ x7 then (x3, x5, x7, Ss, Sm) else (if x7 = 0 then (if x5 ≤ (65536 : Int64) then (let u5 := f_X4_write ((48 : Int32) + (x3 / (65536 : Int64)).toInt32) Ss Sm; L_X4_writeFraction_18 n ((10 : Int64) * (x3 - x3 / (65536 : Int64) * (65536 : Int64))) (x5 * (10 : Int64)) (x7 + 1) u5.1 u5.2) else (let u7 := f_X4_write ((48 : Int32) + ((x3 - (17232 : Int64)) / (65536 : Int64)).toInt32) Ss Sm; L_X4_writeFraction_18 n ((10 : Int64) * ((x3 - (17232 : Int64)) - (x3 - (17232 : Int64)) / (65536 : Int64) * (65536 : Int64))) (x5 * (10 : Int64)) (x7 + 1) u7.1 u7.2)) else (if x3 ≤ x5 then (x3, x5, x7, Ss, Sm) else (if x5 ≤ (65536 : Int64) then (let u11 := f_X4_write ((48 : Int32) + (x3 / (65536 : Int64)).toInt32) Ss Sm; L_X4_writeFraction_18 n ((10 : Int64) * (x3 - x3 / (65536 : Int64) * (65536 : Int64))) (x5 * (10 : Int64)) (x7 + 1) u11.1 u11.2) else (let u13 := f_X4_write ((48 : Int32) + ((x3 - (17232 : Int64)) / (65536 : Int64)).toInt32) Ss Sm; L_X4_writeFraction_18 n ((10 : Int64) * ((x3 - (17232 : Int64)) - (x3 - (17232 : Int64)) / (65536 : Int64) * (65536 : Int64))) (x5 * (10 : Int64)) (x7 + 1) u13.1 u13.2)))))
def SL_X4_writeFraction_18 : Nat → Int64 → Int64 → Int32 → (Nat → Int32) → Int32 → Prop
  | 0, _, _, _, _, _ => False
  | n + 1, x3, x5, x7, Ss, Sm => ((9 : Int32) ≤ x7 → (True)) ∧ (¬ (9 : Int32) ≤ x7 → ((x7 = 0 → ((x5 ≤ (65536 : Int64) → ((S_X4_write ((48 : Int32) + (x3 / (65536 : Int64)).toInt32) Ss Sm) ∧ (∀ u5, u5 = f_X4_write ((48 : Int32) + (x3 / (65536 : Int64)).toInt32) Ss Sm → (SL_X4_writeFraction_18 n ((10 : Int64) * (x3 - x3 / (65536 : Int64) * (65536 : Int64))) (x5 * (10 : Int64)) (x7 + 1) u5.1 u5.2)))) ∧ (¬ x5 ≤ (65536 : Int64) → ((S_X4_write ((48 : Int32) + ((x3 - (17232 : Int64)) / (65536 : Int64)).toInt32) Ss Sm) ∧ (∀ u7, u7 = f_X4_write ((48 : Int32) + ((x3 - (17232 : Int64)) / (65536 : Int64)).toInt32) Ss Sm → (SL_X4_writeFraction_18 n ((10 : Int64) * ((x3 - (17232 : Int64)) - (x3 - (17232 : Int64)) / (65536 : Int64) * (65536 : Int64))) (x5 * (10 : Int64)) (x7 + 1) u7.1 u7.2)))))) ∧ (¬ x7 = 0 → ((x3 ≤ x5 → (True)) ∧ (¬ x3 ≤ x5 → ((x5 ≤ (65536 : Int64) → ((S_X4_write ((48 : Int32) + (x3 / (65536 : Int64)).toInt32) Ss Sm) ∧ (∀ u11, u11 = f_X4_write ((48 : Int32) + (x3 / (65536 : Int64)).toInt32) Ss Sm → (SL_X4_writeFraction_18 n ((10 : Int64) * (x3 - x3 / (65536 : Int64) * (65536 : Int64))) (x5 * (10 : Int64)) (x7 + 1) u11.1 u11.2)))) ∧ (¬ x5 ≤ (65536 : Int64) → ((S_X4_write ((48 : Int32) + ((x3 - (17232 : Int64)) / (65536 : Int64)).toInt32) Ss Sm) ∧ (∀ u13, u13 = f_X4_write ((48 : Int32) + ((x3 - (17232 : Int64)) / (65536 : Int64)).toInt32) Ss Sm → (SL_X4_writeFraction_18 n ((10 : Int64) * ((x3 - (17232 : Int64)) - (x3 - (17232 : Int64)) / (65536 : Int64) * (65536 : Int64))) (x5 * (10 : Int64)) (x7 + 1) u13.1 u13.2))))))))))
def f_X4_writeFraction (a0 : Int64) (Ss : Nat → Int32) (Sm : Int32) : (Nat → Int32) × Int32 := (let u1 := L_X4_writeFraction_18 10 (((10 : Int64) * a0) + (5 : Int64)) (10 : Int64) (0 : Int32) Ss Sm; (u1.2.2.2.1, u1.2.2.2.2))
def S_X4_writeFraction (a0 : Int64) (Ss : Nat → Int32) (Sm : Int32) : Prop := (SL_X4_writeFraction_18 10 (((10 : Int64) * a0) + (5 : Int64)) (10 : Int64) (0 : Int32) Ss Sm) ∧ (∀ u1, u1 = L_X4_writeFraction_18 10 (((10 : Int64) * a0) + (5 : Int64)) (10 : Int64) (0 : Int32) Ss Sm → (True))
set_option maxHeartbeats 4000000 in
set_option maxRecDepth 100000 in
theorem c_X4_writeFraction (l : Launch) (dC : Nat → ClassId) (dI : Nat → Nat → Nat) (cI cJ : ClassId) (ad : Nat → Nat) (hi : fI 23 ad) (sz : Nat) (Bc : Nat → Int64) (Bl : Nat → Int32) (Pk : Nat → Int32) (Pr : Nat → Int32) (Pl : Nat → Int32) (Pc : Nat → Int64) (Pm : Int32) (Gf : Nat → Int32) (Gt : Nat → Int32) (Gx : Nat → Int32) (Gd : Int32) (Gm : Int32) (Ek : Nat → Int32) (Er : Nat → Int32) (Ea : Nat → Int32) (Ex : Nat → Int32) (Em : Int32) (Eb : Int32) (Et : Int32) (Ss : Nat → Int32) (Sm : Int32) (Wg : Nat → Int64) (Wr : Nat → Int64) (Md : Nat → Int64) (a0 : Int64) (hs : S_X4_writeFraction a0 Ss Sm) : Met l yX4_writeFraction (mW yX4_writeFraction cX4_writeFraction 8 none) { frames := 1, cells := 0, slots := 0, locals := 21 } (va_Pc [.ref (ad 18), .long a0] (fun U => U.heap.size = sz ∧ va_P (dC, dI) vwCl (wC ad cI cJ Bc Bl Pk Pr Pl Pc Pm Gf Gt Gx Gd Gm Ek Er Ea Ex Em Eb Et Ss Sm Wg Wr Md) U.heap ∧ va_K (dC, dI) vwCl [(cI, .int), (cJ, .long)] U)) (va_Qv (fun (_ : Unit) => True) (fun _ t => va_P (dC, dI) vwCl (wC ad cI cJ Bc Bl Pk Pr Pl Pc Pm Gf Gt Gx Gd Gm Ek Er Ea Ex Em Eb Et ((f_X4_writeFraction a0 Ss Sm).1) ((f_X4_writeFraction a0 Ss Sm).2) Wg Wr Md) t.heap) (fA 23 ad sz)) 0 0 (fA 23 ad sz) := by
  refine Met.ofW (cc := cX4_writeFraction) (maxL := 8) (ret := none) (by decide) rfl ?_
  intro p e s m args below meth c s₁ B hml hv
  obtain ⟨rfl, hsz, hP, hK⟩ := hv
  have hx := B.exec
  have hb := B.bytes
  have hr := B.returns
  have hts := mW_hts (atoms_spec (ws := (mW yX4_writeFraction cX4_writeFraction 8 none)) B.pre)
  have hown : s.vm.findClass RX4 = some m.cls := findClass_of_methodNamed B.named
  have hlocks := B.notSynchronized
  subst hsz
  have hA : ∀ (n : Nat) (q : Nat), s.heap.size ≤ n → n ≤ q → fA 23 ad s.heap.size q := fun n q h1 h2 => Or.inr (Nat.le_trans h1 h2)
  have hS : va_S (fA 23 ad s.heap.size) s.heap s.heap [] := va_S.rf
  have hA : ∀ q, s.heap.size ≤ q → (fA 23 ad s.heap.size) q := fun q h => Or.inr h
  unfold S_X4_writeFraction at hs
  have hl := lv_entry ([.ref (ad 18), .long a0]) (n := 8) (Nat.le_of_ble_eq_true rfl)
  rw [lg_entry_eq]
  generalize (lg_sl ([.ref (ad 18), .long a0]) ++ List.replicate (8 - (lg_sl ([.ref (ad 18), .long a0])).length) Slot.unset).toArray = ls at hl ⊢
  have hl : lv_has ls 8 [(0, .ref (ad 18)), (1, .long a0)] := hl
  refine W_gen (fun Q9 hQ9 => ?_)
  refine lv_ldc2 hx hb hown (hts _ mK_RX4_37) dX4_writeFraction_0 ?_
  refine lv_lload_n hx hb dX4_writeFraction_3 rfl (lv_at hl 1 rfl) ?_
  refine lv_lmul hx hb dX4_writeFraction_4 ?_
  refine lv_ldc2 hx hb hown (hts _ mK_RX4_44) dX4_writeFraction_5 ?_
  refine lv_ladd hx hb dX4_writeFraction_8 ?_
  refine lv_lstore_n (lv' := [(3, .long (((10 : Int64) * a0) + (5 : Int64))), (0, .ref (ad 18)), (1, .long a0)]) hx hb dX4_writeFraction_9 rfl hl (by decide) rfl (fun ls hl => ?_)
  refine lv_ldc2 hx hb hown (hts _ mK_RX4_37) dX4_writeFraction_10 ?_
  refine lv_lstore (lv' := [(5, .long (10 : Int64)), (3, .long (((10 : Int64) * a0) + (5 : Int64))), (0, .ref (ad 18)), (1, .long a0)]) hx hb dX4_writeFraction_13 hl (by decide) rfl (fun ls hl => ?_)
  refine lv_iconst (v := 0) hx hb dX4_writeFraction_15 (by decide) ?_
  refine lv_istore (lv' := [(7, .int (0 : Int32)), (5, .long (10 : Int64)), (3, .long (((10 : Int64) * a0) + (5 : Int64))), (0, .ref (ad 18)), (1, .long a0)]) hx hb dX4_writeFraction_16 hl (by decide) rfl (fun ls hl => ?_)
  obtain ⟨h2, hs⟩ := hs
  obtain ⟨u1, hu1⟩ : ∃ z, z = L_X4_writeFraction_18 10 (((10 : Int64) * a0) + (5 : Int64)) (10 : Int64) (0 : Int32) Ss Sm := ⟨_, rfl⟩
  have hs := hs u1 hu1
  have hex3 : ∀ (H : Heap) (locs : List Loc) (ls : Array Slot), va_P (dC, dI) vwCl (wC ad cI cJ Bc Bl Pk Pr Pl Pc Pm Gf Gt Gx Gd Gm Ek Er Ea Ex Em Eb Et u1.2.2.2.1 u1.2.2.2.2 Wg Wr Md) H → va_S (fA 23 ad s.heap.size) s.heap H locs → lv_has ls 8 [(3, .long u1.1), (5, .long u1.2.1), (7, .int u1.2.2.1), (0, .ref (ad 18)), (1, .long a0)] → W p l e (headSpec (mW yX4_writeFraction cX4_writeFraction 8 none) { frames := 1, cells := 0, slots := 0, locals := 21 }).room s m ([.ref (ad 18), .long a0] : List Value).toArray below meth c H locs 0 0 Q9 (F0 m 89 ls []) := by
    intro H locs ls hP hS hl
    rw [hQ9]
    have hf : f_X4_writeFraction a0 Ss Sm = (u1.2.2.2.1, u1.2.2.2.2) := by simp only [f_X4_writeFraction, ← hu1]
    exact W.vret hx hb hr (fun t ht hW => ⟨⟨(), rfl, True.intro, by rw [hf]; show va_P (dC, dI) vwCl _ t.heap; rw [ht]; exact hP⟩, hS.F ht⟩) hS.2.2 dX4_writeFraction_89
  have hlp4 : ∀ (n : Nat) (x3v : Int64) (x5v : Int64) (x7v : Int32) (Ssv : Nat → Int32) (Smv : Int32) (H : Heap) (locs : List Loc) (ls : Array Slot), SL_X4_writeFraction_18 n x3v x5v x7v Ssv Smv → u1 = L_X4_writeFraction_18 n x3v x5v x7v Ssv Smv → va_P (dC, dI) vwCl (wC ad cI cJ Bc Bl Pk Pr Pl Pc Pm Gf Gt Gx Gd Gm Ek Er Ea Ex Em Eb Et Ssv Smv Wg Wr Md) H → va_S (fA 23 ad s.heap.size) s.heap H locs → lv_has ls 8 [(3, .long x3v), (5, .long x5v), (7, .int x7v), (0, .ref (ad 18)), (1, .long a0)] → W p l e (headSpec (mW yX4_writeFraction cX4_writeFraction 8 none) { frames := 1, cells := 0, slots := 0, locals := 21 }).room s m ([.ref (ad 18), .long a0] : List Value).toArray below meth c H locs 0 0 Q9 (F0 m 18 ls []) := by
    intro n
    induction n with
    | zero => intro x3v x5v x7v Ssv Smv H locs ls hs; rw [SL_X4_writeFraction_18] at hs; exact hs.elim
    | succ n ih =>
      intro x3v x5v x7v Ssv Smv H locs ls hs hq5 hP hS hl
      rw [SL_X4_writeFraction_18] at hs
      refine lv_iload hx hb dX4_writeFraction_18 (lv_at hl 2 rfl) ?_
      refine lv_bipush (v := 9) hx hb dX4_writeFraction_20 (by decide) ?_
      refine lv_icmp_ge (tgt := 89) hx hb dX4_writeFraction_22 (by decide) (fun c6 => ?_) (fun c6 => ?_)
      · have hs := hs.1 c6
        have he7 : u1 = (x3v, x5v, x7v, Ssv, Smv) := by rw [hq5, L_X4_writeFraction_18]; simp only [if_pos c6]
        exact hex3 _ _ _ (by first | exact hP | (rw [he7]; exact hP)) hS (by first | exact lv_sub hl [0, 1, 2, 3, 4] rfl | (rw [he7]; exact lv_sub hl [0, 1, 2, 3, 4] rfl))
      · have hs := hs.2 c6
        refine lv_iload hx hb dX4_writeFraction_25 (lv_at hl 2 rfl) ?_
        refine lv_if_eq (tgt := 37) hx hb dX4_writeFraction_27 (by decide) (fun c8 => ?_) (fun c8 => ?_)
        · have hs := hs.1 c8
          refine lv_lload hx hb dX4_writeFraction_37 (lv_at hl 1 rfl) ?_
          refine lv_ldc2 hx hb hown (hts _ mK_RX4_39) dX4_writeFraction_39 ?_
          refine W.lcmp hx hb dX4_writeFraction_42 ?_
          refine lv_if_le (tgt := 52) hx hb dX4_writeFraction_43 (by decide) (fun c9 => ?_) (fun c9 => ?_)
          · have c9 : x5v ≤ (65536 : Int64) := lc_le.mp c9
            have hs := hs.1 c9
            refine lv_aload_n hx hb dX4_writeFraction_52 rfl (lv_at hl 3 rfl) ?_
            refine lv_bipush (v := 48) hx hb dX4_writeFraction_53 (by decide) ?_
            refine lv_lload_n hx hb dX4_writeFraction_55 rfl (lv_at hl 0 rfl) ?_
            refine lv_ldc2 hx hb hown (hts _ mK_RX4_39) dX4_writeFraction_56 ?_
            refine lv_ldiv hx hb dX4_writeFraction_59 (by decide) ?_
            refine lv_l2i hx hb dX4_writeFraction_60 rfl ?_
            refine lv_iadd hx hb dX4_writeFraction_61 ?_
            obtain ⟨h10, hs⟩ := hs
            obtain ⟨u11, hu11⟩ : ∃ z, z = f_X4_write ((48 : Int32) + (x3v / (65536 : Int64)).toInt32) Ssv Smv := ⟨_, rfl⟩
            have hs := hs u11 hu11
            refine q_X4_write hx hb hml hown hts mM_RX4_29 ⟨Nat.le_of_ble_eq_true rfl, Nat.le_of_ble_eq_true rfl⟩ ⟨Nat.le_of_ble_eq_true rfl, Nat.le_of_ble_eq_true rfl⟩ hl.1 (Nat.le_of_ble_eq_true rfl) hS dX4_writeFraction_62 (fun _ h9 => fA_mono hS.1 h9) hi hK hP ((48 : Int32) + (x3v / (65536 : Int64)).toInt32) h10 u11 hu11 (fun H locs hP hS => ?_)
            refine lv_ldc2 hx hb hown (hts _ mK_RX4_37) dX4_writeFraction_65 ?_
            refine lv_lload_n hx hb dX4_writeFraction_68 rfl (lv_at hl 0 rfl) ?_
            refine lv_ldc2 hx hb hown (hts _ mK_RX4_39) dX4_writeFraction_69 ?_
            refine lv_lrem hx hb dX4_writeFraction_72 (by decide) ?_
            refine lv_lmul hx hb dX4_writeFraction_73 ?_
            refine lv_lstore_n (lv' := [(3, .long ((10 : Int64) * (x3v - x3v / (65536 : Int64) * (65536 : Int64)))), (5, .long x5v), (7, .int x7v), (0, .ref (ad 18)), (1, .long a0)]) hx hb dX4_writeFraction_74 rfl hl (by decide) rfl (fun ls hl => ?_)
            refine lv_lload hx hb dX4_writeFraction_75 (lv_at hl 1 rfl) ?_
            refine lv_ldc2 hx hb hown (hts _ mK_RX4_37) dX4_writeFraction_77 ?_
            refine lv_lmul hx hb dX4_writeFraction_80 ?_
            refine lv_lstore (lv' := [(5, .long (x5v * (10 : Int64))), (3, .long ((10 : Int64) * (x3v - x3v / (65536 : Int64) * (65536 : Int64)))), (7, .int x7v), (0, .ref (ad 18)), (1, .long a0)]) hx hb dX4_writeFraction_81 hl (by decide) rfl (fun ls hl => ?_)
            refine lv_iinc (v := (x7v + 1)) (lv' := [(7, .int (x7v + 1)), (5, .long (x5v * (10 : Int64))), (3, .long ((10 : Int64) * (x3v - x3v / (65536 : Int64) * (65536 : Int64)))), (0, .ref (ad 18)), (1, .long a0)]) hx hb dX4_writeFraction_83 hl (k := 2) rfl rfl (by decide) rfl (fun ls hl => ?_)
            refine lv_goto (tgt := 18) hx hb dX4_writeFraction_86 (by decide) ?_
            exact ih ((10 : Int64) * (x3v - x3v / (65536 : Int64) * (65536 : Int64))) (x5v * (10 : Int64)) (x7v + 1) u11.1 u11.2 _ _ _ hs (by rw [hq5, L_X4_writeFraction_18]; simp only [if_neg c6, if_pos c8, if_pos c9, ← hu11]) hP hS (lv_sub hl [2, 1, 0, 3, 4] rfl)
          · have c9 : ¬ x5v ≤ (65536 : Int64) := fun z => c9 (lc_le.mpr z)
            have hs := hs.2 c9
            refine lv_lload_n hx hb dX4_writeFraction_46 rfl (lv_at hl 0 rfl) ?_
            refine lv_ldc2 hx hb hown (hts _ mK_RX4_46) dX4_writeFraction_47 ?_
            refine lv_lsub hx hb dX4_writeFraction_50 ?_
            refine lv_lstore_n (lv' := [(3, .long (x3v - (17232 : Int64))), (5, .long x5v), (7, .int x7v), (0, .ref (ad 18)), (1, .long a0)]) hx hb dX4_writeFraction_51 rfl hl (by decide) rfl (fun ls hl => ?_)
            refine lv_aload_n hx hb dX4_writeFraction_52 rfl (lv_at hl 3 rfl) ?_
            refine lv_bipush (v := 48) hx hb dX4_writeFraction_53 (by decide) ?_
            refine lv_lload_n hx hb dX4_writeFraction_55 rfl (lv_at hl 0 rfl) ?_
            refine lv_ldc2 hx hb hown (hts _ mK_RX4_39) dX4_writeFraction_56 ?_
            refine lv_ldiv hx hb dX4_writeFraction_59 (by decide) ?_
            refine lv_l2i hx hb dX4_writeFraction_60 rfl ?_
            refine lv_iadd hx hb dX4_writeFraction_61 ?_
            obtain ⟨h12, hs⟩ := hs
            obtain ⟨u13, hu13⟩ : ∃ z, z = f_X4_write ((48 : Int32) + ((x3v - (17232 : Int64)) / (65536 : Int64)).toInt32) Ssv Smv := ⟨_, rfl⟩
            have hs := hs u13 hu13
            refine q_X4_write hx hb hml hown hts mM_RX4_29 ⟨Nat.le_of_ble_eq_true rfl, Nat.le_of_ble_eq_true rfl⟩ ⟨Nat.le_of_ble_eq_true rfl, Nat.le_of_ble_eq_true rfl⟩ hl.1 (Nat.le_of_ble_eq_true rfl) hS dX4_writeFraction_62 (fun _ h9 => fA_mono hS.1 h9) hi hK hP ((48 : Int32) + ((x3v - (17232 : Int64)) / (65536 : Int64)).toInt32) h12 u13 hu13 (fun H locs hP hS => ?_)
            refine lv_ldc2 hx hb hown (hts _ mK_RX4_37) dX4_writeFraction_65 ?_
            refine lv_lload_n hx hb dX4_writeFraction_68 rfl (lv_at hl 0 rfl) ?_
            refine lv_ldc2 hx hb hown (hts _ mK_RX4_39) dX4_writeFraction_69 ?_
            refine lv_lrem hx hb dX4_writeFraction_72 (by decide) ?_
            refine lv_lmul hx hb dX4_writeFraction_73 ?_
            refine lv_lstore_n (lv' := [(3, .long ((10 : Int64) * ((x3v - (17232 : Int64)) - (x3v - (17232 : Int64)) / (65536 : Int64) * (65536 : Int64)))), (5, .long x5v), (7, .int x7v), (0, .ref (ad 18)), (1, .long a0)]) hx hb dX4_writeFraction_74 rfl hl (by decide) rfl (fun ls hl => ?_)
            refine lv_lload hx hb dX4_writeFraction_75 (lv_at hl 1 rfl) ?_
            refine lv_ldc2 hx hb hown (hts _ mK_RX4_37) dX4_writeFraction_77 ?_
            refine lv_lmul hx hb dX4_writeFraction_80 ?_
            refine lv_lstore (lv' := [(5, .long (x5v * (10 : Int64))), (3, .long ((10 : Int64) * ((x3v - (17232 : Int64)) - (x3v - (17232 : Int64)) / (65536 : Int64) * (65536 : Int64)))), (7, .int x7v), (0, .ref (ad 18)), (1, .long a0)]) hx hb dX4_writeFraction_81 hl (by decide) rfl (fun ls hl => ?_)
            refine lv_iinc (v := (x7v + 1)) (lv' := [(7, .int (x7v + 1)), (5, .long (x5v * (10 : Int64))), (3, .long ((10 : Int64) * ((x3v - (17232 : Int64)) - (x3v - (17232 : Int64)) / (65536 : Int64) * (65536 : Int64)))), (0, .ref (ad 18)), (1, .long a0)]) hx hb dX4_writeFraction_83 hl (k := 2) rfl rfl (by decide) rfl (fun ls hl => ?_)
            refine lv_goto (tgt := 18) hx hb dX4_writeFraction_86 (by decide) ?_
            exact ih ((10 : Int64) * ((x3v - (17232 : Int64)) - (x3v - (17232 : Int64)) / (65536 : Int64) * (65536 : Int64))) (x5v * (10 : Int64)) (x7v + 1) u13.1 u13.2 _ _ _ hs (by rw [hq5, L_X4_writeFraction_18]; simp only [if_neg c6, if_pos c8, if_neg c9, ← hu13]) hP hS (lv_sub hl [2, 1, 0, 3, 4] rfl)
        · have hs := hs.2 c8
          refine lv_lload_n hx hb dX4_writeFraction_30 rfl (lv_at hl 0 rfl) ?_
          refine lv_lload hx hb dX4_writeFraction_31 (lv_at hl 1 rfl) ?_
          refine W.lcmp hx hb dX4_writeFraction_33 ?_
          refine lv_if_le (tgt := 89) hx hb dX4_writeFraction_34 (by decide) (fun c14 => ?_) (fun c14 => ?_)
          · have c14 : x3v ≤ x5v := lc_le.mp c14
            have hs := hs.1 c14
            have he15 : u1 = (x3v, x5v, x7v, Ssv, Smv) := by rw [hq5, L_X4_writeFraction_18]; simp only [if_neg c6, if_neg c8, if_pos c14]
            exact hex3 _ _ _ (by first | exact hP | (rw [he15]; exact hP)) hS (by first | exact lv_sub hl [0, 1, 2, 3, 4] rfl | (rw [he15]; exact lv_sub hl [0, 1, 2, 3, 4] rfl))
          · have c14 : ¬ x3v ≤ x5v := fun z => c14 (lc_le.mpr z)
            have hs := hs.2 c14
            refine lv_lload hx hb dX4_writeFraction_37 (lv_at hl 1 rfl) ?_
            refine lv_ldc2 hx hb hown (hts _ mK_RX4_39) dX4_writeFraction_39 ?_
            refine W.lcmp hx hb dX4_writeFraction_42 ?_
            refine lv_if_le (tgt := 52) hx hb dX4_writeFraction_43 (by decide) (fun c16 => ?_) (fun c16 => ?_)
            · have c16 : x5v ≤ (65536 : Int64) := lc_le.mp c16
              have hs := hs.1 c16
              refine lv_aload_n hx hb dX4_writeFraction_52 rfl (lv_at hl 3 rfl) ?_
              refine lv_bipush (v := 48) hx hb dX4_writeFraction_53 (by decide) ?_
              refine lv_lload_n hx hb dX4_writeFraction_55 rfl (lv_at hl 0 rfl) ?_
              refine lv_ldc2 hx hb hown (hts _ mK_RX4_39) dX4_writeFraction_56 ?_
              refine lv_ldiv hx hb dX4_writeFraction_59 (by decide) ?_
              refine lv_l2i hx hb dX4_writeFraction_60 rfl ?_
              refine lv_iadd hx hb dX4_writeFraction_61 ?_
              obtain ⟨h17, hs⟩ := hs
              obtain ⟨u18, hu18⟩ : ∃ z, z = f_X4_write ((48 : Int32) + (x3v / (65536 : Int64)).toInt32) Ssv Smv := ⟨_, rfl⟩
              have hs := hs u18 hu18
              refine q_X4_write hx hb hml hown hts mM_RX4_29 ⟨Nat.le_of_ble_eq_true rfl, Nat.le_of_ble_eq_true rfl⟩ ⟨Nat.le_of_ble_eq_true rfl, Nat.le_of_ble_eq_true rfl⟩ hl.1 (Nat.le_of_ble_eq_true rfl) hS dX4_writeFraction_62 (fun _ h9 => fA_mono hS.1 h9) hi hK hP ((48 : Int32) + (x3v / (65536 : Int64)).toInt32) h17 u18 hu18 (fun H locs hP hS => ?_)
              refine lv_ldc2 hx hb hown (hts _ mK_RX4_37) dX4_writeFraction_65 ?_
              refine lv_lload_n hx hb dX4_writeFraction_68 rfl (lv_at hl 0 rfl) ?_
              refine lv_ldc2 hx hb hown (hts _ mK_RX4_39) dX4_writeFraction_69 ?_
              refine lv_lrem hx hb dX4_writeFraction_72 (by decide) ?_
              refine lv_lmul hx hb dX4_writeFraction_73 ?_
              refine lv_lstore_n (lv' := [(3, .long ((10 : Int64) * (x3v - x3v / (65536 : Int64) * (65536 : Int64)))), (5, .long x5v), (7, .int x7v), (0, .ref (ad 18)), (1, .long a0)]) hx hb dX4_writeFraction_74 rfl hl (by decide) rfl (fun ls hl => ?_)
              refine lv_lload hx hb dX4_writeFraction_75 (lv_at hl 1 rfl) ?_
              refine lv_ldc2 hx hb hown (hts _ mK_RX4_37) dX4_writeFraction_77 ?_
              refine lv_lmul hx hb dX4_writeFraction_80 ?_
              refine lv_lstore (lv' := [(5, .long (x5v * (10 : Int64))), (3, .long ((10 : Int64) * (x3v - x3v / (65536 : Int64) * (65536 : Int64)))), (7, .int x7v), (0, .ref (ad 18)), (1, .long a0)]) hx hb dX4_writeFraction_81 hl (by decide) rfl (fun ls hl => ?_)
              refine lv_iinc (v := (x7v + 1)) (lv' := [(7, .int (x7v + 1)), (5, .long (x5v * (10 : Int64))), (3, .long ((10 : Int64) * (x3v - x3v / (65536 : Int64) * (65536 : Int64)))), (0, .ref (ad 18)), (1, .long a0)]) hx hb dX4_writeFraction_83 hl (k := 2) rfl rfl (by decide) rfl (fun ls hl => ?_)
              refine lv_goto (tgt := 18) hx hb dX4_writeFraction_86 (by decide) ?_
              exact ih ((10 : Int64) * (x3v - x3v / (65536 : Int64) * (65536 : Int64))) (x5v * (10 : Int64)) (x7v + 1) u18.1 u18.2 _ _ _ hs (by rw [hq5, L_X4_writeFraction_18]; simp only [if_neg c6, if_neg c8, if_neg c14, if_pos c16, ← hu18]) hP hS (lv_sub hl [2, 1, 0, 3, 4] rfl)
            · have c16 : ¬ x5v ≤ (65536 : Int64) := fun z => c16 (lc_le.mpr z)
              have hs := hs.2 c16
              refine lv_lload_n hx hb dX4_writeFraction_46 rfl (lv_at hl 0 rfl) ?_
              refine lv_ldc2 hx hb hown (hts _ mK_RX4_46) dX4_writeFraction_47 ?_
              refine lv_lsub hx hb dX4_writeFraction_50 ?_
              refine lv_lstore_n (lv' := [(3, .long (x3v - (17232 : Int64))), (5, .long x5v), (7, .int x7v), (0, .ref (ad 18)), (1, .long a0)]) hx hb dX4_writeFraction_51 rfl hl (by decide) rfl (fun ls hl => ?_)
              refine lv_aload_n hx hb dX4_writeFraction_52 rfl (lv_at hl 3 rfl) ?_
              refine lv_bipush (v := 48) hx hb dX4_writeFraction_53 (by decide) ?_
              refine lv_lload_n hx hb dX4_writeFraction_55 rfl (lv_at hl 0 rfl) ?_
              refine lv_ldc2 hx hb hown (hts _ mK_RX4_39) dX4_writeFraction_56 ?_
              refine lv_ldiv hx hb dX4_writeFraction_59 (by decide) ?_
              refine lv_l2i hx hb dX4_writeFraction_60 rfl ?_
              refine lv_iadd hx hb dX4_writeFraction_61 ?_
              obtain ⟨h19, hs⟩ := hs
              obtain ⟨u20, hu20⟩ : ∃ z, z = f_X4_write ((48 : Int32) + ((x3v - (17232 : Int64)) / (65536 : Int64)).toInt32) Ssv Smv := ⟨_, rfl⟩
              have hs := hs u20 hu20
              refine q_X4_write hx hb hml hown hts mM_RX4_29 ⟨Nat.le_of_ble_eq_true rfl, Nat.le_of_ble_eq_true rfl⟩ ⟨Nat.le_of_ble_eq_true rfl, Nat.le_of_ble_eq_true rfl⟩ hl.1 (Nat.le_of_ble_eq_true rfl) hS dX4_writeFraction_62 (fun _ h9 => fA_mono hS.1 h9) hi hK hP ((48 : Int32) + ((x3v - (17232 : Int64)) / (65536 : Int64)).toInt32) h19 u20 hu20 (fun H locs hP hS => ?_)
              refine lv_ldc2 hx hb hown (hts _ mK_RX4_37) dX4_writeFraction_65 ?_
              refine lv_lload_n hx hb dX4_writeFraction_68 rfl (lv_at hl 0 rfl) ?_
              refine lv_ldc2 hx hb hown (hts _ mK_RX4_39) dX4_writeFraction_69 ?_
              refine lv_lrem hx hb dX4_writeFraction_72 (by decide) ?_
              refine lv_lmul hx hb dX4_writeFraction_73 ?_
              refine lv_lstore_n (lv' := [(3, .long ((10 : Int64) * ((x3v - (17232 : Int64)) - (x3v - (17232 : Int64)) / (65536 : Int64) * (65536 : Int64)))), (5, .long x5v), (7, .int x7v), (0, .ref (ad 18)), (1, .long a0)]) hx hb dX4_writeFraction_74 rfl hl (by decide) rfl (fun ls hl => ?_)
              refine lv_lload hx hb dX4_writeFraction_75 (lv_at hl 1 rfl) ?_
              refine lv_ldc2 hx hb hown (hts _ mK_RX4_37) dX4_writeFraction_77 ?_
              refine lv_lmul hx hb dX4_writeFraction_80 ?_
              refine lv_lstore (lv' := [(5, .long (x5v * (10 : Int64))), (3, .long ((10 : Int64) * ((x3v - (17232 : Int64)) - (x3v - (17232 : Int64)) / (65536 : Int64) * (65536 : Int64)))), (7, .int x7v), (0, .ref (ad 18)), (1, .long a0)]) hx hb dX4_writeFraction_81 hl (by decide) rfl (fun ls hl => ?_)
              refine lv_iinc (v := (x7v + 1)) (lv' := [(7, .int (x7v + 1)), (5, .long (x5v * (10 : Int64))), (3, .long ((10 : Int64) * ((x3v - (17232 : Int64)) - (x3v - (17232 : Int64)) / (65536 : Int64) * (65536 : Int64)))), (0, .ref (ad 18)), (1, .long a0)]) hx hb dX4_writeFraction_83 hl (k := 2) rfl rfl (by decide) rfl (fun ls hl => ?_)
              refine lv_goto (tgt := 18) hx hb dX4_writeFraction_86 (by decide) ?_
              exact ih ((10 : Int64) * ((x3v - (17232 : Int64)) - (x3v - (17232 : Int64)) / (65536 : Int64) * (65536 : Int64))) (x5v * (10 : Int64)) (x7v + 1) u20.1 u20.2 _ _ _ hs (by rw [hq5, L_X4_writeFraction_18]; simp only [if_neg c6, if_neg c8, if_neg c14, if_neg c16, ← hu20]) hP hS (lv_sub hl [2, 1, 0, 3, 4] rfl)
  exact hlp4 10 (((10 : Int64) * a0) + (5 : Int64)) (10 : Int64) (0 : Int32) Ss Sm _ _ _ h2 hu1 hP hS (lv_sub hl [2, 1, 0, 3, 4] rfl)
theorem q_X4_writeFraction {p : Program} {l : Launch} {e : Env} {R : Room} {s : State} {m : MethodId} {args : Array Value} {below : List Frame} {meth : Method} {c : Code} {H : Heap} {locs : List Loc} {cells slots : Nat} {Q : State → Prop} {pc : Nat} {ls : Array Slot} {rest : List Value} {cc : ByteArray} {nL idx : Nat} {own : String} {A0 : Nat → Prop} {dC : Nat → ClassId} {dI : Nat → Nat → Nat} {cI cJ : ClassId} {ad : Nat → Nat} {Bc : Nat → Int64} {Bl : Nat → Int32} {Pk : Nat → Int32} {Pr : Nat → Int32} {Pl : Nat → Int32} {Pc : Nat → Int64} {Pm : Int32} {Gf : Nat → Int32} {Gt : Nat → Int32} {Gx : Nat → Int32} {Gd : Int32} {Gm : Int32} {Ek : Nat → Int32} {Er : Nat → Int32} {Ea : Nat → Int32} {Ex : Nat → Int32} {Em : Int32} {Eb : Int32} {Et : Int32} {Ss : Nat → Int32} {Sm : Int32} {Wg : Nat → Int64} {Wr : Nat → Int64} {Md : Nat → Int64} (hx : p.tables.exec = Jvm.exec) (hb : c.code = cc) (hml : c.maxLocals = nL) (hown : s.vm.findClass own = some m.cls) (hts : ∀ w ∈ bigW, w.before args s = true) (hlk : Cond.methodLink own idx yX4_writeFraction ∈ bigW) (hR : 2 ≤ R.frames ∧ 48 ≤ R.locals) (hf : cells + 0 ≤ R.cells ∧ slots + 0 ≤ R.slots) (hz : ls.size = nL) (hw : (rest.map fun v => v.category).sum ≤ 8) (hS : va_S A0 s.heap H locs) (hd : decode cc pc = .ok (.invokevirtual idx, 3)) (hA : ∀ q, fA 23 ad H.size q → A0 q) (hi : fI 23 ad) (hK : va_K (dC, dI) vwCl [(cI, .int), (cJ, .long)] s) (hP : va_P (dC, dI) vwCl (wC ad cI cJ Bc Bl Pk Pr Pl Pc Pm Gf Gt Gx Gd Gm Ek Er Ea Ex Em Eb Et Ss Sm Wg Wr Md) H) (a0 : Int64) (hs : S_X4_writeFraction a0 Ss Sm)  (u : (Nat → Int32) × Int32) (hu : u = f_X4_writeFraction a0 Ss Sm) (k : ∀ (H1 : Heap) (locs1 : List Loc), va_P (dC, dI) vwCl (wC ad cI cJ Bc Bl Pk Pr Pl Pc Pm Gf Gt Gx Gd Gm Ek Er Ea Ex Em Eb Et u.1 u.2 Wg Wr Md) H1 → va_S A0 s.heap H1 locs1 → W p l e R s m args below meth c H1 locs1 (cells + 0) (slots + 0) Q (F0 m (pc + 3) ls (rest))) : W p l e R s m args below meth c H locs cells slots Q (F0 m pc ls (.long a0 :: .ref (ad 18) :: rest)) := by
  subst hu
  exact va_callv (va_runV (As := [.long a0]) (rest := rest) ⟨hx, hb, hml, hown, hts⟩ (c_X4_writeFraction l dC dI cI cJ ad hi H.size Bc Bl Pk Pr Pl Pc Pm Gf Gt Gx Gd Gm Ek Er Ea Ex Em Eb Et Ss Sm Wg Wr Md a0 hs) (kV 1 hts hlk mI_X4_writeFraction mN_RX4 mY_X4_writeFraction mV_X4_writeFraction rfl rfl (by decide +kernel) hR) ⟨fun a U g mk q => ⟨q.1, q.2.1, q.2.2.1, va_K.moved (u := U) (U := U.calling g mk a) (Vm.Alike.refl U.vm) q.2.2.2⟩, va_recv hK hP (ci := 6) (q0 := 18) rfl rfl, fun U hU hW => ⟨rfl, by rw [hU], by rw [hU]; exact hP, va_K.moved hW.alike hK⟩⟩ rfl rfl hz rfl (lv_room hw) hd hf) hS (fun q _ h => hA q h) (fun q h => hA q h) (fun u t H1 locs1 ht hvm hw9 hB hz1 hk1 hS1 => by
    skip
    exact k H1 locs1 (by rw [← ht]; exact hB) hS1)

def f_X4_writeLength (a0 : Int64) (Ss : Nat → Int32) (Sm : Int32) : (Nat → Int32) × Int32 := (if (0 : Int64) ≤ a0 then (let u4 := f_X4_writeDigits (a0 / (65536 : Int64)) Ss Sm; (let u6 := f_X4_write (46 : Int32) u4.1 u4.2; (let u8 := f_X4_writeFraction (a0 - a0 / (65536 : Int64) * (65536 : Int64)) u6.1 u6.2; (u8.1, u8.2)))) else (let u10 := f_X4_write (45 : Int32) Ss Sm; (let u13 := f_X4_writeDigits ((-a0) / (65536 : Int64)) u10.1 u10.2; (let u15 := f_X4_write (46 : Int32) u13.1 u13.2; (let u17 := f_X4_writeFraction ((-a0) - (-a0) / (65536 : Int64) * (65536 : Int64)) u15.1 u15.2; (u17.1, u17.2))))))
def S_X4_writeLength (a0 : Int64) (Ss : Nat → Int32) (Sm : Int32) : Prop := ((0 : Int64) ≤ a0 → ((S_X4_writeDigits (a0 / (65536 : Int64)) Ss Sm) ∧ (∀ u4, u4 = f_X4_writeDigits (a0 / (65536 : Int64)) Ss Sm → ((S_X4_write (46 : Int32) u4.1 u4.2) ∧ (∀ u6, u6 = f_X4_write (46 : Int32) u4.1 u4.2 → ((S_X4_writeFraction (a0 - a0 / (65536 : Int64) * (65536 : Int64)) u6.1 u6.2) ∧ (∀ u8, u8 = f_X4_writeFraction (a0 - a0 / (65536 : Int64) * (65536 : Int64)) u6.1 u6.2 → (True)))))))) ∧ (¬ (0 : Int64) ≤ a0 → ((S_X4_write (45 : Int32) Ss Sm) ∧ (∀ u10, u10 = f_X4_write (45 : Int32) Ss Sm → ((S_X4_writeDigits ((-a0) / (65536 : Int64)) u10.1 u10.2) ∧ (∀ u13, u13 = f_X4_writeDigits ((-a0) / (65536 : Int64)) u10.1 u10.2 → ((S_X4_write (46 : Int32) u13.1 u13.2) ∧ (∀ u15, u15 = f_X4_write (46 : Int32) u13.1 u13.2 → ((S_X4_writeFraction ((-a0) - (-a0) / (65536 : Int64) * (65536 : Int64)) u15.1 u15.2) ∧ (∀ u17, u17 = f_X4_writeFraction ((-a0) - (-a0) / (65536 : Int64) * (65536 : Int64)) u15.1 u15.2 → (True))))))))))
set_option maxHeartbeats 4000000 in
set_option maxRecDepth 100000 in
theorem c_X4_writeLength (l : Launch) (dC : Nat → ClassId) (dI : Nat → Nat → Nat) (cI cJ : ClassId) (ad : Nat → Nat) (hi : fI 23 ad) (sz : Nat) (Bc : Nat → Int64) (Bl : Nat → Int32) (Pk : Nat → Int32) (Pr : Nat → Int32) (Pl : Nat → Int32) (Pc : Nat → Int64) (Pm : Int32) (Gf : Nat → Int32) (Gt : Nat → Int32) (Gx : Nat → Int32) (Gd : Int32) (Gm : Int32) (Ek : Nat → Int32) (Er : Nat → Int32) (Ea : Nat → Int32) (Ex : Nat → Int32) (Em : Int32) (Eb : Int32) (Et : Int32) (Ss : Nat → Int32) (Sm : Int32) (Wg : Nat → Int64) (Wr : Nat → Int64) (Md : Nat → Int64) (a0 : Int64) (hs : S_X4_writeLength a0 Ss Sm) : Met l yX4_writeLength (mW yX4_writeLength cX4_writeLength 5 none) { frames := 2, cells := 0, slots := 0, locals := 48 } (va_Pc [.ref (ad 18), .long a0] (fun U => U.heap.size = sz ∧ va_P (dC, dI) vwCl (wC ad cI cJ Bc Bl Pk Pr Pl Pc Pm Gf Gt Gx Gd Gm Ek Er Ea Ex Em Eb Et Ss Sm Wg Wr Md) U.heap ∧ va_K (dC, dI) vwCl [(cI, .int), (cJ, .long)] U)) (va_Qv (fun (_ : Unit) => True) (fun _ t => va_P (dC, dI) vwCl (wC ad cI cJ Bc Bl Pk Pr Pl Pc Pm Gf Gt Gx Gd Gm Ek Er Ea Ex Em Eb Et ((f_X4_writeLength a0 Ss Sm).1) ((f_X4_writeLength a0 Ss Sm).2) Wg Wr Md) t.heap) (fA 23 ad sz)) 0 0 (fA 23 ad sz) := by
  refine Met.ofW (cc := cX4_writeLength) (maxL := 5) (ret := none) (by decide) rfl ?_
  intro p e s m args below meth c s₁ B hml hv
  obtain ⟨rfl, hsz, hP, hK⟩ := hv
  have hx := B.exec
  have hb := B.bytes
  have hr := B.returns
  have hts := mW_hts (atoms_spec (ws := (mW yX4_writeLength cX4_writeLength 5 none)) B.pre)
  have hown : s.vm.findClass RX4 = some m.cls := findClass_of_methodNamed B.named
  have hlocks := B.notSynchronized
  subst hsz
  have hA : ∀ (n : Nat) (q : Nat), s.heap.size ≤ n → n ≤ q → fA 23 ad s.heap.size q := fun n q h1 h2 => Or.inr (Nat.le_trans h1 h2)
  have hS : va_S (fA 23 ad s.heap.size) s.heap s.heap [] := va_S.rf
  have hA : ∀ q, s.heap.size ≤ q → (fA 23 ad s.heap.size) q := fun q h => Or.inr h
  unfold S_X4_writeLength at hs
  have hl := lv_entry ([.ref (ad 18), .long a0]) (n := 5) (Nat.le_of_ble_eq_true rfl)
  rw [lg_entry_eq]
  generalize (lg_sl ([.ref (ad 18), .long a0]) ++ List.replicate (5 - (lg_sl ([.ref (ad 18), .long a0])).length) Slot.unset).toArray = ls at hl ⊢
  have hl : lv_has ls 5 [(0, .ref (ad 18)), (1, .long a0)] := hl
  refine W_gen (fun Q9 hQ9 => ?_)
  refine lv_lload_n hx hb dX4_writeLength_0 rfl (lv_at hl 1 rfl) ?_
  refine lv_lconst (v := 0) hx hb dX4_writeLength_1 (by decide) ?_
  refine W.lcmp hx hb dX4_writeLength_2 ?_
  refine lv_if_ge (tgt := 12) hx hb dX4_writeLength_3 (by decide) (fun c1 => ?_) (fun c1 => ?_)
  · have c1 : (0 : Int64) ≤ a0 := lc_ge.mp c1
    have hs := hs.1 c1
    refine lv_lload_n hx hb dX4_writeLength_12 rfl (lv_at hl 1 rfl) ?_
    refine lv_lconst (v := 0) hx hb dX4_writeLength_13 (by decide) ?_
    refine W.lcmp hx hb dX4_writeLength_14 ?_
    refine lv_if_ge (tgt := 23) hx hb dX4_writeLength_15 (by decide) (fun c2 => ?_) (fun c2 => ?_)
    · have c2 : (0 : Int64) ≤ a0 := lc_ge.mp c2
      refine lv_lload_n hx hb dX4_writeLength_23 rfl (lv_at hl 1 rfl) ?_
      refine lv_lstore_n (lv' := [(3, .long a0), (0, .ref (ad 18)), (1, .long a0)]) hx hb dX4_writeLength_24 rfl hl (by decide) rfl (fun ls hl => ?_)
      refine lv_aload_n hx hb dX4_writeLength_25 rfl (lv_at hl 1 rfl) ?_
      refine lv_lload_n hx hb dX4_writeLength_26 rfl (lv_at hl 0 rfl) ?_
      refine lv_ldc2 hx hb hown (hts _ mK_RX4_39) dX4_writeLength_27 ?_
      refine lv_ldiv hx hb dX4_writeLength_30 (by decide) ?_
      obtain ⟨h3, hs⟩ := hs
      obtain ⟨u4, hu4⟩ : ∃ z, z = f_X4_writeDigits (a0 / (65536 : Int64)) Ss Sm := ⟨_, rfl⟩
      have hs := hs u4 hu4
      refine q_X4_writeDigits hx hb hml hown hts mM_RX4_33 ⟨Nat.le_of_ble_eq_true rfl, Nat.le_of_ble_eq_true rfl⟩ ⟨Nat.le_of_ble_eq_true rfl, Nat.le_of_ble_eq_true rfl⟩ hl.1 (Nat.le_of_ble_eq_true rfl) hS dX4_writeLength_31 (fun _ h9 => fA_mono hS.1 h9) hi hK hP (a0 / (65536 : Int64)) h3 u4 hu4 (fun H locs hP hS => ?_)
      refine lv_aload_n hx hb dX4_writeLength_34 rfl (lv_at hl 1 rfl) ?_
      refine lv_bipush (v := 46) hx hb dX4_writeLength_35 (by decide) ?_
      obtain ⟨h5, hs⟩ := hs
      obtain ⟨u6, hu6⟩ : ∃ z, z = f_X4_write (46 : Int32) u4.1 u4.2 := ⟨_, rfl⟩
      have hs := hs u6 hu6
      refine q_X4_write hx hb hml hown hts mM_RX4_29 ⟨Nat.le_of_ble_eq_true rfl, Nat.le_of_ble_eq_true rfl⟩ ⟨Nat.le_of_ble_eq_true rfl, Nat.le_of_ble_eq_true rfl⟩ hl.1 (Nat.le_of_ble_eq_true rfl) hS dX4_writeLength_37 (fun _ h9 => fA_mono hS.1 h9) hi hK hP (46 : Int32) h5 u6 hu6 (fun H locs hP hS => ?_)
      refine lv_aload_n hx hb dX4_writeLength_40 rfl (lv_at hl 1 rfl) ?_
      refine lv_lload_n hx hb dX4_writeLength_41 rfl (lv_at hl 0 rfl) ?_
      refine lv_ldc2 hx hb hown (hts _ mK_RX4_39) dX4_writeLength_42 ?_
      refine lv_lrem hx hb dX4_writeLength_45 (by decide) ?_
      obtain ⟨h7, hs⟩ := hs
      obtain ⟨u8, hu8⟩ : ∃ z, z = f_X4_writeFraction (a0 - a0 / (65536 : Int64) * (65536 : Int64)) u6.1 u6.2 := ⟨_, rfl⟩
      have hs := hs u8 hu8
      refine q_X4_writeFraction hx hb hml hown hts mM_RX4_41 ⟨Nat.le_of_ble_eq_true rfl, Nat.le_of_ble_eq_true rfl⟩ ⟨Nat.le_of_ble_eq_true rfl, Nat.le_of_ble_eq_true rfl⟩ hl.1 (Nat.le_of_ble_eq_true rfl) hS dX4_writeLength_46 (fun _ h9 => fA_mono hS.1 h9) hi hK hP (a0 - a0 / (65536 : Int64) * (65536 : Int64)) h7 u8 hu8 (fun H locs hP hS => ?_)
      rw [hQ9]
      have hf : f_X4_writeLength a0 Ss Sm = (u8.1, u8.2) := by simp only [f_X4_writeLength, if_pos c1, ← hu4, ← hu6, ← hu8]
      exact W.vret hx hb hr (fun t ht hW => ⟨⟨(), rfl, True.intro, by rw [hf]; show va_P (dC, dI) vwCl _ t.heap; rw [ht]; exact hP⟩, hS.F ht⟩) hS.2.2 dX4_writeLength_49
    · have c2 : ¬ (0 : Int64) ≤ a0 := fun z => c2 (lc_ge.mpr z)
      exact absurd c1 c2
  · have c1 : ¬ (0 : Int64) ≤ a0 := fun z => c1 (lc_ge.mpr z)
    have hs := hs.2 c1
    refine lv_aload_n hx hb dX4_writeLength_6 rfl (lv_at hl 0 rfl) ?_
    refine lv_bipush (v := 45) hx hb dX4_writeLength_7 (by decide) ?_
    obtain ⟨h9, hs⟩ := hs
    obtain ⟨u10, hu10⟩ : ∃ z, z = f_X4_write (45 : Int32) Ss Sm := ⟨_, rfl⟩
    have hs := hs u10 hu10
    refine q_X4_write hx hb hml hown hts mM_RX4_29 ⟨Nat.le_of_ble_eq_true rfl, Nat.le_of_ble_eq_true rfl⟩ ⟨Nat.le_of_ble_eq_true rfl, Nat.le_of_ble_eq_true rfl⟩ hl.1 (Nat.le_of_ble_eq_true rfl) hS dX4_writeLength_9 (fun _ h9 => fA_mono hS.1 h9) hi hK hP (45 : Int32) h9 u10 hu10 (fun H locs hP hS => ?_)
    refine lv_lload_n hx hb dX4_writeLength_12 rfl (lv_at hl 1 rfl) ?_
    refine lv_lconst (v := 0) hx hb dX4_writeLength_13 (by decide) ?_
    refine W.lcmp hx hb dX4_writeLength_14 ?_
    refine lv_if_ge (tgt := 23) hx hb dX4_writeLength_15 (by decide) (fun c11 => ?_) (fun c11 => ?_)
    · have c11 : (0 : Int64) ≤ a0 := lc_ge.mp c11
      exact absurd c11 c1
    · have c11 : ¬ (0 : Int64) ≤ a0 := fun z => c11 (lc_ge.mpr z)
      refine lv_lload_n hx hb dX4_writeLength_18 rfl (lv_at hl 1 rfl) ?_
      refine lv_lneg hx hb dX4_writeLength_19 ?_
      refine lv_goto (tgt := 24) hx hb dX4_writeLength_20 (by decide) ?_
      refine lv_lstore_n (lv' := [(3, .long (-a0)), (0, .ref (ad 18)), (1, .long a0)]) hx hb dX4_writeLength_24 rfl hl (by decide) rfl (fun ls hl => ?_)
      refine lv_aload_n hx hb dX4_writeLength_25 rfl (lv_at hl 1 rfl) ?_
      refine lv_lload_n hx hb dX4_writeLength_26 rfl (lv_at hl 0 rfl) ?_
      refine lv_ldc2 hx hb hown (hts _ mK_RX4_39) dX4_writeLength_27 ?_
      refine lv_ldiv hx hb dX4_writeLength_30 (by decide) ?_
      obtain ⟨h12, hs⟩ := hs
      obtain ⟨u13, hu13⟩ : ∃ z, z = f_X4_writeDigits ((-a0) / (65536 : Int64)) u10.1 u10.2 := ⟨_, rfl⟩
      have hs := hs u13 hu13
      refine q_X4_writeDigits hx hb hml hown hts mM_RX4_33 ⟨Nat.le_of_ble_eq_true rfl, Nat.le_of_ble_eq_true rfl⟩ ⟨Nat.le_of_ble_eq_true rfl, Nat.le_of_ble_eq_true rfl⟩ hl.1 (Nat.le_of_ble_eq_true rfl) hS dX4_writeLength_31 (fun _ h9 => fA_mono hS.1 h9) hi hK hP ((-a0) / (65536 : Int64)) h12 u13 hu13 (fun H locs hP hS => ?_)
      refine lv_aload_n hx hb dX4_writeLength_34 rfl (lv_at hl 1 rfl) ?_
      refine lv_bipush (v := 46) hx hb dX4_writeLength_35 (by decide) ?_
      obtain ⟨h14, hs⟩ := hs
      obtain ⟨u15, hu15⟩ : ∃ z, z = f_X4_write (46 : Int32) u13.1 u13.2 := ⟨_, rfl⟩
      have hs := hs u15 hu15
      refine q_X4_write hx hb hml hown hts mM_RX4_29 ⟨Nat.le_of_ble_eq_true rfl, Nat.le_of_ble_eq_true rfl⟩ ⟨Nat.le_of_ble_eq_true rfl, Nat.le_of_ble_eq_true rfl⟩ hl.1 (Nat.le_of_ble_eq_true rfl) hS dX4_writeLength_37 (fun _ h9 => fA_mono hS.1 h9) hi hK hP (46 : Int32) h14 u15 hu15 (fun H locs hP hS => ?_)
      refine lv_aload_n hx hb dX4_writeLength_40 rfl (lv_at hl 1 rfl) ?_
      refine lv_lload_n hx hb dX4_writeLength_41 rfl (lv_at hl 0 rfl) ?_
      refine lv_ldc2 hx hb hown (hts _ mK_RX4_39) dX4_writeLength_42 ?_
      refine lv_lrem hx hb dX4_writeLength_45 (by decide) ?_
      obtain ⟨h16, hs⟩ := hs
      obtain ⟨u17, hu17⟩ : ∃ z, z = f_X4_writeFraction ((-a0) - (-a0) / (65536 : Int64) * (65536 : Int64)) u15.1 u15.2 := ⟨_, rfl⟩
      have hs := hs u17 hu17
      refine q_X4_writeFraction hx hb hml hown hts mM_RX4_41 ⟨Nat.le_of_ble_eq_true rfl, Nat.le_of_ble_eq_true rfl⟩ ⟨Nat.le_of_ble_eq_true rfl, Nat.le_of_ble_eq_true rfl⟩ hl.1 (Nat.le_of_ble_eq_true rfl) hS dX4_writeLength_46 (fun _ h9 => fA_mono hS.1 h9) hi hK hP ((-a0) - (-a0) / (65536 : Int64) * (65536 : Int64)) h16 u17 hu17 (fun H locs hP hS => ?_)
      rw [hQ9]
      have hf : f_X4_writeLength a0 Ss Sm = (u17.1, u17.2) := by simp only [f_X4_writeLength, if_neg c1, ← hu10, ← hu13, ← hu15, ← hu17]
      exact W.vret hx hb hr (fun t ht hW => ⟨⟨(), rfl, True.intro, by rw [hf]; show va_P (dC, dI) vwCl _ t.heap; rw [ht]; exact hP⟩, hS.F ht⟩) hS.2.2 dX4_writeLength_49
theorem q_X4_writeLength {p : Program} {l : Launch} {e : Env} {R : Room} {s : State} {m : MethodId} {args : Array Value} {below : List Frame} {meth : Method} {c : Code} {H : Heap} {locs : List Loc} {cells slots : Nat} {Q : State → Prop} {pc : Nat} {ls : Array Slot} {rest : List Value} {cc : ByteArray} {nL idx : Nat} {own : String} {A0 : Nat → Prop} {dC : Nat → ClassId} {dI : Nat → Nat → Nat} {cI cJ : ClassId} {ad : Nat → Nat} {Bc : Nat → Int64} {Bl : Nat → Int32} {Pk : Nat → Int32} {Pr : Nat → Int32} {Pl : Nat → Int32} {Pc : Nat → Int64} {Pm : Int32} {Gf : Nat → Int32} {Gt : Nat → Int32} {Gx : Nat → Int32} {Gd : Int32} {Gm : Int32} {Ek : Nat → Int32} {Er : Nat → Int32} {Ea : Nat → Int32} {Ex : Nat → Int32} {Em : Int32} {Eb : Int32} {Et : Int32} {Ss : Nat → Int32} {Sm : Int32} {Wg : Nat → Int64} {Wr : Nat → Int64} {Md : Nat → Int64} (hx : p.tables.exec = Jvm.exec) (hb : c.code = cc) (hml : c.maxLocals = nL) (hown : s.vm.findClass own = some m.cls) (hts : ∀ w ∈ bigW, w.before args s = true) (hlk : Cond.methodLink own idx yX4_writeLength ∈ bigW) (hR : 3 ≤ R.frames ∧ 72 ≤ R.locals) (hf : cells + 0 ≤ R.cells ∧ slots + 0 ≤ R.slots) (hz : ls.size = nL) (hw : (rest.map fun v => v.category).sum ≤ 8) (hS : va_S A0 s.heap H locs) (hd : decode cc pc = .ok (.invokevirtual idx, 3)) (hA : ∀ q, fA 23 ad H.size q → A0 q) (hi : fI 23 ad) (hK : va_K (dC, dI) vwCl [(cI, .int), (cJ, .long)] s) (hP : va_P (dC, dI) vwCl (wC ad cI cJ Bc Bl Pk Pr Pl Pc Pm Gf Gt Gx Gd Gm Ek Er Ea Ex Em Eb Et Ss Sm Wg Wr Md) H) (a0 : Int64) (hs : S_X4_writeLength a0 Ss Sm)  (u : (Nat → Int32) × Int32) (hu : u = f_X4_writeLength a0 Ss Sm) (k : ∀ (H1 : Heap) (locs1 : List Loc), va_P (dC, dI) vwCl (wC ad cI cJ Bc Bl Pk Pr Pl Pc Pm Gf Gt Gx Gd Gm Ek Er Ea Ex Em Eb Et u.1 u.2 Wg Wr Md) H1 → va_S A0 s.heap H1 locs1 → W p l e R s m args below meth c H1 locs1 (cells + 0) (slots + 0) Q (F0 m (pc + 3) ls (rest))) : W p l e R s m args below meth c H locs cells slots Q (F0 m pc ls (.long a0 :: .ref (ad 18) :: rest)) := by
  subst hu
  exact va_callv (va_runV (As := [.long a0]) (rest := rest) ⟨hx, hb, hml, hown, hts⟩ (c_X4_writeLength l dC dI cI cJ ad hi H.size Bc Bl Pk Pr Pl Pc Pm Gf Gt Gx Gd Gm Ek Er Ea Ex Em Eb Et Ss Sm Wg Wr Md a0 hs) (kV 1 hts hlk mI_X4_writeLength mN_RX4 mY_X4_writeLength mV_X4_writeLength rfl rfl (by decide +kernel) hR) ⟨fun a U g mk q => ⟨q.1, q.2.1, q.2.2.1, va_K.moved (u := U) (U := U.calling g mk a) (Vm.Alike.refl U.vm) q.2.2.2⟩, va_recv hK hP (ci := 6) (q0 := 18) rfl rfl, fun U hU hW => ⟨rfl, by rw [hU], by rw [hU]; exact hP, va_K.moved hW.alike hK⟩⟩ rfl rfl hz rfl (lv_room hw) hd hf) hS (fun q _ h => hA q h) (fun q h => hA q h) (fun u t H1 locs1 ht hvm hw9 hB hz1 hk1 hS1 => by
    skip
    exact k H1 locs1 (by rw [← ht]; exact hB) hS1)
end
