/-! A CALL THAT MAY THROW, AND THE CATCH OF IT (a table of one row, its class cold or warm) -/
section TC
variable {p : Program} {l : Launch} {e : Env} {R : Room} {s : State} {m : MethodId} {args : Array Value} {below : List Frame} {meth : Method} {c : Code} {T : State} {H : Heap} {locs : List Loc} {cells slots : Nat} {Q : State → Prop}
variable {rm : Room} {Pc : Array Value → State → Prop} {Qc : Array Value → State → Outcome → State → Prop} {E : String} {XC : State → State → Prop} {mc ms : Nat} {free : Addr → Prop}
theorem tx_call (X : Stand p l e R s m args below meth c T locs cells slots) (hexec : p.tables.exec = Jvm.exec) {own C : String} {index : Nat} {y : MethodName} {bytes : ByteArray} {maxL : Nat} {ret : Option FieldType}
    (hown : s.vm.findClass own = some m.cls) (hlink : (Cond.methodLink own index y).before args s = true) (hinst : (Cond.instanceMethod y).before args s = true) (hsel : (Cond.selects C y y).before args s = true)
    (hcode : (Cond.code y bytes maxL ret).before args s = true) (hini : (Cond.initialized y.cls).before args s = true) (hy : y.cls ≠ "java/lang/invoke/MethodHandle" ∧ y.cls ≠ "java/lang/invoke/VarHandle")
    (hM : tx_Met l y [Cond.code y bytes maxL ret] rm Pc Qc E XC mc ms free) (hblind : FrameBlind Pc) (hrc : rm.cells = mc) (hrs : rm.slots = ms) (hfr : rm.frames + 1 ≤ R.frames) (hlo : 8 + (maxL + 11) + rm.locals ≤ R.locals)
    {b : Addr} {cellB : Cell} (hcell : T.heap[b]? = some cellB) (hobj : cellB.vm.isStatics = false) (hcls : s.vm.findClass C = some cellB.cls)
    {g : JFrame} (hg : g.method = m) (hsize : g.locals.size = c.maxLocals) {argsL rest : List Value} (hlen : ∀ sig, parseMethodDescriptor y.desc = some sig → argsL.length = sig.parameters.length)
    (hstack : g.stack = argsL.reverse ++ .ref b :: rest) (hW : 2 * g.monitorRoom + (rest.map fun v => v.category).sum ≤ 8) (hdg : decode c.code g.pc = .ok (.invokevirtual index, 3))
    (hcl : cells + mc ≤ R.cells) (hsl : slots + ms ≤ R.slots) (hPc : ∀ U : State, U.heap = T.heap → s.WarmedH U.vm → Pc (Value.ref b :: argsL).toArray U) :
    (∃ (v : Option Value) (st₀ t T' : State) (L : List Loc), st₀.heap = T.heap ∧ Stand p l e R s m args below meth c T' (locs ++ L) (cells + mc) (slots + ms) ∧ (∀ q ∈ L, free q.base) ∧ T'.heap = t.heap ∧ T'.vm = t.vm ∧ Qc (Value.ref b :: argsL).toArray st₀ (.returned v) t ∧
      ∀ tg, Steps p.tables e below (T'.setTop { g with pc := g.pc + 3, stack := v.toList ++ rest }) tg → Steps p.tables e below (T.setTop g) tg) ∨
    (∃ (q : Addr) (st₀ t T' : State) (L : List Loc) (ce : Cell), st₀.heap = T.heap ∧ Stand p l e R s m args below meth c T' (locs ++ L) (cells + mc) (slots + ms) ∧ (∀ z ∈ L, free z.base) ∧ T'.heap = t.heap ∧ T'.vm = t.vm ∧ XC st₀ t ∧ t.heap[q]? = some ce ∧ ce.vm = .none ∧ s.vm.findClass E = some ce.cls ∧
      Steps p.tables e below (T.setTop g) ((T'.setTop { g with stack := rest }).pushFrame (.throwing q))) := by
  obtain ⟨mk, methM, hnamed, hmethM, hstM, habM⟩ := Cond.instanceMethod_spec hinst
  obtain ⟨methM', cM, hmethM', -, -, -, -, -, -, hsigM⟩ := Cond.code_spec hnamed hcode
  cases hmethM.symm.trans hmethM'
  obtain ⟨c2, r2, m2, q1, q2, q3, q4, kP, hkP, hkPi⟩ := Cond.selects_spec hsel
  cases hcls.symm.trans q1
  cases (State.methodFound?_of_named hnamed hy).symm.trans q2
  cases hnamed.symm.trans q3
  have hselP : selectMethod e.platform s.vm cellB.cls mk = .method mk := by rw [Launch.admits_selectMethod X.admits]; exact q4
  obtain ⟨vm₁, X₁, hstep₁⟩ := X.invokevirtual hexec hown hlink hnamed hmethM hstM hkP hkPi hy (a := b) (cell := cellB) hcell
    (fun z h => by rw [h] at hobj; cases hobj) hselP hmethM habM hkP hkPi (g := g) hg (argsL := argsL) (rest := rest) (hlen _ hsigM) hstack hdg
  obtain ⟨U, hU⟩ : ∃ U : State, U = T.setVm vm₁ := ⟨_, rfl⟩
  obtain ⟨g1, hg1⟩ : ∃ g1 : JFrame, g1 = { g with stack := rest } := ⟨_, rfl⟩
  obtain ⟨a, ha⟩ : ∃ a : Array Value, a = (Value.ref b :: argsL).toArray := ⟨_, rfl⟩
  have hUh : U.heap = T.heap := by rw [hU]; rfl
  rw [← hU] at X₁
  have hgm : g1.method = m := by rw [hg1]; exact hg
  have hgs : g1.locals.size = c.maxLocals := by rw [hg1]; exact hsize
  have hgd : decode c.code g1.pc = .ok (.invokevirtual index, 3) := by rw [hg1]; exact hdg
  have hgW : 2 * g1.monitorRoom + (g1.stack.map fun v => v.category).sum ≤ 8 := by rw [hg1]; exact hW
  have hn : U.methodNamed? y = some mk := X₁.named hnamed
  have h2 : (Cond.code y bytes maxL ret).before a U = true := word_at X₁.warmed (Or.inl rfl) hcode
  have h3 : (Cond.initialized y.cls).before a U = true := word_at X₁.warmed (Or.inl rfl) hini
  have h1 : (headSpec [Cond.code y bytes maxL ret] rm).pre.before a U = true := atoms_intro fun w hw => by
    obtain rfl := List.mem_singleton.mp hw
    exact h2
  have hPc1 : Pc a (U.calling g1 mk a) := hblind _ _ _ _ (by rw [ha]; exact hPc U hUh X₁.warmed)
  obtain ⟨methY, cY, hmY, hcY, -, hlY, -, -, -, -⟩ := Cond.code_spec hn h2
  obtain ⟨kY, hkY, -⟩ := className_of_methodNamed hn
  have hinitY : kY.init = .initialized := Cond.initialized_spec (findClass_of_methodNamed hn) hkY h3
  have h : At U g1.method c below := by rw [hgm]; exact X₁.here
  have h4 : cells + (headSpec [Cond.code y bytes maxL ret] rm).room.cells ≤ R.cells := by rw [show (headSpec [Cond.code y bytes maxL ret] rm).room.cells = mc from hrc]; exact hcl
  have h5 : slots + (headSpec [Cond.code y bytes maxL ret] rm).room.slots ≤ R.slots := by rw [show (headSpec [Cond.code y bytes maxL ret] rm).room.slots = ms from hrs]; exact hsl
  have hlo9 : 8 + (maxL + 11) + (headSpec [Cond.code y bytes maxL ret] rm).room.locals ≤ R.locals := hlo
  have happ : (headSpec [Cond.code y bytes maxL ret] rm).appliesLoose y e.platform (U.calling g1 mk a) = true :=
    Spec.appliesLoose_calling (g := g1) h hgd hn hkY hinitY (X₁.room_calling (g := g1) (R' := (headSpec [Cond.code y bytes maxL ret] rm).room) hgs hmY hcY hfr (by rw [hlY]; omega) h4 h5) h1
  obtain ⟨mid, hmid⟩ := h.above
  have hfrm : (U.setTop g1).frames = (.java g1 :: mid) ++ below := by rw [State.frames_setTop' g1 h.top, hmid]; rfl
  obtain ⟨o, s₂, hsteps, -, hend, hq⟩ := Steps.callFree hM p X₁.admits X₁.cas X₁.clock (acts := []) hfrm happ hPc1 trivial
  have hgo : ∀ tg, Steps p.tables e below s₂ tg → Steps p.tables e below (T.setTop g) tg := fun tg hh => hstep₁ _ fun acts => by
    rw [doInvoke_state]
    rw [hU, hg1, ha] at hsteps
    exact hsteps.trans hh
  rw [State.frames_setTop' g1 h.top] at hend
  obtain ⟨g₀, hg0⟩ := Option.isSome_iff_exists.mp h.top
  obtain ⟨r, hr⟩ := State.topJava?_eq_some.mp hg0
  have hr' : (({ U with heap := s₂.heap, slotsUsed := s₂.slotsUsed } : State).setVm s₂.vm).frames = .java g₀ :: r := hr
  have hq' : tx_Q Qc E XC mc ms free a (U.calling g1 mk a) o s₂ := hq
  have key : ∀ L : List Loc, (U.calling g1 mk a).WarmedH s₂.vm → (U.calling g1 mk a).sameButNew ({ s₂ with vm := (U.calling g1 mk a).vm } : State) L mc ms →
      s₂ = ({ (U.calling g1 mk a).setFrames s₂.frames with heap := s₂.heap, slotsUsed := s₂.slotsUsed } : State).setVm s₂.vm ∧
      Stand p l e R s m args below meth c (({ U with heap := s₂.heap, slotsUsed := s₂.slotsUsed } : State).setVm s₂.vm) (locs ++ L) (cells + mc) (slots + ms) := by
    intro L hW₂ hsm
    obtain ⟨e2, q2, q3, q4, q5, q6⟩ := id hsm
    have hW' : U.WarmedH s₂.vm := hW₂
    have e3 : s₂ = ({ (U.calling g1 mk a).setFrames s₂.frames with heap := s₂.heap, slotsUsed := s₂.slotsUsed } : State).setVm s₂.vm := by
      have h9 : s₂ = ({ s₂ with vm := (U.calling g1 mk a).vm } : State).setVm s₂.vm := rfl
      rw [e2] at h9
      exact h9
    have hsame : U.sameButNew ({ U with heap := s₂.heap, slotsUsed := s₂.slotsUsed } : State) L mc ms := by
      refine ⟨?_, q2, q3, q4, q5, q6⟩
      obtain ⟨t, ht, -⟩ := State.frames_cons hr
      show ({ U with heap := s₂.heap, slotsUsed := s₂.slotsUsed } : State) = { U.setFrames U.frames with heap := s₂.heap, slotsUsed := s₂.slotsUsed }
      rw [State.setFrames_self ht]
    exact ⟨e3, X₁.admits, X₁.cas, X₁.clock, X₁.frames, X₁.room, X₁.hears, X₁.method, X₁.code, (X₁.here.setHeapUsed s₂.heap s₂.slotsUsed).setVm hW'.alike, X₁.tail, State.WarmedH.trans X₁.warmed hW', X₁.limits, X₁.bytes, X₁.same.trans (hsame.setVm s.vm)⟩
  rcases hq' with ⟨hqc, L, hfe, hL⟩ | ⟨q, rfl, hx, ce, L, hce, hcv, hcx, hW₂, hsm, hL⟩
  · obtain ⟨⟨v, rfl⟩, hW₂, hsm⟩ := id hfe
    obtain ⟨e3, X'⟩ := key L hW₂ hsm
    obtain ⟨c₂, i₂, len₂, hc₂, hd₂, hf₂⟩ := hend
    have hcc : c₂ = c := by
      have h9 : s₂.code? g1.method = U.code? g1.method := by
        rw [State.code?_eq, State.code?_eq, (show U.WarmedH s₂.vm from hW₂).alike.method?]
      exact Option.some.inj (hc₂.symm.trans (h9.trans h.code))
    subst hcc
    have hl3 : len₂ = 3 := by rw [hgd] at hd₂; cases hd₂; rfl
    subst hl3
    have hs₂ : s₂ = (({ U with heap := s₂.heap, slotsUsed := s₂.slotsUsed } : State).setVm s₂.vm).setTop { g1 with pc := g1.pc + 3, stack := v.toList ++ g1.stack } := by
      refine e3.trans ?_
      rw [hf₂, State.calling_eq h.top, State.setFrames_setFrames, State.setTop_of_frames _ hr', hr]
      rfl
    refine Or.inl ⟨v, U.calling g1 mk a, s₂, _, L, hUh, X', hL, rfl, rfl, by rw [← ha]; exact hqc, fun tg hh => hgo tg ?_⟩
    rw [hs₂, hg1]
    exact hh
  · obtain ⟨e3, X'⟩ := key L hW₂ hsm
    have hf₂ : s₂.frames = .throwing q :: .java g1 :: U.frames.tail := hend
    have hs₂ : s₂ = ((({ U with heap := s₂.heap, slotsUsed := s₂.slotsUsed } : State).setVm s₂.vm).setTop g1).pushFrame (.throwing q) := by
      refine e3.trans ?_
      rw [hf₂, State.calling_eq h.top, State.setFrames_setFrames, State.pushFrame, State.frames_setTop _ hr', State.setTop_of_frames _ hr', State.setFrames_setFrames, hr]
      rfl
    have hcx' : s.vm.findClass E = some ce.cls := by
      rw [← X₁.warmed.alike.findClass]
      exact hcx
    refine Or.inr ⟨q, U.calling g1 mk a, s₂, _, L, ce, hUh, X', hL, rfl, rfl, hx, hce, hcv, hcx', hgo _ ?_⟩
    rw [hg1] at hs₂
    rw [← hs₂]
    exact Steps.refl _
/-- the search of a table of one row, which names a class that the object can be taken for -/
theorem tx_row {Q9 : Handler → Pre} {E9 : CtlPost} {e : Env} {d : Bool} {acts : List Action} {S9 : State} {f : JFrame} {a : Addr} {x : ExceptionTableEntry} {c9 : ClassId} {cell : Cell} (hx : covers x f.pc = true) (h0 : x.catchType ≠ 0)
    (hl : S9.vm.ClassLinks e.platform f.method.cls x.catchType c9) (hcell : S9.heap[a]? = some cell) (hobj : ∀ k, cell.vm ≠ .statics k) (hk : ∃ k, S9.vm.classes[cell.cls]? = some k) (hc : ∃ k, S9.vm.classes[c9]? = some k) (hfit : S9.vm.assignable cell.cls c9 = true) :
    wp (findHandler.go f a [x]) Q9 E9 e d acts S9 ↔ Q9 (.found x.handlerPc) d acts (S9.setVm (S9.vm.noted f.method.cls x.catchType (.cls c9))) := by
  simp only [covers] at hx
  obtain ⟨h1, h2⟩ := (resolveClass_links e.toSetting hl).op (op := VmOp.resolveClass f.method.cls x.catchType) rfl
  have hal : S9.vm.Alike (S9.vm.noted f.method.cls x.catchType (.cls c9)) := (Vm.Alike.refl S9.vm).noted _ _ _
  obtain ⟨k1, hk1⟩ := hk
  obtain ⟨k2, hk2⟩ := hc
  obtain ⟨k1', hk1', -⟩ := hal.2.2 _ _ hk1
  obtain ⟨k2', hk2', -⟩ := hal.2.2 _ _ hk2
  have hfit' : (S9.vm.noted f.method.cls x.catchType (.cls c9)).assignable cell.cls c9 = true := by rw [hal.assignable]; exact hfit
  simp [findHandler.go, hx, h0, h1, h2, hcell, hobj, hk1', hk2', hfit', VmOp.dirties, VmOp.acts]
theorem tx_catch (X : Stand p l e R s m args below meth c T locs cells slots) {a : Addr} {g : JFrame} (hg : g.method = m) {own name : String} (hown : s.vm.findClass own = some m.cls) {x : ExceptionTableEntry} (htab : c.exceptionTable.toList = [x]) (hx : covers x g.pc = true) (h0 : x.catchType ≠ 0)
    (hlink : (Cond.classLink own x.catchType name).before args s = true) (hcast : (Cond.castable E name).before args s = true) {ce : Cell} (hcell : T.heap[a]? = some ce) (hv : ce.vm = .none) (hce : s.vm.findClass E = some ce.cls) :
    ∃ vm', Stand p l e R s m args below meth c (T.setVm vm') locs cells slots ∧ ∀ tg, Steps p.tables e below ((T.setVm vm').setTop { g with pc := x.handlerPc, stack := [.ref a] }) tg → Steps p.tables e below ((T.setTop g).pushFrame (.throwing a)) tg := by
  have hpl : e.platform.magicAccessors = ({} : Platform).magicAccessors := by rw [X.admits.platform]
  obtain ⟨c3, cT, hc3, hcT, hfit⟩ := Cond.castable_spec hcast
  cases Option.some.inj (hc3.symm.trans hce)
  obtain ⟨c', hc', hcl⟩ := Cond.classLink_spec hown hlink e.platform hpl
  cases Option.some.inj (hcT.symm.trans hc')
  obtain ⟨dk, _, _, kt, hd, _, _, _, _, hkt, _, hopen⟩ := hcl.here
  have hcl₀ := X.warmed.classLinks hcl
  have hW' : s.WarmedH (T.vm.noted m.cls x.catchType (.cls cT)) := X.warmed.noted hd hopen (State.rightAt_cls hcl)
  have hal := X.warmed.alike
  obtain ⟨kt', hkt', -⟩ := hal.2.2 _ _ hkt
  have hfit' : T.vm.assignable ce.cls cT = true := by rw [hal.assignable]; exact hfit
  refine ⟨_, X.noted hW', fun tg hrest => ?_⟩
  subst hg
  have hobj : ∀ k, ce.vm ≠ .statics k := fun k h9 => by rw [hv] at h9; cases h9
  have hfind : ∀ (Q9 : Handler → Pre) (E9 : CtlPost) (d : Bool) (acts : List Action), wp (findHandler g a) Q9 E9 e d acts ((T.setTop g).pushFrame (.throwing a)) ↔ Q9 (.found x.handlerPc) d acts (((T.setTop g).pushFrame (.throwing a)).setVm (T.vm.noted g.method.cls x.catchType (.cls cT))) := by
    intro Q9 E9 d acts
    rw [W.findHandler_eq (s := (T.setTop g).pushFrame (.throwing a)) (meth := meth) (code := c) X.method' X.code, htab]
    exact tx_row hx h0 hcl₀ hcell hobj (Vm.classAt_of_assignable hfit' ⟨kt', hkt'⟩) ⟨kt', hkt'⟩ hfit'
  obtain ⟨hgo, hw⟩ := X.here.throwing a
  refine Steps.head hgo hw ?_
  have hst : (stepThrowing e ((T.setTop g).pushFrame (.throwing a)) a (.java g :: T.frames.tail)).Is ((((T.setTop g).pushFrame (.throwing a)).setVm (T.vm.noted g.method.cls x.catchType (.cls cT))).setFrames (.java { g with pc := x.handlerPc, stack := [.ref a] } :: T.frames.tail)) [] := by
    simp only [stepThrowing, searchFrame, vmDo]
    generalize hr : Sem.go _ e false [] ((T.setTop g).pushFrame (.throwing a)) = res
    obtain ⟨as, rfl, h9⟩ := Sem.eq_ok_of hr (a := Handler.found x.handlerPc) (s' := ((T.setTop g).pushFrame (.throwing a)).setVm (T.vm.noted g.method.cls x.catchType (.cls cT))) (acts' := []) (by simp [hfind])
    exact ⟨rfl, h9⟩
  rw [stepThread_throwing (frames_entered X.here.top _), hst.1]
  obtain ⟨g₀, hg0⟩ := Option.isSome_iff_exists.mp X.here.top
  obtain ⟨r, hr⟩ := State.topJava?_eq_some.mp hg0
  have hr' : (T.setVm (T.vm.noted g.method.cls x.catchType (.cls cT))).frames = .java g₀ :: r := hr
  rw [State.setTop_of_frames _ hr'] at hrest
  have hcomm : ∀ (F G : List Frame), ((T.setFrames F).setVm (T.vm.noted g.method.cls x.catchType (.cls cT))).setFrames G = (T.setVm (T.vm.noted g.method.cls x.catchType (.cls cT))).setFrames G := fun F G => by
    rw [show (T.setFrames F).setVm (T.vm.noted g.method.cls x.catchType (.cls cT)) = (T.setVm (T.vm.noted g.method.cls x.catchType (.cls cT))).setFrames F from rfl, State.setFrames_setFrames]
  rw [hr, List.tail_cons, State.pushFrame, State.setTop_of_frames _ hr, State.setFrames_setFrames, hcomm]
  exact hrest
end TC
