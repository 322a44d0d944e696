/-! THE LAW'S WRAPPERS: a call that may throw inside a table of one row -/
def exv {S : Type} (o : Option S) (w : S) : Int32 × S := match o with
  | none => (1, w)
  | some u => (0, u)
def exi {S : Type} (o : Option (Int32 × S)) (q : S × (Nat → Int64)) : Int32 × (S × (Nat → Int64)) := match o with
  | none => (1, q)
  | some u => (0, (u.2, vp_updL q.2 (0 : Int32).toNatClampNeg u.1.toInt64))
def exp {S : Type} (o : Option Int32) (q : S × (Nat → Int64)) : Int32 × (S × (Nat → Int64)) := match o with
  | none => (1, q)
  | some r => (0, (q.1, vp_updL q.2 (0 : Int32).toNatClampNeg r.toInt64))
def lo (a : Nat) (cL : ClassId) (f : Nat → Int64) : va_W := [(a, .inl (cL, 1, .inr (.inl f)))]
def cwo (h : Nat → Nat) (a : Nat) (cL : ClassId) (u : (Nat → Int32) × (Nat → Int64)) : va_W := lo a cL u.2 ++ cw h u.1
section WR
variable {p : Program} {l : Launch} {e : Env} {R : Room} {s : State} {m : MethodId} {args : Array Value} {below : List Frame} {meth : Method} {c : Code} {H : Heap} {locs : List Loc} {cells slots : Nat} {Q : State → Prop}
variable {S : Type} {D : va_G} {tys : List (ClassId × FieldType)} {wf : S → va_W} {w u : S} {A : Nat → Prop} {av : List Value} {cc : ByteArray} {pc : Nat} {ls : Array Slot} {rest st0 : List Value} {mc ms : Nat} {r : Int32} {wr : va_W}
theorem kb_after {A1 : Nat → Prop} {free : Addr → Prop} {st₀ t T' : State} {L : List Loc} (h0 : st₀.heap = H) (e1 : T'.heap = t.heap) (hS : va_S A s.heap H locs) (hA1 : ∀ q, A1 q → A q) (hf : ∀ q, free q → A q) (hL : ∀ q ∈ L, free q.base) (hF : va_F A1 st₀ t) :
    (∀ q : Nat, q < H.size → ¬ A1 q → T'.heap[q]? = H[q]?) ∧ va_S A s.heap T'.heap (locs ++ L) := by
  obtain ⟨hz, hk⟩ := hF
  rw [h0] at hz hk
  refine ⟨fun q h1 h2 => by rw [e1]; exact hk q h1 h2, Nat.le_trans hS.1 (by rw [e1]; exact hz), fun q h1 h2 => ?_, fun q hq => ?_⟩
  · rw [e1, hk q (Nat.lt_of_lt_of_le h1 hS.1) (fun z => h2 (hA1 q z))]
    exact hS.2.1 q h1 h2
  · rcases List.mem_append.mp hq with h | h
    · exact hS.2.2 q h
    · exact hf _ (hL q h)
/-- what a call needs of the tables -/
def kt_C (R : Room) (s : State) (args : Array Value) (own : String) (index : Nat) (C : String) (y : MethodName) (bytes : ByteArray) (maxL : Nat) (ret : Option FieldType) (rm : Room) (n : Nat) : Prop :=
  (Cond.methodLink own index y).before args s = true ∧ (Cond.instanceMethod y).before args s = true ∧ (Cond.selects C y y).before args s = true ∧ (Cond.code y bytes maxL ret).before args s = true ∧ (Cond.initialized y.cls).before args s = true ∧ (y.cls ≠ "java/lang/invoke/MethodHandle" ∧ y.cls ≠ "java/lang/invoke/VarHandle") ∧
  rm.frames + 1 ≤ R.frames ∧ 8 + (maxL + 11) + rm.locals ≤ R.locals ∧ rm.cells = 1 ∧ rm.slots = 6 ∧ (parseMethodDescriptor y.desc).map (fun d => d.parameters.length) = some n
/-- what a catch needs -/
def kt_X (s : State) (args : Array Value) (c : Code) (own E : String) (pc : Nat) (x : ExceptionTableEntry) : Prop :=
  c.exceptionTable.toList = [x] ∧ covers x pc = true ∧ x.catchType ≠ 0 ∧ (Cond.classLink own x.catchType E).before args s = true ∧ (Cond.castable E E).before args s = true
theorem kt_pre {As : List Value} {b : Nat} (hN : kb_N s) (hT : kt_W s ∧ kt_Z A s s.heap) (hK : va_K D vwCl tys s) (hP : va_P D vwCl (wf w) H) (hD : va_D A (wf w)) (hS : va_S A s.heap H locs) (hA : ∀ q : Nat, s.heap.size ≤ q → A q) : ∀ U : State, U.heap = H → s.WarmedH U.vm → (va_Pc (.ref b :: As) (kt_B D tys wf w H.size)) (Value.ref b :: As).toArray U := fun U hU hW =>
  ⟨rfl, ⟨by rw [hU], hN.warm hW, by rw [hU]; exact hP, va_K.moved hW.alike hK, hD.weaken (fun _ _ _ _ => trivial)⟩, hT.1.warm hW, by rw [hU]; exact hT.2.down hS hW.alike (kb_in hD hS hA)⟩
theorem kt_callv {F : Option S} {E own C : String} {index maxL n b : Nat} {y : MethodName} {bytes : ByteArray} {ret : Option FieldType} {rm : Room} {As : List Value} {x : ExceptionTableEntry} (hx : p.tables.exec = Jvm.exec) (hb : c.code = cc) (hml : c.maxLocals = ls.size) (hown : s.vm.findClass own = some m.cls) (hC : kt_C R s args own index C y bytes maxL ret rm n) (hX : kt_X s args c own E pc x)
    (hM : tx_Met l y [Cond.code y bytes maxL ret] rm (va_Pc (.ref b :: As) (kt_B D tys wf w H.size)) (va_Qv (fun u' => F = some u') (kb_E D tys wf (va_A (wf w) H.size)) (va_A (wf w) H.size)) E (tx_X (fun u' => F = none ∧ u' = w) (kb_E D tys wf (va_A (wf w) H.size)) (va_A (wf w) H.size)) 1 6 (va_A (wf w) H.size))
    (hN : kb_N s) (hT : kt_W s ∧ kt_Z A s s.heap) (hK : va_K D vwCl tys s) (hP : va_P D vwCl (wr ++ wf w) H) (hD : va_D A (wr ++ wf w)) (hS : va_S A s.heap H locs) (hA : ∀ q : Nat, s.heap.size ≤ q → A q) (hr : ∃ cell : Cell, H[b]? = some cell ∧ cell.vm.isStatics = false ∧ s.vm.findClass C = some cell.cls)
    (hn : As.length = n) (hst : st0 = As.reverse ++ .ref b :: rest) (hrm : (rest.map fun v => v.category).sum ≤ 8) (hdg : decode cc pc = .ok (.invokevirtual index, 3)) (hcl : cells + 1 ≤ R.cells) (hsl : slots + 6 ≤ R.slots)
    (k1 : ∀ (u : S) (H1 : Heap) (locs1 : List Loc), F = some u → va_P D vwCl (wr ++ wf u) H1 → va_D A (wr ++ wf u) → va_S A s.heap H1 locs1 → W p l e R s m args below meth c H1 locs1 (cells + 1) (slots + 6) Q (F0 m (pc + 3) ls rest))
    (k2 : ∀ (q : Nat) (H1 : Heap) (locs1 : List Loc), F = none → va_P D vwCl (wr ++ wf w) H1 → va_D A (wr ++ wf w) → va_S A s.heap H1 locs1 → W p l e R s m args below meth c H1 locs1 (cells + 1) (slots + 6) Q (F0 m x.handlerPc ls [.ref q])) : W p l e R s m args below meth c H locs cells slots Q (F0 m pc ls st0) := by
  intro T hT0 X
  obtain ⟨c1, c2, c3, c4, c5, c6, c7, c8, c9, c10, c11⟩ := hC
  obtain ⟨x1, x2, x3, x4, x5⟩ := hX
  obtain ⟨cellB, hcB, hoB, hclB⟩ := hr
  have hin := kb_in (wd_r hD) hS hA
  rcases tx_call X hx hown c1 c2 c3 c4 c5 c6 hM kt_blind c9 c10 c7 c8 (b := b) (cellB := cellB) (by rw [hT0]; exact hcB) hoB hclB (g := F0 m pc ls st0) rfl hml.symm (argsL := As) (rest := rest) (fun sig h => by rw [h] at c11; exact hn.trans (Option.some.inj c11).symm) hst (by show 2 * 0 + _ ≤ 8; omega) (by rw [hb]; exact hdg) hcl hsl
    (by rw [hT0]; exact kt_pre hN hT hK (wp_r hP) (wd_r hD) hS hA) with ⟨v, st₀, t, T', L, h0, X', hL, e1, e2, ⟨⟨u, hv, hF, hB⟩, hFr⟩, st⟩ | ⟨q, st₀, t, T', L, ce, h0, X', hL, e1, e2, ⟨u, ⟨hF, hu⟩, hB, hFr⟩, hce, hcv, hcc, st⟩
  · cases hv
    rw [hT0] at h0
    obtain ⟨f1, f2⟩ := kb_after h0 e1 hS hin hin hL hFr
    obtain ⟨hP1, -, hD1⟩ := hB
    obtain ⟨g1, g2⟩ := kb_beside hP hD hS hA f1 (by rw [e1]; exact hP1) hD1
    obtain ⟨t2, a1, b1⟩ := k1 u T'.heap _ hF g1 g2 f2 T' rfl X'
    exact ⟨t2, st t2 a1, b1⟩
  · subst hu
    rw [hT0] at h0
    obtain ⟨f1, f2⟩ := kb_after h0 e1 hS hin hin hL hFr
    obtain ⟨hP1, -, hD1⟩ := hB
    obtain ⟨g1, g2⟩ := kb_beside hP hD hS hA f1 (by rw [e1]; exact hP1) hD1
    obtain ⟨vm', X2, st2⟩ := tx_catch X' (a := q) (g := F0 m pc ls rest) rfl hown x1 x2 x3 x4 x5 (by rw [e1]; exact hce) hcv hcc
    obtain ⟨t2, a1, b1⟩ := k2 q T'.heap _ hF g1 g2 f2 (T'.setVm vm') rfl X2
    exact ⟨t2, st.trans (st2 t2 a1), b1⟩
theorem kt_calli {post : Int32 → S → Prop} {F : Prop} {E own C : String} {index maxL n b : Nat} {y : MethodName} {bytes : ByteArray} {ret : Option FieldType} {rm : Room} {As : List Value} {x : ExceptionTableEntry} (hx : p.tables.exec = Jvm.exec) (hb : c.code = cc) (hml : c.maxLocals = ls.size) (hown : s.vm.findClass own = some m.cls) (hC : kt_C R s args own index C y bytes maxL ret rm n) (hX : kt_X s args c own E pc x)
    (hM : tx_Met l y [Cond.code y bytes maxL ret] rm (va_Pc (.ref b :: As) (kt_B D tys wf w H.size)) (va_Qi post (kb_E D tys wf (va_A (wf w) H.size)) (va_A (wf w) H.size)) E (tx_X (fun u' => F ∧ u' = w) (kb_E D tys wf (va_A (wf w) H.size)) (va_A (wf w) H.size)) 1 6 (va_A (wf w) H.size))
    (hN : kb_N s) (hT : kt_W s ∧ kt_Z A s s.heap) (hK : va_K D vwCl tys s) (hP : va_P D vwCl (wr ++ wf w) H) (hD : va_D A (wr ++ wf w)) (hS : va_S A s.heap H locs) (hA : ∀ q : Nat, s.heap.size ≤ q → A q) (hr : ∃ cell : Cell, H[b]? = some cell ∧ cell.vm.isStatics = false ∧ s.vm.findClass C = some cell.cls)
    (hn : As.length = n) (hst : st0 = As.reverse ++ .ref b :: rest) (hrm : (rest.map fun v => v.category).sum ≤ 8) (hdg : decode cc pc = .ok (.invokevirtual index, 3)) (hcl : cells + 1 ≤ R.cells) (hsl : slots + 6 ≤ R.slots)
    (k1 : ∀ (r : Int32) (u : S) (H1 : Heap) (locs1 : List Loc), post r u → va_P D vwCl (wr ++ wf u) H1 → va_D A (wr ++ wf u) → va_S A s.heap H1 locs1 → W p l e R s m args below meth c H1 locs1 (cells + 1) (slots + 6) Q (F0 m (pc + 3) ls (.int r :: rest)))
    (k2 : ∀ (q : Nat) (H1 : Heap) (locs1 : List Loc), F → va_P D vwCl (wr ++ wf w) H1 → va_D A (wr ++ wf w) → va_S A s.heap H1 locs1 → W p l e R s m args below meth c H1 locs1 (cells + 1) (slots + 6) Q (F0 m x.handlerPc ls [.ref q])) : W p l e R s m args below meth c H locs cells slots Q (F0 m pc ls st0) := by
  intro T hT0 X
  obtain ⟨c1, c2, c3, c4, c5, c6, c7, c8, c9, c10, c11⟩ := hC
  obtain ⟨x1, x2, x3, x4, x5⟩ := hX
  obtain ⟨cellB, hcB, hoB, hclB⟩ := hr
  have hin := kb_in (wd_r hD) hS hA
  rcases tx_call X hx hown c1 c2 c3 c4 c5 c6 hM kt_blind c9 c10 c7 c8 (b := b) (cellB := cellB) (by rw [hT0]; exact hcB) hoB hclB (g := F0 m pc ls st0) rfl hml.symm (argsL := As) (rest := rest) (fun sig h => by rw [h] at c11; exact hn.trans (Option.some.inj c11).symm) hst (by show 2 * 0 + _ ≤ 8; omega) (by rw [hb]; exact hdg) hcl hsl
    (by rw [hT0]; exact kt_pre hN hT hK (wp_r hP) (wd_r hD) hS hA) with ⟨v, st₀, t, T', L, h0, X', hL, e1, e2, ⟨⟨r, u, hv, hF, hB⟩, hFr⟩, st⟩ | ⟨q, st₀, t, T', L, ce, h0, X', hL, e1, e2, ⟨u, ⟨hF, hu⟩, hB, hFr⟩, hce, hcv, hcc, st⟩
  · cases hv
    rw [hT0] at h0
    obtain ⟨f1, f2⟩ := kb_after h0 e1 hS hin hin hL hFr
    obtain ⟨hP1, -, hD1⟩ := hB
    obtain ⟨g1, g2⟩ := kb_beside hP hD hS hA f1 (by rw [e1]; exact hP1) hD1
    obtain ⟨t2, a1, b1⟩ := k1 r u T'.heap _ hF g1 g2 f2 T' rfl X'
    exact ⟨t2, st t2 a1, b1⟩
  · subst hu
    rw [hT0] at h0
    obtain ⟨f1, f2⟩ := kb_after h0 e1 hS hin hin hL hFr
    obtain ⟨hP1, -, hD1⟩ := hB
    obtain ⟨g1, g2⟩ := kb_beside hP hD hS hA f1 (by rw [e1]; exact hP1) hD1
    obtain ⟨vm', X2, st2⟩ := tx_catch X' (a := q) (g := F0 m pc ls rest) rfl hown x1 x2 x3 x4 x5 (by rw [e1]; exact hce) hcv hcc
    obtain ⟨t2, a1, b1⟩ := k2 q T'.heap _ hF g1 g2 f2 (T'.setVm vm') rfl X2
    exact ⟨t2, st.trans (st2 t2 a1), b1⟩
/-- a wrapper's start -/
theorem kw_of {y : MethodName} {rm : Room} {maxL sz : Nat} {ret : Option FieldType} {hh : Nat × Nat × Nat × Nat} {QcA : (Nat → Prop) → Array Value → State → Outcome → State → Prop} (hy : plainName y.cls = true) (hlen : (lg_sl av).length ≤ maxL)
    (body : ∀ (p : Program) (e : Env) (s : State) (m : MethodId) (below : List Frame) (meth : Method) (c : Code) (A : Nat → Prop), p.tables.exec = Jvm.exec → c.code = cc → meth.sig.returnType = ret → meth.locks = false → c.maxLocals = maxL → s.vm.findClass y.cls = some m.cls → (∀ w ∈ lw_st, w.before av.toArray s = true) → (∀ q : Nat, s.heap.size ≤ q → A q) → kb_N s → (kt_W s ∧ kt_Z A s s.heap) → c.exceptionTable.toList = [⟨hh.1, hh.2.1, hh.2.2.1, hh.2.2.2⟩] → va_K D vwCl tys s → va_P D vwCl (wf w) s.heap → va_D A (wf w) → ∀ ls : Array Slot, lv_has ls maxL (lv_args 0 av) → W p l e rm s m av.toArray below meth c s.heap [] 0 0 (MQ below (QcA A) av.toArray s mc ms A) (F0 m 0 ls [])) :
    Met l y [Cond.codeWith y cc maxL ret [hh]] rm (va_Pc av (kt_B D tys wf w sz)) (QcA (va_A (wf w) sz)) mc ms (va_A (wf w) sz) := by
  refine va_MetW (cc := cc) (maxL := maxL) (ret := ret) (hh := [hh]) hy rfl ?_
  intro p e s m args below meth c s₁ B hml hv
  obtain ⟨rfl, ⟨hsz, hN, hP, hK, hD0⟩, hW, hZ⟩ := hv
  have hown : s.vm.findClass y.cls = some m.cls := findClass_of_methodNamed B.named
  have htab : c.exceptionTable.toList = [⟨hh.1, hh.2.1, hh.2.2.1, hh.2.2.2⟩] := by
    obtain ⟨m9, meth9, c9, hn9, h1, h2, -, -, h6, -⟩ := Cond.codeWith_spec (atoms_spec (ws := [Cond.codeWith y cc maxL ret [hh]]) B.pre _ List.mem_cons_self)
    cases Option.some.inj (hn9.symm.trans B.named)
    cases Option.some.inj (h1.symm.trans B.method)
    cases Option.some.inj (h2.symm.trans (Stand.of_body B).code)
    rw [← table_eq c.exceptionTable.toList, h6]
    rfl
  subst hsz
  have hD := hD0.self (sz := s.heap.size)
  have hl := lv_entry av (n := maxL) hlen
  rw [lg_entry_eq]
  exact body p e s m below meth c _ B.exec B.bytes B.returns B.notSynchronized hml hown (hN.ts _) (fun q h => Or.inr h) hN ⟨hW, hZ⟩ htab hK hP hD _ hl
end WR
