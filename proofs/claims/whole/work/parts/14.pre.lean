theorem ne_ti {x k : Int32} {j : Int} (h : ¬ x = k) (hk : k.toInt = j) : x.toInt ≠ j := fun e => h (Int32.toInt_inj.mp (e.trans hk.symm))
/-! METHODS THAT MAY THROW -/
/-- what a throw leaves: the thrown cell q of the class E -/
def tx_T (E : String) (XC : State → State → Prop) (st : State) (q : Addr) (t : State) (mc ms : Nat) (free : Addr → Prop) : Prop :=
  XC st t ∧ ∃ (ce : Cell) (L : List Loc), t.heap[q]? = some ce ∧ ce.vm = .none ∧ st.vm.findClass E = some ce.cls ∧ st.WarmedH t.vm ∧ st.sameButNew ({ t with vm := st.vm } : State) L mc ms ∧ ∀ z ∈ L, free z.base
def tx_Q (Qc : Array Value → State → Outcome → State → Prop) (E : String) (XC : State → State → Prop) (mc ms : Nat) (free : Addr → Prop) : Array Value → State → Outcome → State → Prop := fun a st o t =>
  (Qc a st o t ∧ ∃ L, FrameEnd st o t L mc ms ∧ ∀ q ∈ L, free q.base) ∨ ∃ q, o = .threw q ∧ tx_T E XC st q t mc ms free
def tx_Met (l : Launch) (y : MethodName) (ws : List Cond) (rm : Room) (Pc : Array Value → State → Prop) (Qc : Array Value → State → Outcome → State → Prop) (E : String) (XC : State → State → Prop) (mc ms : Nat) (free : Addr → Prop) : Prop :=
  MetFree l y (headSpec ws rm) Pc (fun _ _ _ _ _ => True) (tx_Q Qc E XC mc ms free)
def tx_MQ (below : List Frame) (Qc : Array Value → State → Outcome → State → Prop) (E : String) (XC : State → State → Prop) (a : Array Value) (s : State) (mc ms : Nat) (free : Addr → Prop) : State → Prop := fun t =>
  ∃ o, t.status = .running ∧ Ended t below o ∧ tx_Q Qc E XC mc ms free a s o t
def tx_X {S : Type} (px : S → Prop) (B : S → State → Prop) (A : Nat → Prop) : State → State → Prop := fun st t => ∃ u : S, px u ∧ B u t ∧ va_F A st t
/-- the four words of a throw that speak of the heap -/
def kt_hw : List Cond := [.isRef (.static Bundle.tN "UNASSIGNED_STACK" Bundle.steD), .isRef (.static Bundle.tN "SUPPRESSED_SENTINEL" Bundle.listD), .laysStatic Bundle.tN "UNASSIGNED_STACK" Bundle.steD, .laysStatic Bundle.tN "SUPPRESSED_SENTINEL" Bundle.listD]
/-- they hold wherever the heap is the same off A -/
def kt_Z (A : Nat → Prop) (U : State) (H : Heap) : Prop := ∀ (V : State) (a : Array Value), U.vm.Alike V.vm → (∀ q : Nat, q < H.size → ¬ A q → V.heap[q]? = H[q]?) → ∀ w ∈ kt_hw, w.before a V = true
theorem kt_Z.down {A A1 : Nat → Prop} {s U : State} {H0 H : Heap} {locs : List Loc} (h : kt_Z A s H0) (hS : va_S A H0 H locs) (hvm : s.vm.Alike U.vm) (hA : ∀ q, A1 q → A q) : kt_Z A1 U H := fun V a hv hq =>
  h V a (hvm.trans hv) (fun q h1 h2 => (hq q (Nat.lt_of_lt_of_le h1 hS.1) (fun z => h2 (hA q z))).trans (hS.2.1 q h1 h2))
def st2 (w : Cond) : Bool := w.onTables && w.warmB w.codeNames
def kt_tw : List Cond := lw_tbl.filter st2
theorem st2_at {w : Cond} {a a' : Array Value} {s U : State} (hW : s.WarmedH U.vm) (h : st2 w = true) (hb : w.before a s = true) : w.before a' U = true := by
  simp only [st2, Bool.and_eq_true] at h
  exact va_tabs h.1 (rfl : (s.setVm U.vm).vm = U.vm) (Cond.pre_warmed hW h.2 hb)
def kt_sl : List (Nat × String) := [(81, "the constants are not within their bounds"), (100, "there is no such pump"), (124, "there is no such message"), (126, "there is no such unit"), (140, "there were too many cycles"), (174, "nothing of that number is told"), (194, "the state has nothing of that number")]
/-- the further words of a throw, and the texts -/
def kt_W (U : State) : Prop := (∀ w ∈ kt_tw, w.before #[] U = true) ∧ ∀ q ∈ kt_sl, ∃ sa : Nat, vk_R "BoilerDesk" q.1 q.2 sa U
theorem kt_W.warm {s U : State} (hW : s.WarmedH U.vm) (h : kt_W s) : kt_W U := ⟨fun w hw => st2_at hW (List.mem_filter.mp hw).2 (h.1 w hw), fun q hq => by
  obtain ⟨sa, h9⟩ := h.2 q hq
  exact ⟨sa, vk_R.warm hW h9⟩⟩
def kt_B {S : Type} (D : va_G) (tys : List (ClassId × FieldType)) (wf : S → va_W) (w : S) (sz : Nat) (U : State) : Prop := kb_B D tys wf w sz U ∧ kt_W U ∧ kt_Z (va_A (wf w) sz) U U.heap
theorem kt_blind {S : Type} {D : va_G} {tys : List (ClassId × FieldType)} {wf : S → va_W} {w : S} {sz : Nat} {av : List Value} : FrameBlind (va_Pc av (kt_B D tys wf w sz)) := fun a U g mk q => by
  obtain ⟨q0, qB, qW, qZ⟩ := q
  obtain ⟨-, h1⟩ := kb_blind a U g mk (⟨q0, qB⟩ : va_Pc av (kb_B D tys wf w sz) a U)
  exact ⟨q0, h1, kt_W.warm (s := U) (U := U.calling g mk a) (State.WarmedH.refl U) qW, qZ⟩
section TX
variable {p : Program} {l : Launch} {e : Env} {R : Room} {s : State} {m : MethodId} {args : Array Value} {below : List Frame} {meth : Method} {c : Code} {H : Heap} {locs : List Loc} {cells slots : Nat} {Q : State → Prop}
variable {S : Type} {D : va_G} {tys : List (ClassId × FieldType)} {wf : S → va_W} {w u : S} {A : Nat → Prop} {av : List Value} {cc : ByteArray} {pc : Nat} {ls : Array Slot} {rest st0 : List Value} {a : Array Value} {mc ms : Nat} {r : Int32} {E : String} {Qc : Array Value → State → Outcome → State → Prop} {XC : State → State → Prop} {free : Addr → Prop}
theorem tx_ret {g : JFrame} (k : W p l e R s m args below meth c H locs cells slots (MQ below Qc args s mc ms free) g) : W p l e R s m args below meth c H locs cells slots (tx_MQ below Qc E XC args s mc ms free) g := by
  intro T hT X
  obtain ⟨t, a1, o, b1, b2, b3, b4⟩ := k T hT X
  exact ⟨t, a1, o, b1, b2, Or.inl ⟨b3, b4⟩⟩
theorem kt_of {y : MethodName} {rm : Room} {maxL sz : Nat} {ret : Option FieldType} {QcA : (Nat → Prop) → Array Value → State → Outcome → State → Prop} {XA : (Nat → Prop) → State → State → Prop} (hy : plainName y.cls = true) (hlen : (lg_sl av).length ≤ maxL)
    (body : ∀ (p : Program) (e : Env) (s : State) (m : MethodId) (below : List Frame) (meth : Method) (c : Code) (A : Nat → Prop), p.tables.exec = Jvm.exec → c.code = cc → meth.sig.returnType = ret → meth.locks = false → c.maxLocals = maxL → s.vm.findClass y.cls = some m.cls → (∀ w ∈ lw_st, w.before av.toArray s = true) → (∀ q : Nat, s.heap.size ≤ q → A q) → kb_N s → (kt_W s ∧ kt_Z A s s.heap) → (∀ x ∈ c.exceptionTable.toList, False) → va_K D vwCl tys s → va_P D vwCl (wf w) s.heap → va_D A (wf w) → ∀ ls : Array Slot, lv_has ls maxL (lv_args 0 av) → W p l e rm s m av.toArray below meth c s.heap [] 0 0 (tx_MQ below (QcA A) E (XA A) av.toArray s mc ms A) (F0 m 0 ls [])) :
    tx_Met l y [Cond.code y cc maxL ret] rm (va_Pc av (kt_B D tys wf w sz)) (QcA (va_A (wf w) sz)) E (XA (va_A (wf w) sz)) mc ms (va_A (wf w) sz) := by
  refine MetFree.of_bodyS (code := cc) (maxLocals := maxL) (ret := ret) hy ?_ ?_
  · intro args s m h hn
    obtain ⟨meth, c, h1, h2, h3, h4, h5, h6, -, -⟩ := Cond.code_spec hn (atoms_spec (ws := [Cond.code y cc maxL ret]) h _ List.mem_cons_self)
    exact ⟨meth, c, h1, h2, h3, h4, h5, h6⟩
  · intro p e s m args below meth c s₁ B hml hv _
    obtain ⟨rfl, ⟨hsz, hN, hP, hK, hD0⟩, hW, hZ⟩ := hv
    have hown : s.vm.findClass y.cls = some m.cls := findClass_of_methodNamed B.named
    subst hsz
    have hD := hD0.self (sz := s.heap.size)
    have hl := lv_entry av (n := maxL) hlen
    have hh0 : s₁.heap = s.heap := by rw [B.state]; rfl
    have hout : ∀ x ∈ c.exceptionTable.toList, False := by
      have h9 := B.noHandlers (atoms_spec (ws := [Cond.code y cc maxL ret]) B.pre _ List.mem_cons_self)
      intro x hx
      rw [Array.isEmpty_iff.mp h9] at hx
      cases hx
    have K := body p e s m below meth c _ B.exec B.bytes B.returns B.notSynchronized hml hown (hN.ts _) (fun q h => Or.inr h) hN ⟨hW, hZ⟩ hout hK hP hD _ hl
    rw [← lg_entry_eq] at K
    obtain ⟨t, a1, o, b1, b2, b3⟩ := K s₁ hh0 (Stand.of_body B)
    exact ⟨t, o, a1, b1, b2, b3⟩
end TX
