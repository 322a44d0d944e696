/-! BASE ROWS: worlds in families, contracts over them, calls, answers -/
def up (f : Nat → Int32) (k : Nat) (x : Int32) : Nat → Int32 := fun j => bif Nat.beq j k then x else f j
def ub (b : Nat → Nat → Int32) (k : Nat) (f : Nat → Int32) : Nat → Nat → Int32 := fun j => bif Nat.beq j k then f else b j
theorem zb_n {x : Int32} (h : x = 0 ∨ x = 1) : narrow .boolean (.int x) = .int x := by rcases h with rfl | rfl <;> rfl
theorem zb_f {x : Int32} (h : x = 0 ∨ x = 1) : fits .boolean (.int x) = true := by rcases h with rfl | rfl <;> rfl
/-- the words of the tables, that every method needs -/
def kb_N (U : State) : Prop := ∀ w ∈ lw_st, w.before #[] U = true
theorem st_at {w : Cond} {a a' : Array Value} {s U : State} (hW : s.WarmedH U.vm) (h : stw w = true) (hb : w.before a s = true) : w.before a' U = true := by
  cases w with
  | methodLinkNest o i y q => exact va_Nw.use rfl (va_Nw.warmM hW (va_Nw.of rfl hb))
  | _ => exact word_at hW (good_of_word h) hb
theorem kb_N.warm {s U : State} (hW : s.WarmedH U.vm) (h : kb_N s) : kb_N U := fun w hw => st_at hW (List.mem_filter.mp hw).2 (h w hw)
theorem kb_N.same {u U : State} (hv : u.vm = U.vm) (h : kb_N u) : kb_N U := h.warm (by rw [← hv]; exact State.WarmedH.refl u)
theorem kb_N.ts {s : State} (h : kb_N s) (a : Array Value) : ∀ w ∈ lw_st, w.before a s = true := fun w hw => st_at (State.WarmedH.refl s) (List.mem_filter.mp hw).2 (h w hw)
theorem kb_N.of {s : State} {a : Array Value} (h : ∀ w ∈ lw_tbl, w.before a s = true) : kb_N s := fun w hw => st_at (State.WarmedH.refl s) (List.mem_filter.mp hw).2 (h w (List.mem_filter.mp hw).1)
theorem gd_1 {y : MethodName} {b : ByteArray} {n : Nat} {r : Option FieldType} (h : Cond.code y b n r ∈ lw_st) : GoodIn lw_st [Cond.code y b n r] := fun w hw => by
  obtain rfl := List.mem_singleton.mp hw
  exact ⟨h, Or.inl rfl⟩
theorem gd_V {own C : String} {i : Nat} {y : MethodName} {b : ByteArray} {n : Nat} {r : Option FieldType} (h1 : Cond.methodLink own i y ∈ lw_st) (h2 : Cond.instanceMethod y ∈ lw_st) (h3 : Cond.selects C y y ∈ lw_st) (h4 : Cond.initialized C ∈ lw_st) (h : Cond.code y b n r ∈ lw_st) : GoodIn lw_st (wsV own i C y [Cond.code y b n r]) := fun w hw => by
  rcases List.mem_append.mp hw with hw | hw
  · simp only [List.mem_cons, List.not_mem_nil, or_false] at hw
    rcases hw with rfl | rfl | rfl | rfl
    · exact ⟨h1, Or.inl rfl⟩
    · exact ⟨h2, Or.inl rfl⟩
    · exact ⟨h3, Or.inl rfl⟩
    · exact ⟨h4, Or.inl rfl⟩
  · exact gd_1 h w hw
theorem gd_S {own : String} {i : Nat} {y : MethodName} {b : ByteArray} {n : Nat} {r : Option FieldType} (h1 : Cond.methodLink own i y ∈ lw_st) (h2 : Cond.static y ∈ lw_st) (h4 : Cond.initialized y.cls ∈ lw_st) (h : Cond.code y b n r ∈ lw_st) : GoodIn lw_st (va_wsS own i y [Cond.code y b n r]) := fun w hw => by
  rcases List.mem_append.mp hw with hw | hw
  · simp only [List.mem_cons, List.not_mem_nil, or_false] at hw
    rcases hw with rfl | rfl | rfl
    · exact ⟨h1, Or.inl rfl⟩
    · exact ⟨h2, Or.inl rfl⟩
    · exact ⟨h4, Or.inl rfl⟩
  · exact gd_1 h w hw
def kb_B {S : Type} (D : va_G) (tys : List (ClassId × FieldType)) (wf : S → va_W) (w : S) (sz : Nat) (U : State) : Prop := U.heap.size = sz ∧ kb_N U ∧ va_P D vwCl (wf w) U.heap ∧ va_K D vwCl tys U ∧ va_D (fun _ => True) (wf w)
def kb_E {S : Type} (D : va_G) (tys : List (ClassId × FieldType)) (wf : S → va_W) (A : Nat → Prop) (u : S) (t : State) : Prop := va_P D vwCl (wf u) t.heap ∧ va_K D vwCl tys t ∧ va_D A (wf u)
theorem kb_blind {S : Type} {D : va_G} {tys : List (ClassId × FieldType)} {wf : S → va_W} {w : S} {sz : Nat} {av : List Value} : FrameBlind (va_Pc av (kb_B D tys wf w sz)) := fun a U g mk q => by
  obtain ⟨q0, q1, qN, qP, qK, qD⟩ := q
  exact ⟨q0, q1, kb_N.same (u := U) (U := U.calling g mk a) rfl qN, qP, va_K.moved (u := U) (U := U.calling g mk a) (Vm.Alike.refl U.vm) qK, qD⟩
section KB
variable {p : Program} {l : Launch} {e : Env} {R : Room} {s : State} {m : MethodId} {args : Array Value} {below : List Frame} {meth : Method} {c : Code} {H : Heap} {locs : List Loc} {cells slots : Nat} {Q : State → Prop}
variable {S : Type} {D : va_G} {tys : List (ClassId × FieldType)} {wf : S → va_W} {w u : S} {A : Nat → Prop} {av : List Value} {cc : ByteArray} {pc : Nat} {ls : Array Slot} {rest st0 : List Value} {a : Array Value} {mc ms : Nat} {r : Int32}
theorem kb_preS (hN : kb_N s) (hK : va_K D vwCl tys s) (hP : va_P D vwCl (wf w) H) (hD : va_D A (wf w)) : PreS s H (va_Pc av (kb_B D tys wf w H.size)) av :=
  ⟨kb_blind, fun U hU hW => ⟨rfl, by rw [hU], hN.warm hW, by rw [hU]; exact hP, va_K.moved hW.alike hK, hD.weaken (fun _ _ _ _ => trivial)⟩⟩
theorem kb_preV {b : Addr} {C : String} (hN : kb_N s) (hK : va_K D vwCl tys s) (hP : va_P D vwCl (wf w) H) (hD : va_D A (wf w)) (hc : ∃ cell : Cell, H[b]? = some cell ∧ cell.vm.isStatics = false ∧ s.vm.findClass C = some cell.cls) : PreV s H C b (va_Pc (.ref b :: av) (kb_B D tys wf w H.size)) av :=
  ⟨kb_blind, hc, fun U hU hW => ⟨rfl, by rw [hU], hN.warm hW, by rw [hU]; exact hP, va_K.moved hW.alike hK, hD.weaken (fun _ _ _ _ => trivial)⟩⟩
def kb_nil : Unit → va_W := fun _ => []
theorem kb_pre0 (hN : kb_N s) (hK : va_K D vwCl tys s) : PreS s H (va_Pc av (kb_B D [] kb_nil () H.size)) av :=
  ⟨kb_blind, fun U hU hW => ⟨rfl, by rw [hU], hN.warm hW, fun k q h => by simp [kb_nil] at h, va_K.moved hW.alike (hK.sub [] rfl), ⟨fun i j p q h => by simp [kb_nil] at h, fun k q h => by simp [kb_nil] at h⟩⟩⟩
theorem kb_of {y : MethodName} {rm : Room} {maxL sz : Nat} {ret : Option FieldType} {QcA : (Nat → Prop) → Array Value → State → Outcome → State → Prop} (hy : plainName y.cls = true) (hlen : (lg_sl av).length ≤ maxL)
    (body : ∀ (p : Program) (e : Env) (s : State) (m : MethodId) (below : List Frame) (meth : Method) (c : Code) (A : Nat → Prop), p.tables.exec = Jvm.exec → c.code = cc → meth.sig.returnType = ret → meth.locks = false → c.maxLocals = maxL → s.vm.findClass y.cls = some m.cls → (∀ w ∈ lw_st, w.before av.toArray s = true) → (∀ q : Nat, s.heap.size ≤ q → A q) → kb_N s → va_K D vwCl tys s → va_P D vwCl (wf w) s.heap → va_D A (wf w) → ∀ ls : Array Slot, lv_has ls maxL (lv_args 0 av) → W p l e rm s m av.toArray below meth c s.heap [] 0 0 (MQ below (QcA A) av.toArray s mc ms A) (F0 m 0 ls [])) :
    Met l y [Cond.code y cc maxL ret] rm (va_Pc av (kb_B D tys wf w sz)) (QcA (va_A (wf w) sz)) mc ms (va_A (wf w) sz) := by
  refine Met.ofW (cc := cc) (maxL := maxL) (ret := ret) hy rfl ?_
  intro p e s m args below meth c s₁ B hml hv
  obtain ⟨rfl, hsz, hN, hP, hK, hD0⟩ := hv
  have hown : s.vm.findClass y.cls = some m.cls := findClass_of_methodNamed B.named
  subst hsz
  have hD := hD0.self (sz := s.heap.size)
  have hl := lv_entry av (n := maxL) hlen
  rw [lg_entry_eq]
  exact body p e s m below meth c _ B.exec B.bytes B.returns B.notSynchronized hml hown (hN.ts _) (fun q h => Or.inr h) hN hK hP hD _ hl
theorem kb_iret {post : Int32 → S → Prop} (hx : p.tables.exec = Jvm.exec) (hb : c.code = cc) (hr : meth.sig.returnType = some .int) (hlocks : meth.locks = false) (hK : va_K D vwCl tys s) (hP : va_P D vwCl (wf u) H) (hD : va_D A (wf u)) (hS : va_S A s.heap H locs) (hp : post r u) (hdg : decode cc pc = .ok (.ireturn, 1)) :
    W p l e R s m args below meth c H locs cells slots (MQ below (va_Qi post (kb_E D tys wf A) A) args s cells slots A) (F0 m pc ls [.int r]) :=
  W.iret (v := r) hx hb hr (fun t ht hW => ⟨⟨r, u, rfl, hp, by rw [ht]; exact hP, va_K.moved hW.alike hK, hD⟩, hS.F ht⟩) hS.2.2 hdg hlocks
theorem kb_zret {post : Int32 → S → Prop} (hx : p.tables.exec = Jvm.exec) (hb : c.code = cc) (hr : meth.sig.returnType = some .boolean) (hlocks : meth.locks = false) (hn : narrow .boolean (.int r) = .int r) (hK : va_K D vwCl tys s) (hP : va_P D vwCl (wf u) H) (hD : va_D A (wf u)) (hS : va_S A s.heap H locs) (hp : post r u) (hdg : decode cc pc = .ok (.ireturn, 1)) :
    W p l e R s m args below meth c H locs cells slots (MQ below (va_Qi post (kb_E D tys wf A) A) args s cells slots A) (F0 m pc ls [.int r]) :=
  W.zret (v := r) hx hb hr hn (fun t ht hW => ⟨⟨r, u, rfl, hp, by rw [ht]; exact hP, va_K.moved hW.alike hK, hD⟩, hS.F ht⟩) hS.2.2 hdg hlocks
theorem kb_vret {post : S → Prop} (hx : p.tables.exec = Jvm.exec) (hb : c.code = cc) (hr : meth.sig.returnType = none) (hlocks : meth.locks = false) (hK : va_K D vwCl tys s) (hP : va_P D vwCl (wf u) H) (hD : va_D A (wf u)) (hS : va_S A s.heap H locs) (hp : post u) (hdg : decode cc pc = .ok (.return_, 1)) :
    W p l e R s m args below meth c H locs cells slots (MQ below (va_Qv post (kb_E D tys wf A) A) args s cells slots A) (F0 m pc ls []) :=
  W.vret hx hb hr (fun t ht hW => ⟨⟨u, rfl, hp, by rw [ht]; exact hP, va_K.moved hW.alike hK, hD⟩, hS.F ht⟩) hS.2.2 hdg hlocks
theorem kb_in (hD : va_D A (wf w)) (hS : va_S A s.heap H locs) (hA : ∀ q : Nat, s.heap.size ≤ q → A q) : ∀ q, va_A (wf w) H.size q → A q := fun q h => h.elim (fun ⟨k, e9, h⟩ => hD.2 k (q, e9) h) (fun h => hA q (Nat.le_trans hS.1 h))
theorem kb_calli (hr : va_Run p l e R s m args below meth c H locs cells slots mc ms (F0 m pc ls st0) rest (va_Qi (fun r' u' => r' = r ∧ u' = u) (kb_E D tys wf (va_A (wf w) H.size)) (va_A (wf w) H.size) a) (va_A (wf w) H.size)) (hP : va_P D vwCl (wf w) H) (hD : va_D A (wf w)) (hS : va_S A s.heap H locs) (hA : ∀ q : Nat, s.heap.size ≤ q → A q)
    (kk : ∀ (H1 : Heap) (locs1 : List Loc), va_P D vwCl (wf u) H1 → va_D A (wf u) → va_S A s.heap H1 locs1 → W p l e R s m args below meth c H1 locs1 (cells + mc) (slots + ms) Q (F0 m (pc + 3) ls (.int r :: rest))) : W p l e R s m args below meth c H locs cells slots Q (F0 m pc ls st0) := by
  refine va_calli hr hS (fun q _ h => kb_in hD hS hA q h) (kb_in hD hS hA) (fun r' u' t H1 locs1 ht hvm hw hB hz hk hS1 => ?_)
  obtain ⟨rfl, rfl⟩ := hw
  obtain ⟨hP1, -, hD1⟩ := hB
  exact kk H1 locs1 (by rw [← ht]; exact hP1) (hD1.weaken (fun k q _ h => kb_in hD hS hA q.1 h)) hS1
theorem kb_callv (hr : va_Run p l e R s m args below meth c H locs cells slots mc ms (F0 m pc ls st0) rest (va_Qv (fun u' => u' = u) (kb_E D tys wf (va_A (wf w) H.size)) (va_A (wf w) H.size) a) (va_A (wf w) H.size)) (hP : va_P D vwCl (wf w) H) (hD : va_D A (wf w)) (hS : va_S A s.heap H locs) (hA : ∀ q : Nat, s.heap.size ≤ q → A q)
    (kk : ∀ (H1 : Heap) (locs1 : List Loc), va_P D vwCl (wf u) H1 → va_D A (wf u) → va_S A s.heap H1 locs1 → W p l e R s m args below meth c H1 locs1 (cells + mc) (slots + ms) Q (F0 m (pc + 3) ls rest)) : W p l e R s m args below meth c H locs cells slots Q (F0 m pc ls st0) := by
  refine va_callv hr hS (fun q _ h => kb_in hD hS hA q h) (kb_in hD hS hA) (fun u' t H1 locs1 ht hvm hw hB hz hk hS1 => ?_)
  obtain rfl := hw
  obtain ⟨hP1, -, hD1⟩ := hB
  exact kk H1 locs1 (by rw [← ht]; exact hP1) (hD1.weaken (fun k q _ h => kb_in hD hS hA q.1 h)) hS1
/-- a callee that touches no cell -/
theorem kb_call0 {ws : va_W} (hr : va_Run p l e R s m args below meth c H locs cells slots mc ms (F0 m pc ls st0) rest (va_Qi (fun r' u' => r' = r ∧ u' = ()) (kb_E D [] kb_nil (va_A (kb_nil ()) H.size)) (va_A (kb_nil ()) H.size) a) (va_A (kb_nil ()) H.size)) (hP : va_P D vwCl ws H) (hS : va_S A s.heap H locs) (hA : ∀ q : Nat, s.heap.size ≤ q → A q)
    (kk : ∀ (H1 : Heap) (locs1 : List Loc), va_P D vwCl ws H1 → va_S A s.heap H1 locs1 → W p l e R s m args below meth c H1 locs1 (cells + mc) (slots + ms) Q (F0 m (pc + 3) ls (.int r :: rest))) : W p l e R s m args below meth c H locs cells slots Q (F0 m pc ls st0) := by
  have h0 : ∀ q, va_A (kb_nil ()) H.size q → A q := fun q h => h.elim (fun ⟨k, e9, h⟩ => by simp [kb_nil] at h) (fun h => hA q (Nat.le_trans hS.1 h))
  refine va_calli hr hS (fun q _ h => h0 q h) h0 (fun r' u' t H1 locs1 ht hvm hw hB hz hk hS1 => ?_)
  obtain ⟨rfl, -⟩ := hw
  refine kk H1 locs1 (hP.kept (fun k x hx => hk x.1 ((hP k x hx).lt) (fun h => h.elim (fun ⟨k, e9, h⟩ => by simp [kb_nil] at h) (fun h => absurd ((hP k x hx).lt) (Nat.not_lt.mpr h))))) hS1
end KB
section KP
variable {p : Program} {l : Launch} {e : Env} {R : Room} {s : State} {m : MethodId} {args : Array Value} {below : List Frame} {meth : Method} {c : Code} {H : Heap} {locs : List Loc} {cells slots : Nat} {Q : State → Prop}
variable {S : Type} {D : va_G} {tys : List (ClassId × FieldType)} {wf : S → va_W} {w w' : S} {A : Nat → Prop} {cc : ByteArray} {pc : Nat} {ls : Array Slot} {rest : List Value} {a : Nat} {H0 : Heap}
theorem kb_put (hexec : p.tables.exec = Jvm.exec) (hb : c.code = cc) {own ref C : String} {T : u_T} {N ci index : Nat} {Ts : List Cond} (hts : ∀ w ∈ Ts, w.before args s = true) (hin : ∀ w ∈ u_ws C T N, w ∈ Ts) (ty0 : Nat → FieldType) (hty : ∀ k, k < N → parseFieldDescriptor (T k).2.2.1 = some (ty0 k)) (hnm : ∀ a, a < N → ∀ b, b < N → a ≠ b → (T a).2.1 ≠ (T b).2.1) (hown : s.vm.findClass own = some m.cls) (hK : va_K D vwCl tys s) (hP : va_P D vwCl (wf w) H) (hD : va_D A (wf w)) (hS0 : va_S A H0 H locs) (q0 : Nat) {fs : List Value} (he : (wf w)[q0]? = some (a, .inr (ci, fs))) (hc : vwCl[ci]? = some (C, T, N)) (k : Nat) (hk : k < N) (hlink : (Cond.fieldLink own index ref (T k).2.1 (T k).2.2.1).before args s = true) (hsame : ∀ x, s.fieldFound? (T k).1 (T k).2.1 (T k).2.2.1 = some x → s.fieldFound? ref (T k).2.1 (T k).2.2.1 = some x) (hfin : (T k).2.2.2 = false) {ty : FieldType} {v : Value} (hd : parseFieldDescriptor (T k).2.2.1 = some ty) (hn : narrow ty v = v) (hfit : fits ty v = true) (hl : k < fs.length)
    (hdg : decode cc pc = .ok (.putfield index, 3)) (hset : (wf w).set q0 (a, .inr (ci, fs.set k v)) = wf w') (kk : ∀ (H1 : Heap) (locs1 : List Loc), va_P D vwCl (wf w') H1 → va_D A (wf w') → va_S A H0 H1 locs1 → W p l e R s m args below meth c H1 locs1 cells slots Q (F0 m (pc + 3) ls rest)) : W p l e R s m args below meth c H locs cells slots Q (F0 m pc ls (v :: .ref a :: rest)) :=
  va_put hexec hb hts hin ty0 hty hnm hown hK hP hD hS0 q0 he hc k hk hlink hsame hfin hd hn hfit hl hdg (fun H1 locs1 hP1 hD1 hS1 => kk H1 locs1 (hset ▸ hP1) (hset ▸ hD1) hS1)
theorem kb_zast (hexec : p.tables.exec = Jvm.exec) (hb : c.code = cc) (hK : va_K D vwCl tys s) (hP : va_P D vwCl (wf w) H) (hD : va_D A (wf w)) (hS : va_S A H0 H locs) (q0 t0 : Nat) {cA : ClassId} {n : Nat} {f : Nat → Int32} (ha : (wf w)[q0]? = some (a, .inl (cA, n, .inl f))) (ht : tys[t0]? = some (cA, .boolean)) {i : Int32} {x : Int32} (hin : vp_in i n) (hdg : decode cc pc = .ok (.bastore, 1))
    (hset : (wf w).set q0 (a, .inl (cA, n, .inl (upd f i.toNatClampNeg (vp_nar .boolean x)))) = wf w') (kk : ∀ (H1 : Heap) (locs1 : List Loc), va_P D vwCl (wf w') H1 → va_D A (wf w') → va_S A H0 H1 locs1 → W p l e R s m args below meth c H1 locs1 cells slots Q (F0 m (pc + 1) ls rest)) : W p l e R s m args below meth c H locs cells slots Q (F0 m pc ls (.int x :: .int i :: .ref a :: rest)) :=
  va_zast hexec hb hK hP hD hS q0 t0 ha ht hin hdg (fun H1 locs1 hP1 hD1 hS1 => kk H1 locs1 (hset ▸ hP1) (hset ▸ hD1) hS1)
end KP
/-- the class' cells: the desk and what it holds; their numbers by place:
0: BoilerDesk.mode (I)
1: BoilerDesk.cycles (I)
2: BoilerDesk.stopsInARow (I)
3: BoilerDesk.hasWaited (Z)
4: BoilerDesk$Plant.capacity (I)
5: BoilerDesk$Plant.lowLimit (I)
6: BoilerDesk$Plant.normalFrom (I)
7: BoilerDesk$Plant.normalTo (I)
8: BoilerDesk$Plant.highLimit (I)
9: BoilerDesk$Plant.mostSteam (I)
10: BoilerDesk$Plant.steamRise (I)
11: BoilerDesk$Plant.steamFall (I)
12: BoilerDesk$Plant.pumpRate (I)
13: BoilerDesk$Inbox.hasLevel (Z)
14: BoilerDesk$Inbox.level (I)
15: BoilerDesk$Inbox.hasSteam (Z)
16: BoilerDesk$Inbox.steam (I)
17: BoilerDesk$Inbox.pumpsHeard (I)
18: BoilerDesk$Inbox.pumpsSaidOn (I)
19: BoilerDesk$Inbox.pumpsSaidGiving (I)
20: BoilerDesk$Inbox.waiting (Z)
21: BoilerDesk$Inbox.ready (Z)
22: BoilerDesk$Inbox.stop (Z)
23: BoilerDesk$Inbox.repairs (I)
24: BoilerDesk$Inbox.acknowledgements (I)
25: BoilerDesk$Units.failed (I)
26: BoilerDesk$Units.acknowledged (I)
27: BoilerDesk$Machines.pumpsOn (I)
28: BoilerDesk$Machines.pumpsOnBefore (I)
29: BoilerDesk$Machines.pumpsSaidGivingBefore (I)
30: BoilerDesk$Machines.valveOpen (Z)
31: BoilerDesk$Report.pumpsTurnedOn (I)
32: BoilerDesk$Report.pumpsShut (I)
33: BoilerDesk$Report.valveOpened (Z)
34: BoilerDesk$Report.valveShut (Z)
35: BoilerDesk$Report.detected (I)
36: BoilerDesk$Report.repaired (I)
37: BoilerDesk$Report.programReady (Z)
38: BoilerDesk$Span.from (I)
39: BoilerDesk$Span.to (I)
40: BoilerDesk$Span.from (I)
41: BoilerDesk$Span.to (I)
42: BoilerDesk$Span.from (I)
43: BoilerDesk$Span.to (I)
44: BoilerDesk$Span.from (I)
45: BoilerDesk$Span.to (I) -/
def cw (h : Nat → Nat) (w : Nat → Int32) : va_W :=
  [(h 0, .inr (0, [.ref (h 1), .ref (h 2), .ref (h 3), .ref (h 4), .ref (h 5), .ref (h 6), .ref (h 7), .ref (h 8), .ref (h 9), .int (w 0), .int (w 1), .int (w 2), .int (w 3)])),
   (h 1, .inr (3, [.int (w 4), .int (w 5), .int (w 6), .int (w 7), .int (w 8), .int (w 9), .int (w 10), .int (w 11), .int (w 12)])),
   (h 2, .inr (1, [.int (w 13), .int (w 14), .int (w 15), .int (w 16), .int (w 17), .int (w 18), .int (w 19), .int (w 20), .int (w 21), .int (w 22), .int (w 23), .int (w 24)])),
   (h 3, .inr (6, [.int (w 25), .int (w 26)])),
   (h 4, .inr (2, [.int (w 27), .int (w 28), .int (w 29), .int (w 30)])),
   (h 5, .inr (4, [.int (w 31), .int (w 32), .int (w 33), .int (w 34), .int (w 35), .int (w 36), .int (w 37)])),
   (h 6, .inr (5, [.int (w 38), .int (w 39)])),
   (h 7, .inr (5, [.int (w 40), .int (w 41)])),
   (h 8, .inr (5, [.int (w 42), .int (w 43)])),
   (h 9, .inr (5, [.int (w 44), .int (w 45)]))]
/-- the reference's cells; its numbers by place:
0: err (I)
1: c (I)
2: m1 (I)
3: n1 (I)
4: n2 (I)
5: m2 (I)
6: most (I)
7: up (I)
8: down (I)
9: gives (I)
10: mode (I)
11: cycles (I)
12: low (I)
13: high (I)
14: least (I)
15: greatest (I)
16: stops (I)
17: detected (I)
18: repaired (I)
19: pumpsTold (I)
20: valveTold (I)
21: readyTold (I)
22: valve (Z)
23: waited (Z)
24: level (I)
25: steam (I)
26: isLevel (Z)
27: isSteam (Z)
28: waiting (Z)
29: ready (Z)
30: stop (Z)
its rows: 0: failed (10), 1: known (10), 2: wasFailed (10), 3: on (4), 4: before (4), 5: gave (4), 6: isPump (4), 7: saysOn (4), 8: saysGives (4), 9: repair (10), 10: knows (10), 11: now (4) -/
def mw (h : Nat → Nat) (cZ : ClassId) (q : (Nat → Int32) × (Nat → Nat → Int32)) : va_W :=
  [(h 0, .inr (7, [.int (q.1 0), .int (q.1 1), .int (q.1 2), .int (q.1 3), .int (q.1 4), .int (q.1 5), .int (q.1 6), .int (q.1 7), .int (q.1 8), .int (q.1 9), .int (q.1 10), .int (q.1 11), .int (q.1 12), .int (q.1 13), .int (q.1 14), .int (q.1 15), .int (q.1 16), .int (q.1 17), .int (q.1 18), .int (q.1 19), .int (q.1 20), .int (q.1 21), .int (q.1 22), .int (q.1 23), .ref (h 1), .ref (h 2), .ref (h 3), .ref (h 4), .ref (h 5), .ref (h 6), .int (q.1 24), .int (q.1 25), .int (q.1 26), .int (q.1 27), .int (q.1 28), .int (q.1 29), .int (q.1 30), .ref (h 7), .ref (h 8), .ref (h 9), .ref (h 10), .ref (h 11), .ref (h 12)])),
   (h 1, .inl (cZ, 10, .inl (q.2 0))),
   (h 2, .inl (cZ, 10, .inl (q.2 1))),
   (h 3, .inl (cZ, 10, .inl (q.2 2))),
   (h 4, .inl (cZ, 4, .inl (q.2 3))),
   (h 5, .inl (cZ, 4, .inl (q.2 4))),
   (h 6, .inl (cZ, 4, .inl (q.2 5))),
   (h 7, .inl (cZ, 4, .inl (q.2 6))),
   (h 8, .inl (cZ, 4, .inl (q.2 7))),
   (h 9, .inl (cZ, 4, .inl (q.2 8))),
   (h 10, .inl (cZ, 10, .inl (q.2 9))),
   (h 11, .inl (cZ, 10, .inl (q.2 10))),
   (h 12, .inl (cZ, 4, .inl (q.2 11)))]
