/-! WORLDS IN TWO PARTS: the frame rule for families -/
theorem wp_l {D : va_G} {cl : List vw_C} {a b : va_W} {H : Heap} (h : va_P D cl (a ++ b) H) : va_P D cl a H := fun k q hk => h k q (by rw [List.getElem?_append_left (List.getElem?_eq_some_iff.mp hk).1]; exact hk)
theorem wp_r {D : va_G} {cl : List vw_C} {a b : va_W} {H : Heap} (h : va_P D cl (a ++ b) H) : va_P D cl b H := fun k q hk => h (a.length + k) q (by rw [List.getElem?_append_right (Nat.le_add_right _ _), Nat.add_sub_cancel_left]; exact hk)
theorem wd_l {A : Nat → Prop} {a b : va_W} (h : va_D A (a ++ b)) : va_D A a := ⟨fun i j p q hi hj e => h.1 i j p q (by rw [List.getElem?_append_left (List.getElem?_eq_some_iff.mp hi).1]; exact hi) (by rw [List.getElem?_append_left (List.getElem?_eq_some_iff.mp hj).1]; exact hj) e, fun k q hk => h.2 k q (by rw [List.getElem?_append_left (List.getElem?_eq_some_iff.mp hk).1]; exact hk)⟩
theorem wd_r {A : Nat → Prop} {a b : va_W} (h : va_D A (a ++ b)) : va_D A b := ⟨fun i j p q hi hj e => Nat.add_left_cancel (h.1 (a.length + i) (a.length + j) p q (by rw [List.getElem?_append_right (Nat.le_add_right _ _), Nat.add_sub_cancel_left]; exact hi) (by rw [List.getElem?_append_right (Nat.le_add_right _ _), Nat.add_sub_cancel_left]; exact hj) e), fun k q hk => h.2 (a.length + k) q (by rw [List.getElem?_append_right (Nat.le_add_right _ _), Nat.add_sub_cancel_left]; exact hk)⟩
theorem wd_x {A : Nat → Prop} {a b : va_W} (h : va_D A (a ++ b)) (i j : Nat) (p q : Nat × va_E) (hi : a[i]? = some p) (hj : b[j]? = some q) : p.1 ≠ q.1 := fun e => by
  have hl := (List.getElem?_eq_some_iff.mp hi).1
  have h9 := h.1 i (a.length + j) p q (by rw [List.getElem?_append_left hl]; exact hi) (by rw [List.getElem?_append_right (Nat.le_add_right _ _), Nat.add_sub_cancel_left]; exact hj) e
  omega
theorem wp_sw {D : va_G} {cl : List vw_C} {a b : va_W} {H : Heap} (h : va_P D cl (a ++ b) H) : va_P D cl (b ++ a) H := (wp_r h).app (wp_l h)
theorem wd_sw {A : Nat → Prop} {a b : va_W} (h : va_D A (a ++ b)) : va_D A (b ++ a) := (wd_r h).app (wd_l h) (fun i j p q hi hj e => wd_x h j i q p hj hi e.symm)
section KR
variable {p : Program} {l : Launch} {e : Env} {R : Room} {s : State} {m : MethodId} {args : Array Value} {below : List Frame} {meth : Method} {c : Code} {H : Heap} {locs : List Loc} {cells slots : Nat} {Q : State → Prop}
variable {S : Type} {D : va_G} {tys : List (ClassId × FieldType)} {wf : S → va_W} {w u : S} {A : Nat → Prop} {av : List Value} {cc : ByteArray} {pc : Nat} {ls : Array Slot} {rest st0 : List Value} {a : Array Value} {mc ms : Nat} {r : Int32} {wr : va_W}
/-- behind a callee's end: its cells beside the rest, which is unchanged -/
theorem kb_beside {H1 : Heap} (hP : va_P D vwCl (wr ++ wf w) H) (hD : va_D A (wr ++ wf w)) (hS : va_S A s.heap H locs) (hA : ∀ q : Nat, s.heap.size ≤ q → A q) (hk : ∀ q : Nat, q < H.size → ¬ va_A (wf w) H.size q → H1[q]? = H[q]?) (hP1 : va_P D vwCl (wf u) H1) (hD1 : va_D (va_A (wf w) H.size) (wf u)) : va_P D vwCl (wr ++ wf u) H1 ∧ va_D A (wr ++ wf u) := by
  have hPr := wp_l hP
  have hno : ∀ (k : Nat) (x : Nat × va_E), wr[k]? = some x → ¬ va_A (wf w) H.size x.1 := fun k x hx h => h.elim (fun ⟨j, e9, hj⟩ => wd_x hD k j x (x.1, e9) hx hj rfl) (fun h => absurd ((hPr k x hx).lt) (Nat.not_lt.mpr h))
  refine ⟨(hPr.kept (fun k x hx => hk x.1 ((hPr k x hx).lt) (hno k x hx))).app hP1, (wd_l hD).app (hD1.weaken (fun k q _ h => kb_in (wd_r hD) hS hA q.1 h)) (fun i j x y hx hy e9 => hno i x hx (by rw [e9]; exact hD1.2 j y hy))⟩
theorem kb_callvR (hr : va_Run p l e R s m args below meth c H locs cells slots mc ms (F0 m pc ls st0) rest (va_Qv (fun u' => u' = u) (kb_E D tys wf (va_A (wf w) H.size)) (va_A (wf w) H.size) a) (va_A (wf w) H.size)) (hP : va_P D vwCl (wr ++ wf w) H) (hD : va_D A (wr ++ wf w)) (hS : va_S A s.heap H locs) (hA : ∀ q : Nat, s.heap.size ≤ q → A q)
    (kk : ∀ (H1 : Heap) (locs1 : List Loc), va_P D vwCl (wr ++ wf u) H1 → va_D A (wr ++ wf u) → va_S A s.heap H1 locs1 → W p l e R s m args below meth c H1 locs1 (cells + mc) (slots + ms) Q (F0 m (pc + 3) ls rest)) : W p l e R s m args below meth c H locs cells slots Q (F0 m pc ls st0) := by
  refine va_callv hr hS (fun q _ h => kb_in (wd_r hD) hS hA q h) (kb_in (wd_r hD) hS hA) (fun u' t H1 locs1 ht hvm hw hB hz hk hS1 => ?_)
  obtain rfl := hw
  obtain ⟨hP1, -, hD1⟩ := hB
  obtain ⟨h1, h2⟩ := kb_beside hP hD hS hA hk (by rw [← ht]; exact hP1) hD1
  exact kk H1 locs1 h1 h2 hS1
theorem kb_calliR (hr : va_Run p l e R s m args below meth c H locs cells slots mc ms (F0 m pc ls st0) rest (va_Qi (fun r' u' => r' = r ∧ u' = u) (kb_E D tys wf (va_A (wf w) H.size)) (va_A (wf w) H.size) a) (va_A (wf w) H.size)) (hP : va_P D vwCl (wr ++ wf w) H) (hD : va_D A (wr ++ wf w)) (hS : va_S A s.heap H locs) (hA : ∀ q : Nat, s.heap.size ≤ q → A q)
    (kk : ∀ (H1 : Heap) (locs1 : List Loc), va_P D vwCl (wr ++ wf u) H1 → va_D A (wr ++ wf u) → va_S A s.heap H1 locs1 → W p l e R s m args below meth c H1 locs1 (cells + mc) (slots + ms) Q (F0 m (pc + 3) ls (.int r :: rest))) : W p l e R s m args below meth c H locs cells slots Q (F0 m pc ls st0) := by
  refine va_calli hr hS (fun q _ h => kb_in (wd_r hD) hS hA q h) (kb_in (wd_r hD) hS hA) (fun r' u' t H1 locs1 ht hvm hw hB hz hk hS1 => ?_)
  obtain ⟨rfl, rfl⟩ := hw
  obtain ⟨hP1, -, hD1⟩ := hB
  obtain ⟨h1, h2⟩ := kb_beside hP hD hS hA hk (by rw [← ht]; exact hP1) hD1
  exact kk H1 locs1 h1 h2 hS1
/-- a constructor's start -/
theorem kb_ofI {y : MethodName} {rm : Room} {maxL sz : Nat} {ret : Option FieldType} {QcA : (Nat → Prop) → Array Value → State → Outcome → State → Prop} (hy : plainName y.cls = true) (hlen : (lg_sl av).length ≤ maxL)
    (body : ∀ (p : Program) (e : Env) (s : State) (m : MethodId) (below : List Frame) (meth : Method) (c : Code) (A : Nat → Prop), p.tables.exec = Jvm.exec → c.code = cc → meth.sig.returnType = ret → meth.locks = false → c.maxLocals = maxL → meth.name = y.name → s.vm.findClass y.cls = some m.cls → (∀ w ∈ lw_st, w.before av.toArray s = true) → (∀ q : Nat, s.heap.size ≤ q → A q) → kb_N s → va_K D vwCl tys s → va_P D vwCl (wf w) s.heap → va_D A (wf w) → ∀ ls : Array Slot, lv_has ls maxL (lv_args 0 av) → W p l e rm s m av.toArray below meth c s.heap [] 0 0 (MQ below (QcA A) av.toArray s mc ms A) (F0 m 0 ls [])) :
    Met l y [Cond.code y cc maxL ret] rm (va_Pc av (kb_B D tys wf w sz)) (QcA (va_A (wf w) sz)) mc ms (va_A (wf w) sz) := by
  refine Met.ofW (cc := cc) (maxL := maxL) (ret := ret) hy rfl ?_
  intro p e s m args below meth c s₁ B hml hv
  obtain ⟨rfl, hsz, hN, hP, hK, hD0⟩ := hv
  have hown : s.vm.findClass y.cls = some m.cls := findClass_of_methodNamed B.named
  subst hsz
  have hD := hD0.self (sz := s.heap.size)
  have hl := lv_entry av (n := maxL) hlen
  rw [lg_entry_eq]
  exact body p e s m below meth c _ B.exec B.bytes B.returns B.notSynchronized hml (name_of_methodNamed B.named B.method).1 hown (hN.ts _) (fun q h => Or.inr h) hN hK hP hD _ hl
end KR
def ow (q ci : Nat) (fs : List Value) : va_W := [(q, .inr (ci, fs))]
def w00 : Nat → Int32 := fun _ => 0
