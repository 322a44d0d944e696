/-! THE THROW ITSELF, and a callee that touches no cell ahead of it -/
theorem tx_old {s U : State} {k n : Nat} (h : s.sameButNew ({ U with vm := s.vm } : State) [] k n) : s.heap.size ≤ U.heap.size ∧ ∀ q : Nat, q < s.heap.size → U.heap[q]? = s.heap[q]? := by
  obtain ⟨-, h2, -, -, -, h6⟩ := h
  refine ⟨h2, fun q hq => ?_⟩
  obtain ⟨c9, e1, e2, -, e4⟩ := h6 q _ (Array.getElem?_eq_getElem hq)
  have hs : c9.slots = (s.heap[q]).slots := Array.ext_getElem? fun i => e4 i (fun hm => nomatch hm)
  have h9 : c9 = s.heap[q] := by
    rw [hs] at e2
    exact e2
  have e5 : U.heap[q]? = some c9 := e1
  rw [e5, h9, Array.getElem?_eq_getElem hq]
def kt_up : List String := ["java/lang/RuntimeException", "java/lang/Exception"]
def kt_ok (w : Cond) : Prop := (w ∈ lw_tbl ∧ (stw w = true ∨ st2 w = true)) ∨ w ∈ kt_hw
theorem kt_word {s : State} {A : Nat → Prop} {a : Array Value} {w : Cond} (hN : kb_N s) (hT : kt_W s ∧ kt_Z A s s.heap) (h : kt_ok w) : w.before a s = true := by
  rcases h with ⟨h1, h2 | h2⟩ | h
  · exact hN.ts a w (st_in h1 h2)
  · exact st2_at (State.WarmedH.refl s) h2 (hT.1.1 w (List.mem_filter.mpr ⟨h1, h2⟩))
  · exact hT.2 s a (Vm.Alike.refl s.vm) (fun _ _ _ => rfl) w h
section TT
variable {p : Program} {l : Launch} {e : Env} {R : Room} {s : State} {m : MethodId} {args : Array Value} {below : List Frame} {meth : Method} {c : Code} {H : Heap} {locs : List Loc} {cells slots : Nat} {Q : State → Prop}
variable {S : Type} {D : va_G} {tys : List (ClassId × FieldType)} {wf : S → va_W} {w u : S} {A : Nat → Prop} {av : List Value} {cc : ByteArray} {pc : Nat} {ls : Array Slot} {rest st0 : List Value} {a : Array Value} {mc ms : Nat} {r : Int32} {E : String} {Qc : Array Value → State → Outcome → State → Prop} {XC : State → State → Prop} {free : Addr → Prop}
/-- 'throw new E("..")' ahead of any write -/
theorem kt_throw {cls text : String} {names : List String} {ik is ic : Nat} (hexec : p.tables.exec = Jvm.exec) (hb : c.code = cc) (hl0 : l.stackTraces = false) (hown : s.vm.findClass "BoilerDesk" = some m.cls) (hcls : Bundle.fit cls = true) (hnames : ∀ n ∈ names, Bundle.fit n = true)
    (hk : (Cond.classLink "BoilerDesk" ik cls).before args s = true) (hini : (Cond.initialized cls).before args s = true) (hat : ∀ w ∈ Bundle.ownAtoms "BoilerDesk" ic cls names, w.before args s = true) (hstr : ∃ sa : Nat, vk_R "BoilerDesk" is text sa s)
    (hz : s.heap.size ≤ H.size) (hsize : ls.size = c.maxLocals) (hout : ∀ x ∈ c.exceptionTable.toList, False) (hlocks : meth.locks = false)
    (d0 : decode cc pc = .ok (.new ik, 3)) (d3 : decode cc (pc + 3) = .ok (.dup, 1)) (d4 : decode cc (pc + 4) = .ok (.ldc is, 2)) (d6 : decode cc (pc + 6) = .ok (.invokespecial ic, 3)) (d9 : decode cc (pc + 9) = .ok (.athrow, 1))
    (hRframes : names.length + 3 < R.frames) (hRlocals : 1 + (13 * (names.length + 1) + 42) ≤ R.locals) (hRcells : cells + 1 ≤ R.cells) (hRslots : slots + 6 ≤ R.slots)
    (hx : ∀ t : State, s.vm.Alike t.vm → s.heap.size ≤ t.heap.size → (∀ q : Nat, q < s.heap.size → t.heap[q]? = s.heap[q]?) → XC s t) (hc : cells + 1 ≤ mc) (hs : slots + 6 ≤ ms) :
    W p l e R s m args below meth c H [] cells slots (tx_MQ below Qc cls XC args s mc ms free) (F0 m pc ls []) := by
  intro T hT X
  have htr : e.platform.stackTraces = false := (show e.platform.stackTraces = l.stackTraces by rw [X.admits.platform]).trans hl0
  obtain ⟨sa, hstr1, hstr2⟩ := hstr
  have hins : (Cond.instantiable cls 6).before args s = true := hat _ (by simp [Bundle.ownAtoms])
  obtain ⟨vm₁, cX, kX, hfX, hkX, -, -, X₁, st1⟩ := X.newCold hexec (own := "BoilerDesk") (C := cls) (index := ik) (n := 6) hown hk hins hini (g := F0 m pc ls []) rfl (by rw [hb]; exact d0) hRcells hRslots
  generalize hT1 : (T.setVm vm₁).pushCell { cls := cX, slots := kX.instanceTypes.map defaultValue, vm := .none } = T1 at X₁ st1
  have hcellA : T1.heap[T.heap.size]? = some (freshCell cX kX) := by rw [← hT1]; exact State.heap_pushCell_size _ _
  have d3' : decode c.code (pc + 3) = .ok (.dup, 1) := by rw [hb]; exact d3
  have d4' : decode c.code (pc + 4) = .ok (.ldc is, 2) := by rw [hb]; exact d4
  have hev : (Term.string "BoilerDesk" is).eval args s none [] s = some (.ref sa) := hstr2
  have hco : (Cond.stringRef "BoilerDesk" is text).before args s = true := hstr1
  obtain ⟨U, hsteps, hrun, hend, hW, hsame, ce, hce, hO⟩ := X₁.ctorThrowS hexec htr (own := "BoilerDesk") (cls := cls) (names := names) (ic := ic) hown hcls hnames hat (fun x hx => nomatch hx) hfX hkX hcellA (by rw [hT]; exact hz) (msg := .ref sa) rfl
    (g := { method := m, pc := pc + 6, locals := ls, stack := .ref sa :: .ref T.heap.size :: .ref T.heap.size :: [], locked := none }) rfl hsize rfl rfl (rest := []) rfl
    (by rw [hb]; exact d6) (by rw [hb]; exact d9) (fun x hx => (hout x hx).elim) hRframes (by show 2 * 0 + (1 + 0) + _ ≤ _; omega) hlocks
  obtain ⟨f1, f2⟩ := tx_old hsame
  refine ⟨U, ?_, .threw T.heap.size, hrun, hend, Or.inr ⟨T.heap.size, rfl, hx U hW.alike f1 f2, ce, [], hce, hO.vm, hO.cls, hW, hsame.mono hc hs, fun z hz => nomatch hz⟩⟩
  refine st1 _ ?_
  show Steps p.tables e below (T1.setTop { method := m, pc := pc + 3, locals := ls, stack := .ref T.heap.size :: [], locked := none }) _
  jvm_step X₁.here [X₁.here.top, hexec, d3', Value.category]
  exact X₁.ldcString hexec (own := "BoilerDesk") (text := text) (index := is) (a := sa) hown hco hev
    (g := { method := m, pc := pc + 4, locals := ls, stack := .ref T.heap.size :: .ref T.heap.size :: [], locked := none }) rfl d4' _ hsteps
/-- a callee that touches no cell, called ahead of any write -/
theorem kb_call0f {ws : va_W} (hr : va_Run p l e R s m args below meth c H [] cells slots mc ms (F0 m pc ls st0) rest (va_Qi (fun r' u' => r' = r ∧ u' = ()) (kb_E D [] kb_nil (va_A (kb_nil ()) H.size)) (va_A (kb_nil ()) H.size) a) (va_A (kb_nil ()) H.size)) (hP : va_P D vwCl ws H) (hz : s.heap.size ≤ H.size) (hQ : ∀ q : Nat, q < s.heap.size → H[q]? = s.heap[q]?)
    (kk : ∀ H1 : Heap, va_P D vwCl ws H1 → s.heap.size ≤ H1.size → (∀ q : Nat, q < s.heap.size → H1[q]? = s.heap[q]?) → W p l e R s m args below meth c H1 [] (cells + mc) (slots + ms) Q (F0 m (pc + 3) ls (.int r :: rest))) : W p l e R s m args below meth c H [] cells slots Q (F0 m pc ls st0) := by
  intro T hT X
  obtain ⟨v, st₀, t, T', L, h0, X', hL, e1, e2, ⟨⟨r', u', hv, hp, hB⟩, hF⟩, st⟩ := hr T hT X
  cases hv
  obtain ⟨rfl, -⟩ := hp
  have hno : ∀ q : Nat, va_A (kb_nil ()) H.size q → H.size ≤ q := fun q h => h.elim (fun ⟨k, e9, h⟩ => by simp [kb_nil] at h) id
  obtain ⟨f1, f2⟩ := hF
  rw [h0] at f1 f2
  have hk : ∀ q : Nat, q < H.size → T'.heap[q]? = H[q]? := fun q h => by rw [e1]; exact f2 q h (fun z => absurd (hno q z) (Nat.not_le.mpr h))
  obtain ⟨t2, a1, b1⟩ := kk T'.heap (hP.kept (fun k x hx => hk x.1 ((hP k x hx).lt))) (Nat.le_trans hz (by rw [e1]; exact f1)) (fun q h => (hk q (Nat.lt_of_lt_of_le h hz)).trans (hQ q h)) T' rfl
    (Stand.forget (locs := []) X' (fun q hq => Nat.le_trans hz (hno _ (hL q (by simpa using hq)))))
  exact ⟨t2, st t2 a1, b1⟩
theorem kt_xc {w0 : S} {F : Prop} (he : F) (hP : va_P D vwCl (wf w0) s.heap) (hK : va_K D vwCl tys s) (hD : va_D A (wf w0)) : ∀ t : State, s.vm.Alike t.vm → s.heap.size ≤ t.heap.size → (∀ q : Nat, q < s.heap.size → t.heap[q]? = s.heap[q]?) → tx_X (fun u' => F ∧ u' = w0) (kb_E D tys wf A) A s t :=
  fun t hvm hz hq => ⟨w0, ⟨he, rfl⟩, ⟨hP.kept (fun k x hx => hq x.1 ((hP k x hx).lt)), va_K.moved hvm hK, hD⟩, hz, fun q h _ => hq q h⟩
end TT
theorem kt_iae : ∀ w ∈ Bundle.ownAtoms "BoilerDesk" 83 "java/lang/IllegalArgumentException" kt_up, kt_ok w := by unfold kt_ok; decide +kernel
theorem kt_ise : ∀ w ∈ Bundle.ownAtoms "BoilerDesk" 142 "java/lang/IllegalStateException" kt_up, kt_ok w := by unfold kt_ok; decide +kernel
