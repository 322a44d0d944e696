theorem kb_beside2 {D : va_G} {s : State} {A : Nat → Prop} {H H1 : Heap} {locs : List Loc} {wr wc w1 : va_W} (hP : va_P D vwCl (wr ++ wc) H) (hD : va_D A (wr ++ wc)) (hF : ∀ q, va_A wc H.size q → A q) (hk : ∀ q : Nat, q < H.size → ¬ va_A wc H.size q → H1[q]? = H[q]?) (hP1 : va_P D vwCl w1 H1) (hD1 : va_D (va_A wc H.size) w1) : va_P D vwCl (wr ++ w1) H1 ∧ va_D A (wr ++ w1) := by
  have hPr := wp_l hP
  have hno : ∀ (k : Nat) (x : Nat × va_E), wr[k]? = some x → ¬ va_A wc H.size x.1 := fun k x hx h => h.elim (fun ⟨j, e9, hj⟩ => wd_x hD k j x (x.1, e9) hx hj rfl) (fun h => absurd ((hPr k x hx).lt) (Nat.not_lt.mpr h))
  exact ⟨(hPr.kept (fun k x hx => hk x.1 ((hPr k x hx).lt) (hno k x hx))).app hP1, (wd_l hD).app (hD1.weaken (fun k q _ h => hF q.1 h)) (fun i j x y hx hy e9 => hno i x hx (by rw [e9]; exact hD1.2 j y hy))⟩
theorem z_isRef {C n d : String} {v : Value} {A : Nat → Prop} {V : State} {a : Array Value} (h : va_Z C n d v A V V.heap) (hv : v.isRef = true) : (Cond.isRef (.static C n d)).before a V = true := by
  obtain ⟨cf, kf, fi, f, ad, cell, h1, h2, h3, h4, h5, h6, h7, -⟩ := h
  have he : (Term.static C n d).eval a V none [] V = some v := by
    simp [Term.eval, State.fieldNamed?, h1, h2, h4, h5, h6, h7]
  simp only [Cond.before, Cond.holds, Cond.value, he]
  cases v <;> simp_all [Value.isRef]
theorem z_lays {C n d : String} {s V : State} {a a' : Array Value} (hl : (Cond.laysStatic C n d).before a s = true) (hvm : s.vm.Alike V.vm) (hq : ∀ q : Nat, q < s.heap.size → V.heap[q]? = s.heap[q]?) : (Cond.laysStatic C n d).before a' V = true := by
  obtain ⟨c, k, i, f, ad, cell, h1, h2, h3, h4, h5, h6, h7, h8, h9⟩ := Cond.laysStatic_spec hl
  obtain ⟨k', hi', he⟩ := State.fieldFound?_setVm hvm h2
  show (Cond.laysStatic C n d).holds a' V none V [] = true
  exact Cond.laysStatic_of (by rw [hvm.findClass]; exact h1) hi' h3 (by rw [he]; exact h4) (by rw [hq ad (Array.getElem?_eq_some_iff.mp h5).1]; exact h5) h6 h7 h8 (by rw [he]; exact h9)
theorem z_ref {C n d : String} {s V : State} {a a' : Array Value} (hl : (Cond.laysStatic C n d).before a s = true) (hini : (Cond.initialized C).before a s = true) (h : (Cond.isRef (.static C n d)).before a s = true) (hvm : s.vm.Alike V.vm) (hq : ∀ q : Nat, q < s.heap.size → V.heap[q]? = s.heap[q]?) : (Cond.isRef (.static C n d)).before a' V = true := by
  have h1 : va_Zq C n d (fun q : Nat => s.heap.size ≤ q) s s.heap := va_Zqof hl hini h (fun q h1 h2 => absurd h1 (Nat.not_lt.mpr h2))
  have h2 := (va_Zq.moved hvm h1).kept (H1 := V.heap) (fun q h1 _ => hq q h1)
  rcases h2 with h2 | ⟨t, h2⟩
  · exact z_isRef h2 rfl
  · exact z_isRef h2 rfl
set_option maxRecDepth 100000 in
theorem z_strings {s : State} {a : Array Value} {cD : ClassId} (hD : s.vm.findClass "BoilerDesk" = some cD) (hts : ∀ w ∈ lw_tbl, w.before a s = true) : ∀ q ∈ kt_sl, ∃ sa : Nat, vk_R "BoilerDesk" q.1 q.2 sa s := by
  have key : ∀ (i : Nat) (tx : String), (Cond.stringRef "BoilerDesk" i tx).before a s = true → ∃ sa : Nat, vk_R "BoilerDesk" i tx sa s := fun i tx h => by
    obtain ⟨k, cf, j, a', -, -, -, -, -, hev⟩ := Cond.stringRef_spec hD h
    exact ⟨a', vk_R.of h hev⟩
  intro q hq
  simp only [kt_sl, List.mem_cons, List.not_mem_nil, or_false] at hq
  rcases hq with rfl | rfl | rfl | rfl | rfl | rfl | rfl
  · exact key _ _ (hts _ (List.mem_append_right _ (List.mem_append_right _ (List.mem_append_left _ (List.mem_of_getElem? (i := 107) rfl)))))
  · exact key _ _ (hts _ (List.mem_append_right _ (List.mem_append_right _ (List.mem_append_left _ (List.mem_of_getElem? (i := 141) rfl)))))
  · exact key _ _ (hts _ (List.mem_append_right _ (List.mem_append_right _ (List.mem_append_left _ (List.mem_of_getElem? (i := 152) rfl)))))
  · exact key _ _ (hts _ (List.mem_append_right _ (List.mem_append_right _ (List.mem_append_left _ (List.mem_of_getElem? (i := 160) rfl)))))
  · exact key _ _ (hts _ (List.mem_append_right _ (List.mem_append_right _ (List.mem_append_left _ (List.mem_of_getElem? (i := 178) rfl)))))
  · exact key _ _ (hts _ (List.mem_append_right _ (List.mem_append_right _ (List.mem_append_right _ (List.mem_append_left _ (List.mem_of_getElem? (i := 104) rfl))))))
  · exact key _ _ (hts _ (List.mem_append_right _ (List.mem_append_right _ (List.mem_append_right _ (List.mem_append_left _ (List.mem_of_getElem? (i := 112) rfl))))))
set_option maxRecDepth 100000 in
theorem z_heap {s : State} {a : Array Value} (hts : ∀ w ∈ lw_tbl, w.before a s = true) (h1 : (Cond.isRef (.static Bundle.tN "UNASSIGNED_STACK" Bundle.steD)).before a s = true) (h2 : (Cond.isRef (.static Bundle.tN "SUPPRESSED_SENTINEL" Bundle.listD)).before a s = true) : kt_Z (fun q : Nat => s.heap.size ≤ q) s s.heap := by
  intro V a' hvm hq w hw
  have hq' : ∀ q : Nat, q < s.heap.size → V.heap[q]? = s.heap[q]? := fun q h => hq q h (Nat.not_le.mpr h)
  have l1 : (Cond.laysStatic Bundle.tN "UNASSIGNED_STACK" Bundle.steD).before a s = true := hts _ (List.mem_append_right _ (List.mem_append_right _ (List.mem_append_left _ (List.mem_of_getElem? (i := 94) rfl))))
  have l2 : (Cond.laysStatic Bundle.tN "SUPPRESSED_SENTINEL" Bundle.listD).before a s = true := hts _ (List.mem_append_right _ (List.mem_append_right _ (List.mem_append_left _ (List.mem_of_getElem? (i := 96) rfl))))
  have li : (Cond.initialized Bundle.tN).before a s = true := hts _ (List.mem_append_right _ (List.mem_append_left _ (List.mem_of_getElem? (i := 9) rfl)))
  simp only [kt_hw, List.mem_cons, List.not_mem_nil, or_false] at hw
  rcases hw with rfl | rfl | rfl | rfl
  · exact z_ref l1 li h1 hvm hq'
  · exact z_ref l2 li h2 hvm hq'
  · exact z_lays l1 hvm hq'
  · exact z_lays l2 hvm hq'
set_option maxHeartbeats 4000000 in
set_option maxRecDepth 100000 in
theorem whole_start {p : Program} {e : Env} {s : State} {m : MethodId} {below : List Frame} {meth : Method} {c : Code} (l : Launch) (hl0 : l.stackTraces = false) {b L : Nat} {xs : Nat → Int32} (hL : L ≤ 5120) (C0 : lw_At p s m meth c b L xs) : W p l e room_1 s m #[Value.ref b] below meth c s.heap [] 0 0 (lw_Z below #[Value.ref b] s) (entryFrame m ([Value.ref b] : List Value).toArray 7) := by
  obtain ⟨hx, hb, hr, hml, hown, hts0, hX, hbl, hlocks, hgv⟩ := id C0
  have hN : kb_N s := kb_N.of hts0
  have hts := hN.ts #[Value.ref b]
  have hown : s.vm.findClass "BoilerDeskLaw" = some m.cls := hown
  have hA : ∀ q : Nat, s.heap.size ≤ q → (fun q : Nat => s.heap.size ≤ q) q := fun _ h => h
  have hbA : ¬ (fun q : Nat => s.heap.size ≤ q) b := Nat.not_le.mpr hbl
  obtain ⟨c0, iS0, hKn0⟩ := u_known (C := "BoilerDesk") (T := TD) (N := 13) (n := 13) hts inD (hts _ q_49)
  obtain ⟨c1, iS1, hKn1⟩ := u_known (C := "BoilerDesk$Inbox") (T := TI) (N := 12) (n := 12) hts inI (hts _ q_99)
  obtain ⟨c2, iS2, hKn2⟩ := u_known (C := "BoilerDesk$Machines") (T := TM) (N := 4) (n := 4) hts inM (hts _ q_169)
  obtain ⟨c3, iS3, hKn3⟩ := u_known (C := "BoilerDesk$Plant") (T := TP) (N := 9) (n := 9) hts inP (hts _ q_57)
  obtain ⟨c4, iS4, hKn4⟩ := u_known (C := "BoilerDesk$Report") (T := TR) (N := 7) (n := 7) hts inR (hts _ q_191)
  obtain ⟨c5, iS5, hKn5⟩ := u_known (C := "BoilerDesk$Span") (T := TS) (N := 2) (n := 2) hts inS (hts _ q_226)
  obtain ⟨c6, iS6, hKn6⟩ := u_known (C := "BoilerDesk$Units") (T := TU) (N := 2) (n := 2) hts inU (hts _ q_154)
  obtain ⟨c7, iS7, hKn7⟩ := u_known (C := "BoilerDeskModel") (T := TX) (N := 43) (n := 43) hts inX (hts _ q_626)
  obtain ⟨D, hKc⟩ : ∃ D : va_G, ∀ (k : Nat) (q : vw_C), vwCl[k]? = some q → u_Kn s q.1 q.2.1 q.2.2 (D.1 k) (D.2 k) := by
    refine ⟨(fun k => [c0, c1, c2, c3, c4, c5, c6, c7].getD k 0, fun k => [iS0, iS1, iS2, iS3, iS4, iS5, iS6, iS7].getD k (fun _ => 0)), ?_⟩
    intro k q hq
    match k, hq with
    | 0, hq => cases hq; exact hKn0
    | 1, hq => cases hq; exact hKn1
    | 2, hq => cases hq; exact hKn2
    | 3, hq => cases hq; exact hKn3
    | 4, hq => cases hq; exact hKn4
    | 5, hq => cases hq; exact hKn5
    | 6, hq => cases hq; exact hKn6
    | 7, hq => cases hq; exact hKn7
    | k + 8, hq => simp [vwCl] at hq
  have hs := flat_of_before _ hgv
  have hZ : kt_Z (fun q : Nat => s.heap.size ≤ q) s s.heap := z_heap hts0 (hs _ (by decide +kernel)) (hs _ (by decide +kernel))
  have hT : kt_W s ∧ kt_Z (fun q : Nat => s.heap.size ≤ q) s s.heap := ⟨⟨fun w hw => st2_at (State.WarmedH.refl s) (List.mem_filter.mp hw).2 (hts0 w (List.mem_filter.mp hw).1), z_strings hKn0.2.1 hts0⟩, hZ⟩
  clear hgv hs hZ hKn0 hKn1 hKn2 hKn3 hKn4 hKn5 hKn6 hKn7
  have hS : va_S (fun q : Nat => s.heap.size ≤ q) s.heap s.heap [] := va_S.rf
  have hK : va_K D vwCl [] s := ⟨hKc, fun k q h => by simp at h⟩
  have hP : va_P D vwCl [] s.heap := fun k q h => by simp at h
  have hD : va_D (fun q : Nat => s.heap.size ≤ q) [] := ⟨fun i j p q h => by simp at h, fun k q h => by simp at h⟩
  have hl := lv_entry ([.ref b]) (n := 7) (Nat.le_of_ble_eq_true rfl)
  rw [lg_entry_eq]
  generalize (lg_sl ([.ref b]) ++ List.replicate (7 - (lg_sl ([.ref b])).length) Slot.unset).toArray = ls at hl ⊢
  have hl : lv_has ls 7 [(0, .ref b)] := hl
  refine va_new (ci := 0) (fs := [.null, .null, .null, .null, .null, .null, .null, .null, .null, .int 0, .int 0, .int 0, .int 0]) (C := "BoilerDesk") (T := TD) (N := 13) hx hb hts inD tyD tyD_ok hown (hts _ q_48) (hts _ q_49) (hts _ q_33) hK hP hD hS hA rfl (fun j hj => by rcases (show j = 0 ∨ j = 1 ∨ j = 2 ∨ j = 3 ∨ j = 4 ∨ j = 5 ∨ j = 6 ∨ j = 7 ∨ j = 8 ∨ j = 9 ∨ j = 10 ∨ j = 11 ∨ j = 12 by omega) with rfl | rfl | rfl | rfl | rfl | rfl | rfl | rfl | rfl | rfl | rfl | rfl | rfl <;> rfl) (Nat.le_of_ble_eq_true rfl) (Nat.le_of_ble_eq_true rfl) dL_law_0 (fun q0 H hP hD hS => ?_)
  have hP : va_P D vwCl (([] : va_W) ++ ow q0 0 [.null, .null, .null, .null, .null, .null, .null, .null, .null, .int 0, .int 0, .int 0, .int 0]) H := hP
  have hD : va_D (fun q : Nat => s.heap.size ≤ q) (([] : va_W) ++ ow q0 0 [.null, .null, .null, .null, .null, .null, .null, .null, .null, .int 0, .int 0, .int 0, .int 0]) := hD
  refine lv_dup hx hb dL_law_3 rfl ?_
  have hF := kb_in (wd_r hD) hS hA
  refine va_callv (va_runI (As := []) (rest := [.ref q0]) ⟨hx, hb, hml, hown, hts⟩ (c_D_init l D q0 _) (cwI 0 hts (gd_1 q_52) rfl rfl rfl (hts _ q_33) (hts _ q_50) (hts _ q_51) rfl (by decide +kernel) ⟨Nat.le_of_ble_eq_true rfl, Nat.le_of_ble_eq_true rfl⟩) (kb_preS (wf := ow q0 0) hN hK (wp_r hP) (wd_r hD)) rfl rfl hl.1 rfl (lv_room (Nat.le_of_ble_eq_true rfl)) dL_law_4 ⟨Nat.le_of_ble_eq_true rfl, Nat.le_of_ble_eq_true rfl⟩) hS (fun q _ h => hF q h) hF (fun u t H1 locs ht hvm hw hB hz1 hk1 hS => ?_)
  obtain ⟨hc, w⟩ := u
  obtain ⟨hP1, -, hD1⟩ := hB
  rw [ht] at hP1
  obtain ⟨hP, hD⟩ := kb_beside2 (s := s) (locs := locs) hP hD hF hk1 hP1 hD1
  generalize H1 = H at hP hS ⊢
  have hP : va_P D vwCl (cw hc w) H := hP
  have hD : va_D (fun q : Nat => s.heap.size ≤ q) (cw hc w) := hD
  obtain ⟨hw0, hw1⟩ := hw
  have hw0 : hc 0 = q0 := hw0
  have hw1 : w = (F_D_startAnew (F_P_setRates (F_P_setLimits w00 1000 100 400 600 900) 50 5 5 15)) := hw1
  clear hP1 hD1 hF hk1
  refine lv_astore_n (lv' := [(1, .ref q0), (0, .ref b)]) hx hb dL_law_7 rfl hl (by decide) rfl (fun ls hl => ?_)
  refine va_new (ci := 7) (fs := [.int 0, .int 0, .int 0, .int 0, .int 0, .int 0, .int 0, .int 0, .int 0, .int 0, .int 0, .int 0, .int 0, .int 0, .int 0, .int 0, .int 0, .int 0, .int 0, .int 0, .int 0, .int 0, .int 0, .int 0, .null, .null, .null, .null, .null, .null, .int 0, .int 0, .int 0, .int 0, .int 0, .int 0, .int 0, .null, .null, .null, .null, .null, .null]) (C := "BoilerDeskModel") (T := TX) (N := 43) hx hb hts inX tyX tyX_ok hown (hts _ q_625) (hts _ q_626) (hts _ q_40) hK hP hD hS hA rfl (fun j hj => by rcases (show j = 0 ∨ j = 1 ∨ j = 2 ∨ j = 3 ∨ j = 4 ∨ j = 5 ∨ j = 6 ∨ j = 7 ∨ j = 8 ∨ j = 9 ∨ j = 10 ∨ j = 11 ∨ j = 12 ∨ j = 13 ∨ j = 14 ∨ j = 15 ∨ j = 16 ∨ j = 17 ∨ j = 18 ∨ j = 19 ∨ j = 20 ∨ j = 21 ∨ j = 22 ∨ j = 23 ∨ j = 24 ∨ j = 25 ∨ j = 26 ∨ j = 27 ∨ j = 28 ∨ j = 29 ∨ j = 30 ∨ j = 31 ∨ j = 32 ∨ j = 33 ∨ j = 34 ∨ j = 35 ∨ j = 36 ∨ j = 37 ∨ j = 38 ∨ j = 39 ∨ j = 40 ∨ j = 41 ∨ j = 42 by omega) with rfl | rfl | rfl | rfl | rfl | rfl | rfl | rfl | rfl | rfl | rfl | rfl | rfl | rfl | rfl | rfl | rfl | rfl | rfl | rfl | rfl | rfl | rfl | rfl | rfl | rfl | rfl | rfl | rfl | rfl | rfl | rfl | rfl | rfl | rfl | rfl | rfl | rfl | rfl | rfl | rfl | rfl | rfl <;> rfl) (Nat.le_of_ble_eq_true rfl) (Nat.le_of_ble_eq_true rfl) dL_law_8 (fun q1 H hP hD hS => ?_)
  have hP : va_P D vwCl (cw hc w ++ ow q1 7 [.int 0, .int 0, .int 0, .int 0, .int 0, .int 0, .int 0, .int 0, .int 0, .int 0, .int 0, .int 0, .int 0, .int 0, .int 0, .int 0, .int 0, .int 0, .int 0, .int 0, .int 0, .int 0, .int 0, .int 0, .null, .null, .null, .null, .null, .null, .int 0, .int 0, .int 0, .int 0, .int 0, .int 0, .int 0, .null, .null, .null, .null, .null, .null]) H := hP
  have hD : va_D (fun q : Nat => s.heap.size ≤ q) (cw hc w ++ ow q1 7 [.int 0, .int 0, .int 0, .int 0, .int 0, .int 0, .int 0, .int 0, .int 0, .int 0, .int 0, .int 0, .int 0, .int 0, .int 0, .int 0, .int 0, .int 0, .int 0, .int 0, .int 0, .int 0, .int 0, .int 0, .null, .null, .null, .null, .null, .null, .int 0, .int 0, .int 0, .int 0, .int 0, .int 0, .int 0, .null, .null, .null, .null, .null, .null]) := hD
  refine lv_dup hx hb dL_law_11 rfl ?_
  have hF := kb_in (wf := ow q1 7) (wd_r hD) hS hA
  refine va_callv (va_runI (As := []) (rest := [.ref q1]) ⟨hx, hb, hml, hown, hts⟩ (c_X_init l D q1 _) (cwI 0 hts (gd_1 q_629) rfl rfl rfl (hts _ q_40) (hts _ q_627) (hts _ q_628) rfl (by decide +kernel) ⟨Nat.le_of_ble_eq_true rfl, Nat.le_of_ble_eq_true rfl⟩) (kb_preS (wf := ow q1 7) hN hK (wp_r hP) (wd_r hD)) rfl rfl hl.1 rfl (lv_room (Nat.le_of_ble_eq_true rfl)) dL_law_12 ⟨Nat.le_of_ble_eq_true rfl, Nat.le_of_ble_eq_true rfl⟩) hS (fun q _ h => hF q h) hF (fun u t H1 locs ht hvm hw hB hz1 hk1 hS => ?_)
  obtain ⟨hm, cZ, q⟩ := u
  obtain ⟨hP1, hK1, hD1⟩ := hB
  rw [ht] at hP1
  have hK : va_K D vwCl [(cZ, .boolean)] s := va_K.moved hvm.symm hK1
  obtain ⟨hP, hD⟩ := kb_beside2 (s := s) (locs := locs) hP hD hF hk1 hP1 hD1
  generalize H1 = H at hP hS ⊢
  have hP : va_P D vwCl (cw hc w ++ mw hm cZ q) H := hP
  have hD : va_D (fun q : Nat => s.heap.size ≤ q) (cw hc w ++ mw hm cZ q) := hD
  obtain ⟨hv0, hv1⟩ := hw
  have hv0 : hm 0 = q1 := hv0
  have hv1 : q = (F_X_anew (w00, b00) 1000 100 400 600 900 50 5 5 15) := hv1
  clear hP1 hD1 hF hk1 hK1
  refine lv_astore_n (lv' := [(2, .ref q1), (1, .ref q0), (0, .ref b)]) hx hb dL_law_15 rfl hl (by decide) rfl (fun ls hl => ?_)
  refine lv_iconst (v := 1) hx hb dL_law_16 (by decide) ?_
  refine va_newa (atype := .long) (ty := .long) (N' := 1) (a0 := (1, .inr (.inl (fun _ => 0)))) hx hb (hts _ q_851) rfl hK hP hD hS hA (fun _ => rfl) (by decide) (by decide) (by decide) (Nat.le_of_ble_eq_true rfl) (Nat.le_of_ble_eq_true rfl) dL_law_17 (fun ho cL H hK hP hD hS => ?_)
  have hK : va_K D vwCl [(cZ, .boolean), (cL, .long)] s := hK
  have hP : va_P D vwCl ((cw hc w ++ mw hm cZ q) ++ lo ho cL (fun _ => 0)) H := hP
  have hD : va_D (fun q : Nat => s.heap.size ≤ q) ((cw hc w ++ mw hm cZ q) ++ lo ho cL (fun _ => 0)) := hD
  have hP := wp_sw hP
  have hD := wd_sw hD
  rw [← List.append_assoc] at hP hD
  have hP := wp_sw hP
  have hD := wd_sw hD
  have hP : va_P D vwCl (mw hm cZ q ++ cwo hc ho cL (w, fun _ => 0)) H := hP
  have hD : va_D (fun q : Nat => s.heap.size ≤ q) (mw hm cZ q ++ cwo hc ho cL (w, fun _ => 0)) := hD
  refine lv_astore_n (lv' := [(3, .ref ho), (2, .ref q1), (1, .ref q0), (0, .ref b)]) hx hb dL_law_19 rfl hl (by decide) rfl (fun ls hl => ?_)
  refine lv_iconst (v := 0) hx hb dL_law_20 (by decide) ?_
  refine lv_istore (lv' := [(4, .int 0), (3, .ref ho), (2, .ref q1), (1, .ref q0), (0, .ref b)]) hx hb dL_law_21 hl (by decide) rfl (fun ls hl => ?_)
  have hR : Rel w q := by rw [hw1, hv1]; exact P_init
  rw [← hw0, ← hv0] at hl
  refine W.widen (k := 24 + 0) (n := 177 + 6 * 0) (Nat.le_of_ble_eq_true rfl) (Nat.le_of_ble_eq_true rfl) ?_
  exact law_loop hl0 hL C0 hT hK 513 0 w _ q _ _ ls rfl hR hP hD hS (lv_sub hl [4, 3, 2, 1, 0] rfl)
