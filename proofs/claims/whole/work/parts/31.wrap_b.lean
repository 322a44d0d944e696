set_option maxRecDepth 20000 in
theorem t_341 : (Jvm.Cond.castable "java/lang/IllegalArgumentException" "java/lang/IllegalArgumentException") ∈ kt_tw := List.mem_filter.mpr ⟨List.mem_append_right _ (List.mem_append_right _ (List.mem_append_left _ (List.mem_of_getElem? (i := 69) rfl))), rfl⟩
set_option maxRecDepth 20000 in
theorem t_443 : (Jvm.Cond.castable "java/lang/IllegalStateException" "java/lang/IllegalStateException") ∈ kt_tw := List.mem_filter.mpr ⟨List.mem_append_right _ (List.mem_append_right _ (List.mem_append_left _ (List.mem_of_getElem? (i := 171) rfl))), rfl⟩
theorem kt_cast {s : State} {a : Array Value} {w : Cond} (h : kt_W s) (hw : w ∈ kt_tw) : w.before a s = true := st2_at (State.WarmedH.refl s) (List.mem_filter.mp hw).2 (h.1 w hw)
set_option maxHeartbeats 4000000 in
set_option maxRecDepth 100000 in
theorem c_L_begin (l : Launch) (hl0 : l.stackTraces = false) (D : va_G) (h : Nat → Nat) (sz : Nat) (w0 : Nat → Int32) (a1 : Int32) (a2 : Int32) (a3 : Int32) (a4 : Int32) (a5 : Int32) (a6 : Int32) (a7 : Int32) (a8 : Int32) (a9 : Int32)  : Met l yL_begin [.codeWith yL_begin cL_begin 11 (some .int) [(0, 19, 22, 13)]] ({ frames := 8, cells := 1, slots := 6, locals := 149 }) (va_Pc [.ref (h 0), .int a1, .int a2, .int a3, .int a4, .int a5, .int a6, .int a7, .int a8, .int a9] (kt_B D [] (cw h) w0 sz)) (va_Qi (fun r' u' => r' = (exv (F_D_begin w0 a1 a2 a3 a4 a5 a6 a7 a8 a9) w0).1 ∧ u' = (exv (F_D_begin w0 a1 a2 a3 a4 a5 a6 a7 a8 a9) w0).2) (kb_E D [] (cw h) (va_A (cw h w0) sz)) (va_A (cw h w0) sz)) 1 6 (va_A (cw h w0) sz) := by
  refine kw_of (cc := cL_begin) (maxL := 11) (ret := some .int) (hh := (0, 19, 22, 13)) (QcA := fun A => (va_Qi (fun r' u' => r' = (exv (F_D_begin w0 a1 a2 a3 a4 a5 a6 a7 a8 a9) w0).1 ∧ u' = (exv (F_D_begin w0 a1 a2 a3 a4 a5 a6 a7 a8 a9) w0).2) (kb_E D [] (cw h) A) A)) (by decide) (Nat.le_of_ble_eq_true rfl) ?_
  intro p e s m below meth c A hx hb hr hlocks hml hown hts hA hN hT htab hK hP hD ls hl
  have hS : va_S A s.heap s.heap [] := va_S.rf
  have hl : lv_has ls 11 [(0, .ref (h 0)), (1, .int a1), (2, .int a2), (3, .int a3), (4, .int a4), (5, .int a5), (6, .int a6), (7, .int a7), (8, .int a8), (9, .int a9)] := hl
  refine lv_aload_n hx hb dL_begin_0 rfl (lv_at hl 0 rfl) ?_
  refine lv_iload_n hx hb dL_begin_1 rfl (lv_at hl 1 rfl) ?_
  refine lv_iload_n hx hb dL_begin_2 rfl (lv_at hl 2 rfl) ?_
  refine lv_iload_n hx hb dL_begin_3 rfl (lv_at hl 3 rfl) ?_
  refine lv_iload hx hb dL_begin_4 (lv_at hl 4 rfl) ?_
  refine lv_iload hx hb dL_begin_6 (lv_at hl 5 rfl) ?_
  refine lv_iload hx hb dL_begin_8 (lv_at hl 6 rfl) ?_
  refine lv_iload hx hb dL_begin_10 (lv_at hl 7 rfl) ?_
  refine lv_iload hx hb dL_begin_12 (lv_at hl 8 rfl) ?_
  refine lv_iload hx hb dL_begin_14 (lv_at hl 9 rfl) ?_
  refine kt_callv (wf := cw h) (w := w0) (wr := []) (F := F_D_begin w0 a1 a2 a3 a4 a5 a6 a7 a8 a9) (n := 9) (As := [.int a1, .int a2, .int a3, .int a4, .int a5, .int a6, .int a7, .int a8, .int a9]) (rest := []) (x := ⟨0, 19, 22, 13⟩) hx hb (hml.trans hl.1.symm) hown ⟨hts _ q_324, hts _ q_325, hts _ q_326, hts _ q_327, hts _ q_33, (by decide +kernel), Nat.le_of_ble_eq_true rfl, Nat.le_of_ble_eq_true rfl, rfl, rfl, (by decide +kernel)⟩ ⟨htab, by decide, by decide, hts _ q_323, kt_cast hT.1 t_341⟩ (c_D_begin l hl0 D h _ w0 a1 a2 a3 a4 a5 a6 a7 a8 a9) hN hT hK hP hD hS hA (va_recv hK hP (ci := 0) (q0 := 0) rfl rfl) rfl rfl (Nat.le_of_ble_eq_true rfl) dL_begin_16 (Nat.le_of_ble_eq_true rfl) (Nat.le_of_ble_eq_true rfl) (fun u H locs hF hP hD hS => ?_) (fun q H locs hF hP hD hS => ?_)
  · refine lv_goto (tgt := 26) hx hb dL_begin_19 (by decide) ?_
    refine lv_iconst (v := 0) hx hb dL_begin_26 (by decide) ?_
    exact kb_iret (wf := cw h) hx hb hr hlocks hK hP hD hS ⟨by rw [hF]; rfl, by rw [hF]; rfl⟩ dL_begin_27
  · refine lv_astore (lv' := [(10, .ref q), (0, .ref (h 0)), (1, .int a1), (2, .int a2), (3, .int a3), (4, .int a4), (5, .int a5), (6, .int a6), (7, .int a7), (8, .int a8), (9, .int a9)]) hx hb dL_begin_22 hl (by decide) rfl (fun ls hl => ?_)
    refine lv_iconst (v := 1) hx hb dL_begin_24 (by decide) ?_
    exact kb_iret (wf := cw h) hx hb hr hlocks hK hP hD hS ⟨by rw [hF]; rfl, by rw [hF]; rfl⟩ dL_begin_25
set_option maxHeartbeats 4000000 in
set_option maxRecDepth 100000 in
theorem c_L_pump (l : Launch) (hl0 : l.stackTraces = false) (D : va_G) (h : Nat → Nat) (sz : Nat) (w0 : Nat → Int32) (a1 : Int32) (a2 : Int32) (a3 : Int32) (z2 : a2 = 0 ∨ a2 = 1) (z3 : a3 = 0 ∨ a3 = 1) : Met l yL_pump [.codeWith yL_pump cL_pump 5 (some .int) [(0, 7, 10, 13)]] ({ frames := 8, cells := 1, slots := 6, locals := 143 }) (va_Pc [.ref (h 0), .int a1, .int a2, .int a3] (kt_B D [] (cw h) w0 sz)) (va_Qi (fun r' u' => r' = (exv (F_D_pump w0 a1 a2 a3) w0).1 ∧ u' = (exv (F_D_pump w0 a1 a2 a3) w0).2) (kb_E D [] (cw h) (va_A (cw h w0) sz)) (va_A (cw h w0) sz)) 1 6 (va_A (cw h w0) sz) := by
  refine kw_of (cc := cL_pump) (maxL := 5) (ret := some .int) (hh := (0, 7, 10, 13)) (QcA := fun A => (va_Qi (fun r' u' => r' = (exv (F_D_pump w0 a1 a2 a3) w0).1 ∧ u' = (exv (F_D_pump w0 a1 a2 a3) w0).2) (kb_E D [] (cw h) A) A)) (by decide) (Nat.le_of_ble_eq_true rfl) ?_
  intro p e s m below meth c A hx hb hr hlocks hml hown hts hA hN hT htab hK hP hD ls hl
  have hS : va_S A s.heap s.heap [] := va_S.rf
  have hl : lv_has ls 5 [(0, .ref (h 0)), (1, .int a1), (2, .int a2), (3, .int a3)] := hl
  refine lv_aload_n hx hb dL_pump_0 rfl (lv_at hl 0 rfl) ?_
  refine lv_iload_n hx hb dL_pump_1 rfl (lv_at hl 1 rfl) ?_
  refine lv_iload_n hx hb dL_pump_2 rfl (lv_at hl 2 rfl) ?_
  refine lv_iload_n hx hb dL_pump_3 rfl (lv_at hl 3 rfl) ?_
  refine kt_callv (wf := cw h) (w := w0) (wr := []) (F := F_D_pump w0 a1 a2 a3) (n := 3) (As := [.int a1, .int a2, .int a3]) (rest := []) (x := ⟨0, 7, 10, 13⟩) hx hb (hml.trans hl.1.symm) hown ⟨hts _ q_409, hts _ q_410, hts _ q_411, hts _ q_412, hts _ q_33, (by decide +kernel), Nat.le_of_ble_eq_true rfl, Nat.le_of_ble_eq_true rfl, rfl, rfl, (by decide +kernel)⟩ ⟨htab, by decide, by decide, hts _ q_323, kt_cast hT.1 t_341⟩ (c_D_pump l hl0 D h _ w0 a1 a2 a3 z2 z3) hN hT hK hP hD hS hA (va_recv hK hP (ci := 0) (q0 := 0) rfl rfl) rfl rfl (Nat.le_of_ble_eq_true rfl) dL_pump_4 (Nat.le_of_ble_eq_true rfl) (Nat.le_of_ble_eq_true rfl) (fun u H locs hF hP hD hS => ?_) (fun q H locs hF hP hD hS => ?_)
  · refine lv_goto (tgt := 14) hx hb dL_pump_7 (by decide) ?_
    refine lv_iconst (v := 0) hx hb dL_pump_14 (by decide) ?_
    exact kb_iret (wf := cw h) hx hb hr hlocks hK hP hD hS ⟨by rw [hF]; rfl, by rw [hF]; rfl⟩ dL_pump_15
  · refine lv_astore (lv' := [(4, .ref q), (0, .ref (h 0)), (1, .int a1), (2, .int a2), (3, .int a3)]) hx hb dL_pump_10 hl (by decide) rfl (fun ls hl => ?_)
    refine lv_iconst (v := 1) hx hb dL_pump_12 (by decide) ?_
    exact kb_iret (wf := cw h) hx hb hr hlocks hK hP hD hS ⟨by rw [hF]; rfl, by rw [hF]; rfl⟩ dL_pump_13
set_option maxHeartbeats 4000000 in
set_option maxRecDepth 100000 in
theorem c_L_say (l : Launch) (hl0 : l.stackTraces = false) (D : va_G) (h : Nat → Nat) (sz : Nat) (w0 : Nat → Int32) (a1 : Int32)  : Met l yL_say [.codeWith yL_say cL_say 3 (some .int) [(0, 5, 8, 13)]] ({ frames := 8, cells := 1, slots := 6, locals := 141 }) (va_Pc [.ref (h 0), .int a1] (kt_B D [] (cw h) w0 sz)) (va_Qi (fun r' u' => r' = (exv (F_D_say w0 a1) w0).1 ∧ u' = (exv (F_D_say w0 a1) w0).2) (kb_E D [] (cw h) (va_A (cw h w0) sz)) (va_A (cw h w0) sz)) 1 6 (va_A (cw h w0) sz) := by
  refine kw_of (cc := cL_say) (maxL := 3) (ret := some .int) (hh := (0, 5, 8, 13)) (QcA := fun A => (va_Qi (fun r' u' => r' = (exv (F_D_say w0 a1) w0).1 ∧ u' = (exv (F_D_say w0 a1) w0).2) (kb_E D [] (cw h) A) A)) (by decide) (Nat.le_of_ble_eq_true rfl) ?_
  intro p e s m below meth c A hx hb hr hlocks hml hown hts hA hN hT htab hK hP hD ls hl
  have hS : va_S A s.heap s.heap [] := va_S.rf
  have hl : lv_has ls 3 [(0, .ref (h 0)), (1, .int a1)] := hl
  refine lv_aload_n hx hb dL_say_0 rfl (lv_at hl 0 rfl) ?_
  refine lv_iload_n hx hb dL_say_1 rfl (lv_at hl 1 rfl) ?_
  refine kt_callv (wf := cw h) (w := w0) (wr := []) (F := F_D_say w0 a1) (n := 1) (As := [.int a1]) (rest := []) (x := ⟨0, 5, 8, 13⟩) hx hb (hml.trans hl.1.symm) hown ⟨hts _ q_420, hts _ q_421, hts _ q_422, hts _ q_423, hts _ q_33, (by decide +kernel), Nat.le_of_ble_eq_true rfl, Nat.le_of_ble_eq_true rfl, rfl, rfl, (by decide +kernel)⟩ ⟨htab, by decide, by decide, hts _ q_323, kt_cast hT.1 t_341⟩ (c_D_say l hl0 D h _ w0 a1) hN hT hK hP hD hS hA (va_recv hK hP (ci := 0) (q0 := 0) rfl rfl) rfl rfl (Nat.le_of_ble_eq_true rfl) dL_say_2 (Nat.le_of_ble_eq_true rfl) (Nat.le_of_ble_eq_true rfl) (fun u H locs hF hP hD hS => ?_) (fun q H locs hF hP hD hS => ?_)
  · refine lv_goto (tgt := 11) hx hb dL_say_5 (by decide) ?_
    refine lv_iconst (v := 0) hx hb dL_say_11 (by decide) ?_
    exact kb_iret (wf := cw h) hx hb hr hlocks hK hP hD hS ⟨by rw [hF]; rfl, by rw [hF]; rfl⟩ dL_say_12
  · refine lv_astore_n (lv' := [(2, .ref q), (0, .ref (h 0)), (1, .int a1)]) hx hb dL_say_8 rfl hl (by decide) rfl (fun ls hl => ?_)
    refine lv_iconst (v := 1) hx hb dL_say_9 (by decide) ?_
    exact kb_iret (wf := cw h) hx hb hr hlocks hK hP hD hS ⟨by rw [hF]; rfl, by rw [hF]; rfl⟩ dL_say_10
set_option maxHeartbeats 4000000 in
set_option maxRecDepth 100000 in
theorem c_L_unit (l : Launch) (hl0 : l.stackTraces = false) (D : va_G) (h : Nat → Nat) (sz : Nat) (w0 : Nat → Int32) (a1 : Int32) (a2 : Int32) (z2 : a2 = 0 ∨ a2 = 1) : Met l yL_unit [.codeWith yL_unit cL_unit 4 (some .int) [(0, 6, 9, 13)]] ({ frames := 8, cells := 1, slots := 6, locals := 142 }) (va_Pc [.ref (h 0), .int a1, .int a2] (kt_B D [] (cw h) w0 sz)) (va_Qi (fun r' u' => r' = (exv (F_D_unit w0 a1 a2) w0).1 ∧ u' = (exv (F_D_unit w0 a1 a2) w0).2) (kb_E D [] (cw h) (va_A (cw h w0) sz)) (va_A (cw h w0) sz)) 1 6 (va_A (cw h w0) sz) := by
  refine kw_of (cc := cL_unit) (maxL := 4) (ret := some .int) (hh := (0, 6, 9, 13)) (QcA := fun A => (va_Qi (fun r' u' => r' = (exv (F_D_unit w0 a1 a2) w0).1 ∧ u' = (exv (F_D_unit w0 a1 a2) w0).2) (kb_E D [] (cw h) A) A)) (by decide) (Nat.le_of_ble_eq_true rfl) ?_
  intro p e s m below meth c A hx hb hr hlocks hml hown hts hA hN hT htab hK hP hD ls hl
  have hS : va_S A s.heap s.heap [] := va_S.rf
  have hl : lv_has ls 4 [(0, .ref (h 0)), (1, .int a1), (2, .int a2)] := hl
  refine lv_aload_n hx hb dL_unit_0 rfl (lv_at hl 0 rfl) ?_
  refine lv_iload_n hx hb dL_unit_1 rfl (lv_at hl 1 rfl) ?_
  refine lv_iload_n hx hb dL_unit_2 rfl (lv_at hl 2 rfl) ?_
  refine kt_callv (wf := cw h) (w := w0) (wr := []) (F := F_D_unit w0 a1 a2) (n := 2) (As := [.int a1, .int a2]) (rest := []) (x := ⟨0, 6, 9, 13⟩) hx hb (hml.trans hl.1.symm) hown ⟨hts _ q_428, hts _ q_429, hts _ q_430, hts _ q_431, hts _ q_33, (by decide +kernel), Nat.le_of_ble_eq_true rfl, Nat.le_of_ble_eq_true rfl, rfl, rfl, (by decide +kernel)⟩ ⟨htab, by decide, by decide, hts _ q_323, kt_cast hT.1 t_341⟩ (c_D_unit l hl0 D h _ w0 a1 a2 z2) hN hT hK hP hD hS hA (va_recv hK hP (ci := 0) (q0 := 0) rfl rfl) rfl rfl (Nat.le_of_ble_eq_true rfl) dL_unit_3 (Nat.le_of_ble_eq_true rfl) (Nat.le_of_ble_eq_true rfl) (fun u H locs hF hP hD hS => ?_) (fun q H locs hF hP hD hS => ?_)
  · refine lv_goto (tgt := 12) hx hb dL_unit_6 (by decide) ?_
    refine lv_iconst (v := 0) hx hb dL_unit_12 (by decide) ?_
    exact kb_iret (wf := cw h) hx hb hr hlocks hK hP hD hS ⟨by rw [hF]; rfl, by rw [hF]; rfl⟩ dL_unit_13
  · refine lv_astore_n (lv' := [(3, .ref q), (0, .ref (h 0)), (1, .int a1), (2, .int a2)]) hx hb dL_unit_9 rfl hl (by decide) rfl (fun ls hl => ?_)
    refine lv_iconst (v := 1) hx hb dL_unit_10 (by decide) ?_
    exact kb_iret (wf := cw h) hx hb hr hlocks hK hP hD hS ⟨by rw [hF]; rfl, by rw [hF]; rfl⟩ dL_unit_11
set_option maxHeartbeats 4000000 in
set_option maxRecDepth 100000 in
theorem c_L_cycle (l : Launch) (hl0 : l.stackTraces = false) (D : va_G) (h : Nat → Nat) (ho : Nat) (cL : ClassId) (sz : Nat) (w0 : Nat → Int32) (f0 : Nat → Int64)   : Met l yL_cycle [.codeWith yL_cycle cL_cycle 3 (some .int) [(0, 8, 11, 31)]] ({ frames := 8, cells := 1, slots := 6, locals := 140 }) (va_Pc [.ref (h 0), .ref ho] (kt_B D [(cL, .long)] (cwo h ho cL) (w0, f0) sz)) (va_Qi (fun r' u' => r' = (exi (F_D_cycle w0) (w0, f0)).1 ∧ u' = (exi (F_D_cycle w0) (w0, f0)).2) (kb_E D [(cL, .long)] (cwo h ho cL) (va_A (cwo h ho cL (w0, f0)) sz)) (va_A (cwo h ho cL (w0, f0)) sz)) 1 6 (va_A (cwo h ho cL (w0, f0)) sz) := by
  refine kw_of (cc := cL_cycle) (maxL := 3) (ret := some .int) (hh := (0, 8, 11, 31)) (QcA := fun A => (va_Qi (fun r' u' => r' = (exi (F_D_cycle w0) (w0, f0)).1 ∧ u' = (exi (F_D_cycle w0) (w0, f0)).2) (kb_E D [(cL, .long)] (cwo h ho cL) A) A)) (by decide) (Nat.le_of_ble_eq_true rfl) ?_
  intro p e s m below meth c A hx hb hr hlocks hml hown hts hA hN hT htab hK hP hD ls hl
  have hS : va_S A s.heap s.heap [] := va_S.rf
  have hl : lv_has ls 3 [(0, .ref (h 0)), (1, .ref ho)] := hl
  refine lv_aload_n hx hb dL_cycle_0 rfl (lv_at hl 1 rfl) ?_
  refine lv_iconst (v := 0) hx hb dL_cycle_1 (by decide) ?_
  refine lv_aload_n hx hb dL_cycle_2 rfl (lv_at hl 0 rfl) ?_
  have hP : va_P D vwCl (lo ho cL f0 ++ cw h w0) s.heap := hP
  have hD : va_D A (lo ho cL f0 ++ cw h w0) := hD
  have hK0 := hK.sub (tys' := []) [] rfl
  refine kt_calli (wf := cw h) (w := w0) (wr := lo ho cL f0) (F := F_D_cycle w0 = none) (n := 0) (As := []) (rest := [.int 0, .ref ho]) (x := ⟨0, 8, 11, 31⟩) hx hb (hml.trans hl.1.symm) hown ⟨hts _ q_437, hts _ q_438, hts _ q_439, hts _ q_440, hts _ q_33, (by decide +kernel), Nat.le_of_ble_eq_true rfl, Nat.le_of_ble_eq_true rfl, rfl, rfl, (by decide +kernel)⟩ ⟨htab, by decide, by decide, hts _ q_436, kt_cast hT.1 t_443⟩ (c_D_cycle l hl0 D h _ w0 ) hN hT hK0 hP hD hS hA (va_recv hK0 (wp_r hP) (ci := 0) (q0 := 0) rfl rfl) rfl rfl (Nat.le_of_ble_eq_true rfl) dL_cycle_3 (Nat.le_of_ble_eq_true rfl) (Nat.le_of_ble_eq_true rfl) (fun r u H locs hF hP hD hS => ?_) (fun q H locs hF hP hD hS => ?_)
  · refine lv_i2l hx hb dL_cycle_6 rfl ?_
    refine va_last hx hb hK hP hD hS 0 0 rfl rfl (by unfold vp_in; decide) dL_cycle_7 (fun H locs hP hD hS => ?_)
    have hP : va_P D vwCl (cwo h ho cL (u, vp_updL f0 (0 : Int32).toNatClampNeg r.toInt64)) H := hP
    have hD : va_D A (cwo h ho cL (u, vp_updL f0 (0 : Int32).toNatClampNeg r.toInt64)) := hD
    refine lv_goto (tgt := 14) hx hb dL_cycle_8 (by decide) ?_
    refine lv_iconst (v := 0) hx hb dL_cycle_14 (by decide) ?_
    exact kb_iret (wf := cwo h ho cL) hx hb hr hlocks hK hP hD hS ⟨by rw [hF]; rfl, by rw [hF]; rfl⟩ dL_cycle_15
  · refine lv_astore_n (lv' := [(2, .ref q), (0, .ref (h 0)), (1, .ref ho)]) hx hb dL_cycle_11 rfl hl (by decide) rfl (fun ls hl => ?_)
    refine lv_iconst (v := 1) hx hb dL_cycle_12 (by decide) ?_
    have hP : va_P D vwCl (cwo h ho cL (w0, f0)) H := hP
    have hD : va_D A (cwo h ho cL (w0, f0)) := hD
    exact kb_iret (wf := cwo h ho cL) hx hb hr hlocks hK hP hD hS ⟨by rw [hF]; rfl, by rw [hF]; rfl⟩ dL_cycle_13
set_option maxHeartbeats 4000000 in
set_option maxRecDepth 100000 in
theorem c_L_told (l : Launch) (hl0 : l.stackTraces = false) (D : va_G) (h : Nat → Nat) (ho : Nat) (cL : ClassId) (sz : Nat) (w0 : Nat → Int32) (f0 : Nat → Int64) (a1 : Int32)  : Met l yL_told [.codeWith yL_told cL_told 4 (some .int) [(0, 9, 12, 13)]] ({ frames := 8, cells := 1, slots := 6, locals := 141 }) (va_Pc [.ref (h 0), .int a1, .ref ho] (kt_B D [(cL, .long)] (cwo h ho cL) (w0, f0) sz)) (va_Qi (fun r' u' => r' = (exp (F_D_told w0 a1) (w0, f0)).1 ∧ u' = (exp (F_D_told w0 a1) (w0, f0)).2) (kb_E D [(cL, .long)] (cwo h ho cL) (va_A (cwo h ho cL (w0, f0)) sz)) (va_A (cwo h ho cL (w0, f0)) sz)) 1 6 (va_A (cwo h ho cL (w0, f0)) sz) := by
  refine kw_of (cc := cL_told) (maxL := 4) (ret := some .int) (hh := (0, 9, 12, 13)) (QcA := fun A => (va_Qi (fun r' u' => r' = (exp (F_D_told w0 a1) (w0, f0)).1 ∧ u' = (exp (F_D_told w0 a1) (w0, f0)).2) (kb_E D [(cL, .long)] (cwo h ho cL) A) A)) (by decide) (Nat.le_of_ble_eq_true rfl) ?_
  intro p e s m below meth c A hx hb hr hlocks hml hown hts hA hN hT htab hK hP hD ls hl
  have hS : va_S A s.heap s.heap [] := va_S.rf
  have hl : lv_has ls 4 [(0, .ref (h 0)), (1, .int a1), (2, .ref ho)] := hl
  refine lv_aload_n hx hb dL_told_0 rfl (lv_at hl 2 rfl) ?_
  refine lv_iconst (v := 0) hx hb dL_told_1 (by decide) ?_
  refine lv_aload_n hx hb dL_told_2 rfl (lv_at hl 0 rfl) ?_
  refine lv_iload_n hx hb dL_told_3 rfl (lv_at hl 1 rfl) ?_
  have hP : va_P D vwCl (lo ho cL f0 ++ cw h w0) s.heap := hP
  have hD : va_D A (lo ho cL f0 ++ cw h w0) := hD
  have hK0 := hK.sub (tys' := []) [] rfl
  refine kt_calli (wf := cw h) (w := w0) (wr := lo ho cL f0) (F := F_D_told w0 a1 = none) (n := 1) (As := [.int a1]) (rest := [.int 0, .ref ho]) (x := ⟨0, 9, 12, 13⟩) hx hb (hml.trans hl.1.symm) hown ⟨hts _ q_612, hts _ q_613, hts _ q_614, hts _ q_615, hts _ q_33, (by decide +kernel), Nat.le_of_ble_eq_true rfl, Nat.le_of_ble_eq_true rfl, rfl, rfl, (by decide +kernel)⟩ ⟨htab, by decide, by decide, hts _ q_323, kt_cast hT.1 t_341⟩ (c_D_told l hl0 D h _ w0 a1) hN hT hK0 hP hD hS hA (va_recv hK0 (wp_r hP) (ci := 0) (q0 := 0) rfl rfl) rfl rfl (Nat.le_of_ble_eq_true rfl) dL_told_4 (Nat.le_of_ble_eq_true rfl) (Nat.le_of_ble_eq_true rfl) (fun r u H locs hF hP hD hS => ?_) (fun q H locs hF hP hD hS => ?_)
  · obtain ⟨hF, hu⟩ := hF
    rw [hu] at hP hD
    refine lv_i2l hx hb dL_told_7 rfl ?_
    refine va_last hx hb hK hP hD hS 0 0 rfl rfl (by unfold vp_in; decide) dL_told_8 (fun H locs hP hD hS => ?_)
    have hP : va_P D vwCl (cwo h ho cL (w0, vp_updL f0 (0 : Int32).toNatClampNeg r.toInt64)) H := hP
    have hD : va_D A (cwo h ho cL (w0, vp_updL f0 (0 : Int32).toNatClampNeg r.toInt64)) := hD
    refine lv_goto (tgt := 15) hx hb dL_told_9 (by decide) ?_
    refine lv_iconst (v := 0) hx hb dL_told_15 (by decide) ?_
    exact kb_iret (wf := cwo h ho cL) hx hb hr hlocks hK hP hD hS ⟨by rw [hF]; rfl, by rw [hF]; rfl⟩ dL_told_16
  · refine lv_astore_n (lv' := [(3, .ref q), (0, .ref (h 0)), (1, .int a1), (2, .ref ho)]) hx hb dL_told_12 rfl hl (by decide) rfl (fun ls hl => ?_)
    refine lv_iconst (v := 1) hx hb dL_told_13 (by decide) ?_
    have hP : va_P D vwCl (cwo h ho cL (w0, f0)) H := hP
    have hD : va_D A (cwo h ho cL (w0, f0)) := hD
    exact kb_iret (wf := cwo h ho cL) hx hb hr hlocks hK hP hD hS ⟨by rw [hF]; rfl, by rw [hF]; rfl⟩ dL_told_14
set_option maxHeartbeats 4000000 in
set_option maxRecDepth 100000 in
theorem c_L_state (l : Launch) (hl0 : l.stackTraces = false) (D : va_G) (h : Nat → Nat) (ho : Nat) (cL : ClassId) (sz : Nat) (w0 : Nat → Int32) (f0 : Nat → Int64) (a1 : Int32)  : Met l yL_state [.codeWith yL_state cL_state 4 (some .int) [(0, 9, 12, 13)]] ({ frames := 8, cells := 1, slots := 6, locals := 141 }) (va_Pc [.ref (h 0), .int a1, .ref ho] (kt_B D [(cL, .long)] (cwo h ho cL) (w0, f0) sz)) (va_Qi (fun r' u' => r' = (exp (F_D_state w0 a1) (w0, f0)).1 ∧ u' = (exp (F_D_state w0 a1) (w0, f0)).2) (kb_E D [(cL, .long)] (cwo h ho cL) (va_A (cwo h ho cL (w0, f0)) sz)) (va_A (cwo h ho cL (w0, f0)) sz)) 1 6 (va_A (cwo h ho cL (w0, f0)) sz) := by
  refine kw_of (cc := cL_state) (maxL := 4) (ret := some .int) (hh := (0, 9, 12, 13)) (QcA := fun A => (va_Qi (fun r' u' => r' = (exp (F_D_state w0 a1) (w0, f0)).1 ∧ u' = (exp (F_D_state w0 a1) (w0, f0)).2) (kb_E D [(cL, .long)] (cwo h ho cL) A) A)) (by decide) (Nat.le_of_ble_eq_true rfl) ?_
  intro p e s m below meth c A hx hb hr hlocks hml hown hts hA hN hT htab hK hP hD ls hl
  have hS : va_S A s.heap s.heap [] := va_S.rf
  have hl : lv_has ls 4 [(0, .ref (h 0)), (1, .int a1), (2, .ref ho)] := hl
  refine lv_aload_n hx hb dL_state_0 rfl (lv_at hl 2 rfl) ?_
  refine lv_iconst (v := 0) hx hb dL_state_1 (by decide) ?_
  refine lv_aload_n hx hb dL_state_2 rfl (lv_at hl 0 rfl) ?_
  refine lv_iload_n hx hb dL_state_3 rfl (lv_at hl 1 rfl) ?_
  have hP : va_P D vwCl (lo ho cL f0 ++ cw h w0) s.heap := hP
  have hD : va_D A (lo ho cL f0 ++ cw h w0) := hD
  have hK0 := hK.sub (tys' := []) [] rfl
  refine kt_calli (wf := cw h) (w := w0) (wr := lo ho cL f0) (F := F_D_state w0 a1 = none) (n := 1) (As := [.int a1]) (rest := [.int 0, .ref ho]) (x := ⟨0, 9, 12, 13⟩) hx hb (hml.trans hl.1.symm) hown ⟨hts _ q_620, hts _ q_621, hts _ q_622, hts _ q_623, hts _ q_33, (by decide +kernel), Nat.le_of_ble_eq_true rfl, Nat.le_of_ble_eq_true rfl, rfl, rfl, (by decide +kernel)⟩ ⟨htab, by decide, by decide, hts _ q_323, kt_cast hT.1 t_341⟩ (c_D_state l hl0 D h _ w0 a1) hN hT hK0 hP hD hS hA (va_recv hK0 (wp_r hP) (ci := 0) (q0 := 0) rfl rfl) rfl rfl (Nat.le_of_ble_eq_true rfl) dL_state_4 (Nat.le_of_ble_eq_true rfl) (Nat.le_of_ble_eq_true rfl) (fun r u H locs hF hP hD hS => ?_) (fun q H locs hF hP hD hS => ?_)
  · obtain ⟨hF, hu⟩ := hF
    rw [hu] at hP hD
    refine lv_i2l hx hb dL_state_7 rfl ?_
    refine va_last hx hb hK hP hD hS 0 0 rfl rfl (by unfold vp_in; decide) dL_state_8 (fun H locs hP hD hS => ?_)
    have hP : va_P D vwCl (cwo h ho cL (w0, vp_updL f0 (0 : Int32).toNatClampNeg r.toInt64)) H := hP
    have hD : va_D A (cwo h ho cL (w0, vp_updL f0 (0 : Int32).toNatClampNeg r.toInt64)) := hD
    refine lv_goto (tgt := 15) hx hb dL_state_9 (by decide) ?_
    refine lv_iconst (v := 0) hx hb dL_state_15 (by decide) ?_
    exact kb_iret (wf := cwo h ho cL) hx hb hr hlocks hK hP hD hS ⟨by rw [hF]; rfl, by rw [hF]; rfl⟩ dL_state_16
  · refine lv_astore_n (lv' := [(3, .ref q), (0, .ref (h 0)), (1, .int a1), (2, .ref ho)]) hx hb dL_state_12 rfl hl (by decide) rfl (fun ls hl => ?_)
    refine lv_iconst (v := 1) hx hb dL_state_13 (by decide) ?_
    have hP : va_P D vwCl (cwo h ho cL (w0, f0)) H := hP
    have hD : va_D A (cwo h ho cL (w0, f0)) := hD
    exact kb_iret (wf := cwo h ho cL) hx hb hr hlocks hK hP hD hS ⟨by rw [hF]; rfl, by rw [hF]; rfl⟩ dL_state_14
