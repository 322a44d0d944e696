/-- BoilerDesk.begin(IIIIIIIII)V -/
def F_D_begin (w0 : Nat → Int32) (a1 : Int32) (a2 : Int32) (a3 : Int32) (a4 : Int32) (a5 : Int32) (a6 : Int32) (a7 : Int32) (a8 : Int32) (a9 : Int32) : Option (Nat → Int32) := (if (F_D_limitsAreSound a1 a2 a3 a4 a5) = (0 : Int32) then none else (if (F_D_ratesAreSound a6 a7 a8 a9) = (0 : Int32) then none else (some (F_D_startAnew (F_P_setRates (F_P_setLimits w0 a1 a2 a3 a4 a5) a6 a7 a8 a9)))))
set_option maxHeartbeats 4000000 in
set_option maxRecDepth 100000 in
theorem c_D_begin (l : Launch) (hl0 : l.stackTraces = false) (D : va_G) (h : Nat → Nat) (sz : Nat) (w0 : Nat → Int32) (a1 : Int32) (a2 : Int32) (a3 : Int32) (a4 : Int32) (a5 : Int32) (a6 : Int32) (a7 : Int32) (a8 : Int32) (a9 : Int32)  : tx_Met l yD_begin [.code yD_begin cD_begin 10 none] ({ frames := 7, cells := 1, slots := 6, locals := 120 }) (va_Pc [.ref (h 0), .int a1, .int a2, .int a3, .int a4, .int a5, .int a6, .int a7, .int a8, .int a9] (kt_B D [] (cw h) w0 sz)) (va_Qv (fun u' => F_D_begin w0 a1 a2 a3 a4 a5 a6 a7 a8 a9 = some u') (kb_E D [] (cw h) (va_A (cw h w0) sz)) (va_A (cw h w0) sz)) "java/lang/IllegalArgumentException" (tx_X (fun u' => F_D_begin w0 a1 a2 a3 a4 a5 a6 a7 a8 a9 = none ∧ u' = w0) (kb_E D [] (cw h) (va_A (cw h w0) sz)) (va_A (cw h w0) sz)) 1 6 (va_A (cw h w0) sz) := by
  refine kt_of (cc := cD_begin) (maxL := 10) (ret := none) (E := "java/lang/IllegalArgumentException") (QcA := fun A => (va_Qv (fun u' => F_D_begin w0 a1 a2 a3 a4 a5 a6 a7 a8 a9 = some u') (kb_E D [] (cw h) A) A)) (XA := fun A => (tx_X (fun u' => F_D_begin w0 a1 a2 a3 a4 a5 a6 a7 a8 a9 = none ∧ u' = w0) (kb_E D [] (cw h) A) A)) (by decide) (Nat.le_of_ble_eq_true rfl) ?_
  intro p e s m below meth c A hx hb hr hlocks hml hown hts hA hN hT hout hK hP hD ls hl
  have hP0 := hP
  have hD0 := hD
  have hz : s.heap.size ≤ s.heap.size := Nat.le_refl _
  have hQ : ∀ q : Nat, q < s.heap.size → s.heap[q]? = s.heap[q]? := fun _ _ => rfl
  have hS : va_S A s.heap s.heap [] := va_S.rf
  have hl : lv_has ls 10 [(0, .ref (h 0)), (1, .int a1), (2, .int a2), (3, .int a3), (4, .int a4), (5, .int a5), (6, .int a6), (7, .int a7), (8, .int a8), (9, .int a9)] := hl
  have e : F_D_begin w0 a1 a2 a3 a4 a5 a6 a7 a8 a9 = F_D_begin w0 a1 a2 a3 a4 a5 a6 a7 a8 a9 := rfl
  refine lv_iload_n hx hb dD_begin_0 rfl (lv_at hl 1 rfl) ?_
  refine lv_iload_n hx hb dD_begin_1 rfl (lv_at hl 2 rfl) ?_
  refine lv_iload_n hx hb dD_begin_2 rfl (lv_at hl 3 rfl) ?_
  refine lv_iload hx hb dD_begin_3 (lv_at hl 4 rfl) ?_
  refine lv_iload hx hb dD_begin_5 (lv_at hl 5 rfl) ?_
  refine kb_call0f (r := (F_D_limitsAreSound a1 a2 a3 a4 a5)) (va_runS (As := [.int a1, .int a2, .int a3, .int a4, .int a5]) (rest := []) ⟨hx, hb, hml, hown, hts⟩ (c_D_limitsAreSound l D _ a1 a2 a3 a4 a5) (va_cwS 5 hts (gd_S q_328 q_329 q_33 q_330) rfl rfl rfl (by decide +kernel) ⟨Nat.le_of_ble_eq_true rfl, Nat.le_of_ble_eq_true rfl⟩) (kb_pre0 hN hK) rfl rfl hl.1 rfl (lv_room (Nat.le_of_ble_eq_true rfl)) dD_begin_7 ⟨Nat.zero_le _, Nat.zero_le _⟩) hP hz hQ (fun H hP hz hQ => ?_)
  have hS : va_S A s.heap H [] := ⟨hz, fun q h _ => hQ q h, fun _ h => nomatch h⟩
  refine lv_if_eq (tgt := 27) hx hb dD_begin_10 (by decide) (fun c_1 => ?_) (fun c_1 => ?_)
  · have e := e.trans (if_pos c_1)
    exact kt_throw (names := kt_up) hx hb hl0 hown (by decide +kernel) (by decide +kernel) (hts _ q_339) (hts _ q_44) (fun w hw => kt_word hN hT (kt_iae w hw)) (hT.1.2 (81, "the constants are not within their bounds") (by decide)) hz (hl.1.trans hml.symm) hout hlocks dD_begin_27 dD_begin_30 dD_begin_31 dD_begin_33 dD_begin_36 (Nat.le_of_ble_eq_true rfl) (Nat.le_of_ble_eq_true rfl) (Nat.le_of_ble_eq_true rfl) (Nat.le_of_ble_eq_true rfl) (kt_xc e hP0 hK hD0) (Nat.le_of_ble_eq_true rfl) (Nat.le_of_ble_eq_true rfl)
  · have e := e.trans (if_neg c_1)
    refine lv_iload hx hb dD_begin_13 (lv_at hl 6 rfl) ?_
    refine lv_iload hx hb dD_begin_15 (lv_at hl 7 rfl) ?_
    refine lv_iload hx hb dD_begin_17 (lv_at hl 8 rfl) ?_
    refine lv_iload hx hb dD_begin_19 (lv_at hl 9 rfl) ?_
    refine kb_call0f (r := (F_D_ratesAreSound a6 a7 a8 a9)) (va_runS (As := [.int a6, .int a7, .int a8, .int a9]) (rest := []) ⟨hx, hb, hml, hown, hts⟩ (c_D_ratesAreSound l D _ a6 a7 a8 a9) (va_cwS 4 hts (gd_S q_332 q_333 q_33 q_334) rfl rfl rfl (by decide +kernel) ⟨Nat.le_of_ble_eq_true rfl, Nat.le_of_ble_eq_true rfl⟩) (kb_pre0 hN hK) rfl rfl hl.1 rfl (lv_room (Nat.le_of_ble_eq_true rfl)) dD_begin_21 ⟨Nat.zero_le _, Nat.zero_le _⟩) hP hz hQ (fun H hP hz hQ => ?_)
    have hS : va_S A s.heap H [] := ⟨hz, fun q h _ => hQ q h, fun _ h => nomatch h⟩
    refine lv_if_ne (tgt := 37) hx hb dD_begin_24 (by decide) (fun c_2 => ?_) (fun c_2 => ?_)
    · have e := e.trans (if_neg c_2)
      refine lv_aload_n hx hb dD_begin_37 rfl (lv_at hl 0 rfl) ?_
      refine va_get (D := D) (ci := 0) (v := .ref (h 1)) (C := "BoilerDesk") (T := TD) (N := 13) hx hb hts inD hown hK hP 0 rfl rfl 0 (by decide) (hts _ q_272) (fun _ h9 => h9) rfl dD_begin_38 ?_
      refine lv_iload_n hx hb dD_begin_41 rfl (lv_at hl 1 rfl) ?_
      refine lv_iload_n hx hb dD_begin_42 rfl (lv_at hl 2 rfl) ?_
      refine lv_iload_n hx hb dD_begin_43 rfl (lv_at hl 3 rfl) ?_
      refine lv_iload hx hb dD_begin_44 (lv_at hl 4 rfl) ?_
      refine lv_iload hx hb dD_begin_46 (lv_at hl 5 rfl) ?_
      refine kb_callv (wf := cw h) (u := F_P_setLimits w0 a1 a2 a3 a4 a5) (va_runV (As := [.int a1, .int a2, .int a3, .int a4, .int a5]) (rest := []) ⟨hx, hb, hml, hown, hts⟩ (c_P_setLimits l D h _ w0 a1 a2 a3 a4 a5) (cwV 5 hts (gd_V q_240 q_241 q_242 q_34 q_243) rfl rfl rfl (by decide +kernel) ⟨Nat.le_of_ble_eq_true rfl, Nat.le_of_ble_eq_true rfl⟩) (kb_preV hN hK hP hD (va_recv hK hP (ci := 3) (q0 := 1) rfl rfl)) rfl rfl hl.1 rfl (lv_room (Nat.le_of_ble_eq_true rfl)) dD_begin_48 ⟨Nat.zero_le _, Nat.zero_le _⟩) hP hD hS hA (fun H locs hP hD hS => ?_)
      refine lv_aload_n hx hb dD_begin_51 rfl (lv_at hl 0 rfl) ?_
      refine va_get (D := D) (ci := 0) (v := .ref (h 1)) (C := "BoilerDesk") (T := TD) (N := 13) hx hb hts inD hown hK hP 0 rfl rfl 0 (by decide) (hts _ q_272) (fun _ h9 => h9) rfl dD_begin_52 ?_
      refine lv_iload hx hb dD_begin_55 (lv_at hl 6 rfl) ?_
      refine lv_iload hx hb dD_begin_57 (lv_at hl 7 rfl) ?_
      refine lv_iload hx hb dD_begin_59 (lv_at hl 8 rfl) ?_
      refine lv_iload hx hb dD_begin_61 (lv_at hl 9 rfl) ?_
      refine kb_callv (wf := cw h) (u := F_P_setRates (F_P_setLimits w0 a1 a2 a3 a4 a5) a6 a7 a8 a9) (va_runV (As := [.int a6, .int a7, .int a8, .int a9]) (rest := []) ⟨hx, hb, hml, hown, hts⟩ (c_P_setRates l D h _ (F_P_setLimits w0 a1 a2 a3 a4 a5) a6 a7 a8 a9) (cwV 4 hts (gd_V q_244 q_245 q_246 q_34 q_247) rfl rfl rfl (by decide +kernel) ⟨Nat.le_of_ble_eq_true rfl, Nat.le_of_ble_eq_true rfl⟩) (kb_preV hN hK hP hD (va_recv hK hP (ci := 3) (q0 := 1) rfl rfl)) rfl rfl hl.1 rfl (lv_room (Nat.le_of_ble_eq_true rfl)) dD_begin_63 ⟨Nat.zero_le _, Nat.zero_le _⟩) hP hD hS hA (fun H locs hP hD hS => ?_)
      refine lv_aload_n hx hb dD_begin_66 rfl (lv_at hl 0 rfl) ?_
      refine kb_callv (wf := cw h) (u := F_D_startAnew (F_P_setRates (F_P_setLimits w0 a1 a2 a3 a4 a5) a6 a7 a8 a9)) (va_runV (As := []) (rest := []) ⟨hx, hb, hml, hown, hts⟩ (c_D_startAnew l D h _ (F_P_setRates (F_P_setLimits w0 a1 a2 a3 a4 a5) a6 a7 a8 a9)) (cwV 0 hts (gd_V q_248 q_250 q_0 q_33 q_251) rfl rfl rfl (by decide +kernel) ⟨Nat.le_of_ble_eq_true rfl, Nat.le_of_ble_eq_true rfl⟩) (kb_preV hN hK hP hD (va_recv hK hP (ci := 0) (q0 := 0) rfl rfl)) rfl rfl hl.1 rfl (lv_room (Nat.le_of_ble_eq_true rfl)) dD_begin_67 ⟨Nat.zero_le _, Nat.zero_le _⟩) hP hD hS hA (fun H locs hP hD hS => ?_)
      exact tx_ret (W.widen (k := 1) (n := 6) (Nat.le_of_ble_eq_true rfl) (Nat.le_of_ble_eq_true rfl) (kb_vret (wf := cw h) hx hb hr hlocks hK hP hD hS e dD_begin_70))
    · have e := e.trans (if_pos c_2)
      exact kt_throw (names := kt_up) hx hb hl0 hown (by decide +kernel) (by decide +kernel) (hts _ q_339) (hts _ q_44) (fun w hw => kt_word hN hT (kt_iae w hw)) (hT.1.2 (81, "the constants are not within their bounds") (by decide)) hz (hl.1.trans hml.symm) hout hlocks dD_begin_27 dD_begin_30 dD_begin_31 dD_begin_33 dD_begin_36 (Nat.le_of_ble_eq_true rfl) (Nat.le_of_ble_eq_true rfl) (Nat.le_of_ble_eq_true rfl) (Nat.le_of_ble_eq_true rfl) (kt_xc e hP0 hK hD0) (Nat.le_of_ble_eq_true rfl) (Nat.le_of_ble_eq_true rfl)
/-- BoilerDesk.pump(IZZ)V -/
def F_D_pump (w0 : Nat → Int32) (a1 : Int32) (a2 : Int32) (a3 : Int32) : Option (Nat → Int32) := (if a1 < (0 : Int32) then none else (if a1 < (4 : Int32) then (some (up (up (up w0 17 (F_D_withBit (w0 17) a1 (1 : Int32))) 18 (F_D_withBit (w0 18) a1 a2)) 19 (F_D_withBit (w0 19) a1 a3))) else none))
set_option maxHeartbeats 4000000 in
set_option maxRecDepth 100000 in
theorem c_D_pump (l : Launch) (hl0 : l.stackTraces = false) (D : va_G) (h : Nat → Nat) (sz : Nat) (w0 : Nat → Int32) (a1 : Int32) (a2 : Int32) (a3 : Int32) (z2 : a2 = 0 ∨ a2 = 1) (z3 : a3 = 0 ∨ a3 = 1) : tx_Met l yD_pump [.code yD_pump cD_pump 4 none] ({ frames := 7, cells := 1, slots := 6, locals := 120 }) (va_Pc [.ref (h 0), .int a1, .int a2, .int a3] (kt_B D [] (cw h) w0 sz)) (va_Qv (fun u' => F_D_pump w0 a1 a2 a3 = some u') (kb_E D [] (cw h) (va_A (cw h w0) sz)) (va_A (cw h w0) sz)) "java/lang/IllegalArgumentException" (tx_X (fun u' => F_D_pump w0 a1 a2 a3 = none ∧ u' = w0) (kb_E D [] (cw h) (va_A (cw h w0) sz)) (va_A (cw h w0) sz)) 1 6 (va_A (cw h w0) sz) := by
  refine kt_of (cc := cD_pump) (maxL := 4) (ret := none) (E := "java/lang/IllegalArgumentException") (QcA := fun A => (va_Qv (fun u' => F_D_pump w0 a1 a2 a3 = some u') (kb_E D [] (cw h) A) A)) (XA := fun A => (tx_X (fun u' => F_D_pump w0 a1 a2 a3 = none ∧ u' = w0) (kb_E D [] (cw h) A) A)) (by decide) (Nat.le_of_ble_eq_true rfl) ?_
  intro p e s m below meth c A hx hb hr hlocks hml hown hts hA hN hT hout hK hP hD ls hl
  have hP0 := hP
  have hD0 := hD
  have hz : s.heap.size ≤ s.heap.size := Nat.le_refl _
  have hQ : ∀ q : Nat, q < s.heap.size → s.heap[q]? = s.heap[q]? := fun _ _ => rfl
  have hS : va_S A s.heap s.heap [] := va_S.rf
  have hl : lv_has ls 4 [(0, .ref (h 0)), (1, .int a1), (2, .int a2), (3, .int a3)] := hl
  have e : F_D_pump w0 a1 a2 a3 = F_D_pump w0 a1 a2 a3 := rfl
  refine lv_iload_n hx hb dD_pump_0 rfl (lv_at hl 1 rfl) ?_
  refine lv_if_lt (tgt := 9) hx hb dD_pump_1 (by decide) (fun c_1 => ?_) (fun c_1 => ?_)
  · have e := e.trans (if_pos c_1)
    exact kt_throw (names := kt_up) hx hb hl0 hown (by decide +kernel) (by decide +kernel) (hts _ q_339) (hts _ q_44) (fun w hw => kt_word hN hT (kt_iae w hw)) (hT.1.2 (100, "there is no such pump") (by decide)) hz (hl.1.trans hml.symm) hout hlocks dD_pump_9 dD_pump_12 dD_pump_13 dD_pump_15 dD_pump_18 (Nat.le_of_ble_eq_true rfl) (Nat.le_of_ble_eq_true rfl) (Nat.le_of_ble_eq_true rfl) (Nat.le_of_ble_eq_true rfl) (kt_xc e hP0 hK hD0) (Nat.le_of_ble_eq_true rfl) (Nat.le_of_ble_eq_true rfl)
  · have e := e.trans (if_neg c_1)
    refine lv_iload_n hx hb dD_pump_4 rfl (lv_at hl 1 rfl) ?_
    refine lv_iconst (v := 4) hx hb dD_pump_5 (by decide) ?_
    refine lv_icmp_lt (tgt := 19) hx hb dD_pump_6 (by decide) (fun c_2 => ?_) (fun c_2 => ?_)
    · have e := e.trans (if_pos c_2)
      refine lv_aload_n hx hb dD_pump_19 rfl (lv_at hl 0 rfl) ?_
      refine va_get (D := D) (ci := 0) (v := .ref (h 2)) (C := "BoilerDesk") (T := TD) (N := 13) hx hb hts inD hown hK hP 0 rfl rfl 1 (by decide) (hts _ q_273) (fun _ h9 => h9) rfl dD_pump_20 ?_
      refine lv_aload_n hx hb dD_pump_23 rfl (lv_at hl 0 rfl) ?_
      refine va_get (D := D) (ci := 0) (v := .ref (h 2)) (C := "BoilerDesk") (T := TD) (N := 13) hx hb hts inD hown hK hP 0 rfl rfl 1 (by decide) (hts _ q_273) (fun _ h9 => h9) rfl dD_pump_24 ?_
      refine va_get (D := D) (ci := 1) (v := .int (w0 17)) (C := "BoilerDesk$Inbox") (T := TI) (N := 12) hx hb hts inI hown hK hP 2 rfl rfl 4 (by decide) (hts _ q_113) (fun _ h9 => h9) rfl dD_pump_27 ?_
      refine lv_iload_n hx hb dD_pump_30 rfl (lv_at hl 1 rfl) ?_
      refine lv_iconst (v := 1) hx hb dD_pump_31 (by decide) ?_
      refine kb_call0f (r := (F_D_withBit (w0 17) a1 (1 : Int32))) (va_runS (As := [.int (w0 17), .int a1, .int 1]) (rest := [.ref (h 2)]) ⟨hx, hb, hml, hown, hts⟩ (c_D_withBit l D _ (w0 17) a1 (1 : Int32) (by decide)) (va_cwS 3 hts (gd_S q_414 q_415 q_33 q_416) rfl rfl rfl (by decide +kernel) ⟨Nat.le_of_ble_eq_true rfl, Nat.le_of_ble_eq_true rfl⟩) (kb_pre0 hN hK) rfl rfl hl.1 rfl (lv_room (Nat.le_of_ble_eq_true rfl)) dD_pump_32 ⟨Nat.zero_le _, Nat.zero_le _⟩) hP hz hQ (fun H hP hz hQ => ?_)
      have hS : va_S A s.heap H [] := ⟨hz, fun q h _ => hQ q h, fun _ h => nomatch h⟩
      refine kb_put (D := D) (wf := cw h) (w' := (up w0 17 (F_D_withBit (w0 17) a1 (1 : Int32)))) (ci := 1) (v := .int (F_D_withBit (w0 17) a1 (1 : Int32))) (ty := .int) (C := "BoilerDesk$Inbox") (T := TI) (N := 12) hx hb hts inI tyI tyI_ok nmI hown hK hP hD hS 2 rfl rfl 4 (by decide) (hts _ q_113) (fun _ h9 => h9) rfl (by decide +kernel) rfl rfl (Nat.le_of_ble_eq_true rfl) dD_pump_35 rfl (fun H locs hP hD hS => ?_)
      refine lv_aload_n hx hb dD_pump_38 rfl (lv_at hl 0 rfl) ?_
      refine va_get (D := D) (ci := 0) (v := .ref (h 2)) (C := "BoilerDesk") (T := TD) (N := 13) hx hb hts inD hown hK hP 0 rfl rfl 1 (by decide) (hts _ q_273) (fun _ h9 => h9) rfl dD_pump_39 ?_
      refine lv_aload_n hx hb dD_pump_42 rfl (lv_at hl 0 rfl) ?_
      refine va_get (D := D) (ci := 0) (v := .ref (h 2)) (C := "BoilerDesk") (T := TD) (N := 13) hx hb hts inD hown hK hP 0 rfl rfl 1 (by decide) (hts _ q_273) (fun _ h9 => h9) rfl dD_pump_43 ?_
      refine va_get (D := D) (ci := 1) (v := .int (w0 18)) (C := "BoilerDesk$Inbox") (T := TI) (N := 12) hx hb hts inI hown hK hP 2 rfl rfl 5 (by decide) (hts _ q_115) (fun _ h9 => h9) rfl dD_pump_46 ?_
      refine lv_iload_n hx hb dD_pump_49 rfl (lv_at hl 1 rfl) ?_
      refine lv_iload_n hx hb dD_pump_50 rfl (lv_at hl 2 rfl) ?_
      refine kb_call0 (r := (F_D_withBit (w0 18) a1 a2)) (va_runS (As := [.int (w0 18), .int a1, .int a2]) (rest := [.ref (h 2)]) ⟨hx, hb, hml, hown, hts⟩ (c_D_withBit l D _ (w0 18) a1 a2 z2) (va_cwS 3 hts (gd_S q_414 q_415 q_33 q_416) rfl rfl rfl (by decide +kernel) ⟨Nat.le_of_ble_eq_true rfl, Nat.le_of_ble_eq_true rfl⟩) (kb_pre0 hN hK) rfl rfl hl.1 rfl (lv_room (Nat.le_of_ble_eq_true rfl)) dD_pump_51 ⟨Nat.zero_le _, Nat.zero_le _⟩) hP hS hA (fun H locs hP hS => ?_)
      refine kb_put (D := D) (wf := cw h) (w' := (up (up w0 17 (F_D_withBit (w0 17) a1 (1 : Int32))) 18 (F_D_withBit (w0 18) a1 a2))) (ci := 1) (v := .int (F_D_withBit (w0 18) a1 a2)) (ty := .int) (C := "BoilerDesk$Inbox") (T := TI) (N := 12) hx hb hts inI tyI tyI_ok nmI hown hK hP hD hS 2 rfl rfl 5 (by decide) (hts _ q_115) (fun _ h9 => h9) rfl (by decide +kernel) rfl rfl (Nat.le_of_ble_eq_true rfl) dD_pump_54 rfl (fun H locs hP hD hS => ?_)
      refine lv_aload_n hx hb dD_pump_57 rfl (lv_at hl 0 rfl) ?_
      refine va_get (D := D) (ci := 0) (v := .ref (h 2)) (C := "BoilerDesk") (T := TD) (N := 13) hx hb hts inD hown hK hP 0 rfl rfl 1 (by decide) (hts _ q_273) (fun _ h9 => h9) rfl dD_pump_58 ?_
      refine lv_aload_n hx hb dD_pump_61 rfl (lv_at hl 0 rfl) ?_
      refine va_get (D := D) (ci := 0) (v := .ref (h 2)) (C := "BoilerDesk") (T := TD) (N := 13) hx hb hts inD hown hK hP 0 rfl rfl 1 (by decide) (hts _ q_273) (fun _ h9 => h9) rfl dD_pump_62 ?_
      refine va_get (D := D) (ci := 1) (v := .int (w0 19)) (C := "BoilerDesk$Inbox") (T := TI) (N := 12) hx hb hts inI hown hK hP 2 rfl rfl 6 (by decide) (hts _ q_117) (fun _ h9 => h9) rfl dD_pump_65 ?_
      refine lv_iload_n hx hb dD_pump_68 rfl (lv_at hl 1 rfl) ?_
      refine lv_iload_n hx hb dD_pump_69 rfl (lv_at hl 3 rfl) ?_
      refine kb_call0 (r := (F_D_withBit (w0 19) a1 a3)) (va_runS (As := [.int (w0 19), .int a1, .int a3]) (rest := [.ref (h 2)]) ⟨hx, hb, hml, hown, hts⟩ (c_D_withBit l D _ (w0 19) a1 a3 z3) (va_cwS 3 hts (gd_S q_414 q_415 q_33 q_416) rfl rfl rfl (by decide +kernel) ⟨Nat.le_of_ble_eq_true rfl, Nat.le_of_ble_eq_true rfl⟩) (kb_pre0 hN hK) rfl rfl hl.1 rfl (lv_room (Nat.le_of_ble_eq_true rfl)) dD_pump_70 ⟨Nat.zero_le _, Nat.zero_le _⟩) hP hS hA (fun H locs hP hS => ?_)
      refine kb_put (D := D) (wf := cw h) (w' := (up (up (up w0 17 (F_D_withBit (w0 17) a1 (1 : Int32))) 18 (F_D_withBit (w0 18) a1 a2)) 19 (F_D_withBit (w0 19) a1 a3))) (ci := 1) (v := .int (F_D_withBit (w0 19) a1 a3)) (ty := .int) (C := "BoilerDesk$Inbox") (T := TI) (N := 12) hx hb hts inI tyI tyI_ok nmI hown hK hP hD hS 2 rfl rfl 6 (by decide) (hts _ q_117) (fun _ h9 => h9) rfl (by decide +kernel) rfl rfl (Nat.le_of_ble_eq_true rfl) dD_pump_73 rfl (fun H locs hP hD hS => ?_)
      exact tx_ret (W.widen (k := 1) (n := 6) (Nat.le_of_ble_eq_true rfl) (Nat.le_of_ble_eq_true rfl) (kb_vret (wf := cw h) hx hb hr hlocks hK hP hD hS e dD_pump_76))
    · have e := e.trans (if_neg c_2)
      exact kt_throw (names := kt_up) hx hb hl0 hown (by decide +kernel) (by decide +kernel) (hts _ q_339) (hts _ q_44) (fun w hw => kt_word hN hT (kt_iae w hw)) (hT.1.2 (100, "there is no such pump") (by decide)) hz (hl.1.trans hml.symm) hout hlocks dD_pump_9 dD_pump_12 dD_pump_13 dD_pump_15 dD_pump_18 (Nat.le_of_ble_eq_true rfl) (Nat.le_of_ble_eq_true rfl) (Nat.le_of_ble_eq_true rfl) (Nat.le_of_ble_eq_true rfl) (kt_xc e hP0 hK hD0) (Nat.le_of_ble_eq_true rfl) (Nat.le_of_ble_eq_true rfl)
/-- BoilerDesk.say(I)V -/
def F_D_say (w0 : Nat → Int32) (a1 : Int32) : Option (Nat → Int32) := (if a1 = 0 then (some (up w0 20 1)) else (if a1 = 1 then (some (up w0 21 1)) else (if a1 = 2 then (some (up w0 22 1)) else none)))
set_option maxHeartbeats 4000000 in
set_option maxRecDepth 100000 in
theorem c_D_say (l : Launch) (hl0 : l.stackTraces = false) (D : va_G) (h : Nat → Nat) (sz : Nat) (w0 : Nat → Int32) (a1 : Int32)  : tx_Met l yD_say [.code yD_say cD_say 2 none] ({ frames := 7, cells := 1, slots := 6, locals := 120 }) (va_Pc [.ref (h 0), .int a1] (kt_B D [] (cw h) w0 sz)) (va_Qv (fun u' => F_D_say w0 a1 = some u') (kb_E D [] (cw h) (va_A (cw h w0) sz)) (va_A (cw h w0) sz)) "java/lang/IllegalArgumentException" (tx_X (fun u' => F_D_say w0 a1 = none ∧ u' = w0) (kb_E D [] (cw h) (va_A (cw h w0) sz)) (va_A (cw h w0) sz)) 1 6 (va_A (cw h w0) sz) := by
  refine kt_of (cc := cD_say) (maxL := 2) (ret := none) (E := "java/lang/IllegalArgumentException") (QcA := fun A => (va_Qv (fun u' => F_D_say w0 a1 = some u') (kb_E D [] (cw h) A) A)) (XA := fun A => (tx_X (fun u' => F_D_say w0 a1 = none ∧ u' = w0) (kb_E D [] (cw h) A) A)) (by decide) (Nat.le_of_ble_eq_true rfl) ?_
  intro p e s m below meth c A hx hb hr hlocks hml hown hts hA hN hT hout hK hP hD ls hl
  have hP0 := hP
  have hD0 := hD
  have hz : s.heap.size ≤ s.heap.size := Nat.le_refl _
  have hQ : ∀ q : Nat, q < s.heap.size → s.heap[q]? = s.heap[q]? := fun _ _ => rfl
  have hS : va_S A s.heap s.heap [] := va_S.rf
  have hl : lv_has ls 2 [(0, .ref (h 0)), (1, .int a1)] := hl
  have e : F_D_say w0 a1 = F_D_say w0 a1 := rfl
  refine lv_iload_n hx hb dD_say_0 rfl (lv_at hl 1 rfl) ?_
  by_cases c_1 : a1 = 0
  · have e := e.trans (if_pos c_1)
    refine lv_tableIn (tgt := 28) hx hb dD_say_1 (by rw [c_1]; decide) (by rw [c_1]; decide) (by rw [c_1]; rfl) (by decide) ?_
    refine lv_aload_n hx hb dD_say_28 rfl (lv_at hl 0 rfl) ?_
    refine va_get (D := D) (ci := 0) (v := .ref (h 2)) (C := "BoilerDesk") (T := TD) (N := 13) hx hb hts inD hown hK hP 0 rfl rfl 1 (by decide) (hts _ q_273) (fun _ h9 => h9) rfl dD_say_29 ?_
    refine lv_iconst (v := 1) hx hb dD_say_32 (by decide) ?_
    refine kb_put (D := D) (wf := cw h) (w' := (up w0 20 1)) (ci := 1) (v := .int 1) (ty := .boolean) (C := "BoilerDesk$Inbox") (T := TI) (N := 12) hx hb hts inI tyI tyI_ok nmI hown hK hP hD hS 2 rfl rfl 7 (by decide) (hts _ q_119) (fun _ h9 => h9) rfl (by decide +kernel) rfl rfl (Nat.le_of_ble_eq_true rfl) dD_say_33 rfl (fun H locs hP hD hS => ?_)
    refine lv_goto (tgt := 71) hx hb dD_say_36 (by decide) ?_
    exact tx_ret (W.widen (k := 1) (n := 6) (Nat.le_of_ble_eq_true rfl) (Nat.le_of_ble_eq_true rfl) (kb_vret (wf := cw h) hx hb hr hlocks hK hP hD hS e dD_say_71))
  · have e := e.trans (if_neg c_1)
    by_cases c_2 : a1 = 1
    · have e := e.trans (if_pos c_2)
      refine lv_tableIn (tgt := 39) hx hb dD_say_1 (by rw [c_2]; decide) (by rw [c_2]; decide) (by rw [c_2]; rfl) (by decide) ?_
      refine lv_aload_n hx hb dD_say_39 rfl (lv_at hl 0 rfl) ?_
      refine va_get (D := D) (ci := 0) (v := .ref (h 2)) (C := "BoilerDesk") (T := TD) (N := 13) hx hb hts inD hown hK hP 0 rfl rfl 1 (by decide) (hts _ q_273) (fun _ h9 => h9) rfl dD_say_40 ?_
      refine lv_iconst (v := 1) hx hb dD_say_43 (by decide) ?_
      refine kb_put (D := D) (wf := cw h) (w' := (up w0 21 1)) (ci := 1) (v := .int 1) (ty := .boolean) (C := "BoilerDesk$Inbox") (T := TI) (N := 12) hx hb hts inI tyI tyI_ok nmI hown hK hP hD hS 2 rfl rfl 8 (by decide) (hts _ q_121) (fun _ h9 => h9) rfl (by decide +kernel) rfl rfl (Nat.le_of_ble_eq_true rfl) dD_say_44 rfl (fun H locs hP hD hS => ?_)
      refine lv_goto (tgt := 71) hx hb dD_say_47 (by decide) ?_
      exact tx_ret (W.widen (k := 1) (n := 6) (Nat.le_of_ble_eq_true rfl) (Nat.le_of_ble_eq_true rfl) (kb_vret (wf := cw h) hx hb hr hlocks hK hP hD hS e dD_say_71))
    · have e := e.trans (if_neg c_2)
      by_cases c_3 : a1 = 2
      · have e := e.trans (if_pos c_3)
        refine lv_tableIn (tgt := 50) hx hb dD_say_1 (by rw [c_3]; decide) (by rw [c_3]; decide) (by rw [c_3]; rfl) (by decide) ?_
        refine lv_aload_n hx hb dD_say_50 rfl (lv_at hl 0 rfl) ?_
        refine va_get (D := D) (ci := 0) (v := .ref (h 2)) (C := "BoilerDesk") (T := TD) (N := 13) hx hb hts inD hown hK hP 0 rfl rfl 1 (by decide) (hts _ q_273) (fun _ h9 => h9) rfl dD_say_51 ?_
        refine lv_iconst (v := 1) hx hb dD_say_54 (by decide) ?_
        refine kb_put (D := D) (wf := cw h) (w' := (up w0 22 1)) (ci := 1) (v := .int 1) (ty := .boolean) (C := "BoilerDesk$Inbox") (T := TI) (N := 12) hx hb hts inI tyI tyI_ok nmI hown hK hP hD hS 2 rfl rfl 9 (by decide) (hts _ q_123) (fun _ h9 => h9) rfl (by decide +kernel) rfl rfl (Nat.le_of_ble_eq_true rfl) dD_say_55 rfl (fun H locs hP hD hS => ?_)
        refine lv_goto (tgt := 71) hx hb dD_say_58 (by decide) ?_
        exact tx_ret (W.widen (k := 1) (n := 6) (Nat.le_of_ble_eq_true rfl) (Nat.le_of_ble_eq_true rfl) (kb_vret (wf := cw h) hx hb hr hlocks hK hP hD hS e dD_say_71))
      · have e := e.trans (if_neg c_3)
        have h9 : (a1).toInt < 0 ∨ 2 < (a1).toInt := by
          have t0 := ne_ti c_1 (j := 0) (by decide)
          have t1 := ne_ti c_2 (j := 1) (by decide)
          have t2 := ne_ti c_3 (j := 2) (by decide)
          omega
        refine lv_tableOut (tgt := 61) hx hb dD_say_1 h9 (by decide) ?_
        exact kt_throw (names := kt_up) hx hb hl0 hown (by decide +kernel) (by decide +kernel) (hts _ q_339) (hts _ q_44) (fun w hw => kt_word hN hT (kt_iae w hw)) (hT.1.2 (124, "there is no such message") (by decide)) hz (hl.1.trans hml.symm) hout hlocks dD_say_61 dD_say_64 dD_say_65 dD_say_67 dD_say_70 (Nat.le_of_ble_eq_true rfl) (Nat.le_of_ble_eq_true rfl) (Nat.le_of_ble_eq_true rfl) (Nat.le_of_ble_eq_true rfl) (kt_xc e hP0 hK hD0) (Nat.le_of_ble_eq_true rfl) (Nat.le_of_ble_eq_true rfl)
/-- BoilerDesk.unit(IZ)V -/
def F_D_unit (w0 : Nat → Int32) (a1 : Int32) (a2 : Int32) : Option (Nat → Int32) := (if a1 < (0 : Int32) then none else (if a1 < (10 : Int32) then (if a2 = (0 : Int32) then (some (up w0 24 (F_D_withBit (w0 24) a1 (1 : Int32)))) else (some (up w0 23 (F_D_withBit (w0 23) a1 (1 : Int32))))) else none))
set_option maxHeartbeats 4000000 in
set_option maxRecDepth 100000 in
theorem c_D_unit (l : Launch) (hl0 : l.stackTraces = false) (D : va_G) (h : Nat → Nat) (sz : Nat) (w0 : Nat → Int32) (a1 : Int32) (a2 : Int32) (z2 : a2 = 0 ∨ a2 = 1) : tx_Met l yD_unit [.code yD_unit cD_unit 3 none] ({ frames := 7, cells := 1, slots := 6, locals := 120 }) (va_Pc [.ref (h 0), .int a1, .int a2] (kt_B D [] (cw h) w0 sz)) (va_Qv (fun u' => F_D_unit w0 a1 a2 = some u') (kb_E D [] (cw h) (va_A (cw h w0) sz)) (va_A (cw h w0) sz)) "java/lang/IllegalArgumentException" (tx_X (fun u' => F_D_unit w0 a1 a2 = none ∧ u' = w0) (kb_E D [] (cw h) (va_A (cw h w0) sz)) (va_A (cw h w0) sz)) 1 6 (va_A (cw h w0) sz) := by
  refine kt_of (cc := cD_unit) (maxL := 3) (ret := none) (E := "java/lang/IllegalArgumentException") (QcA := fun A => (va_Qv (fun u' => F_D_unit w0 a1 a2 = some u') (kb_E D [] (cw h) A) A)) (XA := fun A => (tx_X (fun u' => F_D_unit w0 a1 a2 = none ∧ u' = w0) (kb_E D [] (cw h) A) A)) (by decide) (Nat.le_of_ble_eq_true rfl) ?_
  intro p e s m below meth c A hx hb hr hlocks hml hown hts hA hN hT hout hK hP hD ls hl
  have hP0 := hP
  have hD0 := hD
  have hz : s.heap.size ≤ s.heap.size := Nat.le_refl _
  have hQ : ∀ q : Nat, q < s.heap.size → s.heap[q]? = s.heap[q]? := fun _ _ => rfl
  have hS : va_S A s.heap s.heap [] := va_S.rf
  have hl : lv_has ls 3 [(0, .ref (h 0)), (1, .int a1), (2, .int a2)] := hl
  have e : F_D_unit w0 a1 a2 = F_D_unit w0 a1 a2 := rfl
  refine lv_iload_n hx hb dD_unit_0 rfl (lv_at hl 1 rfl) ?_
  refine lv_if_lt (tgt := 10) hx hb dD_unit_1 (by decide) (fun c_1 => ?_) (fun c_1 => ?_)
  · have e := e.trans (if_pos c_1)
    exact kt_throw (names := kt_up) hx hb hl0 hown (by decide +kernel) (by decide +kernel) (hts _ q_339) (hts _ q_44) (fun w hw => kt_word hN hT (kt_iae w hw)) (hT.1.2 (126, "there is no such unit") (by decide)) hz (hl.1.trans hml.symm) hout hlocks dD_unit_10 dD_unit_13 dD_unit_14 dD_unit_16 dD_unit_19 (Nat.le_of_ble_eq_true rfl) (Nat.le_of_ble_eq_true rfl) (Nat.le_of_ble_eq_true rfl) (Nat.le_of_ble_eq_true rfl) (kt_xc e hP0 hK hD0) (Nat.le_of_ble_eq_true rfl) (Nat.le_of_ble_eq_true rfl)
  · have e := e.trans (if_neg c_1)
    refine lv_iload_n hx hb dD_unit_4 rfl (lv_at hl 1 rfl) ?_
    refine lv_bipush (v := 10) hx hb dD_unit_5 (by decide) ?_
    refine lv_icmp_lt (tgt := 20) hx hb dD_unit_7 (by decide) (fun c_2 => ?_) (fun c_2 => ?_)
    · have e := e.trans (if_pos c_2)
      refine lv_iload_n hx hb dD_unit_20 rfl (lv_at hl 2 rfl) ?_
      refine lv_if_eq (tgt := 46) hx hb dD_unit_21 (by decide) (fun c_3 => ?_) (fun c_3 => ?_)
      · have e := e.trans (if_pos c_3)
        refine lv_aload_n hx hb dD_unit_46 rfl (lv_at hl 0 rfl) ?_
        refine va_get (D := D) (ci := 0) (v := .ref (h 2)) (C := "BoilerDesk") (T := TD) (N := 13) hx hb hts inD hown hK hP 0 rfl rfl 1 (by decide) (hts _ q_273) (fun _ h9 => h9) rfl dD_unit_47 ?_
        refine lv_aload_n hx hb dD_unit_50 rfl (lv_at hl 0 rfl) ?_
        refine va_get (D := D) (ci := 0) (v := .ref (h 2)) (C := "BoilerDesk") (T := TD) (N := 13) hx hb hts inD hown hK hP 0 rfl rfl 1 (by decide) (hts _ q_273) (fun _ h9 => h9) rfl dD_unit_51 ?_
        refine va_get (D := D) (ci := 1) (v := .int (w0 24)) (C := "BoilerDesk$Inbox") (T := TI) (N := 12) hx hb hts inI hown hK hP 2 rfl rfl 11 (by decide) (hts _ q_127) (fun _ h9 => h9) rfl dD_unit_54 ?_
        refine lv_iload_n hx hb dD_unit_57 rfl (lv_at hl 1 rfl) ?_
        refine lv_iconst (v := 1) hx hb dD_unit_58 (by decide) ?_
        refine kb_call0f (r := (F_D_withBit (w0 24) a1 (1 : Int32))) (va_runS (As := [.int (w0 24), .int a1, .int 1]) (rest := [.ref (h 2)]) ⟨hx, hb, hml, hown, hts⟩ (c_D_withBit l D _ (w0 24) a1 (1 : Int32) (by decide)) (va_cwS 3 hts (gd_S q_414 q_415 q_33 q_416) rfl rfl rfl (by decide +kernel) ⟨Nat.le_of_ble_eq_true rfl, Nat.le_of_ble_eq_true rfl⟩) (kb_pre0 hN hK) rfl rfl hl.1 rfl (lv_room (Nat.le_of_ble_eq_true rfl)) dD_unit_59 ⟨Nat.zero_le _, Nat.zero_le _⟩) hP hz hQ (fun H hP hz hQ => ?_)
        have hS : va_S A s.heap H [] := ⟨hz, fun q h _ => hQ q h, fun _ h => nomatch h⟩
        refine kb_put (D := D) (wf := cw h) (w' := (up w0 24 (F_D_withBit (w0 24) a1 (1 : Int32)))) (ci := 1) (v := .int (F_D_withBit (w0 24) a1 (1 : Int32))) (ty := .int) (C := "BoilerDesk$Inbox") (T := TI) (N := 12) hx hb hts inI tyI tyI_ok nmI hown hK hP hD hS 2 rfl rfl 11 (by decide) (hts _ q_127) (fun _ h9 => h9) rfl (by decide +kernel) rfl rfl (Nat.le_of_ble_eq_true rfl) dD_unit_62 rfl (fun H locs hP hD hS => ?_)
        exact tx_ret (W.widen (k := 1) (n := 6) (Nat.le_of_ble_eq_true rfl) (Nat.le_of_ble_eq_true rfl) (kb_vret (wf := cw h) hx hb hr hlocks hK hP hD hS e dD_unit_65))
      · have e := e.trans (if_neg c_3)
        refine lv_aload_n hx hb dD_unit_24 rfl (lv_at hl 0 rfl) ?_
        refine va_get (D := D) (ci := 0) (v := .ref (h 2)) (C := "BoilerDesk") (T := TD) (N := 13) hx hb hts inD hown hK hP 0 rfl rfl 1 (by decide) (hts _ q_273) (fun _ h9 => h9) rfl dD_unit_25 ?_
        refine lv_aload_n hx hb dD_unit_28 rfl (lv_at hl 0 rfl) ?_
        refine va_get (D := D) (ci := 0) (v := .ref (h 2)) (C := "BoilerDesk") (T := TD) (N := 13) hx hb hts inD hown hK hP 0 rfl rfl 1 (by decide) (hts _ q_273) (fun _ h9 => h9) rfl dD_unit_29 ?_
        refine va_get (D := D) (ci := 1) (v := .int (w0 23)) (C := "BoilerDesk$Inbox") (T := TI) (N := 12) hx hb hts inI hown hK hP 2 rfl rfl 10 (by decide) (hts _ q_125) (fun _ h9 => h9) rfl dD_unit_32 ?_
        refine lv_iload_n hx hb dD_unit_35 rfl (lv_at hl 1 rfl) ?_
        refine lv_iconst (v := 1) hx hb dD_unit_36 (by decide) ?_
        refine kb_call0f (r := (F_D_withBit (w0 23) a1 (1 : Int32))) (va_runS (As := [.int (w0 23), .int a1, .int 1]) (rest := [.ref (h 2)]) ⟨hx, hb, hml, hown, hts⟩ (c_D_withBit l D _ (w0 23) a1 (1 : Int32) (by decide)) (va_cwS 3 hts (gd_S q_414 q_415 q_33 q_416) rfl rfl rfl (by decide +kernel) ⟨Nat.le_of_ble_eq_true rfl, Nat.le_of_ble_eq_true rfl⟩) (kb_pre0 hN hK) rfl rfl hl.1 rfl (lv_room (Nat.le_of_ble_eq_true rfl)) dD_unit_37 ⟨Nat.zero_le _, Nat.zero_le _⟩) hP hz hQ (fun H hP hz hQ => ?_)
        have hS : va_S A s.heap H [] := ⟨hz, fun q h _ => hQ q h, fun _ h => nomatch h⟩
        refine kb_put (D := D) (wf := cw h) (w' := (up w0 23 (F_D_withBit (w0 23) a1 (1 : Int32)))) (ci := 1) (v := .int (F_D_withBit (w0 23) a1 (1 : Int32))) (ty := .int) (C := "BoilerDesk$Inbox") (T := TI) (N := 12) hx hb hts inI tyI tyI_ok nmI hown hK hP hD hS 2 rfl rfl 10 (by decide) (hts _ q_125) (fun _ h9 => h9) rfl (by decide +kernel) rfl rfl (Nat.le_of_ble_eq_true rfl) dD_unit_40 rfl (fun H locs hP hD hS => ?_)
        refine lv_goto (tgt := 65) hx hb dD_unit_43 (by decide) ?_
        exact tx_ret (W.widen (k := 1) (n := 6) (Nat.le_of_ble_eq_true rfl) (Nat.le_of_ble_eq_true rfl) (kb_vret (wf := cw h) hx hb hr hlocks hK hP hD hS e dD_unit_65))
    · have e := e.trans (if_neg c_2)
      exact kt_throw (names := kt_up) hx hb hl0 hown (by decide +kernel) (by decide +kernel) (hts _ q_339) (hts _ q_44) (fun w hw => kt_word hN hT (kt_iae w hw)) (hT.1.2 (126, "there is no such unit") (by decide)) hz (hl.1.trans hml.symm) hout hlocks dD_unit_10 dD_unit_13 dD_unit_14 dD_unit_16 dD_unit_19 (Nat.le_of_ble_eq_true rfl) (Nat.le_of_ble_eq_true rfl) (Nat.le_of_ble_eq_true rfl) (Nat.le_of_ble_eq_true rfl) (kt_xc e hP0 hK hD0) (Nat.le_of_ble_eq_true rfl) (Nat.le_of_ble_eq_true rfl)
/-- BoilerDesk.cycle()I -/
def F_D_cycle (w0 : Nat → Int32)  : Option (Int32 × (Nat → Int32)) := (if (w0 1) < (1000000 : Int32) then (if (F_R_clear (up w0 1 ((w0 1) + (1 : Int32))) 0) = (4 : Int32) then (some ((F_I_clear (F_R_clear (up w0 1 ((w0 1) + (1 : Int32)))) 0), (F_I_clear (F_R_clear (up w0 1 ((w0 1) + (1 : Int32))))))) else (some ((F_I_clear (F_D_runSteps (F_R_clear (up w0 1 ((w0 1) + (1 : Int32))))) 0), (F_I_clear (F_D_runSteps (F_R_clear (up w0 1 ((w0 1) + (1 : Int32))))))))) else none)
set_option maxHeartbeats 4000000 in
set_option maxRecDepth 100000 in
theorem c_D_cycle (l : Launch) (hl0 : l.stackTraces = false) (D : va_G) (h : Nat → Nat) (sz : Nat) (w0 : Nat → Int32)   : tx_Met l yD_cycle [.code yD_cycle cD_cycle 1 (some .int)] ({ frames := 7, cells := 1, slots := 6, locals := 120 }) (va_Pc [.ref (h 0)] (kt_B D [] (cw h) w0 sz)) (va_Qi (fun r' u' => F_D_cycle w0 = some (r', u')) (kb_E D [] (cw h) (va_A (cw h w0) sz)) (va_A (cw h w0) sz)) "java/lang/IllegalStateException" (tx_X (fun u' => F_D_cycle w0 = none ∧ u' = w0) (kb_E D [] (cw h) (va_A (cw h w0) sz)) (va_A (cw h w0) sz)) 1 6 (va_A (cw h w0) sz) := by
  refine kt_of (cc := cD_cycle) (maxL := 1) (ret := (some .int)) (E := "java/lang/IllegalStateException") (QcA := fun A => (va_Qi (fun r' u' => F_D_cycle w0 = some (r', u')) (kb_E D [] (cw h) A) A)) (XA := fun A => (tx_X (fun u' => F_D_cycle w0 = none ∧ u' = w0) (kb_E D [] (cw h) A) A)) (by decide) (Nat.le_of_ble_eq_true rfl) ?_
  intro p e s m below meth c A hx hb hr hlocks hml hown hts hA hN hT hout hK hP hD ls hl
  have hP0 := hP
  have hD0 := hD
  have hz : s.heap.size ≤ s.heap.size := Nat.le_refl _
  have hQ : ∀ q : Nat, q < s.heap.size → s.heap[q]? = s.heap[q]? := fun _ _ => rfl
  have hS : va_S A s.heap s.heap [] := va_S.rf
  have hl : lv_has ls 1 [(0, .ref (h 0))] := hl
  have e : F_D_cycle w0 = F_D_cycle w0 := rfl
  refine lv_aload_n hx hb dD_cycle_0 rfl (lv_at hl 0 rfl) ?_
  refine va_get (D := D) (ci := 0) (v := .int (w0 1)) (C := "BoilerDesk") (T := TD) (N := 13) hx hb hts inD hown hK hP 0 rfl rfl 10 (by decide) (hts _ q_282) (fun _ h9 => h9) rfl dD_cycle_1 ?_
  refine lv_ldc (v := 1000000) hx hb hown (hts _ q_331) dD_cycle_4 ?_
  refine lv_icmp_lt (tgt := 19) hx hb dD_cycle_6 (by decide) (fun c_1 => ?_) (fun c_1 => ?_)
  · have e := e.trans (if_pos c_1)
    refine lv_aload_n hx hb dD_cycle_19 rfl (lv_at hl 0 rfl) ?_
    refine lv_dup hx hb dD_cycle_20 rfl ?_
    refine va_get (D := D) (ci := 0) (v := .int (w0 1)) (C := "BoilerDesk") (T := TD) (N := 13) hx hb hts inD hown hK hP 0 rfl rfl 10 (by decide) (hts _ q_282) (fun _ h9 => h9) rfl dD_cycle_21 ?_
    refine lv_iconst (v := 1) hx hb dD_cycle_24 (by decide) ?_
    refine lv_iadd hx hb dD_cycle_25 ?_
    refine kb_put (D := D) (wf := cw h) (w' := (up w0 1 ((w0 1) + (1 : Int32)))) (ci := 0) (v := .int ((w0 1) + (1 : Int32))) (ty := .int) (C := "BoilerDesk") (T := TD) (N := 13) hx hb hts inD tyD tyD_ok nmD hown hK hP hD hS 0 rfl rfl 10 (by decide) (hts _ q_282) (fun _ h9 => h9) rfl (by decide +kernel) rfl rfl (Nat.le_of_ble_eq_true rfl) dD_cycle_26 rfl (fun H locs hP hD hS => ?_)
    refine lv_aload_n hx hb dD_cycle_29 rfl (lv_at hl 0 rfl) ?_
    refine va_get (D := D) (ci := 0) (v := .ref (h 5)) (C := "BoilerDesk") (T := TD) (N := 13) hx hb hts inD hown hK hP 0 rfl rfl 4 (by decide) (hts _ q_276) (fun _ h9 => h9) rfl dD_cycle_30 ?_
    refine kb_callv (wf := cw h) (u := F_R_clear (up w0 1 ((w0 1) + (1 : Int32)))) (va_runV (As := []) (rest := []) ⟨hx, hb, hml, hown, hts⟩ (c_R_clear l D h _ (up w0 1 ((w0 1) + (1 : Int32)))) (cwV 0 hts (gd_V q_264 q_265 q_266 q_38 q_267) rfl rfl rfl (by decide +kernel) ⟨Nat.le_of_ble_eq_true rfl, Nat.le_of_ble_eq_true rfl⟩) (kb_preV hN hK hP hD (va_recv hK hP (ci := 4) (q0 := 5) rfl rfl)) rfl rfl hl.1 rfl (lv_room (Nat.le_of_ble_eq_true rfl)) dD_cycle_33 ⟨Nat.zero_le _, Nat.zero_le _⟩) hP hD hS hA (fun H locs hP hD hS => ?_)
    refine lv_aload_n hx hb dD_cycle_36 rfl (lv_at hl 0 rfl) ?_
    refine va_get (D := D) (ci := 0) (v := .int (F_R_clear (up w0 1 ((w0 1) + (1 : Int32))) 0)) (C := "BoilerDesk") (T := TD) (N := 13) hx hb hts inD hown hK hP 0 rfl rfl 9 (by decide) (hts _ q_281) (fun _ h9 => h9) rfl dD_cycle_37 ?_
    refine lv_iconst (v := 4) hx hb dD_cycle_40 (by decide) ?_
    refine lv_icmp_eq (tgt := 48) hx hb dD_cycle_41 (by decide) (fun c_2 => ?_) (fun c_2 => ?_)
    · have e := e.trans (if_pos c_2)
      refine lv_aload_n hx hb dD_cycle_48 rfl (lv_at hl 0 rfl) ?_
      refine va_get (D := D) (ci := 0) (v := .ref (h 2)) (C := "BoilerDesk") (T := TD) (N := 13) hx hb hts inD hown hK hP 0 rfl rfl 1 (by decide) (hts _ q_273) (fun _ h9 => h9) rfl dD_cycle_49 ?_
      refine kb_callv (wf := cw h) (u := F_I_clear (F_R_clear (up w0 1 ((w0 1) + (1 : Int32))))) (va_runV (As := []) (rest := []) ⟨hx, hb, hml, hown, hts⟩ (c_I_clear l D h _ (F_R_clear (up w0 1 ((w0 1) + (1 : Int32))))) (cwV 0 hts (gd_V q_252 q_253 q_254 q_35 q_255) rfl rfl rfl (by decide +kernel) ⟨Nat.le_of_ble_eq_true rfl, Nat.le_of_ble_eq_true rfl⟩) (kb_preV hN hK hP hD (va_recv hK hP (ci := 1) (q0 := 2) rfl rfl)) rfl rfl hl.1 rfl (lv_room (Nat.le_of_ble_eq_true rfl)) dD_cycle_52 ⟨Nat.zero_le _, Nat.zero_le _⟩) hP hD hS hA (fun H locs hP hD hS => ?_)
      refine lv_aload_n hx hb dD_cycle_55 rfl (lv_at hl 0 rfl) ?_
      refine va_get (D := D) (ci := 0) (v := .int (F_I_clear (F_R_clear (up w0 1 ((w0 1) + (1 : Int32)))) 0)) (C := "BoilerDesk") (T := TD) (N := 13) hx hb hts inD hown hK hP 0 rfl rfl 9 (by decide) (hts _ q_281) (fun _ h9 => h9) rfl dD_cycle_56 ?_
      exact tx_ret (W.widen (k := 1) (n := 6) (Nat.le_of_ble_eq_true rfl) (Nat.le_of_ble_eq_true rfl) (kb_iret (wf := cw h) hx hb hr hlocks hK hP hD hS e dD_cycle_59))
    · have e := e.trans (if_neg c_2)
      refine lv_aload_n hx hb dD_cycle_44 rfl (lv_at hl 0 rfl) ?_
      refine kb_callv (wf := cw h) (u := F_D_runSteps (F_R_clear (up w0 1 ((w0 1) + (1 : Int32))))) (va_runV (As := []) (rest := []) ⟨hx, hb, hml, hown, hts⟩ (c_D_runSteps l D h _ (F_R_clear (up w0 1 ((w0 1) + (1 : Int32))))) (cwV 0 hts (gd_V q_457 q_459 q_2 q_33 q_460) rfl rfl rfl (by decide +kernel) ⟨Nat.le_of_ble_eq_true rfl, Nat.le_of_ble_eq_true rfl⟩) (kb_preV hN hK hP hD (va_recv hK hP (ci := 0) (q0 := 0) rfl rfl)) rfl rfl hl.1 rfl (lv_room (Nat.le_of_ble_eq_true rfl)) dD_cycle_45 ⟨Nat.zero_le _, Nat.zero_le _⟩) hP hD hS hA (fun H locs hP hD hS => ?_)
      refine lv_aload_n hx hb dD_cycle_48 rfl (lv_at hl 0 rfl) ?_
      refine va_get (D := D) (ci := 0) (v := .ref (h 2)) (C := "BoilerDesk") (T := TD) (N := 13) hx hb hts inD hown hK hP 0 rfl rfl 1 (by decide) (hts _ q_273) (fun _ h9 => h9) rfl dD_cycle_49 ?_
      refine kb_callv (wf := cw h) (u := F_I_clear (F_D_runSteps (F_R_clear (up w0 1 ((w0 1) + (1 : Int32)))))) (va_runV (As := []) (rest := []) ⟨hx, hb, hml, hown, hts⟩ (c_I_clear l D h _ (F_D_runSteps (F_R_clear (up w0 1 ((w0 1) + (1 : Int32)))))) (cwV 0 hts (gd_V q_252 q_253 q_254 q_35 q_255) rfl rfl rfl (by decide +kernel) ⟨Nat.le_of_ble_eq_true rfl, Nat.le_of_ble_eq_true rfl⟩) (kb_preV hN hK hP hD (va_recv hK hP (ci := 1) (q0 := 2) rfl rfl)) rfl rfl hl.1 rfl (lv_room (Nat.le_of_ble_eq_true rfl)) dD_cycle_52 ⟨Nat.zero_le _, Nat.zero_le _⟩) hP hD hS hA (fun H locs hP hD hS => ?_)
      refine lv_aload_n hx hb dD_cycle_55 rfl (lv_at hl 0 rfl) ?_
      refine va_get (D := D) (ci := 0) (v := .int (F_I_clear (F_D_runSteps (F_R_clear (up w0 1 ((w0 1) + (1 : Int32))))) 0)) (C := "BoilerDesk") (T := TD) (N := 13) hx hb hts inD hown hK hP 0 rfl rfl 9 (by decide) (hts _ q_281) (fun _ h9 => h9) rfl dD_cycle_56 ?_
      exact tx_ret (W.widen (k := 1) (n := 6) (Nat.le_of_ble_eq_true rfl) (Nat.le_of_ble_eq_true rfl) (kb_iret (wf := cw h) hx hb hr hlocks hK hP hD hS e dD_cycle_59))
  · have e := e.trans (if_neg c_1)
    exact kt_throw (names := kt_up) hx hb hl0 hown (by decide +kernel) (by decide +kernel) (hts _ q_441) (hts _ q_45) (fun w hw => kt_word hN hT (kt_ise w hw)) (hT.1.2 (140, "there were too many cycles") (by decide)) hz (hl.1.trans hml.symm) hout hlocks dD_cycle_9 dD_cycle_12 dD_cycle_13 dD_cycle_15 dD_cycle_18 (Nat.le_of_ble_eq_true rfl) (Nat.le_of_ble_eq_true rfl) (Nat.le_of_ble_eq_true rfl) (Nat.le_of_ble_eq_true rfl) (kt_xc e hP0 hK hD0) (Nat.le_of_ble_eq_true rfl) (Nat.le_of_ble_eq_true rfl)
/-- BoilerDesk.told(I)I -/
def F_D_told (w0 : Nat → Int32) (a1 : Int32) : Option (Int32) := (if a1 = 0 then (some ((w0 31) ||| ((w0 32) <<< ((4 : Int32) &&& 31)))) else (if a1 = 1 then (if (w0 33) = (0 : Int32) then (if (w0 34) = (0 : Int32) then (some (0 : Int32)) else (some (2 : Int32))) else (some (1 : Int32))) else (if a1 = 2 then (some (w0 35)) else (if a1 = 3 then (some (w0 36)) else (if a1 = 4 then (if (w0 37) = (0 : Int32) then (some (0 : Int32)) else (some (1 : Int32))) else none)))))
set_option maxHeartbeats 4000000 in
set_option maxRecDepth 100000 in
theorem c_D_told (l : Launch) (hl0 : l.stackTraces = false) (D : va_G) (h : Nat → Nat) (sz : Nat) (w0 : Nat → Int32) (a1 : Int32)  : tx_Met l yD_told [.code yD_told cD_told 2 (some .int)] ({ frames := 7, cells := 1, slots := 6, locals := 120 }) (va_Pc [.ref (h 0), .int a1] (kt_B D [] (cw h) w0 sz)) (va_Qi (fun r' u' => F_D_told w0 a1 = some r' ∧ u' = w0) (kb_E D [] (cw h) (va_A (cw h w0) sz)) (va_A (cw h w0) sz)) "java/lang/IllegalArgumentException" (tx_X (fun u' => F_D_told w0 a1 = none ∧ u' = w0) (kb_E D [] (cw h) (va_A (cw h w0) sz)) (va_A (cw h w0) sz)) 1 6 (va_A (cw h w0) sz) := by
  refine kt_of (cc := cD_told) (maxL := 2) (ret := (some .int)) (E := "java/lang/IllegalArgumentException") (QcA := fun A => (va_Qi (fun r' u' => F_D_told w0 a1 = some r' ∧ u' = w0) (kb_E D [] (cw h) A) A)) (XA := fun A => (tx_X (fun u' => F_D_told w0 a1 = none ∧ u' = w0) (kb_E D [] (cw h) A) A)) (by decide) (Nat.le_of_ble_eq_true rfl) ?_
  intro p e s m below meth c A hx hb hr hlocks hml hown hts hA hN hT hout hK hP hD ls hl
  have hP0 := hP
  have hD0 := hD
  have hz : s.heap.size ≤ s.heap.size := Nat.le_refl _
  have hQ : ∀ q : Nat, q < s.heap.size → s.heap[q]? = s.heap[q]? := fun _ _ => rfl
  have hS : va_S A s.heap s.heap [] := va_S.rf
  have hl : lv_has ls 2 [(0, .ref (h 0)), (1, .int a1)] := hl
  have e : F_D_told w0 a1 = F_D_told w0 a1 := rfl
  refine lv_iload_n hx hb dD_told_0 rfl (lv_at hl 1 rfl) ?_
  by_cases c_1 : a1 = 0
  · have e := e.trans (if_pos c_1)
    refine lv_tableIn (tgt := 36) hx hb dD_told_1 (by rw [c_1]; decide) (by rw [c_1]; decide) (by rw [c_1]; rfl) (by decide) ?_
    refine lv_aload_n hx hb dD_told_36 rfl (lv_at hl 0 rfl) ?_
    refine va_get (D := D) (ci := 0) (v := .ref (h 5)) (C := "BoilerDesk") (T := TD) (N := 13) hx hb hts inD hown hK hP 0 rfl rfl 4 (by decide) (hts _ q_276) (fun _ h9 => h9) rfl dD_told_37 ?_
    refine va_get (D := D) (ci := 4) (v := .int (w0 31)) (C := "BoilerDesk$Report") (T := TR) (N := 7) hx hb hts inR hown hK hP 5 rfl rfl 0 (by decide) (hts _ q_197) (fun _ h9 => h9) rfl dD_told_40 ?_
    refine lv_aload_n hx hb dD_told_43 rfl (lv_at hl 0 rfl) ?_
    refine va_get (D := D) (ci := 0) (v := .ref (h 5)) (C := "BoilerDesk") (T := TD) (N := 13) hx hb hts inD hown hK hP 0 rfl rfl 4 (by decide) (hts _ q_276) (fun _ h9 => h9) rfl dD_told_44 ?_
    refine va_get (D := D) (ci := 4) (v := .int (w0 32)) (C := "BoilerDesk$Report") (T := TR) (N := 7) hx hb hts inR hown hK hP 5 rfl rfl 1 (by decide) (hts _ q_199) (fun _ h9 => h9) rfl dD_told_47 ?_
    refine lv_iconst (v := 4) hx hb dD_told_50 (by decide) ?_
    refine lv_ishl hx hb dD_told_51 ?_
    refine lv_ior hx hb dD_told_52 ?_
    exact tx_ret (W.widen (k := 1) (n := 6) (Nat.le_of_ble_eq_true rfl) (Nat.le_of_ble_eq_true rfl) (kb_iret (wf := cw h) hx hb hr hlocks hK hP hD hS ⟨e, rfl⟩ dD_told_53))
  · have e := e.trans (if_neg c_1)
    by_cases c_2 : a1 = 1
    · have e := e.trans (if_pos c_2)
      refine lv_tableIn (tgt := 54) hx hb dD_told_1 (by rw [c_2]; decide) (by rw [c_2]; decide) (by rw [c_2]; rfl) (by decide) ?_
      refine lv_aload_n hx hb dD_told_54 rfl (lv_at hl 0 rfl) ?_
      refine va_get (D := D) (ci := 0) (v := .ref (h 5)) (C := "BoilerDesk") (T := TD) (N := 13) hx hb hts inD hown hK hP 0 rfl rfl 4 (by decide) (hts _ q_276) (fun _ h9 => h9) rfl dD_told_55 ?_
      refine va_get (D := D) (ci := 4) (v := .int (w0 33)) (C := "BoilerDesk$Report") (T := TR) (N := 7) hx hb hts inR hown hK hP 5 rfl rfl 2 (by decide) (hts _ q_201) (fun _ h9 => h9) rfl dD_told_58 ?_
      refine lv_if_eq (tgt := 68) hx hb dD_told_61 (by decide) (fun c_3 => ?_) (fun c_3 => ?_)
      · have e := e.trans (if_pos c_3)
        refine lv_aload_n hx hb dD_told_68 rfl (lv_at hl 0 rfl) ?_
        refine va_get (D := D) (ci := 0) (v := .ref (h 5)) (C := "BoilerDesk") (T := TD) (N := 13) hx hb hts inD hown hK hP 0 rfl rfl 4 (by decide) (hts _ q_276) (fun _ h9 => h9) rfl dD_told_69 ?_
        refine va_get (D := D) (ci := 4) (v := .int (w0 34)) (C := "BoilerDesk$Report") (T := TR) (N := 7) hx hb hts inR hown hK hP 5 rfl rfl 3 (by decide) (hts _ q_203) (fun _ h9 => h9) rfl dD_told_72 ?_
        refine lv_if_eq (tgt := 82) hx hb dD_told_75 (by decide) (fun c_4 => ?_) (fun c_4 => ?_)
        · have e := e.trans (if_pos c_4)
          refine lv_iconst (v := 0) hx hb dD_told_82 (by decide) ?_
          exact tx_ret (W.widen (k := 1) (n := 6) (Nat.le_of_ble_eq_true rfl) (Nat.le_of_ble_eq_true rfl) (kb_iret (wf := cw h) hx hb hr hlocks hK hP hD hS ⟨e, rfl⟩ dD_told_83))
        · have e := e.trans (if_neg c_4)
          refine lv_iconst (v := 2) hx hb dD_told_78 (by decide) ?_
          refine lv_goto (tgt := 83) hx hb dD_told_79 (by decide) ?_
          exact tx_ret (W.widen (k := 1) (n := 6) (Nat.le_of_ble_eq_true rfl) (Nat.le_of_ble_eq_true rfl) (kb_iret (wf := cw h) hx hb hr hlocks hK hP hD hS ⟨e, rfl⟩ dD_told_83))
      · have e := e.trans (if_neg c_3)
        refine lv_iconst (v := 1) hx hb dD_told_64 (by decide) ?_
        refine lv_goto (tgt := 83) hx hb dD_told_65 (by decide) ?_
        exact tx_ret (W.widen (k := 1) (n := 6) (Nat.le_of_ble_eq_true rfl) (Nat.le_of_ble_eq_true rfl) (kb_iret (wf := cw h) hx hb hr hlocks hK hP hD hS ⟨e, rfl⟩ dD_told_83))
    · have e := e.trans (if_neg c_2)
      by_cases c_5 : a1 = 2
      · have e := e.trans (if_pos c_5)
        refine lv_tableIn (tgt := 84) hx hb dD_told_1 (by rw [c_5]; decide) (by rw [c_5]; decide) (by rw [c_5]; rfl) (by decide) ?_
        refine lv_aload_n hx hb dD_told_84 rfl (lv_at hl 0 rfl) ?_
        refine va_get (D := D) (ci := 0) (v := .ref (h 5)) (C := "BoilerDesk") (T := TD) (N := 13) hx hb hts inD hown hK hP 0 rfl rfl 4 (by decide) (hts _ q_276) (fun _ h9 => h9) rfl dD_told_85 ?_
        refine va_get (D := D) (ci := 4) (v := .int (w0 35)) (C := "BoilerDesk$Report") (T := TR) (N := 7) hx hb hts inR hown hK hP 5 rfl rfl 4 (by decide) (hts _ q_205) (fun _ h9 => h9) rfl dD_told_88 ?_
        exact tx_ret (W.widen (k := 1) (n := 6) (Nat.le_of_ble_eq_true rfl) (Nat.le_of_ble_eq_true rfl) (kb_iret (wf := cw h) hx hb hr hlocks hK hP hD hS ⟨e, rfl⟩ dD_told_91))
      · have e := e.trans (if_neg c_5)
        by_cases c_6 : a1 = 3
        · have e := e.trans (if_pos c_6)
          refine lv_tableIn (tgt := 92) hx hb dD_told_1 (by rw [c_6]; decide) (by rw [c_6]; decide) (by rw [c_6]; rfl) (by decide) ?_
          refine lv_aload_n hx hb dD_told_92 rfl (lv_at hl 0 rfl) ?_
          refine va_get (D := D) (ci := 0) (v := .ref (h 5)) (C := "BoilerDesk") (T := TD) (N := 13) hx hb hts inD hown hK hP 0 rfl rfl 4 (by decide) (hts _ q_276) (fun _ h9 => h9) rfl dD_told_93 ?_
          refine va_get (D := D) (ci := 4) (v := .int (w0 36)) (C := "BoilerDesk$Report") (T := TR) (N := 7) hx hb hts inR hown hK hP 5 rfl rfl 5 (by decide) (hts _ q_207) (fun _ h9 => h9) rfl dD_told_96 ?_
          exact tx_ret (W.widen (k := 1) (n := 6) (Nat.le_of_ble_eq_true rfl) (Nat.le_of_ble_eq_true rfl) (kb_iret (wf := cw h) hx hb hr hlocks hK hP hD hS ⟨e, rfl⟩ dD_told_99))
        · have e := e.trans (if_neg c_6)
          by_cases c_7 : a1 = 4
          · have e := e.trans (if_pos c_7)
            refine lv_tableIn (tgt := 100) hx hb dD_told_1 (by rw [c_7]; decide) (by rw [c_7]; decide) (by rw [c_7]; rfl) (by decide) ?_
            refine lv_aload_n hx hb dD_told_100 rfl (lv_at hl 0 rfl) ?_
            refine va_get (D := D) (ci := 0) (v := .ref (h 5)) (C := "BoilerDesk") (T := TD) (N := 13) hx hb hts inD hown hK hP 0 rfl rfl 4 (by decide) (hts _ q_276) (fun _ h9 => h9) rfl dD_told_101 ?_
            refine va_get (D := D) (ci := 4) (v := .int (w0 37)) (C := "BoilerDesk$Report") (T := TR) (N := 7) hx hb hts inR hown hK hP 5 rfl rfl 6 (by decide) (hts _ q_209) (fun _ h9 => h9) rfl dD_told_104 ?_
            refine lv_if_eq (tgt := 114) hx hb dD_told_107 (by decide) (fun c_8 => ?_) (fun c_8 => ?_)
            · have e := e.trans (if_pos c_8)
              refine lv_iconst (v := 0) hx hb dD_told_114 (by decide) ?_
              exact tx_ret (W.widen (k := 1) (n := 6) (Nat.le_of_ble_eq_true rfl) (Nat.le_of_ble_eq_true rfl) (kb_iret (wf := cw h) hx hb hr hlocks hK hP hD hS ⟨e, rfl⟩ dD_told_115))
            · have e := e.trans (if_neg c_8)
              refine lv_iconst (v := 1) hx hb dD_told_110 (by decide) ?_
              refine lv_goto (tgt := 115) hx hb dD_told_111 (by decide) ?_
              exact tx_ret (W.widen (k := 1) (n := 6) (Nat.le_of_ble_eq_true rfl) (Nat.le_of_ble_eq_true rfl) (kb_iret (wf := cw h) hx hb hr hlocks hK hP hD hS ⟨e, rfl⟩ dD_told_115))
          · have e := e.trans (if_neg c_7)
            have h9 : (a1).toInt < 0 ∨ 4 < (a1).toInt := by
              have t0 := ne_ti c_1 (j := 0) (by decide)
              have t1 := ne_ti c_2 (j := 1) (by decide)
              have t2 := ne_ti c_5 (j := 2) (by decide)
              have t3 := ne_ti c_6 (j := 3) (by decide)
              have t4 := ne_ti c_7 (j := 4) (by decide)
              omega
            refine lv_tableOut (tgt := 116) hx hb dD_told_1 h9 (by decide) ?_
            exact kt_throw (names := kt_up) hx hb hl0 hown (by decide +kernel) (by decide +kernel) (hts _ q_339) (hts _ q_44) (fun w hw => kt_word hN hT (kt_iae w hw)) (hT.1.2 (174, "nothing of that number is told") (by decide)) hz (hl.1.trans hml.symm) hout hlocks dD_told_116 dD_told_119 dD_told_120 dD_told_122 dD_told_125 (Nat.le_of_ble_eq_true rfl) (Nat.le_of_ble_eq_true rfl) (Nat.le_of_ble_eq_true rfl) (Nat.le_of_ble_eq_true rfl) (kt_xc e hP0 hK hD0) (Nat.le_of_ble_eq_true rfl) (Nat.le_of_ble_eq_true rfl)
/-- BoilerDesk.state(I)I -/
def F_D_state (w0 : Nat → Int32) (a1 : Int32) : Option (Int32) := (if a1 = 0 then (some (w0 38)) else (if a1 = 1 then (some (w0 39)) else (if a1 = 2 then (some (w0 40)) else (if a1 = 3 then (some (w0 41)) else (if a1 = 4 then (some (w0 25)) else (if a1 = 5 then (some (w0 26)) else (if a1 = 6 then (some (w0 27)) else (if a1 = 7 then (if (w0 30) = (0 : Int32) then (some (0 : Int32)) else (some (1 : Int32))) else (if a1 = 8 then (some (w0 0)) else (if a1 = 9 then (some (w0 1)) else none))))))))))
set_option maxHeartbeats 4000000 in
set_option maxRecDepth 100000 in
theorem c_D_state (l : Launch) (hl0 : l.stackTraces = false) (D : va_G) (h : Nat → Nat) (sz : Nat) (w0 : Nat → Int32) (a1 : Int32)  : tx_Met l yD_state [.code yD_state cD_state 2 (some .int)] ({ frames := 7, cells := 1, slots := 6, locals := 120 }) (va_Pc [.ref (h 0), .int a1] (kt_B D [] (cw h) w0 sz)) (va_Qi (fun r' u' => F_D_state w0 a1 = some r' ∧ u' = w0) (kb_E D [] (cw h) (va_A (cw h w0) sz)) (va_A (cw h w0) sz)) "java/lang/IllegalArgumentException" (tx_X (fun u' => F_D_state w0 a1 = none ∧ u' = w0) (kb_E D [] (cw h) (va_A (cw h w0) sz)) (va_A (cw h w0) sz)) 1 6 (va_A (cw h w0) sz) := by
  refine kt_of (cc := cD_state) (maxL := 2) (ret := (some .int)) (E := "java/lang/IllegalArgumentException") (QcA := fun A => (va_Qi (fun r' u' => F_D_state w0 a1 = some r' ∧ u' = w0) (kb_E D [] (cw h) A) A)) (XA := fun A => (tx_X (fun u' => F_D_state w0 a1 = none ∧ u' = w0) (kb_E D [] (cw h) A) A)) (by decide) (Nat.le_of_ble_eq_true rfl) ?_
  intro p e s m below meth c A hx hb hr hlocks hml hown hts hA hN hT hout hK hP hD ls hl
  have hP0 := hP
  have hD0 := hD
  have hz : s.heap.size ≤ s.heap.size := Nat.le_refl _
  have hQ : ∀ q : Nat, q < s.heap.size → s.heap[q]? = s.heap[q]? := fun _ _ => rfl
  have hS : va_S A s.heap s.heap [] := va_S.rf
  have hl : lv_has ls 2 [(0, .ref (h 0)), (1, .int a1)] := hl
  have e : F_D_state w0 a1 = F_D_state w0 a1 := rfl
  refine lv_iload_n hx hb dD_state_0 rfl (lv_at hl 1 rfl) ?_
  by_cases c_1 : a1 = 0
  · have e := e.trans (if_pos c_1)
    refine lv_tableIn (tgt := 56) hx hb dD_state_1 (by rw [c_1]; decide) (by rw [c_1]; decide) (by rw [c_1]; rfl) (by decide) ?_
    refine lv_aload_n hx hb dD_state_56 rfl (lv_at hl 0 rfl) ?_
    refine va_get (D := D) (ci := 0) (v := .ref (h 6)) (C := "BoilerDesk") (T := TD) (N := 13) hx hb hts inD hown hK hP 0 rfl rfl 5 (by decide) (hts _ q_277) (fun _ h9 => h9) rfl dD_state_57 ?_
    refine va_get (D := D) (ci := 5) (v := .int (w0 38)) (C := "BoilerDesk$Span") (T := TS) (N := 2) hx hb hts inS hown hK hP 6 rfl rfl 0 (by decide) (hts _ q_232) (fun _ h9 => h9) rfl dD_state_60 ?_
    exact tx_ret (W.widen (k := 1) (n := 6) (Nat.le_of_ble_eq_true rfl) (Nat.le_of_ble_eq_true rfl) (kb_iret (wf := cw h) hx hb hr hlocks hK hP hD hS ⟨e, rfl⟩ dD_state_63))
  · have e := e.trans (if_neg c_1)
    by_cases c_2 : a1 = 1
    · have e := e.trans (if_pos c_2)
      refine lv_tableIn (tgt := 64) hx hb dD_state_1 (by rw [c_2]; decide) (by rw [c_2]; decide) (by rw [c_2]; rfl) (by decide) ?_
      refine lv_aload_n hx hb dD_state_64 rfl (lv_at hl 0 rfl) ?_
      refine va_get (D := D) (ci := 0) (v := .ref (h 6)) (C := "BoilerDesk") (T := TD) (N := 13) hx hb hts inD hown hK hP 0 rfl rfl 5 (by decide) (hts _ q_277) (fun _ h9 => h9) rfl dD_state_65 ?_
      refine va_get (D := D) (ci := 5) (v := .int (w0 39)) (C := "BoilerDesk$Span") (T := TS) (N := 2) hx hb hts inS hown hK hP 6 rfl rfl 1 (by decide) (hts _ q_234) (fun _ h9 => h9) rfl dD_state_68 ?_
      exact tx_ret (W.widen (k := 1) (n := 6) (Nat.le_of_ble_eq_true rfl) (Nat.le_of_ble_eq_true rfl) (kb_iret (wf := cw h) hx hb hr hlocks hK hP hD hS ⟨e, rfl⟩ dD_state_71))
    · have e := e.trans (if_neg c_2)
      by_cases c_3 : a1 = 2
      · have e := e.trans (if_pos c_3)
        refine lv_tableIn (tgt := 72) hx hb dD_state_1 (by rw [c_3]; decide) (by rw [c_3]; decide) (by rw [c_3]; rfl) (by decide) ?_
        refine lv_aload_n hx hb dD_state_72 rfl (lv_at hl 0 rfl) ?_
        refine va_get (D := D) (ci := 0) (v := .ref (h 7)) (C := "BoilerDesk") (T := TD) (N := 13) hx hb hts inD hown hK hP 0 rfl rfl 6 (by decide) (hts _ q_278) (fun _ h9 => h9) rfl dD_state_73 ?_
        refine va_get (D := D) (ci := 5) (v := .int (w0 40)) (C := "BoilerDesk$Span") (T := TS) (N := 2) hx hb hts inS hown hK hP 7 rfl rfl 0 (by decide) (hts _ q_232) (fun _ h9 => h9) rfl dD_state_76 ?_
        exact tx_ret (W.widen (k := 1) (n := 6) (Nat.le_of_ble_eq_true rfl) (Nat.le_of_ble_eq_true rfl) (kb_iret (wf := cw h) hx hb hr hlocks hK hP hD hS ⟨e, rfl⟩ dD_state_79))
      · have e := e.trans (if_neg c_3)
        by_cases c_4 : a1 = 3
        · have e := e.trans (if_pos c_4)
          refine lv_tableIn (tgt := 80) hx hb dD_state_1 (by rw [c_4]; decide) (by rw [c_4]; decide) (by rw [c_4]; rfl) (by decide) ?_
          refine lv_aload_n hx hb dD_state_80 rfl (lv_at hl 0 rfl) ?_
          refine va_get (D := D) (ci := 0) (v := .ref (h 7)) (C := "BoilerDesk") (T := TD) (N := 13) hx hb hts inD hown hK hP 0 rfl rfl 6 (by decide) (hts _ q_278) (fun _ h9 => h9) rfl dD_state_81 ?_
          refine va_get (D := D) (ci := 5) (v := .int (w0 41)) (C := "BoilerDesk$Span") (T := TS) (N := 2) hx hb hts inS hown hK hP 7 rfl rfl 1 (by decide) (hts _ q_234) (fun _ h9 => h9) rfl dD_state_84 ?_
          exact tx_ret (W.widen (k := 1) (n := 6) (Nat.le_of_ble_eq_true rfl) (Nat.le_of_ble_eq_true rfl) (kb_iret (wf := cw h) hx hb hr hlocks hK hP hD hS ⟨e, rfl⟩ dD_state_87))
        · have e := e.trans (if_neg c_4)
          by_cases c_5 : a1 = 4
          · have e := e.trans (if_pos c_5)
            refine lv_tableIn (tgt := 88) hx hb dD_state_1 (by rw [c_5]; decide) (by rw [c_5]; decide) (by rw [c_5]; rfl) (by decide) ?_
            refine lv_aload_n hx hb dD_state_88 rfl (lv_at hl 0 rfl) ?_
            refine va_get (D := D) (ci := 0) (v := .ref (h 3)) (C := "BoilerDesk") (T := TD) (N := 13) hx hb hts inD hown hK hP 0 rfl rfl 2 (by decide) (hts _ q_274) (fun _ h9 => h9) rfl dD_state_89 ?_
            refine va_get (D := D) (ci := 6) (v := .int (w0 25)) (C := "BoilerDesk$Units") (T := TU) (N := 2) hx hb hts inU hown hK hP 3 rfl rfl 0 (by decide) (hts _ q_160) (fun _ h9 => h9) rfl dD_state_92 ?_
            exact tx_ret (W.widen (k := 1) (n := 6) (Nat.le_of_ble_eq_true rfl) (Nat.le_of_ble_eq_true rfl) (kb_iret (wf := cw h) hx hb hr hlocks hK hP hD hS ⟨e, rfl⟩ dD_state_95))
          · have e := e.trans (if_neg c_5)
            by_cases c_6 : a1 = 5
            · have e := e.trans (if_pos c_6)
              refine lv_tableIn (tgt := 96) hx hb dD_state_1 (by rw [c_6]; decide) (by rw [c_6]; decide) (by rw [c_6]; rfl) (by decide) ?_
              refine lv_aload_n hx hb dD_state_96 rfl (lv_at hl 0 rfl) ?_
              refine va_get (D := D) (ci := 0) (v := .ref (h 3)) (C := "BoilerDesk") (T := TD) (N := 13) hx hb hts inD hown hK hP 0 rfl rfl 2 (by decide) (hts _ q_274) (fun _ h9 => h9) rfl dD_state_97 ?_
              refine va_get (D := D) (ci := 6) (v := .int (w0 26)) (C := "BoilerDesk$Units") (T := TU) (N := 2) hx hb hts inU hown hK hP 3 rfl rfl 1 (by decide) (hts _ q_162) (fun _ h9 => h9) rfl dD_state_100 ?_
              exact tx_ret (W.widen (k := 1) (n := 6) (Nat.le_of_ble_eq_true rfl) (Nat.le_of_ble_eq_true rfl) (kb_iret (wf := cw h) hx hb hr hlocks hK hP hD hS ⟨e, rfl⟩ dD_state_103))
            · have e := e.trans (if_neg c_6)
              by_cases c_7 : a1 = 6
              · have e := e.trans (if_pos c_7)
                refine lv_tableIn (tgt := 104) hx hb dD_state_1 (by rw [c_7]; decide) (by rw [c_7]; decide) (by rw [c_7]; rfl) (by decide) ?_
                refine lv_aload_n hx hb dD_state_104 rfl (lv_at hl 0 rfl) ?_
                refine va_get (D := D) (ci := 0) (v := .ref (h 4)) (C := "BoilerDesk") (T := TD) (N := 13) hx hb hts inD hown hK hP 0 rfl rfl 3 (by decide) (hts _ q_275) (fun _ h9 => h9) rfl dD_state_105 ?_
                refine va_get (D := D) (ci := 2) (v := .int (w0 27)) (C := "BoilerDesk$Machines") (T := TM) (N := 4) hx hb hts inM hown hK hP 4 rfl rfl 0 (by decide) (hts _ q_175) (fun _ h9 => h9) rfl dD_state_108 ?_
                exact tx_ret (W.widen (k := 1) (n := 6) (Nat.le_of_ble_eq_true rfl) (Nat.le_of_ble_eq_true rfl) (kb_iret (wf := cw h) hx hb hr hlocks hK hP hD hS ⟨e, rfl⟩ dD_state_111))
              · have e := e.trans (if_neg c_7)
                by_cases c_8 : a1 = 7
                · have e := e.trans (if_pos c_8)
                  refine lv_tableIn (tgt := 112) hx hb dD_state_1 (by rw [c_8]; decide) (by rw [c_8]; decide) (by rw [c_8]; rfl) (by decide) ?_
                  refine lv_aload_n hx hb dD_state_112 rfl (lv_at hl 0 rfl) ?_
                  refine va_get (D := D) (ci := 0) (v := .ref (h 4)) (C := "BoilerDesk") (T := TD) (N := 13) hx hb hts inD hown hK hP 0 rfl rfl 3 (by decide) (hts _ q_275) (fun _ h9 => h9) rfl dD_state_113 ?_
                  refine va_get (D := D) (ci := 2) (v := .int (w0 30)) (C := "BoilerDesk$Machines") (T := TM) (N := 4) hx hb hts inM hown hK hP 4 rfl rfl 3 (by decide) (hts _ q_180) (fun _ h9 => h9) rfl dD_state_116 ?_
                  refine lv_if_eq (tgt := 126) hx hb dD_state_119 (by decide) (fun c_9 => ?_) (fun c_9 => ?_)
                  · have e := e.trans (if_pos c_9)
                    refine lv_iconst (v := 0) hx hb dD_state_126 (by decide) ?_
                    exact tx_ret (W.widen (k := 1) (n := 6) (Nat.le_of_ble_eq_true rfl) (Nat.le_of_ble_eq_true rfl) (kb_iret (wf := cw h) hx hb hr hlocks hK hP hD hS ⟨e, rfl⟩ dD_state_127))
                  · have e := e.trans (if_neg c_9)
                    refine lv_iconst (v := 1) hx hb dD_state_122 (by decide) ?_
                    refine lv_goto (tgt := 127) hx hb dD_state_123 (by decide) ?_
                    exact tx_ret (W.widen (k := 1) (n := 6) (Nat.le_of_ble_eq_true rfl) (Nat.le_of_ble_eq_true rfl) (kb_iret (wf := cw h) hx hb hr hlocks hK hP hD hS ⟨e, rfl⟩ dD_state_127))
                · have e := e.trans (if_neg c_8)
                  by_cases c_10 : a1 = 8
                  · have e := e.trans (if_pos c_10)
                    refine lv_tableIn (tgt := 128) hx hb dD_state_1 (by rw [c_10]; decide) (by rw [c_10]; decide) (by rw [c_10]; rfl) (by decide) ?_
                    refine lv_aload_n hx hb dD_state_128 rfl (lv_at hl 0 rfl) ?_
                    refine va_get (D := D) (ci := 0) (v := .int (w0 0)) (C := "BoilerDesk") (T := TD) (N := 13) hx hb hts inD hown hK hP 0 rfl rfl 9 (by decide) (hts _ q_281) (fun _ h9 => h9) rfl dD_state_129 ?_
                    exact tx_ret (W.widen (k := 1) (n := 6) (Nat.le_of_ble_eq_true rfl) (Nat.le_of_ble_eq_true rfl) (kb_iret (wf := cw h) hx hb hr hlocks hK hP hD hS ⟨e, rfl⟩ dD_state_132))
                  · have e := e.trans (if_neg c_10)
                    by_cases c_11 : a1 = 9
                    · have e := e.trans (if_pos c_11)
                      refine lv_tableIn (tgt := 133) hx hb dD_state_1 (by rw [c_11]; decide) (by rw [c_11]; decide) (by rw [c_11]; rfl) (by decide) ?_
                      refine lv_aload_n hx hb dD_state_133 rfl (lv_at hl 0 rfl) ?_
                      refine va_get (D := D) (ci := 0) (v := .int (w0 1)) (C := "BoilerDesk") (T := TD) (N := 13) hx hb hts inD hown hK hP 0 rfl rfl 10 (by decide) (hts _ q_282) (fun _ h9 => h9) rfl dD_state_134 ?_
                      exact tx_ret (W.widen (k := 1) (n := 6) (Nat.le_of_ble_eq_true rfl) (Nat.le_of_ble_eq_true rfl) (kb_iret (wf := cw h) hx hb hr hlocks hK hP hD hS ⟨e, rfl⟩ dD_state_137))
                    · have e := e.trans (if_neg c_11)
                      have h9 : (a1).toInt < 0 ∨ 9 < (a1).toInt := by
                        have t0 := ne_ti c_1 (j := 0) (by decide)
                        have t1 := ne_ti c_2 (j := 1) (by decide)
                        have t2 := ne_ti c_3 (j := 2) (by decide)
                        have t3 := ne_ti c_4 (j := 3) (by decide)
                        have t4 := ne_ti c_5 (j := 4) (by decide)
                        have t5 := ne_ti c_6 (j := 5) (by decide)
                        have t6 := ne_ti c_7 (j := 6) (by decide)
                        have t7 := ne_ti c_8 (j := 7) (by decide)
                        have t8 := ne_ti c_10 (j := 8) (by decide)
                        have t9 := ne_ti c_11 (j := 9) (by decide)
                        omega
                      refine lv_tableOut (tgt := 138) hx hb dD_state_1 h9 (by decide) ?_
                      exact kt_throw (names := kt_up) hx hb hl0 hown (by decide +kernel) (by decide +kernel) (hts _ q_339) (hts _ q_44) (fun w hw => kt_word hN hT (kt_iae w hw)) (hT.1.2 (194, "the state has nothing of that number") (by decide)) hz (hl.1.trans hml.symm) hout hlocks dD_state_138 dD_state_141 dD_state_142 dD_state_144 dD_state_147 (Nat.le_of_ble_eq_true rfl) (Nat.le_of_ble_eq_true rfl) (Nat.le_of_ble_eq_true rfl) (Nat.le_of_ble_eq_true rfl) (kt_xc e hP0 hK hD0) (Nat.le_of_ble_eq_true rfl) (Nat.le_of_ble_eq_true rfl)
