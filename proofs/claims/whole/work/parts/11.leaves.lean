/-- BoilerDesk$Span.put(II)V -/
def F_S_put_6 (w0 : Nat → Int32) (a1 : Int32) (a2 : Int32) : Nat → Int32 := (up (up w0 38 a1) 39 a2)
set_option maxHeartbeats 4000000 in
set_option maxRecDepth 100000 in
theorem c_S_put_6 (l : Launch) (D : va_G) (h : Nat → Nat) (sz : Nat) (w0 : Nat → Int32) (a1 : Int32) (a2 : Int32)  : Met l yS_put [.code yS_put cS_put 3 none] ({ frames := 0, cells := 0, slots := 0, locals := 0 }) (va_Pc [.ref (h 6), .int a1, .int a2] (kb_B D [] (cw h) w0 sz)) (va_Qv (fun u' => u' = F_S_put_6 w0 a1 a2) (kb_E D [] (cw h) (va_A (cw h w0) sz)) (va_A (cw h w0) sz)) 0 0 (va_A (cw h w0) sz) := by
  refine kb_of (cc := cS_put) (maxL := 3) (ret := none) (QcA := fun A => (va_Qv (fun u' => u' = F_S_put_6 w0 a1 a2) (kb_E D [] (cw h) A) A)) (by decide) (Nat.le_of_ble_eq_true rfl) ?_
  intro p e s m below meth c A hx hb hr hlocks hml hown hts hA hN hK hP hD ls hl
  have hS : va_S A s.heap s.heap [] := va_S.rf
  have hl : lv_has ls 3 [(0, .ref (h 6)), (1, .int a1), (2, .int a2)] := hl
  have e : F_S_put_6 w0 a1 a2 = F_S_put_6 w0 a1 a2 := rfl
  refine lv_aload_n hx hb dS_put_0 rfl (lv_at hl 0 rfl) ?_
  refine lv_iload_n hx hb dS_put_1 rfl (lv_at hl 1 rfl) ?_
  refine kb_put (D := D) (wf := cw h) (w' := (up w0 38 a1)) (ci := 5) (v := .int a1) (ty := .int) (C := "BoilerDesk$Span") (T := TS) (N := 2) hx hb hts inS tyS tyS_ok nmS hown hK hP hD hS 6 rfl rfl 0 (by decide) (hts _ q_231) (fun _ h9 => h9) rfl (by decide +kernel) rfl rfl (Nat.le_of_ble_eq_true rfl) dS_put_2 rfl (fun H locs hP hD hS => ?_)
  refine lv_aload_n hx hb dS_put_5 rfl (lv_at hl 0 rfl) ?_
  refine lv_iload_n hx hb dS_put_6 rfl (lv_at hl 2 rfl) ?_
  refine kb_put (D := D) (wf := cw h) (w' := (up (up w0 38 a1) 39 a2)) (ci := 5) (v := .int a2) (ty := .int) (C := "BoilerDesk$Span") (T := TS) (N := 2) hx hb hts inS tyS tyS_ok nmS hown hK hP hD hS 6 rfl rfl 1 (by decide) (hts _ q_233) (fun _ h9 => h9) rfl (by decide +kernel) rfl rfl (Nat.le_of_ble_eq_true rfl) dS_put_7 rfl (fun H locs hP hD hS => ?_)
  exact kb_vret (wf := cw h) hx hb hr hlocks hK hP hD hS e.symm dS_put_10
/-- BoilerDesk$Span.put(II)V -/
def F_S_put_7 (w0 : Nat → Int32) (a1 : Int32) (a2 : Int32) : Nat → Int32 := (up (up w0 40 a1) 41 a2)
set_option maxHeartbeats 4000000 in
set_option maxRecDepth 100000 in
theorem c_S_put_7 (l : Launch) (D : va_G) (h : Nat → Nat) (sz : Nat) (w0 : Nat → Int32) (a1 : Int32) (a2 : Int32)  : Met l yS_put [.code yS_put cS_put 3 none] ({ frames := 0, cells := 0, slots := 0, locals := 0 }) (va_Pc [.ref (h 7), .int a1, .int a2] (kb_B D [] (cw h) w0 sz)) (va_Qv (fun u' => u' = F_S_put_7 w0 a1 a2) (kb_E D [] (cw h) (va_A (cw h w0) sz)) (va_A (cw h w0) sz)) 0 0 (va_A (cw h w0) sz) := by
  refine kb_of (cc := cS_put) (maxL := 3) (ret := none) (QcA := fun A => (va_Qv (fun u' => u' = F_S_put_7 w0 a1 a2) (kb_E D [] (cw h) A) A)) (by decide) (Nat.le_of_ble_eq_true rfl) ?_
  intro p e s m below meth c A hx hb hr hlocks hml hown hts hA hN hK hP hD ls hl
  have hS : va_S A s.heap s.heap [] := va_S.rf
  have hl : lv_has ls 3 [(0, .ref (h 7)), (1, .int a1), (2, .int a2)] := hl
  have e : F_S_put_7 w0 a1 a2 = F_S_put_7 w0 a1 a2 := rfl
  refine lv_aload_n hx hb dS_put_0 rfl (lv_at hl 0 rfl) ?_
  refine lv_iload_n hx hb dS_put_1 rfl (lv_at hl 1 rfl) ?_
  refine kb_put (D := D) (wf := cw h) (w' := (up w0 40 a1)) (ci := 5) (v := .int a1) (ty := .int) (C := "BoilerDesk$Span") (T := TS) (N := 2) hx hb hts inS tyS tyS_ok nmS hown hK hP hD hS 7 rfl rfl 0 (by decide) (hts _ q_231) (fun _ h9 => h9) rfl (by decide +kernel) rfl rfl (Nat.le_of_ble_eq_true rfl) dS_put_2 rfl (fun H locs hP hD hS => ?_)
  refine lv_aload_n hx hb dS_put_5 rfl (lv_at hl 0 rfl) ?_
  refine lv_iload_n hx hb dS_put_6 rfl (lv_at hl 2 rfl) ?_
  refine kb_put (D := D) (wf := cw h) (w' := (up (up w0 40 a1) 41 a2)) (ci := 5) (v := .int a2) (ty := .int) (C := "BoilerDesk$Span") (T := TS) (N := 2) hx hb hts inS tyS tyS_ok nmS hown hK hP hD hS 7 rfl rfl 1 (by decide) (hts _ q_233) (fun _ h9 => h9) rfl (by decide +kernel) rfl rfl (Nat.le_of_ble_eq_true rfl) dS_put_7 rfl (fun H locs hP hD hS => ?_)
  exact kb_vret (wf := cw h) hx hb hr hlocks hK hP hD hS e.symm dS_put_10
/-- BoilerDesk$Span.put(II)V -/
def F_S_put_8 (w0 : Nat → Int32) (a1 : Int32) (a2 : Int32) : Nat → Int32 := (up (up w0 42 a1) 43 a2)
set_option maxHeartbeats 4000000 in
set_option maxRecDepth 100000 in
theorem c_S_put_8 (l : Launch) (D : va_G) (h : Nat → Nat) (sz : Nat) (w0 : Nat → Int32) (a1 : Int32) (a2 : Int32)  : Met l yS_put [.code yS_put cS_put 3 none] ({ frames := 0, cells := 0, slots := 0, locals := 0 }) (va_Pc [.ref (h 8), .int a1, .int a2] (kb_B D [] (cw h) w0 sz)) (va_Qv (fun u' => u' = F_S_put_8 w0 a1 a2) (kb_E D [] (cw h) (va_A (cw h w0) sz)) (va_A (cw h w0) sz)) 0 0 (va_A (cw h w0) sz) := by
  refine kb_of (cc := cS_put) (maxL := 3) (ret := none) (QcA := fun A => (va_Qv (fun u' => u' = F_S_put_8 w0 a1 a2) (kb_E D [] (cw h) A) A)) (by decide) (Nat.le_of_ble_eq_true rfl) ?_
  intro p e s m below meth c A hx hb hr hlocks hml hown hts hA hN hK hP hD ls hl
  have hS : va_S A s.heap s.heap [] := va_S.rf
  have hl : lv_has ls 3 [(0, .ref (h 8)), (1, .int a1), (2, .int a2)] := hl
  have e : F_S_put_8 w0 a1 a2 = F_S_put_8 w0 a1 a2 := rfl
  refine lv_aload_n hx hb dS_put_0 rfl (lv_at hl 0 rfl) ?_
  refine lv_iload_n hx hb dS_put_1 rfl (lv_at hl 1 rfl) ?_
  refine kb_put (D := D) (wf := cw h) (w' := (up w0 42 a1)) (ci := 5) (v := .int a1) (ty := .int) (C := "BoilerDesk$Span") (T := TS) (N := 2) hx hb hts inS tyS tyS_ok nmS hown hK hP hD hS 8 rfl rfl 0 (by decide) (hts _ q_231) (fun _ h9 => h9) rfl (by decide +kernel) rfl rfl (Nat.le_of_ble_eq_true rfl) dS_put_2 rfl (fun H locs hP hD hS => ?_)
  refine lv_aload_n hx hb dS_put_5 rfl (lv_at hl 0 rfl) ?_
  refine lv_iload_n hx hb dS_put_6 rfl (lv_at hl 2 rfl) ?_
  refine kb_put (D := D) (wf := cw h) (w' := (up (up w0 42 a1) 43 a2)) (ci := 5) (v := .int a2) (ty := .int) (C := "BoilerDesk$Span") (T := TS) (N := 2) hx hb hts inS tyS tyS_ok nmS hown hK hP hD hS 8 rfl rfl 1 (by decide) (hts _ q_233) (fun _ h9 => h9) rfl (by decide +kernel) rfl rfl (Nat.le_of_ble_eq_true rfl) dS_put_7 rfl (fun H locs hP hD hS => ?_)
  exact kb_vret (wf := cw h) hx hb hr hlocks hK hP hD hS e.symm dS_put_10
/-- BoilerDesk$Span.put(II)V -/
def F_S_put_9 (w0 : Nat → Int32) (a1 : Int32) (a2 : Int32) : Nat → Int32 := (up (up w0 44 a1) 45 a2)
set_option maxHeartbeats 4000000 in
set_option maxRecDepth 100000 in
theorem c_S_put_9 (l : Launch) (D : va_G) (h : Nat → Nat) (sz : Nat) (w0 : Nat → Int32) (a1 : Int32) (a2 : Int32)  : Met l yS_put [.code yS_put cS_put 3 none] ({ frames := 0, cells := 0, slots := 0, locals := 0 }) (va_Pc [.ref (h 9), .int a1, .int a2] (kb_B D [] (cw h) w0 sz)) (va_Qv (fun u' => u' = F_S_put_9 w0 a1 a2) (kb_E D [] (cw h) (va_A (cw h w0) sz)) (va_A (cw h w0) sz)) 0 0 (va_A (cw h w0) sz) := by
  refine kb_of (cc := cS_put) (maxL := 3) (ret := none) (QcA := fun A => (va_Qv (fun u' => u' = F_S_put_9 w0 a1 a2) (kb_E D [] (cw h) A) A)) (by decide) (Nat.le_of_ble_eq_true rfl) ?_
  intro p e s m below meth c A hx hb hr hlocks hml hown hts hA hN hK hP hD ls hl
  have hS : va_S A s.heap s.heap [] := va_S.rf
  have hl : lv_has ls 3 [(0, .ref (h 9)), (1, .int a1), (2, .int a2)] := hl
  have e : F_S_put_9 w0 a1 a2 = F_S_put_9 w0 a1 a2 := rfl
  refine lv_aload_n hx hb dS_put_0 rfl (lv_at hl 0 rfl) ?_
  refine lv_iload_n hx hb dS_put_1 rfl (lv_at hl 1 rfl) ?_
  refine kb_put (D := D) (wf := cw h) (w' := (up w0 44 a1)) (ci := 5) (v := .int a1) (ty := .int) (C := "BoilerDesk$Span") (T := TS) (N := 2) hx hb hts inS tyS tyS_ok nmS hown hK hP hD hS 9 rfl rfl 0 (by decide) (hts _ q_231) (fun _ h9 => h9) rfl (by decide +kernel) rfl rfl (Nat.le_of_ble_eq_true rfl) dS_put_2 rfl (fun H locs hP hD hS => ?_)
  refine lv_aload_n hx hb dS_put_5 rfl (lv_at hl 0 rfl) ?_
  refine lv_iload_n hx hb dS_put_6 rfl (lv_at hl 2 rfl) ?_
  refine kb_put (D := D) (wf := cw h) (w' := (up (up w0 44 a1) 45 a2)) (ci := 5) (v := .int a2) (ty := .int) (C := "BoilerDesk$Span") (T := TS) (N := 2) hx hb hts inS tyS tyS_ok nmS hown hK hP hD hS 9 rfl rfl 1 (by decide) (hts _ q_233) (fun _ h9 => h9) rfl (by decide +kernel) rfl rfl (Nat.le_of_ble_eq_true rfl) dS_put_7 rfl (fun H locs hP hD hS => ?_)
  exact kb_vret (wf := cw h) hx hb hr hlocks hK hP hD hS e.symm dS_put_10
/-- BoilerDesk$Span.holds(I)Z -/
def F_S_holds_8 (w0 : Nat → Int32) (a1 : Int32) : Int32 := (F_D_isWithin a1 (w0 42) (w0 43))
set_option maxHeartbeats 4000000 in
set_option maxRecDepth 100000 in
theorem c_S_holds_8 (l : Launch) (D : va_G) (h : Nat → Nat) (sz : Nat) (w0 : Nat → Int32) (a1 : Int32)  : Met l yS_holds [.code yS_holds cS_holds 2 (some .boolean)] ({ frames := 1, cells := 0, slots := 0, locals := 22 }) (va_Pc [.ref (h 8), .int a1] (kb_B D [] (cw h) w0 sz)) (va_Qi (fun r' u' => r' = F_S_holds_8 w0 a1 ∧ u' = w0) (kb_E D [] (cw h) (va_A (cw h w0) sz)) (va_A (cw h w0) sz)) 0 0 (va_A (cw h w0) sz) := by
  refine kb_of (cc := cS_holds) (maxL := 2) (ret := (some .boolean)) (QcA := fun A => (va_Qi (fun r' u' => r' = F_S_holds_8 w0 a1 ∧ u' = w0) (kb_E D [] (cw h) A) A)) (by decide) (Nat.le_of_ble_eq_true rfl) ?_
  intro p e s m below meth c A hx hb hr hlocks hml hown hts hA hN hK hP hD ls hl
  have hS : va_S A s.heap s.heap [] := va_S.rf
  have hl : lv_has ls 2 [(0, .ref (h 8)), (1, .int a1)] := hl
  have e : F_S_holds_8 w0 a1 = F_S_holds_8 w0 a1 := rfl
  refine lv_iload_n hx hb dS_holds_0 rfl (lv_at hl 1 rfl) ?_
  refine lv_aload_n hx hb dS_holds_1 rfl (lv_at hl 0 rfl) ?_
  refine va_get (D := D) (ci := 5) (v := .int (w0 42)) (C := "BoilerDesk$Span") (T := TS) (N := 2) hx hb hts inS hown hK hP 8 rfl rfl 0 (by decide) (hts _ q_231) (fun _ h9 => h9) rfl dS_holds_2 ?_
  refine lv_aload_n hx hb dS_holds_5 rfl (lv_at hl 0 rfl) ?_
  refine va_get (D := D) (ci := 5) (v := .int (w0 43)) (C := "BoilerDesk$Span") (T := TS) (N := 2) hx hb hts inS hown hK hP 8 rfl rfl 1 (by decide) (hts _ q_233) (fun _ h9 => h9) rfl dS_holds_6 ?_
  refine kb_call0 (r := (F_D_isWithin a1 (w0 42) (w0 43))) (va_runSN (As := [.int a1, .int (w0 42), .int (w0 43)]) (rest := []) ⟨hx, hb, hml, hown, hts⟩ (c_D_isWithin l D _ a1 (w0 42) (w0 43)) ⟨va_cnB 3 hts (gd_1 q_338) rfl rfl rfl (hN _ q_547) (hts _ q_33) (by decide +kernel) ⟨Nat.le_of_ble_eq_true rfl, Nat.le_of_ble_eq_true rfl⟩, hts _ q_337, trivial⟩ (kb_pre0 hN hK) rfl rfl hl.1 rfl (lv_room (Nat.le_of_ble_eq_true rfl)) dS_holds_9 ⟨Nat.zero_le _, Nat.zero_le _⟩) hP hS hA (fun H locs hP hS => ?_)
  exact kb_zret (wf := cw h) hx hb hr hlocks (zb_n (z_D_isWithin a1 (w0 42) (w0 43))) hK hP hD hS ⟨e.symm, rfl⟩ dS_holds_12
theorem z_S_holds_8 (w0 : Nat → Int32) (a1 : Int32) : F_S_holds_8 w0 a1 = 0 ∨ F_S_holds_8 w0 a1 = 1 := by
  unfold F_S_holds_8
  repeat' split
  all_goals first | exact Or.inl rfl | exact Or.inr rfl | exact z_D_isWithin _ _ _ | exact z_D_isWithin _ _
/-- BoilerDesk$Span.holds(I)Z -/
def F_S_holds_9 (w0 : Nat → Int32) (a1 : Int32) : Int32 := (F_D_isWithin a1 (w0 44) (w0 45))
set_option maxHeartbeats 4000000 in
set_option maxRecDepth 100000 in
theorem c_S_holds_9 (l : Launch) (D : va_G) (h : Nat → Nat) (sz : Nat) (w0 : Nat → Int32) (a1 : Int32)  : Met l yS_holds [.code yS_holds cS_holds 2 (some .boolean)] ({ frames := 1, cells := 0, slots := 0, locals := 22 }) (va_Pc [.ref (h 9), .int a1] (kb_B D [] (cw h) w0 sz)) (va_Qi (fun r' u' => r' = F_S_holds_9 w0 a1 ∧ u' = w0) (kb_E D [] (cw h) (va_A (cw h w0) sz)) (va_A (cw h w0) sz)) 0 0 (va_A (cw h w0) sz) := by
  refine kb_of (cc := cS_holds) (maxL := 2) (ret := (some .boolean)) (QcA := fun A => (va_Qi (fun r' u' => r' = F_S_holds_9 w0 a1 ∧ u' = w0) (kb_E D [] (cw h) A) A)) (by decide) (Nat.le_of_ble_eq_true rfl) ?_
  intro p e s m below meth c A hx hb hr hlocks hml hown hts hA hN hK hP hD ls hl
  have hS : va_S A s.heap s.heap [] := va_S.rf
  have hl : lv_has ls 2 [(0, .ref (h 9)), (1, .int a1)] := hl
  have e : F_S_holds_9 w0 a1 = F_S_holds_9 w0 a1 := rfl
  refine lv_iload_n hx hb dS_holds_0 rfl (lv_at hl 1 rfl) ?_
  refine lv_aload_n hx hb dS_holds_1 rfl (lv_at hl 0 rfl) ?_
  refine va_get (D := D) (ci := 5) (v := .int (w0 44)) (C := "BoilerDesk$Span") (T := TS) (N := 2) hx hb hts inS hown hK hP 9 rfl rfl 0 (by decide) (hts _ q_231) (fun _ h9 => h9) rfl dS_holds_2 ?_
  refine lv_aload_n hx hb dS_holds_5 rfl (lv_at hl 0 rfl) ?_
  refine va_get (D := D) (ci := 5) (v := .int (w0 45)) (C := "BoilerDesk$Span") (T := TS) (N := 2) hx hb hts inS hown hK hP 9 rfl rfl 1 (by decide) (hts _ q_233) (fun _ h9 => h9) rfl dS_holds_6 ?_
  refine kb_call0 (r := (F_D_isWithin a1 (w0 44) (w0 45))) (va_runSN (As := [.int a1, .int (w0 44), .int (w0 45)]) (rest := []) ⟨hx, hb, hml, hown, hts⟩ (c_D_isWithin l D _ a1 (w0 44) (w0 45)) ⟨va_cnB 3 hts (gd_1 q_338) rfl rfl rfl (hN _ q_547) (hts _ q_33) (by decide +kernel) ⟨Nat.le_of_ble_eq_true rfl, Nat.le_of_ble_eq_true rfl⟩, hts _ q_337, trivial⟩ (kb_pre0 hN hK) rfl rfl hl.1 rfl (lv_room (Nat.le_of_ble_eq_true rfl)) dS_holds_9 ⟨Nat.zero_le _, Nat.zero_le _⟩) hP hS hA (fun H locs hP hS => ?_)
  exact kb_zret (wf := cw h) hx hb hr hlocks (zb_n (z_D_isWithin a1 (w0 44) (w0 45))) hK hP hD hS ⟨e.symm, rfl⟩ dS_holds_12
theorem z_S_holds_9 (w0 : Nat → Int32) (a1 : Int32) : F_S_holds_9 w0 a1 = 0 ∨ F_S_holds_9 w0 a1 = 1 := by
  unfold F_S_holds_9
  repeat' split
  all_goals first | exact Or.inl rfl | exact Or.inr rfl | exact z_D_isWithin _ _ _ | exact z_D_isWithin _ _
/-- BoilerDesk$Plant.setLimits(IIIII)V -/
def F_P_setLimits (w0 : Nat → Int32) (a1 : Int32) (a2 : Int32) (a3 : Int32) (a4 : Int32) (a5 : Int32) : Nat → Int32 := (up (up (up (up (up w0 4 a1) 5 a2) 6 a3) 7 a4) 8 a5)
set_option maxHeartbeats 4000000 in
set_option maxRecDepth 100000 in
theorem c_P_setLimits (l : Launch) (D : va_G) (h : Nat → Nat) (sz : Nat) (w0 : Nat → Int32) (a1 : Int32) (a2 : Int32) (a3 : Int32) (a4 : Int32) (a5 : Int32)  : Met l yP_setLimits [.code yP_setLimits cP_setLimits 6 none] ({ frames := 0, cells := 0, slots := 0, locals := 0 }) (va_Pc [.ref (h 1), .int a1, .int a2, .int a3, .int a4, .int a5] (kb_B D [] (cw h) w0 sz)) (va_Qv (fun u' => u' = F_P_setLimits w0 a1 a2 a3 a4 a5) (kb_E D [] (cw h) (va_A (cw h w0) sz)) (va_A (cw h w0) sz)) 0 0 (va_A (cw h w0) sz) := by
  refine kb_of (cc := cP_setLimits) (maxL := 6) (ret := none) (QcA := fun A => (va_Qv (fun u' => u' = F_P_setLimits w0 a1 a2 a3 a4 a5) (kb_E D [] (cw h) A) A)) (by decide) (Nat.le_of_ble_eq_true rfl) ?_
  intro p e s m below meth c A hx hb hr hlocks hml hown hts hA hN hK hP hD ls hl
  have hS : va_S A s.heap s.heap [] := va_S.rf
  have hl : lv_has ls 6 [(0, .ref (h 1)), (1, .int a1), (2, .int a2), (3, .int a3), (4, .int a4), (5, .int a5)] := hl
  have e : F_P_setLimits w0 a1 a2 a3 a4 a5 = F_P_setLimits w0 a1 a2 a3 a4 a5 := rfl
  refine lv_aload_n hx hb dP_setLimits_0 rfl (lv_at hl 0 rfl) ?_
  refine lv_iload_n hx hb dP_setLimits_1 rfl (lv_at hl 1 rfl) ?_
  refine kb_put (D := D) (wf := cw h) (w' := (up w0 4 a1)) (ci := 3) (v := .int a1) (ty := .int) (C := "BoilerDesk$Plant") (T := TP) (N := 9) hx hb hts inP tyP tyP_ok nmP hown hK hP hD hS 1 rfl rfl 0 (by decide) (hts _ q_62) (fun _ h9 => h9) rfl (by decide +kernel) rfl rfl (Nat.le_of_ble_eq_true rfl) dP_setLimits_2 rfl (fun H locs hP hD hS => ?_)
  refine lv_aload_n hx hb dP_setLimits_5 rfl (lv_at hl 0 rfl) ?_
  refine lv_iload_n hx hb dP_setLimits_6 rfl (lv_at hl 2 rfl) ?_
  refine kb_put (D := D) (wf := cw h) (w' := (up (up w0 4 a1) 5 a2)) (ci := 3) (v := .int a2) (ty := .int) (C := "BoilerDesk$Plant") (T := TP) (N := 9) hx hb hts inP tyP tyP_ok nmP hown hK hP hD hS 1 rfl rfl 1 (by decide) (hts _ q_64) (fun _ h9 => h9) rfl (by decide +kernel) rfl rfl (Nat.le_of_ble_eq_true rfl) dP_setLimits_7 rfl (fun H locs hP hD hS => ?_)
  refine lv_aload_n hx hb dP_setLimits_10 rfl (lv_at hl 0 rfl) ?_
  refine lv_iload_n hx hb dP_setLimits_11 rfl (lv_at hl 3 rfl) ?_
  refine kb_put (D := D) (wf := cw h) (w' := (up (up (up w0 4 a1) 5 a2) 6 a3)) (ci := 3) (v := .int a3) (ty := .int) (C := "BoilerDesk$Plant") (T := TP) (N := 9) hx hb hts inP tyP tyP_ok nmP hown hK hP hD hS 1 rfl rfl 2 (by decide) (hts _ q_66) (fun _ h9 => h9) rfl (by decide +kernel) rfl rfl (Nat.le_of_ble_eq_true rfl) dP_setLimits_12 rfl (fun H locs hP hD hS => ?_)
  refine lv_aload_n hx hb dP_setLimits_15 rfl (lv_at hl 0 rfl) ?_
  refine lv_iload hx hb dP_setLimits_16 (lv_at hl 4 rfl) ?_
  refine kb_put (D := D) (wf := cw h) (w' := (up (up (up (up w0 4 a1) 5 a2) 6 a3) 7 a4)) (ci := 3) (v := .int a4) (ty := .int) (C := "BoilerDesk$Plant") (T := TP) (N := 9) hx hb hts inP tyP tyP_ok nmP hown hK hP hD hS 1 rfl rfl 3 (by decide) (hts _ q_68) (fun _ h9 => h9) rfl (by decide +kernel) rfl rfl (Nat.le_of_ble_eq_true rfl) dP_setLimits_18 rfl (fun H locs hP hD hS => ?_)
  refine lv_aload_n hx hb dP_setLimits_21 rfl (lv_at hl 0 rfl) ?_
  refine lv_iload hx hb dP_setLimits_22 (lv_at hl 5 rfl) ?_
  refine kb_put (D := D) (wf := cw h) (w' := (up (up (up (up (up w0 4 a1) 5 a2) 6 a3) 7 a4) 8 a5)) (ci := 3) (v := .int a5) (ty := .int) (C := "BoilerDesk$Plant") (T := TP) (N := 9) hx hb hts inP tyP tyP_ok nmP hown hK hP hD hS 1 rfl rfl 4 (by decide) (hts _ q_70) (fun _ h9 => h9) rfl (by decide +kernel) rfl rfl (Nat.le_of_ble_eq_true rfl) dP_setLimits_24 rfl (fun H locs hP hD hS => ?_)
  exact kb_vret (wf := cw h) hx hb hr hlocks hK hP hD hS e.symm dP_setLimits_27
/-- BoilerDesk$Plant.setRates(IIII)V -/
def F_P_setRates (w0 : Nat → Int32) (a1 : Int32) (a2 : Int32) (a3 : Int32) (a4 : Int32) : Nat → Int32 := (up (up (up (up w0 9 a1) 10 a2) 11 a3) 12 a4)
set_option maxHeartbeats 4000000 in
set_option maxRecDepth 100000 in
theorem c_P_setRates (l : Launch) (D : va_G) (h : Nat → Nat) (sz : Nat) (w0 : Nat → Int32) (a1 : Int32) (a2 : Int32) (a3 : Int32) (a4 : Int32)  : Met l yP_setRates [.code yP_setRates cP_setRates 5 none] ({ frames := 0, cells := 0, slots := 0, locals := 0 }) (va_Pc [.ref (h 1), .int a1, .int a2, .int a3, .int a4] (kb_B D [] (cw h) w0 sz)) (va_Qv (fun u' => u' = F_P_setRates w0 a1 a2 a3 a4) (kb_E D [] (cw h) (va_A (cw h w0) sz)) (va_A (cw h w0) sz)) 0 0 (va_A (cw h w0) sz) := by
  refine kb_of (cc := cP_setRates) (maxL := 5) (ret := none) (QcA := fun A => (va_Qv (fun u' => u' = F_P_setRates w0 a1 a2 a3 a4) (kb_E D [] (cw h) A) A)) (by decide) (Nat.le_of_ble_eq_true rfl) ?_
  intro p e s m below meth c A hx hb hr hlocks hml hown hts hA hN hK hP hD ls hl
  have hS : va_S A s.heap s.heap [] := va_S.rf
  have hl : lv_has ls 5 [(0, .ref (h 1)), (1, .int a1), (2, .int a2), (3, .int a3), (4, .int a4)] := hl
  have e : F_P_setRates w0 a1 a2 a3 a4 = F_P_setRates w0 a1 a2 a3 a4 := rfl
  refine lv_aload_n hx hb dP_setRates_0 rfl (lv_at hl 0 rfl) ?_
  refine lv_iload_n hx hb dP_setRates_1 rfl (lv_at hl 1 rfl) ?_
  refine kb_put (D := D) (wf := cw h) (w' := (up w0 9 a1)) (ci := 3) (v := .int a1) (ty := .int) (C := "BoilerDesk$Plant") (T := TP) (N := 9) hx hb hts inP tyP tyP_ok nmP hown hK hP hD hS 1 rfl rfl 5 (by decide) (hts _ q_72) (fun _ h9 => h9) rfl (by decide +kernel) rfl rfl (Nat.le_of_ble_eq_true rfl) dP_setRates_2 rfl (fun H locs hP hD hS => ?_)
  refine lv_aload_n hx hb dP_setRates_5 rfl (lv_at hl 0 rfl) ?_
  refine lv_iload_n hx hb dP_setRates_6 rfl (lv_at hl 2 rfl) ?_
  refine kb_put (D := D) (wf := cw h) (w' := (up (up w0 9 a1) 10 a2)) (ci := 3) (v := .int a2) (ty := .int) (C := "BoilerDesk$Plant") (T := TP) (N := 9) hx hb hts inP tyP tyP_ok nmP hown hK hP hD hS 1 rfl rfl 6 (by decide) (hts _ q_74) (fun _ h9 => h9) rfl (by decide +kernel) rfl rfl (Nat.le_of_ble_eq_true rfl) dP_setRates_7 rfl (fun H locs hP hD hS => ?_)
  refine lv_aload_n hx hb dP_setRates_10 rfl (lv_at hl 0 rfl) ?_
  refine lv_iload_n hx hb dP_setRates_11 rfl (lv_at hl 3 rfl) ?_
  refine kb_put (D := D) (wf := cw h) (w' := (up (up (up w0 9 a1) 10 a2) 11 a3)) (ci := 3) (v := .int a3) (ty := .int) (C := "BoilerDesk$Plant") (T := TP) (N := 9) hx hb hts inP tyP tyP_ok nmP hown hK hP hD hS 1 rfl rfl 7 (by decide) (hts _ q_76) (fun _ h9 => h9) rfl (by decide +kernel) rfl rfl (Nat.le_of_ble_eq_true rfl) dP_setRates_12 rfl (fun H locs hP hD hS => ?_)
  refine lv_aload_n hx hb dP_setRates_15 rfl (lv_at hl 0 rfl) ?_
  refine lv_iload hx hb dP_setRates_16 (lv_at hl 4 rfl) ?_
  refine kb_put (D := D) (wf := cw h) (w' := (up (up (up (up w0 9 a1) 10 a2) 11 a3) 12 a4)) (ci := 3) (v := .int a4) (ty := .int) (C := "BoilerDesk$Plant") (T := TP) (N := 9) hx hb hts inP tyP tyP_ok nmP hown hK hP hD hS 1 rfl rfl 8 (by decide) (hts _ q_78) (fun _ h9 => h9) rfl (by decide +kernel) rfl rfl (Nat.le_of_ble_eq_true rfl) dP_setRates_18 rfl (fun H locs hP hD hS => ?_)
  exact kb_vret (wf := cw h) hx hb hr hlocks hK hP hD hS e.symm dP_setRates_21
/-- BoilerDesk$Plant.isNormalLevel(I)Z -/
def F_P_isNormalLevel (w0 : Nat → Int32) (a1 : Int32) : Int32 := (F_D_isWithin a1 (w0 6) (w0 7))
set_option maxHeartbeats 4000000 in
set_option maxRecDepth 100000 in
theorem c_P_isNormalLevel (l : Launch) (D : va_G) (h : Nat → Nat) (sz : Nat) (w0 : Nat → Int32) (a1 : Int32)  : Met l yP_isNormalLevel [.code yP_isNormalLevel cP_isNormalLevel 2 (some .boolean)] ({ frames := 1, cells := 0, slots := 0, locals := 22 }) (va_Pc [.ref (h 1), .int a1] (kb_B D [] (cw h) w0 sz)) (va_Qi (fun r' u' => r' = F_P_isNormalLevel w0 a1 ∧ u' = w0) (kb_E D [] (cw h) (va_A (cw h w0) sz)) (va_A (cw h w0) sz)) 0 0 (va_A (cw h w0) sz) := by
  refine kb_of (cc := cP_isNormalLevel) (maxL := 2) (ret := (some .boolean)) (QcA := fun A => (va_Qi (fun r' u' => r' = F_P_isNormalLevel w0 a1 ∧ u' = w0) (kb_E D [] (cw h) A) A)) (by decide) (Nat.le_of_ble_eq_true rfl) ?_
  intro p e s m below meth c A hx hb hr hlocks hml hown hts hA hN hK hP hD ls hl
  have hS : va_S A s.heap s.heap [] := va_S.rf
  have hl : lv_has ls 2 [(0, .ref (h 1)), (1, .int a1)] := hl
  have e : F_P_isNormalLevel w0 a1 = F_P_isNormalLevel w0 a1 := rfl
  refine lv_iload_n hx hb dP_isNormalLevel_0 rfl (lv_at hl 1 rfl) ?_
  refine lv_aload_n hx hb dP_isNormalLevel_1 rfl (lv_at hl 0 rfl) ?_
  refine va_get (D := D) (ci := 3) (v := .int (w0 6)) (C := "BoilerDesk$Plant") (T := TP) (N := 9) hx hb hts inP hown hK hP 1 rfl rfl 2 (by decide) (hts _ q_66) (fun _ h9 => h9) rfl dP_isNormalLevel_2 ?_
  refine lv_aload_n hx hb dP_isNormalLevel_5 rfl (lv_at hl 0 rfl) ?_
  refine va_get (D := D) (ci := 3) (v := .int (w0 7)) (C := "BoilerDesk$Plant") (T := TP) (N := 9) hx hb hts inP hown hK hP 1 rfl rfl 3 (by decide) (hts _ q_68) (fun _ h9 => h9) rfl dP_isNormalLevel_6 ?_
  refine kb_call0 (r := (F_D_isWithin a1 (w0 6) (w0 7))) (va_runSN (As := [.int a1, .int (w0 6), .int (w0 7)]) (rest := []) ⟨hx, hb, hml, hown, hts⟩ (c_D_isWithin l D _ a1 (w0 6) (w0 7)) ⟨va_cnB 3 hts (gd_1 q_338) rfl rfl rfl (hN _ q_572) (hts _ q_33) (by decide +kernel) ⟨Nat.le_of_ble_eq_true rfl, Nat.le_of_ble_eq_true rfl⟩, hts _ q_337, trivial⟩ (kb_pre0 hN hK) rfl rfl hl.1 rfl (lv_room (Nat.le_of_ble_eq_true rfl)) dP_isNormalLevel_9 ⟨Nat.zero_le _, Nat.zero_le _⟩) hP hS hA (fun H locs hP hS => ?_)
  exact kb_zret (wf := cw h) hx hb hr hlocks (zb_n (z_D_isWithin a1 (w0 6) (w0 7))) hK hP hD hS ⟨e.symm, rfl⟩ dP_isNormalLevel_12
theorem z_P_isNormalLevel (w0 : Nat → Int32) (a1 : Int32) : F_P_isNormalLevel w0 a1 = 0 ∨ F_P_isNormalLevel w0 a1 = 1 := by
  unfold F_P_isNormalLevel
  repeat' split
  all_goals first | exact Or.inl rfl | exact Or.inr rfl | exact z_D_isWithin _ _ _ | exact z_D_isWithin _ _
/-- BoilerDesk$Plant.withinCapacity(I)I -/
def F_P_withinCapacity (w0 : Nat → Int32) (a1 : Int32) : Int32 := (if (0 : Int32) < (if (w0 4) < a1 then (w0 4) else a1) then (if (w0 4) < a1 then (w0 4) else a1) else (0 : Int32))
set_option maxHeartbeats 4000000 in
set_option maxRecDepth 100000 in
theorem c_P_withinCapacity (l : Launch) (D : va_G) (h : Nat → Nat) (sz : Nat) (w0 : Nat → Int32) (a1 : Int32)  : Met l yP_withinCapacity [.code yP_withinCapacity cP_withinCapacity 2 (some .int)] ({ frames := 1, cells := 0, slots := 0, locals := 21 }) (va_Pc [.ref (h 1), .int a1] (kb_B D [] (cw h) w0 sz)) (va_Qi (fun r' u' => r' = F_P_withinCapacity w0 a1 ∧ u' = w0) (kb_E D [] (cw h) (va_A (cw h w0) sz)) (va_A (cw h w0) sz)) 0 0 (va_A (cw h w0) sz) := by
  refine kb_of (cc := cP_withinCapacity) (maxL := 2) (ret := (some .int)) (QcA := fun A => (va_Qi (fun r' u' => r' = F_P_withinCapacity w0 a1 ∧ u' = w0) (kb_E D [] (cw h) A) A)) (by decide) (Nat.le_of_ble_eq_true rfl) ?_
  intro p e s m below meth c A hx hb hr hlocks hml hown hts hA hN hK hP hD ls hl
  have hS : va_S A s.heap s.heap [] := va_S.rf
  have hl : lv_has ls 2 [(0, .ref (h 1)), (1, .int a1)] := hl
  have e : F_P_withinCapacity w0 a1 = F_P_withinCapacity w0 a1 := rfl
  refine lv_iconst (v := 0) hx hb dP_withinCapacity_0 (by decide) ?_
  refine lv_iload_n hx hb dP_withinCapacity_1 rfl (lv_at hl 1 rfl) ?_
  refine lv_aload_n hx hb dP_withinCapacity_2 rfl (lv_at hl 0 rfl) ?_
  refine va_get (D := D) (ci := 3) (v := .int (w0 4)) (C := "BoilerDesk$Plant") (T := TP) (N := 9) hx hb hts inP hown hK hP 1 rfl rfl 0 (by decide) (hts _ q_62) (fun _ h9 => h9) rfl dP_withinCapacity_3 ?_
  refine va_mmin hx hb (hml.trans hl.1.symm) hown (hts _ q_537) (hts _ q_510) (hts _ q_46) (hts _ q_511) (Nat.le_of_ble_eq_true rfl) (Nat.le_of_ble_eq_true rfl) (Nat.zero_le _) (Nat.zero_le _) dP_withinCapacity_6 ?_
  refine va_mmax hx hb (hml.trans hl.1.symm) hown (hts _ q_538) (hts _ q_507) (hts _ q_46) (hts _ q_508) (Nat.le_of_ble_eq_true rfl) (Nat.le_of_ble_eq_true rfl) (Nat.zero_le _) (Nat.zero_le _) dP_withinCapacity_9 ?_
  exact kb_iret (wf := cw h) hx hb hr hlocks hK hP hD hS ⟨e.symm, rfl⟩ dP_withinCapacity_12
/-- BoilerDesk$Plant.given(I)I -/
def F_P_given (w0 : Nat → Int32) (a1 : Int32) : Int32 := ((F_J_bitCount a1) * (w0 12))
set_option maxHeartbeats 4000000 in
set_option maxRecDepth 100000 in
theorem c_P_given (l : Launch) (D : va_G) (h : Nat → Nat) (sz : Nat) (w0 : Nat → Int32) (a1 : Int32)  : Met l yP_given [.code yP_given cP_given 2 (some .int)] ({ frames := 1, cells := 0, slots := 0, locals := 20 }) (va_Pc [.ref (h 1), .int a1] (kb_B D [] (cw h) w0 sz)) (va_Qi (fun r' u' => r' = F_P_given w0 a1 ∧ u' = w0) (kb_E D [] (cw h) (va_A (cw h w0) sz)) (va_A (cw h w0) sz)) 0 0 (va_A (cw h w0) sz) := by
  refine kb_of (cc := cP_given) (maxL := 2) (ret := (some .int)) (QcA := fun A => (va_Qi (fun r' u' => r' = F_P_given w0 a1 ∧ u' = w0) (kb_E D [] (cw h) A) A)) (by decide) (Nat.le_of_ble_eq_true rfl) ?_
  intro p e s m below meth c A hx hb hr hlocks hml hown hts hA hN hK hP hD ls hl
  have hS : va_S A s.heap s.heap [] := va_S.rf
  have hl : lv_has ls 2 [(0, .ref (h 1)), (1, .int a1)] := hl
  have e : F_P_given w0 a1 = F_P_given w0 a1 := rfl
  refine lv_iload_n hx hb dP_given_0 rfl (lv_at hl 1 rfl) ?_
  refine kb_call0 (r := (F_J_bitCount a1)) (va_runS (As := [.int a1]) (rest := []) ⟨hx, hb, hml, hown, hts⟩ (c_J_bitCount l D _ a1) (va_cwS 1 hts (gd_S q_527 q_528 q_47 q_529) rfl rfl rfl (by decide +kernel) ⟨Nat.le_of_ble_eq_true rfl, Nat.le_of_ble_eq_true rfl⟩) (kb_pre0 hN hK) rfl rfl hl.1 rfl (lv_room (Nat.le_of_ble_eq_true rfl)) dP_given_1 ⟨Nat.zero_le _, Nat.zero_le _⟩) hP hS hA (fun H locs hP hS => ?_)
  refine lv_aload_n hx hb dP_given_4 rfl (lv_at hl 0 rfl) ?_
  refine va_get (D := D) (ci := 3) (v := .int (w0 12)) (C := "BoilerDesk$Plant") (T := TP) (N := 9) hx hb hts inP hown hK hP 1 rfl rfl 8 (by decide) (hts _ q_78) (fun _ h9 => h9) rfl dP_given_5 ?_
  refine lv_imul hx hb dP_given_8 ?_
  exact kb_iret (wf := cw h) hx hb hr hlocks hK hP hD hS ⟨e.symm, rfl⟩ dP_given_9
/-- BoilerDesk$Inbox.hasAllReadings()Z -/
def F_I_hasAllReadings (w0 : Nat → Int32)  : Int32 := (if (w0 13) = (0 : Int32) then (0 : Int32) else (if (w0 15) = (0 : Int32) then (0 : Int32) else (if (w0 17) = (15 : Int32) then (1 : Int32) else (0 : Int32))))
set_option maxHeartbeats 4000000 in
set_option maxRecDepth 100000 in
theorem c_I_hasAllReadings (l : Launch) (D : va_G) (h : Nat → Nat) (sz : Nat) (w0 : Nat → Int32)   : Met l yI_hasAllReadings [.code yI_hasAllReadings cI_hasAllReadings 1 (some .boolean)] ({ frames := 0, cells := 0, slots := 0, locals := 0 }) (va_Pc [.ref (h 2)] (kb_B D [] (cw h) w0 sz)) (va_Qi (fun r' u' => r' = F_I_hasAllReadings w0 ∧ u' = w0) (kb_E D [] (cw h) (va_A (cw h w0) sz)) (va_A (cw h w0) sz)) 0 0 (va_A (cw h w0) sz) := by
  refine kb_of (cc := cI_hasAllReadings) (maxL := 1) (ret := (some .boolean)) (QcA := fun A => (va_Qi (fun r' u' => r' = F_I_hasAllReadings w0 ∧ u' = w0) (kb_E D [] (cw h) A) A)) (by decide) (Nat.le_of_ble_eq_true rfl) ?_
  intro p e s m below meth c A hx hb hr hlocks hml hown hts hA hN hK hP hD ls hl
  have hS : va_S A s.heap s.heap [] := va_S.rf
  have hl : lv_has ls 1 [(0, .ref (h 2))] := hl
  have e : F_I_hasAllReadings w0 = F_I_hasAllReadings w0 := rfl
  refine lv_aload_n hx hb dI_hasAllReadings_0 rfl (lv_at hl 0 rfl) ?_
  refine va_get (D := D) (ci := 1) (v := .int (w0 13)) (C := "BoilerDesk$Inbox") (T := TI) (N := 12) hx hb hts inI hown hK hP 2 rfl rfl 0 (by decide) (hts _ q_104) (fun _ h9 => h9) rfl dI_hasAllReadings_1 ?_
  refine lv_if_eq (tgt := 27) hx hb dI_hasAllReadings_4 (by decide) (fun c_1 => ?_) (fun c_1 => ?_)
  · have e := e.trans (if_pos c_1)
    refine lv_iconst (v := 0) hx hb dI_hasAllReadings_27 (by decide) ?_
    exact kb_zret (wf := cw h) hx hb hr hlocks rfl hK hP hD hS ⟨e.symm, rfl⟩ dI_hasAllReadings_28
  · have e := e.trans (if_neg c_1)
    refine lv_aload_n hx hb dI_hasAllReadings_7 rfl (lv_at hl 0 rfl) ?_
    refine va_get (D := D) (ci := 1) (v := .int (w0 15)) (C := "BoilerDesk$Inbox") (T := TI) (N := 12) hx hb hts inI hown hK hP 2 rfl rfl 2 (by decide) (hts _ q_108) (fun _ h9 => h9) rfl dI_hasAllReadings_8 ?_
    refine lv_if_eq (tgt := 27) hx hb dI_hasAllReadings_11 (by decide) (fun c_2 => ?_) (fun c_2 => ?_)
    · have e := e.trans (if_pos c_2)
      refine lv_iconst (v := 0) hx hb dI_hasAllReadings_27 (by decide) ?_
      exact kb_zret (wf := cw h) hx hb hr hlocks rfl hK hP hD hS ⟨e.symm, rfl⟩ dI_hasAllReadings_28
    · have e := e.trans (if_neg c_2)
      refine lv_aload_n hx hb dI_hasAllReadings_14 rfl (lv_at hl 0 rfl) ?_
      refine va_get (D := D) (ci := 1) (v := .int (w0 17)) (C := "BoilerDesk$Inbox") (T := TI) (N := 12) hx hb hts inI hown hK hP 2 rfl rfl 4 (by decide) (hts _ q_112) (fun _ h9 => h9) rfl dI_hasAllReadings_15 ?_
      refine lv_bipush (v := 15) hx hb dI_hasAllReadings_18 (by decide) ?_
      refine lv_icmp_ne (tgt := 27) hx hb dI_hasAllReadings_20 (by decide) (fun c_3 => ?_) (fun c_3 => ?_)
      · have e := e.trans (if_neg c_3)
        refine lv_iconst (v := 0) hx hb dI_hasAllReadings_27 (by decide) ?_
        exact kb_zret (wf := cw h) hx hb hr hlocks rfl hK hP hD hS ⟨e.symm, rfl⟩ dI_hasAllReadings_28
      · have e := e.trans (if_pos c_3)
        refine lv_iconst (v := 1) hx hb dI_hasAllReadings_23 (by decide) ?_
        refine lv_goto (tgt := 28) hx hb dI_hasAllReadings_24 (by decide) ?_
        exact kb_zret (wf := cw h) hx hb hr hlocks rfl hK hP hD hS ⟨e.symm, rfl⟩ dI_hasAllReadings_28
theorem z_I_hasAllReadings (w0 : Nat → Int32)  : F_I_hasAllReadings w0 = 0 ∨ F_I_hasAllReadings w0 = 1 := by
  unfold F_I_hasAllReadings
  repeat' split
  all_goals first | exact Or.inl rfl | exact Or.inr rfl
/-- BoilerDesk$Inbox.clear()V -/
def F_I_clear (w0 : Nat → Int32)  : Nat → Int32 := (up (up (up (up (up (up (up (up (up (up (up (up w0 13 0) 14 0) 15 0) 16 0) 17 0) 18 0) 19 0) 20 0) 21 0) 22 0) 23 0) 24 0)
set_option maxHeartbeats 4000000 in
set_option maxRecDepth 100000 in
theorem c_I_clear (l : Launch) (D : va_G) (h : Nat → Nat) (sz : Nat) (w0 : Nat → Int32)   : Met l yI_clear [.code yI_clear cI_clear 1 none] ({ frames := 0, cells := 0, slots := 0, locals := 0 }) (va_Pc [.ref (h 2)] (kb_B D [] (cw h) w0 sz)) (va_Qv (fun u' => u' = F_I_clear w0) (kb_E D [] (cw h) (va_A (cw h w0) sz)) (va_A (cw h w0) sz)) 0 0 (va_A (cw h w0) sz) := by
  refine kb_of (cc := cI_clear) (maxL := 1) (ret := none) (QcA := fun A => (va_Qv (fun u' => u' = F_I_clear w0) (kb_E D [] (cw h) A) A)) (by decide) (Nat.le_of_ble_eq_true rfl) ?_
  intro p e s m below meth c A hx hb hr hlocks hml hown hts hA hN hK hP hD ls hl
  have hS : va_S A s.heap s.heap [] := va_S.rf
  have hl : lv_has ls 1 [(0, .ref (h 2))] := hl
  have e : F_I_clear w0 = F_I_clear w0 := rfl
  refine lv_aload_n hx hb dI_clear_0 rfl (lv_at hl 0 rfl) ?_
  refine lv_iconst (v := 0) hx hb dI_clear_1 (by decide) ?_
  refine kb_put (D := D) (wf := cw h) (w' := (up w0 13 0)) (ci := 1) (v := .int 0) (ty := .boolean) (C := "BoilerDesk$Inbox") (T := TI) (N := 12) hx hb hts inI tyI tyI_ok nmI hown hK hP hD hS 2 rfl rfl 0 (by decide) (hts _ q_104) (fun _ h9 => h9) rfl (by decide +kernel) rfl rfl (Nat.le_of_ble_eq_true rfl) dI_clear_2 rfl (fun H locs hP hD hS => ?_)
  refine lv_aload_n hx hb dI_clear_5 rfl (lv_at hl 0 rfl) ?_
  refine lv_iconst (v := 0) hx hb dI_clear_6 (by decide) ?_
  refine kb_put (D := D) (wf := cw h) (w' := (up (up w0 13 0) 14 0)) (ci := 1) (v := .int 0) (ty := .int) (C := "BoilerDesk$Inbox") (T := TI) (N := 12) hx hb hts inI tyI tyI_ok nmI hown hK hP hD hS 2 rfl rfl 1 (by decide) (hts _ q_106) (fun _ h9 => h9) rfl (by decide +kernel) rfl rfl (Nat.le_of_ble_eq_true rfl) dI_clear_7 rfl (fun H locs hP hD hS => ?_)
  refine lv_aload_n hx hb dI_clear_10 rfl (lv_at hl 0 rfl) ?_
  refine lv_iconst (v := 0) hx hb dI_clear_11 (by decide) ?_
  refine kb_put (D := D) (wf := cw h) (w' := (up (up (up w0 13 0) 14 0) 15 0)) (ci := 1) (v := .int 0) (ty := .boolean) (C := "BoilerDesk$Inbox") (T := TI) (N := 12) hx hb hts inI tyI tyI_ok nmI hown hK hP hD hS 2 rfl rfl 2 (by decide) (hts _ q_108) (fun _ h9 => h9) rfl (by decide +kernel) rfl rfl (Nat.le_of_ble_eq_true rfl) dI_clear_12 rfl (fun H locs hP hD hS => ?_)
  refine lv_aload_n hx hb dI_clear_15 rfl (lv_at hl 0 rfl) ?_
  refine lv_iconst (v := 0) hx hb dI_clear_16 (by decide) ?_
  refine kb_put (D := D) (wf := cw h) (w' := (up (up (up (up w0 13 0) 14 0) 15 0) 16 0)) (ci := 1) (v := .int 0) (ty := .int) (C := "BoilerDesk$Inbox") (T := TI) (N := 12) hx hb hts inI tyI tyI_ok nmI hown hK hP hD hS 2 rfl rfl 3 (by decide) (hts _ q_110) (fun _ h9 => h9) rfl (by decide +kernel) rfl rfl (Nat.le_of_ble_eq_true rfl) dI_clear_17 rfl (fun H locs hP hD hS => ?_)
  refine lv_aload_n hx hb dI_clear_20 rfl (lv_at hl 0 rfl) ?_
  refine lv_iconst (v := 0) hx hb dI_clear_21 (by decide) ?_
  refine kb_put (D := D) (wf := cw h) (w' := (up (up (up (up (up w0 13 0) 14 0) 15 0) 16 0) 17 0)) (ci := 1) (v := .int 0) (ty := .int) (C := "BoilerDesk$Inbox") (T := TI) (N := 12) hx hb hts inI tyI tyI_ok nmI hown hK hP hD hS 2 rfl rfl 4 (by decide) (hts _ q_112) (fun _ h9 => h9) rfl (by decide +kernel) rfl rfl (Nat.le_of_ble_eq_true rfl) dI_clear_22 rfl (fun H locs hP hD hS => ?_)
  refine lv_aload_n hx hb dI_clear_25 rfl (lv_at hl 0 rfl) ?_
  refine lv_iconst (v := 0) hx hb dI_clear_26 (by decide) ?_
  refine kb_put (D := D) (wf := cw h) (w' := (up (up (up (up (up (up w0 13 0) 14 0) 15 0) 16 0) 17 0) 18 0)) (ci := 1) (v := .int 0) (ty := .int) (C := "BoilerDesk$Inbox") (T := TI) (N := 12) hx hb hts inI tyI tyI_ok nmI hown hK hP hD hS 2 rfl rfl 5 (by decide) (hts _ q_114) (fun _ h9 => h9) rfl (by decide +kernel) rfl rfl (Nat.le_of_ble_eq_true rfl) dI_clear_27 rfl (fun H locs hP hD hS => ?_)
  refine lv_aload_n hx hb dI_clear_30 rfl (lv_at hl 0 rfl) ?_
  refine lv_iconst (v := 0) hx hb dI_clear_31 (by decide) ?_
  refine kb_put (D := D) (wf := cw h) (w' := (up (up (up (up (up (up (up w0 13 0) 14 0) 15 0) 16 0) 17 0) 18 0) 19 0)) (ci := 1) (v := .int 0) (ty := .int) (C := "BoilerDesk$Inbox") (T := TI) (N := 12) hx hb hts inI tyI tyI_ok nmI hown hK hP hD hS 2 rfl rfl 6 (by decide) (hts _ q_116) (fun _ h9 => h9) rfl (by decide +kernel) rfl rfl (Nat.le_of_ble_eq_true rfl) dI_clear_32 rfl (fun H locs hP hD hS => ?_)
  refine lv_aload_n hx hb dI_clear_35 rfl (lv_at hl 0 rfl) ?_
  refine lv_iconst (v := 0) hx hb dI_clear_36 (by decide) ?_
  refine kb_put (D := D) (wf := cw h) (w' := (up (up (up (up (up (up (up (up w0 13 0) 14 0) 15 0) 16 0) 17 0) 18 0) 19 0) 20 0)) (ci := 1) (v := .int 0) (ty := .boolean) (C := "BoilerDesk$Inbox") (T := TI) (N := 12) hx hb hts inI tyI tyI_ok nmI hown hK hP hD hS 2 rfl rfl 7 (by decide) (hts _ q_118) (fun _ h9 => h9) rfl (by decide +kernel) rfl rfl (Nat.le_of_ble_eq_true rfl) dI_clear_37 rfl (fun H locs hP hD hS => ?_)
  refine lv_aload_n hx hb dI_clear_40 rfl (lv_at hl 0 rfl) ?_
  refine lv_iconst (v := 0) hx hb dI_clear_41 (by decide) ?_
  refine kb_put (D := D) (wf := cw h) (w' := (up (up (up (up (up (up (up (up (up w0 13 0) 14 0) 15 0) 16 0) 17 0) 18 0) 19 0) 20 0) 21 0)) (ci := 1) (v := .int 0) (ty := .boolean) (C := "BoilerDesk$Inbox") (T := TI) (N := 12) hx hb hts inI tyI tyI_ok nmI hown hK hP hD hS 2 rfl rfl 8 (by decide) (hts _ q_120) (fun _ h9 => h9) rfl (by decide +kernel) rfl rfl (Nat.le_of_ble_eq_true rfl) dI_clear_42 rfl (fun H locs hP hD hS => ?_)
  refine lv_aload_n hx hb dI_clear_45 rfl (lv_at hl 0 rfl) ?_
  refine lv_iconst (v := 0) hx hb dI_clear_46 (by decide) ?_
  refine kb_put (D := D) (wf := cw h) (w' := (up (up (up (up (up (up (up (up (up (up w0 13 0) 14 0) 15 0) 16 0) 17 0) 18 0) 19 0) 20 0) 21 0) 22 0)) (ci := 1) (v := .int 0) (ty := .boolean) (C := "BoilerDesk$Inbox") (T := TI) (N := 12) hx hb hts inI tyI tyI_ok nmI hown hK hP hD hS 2 rfl rfl 9 (by decide) (hts _ q_122) (fun _ h9 => h9) rfl (by decide +kernel) rfl rfl (Nat.le_of_ble_eq_true rfl) dI_clear_47 rfl (fun H locs hP hD hS => ?_)
  refine lv_aload_n hx hb dI_clear_50 rfl (lv_at hl 0 rfl) ?_
  refine lv_iconst (v := 0) hx hb dI_clear_51 (by decide) ?_
  refine kb_put (D := D) (wf := cw h) (w' := (up (up (up (up (up (up (up (up (up (up (up w0 13 0) 14 0) 15 0) 16 0) 17 0) 18 0) 19 0) 20 0) 21 0) 22 0) 23 0)) (ci := 1) (v := .int 0) (ty := .int) (C := "BoilerDesk$Inbox") (T := TI) (N := 12) hx hb hts inI tyI tyI_ok nmI hown hK hP hD hS 2 rfl rfl 10 (by decide) (hts _ q_124) (fun _ h9 => h9) rfl (by decide +kernel) rfl rfl (Nat.le_of_ble_eq_true rfl) dI_clear_52 rfl (fun H locs hP hD hS => ?_)
  refine lv_aload_n hx hb dI_clear_55 rfl (lv_at hl 0 rfl) ?_
  refine lv_iconst (v := 0) hx hb dI_clear_56 (by decide) ?_
  refine kb_put (D := D) (wf := cw h) (w' := (up (up (up (up (up (up (up (up (up (up (up (up w0 13 0) 14 0) 15 0) 16 0) 17 0) 18 0) 19 0) 20 0) 21 0) 22 0) 23 0) 24 0)) (ci := 1) (v := .int 0) (ty := .int) (C := "BoilerDesk$Inbox") (T := TI) (N := 12) hx hb hts inI tyI tyI_ok nmI hown hK hP hD hS 2 rfl rfl 11 (by decide) (hts _ q_126) (fun _ h9 => h9) rfl (by decide +kernel) rfl rfl (Nat.le_of_ble_eq_true rfl) dI_clear_57 rfl (fun H locs hP hD hS => ?_)
  exact kb_vret (wf := cw h) hx hb hr hlocks hK hP hD hS e.symm dI_clear_60
/-- BoilerDesk$Units.hasFailed(I)Z -/
def F_U_hasFailed (w0 : Nat → Int32) (a1 : Int32) : Int32 := (F_D_hasBit (w0 25) a1)
set_option maxHeartbeats 4000000 in
set_option maxRecDepth 100000 in
theorem c_U_hasFailed (l : Launch) (D : va_G) (h : Nat → Nat) (sz : Nat) (w0 : Nat → Int32) (a1 : Int32)  : Met l yU_hasFailed [.code yU_hasFailed cU_hasFailed 2 (some .boolean)] ({ frames := 1, cells := 0, slots := 0, locals := 21 }) (va_Pc [.ref (h 3), .int a1] (kb_B D [] (cw h) w0 sz)) (va_Qi (fun r' u' => r' = F_U_hasFailed w0 a1 ∧ u' = w0) (kb_E D [] (cw h) (va_A (cw h w0) sz)) (va_A (cw h w0) sz)) 0 0 (va_A (cw h w0) sz) := by
  refine kb_of (cc := cU_hasFailed) (maxL := 2) (ret := (some .boolean)) (QcA := fun A => (va_Qi (fun r' u' => r' = F_U_hasFailed w0 a1 ∧ u' = w0) (kb_E D [] (cw h) A) A)) (by decide) (Nat.le_of_ble_eq_true rfl) ?_
  intro p e s m below meth c A hx hb hr hlocks hml hown hts hA hN hK hP hD ls hl
  have hS : va_S A s.heap s.heap [] := va_S.rf
  have hl : lv_has ls 2 [(0, .ref (h 3)), (1, .int a1)] := hl
  have e : F_U_hasFailed w0 a1 = F_U_hasFailed w0 a1 := rfl
  refine lv_aload_n hx hb dU_hasFailed_0 rfl (lv_at hl 0 rfl) ?_
  refine va_get (D := D) (ci := 6) (v := .int (w0 25)) (C := "BoilerDesk$Units") (T := TU) (N := 2) hx hb hts inU hown hK hP 3 rfl rfl 0 (by decide) (hts _ q_159) (fun _ h9 => h9) rfl dU_hasFailed_1 ?_
  refine lv_iload_n hx hb dU_hasFailed_4 rfl (lv_at hl 1 rfl) ?_
  refine kb_call0 (r := (F_D_hasBit (w0 25) a1)) (va_runSN (As := [.int (w0 25), .int a1]) (rest := []) ⟨hx, hb, hml, hown, hts⟩ (c_D_hasBit l D _ (w0 25) a1) ⟨va_cnB 2 hts (gd_1 q_475) rfl rfl rfl (hN _ q_480) (hts _ q_33) (by decide +kernel) ⟨Nat.le_of_ble_eq_true rfl, Nat.le_of_ble_eq_true rfl⟩, hts _ q_474, trivial⟩ (kb_pre0 hN hK) rfl rfl hl.1 rfl (lv_room (Nat.le_of_ble_eq_true rfl)) dU_hasFailed_5 ⟨Nat.zero_le _, Nat.zero_le _⟩) hP hS hA (fun H locs hP hS => ?_)
  exact kb_zret (wf := cw h) hx hb hr hlocks (zb_n (z_D_hasBit (w0 25) a1)) hK hP hD hS ⟨e.symm, rfl⟩ dU_hasFailed_8
theorem z_U_hasFailed (w0 : Nat → Int32) (a1 : Int32) : F_U_hasFailed w0 a1 = 0 ∨ F_U_hasFailed w0 a1 = 1 := by
  unfold F_U_hasFailed
  repeat' split
  all_goals first | exact Or.inl rfl | exact Or.inr rfl | exact z_D_hasBit _ _ _ | exact z_D_hasBit _ _
/-- BoilerDesk$Units.awaitsAcknowledgement(I)Z -/
def F_U_awaitsAcknowledgement (w0 : Nat → Int32) (a1 : Int32) : Int32 := (F_D_hasBit ((w0 25) &&& ((w0 26) ^^^ ((-1) : Int32))) a1)
set_option maxHeartbeats 4000000 in
set_option maxRecDepth 100000 in
theorem c_U_awaitsAcknowledgement (l : Launch) (D : va_G) (h : Nat → Nat) (sz : Nat) (w0 : Nat → Int32) (a1 : Int32)  : Met l yU_awaitsAcknowledgement [.code yU_awaitsAcknowledgement cU_awaitsAcknowledgement 2 (some .boolean)] ({ frames := 1, cells := 0, slots := 0, locals := 21 }) (va_Pc [.ref (h 3), .int a1] (kb_B D [] (cw h) w0 sz)) (va_Qi (fun r' u' => r' = F_U_awaitsAcknowledgement w0 a1 ∧ u' = w0) (kb_E D [] (cw h) (va_A (cw h w0) sz)) (va_A (cw h w0) sz)) 0 0 (va_A (cw h w0) sz) := by
  refine kb_of (cc := cU_awaitsAcknowledgement) (maxL := 2) (ret := (some .boolean)) (QcA := fun A => (va_Qi (fun r' u' => r' = F_U_awaitsAcknowledgement w0 a1 ∧ u' = w0) (kb_E D [] (cw h) A) A)) (by decide) (Nat.le_of_ble_eq_true rfl) ?_
  intro p e s m below meth c A hx hb hr hlocks hml hown hts hA hN hK hP hD ls hl
  have hS : va_S A s.heap s.heap [] := va_S.rf
  have hl : lv_has ls 2 [(0, .ref (h 3)), (1, .int a1)] := hl
  have e : F_U_awaitsAcknowledgement w0 a1 = F_U_awaitsAcknowledgement w0 a1 := rfl
  refine lv_aload_n hx hb dU_awaitsAcknowledgement_0 rfl (lv_at hl 0 rfl) ?_
  refine va_get (D := D) (ci := 6) (v := .int (w0 25)) (C := "BoilerDesk$Units") (T := TU) (N := 2) hx hb hts inU hown hK hP 3 rfl rfl 0 (by decide) (hts _ q_159) (fun _ h9 => h9) rfl dU_awaitsAcknowledgement_1 ?_
  refine lv_aload_n hx hb dU_awaitsAcknowledgement_4 rfl (lv_at hl 0 rfl) ?_
  refine va_get (D := D) (ci := 6) (v := .int (w0 26)) (C := "BoilerDesk$Units") (T := TU) (N := 2) hx hb hts inU hown hK hP 3 rfl rfl 1 (by decide) (hts _ q_161) (fun _ h9 => h9) rfl dU_awaitsAcknowledgement_5 ?_
  refine lv_iconst (v := (-1)) hx hb dU_awaitsAcknowledgement_8 (by decide) ?_
  refine lv_ixor hx hb dU_awaitsAcknowledgement_9 ?_
  refine lv_iand hx hb dU_awaitsAcknowledgement_10 ?_
  refine lv_iload_n hx hb dU_awaitsAcknowledgement_11 rfl (lv_at hl 1 rfl) ?_
  refine kb_call0 (r := (F_D_hasBit ((w0 25) &&& ((w0 26) ^^^ ((-1) : Int32))) a1)) (va_runSN (As := [.int ((w0 25) &&& ((w0 26) ^^^ ((-1) : Int32))), .int a1]) (rest := []) ⟨hx, hb, hml, hown, hts⟩ (c_D_hasBit l D _ ((w0 25) &&& ((w0 26) ^^^ ((-1) : Int32))) a1) ⟨va_cnB 2 hts (gd_1 q_475) rfl rfl rfl (hN _ q_480) (hts _ q_33) (by decide +kernel) ⟨Nat.le_of_ble_eq_true rfl, Nat.le_of_ble_eq_true rfl⟩, hts _ q_474, trivial⟩ (kb_pre0 hN hK) rfl rfl hl.1 rfl (lv_room (Nat.le_of_ble_eq_true rfl)) dU_awaitsAcknowledgement_12 ⟨Nat.zero_le _, Nat.zero_le _⟩) hP hS hA (fun H locs hP hS => ?_)
  exact kb_zret (wf := cw h) hx hb hr hlocks (zb_n (z_D_hasBit ((w0 25) &&& ((w0 26) ^^^ ((-1) : Int32))) a1)) hK hP hD hS ⟨e.symm, rfl⟩ dU_awaitsAcknowledgement_15
theorem z_U_awaitsAcknowledgement (w0 : Nat → Int32) (a1 : Int32) : F_U_awaitsAcknowledgement w0 a1 = 0 ∨ F_U_awaitsAcknowledgement w0 a1 = 1 := by
  unfold F_U_awaitsAcknowledgement
  repeat' split
  all_goals first | exact Or.inl rfl | exact Or.inr rfl | exact z_D_hasBit _ _ _ | exact z_D_hasBit _ _
/-- BoilerDesk$Units.fail(I)V -/
def F_U_fail (w0 : Nat → Int32) (a1 : Int32) : Nat → Int32 := (up w0 25 (F_D_withBit (w0 25) a1 (1 : Int32)))
set_option maxHeartbeats 4000000 in
set_option maxRecDepth 100000 in
theorem c_U_fail (l : Launch) (D : va_G) (h : Nat → Nat) (sz : Nat) (w0 : Nat → Int32) (a1 : Int32)  : Met l yU_fail [.code yU_fail cU_fail 2 none] ({ frames := 1, cells := 0, slots := 0, locals := 22 }) (va_Pc [.ref (h 3), .int a1] (kb_B D [] (cw h) w0 sz)) (va_Qv (fun u' => u' = F_U_fail w0 a1) (kb_E D [] (cw h) (va_A (cw h w0) sz)) (va_A (cw h w0) sz)) 0 0 (va_A (cw h w0) sz) := by
  refine kb_of (cc := cU_fail) (maxL := 2) (ret := none) (QcA := fun A => (va_Qv (fun u' => u' = F_U_fail w0 a1) (kb_E D [] (cw h) A) A)) (by decide) (Nat.le_of_ble_eq_true rfl) ?_
  intro p e s m below meth c A hx hb hr hlocks hml hown hts hA hN hK hP hD ls hl
  have hS : va_S A s.heap s.heap [] := va_S.rf
  have hl : lv_has ls 2 [(0, .ref (h 3)), (1, .int a1)] := hl
  have e : F_U_fail w0 a1 = F_U_fail w0 a1 := rfl
  refine lv_aload_n hx hb dU_fail_0 rfl (lv_at hl 0 rfl) ?_
  refine lv_aload_n hx hb dU_fail_1 rfl (lv_at hl 0 rfl) ?_
  refine va_get (D := D) (ci := 6) (v := .int (w0 25)) (C := "BoilerDesk$Units") (T := TU) (N := 2) hx hb hts inU hown hK hP 3 rfl rfl 0 (by decide) (hts _ q_159) (fun _ h9 => h9) rfl dU_fail_2 ?_
  refine lv_iload_n hx hb dU_fail_5 rfl (lv_at hl 1 rfl) ?_
  refine lv_iconst (v := 1) hx hb dU_fail_6 (by decide) ?_
  refine kb_call0 (r := (F_D_withBit (w0 25) a1 (1 : Int32))) (va_runSN (As := [.int (w0 25), .int a1, .int 1]) (rest := [.ref (h 3)]) ⟨hx, hb, hml, hown, hts⟩ (c_D_withBit l D _ (w0 25) a1 (1 : Int32) (by decide)) ⟨va_cnB 3 hts (gd_1 q_416) rfl rfl rfl (hN _ q_485) (hts _ q_33) (by decide +kernel) ⟨Nat.le_of_ble_eq_true rfl, Nat.le_of_ble_eq_true rfl⟩, hts _ q_415, trivial⟩ (kb_pre0 hN hK) rfl rfl hl.1 rfl (lv_room (Nat.le_of_ble_eq_true rfl)) dU_fail_7 ⟨Nat.zero_le _, Nat.zero_le _⟩) hP hS hA (fun H locs hP hS => ?_)
  refine kb_put (D := D) (wf := cw h) (w' := (up w0 25 (F_D_withBit (w0 25) a1 (1 : Int32)))) (ci := 6) (v := .int (F_D_withBit (w0 25) a1 (1 : Int32))) (ty := .int) (C := "BoilerDesk$Units") (T := TU) (N := 2) hx hb hts inU tyU tyU_ok nmU hown hK hP hD hS 3 rfl rfl 0 (by decide) (hts _ q_159) (fun _ h9 => h9) rfl (by decide +kernel) rfl rfl (Nat.le_of_ble_eq_true rfl) dU_fail_10 rfl (fun H locs hP hD hS => ?_)
  exact kb_vret (wf := cw h) hx hb hr hlocks hK hP hD hS e.symm dU_fail_13
/-- BoilerDesk$Units.acknowledge(I)V -/
def F_U_acknowledge (w0 : Nat → Int32) (a1 : Int32) : Nat → Int32 := (up w0 26 (F_D_withBit (w0 26) a1 (1 : Int32)))
set_option maxHeartbeats 4000000 in
set_option maxRecDepth 100000 in
theorem c_U_acknowledge (l : Launch) (D : va_G) (h : Nat → Nat) (sz : Nat) (w0 : Nat → Int32) (a1 : Int32)  : Met l yU_acknowledge [.code yU_acknowledge cU_acknowledge 2 none] ({ frames := 1, cells := 0, slots := 0, locals := 22 }) (va_Pc [.ref (h 3), .int a1] (kb_B D [] (cw h) w0 sz)) (va_Qv (fun u' => u' = F_U_acknowledge w0 a1) (kb_E D [] (cw h) (va_A (cw h w0) sz)) (va_A (cw h w0) sz)) 0 0 (va_A (cw h w0) sz) := by
  refine kb_of (cc := cU_acknowledge) (maxL := 2) (ret := none) (QcA := fun A => (va_Qv (fun u' => u' = F_U_acknowledge w0 a1) (kb_E D [] (cw h) A) A)) (by decide) (Nat.le_of_ble_eq_true rfl) ?_
  intro p e s m below meth c A hx hb hr hlocks hml hown hts hA hN hK hP hD ls hl
  have hS : va_S A s.heap s.heap [] := va_S.rf
  have hl : lv_has ls 2 [(0, .ref (h 3)), (1, .int a1)] := hl
  have e : F_U_acknowledge w0 a1 = F_U_acknowledge w0 a1 := rfl
  refine lv_aload_n hx hb dU_acknowledge_0 rfl (lv_at hl 0 rfl) ?_
  refine lv_aload_n hx hb dU_acknowledge_1 rfl (lv_at hl 0 rfl) ?_
  refine va_get (D := D) (ci := 6) (v := .int (w0 26)) (C := "BoilerDesk$Units") (T := TU) (N := 2) hx hb hts inU hown hK hP 3 rfl rfl 1 (by decide) (hts _ q_161) (fun _ h9 => h9) rfl dU_acknowledge_2 ?_
  refine lv_iload_n hx hb dU_acknowledge_5 rfl (lv_at hl 1 rfl) ?_
  refine lv_iconst (v := 1) hx hb dU_acknowledge_6 (by decide) ?_
  refine kb_call0 (r := (F_D_withBit (w0 26) a1 (1 : Int32))) (va_runSN (As := [.int (w0 26), .int a1, .int 1]) (rest := [.ref (h 3)]) ⟨hx, hb, hml, hown, hts⟩ (c_D_withBit l D _ (w0 26) a1 (1 : Int32) (by decide)) ⟨va_cnB 3 hts (gd_1 q_416) rfl rfl rfl (hN _ q_485) (hts _ q_33) (by decide +kernel) ⟨Nat.le_of_ble_eq_true rfl, Nat.le_of_ble_eq_true rfl⟩, hts _ q_415, trivial⟩ (kb_pre0 hN hK) rfl rfl hl.1 rfl (lv_room (Nat.le_of_ble_eq_true rfl)) dU_acknowledge_7 ⟨Nat.zero_le _, Nat.zero_le _⟩) hP hS hA (fun H locs hP hS => ?_)
  refine kb_put (D := D) (wf := cw h) (w' := (up w0 26 (F_D_withBit (w0 26) a1 (1 : Int32)))) (ci := 6) (v := .int (F_D_withBit (w0 26) a1 (1 : Int32))) (ty := .int) (C := "BoilerDesk$Units") (T := TU) (N := 2) hx hb hts inU tyU tyU_ok nmU hown hK hP hD hS 3 rfl rfl 1 (by decide) (hts _ q_161) (fun _ h9 => h9) rfl (by decide +kernel) rfl rfl (Nat.le_of_ble_eq_true rfl) dU_acknowledge_10 rfl (fun H locs hP hD hS => ?_)
  exact kb_vret (wf := cw h) hx hb hr hlocks hK hP hD hS e.symm dU_acknowledge_13
/-- BoilerDesk$Units.repair(I)V -/
def F_U_repair (w0 : Nat → Int32) (a1 : Int32) : Nat → Int32 := (up (up w0 25 (F_D_withBit (w0 25) a1 (0 : Int32))) 26 (F_D_withBit (w0 26) a1 (0 : Int32)))
set_option maxHeartbeats 4000000 in
set_option maxRecDepth 100000 in
theorem c_U_repair (l : Launch) (D : va_G) (h : Nat → Nat) (sz : Nat) (w0 : Nat → Int32) (a1 : Int32)  : Met l yU_repair [.code yU_repair cU_repair 2 none] ({ frames := 1, cells := 0, slots := 0, locals := 22 }) (va_Pc [.ref (h 3), .int a1] (kb_B D [] (cw h) w0 sz)) (va_Qv (fun u' => u' = F_U_repair w0 a1) (kb_E D [] (cw h) (va_A (cw h w0) sz)) (va_A (cw h w0) sz)) 0 0 (va_A (cw h w0) sz) := by
  refine kb_of (cc := cU_repair) (maxL := 2) (ret := none) (QcA := fun A => (va_Qv (fun u' => u' = F_U_repair w0 a1) (kb_E D [] (cw h) A) A)) (by decide) (Nat.le_of_ble_eq_true rfl) ?_
  intro p e s m below meth c A hx hb hr hlocks hml hown hts hA hN hK hP hD ls hl
  have hS : va_S A s.heap s.heap [] := va_S.rf
  have hl : lv_has ls 2 [(0, .ref (h 3)), (1, .int a1)] := hl
  have e : F_U_repair w0 a1 = F_U_repair w0 a1 := rfl
  refine lv_aload_n hx hb dU_repair_0 rfl (lv_at hl 0 rfl) ?_
  refine lv_aload_n hx hb dU_repair_1 rfl (lv_at hl 0 rfl) ?_
  refine va_get (D := D) (ci := 6) (v := .int (w0 25)) (C := "BoilerDesk$Units") (T := TU) (N := 2) hx hb hts inU hown hK hP 3 rfl rfl 0 (by decide) (hts _ q_159) (fun _ h9 => h9) rfl dU_repair_2 ?_
  refine lv_iload_n hx hb dU_repair_5 rfl (lv_at hl 1 rfl) ?_
  refine lv_iconst (v := 0) hx hb dU_repair_6 (by decide) ?_
  refine kb_call0 (r := (F_D_withBit (w0 25) a1 (0 : Int32))) (va_runSN (As := [.int (w0 25), .int a1, .int 0]) (rest := [.ref (h 3)]) ⟨hx, hb, hml, hown, hts⟩ (c_D_withBit l D _ (w0 25) a1 (0 : Int32) (by decide)) ⟨va_cnB 3 hts (gd_1 q_416) rfl rfl rfl (hN _ q_485) (hts _ q_33) (by decide +kernel) ⟨Nat.le_of_ble_eq_true rfl, Nat.le_of_ble_eq_true rfl⟩, hts _ q_415, trivial⟩ (kb_pre0 hN hK) rfl rfl hl.1 rfl (lv_room (Nat.le_of_ble_eq_true rfl)) dU_repair_7 ⟨Nat.zero_le _, Nat.zero_le _⟩) hP hS hA (fun H locs hP hS => ?_)
  refine kb_put (D := D) (wf := cw h) (w' := (up w0 25 (F_D_withBit (w0 25) a1 (0 : Int32)))) (ci := 6) (v := .int (F_D_withBit (w0 25) a1 (0 : Int32))) (ty := .int) (C := "BoilerDesk$Units") (T := TU) (N := 2) hx hb hts inU tyU tyU_ok nmU hown hK hP hD hS 3 rfl rfl 0 (by decide) (hts _ q_159) (fun _ h9 => h9) rfl (by decide +kernel) rfl rfl (Nat.le_of_ble_eq_true rfl) dU_repair_10 rfl (fun H locs hP hD hS => ?_)
  refine lv_aload_n hx hb dU_repair_13 rfl (lv_at hl 0 rfl) ?_
  refine lv_aload_n hx hb dU_repair_14 rfl (lv_at hl 0 rfl) ?_
  refine va_get (D := D) (ci := 6) (v := .int (w0 26)) (C := "BoilerDesk$Units") (T := TU) (N := 2) hx hb hts inU hown hK hP 3 rfl rfl 1 (by decide) (hts _ q_161) (fun _ h9 => h9) rfl dU_repair_15 ?_
  refine lv_iload_n hx hb dU_repair_18 rfl (lv_at hl 1 rfl) ?_
  refine lv_iconst (v := 0) hx hb dU_repair_19 (by decide) ?_
  refine kb_call0 (r := (F_D_withBit (w0 26) a1 (0 : Int32))) (va_runSN (As := [.int (w0 26), .int a1, .int 0]) (rest := [.ref (h 3)]) ⟨hx, hb, hml, hown, hts⟩ (c_D_withBit l D _ (w0 26) a1 (0 : Int32) (by decide)) ⟨va_cnB 3 hts (gd_1 q_416) rfl rfl rfl (hN _ q_485) (hts _ q_33) (by decide +kernel) ⟨Nat.le_of_ble_eq_true rfl, Nat.le_of_ble_eq_true rfl⟩, hts _ q_415, trivial⟩ (kb_pre0 hN hK) rfl rfl hl.1 rfl (lv_room (Nat.le_of_ble_eq_true rfl)) dU_repair_20 ⟨Nat.zero_le _, Nat.zero_le _⟩) hP hS hA (fun H locs hP hS => ?_)
  refine kb_put (D := D) (wf := cw h) (w' := (up (up w0 25 (F_D_withBit (w0 25) a1 (0 : Int32))) 26 (F_D_withBit (w0 26) a1 (0 : Int32)))) (ci := 6) (v := .int (F_D_withBit (w0 26) a1 (0 : Int32))) (ty := .int) (C := "BoilerDesk$Units") (T := TU) (N := 2) hx hb hts inU tyU tyU_ok nmU hown hK hP hD hS 3 rfl rfl 1 (by decide) (hts _ q_161) (fun _ h9 => h9) rfl (by decide +kernel) rfl rfl (Nat.le_of_ble_eq_true rfl) dU_repair_23 rfl (fun H locs hP hD hS => ?_)
  exact kb_vret (wf := cw h) hx hb hr hlocks hK hP hD hS e.symm dU_repair_26
/-- BoilerDesk$Units.clear()V -/
def F_U_clear (w0 : Nat → Int32)  : Nat → Int32 := (up (up w0 25 0) 26 0)
set_option maxHeartbeats 4000000 in
set_option maxRecDepth 100000 in
theorem c_U_clear (l : Launch) (D : va_G) (h : Nat → Nat) (sz : Nat) (w0 : Nat → Int32)   : Met l yU_clear [.code yU_clear cU_clear 1 none] ({ frames := 0, cells := 0, slots := 0, locals := 0 }) (va_Pc [.ref (h 3)] (kb_B D [] (cw h) w0 sz)) (va_Qv (fun u' => u' = F_U_clear w0) (kb_E D [] (cw h) (va_A (cw h w0) sz)) (va_A (cw h w0) sz)) 0 0 (va_A (cw h w0) sz) := by
  refine kb_of (cc := cU_clear) (maxL := 1) (ret := none) (QcA := fun A => (va_Qv (fun u' => u' = F_U_clear w0) (kb_E D [] (cw h) A) A)) (by decide) (Nat.le_of_ble_eq_true rfl) ?_
  intro p e s m below meth c A hx hb hr hlocks hml hown hts hA hN hK hP hD ls hl
  have hS : va_S A s.heap s.heap [] := va_S.rf
  have hl : lv_has ls 1 [(0, .ref (h 3))] := hl
  have e : F_U_clear w0 = F_U_clear w0 := rfl
  refine lv_aload_n hx hb dU_clear_0 rfl (lv_at hl 0 rfl) ?_
  refine lv_iconst (v := 0) hx hb dU_clear_1 (by decide) ?_
  refine kb_put (D := D) (wf := cw h) (w' := (up w0 25 0)) (ci := 6) (v := .int 0) (ty := .int) (C := "BoilerDesk$Units") (T := TU) (N := 2) hx hb hts inU tyU tyU_ok nmU hown hK hP hD hS 3 rfl rfl 0 (by decide) (hts _ q_159) (fun _ h9 => h9) rfl (by decide +kernel) rfl rfl (Nat.le_of_ble_eq_true rfl) dU_clear_2 rfl (fun H locs hP hD hS => ?_)
  refine lv_aload_n hx hb dU_clear_5 rfl (lv_at hl 0 rfl) ?_
  refine lv_iconst (v := 0) hx hb dU_clear_6 (by decide) ?_
  refine kb_put (D := D) (wf := cw h) (w' := (up (up w0 25 0) 26 0)) (ci := 6) (v := .int 0) (ty := .int) (C := "BoilerDesk$Units") (T := TU) (N := 2) hx hb hts inU tyU tyU_ok nmU hown hK hP hD hS 3 rfl rfl 1 (by decide) (hts _ q_161) (fun _ h9 => h9) rfl (by decide +kernel) rfl rfl (Nat.le_of_ble_eq_true rfl) dU_clear_7 rfl (fun H locs hP hD hS => ?_)
  exact kb_vret (wf := cw h) hx hb hr hlocks hK hP hD hS e.symm dU_clear_10
/-- BoilerDesk$Machines.remember(I)V -/
def F_M_remember (w0 : Nat → Int32) (a1 : Int32) : Nat → Int32 := (up (up w0 28 (w0 27)) 29 a1)
set_option maxHeartbeats 4000000 in
set_option maxRecDepth 100000 in
theorem c_M_remember (l : Launch) (D : va_G) (h : Nat → Nat) (sz : Nat) (w0 : Nat → Int32) (a1 : Int32)  : Met l yM_remember [.code yM_remember cM_remember 2 none] ({ frames := 0, cells := 0, slots := 0, locals := 0 }) (va_Pc [.ref (h 4), .int a1] (kb_B D [] (cw h) w0 sz)) (va_Qv (fun u' => u' = F_M_remember w0 a1) (kb_E D [] (cw h) (va_A (cw h w0) sz)) (va_A (cw h w0) sz)) 0 0 (va_A (cw h w0) sz) := by
  refine kb_of (cc := cM_remember) (maxL := 2) (ret := none) (QcA := fun A => (va_Qv (fun u' => u' = F_M_remember w0 a1) (kb_E D [] (cw h) A) A)) (by decide) (Nat.le_of_ble_eq_true rfl) ?_
  intro p e s m below meth c A hx hb hr hlocks hml hown hts hA hN hK hP hD ls hl
  have hS : va_S A s.heap s.heap [] := va_S.rf
  have hl : lv_has ls 2 [(0, .ref (h 4)), (1, .int a1)] := hl
  have e : F_M_remember w0 a1 = F_M_remember w0 a1 := rfl
  refine lv_aload_n hx hb dM_remember_0 rfl (lv_at hl 0 rfl) ?_
  refine lv_aload_n hx hb dM_remember_1 rfl (lv_at hl 0 rfl) ?_
  refine va_get (D := D) (ci := 2) (v := .int (w0 27)) (C := "BoilerDesk$Machines") (T := TM) (N := 4) hx hb hts inM hown hK hP 4 rfl rfl 0 (by decide) (hts _ q_174) (fun _ h9 => h9) rfl dM_remember_2 ?_
  refine kb_put (D := D) (wf := cw h) (w' := (up w0 28 (w0 27))) (ci := 2) (v := .int (w0 27)) (ty := .int) (C := "BoilerDesk$Machines") (T := TM) (N := 4) hx hb hts inM tyM tyM_ok nmM hown hK hP hD hS 4 rfl rfl 1 (by decide) (hts _ q_176) (fun _ h9 => h9) rfl (by decide +kernel) rfl rfl (Nat.le_of_ble_eq_true rfl) dM_remember_5 rfl (fun H locs hP hD hS => ?_)
  refine lv_aload_n hx hb dM_remember_8 rfl (lv_at hl 0 rfl) ?_
  refine lv_iload_n hx hb dM_remember_9 rfl (lv_at hl 1 rfl) ?_
  refine kb_put (D := D) (wf := cw h) (w' := (up (up w0 28 (w0 27)) 29 a1)) (ci := 2) (v := .int a1) (ty := .int) (C := "BoilerDesk$Machines") (T := TM) (N := 4) hx hb hts inM tyM tyM_ok nmM hown hK hP hD hS 4 rfl rfl 2 (by decide) (hts _ q_178) (fun _ h9 => h9) rfl (by decide +kernel) rfl rfl (Nat.le_of_ble_eq_true rfl) dM_remember_10 rfl (fun H locs hP hD hS => ?_)
  exact kb_vret (wf := cw h) hx hb hr hlocks hK hP hD hS e.symm dM_remember_13
/-- BoilerDesk$Machines.pumpsSurelyGiving(I)I -/
def F_M_pumpsSurelyGiving (w0 : Nat → Int32) (a1 : Int32) : Int32 := ((((F_M_trusted a1) &&& (w0 27)) &&& (w0 28)) &&& (w0 29))
set_option maxHeartbeats 4000000 in
set_option maxRecDepth 100000 in
theorem c_M_pumpsSurelyGiving (l : Launch) (D : va_G) (h : Nat → Nat) (sz : Nat) (w0 : Nat → Int32) (a1 : Int32)  : Met l yM_pumpsSurelyGiving [.code yM_pumpsSurelyGiving cM_pumpsSurelyGiving 2 (some .int)] ({ frames := 1, cells := 0, slots := 0, locals := 20 }) (va_Pc [.ref (h 4), .int a1] (kb_B D [] (cw h) w0 sz)) (va_Qi (fun r' u' => r' = F_M_pumpsSurelyGiving w0 a1 ∧ u' = w0) (kb_E D [] (cw h) (va_A (cw h w0) sz)) (va_A (cw h w0) sz)) 0 0 (va_A (cw h w0) sz) := by
  refine kb_of (cc := cM_pumpsSurelyGiving) (maxL := 2) (ret := (some .int)) (QcA := fun A => (va_Qi (fun r' u' => r' = F_M_pumpsSurelyGiving w0 a1 ∧ u' = w0) (kb_E D [] (cw h) A) A)) (by decide) (Nat.le_of_ble_eq_true rfl) ?_
  intro p e s m below meth c A hx hb hr hlocks hml hown hts hA hN hK hP hD ls hl
  have hS : va_S A s.heap s.heap [] := va_S.rf
  have hl : lv_has ls 2 [(0, .ref (h 4)), (1, .int a1)] := hl
  have e : F_M_pumpsSurelyGiving w0 a1 = F_M_pumpsSurelyGiving w0 a1 := rfl
  refine lv_iload_n hx hb dM_pumpsSurelyGiving_0 rfl (lv_at hl 1 rfl) ?_
  refine kb_call0 (r := (F_M_trusted a1)) (va_runS (As := [.int a1]) (rest := []) ⟨hx, hb, hml, hown, hts⟩ (c_M_trusted l D _ a1) (va_cwS 1 hts (gd_S q_516 q_517 q_37 q_518) rfl rfl rfl (by decide +kernel) ⟨Nat.le_of_ble_eq_true rfl, Nat.le_of_ble_eq_true rfl⟩) (kb_pre0 hN hK) rfl rfl hl.1 rfl (lv_room (Nat.le_of_ble_eq_true rfl)) dM_pumpsSurelyGiving_1 ⟨Nat.zero_le _, Nat.zero_le _⟩) hP hS hA (fun H locs hP hS => ?_)
  refine lv_aload_n hx hb dM_pumpsSurelyGiving_4 rfl (lv_at hl 0 rfl) ?_
  refine va_get (D := D) (ci := 2) (v := .int (w0 27)) (C := "BoilerDesk$Machines") (T := TM) (N := 4) hx hb hts inM hown hK hP 4 rfl rfl 0 (by decide) (hts _ q_174) (fun _ h9 => h9) rfl dM_pumpsSurelyGiving_5 ?_
  refine lv_iand hx hb dM_pumpsSurelyGiving_8 ?_
  refine lv_aload_n hx hb dM_pumpsSurelyGiving_9 rfl (lv_at hl 0 rfl) ?_
  refine va_get (D := D) (ci := 2) (v := .int (w0 28)) (C := "BoilerDesk$Machines") (T := TM) (N := 4) hx hb hts inM hown hK hP 4 rfl rfl 1 (by decide) (hts _ q_176) (fun _ h9 => h9) rfl dM_pumpsSurelyGiving_10 ?_
  refine lv_iand hx hb dM_pumpsSurelyGiving_13 ?_
  refine lv_aload_n hx hb dM_pumpsSurelyGiving_14 rfl (lv_at hl 0 rfl) ?_
  refine va_get (D := D) (ci := 2) (v := .int (w0 29)) (C := "BoilerDesk$Machines") (T := TM) (N := 4) hx hb hts inM hown hK hP 4 rfl rfl 2 (by decide) (hts _ q_178) (fun _ h9 => h9) rfl dM_pumpsSurelyGiving_15 ?_
  refine lv_iand hx hb dM_pumpsSurelyGiving_18 ?_
  exact kb_iret (wf := cw h) hx hb hr hlocks hK hP hD hS ⟨e.symm, rfl⟩ dM_pumpsSurelyGiving_19
/-- BoilerDesk$Machines.pumpsSurelyIdle(I)I -/
def F_M_pumpsSurelyIdle (w0 : Nat → Int32) (a1 : Int32) : Int32 := ((F_M_trusted a1) &&& ((w0 27) ^^^ ((-1) : Int32)))
set_option maxHeartbeats 4000000 in
set_option maxRecDepth 100000 in
theorem c_M_pumpsSurelyIdle (l : Launch) (D : va_G) (h : Nat → Nat) (sz : Nat) (w0 : Nat → Int32) (a1 : Int32)  : Met l yM_pumpsSurelyIdle [.code yM_pumpsSurelyIdle cM_pumpsSurelyIdle 2 (some .int)] ({ frames := 1, cells := 0, slots := 0, locals := 20 }) (va_Pc [.ref (h 4), .int a1] (kb_B D [] (cw h) w0 sz)) (va_Qi (fun r' u' => r' = F_M_pumpsSurelyIdle w0 a1 ∧ u' = w0) (kb_E D [] (cw h) (va_A (cw h w0) sz)) (va_A (cw h w0) sz)) 0 0 (va_A (cw h w0) sz) := by
  refine kb_of (cc := cM_pumpsSurelyIdle) (maxL := 2) (ret := (some .int)) (QcA := fun A => (va_Qi (fun r' u' => r' = F_M_pumpsSurelyIdle w0 a1 ∧ u' = w0) (kb_E D [] (cw h) A) A)) (by decide) (Nat.le_of_ble_eq_true rfl) ?_
  intro p e s m below meth c A hx hb hr hlocks hml hown hts hA hN hK hP hD ls hl
  have hS : va_S A s.heap s.heap [] := va_S.rf
  have hl : lv_has ls 2 [(0, .ref (h 4)), (1, .int a1)] := hl
  have e : F_M_pumpsSurelyIdle w0 a1 = F_M_pumpsSurelyIdle w0 a1 := rfl
  refine lv_iload_n hx hb dM_pumpsSurelyIdle_0 rfl (lv_at hl 1 rfl) ?_
  refine kb_call0 (r := (F_M_trusted a1)) (va_runS (As := [.int a1]) (rest := []) ⟨hx, hb, hml, hown, hts⟩ (c_M_trusted l D _ a1) (va_cwS 1 hts (gd_S q_516 q_517 q_37 q_518) rfl rfl rfl (by decide +kernel) ⟨Nat.le_of_ble_eq_true rfl, Nat.le_of_ble_eq_true rfl⟩) (kb_pre0 hN hK) rfl rfl hl.1 rfl (lv_room (Nat.le_of_ble_eq_true rfl)) dM_pumpsSurelyIdle_1 ⟨Nat.zero_le _, Nat.zero_le _⟩) hP hS hA (fun H locs hP hS => ?_)
  refine lv_aload_n hx hb dM_pumpsSurelyIdle_4 rfl (lv_at hl 0 rfl) ?_
  refine va_get (D := D) (ci := 2) (v := .int (w0 27)) (C := "BoilerDesk$Machines") (T := TM) (N := 4) hx hb hts inM hown hK hP 4 rfl rfl 0 (by decide) (hts _ q_174) (fun _ h9 => h9) rfl dM_pumpsSurelyIdle_5 ?_
  refine lv_iconst (v := (-1)) hx hb dM_pumpsSurelyIdle_8 (by decide) ?_
  refine lv_ixor hx hb dM_pumpsSurelyIdle_9 ?_
  refine lv_iand hx hb dM_pumpsSurelyIdle_10 ?_
  exact kb_iret (wf := cw h) hx hb hr hlocks hK hP hD hS ⟨e.symm, rfl⟩ dM_pumpsSurelyIdle_11
/-- BoilerDesk$Machines.clear()V -/
def F_M_clear (w0 : Nat → Int32)  : Nat → Int32 := (up (up (up (up w0 27 0) 28 0) 29 0) 30 0)
set_option maxHeartbeats 4000000 in
set_option maxRecDepth 100000 in
theorem c_M_clear (l : Launch) (D : va_G) (h : Nat → Nat) (sz : Nat) (w0 : Nat → Int32)   : Met l yM_clear [.code yM_clear cM_clear 1 none] ({ frames := 0, cells := 0, slots := 0, locals := 0 }) (va_Pc [.ref (h 4)] (kb_B D [] (cw h) w0 sz)) (va_Qv (fun u' => u' = F_M_clear w0) (kb_E D [] (cw h) (va_A (cw h w0) sz)) (va_A (cw h w0) sz)) 0 0 (va_A (cw h w0) sz) := by
  refine kb_of (cc := cM_clear) (maxL := 1) (ret := none) (QcA := fun A => (va_Qv (fun u' => u' = F_M_clear w0) (kb_E D [] (cw h) A) A)) (by decide) (Nat.le_of_ble_eq_true rfl) ?_
  intro p e s m below meth c A hx hb hr hlocks hml hown hts hA hN hK hP hD ls hl
  have hS : va_S A s.heap s.heap [] := va_S.rf
  have hl : lv_has ls 1 [(0, .ref (h 4))] := hl
  have e : F_M_clear w0 = F_M_clear w0 := rfl
  refine lv_aload_n hx hb dM_clear_0 rfl (lv_at hl 0 rfl) ?_
  refine lv_iconst (v := 0) hx hb dM_clear_1 (by decide) ?_
  refine kb_put (D := D) (wf := cw h) (w' := (up w0 27 0)) (ci := 2) (v := .int 0) (ty := .int) (C := "BoilerDesk$Machines") (T := TM) (N := 4) hx hb hts inM tyM tyM_ok nmM hown hK hP hD hS 4 rfl rfl 0 (by decide) (hts _ q_174) (fun _ h9 => h9) rfl (by decide +kernel) rfl rfl (Nat.le_of_ble_eq_true rfl) dM_clear_2 rfl (fun H locs hP hD hS => ?_)
  refine lv_aload_n hx hb dM_clear_5 rfl (lv_at hl 0 rfl) ?_
  refine lv_iconst (v := 0) hx hb dM_clear_6 (by decide) ?_
  refine kb_put (D := D) (wf := cw h) (w' := (up (up w0 27 0) 28 0)) (ci := 2) (v := .int 0) (ty := .int) (C := "BoilerDesk$Machines") (T := TM) (N := 4) hx hb hts inM tyM tyM_ok nmM hown hK hP hD hS 4 rfl rfl 1 (by decide) (hts _ q_176) (fun _ h9 => h9) rfl (by decide +kernel) rfl rfl (Nat.le_of_ble_eq_true rfl) dM_clear_7 rfl (fun H locs hP hD hS => ?_)
  refine lv_aload_n hx hb dM_clear_10 rfl (lv_at hl 0 rfl) ?_
  refine lv_iconst (v := 0) hx hb dM_clear_11 (by decide) ?_
  refine kb_put (D := D) (wf := cw h) (w' := (up (up (up w0 27 0) 28 0) 29 0)) (ci := 2) (v := .int 0) (ty := .int) (C := "BoilerDesk$Machines") (T := TM) (N := 4) hx hb hts inM tyM tyM_ok nmM hown hK hP hD hS 4 rfl rfl 2 (by decide) (hts _ q_178) (fun _ h9 => h9) rfl (by decide +kernel) rfl rfl (Nat.le_of_ble_eq_true rfl) dM_clear_12 rfl (fun H locs hP hD hS => ?_)
  refine lv_aload_n hx hb dM_clear_15 rfl (lv_at hl 0 rfl) ?_
  refine lv_iconst (v := 0) hx hb dM_clear_16 (by decide) ?_
  refine kb_put (D := D) (wf := cw h) (w' := (up (up (up (up w0 27 0) 28 0) 29 0) 30 0)) (ci := 2) (v := .int 0) (ty := .boolean) (C := "BoilerDesk$Machines") (T := TM) (N := 4) hx hb hts inM tyM tyM_ok nmM hown hK hP hD hS 4 rfl rfl 3 (by decide) (hts _ q_179) (fun _ h9 => h9) rfl (by decide +kernel) rfl rfl (Nat.le_of_ble_eq_true rfl) dM_clear_17 rfl (fun H locs hP hD hS => ?_)
  exact kb_vret (wf := cw h) hx hb hr hlocks hK hP hD hS e.symm dM_clear_20
/-- BoilerDesk$Report.clear()V -/
def F_R_clear (w0 : Nat → Int32)  : Nat → Int32 := (up (up (up (up (up (up (up w0 31 0) 32 0) 33 0) 34 0) 35 0) 36 0) 37 0)
set_option maxHeartbeats 4000000 in
set_option maxRecDepth 100000 in
theorem c_R_clear (l : Launch) (D : va_G) (h : Nat → Nat) (sz : Nat) (w0 : Nat → Int32)   : Met l yR_clear [.code yR_clear cR_clear 1 none] ({ frames := 0, cells := 0, slots := 0, locals := 0 }) (va_Pc [.ref (h 5)] (kb_B D [] (cw h) w0 sz)) (va_Qv (fun u' => u' = F_R_clear w0) (kb_E D [] (cw h) (va_A (cw h w0) sz)) (va_A (cw h w0) sz)) 0 0 (va_A (cw h w0) sz) := by
  refine kb_of (cc := cR_clear) (maxL := 1) (ret := none) (QcA := fun A => (va_Qv (fun u' => u' = F_R_clear w0) (kb_E D [] (cw h) A) A)) (by decide) (Nat.le_of_ble_eq_true rfl) ?_
  intro p e s m below meth c A hx hb hr hlocks hml hown hts hA hN hK hP hD ls hl
  have hS : va_S A s.heap s.heap [] := va_S.rf
  have hl : lv_has ls 1 [(0, .ref (h 5))] := hl
  have e : F_R_clear w0 = F_R_clear w0 := rfl
  refine lv_aload_n hx hb dR_clear_0 rfl (lv_at hl 0 rfl) ?_
  refine lv_iconst (v := 0) hx hb dR_clear_1 (by decide) ?_
  refine kb_put (D := D) (wf := cw h) (w' := (up w0 31 0)) (ci := 4) (v := .int 0) (ty := .int) (C := "BoilerDesk$Report") (T := TR) (N := 7) hx hb hts inR tyR tyR_ok nmR hown hK hP hD hS 5 rfl rfl 0 (by decide) (hts _ q_196) (fun _ h9 => h9) rfl (by decide +kernel) rfl rfl (Nat.le_of_ble_eq_true rfl) dR_clear_2 rfl (fun H locs hP hD hS => ?_)
  refine lv_aload_n hx hb dR_clear_5 rfl (lv_at hl 0 rfl) ?_
  refine lv_iconst (v := 0) hx hb dR_clear_6 (by decide) ?_
  refine kb_put (D := D) (wf := cw h) (w' := (up (up w0 31 0) 32 0)) (ci := 4) (v := .int 0) (ty := .int) (C := "BoilerDesk$Report") (T := TR) (N := 7) hx hb hts inR tyR tyR_ok nmR hown hK hP hD hS 5 rfl rfl 1 (by decide) (hts _ q_198) (fun _ h9 => h9) rfl (by decide +kernel) rfl rfl (Nat.le_of_ble_eq_true rfl) dR_clear_7 rfl (fun H locs hP hD hS => ?_)
  refine lv_aload_n hx hb dR_clear_10 rfl (lv_at hl 0 rfl) ?_
  refine lv_iconst (v := 0) hx hb dR_clear_11 (by decide) ?_
  refine kb_put (D := D) (wf := cw h) (w' := (up (up (up w0 31 0) 32 0) 33 0)) (ci := 4) (v := .int 0) (ty := .boolean) (C := "BoilerDesk$Report") (T := TR) (N := 7) hx hb hts inR tyR tyR_ok nmR hown hK hP hD hS 5 rfl rfl 2 (by decide) (hts _ q_200) (fun _ h9 => h9) rfl (by decide +kernel) rfl rfl (Nat.le_of_ble_eq_true rfl) dR_clear_12 rfl (fun H locs hP hD hS => ?_)
  refine lv_aload_n hx hb dR_clear_15 rfl (lv_at hl 0 rfl) ?_
  refine lv_iconst (v := 0) hx hb dR_clear_16 (by decide) ?_
  refine kb_put (D := D) (wf := cw h) (w' := (up (up (up (up w0 31 0) 32 0) 33 0) 34 0)) (ci := 4) (v := .int 0) (ty := .boolean) (C := "BoilerDesk$Report") (T := TR) (N := 7) hx hb hts inR tyR tyR_ok nmR hown hK hP hD hS 5 rfl rfl 3 (by decide) (hts _ q_202) (fun _ h9 => h9) rfl (by decide +kernel) rfl rfl (Nat.le_of_ble_eq_true rfl) dR_clear_17 rfl (fun H locs hP hD hS => ?_)
  refine lv_aload_n hx hb dR_clear_20 rfl (lv_at hl 0 rfl) ?_
  refine lv_iconst (v := 0) hx hb dR_clear_21 (by decide) ?_
  refine kb_put (D := D) (wf := cw h) (w' := (up (up (up (up (up w0 31 0) 32 0) 33 0) 34 0) 35 0)) (ci := 4) (v := .int 0) (ty := .int) (C := "BoilerDesk$Report") (T := TR) (N := 7) hx hb hts inR tyR tyR_ok nmR hown hK hP hD hS 5 rfl rfl 4 (by decide) (hts _ q_204) (fun _ h9 => h9) rfl (by decide +kernel) rfl rfl (Nat.le_of_ble_eq_true rfl) dR_clear_22 rfl (fun H locs hP hD hS => ?_)
  refine lv_aload_n hx hb dR_clear_25 rfl (lv_at hl 0 rfl) ?_
  refine lv_iconst (v := 0) hx hb dR_clear_26 (by decide) ?_
  refine kb_put (D := D) (wf := cw h) (w' := (up (up (up (up (up (up w0 31 0) 32 0) 33 0) 34 0) 35 0) 36 0)) (ci := 4) (v := .int 0) (ty := .int) (C := "BoilerDesk$Report") (T := TR) (N := 7) hx hb hts inR tyR tyR_ok nmR hown hK hP hD hS 5 rfl rfl 5 (by decide) (hts _ q_206) (fun _ h9 => h9) rfl (by decide +kernel) rfl rfl (Nat.le_of_ble_eq_true rfl) dR_clear_27 rfl (fun H locs hP hD hS => ?_)
  refine lv_aload_n hx hb dR_clear_30 rfl (lv_at hl 0 rfl) ?_
  refine lv_iconst (v := 0) hx hb dR_clear_31 (by decide) ?_
  refine kb_put (D := D) (wf := cw h) (w' := (up (up (up (up (up (up (up w0 31 0) 32 0) 33 0) 34 0) 35 0) 36 0) 37 0)) (ci := 4) (v := .int 0) (ty := .boolean) (C := "BoilerDesk$Report") (T := TR) (N := 7) hx hb hts inR tyR tyR_ok nmR hown hK hP hD hS 5 rfl rfl 6 (by decide) (hts _ q_208) (fun _ h9 => h9) rfl (by decide +kernel) rfl rfl (Nat.le_of_ble_eq_true rfl) dR_clear_32 rfl (fun H locs hP hD hS => ?_)
  exact kb_vret (wf := cw h) hx hb hr hlocks hK hP hD hS e.symm dR_clear_35
