/-- BoilerDesk.stopUnlessInitial()V -/
def F_D_stopUnlessInitial (w0 : Nat → Int32)  : Nat → Int32 := (if (w0 0) = (0 : Int32) then w0 else (up w0 0 4))
set_option maxHeartbeats 4000000 in
set_option maxRecDepth 100000 in
theorem c_D_stopUnlessInitial (l : Launch) (D : va_G) (h : Nat → Nat) (sz : Nat) (w0 : Nat → Int32)   : Met l yD_stopUnlessInitial [.code yD_stopUnlessInitial cD_stopUnlessInitial 1 none] ({ frames := 0, cells := 0, slots := 0, locals := 0 }) (va_Pc [.ref (h 0)] (kb_B D [] (cw h) w0 sz)) (va_Qv (fun u' => u' = F_D_stopUnlessInitial w0) (kb_E D [] (cw h) (va_A (cw h w0) sz)) (va_A (cw h w0) sz)) 0 0 (va_A (cw h w0) sz) := by
  refine kb_of (cc := cD_stopUnlessInitial) (maxL := 1) (ret := none) (QcA := fun A => (va_Qv (fun u' => u' = F_D_stopUnlessInitial w0) (kb_E D [] (cw h) A) A)) (by decide) (Nat.le_of_ble_eq_true rfl) ?_
  intro p e s m below meth c A hx hb hr hlocks hml hown hts hA hN hK hP hD ls hl
  have hS : va_S A s.heap s.heap [] := va_S.rf
  have hl : lv_has ls 1 [(0, .ref (h 0))] := hl
  have e : F_D_stopUnlessInitial w0 = F_D_stopUnlessInitial w0 := rfl
  refine lv_aload_n hx hb dD_stopUnlessInitial_0 rfl (lv_at hl 0 rfl) ?_
  refine va_get (D := D) (ci := 0) (v := .int (w0 0)) (C := "BoilerDesk") (T := TD) (N := 13) hx hb hts inD hown hK hP 0 rfl rfl 9 (by decide) (hts _ q_281) (fun _ h9 => h9) rfl dD_stopUnlessInitial_1 ?_
  refine lv_if_eq (tgt := 12) hx hb dD_stopUnlessInitial_4 (by decide) (fun c_1 => ?_) (fun c_1 => ?_)
  · have e := e.trans (if_pos c_1)
    exact kb_vret (wf := cw h) hx hb hr hlocks hK hP hD hS e.symm dD_stopUnlessInitial_12
  · have e := e.trans (if_neg c_1)
    refine lv_aload_n hx hb dD_stopUnlessInitial_7 rfl (lv_at hl 0 rfl) ?_
    refine lv_iconst (v := 4) hx hb dD_stopUnlessInitial_8 (by decide) ?_
    refine kb_put (D := D) (wf := cw h) (w' := (up w0 0 4)) (ci := 0) (v := .int 4) (ty := .int) (C := "BoilerDesk") (T := TD) (N := 13) hx hb hts inD tyD tyD_ok nmD hown hK hP hD hS 0 rfl rfl 9 (by decide) (hts _ q_281) (fun _ h9 => h9) rfl (by decide +kernel) rfl rfl (Nat.le_of_ble_eq_true rfl) dD_stopUnlessInitial_9 rfl (fun H locs hP hD hS => ?_)
    exact kb_vret (wf := cw h) hx hb hr hlocks hK hP hD hS e.symm dD_stopUnlessInitial_12
/-- BoilerDesk.noteWords()V -/
def F_D_noteWords (w0 : Nat → Int32)  : Nat → Int32 := (if (w0 22) = (0 : Int32) then (if (w0 3) = (0 : Int32) then (if (w0 20) = (0 : Int32) then (up (up w0 2 0) 3 0) else (up (up w0 2 0) 3 1)) else (up (up w0 2 0) 3 1)) else (if (w0 3) = (0 : Int32) then (if (w0 20) = (0 : Int32) then (up (up w0 2 ((w0 2) + (1 : Int32))) 3 0) else (up (up w0 2 ((w0 2) + (1 : Int32))) 3 1)) else (up (up w0 2 ((w0 2) + (1 : Int32))) 3 1)))
set_option maxHeartbeats 4000000 in
set_option maxRecDepth 100000 in
theorem c_D_noteWords (l : Launch) (D : va_G) (h : Nat → Nat) (sz : Nat) (w0 : Nat → Int32)   : Met l yD_noteWords [.code yD_noteWords cD_noteWords 1 none] ({ frames := 0, cells := 0, slots := 0, locals := 0 }) (va_Pc [.ref (h 0)] (kb_B D [] (cw h) w0 sz)) (va_Qv (fun u' => u' = F_D_noteWords w0) (kb_E D [] (cw h) (va_A (cw h w0) sz)) (va_A (cw h w0) sz)) 0 0 (va_A (cw h w0) sz) := by
  refine kb_of (cc := cD_noteWords) (maxL := 1) (ret := none) (QcA := fun A => (va_Qv (fun u' => u' = F_D_noteWords w0) (kb_E D [] (cw h) A) A)) (by decide) (Nat.le_of_ble_eq_true rfl) ?_
  intro p e s m below meth c A hx hb hr hlocks hml hown hts hA hN hK hP hD ls hl
  have hS : va_S A s.heap s.heap [] := va_S.rf
  have hl : lv_has ls 1 [(0, .ref (h 0))] := hl
  have e : F_D_noteWords w0 = F_D_noteWords w0 := rfl
  refine lv_aload_n hx hb dD_noteWords_0 rfl (lv_at hl 0 rfl) ?_
  refine lv_aload_n hx hb dD_noteWords_1 rfl (lv_at hl 0 rfl) ?_
  refine va_get (D := D) (ci := 0) (v := .ref (h 2)) (C := "BoilerDesk") (T := TD) (N := 13) hx hb hts inD hown hK hP 0 rfl rfl 1 (by decide) (hts _ q_273) (fun _ h9 => h9) rfl dD_noteWords_2 ?_
  refine va_get (D := D) (ci := 1) (v := .int (w0 22)) (C := "BoilerDesk$Inbox") (T := TI) (N := 12) hx hb hts inI hown hK hP 2 rfl rfl 9 (by decide) (hts _ q_123) (fun _ h9 => h9) rfl dD_noteWords_5 ?_
  refine lv_if_eq (tgt := 20) hx hb dD_noteWords_8 (by decide) (fun c_1 => ?_) (fun c_1 => ?_)
  · have e := e.trans (if_pos c_1)
    refine lv_iconst (v := 0) hx hb dD_noteWords_20 (by decide) ?_
    refine kb_put (D := D) (wf := cw h) (w' := (up w0 2 0)) (ci := 0) (v := .int 0) (ty := .int) (C := "BoilerDesk") (T := TD) (N := 13) hx hb hts inD tyD tyD_ok nmD hown hK hP hD hS 0 rfl rfl 11 (by decide) (hts _ q_283) (fun _ h9 => h9) rfl (by decide +kernel) rfl rfl (Nat.le_of_ble_eq_true rfl) dD_noteWords_21 rfl (fun H locs hP hD hS => ?_)
    refine lv_aload_n hx hb dD_noteWords_24 rfl (lv_at hl 0 rfl) ?_
    refine lv_aload_n hx hb dD_noteWords_25 rfl (lv_at hl 0 rfl) ?_
    refine va_get (D := D) (ci := 0) (v := .int (w0 3)) (C := "BoilerDesk") (T := TD) (N := 13) hx hb hts inD hown hK hP 0 rfl rfl 12 (by decide) (hts _ q_284) (fun _ h9 => h9) rfl dD_noteWords_26 ?_
    refine lv_if_ne (tgt := 42) hx hb dD_noteWords_29 (by decide) (fun c_2 => ?_) (fun c_2 => ?_)
    · have e := e.trans (if_neg c_2)
      refine lv_iconst (v := 1) hx hb dD_noteWords_42 (by decide) ?_
      refine lv_goto (tgt := 47) hx hb dD_noteWords_43 (by decide) ?_
      refine kb_put (D := D) (wf := cw h) (w' := (up (up w0 2 0) 3 1)) (ci := 0) (v := .int 1) (ty := .boolean) (C := "BoilerDesk") (T := TD) (N := 13) hx hb hts inD tyD tyD_ok nmD hown hK hP hD hS 0 rfl rfl 12 (by decide) (hts _ q_284) (fun _ h9 => h9) rfl (by decide +kernel) rfl rfl (Nat.le_of_ble_eq_true rfl) dD_noteWords_47 rfl (fun H locs hP hD hS => ?_)
      exact kb_vret (wf := cw h) hx hb hr hlocks hK hP hD hS e.symm dD_noteWords_50
    · have e := e.trans (if_pos c_2)
      refine lv_aload_n hx hb dD_noteWords_32 rfl (lv_at hl 0 rfl) ?_
      refine va_get (D := D) (ci := 0) (v := .ref (h 2)) (C := "BoilerDesk") (T := TD) (N := 13) hx hb hts inD hown hK hP 0 rfl rfl 1 (by decide) (hts _ q_273) (fun _ h9 => h9) rfl dD_noteWords_33 ?_
      refine va_get (D := D) (ci := 1) (v := .int (w0 20)) (C := "BoilerDesk$Inbox") (T := TI) (N := 12) hx hb hts inI hown hK hP 2 rfl rfl 7 (by decide) (hts _ q_119) (fun _ h9 => h9) rfl dD_noteWords_36 ?_
      refine lv_if_eq (tgt := 46) hx hb dD_noteWords_39 (by decide) (fun c_3 => ?_) (fun c_3 => ?_)
      · have e := e.trans (if_pos c_3)
        refine lv_iconst (v := 0) hx hb dD_noteWords_46 (by decide) ?_
        refine kb_put (D := D) (wf := cw h) (w' := (up (up w0 2 0) 3 0)) (ci := 0) (v := .int 0) (ty := .boolean) (C := "BoilerDesk") (T := TD) (N := 13) hx hb hts inD tyD tyD_ok nmD hown hK hP hD hS 0 rfl rfl 12 (by decide) (hts _ q_284) (fun _ h9 => h9) rfl (by decide +kernel) rfl rfl (Nat.le_of_ble_eq_true rfl) dD_noteWords_47 rfl (fun H locs hP hD hS => ?_)
        exact kb_vret (wf := cw h) hx hb hr hlocks hK hP hD hS e.symm dD_noteWords_50
      · have e := e.trans (if_neg c_3)
        refine lv_iconst (v := 1) hx hb dD_noteWords_42 (by decide) ?_
        refine lv_goto (tgt := 47) hx hb dD_noteWords_43 (by decide) ?_
        refine kb_put (D := D) (wf := cw h) (w' := (up (up w0 2 0) 3 1)) (ci := 0) (v := .int 1) (ty := .boolean) (C := "BoilerDesk") (T := TD) (N := 13) hx hb hts inD tyD tyD_ok nmD hown hK hP hD hS 0 rfl rfl 12 (by decide) (hts _ q_284) (fun _ h9 => h9) rfl (by decide +kernel) rfl rfl (Nat.le_of_ble_eq_true rfl) dD_noteWords_47 rfl (fun H locs hP hD hS => ?_)
        exact kb_vret (wf := cw h) hx hb hr hlocks hK hP hD hS e.symm dD_noteWords_50
  · have e := e.trans (if_neg c_1)
    refine lv_aload_n hx hb dD_noteWords_11 rfl (lv_at hl 0 rfl) ?_
    refine va_get (D := D) (ci := 0) (v := .int (w0 2)) (C := "BoilerDesk") (T := TD) (N := 13) hx hb hts inD hown hK hP 0 rfl rfl 11 (by decide) (hts _ q_283) (fun _ h9 => h9) rfl dD_noteWords_12 ?_
    refine lv_iconst (v := 1) hx hb dD_noteWords_15 (by decide) ?_
    refine lv_iadd hx hb dD_noteWords_16 ?_
    refine lv_goto (tgt := 21) hx hb dD_noteWords_17 (by decide) ?_
    refine kb_put (D := D) (wf := cw h) (w' := (up w0 2 ((w0 2) + (1 : Int32)))) (ci := 0) (v := .int ((w0 2) + (1 : Int32))) (ty := .int) (C := "BoilerDesk") (T := TD) (N := 13) hx hb hts inD tyD tyD_ok nmD hown hK hP hD hS 0 rfl rfl 11 (by decide) (hts _ q_283) (fun _ h9 => h9) rfl (by decide +kernel) rfl rfl (Nat.le_of_ble_eq_true rfl) dD_noteWords_21 rfl (fun H locs hP hD hS => ?_)
    refine lv_aload_n hx hb dD_noteWords_24 rfl (lv_at hl 0 rfl) ?_
    refine lv_aload_n hx hb dD_noteWords_25 rfl (lv_at hl 0 rfl) ?_
    refine va_get (D := D) (ci := 0) (v := .int (w0 3)) (C := "BoilerDesk") (T := TD) (N := 13) hx hb hts inD hown hK hP 0 rfl rfl 12 (by decide) (hts _ q_284) (fun _ h9 => h9) rfl dD_noteWords_26 ?_
    refine lv_if_ne (tgt := 42) hx hb dD_noteWords_29 (by decide) (fun c_4 => ?_) (fun c_4 => ?_)
    · have e := e.trans (if_neg c_4)
      refine lv_iconst (v := 1) hx hb dD_noteWords_42 (by decide) ?_
      refine lv_goto (tgt := 47) hx hb dD_noteWords_43 (by decide) ?_
      refine kb_put (D := D) (wf := cw h) (w' := (up (up w0 2 ((w0 2) + (1 : Int32))) 3 1)) (ci := 0) (v := .int 1) (ty := .boolean) (C := "BoilerDesk") (T := TD) (N := 13) hx hb hts inD tyD tyD_ok nmD hown hK hP hD hS 0 rfl rfl 12 (by decide) (hts _ q_284) (fun _ h9 => h9) rfl (by decide +kernel) rfl rfl (Nat.le_of_ble_eq_true rfl) dD_noteWords_47 rfl (fun H locs hP hD hS => ?_)
      exact kb_vret (wf := cw h) hx hb hr hlocks hK hP hD hS e.symm dD_noteWords_50
    · have e := e.trans (if_pos c_4)
      refine lv_aload_n hx hb dD_noteWords_32 rfl (lv_at hl 0 rfl) ?_
      refine va_get (D := D) (ci := 0) (v := .ref (h 2)) (C := "BoilerDesk") (T := TD) (N := 13) hx hb hts inD hown hK hP 0 rfl rfl 1 (by decide) (hts _ q_273) (fun _ h9 => h9) rfl dD_noteWords_33 ?_
      refine va_get (D := D) (ci := 1) (v := .int (w0 20)) (C := "BoilerDesk$Inbox") (T := TI) (N := 12) hx hb hts inI hown hK hP 2 rfl rfl 7 (by decide) (hts _ q_119) (fun _ h9 => h9) rfl dD_noteWords_36 ?_
      refine lv_if_eq (tgt := 46) hx hb dD_noteWords_39 (by decide) (fun c_5 => ?_) (fun c_5 => ?_)
      · have e := e.trans (if_pos c_5)
        refine lv_iconst (v := 0) hx hb dD_noteWords_46 (by decide) ?_
        refine kb_put (D := D) (wf := cw h) (w' := (up (up w0 2 ((w0 2) + (1 : Int32))) 3 0)) (ci := 0) (v := .int 0) (ty := .boolean) (C := "BoilerDesk") (T := TD) (N := 13) hx hb hts inD tyD tyD_ok nmD hown hK hP hD hS 0 rfl rfl 12 (by decide) (hts _ q_284) (fun _ h9 => h9) rfl (by decide +kernel) rfl rfl (Nat.le_of_ble_eq_true rfl) dD_noteWords_47 rfl (fun H locs hP hD hS => ?_)
        exact kb_vret (wf := cw h) hx hb hr hlocks hK hP hD hS e.symm dD_noteWords_50
      · have e := e.trans (if_neg c_5)
        refine lv_iconst (v := 1) hx hb dD_noteWords_42 (by decide) ?_
        refine lv_goto (tgt := 47) hx hb dD_noteWords_43 (by decide) ?_
        refine kb_put (D := D) (wf := cw h) (w' := (up (up w0 2 ((w0 2) + (1 : Int32))) 3 1)) (ci := 0) (v := .int 1) (ty := .boolean) (C := "BoilerDesk") (T := TD) (N := 13) hx hb hts inD tyD tyD_ok nmD hown hK hP hD hS 0 rfl rfl 12 (by decide) (hts _ q_284) (fun _ h9 => h9) rfl (by decide +kernel) rfl rfl (Nat.le_of_ble_eq_true rfl) dD_noteWords_47 rfl (fun H locs hP hD hS => ?_)
        exact kb_vret (wf := cw h) hx hb hr hlocks hK hP hD hS e.symm dD_noteWords_50
/-- BoilerDesk.startAnew()V -/
def F_D_startAnew (w0 : Nat → Int32)  : Nat → Int32 := (F_S_put_7 (F_S_put_6 (F_R_clear (F_M_clear (F_U_clear (F_I_clear (up (up (up (up w0 0 0) 1 0) 2 0) 3 0))))) (0 : Int32) (F_R_clear (F_M_clear (F_U_clear (F_I_clear (up (up (up (up w0 0 0) 1 0) 2 0) 3 0)))) 4)) (0 : Int32) (F_S_put_6 (F_R_clear (F_M_clear (F_U_clear (F_I_clear (up (up (up (up w0 0 0) 1 0) 2 0) 3 0))))) (0 : Int32) (F_R_clear (F_M_clear (F_U_clear (F_I_clear (up (up (up (up w0 0 0) 1 0) 2 0) 3 0)))) 4) 9))
set_option maxHeartbeats 4000000 in
set_option maxRecDepth 100000 in
theorem c_D_startAnew (l : Launch) (D : va_G) (h : Nat → Nat) (sz : Nat) (w0 : Nat → Int32)   : Met l yD_startAnew [.code yD_startAnew cD_startAnew 1 none] ({ frames := 1, cells := 0, slots := 0, locals := 22 }) (va_Pc [.ref (h 0)] (kb_B D [] (cw h) w0 sz)) (va_Qv (fun u' => u' = F_D_startAnew w0) (kb_E D [] (cw h) (va_A (cw h w0) sz)) (va_A (cw h w0) sz)) 0 0 (va_A (cw h w0) sz) := by
  refine kb_of (cc := cD_startAnew) (maxL := 1) (ret := none) (QcA := fun A => (va_Qv (fun u' => u' = F_D_startAnew w0) (kb_E D [] (cw h) A) A)) (by decide) (Nat.le_of_ble_eq_true rfl) ?_
  intro p e s m below meth c A hx hb hr hlocks hml hown hts hA hN hK hP hD ls hl
  have hS : va_S A s.heap s.heap [] := va_S.rf
  have hl : lv_has ls 1 [(0, .ref (h 0))] := hl
  have e : F_D_startAnew w0 = F_D_startAnew w0 := rfl
  refine lv_aload_n hx hb dD_startAnew_0 rfl (lv_at hl 0 rfl) ?_
  refine lv_iconst (v := 0) hx hb dD_startAnew_1 (by decide) ?_
  refine kb_put (D := D) (wf := cw h) (w' := (up w0 0 0)) (ci := 0) (v := .int 0) (ty := .int) (C := "BoilerDesk") (T := TD) (N := 13) hx hb hts inD tyD tyD_ok nmD hown hK hP hD hS 0 rfl rfl 9 (by decide) (hts _ q_281) (fun _ h9 => h9) rfl (by decide +kernel) rfl rfl (Nat.le_of_ble_eq_true rfl) dD_startAnew_2 rfl (fun H locs hP hD hS => ?_)
  refine lv_aload_n hx hb dD_startAnew_5 rfl (lv_at hl 0 rfl) ?_
  refine lv_iconst (v := 0) hx hb dD_startAnew_6 (by decide) ?_
  refine kb_put (D := D) (wf := cw h) (w' := (up (up w0 0 0) 1 0)) (ci := 0) (v := .int 0) (ty := .int) (C := "BoilerDesk") (T := TD) (N := 13) hx hb hts inD tyD tyD_ok nmD hown hK hP hD hS 0 rfl rfl 10 (by decide) (hts _ q_282) (fun _ h9 => h9) rfl (by decide +kernel) rfl rfl (Nat.le_of_ble_eq_true rfl) dD_startAnew_7 rfl (fun H locs hP hD hS => ?_)
  refine lv_aload_n hx hb dD_startAnew_10 rfl (lv_at hl 0 rfl) ?_
  refine lv_iconst (v := 0) hx hb dD_startAnew_11 (by decide) ?_
  refine kb_put (D := D) (wf := cw h) (w' := (up (up (up w0 0 0) 1 0) 2 0)) (ci := 0) (v := .int 0) (ty := .int) (C := "BoilerDesk") (T := TD) (N := 13) hx hb hts inD tyD tyD_ok nmD hown hK hP hD hS 0 rfl rfl 11 (by decide) (hts _ q_283) (fun _ h9 => h9) rfl (by decide +kernel) rfl rfl (Nat.le_of_ble_eq_true rfl) dD_startAnew_12 rfl (fun H locs hP hD hS => ?_)
  refine lv_aload_n hx hb dD_startAnew_15 rfl (lv_at hl 0 rfl) ?_
  refine lv_iconst (v := 0) hx hb dD_startAnew_16 (by decide) ?_
  refine kb_put (D := D) (wf := cw h) (w' := (up (up (up (up w0 0 0) 1 0) 2 0) 3 0)) (ci := 0) (v := .int 0) (ty := .boolean) (C := "BoilerDesk") (T := TD) (N := 13) hx hb hts inD tyD tyD_ok nmD hown hK hP hD hS 0 rfl rfl 12 (by decide) (hts _ q_284) (fun _ h9 => h9) rfl (by decide +kernel) rfl rfl (Nat.le_of_ble_eq_true rfl) dD_startAnew_17 rfl (fun H locs hP hD hS => ?_)
  refine lv_aload_n hx hb dD_startAnew_20 rfl (lv_at hl 0 rfl) ?_
  refine va_get (D := D) (ci := 0) (v := .ref (h 2)) (C := "BoilerDesk") (T := TD) (N := 13) hx hb hts inD hown hK hP 0 rfl rfl 1 (by decide) (hts _ q_273) (fun _ h9 => h9) rfl dD_startAnew_21 ?_
  refine kb_callv (wf := cw h) (u := F_I_clear (up (up (up (up w0 0 0) 1 0) 2 0) 3 0)) (va_runV (As := []) (rest := []) ⟨hx, hb, hml, hown, hts⟩ (c_I_clear l D h _ (up (up (up (up w0 0 0) 1 0) 2 0) 3 0)) (cwV 0 hts (gd_V q_252 q_253 q_254 q_35 q_255) rfl rfl rfl (by decide +kernel) ⟨Nat.le_of_ble_eq_true rfl, Nat.le_of_ble_eq_true rfl⟩) (kb_preV hN hK hP hD (va_recv hK hP (ci := 1) (q0 := 2) rfl rfl)) rfl rfl hl.1 rfl (lv_room (Nat.le_of_ble_eq_true rfl)) dD_startAnew_24 ⟨Nat.zero_le _, Nat.zero_le _⟩) hP hD hS hA (fun H locs hP hD hS => ?_)
  refine lv_aload_n hx hb dD_startAnew_27 rfl (lv_at hl 0 rfl) ?_
  refine va_get (D := D) (ci := 0) (v := .ref (h 3)) (C := "BoilerDesk") (T := TD) (N := 13) hx hb hts inD hown hK hP 0 rfl rfl 2 (by decide) (hts _ q_274) (fun _ h9 => h9) rfl dD_startAnew_28 ?_
  refine kb_callv (wf := cw h) (u := F_U_clear (F_I_clear (up (up (up (up w0 0 0) 1 0) 2 0) 3 0))) (va_runV (As := []) (rest := []) ⟨hx, hb, hml, hown, hts⟩ (c_U_clear l D h _ (F_I_clear (up (up (up (up w0 0 0) 1 0) 2 0) 3 0))) (cwV 0 hts (gd_V q_256 q_257 q_258 q_36 q_259) rfl rfl rfl (by decide +kernel) ⟨Nat.le_of_ble_eq_true rfl, Nat.le_of_ble_eq_true rfl⟩) (kb_preV hN hK hP hD (va_recv hK hP (ci := 6) (q0 := 3) rfl rfl)) rfl rfl hl.1 rfl (lv_room (Nat.le_of_ble_eq_true rfl)) dD_startAnew_31 ⟨Nat.zero_le _, Nat.zero_le _⟩) hP hD hS hA (fun H locs hP hD hS => ?_)
  refine lv_aload_n hx hb dD_startAnew_34 rfl (lv_at hl 0 rfl) ?_
  refine va_get (D := D) (ci := 0) (v := .ref (h 4)) (C := "BoilerDesk") (T := TD) (N := 13) hx hb hts inD hown hK hP 0 rfl rfl 3 (by decide) (hts _ q_275) (fun _ h9 => h9) rfl dD_startAnew_35 ?_
  refine kb_callv (wf := cw h) (u := F_M_clear (F_U_clear (F_I_clear (up (up (up (up w0 0 0) 1 0) 2 0) 3 0)))) (va_runV (As := []) (rest := []) ⟨hx, hb, hml, hown, hts⟩ (c_M_clear l D h _ (F_U_clear (F_I_clear (up (up (up (up w0 0 0) 1 0) 2 0) 3 0)))) (cwV 0 hts (gd_V q_260 q_261 q_262 q_37 q_263) rfl rfl rfl (by decide +kernel) ⟨Nat.le_of_ble_eq_true rfl, Nat.le_of_ble_eq_true rfl⟩) (kb_preV hN hK hP hD (va_recv hK hP (ci := 2) (q0 := 4) rfl rfl)) rfl rfl hl.1 rfl (lv_room (Nat.le_of_ble_eq_true rfl)) dD_startAnew_38 ⟨Nat.zero_le _, Nat.zero_le _⟩) hP hD hS hA (fun H locs hP hD hS => ?_)
  refine lv_aload_n hx hb dD_startAnew_41 rfl (lv_at hl 0 rfl) ?_
  refine va_get (D := D) (ci := 0) (v := .ref (h 5)) (C := "BoilerDesk") (T := TD) (N := 13) hx hb hts inD hown hK hP 0 rfl rfl 4 (by decide) (hts _ q_276) (fun _ h9 => h9) rfl dD_startAnew_42 ?_
  refine kb_callv (wf := cw h) (u := F_R_clear (F_M_clear (F_U_clear (F_I_clear (up (up (up (up w0 0 0) 1 0) 2 0) 3 0))))) (va_runV (As := []) (rest := []) ⟨hx, hb, hml, hown, hts⟩ (c_R_clear l D h _ (F_M_clear (F_U_clear (F_I_clear (up (up (up (up w0 0 0) 1 0) 2 0) 3 0))))) (cwV 0 hts (gd_V q_264 q_265 q_266 q_38 q_267) rfl rfl rfl (by decide +kernel) ⟨Nat.le_of_ble_eq_true rfl, Nat.le_of_ble_eq_true rfl⟩) (kb_preV hN hK hP hD (va_recv hK hP (ci := 4) (q0 := 5) rfl rfl)) rfl rfl hl.1 rfl (lv_room (Nat.le_of_ble_eq_true rfl)) dD_startAnew_45 ⟨Nat.zero_le _, Nat.zero_le _⟩) hP hD hS hA (fun H locs hP hD hS => ?_)
  refine lv_aload_n hx hb dD_startAnew_48 rfl (lv_at hl 0 rfl) ?_
  refine va_get (D := D) (ci := 0) (v := .ref (h 6)) (C := "BoilerDesk") (T := TD) (N := 13) hx hb hts inD hown hK hP 0 rfl rfl 5 (by decide) (hts _ q_277) (fun _ h9 => h9) rfl dD_startAnew_49 ?_
  refine lv_iconst (v := 0) hx hb dD_startAnew_52 (by decide) ?_
  refine lv_aload_n hx hb dD_startAnew_53 rfl (lv_at hl 0 rfl) ?_
  refine va_get (D := D) (ci := 0) (v := .ref (h 1)) (C := "BoilerDesk") (T := TD) (N := 13) hx hb hts inD hown hK hP 0 rfl rfl 0 (by decide) (hts _ q_272) (fun _ h9 => h9) rfl dD_startAnew_54 ?_
  refine va_get (D := D) (ci := 3) (v := .int (F_R_clear (F_M_clear (F_U_clear (F_I_clear (up (up (up (up w0 0 0) 1 0) 2 0) 3 0)))) 4)) (C := "BoilerDesk$Plant") (T := TP) (N := 9) hx hb hts inP hown hK hP 1 rfl rfl 0 (by decide) (hts _ q_63) (fun _ h9 => h9) rfl dD_startAnew_57 ?_
  refine kb_callv (wf := cw h) (u := F_S_put_6 (F_R_clear (F_M_clear (F_U_clear (F_I_clear (up (up (up (up w0 0 0) 1 0) 2 0) 3 0))))) (0 : Int32) (F_R_clear (F_M_clear (F_U_clear (F_I_clear (up (up (up (up w0 0 0) 1 0) 2 0) 3 0)))) 4)) (va_runV (As := [.int 0, .int (F_R_clear (F_M_clear (F_U_clear (F_I_clear (up (up (up (up w0 0 0) 1 0) 2 0) 3 0)))) 4)]) (rest := []) ⟨hx, hb, hml, hown, hts⟩ (c_S_put_6 l D h _ (F_R_clear (F_M_clear (F_U_clear (F_I_clear (up (up (up (up w0 0 0) 1 0) 2 0) 3 0))))) (0 : Int32) (F_R_clear (F_M_clear (F_U_clear (F_I_clear (up (up (up (up w0 0 0) 1 0) 2 0) 3 0)))) 4)) (cwV 2 hts (gd_V q_268 q_269 q_270 q_39 q_271) rfl rfl rfl (by decide +kernel) ⟨Nat.le_of_ble_eq_true rfl, Nat.le_of_ble_eq_true rfl⟩) (kb_preV hN hK hP hD (va_recv hK hP (ci := 5) (q0 := 6) rfl rfl)) rfl rfl hl.1 rfl (lv_room (Nat.le_of_ble_eq_true rfl)) dD_startAnew_60 ⟨Nat.zero_le _, Nat.zero_le _⟩) hP hD hS hA (fun H locs hP hD hS => ?_)
  refine lv_aload_n hx hb dD_startAnew_63 rfl (lv_at hl 0 rfl) ?_
  refine va_get (D := D) (ci := 0) (v := .ref (h 7)) (C := "BoilerDesk") (T := TD) (N := 13) hx hb hts inD hown hK hP 0 rfl rfl 6 (by decide) (hts _ q_278) (fun _ h9 => h9) rfl dD_startAnew_64 ?_
  refine lv_iconst (v := 0) hx hb dD_startAnew_67 (by decide) ?_
  refine lv_aload_n hx hb dD_startAnew_68 rfl (lv_at hl 0 rfl) ?_
  refine va_get (D := D) (ci := 0) (v := .ref (h 1)) (C := "BoilerDesk") (T := TD) (N := 13) hx hb hts inD hown hK hP 0 rfl rfl 0 (by decide) (hts _ q_272) (fun _ h9 => h9) rfl dD_startAnew_69 ?_
  refine va_get (D := D) (ci := 3) (v := .int (F_S_put_6 (F_R_clear (F_M_clear (F_U_clear (F_I_clear (up (up (up (up w0 0 0) 1 0) 2 0) 3 0))))) (0 : Int32) (F_R_clear (F_M_clear (F_U_clear (F_I_clear (up (up (up (up w0 0 0) 1 0) 2 0) 3 0)))) 4) 9)) (C := "BoilerDesk$Plant") (T := TP) (N := 9) hx hb hts inP hown hK hP 1 rfl rfl 5 (by decide) (hts _ q_73) (fun _ h9 => h9) rfl dD_startAnew_72 ?_
  refine kb_callv (wf := cw h) (u := F_S_put_7 (F_S_put_6 (F_R_clear (F_M_clear (F_U_clear (F_I_clear (up (up (up (up w0 0 0) 1 0) 2 0) 3 0))))) (0 : Int32) (F_R_clear (F_M_clear (F_U_clear (F_I_clear (up (up (up (up w0 0 0) 1 0) 2 0) 3 0)))) 4)) (0 : Int32) (F_S_put_6 (F_R_clear (F_M_clear (F_U_clear (F_I_clear (up (up (up (up w0 0 0) 1 0) 2 0) 3 0))))) (0 : Int32) (F_R_clear (F_M_clear (F_U_clear (F_I_clear (up (up (up (up w0 0 0) 1 0) 2 0) 3 0)))) 4) 9)) (va_runV (As := [.int 0, .int (F_S_put_6 (F_R_clear (F_M_clear (F_U_clear (F_I_clear (up (up (up (up w0 0 0) 1 0) 2 0) 3 0))))) (0 : Int32) (F_R_clear (F_M_clear (F_U_clear (F_I_clear (up (up (up (up w0 0 0) 1 0) 2 0) 3 0)))) 4) 9)]) (rest := []) ⟨hx, hb, hml, hown, hts⟩ (c_S_put_7 l D h _ (F_S_put_6 (F_R_clear (F_M_clear (F_U_clear (F_I_clear (up (up (up (up w0 0 0) 1 0) 2 0) 3 0))))) (0 : Int32) (F_R_clear (F_M_clear (F_U_clear (F_I_clear (up (up (up (up w0 0 0) 1 0) 2 0) 3 0)))) 4)) (0 : Int32) (F_S_put_6 (F_R_clear (F_M_clear (F_U_clear (F_I_clear (up (up (up (up w0 0 0) 1 0) 2 0) 3 0))))) (0 : Int32) (F_R_clear (F_M_clear (F_U_clear (F_I_clear (up (up (up (up w0 0 0) 1 0) 2 0) 3 0)))) 4) 9)) (cwV 2 hts (gd_V q_268 q_269 q_270 q_39 q_271) rfl rfl rfl (by decide +kernel) ⟨Nat.le_of_ble_eq_true rfl, Nat.le_of_ble_eq_true rfl⟩) (kb_preV hN hK hP hD (va_recv hK hP (ci := 5) (q0 := 7) rfl rfl)) rfl rfl hl.1 rfl (lv_room (Nat.le_of_ble_eq_true rfl)) dD_startAnew_75 ⟨Nat.zero_le _, Nat.zero_le _⟩) hP hD hS hA (fun H locs hP hD hS => ?_)
  exact kb_vret (wf := cw h) hx hb hr hlocks hK hP hD hS e.symm dD_startAnew_78
/-- BoilerDesk.detect(I)V -/
def F_D_detect (w0 : Nat → Int32) (a1 : Int32) : Nat → Int32 := (if (F_U_hasFailed w0 a1) = (0 : Int32) then (up (F_U_fail w0 a1) 35 (F_D_withBit (F_U_fail w0 a1 35) a1 (1 : Int32))) else w0)
set_option maxHeartbeats 4000000 in
set_option maxRecDepth 100000 in
theorem c_D_detect (l : Launch) (D : va_G) (h : Nat → Nat) (sz : Nat) (w0 : Nat → Int32) (a1 : Int32)  : Met l yD_detect [.code yD_detect cD_detect 2 none] ({ frames := 2, cells := 0, slots := 0, locals := 43 }) (va_Pc [.ref (h 0), .int a1] (kb_B D [] (cw h) w0 sz)) (va_Qv (fun u' => u' = F_D_detect w0 a1) (kb_E D [] (cw h) (va_A (cw h w0) sz)) (va_A (cw h w0) sz)) 0 0 (va_A (cw h w0) sz) := by
  refine kb_of (cc := cD_detect) (maxL := 2) (ret := none) (QcA := fun A => (va_Qv (fun u' => u' = F_D_detect w0 a1) (kb_E D [] (cw h) A) A)) (by decide) (Nat.le_of_ble_eq_true rfl) ?_
  intro p e s m below meth c A hx hb hr hlocks hml hown hts hA hN hK hP hD ls hl
  have hS : va_S A s.heap s.heap [] := va_S.rf
  have hl : lv_has ls 2 [(0, .ref (h 0)), (1, .int a1)] := hl
  have e : F_D_detect w0 a1 = F_D_detect w0 a1 := rfl
  refine lv_aload_n hx hb dD_detect_0 rfl (lv_at hl 0 rfl) ?_
  refine va_get (D := D) (ci := 0) (v := .ref (h 3)) (C := "BoilerDesk") (T := TD) (N := 13) hx hb hts inD hown hK hP 0 rfl rfl 2 (by decide) (hts _ q_274) (fun _ h9 => h9) rfl dD_detect_1 ?_
  refine lv_iload_n hx hb dD_detect_4 rfl (lv_at hl 1 rfl) ?_
  refine kb_calli (wf := cw h) (r := (F_U_hasFailed w0 a1)) (u := w0) (va_runV (As := [.int a1]) (rest := []) ⟨hx, hb, hml, hown, hts⟩ (c_U_hasFailed l D h _ w0 a1) (cwV 1 hts (gd_V q_476 q_477 q_478 q_36 q_479) rfl rfl rfl (by decide +kernel) ⟨Nat.le_of_ble_eq_true rfl, Nat.le_of_ble_eq_true rfl⟩) (kb_preV hN hK hP hD (va_recv hK hP (ci := 6) (q0 := 3) rfl rfl)) rfl rfl hl.1 rfl (lv_room (Nat.le_of_ble_eq_true rfl)) dD_detect_5 ⟨Nat.zero_le _, Nat.zero_le _⟩) hP hD hS hA (fun H locs hP hD hS => ?_)
  refine lv_if_ne (tgt := 38) hx hb dD_detect_8 (by decide) (fun c_1 => ?_) (fun c_1 => ?_)
  · have e := e.trans (if_neg c_1)
    exact kb_vret (wf := cw h) hx hb hr hlocks hK hP hD hS e.symm dD_detect_38
  · have e := e.trans (if_pos c_1)
    refine lv_aload_n hx hb dD_detect_11 rfl (lv_at hl 0 rfl) ?_
    refine va_get (D := D) (ci := 0) (v := .ref (h 3)) (C := "BoilerDesk") (T := TD) (N := 13) hx hb hts inD hown hK hP 0 rfl rfl 2 (by decide) (hts _ q_274) (fun _ h9 => h9) rfl dD_detect_12 ?_
    refine lv_iload_n hx hb dD_detect_15 rfl (lv_at hl 1 rfl) ?_
    refine kb_callv (wf := cw h) (u := F_U_fail w0 a1) (va_runV (As := [.int a1]) (rest := []) ⟨hx, hb, hml, hown, hts⟩ (c_U_fail l D h _ w0 a1) (cwV 1 hts (gd_V q_552 q_553 q_554 q_36 q_555) rfl rfl rfl (by decide +kernel) ⟨Nat.le_of_ble_eq_true rfl, Nat.le_of_ble_eq_true rfl⟩) (kb_preV hN hK hP hD (va_recv hK hP (ci := 6) (q0 := 3) rfl rfl)) rfl rfl hl.1 rfl (lv_room (Nat.le_of_ble_eq_true rfl)) dD_detect_16 ⟨Nat.zero_le _, Nat.zero_le _⟩) hP hD hS hA (fun H locs hP hD hS => ?_)
    refine lv_aload_n hx hb dD_detect_19 rfl (lv_at hl 0 rfl) ?_
    refine va_get (D := D) (ci := 0) (v := .ref (h 5)) (C := "BoilerDesk") (T := TD) (N := 13) hx hb hts inD hown hK hP 0 rfl rfl 4 (by decide) (hts _ q_276) (fun _ h9 => h9) rfl dD_detect_20 ?_
    refine lv_aload_n hx hb dD_detect_23 rfl (lv_at hl 0 rfl) ?_
    refine va_get (D := D) (ci := 0) (v := .ref (h 5)) (C := "BoilerDesk") (T := TD) (N := 13) hx hb hts inD hown hK hP 0 rfl rfl 4 (by decide) (hts _ q_276) (fun _ h9 => h9) rfl dD_detect_24 ?_
    refine va_get (D := D) (ci := 4) (v := .int (F_U_fail w0 a1 35)) (C := "BoilerDesk$Report") (T := TR) (N := 7) hx hb hts inR hown hK hP 5 rfl rfl 4 (by decide) (hts _ q_205) (fun _ h9 => h9) rfl dD_detect_27 ?_
    refine lv_iload_n hx hb dD_detect_30 rfl (lv_at hl 1 rfl) ?_
    refine lv_iconst (v := 1) hx hb dD_detect_31 (by decide) ?_
    refine kb_call0 (r := (F_D_withBit (F_U_fail w0 a1 35) a1 (1 : Int32))) (va_runS (As := [.int (F_U_fail w0 a1 35), .int a1, .int 1]) (rest := [.ref (h 5)]) ⟨hx, hb, hml, hown, hts⟩ (c_D_withBit l D _ (F_U_fail w0 a1 35) a1 (1 : Int32) (by decide)) (va_cwS 3 hts (gd_S q_414 q_415 q_33 q_416) rfl rfl rfl (by decide +kernel) ⟨Nat.le_of_ble_eq_true rfl, Nat.le_of_ble_eq_true rfl⟩) (kb_pre0 hN hK) rfl rfl hl.1 rfl (lv_room (Nat.le_of_ble_eq_true rfl)) dD_detect_32 ⟨Nat.zero_le _, Nat.zero_le _⟩) hP hS hA (fun H locs hP hS => ?_)
    refine kb_put (D := D) (wf := cw h) (w' := (up (F_U_fail w0 a1) 35 (F_D_withBit (F_U_fail w0 a1 35) a1 (1 : Int32)))) (ci := 4) (v := .int (F_D_withBit (F_U_fail w0 a1 35) a1 (1 : Int32))) (ty := .int) (C := "BoilerDesk$Report") (T := TR) (N := 7) hx hb hts inR tyR tyR_ok nmR hown hK hP hD hS 5 rfl rfl 4 (by decide) (hts _ q_205) (fun _ h9 => h9) rfl (by decide +kernel) rfl rfl (Nat.le_of_ble_eq_true rfl) dD_detect_35 rfl (fun H locs hP hD hS => ?_)
    exact kb_vret (wf := cw h) hx hb hr hlocks hK hP hD hS e.symm dD_detect_38
/-- BoilerDesk.isToldWrongly(I)Z -/
def F_D_isToldWrongly (w0 : Nat → Int32) (a1 : Int32) : Int32 := (if (F_D_hasBit (w0 19) a1) = (0 : Int32) then (F_D_hasBit ((w0 27) &&& (w0 28)) a1) else (if (F_D_hasBit (w0 27) a1) = (0 : Int32) then (1 : Int32) else (0 : Int32)))
set_option maxHeartbeats 4000000 in
set_option maxRecDepth 100000 in
theorem c_D_isToldWrongly (l : Launch) (D : va_G) (h : Nat → Nat) (sz : Nat) (w0 : Nat → Int32) (a1 : Int32)  : Met l yD_isToldWrongly [.code yD_isToldWrongly cD_isToldWrongly 2 (some .boolean)] ({ frames := 1, cells := 0, slots := 0, locals := 21 }) (va_Pc [.ref (h 0), .int a1] (kb_B D [] (cw h) w0 sz)) (va_Qi (fun r' u' => r' = F_D_isToldWrongly w0 a1 ∧ u' = w0) (kb_E D [] (cw h) (va_A (cw h w0) sz)) (va_A (cw h w0) sz)) 0 0 (va_A (cw h w0) sz) := by
  refine kb_of (cc := cD_isToldWrongly) (maxL := 2) (ret := (some .boolean)) (QcA := fun A => (va_Qi (fun r' u' => r' = F_D_isToldWrongly w0 a1 ∧ u' = w0) (kb_E D [] (cw h) A) A)) (by decide) (Nat.le_of_ble_eq_true rfl) ?_
  intro p e s m below meth c A hx hb hr hlocks hml hown hts hA hN hK hP hD ls hl
  have hS : va_S A s.heap s.heap [] := va_S.rf
  have hl : lv_has ls 2 [(0, .ref (h 0)), (1, .int a1)] := hl
  have e : F_D_isToldWrongly w0 a1 = F_D_isToldWrongly w0 a1 := rfl
  refine lv_aload_n hx hb dD_isToldWrongly_0 rfl (lv_at hl 0 rfl) ?_
  refine va_get (D := D) (ci := 0) (v := .ref (h 2)) (C := "BoilerDesk") (T := TD) (N := 13) hx hb hts inD hown hK hP 0 rfl rfl 1 (by decide) (hts _ q_273) (fun _ h9 => h9) rfl dD_isToldWrongly_1 ?_
  refine va_get (D := D) (ci := 1) (v := .int (w0 19)) (C := "BoilerDesk$Inbox") (T := TI) (N := 12) hx hb hts inI hown hK hP 2 rfl rfl 6 (by decide) (hts _ q_117) (fun _ h9 => h9) rfl dD_isToldWrongly_4 ?_
  refine lv_iload_n hx hb dD_isToldWrongly_7 rfl (lv_at hl 1 rfl) ?_
  refine kb_call0 (r := (F_D_hasBit (w0 19) a1)) (va_runS (As := [.int (w0 19), .int a1]) (rest := []) ⟨hx, hb, hml, hown, hts⟩ (c_D_hasBit l D _ (w0 19) a1) (va_cwS 2 hts (gd_S q_473 q_474 q_33 q_475) rfl rfl rfl (by decide +kernel) ⟨Nat.le_of_ble_eq_true rfl, Nat.le_of_ble_eq_true rfl⟩) (kb_pre0 hN hK) rfl rfl hl.1 rfl (lv_room (Nat.le_of_ble_eq_true rfl)) dD_isToldWrongly_8 ⟨Nat.zero_le _, Nat.zero_le _⟩) hP hS hA (fun H locs hP hS => ?_)
  refine lv_if_eq (tgt := 36) hx hb dD_isToldWrongly_11 (by decide) (fun c_1 => ?_) (fun c_1 => ?_)
  · have e := e.trans (if_pos c_1)
    refine lv_aload_n hx hb dD_isToldWrongly_36 rfl (lv_at hl 0 rfl) ?_
    refine va_get (D := D) (ci := 0) (v := .ref (h 4)) (C := "BoilerDesk") (T := TD) (N := 13) hx hb hts inD hown hK hP 0 rfl rfl 3 (by decide) (hts _ q_275) (fun _ h9 => h9) rfl dD_isToldWrongly_37 ?_
    refine va_get (D := D) (ci := 2) (v := .int (w0 27)) (C := "BoilerDesk$Machines") (T := TM) (N := 4) hx hb hts inM hown hK hP 4 rfl rfl 0 (by decide) (hts _ q_175) (fun _ h9 => h9) rfl dD_isToldWrongly_40 ?_
    refine lv_aload_n hx hb dD_isToldWrongly_43 rfl (lv_at hl 0 rfl) ?_
    refine va_get (D := D) (ci := 0) (v := .ref (h 4)) (C := "BoilerDesk") (T := TD) (N := 13) hx hb hts inD hown hK hP 0 rfl rfl 3 (by decide) (hts _ q_275) (fun _ h9 => h9) rfl dD_isToldWrongly_44 ?_
    refine va_get (D := D) (ci := 2) (v := .int (w0 28)) (C := "BoilerDesk$Machines") (T := TM) (N := 4) hx hb hts inM hown hK hP 4 rfl rfl 1 (by decide) (hts _ q_177) (fun _ h9 => h9) rfl dD_isToldWrongly_47 ?_
    refine lv_iand hx hb dD_isToldWrongly_50 ?_
    refine lv_iload_n hx hb dD_isToldWrongly_51 rfl (lv_at hl 1 rfl) ?_
    refine kb_call0 (r := (F_D_hasBit ((w0 27) &&& (w0 28)) a1)) (va_runS (As := [.int ((w0 27) &&& (w0 28)), .int a1]) (rest := []) ⟨hx, hb, hml, hown, hts⟩ (c_D_hasBit l D _ ((w0 27) &&& (w0 28)) a1) (va_cwS 2 hts (gd_S q_473 q_474 q_33 q_475) rfl rfl rfl (by decide +kernel) ⟨Nat.le_of_ble_eq_true rfl, Nat.le_of_ble_eq_true rfl⟩) (kb_pre0 hN hK) rfl rfl hl.1 rfl (lv_room (Nat.le_of_ble_eq_true rfl)) dD_isToldWrongly_52 ⟨Nat.zero_le _, Nat.zero_le _⟩) hP hS hA (fun H locs hP hS => ?_)
    exact kb_zret (wf := cw h) hx hb hr hlocks (zb_n (z_D_hasBit ((w0 27) &&& (w0 28)) a1)) hK hP hD hS ⟨e.symm, rfl⟩ dD_isToldWrongly_55
  · have e := e.trans (if_neg c_1)
    refine lv_aload_n hx hb dD_isToldWrongly_14 rfl (lv_at hl 0 rfl) ?_
    refine va_get (D := D) (ci := 0) (v := .ref (h 4)) (C := "BoilerDesk") (T := TD) (N := 13) hx hb hts inD hown hK hP 0 rfl rfl 3 (by decide) (hts _ q_275) (fun _ h9 => h9) rfl dD_isToldWrongly_15 ?_
    refine va_get (D := D) (ci := 2) (v := .int (w0 27)) (C := "BoilerDesk$Machines") (T := TM) (N := 4) hx hb hts inM hown hK hP 4 rfl rfl 0 (by decide) (hts _ q_175) (fun _ h9 => h9) rfl dD_isToldWrongly_18 ?_
    refine lv_iload_n hx hb dD_isToldWrongly_21 rfl (lv_at hl 1 rfl) ?_
    refine kb_call0 (r := (F_D_hasBit (w0 27) a1)) (va_runS (As := [.int (w0 27), .int a1]) (rest := []) ⟨hx, hb, hml, hown, hts⟩ (c_D_hasBit l D _ (w0 27) a1) (va_cwS 2 hts (gd_S q_473 q_474 q_33 q_475) rfl rfl rfl (by decide +kernel) ⟨Nat.le_of_ble_eq_true rfl, Nat.le_of_ble_eq_true rfl⟩) (kb_pre0 hN hK) rfl rfl hl.1 rfl (lv_room (Nat.le_of_ble_eq_true rfl)) dD_isToldWrongly_22 ⟨Nat.zero_le _, Nat.zero_le _⟩) hP hS hA (fun H locs hP hS => ?_)
    refine lv_if_ne (tgt := 32) hx hb dD_isToldWrongly_25 (by decide) (fun c_2 => ?_) (fun c_2 => ?_)
    · have e := e.trans (if_neg c_2)
      refine lv_iconst (v := 0) hx hb dD_isToldWrongly_32 (by decide) ?_
      refine lv_goto (tgt := 55) hx hb dD_isToldWrongly_33 (by decide) ?_
      exact kb_zret (wf := cw h) hx hb hr hlocks rfl hK hP hD hS ⟨e.symm, rfl⟩ dD_isToldWrongly_55
    · have e := e.trans (if_pos c_2)
      refine lv_iconst (v := 1) hx hb dD_isToldWrongly_28 (by decide) ?_
      refine lv_goto (tgt := 55) hx hb dD_isToldWrongly_29 (by decide) ?_
      exact kb_zret (wf := cw h) hx hb hr hlocks rfl hK hP hD hS ⟨e.symm, rfl⟩ dD_isToldWrongly_55
theorem z_D_isToldWrongly (w0 : Nat → Int32) (a1 : Int32) : F_D_isToldWrongly w0 a1 = 0 ∨ F_D_isToldWrongly w0 a1 = 1 := by
  unfold F_D_isToldWrongly
  repeat' split
  all_goals first | exact Or.inl rfl | exact Or.inr rfl | exact z_D_hasBit _ _ _ | exact z_D_hasBit _ _
/-- BoilerDesk.modeByAnyFailure()I -/
def F_D_modeByAnyFailure (w0 : Nat → Int32)  : Int32 := (if (w0 25) = (0 : Int32) then (1 : Int32) else (2 : Int32))
set_option maxHeartbeats 4000000 in
set_option maxRecDepth 100000 in
theorem c_D_modeByAnyFailure (l : Launch) (D : va_G) (h : Nat → Nat) (sz : Nat) (w0 : Nat → Int32)   : Met l yD_modeByAnyFailure [.code yD_modeByAnyFailure cD_modeByAnyFailure 1 (some .int)] ({ frames := 0, cells := 0, slots := 0, locals := 0 }) (va_Pc [.ref (h 0)] (kb_B D [] (cw h) w0 sz)) (va_Qi (fun r' u' => r' = F_D_modeByAnyFailure w0 ∧ u' = w0) (kb_E D [] (cw h) (va_A (cw h w0) sz)) (va_A (cw h w0) sz)) 0 0 (va_A (cw h w0) sz) := by
  refine kb_of (cc := cD_modeByAnyFailure) (maxL := 1) (ret := (some .int)) (QcA := fun A => (va_Qi (fun r' u' => r' = F_D_modeByAnyFailure w0 ∧ u' = w0) (kb_E D [] (cw h) A) A)) (by decide) (Nat.le_of_ble_eq_true rfl) ?_
  intro p e s m below meth c A hx hb hr hlocks hml hown hts hA hN hK hP hD ls hl
  have hS : va_S A s.heap s.heap [] := va_S.rf
  have hl : lv_has ls 1 [(0, .ref (h 0))] := hl
  have e : F_D_modeByAnyFailure w0 = F_D_modeByAnyFailure w0 := rfl
  refine lv_aload_n hx hb dD_modeByAnyFailure_0 rfl (lv_at hl 0 rfl) ?_
  refine va_get (D := D) (ci := 0) (v := .ref (h 3)) (C := "BoilerDesk") (T := TD) (N := 13) hx hb hts inD hown hK hP 0 rfl rfl 2 (by decide) (hts _ q_274) (fun _ h9 => h9) rfl dD_modeByAnyFailure_1 ?_
  refine va_get (D := D) (ci := 6) (v := .int (w0 25)) (C := "BoilerDesk$Units") (T := TU) (N := 2) hx hb hts inU hown hK hP 3 rfl rfl 0 (by decide) (hts _ q_160) (fun _ h9 => h9) rfl dD_modeByAnyFailure_4 ?_
  refine lv_if_ne (tgt := 14) hx hb dD_modeByAnyFailure_7 (by decide) (fun c_1 => ?_) (fun c_1 => ?_)
  · have e := e.trans (if_neg c_1)
    refine lv_iconst (v := 2) hx hb dD_modeByAnyFailure_14 (by decide) ?_
    exact kb_iret (wf := cw h) hx hb hr hlocks hK hP hD hS ⟨e.symm, rfl⟩ dD_modeByAnyFailure_15
  · have e := e.trans (if_pos c_1)
    refine lv_iconst (v := 1) hx hb dD_modeByAnyFailure_10 (by decide) ?_
    refine lv_goto (tgt := 15) hx hb dD_modeByAnyFailure_11 (by decide) ?_
    exact kb_iret (wf := cw h) hx hb hr hlocks hK hP hD hS ⟨e.symm, rfl⟩ dD_modeByAnyFailure_15
/-- BoilerDesk.modeBehindInitial()I -/
def K_D_modeBehindInitial_43  (w0 : Nat → Int32)  : Int32 := (if (w0 21) = (0 : Int32) then (0 : Int32) else (if (w0 3) = (0 : Int32) then (4 : Int32) else (if (F_P_isNormalLevel w0 (w0 14)) = (0 : Int32) then (4 : Int32) else (F_D_modeByAnyFailure w0))))
def K_D_modeBehindInitial_22  (w0 : Nat → Int32)  : Int32 := (4 : Int32)
def F_D_modeBehindInitial (w0 : Nat → Int32)  : Int32 := (if (F_U_hasFailed w0 (0 : Int32)) = (0 : Int32) then (if (F_U_hasFailed w0 (1 : Int32)) = (0 : Int32) then (if (w0 3) = (0 : Int32) then K_D_modeBehindInitial_43 w0 else (if (w0 16) = (0 : Int32) then K_D_modeBehindInitial_43 w0 else (4 : Int32))) else K_D_modeBehindInitial_22 w0) else K_D_modeBehindInitial_22 w0)
set_option maxHeartbeats 4000000 in
set_option maxRecDepth 100000 in
theorem c_D_modeBehindInitial (l : Launch) (D : va_G) (h : Nat → Nat) (sz : Nat) (w0 : Nat → Int32)   : Met l yD_modeBehindInitial [.code yD_modeBehindInitial cD_modeBehindInitial 1 (some .int)] ({ frames := 2, cells := 0, slots := 0, locals := 43 }) (va_Pc [.ref (h 0)] (kb_B D [] (cw h) w0 sz)) (va_Qi (fun r' u' => r' = F_D_modeBehindInitial w0 ∧ u' = w0) (kb_E D [] (cw h) (va_A (cw h w0) sz)) (va_A (cw h w0) sz)) 0 0 (va_A (cw h w0) sz) := by
  refine kb_of (cc := cD_modeBehindInitial) (maxL := 1) (ret := (some .int)) (QcA := fun A => (va_Qi (fun r' u' => r' = F_D_modeBehindInitial w0 ∧ u' = w0) (kb_E D [] (cw h) A) A)) (by decide) (Nat.le_of_ble_eq_true rfl) ?_
  intro p e s m below meth c A hx hb hr hlocks hml hown hts hA hN hK hP hD ls hl
  have hS : va_S A s.heap s.heap [] := va_S.rf
  have hl : lv_has ls 1 [(0, .ref (h 0))] := hl
  have k_43 : ∀ (H : Heap) (locs : List Loc) (ls : Array Slot), F_D_modeBehindInitial w0 = K_D_modeBehindInitial_43 w0 → va_P D vwCl (cw h w0) H → va_D A (cw h w0) → va_S A s.heap H locs → lv_has ls 1 [(0, .ref (h 0))] → W p l e ({ frames := 2, cells := 0, slots := 0, locals := 43 }) s m [.ref (h 0)].toArray below meth c H locs 0 0 (MQ below (va_Qi (fun r' u' => r' = F_D_modeBehindInitial w0 ∧ u' = w0) (kb_E D [] (cw h) A) A) [.ref (h 0)].toArray s 0 0 A) (F0 m 43 ls []) := by
      intro H locs ls e hP hD hS hl
      refine lv_aload_n hx hb dD_modeBehindInitial_43 rfl (lv_at hl 0 rfl) ?_
      refine va_get (D := D) (ci := 0) (v := .ref (h 2)) (C := "BoilerDesk") (T := TD) (N := 13) hx hb hts inD hown hK hP 0 rfl rfl 1 (by decide) (hts _ q_273) (fun _ h9 => h9) rfl dD_modeBehindInitial_44 ?_
      refine va_get (D := D) (ci := 1) (v := .int (w0 21)) (C := "BoilerDesk$Inbox") (T := TI) (N := 12) hx hb hts inI hown hK hP 2 rfl rfl 8 (by decide) (hts _ q_121) (fun _ h9 => h9) rfl dD_modeBehindInitial_47 ?_
      refine lv_if_ne (tgt := 55) hx hb dD_modeBehindInitial_50 (by decide) (fun c_1 => ?_) (fun c_1 => ?_)
      · have e := e.trans (if_neg c_1)
        refine lv_aload_n hx hb dD_modeBehindInitial_55 rfl (lv_at hl 0 rfl) ?_
        refine va_get (D := D) (ci := 0) (v := .int (w0 3)) (C := "BoilerDesk") (T := TD) (N := 13) hx hb hts inD hown hK hP 0 rfl rfl 12 (by decide) (hts _ q_284) (fun _ h9 => h9) rfl dD_modeBehindInitial_56 ?_
        refine lv_if_eq (tgt := 86) hx hb dD_modeBehindInitial_59 (by decide) (fun c_2 => ?_) (fun c_2 => ?_)
        · have e := e.trans (if_pos c_2)
          refine lv_iconst (v := 4) hx hb dD_modeBehindInitial_86 (by decide) ?_
          exact kb_iret (wf := cw h) hx hb hr hlocks hK hP hD hS ⟨e.symm, rfl⟩ dD_modeBehindInitial_87
        · have e := e.trans (if_neg c_2)
          refine lv_aload_n hx hb dD_modeBehindInitial_62 rfl (lv_at hl 0 rfl) ?_
          refine va_get (D := D) (ci := 0) (v := .ref (h 1)) (C := "BoilerDesk") (T := TD) (N := 13) hx hb hts inD hown hK hP 0 rfl rfl 0 (by decide) (hts _ q_272) (fun _ h9 => h9) rfl dD_modeBehindInitial_63 ?_
          refine lv_aload_n hx hb dD_modeBehindInitial_66 rfl (lv_at hl 0 rfl) ?_
          refine va_get (D := D) (ci := 0) (v := .ref (h 2)) (C := "BoilerDesk") (T := TD) (N := 13) hx hb hts inD hown hK hP 0 rfl rfl 1 (by decide) (hts _ q_273) (fun _ h9 => h9) rfl dD_modeBehindInitial_67 ?_
          refine va_get (D := D) (ci := 1) (v := .int (w0 14)) (C := "BoilerDesk$Inbox") (T := TI) (N := 12) hx hb hts inI hown hK hP 2 rfl rfl 1 (by decide) (hts _ q_107) (fun _ h9 => h9) rfl dD_modeBehindInitial_70 ?_
          refine kb_calli (wf := cw h) (r := (F_P_isNormalLevel w0 (w0 14))) (u := w0) (va_runV (As := [.int (w0 14)]) (rest := []) ⟨hx, hb, hml, hown, hts⟩ (c_P_isNormalLevel l D h _ w0 (w0 14)) (cwV 1 hts (gd_V q_568 q_569 q_570 q_34 q_571) rfl rfl rfl (by decide +kernel) ⟨Nat.le_of_ble_eq_true rfl, Nat.le_of_ble_eq_true rfl⟩) (kb_preV hN hK hP hD (va_recv hK hP (ci := 3) (q0 := 1) rfl rfl)) rfl rfl hl.1 rfl (lv_room (Nat.le_of_ble_eq_true rfl)) dD_modeBehindInitial_73 ⟨Nat.zero_le _, Nat.zero_le _⟩) hP hD hS hA (fun H locs hP hD hS => ?_)
          refine lv_if_eq (tgt := 86) hx hb dD_modeBehindInitial_76 (by decide) (fun c_3 => ?_) (fun c_3 => ?_)
          · have e := e.trans (if_pos c_3)
            refine lv_iconst (v := 4) hx hb dD_modeBehindInitial_86 (by decide) ?_
            exact kb_iret (wf := cw h) hx hb hr hlocks hK hP hD hS ⟨e.symm, rfl⟩ dD_modeBehindInitial_87
          · have e := e.trans (if_neg c_3)
            refine lv_aload_n hx hb dD_modeBehindInitial_79 rfl (lv_at hl 0 rfl) ?_
            refine kb_calli (wf := cw h) (r := (F_D_modeByAnyFailure w0)) (u := w0) (va_runV (As := []) (rest := []) ⟨hx, hb, hml, hown, hts⟩ (c_D_modeByAnyFailure l D h _ w0) (cwV 0 hts (gd_V q_573 q_575 q_13 q_33 q_576) rfl rfl rfl (by decide +kernel) ⟨Nat.le_of_ble_eq_true rfl, Nat.le_of_ble_eq_true rfl⟩) (kb_preV hN hK hP hD (va_recv hK hP (ci := 0) (q0 := 0) rfl rfl)) rfl rfl hl.1 rfl (lv_room (Nat.le_of_ble_eq_true rfl)) dD_modeBehindInitial_80 ⟨Nat.zero_le _, Nat.zero_le _⟩) hP hD hS hA (fun H locs hP hD hS => ?_)
            refine lv_goto (tgt := 87) hx hb dD_modeBehindInitial_83 (by decide) ?_
            exact kb_iret (wf := cw h) hx hb hr hlocks hK hP hD hS ⟨e.symm, rfl⟩ dD_modeBehindInitial_87
      · have e := e.trans (if_pos c_1)
        refine lv_iconst (v := 0) hx hb dD_modeBehindInitial_53 (by decide) ?_
        exact kb_iret (wf := cw h) hx hb hr hlocks hK hP hD hS ⟨e.symm, rfl⟩ dD_modeBehindInitial_54
  have k_22 : ∀ (H : Heap) (locs : List Loc) (ls : Array Slot), F_D_modeBehindInitial w0 = K_D_modeBehindInitial_22 w0 → va_P D vwCl (cw h w0) H → va_D A (cw h w0) → va_S A s.heap H locs → lv_has ls 1 [(0, .ref (h 0))] → W p l e ({ frames := 2, cells := 0, slots := 0, locals := 43 }) s m [.ref (h 0)].toArray below meth c H locs 0 0 (MQ below (va_Qi (fun r' u' => r' = F_D_modeBehindInitial w0 ∧ u' = w0) (kb_E D [] (cw h) A) A) [.ref (h 0)].toArray s 0 0 A) (F0 m 22 ls []) := by
      intro H locs ls e hP hD hS hl
      refine lv_iconst (v := 4) hx hb dD_modeBehindInitial_22 (by decide) ?_
      exact kb_iret (wf := cw h) hx hb hr hlocks hK hP hD hS ⟨e.symm, rfl⟩ dD_modeBehindInitial_23
  have e : F_D_modeBehindInitial w0 = F_D_modeBehindInitial w0 := rfl
  refine lv_aload_n hx hb dD_modeBehindInitial_0 rfl (lv_at hl 0 rfl) ?_
  refine va_get (D := D) (ci := 0) (v := .ref (h 3)) (C := "BoilerDesk") (T := TD) (N := 13) hx hb hts inD hown hK hP 0 rfl rfl 2 (by decide) (hts _ q_274) (fun _ h9 => h9) rfl dD_modeBehindInitial_1 ?_
  refine lv_iconst (v := 0) hx hb dD_modeBehindInitial_4 (by decide) ?_
  refine kb_calli (wf := cw h) (r := (F_U_hasFailed w0 (0 : Int32))) (u := w0) (va_runV (As := [.int 0]) (rest := []) ⟨hx, hb, hml, hown, hts⟩ (c_U_hasFailed l D h _ w0 (0 : Int32)) (cwV 1 hts (gd_V q_476 q_477 q_478 q_36 q_479) rfl rfl rfl (by decide +kernel) ⟨Nat.le_of_ble_eq_true rfl, Nat.le_of_ble_eq_true rfl⟩) (kb_preV hN hK hP hD (va_recv hK hP (ci := 6) (q0 := 3) rfl rfl)) rfl rfl hl.1 rfl (lv_room (Nat.le_of_ble_eq_true rfl)) dD_modeBehindInitial_5 ⟨Nat.zero_le _, Nat.zero_le _⟩) hP hD hS hA (fun H locs hP hD hS => ?_)
  refine lv_if_ne (tgt := 22) hx hb dD_modeBehindInitial_8 (by decide) (fun c_4 => ?_) (fun c_4 => ?_)
  · have e := e.trans (if_neg c_4)
    exact k_22  _ _ _ e hP hD hS (lv_sub hl [0] rfl)
  · have e := e.trans (if_pos c_4)
    refine lv_aload_n hx hb dD_modeBehindInitial_11 rfl (lv_at hl 0 rfl) ?_
    refine va_get (D := D) (ci := 0) (v := .ref (h 3)) (C := "BoilerDesk") (T := TD) (N := 13) hx hb hts inD hown hK hP 0 rfl rfl 2 (by decide) (hts _ q_274) (fun _ h9 => h9) rfl dD_modeBehindInitial_12 ?_
    refine lv_iconst (v := 1) hx hb dD_modeBehindInitial_15 (by decide) ?_
    refine kb_calli (wf := cw h) (r := (F_U_hasFailed w0 (1 : Int32))) (u := w0) (va_runV (As := [.int 1]) (rest := []) ⟨hx, hb, hml, hown, hts⟩ (c_U_hasFailed l D h _ w0 (1 : Int32)) (cwV 1 hts (gd_V q_476 q_477 q_478 q_36 q_479) rfl rfl rfl (by decide +kernel) ⟨Nat.le_of_ble_eq_true rfl, Nat.le_of_ble_eq_true rfl⟩) (kb_preV hN hK hP hD (va_recv hK hP (ci := 6) (q0 := 3) rfl rfl)) rfl rfl hl.1 rfl (lv_room (Nat.le_of_ble_eq_true rfl)) dD_modeBehindInitial_16 ⟨Nat.zero_le _, Nat.zero_le _⟩) hP hD hS hA (fun H locs hP hD hS => ?_)
    refine lv_if_eq (tgt := 24) hx hb dD_modeBehindInitial_19 (by decide) (fun c_5 => ?_) (fun c_5 => ?_)
    · have e := e.trans (if_pos c_5)
      refine lv_aload_n hx hb dD_modeBehindInitial_24 rfl (lv_at hl 0 rfl) ?_
      refine va_get (D := D) (ci := 0) (v := .int (w0 3)) (C := "BoilerDesk") (T := TD) (N := 13) hx hb hts inD hown hK hP 0 rfl rfl 12 (by decide) (hts _ q_284) (fun _ h9 => h9) rfl dD_modeBehindInitial_25 ?_
      refine lv_if_eq (tgt := 43) hx hb dD_modeBehindInitial_28 (by decide) (fun c_6 => ?_) (fun c_6 => ?_)
      · have e := e.trans (if_pos c_6)
        exact k_43  _ _ _ e hP hD hS (lv_sub hl [0] rfl)
      · have e := e.trans (if_neg c_6)
        refine lv_aload_n hx hb dD_modeBehindInitial_31 rfl (lv_at hl 0 rfl) ?_
        refine va_get (D := D) (ci := 0) (v := .ref (h 2)) (C := "BoilerDesk") (T := TD) (N := 13) hx hb hts inD hown hK hP 0 rfl rfl 1 (by decide) (hts _ q_273) (fun _ h9 => h9) rfl dD_modeBehindInitial_32 ?_
        refine va_get (D := D) (ci := 1) (v := .int (w0 16)) (C := "BoilerDesk$Inbox") (T := TI) (N := 12) hx hb hts inI hown hK hP 2 rfl rfl 3 (by decide) (hts _ q_111) (fun _ h9 => h9) rfl dD_modeBehindInitial_35 ?_
        refine lv_if_eq (tgt := 43) hx hb dD_modeBehindInitial_38 (by decide) (fun c_7 => ?_) (fun c_7 => ?_)
        · have e := e.trans (if_pos c_7)
          exact k_43  _ _ _ e hP hD hS (lv_sub hl [0] rfl)
        · have e := e.trans (if_neg c_7)
          refine lv_iconst (v := 4) hx hb dD_modeBehindInitial_41 (by decide) ?_
          exact kb_iret (wf := cw h) hx hb hr hlocks hK hP hD hS ⟨e.symm, rfl⟩ dD_modeBehindInitial_42
    · have e := e.trans (if_neg c_5)
      exact k_22  _ _ _ e hP hD hS (lv_sub hl [0] rfl)
/-- BoilerDesk.modeInOperation()I -/
def K_D_modeInOperation_77  (w0 : Nat → Int32)  : Int32 := (4 : Int32)
def K_D_modeInOperation_34  (w0 : Nat → Int32)  : Int32 := (4 : Int32)
def F_D_modeInOperation (w0 : Nat → Int32)  : Int32 := (if (w0 38) ≤ (w0 5) then K_D_modeInOperation_34 w0 else (if (w0 39) < (w0 8) then (if (F_U_hasFailed w0 (0 : Int32)) = (0 : Int32) then (F_D_modeByAnyFailure w0) else (if (F_U_hasFailed w0 (1 : Int32)) = (0 : Int32) then (if ((w0 25) &&& (960 : Int32)) = (0 : Int32) then (3 : Int32) else K_D_modeInOperation_77 w0) else K_D_modeInOperation_77 w0)) else K_D_modeInOperation_34 w0))
set_option maxHeartbeats 4000000 in
set_option maxRecDepth 100000 in
theorem c_D_modeInOperation (l : Launch) (D : va_G) (h : Nat → Nat) (sz : Nat) (w0 : Nat → Int32)   : Met l yD_modeInOperation [.code yD_modeInOperation cD_modeInOperation 2 (some .int)] ({ frames := 2, cells := 0, slots := 0, locals := 42 }) (va_Pc [.ref (h 0)] (kb_B D [] (cw h) w0 sz)) (va_Qi (fun r' u' => r' = F_D_modeInOperation w0 ∧ u' = w0) (kb_E D [] (cw h) (va_A (cw h w0) sz)) (va_A (cw h w0) sz)) 0 0 (va_A (cw h w0) sz) := by
  refine kb_of (cc := cD_modeInOperation) (maxL := 2) (ret := (some .int)) (QcA := fun A => (va_Qi (fun r' u' => r' = F_D_modeInOperation w0 ∧ u' = w0) (kb_E D [] (cw h) A) A)) (by decide) (Nat.le_of_ble_eq_true rfl) ?_
  intro p e s m below meth c A hx hb hr hlocks hml hown hts hA hN hK hP hD ls hl
  have hS : va_S A s.heap s.heap [] := va_S.rf
  have hl : lv_has ls 2 [(0, .ref (h 0))] := hl
  have k_77 : ∀ (H : Heap) (locs : List Loc) (ls : Array Slot), F_D_modeInOperation w0 = K_D_modeInOperation_77 w0 → va_P D vwCl (cw h w0) H → va_D A (cw h w0) → va_S A s.heap H locs → lv_has ls 2 [(0, .ref (h 0))] → W p l e ({ frames := 2, cells := 0, slots := 0, locals := 42 }) s m [.ref (h 0)].toArray below meth c H locs 0 0 (MQ below (va_Qi (fun r' u' => r' = F_D_modeInOperation w0 ∧ u' = w0) (kb_E D [] (cw h) A) A) [.ref (h 0)].toArray s 0 0 A) (F0 m 77 ls []) := by
      intro H locs ls e hP hD hS hl
      refine lv_iconst (v := 1) hx hb dD_modeInOperation_77 (by decide) ?_
      refine lv_goto (tgt := 82) hx hb dD_modeInOperation_78 (by decide) ?_
      refine lv_istore_n (lv' := [(1, .int 1), (0, .ref (h 0))]) hx hb dD_modeInOperation_82 rfl hl (by decide) rfl (fun ls hl => ?_)
      refine lv_iload_n hx hb dD_modeInOperation_83 rfl (lv_at hl 0 rfl) ?_
      refine lv_if_eq (tgt := 91) hx hb dD_modeInOperation_84 (by decide) (fun c9 => absurd c9 (by decide)) (fun _ => ?_)
      refine lv_iconst (v := 4) hx hb dD_modeInOperation_87 (by decide) ?_
      refine lv_goto (tgt := 92) hx hb dD_modeInOperation_88 (by decide) ?_
      exact kb_iret (wf := cw h) hx hb hr hlocks hK hP hD hS ⟨e.symm, rfl⟩ dD_modeInOperation_92
  have k_34 : ∀ (H : Heap) (locs : List Loc) (ls : Array Slot), F_D_modeInOperation w0 = K_D_modeInOperation_34 w0 → va_P D vwCl (cw h w0) H → va_D A (cw h w0) → va_S A s.heap H locs → lv_has ls 2 [(0, .ref (h 0))] → W p l e ({ frames := 2, cells := 0, slots := 0, locals := 42 }) s m [.ref (h 0)].toArray below meth c H locs 0 0 (MQ below (va_Qi (fun r' u' => r' = F_D_modeInOperation w0 ∧ u' = w0) (kb_E D [] (cw h) A) A) [.ref (h 0)].toArray s 0 0 A) (F0 m 34 ls []) := by
      intro H locs ls e hP hD hS hl
      refine lv_iconst (v := 4) hx hb dD_modeInOperation_34 (by decide) ?_
      exact kb_iret (wf := cw h) hx hb hr hlocks hK hP hD hS ⟨e.symm, rfl⟩ dD_modeInOperation_35
  have e : F_D_modeInOperation w0 = F_D_modeInOperation w0 := rfl
  refine lv_aload_n hx hb dD_modeInOperation_0 rfl (lv_at hl 0 rfl) ?_
  refine va_get (D := D) (ci := 0) (v := .ref (h 6)) (C := "BoilerDesk") (T := TD) (N := 13) hx hb hts inD hown hK hP 0 rfl rfl 5 (by decide) (hts _ q_277) (fun _ h9 => h9) rfl dD_modeInOperation_1 ?_
  refine va_get (D := D) (ci := 5) (v := .int (w0 38)) (C := "BoilerDesk$Span") (T := TS) (N := 2) hx hb hts inS hown hK hP 6 rfl rfl 0 (by decide) (hts _ q_232) (fun _ h9 => h9) rfl dD_modeInOperation_4 ?_
  refine lv_aload_n hx hb dD_modeInOperation_7 rfl (lv_at hl 0 rfl) ?_
  refine va_get (D := D) (ci := 0) (v := .ref (h 1)) (C := "BoilerDesk") (T := TD) (N := 13) hx hb hts inD hown hK hP 0 rfl rfl 0 (by decide) (hts _ q_272) (fun _ h9 => h9) rfl dD_modeInOperation_8 ?_
  refine va_get (D := D) (ci := 3) (v := .int (w0 5)) (C := "BoilerDesk$Plant") (T := TP) (N := 9) hx hb hts inP hown hK hP 1 rfl rfl 1 (by decide) (hts _ q_65) (fun _ h9 => h9) rfl dD_modeInOperation_11 ?_
  refine lv_icmp_le (tgt := 34) hx hb dD_modeInOperation_14 (by decide) (fun c_1 => ?_) (fun c_1 => ?_)
  · have e := e.trans (if_pos c_1)
    exact k_34  _ _ _ e hP hD hS (lv_sub hl [0] rfl)
  · have e := e.trans (if_neg c_1)
    refine lv_aload_n hx hb dD_modeInOperation_17 rfl (lv_at hl 0 rfl) ?_
    refine va_get (D := D) (ci := 0) (v := .ref (h 6)) (C := "BoilerDesk") (T := TD) (N := 13) hx hb hts inD hown hK hP 0 rfl rfl 5 (by decide) (hts _ q_277) (fun _ h9 => h9) rfl dD_modeInOperation_18 ?_
    refine va_get (D := D) (ci := 5) (v := .int (w0 39)) (C := "BoilerDesk$Span") (T := TS) (N := 2) hx hb hts inS hown hK hP 6 rfl rfl 1 (by decide) (hts _ q_234) (fun _ h9 => h9) rfl dD_modeInOperation_21 ?_
    refine lv_aload_n hx hb dD_modeInOperation_24 rfl (lv_at hl 0 rfl) ?_
    refine va_get (D := D) (ci := 0) (v := .ref (h 1)) (C := "BoilerDesk") (T := TD) (N := 13) hx hb hts inD hown hK hP 0 rfl rfl 0 (by decide) (hts _ q_272) (fun _ h9 => h9) rfl dD_modeInOperation_25 ?_
    refine va_get (D := D) (ci := 3) (v := .int (w0 8)) (C := "BoilerDesk$Plant") (T := TP) (N := 9) hx hb hts inP hown hK hP 1 rfl rfl 4 (by decide) (hts _ q_71) (fun _ h9 => h9) rfl dD_modeInOperation_28 ?_
    refine lv_icmp_lt (tgt := 36) hx hb dD_modeInOperation_31 (by decide) (fun c_2 => ?_) (fun c_2 => ?_)
    · have e := e.trans (if_pos c_2)
      refine lv_aload_n hx hb dD_modeInOperation_36 rfl (lv_at hl 0 rfl) ?_
      refine va_get (D := D) (ci := 0) (v := .ref (h 3)) (C := "BoilerDesk") (T := TD) (N := 13) hx hb hts inD hown hK hP 0 rfl rfl 2 (by decide) (hts _ q_274) (fun _ h9 => h9) rfl dD_modeInOperation_37 ?_
      refine lv_iconst (v := 0) hx hb dD_modeInOperation_40 (by decide) ?_
      refine kb_calli (wf := cw h) (r := (F_U_hasFailed w0 (0 : Int32))) (u := w0) (va_runV (As := [.int 0]) (rest := []) ⟨hx, hb, hml, hown, hts⟩ (c_U_hasFailed l D h _ w0 (0 : Int32)) (cwV 1 hts (gd_V q_476 q_477 q_478 q_36 q_479) rfl rfl rfl (by decide +kernel) ⟨Nat.le_of_ble_eq_true rfl, Nat.le_of_ble_eq_true rfl⟩) (kb_preV hN hK hP hD (va_recv hK hP (ci := 6) (q0 := 3) rfl rfl)) rfl rfl hl.1 rfl (lv_room (Nat.le_of_ble_eq_true rfl)) dD_modeInOperation_41 ⟨Nat.zero_le _, Nat.zero_le _⟩) hP hD hS hA (fun H locs hP hD hS => ?_)
      refine lv_if_ne (tgt := 52) hx hb dD_modeInOperation_44 (by decide) (fun c_3 => ?_) (fun c_3 => ?_)
      · have e := e.trans (if_neg c_3)
        refine lv_aload_n hx hb dD_modeInOperation_52 rfl (lv_at hl 0 rfl) ?_
        refine va_get (D := D) (ci := 0) (v := .ref (h 3)) (C := "BoilerDesk") (T := TD) (N := 13) hx hb hts inD hown hK hP 0 rfl rfl 2 (by decide) (hts _ q_274) (fun _ h9 => h9) rfl dD_modeInOperation_53 ?_
        refine lv_iconst (v := 1) hx hb dD_modeInOperation_56 (by decide) ?_
        refine kb_calli (wf := cw h) (r := (F_U_hasFailed w0 (1 : Int32))) (u := w0) (va_runV (As := [.int 1]) (rest := []) ⟨hx, hb, hml, hown, hts⟩ (c_U_hasFailed l D h _ w0 (1 : Int32)) (cwV 1 hts (gd_V q_476 q_477 q_478 q_36 q_479) rfl rfl rfl (by decide +kernel) ⟨Nat.le_of_ble_eq_true rfl, Nat.le_of_ble_eq_true rfl⟩) (kb_preV hN hK hP hD (va_recv hK hP (ci := 6) (q0 := 3) rfl rfl)) rfl rfl hl.1 rfl (lv_room (Nat.le_of_ble_eq_true rfl)) dD_modeInOperation_57 ⟨Nat.zero_le _, Nat.zero_le _⟩) hP hD hS hA (fun H locs hP hD hS => ?_)
        refine lv_if_ne (tgt := 77) hx hb dD_modeInOperation_60 (by decide) (fun c_4 => ?_) (fun c_4 => ?_)
        · have e := e.trans (if_neg c_4)
          exact k_77  _ _ _ e hP hD hS (lv_sub hl [0] rfl)
        · have e := e.trans (if_pos c_4)
          refine lv_aload_n hx hb dD_modeInOperation_63 rfl (lv_at hl 0 rfl) ?_
          refine va_get (D := D) (ci := 0) (v := .ref (h 3)) (C := "BoilerDesk") (T := TD) (N := 13) hx hb hts inD hown hK hP 0 rfl rfl 2 (by decide) (hts _ q_274) (fun _ h9 => h9) rfl dD_modeInOperation_64 ?_
          refine va_get (D := D) (ci := 6) (v := .int (w0 25)) (C := "BoilerDesk$Units") (T := TU) (N := 2) hx hb hts inU hown hK hP 3 rfl rfl 0 (by decide) (hts _ q_160) (fun _ h9 => h9) rfl dD_modeInOperation_67 ?_
          refine lv_sipush (v := 960) hx hb dD_modeInOperation_70 (by decide) ?_
          refine lv_iand hx hb dD_modeInOperation_73 ?_
          refine lv_if_eq (tgt := 81) hx hb dD_modeInOperation_74 (by decide) (fun c_5 => ?_) (fun c_5 => ?_)
          · have e := e.trans (if_pos c_5)
            refine lv_iconst (v := 0) hx hb dD_modeInOperation_81 (by decide) ?_
            refine lv_istore_n (lv' := [(1, .int 0), (0, .ref (h 0))]) hx hb dD_modeInOperation_82 rfl hl (by decide) rfl (fun ls hl => ?_)
            refine lv_iload_n hx hb dD_modeInOperation_83 rfl (lv_at hl 0 rfl) ?_
            refine lv_if_eq (tgt := 91) hx hb dD_modeInOperation_84 (by decide) (fun _ => ?_) (fun c9 => absurd (by decide) c9)
            refine lv_iconst (v := 3) hx hb dD_modeInOperation_91 (by decide) ?_
            exact kb_iret (wf := cw h) hx hb hr hlocks hK hP hD hS ⟨e.symm, rfl⟩ dD_modeInOperation_92
          · have e := e.trans (if_neg c_5)
            exact k_77  _ _ _ e hP hD hS (lv_sub hl [0] rfl)
      · have e := e.trans (if_pos c_3)
        refine lv_aload_n hx hb dD_modeInOperation_47 rfl (lv_at hl 0 rfl) ?_
        refine kb_calli (wf := cw h) (r := (F_D_modeByAnyFailure w0)) (u := w0) (va_runV (As := []) (rest := []) ⟨hx, hb, hml, hown, hts⟩ (c_D_modeByAnyFailure l D h _ w0) (cwV 0 hts (gd_V q_573 q_575 q_13 q_33 q_576) rfl rfl rfl (by decide +kernel) ⟨Nat.le_of_ble_eq_true rfl, Nat.le_of_ble_eq_true rfl⟩) (kb_preV hN hK hP hD (va_recv hK hP (ci := 0) (q0 := 0) rfl rfl)) rfl rfl hl.1 rfl (lv_room (Nat.le_of_ble_eq_true rfl)) dD_modeInOperation_48 ⟨Nat.zero_le _, Nat.zero_le _⟩) hP hD hS hA (fun H locs hP hD hS => ?_)
        exact kb_iret (wf := cw h) hx hb hr hlocks hK hP hD hS ⟨e.symm, rfl⟩ dD_modeInOperation_51
    · have e := e.trans (if_neg c_2)
      exact k_34  _ _ _ e hP hD hS (lv_sub hl [0] rfl)
/-- BoilerDesk.commandValve(Z)V -/
def F_D_commandValve (w0 : Nat → Int32) (a1 : Int32) : Nat → Int32 := (if a1 = (0 : Int32) then (if (w0 30) = (0 : Int32) then (up (up (up w0 33 0) 34 0) 30 a1) else (up (up (up w0 33 0) 34 1) 30 a1)) else (if (w0 30) = (0 : Int32) then (up (up (up w0 33 1) 34 0) 30 a1) else (up (up (up w0 33 0) 34 0) 30 a1)))
set_option maxHeartbeats 4000000 in
set_option maxRecDepth 100000 in
theorem c_D_commandValve (l : Launch) (D : va_G) (h : Nat → Nat) (sz : Nat) (w0 : Nat → Int32) (a1 : Int32) (z1 : a1 = 0 ∨ a1 = 1) : Met l yD_commandValve [.code yD_commandValve cD_commandValve 2 none] ({ frames := 0, cells := 0, slots := 0, locals := 0 }) (va_Pc [.ref (h 0), .int a1] (kb_B D [] (cw h) w0 sz)) (va_Qv (fun u' => u' = F_D_commandValve w0 a1) (kb_E D [] (cw h) (va_A (cw h w0) sz)) (va_A (cw h w0) sz)) 0 0 (va_A (cw h w0) sz) := by
  refine kb_of (cc := cD_commandValve) (maxL := 2) (ret := none) (QcA := fun A => (va_Qv (fun u' => u' = F_D_commandValve w0 a1) (kb_E D [] (cw h) A) A)) (by decide) (Nat.le_of_ble_eq_true rfl) ?_
  intro p e s m below meth c A hx hb hr hlocks hml hown hts hA hN hK hP hD ls hl
  have hS : va_S A s.heap s.heap [] := va_S.rf
  have hl : lv_has ls 2 [(0, .ref (h 0)), (1, .int a1)] := hl
  have e : F_D_commandValve w0 a1 = F_D_commandValve w0 a1 := rfl
  refine lv_aload_n hx hb dD_commandValve_0 rfl (lv_at hl 0 rfl) ?_
  refine va_get (D := D) (ci := 0) (v := .ref (h 5)) (C := "BoilerDesk") (T := TD) (N := 13) hx hb hts inD hown hK hP 0 rfl rfl 4 (by decide) (hts _ q_276) (fun _ h9 => h9) rfl dD_commandValve_1 ?_
  refine lv_iload_n hx hb dD_commandValve_4 rfl (lv_at hl 1 rfl) ?_
  refine lv_if_eq (tgt := 22) hx hb dD_commandValve_5 (by decide) (fun c_1 => ?_) (fun c_1 => ?_)
  · have e := e.trans (if_pos c_1)
    refine lv_iconst (v := 0) hx hb dD_commandValve_22 (by decide) ?_
    refine kb_put (D := D) (wf := cw h) (w' := (up w0 33 0)) (ci := 4) (v := .int 0) (ty := .boolean) (C := "BoilerDesk$Report") (T := TR) (N := 7) hx hb hts inR tyR tyR_ok nmR hown hK hP hD hS 5 rfl rfl 2 (by decide) (hts _ q_201) (fun _ h9 => h9) rfl (by decide +kernel) rfl rfl (Nat.le_of_ble_eq_true rfl) dD_commandValve_23 rfl (fun H locs hP hD hS => ?_)
    refine lv_aload_n hx hb dD_commandValve_26 rfl (lv_at hl 0 rfl) ?_
    refine va_get (D := D) (ci := 0) (v := .ref (h 5)) (C := "BoilerDesk") (T := TD) (N := 13) hx hb hts inD hown hK hP 0 rfl rfl 4 (by decide) (hts _ q_276) (fun _ h9 => h9) rfl dD_commandValve_27 ?_
    refine lv_aload_n hx hb dD_commandValve_30 rfl (lv_at hl 0 rfl) ?_
    refine va_get (D := D) (ci := 0) (v := .ref (h 4)) (C := "BoilerDesk") (T := TD) (N := 13) hx hb hts inD hown hK hP 0 rfl rfl 3 (by decide) (hts _ q_275) (fun _ h9 => h9) rfl dD_commandValve_31 ?_
    refine va_get (D := D) (ci := 2) (v := .int (w0 30)) (C := "BoilerDesk$Machines") (T := TM) (N := 4) hx hb hts inM hown hK hP 4 rfl rfl 3 (by decide) (hts _ q_180) (fun _ h9 => h9) rfl dD_commandValve_34 ?_
    refine lv_if_eq (tgt := 48) hx hb dD_commandValve_37 (by decide) (fun c_2 => ?_) (fun c_2 => ?_)
    · have e := e.trans (if_pos c_2)
      refine lv_iconst (v := 0) hx hb dD_commandValve_48 (by decide) ?_
      refine kb_put (D := D) (wf := cw h) (w' := (up (up w0 33 0) 34 0)) (ci := 4) (v := .int 0) (ty := .boolean) (C := "BoilerDesk$Report") (T := TR) (N := 7) hx hb hts inR tyR tyR_ok nmR hown hK hP hD hS 5 rfl rfl 3 (by decide) (hts _ q_203) (fun _ h9 => h9) rfl (by decide +kernel) rfl rfl (Nat.le_of_ble_eq_true rfl) dD_commandValve_49 rfl (fun H locs hP hD hS => ?_)
      refine lv_aload_n hx hb dD_commandValve_52 rfl (lv_at hl 0 rfl) ?_
      refine va_get (D := D) (ci := 0) (v := .ref (h 4)) (C := "BoilerDesk") (T := TD) (N := 13) hx hb hts inD hown hK hP 0 rfl rfl 3 (by decide) (hts _ q_275) (fun _ h9 => h9) rfl dD_commandValve_53 ?_
      refine lv_iload_n hx hb dD_commandValve_56 rfl (lv_at hl 1 rfl) ?_
      refine kb_put (D := D) (wf := cw h) (w' := (up (up (up w0 33 0) 34 0) 30 a1)) (ci := 2) (v := .int a1) (ty := .boolean) (C := "BoilerDesk$Machines") (T := TM) (N := 4) hx hb hts inM tyM tyM_ok nmM hown hK hP hD hS 4 rfl rfl 3 (by decide) (hts _ q_180) (fun _ h9 => h9) rfl (by decide +kernel) (zb_n z1) (zb_f z1) (Nat.le_of_ble_eq_true rfl) dD_commandValve_57 rfl (fun H locs hP hD hS => ?_)
      exact kb_vret (wf := cw h) hx hb hr hlocks hK hP hD hS e.symm dD_commandValve_60
    · have e := e.trans (if_neg c_2)
      refine lv_iload_n hx hb dD_commandValve_40 rfl (lv_at hl 1 rfl) ?_
      refine lv_if_ne (tgt := 48) hx hb dD_commandValve_41 (by decide) (fun c9 => absurd c_1 c9) (fun _ => ?_)
      refine lv_iconst (v := 1) hx hb dD_commandValve_44 (by decide) ?_
      refine lv_goto (tgt := 49) hx hb dD_commandValve_45 (by decide) ?_
      refine kb_put (D := D) (wf := cw h) (w' := (up (up w0 33 0) 34 1)) (ci := 4) (v := .int 1) (ty := .boolean) (C := "BoilerDesk$Report") (T := TR) (N := 7) hx hb hts inR tyR tyR_ok nmR hown hK hP hD hS 5 rfl rfl 3 (by decide) (hts _ q_203) (fun _ h9 => h9) rfl (by decide +kernel) rfl rfl (Nat.le_of_ble_eq_true rfl) dD_commandValve_49 rfl (fun H locs hP hD hS => ?_)
      refine lv_aload_n hx hb dD_commandValve_52 rfl (lv_at hl 0 rfl) ?_
      refine va_get (D := D) (ci := 0) (v := .ref (h 4)) (C := "BoilerDesk") (T := TD) (N := 13) hx hb hts inD hown hK hP 0 rfl rfl 3 (by decide) (hts _ q_275) (fun _ h9 => h9) rfl dD_commandValve_53 ?_
      refine lv_iload_n hx hb dD_commandValve_56 rfl (lv_at hl 1 rfl) ?_
      refine kb_put (D := D) (wf := cw h) (w' := (up (up (up w0 33 0) 34 1) 30 a1)) (ci := 2) (v := .int a1) (ty := .boolean) (C := "BoilerDesk$Machines") (T := TM) (N := 4) hx hb hts inM tyM tyM_ok nmM hown hK hP hD hS 4 rfl rfl 3 (by decide) (hts _ q_180) (fun _ h9 => h9) rfl (by decide +kernel) (zb_n z1) (zb_f z1) (Nat.le_of_ble_eq_true rfl) dD_commandValve_57 rfl (fun H locs hP hD hS => ?_)
      exact kb_vret (wf := cw h) hx hb hr hlocks hK hP hD hS e.symm dD_commandValve_60
  · have e := e.trans (if_neg c_1)
    refine lv_aload_n hx hb dD_commandValve_8 rfl (lv_at hl 0 rfl) ?_
    refine va_get (D := D) (ci := 0) (v := .ref (h 4)) (C := "BoilerDesk") (T := TD) (N := 13) hx hb hts inD hown hK hP 0 rfl rfl 3 (by decide) (hts _ q_275) (fun _ h9 => h9) rfl dD_commandValve_9 ?_
    refine va_get (D := D) (ci := 2) (v := .int (w0 30)) (C := "BoilerDesk$Machines") (T := TM) (N := 4) hx hb hts inM hown hK hP 4 rfl rfl 3 (by decide) (hts _ q_180) (fun _ h9 => h9) rfl dD_commandValve_12 ?_
    refine lv_if_ne (tgt := 22) hx hb dD_commandValve_15 (by decide) (fun c_3 => ?_) (fun c_3 => ?_)
    · have e := e.trans (if_neg c_3)
      refine lv_iconst (v := 0) hx hb dD_commandValve_22 (by decide) ?_
      refine kb_put (D := D) (wf := cw h) (w' := (up w0 33 0)) (ci := 4) (v := .int 0) (ty := .boolean) (C := "BoilerDesk$Report") (T := TR) (N := 7) hx hb hts inR tyR tyR_ok nmR hown hK hP hD hS 5 rfl rfl 2 (by decide) (hts _ q_201) (fun _ h9 => h9) rfl (by decide +kernel) rfl rfl (Nat.le_of_ble_eq_true rfl) dD_commandValve_23 rfl (fun H locs hP hD hS => ?_)
      refine lv_aload_n hx hb dD_commandValve_26 rfl (lv_at hl 0 rfl) ?_
      refine va_get (D := D) (ci := 0) (v := .ref (h 5)) (C := "BoilerDesk") (T := TD) (N := 13) hx hb hts inD hown hK hP 0 rfl rfl 4 (by decide) (hts _ q_276) (fun _ h9 => h9) rfl dD_commandValve_27 ?_
      refine lv_aload_n hx hb dD_commandValve_30 rfl (lv_at hl 0 rfl) ?_
      refine va_get (D := D) (ci := 0) (v := .ref (h 4)) (C := "BoilerDesk") (T := TD) (N := 13) hx hb hts inD hown hK hP 0 rfl rfl 3 (by decide) (hts _ q_275) (fun _ h9 => h9) rfl dD_commandValve_31 ?_
      refine va_get (D := D) (ci := 2) (v := .int (w0 30)) (C := "BoilerDesk$Machines") (T := TM) (N := 4) hx hb hts inM hown hK hP 4 rfl rfl 3 (by decide) (hts _ q_180) (fun _ h9 => h9) rfl dD_commandValve_34 ?_
      refine lv_if_eq (tgt := 48) hx hb dD_commandValve_37 (by decide) (fun c9 => absurd c9 c_3) (fun _ => ?_)
      refine lv_iload_n hx hb dD_commandValve_40 rfl (lv_at hl 1 rfl) ?_
      refine lv_if_ne (tgt := 48) hx hb dD_commandValve_41 (by decide) (fun _ => ?_) (fun c9 => absurd c9 c_1)
      refine lv_iconst (v := 0) hx hb dD_commandValve_48 (by decide) ?_
      refine kb_put (D := D) (wf := cw h) (w' := (up (up w0 33 0) 34 0)) (ci := 4) (v := .int 0) (ty := .boolean) (C := "BoilerDesk$Report") (T := TR) (N := 7) hx hb hts inR tyR tyR_ok nmR hown hK hP hD hS 5 rfl rfl 3 (by decide) (hts _ q_203) (fun _ h9 => h9) rfl (by decide +kernel) rfl rfl (Nat.le_of_ble_eq_true rfl) dD_commandValve_49 rfl (fun H locs hP hD hS => ?_)
      refine lv_aload_n hx hb dD_commandValve_52 rfl (lv_at hl 0 rfl) ?_
      refine va_get (D := D) (ci := 0) (v := .ref (h 4)) (C := "BoilerDesk") (T := TD) (N := 13) hx hb hts inD hown hK hP 0 rfl rfl 3 (by decide) (hts _ q_275) (fun _ h9 => h9) rfl dD_commandValve_53 ?_
      refine lv_iload_n hx hb dD_commandValve_56 rfl (lv_at hl 1 rfl) ?_
      refine kb_put (D := D) (wf := cw h) (w' := (up (up (up w0 33 0) 34 0) 30 a1)) (ci := 2) (v := .int a1) (ty := .boolean) (C := "BoilerDesk$Machines") (T := TM) (N := 4) hx hb hts inM tyM tyM_ok nmM hown hK hP hD hS 4 rfl rfl 3 (by decide) (hts _ q_180) (fun _ h9 => h9) rfl (by decide +kernel) (zb_n z1) (zb_f z1) (Nat.le_of_ble_eq_true rfl) dD_commandValve_57 rfl (fun H locs hP hD hS => ?_)
      exact kb_vret (wf := cw h) hx hb hr hlocks hK hP hD hS e.symm dD_commandValve_60
    · have e := e.trans (if_pos c_3)
      refine lv_iconst (v := 1) hx hb dD_commandValve_18 (by decide) ?_
      refine lv_goto (tgt := 23) hx hb dD_commandValve_19 (by decide) ?_
      refine kb_put (D := D) (wf := cw h) (w' := (up w0 33 1)) (ci := 4) (v := .int 1) (ty := .boolean) (C := "BoilerDesk$Report") (T := TR) (N := 7) hx hb hts inR tyR tyR_ok nmR hown hK hP hD hS 5 rfl rfl 2 (by decide) (hts _ q_201) (fun _ h9 => h9) rfl (by decide +kernel) rfl rfl (Nat.le_of_ble_eq_true rfl) dD_commandValve_23 rfl (fun H locs hP hD hS => ?_)
      refine lv_aload_n hx hb dD_commandValve_26 rfl (lv_at hl 0 rfl) ?_
      refine va_get (D := D) (ci := 0) (v := .ref (h 5)) (C := "BoilerDesk") (T := TD) (N := 13) hx hb hts inD hown hK hP 0 rfl rfl 4 (by decide) (hts _ q_276) (fun _ h9 => h9) rfl dD_commandValve_27 ?_
      refine lv_aload_n hx hb dD_commandValve_30 rfl (lv_at hl 0 rfl) ?_
      refine va_get (D := D) (ci := 0) (v := .ref (h 4)) (C := "BoilerDesk") (T := TD) (N := 13) hx hb hts inD hown hK hP 0 rfl rfl 3 (by decide) (hts _ q_275) (fun _ h9 => h9) rfl dD_commandValve_31 ?_
      refine va_get (D := D) (ci := 2) (v := .int (w0 30)) (C := "BoilerDesk$Machines") (T := TM) (N := 4) hx hb hts inM hown hK hP 4 rfl rfl 3 (by decide) (hts _ q_180) (fun _ h9 => h9) rfl dD_commandValve_34 ?_
      refine lv_if_eq (tgt := 48) hx hb dD_commandValve_37 (by decide) (fun _ => ?_) (fun c9 => absurd c_3 c9)
      refine lv_iconst (v := 0) hx hb dD_commandValve_48 (by decide) ?_
      refine kb_put (D := D) (wf := cw h) (w' := (up (up w0 33 1) 34 0)) (ci := 4) (v := .int 0) (ty := .boolean) (C := "BoilerDesk$Report") (T := TR) (N := 7) hx hb hts inR tyR tyR_ok nmR hown hK hP hD hS 5 rfl rfl 3 (by decide) (hts _ q_203) (fun _ h9 => h9) rfl (by decide +kernel) rfl rfl (Nat.le_of_ble_eq_true rfl) dD_commandValve_49 rfl (fun H locs hP hD hS => ?_)
      refine lv_aload_n hx hb dD_commandValve_52 rfl (lv_at hl 0 rfl) ?_
      refine va_get (D := D) (ci := 0) (v := .ref (h 4)) (C := "BoilerDesk") (T := TD) (N := 13) hx hb hts inD hown hK hP 0 rfl rfl 3 (by decide) (hts _ q_275) (fun _ h9 => h9) rfl dD_commandValve_53 ?_
      refine lv_iload_n hx hb dD_commandValve_56 rfl (lv_at hl 1 rfl) ?_
      refine kb_put (D := D) (wf := cw h) (w' := (up (up (up w0 33 1) 34 0) 30 a1)) (ci := 2) (v := .int a1) (ty := .boolean) (C := "BoilerDesk$Machines") (T := TM) (N := 4) hx hb hts inM tyM tyM_ok nmM hown hK hP hD hS 4 rfl rfl 3 (by decide) (hts _ q_180) (fun _ h9 => h9) rfl (by decide +kernel) (zb_n z1) (zb_f z1) (Nat.le_of_ble_eq_true rfl) dD_commandValve_57 rfl (fun H locs hP hD hS => ?_)
      exact kb_vret (wf := cw h) hx hb hr hlocks hK hP hD hS e.symm dD_commandValve_60
/-- BoilerDesk.commandPumps(I)V -/
def F_D_commandPumps (w0 : Nat → Int32) (a1 : Int32) : Nat → Int32 := (up (up (up w0 31 (a1 &&& ((w0 27) ^^^ ((-1) : Int32)))) 32 ((w0 27) &&& (a1 ^^^ ((-1) : Int32)))) 27 a1)
set_option maxHeartbeats 4000000 in
set_option maxRecDepth 100000 in
theorem c_D_commandPumps (l : Launch) (D : va_G) (h : Nat → Nat) (sz : Nat) (w0 : Nat → Int32) (a1 : Int32)  : Met l yD_commandPumps [.code yD_commandPumps cD_commandPumps 2 none] ({ frames := 0, cells := 0, slots := 0, locals := 0 }) (va_Pc [.ref (h 0), .int a1] (kb_B D [] (cw h) w0 sz)) (va_Qv (fun u' => u' = F_D_commandPumps w0 a1) (kb_E D [] (cw h) (va_A (cw h w0) sz)) (va_A (cw h w0) sz)) 0 0 (va_A (cw h w0) sz) := by
  refine kb_of (cc := cD_commandPumps) (maxL := 2) (ret := none) (QcA := fun A => (va_Qv (fun u' => u' = F_D_commandPumps w0 a1) (kb_E D [] (cw h) A) A)) (by decide) (Nat.le_of_ble_eq_true rfl) ?_
  intro p e s m below meth c A hx hb hr hlocks hml hown hts hA hN hK hP hD ls hl
  have hS : va_S A s.heap s.heap [] := va_S.rf
  have hl : lv_has ls 2 [(0, .ref (h 0)), (1, .int a1)] := hl
  have e : F_D_commandPumps w0 a1 = F_D_commandPumps w0 a1 := rfl
  refine lv_aload_n hx hb dD_commandPumps_0 rfl (lv_at hl 0 rfl) ?_
  refine va_get (D := D) (ci := 0) (v := .ref (h 5)) (C := "BoilerDesk") (T := TD) (N := 13) hx hb hts inD hown hK hP 0 rfl rfl 4 (by decide) (hts _ q_276) (fun _ h9 => h9) rfl dD_commandPumps_1 ?_
  refine lv_iload_n hx hb dD_commandPumps_4 rfl (lv_at hl 1 rfl) ?_
  refine lv_aload_n hx hb dD_commandPumps_5 rfl (lv_at hl 0 rfl) ?_
  refine va_get (D := D) (ci := 0) (v := .ref (h 4)) (C := "BoilerDesk") (T := TD) (N := 13) hx hb hts inD hown hK hP 0 rfl rfl 3 (by decide) (hts _ q_275) (fun _ h9 => h9) rfl dD_commandPumps_6 ?_
  refine va_get (D := D) (ci := 2) (v := .int (w0 27)) (C := "BoilerDesk$Machines") (T := TM) (N := 4) hx hb hts inM hown hK hP 4 rfl rfl 0 (by decide) (hts _ q_175) (fun _ h9 => h9) rfl dD_commandPumps_9 ?_
  refine lv_iconst (v := (-1)) hx hb dD_commandPumps_12 (by decide) ?_
  refine lv_ixor hx hb dD_commandPumps_13 ?_
  refine lv_iand hx hb dD_commandPumps_14 ?_
  refine kb_put (D := D) (wf := cw h) (w' := (up w0 31 (a1 &&& ((w0 27) ^^^ ((-1) : Int32))))) (ci := 4) (v := .int (a1 &&& ((w0 27) ^^^ ((-1) : Int32)))) (ty := .int) (C := "BoilerDesk$Report") (T := TR) (N := 7) hx hb hts inR tyR tyR_ok nmR hown hK hP hD hS 5 rfl rfl 0 (by decide) (hts _ q_197) (fun _ h9 => h9) rfl (by decide +kernel) rfl rfl (Nat.le_of_ble_eq_true rfl) dD_commandPumps_15 rfl (fun H locs hP hD hS => ?_)
  refine lv_aload_n hx hb dD_commandPumps_18 rfl (lv_at hl 0 rfl) ?_
  refine va_get (D := D) (ci := 0) (v := .ref (h 5)) (C := "BoilerDesk") (T := TD) (N := 13) hx hb hts inD hown hK hP 0 rfl rfl 4 (by decide) (hts _ q_276) (fun _ h9 => h9) rfl dD_commandPumps_19 ?_
  refine lv_aload_n hx hb dD_commandPumps_22 rfl (lv_at hl 0 rfl) ?_
  refine va_get (D := D) (ci := 0) (v := .ref (h 4)) (C := "BoilerDesk") (T := TD) (N := 13) hx hb hts inD hown hK hP 0 rfl rfl 3 (by decide) (hts _ q_275) (fun _ h9 => h9) rfl dD_commandPumps_23 ?_
  refine va_get (D := D) (ci := 2) (v := .int (w0 27)) (C := "BoilerDesk$Machines") (T := TM) (N := 4) hx hb hts inM hown hK hP 4 rfl rfl 0 (by decide) (hts _ q_175) (fun _ h9 => h9) rfl dD_commandPumps_26 ?_
  refine lv_iload_n hx hb dD_commandPumps_29 rfl (lv_at hl 1 rfl) ?_
  refine lv_iconst (v := (-1)) hx hb dD_commandPumps_30 (by decide) ?_
  refine lv_ixor hx hb dD_commandPumps_31 ?_
  refine lv_iand hx hb dD_commandPumps_32 ?_
  refine kb_put (D := D) (wf := cw h) (w' := (up (up w0 31 (a1 &&& ((w0 27) ^^^ ((-1) : Int32)))) 32 ((w0 27) &&& (a1 ^^^ ((-1) : Int32))))) (ci := 4) (v := .int ((w0 27) &&& (a1 ^^^ ((-1) : Int32)))) (ty := .int) (C := "BoilerDesk$Report") (T := TR) (N := 7) hx hb hts inR tyR tyR_ok nmR hown hK hP hD hS 5 rfl rfl 1 (by decide) (hts _ q_199) (fun _ h9 => h9) rfl (by decide +kernel) rfl rfl (Nat.le_of_ble_eq_true rfl) dD_commandPumps_33 rfl (fun H locs hP hD hS => ?_)
  refine lv_aload_n hx hb dD_commandPumps_36 rfl (lv_at hl 0 rfl) ?_
  refine va_get (D := D) (ci := 0) (v := .ref (h 4)) (C := "BoilerDesk") (T := TD) (N := 13) hx hb hts inD hown hK hP 0 rfl rfl 3 (by decide) (hts _ q_275) (fun _ h9 => h9) rfl dD_commandPumps_37 ?_
  refine lv_iload_n hx hb dD_commandPumps_40 rfl (lv_at hl 1 rfl) ?_
  refine kb_put (D := D) (wf := cw h) (w' := (up (up (up w0 31 (a1 &&& ((w0 27) ^^^ ((-1) : Int32)))) 32 ((w0 27) &&& (a1 ^^^ ((-1) : Int32)))) 27 a1)) (ci := 2) (v := .int a1) (ty := .int) (C := "BoilerDesk$Machines") (T := TM) (N := 4) hx hb hts inM tyM tyM_ok nmM hown hK hP hD hS 4 rfl rfl 0 (by decide) (hts _ q_175) (fun _ h9 => h9) rfl (by decide +kernel) rfl rfl (Nat.le_of_ble_eq_true rfl) dD_commandPumps_41 rfl (fun H locs hP hD hS => ?_)
  exact kb_vret (wf := cw h) hx hb hr hlocks hK hP hD hS e.symm dD_commandPumps_44
/-- BoilerDesk.turnOnGoodPumps()V -/
def F_D_turnOnGoodPumps (w0 : Nat → Int32)  : Nat → Int32 := (F_D_commandPumps w0 ((w0 27) ||| ((15 : Int32) &&& (((w0 25) >>> ((2 : Int32) &&& 31)) ^^^ ((-1) : Int32)))))
set_option maxHeartbeats 4000000 in
set_option maxRecDepth 100000 in
theorem c_D_turnOnGoodPumps (l : Launch) (D : va_G) (h : Nat → Nat) (sz : Nat) (w0 : Nat → Int32)   : Met l yD_turnOnGoodPumps [.code yD_turnOnGoodPumps cD_turnOnGoodPumps 2 none] ({ frames := 1, cells := 0, slots := 0, locals := 21 }) (va_Pc [.ref (h 0)] (kb_B D [] (cw h) w0 sz)) (va_Qv (fun u' => u' = F_D_turnOnGoodPumps w0) (kb_E D [] (cw h) (va_A (cw h w0) sz)) (va_A (cw h w0) sz)) 0 0 (va_A (cw h w0) sz) := by
  refine kb_of (cc := cD_turnOnGoodPumps) (maxL := 2) (ret := none) (QcA := fun A => (va_Qv (fun u' => u' = F_D_turnOnGoodPumps w0) (kb_E D [] (cw h) A) A)) (by decide) (Nat.le_of_ble_eq_true rfl) ?_
  intro p e s m below meth c A hx hb hr hlocks hml hown hts hA hN hK hP hD ls hl
  have hS : va_S A s.heap s.heap [] := va_S.rf
  have hl : lv_has ls 2 [(0, .ref (h 0))] := hl
  have e : F_D_turnOnGoodPumps w0 = F_D_turnOnGoodPumps w0 := rfl
  refine lv_bipush (v := 15) hx hb dD_turnOnGoodPumps_0 (by decide) ?_
  refine lv_aload_n hx hb dD_turnOnGoodPumps_2 rfl (lv_at hl 0 rfl) ?_
  refine va_get (D := D) (ci := 0) (v := .ref (h 3)) (C := "BoilerDesk") (T := TD) (N := 13) hx hb hts inD hown hK hP 0 rfl rfl 2 (by decide) (hts _ q_274) (fun _ h9 => h9) rfl dD_turnOnGoodPumps_3 ?_
  refine va_get (D := D) (ci := 6) (v := .int (w0 25)) (C := "BoilerDesk$Units") (T := TU) (N := 2) hx hb hts inU hown hK hP 3 rfl rfl 0 (by decide) (hts _ q_160) (fun _ h9 => h9) rfl dD_turnOnGoodPumps_6 ?_
  refine lv_iconst (v := 2) hx hb dD_turnOnGoodPumps_9 (by decide) ?_
  refine lv_ishr hx hb dD_turnOnGoodPumps_10 ?_
  refine lv_iconst (v := (-1)) hx hb dD_turnOnGoodPumps_11 (by decide) ?_
  refine lv_ixor hx hb dD_turnOnGoodPumps_12 ?_
  refine lv_iand hx hb dD_turnOnGoodPumps_13 ?_
  refine lv_istore_n (lv' := [(1, .int ((15 : Int32) &&& (((w0 25) >>> ((2 : Int32) &&& 31)) ^^^ ((-1) : Int32)))), (0, .ref (h 0))]) hx hb dD_turnOnGoodPumps_14 rfl hl (by decide) rfl (fun ls hl => ?_)
  refine lv_aload_n hx hb dD_turnOnGoodPumps_15 rfl (lv_at hl 1 rfl) ?_
  refine lv_aload_n hx hb dD_turnOnGoodPumps_16 rfl (lv_at hl 1 rfl) ?_
  refine va_get (D := D) (ci := 0) (v := .ref (h 4)) (C := "BoilerDesk") (T := TD) (N := 13) hx hb hts inD hown hK hP 0 rfl rfl 3 (by decide) (hts _ q_275) (fun _ h9 => h9) rfl dD_turnOnGoodPumps_17 ?_
  refine va_get (D := D) (ci := 2) (v := .int (w0 27)) (C := "BoilerDesk$Machines") (T := TM) (N := 4) hx hb hts inM hown hK hP 4 rfl rfl 0 (by decide) (hts _ q_175) (fun _ h9 => h9) rfl dD_turnOnGoodPumps_20 ?_
  refine lv_iload_n hx hb dD_turnOnGoodPumps_23 rfl (lv_at hl 0 rfl) ?_
  refine lv_ior hx hb dD_turnOnGoodPumps_24 ?_
  refine kb_callv (wf := cw h) (u := F_D_commandPumps w0 ((w0 27) ||| ((15 : Int32) &&& (((w0 25) >>> ((2 : Int32) &&& 31)) ^^^ ((-1) : Int32))))) (va_runV (As := [.int ((w0 27) ||| ((15 : Int32) &&& (((w0 25) >>> ((2 : Int32) &&& 31)) ^^^ ((-1) : Int32))))]) (rest := []) ⟨hx, hb, hml, hown, hts⟩ (c_D_commandPumps l D h _ w0 ((w0 27) ||| ((15 : Int32) &&& (((w0 25) >>> ((2 : Int32) &&& 31)) ^^^ ((-1) : Int32))))) (cwV 1 hts (gd_V q_601 q_603 q_19 q_33 q_604) rfl rfl rfl (by decide +kernel) ⟨Nat.le_of_ble_eq_true rfl, Nat.le_of_ble_eq_true rfl⟩) (kb_preV hN hK hP hD (va_recv hK hP (ci := 0) (q0 := 0) rfl rfl)) rfl rfl hl.1 rfl (lv_room (Nat.le_of_ble_eq_true rfl)) dD_turnOnGoodPumps_25 ⟨Nat.zero_le _, Nat.zero_le _⟩) hP hD hS hA (fun H locs hP hD hS => ?_)
  exact kb_vret (wf := cw h) hx hb hr hlocks hK hP hD hS e.symm dD_turnOnGoodPumps_28
/-- BoilerDesk.commandInInitial()V -/
def K_D_commandInInitial_55  (w : Nat → Int32)  : Nat → Int32 := (up w 37 (F_P_isNormalLevel w (w 14)))
def F_D_commandInInitial (w0 : Nat → Int32)  : Nat → Int32 := (if (w0 14) ≤ (w0 7) then (if (F_D_commandValve w0 (0 : Int32) 6) ≤ (F_D_commandValve w0 (0 : Int32) 14) then K_D_commandInInitial_55 (F_D_commandPumps (F_D_commandValve w0 (0 : Int32)) (0 : Int32)) else K_D_commandInInitial_55 (F_D_turnOnGoodPumps (F_D_commandValve w0 (0 : Int32)))) else (if (F_D_commandValve w0 (1 : Int32) 6) ≤ (F_D_commandValve w0 (1 : Int32) 14) then K_D_commandInInitial_55 (F_D_commandPumps (F_D_commandValve w0 (1 : Int32)) (0 : Int32)) else K_D_commandInInitial_55 (F_D_turnOnGoodPumps (F_D_commandValve w0 (1 : Int32)))))
set_option maxHeartbeats 4000000 in
set_option maxRecDepth 100000 in
theorem c_D_commandInInitial (l : Launch) (D : va_G) (h : Nat → Nat) (sz : Nat) (w0 : Nat → Int32)   : Met l yD_commandInInitial [.code yD_commandInInitial cD_commandInInitial 1 none] ({ frames := 2, cells := 0, slots := 0, locals := 43 }) (va_Pc [.ref (h 0)] (kb_B D [] (cw h) w0 sz)) (va_Qv (fun u' => u' = F_D_commandInInitial w0) (kb_E D [] (cw h) (va_A (cw h w0) sz)) (va_A (cw h w0) sz)) 0 0 (va_A (cw h w0) sz) := by
  refine kb_of (cc := cD_commandInInitial) (maxL := 1) (ret := none) (QcA := fun A => (va_Qv (fun u' => u' = F_D_commandInInitial w0) (kb_E D [] (cw h) A) A)) (by decide) (Nat.le_of_ble_eq_true rfl) ?_
  intro p e s m below meth c A hx hb hr hlocks hml hown hts hA hN hK hP hD ls hl
  have hS : va_S A s.heap s.heap [] := va_S.rf
  have hl : lv_has ls 1 [(0, .ref (h 0))] := hl
  have k_55 : ∀ (w : Nat → Int32) (H : Heap) (locs : List Loc) (ls : Array Slot), F_D_commandInInitial w0 = K_D_commandInInitial_55 w → va_P D vwCl (cw h w) H → va_D A (cw h w) → va_S A s.heap H locs → lv_has ls 1 [(0, .ref (h 0))] → W p l e ({ frames := 2, cells := 0, slots := 0, locals := 43 }) s m [.ref (h 0)].toArray below meth c H locs 0 0 (MQ below (va_Qv (fun u' => u' = F_D_commandInInitial w0) (kb_E D [] (cw h) A) A) [.ref (h 0)].toArray s 0 0 A) (F0 m 55 ls []) := by
      intro w H locs ls e hP hD hS hl
      refine lv_aload_n hx hb dD_commandInInitial_55 rfl (lv_at hl 0 rfl) ?_
      refine va_get (D := D) (ci := 0) (v := .ref (h 5)) (C := "BoilerDesk") (T := TD) (N := 13) hx hb hts inD hown hK hP 0 rfl rfl 4 (by decide) (hts _ q_276) (fun _ h9 => h9) rfl dD_commandInInitial_56 ?_
      refine lv_aload_n hx hb dD_commandInInitial_59 rfl (lv_at hl 0 rfl) ?_
      refine va_get (D := D) (ci := 0) (v := .ref (h 1)) (C := "BoilerDesk") (T := TD) (N := 13) hx hb hts inD hown hK hP 0 rfl rfl 0 (by decide) (hts _ q_272) (fun _ h9 => h9) rfl dD_commandInInitial_60 ?_
      refine lv_aload_n hx hb dD_commandInInitial_63 rfl (lv_at hl 0 rfl) ?_
      refine va_get (D := D) (ci := 0) (v := .ref (h 2)) (C := "BoilerDesk") (T := TD) (N := 13) hx hb hts inD hown hK hP 0 rfl rfl 1 (by decide) (hts _ q_273) (fun _ h9 => h9) rfl dD_commandInInitial_64 ?_
      refine va_get (D := D) (ci := 1) (v := .int (w 14)) (C := "BoilerDesk$Inbox") (T := TI) (N := 12) hx hb hts inI hown hK hP 2 rfl rfl 1 (by decide) (hts _ q_107) (fun _ h9 => h9) rfl dD_commandInInitial_67 ?_
      refine kb_calli (wf := cw h) (r := (F_P_isNormalLevel w (w 14))) (u := w) (va_runV (As := [.int (w 14)]) (rest := [.ref (h 5)]) ⟨hx, hb, hml, hown, hts⟩ (c_P_isNormalLevel l D h _ w (w 14)) (cwV 1 hts (gd_V q_568 q_569 q_570 q_34 q_571) rfl rfl rfl (by decide +kernel) ⟨Nat.le_of_ble_eq_true rfl, Nat.le_of_ble_eq_true rfl⟩) (kb_preV hN hK hP hD (va_recv hK hP (ci := 3) (q0 := 1) rfl rfl)) rfl rfl hl.1 rfl (lv_room (Nat.le_of_ble_eq_true rfl)) dD_commandInInitial_70 ⟨Nat.zero_le _, Nat.zero_le _⟩) hP hD hS hA (fun H locs hP hD hS => ?_)
      refine kb_put (D := D) (wf := cw h) (w' := (up w 37 (F_P_isNormalLevel w (w 14)))) (ci := 4) (v := .int (F_P_isNormalLevel w (w 14))) (ty := .boolean) (C := "BoilerDesk$Report") (T := TR) (N := 7) hx hb hts inR tyR tyR_ok nmR hown hK hP hD hS 5 rfl rfl 6 (by decide) (hts _ q_209) (fun _ h9 => h9) rfl (by decide +kernel) (zb_n (z_P_isNormalLevel w (w 14))) (zb_f (z_P_isNormalLevel w (w 14))) (Nat.le_of_ble_eq_true rfl) dD_commandInInitial_73 rfl (fun H locs hP hD hS => ?_)
      exact kb_vret (wf := cw h) hx hb hr hlocks hK hP hD hS e.symm dD_commandInInitial_76
  have e : F_D_commandInInitial w0 = F_D_commandInInitial w0 := rfl
  refine lv_aload_n hx hb dD_commandInInitial_0 rfl (lv_at hl 0 rfl) ?_
  refine lv_aload_n hx hb dD_commandInInitial_1 rfl (lv_at hl 0 rfl) ?_
  refine va_get (D := D) (ci := 0) (v := .ref (h 2)) (C := "BoilerDesk") (T := TD) (N := 13) hx hb hts inD hown hK hP 0 rfl rfl 1 (by decide) (hts _ q_273) (fun _ h9 => h9) rfl dD_commandInInitial_2 ?_
  refine va_get (D := D) (ci := 1) (v := .int (w0 14)) (C := "BoilerDesk$Inbox") (T := TI) (N := 12) hx hb hts inI hown hK hP 2 rfl rfl 1 (by decide) (hts _ q_107) (fun _ h9 => h9) rfl dD_commandInInitial_5 ?_
  refine lv_aload_n hx hb dD_commandInInitial_8 rfl (lv_at hl 0 rfl) ?_
  refine va_get (D := D) (ci := 0) (v := .ref (h 1)) (C := "BoilerDesk") (T := TD) (N := 13) hx hb hts inD hown hK hP 0 rfl rfl 0 (by decide) (hts _ q_272) (fun _ h9 => h9) rfl dD_commandInInitial_9 ?_
  refine va_get (D := D) (ci := 3) (v := .int (w0 7)) (C := "BoilerDesk$Plant") (T := TP) (N := 9) hx hb hts inP hown hK hP 1 rfl rfl 3 (by decide) (hts _ q_69) (fun _ h9 => h9) rfl dD_commandInInitial_12 ?_
  refine lv_icmp_le (tgt := 22) hx hb dD_commandInInitial_15 (by decide) (fun c_1 => ?_) (fun c_1 => ?_)
  · have e := e.trans (if_pos c_1)
    refine lv_iconst (v := 0) hx hb dD_commandInInitial_22 (by decide) ?_
    refine kb_callv (wf := cw h) (u := F_D_commandValve w0 (0 : Int32)) (va_runV (As := [.int 0]) (rest := []) ⟨hx, hb, hml, hown, hts⟩ (c_D_commandValve l D h _ w0 (0 : Int32) (by decide)) (cwV 1 hts (gd_V q_593 q_595 q_17 q_33 q_596) rfl rfl rfl (by decide +kernel) ⟨Nat.le_of_ble_eq_true rfl, Nat.le_of_ble_eq_true rfl⟩) (kb_preV hN hK hP hD (va_recv hK hP (ci := 0) (q0 := 0) rfl rfl)) rfl rfl hl.1 rfl (lv_room (Nat.le_of_ble_eq_true rfl)) dD_commandInInitial_23 ⟨Nat.zero_le _, Nat.zero_le _⟩) hP hD hS hA (fun H locs hP hD hS => ?_)
    refine lv_aload_n hx hb dD_commandInInitial_26 rfl (lv_at hl 0 rfl) ?_
    refine va_get (D := D) (ci := 0) (v := .ref (h 2)) (C := "BoilerDesk") (T := TD) (N := 13) hx hb hts inD hown hK hP 0 rfl rfl 1 (by decide) (hts _ q_273) (fun _ h9 => h9) rfl dD_commandInInitial_27 ?_
    refine va_get (D := D) (ci := 1) (v := .int (F_D_commandValve w0 (0 : Int32) 14)) (C := "BoilerDesk$Inbox") (T := TI) (N := 12) hx hb hts inI hown hK hP 2 rfl rfl 1 (by decide) (hts _ q_107) (fun _ h9 => h9) rfl dD_commandInInitial_30 ?_
    refine lv_aload_n hx hb dD_commandInInitial_33 rfl (lv_at hl 0 rfl) ?_
    refine va_get (D := D) (ci := 0) (v := .ref (h 1)) (C := "BoilerDesk") (T := TD) (N := 13) hx hb hts inD hown hK hP 0 rfl rfl 0 (by decide) (hts _ q_272) (fun _ h9 => h9) rfl dD_commandInInitial_34 ?_
    refine va_get (D := D) (ci := 3) (v := .int (F_D_commandValve w0 (0 : Int32) 6)) (C := "BoilerDesk$Plant") (T := TP) (N := 9) hx hb hts inP hown hK hP 1 rfl rfl 2 (by decide) (hts _ q_67) (fun _ h9 => h9) rfl dD_commandInInitial_37 ?_
    refine lv_icmp_ge (tgt := 50) hx hb dD_commandInInitial_40 (by decide) (fun c_2 => ?_) (fun c_2 => ?_)
    · have e := e.trans (if_pos c_2)
      refine lv_aload_n hx hb dD_commandInInitial_50 rfl (lv_at hl 0 rfl) ?_
      refine lv_iconst (v := 0) hx hb dD_commandInInitial_51 (by decide) ?_
      refine kb_callv (wf := cw h) (u := F_D_commandPumps (F_D_commandValve w0 (0 : Int32)) (0 : Int32)) (va_runV (As := [.int 0]) (rest := []) ⟨hx, hb, hml, hown, hts⟩ (c_D_commandPumps l D h _ (F_D_commandValve w0 (0 : Int32)) (0 : Int32)) (cwV 1 hts (gd_V q_601 q_603 q_19 q_33 q_604) rfl rfl rfl (by decide +kernel) ⟨Nat.le_of_ble_eq_true rfl, Nat.le_of_ble_eq_true rfl⟩) (kb_preV hN hK hP hD (va_recv hK hP (ci := 0) (q0 := 0) rfl rfl)) rfl rfl hl.1 rfl (lv_room (Nat.le_of_ble_eq_true rfl)) dD_commandInInitial_52 ⟨Nat.zero_le _, Nat.zero_le _⟩) hP hD hS hA (fun H locs hP hD hS => ?_)
      exact k_55 (F_D_commandPumps (F_D_commandValve w0 (0 : Int32)) (0 : Int32)) _ _ _ e hP hD hS (lv_sub hl [0] rfl)
    · have e := e.trans (if_neg c_2)
      refine lv_aload_n hx hb dD_commandInInitial_43 rfl (lv_at hl 0 rfl) ?_
      refine kb_callv (wf := cw h) (u := F_D_turnOnGoodPumps (F_D_commandValve w0 (0 : Int32))) (va_runV (As := []) (rest := []) ⟨hx, hb, hml, hown, hts⟩ (c_D_turnOnGoodPumps l D h _ (F_D_commandValve w0 (0 : Int32))) (cwV 0 hts (gd_V q_597 q_599 q_18 q_33 q_600) rfl rfl rfl (by decide +kernel) ⟨Nat.le_of_ble_eq_true rfl, Nat.le_of_ble_eq_true rfl⟩) (kb_preV hN hK hP hD (va_recv hK hP (ci := 0) (q0 := 0) rfl rfl)) rfl rfl hl.1 rfl (lv_room (Nat.le_of_ble_eq_true rfl)) dD_commandInInitial_44 ⟨Nat.zero_le _, Nat.zero_le _⟩) hP hD hS hA (fun H locs hP hD hS => ?_)
      refine lv_goto (tgt := 55) hx hb dD_commandInInitial_47 (by decide) ?_
      exact k_55 (F_D_turnOnGoodPumps (F_D_commandValve w0 (0 : Int32))) _ _ _ e hP hD hS (lv_sub hl [0] rfl)
  · have e := e.trans (if_neg c_1)
    refine lv_iconst (v := 1) hx hb dD_commandInInitial_18 (by decide) ?_
    refine lv_goto (tgt := 23) hx hb dD_commandInInitial_19 (by decide) ?_
    refine kb_callv (wf := cw h) (u := F_D_commandValve w0 (1 : Int32)) (va_runV (As := [.int 1]) (rest := []) ⟨hx, hb, hml, hown, hts⟩ (c_D_commandValve l D h _ w0 (1 : Int32) (by decide)) (cwV 1 hts (gd_V q_593 q_595 q_17 q_33 q_596) rfl rfl rfl (by decide +kernel) ⟨Nat.le_of_ble_eq_true rfl, Nat.le_of_ble_eq_true rfl⟩) (kb_preV hN hK hP hD (va_recv hK hP (ci := 0) (q0 := 0) rfl rfl)) rfl rfl hl.1 rfl (lv_room (Nat.le_of_ble_eq_true rfl)) dD_commandInInitial_23 ⟨Nat.zero_le _, Nat.zero_le _⟩) hP hD hS hA (fun H locs hP hD hS => ?_)
    refine lv_aload_n hx hb dD_commandInInitial_26 rfl (lv_at hl 0 rfl) ?_
    refine va_get (D := D) (ci := 0) (v := .ref (h 2)) (C := "BoilerDesk") (T := TD) (N := 13) hx hb hts inD hown hK hP 0 rfl rfl 1 (by decide) (hts _ q_273) (fun _ h9 => h9) rfl dD_commandInInitial_27 ?_
    refine va_get (D := D) (ci := 1) (v := .int (F_D_commandValve w0 (1 : Int32) 14)) (C := "BoilerDesk$Inbox") (T := TI) (N := 12) hx hb hts inI hown hK hP 2 rfl rfl 1 (by decide) (hts _ q_107) (fun _ h9 => h9) rfl dD_commandInInitial_30 ?_
    refine lv_aload_n hx hb dD_commandInInitial_33 rfl (lv_at hl 0 rfl) ?_
    refine va_get (D := D) (ci := 0) (v := .ref (h 1)) (C := "BoilerDesk") (T := TD) (N := 13) hx hb hts inD hown hK hP 0 rfl rfl 0 (by decide) (hts _ q_272) (fun _ h9 => h9) rfl dD_commandInInitial_34 ?_
    refine va_get (D := D) (ci := 3) (v := .int (F_D_commandValve w0 (1 : Int32) 6)) (C := "BoilerDesk$Plant") (T := TP) (N := 9) hx hb hts inP hown hK hP 1 rfl rfl 2 (by decide) (hts _ q_67) (fun _ h9 => h9) rfl dD_commandInInitial_37 ?_
    refine lv_icmp_ge (tgt := 50) hx hb dD_commandInInitial_40 (by decide) (fun c_3 => ?_) (fun c_3 => ?_)
    · have e := e.trans (if_pos c_3)
      refine lv_aload_n hx hb dD_commandInInitial_50 rfl (lv_at hl 0 rfl) ?_
      refine lv_iconst (v := 0) hx hb dD_commandInInitial_51 (by decide) ?_
      refine kb_callv (wf := cw h) (u := F_D_commandPumps (F_D_commandValve w0 (1 : Int32)) (0 : Int32)) (va_runV (As := [.int 0]) (rest := []) ⟨hx, hb, hml, hown, hts⟩ (c_D_commandPumps l D h _ (F_D_commandValve w0 (1 : Int32)) (0 : Int32)) (cwV 1 hts (gd_V q_601 q_603 q_19 q_33 q_604) rfl rfl rfl (by decide +kernel) ⟨Nat.le_of_ble_eq_true rfl, Nat.le_of_ble_eq_true rfl⟩) (kb_preV hN hK hP hD (va_recv hK hP (ci := 0) (q0 := 0) rfl rfl)) rfl rfl hl.1 rfl (lv_room (Nat.le_of_ble_eq_true rfl)) dD_commandInInitial_52 ⟨Nat.zero_le _, Nat.zero_le _⟩) hP hD hS hA (fun H locs hP hD hS => ?_)
      exact k_55 (F_D_commandPumps (F_D_commandValve w0 (1 : Int32)) (0 : Int32)) _ _ _ e hP hD hS (lv_sub hl [0] rfl)
    · have e := e.trans (if_neg c_3)
      refine lv_aload_n hx hb dD_commandInInitial_43 rfl (lv_at hl 0 rfl) ?_
      refine kb_callv (wf := cw h) (u := F_D_turnOnGoodPumps (F_D_commandValve w0 (1 : Int32))) (va_runV (As := []) (rest := []) ⟨hx, hb, hml, hown, hts⟩ (c_D_turnOnGoodPumps l D h _ (F_D_commandValve w0 (1 : Int32))) (cwV 0 hts (gd_V q_597 q_599 q_18 q_33 q_600) rfl rfl rfl (by decide +kernel) ⟨Nat.le_of_ble_eq_true rfl, Nat.le_of_ble_eq_true rfl⟩) (kb_preV hN hK hP hD (va_recv hK hP (ci := 0) (q0 := 0) rfl rfl)) rfl rfl hl.1 rfl (lv_room (Nat.le_of_ble_eq_true rfl)) dD_commandInInitial_44 ⟨Nat.zero_le _, Nat.zero_le _⟩) hP hD hS hA (fun H locs hP hD hS => ?_)
      refine lv_goto (tgt := 55) hx hb dD_commandInInitial_47 (by decide) ?_
      exact k_55 (F_D_turnOnGoodPumps (F_D_commandValve w0 (1 : Int32))) _ _ _ e hP hD hS (lv_sub hl [0] rfl)
/-- BoilerDesk.commandInOperation()V -/
def F_D_commandInOperation (w0 : Nat → Int32)  : Nat → Int32 := (if ((F_D_commandValve w0 (0 : Int32) 6) - (F_D_commandValve w0 (0 : Int32) 38)) ≤ (0 : Int32) then (if ((F_D_commandValve w0 (0 : Int32) 39) - (F_D_commandValve w0 (0 : Int32) 7)) ≤ (0 : Int32) then (F_D_commandValve w0 (0 : Int32)) else (F_D_commandPumps (F_D_commandValve w0 (0 : Int32)) (0 : Int32))) else (if ((F_D_commandValve w0 (0 : Int32) 6) - (F_D_commandValve w0 (0 : Int32) 38)) ≤ ((F_D_commandValve w0 (0 : Int32) 39) - (F_D_commandValve w0 (0 : Int32) 7)) then (if ((F_D_commandValve w0 (0 : Int32) 39) - (F_D_commandValve w0 (0 : Int32) 7)) ≤ (0 : Int32) then (F_D_commandValve w0 (0 : Int32)) else (F_D_commandPumps (F_D_commandValve w0 (0 : Int32)) (0 : Int32))) else (F_D_turnOnGoodPumps (F_D_commandValve w0 (0 : Int32)))))
set_option maxHeartbeats 4000000 in
set_option maxRecDepth 100000 in
theorem c_D_commandInOperation (l : Launch) (D : va_G) (h : Nat → Nat) (sz : Nat) (w0 : Nat → Int32)   : Met l yD_commandInOperation [.code yD_commandInOperation cD_commandInOperation 3 none] ({ frames := 2, cells := 0, slots := 0, locals := 42 }) (va_Pc [.ref (h 0)] (kb_B D [] (cw h) w0 sz)) (va_Qv (fun u' => u' = F_D_commandInOperation w0) (kb_E D [] (cw h) (va_A (cw h w0) sz)) (va_A (cw h w0) sz)) 0 0 (va_A (cw h w0) sz) := by
  refine kb_of (cc := cD_commandInOperation) (maxL := 3) (ret := none) (QcA := fun A => (va_Qv (fun u' => u' = F_D_commandInOperation w0) (kb_E D [] (cw h) A) A)) (by decide) (Nat.le_of_ble_eq_true rfl) ?_
  intro p e s m below meth c A hx hb hr hlocks hml hown hts hA hN hK hP hD ls hl
  have hS : va_S A s.heap s.heap [] := va_S.rf
  have hl : lv_has ls 3 [(0, .ref (h 0))] := hl
  have e : F_D_commandInOperation w0 = F_D_commandInOperation w0 := rfl
  refine lv_aload_n hx hb dD_commandInOperation_0 rfl (lv_at hl 0 rfl) ?_
  refine lv_iconst (v := 0) hx hb dD_commandInOperation_1 (by decide) ?_
  refine kb_callv (wf := cw h) (u := F_D_commandValve w0 (0 : Int32)) (va_runV (As := [.int 0]) (rest := []) ⟨hx, hb, hml, hown, hts⟩ (c_D_commandValve l D h _ w0 (0 : Int32) (by decide)) (cwV 1 hts (gd_V q_593 q_595 q_17 q_33 q_596) rfl rfl rfl (by decide +kernel) ⟨Nat.le_of_ble_eq_true rfl, Nat.le_of_ble_eq_true rfl⟩) (kb_preV hN hK hP hD (va_recv hK hP (ci := 0) (q0 := 0) rfl rfl)) rfl rfl hl.1 rfl (lv_room (Nat.le_of_ble_eq_true rfl)) dD_commandInOperation_2 ⟨Nat.zero_le _, Nat.zero_le _⟩) hP hD hS hA (fun H locs hP hD hS => ?_)
  refine lv_aload_n hx hb dD_commandInOperation_5 rfl (lv_at hl 0 rfl) ?_
  refine va_get (D := D) (ci := 0) (v := .ref (h 1)) (C := "BoilerDesk") (T := TD) (N := 13) hx hb hts inD hown hK hP 0 rfl rfl 0 (by decide) (hts _ q_272) (fun _ h9 => h9) rfl dD_commandInOperation_6 ?_
  refine va_get (D := D) (ci := 3) (v := .int (F_D_commandValve w0 (0 : Int32) 6)) (C := "BoilerDesk$Plant") (T := TP) (N := 9) hx hb hts inP hown hK hP 1 rfl rfl 2 (by decide) (hts _ q_67) (fun _ h9 => h9) rfl dD_commandInOperation_9 ?_
  refine lv_aload_n hx hb dD_commandInOperation_12 rfl (lv_at hl 0 rfl) ?_
  refine va_get (D := D) (ci := 0) (v := .ref (h 6)) (C := "BoilerDesk") (T := TD) (N := 13) hx hb hts inD hown hK hP 0 rfl rfl 5 (by decide) (hts _ q_277) (fun _ h9 => h9) rfl dD_commandInOperation_13 ?_
  refine va_get (D := D) (ci := 5) (v := .int (F_D_commandValve w0 (0 : Int32) 38)) (C := "BoilerDesk$Span") (T := TS) (N := 2) hx hb hts inS hown hK hP 6 rfl rfl 0 (by decide) (hts _ q_232) (fun _ h9 => h9) rfl dD_commandInOperation_16 ?_
  refine lv_isub hx hb dD_commandInOperation_19 ?_
  refine lv_istore_n (lv' := [(1, .int ((F_D_commandValve w0 (0 : Int32) 6) - (F_D_commandValve w0 (0 : Int32) 38))), (0, .ref (h 0))]) hx hb dD_commandInOperation_20 rfl hl (by decide) rfl (fun ls hl => ?_)
  refine lv_aload_n hx hb dD_commandInOperation_21 rfl (lv_at hl 1 rfl) ?_
  refine va_get (D := D) (ci := 0) (v := .ref (h 6)) (C := "BoilerDesk") (T := TD) (N := 13) hx hb hts inD hown hK hP 0 rfl rfl 5 (by decide) (hts _ q_277) (fun _ h9 => h9) rfl dD_commandInOperation_22 ?_
  refine va_get (D := D) (ci := 5) (v := .int (F_D_commandValve w0 (0 : Int32) 39)) (C := "BoilerDesk$Span") (T := TS) (N := 2) hx hb hts inS hown hK hP 6 rfl rfl 1 (by decide) (hts _ q_234) (fun _ h9 => h9) rfl dD_commandInOperation_25 ?_
  refine lv_aload_n hx hb dD_commandInOperation_28 rfl (lv_at hl 1 rfl) ?_
  refine va_get (D := D) (ci := 0) (v := .ref (h 1)) (C := "BoilerDesk") (T := TD) (N := 13) hx hb hts inD hown hK hP 0 rfl rfl 0 (by decide) (hts _ q_272) (fun _ h9 => h9) rfl dD_commandInOperation_29 ?_
  refine va_get (D := D) (ci := 3) (v := .int (F_D_commandValve w0 (0 : Int32) 7)) (C := "BoilerDesk$Plant") (T := TP) (N := 9) hx hb hts inP hown hK hP 1 rfl rfl 3 (by decide) (hts _ q_69) (fun _ h9 => h9) rfl dD_commandInOperation_32 ?_
  refine lv_isub hx hb dD_commandInOperation_35 ?_
  refine lv_istore_n (lv' := [(2, .int ((F_D_commandValve w0 (0 : Int32) 39) - (F_D_commandValve w0 (0 : Int32) 7))), (1, .int ((F_D_commandValve w0 (0 : Int32) 6) - (F_D_commandValve w0 (0 : Int32) 38))), (0, .ref (h 0))]) hx hb dD_commandInOperation_36 rfl hl (by decide) rfl (fun ls hl => ?_)
  refine lv_iload_n hx hb dD_commandInOperation_37 rfl (lv_at hl 1 rfl) ?_
  refine lv_if_le (tgt := 53) hx hb dD_commandInOperation_38 (by decide) (fun c_1 => ?_) (fun c_1 => ?_)
  · have e := e.trans (if_pos c_1)
    refine lv_iload_n hx hb dD_commandInOperation_53 rfl (lv_at hl 0 rfl) ?_
    refine lv_if_le (tgt := 62) hx hb dD_commandInOperation_54 (by decide) (fun c_2 => ?_) (fun c_2 => ?_)
    · have e := e.trans (if_pos c_2)
      exact kb_vret (wf := cw h) hx hb hr hlocks hK hP hD hS e.symm dD_commandInOperation_62
    · have e := e.trans (if_neg c_2)
      refine lv_aload_n hx hb dD_commandInOperation_57 rfl (lv_at hl 2 rfl) ?_
      refine lv_iconst (v := 0) hx hb dD_commandInOperation_58 (by decide) ?_
      refine kb_callv (wf := cw h) (u := F_D_commandPumps (F_D_commandValve w0 (0 : Int32)) (0 : Int32)) (va_runV (As := [.int 0]) (rest := []) ⟨hx, hb, hml, hown, hts⟩ (c_D_commandPumps l D h _ (F_D_commandValve w0 (0 : Int32)) (0 : Int32)) (cwV 1 hts (gd_V q_601 q_603 q_19 q_33 q_604) rfl rfl rfl (by decide +kernel) ⟨Nat.le_of_ble_eq_true rfl, Nat.le_of_ble_eq_true rfl⟩) (kb_preV hN hK hP hD (va_recv hK hP (ci := 0) (q0 := 0) rfl rfl)) rfl rfl hl.1 rfl (lv_room (Nat.le_of_ble_eq_true rfl)) dD_commandInOperation_59 ⟨Nat.zero_le _, Nat.zero_le _⟩) hP hD hS hA (fun H locs hP hD hS => ?_)
      exact kb_vret (wf := cw h) hx hb hr hlocks hK hP hD hS e.symm dD_commandInOperation_62
  · have e := e.trans (if_neg c_1)
    refine lv_iload_n hx hb dD_commandInOperation_41 rfl (lv_at hl 1 rfl) ?_
    refine lv_iload_n hx hb dD_commandInOperation_42 rfl (lv_at hl 0 rfl) ?_
    refine lv_icmp_le (tgt := 53) hx hb dD_commandInOperation_43 (by decide) (fun c_3 => ?_) (fun c_3 => ?_)
    · have e := e.trans (if_pos c_3)
      refine lv_iload_n hx hb dD_commandInOperation_53 rfl (lv_at hl 0 rfl) ?_
      refine lv_if_le (tgt := 62) hx hb dD_commandInOperation_54 (by decide) (fun c_4 => ?_) (fun c_4 => ?_)
      · have e := e.trans (if_pos c_4)
        exact kb_vret (wf := cw h) hx hb hr hlocks hK hP hD hS e.symm dD_commandInOperation_62
      · have e := e.trans (if_neg c_4)
        refine lv_aload_n hx hb dD_commandInOperation_57 rfl (lv_at hl 2 rfl) ?_
        refine lv_iconst (v := 0) hx hb dD_commandInOperation_58 (by decide) ?_
        refine kb_callv (wf := cw h) (u := F_D_commandPumps (F_D_commandValve w0 (0 : Int32)) (0 : Int32)) (va_runV (As := [.int 0]) (rest := []) ⟨hx, hb, hml, hown, hts⟩ (c_D_commandPumps l D h _ (F_D_commandValve w0 (0 : Int32)) (0 : Int32)) (cwV 1 hts (gd_V q_601 q_603 q_19 q_33 q_604) rfl rfl rfl (by decide +kernel) ⟨Nat.le_of_ble_eq_true rfl, Nat.le_of_ble_eq_true rfl⟩) (kb_preV hN hK hP hD (va_recv hK hP (ci := 0) (q0 := 0) rfl rfl)) rfl rfl hl.1 rfl (lv_room (Nat.le_of_ble_eq_true rfl)) dD_commandInOperation_59 ⟨Nat.zero_le _, Nat.zero_le _⟩) hP hD hS hA (fun H locs hP hD hS => ?_)
        exact kb_vret (wf := cw h) hx hb hr hlocks hK hP hD hS e.symm dD_commandInOperation_62
    · have e := e.trans (if_neg c_3)
      refine lv_aload_n hx hb dD_commandInOperation_46 rfl (lv_at hl 2 rfl) ?_
      refine kb_callv (wf := cw h) (u := F_D_turnOnGoodPumps (F_D_commandValve w0 (0 : Int32))) (va_runV (As := []) (rest := []) ⟨hx, hb, hml, hown, hts⟩ (c_D_turnOnGoodPumps l D h _ (F_D_commandValve w0 (0 : Int32))) (cwV 0 hts (gd_V q_597 q_599 q_18 q_33 q_600) rfl rfl rfl (by decide +kernel) ⟨Nat.le_of_ble_eq_true rfl, Nat.le_of_ble_eq_true rfl⟩) (kb_preV hN hK hP hD (va_recv hK hP (ci := 0) (q0 := 0) rfl rfl)) rfl rfl hl.1 rfl (lv_room (Nat.le_of_ble_eq_true rfl)) dD_commandInOperation_47 ⟨Nat.zero_le _, Nat.zero_le _⟩) hP hD hS hA (fun H locs hP hD hS => ?_)
      refine lv_goto (tgt := 62) hx hb dD_commandInOperation_50 (by decide) ?_
      exact kb_vret (wf := cw h) hx hb hr hlocks hK hP hD hS e.symm dD_commandInOperation_62
/-- BoilerDesk.giveCommands()V -/
def F_D_giveCommands (w0 : Nat → Int32)  : Nat → Int32 := (if (w0 0) = (0 : Int32) then (if (w0 3) = (0 : Int32) then w0 else (F_D_commandInInitial w0)) else (F_D_commandInOperation w0))
set_option maxHeartbeats 4000000 in
set_option maxRecDepth 100000 in
theorem c_D_giveCommands (l : Launch) (D : va_G) (h : Nat → Nat) (sz : Nat) (w0 : Nat → Int32)   : Met l yD_giveCommands [.code yD_giveCommands cD_giveCommands 1 none] ({ frames := 3, cells := 0, slots := 0, locals := 64 }) (va_Pc [.ref (h 0)] (kb_B D [] (cw h) w0 sz)) (va_Qv (fun u' => u' = F_D_giveCommands w0) (kb_E D [] (cw h) (va_A (cw h w0) sz)) (va_A (cw h w0) sz)) 0 0 (va_A (cw h w0) sz) := by
  refine kb_of (cc := cD_giveCommands) (maxL := 1) (ret := none) (QcA := fun A => (va_Qv (fun u' => u' = F_D_giveCommands w0) (kb_E D [] (cw h) A) A)) (by decide) (Nat.le_of_ble_eq_true rfl) ?_
  intro p e s m below meth c A hx hb hr hlocks hml hown hts hA hN hK hP hD ls hl
  have hS : va_S A s.heap s.heap [] := va_S.rf
  have hl : lv_has ls 1 [(0, .ref (h 0))] := hl
  have e : F_D_giveCommands w0 = F_D_giveCommands w0 := rfl
  refine lv_aload_n hx hb dD_giveCommands_0 rfl (lv_at hl 0 rfl) ?_
  refine va_get (D := D) (ci := 0) (v := .int (w0 0)) (C := "BoilerDesk") (T := TD) (N := 13) hx hb hts inD hown hK hP 0 rfl rfl 9 (by decide) (hts _ q_281) (fun _ h9 => h9) rfl dD_giveCommands_1 ?_
  refine lv_if_eq (tgt := 14) hx hb dD_giveCommands_4 (by decide) (fun c_1 => ?_) (fun c_1 => ?_)
  · have e := e.trans (if_pos c_1)
    refine lv_aload_n hx hb dD_giveCommands_14 rfl (lv_at hl 0 rfl) ?_
    refine va_get (D := D) (ci := 0) (v := .int (w0 3)) (C := "BoilerDesk") (T := TD) (N := 13) hx hb hts inD hown hK hP 0 rfl rfl 12 (by decide) (hts _ q_284) (fun _ h9 => h9) rfl dD_giveCommands_15 ?_
    refine lv_if_eq (tgt := 25) hx hb dD_giveCommands_18 (by decide) (fun c_2 => ?_) (fun c_2 => ?_)
    · have e := e.trans (if_pos c_2)
      exact kb_vret (wf := cw h) hx hb hr hlocks hK hP hD hS e.symm dD_giveCommands_25
    · have e := e.trans (if_neg c_2)
      refine lv_aload_n hx hb dD_giveCommands_21 rfl (lv_at hl 0 rfl) ?_
      refine kb_callv (wf := cw h) (u := F_D_commandInInitial w0) (va_runV (As := []) (rest := []) ⟨hx, hb, hml, hown, hts⟩ (c_D_commandInInitial l D h _ w0) (cwV 0 hts (gd_V q_605 q_607 q_20 q_33 q_608) rfl rfl rfl (by decide +kernel) ⟨Nat.le_of_ble_eq_true rfl, Nat.le_of_ble_eq_true rfl⟩) (kb_preV hN hK hP hD (va_recv hK hP (ci := 0) (q0 := 0) rfl rfl)) rfl rfl hl.1 rfl (lv_room (Nat.le_of_ble_eq_true rfl)) dD_giveCommands_22 ⟨Nat.zero_le _, Nat.zero_le _⟩) hP hD hS hA (fun H locs hP hD hS => ?_)
      exact kb_vret (wf := cw h) hx hb hr hlocks hK hP hD hS e.symm dD_giveCommands_25
  · have e := e.trans (if_neg c_1)
    refine lv_aload_n hx hb dD_giveCommands_7 rfl (lv_at hl 0 rfl) ?_
    refine kb_callv (wf := cw h) (u := F_D_commandInOperation w0) (va_runV (As := []) (rest := []) ⟨hx, hb, hml, hown, hts⟩ (c_D_commandInOperation l D h _ w0) (cwV 0 hts (gd_V q_589 q_591 q_16 q_33 q_592) rfl rfl rfl (by decide +kernel) ⟨Nat.le_of_ble_eq_true rfl, Nat.le_of_ble_eq_true rfl⟩) (kb_preV hN hK hP hD (va_recv hK hP (ci := 0) (q0 := 0) rfl rfl)) rfl rfl hl.1 rfl (lv_room (Nat.le_of_ble_eq_true rfl)) dD_giveCommands_8 ⟨Nat.zero_le _, Nat.zero_le _⟩) hP hD hS hA (fun H locs hP hD hS => ?_)
    refine lv_goto (tgt := 25) hx hb dD_giveCommands_11 (by decide) ?_
    exact kb_vret (wf := cw h) hx hb hr hlocks hK hP hD hS e.symm dD_giveCommands_25
/-- BoilerDesk.estimate()V -/
def K_D_estimate_56  (w : Nat → Int32)  : Nat → Int32 := (if (F_U_hasFailed w (1 : Int32)) = (0 : Int32) then (F_S_put_7 w (w 16) (w 16)) else (F_S_put_7 w (w 44) (w 45)))
def F_D_estimate (w0 : Nat → Int32)  : Nat → Int32 := (if (F_U_hasFailed w0 (0 : Int32)) = (0 : Int32) then K_D_estimate_56 (F_S_put_6 w0 (w0 14) (w0 14)) else K_D_estimate_56 (F_S_put_6 w0 (w0 42) (w0 43)))
set_option maxHeartbeats 4000000 in
set_option maxRecDepth 100000 in
theorem c_D_estimate (l : Launch) (D : va_G) (h : Nat → Nat) (sz : Nat) (w0 : Nat → Int32)   : Met l yD_estimate [.code yD_estimate cD_estimate 1 none] ({ frames := 2, cells := 0, slots := 0, locals := 42 }) (va_Pc [.ref (h 0)] (kb_B D [] (cw h) w0 sz)) (va_Qv (fun u' => u' = F_D_estimate w0) (kb_E D [] (cw h) (va_A (cw h w0) sz)) (va_A (cw h w0) sz)) 0 0 (va_A (cw h w0) sz) := by
  refine kb_of (cc := cD_estimate) (maxL := 1) (ret := none) (QcA := fun A => (va_Qv (fun u' => u' = F_D_estimate w0) (kb_E D [] (cw h) A) A)) (by decide) (Nat.le_of_ble_eq_true rfl) ?_
  intro p e s m below meth c A hx hb hr hlocks hml hown hts hA hN hK hP hD ls hl
  have hS : va_S A s.heap s.heap [] := va_S.rf
  have hl : lv_has ls 1 [(0, .ref (h 0))] := hl
  have k_56 : ∀ (w : Nat → Int32) (H : Heap) (locs : List Loc) (ls : Array Slot), F_D_estimate w0 = K_D_estimate_56 w → va_P D vwCl (cw h w) H → va_D A (cw h w) → va_S A s.heap H locs → lv_has ls 1 [(0, .ref (h 0))] → W p l e ({ frames := 2, cells := 0, slots := 0, locals := 42 }) s m [.ref (h 0)].toArray below meth c H locs 0 0 (MQ below (va_Qv (fun u' => u' = F_D_estimate w0) (kb_E D [] (cw h) A) A) [.ref (h 0)].toArray s 0 0 A) (F0 m 56 ls []) := by
      intro w H locs ls e hP hD hS hl
      refine lv_aload_n hx hb dD_estimate_56 rfl (lv_at hl 0 rfl) ?_
      refine va_get (D := D) (ci := 0) (v := .ref (h 3)) (C := "BoilerDesk") (T := TD) (N := 13) hx hb hts inD hown hK hP 0 rfl rfl 2 (by decide) (hts _ q_274) (fun _ h9 => h9) rfl dD_estimate_57 ?_
      refine lv_iconst (v := 1) hx hb dD_estimate_60 (by decide) ?_
      refine kb_calli (wf := cw h) (r := (F_U_hasFailed w (1 : Int32))) (u := w) (va_runV (As := [.int 1]) (rest := []) ⟨hx, hb, hml, hown, hts⟩ (c_U_hasFailed l D h _ w (1 : Int32)) (cwV 1 hts (gd_V q_476 q_477 q_478 q_36 q_479) rfl rfl rfl (by decide +kernel) ⟨Nat.le_of_ble_eq_true rfl, Nat.le_of_ble_eq_true rfl⟩) (kb_preV hN hK hP hD (va_recv hK hP (ci := 6) (q0 := 3) rfl rfl)) rfl rfl hl.1 rfl (lv_room (Nat.le_of_ble_eq_true rfl)) dD_estimate_61 ⟨Nat.zero_le _, Nat.zero_le _⟩) hP hD hS hA (fun H locs hP hD hS => ?_)
      refine lv_if_eq (tgt := 91) hx hb dD_estimate_64 (by decide) (fun c_1 => ?_) (fun c_1 => ?_)
      · have e := e.trans (if_pos c_1)
        refine lv_aload_n hx hb dD_estimate_91 rfl (lv_at hl 0 rfl) ?_
        refine va_get (D := D) (ci := 0) (v := .ref (h 7)) (C := "BoilerDesk") (T := TD) (N := 13) hx hb hts inD hown hK hP 0 rfl rfl 6 (by decide) (hts _ q_278) (fun _ h9 => h9) rfl dD_estimate_92 ?_
        refine lv_aload_n hx hb dD_estimate_95 rfl (lv_at hl 0 rfl) ?_
        refine va_get (D := D) (ci := 0) (v := .ref (h 2)) (C := "BoilerDesk") (T := TD) (N := 13) hx hb hts inD hown hK hP 0 rfl rfl 1 (by decide) (hts _ q_273) (fun _ h9 => h9) rfl dD_estimate_96 ?_
        refine va_get (D := D) (ci := 1) (v := .int (w 16)) (C := "BoilerDesk$Inbox") (T := TI) (N := 12) hx hb hts inI hown hK hP 2 rfl rfl 3 (by decide) (hts _ q_111) (fun _ h9 => h9) rfl dD_estimate_99 ?_
        refine lv_aload_n hx hb dD_estimate_102 rfl (lv_at hl 0 rfl) ?_
        refine va_get (D := D) (ci := 0) (v := .ref (h 2)) (C := "BoilerDesk") (T := TD) (N := 13) hx hb hts inD hown hK hP 0 rfl rfl 1 (by decide) (hts _ q_273) (fun _ h9 => h9) rfl dD_estimate_103 ?_
        refine va_get (D := D) (ci := 1) (v := .int (w 16)) (C := "BoilerDesk$Inbox") (T := TI) (N := 12) hx hb hts inI hown hK hP 2 rfl rfl 3 (by decide) (hts _ q_111) (fun _ h9 => h9) rfl dD_estimate_106 ?_
        refine kb_callv (wf := cw h) (u := F_S_put_7 w (w 16) (w 16)) (va_runV (As := [.int (w 16), .int (w 16)]) (rest := []) ⟨hx, hb, hml, hown, hts⟩ (c_S_put_7 l D h _ w (w 16) (w 16)) (cwV 2 hts (gd_V q_268 q_269 q_270 q_39 q_271) rfl rfl rfl (by decide +kernel) ⟨Nat.le_of_ble_eq_true rfl, Nat.le_of_ble_eq_true rfl⟩) (kb_preV hN hK hP hD (va_recv hK hP (ci := 5) (q0 := 7) rfl rfl)) rfl rfl hl.1 rfl (lv_room (Nat.le_of_ble_eq_true rfl)) dD_estimate_109 ⟨Nat.zero_le _, Nat.zero_le _⟩) hP hD hS hA (fun H locs hP hD hS => ?_)
        exact kb_vret (wf := cw h) hx hb hr hlocks hK hP hD hS e.symm dD_estimate_112
      · have e := e.trans (if_neg c_1)
        refine lv_aload_n hx hb dD_estimate_67 rfl (lv_at hl 0 rfl) ?_
        refine va_get (D := D) (ci := 0) (v := .ref (h 7)) (C := "BoilerDesk") (T := TD) (N := 13) hx hb hts inD hown hK hP 0 rfl rfl 6 (by decide) (hts _ q_278) (fun _ h9 => h9) rfl dD_estimate_68 ?_
        refine lv_aload_n hx hb dD_estimate_71 rfl (lv_at hl 0 rfl) ?_
        refine va_get (D := D) (ci := 0) (v := .ref (h 9)) (C := "BoilerDesk") (T := TD) (N := 13) hx hb hts inD hown hK hP 0 rfl rfl 8 (by decide) (hts _ q_280) (fun _ h9 => h9) rfl dD_estimate_72 ?_
        refine va_get (D := D) (ci := 5) (v := .int (w 44)) (C := "BoilerDesk$Span") (T := TS) (N := 2) hx hb hts inS hown hK hP 9 rfl rfl 0 (by decide) (hts _ q_232) (fun _ h9 => h9) rfl dD_estimate_75 ?_
        refine lv_aload_n hx hb dD_estimate_78 rfl (lv_at hl 0 rfl) ?_
        refine va_get (D := D) (ci := 0) (v := .ref (h 9)) (C := "BoilerDesk") (T := TD) (N := 13) hx hb hts inD hown hK hP 0 rfl rfl 8 (by decide) (hts _ q_280) (fun _ h9 => h9) rfl dD_estimate_79 ?_
        refine va_get (D := D) (ci := 5) (v := .int (w 45)) (C := "BoilerDesk$Span") (T := TS) (N := 2) hx hb hts inS hown hK hP 9 rfl rfl 1 (by decide) (hts _ q_234) (fun _ h9 => h9) rfl dD_estimate_82 ?_
        refine kb_callv (wf := cw h) (u := F_S_put_7 w (w 44) (w 45)) (va_runV (As := [.int (w 44), .int (w 45)]) (rest := []) ⟨hx, hb, hml, hown, hts⟩ (c_S_put_7 l D h _ w (w 44) (w 45)) (cwV 2 hts (gd_V q_268 q_269 q_270 q_39 q_271) rfl rfl rfl (by decide +kernel) ⟨Nat.le_of_ble_eq_true rfl, Nat.le_of_ble_eq_true rfl⟩) (kb_preV hN hK hP hD (va_recv hK hP (ci := 5) (q0 := 7) rfl rfl)) rfl rfl hl.1 rfl (lv_room (Nat.le_of_ble_eq_true rfl)) dD_estimate_85 ⟨Nat.zero_le _, Nat.zero_le _⟩) hP hD hS hA (fun H locs hP hD hS => ?_)
        refine lv_goto (tgt := 112) hx hb dD_estimate_88 (by decide) ?_
        exact kb_vret (wf := cw h) hx hb hr hlocks hK hP hD hS e.symm dD_estimate_112
  have e : F_D_estimate w0 = F_D_estimate w0 := rfl
  refine lv_aload_n hx hb dD_estimate_0 rfl (lv_at hl 0 rfl) ?_
  refine va_get (D := D) (ci := 0) (v := .ref (h 3)) (C := "BoilerDesk") (T := TD) (N := 13) hx hb hts inD hown hK hP 0 rfl rfl 2 (by decide) (hts _ q_274) (fun _ h9 => h9) rfl dD_estimate_1 ?_
  refine lv_iconst (v := 0) hx hb dD_estimate_4 (by decide) ?_
  refine kb_calli (wf := cw h) (r := (F_U_hasFailed w0 (0 : Int32))) (u := w0) (va_runV (As := [.int 0]) (rest := []) ⟨hx, hb, hml, hown, hts⟩ (c_U_hasFailed l D h _ w0 (0 : Int32)) (cwV 1 hts (gd_V q_476 q_477 q_478 q_36 q_479) rfl rfl rfl (by decide +kernel) ⟨Nat.le_of_ble_eq_true rfl, Nat.le_of_ble_eq_true rfl⟩) (kb_preV hN hK hP hD (va_recv hK hP (ci := 6) (q0 := 3) rfl rfl)) rfl rfl hl.1 rfl (lv_room (Nat.le_of_ble_eq_true rfl)) dD_estimate_5 ⟨Nat.zero_le _, Nat.zero_le _⟩) hP hD hS hA (fun H locs hP hD hS => ?_)
  refine lv_if_eq (tgt := 35) hx hb dD_estimate_8 (by decide) (fun c_2 => ?_) (fun c_2 => ?_)
  · have e := e.trans (if_pos c_2)
    refine lv_aload_n hx hb dD_estimate_35 rfl (lv_at hl 0 rfl) ?_
    refine va_get (D := D) (ci := 0) (v := .ref (h 6)) (C := "BoilerDesk") (T := TD) (N := 13) hx hb hts inD hown hK hP 0 rfl rfl 5 (by decide) (hts _ q_277) (fun _ h9 => h9) rfl dD_estimate_36 ?_
    refine lv_aload_n hx hb dD_estimate_39 rfl (lv_at hl 0 rfl) ?_
    refine va_get (D := D) (ci := 0) (v := .ref (h 2)) (C := "BoilerDesk") (T := TD) (N := 13) hx hb hts inD hown hK hP 0 rfl rfl 1 (by decide) (hts _ q_273) (fun _ h9 => h9) rfl dD_estimate_40 ?_
    refine va_get (D := D) (ci := 1) (v := .int (w0 14)) (C := "BoilerDesk$Inbox") (T := TI) (N := 12) hx hb hts inI hown hK hP 2 rfl rfl 1 (by decide) (hts _ q_107) (fun _ h9 => h9) rfl dD_estimate_43 ?_
    refine lv_aload_n hx hb dD_estimate_46 rfl (lv_at hl 0 rfl) ?_
    refine va_get (D := D) (ci := 0) (v := .ref (h 2)) (C := "BoilerDesk") (T := TD) (N := 13) hx hb hts inD hown hK hP 0 rfl rfl 1 (by decide) (hts _ q_273) (fun _ h9 => h9) rfl dD_estimate_47 ?_
    refine va_get (D := D) (ci := 1) (v := .int (w0 14)) (C := "BoilerDesk$Inbox") (T := TI) (N := 12) hx hb hts inI hown hK hP 2 rfl rfl 1 (by decide) (hts _ q_107) (fun _ h9 => h9) rfl dD_estimate_50 ?_
    refine kb_callv (wf := cw h) (u := F_S_put_6 w0 (w0 14) (w0 14)) (va_runV (As := [.int (w0 14), .int (w0 14)]) (rest := []) ⟨hx, hb, hml, hown, hts⟩ (c_S_put_6 l D h _ w0 (w0 14) (w0 14)) (cwV 2 hts (gd_V q_268 q_269 q_270 q_39 q_271) rfl rfl rfl (by decide +kernel) ⟨Nat.le_of_ble_eq_true rfl, Nat.le_of_ble_eq_true rfl⟩) (kb_preV hN hK hP hD (va_recv hK hP (ci := 5) (q0 := 6) rfl rfl)) rfl rfl hl.1 rfl (lv_room (Nat.le_of_ble_eq_true rfl)) dD_estimate_53 ⟨Nat.zero_le _, Nat.zero_le _⟩) hP hD hS hA (fun H locs hP hD hS => ?_)
    exact k_56 (F_S_put_6 w0 (w0 14) (w0 14)) _ _ _ e hP hD hS (lv_sub hl [0] rfl)
  · have e := e.trans (if_neg c_2)
    refine lv_aload_n hx hb dD_estimate_11 rfl (lv_at hl 0 rfl) ?_
    refine va_get (D := D) (ci := 0) (v := .ref (h 6)) (C := "BoilerDesk") (T := TD) (N := 13) hx hb hts inD hown hK hP 0 rfl rfl 5 (by decide) (hts _ q_277) (fun _ h9 => h9) rfl dD_estimate_12 ?_
    refine lv_aload_n hx hb dD_estimate_15 rfl (lv_at hl 0 rfl) ?_
    refine va_get (D := D) (ci := 0) (v := .ref (h 8)) (C := "BoilerDesk") (T := TD) (N := 13) hx hb hts inD hown hK hP 0 rfl rfl 7 (by decide) (hts _ q_279) (fun _ h9 => h9) rfl dD_estimate_16 ?_
    refine va_get (D := D) (ci := 5) (v := .int (w0 42)) (C := "BoilerDesk$Span") (T := TS) (N := 2) hx hb hts inS hown hK hP 8 rfl rfl 0 (by decide) (hts _ q_232) (fun _ h9 => h9) rfl dD_estimate_19 ?_
    refine lv_aload_n hx hb dD_estimate_22 rfl (lv_at hl 0 rfl) ?_
    refine va_get (D := D) (ci := 0) (v := .ref (h 8)) (C := "BoilerDesk") (T := TD) (N := 13) hx hb hts inD hown hK hP 0 rfl rfl 7 (by decide) (hts _ q_279) (fun _ h9 => h9) rfl dD_estimate_23 ?_
    refine va_get (D := D) (ci := 5) (v := .int (w0 43)) (C := "BoilerDesk$Span") (T := TS) (N := 2) hx hb hts inS hown hK hP 8 rfl rfl 1 (by decide) (hts _ q_234) (fun _ h9 => h9) rfl dD_estimate_26 ?_
    refine kb_callv (wf := cw h) (u := F_S_put_6 w0 (w0 42) (w0 43)) (va_runV (As := [.int (w0 42), .int (w0 43)]) (rest := []) ⟨hx, hb, hml, hown, hts⟩ (c_S_put_6 l D h _ w0 (w0 42) (w0 43)) (cwV 2 hts (gd_V q_268 q_269 q_270 q_39 q_271) rfl rfl rfl (by decide +kernel) ⟨Nat.le_of_ble_eq_true rfl, Nat.le_of_ble_eq_true rfl⟩) (kb_preV hN hK hP hD (va_recv hK hP (ci := 5) (q0 := 6) rfl rfl)) rfl rfl hl.1 rfl (lv_room (Nat.le_of_ble_eq_true rfl)) dD_estimate_29 ⟨Nat.zero_le _, Nat.zero_le _⟩) hP hD hS hA (fun H locs hP hD hS => ?_)
    refine lv_goto (tgt := 56) hx hb dD_estimate_32 (by decide) ?_
    exact k_56 (F_S_put_6 w0 (w0 42) (w0 43)) _ _ _ e hP hD hS (lv_sub hl [0] rfl)
