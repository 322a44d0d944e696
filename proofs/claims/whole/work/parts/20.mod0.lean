/-- BoilerDeskModel.in(III)Z -/
def F_X_in  (a0 : Int32) (a1 : Int32) (a2 : Int32) : Int32 := (if a0 < a1 then (0 : Int32) else (if a2 < a0 then (0 : Int32) else (1 : Int32)))
set_option maxHeartbeats 4000000 in
set_option maxRecDepth 100000 in
theorem c_X_in (l : Launch) (D : va_G) (sz : Nat)  (a0 : Int32) (a1 : Int32) (a2 : Int32)  : Met l yX_in [.code yX_in cX_in 3 (some .boolean)] ({ frames := 0, cells := 0, slots := 0, locals := 0 }) (va_Pc [.int a0, .int a1, .int a2] (kb_B D [] kb_nil () sz)) (va_Qi (fun r' u' => r' = F_X_in a0 a1 a2 ∧ u' = ()) (kb_E D [] kb_nil (va_A (kb_nil ()) sz)) (va_A (kb_nil ()) sz)) 0 0 (va_A (kb_nil ()) sz) := by
  refine kb_of (cc := cX_in) (maxL := 3) (ret := (some .boolean)) (QcA := fun A => (va_Qi (fun r' u' => r' = F_X_in a0 a1 a2 ∧ u' = ()) (kb_E D [] kb_nil A) A)) (by decide) (Nat.le_of_ble_eq_true rfl) ?_
  intro p e s m below meth c A hx hb hr hlocks hml hown hts hA hN hK hP hD ls hl
  have hS : va_S A s.heap s.heap [] := va_S.rf
  have hl : lv_has ls 3 [(0, .int a0), (1, .int a1), (2, .int a2)] := hl
  have e : F_X_in a0 a1 a2 = F_X_in a0 a1 a2 := rfl
  refine lv_iload_n hx hb dX_in_0 rfl (lv_at hl 0 rfl) ?_
  refine lv_iload_n hx hb dX_in_1 rfl (lv_at hl 1 rfl) ?_
  refine lv_icmp_lt (tgt := 14) hx hb dX_in_2 (by decide) (fun c_1 => ?_) (fun c_1 => ?_)
  · have e := e.trans (if_pos c_1)
    refine lv_iconst (v := 0) hx hb dX_in_14 (by decide) ?_
    exact kb_zret (wf := kb_nil) hx hb hr hlocks rfl hK hP hD hS ⟨e.symm, rfl⟩ dX_in_15
  · have e := e.trans (if_neg c_1)
    refine lv_iload_n hx hb dX_in_5 rfl (lv_at hl 0 rfl) ?_
    refine lv_iload_n hx hb dX_in_6 rfl (lv_at hl 2 rfl) ?_
    refine lv_icmp_gt (tgt := 14) hx hb dX_in_7 (by decide) (fun c_2 => ?_) (fun c_2 => ?_)
    · have e := e.trans (if_pos c_2)
      refine lv_iconst (v := 0) hx hb dX_in_14 (by decide) ?_
      exact kb_zret (wf := kb_nil) hx hb hr hlocks rfl hK hP hD hS ⟨e.symm, rfl⟩ dX_in_15
    · have e := e.trans (if_neg c_2)
      refine lv_iconst (v := 1) hx hb dX_in_10 (by decide) ?_
      refine lv_goto (tgt := 15) hx hb dX_in_11 (by decide) ?_
      exact kb_zret (wf := kb_nil) hx hb hr hlocks rfl hK hP hD hS ⟨e.symm, rfl⟩ dX_in_15
theorem z_X_in  (a0 : Int32) (a1 : Int32) (a2 : Int32) : F_X_in a0 a1 a2 = 0 ∨ F_X_in a0 a1 a2 = 1 := by
  unfold F_X_in
  repeat' split
  all_goals first | exact Or.inl rfl | exact Or.inr rfl
/-- BoilerDeskModel.quiet()V -/
def F_X_quiet (q0 : (Nat → Int32) × (Nat → Nat → Int32))  : (Nat → Int32) × (Nat → Nat → Int32) := ((up (up (up (up (up q0.1 17 0) 18 0) 19 0) 20 0) 21 0), q0.2)
set_option maxHeartbeats 4000000 in
set_option maxRecDepth 100000 in
theorem c_X_quiet (l : Launch) (D : va_G) (h : Nat → Nat) (cZ : ClassId) (sz : Nat) (q0 : (Nat → Int32) × (Nat → Nat → Int32))   : Met l yX_quiet [.code yX_quiet cX_quiet 1 none] ({ frames := 0, cells := 0, slots := 0, locals := 0 }) (va_Pc [.ref (h 0)] (kb_B D [(cZ, .boolean)] (mw h cZ) q0 sz)) (va_Qv (fun u' => u' = F_X_quiet q0) (kb_E D [(cZ, .boolean)] (mw h cZ) (va_A (mw h cZ q0) sz)) (va_A (mw h cZ q0) sz)) 0 0 (va_A (mw h cZ q0) sz) := by
  refine kb_of (cc := cX_quiet) (maxL := 1) (ret := none) (QcA := fun A => (va_Qv (fun u' => u' = F_X_quiet q0) (kb_E D [(cZ, .boolean)] (mw h cZ) A) A)) (by decide) (Nat.le_of_ble_eq_true rfl) ?_
  intro p e s m below meth c A hx hb hr hlocks hml hown hts hA hN hK hP hD ls hl
  have hS : va_S A s.heap s.heap [] := va_S.rf
  have hl : lv_has ls 1 [(0, .ref (h 0))] := hl
  have e : F_X_quiet q0 = F_X_quiet q0 := rfl
  refine lv_aload_n hx hb dX_quiet_0 rfl (lv_at hl 0 rfl) ?_
  refine lv_iconst (v := 0) hx hb dX_quiet_1 (by decide) ?_
  refine kb_put (D := D) (wf := mw h cZ) (w' := ((up q0.1 17 0), q0.2)) (ci := 7) (v := .int 0) (ty := .int) (C := "BoilerDeskModel") (T := TX) (N := 43) hx hb hts inX tyX tyX_ok nmX hown hK hP hD hS 0 rfl rfl 17 (by decide) (hts _ q_660) (fun _ h9 => h9) rfl (by decide +kernel) rfl rfl (Nat.le_of_ble_eq_true rfl) dX_quiet_2 rfl (fun H locs hP hD hS => ?_)
  refine lv_aload_n hx hb dX_quiet_5 rfl (lv_at hl 0 rfl) ?_
  refine lv_iconst (v := 0) hx hb dX_quiet_6 (by decide) ?_
  refine kb_put (D := D) (wf := mw h cZ) (w' := ((up (up q0.1 17 0) 18 0), q0.2)) (ci := 7) (v := .int 0) (ty := .int) (C := "BoilerDeskModel") (T := TX) (N := 43) hx hb hts inX tyX tyX_ok nmX hown hK hP hD hS 0 rfl rfl 18 (by decide) (hts _ q_661) (fun _ h9 => h9) rfl (by decide +kernel) rfl rfl (Nat.le_of_ble_eq_true rfl) dX_quiet_7 rfl (fun H locs hP hD hS => ?_)
  refine lv_aload_n hx hb dX_quiet_10 rfl (lv_at hl 0 rfl) ?_
  refine lv_iconst (v := 0) hx hb dX_quiet_11 (by decide) ?_
  refine kb_put (D := D) (wf := mw h cZ) (w' := ((up (up (up q0.1 17 0) 18 0) 19 0), q0.2)) (ci := 7) (v := .int 0) (ty := .int) (C := "BoilerDeskModel") (T := TX) (N := 43) hx hb hts inX tyX tyX_ok nmX hown hK hP hD hS 0 rfl rfl 19 (by decide) (hts _ q_662) (fun _ h9 => h9) rfl (by decide +kernel) rfl rfl (Nat.le_of_ble_eq_true rfl) dX_quiet_12 rfl (fun H locs hP hD hS => ?_)
  refine lv_aload_n hx hb dX_quiet_15 rfl (lv_at hl 0 rfl) ?_
  refine lv_iconst (v := 0) hx hb dX_quiet_16 (by decide) ?_
  refine kb_put (D := D) (wf := mw h cZ) (w' := ((up (up (up (up q0.1 17 0) 18 0) 19 0) 20 0), q0.2)) (ci := 7) (v := .int 0) (ty := .int) (C := "BoilerDeskModel") (T := TX) (N := 43) hx hb hts inX tyX tyX_ok nmX hown hK hP hD hS 0 rfl rfl 20 (by decide) (hts _ q_663) (fun _ h9 => h9) rfl (by decide +kernel) rfl rfl (Nat.le_of_ble_eq_true rfl) dX_quiet_17 rfl (fun H locs hP hD hS => ?_)
  refine lv_aload_n hx hb dX_quiet_20 rfl (lv_at hl 0 rfl) ?_
  refine lv_iconst (v := 0) hx hb dX_quiet_21 (by decide) ?_
  refine kb_put (D := D) (wf := mw h cZ) (w' := ((up (up (up (up (up q0.1 17 0) 18 0) 19 0) 20 0) 21 0), q0.2)) (ci := 7) (v := .int 0) (ty := .int) (C := "BoilerDeskModel") (T := TX) (N := 43) hx hb hts inX tyX tyX_ok nmX hown hK hP hD hS 0 rfl rfl 21 (by decide) (hts _ q_664) (fun _ h9 => h9) rfl (by decide +kernel) rfl rfl (Nat.le_of_ble_eq_true rfl) dX_quiet_22 rfl (fun H locs hP hD hS => ?_)
  exact kb_vret (wf := mw h cZ) hx hb hr hlocks hK hP hD hS e.symm dX_quiet_25
/-- BoilerDeskModel.forget()V -/
def K_X_forget_47  : Nat → Nat → ((Nat → Int32) × (Nat → Nat → Int32)) → ((Nat → Int32) × (Nat → Nat → Int32))
  | 0, _, q => q
  | n + 1, i, q => K_X_forget_47 n (i + 1) (q.1, (ub (ub q.2 9 (upd (q.2 9) ((nI i)).toNatClampNeg (vp_nar .boolean 0))) 10 (upd (q.2 10) ((nI i)).toNatClampNeg (vp_nar .boolean 0))))
def K_X_forget_27  : Nat → Nat → ((Nat → Int32) × (Nat → Nat → Int32)) → ((Nat → Int32) × (Nat → Nat → Int32))
  | 0, _, q => K_X_forget_47 10 0 q
  | n + 1, i, q => K_X_forget_27 n (i + 1) (q.1, (ub q.2 6 (upd (q.2 6) ((nI i)).toNatClampNeg (vp_nar .boolean 0))))
def F_X_forget (q0 : (Nat → Int32) × (Nat → Nat → Int32))  : (Nat → Int32) × (Nat → Nat → Int32) := K_X_forget_27 4 0 ((up (up (up (up (up q0.1 26 0) 27 0) 28 0) 29 0) 30 0), q0.2)
set_option maxHeartbeats 4000000 in
set_option maxRecDepth 100000 in
theorem c_X_forget (l : Launch) (D : va_G) (h : Nat → Nat) (cZ : ClassId) (sz : Nat) (q0 : (Nat → Int32) × (Nat → Nat → Int32))   : Met l yX_forget [.code yX_forget cX_forget 2 none] ({ frames := 0, cells := 0, slots := 0, locals := 0 }) (va_Pc [.ref (h 0)] (kb_B D [(cZ, .boolean)] (mw h cZ) q0 sz)) (va_Qv (fun u' => u' = F_X_forget q0) (kb_E D [(cZ, .boolean)] (mw h cZ) (va_A (mw h cZ q0) sz)) (va_A (mw h cZ q0) sz)) 0 0 (va_A (mw h cZ q0) sz) := by
  refine kb_of (cc := cX_forget) (maxL := 2) (ret := none) (QcA := fun A => (va_Qv (fun u' => u' = F_X_forget q0) (kb_E D [(cZ, .boolean)] (mw h cZ) A) A)) (by decide) (Nat.le_of_ble_eq_true rfl) ?_
  intro p e s m below meth c A hx hb hr hlocks hml hown hts hA hN hK hP hD ls hl
  have hS : va_S A s.heap s.heap [] := va_S.rf
  have hl : lv_has ls 2 [(0, .ref (h 0))] := hl
  have k_47 : ∀ (n i : Nat) (q : (Nat → Int32) × (Nat → Nat → Int32)) (H : Heap) (locs : List Loc) (ls : Array Slot), i + n = 10 → F_X_forget q0 = K_X_forget_47 n i q → va_P D vwCl (mw h cZ q) H → va_D A (mw h cZ q) → va_S A s.heap H locs → lv_has ls 2 [(0, .ref (h 0)), (1, .int (nI i))] → W p l e ({ frames := 0, cells := 0, slots := 0, locals := 0 }) s m [.ref (h 0)].toArray below meth c H locs 0 0 (MQ below (va_Qv (fun u' => u' = F_X_forget q0) (kb_E D [(cZ, .boolean)] (mw h cZ) A) A) [.ref (h 0)].toArray s 0 0 A) (F0 m 47 ls []) := by
    intro n
    induction n with
    | zero =>
      intro i q H locs ls hin e hP hD hS hl
      obtain rfl : i = 10 := by omega
      refine lv_iload_n hx hb dX_forget_47 rfl (lv_at hl 1 rfl) ?_
      refine lv_bipush (v := 10) hx hb dX_forget_48 (by decide) ?_
      refine lv_icmp_ge (tgt := 73) hx hb dX_forget_50 (by decide) (fun _ => ?_) (fun c9 => absurd (by decide) c9)
      exact kb_vret (wf := mw h cZ) hx hb hr hlocks hK hP hD hS e.symm dX_forget_73
    | succ n ih =>
      intro i q H locs ls hin e hP hD hS hl
      refine lv_iload_n hx hb dX_forget_47 rfl (lv_at hl 1 rfl) ?_
      refine lv_bipush (v := 10) hx hb dX_forget_48 (by decide) ?_
      refine lv_icmp_ge (tgt := 73) hx hb dX_forget_50 (by decide) (fun c9 => absurd c9 (nI_ge (b := 10) (by omega) (by decide))) (fun _ => ?_)
      refine lv_aload_n hx hb dX_forget_53 rfl (lv_at hl 0 rfl) ?_
      refine va_get (D := D) (ci := 7) (v := .ref (h 10)) (C := "BoilerDeskModel") (T := TX) (N := 43) hx hb hts inX hown hK hP 0 rfl rfl 40 (by decide) (hts _ q_683) (fun _ h9 => h9) rfl dX_forget_54 ?_
      refine lv_iload_n hx hb dX_forget_57 rfl (lv_at hl 1 rfl) ?_
      refine lv_iconst (v := 0) hx hb dX_forget_58 (by decide) ?_
      refine kb_zast (D := D) (wf := mw h cZ) (w' := (q.1, (ub q.2 9 (upd (q.2 9) ((nI i)).toNatClampNeg (vp_nar .boolean 0))))) hx hb hK hP hD hS 10 0 rfl rfl (vp_in_nI (by omega) (by decide)) dX_forget_59 rfl (fun H locs hP hD hS => ?_)
      refine lv_aload_n hx hb dX_forget_60 rfl (lv_at hl 0 rfl) ?_
      refine va_get (D := D) (ci := 7) (v := .ref (h 11)) (C := "BoilerDeskModel") (T := TX) (N := 43) hx hb hts inX hown hK hP 0 rfl rfl 41 (by decide) (hts _ q_684) (fun _ h9 => h9) rfl dX_forget_61 ?_
      refine lv_iload_n hx hb dX_forget_64 rfl (lv_at hl 1 rfl) ?_
      refine lv_iconst (v := 0) hx hb dX_forget_65 (by decide) ?_
      refine kb_zast (D := D) (wf := mw h cZ) (w' := (q.1, (ub (ub q.2 9 (upd (q.2 9) ((nI i)).toNatClampNeg (vp_nar .boolean 0))) 10 (upd (q.2 10) ((nI i)).toNatClampNeg (vp_nar .boolean 0))))) hx hb hK hP hD hS 11 0 rfl rfl (vp_in_nI (by omega) (by decide)) dX_forget_66 rfl (fun H locs hP hD hS => ?_)
      refine lv_iinc (v := (nI (i + 1))) (lv' := [(1, .int (nI (i + 1))), (0, .ref (h 0))]) hx hb dX_forget_67 hl (k := 1) rfl (nI_1 i) (by decide) rfl (fun ls hl => ?_)
      refine lv_goto (tgt := 47) hx hb dX_forget_70 (by decide) ?_
      exact ih (i + 1) (q.1, (ub (ub q.2 9 (upd (q.2 9) ((nI i)).toNatClampNeg (vp_nar .boolean 0))) 10 (upd (q.2 10) ((nI i)).toNatClampNeg (vp_nar .boolean 0)))) _ _ _ (by omega) e hP hD hS (lv_sub hl [1, 0] rfl)
  have k_27 : ∀ (n i : Nat) (q : (Nat → Int32) × (Nat → Nat → Int32)) (H : Heap) (locs : List Loc) (ls : Array Slot), i + n = 4 → F_X_forget q0 = K_X_forget_27 n i q → va_P D vwCl (mw h cZ q) H → va_D A (mw h cZ q) → va_S A s.heap H locs → lv_has ls 2 [(0, .ref (h 0)), (1, .int (nI i))] → W p l e ({ frames := 0, cells := 0, slots := 0, locals := 0 }) s m [.ref (h 0)].toArray below meth c H locs 0 0 (MQ below (va_Qv (fun u' => u' = F_X_forget q0) (kb_E D [(cZ, .boolean)] (mw h cZ) A) A) [.ref (h 0)].toArray s 0 0 A) (F0 m 27 ls []) := by
    intro n
    induction n with
    | zero =>
      intro i q H locs ls hin e hP hD hS hl
      obtain rfl : i = 4 := by omega
      refine lv_iload_n hx hb dX_forget_27 rfl (lv_at hl 1 rfl) ?_
      refine lv_iconst (v := 4) hx hb dX_forget_28 (by decide) ?_
      refine lv_icmp_ge (tgt := 45) hx hb dX_forget_29 (by decide) (fun _ => ?_) (fun c9 => absurd (by decide) c9)
      refine lv_iconst (v := 0) hx hb dX_forget_45 (by decide) ?_
      refine lv_istore_n (lv' := [(1, .int 0), (0, .ref (h 0))]) hx hb dX_forget_46 rfl hl (by decide) rfl (fun ls hl => ?_)
      exact k_47 10 0 q _ _ _ (by omega) e hP hD hS (lv_sub hl [1, 0] rfl)
    | succ n ih =>
      intro i q H locs ls hin e hP hD hS hl
      refine lv_iload_n hx hb dX_forget_27 rfl (lv_at hl 1 rfl) ?_
      refine lv_iconst (v := 4) hx hb dX_forget_28 (by decide) ?_
      refine lv_icmp_ge (tgt := 45) hx hb dX_forget_29 (by decide) (fun c9 => absurd c9 (nI_ge (b := 4) (by omega) (by decide))) (fun _ => ?_)
      refine lv_aload_n hx hb dX_forget_32 rfl (lv_at hl 0 rfl) ?_
      refine va_get (D := D) (ci := 7) (v := .ref (h 7)) (C := "BoilerDeskModel") (T := TX) (N := 43) hx hb hts inX hown hK hP 0 rfl rfl 37 (by decide) (hts _ q_680) (fun _ h9 => h9) rfl dX_forget_33 ?_
      refine lv_iload_n hx hb dX_forget_36 rfl (lv_at hl 1 rfl) ?_
      refine lv_iconst (v := 0) hx hb dX_forget_37 (by decide) ?_
      refine kb_zast (D := D) (wf := mw h cZ) (w' := (q.1, (ub q.2 6 (upd (q.2 6) ((nI i)).toNatClampNeg (vp_nar .boolean 0))))) hx hb hK hP hD hS 7 0 rfl rfl (vp_in_nI (by omega) (by decide)) dX_forget_38 rfl (fun H locs hP hD hS => ?_)
      refine lv_iinc (v := (nI (i + 1))) (lv' := [(1, .int (nI (i + 1))), (0, .ref (h 0))]) hx hb dX_forget_39 hl (k := 1) rfl (nI_1 i) (by decide) rfl (fun ls hl => ?_)
      refine lv_goto (tgt := 27) hx hb dX_forget_42 (by decide) ?_
      exact ih (i + 1) (q.1, (ub q.2 6 (upd (q.2 6) ((nI i)).toNatClampNeg (vp_nar .boolean 0)))) _ _ _ (by omega) e hP hD hS (lv_sub hl [1, 0] rfl)
  have e : F_X_forget q0 = F_X_forget q0 := rfl
  refine lv_aload_n hx hb dX_forget_0 rfl (lv_at hl 0 rfl) ?_
  refine lv_iconst (v := 0) hx hb dX_forget_1 (by decide) ?_
  refine kb_put (D := D) (wf := mw h cZ) (w' := ((up q0.1 26 0), q0.2)) (ci := 7) (v := .int 0) (ty := .boolean) (C := "BoilerDeskModel") (T := TX) (N := 43) hx hb hts inX tyX tyX_ok nmX hown hK hP hD hS 0 rfl rfl 32 (by decide) (hts _ q_675) (fun _ h9 => h9) rfl (by decide +kernel) rfl rfl (Nat.le_of_ble_eq_true rfl) dX_forget_2 rfl (fun H locs hP hD hS => ?_)
  refine lv_aload_n hx hb dX_forget_5 rfl (lv_at hl 0 rfl) ?_
  refine lv_iconst (v := 0) hx hb dX_forget_6 (by decide) ?_
  refine kb_put (D := D) (wf := mw h cZ) (w' := ((up (up q0.1 26 0) 27 0), q0.2)) (ci := 7) (v := .int 0) (ty := .boolean) (C := "BoilerDeskModel") (T := TX) (N := 43) hx hb hts inX tyX tyX_ok nmX hown hK hP hD hS 0 rfl rfl 33 (by decide) (hts _ q_676) (fun _ h9 => h9) rfl (by decide +kernel) rfl rfl (Nat.le_of_ble_eq_true rfl) dX_forget_7 rfl (fun H locs hP hD hS => ?_)
  refine lv_aload_n hx hb dX_forget_10 rfl (lv_at hl 0 rfl) ?_
  refine lv_iconst (v := 0) hx hb dX_forget_11 (by decide) ?_
  refine kb_put (D := D) (wf := mw h cZ) (w' := ((up (up (up q0.1 26 0) 27 0) 28 0), q0.2)) (ci := 7) (v := .int 0) (ty := .boolean) (C := "BoilerDeskModel") (T := TX) (N := 43) hx hb hts inX tyX tyX_ok nmX hown hK hP hD hS 0 rfl rfl 34 (by decide) (hts _ q_677) (fun _ h9 => h9) rfl (by decide +kernel) rfl rfl (Nat.le_of_ble_eq_true rfl) dX_forget_12 rfl (fun H locs hP hD hS => ?_)
  refine lv_aload_n hx hb dX_forget_15 rfl (lv_at hl 0 rfl) ?_
  refine lv_iconst (v := 0) hx hb dX_forget_16 (by decide) ?_
  refine kb_put (D := D) (wf := mw h cZ) (w' := ((up (up (up (up q0.1 26 0) 27 0) 28 0) 29 0), q0.2)) (ci := 7) (v := .int 0) (ty := .boolean) (C := "BoilerDeskModel") (T := TX) (N := 43) hx hb hts inX tyX tyX_ok nmX hown hK hP hD hS 0 rfl rfl 35 (by decide) (hts _ q_678) (fun _ h9 => h9) rfl (by decide +kernel) rfl rfl (Nat.le_of_ble_eq_true rfl) dX_forget_17 rfl (fun H locs hP hD hS => ?_)
  refine lv_aload_n hx hb dX_forget_20 rfl (lv_at hl 0 rfl) ?_
  refine lv_iconst (v := 0) hx hb dX_forget_21 (by decide) ?_
  refine kb_put (D := D) (wf := mw h cZ) (w' := ((up (up (up (up (up q0.1 26 0) 27 0) 28 0) 29 0) 30 0), q0.2)) (ci := 7) (v := .int 0) (ty := .boolean) (C := "BoilerDeskModel") (T := TX) (N := 43) hx hb hts inX tyX tyX_ok nmX hown hK hP hD hS 0 rfl rfl 36 (by decide) (hts _ q_679) (fun _ h9 => h9) rfl (by decide +kernel) rfl rfl (Nat.le_of_ble_eq_true rfl) dX_forget_22 rfl (fun H locs hP hD hS => ?_)
  refine lv_iconst (v := 0) hx hb dX_forget_25 (by decide) ?_
  refine lv_istore_n (lv' := [(1, .int 0), (0, .ref (h 0))]) hx hb dX_forget_26 rfl hl (by decide) rfl (fun ls hl => ?_)
  exact k_27 4 0 ((up (up (up (up (up q0.1 26 0) 27 0) 28 0) 29 0) 30 0), q0.2) _ _ _ (by omega) e hP hD hS (lv_sub hl [1, 0] rfl)
/-- BoilerDeskModel.fails(ZI)Z -/
def F_X_fails (q0 : (Nat → Int32) × (Nat → Nat → Int32)) (a1 : Int32) (a2 : Int32) : Int32 × ((Nat → Int32) × (Nat → Nat → Int32)) := (if a1 = (0 : Int32) then (if (q0.1 0) = (0 : Int32) then (0, q0) else (1, q0)) else (if (q0.1 0) = (0 : Int32) then (if a2 = (0 : Int32) then (0, ((up q0.1 0 a2), q0.2)) else (1, ((up q0.1 0 a2), q0.2))) else (1, q0)))
set_option maxHeartbeats 4000000 in
set_option maxRecDepth 100000 in
theorem c_X_fails (l : Launch) (D : va_G) (h : Nat → Nat) (cZ : ClassId) (sz : Nat) (q0 : (Nat → Int32) × (Nat → Nat → Int32)) (a1 : Int32) (a2 : Int32) (z1 : a1 = 0 ∨ a1 = 1) : Met l yX_fails [.code yX_fails cX_fails 3 (some .boolean)] ({ frames := 0, cells := 0, slots := 0, locals := 0 }) (va_Pc [.ref (h 0), .int a1, .int a2] (kb_B D [(cZ, .boolean)] (mw h cZ) q0 sz)) (va_Qi (fun r' u' => r' = (F_X_fails q0 a1 a2).1 ∧ u' = (F_X_fails q0 a1 a2).2) (kb_E D [(cZ, .boolean)] (mw h cZ) (va_A (mw h cZ q0) sz)) (va_A (mw h cZ q0) sz)) 0 0 (va_A (mw h cZ q0) sz) := by
  refine kb_of (cc := cX_fails) (maxL := 3) (ret := (some .boolean)) (QcA := fun A => (va_Qi (fun r' u' => r' = (F_X_fails q0 a1 a2).1 ∧ u' = (F_X_fails q0 a1 a2).2) (kb_E D [(cZ, .boolean)] (mw h cZ) A) A)) (by decide) (Nat.le_of_ble_eq_true rfl) ?_
  intro p e s m below meth c A hx hb hr hlocks hml hown hts hA hN hK hP hD ls hl
  have hS : va_S A s.heap s.heap [] := va_S.rf
  have hl : lv_has ls 3 [(0, .ref (h 0)), (1, .int a1), (2, .int a2)] := hl
  have e : F_X_fails q0 a1 a2 = F_X_fails q0 a1 a2 := rfl
  refine lv_iload_n hx hb dX_fails_0 rfl (lv_at hl 1 rfl) ?_
  refine lv_if_eq (tgt := 16) hx hb dX_fails_1 (by decide) (fun c_1 => ?_) (fun c_1 => ?_)
  · have e := e.trans (if_pos c_1)
    refine lv_aload_n hx hb dX_fails_16 rfl (lv_at hl 0 rfl) ?_
    refine va_get (D := D) (ci := 7) (v := .int (q0.1 0)) (C := "BoilerDeskModel") (T := TX) (N := 43) hx hb hts inX hown hK hP 0 rfl rfl 0 (by decide) (hts _ q_643) (fun _ h9 => h9) rfl dX_fails_17 ?_
    refine lv_if_eq (tgt := 27) hx hb dX_fails_20 (by decide) (fun c_2 => ?_) (fun c_2 => ?_)
    · have e := e.trans (if_pos c_2)
      refine lv_iconst (v := 0) hx hb dX_fails_27 (by decide) ?_
      exact kb_zret (wf := mw h cZ) hx hb hr hlocks rfl hK hP hD hS ⟨(congrArg Prod.fst e).symm, (congrArg Prod.snd e).symm⟩ dX_fails_28
    · have e := e.trans (if_neg c_2)
      refine lv_iconst (v := 1) hx hb dX_fails_23 (by decide) ?_
      refine lv_goto (tgt := 28) hx hb dX_fails_24 (by decide) ?_
      exact kb_zret (wf := mw h cZ) hx hb hr hlocks rfl hK hP hD hS ⟨(congrArg Prod.fst e).symm, (congrArg Prod.snd e).symm⟩ dX_fails_28
  · have e := e.trans (if_neg c_1)
    refine lv_aload_n hx hb dX_fails_4 rfl (lv_at hl 0 rfl) ?_
    refine va_get (D := D) (ci := 7) (v := .int (q0.1 0)) (C := "BoilerDeskModel") (T := TX) (N := 43) hx hb hts inX hown hK hP 0 rfl rfl 0 (by decide) (hts _ q_643) (fun _ h9 => h9) rfl dX_fails_5 ?_
    refine lv_if_ne (tgt := 16) hx hb dX_fails_8 (by decide) (fun c_3 => ?_) (fun c_3 => ?_)
    · have e := e.trans (if_neg c_3)
      refine lv_aload_n hx hb dX_fails_16 rfl (lv_at hl 0 rfl) ?_
      refine va_get (D := D) (ci := 7) (v := .int (q0.1 0)) (C := "BoilerDeskModel") (T := TX) (N := 43) hx hb hts inX hown hK hP 0 rfl rfl 0 (by decide) (hts _ q_643) (fun _ h9 => h9) rfl dX_fails_17 ?_
      refine lv_if_eq (tgt := 27) hx hb dX_fails_20 (by decide) (fun c9 => absurd c9 c_3) (fun _ => ?_)
      refine lv_iconst (v := 1) hx hb dX_fails_23 (by decide) ?_
      refine lv_goto (tgt := 28) hx hb dX_fails_24 (by decide) ?_
      exact kb_zret (wf := mw h cZ) hx hb hr hlocks rfl hK hP hD hS ⟨(congrArg Prod.fst e).symm, (congrArg Prod.snd e).symm⟩ dX_fails_28
    · have e := e.trans (if_pos c_3)
      refine lv_aload_n hx hb dX_fails_11 rfl (lv_at hl 0 rfl) ?_
      refine lv_iload_n hx hb dX_fails_12 rfl (lv_at hl 2 rfl) ?_
      refine kb_put (D := D) (wf := mw h cZ) (w' := ((up q0.1 0 a2), q0.2)) (ci := 7) (v := .int a2) (ty := .int) (C := "BoilerDeskModel") (T := TX) (N := 43) hx hb hts inX tyX tyX_ok nmX hown hK hP hD hS 0 rfl rfl 0 (by decide) (hts _ q_643) (fun _ h9 => h9) rfl (by decide +kernel) rfl rfl (Nat.le_of_ble_eq_true rfl) dX_fails_13 rfl (fun H locs hP hD hS => ?_)
      refine lv_aload_n hx hb dX_fails_16 rfl (lv_at hl 0 rfl) ?_
      refine va_get (D := D) (ci := 7) (v := .int a2) (C := "BoilerDeskModel") (T := TX) (N := 43) hx hb hts inX hown hK hP 0 rfl rfl 0 (by decide) (hts _ q_643) (fun _ h9 => h9) rfl dX_fails_17 ?_
      refine lv_if_eq (tgt := 27) hx hb dX_fails_20 (by decide) (fun c_4 => ?_) (fun c_4 => ?_)
      · have e := e.trans (if_pos c_4)
        refine lv_iconst (v := 0) hx hb dX_fails_27 (by decide) ?_
        exact kb_zret (wf := mw h cZ) hx hb hr hlocks rfl hK hP hD hS ⟨(congrArg Prod.fst e).symm, (congrArg Prod.snd e).symm⟩ dX_fails_28
      · have e := e.trans (if_neg c_4)
        refine lv_iconst (v := 1) hx hb dX_fails_23 (by decide) ?_
        refine lv_goto (tgt := 28) hx hb dX_fails_24 (by decide) ?_
        exact kb_zret (wf := mw h cZ) hx hb hr hlocks rfl hK hP hD hS ⟨(congrArg Prod.fst e).symm, (congrArg Prod.snd e).symm⟩ dX_fails_28
/-- BoilerDeskModel.thrown()I -/
def F_X_thrown (q0 : (Nat → Int32) × (Nat → Nat → Int32))  : Int32 := (q0.1 0)
set_option maxHeartbeats 4000000 in
set_option maxRecDepth 100000 in
theorem c_X_thrown (l : Launch) (D : va_G) (h : Nat → Nat) (cZ : ClassId) (sz : Nat) (q0 : (Nat → Int32) × (Nat → Nat → Int32))   : Met l yX_thrown [.code yX_thrown cX_thrown 1 (some .int)] ({ frames := 0, cells := 0, slots := 0, locals := 0 }) (va_Pc [.ref (h 0)] (kb_B D [(cZ, .boolean)] (mw h cZ) q0 sz)) (va_Qi (fun r' u' => r' = F_X_thrown q0 ∧ u' = q0) (kb_E D [(cZ, .boolean)] (mw h cZ) (va_A (mw h cZ q0) sz)) (va_A (mw h cZ q0) sz)) 0 0 (va_A (mw h cZ q0) sz) := by
  refine kb_of (cc := cX_thrown) (maxL := 1) (ret := (some .int)) (QcA := fun A => (va_Qi (fun r' u' => r' = F_X_thrown q0 ∧ u' = q0) (kb_E D [(cZ, .boolean)] (mw h cZ) A) A)) (by decide) (Nat.le_of_ble_eq_true rfl) ?_
  intro p e s m below meth c A hx hb hr hlocks hml hown hts hA hN hK hP hD ls hl
  have hS : va_S A s.heap s.heap [] := va_S.rf
  have hl : lv_has ls 1 [(0, .ref (h 0))] := hl
  have e : F_X_thrown q0 = F_X_thrown q0 := rfl
  refine lv_aload_n hx hb dX_thrown_0 rfl (lv_at hl 0 rfl) ?_
  refine va_get (D := D) (ci := 7) (v := .int (q0.1 0)) (C := "BoilerDeskModel") (T := TX) (N := 43) hx hb hts inX hown hK hP 0 rfl rfl 0 (by decide) (hts _ q_643) (fun _ h9 => h9) rfl dX_thrown_1 ?_
  exact kb_iret (wf := mw h cZ) hx hb hr hlocks hK hP hD hS ⟨e.symm, rfl⟩ dX_thrown_4
/-- BoilerDeskModel.anew(IIIIIIIII)V -/
def K_X_anew_137 (a1 : Int32) (a2 : Int32) (a3 : Int32) (a4 : Int32) (a5 : Int32) (a6 : Int32) (a7 : Int32) (a8 : Int32) (a9 : Int32) : Nat → Nat → ((Nat → Int32) × (Nat → Nat → Int32)) → ((Nat → Int32) × (Nat → Nat → Int32))
  | 0, _, q => (F_X_quiet (F_X_forget q))
  | n + 1, i, q => K_X_anew_137 a1 a2 a3 a4 a5 a6 a7 a8 a9 n (i + 1) (q.1, (ub (ub (ub q.2 3 (upd (q.2 3) ((nI i)).toNatClampNeg (vp_nar .boolean 0))) 4 (upd (q.2 4) ((nI i)).toNatClampNeg (vp_nar .boolean 0))) 5 (upd (q.2 5) ((nI i)).toNatClampNeg (vp_nar .boolean 0))))
def K_X_anew_105 (a1 : Int32) (a2 : Int32) (a3 : Int32) (a4 : Int32) (a5 : Int32) (a6 : Int32) (a7 : Int32) (a8 : Int32) (a9 : Int32) : Nat → Nat → ((Nat → Int32) × (Nat → Nat → Int32)) → ((Nat → Int32) × (Nat → Nat → Int32))
  | 0, _, q => K_X_anew_137 a1 a2 a3 a4 a5 a6 a7 a8 a9 4 0 q
  | n + 1, i, q => K_X_anew_105 a1 a2 a3 a4 a5 a6 a7 a8 a9 n (i + 1) (q.1, (ub (ub q.2 0 (upd (q.2 0) ((nI i)).toNatClampNeg (vp_nar .boolean 0))) 1 (upd (q.2 1) ((nI i)).toNatClampNeg (vp_nar .boolean 0))))
def F_X_anew (q0 : (Nat → Int32) × (Nat → Nat → Int32)) (a1 : Int32) (a2 : Int32) (a3 : Int32) (a4 : Int32) (a5 : Int32) (a6 : Int32) (a7 : Int32) (a8 : Int32) (a9 : Int32) : (Nat → Int32) × (Nat → Nat → Int32) := K_X_anew_105 a1 a2 a3 a4 a5 a6 a7 a8 a9 10 0 ((up (up (up (up (up (up (up (up (up (up (up (up (up (up (up (up (up (up q0.1 1 a1) 2 a2) 3 a3) 4 a4) 5 a5) 6 a6) 7 a7) 8 a8) 9 a9) 10 0) 11 0) 12 0) 13 a1) 14 0) 15 a6) 16 0) 22 0) 23 0), q0.2)
set_option maxHeartbeats 4000000 in
set_option maxRecDepth 100000 in
theorem c_X_anew (l : Launch) (D : va_G) (h : Nat → Nat) (cZ : ClassId) (sz : Nat) (q0 : (Nat → Int32) × (Nat → Nat → Int32)) (a1 : Int32) (a2 : Int32) (a3 : Int32) (a4 : Int32) (a5 : Int32) (a6 : Int32) (a7 : Int32) (a8 : Int32) (a9 : Int32)  : Met l yX_anew [.code yX_anew cX_anew 11 none] ({ frames := 1, cells := 0, slots := 0, locals := 21 }) (va_Pc [.ref (h 0), .int a1, .int a2, .int a3, .int a4, .int a5, .int a6, .int a7, .int a8, .int a9] (kb_B D [(cZ, .boolean)] (mw h cZ) q0 sz)) (va_Qv (fun u' => u' = F_X_anew q0 a1 a2 a3 a4 a5 a6 a7 a8 a9) (kb_E D [(cZ, .boolean)] (mw h cZ) (va_A (mw h cZ q0) sz)) (va_A (mw h cZ q0) sz)) 0 0 (va_A (mw h cZ q0) sz) := by
  refine kb_of (cc := cX_anew) (maxL := 11) (ret := none) (QcA := fun A => (va_Qv (fun u' => u' = F_X_anew q0 a1 a2 a3 a4 a5 a6 a7 a8 a9) (kb_E D [(cZ, .boolean)] (mw h cZ) A) A)) (by decide) (Nat.le_of_ble_eq_true rfl) ?_
  intro p e s m below meth c A hx hb hr hlocks hml hown hts hA hN hK hP hD ls hl
  have hS : va_S A s.heap s.heap [] := va_S.rf
  have hl : lv_has ls 11 [(0, .ref (h 0)), (1, .int a1), (2, .int a2), (3, .int a3), (4, .int a4), (5, .int a5), (6, .int a6), (7, .int a7), (8, .int a8), (9, .int a9)] := hl
  have k_137 : ∀ (n i : Nat) (q : (Nat → Int32) × (Nat → Nat → Int32)) (H : Heap) (locs : List Loc) (ls : Array Slot), i + n = 4 → F_X_anew q0 a1 a2 a3 a4 a5 a6 a7 a8 a9 = K_X_anew_137 a1 a2 a3 a4 a5 a6 a7 a8 a9 n i q → va_P D vwCl (mw h cZ q) H → va_D A (mw h cZ q) → va_S A s.heap H locs → lv_has ls 11 [(0, .ref (h 0)), (1, .int a1), (2, .int a2), (3, .int a3), (4, .int a4), (5, .int a5), (6, .int a6), (7, .int a7), (8, .int a8), (9, .int a9), (10, .int (nI i))] → W p l e ({ frames := 1, cells := 0, slots := 0, locals := 21 }) s m [.ref (h 0), .int a1, .int a2, .int a3, .int a4, .int a5, .int a6, .int a7, .int a8, .int a9].toArray below meth c H locs 0 0 (MQ below (va_Qv (fun u' => u' = F_X_anew q0 a1 a2 a3 a4 a5 a6 a7 a8 a9) (kb_E D [(cZ, .boolean)] (mw h cZ) A) A) [.ref (h 0), .int a1, .int a2, .int a3, .int a4, .int a5, .int a6, .int a7, .int a8, .int a9].toArray s 0 0 A) (F0 m 137 ls []) := by
    intro n
    induction n with
    | zero =>
      intro i q H locs ls hin e hP hD hS hl
      obtain rfl : i = 4 := by omega
      refine lv_iload hx hb dX_anew_137 (lv_at hl 10 rfl) ?_
      refine lv_iconst (v := 4) hx hb dX_anew_139 (by decide) ?_
      refine lv_icmp_ge (tgt := 173) hx hb dX_anew_140 (by decide) (fun _ => ?_) (fun c9 => absurd (by decide) c9)
      refine lv_aload_n hx hb dX_anew_173 rfl (lv_at hl 0 rfl) ?_
      refine kb_callv (wf := mw h cZ) (u := F_X_forget q) (va_runV (As := []) (rest := []) ⟨hx, hb, hml, hown, hts⟩ (c_X_forget l D h cZ _ q) (cwV 0 hts (gd_V q_635 q_637 q_22 q_40 q_638) rfl rfl rfl (by decide +kernel) ⟨Nat.le_of_ble_eq_true rfl, Nat.le_of_ble_eq_true rfl⟩) (kb_preV hN hK hP hD (va_recv hK hP (ci := 7) (q0 := 0) rfl rfl)) rfl rfl hl.1 rfl (lv_room (Nat.le_of_ble_eq_true rfl)) dX_anew_174 ⟨Nat.zero_le _, Nat.zero_le _⟩) hP hD hS hA (fun H locs hP hD hS => ?_)
      refine lv_aload_n hx hb dX_anew_177 rfl (lv_at hl 0 rfl) ?_
      refine kb_callv (wf := mw h cZ) (u := F_X_quiet (F_X_forget q)) (va_runV (As := []) (rest := []) ⟨hx, hb, hml, hown, hts⟩ (c_X_quiet l D h cZ _ (F_X_forget q)) (cwV 0 hts (gd_V q_639 q_641 q_23 q_40 q_642) rfl rfl rfl (by decide +kernel) ⟨Nat.le_of_ble_eq_true rfl, Nat.le_of_ble_eq_true rfl⟩) (kb_preV hN hK hP hD (va_recv hK hP (ci := 7) (q0 := 0) rfl rfl)) rfl rfl hl.1 rfl (lv_room (Nat.le_of_ble_eq_true rfl)) dX_anew_178 ⟨Nat.zero_le _, Nat.zero_le _⟩) hP hD hS hA (fun H locs hP hD hS => ?_)
      exact kb_vret (wf := mw h cZ) hx hb hr hlocks hK hP hD hS e.symm dX_anew_181
    | succ n ih =>
      intro i q H locs ls hin e hP hD hS hl
      refine lv_iload hx hb dX_anew_137 (lv_at hl 10 rfl) ?_
      refine lv_iconst (v := 4) hx hb dX_anew_139 (by decide) ?_
      refine lv_icmp_ge (tgt := 173) hx hb dX_anew_140 (by decide) (fun c9 => absurd c9 (nI_ge (b := 4) (by omega) (by decide))) (fun _ => ?_)
      refine lv_aload_n hx hb dX_anew_143 rfl (lv_at hl 0 rfl) ?_
      refine va_get (D := D) (ci := 7) (v := .ref (h 4)) (C := "BoilerDeskModel") (T := TX) (N := 43) hx hb hts inX hown hK hP 0 rfl rfl 27 (by decide) (hts _ q_670) (fun _ h9 => h9) rfl dX_anew_144 ?_
      refine lv_iload hx hb dX_anew_147 (lv_at hl 10 rfl) ?_
      refine lv_iconst (v := 0) hx hb dX_anew_149 (by decide) ?_
      refine kb_zast (D := D) (wf := mw h cZ) (w' := (q.1, (ub q.2 3 (upd (q.2 3) ((nI i)).toNatClampNeg (vp_nar .boolean 0))))) hx hb hK hP hD hS 4 0 rfl rfl (vp_in_nI (by omega) (by decide)) dX_anew_150 rfl (fun H locs hP hD hS => ?_)
      refine lv_aload_n hx hb dX_anew_151 rfl (lv_at hl 0 rfl) ?_
      refine va_get (D := D) (ci := 7) (v := .ref (h 5)) (C := "BoilerDeskModel") (T := TX) (N := 43) hx hb hts inX hown hK hP 0 rfl rfl 28 (by decide) (hts _ q_671) (fun _ h9 => h9) rfl dX_anew_152 ?_
      refine lv_iload hx hb dX_anew_155 (lv_at hl 10 rfl) ?_
      refine lv_iconst (v := 0) hx hb dX_anew_157 (by decide) ?_
      refine kb_zast (D := D) (wf := mw h cZ) (w' := (q.1, (ub (ub q.2 3 (upd (q.2 3) ((nI i)).toNatClampNeg (vp_nar .boolean 0))) 4 (upd (q.2 4) ((nI i)).toNatClampNeg (vp_nar .boolean 0))))) hx hb hK hP hD hS 5 0 rfl rfl (vp_in_nI (by omega) (by decide)) dX_anew_158 rfl (fun H locs hP hD hS => ?_)
      refine lv_aload_n hx hb dX_anew_159 rfl (lv_at hl 0 rfl) ?_
      refine va_get (D := D) (ci := 7) (v := .ref (h 6)) (C := "BoilerDeskModel") (T := TX) (N := 43) hx hb hts inX hown hK hP 0 rfl rfl 29 (by decide) (hts _ q_672) (fun _ h9 => h9) rfl dX_anew_160 ?_
      refine lv_iload hx hb dX_anew_163 (lv_at hl 10 rfl) ?_
      refine lv_iconst (v := 0) hx hb dX_anew_165 (by decide) ?_
      refine kb_zast (D := D) (wf := mw h cZ) (w' := (q.1, (ub (ub (ub q.2 3 (upd (q.2 3) ((nI i)).toNatClampNeg (vp_nar .boolean 0))) 4 (upd (q.2 4) ((nI i)).toNatClampNeg (vp_nar .boolean 0))) 5 (upd (q.2 5) ((nI i)).toNatClampNeg (vp_nar .boolean 0))))) hx hb hK hP hD hS 6 0 rfl rfl (vp_in_nI (by omega) (by decide)) dX_anew_166 rfl (fun H locs hP hD hS => ?_)
      refine lv_iinc (v := (nI (i + 1))) (lv' := [(10, .int (nI (i + 1))), (0, .ref (h 0)), (1, .int a1), (2, .int a2), (3, .int a3), (4, .int a4), (5, .int a5), (6, .int a6), (7, .int a7), (8, .int a8), (9, .int a9)]) hx hb dX_anew_167 hl (k := 10) rfl (nI_1 i) (by decide) rfl (fun ls hl => ?_)
      refine lv_goto (tgt := 137) hx hb dX_anew_170 (by decide) ?_
      exact ih (i + 1) (q.1, (ub (ub (ub q.2 3 (upd (q.2 3) ((nI i)).toNatClampNeg (vp_nar .boolean 0))) 4 (upd (q.2 4) ((nI i)).toNatClampNeg (vp_nar .boolean 0))) 5 (upd (q.2 5) ((nI i)).toNatClampNeg (vp_nar .boolean 0)))) _ _ _ (by omega) e hP hD hS (lv_sub hl [1, 2, 3, 4, 5, 6, 7, 8, 9, 10, 0] rfl)
  have k_105 : ∀ (n i : Nat) (q : (Nat → Int32) × (Nat → Nat → Int32)) (H : Heap) (locs : List Loc) (ls : Array Slot), i + n = 10 → F_X_anew q0 a1 a2 a3 a4 a5 a6 a7 a8 a9 = K_X_anew_105 a1 a2 a3 a4 a5 a6 a7 a8 a9 n i q → va_P D vwCl (mw h cZ q) H → va_D A (mw h cZ q) → va_S A s.heap H locs → lv_has ls 11 [(0, .ref (h 0)), (1, .int a1), (2, .int a2), (3, .int a3), (4, .int a4), (5, .int a5), (6, .int a6), (7, .int a7), (8, .int a8), (9, .int a9), (10, .int (nI i))] → W p l e ({ frames := 1, cells := 0, slots := 0, locals := 21 }) s m [.ref (h 0), .int a1, .int a2, .int a3, .int a4, .int a5, .int a6, .int a7, .int a8, .int a9].toArray below meth c H locs 0 0 (MQ below (va_Qv (fun u' => u' = F_X_anew q0 a1 a2 a3 a4 a5 a6 a7 a8 a9) (kb_E D [(cZ, .boolean)] (mw h cZ) A) A) [.ref (h 0), .int a1, .int a2, .int a3, .int a4, .int a5, .int a6, .int a7, .int a8, .int a9].toArray s 0 0 A) (F0 m 105 ls []) := by
    intro n
    induction n with
    | zero =>
      intro i q H locs ls hin e hP hD hS hl
      obtain rfl : i = 10 := by omega
      refine lv_iload hx hb dX_anew_105 (lv_at hl 10 rfl) ?_
      refine lv_bipush (v := 10) hx hb dX_anew_107 (by decide) ?_
      refine lv_icmp_ge (tgt := 134) hx hb dX_anew_109 (by decide) (fun _ => ?_) (fun c9 => absurd (by decide) c9)
      refine lv_iconst (v := 0) hx hb dX_anew_134 (by decide) ?_
      refine lv_istore (lv' := [(10, .int 0), (0, .ref (h 0)), (1, .int a1), (2, .int a2), (3, .int a3), (4, .int a4), (5, .int a5), (6, .int a6), (7, .int a7), (8, .int a8), (9, .int a9)]) hx hb dX_anew_135 hl (by decide) rfl (fun ls hl => ?_)
      exact k_137 4 0 q _ _ _ (by omega) e hP hD hS (lv_sub hl [1, 2, 3, 4, 5, 6, 7, 8, 9, 10, 0] rfl)
    | succ n ih =>
      intro i q H locs ls hin e hP hD hS hl
      refine lv_iload hx hb dX_anew_105 (lv_at hl 10 rfl) ?_
      refine lv_bipush (v := 10) hx hb dX_anew_107 (by decide) ?_
      refine lv_icmp_ge (tgt := 134) hx hb dX_anew_109 (by decide) (fun c9 => absurd c9 (nI_ge (b := 10) (by omega) (by decide))) (fun _ => ?_)
      refine lv_aload_n hx hb dX_anew_112 rfl (lv_at hl 0 rfl) ?_
      refine va_get (D := D) (ci := 7) (v := .ref (h 1)) (C := "BoilerDeskModel") (T := TX) (N := 43) hx hb hts inX hown hK hP 0 rfl rfl 24 (by decide) (hts _ q_667) (fun _ h9 => h9) rfl dX_anew_113 ?_
      refine lv_iload hx hb dX_anew_116 (lv_at hl 10 rfl) ?_
      refine lv_iconst (v := 0) hx hb dX_anew_118 (by decide) ?_
      refine kb_zast (D := D) (wf := mw h cZ) (w' := (q.1, (ub q.2 0 (upd (q.2 0) ((nI i)).toNatClampNeg (vp_nar .boolean 0))))) hx hb hK hP hD hS 1 0 rfl rfl (vp_in_nI (by omega) (by decide)) dX_anew_119 rfl (fun H locs hP hD hS => ?_)
      refine lv_aload_n hx hb dX_anew_120 rfl (lv_at hl 0 rfl) ?_
      refine va_get (D := D) (ci := 7) (v := .ref (h 2)) (C := "BoilerDeskModel") (T := TX) (N := 43) hx hb hts inX hown hK hP 0 rfl rfl 25 (by decide) (hts _ q_668) (fun _ h9 => h9) rfl dX_anew_121 ?_
      refine lv_iload hx hb dX_anew_124 (lv_at hl 10 rfl) ?_
      refine lv_iconst (v := 0) hx hb dX_anew_126 (by decide) ?_
      refine kb_zast (D := D) (wf := mw h cZ) (w' := (q.1, (ub (ub q.2 0 (upd (q.2 0) ((nI i)).toNatClampNeg (vp_nar .boolean 0))) 1 (upd (q.2 1) ((nI i)).toNatClampNeg (vp_nar .boolean 0))))) hx hb hK hP hD hS 2 0 rfl rfl (vp_in_nI (by omega) (by decide)) dX_anew_127 rfl (fun H locs hP hD hS => ?_)
      refine lv_iinc (v := (nI (i + 1))) (lv' := [(10, .int (nI (i + 1))), (0, .ref (h 0)), (1, .int a1), (2, .int a2), (3, .int a3), (4, .int a4), (5, .int a5), (6, .int a6), (7, .int a7), (8, .int a8), (9, .int a9)]) hx hb dX_anew_128 hl (k := 10) rfl (nI_1 i) (by decide) rfl (fun ls hl => ?_)
      refine lv_goto (tgt := 105) hx hb dX_anew_131 (by decide) ?_
      exact ih (i + 1) (q.1, (ub (ub q.2 0 (upd (q.2 0) ((nI i)).toNatClampNeg (vp_nar .boolean 0))) 1 (upd (q.2 1) ((nI i)).toNatClampNeg (vp_nar .boolean 0)))) _ _ _ (by omega) e hP hD hS (lv_sub hl [1, 2, 3, 4, 5, 6, 7, 8, 9, 10, 0] rfl)
  have e : F_X_anew q0 a1 a2 a3 a4 a5 a6 a7 a8 a9 = F_X_anew q0 a1 a2 a3 a4 a5 a6 a7 a8 a9 := rfl
  refine lv_aload_n hx hb dX_anew_0 rfl (lv_at hl 0 rfl) ?_
  refine lv_iload_n hx hb dX_anew_1 rfl (lv_at hl 1 rfl) ?_
  refine kb_put (D := D) (wf := mw h cZ) (w' := ((up q0.1 1 a1), q0.2)) (ci := 7) (v := .int a1) (ty := .int) (C := "BoilerDeskModel") (T := TX) (N := 43) hx hb hts inX tyX tyX_ok nmX hown hK hP hD hS 0 rfl rfl 1 (by decide) (hts _ q_644) (fun _ h9 => h9) rfl (by decide +kernel) rfl rfl (Nat.le_of_ble_eq_true rfl) dX_anew_2 rfl (fun H locs hP hD hS => ?_)
  refine lv_aload_n hx hb dX_anew_5 rfl (lv_at hl 0 rfl) ?_
  refine lv_iload_n hx hb dX_anew_6 rfl (lv_at hl 2 rfl) ?_
  refine kb_put (D := D) (wf := mw h cZ) (w' := ((up (up q0.1 1 a1) 2 a2), q0.2)) (ci := 7) (v := .int a2) (ty := .int) (C := "BoilerDeskModel") (T := TX) (N := 43) hx hb hts inX tyX tyX_ok nmX hown hK hP hD hS 0 rfl rfl 2 (by decide) (hts _ q_645) (fun _ h9 => h9) rfl (by decide +kernel) rfl rfl (Nat.le_of_ble_eq_true rfl) dX_anew_7 rfl (fun H locs hP hD hS => ?_)
  refine lv_aload_n hx hb dX_anew_10 rfl (lv_at hl 0 rfl) ?_
  refine lv_iload_n hx hb dX_anew_11 rfl (lv_at hl 3 rfl) ?_
  refine kb_put (D := D) (wf := mw h cZ) (w' := ((up (up (up q0.1 1 a1) 2 a2) 3 a3), q0.2)) (ci := 7) (v := .int a3) (ty := .int) (C := "BoilerDeskModel") (T := TX) (N := 43) hx hb hts inX tyX tyX_ok nmX hown hK hP hD hS 0 rfl rfl 3 (by decide) (hts _ q_646) (fun _ h9 => h9) rfl (by decide +kernel) rfl rfl (Nat.le_of_ble_eq_true rfl) dX_anew_12 rfl (fun H locs hP hD hS => ?_)
  refine lv_aload_n hx hb dX_anew_15 rfl (lv_at hl 0 rfl) ?_
  refine lv_iload hx hb dX_anew_16 (lv_at hl 4 rfl) ?_
  refine kb_put (D := D) (wf := mw h cZ) (w' := ((up (up (up (up q0.1 1 a1) 2 a2) 3 a3) 4 a4), q0.2)) (ci := 7) (v := .int a4) (ty := .int) (C := "BoilerDeskModel") (T := TX) (N := 43) hx hb hts inX tyX tyX_ok nmX hown hK hP hD hS 0 rfl rfl 4 (by decide) (hts _ q_647) (fun _ h9 => h9) rfl (by decide +kernel) rfl rfl (Nat.le_of_ble_eq_true rfl) dX_anew_18 rfl (fun H locs hP hD hS => ?_)
  refine lv_aload_n hx hb dX_anew_21 rfl (lv_at hl 0 rfl) ?_
  refine lv_iload hx hb dX_anew_22 (lv_at hl 5 rfl) ?_
  refine kb_put (D := D) (wf := mw h cZ) (w' := ((up (up (up (up (up q0.1 1 a1) 2 a2) 3 a3) 4 a4) 5 a5), q0.2)) (ci := 7) (v := .int a5) (ty := .int) (C := "BoilerDeskModel") (T := TX) (N := 43) hx hb hts inX tyX tyX_ok nmX hown hK hP hD hS 0 rfl rfl 5 (by decide) (hts _ q_648) (fun _ h9 => h9) rfl (by decide +kernel) rfl rfl (Nat.le_of_ble_eq_true rfl) dX_anew_24 rfl (fun H locs hP hD hS => ?_)
  refine lv_aload_n hx hb dX_anew_27 rfl (lv_at hl 0 rfl) ?_
  refine lv_iload hx hb dX_anew_28 (lv_at hl 6 rfl) ?_
  refine kb_put (D := D) (wf := mw h cZ) (w' := ((up (up (up (up (up (up q0.1 1 a1) 2 a2) 3 a3) 4 a4) 5 a5) 6 a6), q0.2)) (ci := 7) (v := .int a6) (ty := .int) (C := "BoilerDeskModel") (T := TX) (N := 43) hx hb hts inX tyX tyX_ok nmX hown hK hP hD hS 0 rfl rfl 6 (by decide) (hts _ q_649) (fun _ h9 => h9) rfl (by decide +kernel) rfl rfl (Nat.le_of_ble_eq_true rfl) dX_anew_30 rfl (fun H locs hP hD hS => ?_)
  refine lv_aload_n hx hb dX_anew_33 rfl (lv_at hl 0 rfl) ?_
  refine lv_iload hx hb dX_anew_34 (lv_at hl 7 rfl) ?_
  refine kb_put (D := D) (wf := mw h cZ) (w' := ((up (up (up (up (up (up (up q0.1 1 a1) 2 a2) 3 a3) 4 a4) 5 a5) 6 a6) 7 a7), q0.2)) (ci := 7) (v := .int a7) (ty := .int) (C := "BoilerDeskModel") (T := TX) (N := 43) hx hb hts inX tyX tyX_ok nmX hown hK hP hD hS 0 rfl rfl 7 (by decide) (hts _ q_650) (fun _ h9 => h9) rfl (by decide +kernel) rfl rfl (Nat.le_of_ble_eq_true rfl) dX_anew_36 rfl (fun H locs hP hD hS => ?_)
  refine lv_aload_n hx hb dX_anew_39 rfl (lv_at hl 0 rfl) ?_
  refine lv_iload hx hb dX_anew_40 (lv_at hl 8 rfl) ?_
  refine kb_put (D := D) (wf := mw h cZ) (w' := ((up (up (up (up (up (up (up (up q0.1 1 a1) 2 a2) 3 a3) 4 a4) 5 a5) 6 a6) 7 a7) 8 a8), q0.2)) (ci := 7) (v := .int a8) (ty := .int) (C := "BoilerDeskModel") (T := TX) (N := 43) hx hb hts inX tyX tyX_ok nmX hown hK hP hD hS 0 rfl rfl 8 (by decide) (hts _ q_651) (fun _ h9 => h9) rfl (by decide +kernel) rfl rfl (Nat.le_of_ble_eq_true rfl) dX_anew_42 rfl (fun H locs hP hD hS => ?_)
  refine lv_aload_n hx hb dX_anew_45 rfl (lv_at hl 0 rfl) ?_
  refine lv_iload hx hb dX_anew_46 (lv_at hl 9 rfl) ?_
  refine kb_put (D := D) (wf := mw h cZ) (w' := ((up (up (up (up (up (up (up (up (up q0.1 1 a1) 2 a2) 3 a3) 4 a4) 5 a5) 6 a6) 7 a7) 8 a8) 9 a9), q0.2)) (ci := 7) (v := .int a9) (ty := .int) (C := "BoilerDeskModel") (T := TX) (N := 43) hx hb hts inX tyX tyX_ok nmX hown hK hP hD hS 0 rfl rfl 9 (by decide) (hts _ q_652) (fun _ h9 => h9) rfl (by decide +kernel) rfl rfl (Nat.le_of_ble_eq_true rfl) dX_anew_48 rfl (fun H locs hP hD hS => ?_)
  refine lv_aload_n hx hb dX_anew_51 rfl (lv_at hl 0 rfl) ?_
  refine lv_iconst (v := 0) hx hb dX_anew_52 (by decide) ?_
  refine kb_put (D := D) (wf := mw h cZ) (w' := ((up (up (up (up (up (up (up (up (up (up q0.1 1 a1) 2 a2) 3 a3) 4 a4) 5 a5) 6 a6) 7 a7) 8 a8) 9 a9) 10 0), q0.2)) (ci := 7) (v := .int 0) (ty := .int) (C := "BoilerDeskModel") (T := TX) (N := 43) hx hb hts inX tyX tyX_ok nmX hown hK hP hD hS 0 rfl rfl 10 (by decide) (hts _ q_653) (fun _ h9 => h9) rfl (by decide +kernel) rfl rfl (Nat.le_of_ble_eq_true rfl) dX_anew_53 rfl (fun H locs hP hD hS => ?_)
  refine lv_aload_n hx hb dX_anew_56 rfl (lv_at hl 0 rfl) ?_
  refine lv_iconst (v := 0) hx hb dX_anew_57 (by decide) ?_
  refine kb_put (D := D) (wf := mw h cZ) (w' := ((up (up (up (up (up (up (up (up (up (up (up q0.1 1 a1) 2 a2) 3 a3) 4 a4) 5 a5) 6 a6) 7 a7) 8 a8) 9 a9) 10 0) 11 0), q0.2)) (ci := 7) (v := .int 0) (ty := .int) (C := "BoilerDeskModel") (T := TX) (N := 43) hx hb hts inX tyX tyX_ok nmX hown hK hP hD hS 0 rfl rfl 11 (by decide) (hts _ q_654) (fun _ h9 => h9) rfl (by decide +kernel) rfl rfl (Nat.le_of_ble_eq_true rfl) dX_anew_58 rfl (fun H locs hP hD hS => ?_)
  refine lv_aload_n hx hb dX_anew_61 rfl (lv_at hl 0 rfl) ?_
  refine lv_iconst (v := 0) hx hb dX_anew_62 (by decide) ?_
  refine kb_put (D := D) (wf := mw h cZ) (w' := ((up (up (up (up (up (up (up (up (up (up (up (up q0.1 1 a1) 2 a2) 3 a3) 4 a4) 5 a5) 6 a6) 7 a7) 8 a8) 9 a9) 10 0) 11 0) 12 0), q0.2)) (ci := 7) (v := .int 0) (ty := .int) (C := "BoilerDeskModel") (T := TX) (N := 43) hx hb hts inX tyX tyX_ok nmX hown hK hP hD hS 0 rfl rfl 12 (by decide) (hts _ q_655) (fun _ h9 => h9) rfl (by decide +kernel) rfl rfl (Nat.le_of_ble_eq_true rfl) dX_anew_63 rfl (fun H locs hP hD hS => ?_)
  refine lv_aload_n hx hb dX_anew_66 rfl (lv_at hl 0 rfl) ?_
  refine lv_aload_n hx hb dX_anew_67 rfl (lv_at hl 0 rfl) ?_
  refine va_get (D := D) (ci := 7) (v := .int a1) (C := "BoilerDeskModel") (T := TX) (N := 43) hx hb hts inX hown hK hP 0 rfl rfl 1 (by decide) (hts _ q_644) (fun _ h9 => h9) rfl dX_anew_68 ?_
  refine kb_put (D := D) (wf := mw h cZ) (w' := ((up (up (up (up (up (up (up (up (up (up (up (up (up q0.1 1 a1) 2 a2) 3 a3) 4 a4) 5 a5) 6 a6) 7 a7) 8 a8) 9 a9) 10 0) 11 0) 12 0) 13 a1), q0.2)) (ci := 7) (v := .int a1) (ty := .int) (C := "BoilerDeskModel") (T := TX) (N := 43) hx hb hts inX tyX tyX_ok nmX hown hK hP hD hS 0 rfl rfl 13 (by decide) (hts _ q_656) (fun _ h9 => h9) rfl (by decide +kernel) rfl rfl (Nat.le_of_ble_eq_true rfl) dX_anew_71 rfl (fun H locs hP hD hS => ?_)
  refine lv_aload_n hx hb dX_anew_74 rfl (lv_at hl 0 rfl) ?_
  refine lv_iconst (v := 0) hx hb dX_anew_75 (by decide) ?_
  refine kb_put (D := D) (wf := mw h cZ) (w' := ((up (up (up (up (up (up (up (up (up (up (up (up (up (up q0.1 1 a1) 2 a2) 3 a3) 4 a4) 5 a5) 6 a6) 7 a7) 8 a8) 9 a9) 10 0) 11 0) 12 0) 13 a1) 14 0), q0.2)) (ci := 7) (v := .int 0) (ty := .int) (C := "BoilerDeskModel") (T := TX) (N := 43) hx hb hts inX tyX tyX_ok nmX hown hK hP hD hS 0 rfl rfl 14 (by decide) (hts _ q_657) (fun _ h9 => h9) rfl (by decide +kernel) rfl rfl (Nat.le_of_ble_eq_true rfl) dX_anew_76 rfl (fun H locs hP hD hS => ?_)
  refine lv_aload_n hx hb dX_anew_79 rfl (lv_at hl 0 rfl) ?_
  refine lv_aload_n hx hb dX_anew_80 rfl (lv_at hl 0 rfl) ?_
  refine va_get (D := D) (ci := 7) (v := .int a6) (C := "BoilerDeskModel") (T := TX) (N := 43) hx hb hts inX hown hK hP 0 rfl rfl 6 (by decide) (hts _ q_649) (fun _ h9 => h9) rfl dX_anew_81 ?_
  refine kb_put (D := D) (wf := mw h cZ) (w' := ((up (up (up (up (up (up (up (up (up (up (up (up (up (up (up q0.1 1 a1) 2 a2) 3 a3) 4 a4) 5 a5) 6 a6) 7 a7) 8 a8) 9 a9) 10 0) 11 0) 12 0) 13 a1) 14 0) 15 a6), q0.2)) (ci := 7) (v := .int a6) (ty := .int) (C := "BoilerDeskModel") (T := TX) (N := 43) hx hb hts inX tyX tyX_ok nmX hown hK hP hD hS 0 rfl rfl 15 (by decide) (hts _ q_658) (fun _ h9 => h9) rfl (by decide +kernel) rfl rfl (Nat.le_of_ble_eq_true rfl) dX_anew_84 rfl (fun H locs hP hD hS => ?_)
  refine lv_aload_n hx hb dX_anew_87 rfl (lv_at hl 0 rfl) ?_
  refine lv_iconst (v := 0) hx hb dX_anew_88 (by decide) ?_
  refine kb_put (D := D) (wf := mw h cZ) (w' := ((up (up (up (up (up (up (up (up (up (up (up (up (up (up (up (up q0.1 1 a1) 2 a2) 3 a3) 4 a4) 5 a5) 6 a6) 7 a7) 8 a8) 9 a9) 10 0) 11 0) 12 0) 13 a1) 14 0) 15 a6) 16 0), q0.2)) (ci := 7) (v := .int 0) (ty := .int) (C := "BoilerDeskModel") (T := TX) (N := 43) hx hb hts inX tyX tyX_ok nmX hown hK hP hD hS 0 rfl rfl 16 (by decide) (hts _ q_659) (fun _ h9 => h9) rfl (by decide +kernel) rfl rfl (Nat.le_of_ble_eq_true rfl) dX_anew_89 rfl (fun H locs hP hD hS => ?_)
  refine lv_aload_n hx hb dX_anew_92 rfl (lv_at hl 0 rfl) ?_
  refine lv_iconst (v := 0) hx hb dX_anew_93 (by decide) ?_
  refine kb_put (D := D) (wf := mw h cZ) (w' := ((up (up (up (up (up (up (up (up (up (up (up (up (up (up (up (up (up q0.1 1 a1) 2 a2) 3 a3) 4 a4) 5 a5) 6 a6) 7 a7) 8 a8) 9 a9) 10 0) 11 0) 12 0) 13 a1) 14 0) 15 a6) 16 0) 22 0), q0.2)) (ci := 7) (v := .int 0) (ty := .boolean) (C := "BoilerDeskModel") (T := TX) (N := 43) hx hb hts inX tyX tyX_ok nmX hown hK hP hD hS 0 rfl rfl 22 (by decide) (hts _ q_665) (fun _ h9 => h9) rfl (by decide +kernel) rfl rfl (Nat.le_of_ble_eq_true rfl) dX_anew_94 rfl (fun H locs hP hD hS => ?_)
  refine lv_aload_n hx hb dX_anew_97 rfl (lv_at hl 0 rfl) ?_
  refine lv_iconst (v := 0) hx hb dX_anew_98 (by decide) ?_
  refine kb_put (D := D) (wf := mw h cZ) (w' := ((up (up (up (up (up (up (up (up (up (up (up (up (up (up (up (up (up (up q0.1 1 a1) 2 a2) 3 a3) 4 a4) 5 a5) 6 a6) 7 a7) 8 a8) 9 a9) 10 0) 11 0) 12 0) 13 a1) 14 0) 15 a6) 16 0) 22 0) 23 0), q0.2)) (ci := 7) (v := .int 0) (ty := .boolean) (C := "BoilerDeskModel") (T := TX) (N := 43) hx hb hts inX tyX tyX_ok nmX hown hK hP hD hS 0 rfl rfl 23 (by decide) (hts _ q_666) (fun _ h9 => h9) rfl (by decide +kernel) rfl rfl (Nat.le_of_ble_eq_true rfl) dX_anew_99 rfl (fun H locs hP hD hS => ?_)
  refine lv_iconst (v := 0) hx hb dX_anew_102 (by decide) ?_
  refine lv_istore (lv' := [(10, .int 0), (0, .ref (h 0)), (1, .int a1), (2, .int a2), (3, .int a3), (4, .int a4), (5, .int a5), (6, .int a6), (7, .int a7), (8, .int a8), (9, .int a9)]) hx hb dX_anew_103 hl (by decide) rfl (fun ls hl => ?_)
  exact k_105 10 0 ((up (up (up (up (up (up (up (up (up (up (up (up (up (up (up (up (up (up q0.1 1 a1) 2 a2) 3 a3) 4 a4) 5 a5) 6 a6) 7 a7) 8 a8) 9 a9) 10 0) 11 0) 12 0) 13 a1) 14 0) 15 a6) 16 0) 22 0) 23 0), q0.2) _ _ _ (by omega) e hP hD hS (lv_sub hl [1, 2, 3, 4, 5, 6, 7, 8, 9, 10, 0] rfl)
