/-- BoilerDeskModel.first()Z -/
def K_X_first_18  (q : (Nat → Int32) × (Nat → Nat → Int32))  : Int32 × ((Nat → Int32) × (Nat → Nat → Int32)) := (0, q)
def F_X_first (q0 : (Nat → Int32) × (Nat → Nat → Int32))  : Int32 × ((Nat → Int32) × (Nat → Nat → Int32)) := (if ((q0.2 0) ((0 : Int32)).toNatClampNeg) = (0 : Int32) then (if ((q0.2 0) ((1 : Int32)).toNatClampNeg) = (0 : Int32) then (if (q0.1 23) = (0 : Int32) then (if (q0.1 29) = (0 : Int32) then (1, q0) else (0, q0)) else (if (q0.1 25) = (0 : Int32) then (if (q0.1 29) = (0 : Int32) then (1, q0) else (if (F_X_in (q0.1 24) (q0.1 3) (q0.1 4)) = (0 : Int32) then (0, q0) else (if (F_X_some_0 q0) = (0 : Int32) then (1, ((up q0.1 10 1), q0.2)) else (1, ((up q0.1 10 2), q0.2))))) else (0, q0))) else K_X_first_18 q0) else K_X_first_18 q0)
set_option maxHeartbeats 4000000 in
set_option maxRecDepth 100000 in
theorem c_X_first (l : Launch) (D : va_G) (h : Nat → Nat) (cZ : ClassId) (sz : Nat) (q0 : (Nat → Int32) × (Nat → Nat → Int32))   : Met l yX_first [.code yX_first cX_first 1 (some .boolean)] ({ frames := 1, cells := 0, slots := 0, locals := 23 }) (va_Pc [.ref (h 0)] (kb_B D [(cZ, .boolean)] (mw h cZ) q0 sz)) (va_Qi (fun r' u' => r' = (F_X_first q0).1 ∧ u' = (F_X_first q0).2) (kb_E D [(cZ, .boolean)] (mw h cZ) (va_A (mw h cZ q0) sz)) (va_A (mw h cZ q0) sz)) 0 0 (va_A (mw h cZ q0) sz) := by
  refine kb_of (cc := cX_first) (maxL := 1) (ret := (some .boolean)) (QcA := fun A => (va_Qi (fun r' u' => r' = (F_X_first q0).1 ∧ u' = (F_X_first q0).2) (kb_E D [(cZ, .boolean)] (mw h cZ) A) A)) (by decide) (Nat.le_of_ble_eq_true rfl) ?_
  intro p e s m below meth c A hx hb hr hlocks hml hown hts hA hN hK hP hD ls hl
  have hS : va_S A s.heap s.heap [] := va_S.rf
  have hl : lv_has ls 1 [(0, .ref (h 0))] := hl
  have k_18 : ∀ (q : (Nat → Int32) × (Nat → Nat → Int32)) (H : Heap) (locs : List Loc) (ls : Array Slot), F_X_first q0 = K_X_first_18 q → va_P D vwCl (mw h cZ q) H → va_D A (mw h cZ q) → va_S A s.heap H locs → lv_has ls 1 [(0, .ref (h 0))] → W p l e ({ frames := 1, cells := 0, slots := 0, locals := 23 }) s m [.ref (h 0)].toArray below meth c H locs 0 0 (MQ below (va_Qi (fun r' u' => r' = (F_X_first q0).1 ∧ u' = (F_X_first q0).2) (kb_E D [(cZ, .boolean)] (mw h cZ) A) A) [.ref (h 0)].toArray s 0 0 A) (F0 m 18 ls []) := by
      intro q H locs ls e hP hD hS hl
      refine lv_iconst (v := 0) hx hb dX_first_18 (by decide) ?_
      exact kb_zret (wf := mw h cZ) hx hb hr hlocks rfl hK hP hD hS ⟨(congrArg Prod.fst e).symm, (congrArg Prod.snd e).symm⟩ dX_first_19
  have e : F_X_first q0 = F_X_first q0 := rfl
  refine lv_aload_n hx hb dX_first_0 rfl (lv_at hl 0 rfl) ?_
  refine va_get (D := D) (ci := 7) (v := .ref (h 1)) (C := "BoilerDeskModel") (T := TX) (N := 43) hx hb hts inX hown hK hP 0 rfl rfl 24 (by decide) (hts _ q_667) (fun _ h9 => h9) rfl dX_first_1 ?_
  refine lv_iconst (v := 0) hx hb dX_first_4 (by decide) ?_
  refine va_zald hx hb hK hP 1 0 rfl rfl (by unfold vp_in; decide) dX_first_5 ?_
  refine lv_if_ne (tgt := 18) hx hb dX_first_6 (by decide) (fun c_1 => ?_) (fun c_1 => ?_)
  · have e := e.trans (if_neg c_1)
    exact k_18 q0 _ _ _ e hP hD hS (lv_sub hl [0] rfl)
  · have e := e.trans (if_pos c_1)
    refine lv_aload_n hx hb dX_first_9 rfl (lv_at hl 0 rfl) ?_
    refine va_get (D := D) (ci := 7) (v := .ref (h 1)) (C := "BoilerDeskModel") (T := TX) (N := 43) hx hb hts inX hown hK hP 0 rfl rfl 24 (by decide) (hts _ q_667) (fun _ h9 => h9) rfl dX_first_10 ?_
    refine lv_iconst (v := 1) hx hb dX_first_13 (by decide) ?_
    refine va_zald hx hb hK hP 1 0 rfl rfl (by unfold vp_in; decide) dX_first_14 ?_
    refine lv_if_eq (tgt := 20) hx hb dX_first_15 (by decide) (fun c_2 => ?_) (fun c_2 => ?_)
    · have e := e.trans (if_pos c_2)
      refine lv_aload_n hx hb dX_first_20 rfl (lv_at hl 0 rfl) ?_
      refine va_get (D := D) (ci := 7) (v := .int (q0.1 23)) (C := "BoilerDeskModel") (T := TX) (N := 43) hx hb hts inX hown hK hP 0 rfl rfl 23 (by decide) (hts _ q_666) (fun _ h9 => h9) rfl dX_first_21 ?_
      refine lv_if_ne (tgt := 40) hx hb dX_first_24 (by decide) (fun c_3 => ?_) (fun c_3 => ?_)
      · have e := e.trans (if_neg c_3)
        refine lv_aload_n hx hb dX_first_40 rfl (lv_at hl 0 rfl) ?_
        refine va_get (D := D) (ci := 7) (v := .int (q0.1 25)) (C := "BoilerDeskModel") (T := TX) (N := 43) hx hb hts inX hown hK hP 0 rfl rfl 31 (by decide) (hts _ q_674) (fun _ h9 => h9) rfl dX_first_41 ?_
        refine lv_if_eq (tgt := 49) hx hb dX_first_44 (by decide) (fun c_4 => ?_) (fun c_4 => ?_)
        · have e := e.trans (if_pos c_4)
          refine lv_aload_n hx hb dX_first_49 rfl (lv_at hl 0 rfl) ?_
          refine va_get (D := D) (ci := 7) (v := .int (q0.1 29)) (C := "BoilerDeskModel") (T := TX) (N := 43) hx hb hts inX hown hK hP 0 rfl rfl 35 (by decide) (hts _ q_678) (fun _ h9 => h9) rfl dX_first_50 ?_
          refine lv_if_ne (tgt := 58) hx hb dX_first_53 (by decide) (fun c_5 => ?_) (fun c_5 => ?_)
          · have e := e.trans (if_neg c_5)
            refine lv_aload_n hx hb dX_first_58 rfl (lv_at hl 0 rfl) ?_
            refine va_get (D := D) (ci := 7) (v := .int (q0.1 24)) (C := "BoilerDeskModel") (T := TX) (N := 43) hx hb hts inX hown hK hP 0 rfl rfl 30 (by decide) (hts _ q_673) (fun _ h9 => h9) rfl dX_first_59 ?_
            refine lv_aload_n hx hb dX_first_62 rfl (lv_at hl 0 rfl) ?_
            refine va_get (D := D) (ci := 7) (v := .int (q0.1 3)) (C := "BoilerDeskModel") (T := TX) (N := 43) hx hb hts inX hown hK hP 0 rfl rfl 3 (by decide) (hts _ q_646) (fun _ h9 => h9) rfl dX_first_63 ?_
            refine lv_aload_n hx hb dX_first_66 rfl (lv_at hl 0 rfl) ?_
            refine va_get (D := D) (ci := 7) (v := .int (q0.1 4)) (C := "BoilerDeskModel") (T := TX) (N := 43) hx hb hts inX hown hK hP 0 rfl rfl 4 (by decide) (hts _ q_647) (fun _ h9 => h9) rfl dX_first_67 ?_
            refine kb_call0 (r := (F_X_in (q0.1 24) (q0.1 3) (q0.1 4))) (va_runS (As := [.int (q0.1 24), .int (q0.1 3), .int (q0.1 4)]) (rest := []) ⟨hx, hb, hml, hown, hts⟩ (c_X_in l D _ (q0.1 24) (q0.1 3) (q0.1 4)) (va_cwS 3 hts (gd_S q_784 q_785 q_40 q_786) rfl rfl rfl (by decide +kernel) ⟨Nat.le_of_ble_eq_true rfl, Nat.le_of_ble_eq_true rfl⟩) (kb_pre0 hN hK) rfl rfl hl.1 rfl (lv_room (Nat.le_of_ble_eq_true rfl)) dX_first_70 ⟨Nat.zero_le _, Nat.zero_le _⟩) hP hS hA (fun H locs hP hS => ?_)
            refine lv_if_ne (tgt := 78) hx hb dX_first_73 (by decide) (fun c_6 => ?_) (fun c_6 => ?_)
            · have e := e.trans (if_neg c_6)
              refine lv_aload_n hx hb dX_first_78 rfl (lv_at hl 0 rfl) ?_
              refine lv_aload_n hx hb dX_first_79 rfl (lv_at hl 0 rfl) ?_
              refine lv_iconst (v := 0) hx hb dX_first_80 (by decide) ?_
              refine lv_bipush (v := 9) hx hb dX_first_81 (by decide) ?_
              refine kb_calli (wf := mw h cZ) (r := (F_X_some_0 q0)) (u := q0) (va_runV (As := [.int 0, .int 9]) (rest := [.ref (h 0)]) ⟨hx, hb, hml, hown, hts⟩ (c_X_some_0 l D h cZ _ q0) (cwV 2 hts (gd_V q_831 q_833 q_29 q_40 q_834) rfl rfl rfl (by decide +kernel) ⟨Nat.le_of_ble_eq_true rfl, Nat.le_of_ble_eq_true rfl⟩) (kb_preV hN hK hP hD (va_recv hK hP (ci := 7) (q0 := 0) rfl rfl)) rfl rfl hl.1 rfl (lv_room (Nat.le_of_ble_eq_true rfl)) dX_first_83 ⟨Nat.zero_le _, Nat.zero_le _⟩) hP hD hS hA (fun H locs hP hD hS => ?_)
              refine lv_if_eq (tgt := 93) hx hb dX_first_86 (by decide) (fun c_7 => ?_) (fun c_7 => ?_)
              · have e := e.trans (if_pos c_7)
                refine lv_iconst (v := 1) hx hb dX_first_93 (by decide) ?_
                refine kb_put (D := D) (wf := mw h cZ) (w' := ((up q0.1 10 1), q0.2)) (ci := 7) (v := .int 1) (ty := .int) (C := "BoilerDeskModel") (T := TX) (N := 43) hx hb hts inX tyX tyX_ok nmX hown hK hP hD hS 0 rfl rfl 10 (by decide) (hts _ q_653) (fun _ h9 => h9) rfl (by decide +kernel) rfl rfl (Nat.le_of_ble_eq_true rfl) dX_first_94 rfl (fun H locs hP hD hS => ?_)
                refine lv_iconst (v := 1) hx hb dX_first_97 (by decide) ?_
                exact kb_zret (wf := mw h cZ) hx hb hr hlocks rfl hK hP hD hS ⟨(congrArg Prod.fst e).symm, (congrArg Prod.snd e).symm⟩ dX_first_98
              · have e := e.trans (if_neg c_7)
                refine lv_iconst (v := 2) hx hb dX_first_89 (by decide) ?_
                refine lv_goto (tgt := 94) hx hb dX_first_90 (by decide) ?_
                refine kb_put (D := D) (wf := mw h cZ) (w' := ((up q0.1 10 2), q0.2)) (ci := 7) (v := .int 2) (ty := .int) (C := "BoilerDeskModel") (T := TX) (N := 43) hx hb hts inX tyX tyX_ok nmX hown hK hP hD hS 0 rfl rfl 10 (by decide) (hts _ q_653) (fun _ h9 => h9) rfl (by decide +kernel) rfl rfl (Nat.le_of_ble_eq_true rfl) dX_first_94 rfl (fun H locs hP hD hS => ?_)
                refine lv_iconst (v := 1) hx hb dX_first_97 (by decide) ?_
                exact kb_zret (wf := mw h cZ) hx hb hr hlocks rfl hK hP hD hS ⟨(congrArg Prod.fst e).symm, (congrArg Prod.snd e).symm⟩ dX_first_98
            · have e := e.trans (if_pos c_6)
              refine lv_iconst (v := 0) hx hb dX_first_76 (by decide) ?_
              exact kb_zret (wf := mw h cZ) hx hb hr hlocks rfl hK hP hD hS ⟨(congrArg Prod.fst e).symm, (congrArg Prod.snd e).symm⟩ dX_first_77
          · have e := e.trans (if_pos c_5)
            refine lv_iconst (v := 1) hx hb dX_first_56 (by decide) ?_
            exact kb_zret (wf := mw h cZ) hx hb hr hlocks rfl hK hP hD hS ⟨(congrArg Prod.fst e).symm, (congrArg Prod.snd e).symm⟩ dX_first_57
        · have e := e.trans (if_neg c_4)
          refine lv_iconst (v := 0) hx hb dX_first_47 (by decide) ?_
          exact kb_zret (wf := mw h cZ) hx hb hr hlocks rfl hK hP hD hS ⟨(congrArg Prod.fst e).symm, (congrArg Prod.snd e).symm⟩ dX_first_48
      · have e := e.trans (if_pos c_3)
        refine lv_aload_n hx hb dX_first_27 rfl (lv_at hl 0 rfl) ?_
        refine va_get (D := D) (ci := 7) (v := .int (q0.1 29)) (C := "BoilerDeskModel") (T := TX) (N := 43) hx hb hts inX hown hK hP 0 rfl rfl 35 (by decide) (hts _ q_678) (fun _ h9 => h9) rfl dX_first_28 ?_
        refine lv_if_ne (tgt := 38) hx hb dX_first_31 (by decide) (fun c_8 => ?_) (fun c_8 => ?_)
        · have e := e.trans (if_neg c_8)
          refine lv_iconst (v := 0) hx hb dX_first_38 (by decide) ?_
          exact kb_zret (wf := mw h cZ) hx hb hr hlocks rfl hK hP hD hS ⟨(congrArg Prod.fst e).symm, (congrArg Prod.snd e).symm⟩ dX_first_39
        · have e := e.trans (if_pos c_8)
          refine lv_iconst (v := 1) hx hb dX_first_34 (by decide) ?_
          refine lv_goto (tgt := 39) hx hb dX_first_35 (by decide) ?_
          exact kb_zret (wf := mw h cZ) hx hb hr hlocks rfl hK hP hD hS ⟨(congrArg Prod.fst e).symm, (congrArg Prod.snd e).symm⟩ dX_first_39
    · have e := e.trans (if_neg c_2)
      exact k_18 q0 _ _ _ e hP hD hS (lv_sub hl [0] rfl)
/-- BoilerDeskModel.others()Z -/
def K_X_others_53  (q : (Nat → Int32) × (Nat → Nat → Int32))  : Int32 × ((Nat → Int32) × (Nat → Nat → Int32)) := (0, q)
def K_X_others_22  (q : (Nat → Int32) × (Nat → Nat → Int32))  : Int32 × ((Nat → Int32) × (Nat → Nat → Int32)) := (0, q)
def F_X_others (q0 : (Nat → Int32) × (Nat → Nat → Int32))  : Int32 × ((Nat → Int32) × (Nat → Nat → Int32)) := (if (q0.1 12) ≤ (q0.1 2) then K_X_others_22 q0 else (if (q0.1 13) < (q0.1 5) then (if ((q0.2 0) ((0 : Int32)).toNatClampNeg) = (0 : Int32) then (if (F_X_some_0 q0) = (0 : Int32) then (1, ((up q0.1 10 1), q0.2)) else (1, ((up q0.1 10 2), q0.2))) else (if ((q0.2 0) ((1 : Int32)).toNatClampNeg) = (0 : Int32) then (if (F_X_some_6 q0) = (0 : Int32) then (1, ((up q0.1 10 3), q0.2)) else K_X_others_53 q0) else K_X_others_53 q0)) else K_X_others_22 q0))
set_option maxHeartbeats 4000000 in
set_option maxRecDepth 100000 in
theorem c_X_others (l : Launch) (D : va_G) (h : Nat → Nat) (cZ : ClassId) (sz : Nat) (q0 : (Nat → Int32) × (Nat → Nat → Int32))   : Met l yX_others [.code yX_others cX_others 1 (some .boolean)] ({ frames := 1, cells := 0, slots := 0, locals := 23 }) (va_Pc [.ref (h 0)] (kb_B D [(cZ, .boolean)] (mw h cZ) q0 sz)) (va_Qi (fun r' u' => r' = (F_X_others q0).1 ∧ u' = (F_X_others q0).2) (kb_E D [(cZ, .boolean)] (mw h cZ) (va_A (mw h cZ q0) sz)) (va_A (mw h cZ q0) sz)) 0 0 (va_A (mw h cZ q0) sz) := by
  refine kb_of (cc := cX_others) (maxL := 1) (ret := (some .boolean)) (QcA := fun A => (va_Qi (fun r' u' => r' = (F_X_others q0).1 ∧ u' = (F_X_others q0).2) (kb_E D [(cZ, .boolean)] (mw h cZ) A) A)) (by decide) (Nat.le_of_ble_eq_true rfl) ?_
  intro p e s m below meth c A hx hb hr hlocks hml hown hts hA hN hK hP hD ls hl
  have hS : va_S A s.heap s.heap [] := va_S.rf
  have hl : lv_has ls 1 [(0, .ref (h 0))] := hl
  have k_53 : ∀ (q : (Nat → Int32) × (Nat → Nat → Int32)) (H : Heap) (locs : List Loc) (ls : Array Slot), F_X_others q0 = K_X_others_53 q → va_P D vwCl (mw h cZ q) H → va_D A (mw h cZ q) → va_S A s.heap H locs → lv_has ls 1 [(0, .ref (h 0))] → W p l e ({ frames := 1, cells := 0, slots := 0, locals := 23 }) s m [.ref (h 0)].toArray below meth c H locs 0 0 (MQ below (va_Qi (fun r' u' => r' = (F_X_others q0).1 ∧ u' = (F_X_others q0).2) (kb_E D [(cZ, .boolean)] (mw h cZ) A) A) [.ref (h 0)].toArray s 0 0 A) (F0 m 53 ls []) := by
      intro q H locs ls e hP hD hS hl
      refine lv_iconst (v := 0) hx hb dX_others_53 (by decide) ?_
      exact kb_zret (wf := mw h cZ) hx hb hr hlocks rfl hK hP hD hS ⟨(congrArg Prod.fst e).symm, (congrArg Prod.snd e).symm⟩ dX_others_54
  have k_22 : ∀ (q : (Nat → Int32) × (Nat → Nat → Int32)) (H : Heap) (locs : List Loc) (ls : Array Slot), F_X_others q0 = K_X_others_22 q → va_P D vwCl (mw h cZ q) H → va_D A (mw h cZ q) → va_S A s.heap H locs → lv_has ls 1 [(0, .ref (h 0))] → W p l e ({ frames := 1, cells := 0, slots := 0, locals := 23 }) s m [.ref (h 0)].toArray below meth c H locs 0 0 (MQ below (va_Qi (fun r' u' => r' = (F_X_others q0).1 ∧ u' = (F_X_others q0).2) (kb_E D [(cZ, .boolean)] (mw h cZ) A) A) [.ref (h 0)].toArray s 0 0 A) (F0 m 22 ls []) := by
      intro q H locs ls e hP hD hS hl
      refine lv_iconst (v := 0) hx hb dX_others_22 (by decide) ?_
      exact kb_zret (wf := mw h cZ) hx hb hr hlocks rfl hK hP hD hS ⟨(congrArg Prod.fst e).symm, (congrArg Prod.snd e).symm⟩ dX_others_23
  have e : F_X_others q0 = F_X_others q0 := rfl
  refine lv_aload_n hx hb dX_others_0 rfl (lv_at hl 0 rfl) ?_
  refine va_get (D := D) (ci := 7) (v := .int (q0.1 12)) (C := "BoilerDeskModel") (T := TX) (N := 43) hx hb hts inX hown hK hP 0 rfl rfl 12 (by decide) (hts _ q_655) (fun _ h9 => h9) rfl dX_others_1 ?_
  refine lv_aload_n hx hb dX_others_4 rfl (lv_at hl 0 rfl) ?_
  refine va_get (D := D) (ci := 7) (v := .int (q0.1 2)) (C := "BoilerDeskModel") (T := TX) (N := 43) hx hb hts inX hown hK hP 0 rfl rfl 2 (by decide) (hts _ q_645) (fun _ h9 => h9) rfl dX_others_5 ?_
  refine lv_icmp_le (tgt := 22) hx hb dX_others_8 (by decide) (fun c_1 => ?_) (fun c_1 => ?_)
  · have e := e.trans (if_pos c_1)
    exact k_22 q0 _ _ _ e hP hD hS (lv_sub hl [0] rfl)
  · have e := e.trans (if_neg c_1)
    refine lv_aload_n hx hb dX_others_11 rfl (lv_at hl 0 rfl) ?_
    refine va_get (D := D) (ci := 7) (v := .int (q0.1 13)) (C := "BoilerDeskModel") (T := TX) (N := 43) hx hb hts inX hown hK hP 0 rfl rfl 13 (by decide) (hts _ q_656) (fun _ h9 => h9) rfl dX_others_12 ?_
    refine lv_aload_n hx hb dX_others_15 rfl (lv_at hl 0 rfl) ?_
    refine va_get (D := D) (ci := 7) (v := .int (q0.1 5)) (C := "BoilerDeskModel") (T := TX) (N := 43) hx hb hts inX hown hK hP 0 rfl rfl 5 (by decide) (hts _ q_648) (fun _ h9 => h9) rfl dX_others_16 ?_
    refine lv_icmp_lt (tgt := 24) hx hb dX_others_19 (by decide) (fun c_2 => ?_) (fun c_2 => ?_)
    · have e := e.trans (if_pos c_2)
      refine lv_aload_n hx hb dX_others_24 rfl (lv_at hl 0 rfl) ?_
      refine va_get (D := D) (ci := 7) (v := .ref (h 1)) (C := "BoilerDeskModel") (T := TX) (N := 43) hx hb hts inX hown hK hP 0 rfl rfl 24 (by decide) (hts _ q_667) (fun _ h9 => h9) rfl dX_others_25 ?_
      refine lv_iconst (v := 0) hx hb dX_others_28 (by decide) ?_
      refine va_zald hx hb hK hP 1 0 rfl rfl (by unfold vp_in; decide) dX_others_29 ?_
      refine lv_if_eq (tgt := 63) hx hb dX_others_30 (by decide) (fun c_3 => ?_) (fun c_3 => ?_)
      · have e := e.trans (if_pos c_3)
        refine lv_aload_n hx hb dX_others_63 rfl (lv_at hl 0 rfl) ?_
        refine lv_aload_n hx hb dX_others_64 rfl (lv_at hl 0 rfl) ?_
        refine lv_iconst (v := 0) hx hb dX_others_65 (by decide) ?_
        refine lv_bipush (v := 9) hx hb dX_others_66 (by decide) ?_
        refine kb_calli (wf := mw h cZ) (r := (F_X_some_0 q0)) (u := q0) (va_runV (As := [.int 0, .int 9]) (rest := [.ref (h 0)]) ⟨hx, hb, hml, hown, hts⟩ (c_X_some_0 l D h cZ _ q0) (cwV 2 hts (gd_V q_831 q_833 q_29 q_40 q_834) rfl rfl rfl (by decide +kernel) ⟨Nat.le_of_ble_eq_true rfl, Nat.le_of_ble_eq_true rfl⟩) (kb_preV hN hK hP hD (va_recv hK hP (ci := 7) (q0 := 0) rfl rfl)) rfl rfl hl.1 rfl (lv_room (Nat.le_of_ble_eq_true rfl)) dX_others_68 ⟨Nat.zero_le _, Nat.zero_le _⟩) hP hD hS hA (fun H locs hP hD hS => ?_)
        refine lv_if_eq (tgt := 78) hx hb dX_others_71 (by decide) (fun c_4 => ?_) (fun c_4 => ?_)
        · have e := e.trans (if_pos c_4)
          refine lv_iconst (v := 1) hx hb dX_others_78 (by decide) ?_
          refine kb_put (D := D) (wf := mw h cZ) (w' := ((up q0.1 10 1), q0.2)) (ci := 7) (v := .int 1) (ty := .int) (C := "BoilerDeskModel") (T := TX) (N := 43) hx hb hts inX tyX tyX_ok nmX hown hK hP hD hS 0 rfl rfl 10 (by decide) (hts _ q_653) (fun _ h9 => h9) rfl (by decide +kernel) rfl rfl (Nat.le_of_ble_eq_true rfl) dX_others_79 rfl (fun H locs hP hD hS => ?_)
          refine lv_iconst (v := 1) hx hb dX_others_82 (by decide) ?_
          exact kb_zret (wf := mw h cZ) hx hb hr hlocks rfl hK hP hD hS ⟨(congrArg Prod.fst e).symm, (congrArg Prod.snd e).symm⟩ dX_others_83
        · have e := e.trans (if_neg c_4)
          refine lv_iconst (v := 2) hx hb dX_others_74 (by decide) ?_
          refine lv_goto (tgt := 79) hx hb dX_others_75 (by decide) ?_
          refine kb_put (D := D) (wf := mw h cZ) (w' := ((up q0.1 10 2), q0.2)) (ci := 7) (v := .int 2) (ty := .int) (C := "BoilerDeskModel") (T := TX) (N := 43) hx hb hts inX tyX tyX_ok nmX hown hK hP hD hS 0 rfl rfl 10 (by decide) (hts _ q_653) (fun _ h9 => h9) rfl (by decide +kernel) rfl rfl (Nat.le_of_ble_eq_true rfl) dX_others_79 rfl (fun H locs hP hD hS => ?_)
          refine lv_iconst (v := 1) hx hb dX_others_82 (by decide) ?_
          exact kb_zret (wf := mw h cZ) hx hb hr hlocks rfl hK hP hD hS ⟨(congrArg Prod.fst e).symm, (congrArg Prod.snd e).symm⟩ dX_others_83
      · have e := e.trans (if_neg c_3)
        refine lv_aload_n hx hb dX_others_33 rfl (lv_at hl 0 rfl) ?_
        refine va_get (D := D) (ci := 7) (v := .ref (h 1)) (C := "BoilerDeskModel") (T := TX) (N := 43) hx hb hts inX hown hK hP 0 rfl rfl 24 (by decide) (hts _ q_667) (fun _ h9 => h9) rfl dX_others_34 ?_
        refine lv_iconst (v := 1) hx hb dX_others_37 (by decide) ?_
        refine va_zald hx hb hK hP 1 0 rfl rfl (by unfold vp_in; decide) dX_others_38 ?_
        refine lv_if_ne (tgt := 53) hx hb dX_others_39 (by decide) (fun c_5 => ?_) (fun c_5 => ?_)
        · have e := e.trans (if_neg c_5)
          exact k_53 q0 _ _ _ e hP hD hS (lv_sub hl [0] rfl)
        · have e := e.trans (if_pos c_5)
          refine lv_aload_n hx hb dX_others_42 rfl (lv_at hl 0 rfl) ?_
          refine lv_bipush (v := 6) hx hb dX_others_43 (by decide) ?_
          refine lv_bipush (v := 9) hx hb dX_others_45 (by decide) ?_
          refine kb_calli (wf := mw h cZ) (r := (F_X_some_6 q0)) (u := q0) (va_runV (As := [.int 6, .int 9]) (rest := []) ⟨hx, hb, hml, hown, hts⟩ (c_X_some_6 l D h cZ _ q0) (cwV 2 hts (gd_V q_831 q_833 q_29 q_40 q_834) rfl rfl rfl (by decide +kernel) ⟨Nat.le_of_ble_eq_true rfl, Nat.le_of_ble_eq_true rfl⟩) (kb_preV hN hK hP hD (va_recv hK hP (ci := 7) (q0 := 0) rfl rfl)) rfl rfl hl.1 rfl (lv_room (Nat.le_of_ble_eq_true rfl)) dX_others_47 ⟨Nat.zero_le _, Nat.zero_le _⟩) hP hD hS hA (fun H locs hP hD hS => ?_)
          refine lv_if_eq (tgt := 55) hx hb dX_others_50 (by decide) (fun c_6 => ?_) (fun c_6 => ?_)
          · have e := e.trans (if_pos c_6)
            refine lv_aload_n hx hb dX_others_55 rfl (lv_at hl 0 rfl) ?_
            refine lv_iconst (v := 3) hx hb dX_others_56 (by decide) ?_
            refine kb_put (D := D) (wf := mw h cZ) (w' := ((up q0.1 10 3), q0.2)) (ci := 7) (v := .int 3) (ty := .int) (C := "BoilerDeskModel") (T := TX) (N := 43) hx hb hts inX tyX tyX_ok nmX hown hK hP hD hS 0 rfl rfl 10 (by decide) (hts _ q_653) (fun _ h9 => h9) rfl (by decide +kernel) rfl rfl (Nat.le_of_ble_eq_true rfl) dX_others_57 rfl (fun H locs hP hD hS => ?_)
            refine lv_goto (tgt := 82) hx hb dX_others_60 (by decide) ?_
            refine lv_iconst (v := 1) hx hb dX_others_82 (by decide) ?_
            exact kb_zret (wf := mw h cZ) hx hb hr hlocks rfl hK hP hD hS ⟨(congrArg Prod.fst e).symm, (congrArg Prod.snd e).symm⟩ dX_others_83
          · have e := e.trans (if_neg c_6)
            exact k_53 q0 _ _ _ e hP hD hS (lv_sub hl [0] rfl)
    · have e := e.trans (if_neg c_2)
      exact k_22 q0 _ _ _ e hP hD hS (lv_sub hl [0] rfl)
/-- BoilerDeskModel.command()V -/
def K_X_command_276  : Nat → Nat → ((Nat → Int32) × (Nat → Nat → Int32)) → Int32 → ((Nat → Int32) × (Nat → Nat → Int32))
  | 0, _, q, x1 => (if x1 = (q.1 22) then ((up q.1 22 x1), q.2) else (if x1 = (0 : Int32) then ((up (up q.1 20 2) 22 x1), q.2) else ((up (up q.1 20 1) 22 x1), q.2)))
  | n + 1, i, q, x1 => (if ((q.2 11) ((nI i)).toNatClampNeg) = ((q.2 3) ((nI i)).toNatClampNeg) then K_X_command_276 n (i + 1) (q.1, (ub (ub (ub q.2 4 (upd (q.2 4) ((nI i)).toNatClampNeg (vp_nar .boolean ((q.2 3) ((nI i)).toNatClampNeg)))) 3 (upd (q.2 3) ((nI i)).toNatClampNeg (vp_nar .boolean ((q.2 11) ((nI i)).toNatClampNeg)))) 5 (upd (q.2 5) ((nI i)).toNatClampNeg (vp_nar .boolean ((q.2 8) ((nI i)).toNatClampNeg))))) x1 else (if ((q.2 11) ((nI i)).toNatClampNeg) = (0 : Int32) then K_X_command_276 n (i + 1) ((up q.1 19 ((q.1 19) ||| ((16 : Int32) <<< ((nI i) &&& 31)))), (ub (ub (ub q.2 4 (upd (q.2 4) ((nI i)).toNatClampNeg (vp_nar .boolean ((q.2 3) ((nI i)).toNatClampNeg)))) 3 (upd (q.2 3) ((nI i)).toNatClampNeg (vp_nar .boolean ((q.2 11) ((nI i)).toNatClampNeg)))) 5 (upd (q.2 5) ((nI i)).toNatClampNeg (vp_nar .boolean ((q.2 8) ((nI i)).toNatClampNeg))))) x1 else K_X_command_276 n (i + 1) ((up q.1 19 ((q.1 19) ||| ((1 : Int32) <<< ((nI i) &&& 31)))), (ub (ub (ub q.2 4 (upd (q.2 4) ((nI i)).toNatClampNeg (vp_nar .boolean ((q.2 3) ((nI i)).toNatClampNeg)))) 3 (upd (q.2 3) ((nI i)).toNatClampNeg (vp_nar .boolean ((q.2 11) ((nI i)).toNatClampNeg)))) 5 (upd (q.2 5) ((nI i)).toNatClampNeg (vp_nar .boolean ((q.2 8) ((nI i)).toNatClampNeg))))) x1))
def K_X_command_274  (q : (Nat → Int32) × (Nat → Nat → Int32)) (x1 : Int32) : (Nat → Int32) × (Nat → Nat → Int32) := K_X_command_276 4 0 q x1
def K_X_command_226  : Nat → Nat → ((Nat → Int32) × (Nat → Nat → Int32)) → Int32 → Int32 → Int32 → Int32 → ((Nat → Int32) × (Nat → Nat → Int32))
  | 0, _, q, x1, _, _, _ => K_X_command_274 q x1
  | n + 1, i, q, x1, x2, x3, x4 => (if x4 = (0 : Int32) then K_X_command_226 n (i + 1) (q.1, (ub q.2 11 (upd (q.2 11) ((nI i)).toNatClampNeg (vp_nar .boolean 0)))) x1 x2 x3 x4 else (if ((q.2 0) (((2 : Int32) + (nI i))).toNatClampNeg) = (0 : Int32) then K_X_command_226 n (i + 1) (q.1, (ub q.2 11 (upd (q.2 11) ((nI i)).toNatClampNeg (vp_nar .boolean 1)))) x1 x2 x3 x4 else K_X_command_226 n (i + 1) q x1 x2 x3 x4))
def K_X_command_223  (q : (Nat → Int32) × (Nat → Nat → Int32)) (x1 : Int32) (x2 : Int32) (x3 : Int32) (x4 : Int32) : (Nat → Int32) × (Nat → Nat → Int32) := K_X_command_226 4 0 q x1 x2 x3 x4
def K_X_command_213  (q : (Nat → Int32) × (Nat → Nat → Int32)) (x1 : Int32) (x2 : Int32) (x3 : Int32) (y0 : Int32) : (Nat → Int32) × (Nat → Nat → Int32) := (if x2 = (0 : Int32) then (if x3 = (0 : Int32) then K_X_command_274 q x1 else K_X_command_223 q x1 x2 x3 y0) else K_X_command_223 q x1 x2 x3 y0)
def K_X_command_212  (q : (Nat → Int32) × (Nat → Nat → Int32)) (x1 : Int32) (x2 : Int32) (x3 : Int32) : (Nat → Int32) × (Nat → Nat → Int32) := K_X_command_213 q x1 x2 x3 (0 : Int32)
def K_X_command_208  (q : (Nat → Int32) × (Nat → Nat → Int32)) (x1 : Int32) (x2 : Int32) (x3 : Int32) : (Nat → Int32) × (Nat → Nat → Int32) := K_X_command_213 q x1 x2 x3 (1 : Int32)
def K_X_command_178  (q : (Nat → Int32) × (Nat → Nat → Int32)) (x1 : Int32) (x2 : Int32) (y0 : Int32) : (Nat → Int32) × (Nat → Nat → Int32) := (if y0 = (0 : Int32) then K_X_command_212 q x1 x2 y0 else (if x2 = (0 : Int32) then K_X_command_208 q x1 x2 y0 else (if ((q.1 3) - (q.1 12)) ≤ ((q.1 13) - (q.1 4)) then K_X_command_212 q x1 x2 y0 else K_X_command_208 q x1 x2 y0)))
def K_X_command_161  (q : (Nat → Int32) × (Nat → Nat → Int32)) (x1 : Int32) (y0 : Int32) : (Nat → Int32) × (Nat → Nat → Int32) := (if (q.1 3) ≤ (q.1 12) then K_X_command_178 q x1 y0 (0 : Int32) else K_X_command_178 q x1 y0 (1 : Int32))
def K_X_command_63  : Nat → Nat → ((Nat → Int32) × (Nat → Nat → Int32)) → Int32 → ((Nat → Int32) × (Nat → Nat → Int32))
  | 0, _, q, x1 => (if (F_X_in (q.1 24) (q.1 3) (q.1 4)) = (0 : Int32) then K_X_command_274 ((up q.1 21 0), q.2) x1 else K_X_command_274 ((up q.1 21 1), q.2) x1)
  | n + 1, i, q, x1 => (if (q.1 24) < (q.1 3) then (if ((q.2 0) (((2 : Int32) + (nI i))).toNatClampNeg) = (0 : Int32) then K_X_command_63 n (i + 1) (q.1, (ub q.2 11 (upd (q.2 11) ((nI i)).toNatClampNeg (vp_nar .boolean 1)))) x1 else K_X_command_63 n (i + 1) q x1) else K_X_command_63 n (i + 1) (q.1, (ub q.2 11 (upd (q.2 11) ((nI i)).toNatClampNeg (vp_nar .boolean 0)))) x1)
def K_X_command_2  : Nat → Nat → ((Nat → Int32) × (Nat → Nat → Int32)) → ((Nat → Int32) × (Nat → Nat → Int32))
  | 0, _, q => (if (q.1 10) = (0 : Int32) then (if (q.1 23) = (0 : Int32) then K_X_command_274 q (q.1 22) else (if (q.1 24) ≤ (q.1 4) then K_X_command_63 4 0 q (0 : Int32) else K_X_command_63 4 0 q (1 : Int32))) else (if (q.1 13) ≤ (q.1 4) then K_X_command_161 q (0 : Int32) (0 : Int32) else K_X_command_161 q (0 : Int32) (1 : Int32)))
  | n + 1, i, q => K_X_command_2 n (i + 1) (q.1, (ub q.2 11 (upd (q.2 11) ((nI i)).toNatClampNeg (vp_nar .boolean ((q.2 3) ((nI i)).toNatClampNeg)))))
def F_X_command (q0 : (Nat → Int32) × (Nat → Nat → Int32))  : (Nat → Int32) × (Nat → Nat → Int32) := K_X_command_2 4 0 q0
set_option maxHeartbeats 4000000 in
set_option maxRecDepth 100000 in
theorem c_X_command (l : Launch) (D : va_G) (h : Nat → Nat) (cZ : ClassId) (sz : Nat) (q0 : (Nat → Int32) × (Nat → Nat → Int32))  (zt22 : q0.1 22 = 0 ∨ q0.1 22 = 1) : Met l yX_command [.code yX_command cX_command 6 none] ({ frames := 1, cells := 0, slots := 0, locals := 22 }) (va_Pc [.ref (h 0)] (kb_B D [(cZ, .boolean)] (mw h cZ) q0 sz)) (va_Qv (fun u' => u' = F_X_command q0) (kb_E D [(cZ, .boolean)] (mw h cZ) (va_A (mw h cZ q0) sz)) (va_A (mw h cZ q0) sz)) 0 0 (va_A (mw h cZ q0) sz) := by
  refine kb_of (cc := cX_command) (maxL := 6) (ret := none) (QcA := fun A => (va_Qv (fun u' => u' = F_X_command q0) (kb_E D [(cZ, .boolean)] (mw h cZ) A) A)) (by decide) (Nat.le_of_ble_eq_true rfl) ?_
  intro p e s m below meth c A hx hb hr hlocks hml hown hts hA hN hK hP hD ls hl
  have hS : va_S A s.heap s.heap [] := va_S.rf
  have hl : lv_has ls 6 [(0, .ref (h 0))] := hl
  have k_276 : ∀ (n i : Nat) (q : (Nat → Int32) × (Nat → Nat → Int32)) (x1 : Int32) (H : Heap) (locs : List Loc) (ls : Array Slot), i + n = 4 → (q.1 22 = 0 ∨ q.1 22 = 1) → (x1 = 0 ∨ x1 = 1) → F_X_command q0 = K_X_command_276 n i q x1 → va_P D vwCl (mw h cZ q) H → va_D A (mw h cZ q) → va_S A s.heap H locs → lv_has ls 6 [(0, .ref (h 0)), (1, .int x1), (2, .int (nI i))] → W p l e ({ frames := 1, cells := 0, slots := 0, locals := 22 }) s m [.ref (h 0)].toArray below meth c H locs 0 0 (MQ below (va_Qv (fun u' => u' = F_X_command q0) (kb_E D [(cZ, .boolean)] (mw h cZ) A) A) [.ref (h 0)].toArray s 0 0 A) (F0 m 276 ls []) := by
    intro n
    induction n with
    | zero =>
      intro i q x1 H locs ls hin zs22 zx1 e hP hD hS hl
      obtain rfl : i = 4 := by omega
      refine lv_iload_n hx hb dX_command_276 rfl (lv_at hl 2 rfl) ?_
      refine lv_iconst (v := 4) hx hb dX_command_277 (by decide) ?_
      refine lv_icmp_ge (tgt := 366) hx hb dX_command_278 (by decide) (fun _ => ?_) (fun c9 => absurd (by decide) c9)
      refine lv_iload_n hx hb dX_command_366 rfl (lv_at hl 1 rfl) ?_
      refine lv_aload_n hx hb dX_command_367 rfl (lv_at hl 0 rfl) ?_
      refine va_get (D := D) (ci := 7) (v := .int (q.1 22)) (C := "BoilerDeskModel") (T := TX) (N := 43) hx hb hts inX hown hK hP 0 rfl rfl 22 (by decide) (hts _ q_665) (fun _ h9 => h9) rfl dX_command_368 ?_
      refine lv_icmp_eq (tgt := 387) hx hb dX_command_371 (by decide) (fun c_1 => ?_) (fun c_1 => ?_)
      · have e := e.trans (if_pos c_1)
        refine lv_aload_n hx hb dX_command_387 rfl (lv_at hl 0 rfl) ?_
        refine lv_iload_n hx hb dX_command_388 rfl (lv_at hl 1 rfl) ?_
        refine kb_put (D := D) (wf := mw h cZ) (w' := ((up q.1 22 x1), q.2)) (ci := 7) (v := .int x1) (ty := .boolean) (C := "BoilerDeskModel") (T := TX) (N := 43) hx hb hts inX tyX tyX_ok nmX hown hK hP hD hS 0 rfl rfl 22 (by decide) (hts _ q_665) (fun _ h9 => h9) rfl (by decide +kernel) (zb_n zx1) (zb_f zx1) (Nat.le_of_ble_eq_true rfl) dX_command_389 rfl (fun H locs hP hD hS => ?_)
        exact kb_vret (wf := mw h cZ) hx hb hr hlocks hK hP hD hS e.symm dX_command_392
      · have e := e.trans (if_neg c_1)
        refine lv_aload_n hx hb dX_command_374 rfl (lv_at hl 0 rfl) ?_
        refine lv_iload_n hx hb dX_command_375 rfl (lv_at hl 1 rfl) ?_
        refine lv_if_eq (tgt := 383) hx hb dX_command_376 (by decide) (fun c_2 => ?_) (fun c_2 => ?_)
        · have e := e.trans (if_pos c_2)
          refine lv_iconst (v := 2) hx hb dX_command_383 (by decide) ?_
          refine kb_put (D := D) (wf := mw h cZ) (w' := ((up q.1 20 2), q.2)) (ci := 7) (v := .int 2) (ty := .int) (C := "BoilerDeskModel") (T := TX) (N := 43) hx hb hts inX tyX tyX_ok nmX hown hK hP hD hS 0 rfl rfl 20 (by decide) (hts _ q_663) (fun _ h9 => h9) rfl (by decide +kernel) rfl rfl (Nat.le_of_ble_eq_true rfl) dX_command_384 rfl (fun H locs hP hD hS => ?_)
          refine lv_aload_n hx hb dX_command_387 rfl (lv_at hl 0 rfl) ?_
          refine lv_iload_n hx hb dX_command_388 rfl (lv_at hl 1 rfl) ?_
          refine kb_put (D := D) (wf := mw h cZ) (w' := ((up (up q.1 20 2) 22 x1), q.2)) (ci := 7) (v := .int x1) (ty := .boolean) (C := "BoilerDeskModel") (T := TX) (N := 43) hx hb hts inX tyX tyX_ok nmX hown hK hP hD hS 0 rfl rfl 22 (by decide) (hts _ q_665) (fun _ h9 => h9) rfl (by decide +kernel) (zb_n zx1) (zb_f zx1) (Nat.le_of_ble_eq_true rfl) dX_command_389 rfl (fun H locs hP hD hS => ?_)
          exact kb_vret (wf := mw h cZ) hx hb hr hlocks hK hP hD hS e.symm dX_command_392
        · have e := e.trans (if_neg c_2)
          refine lv_iconst (v := 1) hx hb dX_command_379 (by decide) ?_
          refine lv_goto (tgt := 384) hx hb dX_command_380 (by decide) ?_
          refine kb_put (D := D) (wf := mw h cZ) (w' := ((up q.1 20 1), q.2)) (ci := 7) (v := .int 1) (ty := .int) (C := "BoilerDeskModel") (T := TX) (N := 43) hx hb hts inX tyX tyX_ok nmX hown hK hP hD hS 0 rfl rfl 20 (by decide) (hts _ q_663) (fun _ h9 => h9) rfl (by decide +kernel) rfl rfl (Nat.le_of_ble_eq_true rfl) dX_command_384 rfl (fun H locs hP hD hS => ?_)
          refine lv_aload_n hx hb dX_command_387 rfl (lv_at hl 0 rfl) ?_
          refine lv_iload_n hx hb dX_command_388 rfl (lv_at hl 1 rfl) ?_
          refine kb_put (D := D) (wf := mw h cZ) (w' := ((up (up q.1 20 1) 22 x1), q.2)) (ci := 7) (v := .int x1) (ty := .boolean) (C := "BoilerDeskModel") (T := TX) (N := 43) hx hb hts inX tyX tyX_ok nmX hown hK hP hD hS 0 rfl rfl 22 (by decide) (hts _ q_665) (fun _ h9 => h9) rfl (by decide +kernel) (zb_n zx1) (zb_f zx1) (Nat.le_of_ble_eq_true rfl) dX_command_389 rfl (fun H locs hP hD hS => ?_)
          exact kb_vret (wf := mw h cZ) hx hb hr hlocks hK hP hD hS e.symm dX_command_392
    | succ n ih =>
      intro i q x1 H locs ls hin zs22 zx1 e hP hD hS hl
      refine lv_iload_n hx hb dX_command_276 rfl (lv_at hl 2 rfl) ?_
      refine lv_iconst (v := 4) hx hb dX_command_277 (by decide) ?_
      refine lv_icmp_ge (tgt := 366) hx hb dX_command_278 (by decide) (fun c9 => absurd c9 (nI_ge (b := 4) (by omega) (by decide))) (fun _ => ?_)
      refine lv_aload_n hx hb dX_command_281 rfl (lv_at hl 0 rfl) ?_
      refine va_get (D := D) (ci := 7) (v := .ref (h 12)) (C := "BoilerDeskModel") (T := TX) (N := 43) hx hb hts inX hown hK hP 0 rfl rfl 42 (by decide) (hts _ q_685) (fun _ h9 => h9) rfl dX_command_282 ?_
      refine lv_iload_n hx hb dX_command_285 rfl (lv_at hl 2 rfl) ?_
      refine va_zald hx hb hK hP 12 0 rfl rfl (vp_in_nI (by omega) (by decide)) dX_command_286 ?_
      refine lv_aload_n hx hb dX_command_287 rfl (lv_at hl 0 rfl) ?_
      refine va_get (D := D) (ci := 7) (v := .ref (h 4)) (C := "BoilerDeskModel") (T := TX) (N := 43) hx hb hts inX hown hK hP 0 rfl rfl 27 (by decide) (hts _ q_670) (fun _ h9 => h9) rfl dX_command_288 ?_
      refine lv_iload_n hx hb dX_command_291 rfl (lv_at hl 2 rfl) ?_
      refine va_zald hx hb hK hP 4 0 rfl rfl (vp_in_nI (by omega) (by decide)) dX_command_292 ?_
      refine lv_icmp_eq (tgt := 324) hx hb dX_command_293 (by decide) (fun c_3 => ?_) (fun c_3 => ?_)
      · have e := e.trans (if_pos c_3)
        refine lv_aload_n hx hb dX_command_324 rfl (lv_at hl 0 rfl) ?_
        refine va_get (D := D) (ci := 7) (v := .ref (h 5)) (C := "BoilerDeskModel") (T := TX) (N := 43) hx hb hts inX hown hK hP 0 rfl rfl 28 (by decide) (hts _ q_671) (fun _ h9 => h9) rfl dX_command_325 ?_
        refine lv_iload_n hx hb dX_command_328 rfl (lv_at hl 2 rfl) ?_
        refine lv_aload_n hx hb dX_command_329 rfl (lv_at hl 0 rfl) ?_
        refine va_get (D := D) (ci := 7) (v := .ref (h 4)) (C := "BoilerDeskModel") (T := TX) (N := 43) hx hb hts inX hown hK hP 0 rfl rfl 27 (by decide) (hts _ q_670) (fun _ h9 => h9) rfl dX_command_330 ?_
        refine lv_iload_n hx hb dX_command_333 rfl (lv_at hl 2 rfl) ?_
        refine va_zald hx hb hK hP 4 0 rfl rfl (vp_in_nI (by omega) (by decide)) dX_command_334 ?_
        refine kb_zast (D := D) (wf := mw h cZ) (w' := (q.1, (ub q.2 4 (upd (q.2 4) ((nI i)).toNatClampNeg (vp_nar .boolean ((q.2 3) ((nI i)).toNatClampNeg)))))) hx hb hK hP hD hS 5 0 rfl rfl (vp_in_nI (by omega) (by decide)) dX_command_335 rfl (fun H locs hP hD hS => ?_)
        refine lv_aload_n hx hb dX_command_336 rfl (lv_at hl 0 rfl) ?_
        refine va_get (D := D) (ci := 7) (v := .ref (h 4)) (C := "BoilerDeskModel") (T := TX) (N := 43) hx hb hts inX hown hK hP 0 rfl rfl 27 (by decide) (hts _ q_670) (fun _ h9 => h9) rfl dX_command_337 ?_
        refine lv_iload_n hx hb dX_command_340 rfl (lv_at hl 2 rfl) ?_
        refine lv_aload_n hx hb dX_command_341 rfl (lv_at hl 0 rfl) ?_
        refine va_get (D := D) (ci := 7) (v := .ref (h 12)) (C := "BoilerDeskModel") (T := TX) (N := 43) hx hb hts inX hown hK hP 0 rfl rfl 42 (by decide) (hts _ q_685) (fun _ h9 => h9) rfl dX_command_342 ?_
        refine lv_iload_n hx hb dX_command_345 rfl (lv_at hl 2 rfl) ?_
        refine va_zald hx hb hK hP 12 0 rfl rfl (vp_in_nI (by omega) (by decide)) dX_command_346 ?_
        refine kb_zast (D := D) (wf := mw h cZ) (w' := (q.1, (ub (ub q.2 4 (upd (q.2 4) ((nI i)).toNatClampNeg (vp_nar .boolean ((q.2 3) ((nI i)).toNatClampNeg)))) 3 (upd (q.2 3) ((nI i)).toNatClampNeg (vp_nar .boolean ((q.2 11) ((nI i)).toNatClampNeg)))))) hx hb hK hP hD hS 4 0 rfl rfl (vp_in_nI (by omega) (by decide)) dX_command_347 rfl (fun H locs hP hD hS => ?_)
        refine lv_aload_n hx hb dX_command_348 rfl (lv_at hl 0 rfl) ?_
        refine va_get (D := D) (ci := 7) (v := .ref (h 6)) (C := "BoilerDeskModel") (T := TX) (N := 43) hx hb hts inX hown hK hP 0 rfl rfl 29 (by decide) (hts _ q_672) (fun _ h9 => h9) rfl dX_command_349 ?_
        refine lv_iload_n hx hb dX_command_352 rfl (lv_at hl 2 rfl) ?_
        refine lv_aload_n hx hb dX_command_353 rfl (lv_at hl 0 rfl) ?_
        refine va_get (D := D) (ci := 7) (v := .ref (h 9)) (C := "BoilerDeskModel") (T := TX) (N := 43) hx hb hts inX hown hK hP 0 rfl rfl 39 (by decide) (hts _ q_682) (fun _ h9 => h9) rfl dX_command_354 ?_
        refine lv_iload_n hx hb dX_command_357 rfl (lv_at hl 2 rfl) ?_
        refine va_zald hx hb hK hP 9 0 rfl rfl (vp_in_nI (by omega) (by decide)) dX_command_358 ?_
        refine kb_zast (D := D) (wf := mw h cZ) (w' := (q.1, (ub (ub (ub q.2 4 (upd (q.2 4) ((nI i)).toNatClampNeg (vp_nar .boolean ((q.2 3) ((nI i)).toNatClampNeg)))) 3 (upd (q.2 3) ((nI i)).toNatClampNeg (vp_nar .boolean ((q.2 11) ((nI i)).toNatClampNeg)))) 5 (upd (q.2 5) ((nI i)).toNatClampNeg (vp_nar .boolean ((q.2 8) ((nI i)).toNatClampNeg)))))) hx hb hK hP hD hS 6 0 rfl rfl (vp_in_nI (by omega) (by decide)) dX_command_359 rfl (fun H locs hP hD hS => ?_)
        refine lv_iinc (v := (nI (i + 1))) (lv' := [(2, .int (nI (i + 1))), (0, .ref (h 0)), (1, .int x1)]) hx hb dX_command_360 hl (k := 2) rfl (nI_1 i) (by decide) rfl (fun ls hl => ?_)
        refine lv_goto (tgt := 276) hx hb dX_command_363 (by decide) ?_
        exact ih (i + 1) (q.1, (ub (ub (ub q.2 4 (upd (q.2 4) ((nI i)).toNatClampNeg (vp_nar .boolean ((q.2 3) ((nI i)).toNatClampNeg)))) 3 (upd (q.2 3) ((nI i)).toNatClampNeg (vp_nar .boolean ((q.2 11) ((nI i)).toNatClampNeg)))) 5 (upd (q.2 5) ((nI i)).toNatClampNeg (vp_nar .boolean ((q.2 8) ((nI i)).toNatClampNeg))))) x1 _ _ _ (by omega) zs22 zx1 e hP hD hS (lv_sub hl [1, 2, 0] rfl)
      · have e := e.trans (if_neg c_3)
        refine lv_aload_n hx hb dX_command_296 rfl (lv_at hl 0 rfl) ?_
        refine lv_dup hx hb dX_command_297 rfl ?_
        refine va_get (D := D) (ci := 7) (v := .int (q.1 19)) (C := "BoilerDeskModel") (T := TX) (N := 43) hx hb hts inX hown hK hP 0 rfl rfl 19 (by decide) (hts _ q_662) (fun _ h9 => h9) rfl dX_command_298 ?_
        refine lv_aload_n hx hb dX_command_301 rfl (lv_at hl 0 rfl) ?_
        refine va_get (D := D) (ci := 7) (v := .ref (h 12)) (C := "BoilerDeskModel") (T := TX) (N := 43) hx hb hts inX hown hK hP 0 rfl rfl 42 (by decide) (hts _ q_685) (fun _ h9 => h9) rfl dX_command_302 ?_
        refine lv_iload_n hx hb dX_command_305 rfl (lv_at hl 2 rfl) ?_
        refine va_zald hx hb hK hP 12 0 rfl rfl (vp_in_nI (by omega) (by decide)) dX_command_306 ?_
        refine lv_if_eq (tgt := 316) hx hb dX_command_307 (by decide) (fun c_4 => ?_) (fun c_4 => ?_)
        · have e := e.trans (if_pos c_4)
          refine lv_bipush (v := 16) hx hb dX_command_316 (by decide) ?_
          refine lv_iload_n hx hb dX_command_318 rfl (lv_at hl 2 rfl) ?_
          refine lv_ishl hx hb dX_command_319 ?_
          refine lv_ior hx hb dX_command_320 ?_
          refine kb_put (D := D) (wf := mw h cZ) (w' := ((up q.1 19 ((q.1 19) ||| ((16 : Int32) <<< ((nI i) &&& 31)))), q.2)) (ci := 7) (v := .int ((q.1 19) ||| ((16 : Int32) <<< ((nI i) &&& 31)))) (ty := .int) (C := "BoilerDeskModel") (T := TX) (N := 43) hx hb hts inX tyX tyX_ok nmX hown hK hP hD hS 0 rfl rfl 19 (by decide) (hts _ q_662) (fun _ h9 => h9) rfl (by decide +kernel) rfl rfl (Nat.le_of_ble_eq_true rfl) dX_command_321 rfl (fun H locs hP hD hS => ?_)
          refine lv_aload_n hx hb dX_command_324 rfl (lv_at hl 0 rfl) ?_
          refine va_get (D := D) (ci := 7) (v := .ref (h 5)) (C := "BoilerDeskModel") (T := TX) (N := 43) hx hb hts inX hown hK hP 0 rfl rfl 28 (by decide) (hts _ q_671) (fun _ h9 => h9) rfl dX_command_325 ?_
          refine lv_iload_n hx hb dX_command_328 rfl (lv_at hl 2 rfl) ?_
          refine lv_aload_n hx hb dX_command_329 rfl (lv_at hl 0 rfl) ?_
          refine va_get (D := D) (ci := 7) (v := .ref (h 4)) (C := "BoilerDeskModel") (T := TX) (N := 43) hx hb hts inX hown hK hP 0 rfl rfl 27 (by decide) (hts _ q_670) (fun _ h9 => h9) rfl dX_command_330 ?_
          refine lv_iload_n hx hb dX_command_333 rfl (lv_at hl 2 rfl) ?_
          refine va_zald hx hb hK hP 4 0 rfl rfl (vp_in_nI (by omega) (by decide)) dX_command_334 ?_
          refine kb_zast (D := D) (wf := mw h cZ) (w' := ((up q.1 19 ((q.1 19) ||| ((16 : Int32) <<< ((nI i) &&& 31)))), (ub q.2 4 (upd (q.2 4) ((nI i)).toNatClampNeg (vp_nar .boolean ((q.2 3) ((nI i)).toNatClampNeg)))))) hx hb hK hP hD hS 5 0 rfl rfl (vp_in_nI (by omega) (by decide)) dX_command_335 rfl (fun H locs hP hD hS => ?_)
          refine lv_aload_n hx hb dX_command_336 rfl (lv_at hl 0 rfl) ?_
          refine va_get (D := D) (ci := 7) (v := .ref (h 4)) (C := "BoilerDeskModel") (T := TX) (N := 43) hx hb hts inX hown hK hP 0 rfl rfl 27 (by decide) (hts _ q_670) (fun _ h9 => h9) rfl dX_command_337 ?_
          refine lv_iload_n hx hb dX_command_340 rfl (lv_at hl 2 rfl) ?_
          refine lv_aload_n hx hb dX_command_341 rfl (lv_at hl 0 rfl) ?_
          refine va_get (D := D) (ci := 7) (v := .ref (h 12)) (C := "BoilerDeskModel") (T := TX) (N := 43) hx hb hts inX hown hK hP 0 rfl rfl 42 (by decide) (hts _ q_685) (fun _ h9 => h9) rfl dX_command_342 ?_
          refine lv_iload_n hx hb dX_command_345 rfl (lv_at hl 2 rfl) ?_
          refine va_zald hx hb hK hP 12 0 rfl rfl (vp_in_nI (by omega) (by decide)) dX_command_346 ?_
          refine kb_zast (D := D) (wf := mw h cZ) (w' := ((up q.1 19 ((q.1 19) ||| ((16 : Int32) <<< ((nI i) &&& 31)))), (ub (ub q.2 4 (upd (q.2 4) ((nI i)).toNatClampNeg (vp_nar .boolean ((q.2 3) ((nI i)).toNatClampNeg)))) 3 (upd (q.2 3) ((nI i)).toNatClampNeg (vp_nar .boolean ((q.2 11) ((nI i)).toNatClampNeg)))))) hx hb hK hP hD hS 4 0 rfl rfl (vp_in_nI (by omega) (by decide)) dX_command_347 rfl (fun H locs hP hD hS => ?_)
          refine lv_aload_n hx hb dX_command_348 rfl (lv_at hl 0 rfl) ?_
          refine va_get (D := D) (ci := 7) (v := .ref (h 6)) (C := "BoilerDeskModel") (T := TX) (N := 43) hx hb hts inX hown hK hP 0 rfl rfl 29 (by decide) (hts _ q_672) (fun _ h9 => h9) rfl dX_command_349 ?_
          refine lv_iload_n hx hb dX_command_352 rfl (lv_at hl 2 rfl) ?_
          refine lv_aload_n hx hb dX_command_353 rfl (lv_at hl 0 rfl) ?_
          refine va_get (D := D) (ci := 7) (v := .ref (h 9)) (C := "BoilerDeskModel") (T := TX) (N := 43) hx hb hts inX hown hK hP 0 rfl rfl 39 (by decide) (hts _ q_682) (fun _ h9 => h9) rfl dX_command_354 ?_
          refine lv_iload_n hx hb dX_command_357 rfl (lv_at hl 2 rfl) ?_
          refine va_zald hx hb hK hP 9 0 rfl rfl (vp_in_nI (by omega) (by decide)) dX_command_358 ?_
          refine kb_zast (D := D) (wf := mw h cZ) (w' := ((up q.1 19 ((q.1 19) ||| ((16 : Int32) <<< ((nI i) &&& 31)))), (ub (ub (ub q.2 4 (upd (q.2 4) ((nI i)).toNatClampNeg (vp_nar .boolean ((q.2 3) ((nI i)).toNatClampNeg)))) 3 (upd (q.2 3) ((nI i)).toNatClampNeg (vp_nar .boolean ((q.2 11) ((nI i)).toNatClampNeg)))) 5 (upd (q.2 5) ((nI i)).toNatClampNeg (vp_nar .boolean ((q.2 8) ((nI i)).toNatClampNeg)))))) hx hb hK hP hD hS 6 0 rfl rfl (vp_in_nI (by omega) (by decide)) dX_command_359 rfl (fun H locs hP hD hS => ?_)
          refine lv_iinc (v := (nI (i + 1))) (lv' := [(2, .int (nI (i + 1))), (0, .ref (h 0)), (1, .int x1)]) hx hb dX_command_360 hl (k := 2) rfl (nI_1 i) (by decide) rfl (fun ls hl => ?_)
          refine lv_goto (tgt := 276) hx hb dX_command_363 (by decide) ?_
          exact ih (i + 1) ((up q.1 19 ((q.1 19) ||| ((16 : Int32) <<< ((nI i) &&& 31)))), (ub (ub (ub q.2 4 (upd (q.2 4) ((nI i)).toNatClampNeg (vp_nar .boolean ((q.2 3) ((nI i)).toNatClampNeg)))) 3 (upd (q.2 3) ((nI i)).toNatClampNeg (vp_nar .boolean ((q.2 11) ((nI i)).toNatClampNeg)))) 5 (upd (q.2 5) ((nI i)).toNatClampNeg (vp_nar .boolean ((q.2 8) ((nI i)).toNatClampNeg))))) x1 _ _ _ (by omega) zs22 zx1 e hP hD hS (lv_sub hl [1, 2, 0] rfl)
        · have e := e.trans (if_neg c_4)
          refine lv_iconst (v := 1) hx hb dX_command_310 (by decide) ?_
          refine lv_iload_n hx hb dX_command_311 rfl (lv_at hl 2 rfl) ?_
          refine lv_ishl hx hb dX_command_312 ?_
          refine lv_goto (tgt := 320) hx hb dX_command_313 (by decide) ?_
          refine lv_ior hx hb dX_command_320 ?_
          refine kb_put (D := D) (wf := mw h cZ) (w' := ((up q.1 19 ((q.1 19) ||| ((1 : Int32) <<< ((nI i) &&& 31)))), q.2)) (ci := 7) (v := .int ((q.1 19) ||| ((1 : Int32) <<< ((nI i) &&& 31)))) (ty := .int) (C := "BoilerDeskModel") (T := TX) (N := 43) hx hb hts inX tyX tyX_ok nmX hown hK hP hD hS 0 rfl rfl 19 (by decide) (hts _ q_662) (fun _ h9 => h9) rfl (by decide +kernel) rfl rfl (Nat.le_of_ble_eq_true rfl) dX_command_321 rfl (fun H locs hP hD hS => ?_)
          refine lv_aload_n hx hb dX_command_324 rfl (lv_at hl 0 rfl) ?_
          refine va_get (D := D) (ci := 7) (v := .ref (h 5)) (C := "BoilerDeskModel") (T := TX) (N := 43) hx hb hts inX hown hK hP 0 rfl rfl 28 (by decide) (hts _ q_671) (fun _ h9 => h9) rfl dX_command_325 ?_
          refine lv_iload_n hx hb dX_command_328 rfl (lv_at hl 2 rfl) ?_
          refine lv_aload_n hx hb dX_command_329 rfl (lv_at hl 0 rfl) ?_
          refine va_get (D := D) (ci := 7) (v := .ref (h 4)) (C := "BoilerDeskModel") (T := TX) (N := 43) hx hb hts inX hown hK hP 0 rfl rfl 27 (by decide) (hts _ q_670) (fun _ h9 => h9) rfl dX_command_330 ?_
          refine lv_iload_n hx hb dX_command_333 rfl (lv_at hl 2 rfl) ?_
          refine va_zald hx hb hK hP 4 0 rfl rfl (vp_in_nI (by omega) (by decide)) dX_command_334 ?_
          refine kb_zast (D := D) (wf := mw h cZ) (w' := ((up q.1 19 ((q.1 19) ||| ((1 : Int32) <<< ((nI i) &&& 31)))), (ub q.2 4 (upd (q.2 4) ((nI i)).toNatClampNeg (vp_nar .boolean ((q.2 3) ((nI i)).toNatClampNeg)))))) hx hb hK hP hD hS 5 0 rfl rfl (vp_in_nI (by omega) (by decide)) dX_command_335 rfl (fun H locs hP hD hS => ?_)
          refine lv_aload_n hx hb dX_command_336 rfl (lv_at hl 0 rfl) ?_
          refine va_get (D := D) (ci := 7) (v := .ref (h 4)) (C := "BoilerDeskModel") (T := TX) (N := 43) hx hb hts inX hown hK hP 0 rfl rfl 27 (by decide) (hts _ q_670) (fun _ h9 => h9) rfl dX_command_337 ?_
          refine lv_iload_n hx hb dX_command_340 rfl (lv_at hl 2 rfl) ?_
          refine lv_aload_n hx hb dX_command_341 rfl (lv_at hl 0 rfl) ?_
          refine va_get (D := D) (ci := 7) (v := .ref (h 12)) (C := "BoilerDeskModel") (T := TX) (N := 43) hx hb hts inX hown hK hP 0 rfl rfl 42 (by decide) (hts _ q_685) (fun _ h9 => h9) rfl dX_command_342 ?_
          refine lv_iload_n hx hb dX_command_345 rfl (lv_at hl 2 rfl) ?_
          refine va_zald hx hb hK hP 12 0 rfl rfl (vp_in_nI (by omega) (by decide)) dX_command_346 ?_
          refine kb_zast (D := D) (wf := mw h cZ) (w' := ((up q.1 19 ((q.1 19) ||| ((1 : Int32) <<< ((nI i) &&& 31)))), (ub (ub q.2 4 (upd (q.2 4) ((nI i)).toNatClampNeg (vp_nar .boolean ((q.2 3) ((nI i)).toNatClampNeg)))) 3 (upd (q.2 3) ((nI i)).toNatClampNeg (vp_nar .boolean ((q.2 11) ((nI i)).toNatClampNeg)))))) hx hb hK hP hD hS 4 0 rfl rfl (vp_in_nI (by omega) (by decide)) dX_command_347 rfl (fun H locs hP hD hS => ?_)
          refine lv_aload_n hx hb dX_command_348 rfl (lv_at hl 0 rfl) ?_
          refine va_get (D := D) (ci := 7) (v := .ref (h 6)) (C := "BoilerDeskModel") (T := TX) (N := 43) hx hb hts inX hown hK hP 0 rfl rfl 29 (by decide) (hts _ q_672) (fun _ h9 => h9) rfl dX_command_349 ?_
          refine lv_iload_n hx hb dX_command_352 rfl (lv_at hl 2 rfl) ?_
          refine lv_aload_n hx hb dX_command_353 rfl (lv_at hl 0 rfl) ?_
          refine va_get (D := D) (ci := 7) (v := .ref (h 9)) (C := "BoilerDeskModel") (T := TX) (N := 43) hx hb hts inX hown hK hP 0 rfl rfl 39 (by decide) (hts _ q_682) (fun _ h9 => h9) rfl dX_command_354 ?_
          refine lv_iload_n hx hb dX_command_357 rfl (lv_at hl 2 rfl) ?_
          refine va_zald hx hb hK hP 9 0 rfl rfl (vp_in_nI (by omega) (by decide)) dX_command_358 ?_
          refine kb_zast (D := D) (wf := mw h cZ) (w' := ((up q.1 19 ((q.1 19) ||| ((1 : Int32) <<< ((nI i) &&& 31)))), (ub (ub (ub q.2 4 (upd (q.2 4) ((nI i)).toNatClampNeg (vp_nar .boolean ((q.2 3) ((nI i)).toNatClampNeg)))) 3 (upd (q.2 3) ((nI i)).toNatClampNeg (vp_nar .boolean ((q.2 11) ((nI i)).toNatClampNeg)))) 5 (upd (q.2 5) ((nI i)).toNatClampNeg (vp_nar .boolean ((q.2 8) ((nI i)).toNatClampNeg)))))) hx hb hK hP hD hS 6 0 rfl rfl (vp_in_nI (by omega) (by decide)) dX_command_359 rfl (fun H locs hP hD hS => ?_)
          refine lv_iinc (v := (nI (i + 1))) (lv' := [(2, .int (nI (i + 1))), (0, .ref (h 0)), (1, .int x1)]) hx hb dX_command_360 hl (k := 2) rfl (nI_1 i) (by decide) rfl (fun ls hl => ?_)
          refine lv_goto (tgt := 276) hx hb dX_command_363 (by decide) ?_
          exact ih (i + 1) ((up q.1 19 ((q.1 19) ||| ((1 : Int32) <<< ((nI i) &&& 31)))), (ub (ub (ub q.2 4 (upd (q.2 4) ((nI i)).toNatClampNeg (vp_nar .boolean ((q.2 3) ((nI i)).toNatClampNeg)))) 3 (upd (q.2 3) ((nI i)).toNatClampNeg (vp_nar .boolean ((q.2 11) ((nI i)).toNatClampNeg)))) 5 (upd (q.2 5) ((nI i)).toNatClampNeg (vp_nar .boolean ((q.2 8) ((nI i)).toNatClampNeg))))) x1 _ _ _ (by omega) zs22 zx1 e hP hD hS (lv_sub hl [1, 2, 0] rfl)
  have k_274 : ∀ (q : (Nat → Int32) × (Nat → Nat → Int32)) (x1 : Int32) (H : Heap) (locs : List Loc) (ls : Array Slot), (q.1 22 = 0 ∨ q.1 22 = 1) → (x1 = 0 ∨ x1 = 1) → F_X_command q0 = K_X_command_274 q x1 → va_P D vwCl (mw h cZ q) H → va_D A (mw h cZ q) → va_S A s.heap H locs → lv_has ls 6 [(0, .ref (h 0)), (1, .int x1)] → W p l e ({ frames := 1, cells := 0, slots := 0, locals := 22 }) s m [.ref (h 0)].toArray below meth c H locs 0 0 (MQ below (va_Qv (fun u' => u' = F_X_command q0) (kb_E D [(cZ, .boolean)] (mw h cZ) A) A) [.ref (h 0)].toArray s 0 0 A) (F0 m 274 ls []) := by
      intro q x1 H locs ls zs22 zx1 e hP hD hS hl
      refine lv_iconst (v := 0) hx hb dX_command_274 (by decide) ?_
      refine lv_istore_n (lv' := [(2, .int 0), (0, .ref (h 0)), (1, .int x1)]) hx hb dX_command_275 rfl hl (by decide) rfl (fun ls hl => ?_)
      exact k_276 4 0 q x1 _ _ _ (by omega) zs22 zx1 e hP hD hS (lv_sub hl [1, 2, 0] rfl)
  have k_226 : ∀ (n i : Nat) (q : (Nat → Int32) × (Nat → Nat → Int32)) (x1 : Int32) (x2 : Int32) (x3 : Int32) (x4 : Int32) (H : Heap) (locs : List Loc) (ls : Array Slot), i + n = 4 → (q.1 22 = 0 ∨ q.1 22 = 1) → (x1 = 0 ∨ x1 = 1) → F_X_command q0 = K_X_command_226 n i q x1 x2 x3 x4 → va_P D vwCl (mw h cZ q) H → va_D A (mw h cZ q) → va_S A s.heap H locs → lv_has ls 6 [(0, .ref (h 0)), (1, .int x1), (2, .int x2), (3, .int x3), (4, .int x4), (5, .int (nI i))] → W p l e ({ frames := 1, cells := 0, slots := 0, locals := 22 }) s m [.ref (h 0)].toArray below meth c H locs 0 0 (MQ below (va_Qv (fun u' => u' = F_X_command q0) (kb_E D [(cZ, .boolean)] (mw h cZ) A) A) [.ref (h 0)].toArray s 0 0 A) (F0 m 226 ls []) := by
    intro n
    induction n with
    | zero =>
      intro i q x1 x2 x3 x4 H locs ls hin zs22 zx1 e hP hD hS hl
      obtain rfl : i = 4 := by omega
      refine lv_iload hx hb dX_command_226 (lv_at hl 5 rfl) ?_
      refine lv_iconst (v := 4) hx hb dX_command_228 (by decide) ?_
      refine lv_icmp_ge (tgt := 274) hx hb dX_command_229 (by decide) (fun _ => ?_) (fun c9 => absurd (by decide) c9)
      exact k_274 q x1 _ _ _ zs22 zx1 e hP hD hS (lv_sub hl [0, 1] rfl)
    | succ n ih =>
      intro i q x1 x2 x3 x4 H locs ls hin zs22 zx1 e hP hD hS hl
      refine lv_iload hx hb dX_command_226 (lv_at hl 5 rfl) ?_
      refine lv_iconst (v := 4) hx hb dX_command_228 (by decide) ?_
      refine lv_icmp_ge (tgt := 274) hx hb dX_command_229 (by decide) (fun c9 => absurd c9 (nI_ge (b := 4) (by omega) (by decide))) (fun _ => ?_)
      refine lv_iload hx hb dX_command_232 (lv_at hl 4 rfl) ?_
      refine lv_if_ne (tgt := 248) hx hb dX_command_234 (by decide) (fun c_5 => ?_) (fun c_5 => ?_)
      · have e := e.trans (if_neg c_5)
        refine lv_aload_n hx hb dX_command_248 rfl (lv_at hl 0 rfl) ?_
        refine va_get (D := D) (ci := 7) (v := .ref (h 1)) (C := "BoilerDeskModel") (T := TX) (N := 43) hx hb hts inX hown hK hP 0 rfl rfl 24 (by decide) (hts _ q_667) (fun _ h9 => h9) rfl dX_command_249 ?_
        refine lv_iconst (v := 2) hx hb dX_command_252 (by decide) ?_
        refine lv_iload hx hb dX_command_253 (lv_at hl 5 rfl) ?_
        refine lv_iadd hx hb dX_command_255 ?_
        refine va_zald hx hb hK hP 1 0 rfl rfl (by rw [show (2 : Int32) + nI i = nI (2 + i) from nI_add 2 i]; exact vp_in_nI (by omega) (by decide)) dX_command_256 ?_
        refine lv_if_ne (tgt := 268) hx hb dX_command_257 (by decide) (fun c_6 => ?_) (fun c_6 => ?_)
        · have e := e.trans (if_neg c_6)
          refine lv_iinc (v := (nI (i + 1))) (lv' := [(5, .int (nI (i + 1))), (0, .ref (h 0)), (1, .int x1), (2, .int x2), (3, .int x3), (4, .int x4)]) hx hb dX_command_268 hl (k := 5) rfl (nI_1 i) (by decide) rfl (fun ls hl => ?_)
          refine lv_goto (tgt := 226) hx hb dX_command_271 (by decide) ?_
          exact ih (i + 1) q x1 x2 x3 x4 _ _ _ (by omega) zs22 zx1 e hP hD hS (lv_sub hl [1, 2, 3, 4, 5, 0] rfl)
        · have e := e.trans (if_pos c_6)
          refine lv_aload_n hx hb dX_command_260 rfl (lv_at hl 0 rfl) ?_
          refine va_get (D := D) (ci := 7) (v := .ref (h 12)) (C := "BoilerDeskModel") (T := TX) (N := 43) hx hb hts inX hown hK hP 0 rfl rfl 42 (by decide) (hts _ q_685) (fun _ h9 => h9) rfl dX_command_261 ?_
          refine lv_iload hx hb dX_command_264 (lv_at hl 5 rfl) ?_
          refine lv_iconst (v := 1) hx hb dX_command_266 (by decide) ?_
          refine kb_zast (D := D) (wf := mw h cZ) (w' := (q.1, (ub q.2 11 (upd (q.2 11) ((nI i)).toNatClampNeg (vp_nar .boolean 1))))) hx hb hK hP hD hS 12 0 rfl rfl (vp_in_nI (by omega) (by decide)) dX_command_267 rfl (fun H locs hP hD hS => ?_)
          refine lv_iinc (v := (nI (i + 1))) (lv' := [(5, .int (nI (i + 1))), (0, .ref (h 0)), (1, .int x1), (2, .int x2), (3, .int x3), (4, .int x4)]) hx hb dX_command_268 hl (k := 5) rfl (nI_1 i) (by decide) rfl (fun ls hl => ?_)
          refine lv_goto (tgt := 226) hx hb dX_command_271 (by decide) ?_
          exact ih (i + 1) (q.1, (ub q.2 11 (upd (q.2 11) ((nI i)).toNatClampNeg (vp_nar .boolean 1)))) x1 x2 x3 x4 _ _ _ (by omega) zs22 zx1 e hP hD hS (lv_sub hl [1, 2, 3, 4, 5, 0] rfl)
      · have e := e.trans (if_pos c_5)
        refine lv_aload_n hx hb dX_command_237 rfl (lv_at hl 0 rfl) ?_
        refine va_get (D := D) (ci := 7) (v := .ref (h 12)) (C := "BoilerDeskModel") (T := TX) (N := 43) hx hb hts inX hown hK hP 0 rfl rfl 42 (by decide) (hts _ q_685) (fun _ h9 => h9) rfl dX_command_238 ?_
        refine lv_iload hx hb dX_command_241 (lv_at hl 5 rfl) ?_
        refine lv_iconst (v := 0) hx hb dX_command_243 (by decide) ?_
        refine kb_zast (D := D) (wf := mw h cZ) (w' := (q.1, (ub q.2 11 (upd (q.2 11) ((nI i)).toNatClampNeg (vp_nar .boolean 0))))) hx hb hK hP hD hS 12 0 rfl rfl (vp_in_nI (by omega) (by decide)) dX_command_244 rfl (fun H locs hP hD hS => ?_)
        refine lv_goto (tgt := 268) hx hb dX_command_245 (by decide) ?_
        refine lv_iinc (v := (nI (i + 1))) (lv' := [(5, .int (nI (i + 1))), (0, .ref (h 0)), (1, .int x1), (2, .int x2), (3, .int x3), (4, .int x4)]) hx hb dX_command_268 hl (k := 5) rfl (nI_1 i) (by decide) rfl (fun ls hl => ?_)
        refine lv_goto (tgt := 226) hx hb dX_command_271 (by decide) ?_
        exact ih (i + 1) (q.1, (ub q.2 11 (upd (q.2 11) ((nI i)).toNatClampNeg (vp_nar .boolean 0)))) x1 x2 x3 x4 _ _ _ (by omega) zs22 zx1 e hP hD hS (lv_sub hl [1, 2, 3, 4, 5, 0] rfl)
  have k_223 : ∀ (q : (Nat → Int32) × (Nat → Nat → Int32)) (x1 : Int32) (x2 : Int32) (x3 : Int32) (x4 : Int32) (H : Heap) (locs : List Loc) (ls : Array Slot), (q.1 22 = 0 ∨ q.1 22 = 1) → (x1 = 0 ∨ x1 = 1) → F_X_command q0 = K_X_command_223 q x1 x2 x3 x4 → va_P D vwCl (mw h cZ q) H → va_D A (mw h cZ q) → va_S A s.heap H locs → lv_has ls 6 [(0, .ref (h 0)), (1, .int x1), (2, .int x2), (3, .int x3), (4, .int x4)] → W p l e ({ frames := 1, cells := 0, slots := 0, locals := 22 }) s m [.ref (h 0)].toArray below meth c H locs 0 0 (MQ below (va_Qv (fun u' => u' = F_X_command q0) (kb_E D [(cZ, .boolean)] (mw h cZ) A) A) [.ref (h 0)].toArray s 0 0 A) (F0 m 223 ls []) := by
      intro q x1 x2 x3 x4 H locs ls zs22 zx1 e hP hD hS hl
      refine lv_iconst (v := 0) hx hb dX_command_223 (by decide) ?_
      refine lv_istore (lv' := [(5, .int 0), (0, .ref (h 0)), (1, .int x1), (2, .int x2), (3, .int x3), (4, .int x4)]) hx hb dX_command_224 hl (by decide) rfl (fun ls hl => ?_)
      exact k_226 4 0 q x1 x2 x3 x4 _ _ _ (by omega) zs22 zx1 e hP hD hS (lv_sub hl [1, 2, 3, 4, 5, 0] rfl)
  have k_213 : ∀ (q : (Nat → Int32) × (Nat → Nat → Int32)) (x1 : Int32) (x2 : Int32) (x3 : Int32) (y0 : Int32) (H : Heap) (locs : List Loc) (ls : Array Slot), (q.1 22 = 0 ∨ q.1 22 = 1) → (x1 = 0 ∨ x1 = 1) → F_X_command q0 = K_X_command_213 q x1 x2 x3 y0 → va_P D vwCl (mw h cZ q) H → va_D A (mw h cZ q) → va_S A s.heap H locs → lv_has ls 6 [(0, .ref (h 0)), (1, .int x1), (2, .int x2), (3, .int x3)] → W p l e ({ frames := 1, cells := 0, slots := 0, locals := 22 }) s m [.ref (h 0)].toArray below meth c H locs 0 0 (MQ below (va_Qv (fun u' => u' = F_X_command q0) (kb_E D [(cZ, .boolean)] (mw h cZ) A) A) [.ref (h 0)].toArray s 0 0 A) (F0 m 213 ls [.int y0]) := by
      intro q x1 x2 x3 y0 H locs ls zs22 zx1 e hP hD hS hl
      refine lv_istore (lv' := [(4, .int y0), (0, .ref (h 0)), (1, .int x1), (2, .int x2), (3, .int x3)]) hx hb dX_command_213 hl (by decide) rfl (fun ls hl => ?_)
      refine lv_iload_n hx hb dX_command_215 rfl (lv_at hl 3 rfl) ?_
      refine lv_if_ne (tgt := 223) hx hb dX_command_216 (by decide) (fun c_7 => ?_) (fun c_7 => ?_)
      · have e := e.trans (if_neg c_7)
        exact k_223 q x1 x2 x3 y0 _ _ _ zs22 zx1 e hP hD hS (lv_sub hl [1, 2, 3, 4, 0] rfl)
      · have e := e.trans (if_pos c_7)
        refine lv_iload_n hx hb dX_command_219 rfl (lv_at hl 4 rfl) ?_
        refine lv_if_eq (tgt := 274) hx hb dX_command_220 (by decide) (fun c_8 => ?_) (fun c_8 => ?_)
        · have e := e.trans (if_pos c_8)
          exact k_274 q x1 _ _ _ zs22 zx1 e hP hD hS (lv_sub hl [1, 2] rfl)
        · have e := e.trans (if_neg c_8)
          exact k_223 q x1 x2 x3 y0 _ _ _ zs22 zx1 e hP hD hS (lv_sub hl [1, 2, 3, 4, 0] rfl)
  have k_212 : ∀ (q : (Nat → Int32) × (Nat → Nat → Int32)) (x1 : Int32) (x2 : Int32) (x3 : Int32) (H : Heap) (locs : List Loc) (ls : Array Slot), (q.1 22 = 0 ∨ q.1 22 = 1) → (x1 = 0 ∨ x1 = 1) → F_X_command q0 = K_X_command_212 q x1 x2 x3 → va_P D vwCl (mw h cZ q) H → va_D A (mw h cZ q) → va_S A s.heap H locs → lv_has ls 6 [(0, .ref (h 0)), (1, .int x1), (2, .int x2), (3, .int x3)] → W p l e ({ frames := 1, cells := 0, slots := 0, locals := 22 }) s m [.ref (h 0)].toArray below meth c H locs 0 0 (MQ below (va_Qv (fun u' => u' = F_X_command q0) (kb_E D [(cZ, .boolean)] (mw h cZ) A) A) [.ref (h 0)].toArray s 0 0 A) (F0 m 212 ls []) := by
      intro q x1 x2 x3 H locs ls zs22 zx1 e hP hD hS hl
      refine lv_iconst (v := 0) hx hb dX_command_212 (by decide) ?_
      exact k_213 q x1 x2 x3 (0 : Int32) _ _ _ zs22 zx1 e hP hD hS (lv_sub hl [0, 1, 2, 3] rfl)
  have k_208 : ∀ (q : (Nat → Int32) × (Nat → Nat → Int32)) (x1 : Int32) (x2 : Int32) (x3 : Int32) (H : Heap) (locs : List Loc) (ls : Array Slot), (q.1 22 = 0 ∨ q.1 22 = 1) → (x1 = 0 ∨ x1 = 1) → F_X_command q0 = K_X_command_208 q x1 x2 x3 → va_P D vwCl (mw h cZ q) H → va_D A (mw h cZ q) → va_S A s.heap H locs → lv_has ls 6 [(0, .ref (h 0)), (1, .int x1), (2, .int x2), (3, .int x3)] → W p l e ({ frames := 1, cells := 0, slots := 0, locals := 22 }) s m [.ref (h 0)].toArray below meth c H locs 0 0 (MQ below (va_Qv (fun u' => u' = F_X_command q0) (kb_E D [(cZ, .boolean)] (mw h cZ) A) A) [.ref (h 0)].toArray s 0 0 A) (F0 m 208 ls []) := by
      intro q x1 x2 x3 H locs ls zs22 zx1 e hP hD hS hl
      refine lv_iconst (v := 1) hx hb dX_command_208 (by decide) ?_
      refine lv_goto (tgt := 213) hx hb dX_command_209 (by decide) ?_
      exact k_213 q x1 x2 x3 (1 : Int32) _ _ _ zs22 zx1 e hP hD hS (lv_sub hl [0, 1, 2, 3] rfl)
  have k_178 : ∀ (q : (Nat → Int32) × (Nat → Nat → Int32)) (x1 : Int32) (x2 : Int32) (y0 : Int32) (H : Heap) (locs : List Loc) (ls : Array Slot), (q.1 22 = 0 ∨ q.1 22 = 1) → (x1 = 0 ∨ x1 = 1) → F_X_command q0 = K_X_command_178 q x1 x2 y0 → va_P D vwCl (mw h cZ q) H → va_D A (mw h cZ q) → va_S A s.heap H locs → lv_has ls 6 [(0, .ref (h 0)), (1, .int x1), (2, .int x2)] → W p l e ({ frames := 1, cells := 0, slots := 0, locals := 22 }) s m [.ref (h 0)].toArray below meth c H locs 0 0 (MQ below (va_Qv (fun u' => u' = F_X_command q0) (kb_E D [(cZ, .boolean)] (mw h cZ) A) A) [.ref (h 0)].toArray s 0 0 A) (F0 m 178 ls [.int y0]) := by
      intro q x1 x2 y0 H locs ls zs22 zx1 e hP hD hS hl
      refine lv_istore_n (lv' := [(3, .int y0), (0, .ref (h 0)), (1, .int x1), (2, .int x2)]) hx hb dX_command_178 rfl hl (by decide) rfl (fun ls hl => ?_)
      refine lv_iload_n hx hb dX_command_179 rfl (lv_at hl 0 rfl) ?_
      refine lv_if_eq (tgt := 212) hx hb dX_command_180 (by decide) (fun c_9 => ?_) (fun c_9 => ?_)
      · have e := e.trans (if_pos c_9)
        exact k_212 q x1 x2 y0 _ _ _ zs22 zx1 e hP hD hS (lv_sub hl [1, 2, 3, 0] rfl)
      · have e := e.trans (if_neg c_9)
        refine lv_iload_n hx hb dX_command_183 rfl (lv_at hl 3 rfl) ?_
        refine lv_if_eq (tgt := 208) hx hb dX_command_184 (by decide) (fun c_10 => ?_) (fun c_10 => ?_)
        · have e := e.trans (if_pos c_10)
          exact k_208 q x1 x2 y0 _ _ _ zs22 zx1 e hP hD hS (lv_sub hl [1, 2, 3, 0] rfl)
        · have e := e.trans (if_neg c_10)
          refine lv_aload_n hx hb dX_command_187 rfl (lv_at hl 1 rfl) ?_
          refine va_get (D := D) (ci := 7) (v := .int (q.1 3)) (C := "BoilerDeskModel") (T := TX) (N := 43) hx hb hts inX hown hK hP 0 rfl rfl 3 (by decide) (hts _ q_646) (fun _ h9 => h9) rfl dX_command_188 ?_
          refine lv_aload_n hx hb dX_command_191 rfl (lv_at hl 1 rfl) ?_
          refine va_get (D := D) (ci := 7) (v := .int (q.1 12)) (C := "BoilerDeskModel") (T := TX) (N := 43) hx hb hts inX hown hK hP 0 rfl rfl 12 (by decide) (hts _ q_655) (fun _ h9 => h9) rfl dX_command_192 ?_
          refine lv_isub hx hb dX_command_195 ?_
          refine lv_aload_n hx hb dX_command_196 rfl (lv_at hl 1 rfl) ?_
          refine va_get (D := D) (ci := 7) (v := .int (q.1 13)) (C := "BoilerDeskModel") (T := TX) (N := 43) hx hb hts inX hown hK hP 0 rfl rfl 13 (by decide) (hts _ q_656) (fun _ h9 => h9) rfl dX_command_197 ?_
          refine lv_aload_n hx hb dX_command_200 rfl (lv_at hl 1 rfl) ?_
          refine va_get (D := D) (ci := 7) (v := .int (q.1 4)) (C := "BoilerDeskModel") (T := TX) (N := 43) hx hb hts inX hown hK hP 0 rfl rfl 4 (by decide) (hts _ q_647) (fun _ h9 => h9) rfl dX_command_201 ?_
          refine lv_isub hx hb dX_command_204 ?_
          refine lv_icmp_le (tgt := 212) hx hb dX_command_205 (by decide) (fun c_11 => ?_) (fun c_11 => ?_)
          · have e := e.trans (if_pos c_11)
            exact k_212 q x1 x2 y0 _ _ _ zs22 zx1 e hP hD hS (lv_sub hl [1, 2, 3, 0] rfl)
          · have e := e.trans (if_neg c_11)
            exact k_208 q x1 x2 y0 _ _ _ zs22 zx1 e hP hD hS (lv_sub hl [1, 2, 3, 0] rfl)
  have k_161 : ∀ (q : (Nat → Int32) × (Nat → Nat → Int32)) (x1 : Int32) (y0 : Int32) (H : Heap) (locs : List Loc) (ls : Array Slot), (q.1 22 = 0 ∨ q.1 22 = 1) → (x1 = 0 ∨ x1 = 1) → F_X_command q0 = K_X_command_161 q x1 y0 → va_P D vwCl (mw h cZ q) H → va_D A (mw h cZ q) → va_S A s.heap H locs → lv_has ls 6 [(0, .ref (h 0)), (1, .int x1)] → W p l e ({ frames := 1, cells := 0, slots := 0, locals := 22 }) s m [.ref (h 0)].toArray below meth c H locs 0 0 (MQ below (va_Qv (fun u' => u' = F_X_command q0) (kb_E D [(cZ, .boolean)] (mw h cZ) A) A) [.ref (h 0)].toArray s 0 0 A) (F0 m 161 ls [.int y0]) := by
      intro q x1 y0 H locs ls zs22 zx1 e hP hD hS hl
      refine lv_istore_n (lv' := [(2, .int y0), (0, .ref (h 0)), (1, .int x1)]) hx hb dX_command_161 rfl hl (by decide) rfl (fun ls hl => ?_)
      refine lv_aload_n hx hb dX_command_162 rfl (lv_at hl 1 rfl) ?_
      refine va_get (D := D) (ci := 7) (v := .int (q.1 12)) (C := "BoilerDeskModel") (T := TX) (N := 43) hx hb hts inX hown hK hP 0 rfl rfl 12 (by decide) (hts _ q_655) (fun _ h9 => h9) rfl dX_command_163 ?_
      refine lv_aload_n hx hb dX_command_166 rfl (lv_at hl 1 rfl) ?_
      refine va_get (D := D) (ci := 7) (v := .int (q.1 3)) (C := "BoilerDeskModel") (T := TX) (N := 43) hx hb hts inX hown hK hP 0 rfl rfl 3 (by decide) (hts _ q_646) (fun _ h9 => h9) rfl dX_command_167 ?_
      refine lv_icmp_ge (tgt := 177) hx hb dX_command_170 (by decide) (fun c_12 => ?_) (fun c_12 => ?_)
      · have e := e.trans (if_pos c_12)
        refine lv_iconst (v := 0) hx hb dX_command_177 (by decide) ?_
        exact k_178 q x1 y0 (0 : Int32) _ _ _ zs22 zx1 e hP hD hS (lv_sub hl [1, 2, 0] rfl)
      · have e := e.trans (if_neg c_12)
        refine lv_iconst (v := 1) hx hb dX_command_173 (by decide) ?_
        refine lv_goto (tgt := 178) hx hb dX_command_174 (by decide) ?_
        exact k_178 q x1 y0 (1 : Int32) _ _ _ zs22 zx1 e hP hD hS (lv_sub hl [1, 2, 0] rfl)
  have k_63 : ∀ (n i : Nat) (q : (Nat → Int32) × (Nat → Nat → Int32)) (x1 : Int32) (H : Heap) (locs : List Loc) (ls : Array Slot), i + n = 4 → (q.1 22 = 0 ∨ q.1 22 = 1) → (x1 = 0 ∨ x1 = 1) → F_X_command q0 = K_X_command_63 n i q x1 → va_P D vwCl (mw h cZ q) H → va_D A (mw h cZ q) → va_S A s.heap H locs → lv_has ls 6 [(0, .ref (h 0)), (1, .int x1), (2, .int (nI i))] → W p l e ({ frames := 1, cells := 0, slots := 0, locals := 22 }) s m [.ref (h 0)].toArray below meth c H locs 0 0 (MQ below (va_Qv (fun u' => u' = F_X_command q0) (kb_E D [(cZ, .boolean)] (mw h cZ) A) A) [.ref (h 0)].toArray s 0 0 A) (F0 m 63 ls []) := by
    intro n
    induction n with
    | zero =>
      intro i q x1 H locs ls hin zs22 zx1 e hP hD hS hl
      obtain rfl : i = 4 := by omega
      refine lv_iload_n hx hb dX_command_63 rfl (lv_at hl 2 rfl) ?_
      refine lv_iconst (v := 4) hx hb dX_command_64 (by decide) ?_
      refine lv_icmp_ge (tgt := 113) hx hb dX_command_65 (by decide) (fun _ => ?_) (fun c9 => absurd (by decide) c9)
      refine lv_aload_n hx hb dX_command_113 rfl (lv_at hl 0 rfl) ?_
      refine lv_aload_n hx hb dX_command_114 rfl (lv_at hl 0 rfl) ?_
      refine va_get (D := D) (ci := 7) (v := .int (q.1 24)) (C := "BoilerDeskModel") (T := TX) (N := 43) hx hb hts inX hown hK hP 0 rfl rfl 30 (by decide) (hts _ q_673) (fun _ h9 => h9) rfl dX_command_115 ?_
      refine lv_aload_n hx hb dX_command_118 rfl (lv_at hl 0 rfl) ?_
      refine va_get (D := D) (ci := 7) (v := .int (q.1 3)) (C := "BoilerDeskModel") (T := TX) (N := 43) hx hb hts inX hown hK hP 0 rfl rfl 3 (by decide) (hts _ q_646) (fun _ h9 => h9) rfl dX_command_119 ?_
      refine lv_aload_n hx hb dX_command_122 rfl (lv_at hl 0 rfl) ?_
      refine va_get (D := D) (ci := 7) (v := .int (q.1 4)) (C := "BoilerDeskModel") (T := TX) (N := 43) hx hb hts inX hown hK hP 0 rfl rfl 4 (by decide) (hts _ q_647) (fun _ h9 => h9) rfl dX_command_123 ?_
      refine kb_call0 (r := (F_X_in (q.1 24) (q.1 3) (q.1 4))) (va_runS (As := [.int (q.1 24), .int (q.1 3), .int (q.1 4)]) (rest := [.ref (h 0)]) ⟨hx, hb, hml, hown, hts⟩ (c_X_in l D _ (q.1 24) (q.1 3) (q.1 4)) (va_cwS 3 hts (gd_S q_784 q_785 q_40 q_786) rfl rfl rfl (by decide +kernel) ⟨Nat.le_of_ble_eq_true rfl, Nat.le_of_ble_eq_true rfl⟩) (kb_pre0 hN hK) rfl rfl hl.1 rfl (lv_room (Nat.le_of_ble_eq_true rfl)) dX_command_126 ⟨Nat.zero_le _, Nat.zero_le _⟩) hP hS hA (fun H locs hP hS => ?_)
      refine lv_if_eq (tgt := 136) hx hb dX_command_129 (by decide) (fun c_13 => ?_) (fun c_13 => ?_)
      · have e := e.trans (if_pos c_13)
        refine lv_iconst (v := 0) hx hb dX_command_136 (by decide) ?_
        refine kb_put (D := D) (wf := mw h cZ) (w' := ((up q.1 21 0), q.2)) (ci := 7) (v := .int 0) (ty := .int) (C := "BoilerDeskModel") (T := TX) (N := 43) hx hb hts inX tyX tyX_ok nmX hown hK hP hD hS 0 rfl rfl 21 (by decide) (hts _ q_664) (fun _ h9 => h9) rfl (by decide +kernel) rfl rfl (Nat.le_of_ble_eq_true rfl) dX_command_137 rfl (fun H locs hP hD hS => ?_)
        refine lv_goto (tgt := 274) hx hb dX_command_140 (by decide) ?_
        exact k_274 ((up q.1 21 0), q.2) x1 _ _ _ zs22 zx1 e hP hD hS (lv_sub hl [0, 1] rfl)
      · have e := e.trans (if_neg c_13)
        refine lv_iconst (v := 1) hx hb dX_command_132 (by decide) ?_
        refine lv_goto (tgt := 137) hx hb dX_command_133 (by decide) ?_
        refine kb_put (D := D) (wf := mw h cZ) (w' := ((up q.1 21 1), q.2)) (ci := 7) (v := .int 1) (ty := .int) (C := "BoilerDeskModel") (T := TX) (N := 43) hx hb hts inX tyX tyX_ok nmX hown hK hP hD hS 0 rfl rfl 21 (by decide) (hts _ q_664) (fun _ h9 => h9) rfl (by decide +kernel) rfl rfl (Nat.le_of_ble_eq_true rfl) dX_command_137 rfl (fun H locs hP hD hS => ?_)
        refine lv_goto (tgt := 274) hx hb dX_command_140 (by decide) ?_
        exact k_274 ((up q.1 21 1), q.2) x1 _ _ _ zs22 zx1 e hP hD hS (lv_sub hl [0, 1] rfl)
    | succ n ih =>
      intro i q x1 H locs ls hin zs22 zx1 e hP hD hS hl
      refine lv_iload_n hx hb dX_command_63 rfl (lv_at hl 2 rfl) ?_
      refine lv_iconst (v := 4) hx hb dX_command_64 (by decide) ?_
      refine lv_icmp_ge (tgt := 113) hx hb dX_command_65 (by decide) (fun c9 => absurd c9 (nI_ge (b := 4) (by omega) (by decide))) (fun _ => ?_)
      refine lv_aload_n hx hb dX_command_68 rfl (lv_at hl 0 rfl) ?_
      refine va_get (D := D) (ci := 7) (v := .int (q.1 24)) (C := "BoilerDeskModel") (T := TX) (N := 43) hx hb hts inX hown hK hP 0 rfl rfl 30 (by decide) (hts _ q_673) (fun _ h9 => h9) rfl dX_command_69 ?_
      refine lv_aload_n hx hb dX_command_72 rfl (lv_at hl 0 rfl) ?_
      refine va_get (D := D) (ci := 7) (v := .int (q.1 3)) (C := "BoilerDeskModel") (T := TX) (N := 43) hx hb hts inX hown hK hP 0 rfl rfl 3 (by decide) (hts _ q_646) (fun _ h9 => h9) rfl dX_command_73 ?_
      refine lv_icmp_lt (tgt := 89) hx hb dX_command_76 (by decide) (fun c_14 => ?_) (fun c_14 => ?_)
      · have e := e.trans (if_pos c_14)
        refine lv_aload_n hx hb dX_command_89 rfl (lv_at hl 0 rfl) ?_
        refine va_get (D := D) (ci := 7) (v := .ref (h 1)) (C := "BoilerDeskModel") (T := TX) (N := 43) hx hb hts inX hown hK hP 0 rfl rfl 24 (by decide) (hts _ q_667) (fun _ h9 => h9) rfl dX_command_90 ?_
        refine lv_iconst (v := 2) hx hb dX_command_93 (by decide) ?_
        refine lv_iload_n hx hb dX_command_94 rfl (lv_at hl 2 rfl) ?_
        refine lv_iadd hx hb dX_command_95 ?_
        refine va_zald hx hb hK hP 1 0 rfl rfl (by rw [show (2 : Int32) + nI i = nI (2 + i) from nI_add 2 i]; exact vp_in_nI (by omega) (by decide)) dX_command_96 ?_
        refine lv_if_ne (tgt := 107) hx hb dX_command_97 (by decide) (fun c_15 => ?_) (fun c_15 => ?_)
        · have e := e.trans (if_neg c_15)
          refine lv_iinc (v := (nI (i + 1))) (lv' := [(2, .int (nI (i + 1))), (0, .ref (h 0)), (1, .int x1)]) hx hb dX_command_107 hl (k := 2) rfl (nI_1 i) (by decide) rfl (fun ls hl => ?_)
          refine lv_goto (tgt := 63) hx hb dX_command_110 (by decide) ?_
          exact ih (i + 1) q x1 _ _ _ (by omega) zs22 zx1 e hP hD hS (lv_sub hl [1, 2, 0] rfl)
        · have e := e.trans (if_pos c_15)
          refine lv_aload_n hx hb dX_command_100 rfl (lv_at hl 0 rfl) ?_
          refine va_get (D := D) (ci := 7) (v := .ref (h 12)) (C := "BoilerDeskModel") (T := TX) (N := 43) hx hb hts inX hown hK hP 0 rfl rfl 42 (by decide) (hts _ q_685) (fun _ h9 => h9) rfl dX_command_101 ?_
          refine lv_iload_n hx hb dX_command_104 rfl (lv_at hl 2 rfl) ?_
          refine lv_iconst (v := 1) hx hb dX_command_105 (by decide) ?_
          refine kb_zast (D := D) (wf := mw h cZ) (w' := (q.1, (ub q.2 11 (upd (q.2 11) ((nI i)).toNatClampNeg (vp_nar .boolean 1))))) hx hb hK hP hD hS 12 0 rfl rfl (vp_in_nI (by omega) (by decide)) dX_command_106 rfl (fun H locs hP hD hS => ?_)
          refine lv_iinc (v := (nI (i + 1))) (lv' := [(2, .int (nI (i + 1))), (0, .ref (h 0)), (1, .int x1)]) hx hb dX_command_107 hl (k := 2) rfl (nI_1 i) (by decide) rfl (fun ls hl => ?_)
          refine lv_goto (tgt := 63) hx hb dX_command_110 (by decide) ?_
          exact ih (i + 1) (q.1, (ub q.2 11 (upd (q.2 11) ((nI i)).toNatClampNeg (vp_nar .boolean 1)))) x1 _ _ _ (by omega) zs22 zx1 e hP hD hS (lv_sub hl [1, 2, 0] rfl)
      · have e := e.trans (if_neg c_14)
        refine lv_aload_n hx hb dX_command_79 rfl (lv_at hl 0 rfl) ?_
        refine va_get (D := D) (ci := 7) (v := .ref (h 12)) (C := "BoilerDeskModel") (T := TX) (N := 43) hx hb hts inX hown hK hP 0 rfl rfl 42 (by decide) (hts _ q_685) (fun _ h9 => h9) rfl dX_command_80 ?_
        refine lv_iload_n hx hb dX_command_83 rfl (lv_at hl 2 rfl) ?_
        refine lv_iconst (v := 0) hx hb dX_command_84 (by decide) ?_
        refine kb_zast (D := D) (wf := mw h cZ) (w' := (q.1, (ub q.2 11 (upd (q.2 11) ((nI i)).toNatClampNeg (vp_nar .boolean 0))))) hx hb hK hP hD hS 12 0 rfl rfl (vp_in_nI (by omega) (by decide)) dX_command_85 rfl (fun H locs hP hD hS => ?_)
        refine lv_goto (tgt := 107) hx hb dX_command_86 (by decide) ?_
        refine lv_iinc (v := (nI (i + 1))) (lv' := [(2, .int (nI (i + 1))), (0, .ref (h 0)), (1, .int x1)]) hx hb dX_command_107 hl (k := 2) rfl (nI_1 i) (by decide) rfl (fun ls hl => ?_)
        refine lv_goto (tgt := 63) hx hb dX_command_110 (by decide) ?_
        exact ih (i + 1) (q.1, (ub q.2 11 (upd (q.2 11) ((nI i)).toNatClampNeg (vp_nar .boolean 0)))) x1 _ _ _ (by omega) zs22 zx1 e hP hD hS (lv_sub hl [1, 2, 0] rfl)
  have k_2 : ∀ (n i : Nat) (q : (Nat → Int32) × (Nat → Nat → Int32)) (H : Heap) (locs : List Loc) (ls : Array Slot), i + n = 4 → (q.1 22 = 0 ∨ q.1 22 = 1) → F_X_command q0 = K_X_command_2 n i q → va_P D vwCl (mw h cZ q) H → va_D A (mw h cZ q) → va_S A s.heap H locs → lv_has ls 6 [(0, .ref (h 0)), (1, .int (nI i))] → W p l e ({ frames := 1, cells := 0, slots := 0, locals := 22 }) s m [.ref (h 0)].toArray below meth c H locs 0 0 (MQ below (va_Qv (fun u' => u' = F_X_command q0) (kb_E D [(cZ, .boolean)] (mw h cZ) A) A) [.ref (h 0)].toArray s 0 0 A) (F0 m 2 ls []) := by
    intro n
    induction n with
    | zero =>
      intro i q H locs ls hin zs22 e hP hD hS hl
      obtain rfl : i = 4 := by omega
      refine lv_iload_n hx hb dX_command_2 rfl (lv_at hl 1 rfl) ?_
      refine lv_iconst (v := 4) hx hb dX_command_3 (by decide) ?_
      refine lv_icmp_ge (tgt := 25) hx hb dX_command_4 (by decide) (fun _ => ?_) (fun c9 => absurd (by decide) c9)
      refine lv_aload_n hx hb dX_command_25 rfl (lv_at hl 0 rfl) ?_
      refine va_get (D := D) (ci := 7) (v := .int (q.1 22)) (C := "BoilerDeskModel") (T := TX) (N := 43) hx hb hts inX hown hK hP 0 rfl rfl 22 (by decide) (hts _ q_665) (fun _ h9 => h9) rfl dX_command_26 ?_
      refine lv_istore_n (lv' := [(1, .int (q.1 22)), (0, .ref (h 0))]) hx hb dX_command_29 rfl hl (by decide) rfl (fun ls hl => ?_)
      refine lv_aload_n hx hb dX_command_30 rfl (lv_at hl 1 rfl) ?_
      refine va_get (D := D) (ci := 7) (v := .int (q.1 10)) (C := "BoilerDeskModel") (T := TX) (N := 43) hx hb hts inX hown hK hP 0 rfl rfl 10 (by decide) (hts _ q_653) (fun _ h9 => h9) rfl dX_command_31 ?_
      refine lv_if_ne (tgt := 143) hx hb dX_command_34 (by decide) (fun c_16 => ?_) (fun c_16 => ?_)
      · have e := e.trans (if_neg c_16)
        refine lv_iconst (v := 0) hx hb dX_command_143 (by decide) ?_
        refine lv_istore_n (lv' := [(1, .int 0), (0, .ref (h 0))]) hx hb dX_command_144 rfl hl (by decide) rfl (fun ls hl => ?_)
        refine lv_aload_n hx hb dX_command_145 rfl (lv_at hl 1 rfl) ?_
        refine va_get (D := D) (ci := 7) (v := .int (q.1 13)) (C := "BoilerDeskModel") (T := TX) (N := 43) hx hb hts inX hown hK hP 0 rfl rfl 13 (by decide) (hts _ q_656) (fun _ h9 => h9) rfl dX_command_146 ?_
        refine lv_aload_n hx hb dX_command_149 rfl (lv_at hl 1 rfl) ?_
        refine va_get (D := D) (ci := 7) (v := .int (q.1 4)) (C := "BoilerDeskModel") (T := TX) (N := 43) hx hb hts inX hown hK hP 0 rfl rfl 4 (by decide) (hts _ q_647) (fun _ h9 => h9) rfl dX_command_150 ?_
        refine lv_icmp_le (tgt := 160) hx hb dX_command_153 (by decide) (fun c_17 => ?_) (fun c_17 => ?_)
        · have e := e.trans (if_pos c_17)
          refine lv_iconst (v := 0) hx hb dX_command_160 (by decide) ?_
          exact k_161 q (0 : Int32) (0 : Int32) _ _ _ zs22 (by decide) e hP hD hS (lv_sub hl [1, 0] rfl)
        · have e := e.trans (if_neg c_17)
          refine lv_iconst (v := 1) hx hb dX_command_156 (by decide) ?_
          refine lv_goto (tgt := 161) hx hb dX_command_157 (by decide) ?_
          exact k_161 q (0 : Int32) (1 : Int32) _ _ _ zs22 (by decide) e hP hD hS (lv_sub hl [1, 0] rfl)
      · have e := e.trans (if_pos c_16)
        refine lv_aload_n hx hb dX_command_37 rfl (lv_at hl 1 rfl) ?_
        refine va_get (D := D) (ci := 7) (v := .int (q.1 23)) (C := "BoilerDeskModel") (T := TX) (N := 43) hx hb hts inX hown hK hP 0 rfl rfl 23 (by decide) (hts _ q_666) (fun _ h9 => h9) rfl dX_command_38 ?_
        refine lv_if_eq (tgt := 274) hx hb dX_command_41 (by decide) (fun c_18 => ?_) (fun c_18 => ?_)
        · have e := e.trans (if_pos c_18)
          exact k_274 q (q.1 22) _ _ _ zs22 zs22 e hP hD hS (lv_sub hl [1, 0] rfl)
        · have e := e.trans (if_neg c_18)
          refine lv_aload_n hx hb dX_command_44 rfl (lv_at hl 1 rfl) ?_
          refine va_get (D := D) (ci := 7) (v := .int (q.1 24)) (C := "BoilerDeskModel") (T := TX) (N := 43) hx hb hts inX hown hK hP 0 rfl rfl 30 (by decide) (hts _ q_673) (fun _ h9 => h9) rfl dX_command_45 ?_
          refine lv_aload_n hx hb dX_command_48 rfl (lv_at hl 1 rfl) ?_
          refine va_get (D := D) (ci := 7) (v := .int (q.1 4)) (C := "BoilerDeskModel") (T := TX) (N := 43) hx hb hts inX hown hK hP 0 rfl rfl 4 (by decide) (hts _ q_647) (fun _ h9 => h9) rfl dX_command_49 ?_
          refine lv_icmp_le (tgt := 59) hx hb dX_command_52 (by decide) (fun c_19 => ?_) (fun c_19 => ?_)
          · have e := e.trans (if_pos c_19)
            refine lv_iconst (v := 0) hx hb dX_command_59 (by decide) ?_
            refine lv_istore_n (lv' := [(1, .int 0), (0, .ref (h 0))]) hx hb dX_command_60 rfl hl (by decide) rfl (fun ls hl => ?_)
            refine lv_iconst (v := 0) hx hb dX_command_61 (by decide) ?_
            refine lv_istore_n (lv' := [(2, .int 0), (1, .int 0), (0, .ref (h 0))]) hx hb dX_command_62 rfl hl (by decide) rfl (fun ls hl => ?_)
            exact k_63 4 0 q (0 : Int32) _ _ _ (by omega) zs22 (by decide) e hP hD hS (lv_sub hl [2, 1, 0] rfl)
          · have e := e.trans (if_neg c_19)
            refine lv_iconst (v := 1) hx hb dX_command_55 (by decide) ?_
            refine lv_goto (tgt := 60) hx hb dX_command_56 (by decide) ?_
            refine lv_istore_n (lv' := [(1, .int 1), (0, .ref (h 0))]) hx hb dX_command_60 rfl hl (by decide) rfl (fun ls hl => ?_)
            refine lv_iconst (v := 0) hx hb dX_command_61 (by decide) ?_
            refine lv_istore_n (lv' := [(2, .int 0), (1, .int 1), (0, .ref (h 0))]) hx hb dX_command_62 rfl hl (by decide) rfl (fun ls hl => ?_)
            exact k_63 4 0 q (1 : Int32) _ _ _ (by omega) zs22 (by decide) e hP hD hS (lv_sub hl [2, 1, 0] rfl)
    | succ n ih =>
      intro i q H locs ls hin zs22 e hP hD hS hl
      refine lv_iload_n hx hb dX_command_2 rfl (lv_at hl 1 rfl) ?_
      refine lv_iconst (v := 4) hx hb dX_command_3 (by decide) ?_
      refine lv_icmp_ge (tgt := 25) hx hb dX_command_4 (by decide) (fun c9 => absurd c9 (nI_ge (b := 4) (by omega) (by decide))) (fun _ => ?_)
      refine lv_aload_n hx hb dX_command_7 rfl (lv_at hl 0 rfl) ?_
      refine va_get (D := D) (ci := 7) (v := .ref (h 12)) (C := "BoilerDeskModel") (T := TX) (N := 43) hx hb hts inX hown hK hP 0 rfl rfl 42 (by decide) (hts _ q_685) (fun _ h9 => h9) rfl dX_command_8 ?_
      refine lv_iload_n hx hb dX_command_11 rfl (lv_at hl 1 rfl) ?_
      refine lv_aload_n hx hb dX_command_12 rfl (lv_at hl 0 rfl) ?_
      refine va_get (D := D) (ci := 7) (v := .ref (h 4)) (C := "BoilerDeskModel") (T := TX) (N := 43) hx hb hts inX hown hK hP 0 rfl rfl 27 (by decide) (hts _ q_670) (fun _ h9 => h9) rfl dX_command_13 ?_
      refine lv_iload_n hx hb dX_command_16 rfl (lv_at hl 1 rfl) ?_
      refine va_zald hx hb hK hP 4 0 rfl rfl (vp_in_nI (by omega) (by decide)) dX_command_17 ?_
      refine kb_zast (D := D) (wf := mw h cZ) (w' := (q.1, (ub q.2 11 (upd (q.2 11) ((nI i)).toNatClampNeg (vp_nar .boolean ((q.2 3) ((nI i)).toNatClampNeg)))))) hx hb hK hP hD hS 12 0 rfl rfl (vp_in_nI (by omega) (by decide)) dX_command_18 rfl (fun H locs hP hD hS => ?_)
      refine lv_iinc (v := (nI (i + 1))) (lv' := [(1, .int (nI (i + 1))), (0, .ref (h 0))]) hx hb dX_command_19 hl (k := 1) rfl (nI_1 i) (by decide) rfl (fun ls hl => ?_)
      refine lv_goto (tgt := 2) hx hb dX_command_22 (by decide) ?_
      exact ih (i + 1) (q.1, (ub q.2 11 (upd (q.2 11) ((nI i)).toNatClampNeg (vp_nar .boolean ((q.2 3) ((nI i)).toNatClampNeg))))) _ _ _ (by omega) zs22 e hP hD hS (lv_sub hl [1, 0] rfl)
  have e : F_X_command q0 = F_X_command q0 := rfl
  refine lv_iconst (v := 0) hx hb dX_command_0 (by decide) ?_
  refine lv_istore_n (lv' := [(1, .int 0), (0, .ref (h 0))]) hx hb dX_command_1 rfl hl (by decide) rfl (fun ls hl => ?_)
  exact k_2 4 0 q0 _ _ _ (by omega) zt22 e hP hD hS (lv_sub hl [1, 0] rfl)
/-- BoilerDeskModel.told(I)I -/
def F_X_told (q0 : (Nat → Int32) × (Nat → Nat → Int32)) (a1 : Int32) : Int32 × ((Nat → Int32) × (Nat → Nat → Int32)) := (if (F_X_in a1 (0 : Int32) (4 : Int32)) = (0 : Int32) then (0, ((up (up q0.1 0 0) 0 1), q0.2)) else (if a1 = (0 : Int32) then ((q0.1 19), ((up q0.1 0 0), q0.2)) else (if a1 = (1 : Int32) then ((q0.1 20), ((up q0.1 0 0), q0.2)) else (if a1 = (2 : Int32) then ((q0.1 17), ((up q0.1 0 0), q0.2)) else (if a1 = (3 : Int32) then ((q0.1 18), ((up q0.1 0 0), q0.2)) else ((q0.1 21), ((up q0.1 0 0), q0.2)))))))
set_option maxHeartbeats 4000000 in
set_option maxRecDepth 100000 in
theorem c_X_told (l : Launch) (D : va_G) (h : Nat → Nat) (cZ : ClassId) (sz : Nat) (q0 : (Nat → Int32) × (Nat → Nat → Int32)) (a1 : Int32)  : Met l yX_told [.code yX_told cX_told 2 (some .int)] ({ frames := 1, cells := 0, slots := 0, locals := 22 }) (va_Pc [.ref (h 0), .int a1] (kb_B D [(cZ, .boolean)] (mw h cZ) q0 sz)) (va_Qi (fun r' u' => r' = (F_X_told q0 a1).1 ∧ u' = (F_X_told q0 a1).2) (kb_E D [(cZ, .boolean)] (mw h cZ) (va_A (mw h cZ q0) sz)) (va_A (mw h cZ q0) sz)) 0 0 (va_A (mw h cZ q0) sz) := by
  refine kb_of (cc := cX_told) (maxL := 2) (ret := (some .int)) (QcA := fun A => (va_Qi (fun r' u' => r' = (F_X_told q0 a1).1 ∧ u' = (F_X_told q0 a1).2) (kb_E D [(cZ, .boolean)] (mw h cZ) A) A)) (by decide) (Nat.le_of_ble_eq_true rfl) ?_
  intro p e s m below meth c A hx hb hr hlocks hml hown hts hA hN hK hP hD ls hl
  have hS : va_S A s.heap s.heap [] := va_S.rf
  have hl : lv_has ls 2 [(0, .ref (h 0)), (1, .int a1)] := hl
  have e : F_X_told q0 a1 = F_X_told q0 a1 := rfl
  refine lv_aload_n hx hb dX_told_0 rfl (lv_at hl 0 rfl) ?_
  refine lv_iconst (v := 0) hx hb dX_told_1 (by decide) ?_
  refine kb_put (D := D) (wf := mw h cZ) (w' := ((up q0.1 0 0), q0.2)) (ci := 7) (v := .int 0) (ty := .int) (C := "BoilerDeskModel") (T := TX) (N := 43) hx hb hts inX tyX tyX_ok nmX hown hK hP hD hS 0 rfl rfl 0 (by decide) (hts _ q_643) (fun _ h9 => h9) rfl (by decide +kernel) rfl rfl (Nat.le_of_ble_eq_true rfl) dX_told_2 rfl (fun H locs hP hD hS => ?_)
  refine lv_aload_n hx hb dX_told_5 rfl (lv_at hl 0 rfl) ?_
  refine lv_iload_n hx hb dX_told_6 rfl (lv_at hl 1 rfl) ?_
  refine lv_iconst (v := 0) hx hb dX_told_7 (by decide) ?_
  refine lv_iconst (v := 4) hx hb dX_told_8 (by decide) ?_
  refine kb_call0 (r := (F_X_in a1 (0 : Int32) (4 : Int32))) (va_runS (As := [.int a1, .int 0, .int 4]) (rest := [.ref (h 0)]) ⟨hx, hb, hml, hown, hts⟩ (c_X_in l D _ a1 (0 : Int32) (4 : Int32)) (va_cwS 3 hts (gd_S q_784 q_785 q_40 q_786) rfl rfl rfl (by decide +kernel) ⟨Nat.le_of_ble_eq_true rfl, Nat.le_of_ble_eq_true rfl⟩) (kb_pre0 hN hK) rfl rfl hl.1 rfl (lv_room (Nat.le_of_ble_eq_true rfl)) dX_told_9 ⟨Nat.zero_le _, Nat.zero_le _⟩) hP hS hA (fun H locs hP hS => ?_)
  refine lv_if_ne (tgt := 19) hx hb dX_told_12 (by decide) (fun c_1 => ?_) (fun c_1 => ?_)
  · have e := e.trans (if_neg c_1)
    refine lv_iconst (v := 0) hx hb dX_told_19 (by decide) ?_
    refine lv_iconst (v := 1) hx hb dX_told_20 (by decide) ?_
    refine kb_calli (wf := mw h cZ) (r := 0) (u := ((up q0.1 0 0), q0.2)) (va_runV (As := [.int 0, .int 1]) (rest := []) ⟨hx, hb, hml, hown, hts⟩ (c_X_fails_0 l D h cZ _ q0.1 q0.2) (cwV 2 hts (gd_V q_787 q_789 q_24 q_40 q_790) rfl rfl rfl (by decide +kernel) ⟨Nat.le_of_ble_eq_true rfl, Nat.le_of_ble_eq_true rfl⟩) (kb_preV hN hK hP hD (va_recv hK hP (ci := 7) (q0 := 0) rfl rfl)) rfl rfl hl.1 rfl (lv_room (Nat.le_of_ble_eq_true rfl)) dX_told_21 ⟨Nat.zero_le _, Nat.zero_le _⟩) hP hD hS hA (fun H locs hP hD hS => ?_)
    refine lv_if_eq (tgt := 29) hx hb dX_told_24 (by decide) (fun _ => ?_) (fun c9 => absurd (by decide) c9)
    refine lv_iload_n hx hb dX_told_29 rfl (lv_at hl 1 rfl) ?_
    refine lv_if_ne (tgt := 40) hx hb dX_told_30 (by decide) (fun c_2 => ?_) (fun c_2 => ?_)
    · have e := e.trans (if_neg c_2)
      refine lv_iload_n hx hb dX_told_40 rfl (lv_at hl 1 rfl) ?_
      refine lv_iconst (v := 1) hx hb dX_told_41 (by decide) ?_
      refine lv_icmp_ne (tgt := 52) hx hb dX_told_42 (by decide) (fun c_3 => ?_) (fun c_3 => ?_)
      · have e := e.trans (if_neg c_3)
        refine lv_iload_n hx hb dX_told_52 rfl (lv_at hl 1 rfl) ?_
        refine lv_iconst (v := 2) hx hb dX_told_53 (by decide) ?_
        refine lv_icmp_ne (tgt := 64) hx hb dX_told_54 (by decide) (fun c_4 => ?_) (fun c_4 => ?_)
        · have e := e.trans (if_neg c_4)
          refine lv_iload_n hx hb dX_told_64 rfl (lv_at hl 1 rfl) ?_
          refine lv_iconst (v := 3) hx hb dX_told_65 (by decide) ?_
          refine lv_icmp_ne (tgt := 76) hx hb dX_told_66 (by decide) (fun c_5 => ?_) (fun c_5 => ?_)
          · have e := e.trans (if_neg c_5)
            refine lv_aload_n hx hb dX_told_76 rfl (lv_at hl 0 rfl) ?_
            refine va_get (D := D) (ci := 7) (v := .int (q0.1 21)) (C := "BoilerDeskModel") (T := TX) (N := 43) hx hb hts inX hown hK hP 0 rfl rfl 21 (by decide) (hts _ q_664) (fun _ h9 => h9) rfl dX_told_77 ?_
            exact kb_iret (wf := mw h cZ) hx hb hr hlocks hK hP hD hS ⟨(congrArg Prod.fst e).symm, (congrArg Prod.snd e).symm⟩ dX_told_80
          · have e := e.trans (if_pos c_5)
            refine lv_aload_n hx hb dX_told_69 rfl (lv_at hl 0 rfl) ?_
            refine va_get (D := D) (ci := 7) (v := .int (q0.1 18)) (C := "BoilerDeskModel") (T := TX) (N := 43) hx hb hts inX hown hK hP 0 rfl rfl 18 (by decide) (hts _ q_661) (fun _ h9 => h9) rfl dX_told_70 ?_
            refine lv_goto (tgt := 80) hx hb dX_told_73 (by decide) ?_
            exact kb_iret (wf := mw h cZ) hx hb hr hlocks hK hP hD hS ⟨(congrArg Prod.fst e).symm, (congrArg Prod.snd e).symm⟩ dX_told_80
        · have e := e.trans (if_pos c_4)
          refine lv_aload_n hx hb dX_told_57 rfl (lv_at hl 0 rfl) ?_
          refine va_get (D := D) (ci := 7) (v := .int (q0.1 17)) (C := "BoilerDeskModel") (T := TX) (N := 43) hx hb hts inX hown hK hP 0 rfl rfl 17 (by decide) (hts _ q_660) (fun _ h9 => h9) rfl dX_told_58 ?_
          refine lv_goto (tgt := 80) hx hb dX_told_61 (by decide) ?_
          exact kb_iret (wf := mw h cZ) hx hb hr hlocks hK hP hD hS ⟨(congrArg Prod.fst e).symm, (congrArg Prod.snd e).symm⟩ dX_told_80
      · have e := e.trans (if_pos c_3)
        refine lv_aload_n hx hb dX_told_45 rfl (lv_at hl 0 rfl) ?_
        refine va_get (D := D) (ci := 7) (v := .int (q0.1 20)) (C := "BoilerDeskModel") (T := TX) (N := 43) hx hb hts inX hown hK hP 0 rfl rfl 20 (by decide) (hts _ q_663) (fun _ h9 => h9) rfl dX_told_46 ?_
        refine lv_goto (tgt := 80) hx hb dX_told_49 (by decide) ?_
        exact kb_iret (wf := mw h cZ) hx hb hr hlocks hK hP hD hS ⟨(congrArg Prod.fst e).symm, (congrArg Prod.snd e).symm⟩ dX_told_80
    · have e := e.trans (if_pos c_2)
      refine lv_aload_n hx hb dX_told_33 rfl (lv_at hl 0 rfl) ?_
      refine va_get (D := D) (ci := 7) (v := .int (q0.1 19)) (C := "BoilerDeskModel") (T := TX) (N := 43) hx hb hts inX hown hK hP 0 rfl rfl 19 (by decide) (hts _ q_662) (fun _ h9 => h9) rfl dX_told_34 ?_
      refine lv_goto (tgt := 80) hx hb dX_told_37 (by decide) ?_
      exact kb_iret (wf := mw h cZ) hx hb hr hlocks hK hP hD hS ⟨(congrArg Prod.fst e).symm, (congrArg Prod.snd e).symm⟩ dX_told_80
  · have e := e.trans (if_pos c_1)
    refine lv_iconst (v := 1) hx hb dX_told_15 (by decide) ?_
    refine lv_goto (tgt := 20) hx hb dX_told_16 (by decide) ?_
    refine lv_iconst (v := 1) hx hb dX_told_20 (by decide) ?_
    refine kb_calli (wf := mw h cZ) (r := 1) (u := ((up (up q0.1 0 0) 0 1), q0.2)) (va_runV (As := [.int 1, .int 1]) (rest := []) ⟨hx, hb, hml, hown, hts⟩ (c_X_fails_1 l D h cZ _ q0.1 q0.2) (cwV 2 hts (gd_V q_787 q_789 q_24 q_40 q_790) rfl rfl rfl (by decide +kernel) ⟨Nat.le_of_ble_eq_true rfl, Nat.le_of_ble_eq_true rfl⟩) (kb_preV hN hK hP hD (va_recv hK hP (ci := 7) (q0 := 0) rfl rfl)) rfl rfl hl.1 rfl (lv_room (Nat.le_of_ble_eq_true rfl)) dX_told_21 ⟨Nat.zero_le _, Nat.zero_le _⟩) hP hD hS hA (fun H locs hP hD hS => ?_)
    refine lv_if_eq (tgt := 29) hx hb dX_told_24 (by decide) (fun c9 => absurd c9 (by decide)) (fun _ => ?_)
    refine lv_iconst (v := 0) hx hb dX_told_27 (by decide) ?_
    exact kb_iret (wf := mw h cZ) hx hb hr hlocks hK hP hD hS ⟨(congrArg Prod.fst e).symm, (congrArg Prod.snd e).symm⟩ dX_told_28
/-- BoilerDeskModel.state(I)I -/
def K_X_state_168 (a1 : Int32) : Nat → Nat → ((Nat → Int32) × (Nat → Nat → Int32)) → Int32 → (Int32 × ((Nat → Int32) × (Nat → Nat → Int32)))
  | 0, _, q, x2 => (x2, q)
  | n + 1, i, q, x2 => (if ((q.2 3) ((nI i)).toNatClampNeg) = (0 : Int32) then K_X_state_168 a1 n (i + 1) q x2 else K_X_state_168 a1 n (i + 1) q (x2 ||| ((1 : Int32) <<< ((nI i) &&& 31))))
def K_X_state_137 (a1 : Int32) : Nat → Nat → ((Nat → Int32) × (Nat → Nat → Int32)) → Int32 → (Int32 × ((Nat → Int32) × (Nat → Nat → Int32)))
  | 0, _, q, x2 => (x2, q)
  | n + 1, i, q, x2 => (if ((q.2 1) ((nI i)).toNatClampNeg) = (0 : Int32) then K_X_state_137 a1 n (i + 1) q x2 else K_X_state_137 a1 n (i + 1) q (x2 ||| ((1 : Int32) <<< ((nI i) &&& 31))))
def K_X_state_106 (a1 : Int32) : Nat → Nat → ((Nat → Int32) × (Nat → Nat → Int32)) → Int32 → (Int32 × ((Nat → Int32) × (Nat → Nat → Int32)))
  | 0, _, q, x2 => (x2, q)
  | n + 1, i, q, x2 => (if ((q.2 0) ((nI i)).toNatClampNeg) = (0 : Int32) then K_X_state_106 a1 n (i + 1) q x2 else K_X_state_106 a1 n (i + 1) q (x2 ||| ((1 : Int32) <<< ((nI i) &&& 31))))
def F_X_state (q0 : (Nat → Int32) × (Nat → Nat → Int32)) (a1 : Int32) : Int32 × ((Nat → Int32) × (Nat → Nat → Int32)) := (if (F_X_in a1 (0 : Int32) (9 : Int32)) = (0 : Int32) then (0, ((up (up q0.1 0 0) 0 1), q0.2)) else (if a1 = 0 then ((q0.1 12), ((up q0.1 0 0), q0.2)) else (if a1 = 1 then ((q0.1 13), ((up q0.1 0 0), q0.2)) else (if a1 = 2 then ((q0.1 14), ((up q0.1 0 0), q0.2)) else (if a1 = 3 then ((q0.1 15), ((up q0.1 0 0), q0.2)) else (if a1 = 4 then K_X_state_106 a1 10 0 ((up q0.1 0 0), q0.2) (0 : Int32) else (if a1 = 5 then K_X_state_137 a1 10 0 ((up q0.1 0 0), q0.2) (0 : Int32) else (if a1 = 6 then K_X_state_168 a1 4 0 ((up q0.1 0 0), q0.2) (0 : Int32) else (if a1 = 7 then (if (q0.1 22) = (0 : Int32) then (0, ((up q0.1 0 0), q0.2)) else (1, ((up q0.1 0 0), q0.2))) else (if a1 = 8 then ((q0.1 10), ((up q0.1 0 0), q0.2)) else ((q0.1 11), ((up q0.1 0 0), q0.2))))))))))))
set_option maxHeartbeats 4000000 in
set_option maxRecDepth 100000 in
theorem c_X_state (l : Launch) (D : va_G) (h : Nat → Nat) (cZ : ClassId) (sz : Nat) (q0 : (Nat → Int32) × (Nat → Nat → Int32)) (a1 : Int32)  : Met l yX_state [.code yX_state cX_state 4 (some .int)] ({ frames := 1, cells := 0, slots := 0, locals := 22 }) (va_Pc [.ref (h 0), .int a1] (kb_B D [(cZ, .boolean)] (mw h cZ) q0 sz)) (va_Qi (fun r' u' => r' = (F_X_state q0 a1).1 ∧ u' = (F_X_state q0 a1).2) (kb_E D [(cZ, .boolean)] (mw h cZ) (va_A (mw h cZ q0) sz)) (va_A (mw h cZ q0) sz)) 0 0 (va_A (mw h cZ q0) sz) := by
  refine kb_of (cc := cX_state) (maxL := 4) (ret := (some .int)) (QcA := fun A => (va_Qi (fun r' u' => r' = (F_X_state q0 a1).1 ∧ u' = (F_X_state q0 a1).2) (kb_E D [(cZ, .boolean)] (mw h cZ) A) A)) (by decide) (Nat.le_of_ble_eq_true rfl) ?_
  intro p e s m below meth c A hx hb hr hlocks hml hown hts hA hN hK hP hD ls hl
  have hS : va_S A s.heap s.heap [] := va_S.rf
  have hl : lv_has ls 4 [(0, .ref (h 0)), (1, .int a1)] := hl
  have k_168 : ∀ (n i : Nat) (q : (Nat → Int32) × (Nat → Nat → Int32)) (x2 : Int32) (H : Heap) (locs : List Loc) (ls : Array Slot), i + n = 4 → F_X_state q0 a1 = K_X_state_168 a1 n i q x2 → va_P D vwCl (mw h cZ q) H → va_D A (mw h cZ q) → va_S A s.heap H locs → lv_has ls 4 [(0, .ref (h 0)), (1, .int a1), (2, .int x2), (3, .int (nI i))] → W p l e ({ frames := 1, cells := 0, slots := 0, locals := 22 }) s m [.ref (h 0), .int a1].toArray below meth c H locs 0 0 (MQ below (va_Qi (fun r' u' => r' = (F_X_state q0 a1).1 ∧ u' = (F_X_state q0 a1).2) (kb_E D [(cZ, .boolean)] (mw h cZ) A) A) [.ref (h 0), .int a1].toArray s 0 0 A) (F0 m 168 ls []) := by
    intro n
    induction n with
    | zero =>
      intro i q x2 H locs ls hin e hP hD hS hl
      obtain rfl : i = 4 := by omega
      refine lv_iload_n hx hb dX_state_168 rfl (lv_at hl 3 rfl) ?_
      refine lv_iconst (v := 4) hx hb dX_state_169 (by decide) ?_
      refine lv_icmp_ge (tgt := 194) hx hb dX_state_170 (by decide) (fun _ => ?_) (fun c9 => absurd (by decide) c9)
      refine lv_iload_n hx hb dX_state_194 rfl (lv_at hl 2 rfl) ?_
      exact kb_iret (wf := mw h cZ) hx hb hr hlocks hK hP hD hS ⟨(congrArg Prod.fst e).symm, (congrArg Prod.snd e).symm⟩ dX_state_195
    | succ n ih =>
      intro i q x2 H locs ls hin e hP hD hS hl
      refine lv_iload_n hx hb dX_state_168 rfl (lv_at hl 3 rfl) ?_
      refine lv_iconst (v := 4) hx hb dX_state_169 (by decide) ?_
      refine lv_icmp_ge (tgt := 194) hx hb dX_state_170 (by decide) (fun c9 => absurd c9 (nI_ge (b := 4) (by omega) (by decide))) (fun _ => ?_)
      refine lv_aload_n hx hb dX_state_173 rfl (lv_at hl 0 rfl) ?_
      refine va_get (D := D) (ci := 7) (v := .ref (h 4)) (C := "BoilerDeskModel") (T := TX) (N := 43) hx hb hts inX hown hK hP 0 rfl rfl 27 (by decide) (hts _ q_670) (fun _ h9 => h9) rfl dX_state_174 ?_
      refine lv_iload_n hx hb dX_state_177 rfl (lv_at hl 3 rfl) ?_
      refine va_zald hx hb hK hP 4 0 rfl rfl (vp_in_nI (by omega) (by decide)) dX_state_178 ?_
      refine lv_if_eq (tgt := 188) hx hb dX_state_179 (by decide) (fun c_1 => ?_) (fun c_1 => ?_)
      · have e := e.trans (if_pos c_1)
        refine lv_iinc (v := (nI (i + 1))) (lv' := [(3, .int (nI (i + 1))), (0, .ref (h 0)), (1, .int a1), (2, .int x2)]) hx hb dX_state_188 hl (k := 3) rfl (nI_1 i) (by decide) rfl (fun ls hl => ?_)
        refine lv_goto (tgt := 168) hx hb dX_state_191 (by decide) ?_
        exact ih (i + 1) q x2 _ _ _ (by omega) e hP hD hS (lv_sub hl [1, 2, 3, 0] rfl)
      · have e := e.trans (if_neg c_1)
        refine lv_iload_n hx hb dX_state_182 rfl (lv_at hl 2 rfl) ?_
        refine lv_iconst (v := 1) hx hb dX_state_183 (by decide) ?_
        refine lv_iload_n hx hb dX_state_184 rfl (lv_at hl 3 rfl) ?_
        refine lv_ishl hx hb dX_state_185 ?_
        refine lv_ior hx hb dX_state_186 ?_
        refine lv_istore_n (lv' := [(2, .int (x2 ||| ((1 : Int32) <<< ((nI i) &&& 31)))), (0, .ref (h 0)), (1, .int a1), (3, .int (nI i))]) hx hb dX_state_187 rfl hl (by decide) rfl (fun ls hl => ?_)
        refine lv_iinc (v := (nI (i + 1))) (lv' := [(3, .int (nI (i + 1))), (2, .int (x2 ||| ((1 : Int32) <<< ((nI i) &&& 31)))), (0, .ref (h 0)), (1, .int a1)]) hx hb dX_state_188 hl (k := 3) rfl (nI_1 i) (by decide) rfl (fun ls hl => ?_)
        refine lv_goto (tgt := 168) hx hb dX_state_191 (by decide) ?_
        exact ih (i + 1) q (x2 ||| ((1 : Int32) <<< ((nI i) &&& 31))) _ _ _ (by omega) e hP hD hS (lv_sub hl [2, 3, 1, 0] rfl)
  have k_137 : ∀ (n i : Nat) (q : (Nat → Int32) × (Nat → Nat → Int32)) (x2 : Int32) (H : Heap) (locs : List Loc) (ls : Array Slot), i + n = 10 → F_X_state q0 a1 = K_X_state_137 a1 n i q x2 → va_P D vwCl (mw h cZ q) H → va_D A (mw h cZ q) → va_S A s.heap H locs → lv_has ls 4 [(0, .ref (h 0)), (1, .int a1), (2, .int x2), (3, .int (nI i))] → W p l e ({ frames := 1, cells := 0, slots := 0, locals := 22 }) s m [.ref (h 0), .int a1].toArray below meth c H locs 0 0 (MQ below (va_Qi (fun r' u' => r' = (F_X_state q0 a1).1 ∧ u' = (F_X_state q0 a1).2) (kb_E D [(cZ, .boolean)] (mw h cZ) A) A) [.ref (h 0), .int a1].toArray s 0 0 A) (F0 m 137 ls []) := by
    intro n
    induction n with
    | zero =>
      intro i q x2 H locs ls hin e hP hD hS hl
      obtain rfl : i = 10 := by omega
      refine lv_iload_n hx hb dX_state_137 rfl (lv_at hl 3 rfl) ?_
      refine lv_bipush (v := 10) hx hb dX_state_138 (by decide) ?_
      refine lv_icmp_ge (tgt := 164) hx hb dX_state_140 (by decide) (fun _ => ?_) (fun c9 => absurd (by decide) c9)
      refine lv_iload_n hx hb dX_state_164 rfl (lv_at hl 2 rfl) ?_
      exact kb_iret (wf := mw h cZ) hx hb hr hlocks hK hP hD hS ⟨(congrArg Prod.fst e).symm, (congrArg Prod.snd e).symm⟩ dX_state_165
    | succ n ih =>
      intro i q x2 H locs ls hin e hP hD hS hl
      refine lv_iload_n hx hb dX_state_137 rfl (lv_at hl 3 rfl) ?_
      refine lv_bipush (v := 10) hx hb dX_state_138 (by decide) ?_
      refine lv_icmp_ge (tgt := 164) hx hb dX_state_140 (by decide) (fun c9 => absurd c9 (nI_ge (b := 10) (by omega) (by decide))) (fun _ => ?_)
      refine lv_aload_n hx hb dX_state_143 rfl (lv_at hl 0 rfl) ?_
      refine va_get (D := D) (ci := 7) (v := .ref (h 2)) (C := "BoilerDeskModel") (T := TX) (N := 43) hx hb hts inX hown hK hP 0 rfl rfl 25 (by decide) (hts _ q_668) (fun _ h9 => h9) rfl dX_state_144 ?_
      refine lv_iload_n hx hb dX_state_147 rfl (lv_at hl 3 rfl) ?_
      refine va_zald hx hb hK hP 2 0 rfl rfl (vp_in_nI (by omega) (by decide)) dX_state_148 ?_
      refine lv_if_eq (tgt := 158) hx hb dX_state_149 (by decide) (fun c_2 => ?_) (fun c_2 => ?_)
      · have e := e.trans (if_pos c_2)
        refine lv_iinc (v := (nI (i + 1))) (lv' := [(3, .int (nI (i + 1))), (0, .ref (h 0)), (1, .int a1), (2, .int x2)]) hx hb dX_state_158 hl (k := 3) rfl (nI_1 i) (by decide) rfl (fun ls hl => ?_)
        refine lv_goto (tgt := 137) hx hb dX_state_161 (by decide) ?_
        exact ih (i + 1) q x2 _ _ _ (by omega) e hP hD hS (lv_sub hl [1, 2, 3, 0] rfl)
      · have e := e.trans (if_neg c_2)
        refine lv_iload_n hx hb dX_state_152 rfl (lv_at hl 2 rfl) ?_
        refine lv_iconst (v := 1) hx hb dX_state_153 (by decide) ?_
        refine lv_iload_n hx hb dX_state_154 rfl (lv_at hl 3 rfl) ?_
        refine lv_ishl hx hb dX_state_155 ?_
        refine lv_ior hx hb dX_state_156 ?_
        refine lv_istore_n (lv' := [(2, .int (x2 ||| ((1 : Int32) <<< ((nI i) &&& 31)))), (0, .ref (h 0)), (1, .int a1), (3, .int (nI i))]) hx hb dX_state_157 rfl hl (by decide) rfl (fun ls hl => ?_)
        refine lv_iinc (v := (nI (i + 1))) (lv' := [(3, .int (nI (i + 1))), (2, .int (x2 ||| ((1 : Int32) <<< ((nI i) &&& 31)))), (0, .ref (h 0)), (1, .int a1)]) hx hb dX_state_158 hl (k := 3) rfl (nI_1 i) (by decide) rfl (fun ls hl => ?_)
        refine lv_goto (tgt := 137) hx hb dX_state_161 (by decide) ?_
        exact ih (i + 1) q (x2 ||| ((1 : Int32) <<< ((nI i) &&& 31))) _ _ _ (by omega) e hP hD hS (lv_sub hl [2, 3, 1, 0] rfl)
  have k_106 : ∀ (n i : Nat) (q : (Nat → Int32) × (Nat → Nat → Int32)) (x2 : Int32) (H : Heap) (locs : List Loc) (ls : Array Slot), i + n = 10 → F_X_state q0 a1 = K_X_state_106 a1 n i q x2 → va_P D vwCl (mw h cZ q) H → va_D A (mw h cZ q) → va_S A s.heap H locs → lv_has ls 4 [(0, .ref (h 0)), (1, .int a1), (2, .int x2), (3, .int (nI i))] → W p l e ({ frames := 1, cells := 0, slots := 0, locals := 22 }) s m [.ref (h 0), .int a1].toArray below meth c H locs 0 0 (MQ below (va_Qi (fun r' u' => r' = (F_X_state q0 a1).1 ∧ u' = (F_X_state q0 a1).2) (kb_E D [(cZ, .boolean)] (mw h cZ) A) A) [.ref (h 0), .int a1].toArray s 0 0 A) (F0 m 106 ls []) := by
    intro n
    induction n with
    | zero =>
      intro i q x2 H locs ls hin e hP hD hS hl
      obtain rfl : i = 10 := by omega
      refine lv_iload_n hx hb dX_state_106 rfl (lv_at hl 3 rfl) ?_
      refine lv_bipush (v := 10) hx hb dX_state_107 (by decide) ?_
      refine lv_icmp_ge (tgt := 133) hx hb dX_state_109 (by decide) (fun _ => ?_) (fun c9 => absurd (by decide) c9)
      refine lv_iload_n hx hb dX_state_133 rfl (lv_at hl 2 rfl) ?_
      exact kb_iret (wf := mw h cZ) hx hb hr hlocks hK hP hD hS ⟨(congrArg Prod.fst e).symm, (congrArg Prod.snd e).symm⟩ dX_state_134
    | succ n ih =>
      intro i q x2 H locs ls hin e hP hD hS hl
      refine lv_iload_n hx hb dX_state_106 rfl (lv_at hl 3 rfl) ?_
      refine lv_bipush (v := 10) hx hb dX_state_107 (by decide) ?_
      refine lv_icmp_ge (tgt := 133) hx hb dX_state_109 (by decide) (fun c9 => absurd c9 (nI_ge (b := 10) (by omega) (by decide))) (fun _ => ?_)
      refine lv_aload_n hx hb dX_state_112 rfl (lv_at hl 0 rfl) ?_
      refine va_get (D := D) (ci := 7) (v := .ref (h 1)) (C := "BoilerDeskModel") (T := TX) (N := 43) hx hb hts inX hown hK hP 0 rfl rfl 24 (by decide) (hts _ q_667) (fun _ h9 => h9) rfl dX_state_113 ?_
      refine lv_iload_n hx hb dX_state_116 rfl (lv_at hl 3 rfl) ?_
      refine va_zald hx hb hK hP 1 0 rfl rfl (vp_in_nI (by omega) (by decide)) dX_state_117 ?_
      refine lv_if_eq (tgt := 127) hx hb dX_state_118 (by decide) (fun c_3 => ?_) (fun c_3 => ?_)
      · have e := e.trans (if_pos c_3)
        refine lv_iinc (v := (nI (i + 1))) (lv' := [(3, .int (nI (i + 1))), (0, .ref (h 0)), (1, .int a1), (2, .int x2)]) hx hb dX_state_127 hl (k := 3) rfl (nI_1 i) (by decide) rfl (fun ls hl => ?_)
        refine lv_goto (tgt := 106) hx hb dX_state_130 (by decide) ?_
        exact ih (i + 1) q x2 _ _ _ (by omega) e hP hD hS (lv_sub hl [1, 2, 3, 0] rfl)
      · have e := e.trans (if_neg c_3)
        refine lv_iload_n hx hb dX_state_121 rfl (lv_at hl 2 rfl) ?_
        refine lv_iconst (v := 1) hx hb dX_state_122 (by decide) ?_
        refine lv_iload_n hx hb dX_state_123 rfl (lv_at hl 3 rfl) ?_
        refine lv_ishl hx hb dX_state_124 ?_
        refine lv_ior hx hb dX_state_125 ?_
        refine lv_istore_n (lv' := [(2, .int (x2 ||| ((1 : Int32) <<< ((nI i) &&& 31)))), (0, .ref (h 0)), (1, .int a1), (3, .int (nI i))]) hx hb dX_state_126 rfl hl (by decide) rfl (fun ls hl => ?_)
        refine lv_iinc (v := (nI (i + 1))) (lv' := [(3, .int (nI (i + 1))), (2, .int (x2 ||| ((1 : Int32) <<< ((nI i) &&& 31)))), (0, .ref (h 0)), (1, .int a1)]) hx hb dX_state_127 hl (k := 3) rfl (nI_1 i) (by decide) rfl (fun ls hl => ?_)
        refine lv_goto (tgt := 106) hx hb dX_state_130 (by decide) ?_
        exact ih (i + 1) q (x2 ||| ((1 : Int32) <<< ((nI i) &&& 31))) _ _ _ (by omega) e hP hD hS (lv_sub hl [2, 3, 1, 0] rfl)
  have e : F_X_state q0 a1 = F_X_state q0 a1 := rfl
  refine lv_aload_n hx hb dX_state_0 rfl (lv_at hl 0 rfl) ?_
  refine lv_iconst (v := 0) hx hb dX_state_1 (by decide) ?_
  refine kb_put (D := D) (wf := mw h cZ) (w' := ((up q0.1 0 0), q0.2)) (ci := 7) (v := .int 0) (ty := .int) (C := "BoilerDeskModel") (T := TX) (N := 43) hx hb hts inX tyX tyX_ok nmX hown hK hP hD hS 0 rfl rfl 0 (by decide) (hts _ q_643) (fun _ h9 => h9) rfl (by decide +kernel) rfl rfl (Nat.le_of_ble_eq_true rfl) dX_state_2 rfl (fun H locs hP hD hS => ?_)
  refine lv_aload_n hx hb dX_state_5 rfl (lv_at hl 0 rfl) ?_
  refine lv_iload_n hx hb dX_state_6 rfl (lv_at hl 1 rfl) ?_
  refine lv_iconst (v := 0) hx hb dX_state_7 (by decide) ?_
  refine lv_bipush (v := 9) hx hb dX_state_8 (by decide) ?_
  refine kb_call0 (r := (F_X_in a1 (0 : Int32) (9 : Int32))) (va_runS (As := [.int a1, .int 0, .int 9]) (rest := [.ref (h 0)]) ⟨hx, hb, hml, hown, hts⟩ (c_X_in l D _ a1 (0 : Int32) (9 : Int32)) (va_cwS 3 hts (gd_S q_784 q_785 q_40 q_786) rfl rfl rfl (by decide +kernel) ⟨Nat.le_of_ble_eq_true rfl, Nat.le_of_ble_eq_true rfl⟩) (kb_pre0 hN hK) rfl rfl hl.1 rfl (lv_room (Nat.le_of_ble_eq_true rfl)) dX_state_10 ⟨Nat.zero_le _, Nat.zero_le _⟩) hP hS hA (fun H locs hP hS => ?_)
  refine lv_if_ne (tgt := 20) hx hb dX_state_13 (by decide) (fun c_4 => ?_) (fun c_4 => ?_)
  · have e := e.trans (if_neg c_4)
    refine lv_iconst (v := 0) hx hb dX_state_20 (by decide) ?_
    refine lv_iconst (v := 1) hx hb dX_state_21 (by decide) ?_
    refine kb_calli (wf := mw h cZ) (r := 0) (u := ((up q0.1 0 0), q0.2)) (va_runV (As := [.int 0, .int 1]) (rest := []) ⟨hx, hb, hml, hown, hts⟩ (c_X_fails_0 l D h cZ _ q0.1 q0.2) (cwV 2 hts (gd_V q_787 q_789 q_24 q_40 q_790) rfl rfl rfl (by decide +kernel) ⟨Nat.le_of_ble_eq_true rfl, Nat.le_of_ble_eq_true rfl⟩) (kb_preV hN hK hP hD (va_recv hK hP (ci := 7) (q0 := 0) rfl rfl)) rfl rfl hl.1 rfl (lv_room (Nat.le_of_ble_eq_true rfl)) dX_state_22 ⟨Nat.zero_le _, Nat.zero_le _⟩) hP hD hS hA (fun H locs hP hD hS => ?_)
    refine lv_if_eq (tgt := 30) hx hb dX_state_25 (by decide) (fun _ => ?_) (fun c9 => absurd (by decide) c9)
    refine lv_iconst (v := 0) hx hb dX_state_30 (by decide) ?_
    refine lv_istore_n (lv' := [(2, .int 0), (0, .ref (h 0)), (1, .int a1)]) hx hb dX_state_31 rfl hl (by decide) rfl (fun ls hl => ?_)
    refine lv_iload_n hx hb dX_state_32 rfl (lv_at hl 2 rfl) ?_
    by_cases c_5 : a1 = 0
    · have e := e.trans (if_pos c_5)
      refine lv_tableIn (tgt := 84) hx hb dX_state_33 (by rw [c_5]; decide) (by rw [c_5]; decide) (by rw [c_5]; rfl) (by decide) ?_
      refine lv_aload_n hx hb dX_state_84 rfl (lv_at hl 1 rfl) ?_
      refine va_get (D := D) (ci := 7) (v := .int (q0.1 12)) (C := "BoilerDeskModel") (T := TX) (N := 43) hx hb hts inX hown hK hP 0 rfl rfl 12 (by decide) (hts _ q_655) (fun _ h9 => h9) rfl dX_state_85 ?_
      exact kb_iret (wf := mw h cZ) hx hb hr hlocks hK hP hD hS ⟨(congrArg Prod.fst e).symm, (congrArg Prod.snd e).symm⟩ dX_state_88
    · have e := e.trans (if_neg c_5)
      by_cases c_6 : a1 = 1
      · have e := e.trans (if_pos c_6)
        refine lv_tableIn (tgt := 89) hx hb dX_state_33 (by rw [c_6]; decide) (by rw [c_6]; decide) (by rw [c_6]; rfl) (by decide) ?_
        refine lv_aload_n hx hb dX_state_89 rfl (lv_at hl 1 rfl) ?_
        refine va_get (D := D) (ci := 7) (v := .int (q0.1 13)) (C := "BoilerDeskModel") (T := TX) (N := 43) hx hb hts inX hown hK hP 0 rfl rfl 13 (by decide) (hts _ q_656) (fun _ h9 => h9) rfl dX_state_90 ?_
        exact kb_iret (wf := mw h cZ) hx hb hr hlocks hK hP hD hS ⟨(congrArg Prod.fst e).symm, (congrArg Prod.snd e).symm⟩ dX_state_93
      · have e := e.trans (if_neg c_6)
        by_cases c_7 : a1 = 2
        · have e := e.trans (if_pos c_7)
          refine lv_tableIn (tgt := 94) hx hb dX_state_33 (by rw [c_7]; decide) (by rw [c_7]; decide) (by rw [c_7]; rfl) (by decide) ?_
          refine lv_aload_n hx hb dX_state_94 rfl (lv_at hl 1 rfl) ?_
          refine va_get (D := D) (ci := 7) (v := .int (q0.1 14)) (C := "BoilerDeskModel") (T := TX) (N := 43) hx hb hts inX hown hK hP 0 rfl rfl 14 (by decide) (hts _ q_657) (fun _ h9 => h9) rfl dX_state_95 ?_
          exact kb_iret (wf := mw h cZ) hx hb hr hlocks hK hP hD hS ⟨(congrArg Prod.fst e).symm, (congrArg Prod.snd e).symm⟩ dX_state_98
        · have e := e.trans (if_neg c_7)
          by_cases c_8 : a1 = 3
          · have e := e.trans (if_pos c_8)
            refine lv_tableIn (tgt := 99) hx hb dX_state_33 (by rw [c_8]; decide) (by rw [c_8]; decide) (by rw [c_8]; rfl) (by decide) ?_
            refine lv_aload_n hx hb dX_state_99 rfl (lv_at hl 1 rfl) ?_
            refine va_get (D := D) (ci := 7) (v := .int (q0.1 15)) (C := "BoilerDeskModel") (T := TX) (N := 43) hx hb hts inX hown hK hP 0 rfl rfl 15 (by decide) (hts _ q_658) (fun _ h9 => h9) rfl dX_state_100 ?_
            exact kb_iret (wf := mw h cZ) hx hb hr hlocks hK hP hD hS ⟨(congrArg Prod.fst e).symm, (congrArg Prod.snd e).symm⟩ dX_state_103
          · have e := e.trans (if_neg c_8)
            by_cases c_9 : a1 = 4
            · have e := e.trans (if_pos c_9)
              refine lv_tableIn (tgt := 104) hx hb dX_state_33 (by rw [c_9]; decide) (by rw [c_9]; decide) (by rw [c_9]; rfl) (by decide) ?_
              refine lv_iconst (v := 0) hx hb dX_state_104 (by decide) ?_
              refine lv_istore_n (lv' := [(3, .int 0), (2, .int 0), (0, .ref (h 0)), (1, .int a1)]) hx hb dX_state_105 rfl hl (by decide) rfl (fun ls hl => ?_)
              exact k_106 10 0 ((up q0.1 0 0), q0.2) (0 : Int32) _ _ _ (by omega) e hP hD hS (lv_sub hl [2, 3, 1, 0] rfl)
            · have e := e.trans (if_neg c_9)
              by_cases c_10 : a1 = 5
              · have e := e.trans (if_pos c_10)
                refine lv_tableIn (tgt := 135) hx hb dX_state_33 (by rw [c_10]; decide) (by rw [c_10]; decide) (by rw [c_10]; rfl) (by decide) ?_
                refine lv_iconst (v := 0) hx hb dX_state_135 (by decide) ?_
                refine lv_istore_n (lv' := [(3, .int 0), (2, .int 0), (0, .ref (h 0)), (1, .int a1)]) hx hb dX_state_136 rfl hl (by decide) rfl (fun ls hl => ?_)
                exact k_137 10 0 ((up q0.1 0 0), q0.2) (0 : Int32) _ _ _ (by omega) e hP hD hS (lv_sub hl [2, 3, 1, 0] rfl)
              · have e := e.trans (if_neg c_10)
                by_cases c_11 : a1 = 6
                · have e := e.trans (if_pos c_11)
                  refine lv_tableIn (tgt := 166) hx hb dX_state_33 (by rw [c_11]; decide) (by rw [c_11]; decide) (by rw [c_11]; rfl) (by decide) ?_
                  refine lv_iconst (v := 0) hx hb dX_state_166 (by decide) ?_
                  refine lv_istore_n (lv' := [(3, .int 0), (2, .int 0), (0, .ref (h 0)), (1, .int a1)]) hx hb dX_state_167 rfl hl (by decide) rfl (fun ls hl => ?_)
                  exact k_168 4 0 ((up q0.1 0 0), q0.2) (0 : Int32) _ _ _ (by omega) e hP hD hS (lv_sub hl [2, 3, 1, 0] rfl)
                · have e := e.trans (if_neg c_11)
                  by_cases c_12 : a1 = 7
                  · have e := e.trans (if_pos c_12)
                    refine lv_tableIn (tgt := 196) hx hb dX_state_33 (by rw [c_12]; decide) (by rw [c_12]; decide) (by rw [c_12]; rfl) (by decide) ?_
                    refine lv_aload_n hx hb dX_state_196 rfl (lv_at hl 1 rfl) ?_
                    refine va_get (D := D) (ci := 7) (v := .int (q0.1 22)) (C := "BoilerDeskModel") (T := TX) (N := 43) hx hb hts inX hown hK hP 0 rfl rfl 22 (by decide) (hts _ q_665) (fun _ h9 => h9) rfl dX_state_197 ?_
                    refine lv_if_eq (tgt := 207) hx hb dX_state_200 (by decide) (fun c_13 => ?_) (fun c_13 => ?_)
                    · have e := e.trans (if_pos c_13)
                      refine lv_iconst (v := 0) hx hb dX_state_207 (by decide) ?_
                      exact kb_iret (wf := mw h cZ) hx hb hr hlocks hK hP hD hS ⟨(congrArg Prod.fst e).symm, (congrArg Prod.snd e).symm⟩ dX_state_208
                    · have e := e.trans (if_neg c_13)
                      refine lv_iconst (v := 1) hx hb dX_state_203 (by decide) ?_
                      refine lv_goto (tgt := 208) hx hb dX_state_204 (by decide) ?_
                      exact kb_iret (wf := mw h cZ) hx hb hr hlocks hK hP hD hS ⟨(congrArg Prod.fst e).symm, (congrArg Prod.snd e).symm⟩ dX_state_208
                  · have e := e.trans (if_neg c_12)
                    by_cases c_14 : a1 = 8
                    · have e := e.trans (if_pos c_14)
                      refine lv_tableIn (tgt := 209) hx hb dX_state_33 (by rw [c_14]; decide) (by rw [c_14]; decide) (by rw [c_14]; rfl) (by decide) ?_
                      refine lv_aload_n hx hb dX_state_209 rfl (lv_at hl 1 rfl) ?_
                      refine va_get (D := D) (ci := 7) (v := .int (q0.1 10)) (C := "BoilerDeskModel") (T := TX) (N := 43) hx hb hts inX hown hK hP 0 rfl rfl 10 (by decide) (hts _ q_653) (fun _ h9 => h9) rfl dX_state_210 ?_
                      exact kb_iret (wf := mw h cZ) hx hb hr hlocks hK hP hD hS ⟨(congrArg Prod.fst e).symm, (congrArg Prod.snd e).symm⟩ dX_state_213
                    · have e := e.trans (if_neg c_14)
                      have h9 : (a1).toInt < 0 ∨ 8 < (a1).toInt := by
                        have t0 := ne_ti c_5 (j := 0) (by decide)
                        have t1 := ne_ti c_6 (j := 1) (by decide)
                        have t2 := ne_ti c_7 (j := 2) (by decide)
                        have t3 := ne_ti c_8 (j := 3) (by decide)
                        have t4 := ne_ti c_9 (j := 4) (by decide)
                        have t5 := ne_ti c_10 (j := 5) (by decide)
                        have t6 := ne_ti c_11 (j := 6) (by decide)
                        have t7 := ne_ti c_12 (j := 7) (by decide)
                        have t8 := ne_ti c_14 (j := 8) (by decide)
                        omega
                      refine lv_tableOut (tgt := 214) hx hb dX_state_33 h9 (by decide) ?_
                      refine lv_aload_n hx hb dX_state_214 rfl (lv_at hl 1 rfl) ?_
                      refine va_get (D := D) (ci := 7) (v := .int (q0.1 11)) (C := "BoilerDeskModel") (T := TX) (N := 43) hx hb hts inX hown hK hP 0 rfl rfl 11 (by decide) (hts _ q_654) (fun _ h9 => h9) rfl dX_state_215 ?_
                      exact kb_iret (wf := mw h cZ) hx hb hr hlocks hK hP hD hS ⟨(congrArg Prod.fst e).symm, (congrArg Prod.snd e).symm⟩ dX_state_218
  · have e := e.trans (if_pos c_4)
    refine lv_iconst (v := 1) hx hb dX_state_16 (by decide) ?_
    refine lv_goto (tgt := 21) hx hb dX_state_17 (by decide) ?_
    refine lv_iconst (v := 1) hx hb dX_state_21 (by decide) ?_
    refine kb_calli (wf := mw h cZ) (r := 1) (u := ((up (up q0.1 0 0) 0 1), q0.2)) (va_runV (As := [.int 1, .int 1]) (rest := []) ⟨hx, hb, hml, hown, hts⟩ (c_X_fails_1 l D h cZ _ q0.1 q0.2) (cwV 2 hts (gd_V q_787 q_789 q_24 q_40 q_790) rfl rfl rfl (by decide +kernel) ⟨Nat.le_of_ble_eq_true rfl, Nat.le_of_ble_eq_true rfl⟩) (kb_preV hN hK hP hD (va_recv hK hP (ci := 7) (q0 := 0) rfl rfl)) rfl rfl hl.1 rfl (lv_room (Nat.le_of_ble_eq_true rfl)) dX_state_22 ⟨Nat.zero_le _, Nat.zero_le _⟩) hP hD hS hA (fun H locs hP hD hS => ?_)
    refine lv_if_eq (tgt := 30) hx hb dX_state_25 (by decide) (fun c9 => absurd c9 (by decide)) (fun _ => ?_)
    refine lv_iconst (v := 0) hx hb dX_state_28 (by decide) ?_
    exact kb_iret (wf := mw h cZ) hx hb hr hlocks hK hP hD hS ⟨(congrArg Prod.fst e).symm, (congrArg Prod.snd e).symm⟩ dX_state_29
