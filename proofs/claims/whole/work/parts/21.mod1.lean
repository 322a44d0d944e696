/-- BoilerDeskModel.begin(IIIIIIIII)V -/
def K_X_begin_88 (a1 : Int32) (a2 : Int32) (a3 : Int32) (a4 : Int32) (a5 : Int32) (a6 : Int32) (a7 : Int32) (a8 : Int32) (a9 : Int32) (q : (Nat → Int32) × (Nat → Nat → Int32)) (y0 : Int32) : (Nat → Int32) × (Nat → Nat → Int32) := (if y0 = (0 : Int32) then (if ((F_X_fails q (1 : Int32) (1 : Int32)).1) = (0 : Int32) then (F_X_anew (F_X_fails q (1 : Int32) (1 : Int32)).2 a1 a2 a3 a4 a5 a6 a7 a8 a9) else (F_X_fails q (1 : Int32) (1 : Int32)).2) else (if ((F_X_fails q (0 : Int32) (1 : Int32)).1) = (0 : Int32) then (F_X_anew (F_X_fails q (0 : Int32) (1 : Int32)).2 a1 a2 a3 a4 a5 a6 a7 a8 a9) else (F_X_fails q (0 : Int32) (1 : Int32)).2))
def K_X_begin_87 (a1 : Int32) (a2 : Int32) (a3 : Int32) (a4 : Int32) (a5 : Int32) (a6 : Int32) (a7 : Int32) (a8 : Int32) (a9 : Int32) (q : (Nat → Int32) × (Nat → Nat → Int32))  : (Nat → Int32) × (Nat → Nat → Int32) := K_X_begin_88 a1 a2 a3 a4 a5 a6 a7 a8 a9 q (0 : Int32)
def F_X_begin (q0 : (Nat → Int32) × (Nat → Nat → Int32)) (a1 : Int32) (a2 : Int32) (a3 : Int32) (a4 : Int32) (a5 : Int32) (a6 : Int32) (a7 : Int32) (a8 : Int32) (a9 : Int32) : (Nat → Int32) × (Nat → Nat → Int32) := (if (1000000 : Int32) < a1 then K_X_begin_87 a1 a2 a3 a4 a5 a6 a7 a8 a9 ((up q0.1 0 0), q0.2) else (if a2 < (0 : Int32) then K_X_begin_87 a1 a2 a3 a4 a5 a6 a7 a8 a9 ((up q0.1 0 0), q0.2) else (if a3 ≤ a2 then K_X_begin_87 a1 a2 a3 a4 a5 a6 a7 a8 a9 ((up q0.1 0 0), q0.2) else (if a4 ≤ a3 then K_X_begin_87 a1 a2 a3 a4 a5 a6 a7 a8 a9 ((up q0.1 0 0), q0.2) else (if a5 ≤ a4 then K_X_begin_87 a1 a2 a3 a4 a5 a6 a7 a8 a9 ((up q0.1 0 0), q0.2) else (if a1 < a5 then K_X_begin_87 a1 a2 a3 a4 a5 a6 a7 a8 a9 ((up q0.1 0 0), q0.2) else (if (F_X_in a6 (0 : Int32) (100000 : Int32)) = (0 : Int32) then K_X_begin_87 a1 a2 a3 a4 a5 a6 a7 a8 a9 ((up q0.1 0 0), q0.2) else (if (F_X_in a7 (0 : Int32) (100000 : Int32)) = (0 : Int32) then K_X_begin_87 a1 a2 a3 a4 a5 a6 a7 a8 a9 ((up q0.1 0 0), q0.2) else (if (F_X_in a8 (0 : Int32) (100000 : Int32)) = (0 : Int32) then K_X_begin_87 a1 a2 a3 a4 a5 a6 a7 a8 a9 ((up q0.1 0 0), q0.2) else (if (F_X_in a9 (1 : Int32) (100000 : Int32)) = (0 : Int32) then K_X_begin_87 a1 a2 a3 a4 a5 a6 a7 a8 a9 ((up q0.1 0 0), q0.2) else K_X_begin_88 a1 a2 a3 a4 a5 a6 a7 a8 a9 ((up q0.1 0 0), q0.2) (1 : Int32)))))))))))
set_option maxHeartbeats 4000000 in
set_option maxRecDepth 100000 in
theorem c_X_begin (l : Launch) (D : va_G) (h : Nat → Nat) (cZ : ClassId) (sz : Nat) (q0 : (Nat → Int32) × (Nat → Nat → Int32)) (a1 : Int32) (a2 : Int32) (a3 : Int32) (a4 : Int32) (a5 : Int32) (a6 : Int32) (a7 : Int32) (a8 : Int32) (a9 : Int32)  : Met l yX_begin [.code yX_begin cX_begin 11 none] ({ frames := 2, cells := 0, slots := 0, locals := 51 }) (va_Pc [.ref (h 0), .int a1, .int a2, .int a3, .int a4, .int a5, .int a6, .int a7, .int a8, .int a9] (kb_B D [(cZ, .boolean)] (mw h cZ) q0 sz)) (va_Qv (fun u' => u' = F_X_begin q0 a1 a2 a3 a4 a5 a6 a7 a8 a9) (kb_E D [(cZ, .boolean)] (mw h cZ) (va_A (mw h cZ q0) sz)) (va_A (mw h cZ q0) sz)) 0 0 (va_A (mw h cZ q0) sz) := by
  refine kb_of (cc := cX_begin) (maxL := 11) (ret := none) (QcA := fun A => (va_Qv (fun u' => u' = F_X_begin q0 a1 a2 a3 a4 a5 a6 a7 a8 a9) (kb_E D [(cZ, .boolean)] (mw h cZ) A) A)) (by decide) (Nat.le_of_ble_eq_true rfl) ?_
  intro p e s m below meth c A hx hb hr hlocks hml hown hts hA hN hK hP hD ls hl
  have hS : va_S A s.heap s.heap [] := va_S.rf
  have hl : lv_has ls 11 [(0, .ref (h 0)), (1, .int a1), (2, .int a2), (3, .int a3), (4, .int a4), (5, .int a5), (6, .int a6), (7, .int a7), (8, .int a8), (9, .int a9)] := hl
  have k_88 : ∀ (q : (Nat → Int32) × (Nat → Nat → Int32)) (y0 : Int32) (H : Heap) (locs : List Loc) (ls : Array Slot), F_X_begin q0 a1 a2 a3 a4 a5 a6 a7 a8 a9 = K_X_begin_88 a1 a2 a3 a4 a5 a6 a7 a8 a9 q y0 → va_P D vwCl (mw h cZ q) H → va_D A (mw h cZ q) → va_S A s.heap H locs → lv_has ls 11 [(0, .ref (h 0)), (1, .int a1), (2, .int a2), (3, .int a3), (4, .int a4), (5, .int a5), (6, .int a6), (7, .int a7), (8, .int a8), (9, .int a9)] → W p l e ({ frames := 2, cells := 0, slots := 0, locals := 51 }) s m [.ref (h 0), .int a1, .int a2, .int a3, .int a4, .int a5, .int a6, .int a7, .int a8, .int a9].toArray below meth c H locs 0 0 (MQ below (va_Qv (fun u' => u' = F_X_begin q0 a1 a2 a3 a4 a5 a6 a7 a8 a9) (kb_E D [(cZ, .boolean)] (mw h cZ) A) A) [.ref (h 0), .int a1, .int a2, .int a3, .int a4, .int a5, .int a6, .int a7, .int a8, .int a9].toArray s 0 0 A) (F0 m 88 ls [.int y0]) := by
      intro q y0 H locs ls e hP hD hS hl
      refine lv_istore (lv' := [(10, .int y0), (0, .ref (h 0)), (1, .int a1), (2, .int a2), (3, .int a3), (4, .int a4), (5, .int a5), (6, .int a6), (7, .int a7), (8, .int a8), (9, .int a9)]) hx hb dX_begin_88 hl (by decide) rfl (fun ls hl => ?_)
      refine lv_aload_n hx hb dX_begin_90 rfl (lv_at hl 1 rfl) ?_
      refine lv_iload hx hb dX_begin_91 (lv_at hl 0 rfl) ?_
      refine lv_if_ne (tgt := 100) hx hb dX_begin_93 (by decide) (fun c_1 => ?_) (fun c_1 => ?_)
      · have e := e.trans (if_neg c_1)
        refine lv_iconst (v := 0) hx hb dX_begin_100 (by decide) ?_
        refine lv_iconst (v := 1) hx hb dX_begin_101 (by decide) ?_
        refine kb_calli (wf := mw h cZ) (r := (F_X_fails q (0 : Int32) (1 : Int32)).1) (u := (F_X_fails q (0 : Int32) (1 : Int32)).2) (va_runV (As := [.int 0, .int 1]) (rest := []) ⟨hx, hb, hml, hown, hts⟩ (c_X_fails l D h cZ _ q (0 : Int32) (1 : Int32) (by decide)) (cwV 2 hts (gd_V q_787 q_789 q_24 q_40 q_790) rfl rfl rfl (by decide +kernel) ⟨Nat.le_of_ble_eq_true rfl, Nat.le_of_ble_eq_true rfl⟩) (kb_preV hN hK hP hD (va_recv hK hP (ci := 7) (q0 := 0) rfl rfl)) rfl rfl hl.1 rfl (lv_room (Nat.le_of_ble_eq_true rfl)) dX_begin_102 ⟨Nat.zero_le _, Nat.zero_le _⟩) hP hD hS hA (fun H locs hP hD hS => ?_)
        refine lv_if_ne (tgt := 127) hx hb dX_begin_105 (by decide) (fun c_2 => ?_) (fun c_2 => ?_)
        · have e := e.trans (if_neg c_2)
          exact kb_vret (wf := mw h cZ) hx hb hr hlocks hK hP hD hS e.symm dX_begin_127
        · have e := e.trans (if_pos c_2)
          refine lv_aload_n hx hb dX_begin_108 rfl (lv_at hl 1 rfl) ?_
          refine lv_iload_n hx hb dX_begin_109 rfl (lv_at hl 2 rfl) ?_
          refine lv_iload_n hx hb dX_begin_110 rfl (lv_at hl 3 rfl) ?_
          refine lv_iload_n hx hb dX_begin_111 rfl (lv_at hl 4 rfl) ?_
          refine lv_iload hx hb dX_begin_112 (lv_at hl 5 rfl) ?_
          refine lv_iload hx hb dX_begin_114 (lv_at hl 6 rfl) ?_
          refine lv_iload hx hb dX_begin_116 (lv_at hl 7 rfl) ?_
          refine lv_iload hx hb dX_begin_118 (lv_at hl 8 rfl) ?_
          refine lv_iload hx hb dX_begin_120 (lv_at hl 9 rfl) ?_
          refine lv_iload hx hb dX_begin_122 (lv_at hl 10 rfl) ?_
          refine kb_callv (wf := mw h cZ) (u := F_X_anew (F_X_fails q (0 : Int32) (1 : Int32)).2 a1 a2 a3 a4 a5 a6 a7 a8 a9) (va_runV (As := [.int a1, .int a2, .int a3, .int a4, .int a5, .int a6, .int a7, .int a8, .int a9]) (rest := []) ⟨hx, hb, hml, hown, hts⟩ (c_X_anew l D h cZ _ (F_X_fails q (0 : Int32) (1 : Int32)).2 a1 a2 a3 a4 a5 a6 a7 a8 a9) (cwV 9 hts (gd_V q_631 q_633 q_21 q_40 q_634) rfl rfl rfl (by decide +kernel) ⟨Nat.le_of_ble_eq_true rfl, Nat.le_of_ble_eq_true rfl⟩) (kb_preV hN hK hP hD (va_recv hK hP (ci := 7) (q0 := 0) rfl rfl)) rfl rfl hl.1 rfl (lv_room (Nat.le_of_ble_eq_true rfl)) dX_begin_124 ⟨Nat.zero_le _, Nat.zero_le _⟩) hP hD hS hA (fun H locs hP hD hS => ?_)
          exact kb_vret (wf := mw h cZ) hx hb hr hlocks hK hP hD hS e.symm dX_begin_127
      · have e := e.trans (if_pos c_1)
        refine lv_iconst (v := 1) hx hb dX_begin_96 (by decide) ?_
        refine lv_goto (tgt := 101) hx hb dX_begin_97 (by decide) ?_
        refine lv_iconst (v := 1) hx hb dX_begin_101 (by decide) ?_
        refine kb_calli (wf := mw h cZ) (r := (F_X_fails q (1 : Int32) (1 : Int32)).1) (u := (F_X_fails q (1 : Int32) (1 : Int32)).2) (va_runV (As := [.int 1, .int 1]) (rest := []) ⟨hx, hb, hml, hown, hts⟩ (c_X_fails l D h cZ _ q (1 : Int32) (1 : Int32) (by decide)) (cwV 2 hts (gd_V q_787 q_789 q_24 q_40 q_790) rfl rfl rfl (by decide +kernel) ⟨Nat.le_of_ble_eq_true rfl, Nat.le_of_ble_eq_true rfl⟩) (kb_preV hN hK hP hD (va_recv hK hP (ci := 7) (q0 := 0) rfl rfl)) rfl rfl hl.1 rfl (lv_room (Nat.le_of_ble_eq_true rfl)) dX_begin_102 ⟨Nat.zero_le _, Nat.zero_le _⟩) hP hD hS hA (fun H locs hP hD hS => ?_)
        refine lv_if_ne (tgt := 127) hx hb dX_begin_105 (by decide) (fun c_3 => ?_) (fun c_3 => ?_)
        · have e := e.trans (if_neg c_3)
          exact kb_vret (wf := mw h cZ) hx hb hr hlocks hK hP hD hS e.symm dX_begin_127
        · have e := e.trans (if_pos c_3)
          refine lv_aload_n hx hb dX_begin_108 rfl (lv_at hl 1 rfl) ?_
          refine lv_iload_n hx hb dX_begin_109 rfl (lv_at hl 2 rfl) ?_
          refine lv_iload_n hx hb dX_begin_110 rfl (lv_at hl 3 rfl) ?_
          refine lv_iload_n hx hb dX_begin_111 rfl (lv_at hl 4 rfl) ?_
          refine lv_iload hx hb dX_begin_112 (lv_at hl 5 rfl) ?_
          refine lv_iload hx hb dX_begin_114 (lv_at hl 6 rfl) ?_
          refine lv_iload hx hb dX_begin_116 (lv_at hl 7 rfl) ?_
          refine lv_iload hx hb dX_begin_118 (lv_at hl 8 rfl) ?_
          refine lv_iload hx hb dX_begin_120 (lv_at hl 9 rfl) ?_
          refine lv_iload hx hb dX_begin_122 (lv_at hl 10 rfl) ?_
          refine kb_callv (wf := mw h cZ) (u := F_X_anew (F_X_fails q (1 : Int32) (1 : Int32)).2 a1 a2 a3 a4 a5 a6 a7 a8 a9) (va_runV (As := [.int a1, .int a2, .int a3, .int a4, .int a5, .int a6, .int a7, .int a8, .int a9]) (rest := []) ⟨hx, hb, hml, hown, hts⟩ (c_X_anew l D h cZ _ (F_X_fails q (1 : Int32) (1 : Int32)).2 a1 a2 a3 a4 a5 a6 a7 a8 a9) (cwV 9 hts (gd_V q_631 q_633 q_21 q_40 q_634) rfl rfl rfl (by decide +kernel) ⟨Nat.le_of_ble_eq_true rfl, Nat.le_of_ble_eq_true rfl⟩) (kb_preV hN hK hP hD (va_recv hK hP (ci := 7) (q0 := 0) rfl rfl)) rfl rfl hl.1 rfl (lv_room (Nat.le_of_ble_eq_true rfl)) dX_begin_124 ⟨Nat.zero_le _, Nat.zero_le _⟩) hP hD hS hA (fun H locs hP hD hS => ?_)
          exact kb_vret (wf := mw h cZ) hx hb hr hlocks hK hP hD hS e.symm dX_begin_127
  have k_87 : ∀ (q : (Nat → Int32) × (Nat → Nat → Int32)) (H : Heap) (locs : List Loc) (ls : Array Slot), F_X_begin q0 a1 a2 a3 a4 a5 a6 a7 a8 a9 = K_X_begin_87 a1 a2 a3 a4 a5 a6 a7 a8 a9 q → va_P D vwCl (mw h cZ q) H → va_D A (mw h cZ q) → va_S A s.heap H locs → lv_has ls 11 [(0, .ref (h 0)), (1, .int a1), (2, .int a2), (3, .int a3), (4, .int a4), (5, .int a5), (6, .int a6), (7, .int a7), (8, .int a8), (9, .int a9)] → W p l e ({ frames := 2, cells := 0, slots := 0, locals := 51 }) s m [.ref (h 0), .int a1, .int a2, .int a3, .int a4, .int a5, .int a6, .int a7, .int a8, .int a9].toArray below meth c H locs 0 0 (MQ below (va_Qv (fun u' => u' = F_X_begin q0 a1 a2 a3 a4 a5 a6 a7 a8 a9) (kb_E D [(cZ, .boolean)] (mw h cZ) A) A) [.ref (h 0), .int a1, .int a2, .int a3, .int a4, .int a5, .int a6, .int a7, .int a8, .int a9].toArray s 0 0 A) (F0 m 87 ls []) := by
      intro q H locs ls e hP hD hS hl
      refine lv_iconst (v := 0) hx hb dX_begin_87 (by decide) ?_
      exact k_88 q (0 : Int32) _ _ _ e hP hD hS (lv_sub hl [0, 1, 2, 3, 4, 5, 6, 7, 8, 9] rfl)
  have e : F_X_begin q0 a1 a2 a3 a4 a5 a6 a7 a8 a9 = F_X_begin q0 a1 a2 a3 a4 a5 a6 a7 a8 a9 := rfl
  refine lv_aload_n hx hb dX_begin_0 rfl (lv_at hl 0 rfl) ?_
  refine lv_iconst (v := 0) hx hb dX_begin_1 (by decide) ?_
  refine kb_put (D := D) (wf := mw h cZ) (w' := ((up q0.1 0 0), q0.2)) (ci := 7) (v := .int 0) (ty := .int) (C := "BoilerDeskModel") (T := TX) (N := 43) hx hb hts inX tyX tyX_ok nmX hown hK hP hD hS 0 rfl rfl 0 (by decide) (hts _ q_643) (fun _ h9 => h9) rfl (by decide +kernel) rfl rfl (Nat.le_of_ble_eq_true rfl) dX_begin_2 rfl (fun H locs hP hD hS => ?_)
  refine lv_iload_n hx hb dX_begin_5 rfl (lv_at hl 1 rfl) ?_
  refine lv_ldc (v := 1000000) hx hb hown (hts _ q_782) dX_begin_6 ?_
  refine lv_icmp_gt (tgt := 87) hx hb dX_begin_8 (by decide) (fun c_4 => ?_) (fun c_4 => ?_)
  · have e := e.trans (if_pos c_4)
    exact k_87 ((up q0.1 0 0), q0.2) _ _ _ e hP hD hS (lv_sub hl [0, 1, 2, 3, 4, 5, 6, 7, 8, 9] rfl)
  · have e := e.trans (if_neg c_4)
    refine lv_iload_n hx hb dX_begin_11 rfl (lv_at hl 2 rfl) ?_
    refine lv_if_lt (tgt := 87) hx hb dX_begin_12 (by decide) (fun c_5 => ?_) (fun c_5 => ?_)
    · have e := e.trans (if_pos c_5)
      exact k_87 ((up q0.1 0 0), q0.2) _ _ _ e hP hD hS (lv_sub hl [0, 1, 2, 3, 4, 5, 6, 7, 8, 9] rfl)
    · have e := e.trans (if_neg c_5)
      refine lv_iload_n hx hb dX_begin_15 rfl (lv_at hl 2 rfl) ?_
      refine lv_iload_n hx hb dX_begin_16 rfl (lv_at hl 3 rfl) ?_
      refine lv_icmp_ge (tgt := 87) hx hb dX_begin_17 (by decide) (fun c_6 => ?_) (fun c_6 => ?_)
      · have e := e.trans (if_pos c_6)
        exact k_87 ((up q0.1 0 0), q0.2) _ _ _ e hP hD hS (lv_sub hl [0, 1, 2, 3, 4, 5, 6, 7, 8, 9] rfl)
      · have e := e.trans (if_neg c_6)
        refine lv_iload_n hx hb dX_begin_20 rfl (lv_at hl 3 rfl) ?_
        refine lv_iload hx hb dX_begin_21 (lv_at hl 4 rfl) ?_
        refine lv_icmp_ge (tgt := 87) hx hb dX_begin_23 (by decide) (fun c_7 => ?_) (fun c_7 => ?_)
        · have e := e.trans (if_pos c_7)
          exact k_87 ((up q0.1 0 0), q0.2) _ _ _ e hP hD hS (lv_sub hl [0, 1, 2, 3, 4, 5, 6, 7, 8, 9] rfl)
        · have e := e.trans (if_neg c_7)
          refine lv_iload hx hb dX_begin_26 (lv_at hl 4 rfl) ?_
          refine lv_iload hx hb dX_begin_28 (lv_at hl 5 rfl) ?_
          refine lv_icmp_ge (tgt := 87) hx hb dX_begin_30 (by decide) (fun c_8 => ?_) (fun c_8 => ?_)
          · have e := e.trans (if_pos c_8)
            exact k_87 ((up q0.1 0 0), q0.2) _ _ _ e hP hD hS (lv_sub hl [0, 1, 2, 3, 4, 5, 6, 7, 8, 9] rfl)
          · have e := e.trans (if_neg c_8)
            refine lv_iload hx hb dX_begin_33 (lv_at hl 5 rfl) ?_
            refine lv_iload_n hx hb dX_begin_35 rfl (lv_at hl 1 rfl) ?_
            refine lv_icmp_gt (tgt := 87) hx hb dX_begin_36 (by decide) (fun c_9 => ?_) (fun c_9 => ?_)
            · have e := e.trans (if_pos c_9)
              exact k_87 ((up q0.1 0 0), q0.2) _ _ _ e hP hD hS (lv_sub hl [0, 1, 2, 3, 4, 5, 6, 7, 8, 9] rfl)
            · have e := e.trans (if_neg c_9)
              refine lv_iload hx hb dX_begin_39 (lv_at hl 6 rfl) ?_
              refine lv_iconst (v := 0) hx hb dX_begin_41 (by decide) ?_
              refine lv_ldc (v := 100000) hx hb hown (hts _ q_783) dX_begin_42 ?_
              refine kb_call0 (r := (F_X_in a6 (0 : Int32) (100000 : Int32))) (va_runS (As := [.int a6, .int 0, .int 100000]) (rest := []) ⟨hx, hb, hml, hown, hts⟩ (c_X_in l D _ a6 (0 : Int32) (100000 : Int32)) (va_cwS 3 hts (gd_S q_784 q_785 q_40 q_786) rfl rfl rfl (by decide +kernel) ⟨Nat.le_of_ble_eq_true rfl, Nat.le_of_ble_eq_true rfl⟩) (kb_pre0 hN hK) rfl rfl hl.1 rfl (lv_room (Nat.le_of_ble_eq_true rfl)) dX_begin_44 ⟨Nat.zero_le _, Nat.zero_le _⟩) hP hS hA (fun H locs hP hS => ?_)
              refine lv_if_eq (tgt := 87) hx hb dX_begin_47 (by decide) (fun c_10 => ?_) (fun c_10 => ?_)
              · have e := e.trans (if_pos c_10)
                exact k_87 ((up q0.1 0 0), q0.2) _ _ _ e hP hD hS (lv_sub hl [0, 1, 2, 3, 4, 5, 6, 7, 8, 9] rfl)
              · have e := e.trans (if_neg c_10)
                refine lv_iload hx hb dX_begin_50 (lv_at hl 7 rfl) ?_
                refine lv_iconst (v := 0) hx hb dX_begin_52 (by decide) ?_
                refine lv_ldc (v := 100000) hx hb hown (hts _ q_783) dX_begin_53 ?_
                refine kb_call0 (r := (F_X_in a7 (0 : Int32) (100000 : Int32))) (va_runS (As := [.int a7, .int 0, .int 100000]) (rest := []) ⟨hx, hb, hml, hown, hts⟩ (c_X_in l D _ a7 (0 : Int32) (100000 : Int32)) (va_cwS 3 hts (gd_S q_784 q_785 q_40 q_786) rfl rfl rfl (by decide +kernel) ⟨Nat.le_of_ble_eq_true rfl, Nat.le_of_ble_eq_true rfl⟩) (kb_pre0 hN hK) rfl rfl hl.1 rfl (lv_room (Nat.le_of_ble_eq_true rfl)) dX_begin_55 ⟨Nat.zero_le _, Nat.zero_le _⟩) hP hS hA (fun H locs hP hS => ?_)
                refine lv_if_eq (tgt := 87) hx hb dX_begin_58 (by decide) (fun c_11 => ?_) (fun c_11 => ?_)
                · have e := e.trans (if_pos c_11)
                  exact k_87 ((up q0.1 0 0), q0.2) _ _ _ e hP hD hS (lv_sub hl [0, 1, 2, 3, 4, 5, 6, 7, 8, 9] rfl)
                · have e := e.trans (if_neg c_11)
                  refine lv_iload hx hb dX_begin_61 (lv_at hl 8 rfl) ?_
                  refine lv_iconst (v := 0) hx hb dX_begin_63 (by decide) ?_
                  refine lv_ldc (v := 100000) hx hb hown (hts _ q_783) dX_begin_64 ?_
                  refine kb_call0 (r := (F_X_in a8 (0 : Int32) (100000 : Int32))) (va_runS (As := [.int a8, .int 0, .int 100000]) (rest := []) ⟨hx, hb, hml, hown, hts⟩ (c_X_in l D _ a8 (0 : Int32) (100000 : Int32)) (va_cwS 3 hts (gd_S q_784 q_785 q_40 q_786) rfl rfl rfl (by decide +kernel) ⟨Nat.le_of_ble_eq_true rfl, Nat.le_of_ble_eq_true rfl⟩) (kb_pre0 hN hK) rfl rfl hl.1 rfl (lv_room (Nat.le_of_ble_eq_true rfl)) dX_begin_66 ⟨Nat.zero_le _, Nat.zero_le _⟩) hP hS hA (fun H locs hP hS => ?_)
                  refine lv_if_eq (tgt := 87) hx hb dX_begin_69 (by decide) (fun c_12 => ?_) (fun c_12 => ?_)
                  · have e := e.trans (if_pos c_12)
                    exact k_87 ((up q0.1 0 0), q0.2) _ _ _ e hP hD hS (lv_sub hl [0, 1, 2, 3, 4, 5, 6, 7, 8, 9] rfl)
                  · have e := e.trans (if_neg c_12)
                    refine lv_iload hx hb dX_begin_72 (lv_at hl 9 rfl) ?_
                    refine lv_iconst (v := 1) hx hb dX_begin_74 (by decide) ?_
                    refine lv_ldc (v := 100000) hx hb hown (hts _ q_783) dX_begin_75 ?_
                    refine kb_call0 (r := (F_X_in a9 (1 : Int32) (100000 : Int32))) (va_runS (As := [.int a9, .int 1, .int 100000]) (rest := []) ⟨hx, hb, hml, hown, hts⟩ (c_X_in l D _ a9 (1 : Int32) (100000 : Int32)) (va_cwS 3 hts (gd_S q_784 q_785 q_40 q_786) rfl rfl rfl (by decide +kernel) ⟨Nat.le_of_ble_eq_true rfl, Nat.le_of_ble_eq_true rfl⟩) (kb_pre0 hN hK) rfl rfl hl.1 rfl (lv_room (Nat.le_of_ble_eq_true rfl)) dX_begin_77 ⟨Nat.zero_le _, Nat.zero_le _⟩) hP hS hA (fun H locs hP hS => ?_)
                    refine lv_if_eq (tgt := 87) hx hb dX_begin_80 (by decide) (fun c_13 => ?_) (fun c_13 => ?_)
                    · have e := e.trans (if_pos c_13)
                      exact k_87 ((up q0.1 0 0), q0.2) _ _ _ e hP hD hS (lv_sub hl [0, 1, 2, 3, 4, 5, 6, 7, 8, 9] rfl)
                    · have e := e.trans (if_neg c_13)
                      refine lv_iconst (v := 1) hx hb dX_begin_83 (by decide) ?_
                      refine lv_goto (tgt := 88) hx hb dX_begin_84 (by decide) ?_
                      exact k_88 ((up q0.1 0 0), q0.2) (1 : Int32) _ _ _ e hP hD hS (lv_sub hl [0, 1, 2, 3, 4, 5, 6, 7, 8, 9] rfl)
/-- BoilerDeskModel.level(I)V -/
def F_X_level (q0 : (Nat → Int32) × (Nat → Nat → Int32)) (a1 : Int32) : (Nat → Int32) × (Nat → Nat → Int32) := ((up (up (up q0.1 0 0) 24 a1) 26 1), q0.2)
set_option maxHeartbeats 4000000 in
set_option maxRecDepth 100000 in
theorem c_X_level (l : Launch) (D : va_G) (h : Nat → Nat) (cZ : ClassId) (sz : Nat) (q0 : (Nat → Int32) × (Nat → Nat → Int32)) (a1 : Int32)  : Met l yX_level [.code yX_level cX_level 2 none] ({ frames := 0, cells := 0, slots := 0, locals := 0 }) (va_Pc [.ref (h 0), .int a1] (kb_B D [(cZ, .boolean)] (mw h cZ) q0 sz)) (va_Qv (fun u' => u' = F_X_level q0 a1) (kb_E D [(cZ, .boolean)] (mw h cZ) (va_A (mw h cZ q0) sz)) (va_A (mw h cZ q0) sz)) 0 0 (va_A (mw h cZ q0) sz) := by
  refine kb_of (cc := cX_level) (maxL := 2) (ret := none) (QcA := fun A => (va_Qv (fun u' => u' = F_X_level q0 a1) (kb_E D [(cZ, .boolean)] (mw h cZ) A) A)) (by decide) (Nat.le_of_ble_eq_true rfl) ?_
  intro p e s m below meth c A hx hb hr hlocks hml hown hts hA hN hK hP hD ls hl
  have hS : va_S A s.heap s.heap [] := va_S.rf
  have hl : lv_has ls 2 [(0, .ref (h 0)), (1, .int a1)] := hl
  have e : F_X_level q0 a1 = F_X_level q0 a1 := rfl
  refine lv_aload_n hx hb dX_level_0 rfl (lv_at hl 0 rfl) ?_
  refine lv_iconst (v := 0) hx hb dX_level_1 (by decide) ?_
  refine kb_put (D := D) (wf := mw h cZ) (w' := ((up q0.1 0 0), q0.2)) (ci := 7) (v := .int 0) (ty := .int) (C := "BoilerDeskModel") (T := TX) (N := 43) hx hb hts inX tyX tyX_ok nmX hown hK hP hD hS 0 rfl rfl 0 (by decide) (hts _ q_643) (fun _ h9 => h9) rfl (by decide +kernel) rfl rfl (Nat.le_of_ble_eq_true rfl) dX_level_2 rfl (fun H locs hP hD hS => ?_)
  refine lv_aload_n hx hb dX_level_5 rfl (lv_at hl 0 rfl) ?_
  refine lv_iload_n hx hb dX_level_6 rfl (lv_at hl 1 rfl) ?_
  refine kb_put (D := D) (wf := mw h cZ) (w' := ((up (up q0.1 0 0) 24 a1), q0.2)) (ci := 7) (v := .int a1) (ty := .int) (C := "BoilerDeskModel") (T := TX) (N := 43) hx hb hts inX tyX tyX_ok nmX hown hK hP hD hS 0 rfl rfl 30 (by decide) (hts _ q_673) (fun _ h9 => h9) rfl (by decide +kernel) rfl rfl (Nat.le_of_ble_eq_true rfl) dX_level_7 rfl (fun H locs hP hD hS => ?_)
  refine lv_aload_n hx hb dX_level_10 rfl (lv_at hl 0 rfl) ?_
  refine lv_iconst (v := 1) hx hb dX_level_11 (by decide) ?_
  refine kb_put (D := D) (wf := mw h cZ) (w' := ((up (up (up q0.1 0 0) 24 a1) 26 1), q0.2)) (ci := 7) (v := .int 1) (ty := .boolean) (C := "BoilerDeskModel") (T := TX) (N := 43) hx hb hts inX tyX tyX_ok nmX hown hK hP hD hS 0 rfl rfl 32 (by decide) (hts _ q_675) (fun _ h9 => h9) rfl (by decide +kernel) rfl rfl (Nat.le_of_ble_eq_true rfl) dX_level_12 rfl (fun H locs hP hD hS => ?_)
  exact kb_vret (wf := mw h cZ) hx hb hr hlocks hK hP hD hS e.symm dX_level_15
/-- BoilerDeskModel.steam(I)V -/
def F_X_steam (q0 : (Nat → Int32) × (Nat → Nat → Int32)) (a1 : Int32) : (Nat → Int32) × (Nat → Nat → Int32) := ((up (up (up q0.1 0 0) 25 a1) 27 1), q0.2)
set_option maxHeartbeats 4000000 in
set_option maxRecDepth 100000 in
theorem c_X_steam (l : Launch) (D : va_G) (h : Nat → Nat) (cZ : ClassId) (sz : Nat) (q0 : (Nat → Int32) × (Nat → Nat → Int32)) (a1 : Int32)  : Met l yX_steam [.code yX_steam cX_steam 2 none] ({ frames := 0, cells := 0, slots := 0, locals := 0 }) (va_Pc [.ref (h 0), .int a1] (kb_B D [(cZ, .boolean)] (mw h cZ) q0 sz)) (va_Qv (fun u' => u' = F_X_steam q0 a1) (kb_E D [(cZ, .boolean)] (mw h cZ) (va_A (mw h cZ q0) sz)) (va_A (mw h cZ q0) sz)) 0 0 (va_A (mw h cZ q0) sz) := by
  refine kb_of (cc := cX_steam) (maxL := 2) (ret := none) (QcA := fun A => (va_Qv (fun u' => u' = F_X_steam q0 a1) (kb_E D [(cZ, .boolean)] (mw h cZ) A) A)) (by decide) (Nat.le_of_ble_eq_true rfl) ?_
  intro p e s m below meth c A hx hb hr hlocks hml hown hts hA hN hK hP hD ls hl
  have hS : va_S A s.heap s.heap [] := va_S.rf
  have hl : lv_has ls 2 [(0, .ref (h 0)), (1, .int a1)] := hl
  have e : F_X_steam q0 a1 = F_X_steam q0 a1 := rfl
  refine lv_aload_n hx hb dX_steam_0 rfl (lv_at hl 0 rfl) ?_
  refine lv_iconst (v := 0) hx hb dX_steam_1 (by decide) ?_
  refine kb_put (D := D) (wf := mw h cZ) (w' := ((up q0.1 0 0), q0.2)) (ci := 7) (v := .int 0) (ty := .int) (C := "BoilerDeskModel") (T := TX) (N := 43) hx hb hts inX tyX tyX_ok nmX hown hK hP hD hS 0 rfl rfl 0 (by decide) (hts _ q_643) (fun _ h9 => h9) rfl (by decide +kernel) rfl rfl (Nat.le_of_ble_eq_true rfl) dX_steam_2 rfl (fun H locs hP hD hS => ?_)
  refine lv_aload_n hx hb dX_steam_5 rfl (lv_at hl 0 rfl) ?_
  refine lv_iload_n hx hb dX_steam_6 rfl (lv_at hl 1 rfl) ?_
  refine kb_put (D := D) (wf := mw h cZ) (w' := ((up (up q0.1 0 0) 25 a1), q0.2)) (ci := 7) (v := .int a1) (ty := .int) (C := "BoilerDeskModel") (T := TX) (N := 43) hx hb hts inX tyX tyX_ok nmX hown hK hP hD hS 0 rfl rfl 31 (by decide) (hts _ q_674) (fun _ h9 => h9) rfl (by decide +kernel) rfl rfl (Nat.le_of_ble_eq_true rfl) dX_steam_7 rfl (fun H locs hP hD hS => ?_)
  refine lv_aload_n hx hb dX_steam_10 rfl (lv_at hl 0 rfl) ?_
  refine lv_iconst (v := 1) hx hb dX_steam_11 (by decide) ?_
  refine kb_put (D := D) (wf := mw h cZ) (w' := ((up (up (up q0.1 0 0) 25 a1) 27 1), q0.2)) (ci := 7) (v := .int 1) (ty := .boolean) (C := "BoilerDeskModel") (T := TX) (N := 43) hx hb hts inX tyX tyX_ok nmX hown hK hP hD hS 0 rfl rfl 33 (by decide) (hts _ q_676) (fun _ h9 => h9) rfl (by decide +kernel) rfl rfl (Nat.le_of_ble_eq_true rfl) dX_steam_12 rfl (fun H locs hP hD hS => ?_)
  exact kb_vret (wf := mw h cZ) hx hb hr hlocks hK hP hD hS e.symm dX_steam_15
/-- BoilerDeskModel.pump(IZZ)V -/
def F_X_pump (q0 : (Nat → Int32) × (Nat → Nat → Int32)) (a1 : Int32) (a2 : Int32) (a3 : Int32) : (Nat → Int32) × (Nat → Nat → Int32) := (if (F_X_in a1 (0 : Int32) (3 : Int32)) = (0 : Int32) then ((up (up q0.1 0 0) 0 1), q0.2) else ((up q0.1 0 0), (ub (ub (ub q0.2 6 (upd (q0.2 6) (a1).toNatClampNeg (vp_nar .boolean 1))) 7 (upd (q0.2 7) (a1).toNatClampNeg (vp_nar .boolean a2))) 8 (upd (q0.2 8) (a1).toNatClampNeg (vp_nar .boolean a3)))))
set_option maxHeartbeats 4000000 in
set_option maxRecDepth 100000 in
theorem c_X_pump (l : Launch) (D : va_G) (h : Nat → Nat) (cZ : ClassId) (sz : Nat) (q0 : (Nat → Int32) × (Nat → Nat → Int32)) (a1 : Int32) (a2 : Int32) (a3 : Int32) (z2 : a2 = 0 ∨ a2 = 1) (z3 : a3 = 0 ∨ a3 = 1) : Met l yX_pump [.code yX_pump cX_pump 4 none] ({ frames := 1, cells := 0, slots := 0, locals := 22 }) (va_Pc [.ref (h 0), .int a1, .int a2, .int a3] (kb_B D [(cZ, .boolean)] (mw h cZ) q0 sz)) (va_Qv (fun u' => u' = F_X_pump q0 a1 a2 a3) (kb_E D [(cZ, .boolean)] (mw h cZ) (va_A (mw h cZ q0) sz)) (va_A (mw h cZ q0) sz)) 0 0 (va_A (mw h cZ q0) sz) := by
  refine kb_of (cc := cX_pump) (maxL := 4) (ret := none) (QcA := fun A => (va_Qv (fun u' => u' = F_X_pump q0 a1 a2 a3) (kb_E D [(cZ, .boolean)] (mw h cZ) A) A)) (by decide) (Nat.le_of_ble_eq_true rfl) ?_
  intro p e s m below meth c A hx hb hr hlocks hml hown hts hA hN hK hP hD ls hl
  have hS : va_S A s.heap s.heap [] := va_S.rf
  have hl : lv_has ls 4 [(0, .ref (h 0)), (1, .int a1), (2, .int a2), (3, .int a3)] := hl
  have e : F_X_pump q0 a1 a2 a3 = F_X_pump q0 a1 a2 a3 := rfl
  refine lv_aload_n hx hb dX_pump_0 rfl (lv_at hl 0 rfl) ?_
  refine lv_iconst (v := 0) hx hb dX_pump_1 (by decide) ?_
  refine kb_put (D := D) (wf := mw h cZ) (w' := ((up q0.1 0 0), q0.2)) (ci := 7) (v := .int 0) (ty := .int) (C := "BoilerDeskModel") (T := TX) (N := 43) hx hb hts inX tyX tyX_ok nmX hown hK hP hD hS 0 rfl rfl 0 (by decide) (hts _ q_643) (fun _ h9 => h9) rfl (by decide +kernel) rfl rfl (Nat.le_of_ble_eq_true rfl) dX_pump_2 rfl (fun H locs hP hD hS => ?_)
  refine lv_aload_n hx hb dX_pump_5 rfl (lv_at hl 0 rfl) ?_
  refine lv_iload_n hx hb dX_pump_6 rfl (lv_at hl 1 rfl) ?_
  refine lv_iconst (v := 0) hx hb dX_pump_7 (by decide) ?_
  refine lv_iconst (v := 3) hx hb dX_pump_8 (by decide) ?_
  refine kb_call0 (r := (F_X_in a1 (0 : Int32) (3 : Int32))) (va_runS (As := [.int a1, .int 0, .int 3]) (rest := [.ref (h 0)]) ⟨hx, hb, hml, hown, hts⟩ (c_X_in l D _ a1 (0 : Int32) (3 : Int32)) (va_cwS 3 hts (gd_S q_784 q_785 q_40 q_786) rfl rfl rfl (by decide +kernel) ⟨Nat.le_of_ble_eq_true rfl, Nat.le_of_ble_eq_true rfl⟩) (kb_pre0 hN hK) rfl rfl hl.1 rfl (lv_room (Nat.le_of_ble_eq_true rfl)) dX_pump_9 ⟨Nat.zero_le _, Nat.zero_le _⟩) hP hS hA (fun H locs hP hS => ?_)
  refine lv_if_ne (tgt := 19) hx hb dX_pump_12 (by decide) (fun c_1 => ?_) (fun c_1 => ?_)
  · have e := e.trans (if_neg c_1)
    refine lv_iconst (v := 0) hx hb dX_pump_19 (by decide) ?_
    refine lv_iconst (v := 1) hx hb dX_pump_20 (by decide) ?_
    refine kb_calli (wf := mw h cZ) (r := 0) (u := ((up q0.1 0 0), q0.2)) (va_runV (As := [.int 0, .int 1]) (rest := []) ⟨hx, hb, hml, hown, hts⟩ (c_X_fails_0 l D h cZ _ q0.1 q0.2) (cwV 2 hts (gd_V q_787 q_789 q_24 q_40 q_790) rfl rfl rfl (by decide +kernel) ⟨Nat.le_of_ble_eq_true rfl, Nat.le_of_ble_eq_true rfl⟩) (kb_preV hN hK hP hD (va_recv hK hP (ci := 7) (q0 := 0) rfl rfl)) rfl rfl hl.1 rfl (lv_room (Nat.le_of_ble_eq_true rfl)) dX_pump_21 ⟨Nat.zero_le _, Nat.zero_le _⟩) hP hD hS hA (fun H locs hP hD hS => ?_)
    refine lv_if_eq (tgt := 28) hx hb dX_pump_24 (by decide) (fun _ => ?_) (fun c9 => absurd (by decide) c9)
    refine lv_aload_n hx hb dX_pump_28 rfl (lv_at hl 0 rfl) ?_
    refine va_get (D := D) (ci := 7) (v := .ref (h 7)) (C := "BoilerDeskModel") (T := TX) (N := 43) hx hb hts inX hown hK hP 0 rfl rfl 37 (by decide) (hts _ q_680) (fun _ h9 => h9) rfl dX_pump_29 ?_
    refine lv_iload_n hx hb dX_pump_32 rfl (lv_at hl 1 rfl) ?_
    refine lv_iconst (v := 1) hx hb dX_pump_33 (by decide) ?_
    refine kb_zast (D := D) (wf := mw h cZ) (w' := ((up q0.1 0 0), (ub q0.2 6 (upd (q0.2 6) (a1).toNatClampNeg (vp_nar .boolean 1))))) hx hb hK hP hD hS 7 0 rfl rfl (in_vp rfl c_1) dX_pump_34 rfl (fun H locs hP hD hS => ?_)
    refine lv_aload_n hx hb dX_pump_35 rfl (lv_at hl 0 rfl) ?_
    refine va_get (D := D) (ci := 7) (v := .ref (h 8)) (C := "BoilerDeskModel") (T := TX) (N := 43) hx hb hts inX hown hK hP 0 rfl rfl 38 (by decide) (hts _ q_681) (fun _ h9 => h9) rfl dX_pump_36 ?_
    refine lv_iload_n hx hb dX_pump_39 rfl (lv_at hl 1 rfl) ?_
    refine lv_iload_n hx hb dX_pump_40 rfl (lv_at hl 2 rfl) ?_
    refine kb_zast (D := D) (wf := mw h cZ) (w' := ((up q0.1 0 0), (ub (ub q0.2 6 (upd (q0.2 6) (a1).toNatClampNeg (vp_nar .boolean 1))) 7 (upd (q0.2 7) (a1).toNatClampNeg (vp_nar .boolean a2))))) hx hb hK hP hD hS 8 0 rfl rfl (in_vp rfl c_1) dX_pump_41 rfl (fun H locs hP hD hS => ?_)
    refine lv_aload_n hx hb dX_pump_42 rfl (lv_at hl 0 rfl) ?_
    refine va_get (D := D) (ci := 7) (v := .ref (h 9)) (C := "BoilerDeskModel") (T := TX) (N := 43) hx hb hts inX hown hK hP 0 rfl rfl 39 (by decide) (hts _ q_682) (fun _ h9 => h9) rfl dX_pump_43 ?_
    refine lv_iload_n hx hb dX_pump_46 rfl (lv_at hl 1 rfl) ?_
    refine lv_iload_n hx hb dX_pump_47 rfl (lv_at hl 3 rfl) ?_
    refine kb_zast (D := D) (wf := mw h cZ) (w' := ((up q0.1 0 0), (ub (ub (ub q0.2 6 (upd (q0.2 6) (a1).toNatClampNeg (vp_nar .boolean 1))) 7 (upd (q0.2 7) (a1).toNatClampNeg (vp_nar .boolean a2))) 8 (upd (q0.2 8) (a1).toNatClampNeg (vp_nar .boolean a3))))) hx hb hK hP hD hS 9 0 rfl rfl (in_vp rfl c_1) dX_pump_48 rfl (fun H locs hP hD hS => ?_)
    exact kb_vret (wf := mw h cZ) hx hb hr hlocks hK hP hD hS e.symm dX_pump_49
  · have e := e.trans (if_pos c_1)
    refine lv_iconst (v := 1) hx hb dX_pump_15 (by decide) ?_
    refine lv_goto (tgt := 20) hx hb dX_pump_16 (by decide) ?_
    refine lv_iconst (v := 1) hx hb dX_pump_20 (by decide) ?_
    refine kb_calli (wf := mw h cZ) (r := 1) (u := ((up (up q0.1 0 0) 0 1), q0.2)) (va_runV (As := [.int 1, .int 1]) (rest := []) ⟨hx, hb, hml, hown, hts⟩ (c_X_fails_1 l D h cZ _ q0.1 q0.2) (cwV 2 hts (gd_V q_787 q_789 q_24 q_40 q_790) rfl rfl rfl (by decide +kernel) ⟨Nat.le_of_ble_eq_true rfl, Nat.le_of_ble_eq_true rfl⟩) (kb_preV hN hK hP hD (va_recv hK hP (ci := 7) (q0 := 0) rfl rfl)) rfl rfl hl.1 rfl (lv_room (Nat.le_of_ble_eq_true rfl)) dX_pump_21 ⟨Nat.zero_le _, Nat.zero_le _⟩) hP hD hS hA (fun H locs hP hD hS => ?_)
    refine lv_if_eq (tgt := 28) hx hb dX_pump_24 (by decide) (fun c9 => absurd c9 (by decide)) (fun _ => ?_)
    exact kb_vret (wf := mw h cZ) hx hb hr hlocks hK hP hD hS e.symm dX_pump_27
/-- BoilerDeskModel.say(I)V -/
def F_X_say (q0 : (Nat → Int32) × (Nat → Nat → Int32)) (a1 : Int32) : (Nat → Int32) × (Nat → Nat → Int32) := (if (F_X_in a1 (0 : Int32) (2 : Int32)) = (0 : Int32) then ((up (up q0.1 0 0) 0 1), q0.2) else (if a1 = (0 : Int32) then ((up (up q0.1 0 0) 28 1), q0.2) else (if a1 = (1 : Int32) then ((up (up q0.1 0 0) 29 1), q0.2) else ((up (up q0.1 0 0) 30 1), q0.2))))
set_option maxHeartbeats 4000000 in
set_option maxRecDepth 100000 in
theorem c_X_say (l : Launch) (D : va_G) (h : Nat → Nat) (cZ : ClassId) (sz : Nat) (q0 : (Nat → Int32) × (Nat → Nat → Int32)) (a1 : Int32)  : Met l yX_say [.code yX_say cX_say 2 none] ({ frames := 1, cells := 0, slots := 0, locals := 22 }) (va_Pc [.ref (h 0), .int a1] (kb_B D [(cZ, .boolean)] (mw h cZ) q0 sz)) (va_Qv (fun u' => u' = F_X_say q0 a1) (kb_E D [(cZ, .boolean)] (mw h cZ) (va_A (mw h cZ q0) sz)) (va_A (mw h cZ q0) sz)) 0 0 (va_A (mw h cZ q0) sz) := by
  refine kb_of (cc := cX_say) (maxL := 2) (ret := none) (QcA := fun A => (va_Qv (fun u' => u' = F_X_say q0 a1) (kb_E D [(cZ, .boolean)] (mw h cZ) A) A)) (by decide) (Nat.le_of_ble_eq_true rfl) ?_
  intro p e s m below meth c A hx hb hr hlocks hml hown hts hA hN hK hP hD ls hl
  have hS : va_S A s.heap s.heap [] := va_S.rf
  have hl : lv_has ls 2 [(0, .ref (h 0)), (1, .int a1)] := hl
  have e : F_X_say q0 a1 = F_X_say q0 a1 := rfl
  refine lv_aload_n hx hb dX_say_0 rfl (lv_at hl 0 rfl) ?_
  refine lv_iconst (v := 0) hx hb dX_say_1 (by decide) ?_
  refine kb_put (D := D) (wf := mw h cZ) (w' := ((up q0.1 0 0), q0.2)) (ci := 7) (v := .int 0) (ty := .int) (C := "BoilerDeskModel") (T := TX) (N := 43) hx hb hts inX tyX tyX_ok nmX hown hK hP hD hS 0 rfl rfl 0 (by decide) (hts _ q_643) (fun _ h9 => h9) rfl (by decide +kernel) rfl rfl (Nat.le_of_ble_eq_true rfl) dX_say_2 rfl (fun H locs hP hD hS => ?_)
  refine lv_aload_n hx hb dX_say_5 rfl (lv_at hl 0 rfl) ?_
  refine lv_iload_n hx hb dX_say_6 rfl (lv_at hl 1 rfl) ?_
  refine lv_iconst (v := 0) hx hb dX_say_7 (by decide) ?_
  refine lv_iconst (v := 2) hx hb dX_say_8 (by decide) ?_
  refine kb_call0 (r := (F_X_in a1 (0 : Int32) (2 : Int32))) (va_runS (As := [.int a1, .int 0, .int 2]) (rest := [.ref (h 0)]) ⟨hx, hb, hml, hown, hts⟩ (c_X_in l D _ a1 (0 : Int32) (2 : Int32)) (va_cwS 3 hts (gd_S q_784 q_785 q_40 q_786) rfl rfl rfl (by decide +kernel) ⟨Nat.le_of_ble_eq_true rfl, Nat.le_of_ble_eq_true rfl⟩) (kb_pre0 hN hK) rfl rfl hl.1 rfl (lv_room (Nat.le_of_ble_eq_true rfl)) dX_say_9 ⟨Nat.zero_le _, Nat.zero_le _⟩) hP hS hA (fun H locs hP hS => ?_)
  refine lv_if_ne (tgt := 19) hx hb dX_say_12 (by decide) (fun c_1 => ?_) (fun c_1 => ?_)
  · have e := e.trans (if_neg c_1)
    refine lv_iconst (v := 0) hx hb dX_say_19 (by decide) ?_
    refine lv_iconst (v := 1) hx hb dX_say_20 (by decide) ?_
    refine kb_calli (wf := mw h cZ) (r := 0) (u := ((up q0.1 0 0), q0.2)) (va_runV (As := [.int 0, .int 1]) (rest := []) ⟨hx, hb, hml, hown, hts⟩ (c_X_fails_0 l D h cZ _ q0.1 q0.2) (cwV 2 hts (gd_V q_787 q_789 q_24 q_40 q_790) rfl rfl rfl (by decide +kernel) ⟨Nat.le_of_ble_eq_true rfl, Nat.le_of_ble_eq_true rfl⟩) (kb_preV hN hK hP hD (va_recv hK hP (ci := 7) (q0 := 0) rfl rfl)) rfl rfl hl.1 rfl (lv_room (Nat.le_of_ble_eq_true rfl)) dX_say_21 ⟨Nat.zero_le _, Nat.zero_le _⟩) hP hD hS hA (fun H locs hP hD hS => ?_)
    refine lv_if_eq (tgt := 28) hx hb dX_say_24 (by decide) (fun _ => ?_) (fun c9 => absurd (by decide) c9)
    refine lv_iload_n hx hb dX_say_28 rfl (lv_at hl 1 rfl) ?_
    refine lv_if_ne (tgt := 40) hx hb dX_say_29 (by decide) (fun c_2 => ?_) (fun c_2 => ?_)
    · have e := e.trans (if_neg c_2)
      refine lv_iload_n hx hb dX_say_40 rfl (lv_at hl 1 rfl) ?_
      refine lv_iconst (v := 1) hx hb dX_say_41 (by decide) ?_
      refine lv_icmp_ne (tgt := 53) hx hb dX_say_42 (by decide) (fun c_3 => ?_) (fun c_3 => ?_)
      · have e := e.trans (if_neg c_3)
        refine lv_aload_n hx hb dX_say_53 rfl (lv_at hl 0 rfl) ?_
        refine lv_iconst (v := 1) hx hb dX_say_54 (by decide) ?_
        refine kb_put (D := D) (wf := mw h cZ) (w' := ((up (up q0.1 0 0) 30 1), q0.2)) (ci := 7) (v := .int 1) (ty := .boolean) (C := "BoilerDeskModel") (T := TX) (N := 43) hx hb hts inX tyX tyX_ok nmX hown hK hP hD hS 0 rfl rfl 36 (by decide) (hts _ q_679) (fun _ h9 => h9) rfl (by decide +kernel) rfl rfl (Nat.le_of_ble_eq_true rfl) dX_say_55 rfl (fun H locs hP hD hS => ?_)
        exact kb_vret (wf := mw h cZ) hx hb hr hlocks hK hP hD hS e.symm dX_say_58
      · have e := e.trans (if_pos c_3)
        refine lv_aload_n hx hb dX_say_45 rfl (lv_at hl 0 rfl) ?_
        refine lv_iconst (v := 1) hx hb dX_say_46 (by decide) ?_
        refine kb_put (D := D) (wf := mw h cZ) (w' := ((up (up q0.1 0 0) 29 1), q0.2)) (ci := 7) (v := .int 1) (ty := .boolean) (C := "BoilerDeskModel") (T := TX) (N := 43) hx hb hts inX tyX tyX_ok nmX hown hK hP hD hS 0 rfl rfl 35 (by decide) (hts _ q_678) (fun _ h9 => h9) rfl (by decide +kernel) rfl rfl (Nat.le_of_ble_eq_true rfl) dX_say_47 rfl (fun H locs hP hD hS => ?_)
        refine lv_goto (tgt := 58) hx hb dX_say_50 (by decide) ?_
        exact kb_vret (wf := mw h cZ) hx hb hr hlocks hK hP hD hS e.symm dX_say_58
    · have e := e.trans (if_pos c_2)
      refine lv_aload_n hx hb dX_say_32 rfl (lv_at hl 0 rfl) ?_
      refine lv_iconst (v := 1) hx hb dX_say_33 (by decide) ?_
      refine kb_put (D := D) (wf := mw h cZ) (w' := ((up (up q0.1 0 0) 28 1), q0.2)) (ci := 7) (v := .int 1) (ty := .boolean) (C := "BoilerDeskModel") (T := TX) (N := 43) hx hb hts inX tyX tyX_ok nmX hown hK hP hD hS 0 rfl rfl 34 (by decide) (hts _ q_677) (fun _ h9 => h9) rfl (by decide +kernel) rfl rfl (Nat.le_of_ble_eq_true rfl) dX_say_34 rfl (fun H locs hP hD hS => ?_)
      refine lv_goto (tgt := 58) hx hb dX_say_37 (by decide) ?_
      exact kb_vret (wf := mw h cZ) hx hb hr hlocks hK hP hD hS e.symm dX_say_58
  · have e := e.trans (if_pos c_1)
    refine lv_iconst (v := 1) hx hb dX_say_15 (by decide) ?_
    refine lv_goto (tgt := 20) hx hb dX_say_16 (by decide) ?_
    refine lv_iconst (v := 1) hx hb dX_say_20 (by decide) ?_
    refine kb_calli (wf := mw h cZ) (r := 1) (u := ((up (up q0.1 0 0) 0 1), q0.2)) (va_runV (As := [.int 1, .int 1]) (rest := []) ⟨hx, hb, hml, hown, hts⟩ (c_X_fails_1 l D h cZ _ q0.1 q0.2) (cwV 2 hts (gd_V q_787 q_789 q_24 q_40 q_790) rfl rfl rfl (by decide +kernel) ⟨Nat.le_of_ble_eq_true rfl, Nat.le_of_ble_eq_true rfl⟩) (kb_preV hN hK hP hD (va_recv hK hP (ci := 7) (q0 := 0) rfl rfl)) rfl rfl hl.1 rfl (lv_room (Nat.le_of_ble_eq_true rfl)) dX_say_21 ⟨Nat.zero_le _, Nat.zero_le _⟩) hP hD hS hA (fun H locs hP hD hS => ?_)
    refine lv_if_eq (tgt := 28) hx hb dX_say_24 (by decide) (fun c9 => absurd c9 (by decide)) (fun _ => ?_)
    exact kb_vret (wf := mw h cZ) hx hb hr hlocks hK hP hD hS e.symm dX_say_27
/-- BoilerDeskModel.unit(IZ)V -/
def F_X_unit (q0 : (Nat → Int32) × (Nat → Nat → Int32)) (a1 : Int32) (a2 : Int32) : (Nat → Int32) × (Nat → Nat → Int32) := (if (F_X_in a1 (0 : Int32) (9 : Int32)) = (0 : Int32) then ((up (up q0.1 0 0) 0 1), q0.2) else (if a2 = (0 : Int32) then ((up q0.1 0 0), (ub q0.2 10 (upd (q0.2 10) (a1).toNatClampNeg (vp_nar .boolean 1)))) else ((up q0.1 0 0), (ub q0.2 9 (upd (q0.2 9) (a1).toNatClampNeg (vp_nar .boolean 1))))))
set_option maxHeartbeats 4000000 in
set_option maxRecDepth 100000 in
theorem c_X_unit (l : Launch) (D : va_G) (h : Nat → Nat) (cZ : ClassId) (sz : Nat) (q0 : (Nat → Int32) × (Nat → Nat → Int32)) (a1 : Int32) (a2 : Int32) (z2 : a2 = 0 ∨ a2 = 1) : Met l yX_unit [.code yX_unit cX_unit 3 none] ({ frames := 1, cells := 0, slots := 0, locals := 22 }) (va_Pc [.ref (h 0), .int a1, .int a2] (kb_B D [(cZ, .boolean)] (mw h cZ) q0 sz)) (va_Qv (fun u' => u' = F_X_unit q0 a1 a2) (kb_E D [(cZ, .boolean)] (mw h cZ) (va_A (mw h cZ q0) sz)) (va_A (mw h cZ q0) sz)) 0 0 (va_A (mw h cZ q0) sz) := by
  refine kb_of (cc := cX_unit) (maxL := 3) (ret := none) (QcA := fun A => (va_Qv (fun u' => u' = F_X_unit q0 a1 a2) (kb_E D [(cZ, .boolean)] (mw h cZ) A) A)) (by decide) (Nat.le_of_ble_eq_true rfl) ?_
  intro p e s m below meth c A hx hb hr hlocks hml hown hts hA hN hK hP hD ls hl
  have hS : va_S A s.heap s.heap [] := va_S.rf
  have hl : lv_has ls 3 [(0, .ref (h 0)), (1, .int a1), (2, .int a2)] := hl
  have e : F_X_unit q0 a1 a2 = F_X_unit q0 a1 a2 := rfl
  refine lv_aload_n hx hb dX_unit_0 rfl (lv_at hl 0 rfl) ?_
  refine lv_iconst (v := 0) hx hb dX_unit_1 (by decide) ?_
  refine kb_put (D := D) (wf := mw h cZ) (w' := ((up q0.1 0 0), q0.2)) (ci := 7) (v := .int 0) (ty := .int) (C := "BoilerDeskModel") (T := TX) (N := 43) hx hb hts inX tyX tyX_ok nmX hown hK hP hD hS 0 rfl rfl 0 (by decide) (hts _ q_643) (fun _ h9 => h9) rfl (by decide +kernel) rfl rfl (Nat.le_of_ble_eq_true rfl) dX_unit_2 rfl (fun H locs hP hD hS => ?_)
  refine lv_aload_n hx hb dX_unit_5 rfl (lv_at hl 0 rfl) ?_
  refine lv_iload_n hx hb dX_unit_6 rfl (lv_at hl 1 rfl) ?_
  refine lv_iconst (v := 0) hx hb dX_unit_7 (by decide) ?_
  refine lv_bipush (v := 9) hx hb dX_unit_8 (by decide) ?_
  refine kb_call0 (r := (F_X_in a1 (0 : Int32) (9 : Int32))) (va_runS (As := [.int a1, .int 0, .int 9]) (rest := [.ref (h 0)]) ⟨hx, hb, hml, hown, hts⟩ (c_X_in l D _ a1 (0 : Int32) (9 : Int32)) (va_cwS 3 hts (gd_S q_784 q_785 q_40 q_786) rfl rfl rfl (by decide +kernel) ⟨Nat.le_of_ble_eq_true rfl, Nat.le_of_ble_eq_true rfl⟩) (kb_pre0 hN hK) rfl rfl hl.1 rfl (lv_room (Nat.le_of_ble_eq_true rfl)) dX_unit_10 ⟨Nat.zero_le _, Nat.zero_le _⟩) hP hS hA (fun H locs hP hS => ?_)
  refine lv_if_ne (tgt := 20) hx hb dX_unit_13 (by decide) (fun c_1 => ?_) (fun c_1 => ?_)
  · have e := e.trans (if_neg c_1)
    refine lv_iconst (v := 0) hx hb dX_unit_20 (by decide) ?_
    refine lv_iconst (v := 1) hx hb dX_unit_21 (by decide) ?_
    refine kb_calli (wf := mw h cZ) (r := 0) (u := ((up q0.1 0 0), q0.2)) (va_runV (As := [.int 0, .int 1]) (rest := []) ⟨hx, hb, hml, hown, hts⟩ (c_X_fails_0 l D h cZ _ q0.1 q0.2) (cwV 2 hts (gd_V q_787 q_789 q_24 q_40 q_790) rfl rfl rfl (by decide +kernel) ⟨Nat.le_of_ble_eq_true rfl, Nat.le_of_ble_eq_true rfl⟩) (kb_preV hN hK hP hD (va_recv hK hP (ci := 7) (q0 := 0) rfl rfl)) rfl rfl hl.1 rfl (lv_room (Nat.le_of_ble_eq_true rfl)) dX_unit_22 ⟨Nat.zero_le _, Nat.zero_le _⟩) hP hD hS hA (fun H locs hP hD hS => ?_)
    refine lv_if_eq (tgt := 29) hx hb dX_unit_25 (by decide) (fun _ => ?_) (fun c9 => absurd (by decide) c9)
    refine lv_iload_n hx hb dX_unit_29 rfl (lv_at hl 2 rfl) ?_
    refine lv_if_eq (tgt := 43) hx hb dX_unit_30 (by decide) (fun c_2 => ?_) (fun c_2 => ?_)
    · have e := e.trans (if_pos c_2)
      refine lv_aload_n hx hb dX_unit_43 rfl (lv_at hl 0 rfl) ?_
      refine va_get (D := D) (ci := 7) (v := .ref (h 11)) (C := "BoilerDeskModel") (T := TX) (N := 43) hx hb hts inX hown hK hP 0 rfl rfl 41 (by decide) (hts _ q_684) (fun _ h9 => h9) rfl dX_unit_44 ?_
      refine lv_iload_n hx hb dX_unit_47 rfl (lv_at hl 1 rfl) ?_
      refine lv_iconst (v := 1) hx hb dX_unit_48 (by decide) ?_
      refine kb_zast (D := D) (wf := mw h cZ) (w' := ((up q0.1 0 0), (ub q0.2 10 (upd (q0.2 10) (a1).toNatClampNeg (vp_nar .boolean 1))))) hx hb hK hP hD hS 11 0 rfl rfl (in_vp rfl c_1) dX_unit_49 rfl (fun H locs hP hD hS => ?_)
      exact kb_vret (wf := mw h cZ) hx hb hr hlocks hK hP hD hS e.symm dX_unit_50
    · have e := e.trans (if_neg c_2)
      refine lv_aload_n hx hb dX_unit_33 rfl (lv_at hl 0 rfl) ?_
      refine va_get (D := D) (ci := 7) (v := .ref (h 10)) (C := "BoilerDeskModel") (T := TX) (N := 43) hx hb hts inX hown hK hP 0 rfl rfl 40 (by decide) (hts _ q_683) (fun _ h9 => h9) rfl dX_unit_34 ?_
      refine lv_iload_n hx hb dX_unit_37 rfl (lv_at hl 1 rfl) ?_
      refine lv_iconst (v := 1) hx hb dX_unit_38 (by decide) ?_
      refine kb_zast (D := D) (wf := mw h cZ) (w' := ((up q0.1 0 0), (ub q0.2 9 (upd (q0.2 9) (a1).toNatClampNeg (vp_nar .boolean 1))))) hx hb hK hP hD hS 10 0 rfl rfl (in_vp rfl c_1) dX_unit_39 rfl (fun H locs hP hD hS => ?_)
      refine lv_goto (tgt := 50) hx hb dX_unit_40 (by decide) ?_
      exact kb_vret (wf := mw h cZ) hx hb hr hlocks hK hP hD hS e.symm dX_unit_50
  · have e := e.trans (if_pos c_1)
    refine lv_iconst (v := 1) hx hb dX_unit_16 (by decide) ?_
    refine lv_goto (tgt := 21) hx hb dX_unit_17 (by decide) ?_
    refine lv_iconst (v := 1) hx hb dX_unit_21 (by decide) ?_
    refine kb_calli (wf := mw h cZ) (r := 1) (u := ((up (up q0.1 0 0) 0 1), q0.2)) (va_runV (As := [.int 1, .int 1]) (rest := []) ⟨hx, hb, hml, hown, hts⟩ (c_X_fails_1 l D h cZ _ q0.1 q0.2) (cwV 2 hts (gd_V q_787 q_789 q_24 q_40 q_790) rfl rfl rfl (by decide +kernel) ⟨Nat.le_of_ble_eq_true rfl, Nat.le_of_ble_eq_true rfl⟩) (kb_preV hN hK hP hD (va_recv hK hP (ci := 7) (q0 := 0) rfl rfl)) rfl rfl hl.1 rfl (lv_room (Nat.le_of_ble_eq_true rfl)) dX_unit_22 ⟨Nat.zero_le _, Nat.zero_le _⟩) hP hD hS hA (fun H locs hP hD hS => ?_)
    refine lv_if_eq (tgt := 29) hx hb dX_unit_25 (by decide) (fun c9 => absurd c9 (by decide)) (fun _ => ?_)
    exact kb_vret (wf := mw h cZ) hx hb hr hlocks hK hP hD hS e.symm dX_unit_28
/-- BoilerDeskModel.find(IZ)V -/
def K_X_find_13 (a1 : Int32) (a2 : Int32) (q : (Nat → Int32) × (Nat → Nat → Int32))  : (Nat → Int32) × (Nat → Nat → Int32) := q
def F_X_find (q0 : (Nat → Int32) × (Nat → Nat → Int32)) (a1 : Int32) (a2 : Int32) : (Nat → Int32) × (Nat → Nat → Int32) := (if a2 = (0 : Int32) then K_X_find_13 a1 a2 q0 else (if ((q0.2 0) (a1).toNatClampNeg) = (0 : Int32) then ((up q0.1 17 ((q0.1 17) ||| ((1 : Int32) <<< (a1 &&& 31)))), (ub (ub q0.2 0 (upd (q0.2 0) (a1).toNatClampNeg (vp_nar .boolean 1))) 1 (upd (q0.2 1) (a1).toNatClampNeg (vp_nar .boolean 0)))) else K_X_find_13 a1 a2 q0))
set_option maxHeartbeats 4000000 in
set_option maxRecDepth 100000 in
theorem c_X_find (l : Launch) (D : va_G) (h : Nat → Nat) (cZ : ClassId) (sz : Nat) (q0 : (Nat → Int32) × (Nat → Nat → Int32)) (a1 : Int32) (a2 : Int32) (hb_a1 : vp_in a1 10) (z2 : a2 = 0 ∨ a2 = 1) : Met l yX_find [.code yX_find cX_find 3 none] ({ frames := 0, cells := 0, slots := 0, locals := 0 }) (va_Pc [.ref (h 0), .int a1, .int a2] (kb_B D [(cZ, .boolean)] (mw h cZ) q0 sz)) (va_Qv (fun u' => u' = F_X_find q0 a1 a2) (kb_E D [(cZ, .boolean)] (mw h cZ) (va_A (mw h cZ q0) sz)) (va_A (mw h cZ q0) sz)) 0 0 (va_A (mw h cZ q0) sz) := by
  refine kb_of (cc := cX_find) (maxL := 3) (ret := none) (QcA := fun A => (va_Qv (fun u' => u' = F_X_find q0 a1 a2) (kb_E D [(cZ, .boolean)] (mw h cZ) A) A)) (by decide) (Nat.le_of_ble_eq_true rfl) ?_
  intro p e s m below meth c A hx hb hr hlocks hml hown hts hA hN hK hP hD ls hl
  have hS : va_S A s.heap s.heap [] := va_S.rf
  have hl : lv_has ls 3 [(0, .ref (h 0)), (1, .int a1), (2, .int a2)] := hl
  have k_13 : ∀ (q : (Nat → Int32) × (Nat → Nat → Int32)) (H : Heap) (locs : List Loc) (ls : Array Slot), F_X_find q0 a1 a2 = K_X_find_13 a1 a2 q → va_P D vwCl (mw h cZ q) H → va_D A (mw h cZ q) → va_S A s.heap H locs → lv_has ls 3 [(0, .ref (h 0)), (1, .int a1), (2, .int a2)] → W p l e ({ frames := 0, cells := 0, slots := 0, locals := 0 }) s m [.ref (h 0), .int a1, .int a2].toArray below meth c H locs 0 0 (MQ below (va_Qv (fun u' => u' = F_X_find q0 a1 a2) (kb_E D [(cZ, .boolean)] (mw h cZ) A) A) [.ref (h 0), .int a1, .int a2].toArray s 0 0 A) (F0 m 13 ls []) := by
      intro q H locs ls e hP hD hS hl
      exact kb_vret (wf := mw h cZ) hx hb hr hlocks hK hP hD hS e.symm dX_find_13
  have e : F_X_find q0 a1 a2 = F_X_find q0 a1 a2 := rfl
  refine lv_iload_n hx hb dX_find_0 rfl (lv_at hl 2 rfl) ?_
  refine lv_if_eq (tgt := 13) hx hb dX_find_1 (by decide) (fun c_1 => ?_) (fun c_1 => ?_)
  · have e := e.trans (if_pos c_1)
    exact k_13 q0 _ _ _ e hP hD hS (lv_sub hl [0, 1, 2] rfl)
  · have e := e.trans (if_neg c_1)
    refine lv_aload_n hx hb dX_find_4 rfl (lv_at hl 0 rfl) ?_
    refine va_get (D := D) (ci := 7) (v := .ref (h 1)) (C := "BoilerDeskModel") (T := TX) (N := 43) hx hb hts inX hown hK hP 0 rfl rfl 24 (by decide) (hts _ q_667) (fun _ h9 => h9) rfl dX_find_5 ?_
    refine lv_iload_n hx hb dX_find_8 rfl (lv_at hl 1 rfl) ?_
    refine va_zald hx hb hK hP 1 0 rfl rfl hb_a1 dX_find_9 ?_
    refine lv_if_eq (tgt := 14) hx hb dX_find_10 (by decide) (fun c_2 => ?_) (fun c_2 => ?_)
    · have e := e.trans (if_pos c_2)
      refine lv_aload_n hx hb dX_find_14 rfl (lv_at hl 0 rfl) ?_
      refine va_get (D := D) (ci := 7) (v := .ref (h 1)) (C := "BoilerDeskModel") (T := TX) (N := 43) hx hb hts inX hown hK hP 0 rfl rfl 24 (by decide) (hts _ q_667) (fun _ h9 => h9) rfl dX_find_15 ?_
      refine lv_iload_n hx hb dX_find_18 rfl (lv_at hl 1 rfl) ?_
      refine lv_iconst (v := 1) hx hb dX_find_19 (by decide) ?_
      refine kb_zast (D := D) (wf := mw h cZ) (w' := (q0.1, (ub q0.2 0 (upd (q0.2 0) (a1).toNatClampNeg (vp_nar .boolean 1))))) hx hb hK hP hD hS 1 0 rfl rfl hb_a1 dX_find_20 rfl (fun H locs hP hD hS => ?_)
      refine lv_aload_n hx hb dX_find_21 rfl (lv_at hl 0 rfl) ?_
      refine va_get (D := D) (ci := 7) (v := .ref (h 2)) (C := "BoilerDeskModel") (T := TX) (N := 43) hx hb hts inX hown hK hP 0 rfl rfl 25 (by decide) (hts _ q_668) (fun _ h9 => h9) rfl dX_find_22 ?_
      refine lv_iload_n hx hb dX_find_25 rfl (lv_at hl 1 rfl) ?_
      refine lv_iconst (v := 0) hx hb dX_find_26 (by decide) ?_
      refine kb_zast (D := D) (wf := mw h cZ) (w' := (q0.1, (ub (ub q0.2 0 (upd (q0.2 0) (a1).toNatClampNeg (vp_nar .boolean 1))) 1 (upd (q0.2 1) (a1).toNatClampNeg (vp_nar .boolean 0))))) hx hb hK hP hD hS 2 0 rfl rfl hb_a1 dX_find_27 rfl (fun H locs hP hD hS => ?_)
      refine lv_aload_n hx hb dX_find_28 rfl (lv_at hl 0 rfl) ?_
      refine lv_dup hx hb dX_find_29 rfl ?_
      refine va_get (D := D) (ci := 7) (v := .int (q0.1 17)) (C := "BoilerDeskModel") (T := TX) (N := 43) hx hb hts inX hown hK hP 0 rfl rfl 17 (by decide) (hts _ q_660) (fun _ h9 => h9) rfl dX_find_30 ?_
      refine lv_iconst (v := 1) hx hb dX_find_33 (by decide) ?_
      refine lv_iload_n hx hb dX_find_34 rfl (lv_at hl 1 rfl) ?_
      refine lv_ishl hx hb dX_find_35 ?_
      refine lv_ior hx hb dX_find_36 ?_
      refine kb_put (D := D) (wf := mw h cZ) (w' := ((up q0.1 17 ((q0.1 17) ||| ((1 : Int32) <<< (a1 &&& 31)))), (ub (ub q0.2 0 (upd (q0.2 0) (a1).toNatClampNeg (vp_nar .boolean 1))) 1 (upd (q0.2 1) (a1).toNatClampNeg (vp_nar .boolean 0))))) (ci := 7) (v := .int ((q0.1 17) ||| ((1 : Int32) <<< (a1 &&& 31)))) (ty := .int) (C := "BoilerDeskModel") (T := TX) (N := 43) hx hb hts inX tyX tyX_ok nmX hown hK hP hD hS 0 rfl rfl 17 (by decide) (hts _ q_660) (fun _ h9 => h9) rfl (by decide +kernel) rfl rfl (Nat.le_of_ble_eq_true rfl) dX_find_37 rfl (fun H locs hP hD hS => ?_)
      exact kb_vret (wf := mw h cZ) hx hb hr hlocks hK hP hD hS e.symm dX_find_40
    · have e := e.trans (if_neg c_2)
      exact k_13 q0 _ _ _ e hP hD hS (lv_sub hl [0, 1, 2] rfl)
/-- BoilerDeskModel.units()Z -/
def K_X_units_75  : Nat → Nat → ((Nat → Int32) × (Nat → Nat → Int32)) → (Int32 × ((Nat → Int32) × (Nat → Nat → Int32)))
  | 0, _, q => (1, q)
  | n + 1, i, q => (if ((q.2 10) ((nI i)).toNatClampNeg) = (0 : Int32) then K_X_units_75 n (i + 1) q else (if ((q.2 0) ((nI i)).toNatClampNeg) = (0 : Int32) then (if (q.1 10) = (0 : Int32) then K_X_units_75 n (i + 1) q else (0, q)) else (if ((q.2 1) ((nI i)).toNatClampNeg) = (0 : Int32) then K_X_units_75 n (i + 1) (q.1, (ub q.2 1 (upd (q.2 1) ((nI i)).toNatClampNeg (vp_nar .boolean 1)))) else (if (q.1 10) = (0 : Int32) then K_X_units_75 n (i + 1) q else (0, q)))))
def K_X_units_2  : Nat → Nat → ((Nat → Int32) × (Nat → Nat → Int32)) → (Int32 × ((Nat → Int32) × (Nat → Nat → Int32)))
  | 0, _, q => K_X_units_75 10 0 q
  | n + 1, i, q => (if ((q.2 9) ((nI i)).toNatClampNeg) = (0 : Int32) then K_X_units_2 n (i + 1) q else (if ((q.2 0) ((nI i)).toNatClampNeg) = (0 : Int32) then (if (q.1 10) = (0 : Int32) then K_X_units_2 n (i + 1) q else (0, q)) else K_X_units_2 n (i + 1) ((up q.1 18 ((q.1 18) ||| ((1 : Int32) <<< ((nI i) &&& 31)))), (ub (ub q.2 0 (upd (q.2 0) ((nI i)).toNatClampNeg (vp_nar .boolean 0))) 1 (upd (q.2 1) ((nI i)).toNatClampNeg (vp_nar .boolean 0))))))
def F_X_units (q0 : (Nat → Int32) × (Nat → Nat → Int32))  : Int32 × ((Nat → Int32) × (Nat → Nat → Int32)) := K_X_units_2 10 0 q0
set_option maxHeartbeats 4000000 in
set_option maxRecDepth 100000 in
theorem c_X_units (l : Launch) (D : va_G) (h : Nat → Nat) (cZ : ClassId) (sz : Nat) (q0 : (Nat → Int32) × (Nat → Nat → Int32))   : Met l yX_units [.code yX_units cX_units 2 (some .boolean)] ({ frames := 0, cells := 0, slots := 0, locals := 0 }) (va_Pc [.ref (h 0)] (kb_B D [(cZ, .boolean)] (mw h cZ) q0 sz)) (va_Qi (fun r' u' => r' = (F_X_units q0).1 ∧ u' = (F_X_units q0).2) (kb_E D [(cZ, .boolean)] (mw h cZ) (va_A (mw h cZ q0) sz)) (va_A (mw h cZ q0) sz)) 0 0 (va_A (mw h cZ q0) sz) := by
  refine kb_of (cc := cX_units) (maxL := 2) (ret := (some .boolean)) (QcA := fun A => (va_Qi (fun r' u' => r' = (F_X_units q0).1 ∧ u' = (F_X_units q0).2) (kb_E D [(cZ, .boolean)] (mw h cZ) A) A)) (by decide) (Nat.le_of_ble_eq_true rfl) ?_
  intro p e s m below meth c A hx hb hr hlocks hml hown hts hA hN hK hP hD ls hl
  have hS : va_S A s.heap s.heap [] := va_S.rf
  have hl : lv_has ls 2 [(0, .ref (h 0))] := hl
  have k_75 : ∀ (n i : Nat) (q : (Nat → Int32) × (Nat → Nat → Int32)) (H : Heap) (locs : List Loc) (ls : Array Slot), i + n = 10 → F_X_units q0 = K_X_units_75 n i q → va_P D vwCl (mw h cZ q) H → va_D A (mw h cZ q) → va_S A s.heap H locs → lv_has ls 2 [(0, .ref (h 0)), (1, .int (nI i))] → W p l e ({ frames := 0, cells := 0, slots := 0, locals := 0 }) s m [.ref (h 0)].toArray below meth c H locs 0 0 (MQ below (va_Qi (fun r' u' => r' = (F_X_units q0).1 ∧ u' = (F_X_units q0).2) (kb_E D [(cZ, .boolean)] (mw h cZ) A) A) [.ref (h 0)].toArray s 0 0 A) (F0 m 75 ls []) := by
    intro n
    induction n with
    | zero =>
      intro i q H locs ls hin e hP hD hS hl
      obtain rfl : i = 10 := by omega
      refine lv_iload_n hx hb dX_units_75 rfl (lv_at hl 1 rfl) ?_
      refine lv_bipush (v := 10) hx hb dX_units_76 (by decide) ?_
      refine lv_icmp_ge (tgt := 136) hx hb dX_units_78 (by decide) (fun _ => ?_) (fun c9 => absurd (by decide) c9)
      refine lv_iconst (v := 1) hx hb dX_units_136 (by decide) ?_
      exact kb_zret (wf := mw h cZ) hx hb hr hlocks rfl hK hP hD hS ⟨(congrArg Prod.fst e).symm, (congrArg Prod.snd e).symm⟩ dX_units_137
    | succ n ih =>
      intro i q H locs ls hin e hP hD hS hl
      refine lv_iload_n hx hb dX_units_75 rfl (lv_at hl 1 rfl) ?_
      refine lv_bipush (v := 10) hx hb dX_units_76 (by decide) ?_
      refine lv_icmp_ge (tgt := 136) hx hb dX_units_78 (by decide) (fun c9 => absurd c9 (nI_ge (b := 10) (by omega) (by decide))) (fun _ => ?_)
      refine lv_aload_n hx hb dX_units_81 rfl (lv_at hl 0 rfl) ?_
      refine va_get (D := D) (ci := 7) (v := .ref (h 11)) (C := "BoilerDeskModel") (T := TX) (N := 43) hx hb hts inX hown hK hP 0 rfl rfl 41 (by decide) (hts _ q_684) (fun _ h9 => h9) rfl dX_units_82 ?_
      refine lv_iload_n hx hb dX_units_85 rfl (lv_at hl 1 rfl) ?_
      refine va_zald hx hb hK hP 11 0 rfl rfl (vp_in_nI (by omega) (by decide)) dX_units_86 ?_
      refine lv_if_ne (tgt := 93) hx hb dX_units_87 (by decide) (fun c_1 => ?_) (fun c_1 => ?_)
      · have e := e.trans (if_neg c_1)
        refine lv_aload_n hx hb dX_units_93 rfl (lv_at hl 0 rfl) ?_
        refine va_get (D := D) (ci := 7) (v := .ref (h 1)) (C := "BoilerDeskModel") (T := TX) (N := 43) hx hb hts inX hown hK hP 0 rfl rfl 24 (by decide) (hts _ q_667) (fun _ h9 => h9) rfl dX_units_94 ?_
        refine lv_iload_n hx hb dX_units_97 rfl (lv_at hl 1 rfl) ?_
        refine va_zald hx hb hK hP 1 0 rfl rfl (vp_in_nI (by omega) (by decide)) dX_units_98 ?_
        refine lv_if_eq (tgt := 121) hx hb dX_units_99 (by decide) (fun c_2 => ?_) (fun c_2 => ?_)
        · have e := e.trans (if_pos c_2)
          refine lv_aload_n hx hb dX_units_121 rfl (lv_at hl 0 rfl) ?_
          refine va_get (D := D) (ci := 7) (v := .int (q.1 10)) (C := "BoilerDeskModel") (T := TX) (N := 43) hx hb hts inX hown hK hP 0 rfl rfl 10 (by decide) (hts _ q_653) (fun _ h9 => h9) rfl dX_units_122 ?_
          refine lv_if_eq (tgt := 130) hx hb dX_units_125 (by decide) (fun c_3 => ?_) (fun c_3 => ?_)
          · have e := e.trans (if_pos c_3)
            refine lv_iinc (v := (nI (i + 1))) (lv' := [(1, .int (nI (i + 1))), (0, .ref (h 0))]) hx hb dX_units_130 hl (k := 1) rfl (nI_1 i) (by decide) rfl (fun ls hl => ?_)
            refine lv_goto (tgt := 75) hx hb dX_units_133 (by decide) ?_
            exact ih (i + 1) q _ _ _ (by omega) e hP hD hS (lv_sub hl [1, 0] rfl)
          · have e := e.trans (if_neg c_3)
            refine lv_iconst (v := 0) hx hb dX_units_128 (by decide) ?_
            exact kb_zret (wf := mw h cZ) hx hb hr hlocks rfl hK hP hD hS ⟨(congrArg Prod.fst e).symm, (congrArg Prod.snd e).symm⟩ dX_units_129
        · have e := e.trans (if_neg c_2)
          refine lv_aload_n hx hb dX_units_102 rfl (lv_at hl 0 rfl) ?_
          refine va_get (D := D) (ci := 7) (v := .ref (h 2)) (C := "BoilerDeskModel") (T := TX) (N := 43) hx hb hts inX hown hK hP 0 rfl rfl 25 (by decide) (hts _ q_668) (fun _ h9 => h9) rfl dX_units_103 ?_
          refine lv_iload_n hx hb dX_units_106 rfl (lv_at hl 1 rfl) ?_
          refine va_zald hx hb hK hP 2 0 rfl rfl (vp_in_nI (by omega) (by decide)) dX_units_107 ?_
          refine lv_if_ne (tgt := 121) hx hb dX_units_108 (by decide) (fun c_4 => ?_) (fun c_4 => ?_)
          · have e := e.trans (if_neg c_4)
            refine lv_aload_n hx hb dX_units_121 rfl (lv_at hl 0 rfl) ?_
            refine va_get (D := D) (ci := 7) (v := .int (q.1 10)) (C := "BoilerDeskModel") (T := TX) (N := 43) hx hb hts inX hown hK hP 0 rfl rfl 10 (by decide) (hts _ q_653) (fun _ h9 => h9) rfl dX_units_122 ?_
            refine lv_if_eq (tgt := 130) hx hb dX_units_125 (by decide) (fun c_5 => ?_) (fun c_5 => ?_)
            · have e := e.trans (if_pos c_5)
              refine lv_iinc (v := (nI (i + 1))) (lv' := [(1, .int (nI (i + 1))), (0, .ref (h 0))]) hx hb dX_units_130 hl (k := 1) rfl (nI_1 i) (by decide) rfl (fun ls hl => ?_)
              refine lv_goto (tgt := 75) hx hb dX_units_133 (by decide) ?_
              exact ih (i + 1) q _ _ _ (by omega) e hP hD hS (lv_sub hl [1, 0] rfl)
            · have e := e.trans (if_neg c_5)
              refine lv_iconst (v := 0) hx hb dX_units_128 (by decide) ?_
              exact kb_zret (wf := mw h cZ) hx hb hr hlocks rfl hK hP hD hS ⟨(congrArg Prod.fst e).symm, (congrArg Prod.snd e).symm⟩ dX_units_129
          · have e := e.trans (if_pos c_4)
            refine lv_aload_n hx hb dX_units_111 rfl (lv_at hl 0 rfl) ?_
            refine va_get (D := D) (ci := 7) (v := .ref (h 2)) (C := "BoilerDeskModel") (T := TX) (N := 43) hx hb hts inX hown hK hP 0 rfl rfl 25 (by decide) (hts _ q_668) (fun _ h9 => h9) rfl dX_units_112 ?_
            refine lv_iload_n hx hb dX_units_115 rfl (lv_at hl 1 rfl) ?_
            refine lv_iconst (v := 1) hx hb dX_units_116 (by decide) ?_
            refine kb_zast (D := D) (wf := mw h cZ) (w' := (q.1, (ub q.2 1 (upd (q.2 1) ((nI i)).toNatClampNeg (vp_nar .boolean 1))))) hx hb hK hP hD hS 2 0 rfl rfl (vp_in_nI (by omega) (by decide)) dX_units_117 rfl (fun H locs hP hD hS => ?_)
            refine lv_goto (tgt := 130) hx hb dX_units_118 (by decide) ?_
            refine lv_iinc (v := (nI (i + 1))) (lv' := [(1, .int (nI (i + 1))), (0, .ref (h 0))]) hx hb dX_units_130 hl (k := 1) rfl (nI_1 i) (by decide) rfl (fun ls hl => ?_)
            refine lv_goto (tgt := 75) hx hb dX_units_133 (by decide) ?_
            exact ih (i + 1) (q.1, (ub q.2 1 (upd (q.2 1) ((nI i)).toNatClampNeg (vp_nar .boolean 1)))) _ _ _ (by omega) e hP hD hS (lv_sub hl [1, 0] rfl)
      · have e := e.trans (if_pos c_1)
        refine lv_goto (tgt := 130) hx hb dX_units_90 (by decide) ?_
        refine lv_iinc (v := (nI (i + 1))) (lv' := [(1, .int (nI (i + 1))), (0, .ref (h 0))]) hx hb dX_units_130 hl (k := 1) rfl (nI_1 i) (by decide) rfl (fun ls hl => ?_)
        refine lv_goto (tgt := 75) hx hb dX_units_133 (by decide) ?_
        exact ih (i + 1) q _ _ _ (by omega) e hP hD hS (lv_sub hl [1, 0] rfl)
  have k_2 : ∀ (n i : Nat) (q : (Nat → Int32) × (Nat → Nat → Int32)) (H : Heap) (locs : List Loc) (ls : Array Slot), i + n = 10 → F_X_units q0 = K_X_units_2 n i q → va_P D vwCl (mw h cZ q) H → va_D A (mw h cZ q) → va_S A s.heap H locs → lv_has ls 2 [(0, .ref (h 0)), (1, .int (nI i))] → W p l e ({ frames := 0, cells := 0, slots := 0, locals := 0 }) s m [.ref (h 0)].toArray below meth c H locs 0 0 (MQ below (va_Qi (fun r' u' => r' = (F_X_units q0).1 ∧ u' = (F_X_units q0).2) (kb_E D [(cZ, .boolean)] (mw h cZ) A) A) [.ref (h 0)].toArray s 0 0 A) (F0 m 2 ls []) := by
    intro n
    induction n with
    | zero =>
      intro i q H locs ls hin e hP hD hS hl
      obtain rfl : i = 10 := by omega
      refine lv_iload_n hx hb dX_units_2 rfl (lv_at hl 1 rfl) ?_
      refine lv_bipush (v := 10) hx hb dX_units_3 (by decide) ?_
      refine lv_icmp_ge (tgt := 73) hx hb dX_units_5 (by decide) (fun _ => ?_) (fun c9 => absurd (by decide) c9)
      refine lv_iconst (v := 0) hx hb dX_units_73 (by decide) ?_
      refine lv_istore_n (lv' := [(1, .int 0), (0, .ref (h 0))]) hx hb dX_units_74 rfl hl (by decide) rfl (fun ls hl => ?_)
      exact k_75 10 0 q _ _ _ (by omega) e hP hD hS (lv_sub hl [1, 0] rfl)
    | succ n ih =>
      intro i q H locs ls hin e hP hD hS hl
      refine lv_iload_n hx hb dX_units_2 rfl (lv_at hl 1 rfl) ?_
      refine lv_bipush (v := 10) hx hb dX_units_3 (by decide) ?_
      refine lv_icmp_ge (tgt := 73) hx hb dX_units_5 (by decide) (fun c9 => absurd c9 (nI_ge (b := 10) (by omega) (by decide))) (fun _ => ?_)
      refine lv_aload_n hx hb dX_units_8 rfl (lv_at hl 0 rfl) ?_
      refine va_get (D := D) (ci := 7) (v := .ref (h 10)) (C := "BoilerDeskModel") (T := TX) (N := 43) hx hb hts inX hown hK hP 0 rfl rfl 40 (by decide) (hts _ q_683) (fun _ h9 => h9) rfl dX_units_9 ?_
      refine lv_iload_n hx hb dX_units_12 rfl (lv_at hl 1 rfl) ?_
      refine va_zald hx hb hK hP 10 0 rfl rfl (vp_in_nI (by omega) (by decide)) dX_units_13 ?_
      refine lv_if_ne (tgt := 20) hx hb dX_units_14 (by decide) (fun c_6 => ?_) (fun c_6 => ?_)
      · have e := e.trans (if_neg c_6)
        refine lv_aload_n hx hb dX_units_20 rfl (lv_at hl 0 rfl) ?_
        refine va_get (D := D) (ci := 7) (v := .ref (h 1)) (C := "BoilerDeskModel") (T := TX) (N := 43) hx hb hts inX hown hK hP 0 rfl rfl 24 (by decide) (hts _ q_667) (fun _ h9 => h9) rfl dX_units_21 ?_
        refine lv_iload_n hx hb dX_units_24 rfl (lv_at hl 1 rfl) ?_
        refine va_zald hx hb hK hP 1 0 rfl rfl (vp_in_nI (by omega) (by decide)) dX_units_25 ?_
        refine lv_if_eq (tgt := 58) hx hb dX_units_26 (by decide) (fun c_7 => ?_) (fun c_7 => ?_)
        · have e := e.trans (if_pos c_7)
          refine lv_aload_n hx hb dX_units_58 rfl (lv_at hl 0 rfl) ?_
          refine va_get (D := D) (ci := 7) (v := .int (q.1 10)) (C := "BoilerDeskModel") (T := TX) (N := 43) hx hb hts inX hown hK hP 0 rfl rfl 10 (by decide) (hts _ q_653) (fun _ h9 => h9) rfl dX_units_59 ?_
          refine lv_if_eq (tgt := 67) hx hb dX_units_62 (by decide) (fun c_8 => ?_) (fun c_8 => ?_)
          · have e := e.trans (if_pos c_8)
            refine lv_iinc (v := (nI (i + 1))) (lv' := [(1, .int (nI (i + 1))), (0, .ref (h 0))]) hx hb dX_units_67 hl (k := 1) rfl (nI_1 i) (by decide) rfl (fun ls hl => ?_)
            refine lv_goto (tgt := 2) hx hb dX_units_70 (by decide) ?_
            exact ih (i + 1) q _ _ _ (by omega) e hP hD hS (lv_sub hl [1, 0] rfl)
          · have e := e.trans (if_neg c_8)
            refine lv_iconst (v := 0) hx hb dX_units_65 (by decide) ?_
            exact kb_zret (wf := mw h cZ) hx hb hr hlocks rfl hK hP hD hS ⟨(congrArg Prod.fst e).symm, (congrArg Prod.snd e).symm⟩ dX_units_66
        · have e := e.trans (if_neg c_7)
          refine lv_aload_n hx hb dX_units_29 rfl (lv_at hl 0 rfl) ?_
          refine va_get (D := D) (ci := 7) (v := .ref (h 1)) (C := "BoilerDeskModel") (T := TX) (N := 43) hx hb hts inX hown hK hP 0 rfl rfl 24 (by decide) (hts _ q_667) (fun _ h9 => h9) rfl dX_units_30 ?_
          refine lv_iload_n hx hb dX_units_33 rfl (lv_at hl 1 rfl) ?_
          refine lv_iconst (v := 0) hx hb dX_units_34 (by decide) ?_
          refine kb_zast (D := D) (wf := mw h cZ) (w' := (q.1, (ub q.2 0 (upd (q.2 0) ((nI i)).toNatClampNeg (vp_nar .boolean 0))))) hx hb hK hP hD hS 1 0 rfl rfl (vp_in_nI (by omega) (by decide)) dX_units_35 rfl (fun H locs hP hD hS => ?_)
          refine lv_aload_n hx hb dX_units_36 rfl (lv_at hl 0 rfl) ?_
          refine va_get (D := D) (ci := 7) (v := .ref (h 2)) (C := "BoilerDeskModel") (T := TX) (N := 43) hx hb hts inX hown hK hP 0 rfl rfl 25 (by decide) (hts _ q_668) (fun _ h9 => h9) rfl dX_units_37 ?_
          refine lv_iload_n hx hb dX_units_40 rfl (lv_at hl 1 rfl) ?_
          refine lv_iconst (v := 0) hx hb dX_units_41 (by decide) ?_
          refine kb_zast (D := D) (wf := mw h cZ) (w' := (q.1, (ub (ub q.2 0 (upd (q.2 0) ((nI i)).toNatClampNeg (vp_nar .boolean 0))) 1 (upd (q.2 1) ((nI i)).toNatClampNeg (vp_nar .boolean 0))))) hx hb hK hP hD hS 2 0 rfl rfl (vp_in_nI (by omega) (by decide)) dX_units_42 rfl (fun H locs hP hD hS => ?_)
          refine lv_aload_n hx hb dX_units_43 rfl (lv_at hl 0 rfl) ?_
          refine lv_dup hx hb dX_units_44 rfl ?_
          refine va_get (D := D) (ci := 7) (v := .int (q.1 18)) (C := "BoilerDeskModel") (T := TX) (N := 43) hx hb hts inX hown hK hP 0 rfl rfl 18 (by decide) (hts _ q_661) (fun _ h9 => h9) rfl dX_units_45 ?_
          refine lv_iconst (v := 1) hx hb dX_units_48 (by decide) ?_
          refine lv_iload_n hx hb dX_units_49 rfl (lv_at hl 1 rfl) ?_
          refine lv_ishl hx hb dX_units_50 ?_
          refine lv_ior hx hb dX_units_51 ?_
          refine kb_put (D := D) (wf := mw h cZ) (w' := ((up q.1 18 ((q.1 18) ||| ((1 : Int32) <<< ((nI i) &&& 31)))), (ub (ub q.2 0 (upd (q.2 0) ((nI i)).toNatClampNeg (vp_nar .boolean 0))) 1 (upd (q.2 1) ((nI i)).toNatClampNeg (vp_nar .boolean 0))))) (ci := 7) (v := .int ((q.1 18) ||| ((1 : Int32) <<< ((nI i) &&& 31)))) (ty := .int) (C := "BoilerDeskModel") (T := TX) (N := 43) hx hb hts inX tyX tyX_ok nmX hown hK hP hD hS 0 rfl rfl 18 (by decide) (hts _ q_661) (fun _ h9 => h9) rfl (by decide +kernel) rfl rfl (Nat.le_of_ble_eq_true rfl) dX_units_52 rfl (fun H locs hP hD hS => ?_)
          refine lv_goto (tgt := 67) hx hb dX_units_55 (by decide) ?_
          refine lv_iinc (v := (nI (i + 1))) (lv' := [(1, .int (nI (i + 1))), (0, .ref (h 0))]) hx hb dX_units_67 hl (k := 1) rfl (nI_1 i) (by decide) rfl (fun ls hl => ?_)
          refine lv_goto (tgt := 2) hx hb dX_units_70 (by decide) ?_
          exact ih (i + 1) ((up q.1 18 ((q.1 18) ||| ((1 : Int32) <<< ((nI i) &&& 31)))), (ub (ub q.2 0 (upd (q.2 0) ((nI i)).toNatClampNeg (vp_nar .boolean 0))) 1 (upd (q.2 1) ((nI i)).toNatClampNeg (vp_nar .boolean 0)))) _ _ _ (by omega) e hP hD hS (lv_sub hl [1, 0] rfl)
      · have e := e.trans (if_pos c_6)
        refine lv_goto (tgt := 67) hx hb dX_units_17 (by decide) ?_
        refine lv_iinc (v := (nI (i + 1))) (lv' := [(1, .int (nI (i + 1))), (0, .ref (h 0))]) hx hb dX_units_67 hl (k := 1) rfl (nI_1 i) (by decide) rfl (fun ls hl => ?_)
        refine lv_goto (tgt := 2) hx hb dX_units_70 (by decide) ?_
        exact ih (i + 1) q _ _ _ (by omega) e hP hD hS (lv_sub hl [1, 0] rfl)
  have e : F_X_units q0 = F_X_units q0 := rfl
  refine lv_iconst (v := 0) hx hb dX_units_0 (by decide) ?_
  refine lv_istore_n (lv' := [(1, .int 0), (0, .ref (h 0))]) hx hb dX_units_1 rfl hl (by decide) rfl (fun ls hl => ?_)
  exact k_2 10 0 q0 _ _ _ (by omega) e hP hD hS (lv_sub hl [1, 0] rfl)
/-- BoilerDeskModel.some(II)Z -/
def K_X_some_0_2  : Nat → Nat → ((Nat → Int32) × (Nat → Nat → Int32)) → Int32
  | 0, _, _ => (0 : Int32)
  | n + 1, i, q0 => (if ((q0.2 0) ((nI i)).toNatClampNeg) = (0 : Int32) then K_X_some_0_2 n (i + 1) q0 else (1 : Int32))
def F_X_some_0 (q0 : (Nat → Int32) × (Nat → Nat → Int32))  : Int32 := K_X_some_0_2 10 0 q0
set_option maxHeartbeats 4000000 in
set_option maxRecDepth 100000 in
theorem c_X_some_0 (l : Launch) (D : va_G) (h : Nat → Nat) (cZ : ClassId) (sz : Nat) (q0 : (Nat → Int32) × (Nat → Nat → Int32))   : Met l yX_some [.code yX_some cX_some 4 (some .boolean)] ({ frames := 0, cells := 0, slots := 0, locals := 0 }) (va_Pc [.ref (h 0), .int 0, .int 9] (kb_B D [(cZ, .boolean)] (mw h cZ) q0 sz)) (va_Qi (fun r' u' => r' = F_X_some_0 q0 ∧ u' = q0) (kb_E D [(cZ, .boolean)] (mw h cZ) (va_A (mw h cZ q0) sz)) (va_A (mw h cZ q0) sz)) 0 0 (va_A (mw h cZ q0) sz) := by
  refine kb_of (cc := cX_some) (maxL := 4) (ret := (some .boolean)) (QcA := fun A => (va_Qi (fun r' u' => r' = F_X_some_0 q0 ∧ u' = q0) (kb_E D [(cZ, .boolean)] (mw h cZ) A) A)) (by decide) (Nat.le_of_ble_eq_true rfl) ?_
  intro p e s m below meth c A hx hb hr hlocks hml hown hts hA hN hK hP hD ls hl
  have hS : va_S A s.heap s.heap [] := va_S.rf
  have hl : lv_has ls 4 [(0, .ref (h 0)), (1, .int 0), (2, .int 9)] := hl
  have k_2 : ∀ (n i : Nat) (H : Heap) (locs : List Loc) (ls : Array Slot), i + n = 10 → F_X_some_0 q0 = K_X_some_0_2 n i q0 → va_P D vwCl (mw h cZ q0) H → va_D A (mw h cZ q0) → va_S A s.heap H locs → lv_has ls 4 [(0, .ref (h 0)), (1, .int 0), (2, .int 9), (3, .int (nI i))] → W p l e ({ frames := 0, cells := 0, slots := 0, locals := 0 }) s m [.ref (h 0), .int 0, .int 9].toArray below meth c H locs 0 0 (MQ below (va_Qi (fun r' u' => r' = F_X_some_0 q0 ∧ u' = q0) (kb_E D [(cZ, .boolean)] (mw h cZ) A) A) [.ref (h 0), .int 0, .int 9].toArray s 0 0 A) (F0 m 2 ls []) := by
    intro n
    induction n with
    | zero =>
      intro i H locs ls hin e hP hD hS hl
      obtain rfl : i = 10 := by omega
      refine lv_iload_n hx hb dX_some_2 rfl (lv_at hl 3 rfl) ?_
      refine lv_iload_n hx hb dX_some_3 rfl (lv_at hl 2 rfl) ?_
      refine lv_icmp_gt (tgt := 24) hx hb dX_some_4 (by decide) (fun _ => ?_) (fun c9 => absurd (by decide) c9)
      refine lv_iconst (v := 0) hx hb dX_some_24 (by decide) ?_
      exact kb_zret (wf := mw h cZ) hx hb hr hlocks rfl hK hP hD hS ⟨e.symm, rfl⟩ dX_some_25
    | succ n ih =>
      intro i H locs ls hin e hP hD hS hl
      refine lv_iload_n hx hb dX_some_2 rfl (lv_at hl 3 rfl) ?_
      refine lv_iload_n hx hb dX_some_3 rfl (lv_at hl 2 rfl) ?_
      refine lv_icmp_gt (tgt := 24) hx hb dX_some_4 (by decide) (fun c9 => absurd c9 (nI_nlt (a := 9) (by omega) (by decide))) (fun _ => ?_)
      refine lv_aload_n hx hb dX_some_7 rfl (lv_at hl 0 rfl) ?_
      refine va_get (D := D) (ci := 7) (v := .ref (h 1)) (C := "BoilerDeskModel") (T := TX) (N := 43) hx hb hts inX hown hK hP 0 rfl rfl 24 (by decide) (hts _ q_667) (fun _ h9 => h9) rfl dX_some_8 ?_
      refine lv_iload_n hx hb dX_some_11 rfl (lv_at hl 3 rfl) ?_
      refine va_zald hx hb hK hP 1 0 rfl rfl (vp_in_nI (by omega) (by decide)) dX_some_12 ?_
      refine lv_if_eq (tgt := 18) hx hb dX_some_13 (by decide) (fun c_1 => ?_) (fun c_1 => ?_)
      · have e := e.trans (if_pos c_1)
        refine lv_iinc (v := (nI (i + 1))) (lv' := [(3, .int (nI (i + 1))), (0, .ref (h 0)), (1, .int 0), (2, .int 9)]) hx hb dX_some_18 hl (k := 3) rfl (nI_1 i) (by decide) rfl (fun ls hl => ?_)
        refine lv_goto (tgt := 2) hx hb dX_some_21 (by decide) ?_
        exact ih (i + 1) _ _ _ (by omega) e hP hD hS (lv_sub hl [1, 2, 3, 0] rfl)
      · have e := e.trans (if_neg c_1)
        refine lv_iconst (v := 1) hx hb dX_some_16 (by decide) ?_
        exact kb_zret (wf := mw h cZ) hx hb hr hlocks rfl hK hP hD hS ⟨e.symm, rfl⟩ dX_some_17
  have e : F_X_some_0 q0 = F_X_some_0 q0 := rfl
  refine lv_iload_n hx hb dX_some_0 rfl (lv_at hl 1 rfl) ?_
  refine lv_istore_n (lv' := [(3, .int 0), (0, .ref (h 0)), (1, .int 0), (2, .int 9)]) hx hb dX_some_1 rfl hl (by decide) rfl (fun ls hl => ?_)
  exact k_2 10 0 _ _ _ (by omega) e hP hD hS (lv_sub hl [1, 2, 3, 0] rfl)
/-- BoilerDeskModel.some(II)Z -/
def K_X_some_6_2  : Nat → Nat → ((Nat → Int32) × (Nat → Nat → Int32)) → Int32
  | 0, _, _ => (0 : Int32)
  | n + 1, i, q0 => (if ((q0.2 0) ((nI i)).toNatClampNeg) = (0 : Int32) then K_X_some_6_2 n (i + 1) q0 else (1 : Int32))
def F_X_some_6 (q0 : (Nat → Int32) × (Nat → Nat → Int32))  : Int32 := K_X_some_6_2 4 6 q0
set_option maxHeartbeats 4000000 in
set_option maxRecDepth 100000 in
theorem c_X_some_6 (l : Launch) (D : va_G) (h : Nat → Nat) (cZ : ClassId) (sz : Nat) (q0 : (Nat → Int32) × (Nat → Nat → Int32))   : Met l yX_some [.code yX_some cX_some 4 (some .boolean)] ({ frames := 0, cells := 0, slots := 0, locals := 0 }) (va_Pc [.ref (h 0), .int 6, .int 9] (kb_B D [(cZ, .boolean)] (mw h cZ) q0 sz)) (va_Qi (fun r' u' => r' = F_X_some_6 q0 ∧ u' = q0) (kb_E D [(cZ, .boolean)] (mw h cZ) (va_A (mw h cZ q0) sz)) (va_A (mw h cZ q0) sz)) 0 0 (va_A (mw h cZ q0) sz) := by
  refine kb_of (cc := cX_some) (maxL := 4) (ret := (some .boolean)) (QcA := fun A => (va_Qi (fun r' u' => r' = F_X_some_6 q0 ∧ u' = q0) (kb_E D [(cZ, .boolean)] (mw h cZ) A) A)) (by decide) (Nat.le_of_ble_eq_true rfl) ?_
  intro p e s m below meth c A hx hb hr hlocks hml hown hts hA hN hK hP hD ls hl
  have hS : va_S A s.heap s.heap [] := va_S.rf
  have hl : lv_has ls 4 [(0, .ref (h 0)), (1, .int 6), (2, .int 9)] := hl
  have k_2 : ∀ (n i : Nat) (H : Heap) (locs : List Loc) (ls : Array Slot), i + n = 10 → F_X_some_6 q0 = K_X_some_6_2 n i q0 → va_P D vwCl (mw h cZ q0) H → va_D A (mw h cZ q0) → va_S A s.heap H locs → lv_has ls 4 [(0, .ref (h 0)), (1, .int 6), (2, .int 9), (3, .int (nI i))] → W p l e ({ frames := 0, cells := 0, slots := 0, locals := 0 }) s m [.ref (h 0), .int 6, .int 9].toArray below meth c H locs 0 0 (MQ below (va_Qi (fun r' u' => r' = F_X_some_6 q0 ∧ u' = q0) (kb_E D [(cZ, .boolean)] (mw h cZ) A) A) [.ref (h 0), .int 6, .int 9].toArray s 0 0 A) (F0 m 2 ls []) := by
    intro n
    induction n with
    | zero =>
      intro i H locs ls hin e hP hD hS hl
      obtain rfl : i = 10 := by omega
      refine lv_iload_n hx hb dX_some_2 rfl (lv_at hl 3 rfl) ?_
      refine lv_iload_n hx hb dX_some_3 rfl (lv_at hl 2 rfl) ?_
      refine lv_icmp_gt (tgt := 24) hx hb dX_some_4 (by decide) (fun _ => ?_) (fun c9 => absurd (by decide) c9)
      refine lv_iconst (v := 0) hx hb dX_some_24 (by decide) ?_
      exact kb_zret (wf := mw h cZ) hx hb hr hlocks rfl hK hP hD hS ⟨e.symm, rfl⟩ dX_some_25
    | succ n ih =>
      intro i H locs ls hin e hP hD hS hl
      refine lv_iload_n hx hb dX_some_2 rfl (lv_at hl 3 rfl) ?_
      refine lv_iload_n hx hb dX_some_3 rfl (lv_at hl 2 rfl) ?_
      refine lv_icmp_gt (tgt := 24) hx hb dX_some_4 (by decide) (fun c9 => absurd c9 (nI_nlt (a := 9) (by omega) (by decide))) (fun _ => ?_)
      refine lv_aload_n hx hb dX_some_7 rfl (lv_at hl 0 rfl) ?_
      refine va_get (D := D) (ci := 7) (v := .ref (h 1)) (C := "BoilerDeskModel") (T := TX) (N := 43) hx hb hts inX hown hK hP 0 rfl rfl 24 (by decide) (hts _ q_667) (fun _ h9 => h9) rfl dX_some_8 ?_
      refine lv_iload_n hx hb dX_some_11 rfl (lv_at hl 3 rfl) ?_
      refine va_zald hx hb hK hP 1 0 rfl rfl (vp_in_nI (by omega) (by decide)) dX_some_12 ?_
      refine lv_if_eq (tgt := 18) hx hb dX_some_13 (by decide) (fun c_1 => ?_) (fun c_1 => ?_)
      · have e := e.trans (if_pos c_1)
        refine lv_iinc (v := (nI (i + 1))) (lv' := [(3, .int (nI (i + 1))), (0, .ref (h 0)), (1, .int 6), (2, .int 9)]) hx hb dX_some_18 hl (k := 3) rfl (nI_1 i) (by decide) rfl (fun ls hl => ?_)
        refine lv_goto (tgt := 2) hx hb dX_some_21 (by decide) ?_
        exact ih (i + 1) _ _ _ (by omega) e hP hD hS (lv_sub hl [1, 2, 3, 0] rfl)
      · have e := e.trans (if_neg c_1)
        refine lv_iconst (v := 1) hx hb dX_some_16 (by decide) ?_
        exact kb_zret (wf := mw h cZ) hx hb hr hlocks rfl hK hP hD hS ⟨e.symm, rfl⟩ dX_some_17
  have e : F_X_some_6 q0 = F_X_some_6 q0 := rfl
  refine lv_iload_n hx hb dX_some_0 rfl (lv_at hl 1 rfl) ?_
  refine lv_istore_n (lv' := [(3, .int 6), (0, .ref (h 0)), (1, .int 6), (2, .int 9)]) hx hb dX_some_1 rfl hl (by decide) rfl (fun ls hl => ?_)
  exact k_2 4 6 _ _ _ (by omega) e hP hD hS (lv_sub hl [1, 2, 3, 0] rfl)
