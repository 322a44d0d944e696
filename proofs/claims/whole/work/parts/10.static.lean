/-- BoilerDesk.isWithin(III)Z -/
def F_D_isWithin  (a0 : Int32) (a1 : Int32) (a2 : Int32) : Int32 := (if a0 < a1 then (0 : Int32) else (if a2 < a0 then (0 : Int32) else (1 : Int32)))
set_option maxHeartbeats 4000000 in
set_option maxRecDepth 100000 in
theorem c_D_isWithin (l : Launch) (D : va_G) (sz : Nat)  (a0 : Int32) (a1 : Int32) (a2 : Int32)  : Met l yD_isWithin [.code yD_isWithin cD_isWithin 3 (some .boolean)] ({ frames := 0, cells := 0, slots := 0, locals := 0 }) (va_Pc [.int a0, .int a1, .int a2] (kb_B D [] kb_nil () sz)) (va_Qi (fun r' u' => r' = F_D_isWithin a0 a1 a2 ∧ u' = ()) (kb_E D [] kb_nil (va_A (kb_nil ()) sz)) (va_A (kb_nil ()) sz)) 0 0 (va_A (kb_nil ()) sz) := by
  refine kb_of (cc := cD_isWithin) (maxL := 3) (ret := (some .boolean)) (QcA := fun A => (va_Qi (fun r' u' => r' = F_D_isWithin a0 a1 a2 ∧ u' = ()) (kb_E D [] kb_nil A) A)) (by decide) (Nat.le_of_ble_eq_true rfl) ?_
  intro p e s m below meth c A hx hb hr hlocks hml hown hts hA hN hK hP hD ls hl
  have hS : va_S A s.heap s.heap [] := va_S.rf
  have hl : lv_has ls 3 [(0, .int a0), (1, .int a1), (2, .int a2)] := hl
  have e : F_D_isWithin a0 a1 a2 = F_D_isWithin a0 a1 a2 := rfl
  refine lv_iload_n hx hb dD_isWithin_0 rfl (lv_at hl 1 rfl) ?_
  refine lv_iload_n hx hb dD_isWithin_1 rfl (lv_at hl 0 rfl) ?_
  refine lv_icmp_gt (tgt := 14) hx hb dD_isWithin_2 (by decide) (fun c_1 => ?_) (fun c_1 => ?_)
  · have e := e.trans (if_pos c_1)
    refine lv_iconst (v := 0) hx hb dD_isWithin_14 (by decide) ?_
    exact kb_zret (wf := kb_nil) hx hb hr hlocks rfl hK hP hD hS ⟨e.symm, rfl⟩ dD_isWithin_15
  · have e := e.trans (if_neg c_1)
    refine lv_iload_n hx hb dD_isWithin_5 rfl (lv_at hl 0 rfl) ?_
    refine lv_iload_n hx hb dD_isWithin_6 rfl (lv_at hl 2 rfl) ?_
    refine lv_icmp_gt (tgt := 14) hx hb dD_isWithin_7 (by decide) (fun c_2 => ?_) (fun c_2 => ?_)
    · have e := e.trans (if_pos c_2)
      refine lv_iconst (v := 0) hx hb dD_isWithin_14 (by decide) ?_
      exact kb_zret (wf := kb_nil) hx hb hr hlocks rfl hK hP hD hS ⟨e.symm, rfl⟩ dD_isWithin_15
    · have e := e.trans (if_neg c_2)
      refine lv_iconst (v := 1) hx hb dD_isWithin_10 (by decide) ?_
      refine lv_goto (tgt := 15) hx hb dD_isWithin_11 (by decide) ?_
      exact kb_zret (wf := kb_nil) hx hb hr hlocks rfl hK hP hD hS ⟨e.symm, rfl⟩ dD_isWithin_15
theorem z_D_isWithin  (a0 : Int32) (a1 : Int32) (a2 : Int32) : F_D_isWithin a0 a1 a2 = 0 ∨ F_D_isWithin a0 a1 a2 = 1 := by
  unfold F_D_isWithin
  repeat' split
  all_goals first | exact Or.inl rfl | exact Or.inr rfl
/-- BoilerDesk.hasBit(II)Z -/
def F_D_hasBit  (a0 : Int32) (a1 : Int32) : Int32 := (if ((a0 >>> (a1 &&& 31)) &&& (1 : Int32)) = (0 : Int32) then (0 : Int32) else (1 : Int32))
set_option maxHeartbeats 4000000 in
set_option maxRecDepth 100000 in
theorem c_D_hasBit (l : Launch) (D : va_G) (sz : Nat)  (a0 : Int32) (a1 : Int32)  : Met l yD_hasBit [.code yD_hasBit cD_hasBit 2 (some .boolean)] ({ frames := 0, cells := 0, slots := 0, locals := 0 }) (va_Pc [.int a0, .int a1] (kb_B D [] kb_nil () sz)) (va_Qi (fun r' u' => r' = F_D_hasBit a0 a1 ∧ u' = ()) (kb_E D [] kb_nil (va_A (kb_nil ()) sz)) (va_A (kb_nil ()) sz)) 0 0 (va_A (kb_nil ()) sz) := by
  refine kb_of (cc := cD_hasBit) (maxL := 2) (ret := (some .boolean)) (QcA := fun A => (va_Qi (fun r' u' => r' = F_D_hasBit a0 a1 ∧ u' = ()) (kb_E D [] kb_nil A) A)) (by decide) (Nat.le_of_ble_eq_true rfl) ?_
  intro p e s m below meth c A hx hb hr hlocks hml hown hts hA hN hK hP hD ls hl
  have hS : va_S A s.heap s.heap [] := va_S.rf
  have hl : lv_has ls 2 [(0, .int a0), (1, .int a1)] := hl
  have e : F_D_hasBit a0 a1 = F_D_hasBit a0 a1 := rfl
  refine lv_iload_n hx hb dD_hasBit_0 rfl (lv_at hl 0 rfl) ?_
  refine lv_iload_n hx hb dD_hasBit_1 rfl (lv_at hl 1 rfl) ?_
  refine lv_ishr hx hb dD_hasBit_2 ?_
  refine lv_iconst (v := 1) hx hb dD_hasBit_3 (by decide) ?_
  refine lv_iand hx hb dD_hasBit_4 ?_
  refine lv_if_eq (tgt := 12) hx hb dD_hasBit_5 (by decide) (fun c_1 => ?_) (fun c_1 => ?_)
  · have e := e.trans (if_pos c_1)
    refine lv_iconst (v := 0) hx hb dD_hasBit_12 (by decide) ?_
    exact kb_zret (wf := kb_nil) hx hb hr hlocks rfl hK hP hD hS ⟨e.symm, rfl⟩ dD_hasBit_13
  · have e := e.trans (if_neg c_1)
    refine lv_iconst (v := 1) hx hb dD_hasBit_8 (by decide) ?_
    refine lv_goto (tgt := 13) hx hb dD_hasBit_9 (by decide) ?_
    exact kb_zret (wf := kb_nil) hx hb hr hlocks rfl hK hP hD hS ⟨e.symm, rfl⟩ dD_hasBit_13
theorem z_D_hasBit  (a0 : Int32) (a1 : Int32) : F_D_hasBit a0 a1 = 0 ∨ F_D_hasBit a0 a1 = 1 := by
  unfold F_D_hasBit
  repeat' split
  all_goals first | exact Or.inl rfl | exact Or.inr rfl
/-- BoilerDesk.withBit(IIZ)I -/
def F_D_withBit  (a0 : Int32) (a1 : Int32) (a2 : Int32) : Int32 := (if a2 = (0 : Int32) then (a0 &&& (((1 : Int32) <<< (a1 &&& 31)) ^^^ ((-1) : Int32))) else (a0 ||| ((1 : Int32) <<< (a1 &&& 31))))
set_option maxHeartbeats 4000000 in
set_option maxRecDepth 100000 in
theorem c_D_withBit (l : Launch) (D : va_G) (sz : Nat)  (a0 : Int32) (a1 : Int32) (a2 : Int32) (z2 : a2 = 0 ∨ a2 = 1) : Met l yD_withBit [.code yD_withBit cD_withBit 3 (some .int)] ({ frames := 0, cells := 0, slots := 0, locals := 0 }) (va_Pc [.int a0, .int a1, .int a2] (kb_B D [] kb_nil () sz)) (va_Qi (fun r' u' => r' = F_D_withBit a0 a1 a2 ∧ u' = ()) (kb_E D [] kb_nil (va_A (kb_nil ()) sz)) (va_A (kb_nil ()) sz)) 0 0 (va_A (kb_nil ()) sz) := by
  refine kb_of (cc := cD_withBit) (maxL := 3) (ret := (some .int)) (QcA := fun A => (va_Qi (fun r' u' => r' = F_D_withBit a0 a1 a2 ∧ u' = ()) (kb_E D [] kb_nil A) A)) (by decide) (Nat.le_of_ble_eq_true rfl) ?_
  intro p e s m below meth c A hx hb hr hlocks hml hown hts hA hN hK hP hD ls hl
  have hS : va_S A s.heap s.heap [] := va_S.rf
  have hl : lv_has ls 3 [(0, .int a0), (1, .int a1), (2, .int a2)] := hl
  have e : F_D_withBit a0 a1 a2 = F_D_withBit a0 a1 a2 := rfl
  refine lv_iload_n hx hb dD_withBit_0 rfl (lv_at hl 2 rfl) ?_
  refine lv_if_eq (tgt := 12) hx hb dD_withBit_1 (by decide) (fun c_1 => ?_) (fun c_1 => ?_)
  · have e := e.trans (if_pos c_1)
    refine lv_iload_n hx hb dD_withBit_12 rfl (lv_at hl 0 rfl) ?_
    refine lv_iconst (v := 1) hx hb dD_withBit_13 (by decide) ?_
    refine lv_iload_n hx hb dD_withBit_14 rfl (lv_at hl 1 rfl) ?_
    refine lv_ishl hx hb dD_withBit_15 ?_
    refine lv_iconst (v := (-1)) hx hb dD_withBit_16 (by decide) ?_
    refine lv_ixor hx hb dD_withBit_17 ?_
    refine lv_iand hx hb dD_withBit_18 ?_
    exact kb_iret (wf := kb_nil) hx hb hr hlocks hK hP hD hS ⟨e.symm, rfl⟩ dD_withBit_19
  · have e := e.trans (if_neg c_1)
    refine lv_iload_n hx hb dD_withBit_4 rfl (lv_at hl 0 rfl) ?_
    refine lv_iconst (v := 1) hx hb dD_withBit_5 (by decide) ?_
    refine lv_iload_n hx hb dD_withBit_6 rfl (lv_at hl 1 rfl) ?_
    refine lv_ishl hx hb dD_withBit_7 ?_
    refine lv_ior hx hb dD_withBit_8 ?_
    refine lv_goto (tgt := 19) hx hb dD_withBit_9 (by decide) ?_
    exact kb_iret (wf := kb_nil) hx hb hr hlocks hK hP hD hS ⟨e.symm, rfl⟩ dD_withBit_19
/-- BoilerDesk.limitsAreSound(IIIII)Z -/
def F_D_limitsAreSound  (a0 : Int32) (a1 : Int32) (a2 : Int32) (a3 : Int32) (a4 : Int32) : Int32 := (if a1 < (0 : Int32) then (0 : Int32) else (if a2 ≤ a1 then (0 : Int32) else (if a3 ≤ a2 then (0 : Int32) else (if a4 ≤ a3 then (0 : Int32) else (if a0 < a4 then (0 : Int32) else (if (1000000 : Int32) < a0 then (0 : Int32) else (1 : Int32)))))))
set_option maxHeartbeats 4000000 in
set_option maxRecDepth 100000 in
theorem c_D_limitsAreSound (l : Launch) (D : va_G) (sz : Nat)  (a0 : Int32) (a1 : Int32) (a2 : Int32) (a3 : Int32) (a4 : Int32)  : Met l yD_limitsAreSound [.code yD_limitsAreSound cD_limitsAreSound 5 (some .boolean)] ({ frames := 0, cells := 0, slots := 0, locals := 0 }) (va_Pc [.int a0, .int a1, .int a2, .int a3, .int a4] (kb_B D [] kb_nil () sz)) (va_Qi (fun r' u' => r' = F_D_limitsAreSound a0 a1 a2 a3 a4 ∧ u' = ()) (kb_E D [] kb_nil (va_A (kb_nil ()) sz)) (va_A (kb_nil ()) sz)) 0 0 (va_A (kb_nil ()) sz) := by
  refine kb_of (cc := cD_limitsAreSound) (maxL := 5) (ret := (some .boolean)) (QcA := fun A => (va_Qi (fun r' u' => r' = F_D_limitsAreSound a0 a1 a2 a3 a4 ∧ u' = ()) (kb_E D [] kb_nil A) A)) (by decide) (Nat.le_of_ble_eq_true rfl) ?_
  intro p e s m below meth c A hx hb hr hlocks hml hown hts hA hN hK hP hD ls hl
  have hS : va_S A s.heap s.heap [] := va_S.rf
  have hl : lv_has ls 5 [(0, .int a0), (1, .int a1), (2, .int a2), (3, .int a3), (4, .int a4)] := hl
  have e : F_D_limitsAreSound a0 a1 a2 a3 a4 = F_D_limitsAreSound a0 a1 a2 a3 a4 := rfl
  refine lv_iconst (v := 0) hx hb dD_limitsAreSound_0 (by decide) ?_
  refine lv_iload_n hx hb dD_limitsAreSound_1 rfl (lv_at hl 1 rfl) ?_
  refine lv_icmp_gt (tgt := 37) hx hb dD_limitsAreSound_2 (by decide) (fun c_1 => ?_) (fun c_1 => ?_)
  · have e := e.trans (if_pos c_1)
    refine lv_iconst (v := 0) hx hb dD_limitsAreSound_37 (by decide) ?_
    exact kb_zret (wf := kb_nil) hx hb hr hlocks rfl hK hP hD hS ⟨e.symm, rfl⟩ dD_limitsAreSound_38
  · have e := e.trans (if_neg c_1)
    refine lv_iload_n hx hb dD_limitsAreSound_5 rfl (lv_at hl 1 rfl) ?_
    refine lv_iload_n hx hb dD_limitsAreSound_6 rfl (lv_at hl 2 rfl) ?_
    refine lv_icmp_ge (tgt := 37) hx hb dD_limitsAreSound_7 (by decide) (fun c_2 => ?_) (fun c_2 => ?_)
    · have e := e.trans (if_pos c_2)
      refine lv_iconst (v := 0) hx hb dD_limitsAreSound_37 (by decide) ?_
      exact kb_zret (wf := kb_nil) hx hb hr hlocks rfl hK hP hD hS ⟨e.symm, rfl⟩ dD_limitsAreSound_38
    · have e := e.trans (if_neg c_2)
      refine lv_iload_n hx hb dD_limitsAreSound_10 rfl (lv_at hl 2 rfl) ?_
      refine lv_iload_n hx hb dD_limitsAreSound_11 rfl (lv_at hl 3 rfl) ?_
      refine lv_icmp_ge (tgt := 37) hx hb dD_limitsAreSound_12 (by decide) (fun c_3 => ?_) (fun c_3 => ?_)
      · have e := e.trans (if_pos c_3)
        refine lv_iconst (v := 0) hx hb dD_limitsAreSound_37 (by decide) ?_
        exact kb_zret (wf := kb_nil) hx hb hr hlocks rfl hK hP hD hS ⟨e.symm, rfl⟩ dD_limitsAreSound_38
      · have e := e.trans (if_neg c_3)
        refine lv_iload_n hx hb dD_limitsAreSound_15 rfl (lv_at hl 3 rfl) ?_
        refine lv_iload hx hb dD_limitsAreSound_16 (lv_at hl 4 rfl) ?_
        refine lv_icmp_ge (tgt := 37) hx hb dD_limitsAreSound_18 (by decide) (fun c_4 => ?_) (fun c_4 => ?_)
        · have e := e.trans (if_pos c_4)
          refine lv_iconst (v := 0) hx hb dD_limitsAreSound_37 (by decide) ?_
          exact kb_zret (wf := kb_nil) hx hb hr hlocks rfl hK hP hD hS ⟨e.symm, rfl⟩ dD_limitsAreSound_38
        · have e := e.trans (if_neg c_4)
          refine lv_iload hx hb dD_limitsAreSound_21 (lv_at hl 4 rfl) ?_
          refine lv_iload_n hx hb dD_limitsAreSound_23 rfl (lv_at hl 0 rfl) ?_
          refine lv_icmp_gt (tgt := 37) hx hb dD_limitsAreSound_24 (by decide) (fun c_5 => ?_) (fun c_5 => ?_)
          · have e := e.trans (if_pos c_5)
            refine lv_iconst (v := 0) hx hb dD_limitsAreSound_37 (by decide) ?_
            exact kb_zret (wf := kb_nil) hx hb hr hlocks rfl hK hP hD hS ⟨e.symm, rfl⟩ dD_limitsAreSound_38
          · have e := e.trans (if_neg c_5)
            refine lv_iload_n hx hb dD_limitsAreSound_27 rfl (lv_at hl 0 rfl) ?_
            refine lv_ldc (v := 1000000) hx hb hown (hts _ q_331) dD_limitsAreSound_28 ?_
            refine lv_icmp_gt (tgt := 37) hx hb dD_limitsAreSound_30 (by decide) (fun c_6 => ?_) (fun c_6 => ?_)
            · have e := e.trans (if_pos c_6)
              refine lv_iconst (v := 0) hx hb dD_limitsAreSound_37 (by decide) ?_
              exact kb_zret (wf := kb_nil) hx hb hr hlocks rfl hK hP hD hS ⟨e.symm, rfl⟩ dD_limitsAreSound_38
            · have e := e.trans (if_neg c_6)
              refine lv_iconst (v := 1) hx hb dD_limitsAreSound_33 (by decide) ?_
              refine lv_goto (tgt := 38) hx hb dD_limitsAreSound_34 (by decide) ?_
              exact kb_zret (wf := kb_nil) hx hb hr hlocks rfl hK hP hD hS ⟨e.symm, rfl⟩ dD_limitsAreSound_38
theorem z_D_limitsAreSound  (a0 : Int32) (a1 : Int32) (a2 : Int32) (a3 : Int32) (a4 : Int32) : F_D_limitsAreSound a0 a1 a2 a3 a4 = 0 ∨ F_D_limitsAreSound a0 a1 a2 a3 a4 = 1 := by
  unfold F_D_limitsAreSound
  repeat' split
  all_goals first | exact Or.inl rfl | exact Or.inr rfl
/-- BoilerDesk.ratesAreSound(IIII)Z -/
def F_D_ratesAreSound  (a0 : Int32) (a1 : Int32) (a2 : Int32) (a3 : Int32) : Int32 := (if (F_D_isWithin a0 (0 : Int32) (100000 : Int32)) = (0 : Int32) then (0 : Int32) else (if (F_D_isWithin a1 (0 : Int32) (100000 : Int32)) = (0 : Int32) then (0 : Int32) else (if (F_D_isWithin a2 (0 : Int32) (100000 : Int32)) = (0 : Int32) then (0 : Int32) else (if (F_D_isWithin a3 (1 : Int32) (100000 : Int32)) = (0 : Int32) then (0 : Int32) else (1 : Int32)))))
set_option maxHeartbeats 4000000 in
set_option maxRecDepth 100000 in
theorem c_D_ratesAreSound (l : Launch) (D : va_G) (sz : Nat)  (a0 : Int32) (a1 : Int32) (a2 : Int32) (a3 : Int32)  : Met l yD_ratesAreSound [.code yD_ratesAreSound cD_ratesAreSound 4 (some .boolean)] ({ frames := 1, cells := 0, slots := 0, locals := 22 }) (va_Pc [.int a0, .int a1, .int a2, .int a3] (kb_B D [] kb_nil () sz)) (va_Qi (fun r' u' => r' = F_D_ratesAreSound a0 a1 a2 a3 ∧ u' = ()) (kb_E D [] kb_nil (va_A (kb_nil ()) sz)) (va_A (kb_nil ()) sz)) 0 0 (va_A (kb_nil ()) sz) := by
  refine kb_of (cc := cD_ratesAreSound) (maxL := 4) (ret := (some .boolean)) (QcA := fun A => (va_Qi (fun r' u' => r' = F_D_ratesAreSound a0 a1 a2 a3 ∧ u' = ()) (kb_E D [] kb_nil A) A)) (by decide) (Nat.le_of_ble_eq_true rfl) ?_
  intro p e s m below meth c A hx hb hr hlocks hml hown hts hA hN hK hP hD ls hl
  have hS : va_S A s.heap s.heap [] := va_S.rf
  have hl : lv_has ls 4 [(0, .int a0), (1, .int a1), (2, .int a2), (3, .int a3)] := hl
  have e : F_D_ratesAreSound a0 a1 a2 a3 = F_D_ratesAreSound a0 a1 a2 a3 := rfl
  refine lv_iload_n hx hb dD_ratesAreSound_0 rfl (lv_at hl 0 rfl) ?_
  refine lv_iconst (v := 0) hx hb dD_ratesAreSound_1 (by decide) ?_
  refine lv_ldc (v := 100000) hx hb hown (hts _ q_335) dD_ratesAreSound_2 ?_
  refine kb_call0 (r := (F_D_isWithin a0 (0 : Int32) (100000 : Int32))) (va_runS (As := [.int a0, .int 0, .int 100000]) (rest := []) ⟨hx, hb, hml, hown, hts⟩ (c_D_isWithin l D _ a0 (0 : Int32) (100000 : Int32)) (va_cwS 3 hts (gd_S q_336 q_337 q_33 q_338) rfl rfl rfl (by decide +kernel) ⟨Nat.le_of_ble_eq_true rfl, Nat.le_of_ble_eq_true rfl⟩) (kb_pre0 hN hK) rfl rfl hl.1 rfl (lv_room (Nat.le_of_ble_eq_true rfl)) dD_ratesAreSound_4 ⟨Nat.zero_le _, Nat.zero_le _⟩) hP hS hA (fun H locs hP hS => ?_)
  refine lv_if_eq (tgt := 44) hx hb dD_ratesAreSound_7 (by decide) (fun c_1 => ?_) (fun c_1 => ?_)
  · have e := e.trans (if_pos c_1)
    refine lv_iconst (v := 0) hx hb dD_ratesAreSound_44 (by decide) ?_
    exact kb_zret (wf := kb_nil) hx hb hr hlocks rfl hK hP hD hS ⟨e.symm, rfl⟩ dD_ratesAreSound_45
  · have e := e.trans (if_neg c_1)
    refine lv_iload_n hx hb dD_ratesAreSound_10 rfl (lv_at hl 1 rfl) ?_
    refine lv_iconst (v := 0) hx hb dD_ratesAreSound_11 (by decide) ?_
    refine lv_ldc (v := 100000) hx hb hown (hts _ q_335) dD_ratesAreSound_12 ?_
    refine kb_call0 (r := (F_D_isWithin a1 (0 : Int32) (100000 : Int32))) (va_runS (As := [.int a1, .int 0, .int 100000]) (rest := []) ⟨hx, hb, hml, hown, hts⟩ (c_D_isWithin l D _ a1 (0 : Int32) (100000 : Int32)) (va_cwS 3 hts (gd_S q_336 q_337 q_33 q_338) rfl rfl rfl (by decide +kernel) ⟨Nat.le_of_ble_eq_true rfl, Nat.le_of_ble_eq_true rfl⟩) (kb_pre0 hN hK) rfl rfl hl.1 rfl (lv_room (Nat.le_of_ble_eq_true rfl)) dD_ratesAreSound_14 ⟨Nat.zero_le _, Nat.zero_le _⟩) hP hS hA (fun H locs hP hS => ?_)
    refine lv_if_eq (tgt := 44) hx hb dD_ratesAreSound_17 (by decide) (fun c_2 => ?_) (fun c_2 => ?_)
    · have e := e.trans (if_pos c_2)
      refine lv_iconst (v := 0) hx hb dD_ratesAreSound_44 (by decide) ?_
      exact kb_zret (wf := kb_nil) hx hb hr hlocks rfl hK hP hD hS ⟨e.symm, rfl⟩ dD_ratesAreSound_45
    · have e := e.trans (if_neg c_2)
      refine lv_iload_n hx hb dD_ratesAreSound_20 rfl (lv_at hl 2 rfl) ?_
      refine lv_iconst (v := 0) hx hb dD_ratesAreSound_21 (by decide) ?_
      refine lv_ldc (v := 100000) hx hb hown (hts _ q_335) dD_ratesAreSound_22 ?_
      refine kb_call0 (r := (F_D_isWithin a2 (0 : Int32) (100000 : Int32))) (va_runS (As := [.int a2, .int 0, .int 100000]) (rest := []) ⟨hx, hb, hml, hown, hts⟩ (c_D_isWithin l D _ a2 (0 : Int32) (100000 : Int32)) (va_cwS 3 hts (gd_S q_336 q_337 q_33 q_338) rfl rfl rfl (by decide +kernel) ⟨Nat.le_of_ble_eq_true rfl, Nat.le_of_ble_eq_true rfl⟩) (kb_pre0 hN hK) rfl rfl hl.1 rfl (lv_room (Nat.le_of_ble_eq_true rfl)) dD_ratesAreSound_24 ⟨Nat.zero_le _, Nat.zero_le _⟩) hP hS hA (fun H locs hP hS => ?_)
      refine lv_if_eq (tgt := 44) hx hb dD_ratesAreSound_27 (by decide) (fun c_3 => ?_) (fun c_3 => ?_)
      · have e := e.trans (if_pos c_3)
        refine lv_iconst (v := 0) hx hb dD_ratesAreSound_44 (by decide) ?_
        exact kb_zret (wf := kb_nil) hx hb hr hlocks rfl hK hP hD hS ⟨e.symm, rfl⟩ dD_ratesAreSound_45
      · have e := e.trans (if_neg c_3)
        refine lv_iload_n hx hb dD_ratesAreSound_30 rfl (lv_at hl 3 rfl) ?_
        refine lv_iconst (v := 1) hx hb dD_ratesAreSound_31 (by decide) ?_
        refine lv_ldc (v := 100000) hx hb hown (hts _ q_335) dD_ratesAreSound_32 ?_
        refine kb_call0 (r := (F_D_isWithin a3 (1 : Int32) (100000 : Int32))) (va_runS (As := [.int a3, .int 1, .int 100000]) (rest := []) ⟨hx, hb, hml, hown, hts⟩ (c_D_isWithin l D _ a3 (1 : Int32) (100000 : Int32)) (va_cwS 3 hts (gd_S q_336 q_337 q_33 q_338) rfl rfl rfl (by decide +kernel) ⟨Nat.le_of_ble_eq_true rfl, Nat.le_of_ble_eq_true rfl⟩) (kb_pre0 hN hK) rfl rfl hl.1 rfl (lv_room (Nat.le_of_ble_eq_true rfl)) dD_ratesAreSound_34 ⟨Nat.zero_le _, Nat.zero_le _⟩) hP hS hA (fun H locs hP hS => ?_)
        refine lv_if_eq (tgt := 44) hx hb dD_ratesAreSound_37 (by decide) (fun c_4 => ?_) (fun c_4 => ?_)
        · have e := e.trans (if_pos c_4)
          refine lv_iconst (v := 0) hx hb dD_ratesAreSound_44 (by decide) ?_
          exact kb_zret (wf := kb_nil) hx hb hr hlocks rfl hK hP hD hS ⟨e.symm, rfl⟩ dD_ratesAreSound_45
        · have e := e.trans (if_neg c_4)
          refine lv_iconst (v := 1) hx hb dD_ratesAreSound_40 (by decide) ?_
          refine lv_goto (tgt := 45) hx hb dD_ratesAreSound_41 (by decide) ?_
          exact kb_zret (wf := kb_nil) hx hb hr hlocks rfl hK hP hD hS ⟨e.symm, rfl⟩ dD_ratesAreSound_45
theorem z_D_ratesAreSound  (a0 : Int32) (a1 : Int32) (a2 : Int32) (a3 : Int32) : F_D_ratesAreSound a0 a1 a2 a3 = 0 ∨ F_D_ratesAreSound a0 a1 a2 a3 = 1 := by
  unfold F_D_ratesAreSound
  repeat' split
  all_goals first | exact Or.inl rfl | exact Or.inr rfl | exact z_D_isWithin _ _ _ | exact z_D_isWithin _ _
/-- BoilerDesk$Machines.trusted(I)I -/
def F_M_trusted  (a0 : Int32) : Int32 := (((15 : Int32) &&& ((a0 >>> ((2 : Int32) &&& 31)) ^^^ ((-1) : Int32))) &&& ((a0 >>> ((6 : Int32) &&& 31)) ^^^ ((-1) : Int32)))
set_option maxHeartbeats 4000000 in
set_option maxRecDepth 100000 in
theorem c_M_trusted (l : Launch) (D : va_G) (sz : Nat)  (a0 : Int32)  : Met l yM_trusted [.code yM_trusted cM_trusted 1 (some .int)] ({ frames := 0, cells := 0, slots := 0, locals := 0 }) (va_Pc [.int a0] (kb_B D [] kb_nil () sz)) (va_Qi (fun r' u' => r' = F_M_trusted a0 ∧ u' = ()) (kb_E D [] kb_nil (va_A (kb_nil ()) sz)) (va_A (kb_nil ()) sz)) 0 0 (va_A (kb_nil ()) sz) := by
  refine kb_of (cc := cM_trusted) (maxL := 1) (ret := (some .int)) (QcA := fun A => (va_Qi (fun r' u' => r' = F_M_trusted a0 ∧ u' = ()) (kb_E D [] kb_nil A) A)) (by decide) (Nat.le_of_ble_eq_true rfl) ?_
  intro p e s m below meth c A hx hb hr hlocks hml hown hts hA hN hK hP hD ls hl
  have hS : va_S A s.heap s.heap [] := va_S.rf
  have hl : lv_has ls 1 [(0, .int a0)] := hl
  have e : F_M_trusted a0 = F_M_trusted a0 := rfl
  refine lv_bipush (v := 15) hx hb dM_trusted_0 (by decide) ?_
  refine lv_iload_n hx hb dM_trusted_2 rfl (lv_at hl 0 rfl) ?_
  refine lv_iconst (v := 2) hx hb dM_trusted_3 (by decide) ?_
  refine lv_ishr hx hb dM_trusted_4 ?_
  refine lv_iconst (v := (-1)) hx hb dM_trusted_5 (by decide) ?_
  refine lv_ixor hx hb dM_trusted_6 ?_
  refine lv_iand hx hb dM_trusted_7 ?_
  refine lv_iload_n hx hb dM_trusted_8 rfl (lv_at hl 0 rfl) ?_
  refine lv_bipush (v := 6) hx hb dM_trusted_9 (by decide) ?_
  refine lv_ishr hx hb dM_trusted_11 ?_
  refine lv_iconst (v := (-1)) hx hb dM_trusted_12 (by decide) ?_
  refine lv_ixor hx hb dM_trusted_13 ?_
  refine lv_iand hx hb dM_trusted_14 ?_
  exact kb_iret (wf := kb_nil) hx hb hr hlocks hK hP hD hS ⟨e.symm, rfl⟩ dM_trusted_15
/-- java/lang/Integer.bitCount(I)I -/
def F_J_bitCount  (a0 : Int32) : Int32 := ((((((((a0 - (((a0.toUInt32 >>> ((1 : Int32).toUInt32 &&& Int32.toUInt32 31)).toInt32) &&& (1431655765 : Int32))) &&& (858993459 : Int32)) + ((((a0 - (((a0.toUInt32 >>> ((1 : Int32).toUInt32 &&& Int32.toUInt32 31)).toInt32) &&& (1431655765 : Int32))).toUInt32 >>> ((2 : Int32).toUInt32 &&& Int32.toUInt32 31)).toInt32) &&& (858993459 : Int32))) + (((((a0 - (((a0.toUInt32 >>> ((1 : Int32).toUInt32 &&& Int32.toUInt32 31)).toInt32) &&& (1431655765 : Int32))) &&& (858993459 : Int32)) + ((((a0 - (((a0.toUInt32 >>> ((1 : Int32).toUInt32 &&& Int32.toUInt32 31)).toInt32) &&& (1431655765 : Int32))).toUInt32 >>> ((2 : Int32).toUInt32 &&& Int32.toUInt32 31)).toInt32) &&& (858993459 : Int32))).toUInt32 >>> ((4 : Int32).toUInt32 &&& Int32.toUInt32 31)).toInt32)) &&& (252645135 : Int32)) + (((((((a0 - (((a0.toUInt32 >>> ((1 : Int32).toUInt32 &&& Int32.toUInt32 31)).toInt32) &&& (1431655765 : Int32))) &&& (858993459 : Int32)) + ((((a0 - (((a0.toUInt32 >>> ((1 : Int32).toUInt32 &&& Int32.toUInt32 31)).toInt32) &&& (1431655765 : Int32))).toUInt32 >>> ((2 : Int32).toUInt32 &&& Int32.toUInt32 31)).toInt32) &&& (858993459 : Int32))) + (((((a0 - (((a0.toUInt32 >>> ((1 : Int32).toUInt32 &&& Int32.toUInt32 31)).toInt32) &&& (1431655765 : Int32))) &&& (858993459 : Int32)) + ((((a0 - (((a0.toUInt32 >>> ((1 : Int32).toUInt32 &&& Int32.toUInt32 31)).toInt32) &&& (1431655765 : Int32))).toUInt32 >>> ((2 : Int32).toUInt32 &&& Int32.toUInt32 31)).toInt32) &&& (858993459 : Int32))).toUInt32 >>> ((4 : Int32).toUInt32 &&& Int32.toUInt32 31)).toInt32)) &&& (252645135 : Int32)).toUInt32 >>> ((8 : Int32).toUInt32 &&& Int32.toUInt32 31)).toInt32)) + ((((((((a0 - (((a0.toUInt32 >>> ((1 : Int32).toUInt32 &&& Int32.toUInt32 31)).toInt32) &&& (1431655765 : Int32))) &&& (858993459 : Int32)) + ((((a0 - (((a0.toUInt32 >>> ((1 : Int32).toUInt32 &&& Int32.toUInt32 31)).toInt32) &&& (1431655765 : Int32))).toUInt32 >>> ((2 : Int32).toUInt32 &&& Int32.toUInt32 31)).toInt32) &&& (858993459 : Int32))) + (((((a0 - (((a0.toUInt32 >>> ((1 : Int32).toUInt32 &&& Int32.toUInt32 31)).toInt32) &&& (1431655765 : Int32))) &&& (858993459 : Int32)) + ((((a0 - (((a0.toUInt32 >>> ((1 : Int32).toUInt32 &&& Int32.toUInt32 31)).toInt32) &&& (1431655765 : Int32))).toUInt32 >>> ((2 : Int32).toUInt32 &&& Int32.toUInt32 31)).toInt32) &&& (858993459 : Int32))).toUInt32 >>> ((4 : Int32).toUInt32 &&& Int32.toUInt32 31)).toInt32)) &&& (252645135 : Int32)) + (((((((a0 - (((a0.toUInt32 >>> ((1 : Int32).toUInt32 &&& Int32.toUInt32 31)).toInt32) &&& (1431655765 : Int32))) &&& (858993459 : Int32)) + ((((a0 - (((a0.toUInt32 >>> ((1 : Int32).toUInt32 &&& Int32.toUInt32 31)).toInt32) &&& (1431655765 : Int32))).toUInt32 >>> ((2 : Int32).toUInt32 &&& Int32.toUInt32 31)).toInt32) &&& (858993459 : Int32))) + (((((a0 - (((a0.toUInt32 >>> ((1 : Int32).toUInt32 &&& Int32.toUInt32 31)).toInt32) &&& (1431655765 : Int32))) &&& (858993459 : Int32)) + ((((a0 - (((a0.toUInt32 >>> ((1 : Int32).toUInt32 &&& Int32.toUInt32 31)).toInt32) &&& (1431655765 : Int32))).toUInt32 >>> ((2 : Int32).toUInt32 &&& Int32.toUInt32 31)).toInt32) &&& (858993459 : Int32))).toUInt32 >>> ((4 : Int32).toUInt32 &&& Int32.toUInt32 31)).toInt32)) &&& (252645135 : Int32)).toUInt32 >>> ((8 : Int32).toUInt32 &&& Int32.toUInt32 31)).toInt32)).toUInt32 >>> ((16 : Int32).toUInt32 &&& Int32.toUInt32 31)).toInt32)) &&& (63 : Int32))
set_option maxHeartbeats 4000000 in
set_option maxRecDepth 100000 in
theorem c_J_bitCount (l : Launch) (D : va_G) (sz : Nat)  (a0 : Int32)  : Met l yJ_bitCount [.code yJ_bitCount cJ_bitCount 1 (some .int)] ({ frames := 0, cells := 0, slots := 0, locals := 0 }) (va_Pc [.int a0] (kb_B D [] kb_nil () sz)) (va_Qi (fun r' u' => r' = F_J_bitCount a0 ∧ u' = ()) (kb_E D [] kb_nil (va_A (kb_nil ()) sz)) (va_A (kb_nil ()) sz)) 0 0 (va_A (kb_nil ()) sz) := by
  refine kb_of (cc := cJ_bitCount) (maxL := 1) (ret := (some .int)) (QcA := fun A => (va_Qi (fun r' u' => r' = F_J_bitCount a0 ∧ u' = ()) (kb_E D [] kb_nil A) A)) (by decide) (Nat.le_of_ble_eq_true rfl) ?_
  intro p e s m below meth c A hx hb hr hlocks hml hown hts hA hN hK hP hD ls hl
  have hS : va_S A s.heap s.heap [] := va_S.rf
  have hl : lv_has ls 1 [(0, .int a0)] := hl
  have e : F_J_bitCount a0 = F_J_bitCount a0 := rfl
  refine lv_iload_n hx hb dJ_bitCount_0 rfl (lv_at hl 0 rfl) ?_
  refine lv_iload_n hx hb dJ_bitCount_1 rfl (lv_at hl 0 rfl) ?_
  refine lv_iconst (v := 1) hx hb dJ_bitCount_2 (by decide) ?_
  refine lv_iushr hx hb dJ_bitCount_3 rfl ?_
  refine lv_ldcw (v := 1431655765) hx hb hown (hts _ q_530) dJ_bitCount_4 ?_
  refine lv_iand hx hb dJ_bitCount_7 ?_
  refine lv_isub hx hb dJ_bitCount_8 ?_
  refine lv_istore_n (lv' := [(0, .int (a0 - (((a0.toUInt32 >>> ((1 : Int32).toUInt32 &&& Int32.toUInt32 31)).toInt32) &&& (1431655765 : Int32))))]) hx hb dJ_bitCount_9 rfl hl (by decide) rfl (fun ls hl => ?_)
  refine lv_iload_n hx hb dJ_bitCount_10 rfl (lv_at hl 0 rfl) ?_
  refine lv_ldcw (v := 858993459) hx hb hown (hts _ q_531) dJ_bitCount_11 ?_
  refine lv_iand hx hb dJ_bitCount_14 ?_
  refine lv_iload_n hx hb dJ_bitCount_15 rfl (lv_at hl 0 rfl) ?_
  refine lv_iconst (v := 2) hx hb dJ_bitCount_16 (by decide) ?_
  refine lv_iushr hx hb dJ_bitCount_17 rfl ?_
  refine lv_ldcw (v := 858993459) hx hb hown (hts _ q_531) dJ_bitCount_18 ?_
  refine lv_iand hx hb dJ_bitCount_21 ?_
  refine lv_iadd hx hb dJ_bitCount_22 ?_
  refine lv_istore_n (lv' := [(0, .int (((a0 - (((a0.toUInt32 >>> ((1 : Int32).toUInt32 &&& Int32.toUInt32 31)).toInt32) &&& (1431655765 : Int32))) &&& (858993459 : Int32)) + ((((a0 - (((a0.toUInt32 >>> ((1 : Int32).toUInt32 &&& Int32.toUInt32 31)).toInt32) &&& (1431655765 : Int32))).toUInt32 >>> ((2 : Int32).toUInt32 &&& Int32.toUInt32 31)).toInt32) &&& (858993459 : Int32))))]) hx hb dJ_bitCount_23 rfl hl (by decide) rfl (fun ls hl => ?_)
  refine lv_iload_n hx hb dJ_bitCount_24 rfl (lv_at hl 0 rfl) ?_
  refine lv_iload_n hx hb dJ_bitCount_25 rfl (lv_at hl 0 rfl) ?_
  refine lv_iconst (v := 4) hx hb dJ_bitCount_26 (by decide) ?_
  refine lv_iushr hx hb dJ_bitCount_27 rfl ?_
  refine lv_iadd hx hb dJ_bitCount_28 ?_
  refine lv_ldcw (v := 252645135) hx hb hown (hts _ q_532) dJ_bitCount_29 ?_
  refine lv_iand hx hb dJ_bitCount_32 ?_
  refine lv_istore_n (lv' := [(0, .int (((((a0 - (((a0.toUInt32 >>> ((1 : Int32).toUInt32 &&& Int32.toUInt32 31)).toInt32) &&& (1431655765 : Int32))) &&& (858993459 : Int32)) + ((((a0 - (((a0.toUInt32 >>> ((1 : Int32).toUInt32 &&& Int32.toUInt32 31)).toInt32) &&& (1431655765 : Int32))).toUInt32 >>> ((2 : Int32).toUInt32 &&& Int32.toUInt32 31)).toInt32) &&& (858993459 : Int32))) + (((((a0 - (((a0.toUInt32 >>> ((1 : Int32).toUInt32 &&& Int32.toUInt32 31)).toInt32) &&& (1431655765 : Int32))) &&& (858993459 : Int32)) + ((((a0 - (((a0.toUInt32 >>> ((1 : Int32).toUInt32 &&& Int32.toUInt32 31)).toInt32) &&& (1431655765 : Int32))).toUInt32 >>> ((2 : Int32).toUInt32 &&& Int32.toUInt32 31)).toInt32) &&& (858993459 : Int32))).toUInt32 >>> ((4 : Int32).toUInt32 &&& Int32.toUInt32 31)).toInt32)) &&& (252645135 : Int32)))]) hx hb dJ_bitCount_33 rfl hl (by decide) rfl (fun ls hl => ?_)
  refine lv_iload_n hx hb dJ_bitCount_34 rfl (lv_at hl 0 rfl) ?_
  refine lv_iload_n hx hb dJ_bitCount_35 rfl (lv_at hl 0 rfl) ?_
  refine lv_bipush (v := 8) hx hb dJ_bitCount_36 (by decide) ?_
  refine lv_iushr hx hb dJ_bitCount_38 rfl ?_
  refine lv_iadd hx hb dJ_bitCount_39 ?_
  refine lv_istore_n (lv' := [(0, .int ((((((a0 - (((a0.toUInt32 >>> ((1 : Int32).toUInt32 &&& Int32.toUInt32 31)).toInt32) &&& (1431655765 : Int32))) &&& (858993459 : Int32)) + ((((a0 - (((a0.toUInt32 >>> ((1 : Int32).toUInt32 &&& Int32.toUInt32 31)).toInt32) &&& (1431655765 : Int32))).toUInt32 >>> ((2 : Int32).toUInt32 &&& Int32.toUInt32 31)).toInt32) &&& (858993459 : Int32))) + (((((a0 - (((a0.toUInt32 >>> ((1 : Int32).toUInt32 &&& Int32.toUInt32 31)).toInt32) &&& (1431655765 : Int32))) &&& (858993459 : Int32)) + ((((a0 - (((a0.toUInt32 >>> ((1 : Int32).toUInt32 &&& Int32.toUInt32 31)).toInt32) &&& (1431655765 : Int32))).toUInt32 >>> ((2 : Int32).toUInt32 &&& Int32.toUInt32 31)).toInt32) &&& (858993459 : Int32))).toUInt32 >>> ((4 : Int32).toUInt32 &&& Int32.toUInt32 31)).toInt32)) &&& (252645135 : Int32)) + (((((((a0 - (((a0.toUInt32 >>> ((1 : Int32).toUInt32 &&& Int32.toUInt32 31)).toInt32) &&& (1431655765 : Int32))) &&& (858993459 : Int32)) + ((((a0 - (((a0.toUInt32 >>> ((1 : Int32).toUInt32 &&& Int32.toUInt32 31)).toInt32) &&& (1431655765 : Int32))).toUInt32 >>> ((2 : Int32).toUInt32 &&& Int32.toUInt32 31)).toInt32) &&& (858993459 : Int32))) + (((((a0 - (((a0.toUInt32 >>> ((1 : Int32).toUInt32 &&& Int32.toUInt32 31)).toInt32) &&& (1431655765 : Int32))) &&& (858993459 : Int32)) + ((((a0 - (((a0.toUInt32 >>> ((1 : Int32).toUInt32 &&& Int32.toUInt32 31)).toInt32) &&& (1431655765 : Int32))).toUInt32 >>> ((2 : Int32).toUInt32 &&& Int32.toUInt32 31)).toInt32) &&& (858993459 : Int32))).toUInt32 >>> ((4 : Int32).toUInt32 &&& Int32.toUInt32 31)).toInt32)) &&& (252645135 : Int32)).toUInt32 >>> ((8 : Int32).toUInt32 &&& Int32.toUInt32 31)).toInt32)))]) hx hb dJ_bitCount_40 rfl hl (by decide) rfl (fun ls hl => ?_)
  refine lv_iload_n hx hb dJ_bitCount_41 rfl (lv_at hl 0 rfl) ?_
  refine lv_iload_n hx hb dJ_bitCount_42 rfl (lv_at hl 0 rfl) ?_
  refine lv_bipush (v := 16) hx hb dJ_bitCount_43 (by decide) ?_
  refine lv_iushr hx hb dJ_bitCount_45 rfl ?_
  refine lv_iadd hx hb dJ_bitCount_46 ?_
  refine lv_istore_n (lv' := [(0, .int (((((((a0 - (((a0.toUInt32 >>> ((1 : Int32).toUInt32 &&& Int32.toUInt32 31)).toInt32) &&& (1431655765 : Int32))) &&& (858993459 : Int32)) + ((((a0 - (((a0.toUInt32 >>> ((1 : Int32).toUInt32 &&& Int32.toUInt32 31)).toInt32) &&& (1431655765 : Int32))).toUInt32 >>> ((2 : Int32).toUInt32 &&& Int32.toUInt32 31)).toInt32) &&& (858993459 : Int32))) + (((((a0 - (((a0.toUInt32 >>> ((1 : Int32).toUInt32 &&& Int32.toUInt32 31)).toInt32) &&& (1431655765 : Int32))) &&& (858993459 : Int32)) + ((((a0 - (((a0.toUInt32 >>> ((1 : Int32).toUInt32 &&& Int32.toUInt32 31)).toInt32) &&& (1431655765 : Int32))).toUInt32 >>> ((2 : Int32).toUInt32 &&& Int32.toUInt32 31)).toInt32) &&& (858993459 : Int32))).toUInt32 >>> ((4 : Int32).toUInt32 &&& Int32.toUInt32 31)).toInt32)) &&& (252645135 : Int32)) + (((((((a0 - (((a0.toUInt32 >>> ((1 : Int32).toUInt32 &&& Int32.toUInt32 31)).toInt32) &&& (1431655765 : Int32))) &&& (858993459 : Int32)) + ((((a0 - (((a0.toUInt32 >>> ((1 : Int32).toUInt32 &&& Int32.toUInt32 31)).toInt32) &&& (1431655765 : Int32))).toUInt32 >>> ((2 : Int32).toUInt32 &&& Int32.toUInt32 31)).toInt32) &&& (858993459 : Int32))) + (((((a0 - (((a0.toUInt32 >>> ((1 : Int32).toUInt32 &&& Int32.toUInt32 31)).toInt32) &&& (1431655765 : Int32))) &&& (858993459 : Int32)) + ((((a0 - (((a0.toUInt32 >>> ((1 : Int32).toUInt32 &&& Int32.toUInt32 31)).toInt32) &&& (1431655765 : Int32))).toUInt32 >>> ((2 : Int32).toUInt32 &&& Int32.toUInt32 31)).toInt32) &&& (858993459 : Int32))).toUInt32 >>> ((4 : Int32).toUInt32 &&& Int32.toUInt32 31)).toInt32)) &&& (252645135 : Int32)).toUInt32 >>> ((8 : Int32).toUInt32 &&& Int32.toUInt32 31)).toInt32)) + ((((((((a0 - (((a0.toUInt32 >>> ((1 : Int32).toUInt32 &&& Int32.toUInt32 31)).toInt32) &&& (1431655765 : Int32))) &&& (858993459 : Int32)) + ((((a0 - (((a0.toUInt32 >>> ((1 : Int32).toUInt32 &&& Int32.toUInt32 31)).toInt32) &&& (1431655765 : Int32))).toUInt32 >>> ((2 : Int32).toUInt32 &&& Int32.toUInt32 31)).toInt32) &&& (858993459 : Int32))) + (((((a0 - (((a0.toUInt32 >>> ((1 : Int32).toUInt32 &&& Int32.toUInt32 31)).toInt32) &&& (1431655765 : Int32))) &&& (858993459 : Int32)) + ((((a0 - (((a0.toUInt32 >>> ((1 : Int32).toUInt32 &&& Int32.toUInt32 31)).toInt32) &&& (1431655765 : Int32))).toUInt32 >>> ((2 : Int32).toUInt32 &&& Int32.toUInt32 31)).toInt32) &&& (858993459 : Int32))).toUInt32 >>> ((4 : Int32).toUInt32 &&& Int32.toUInt32 31)).toInt32)) &&& (252645135 : Int32)) + (((((((a0 - (((a0.toUInt32 >>> ((1 : Int32).toUInt32 &&& Int32.toUInt32 31)).toInt32) &&& (1431655765 : Int32))) &&& (858993459 : Int32)) + ((((a0 - (((a0.toUInt32 >>> ((1 : Int32).toUInt32 &&& Int32.toUInt32 31)).toInt32) &&& (1431655765 : Int32))).toUInt32 >>> ((2 : Int32).toUInt32 &&& Int32.toUInt32 31)).toInt32) &&& (858993459 : Int32))) + (((((a0 - (((a0.toUInt32 >>> ((1 : Int32).toUInt32 &&& Int32.toUInt32 31)).toInt32) &&& (1431655765 : Int32))) &&& (858993459 : Int32)) + ((((a0 - (((a0.toUInt32 >>> ((1 : Int32).toUInt32 &&& Int32.toUInt32 31)).toInt32) &&& (1431655765 : Int32))).toUInt32 >>> ((2 : Int32).toUInt32 &&& Int32.toUInt32 31)).toInt32) &&& (858993459 : Int32))).toUInt32 >>> ((4 : Int32).toUInt32 &&& Int32.toUInt32 31)).toInt32)) &&& (252645135 : Int32)).toUInt32 >>> ((8 : Int32).toUInt32 &&& Int32.toUInt32 31)).toInt32)).toUInt32 >>> ((16 : Int32).toUInt32 &&& Int32.toUInt32 31)).toInt32)))]) hx hb dJ_bitCount_47 rfl hl (by decide) rfl (fun ls hl => ?_)
  refine lv_iload_n hx hb dJ_bitCount_48 rfl (lv_at hl 0 rfl) ?_
  refine lv_bipush (v := 63) hx hb dJ_bitCount_49 (by decide) ?_
  refine lv_iand hx hb dJ_bitCount_51 ?_
  exact kb_iret (wf := kb_nil) hx hb hr hlocks hK hP hD hS ⟨e.symm, rfl⟩ dJ_bitCount_52
