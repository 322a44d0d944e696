/-- BoilerDeskModel.turn()Z -/
def K_X_turn_558  : Nat → Nat → ((Nat → Int32) × (Nat → Nat → Int32)) → Int32 → Int32 → Int32 → Int32 → Int32 → (Int32 × ((Nat → Int32) × (Nat → Nat → Int32)))
  | 0, _, q, x1, x2, x3, x4, x5 => (if ((q.2 0) ((0 : Int32)).toNatClampNeg) = (0 : Int32) then (if ((q.2 0) ((1 : Int32)).toNatClampNeg) = (0 : Int32) then (if x5 = (0 : Int32) then (if ((F_X_others ((up (up (up (up (up q.1 12 (q.1 24)) 13 (q.1 24)) 14 (q.1 25)) 15 (q.1 25)) 23 ((q.1 23) ||| (q.1 28))), q.2)).1) = (0 : Int32) then (0, (F_X_others ((up (up (up (up (up q.1 12 (q.1 24)) 13 (q.1 24)) 14 (q.1 25)) 15 (q.1 25)) 23 ((q.1 23) ||| (q.1 28))), q.2)).2) else (1, (F_X_command (F_X_others ((up (up (up (up (up q.1 12 (q.1 24)) 13 (q.1 24)) 14 (q.1 25)) 15 (q.1 25)) 23 ((q.1 23) ||| (q.1 28))), q.2)).2))) else (if ((F_X_first ((up (up (up (up (up q.1 12 (q.1 24)) 13 (q.1 24)) 14 (q.1 25)) 15 (q.1 25)) 23 ((q.1 23) ||| (q.1 28))), q.2)).1) = (0 : Int32) then (0, (F_X_first ((up (up (up (up (up q.1 12 (q.1 24)) 13 (q.1 24)) 14 (q.1 25)) 15 (q.1 25)) 23 ((q.1 23) ||| (q.1 28))), q.2)).2) else (1, (F_X_command (F_X_first ((up (up (up (up (up q.1 12 (q.1 24)) 13 (q.1 24)) 14 (q.1 25)) 15 (q.1 25)) 23 ((q.1 23) ||| (q.1 28))), q.2)).2)))) else (if x5 = (0 : Int32) then (if ((F_X_others ((up (up (up (up (up q.1 12 (q.1 24)) 13 (q.1 24)) 14 x1) 15 x2) 23 ((q.1 23) ||| (q.1 28))), q.2)).1) = (0 : Int32) then (0, (F_X_others ((up (up (up (up (up q.1 12 (q.1 24)) 13 (q.1 24)) 14 x1) 15 x2) 23 ((q.1 23) ||| (q.1 28))), q.2)).2) else (1, (F_X_command (F_X_others ((up (up (up (up (up q.1 12 (q.1 24)) 13 (q.1 24)) 14 x1) 15 x2) 23 ((q.1 23) ||| (q.1 28))), q.2)).2))) else (if ((F_X_first ((up (up (up (up (up q.1 12 (q.1 24)) 13 (q.1 24)) 14 x1) 15 x2) 23 ((q.1 23) ||| (q.1 28))), q.2)).1) = (0 : Int32) then (0, (F_X_first ((up (up (up (up (up q.1 12 (q.1 24)) 13 (q.1 24)) 14 x1) 15 x2) 23 ((q.1 23) ||| (q.1 28))), q.2)).2) else (1, (F_X_command (F_X_first ((up (up (up (up (up q.1 12 (q.1 24)) 13 (q.1 24)) 14 x1) 15 x2) 23 ((q.1 23) ||| (q.1 28))), q.2)).2))))) else (if ((q.2 0) ((1 : Int32)).toNatClampNeg) = (0 : Int32) then (if x5 = (0 : Int32) then (if ((F_X_others ((up (up (up (up (up q.1 12 x3) 13 x4) 14 (q.1 25)) 15 (q.1 25)) 23 ((q.1 23) ||| (q.1 28))), q.2)).1) = (0 : Int32) then (0, (F_X_others ((up (up (up (up (up q.1 12 x3) 13 x4) 14 (q.1 25)) 15 (q.1 25)) 23 ((q.1 23) ||| (q.1 28))), q.2)).2) else (1, (F_X_command (F_X_others ((up (up (up (up (up q.1 12 x3) 13 x4) 14 (q.1 25)) 15 (q.1 25)) 23 ((q.1 23) ||| (q.1 28))), q.2)).2))) else (if ((F_X_first ((up (up (up (up (up q.1 12 x3) 13 x4) 14 (q.1 25)) 15 (q.1 25)) 23 ((q.1 23) ||| (q.1 28))), q.2)).1) = (0 : Int32) then (0, (F_X_first ((up (up (up (up (up q.1 12 x3) 13 x4) 14 (q.1 25)) 15 (q.1 25)) 23 ((q.1 23) ||| (q.1 28))), q.2)).2) else (1, (F_X_command (F_X_first ((up (up (up (up (up q.1 12 x3) 13 x4) 14 (q.1 25)) 15 (q.1 25)) 23 ((q.1 23) ||| (q.1 28))), q.2)).2)))) else (if x5 = (0 : Int32) then (if ((F_X_others ((up (up (up (up (up q.1 12 x3) 13 x4) 14 x1) 15 x2) 23 ((q.1 23) ||| (q.1 28))), q.2)).1) = (0 : Int32) then (0, (F_X_others ((up (up (up (up (up q.1 12 x3) 13 x4) 14 x1) 15 x2) 23 ((q.1 23) ||| (q.1 28))), q.2)).2) else (1, (F_X_command (F_X_others ((up (up (up (up (up q.1 12 x3) 13 x4) 14 x1) 15 x2) 23 ((q.1 23) ||| (q.1 28))), q.2)).2))) else (if ((F_X_first ((up (up (up (up (up q.1 12 x3) 13 x4) 14 x1) 15 x2) 23 ((q.1 23) ||| (q.1 28))), q.2)).1) = (0 : Int32) then (0, (F_X_first ((up (up (up (up (up q.1 12 x3) 13 x4) 14 x1) 15 x2) 23 ((q.1 23) ||| (q.1 28))), q.2)).2) else (1, (F_X_command (F_X_first ((up (up (up (up (up q.1 12 x3) 13 x4) 14 x1) 15 x2) 23 ((q.1 23) ||| (q.1 28))), q.2)).2))))))
  | n + 1, i, q, x1, x2, x3, x4, x5 => (if ((q.2 0) (((2 : Int32) + (nI i))).toNatClampNeg) = (0 : Int32) then (if ((q.2 8) ((nI i)).toNatClampNeg) = (0 : Int32) then (if ((q.2 3) ((nI i)).toNatClampNeg) = (0 : Int32) then K_X_turn_558 n (i + 1) (F_X_find q ((6 : Int32) + (nI i)) (0 : Int32)) x1 x2 x3 x4 x5 else (if ((q.2 4) ((nI i)).toNatClampNeg) = (0 : Int32) then K_X_turn_558 n (i + 1) (F_X_find q ((6 : Int32) + (nI i)) (0 : Int32)) x1 x2 x3 x4 x5 else K_X_turn_558 n (i + 1) (F_X_find q ((6 : Int32) + (nI i)) (1 : Int32)) x1 x2 x3 x4 x5)) else (if ((q.2 3) ((nI i)).toNatClampNeg) = (0 : Int32) then K_X_turn_558 n (i + 1) (F_X_find q ((6 : Int32) + (nI i)) (1 : Int32)) x1 x2 x3 x4 x5 else K_X_turn_558 n (i + 1) (F_X_find q ((6 : Int32) + (nI i)) (0 : Int32)) x1 x2 x3 x4 x5)) else K_X_turn_558 n (i + 1) q x1 x2 x3 x4 x5)
def K_X_turn_513  : Nat → Nat → ((Nat → Int32) × (Nat → Nat → Int32)) → Int32 → Int32 → Int32 → Int32 → Int32 → (Int32 × ((Nat → Int32) × (Nat → Nat → Int32)))
  | 0, _, q, x1, x2, x3, x4, x5 => K_X_turn_558 4 0 q x1 x2 x3 x4 x5
  | n + 1, i, q, x1, x2, x3, x4, x5 => (if ((q.2 7) ((nI i)).toNatClampNeg) = ((q.2 3) ((nI i)).toNatClampNeg) then K_X_turn_513 n (i + 1) (F_X_find q ((2 : Int32) + (nI i)) (0 : Int32)) x1 x2 x3 x4 x5 else K_X_turn_513 n (i + 1) (F_X_find q ((2 : Int32) + (nI i)) (1 : Int32)) x1 x2 x3 x4 x5)
def K_X_turn_423  (q : (Nat → Int32) × (Nat → Nat → Int32)) (x1 : Int32) (x2 : Int32) (x3 : Int32) (x4 : Int32) (x5 : Int32) (y0 : Int32) : Int32 × ((Nat → Int32) × (Nat → Nat → Int32)) := (if (F_X_in (q.1 24) (0 : Int32) (q.1 1)) = (0 : Int32) then (if (F_X_in ((F_X_find q (0 : Int32) (1 : Int32)).1 25) (0 : Int32) ((F_X_find q (0 : Int32) (1 : Int32)).1 6)) = (0 : Int32) then K_X_turn_513 4 0 (F_X_find (F_X_find q (0 : Int32) (1 : Int32)) (1 : Int32) (1 : Int32)) x1 x2 x3 x4 y0 else (if y0 = (0 : Int32) then (if (F_X_in ((F_X_find q (0 : Int32) (1 : Int32)).1 25) x1 x2) = (0 : Int32) then K_X_turn_513 4 0 (F_X_find (F_X_find q (0 : Int32) (1 : Int32)) (1 : Int32) (1 : Int32)) x1 x2 x3 x4 y0 else K_X_turn_513 4 0 (F_X_find (F_X_find q (0 : Int32) (1 : Int32)) (1 : Int32) (0 : Int32)) x1 x2 x3 x4 y0) else K_X_turn_513 4 0 (F_X_find (F_X_find q (0 : Int32) (1 : Int32)) (1 : Int32) (0 : Int32)) x1 x2 x3 x4 y0)) else (if y0 = (0 : Int32) then (if (F_X_in (q.1 24) x3 x4) = (0 : Int32) then (if (F_X_in ((F_X_find q (0 : Int32) (1 : Int32)).1 25) (0 : Int32) ((F_X_find q (0 : Int32) (1 : Int32)).1 6)) = (0 : Int32) then K_X_turn_513 4 0 (F_X_find (F_X_find q (0 : Int32) (1 : Int32)) (1 : Int32) (1 : Int32)) x1 x2 x3 x4 y0 else (if (F_X_in ((F_X_find q (0 : Int32) (1 : Int32)).1 25) x1 x2) = (0 : Int32) then K_X_turn_513 4 0 (F_X_find (F_X_find q (0 : Int32) (1 : Int32)) (1 : Int32) (1 : Int32)) x1 x2 x3 x4 y0 else K_X_turn_513 4 0 (F_X_find (F_X_find q (0 : Int32) (1 : Int32)) (1 : Int32) (0 : Int32)) x1 x2 x3 x4 y0)) else (if (F_X_in ((F_X_find q (0 : Int32) (0 : Int32)).1 25) (0 : Int32) ((F_X_find q (0 : Int32) (0 : Int32)).1 6)) = (0 : Int32) then K_X_turn_513 4 0 (F_X_find (F_X_find q (0 : Int32) (0 : Int32)) (1 : Int32) (1 : Int32)) x1 x2 x3 x4 y0 else (if (F_X_in ((F_X_find q (0 : Int32) (0 : Int32)).1 25) x1 x2) = (0 : Int32) then K_X_turn_513 4 0 (F_X_find (F_X_find q (0 : Int32) (0 : Int32)) (1 : Int32) (1 : Int32)) x1 x2 x3 x4 y0 else K_X_turn_513 4 0 (F_X_find (F_X_find q (0 : Int32) (0 : Int32)) (1 : Int32) (0 : Int32)) x1 x2 x3 x4 y0))) else (if (F_X_in ((F_X_find q (0 : Int32) (0 : Int32)).1 25) (0 : Int32) ((F_X_find q (0 : Int32) (0 : Int32)).1 6)) = (0 : Int32) then K_X_turn_513 4 0 (F_X_find (F_X_find q (0 : Int32) (0 : Int32)) (1 : Int32) (1 : Int32)) x1 x2 x3 x4 y0 else K_X_turn_513 4 0 (F_X_find (F_X_find q (0 : Int32) (0 : Int32)) (1 : Int32) (0 : Int32)) x1 x2 x3 x4 y0)))
def K_X_turn_411  (q : (Nat → Int32) × (Nat → Nat → Int32)) (x1 : Int32) (x2 : Int32) (x3 : Int32) (x4 : Int32) (x5 : Int32) : Int32 × ((Nat → Int32) × (Nat → Nat → Int32)) := (if (q.1 10) = (0 : Int32) then K_X_turn_423 q x1 x2 x3 x4 x5 (1 : Int32) else K_X_turn_423 q x1 x2 x3 x4 x5 (0 : Int32))
def K_X_turn_387  (q : (Nat → Int32) × (Nat → Nat → Int32)) (x1 : Int32) (x2 : Int32) (x3 : Int32) (x4 : Int32) (x5 : Int32) (y0 : Int32) : Int32 × ((Nat → Int32) × (Nat → Nat → Int32)) := (if (q.1 10) = (0 : Int32) then K_X_turn_411 q (0 : Int32) (q.1 6) (0 : Int32) (q.1 1) x5 else K_X_turn_411 q x1 x2 x3 y0 x5)
def K_X_turn_359  (q : (Nat → Int32) × (Nat → Nat → Int32)) (x1 : Int32) (x2 : Int32) (x3 : Int32) (x4 : Int32) (x5 : Int32) (y0 : Int32) : Int32 × ((Nat → Int32) × (Nat → Nat → Int32)) := (if (0 : Int32) ≤ x4 then (if x4 ≤ (q.1 1) then K_X_turn_387 q x1 x2 y0 x4 x5 x4 else K_X_turn_387 q x1 x2 y0 x4 x5 (q.1 1)) else K_X_turn_387 q x1 x2 y0 x4 x5 (0 : Int32))
def K_X_turn_213  : Nat → Nat → ((Nat → Int32) × (Nat → Nat → Int32)) → Int32 → Int32 → Int32 → Int32 → (Int32 × ((Nat → Int32) × (Nat → Nat → Int32)))
  | 0, _, q, x1, x2, x3, x4 => (if (0 : Int32) ≤ x3 then (if x3 ≤ (q.1 1) then K_X_turn_359 q x1 x2 x3 x4 (nI 4) x3 else K_X_turn_359 q x1 x2 x3 x4 (nI 4) (q.1 1)) else K_X_turn_359 q x1 x2 x3 x4 (nI 4) (0 : Int32))
  | n + 1, i, q, x1, x2, x3, x4 => (if ((q.2 2) (((2 : Int32) + (nI i))).toNatClampNeg) = (0 : Int32) then (if ((q.2 2) (((6 : Int32) + (nI i))).toNatClampNeg) = (0 : Int32) then (if ((q.2 3) ((nI i)).toNatClampNeg) = (0 : Int32) then K_X_turn_213 n (i + 1) q x1 x2 x3 x4 else (if ((q.2 4) ((nI i)).toNatClampNeg) = (0 : Int32) then K_X_turn_213 n (i + 1) q x1 x2 x3 (x4 + (q.1 9)) else (if ((q.2 5) ((nI i)).toNatClampNeg) = (0 : Int32) then K_X_turn_213 n (i + 1) q x1 x2 x3 (x4 + (q.1 9)) else K_X_turn_213 n (i + 1) q x1 x2 (x3 + (q.1 9)) (x4 + (q.1 9))))) else K_X_turn_213 n (i + 1) q x1 x2 x3 (x4 + (q.1 9))) else K_X_turn_213 n (i + 1) q x1 x2 x3 (x4 + (q.1 9)))
def K_X_turn_207  (q : (Nat → Int32) × (Nat → Nat → Int32)) (x1 : Int32) (x2 : Int32) (x3 : Int32) (y0 : Int32) (y1 : Int32) : Int32 × ((Nat → Int32) × (Nat → Nat → Int32)) := K_X_turn_213 4 0 q x1 x2 x3 (y1 - y0)
def K_X_turn_185  (q : (Nat → Int32) × (Nat → Nat → Int32)) (x1 : Int32) (x2 : Int32) (y0 : Int32) (y1 : Int32) : Int32 × ((Nat → Int32) × (Nat → Nat → Int32)) := (if x1 ≤ (q.1 14) then K_X_turn_207 q x1 x2 (y1 - y0) x1 (q.1 13) else K_X_turn_207 q x1 x2 (y1 - y0) (q.1 14) (q.1 13))
def K_X_turn_164  (q : (Nat → Int32) × (Nat → Nat → Int32)) (x1 : Int32) (y0 : Int32) : Int32 × ((Nat → Int32) × (Nat → Nat → Int32)) := (if (q.1 15) ≤ y0 then K_X_turn_185 q x1 y0 y0 (q.1 12) else K_X_turn_185 q x1 y0 (q.1 15) (q.1 12))
def K_X_turn_131  (q : (Nat → Int32) × (Nat → Nat → Int32)) (x1 : Int32) (y0 : Int32) : Int32 × ((Nat → Int32) × (Nat → Nat → Int32)) := (if ((q.1 15) + (q.1 7)) ≤ (q.1 6) then K_X_turn_164 q y0 ((q.1 15) + (q.1 7)) else K_X_turn_164 q y0 (q.1 6))
def K_X_turn_73  : Nat → Nat → ((Nat → Int32) × (Nat → Nat → Int32)) → (Int32 × ((Nat → Int32) × (Nat → Nat → Int32)))
  | 0, _, q => (if ((F_X_units q).1) = (0 : Int32) then (0, (F_X_units q).2) else (if (0 : Int32) ≤ (((F_X_units q).2.1 14) - ((F_X_units q).2.1 8)) then K_X_turn_131 (F_X_units q).2 (nI 10) (((F_X_units q).2.1 14) - ((F_X_units q).2.1 8)) else K_X_turn_131 (F_X_units q).2 (nI 10) (0 : Int32)))
  | n + 1, i, q => K_X_turn_73 n (i + 1) (q.1, (ub q.2 2 (upd (q.2 2) ((nI i)).toNatClampNeg (vp_nar .boolean ((q.2 0) ((nI i)).toNatClampNeg)))))
def K_X_turn_49  : Nat → Nat → ((Nat → Int32) × (Nat → Nat → Int32)) → (Int32 × ((Nat → Int32) × (Nat → Nat → Int32)))
  | 0, _, q => K_X_turn_73 10 0 q
  | n + 1, i, q => (if ((q.2 6) ((nI i)).toNatClampNeg) = (0 : Int32) then (0, q) else K_X_turn_49 n (i + 1) q)
def K_X_turn_45  (q : (Nat → Int32) × (Nat → Nat → Int32))  : Int32 × ((Nat → Int32) × (Nat → Nat → Int32)) := (0, q)
def F_X_turn (q0 : (Nat → Int32) × (Nat → Nat → Int32))  : Int32 × ((Nat → Int32) × (Nat → Nat → Int32)) := (if (q0.1 30) = (0 : Int32) then (if (q0.1 26) = (0 : Int32) then K_X_turn_45 ((up q0.1 16 0), q0.2) else (if (q0.1 27) = (0 : Int32) then K_X_turn_45 ((up q0.1 16 0), q0.2) else K_X_turn_49 4 0 ((up q0.1 16 0), q0.2))) else (if ((q0.1 16) + (1 : Int32)) < (3 : Int32) then (if (q0.1 26) = (0 : Int32) then K_X_turn_45 ((up q0.1 16 ((q0.1 16) + (1 : Int32))), q0.2) else (if (q0.1 27) = (0 : Int32) then K_X_turn_45 ((up q0.1 16 ((q0.1 16) + (1 : Int32))), q0.2) else K_X_turn_49 4 0 ((up q0.1 16 ((q0.1 16) + (1 : Int32))), q0.2))) else (0, ((up q0.1 16 ((q0.1 16) + (1 : Int32))), q0.2))))
set_option maxHeartbeats 4000000 in
set_option maxRecDepth 100000 in
theorem c_X_turn (l : Launch) (D : va_G) (h : Nat → Nat) (cZ : ClassId) (sz : Nat) (q0 : (Nat → Int32) × (Nat → Nat → Int32))  (zt23 : q0.1 23 = 0 ∨ q0.1 23 = 1) (zt28 : q0.1 28 = 0 ∨ q0.1 28 = 1) (zt22 : q0.1 22 = 0 ∨ q0.1 22 = 1) : Met l yX_turn [.code yX_turn cX_turn 7 (some .boolean)] ({ frames := 2, cells := 0, slots := 0, locals := 47 }) (va_Pc [.ref (h 0)] (kb_B D [(cZ, .boolean)] (mw h cZ) q0 sz)) (va_Qi (fun r' u' => r' = (F_X_turn q0).1 ∧ u' = (F_X_turn q0).2) (kb_E D [(cZ, .boolean)] (mw h cZ) (va_A (mw h cZ q0) sz)) (va_A (mw h cZ q0) sz)) 0 0 (va_A (mw h cZ q0) sz) := by
  refine kb_of (cc := cX_turn) (maxL := 7) (ret := (some .boolean)) (QcA := fun A => (va_Qi (fun r' u' => r' = (F_X_turn q0).1 ∧ u' = (F_X_turn q0).2) (kb_E D [(cZ, .boolean)] (mw h cZ) A) A)) (by decide) (Nat.le_of_ble_eq_true rfl) ?_
  intro p e s m below meth c A hx hb hr hlocks hml hown hts hA hN hK hP hD ls hl
  have hS : va_S A s.heap s.heap [] := va_S.rf
  have hl : lv_has ls 7 [(0, .ref (h 0))] := hl
  have k_558 : ∀ (n i : Nat) (q : (Nat → Int32) × (Nat → Nat → Int32)) (x1 : Int32) (x2 : Int32) (x3 : Int32) (x4 : Int32) (x5 : Int32) (H : Heap) (locs : List Loc) (ls : Array Slot), i + n = 4 → (q.1 23 = 0 ∨ q.1 23 = 1) → (q.1 28 = 0 ∨ q.1 28 = 1) → (q.1 22 = 0 ∨ q.1 22 = 1) → F_X_turn q0 = K_X_turn_558 n i q x1 x2 x3 x4 x5 → va_P D vwCl (mw h cZ q) H → va_D A (mw h cZ q) → va_S A s.heap H locs → lv_has ls 7 [(0, .ref (h 0)), (1, .int x1), (2, .int x2), (3, .int x3), (4, .int x4), (5, .int x5), (6, .int (nI i))] → W p l e ({ frames := 2, cells := 0, slots := 0, locals := 47 }) s m [.ref (h 0)].toArray below meth c H locs 0 0 (MQ below (va_Qi (fun r' u' => r' = (F_X_turn q0).1 ∧ u' = (F_X_turn q0).2) (kb_E D [(cZ, .boolean)] (mw h cZ) A) A) [.ref (h 0)].toArray s 0 0 A) (F0 m 558 ls []) := by
    intro n
    induction n with
    | zero =>
      intro i q x1 x2 x3 x4 x5 H locs ls hin zs23 zs28 zs22 e hP hD hS hl
      obtain rfl : i = 4 := by omega
      refine lv_iload hx hb dX_turn_558 (lv_at hl 6 rfl) ?_
      refine lv_iconst (v := 4) hx hb dX_turn_560 (by decide) ?_
      refine lv_icmp_ge (tgt := 644) hx hb dX_turn_561 (by decide) (fun _ => ?_) (fun c9 => absurd (by decide) c9)
      refine lv_aload_n hx hb dX_turn_644 rfl (lv_at hl 0 rfl) ?_
      refine lv_aload_n hx hb dX_turn_645 rfl (lv_at hl 0 rfl) ?_
      refine va_get (D := D) (ci := 7) (v := .ref (h 1)) (C := "BoilerDeskModel") (T := TX) (N := 43) hx hb hts inX hown hK hP 0 rfl rfl 24 (by decide) (hts _ q_667) (fun _ h9 => h9) rfl dX_turn_646 ?_
      refine lv_iconst (v := 0) hx hb dX_turn_649 (by decide) ?_
      refine va_zald hx hb hK hP 1 0 rfl rfl (by unfold vp_in; decide) dX_turn_650 ?_
      refine lv_if_eq (tgt := 658) hx hb dX_turn_651 (by decide) (fun c_1 => ?_) (fun c_1 => ?_)
      · have e := e.trans (if_pos c_1)
        refine lv_aload_n hx hb dX_turn_658 rfl (lv_at hl 0 rfl) ?_
        refine va_get (D := D) (ci := 7) (v := .int (q.1 24)) (C := "BoilerDeskModel") (T := TX) (N := 43) hx hb hts inX hown hK hP 0 rfl rfl 30 (by decide) (hts _ q_673) (fun _ h9 => h9) rfl dX_turn_659 ?_
        refine kb_put (D := D) (wf := mw h cZ) (w' := ((up q.1 12 (q.1 24)), q.2)) (ci := 7) (v := .int (q.1 24)) (ty := .int) (C := "BoilerDeskModel") (T := TX) (N := 43) hx hb hts inX tyX tyX_ok nmX hown hK hP hD hS 0 rfl rfl 12 (by decide) (hts _ q_655) (fun _ h9 => h9) rfl (by decide +kernel) rfl rfl (Nat.le_of_ble_eq_true rfl) dX_turn_662 rfl (fun H locs hP hD hS => ?_)
        refine lv_aload_n hx hb dX_turn_665 rfl (lv_at hl 0 rfl) ?_
        refine lv_aload_n hx hb dX_turn_666 rfl (lv_at hl 0 rfl) ?_
        refine va_get (D := D) (ci := 7) (v := .ref (h 1)) (C := "BoilerDeskModel") (T := TX) (N := 43) hx hb hts inX hown hK hP 0 rfl rfl 24 (by decide) (hts _ q_667) (fun _ h9 => h9) rfl dX_turn_667 ?_
        refine lv_iconst (v := 0) hx hb dX_turn_670 (by decide) ?_
        refine va_zald hx hb hK hP 1 0 rfl rfl (by unfold vp_in; decide) dX_turn_671 ?_
        refine lv_if_eq (tgt := 680) hx hb dX_turn_672 (by decide) (fun _ => ?_) (fun c9 => absurd c_1 c9)
        refine lv_aload_n hx hb dX_turn_680 rfl (lv_at hl 0 rfl) ?_
        refine va_get (D := D) (ci := 7) (v := .int (q.1 24)) (C := "BoilerDeskModel") (T := TX) (N := 43) hx hb hts inX hown hK hP 0 rfl rfl 30 (by decide) (hts _ q_673) (fun _ h9 => h9) rfl dX_turn_681 ?_
        refine kb_put (D := D) (wf := mw h cZ) (w' := ((up (up q.1 12 (q.1 24)) 13 (q.1 24)), q.2)) (ci := 7) (v := .int (q.1 24)) (ty := .int) (C := "BoilerDeskModel") (T := TX) (N := 43) hx hb hts inX tyX tyX_ok nmX hown hK hP hD hS 0 rfl rfl 13 (by decide) (hts _ q_656) (fun _ h9 => h9) rfl (by decide +kernel) rfl rfl (Nat.le_of_ble_eq_true rfl) dX_turn_684 rfl (fun H locs hP hD hS => ?_)
        refine lv_aload_n hx hb dX_turn_687 rfl (lv_at hl 0 rfl) ?_
        refine lv_aload_n hx hb dX_turn_688 rfl (lv_at hl 0 rfl) ?_
        refine va_get (D := D) (ci := 7) (v := .ref (h 1)) (C := "BoilerDeskModel") (T := TX) (N := 43) hx hb hts inX hown hK hP 0 rfl rfl 24 (by decide) (hts _ q_667) (fun _ h9 => h9) rfl dX_turn_689 ?_
        refine lv_iconst (v := 1) hx hb dX_turn_692 (by decide) ?_
        refine va_zald hx hb hK hP 1 0 rfl rfl (by unfold vp_in; decide) dX_turn_693 ?_
        refine lv_if_eq (tgt := 701) hx hb dX_turn_694 (by decide) (fun c_2 => ?_) (fun c_2 => ?_)
        · have e := e.trans (if_pos c_2)
          refine lv_aload_n hx hb dX_turn_701 rfl (lv_at hl 0 rfl) ?_
          refine va_get (D := D) (ci := 7) (v := .int (q.1 25)) (C := "BoilerDeskModel") (T := TX) (N := 43) hx hb hts inX hown hK hP 0 rfl rfl 31 (by decide) (hts _ q_674) (fun _ h9 => h9) rfl dX_turn_702 ?_
          refine kb_put (D := D) (wf := mw h cZ) (w' := ((up (up (up q.1 12 (q.1 24)) 13 (q.1 24)) 14 (q.1 25)), q.2)) (ci := 7) (v := .int (q.1 25)) (ty := .int) (C := "BoilerDeskModel") (T := TX) (N := 43) hx hb hts inX tyX tyX_ok nmX hown hK hP hD hS 0 rfl rfl 14 (by decide) (hts _ q_657) (fun _ h9 => h9) rfl (by decide +kernel) rfl rfl (Nat.le_of_ble_eq_true rfl) dX_turn_705 rfl (fun H locs hP hD hS => ?_)
          refine lv_aload_n hx hb dX_turn_708 rfl (lv_at hl 0 rfl) ?_
          refine lv_aload_n hx hb dX_turn_709 rfl (lv_at hl 0 rfl) ?_
          refine va_get (D := D) (ci := 7) (v := .ref (h 1)) (C := "BoilerDeskModel") (T := TX) (N := 43) hx hb hts inX hown hK hP 0 rfl rfl 24 (by decide) (hts _ q_667) (fun _ h9 => h9) rfl dX_turn_710 ?_
          refine lv_iconst (v := 1) hx hb dX_turn_713 (by decide) ?_
          refine va_zald hx hb hK hP 1 0 rfl rfl (by unfold vp_in; decide) dX_turn_714 ?_
          refine lv_if_eq (tgt := 722) hx hb dX_turn_715 (by decide) (fun _ => ?_) (fun c9 => absurd c_2 c9)
          refine lv_aload_n hx hb dX_turn_722 rfl (lv_at hl 0 rfl) ?_
          refine va_get (D := D) (ci := 7) (v := .int (q.1 25)) (C := "BoilerDeskModel") (T := TX) (N := 43) hx hb hts inX hown hK hP 0 rfl rfl 31 (by decide) (hts _ q_674) (fun _ h9 => h9) rfl dX_turn_723 ?_
          refine kb_put (D := D) (wf := mw h cZ) (w' := ((up (up (up (up q.1 12 (q.1 24)) 13 (q.1 24)) 14 (q.1 25)) 15 (q.1 25)), q.2)) (ci := 7) (v := .int (q.1 25)) (ty := .int) (C := "BoilerDeskModel") (T := TX) (N := 43) hx hb hts inX tyX tyX_ok nmX hown hK hP hD hS 0 rfl rfl 15 (by decide) (hts _ q_658) (fun _ h9 => h9) rfl (by decide +kernel) rfl rfl (Nat.le_of_ble_eq_true rfl) dX_turn_726 rfl (fun H locs hP hD hS => ?_)
          refine lv_aload_n hx hb dX_turn_729 rfl (lv_at hl 0 rfl) ?_
          refine lv_dup hx hb dX_turn_730 rfl ?_
          refine va_get (D := D) (ci := 7) (v := .int (q.1 23)) (C := "BoilerDeskModel") (T := TX) (N := 43) hx hb hts inX hown hK hP 0 rfl rfl 23 (by decide) (hts _ q_666) (fun _ h9 => h9) rfl dX_turn_731 ?_
          refine lv_aload_n hx hb dX_turn_734 rfl (lv_at hl 0 rfl) ?_
          refine va_get (D := D) (ci := 7) (v := .int (q.1 28)) (C := "BoilerDeskModel") (T := TX) (N := 43) hx hb hts inX hown hK hP 0 rfl rfl 34 (by decide) (hts _ q_677) (fun _ h9 => h9) rfl dX_turn_735 ?_
          refine lv_ior hx hb dX_turn_738 ?_
          refine kb_put (D := D) (wf := mw h cZ) (w' := ((up (up (up (up (up q.1 12 (q.1 24)) 13 (q.1 24)) 14 (q.1 25)) 15 (q.1 25)) 23 ((q.1 23) ||| (q.1 28))), q.2)) (ci := 7) (v := .int ((q.1 23) ||| (q.1 28))) (ty := .boolean) (C := "BoilerDeskModel") (T := TX) (N := 43) hx hb hts inX tyX tyX_ok nmX hown hK hP hD hS 0 rfl rfl 23 (by decide) (hts _ q_666) (fun _ h9 => h9) rfl (by decide +kernel) (zb_n (zb_or zs23 zs28)) (zb_f (zb_or zs23 zs28)) (Nat.le_of_ble_eq_true rfl) dX_turn_739 rfl (fun H locs hP hD hS => ?_)
          refine lv_iload hx hb dX_turn_742 (lv_at hl 5 rfl) ?_
          refine lv_if_eq (tgt := 757) hx hb dX_turn_744 (by decide) (fun c_3 => ?_) (fun c_3 => ?_)
          · have e := e.trans (if_pos c_3)
            refine lv_aload_n hx hb dX_turn_757 rfl (lv_at hl 0 rfl) ?_
            refine kb_calli (wf := mw h cZ) (r := (F_X_others ((up (up (up (up (up q.1 12 (q.1 24)) 13 (q.1 24)) 14 (q.1 25)) 15 (q.1 25)) 23 ((q.1 23) ||| (q.1 28))), q.2)).1) (u := (F_X_others ((up (up (up (up (up q.1 12 (q.1 24)) 13 (q.1 24)) 14 (q.1 25)) 15 (q.1 25)) 23 ((q.1 23) ||| (q.1 28))), q.2)).2) (va_runV (As := []) (rest := []) ⟨hx, hb, hml, hown, hts⟩ (c_X_others l D h cZ _ ((up (up (up (up (up q.1 12 (q.1 24)) 13 (q.1 24)) 14 (q.1 25)) 15 (q.1 25)) 23 ((q.1 23) ||| (q.1 28))), q.2)) (cwV 0 hts (gd_V q_835 q_837 q_30 q_40 q_838) rfl rfl rfl (by decide +kernel) ⟨Nat.le_of_ble_eq_true rfl, Nat.le_of_ble_eq_true rfl⟩) (kb_preV hN hK hP hD (va_recv hK hP (ci := 7) (q0 := 0) rfl rfl)) rfl rfl hl.1 rfl (lv_room (Nat.le_of_ble_eq_true rfl)) dX_turn_758 ⟨Nat.zero_le _, Nat.zero_le _⟩) hP hD hS hA (fun H locs hP hD hS => ?_)
            refine lv_if_ne (tgt := 766) hx hb dX_turn_761 (by decide) (fun c_4 => ?_) (fun c_4 => ?_)
            · have e := e.trans (if_neg c_4)
              refine lv_aload_n hx hb dX_turn_766 rfl (lv_at hl 0 rfl) ?_
              refine kb_callv (wf := mw h cZ) (u := F_X_command (F_X_others ((up (up (up (up (up q.1 12 (q.1 24)) 13 (q.1 24)) 14 (q.1 25)) 15 (q.1 25)) 23 ((q.1 23) ||| (q.1 28))), q.2)).2) (va_runV (As := []) (rest := []) ⟨hx, hb, hml, hown, hts⟩ (c_X_command l D h cZ _ (F_X_others ((up (up (up (up (up q.1 12 (q.1 24)) 13 (q.1 24)) 14 (q.1 25)) 15 (q.1 25)) 23 ((q.1 23) ||| (q.1 28))), q.2)).2 (by first | exact zs22 | (simp only [fun q a z => find_kp q a z (k := 22) (by decide), fun q => units_kp q (k := 22) (by decide), fun q => first_kp q (k := 22) (by decide), fun q => others_kp q (k := 22) (by decide)]; exact zs22))) (cwV 0 hts (gd_V q_839 q_841 q_31 q_40 q_842) rfl rfl rfl (by decide +kernel) ⟨Nat.le_of_ble_eq_true rfl, Nat.le_of_ble_eq_true rfl⟩) (kb_preV hN hK hP hD (va_recv hK hP (ci := 7) (q0 := 0) rfl rfl)) rfl rfl hl.1 rfl (lv_room (Nat.le_of_ble_eq_true rfl)) dX_turn_767 ⟨Nat.zero_le _, Nat.zero_le _⟩) hP hD hS hA (fun H locs hP hD hS => ?_)
              refine lv_iconst (v := 1) hx hb dX_turn_770 (by decide) ?_
              exact kb_zret (wf := mw h cZ) hx hb hr hlocks rfl hK hP hD hS ⟨(congrArg Prod.fst e).symm, (congrArg Prod.snd e).symm⟩ dX_turn_771
            · have e := e.trans (if_pos c_4)
              refine lv_iconst (v := 0) hx hb dX_turn_764 (by decide) ?_
              exact kb_zret (wf := mw h cZ) hx hb hr hlocks rfl hK hP hD hS ⟨(congrArg Prod.fst e).symm, (congrArg Prod.snd e).symm⟩ dX_turn_765
          · have e := e.trans (if_neg c_3)
            refine lv_aload_n hx hb dX_turn_747 rfl (lv_at hl 0 rfl) ?_
            refine kb_calli (wf := mw h cZ) (r := (F_X_first ((up (up (up (up (up q.1 12 (q.1 24)) 13 (q.1 24)) 14 (q.1 25)) 15 (q.1 25)) 23 ((q.1 23) ||| (q.1 28))), q.2)).1) (u := (F_X_first ((up (up (up (up (up q.1 12 (q.1 24)) 13 (q.1 24)) 14 (q.1 25)) 15 (q.1 25)) 23 ((q.1 23) ||| (q.1 28))), q.2)).2) (va_runV (As := []) (rest := []) ⟨hx, hb, hml, hown, hts⟩ (c_X_first l D h cZ _ ((up (up (up (up (up q.1 12 (q.1 24)) 13 (q.1 24)) 14 (q.1 25)) 15 (q.1 25)) 23 ((q.1 23) ||| (q.1 28))), q.2)) (cwV 0 hts (gd_V q_827 q_829 q_28 q_40 q_830) rfl rfl rfl (by decide +kernel) ⟨Nat.le_of_ble_eq_true rfl, Nat.le_of_ble_eq_true rfl⟩) (kb_preV hN hK hP hD (va_recv hK hP (ci := 7) (q0 := 0) rfl rfl)) rfl rfl hl.1 rfl (lv_room (Nat.le_of_ble_eq_true rfl)) dX_turn_748 ⟨Nat.zero_le _, Nat.zero_le _⟩) hP hD hS hA (fun H locs hP hD hS => ?_)
            refine lv_if_ne (tgt := 766) hx hb dX_turn_751 (by decide) (fun c_5 => ?_) (fun c_5 => ?_)
            · have e := e.trans (if_neg c_5)
              refine lv_aload_n hx hb dX_turn_766 rfl (lv_at hl 0 rfl) ?_
              refine kb_callv (wf := mw h cZ) (u := F_X_command (F_X_first ((up (up (up (up (up q.1 12 (q.1 24)) 13 (q.1 24)) 14 (q.1 25)) 15 (q.1 25)) 23 ((q.1 23) ||| (q.1 28))), q.2)).2) (va_runV (As := []) (rest := []) ⟨hx, hb, hml, hown, hts⟩ (c_X_command l D h cZ _ (F_X_first ((up (up (up (up (up q.1 12 (q.1 24)) 13 (q.1 24)) 14 (q.1 25)) 15 (q.1 25)) 23 ((q.1 23) ||| (q.1 28))), q.2)).2 (by first | exact zs22 | (simp only [fun q a z => find_kp q a z (k := 22) (by decide), fun q => units_kp q (k := 22) (by decide), fun q => first_kp q (k := 22) (by decide), fun q => others_kp q (k := 22) (by decide)]; exact zs22))) (cwV 0 hts (gd_V q_839 q_841 q_31 q_40 q_842) rfl rfl rfl (by decide +kernel) ⟨Nat.le_of_ble_eq_true rfl, Nat.le_of_ble_eq_true rfl⟩) (kb_preV hN hK hP hD (va_recv hK hP (ci := 7) (q0 := 0) rfl rfl)) rfl rfl hl.1 rfl (lv_room (Nat.le_of_ble_eq_true rfl)) dX_turn_767 ⟨Nat.zero_le _, Nat.zero_le _⟩) hP hD hS hA (fun H locs hP hD hS => ?_)
              refine lv_iconst (v := 1) hx hb dX_turn_770 (by decide) ?_
              exact kb_zret (wf := mw h cZ) hx hb hr hlocks rfl hK hP hD hS ⟨(congrArg Prod.fst e).symm, (congrArg Prod.snd e).symm⟩ dX_turn_771
            · have e := e.trans (if_pos c_5)
              refine lv_goto (tgt := 764) hx hb dX_turn_754 (by decide) ?_
              refine lv_iconst (v := 0) hx hb dX_turn_764 (by decide) ?_
              exact kb_zret (wf := mw h cZ) hx hb hr hlocks rfl hK hP hD hS ⟨(congrArg Prod.fst e).symm, (congrArg Prod.snd e).symm⟩ dX_turn_765
        · have e := e.trans (if_neg c_2)
          refine lv_iload_n hx hb dX_turn_697 rfl (lv_at hl 1 rfl) ?_
          refine lv_goto (tgt := 705) hx hb dX_turn_698 (by decide) ?_
          refine kb_put (D := D) (wf := mw h cZ) (w' := ((up (up (up q.1 12 (q.1 24)) 13 (q.1 24)) 14 x1), q.2)) (ci := 7) (v := .int x1) (ty := .int) (C := "BoilerDeskModel") (T := TX) (N := 43) hx hb hts inX tyX tyX_ok nmX hown hK hP hD hS 0 rfl rfl 14 (by decide) (hts _ q_657) (fun _ h9 => h9) rfl (by decide +kernel) rfl rfl (Nat.le_of_ble_eq_true rfl) dX_turn_705 rfl (fun H locs hP hD hS => ?_)
          refine lv_aload_n hx hb dX_turn_708 rfl (lv_at hl 0 rfl) ?_
          refine lv_aload_n hx hb dX_turn_709 rfl (lv_at hl 0 rfl) ?_
          refine va_get (D := D) (ci := 7) (v := .ref (h 1)) (C := "BoilerDeskModel") (T := TX) (N := 43) hx hb hts inX hown hK hP 0 rfl rfl 24 (by decide) (hts _ q_667) (fun _ h9 => h9) rfl dX_turn_710 ?_
          refine lv_iconst (v := 1) hx hb dX_turn_713 (by decide) ?_
          refine va_zald hx hb hK hP 1 0 rfl rfl (by unfold vp_in; decide) dX_turn_714 ?_
          refine lv_if_eq (tgt := 722) hx hb dX_turn_715 (by decide) (fun c9 => absurd c9 c_2) (fun _ => ?_)
          refine lv_iload_n hx hb dX_turn_718 rfl (lv_at hl 2 rfl) ?_
          refine lv_goto (tgt := 726) hx hb dX_turn_719 (by decide) ?_
          refine kb_put (D := D) (wf := mw h cZ) (w' := ((up (up (up (up q.1 12 (q.1 24)) 13 (q.1 24)) 14 x1) 15 x2), q.2)) (ci := 7) (v := .int x2) (ty := .int) (C := "BoilerDeskModel") (T := TX) (N := 43) hx hb hts inX tyX tyX_ok nmX hown hK hP hD hS 0 rfl rfl 15 (by decide) (hts _ q_658) (fun _ h9 => h9) rfl (by decide +kernel) rfl rfl (Nat.le_of_ble_eq_true rfl) dX_turn_726 rfl (fun H locs hP hD hS => ?_)
          refine lv_aload_n hx hb dX_turn_729 rfl (lv_at hl 0 rfl) ?_
          refine lv_dup hx hb dX_turn_730 rfl ?_
          refine va_get (D := D) (ci := 7) (v := .int (q.1 23)) (C := "BoilerDeskModel") (T := TX) (N := 43) hx hb hts inX hown hK hP 0 rfl rfl 23 (by decide) (hts _ q_666) (fun _ h9 => h9) rfl dX_turn_731 ?_
          refine lv_aload_n hx hb dX_turn_734 rfl (lv_at hl 0 rfl) ?_
          refine va_get (D := D) (ci := 7) (v := .int (q.1 28)) (C := "BoilerDeskModel") (T := TX) (N := 43) hx hb hts inX hown hK hP 0 rfl rfl 34 (by decide) (hts _ q_677) (fun _ h9 => h9) rfl dX_turn_735 ?_
          refine lv_ior hx hb dX_turn_738 ?_
          refine kb_put (D := D) (wf := mw h cZ) (w' := ((up (up (up (up (up q.1 12 (q.1 24)) 13 (q.1 24)) 14 x1) 15 x2) 23 ((q.1 23) ||| (q.1 28))), q.2)) (ci := 7) (v := .int ((q.1 23) ||| (q.1 28))) (ty := .boolean) (C := "BoilerDeskModel") (T := TX) (N := 43) hx hb hts inX tyX tyX_ok nmX hown hK hP hD hS 0 rfl rfl 23 (by decide) (hts _ q_666) (fun _ h9 => h9) rfl (by decide +kernel) (zb_n (zb_or zs23 zs28)) (zb_f (zb_or zs23 zs28)) (Nat.le_of_ble_eq_true rfl) dX_turn_739 rfl (fun H locs hP hD hS => ?_)
          refine lv_iload hx hb dX_turn_742 (lv_at hl 5 rfl) ?_
          refine lv_if_eq (tgt := 757) hx hb dX_turn_744 (by decide) (fun c_6 => ?_) (fun c_6 => ?_)
          · have e := e.trans (if_pos c_6)
            refine lv_aload_n hx hb dX_turn_757 rfl (lv_at hl 0 rfl) ?_
            refine kb_calli (wf := mw h cZ) (r := (F_X_others ((up (up (up (up (up q.1 12 (q.1 24)) 13 (q.1 24)) 14 x1) 15 x2) 23 ((q.1 23) ||| (q.1 28))), q.2)).1) (u := (F_X_others ((up (up (up (up (up q.1 12 (q.1 24)) 13 (q.1 24)) 14 x1) 15 x2) 23 ((q.1 23) ||| (q.1 28))), q.2)).2) (va_runV (As := []) (rest := []) ⟨hx, hb, hml, hown, hts⟩ (c_X_others l D h cZ _ ((up (up (up (up (up q.1 12 (q.1 24)) 13 (q.1 24)) 14 x1) 15 x2) 23 ((q.1 23) ||| (q.1 28))), q.2)) (cwV 0 hts (gd_V q_835 q_837 q_30 q_40 q_838) rfl rfl rfl (by decide +kernel) ⟨Nat.le_of_ble_eq_true rfl, Nat.le_of_ble_eq_true rfl⟩) (kb_preV hN hK hP hD (va_recv hK hP (ci := 7) (q0 := 0) rfl rfl)) rfl rfl hl.1 rfl (lv_room (Nat.le_of_ble_eq_true rfl)) dX_turn_758 ⟨Nat.zero_le _, Nat.zero_le _⟩) hP hD hS hA (fun H locs hP hD hS => ?_)
            refine lv_if_ne (tgt := 766) hx hb dX_turn_761 (by decide) (fun c_7 => ?_) (fun c_7 => ?_)
            · have e := e.trans (if_neg c_7)
              refine lv_aload_n hx hb dX_turn_766 rfl (lv_at hl 0 rfl) ?_
              refine kb_callv (wf := mw h cZ) (u := F_X_command (F_X_others ((up (up (up (up (up q.1 12 (q.1 24)) 13 (q.1 24)) 14 x1) 15 x2) 23 ((q.1 23) ||| (q.1 28))), q.2)).2) (va_runV (As := []) (rest := []) ⟨hx, hb, hml, hown, hts⟩ (c_X_command l D h cZ _ (F_X_others ((up (up (up (up (up q.1 12 (q.1 24)) 13 (q.1 24)) 14 x1) 15 x2) 23 ((q.1 23) ||| (q.1 28))), q.2)).2 (by first | exact zs22 | (simp only [fun q a z => find_kp q a z (k := 22) (by decide), fun q => units_kp q (k := 22) (by decide), fun q => first_kp q (k := 22) (by decide), fun q => others_kp q (k := 22) (by decide)]; exact zs22))) (cwV 0 hts (gd_V q_839 q_841 q_31 q_40 q_842) rfl rfl rfl (by decide +kernel) ⟨Nat.le_of_ble_eq_true rfl, Nat.le_of_ble_eq_true rfl⟩) (kb_preV hN hK hP hD (va_recv hK hP (ci := 7) (q0 := 0) rfl rfl)) rfl rfl hl.1 rfl (lv_room (Nat.le_of_ble_eq_true rfl)) dX_turn_767 ⟨Nat.zero_le _, Nat.zero_le _⟩) hP hD hS hA (fun H locs hP hD hS => ?_)
              refine lv_iconst (v := 1) hx hb dX_turn_770 (by decide) ?_
              exact kb_zret (wf := mw h cZ) hx hb hr hlocks rfl hK hP hD hS ⟨(congrArg Prod.fst e).symm, (congrArg Prod.snd e).symm⟩ dX_turn_771
            · have e := e.trans (if_pos c_7)
              refine lv_iconst (v := 0) hx hb dX_turn_764 (by decide) ?_
              exact kb_zret (wf := mw h cZ) hx hb hr hlocks rfl hK hP hD hS ⟨(congrArg Prod.fst e).symm, (congrArg Prod.snd e).symm⟩ dX_turn_765
          · have e := e.trans (if_neg c_6)
            refine lv_aload_n hx hb dX_turn_747 rfl (lv_at hl 0 rfl) ?_
            refine kb_calli (wf := mw h cZ) (r := (F_X_first ((up (up (up (up (up q.1 12 (q.1 24)) 13 (q.1 24)) 14 x1) 15 x2) 23 ((q.1 23) ||| (q.1 28))), q.2)).1) (u := (F_X_first ((up (up (up (up (up q.1 12 (q.1 24)) 13 (q.1 24)) 14 x1) 15 x2) 23 ((q.1 23) ||| (q.1 28))), q.2)).2) (va_runV (As := []) (rest := []) ⟨hx, hb, hml, hown, hts⟩ (c_X_first l D h cZ _ ((up (up (up (up (up q.1 12 (q.1 24)) 13 (q.1 24)) 14 x1) 15 x2) 23 ((q.1 23) ||| (q.1 28))), q.2)) (cwV 0 hts (gd_V q_827 q_829 q_28 q_40 q_830) rfl rfl rfl (by decide +kernel) ⟨Nat.le_of_ble_eq_true rfl, Nat.le_of_ble_eq_true rfl⟩) (kb_preV hN hK hP hD (va_recv hK hP (ci := 7) (q0 := 0) rfl rfl)) rfl rfl hl.1 rfl (lv_room (Nat.le_of_ble_eq_true rfl)) dX_turn_748 ⟨Nat.zero_le _, Nat.zero_le _⟩) hP hD hS hA (fun H locs hP hD hS => ?_)
            refine lv_if_ne (tgt := 766) hx hb dX_turn_751 (by decide) (fun c_8 => ?_) (fun c_8 => ?_)
            · have e := e.trans (if_neg c_8)
              refine lv_aload_n hx hb dX_turn_766 rfl (lv_at hl 0 rfl) ?_
              refine kb_callv (wf := mw h cZ) (u := F_X_command (F_X_first ((up (up (up (up (up q.1 12 (q.1 24)) 13 (q.1 24)) 14 x1) 15 x2) 23 ((q.1 23) ||| (q.1 28))), q.2)).2) (va_runV (As := []) (rest := []) ⟨hx, hb, hml, hown, hts⟩ (c_X_command l D h cZ _ (F_X_first ((up (up (up (up (up q.1 12 (q.1 24)) 13 (q.1 24)) 14 x1) 15 x2) 23 ((q.1 23) ||| (q.1 28))), q.2)).2 (by first | exact zs22 | (simp only [fun q a z => find_kp q a z (k := 22) (by decide), fun q => units_kp q (k := 22) (by decide), fun q => first_kp q (k := 22) (by decide), fun q => others_kp q (k := 22) (by decide)]; exact zs22))) (cwV 0 hts (gd_V q_839 q_841 q_31 q_40 q_842) rfl rfl rfl (by decide +kernel) ⟨Nat.le_of_ble_eq_true rfl, Nat.le_of_ble_eq_true rfl⟩) (kb_preV hN hK hP hD (va_recv hK hP (ci := 7) (q0 := 0) rfl rfl)) rfl rfl hl.1 rfl (lv_room (Nat.le_of_ble_eq_true rfl)) dX_turn_767 ⟨Nat.zero_le _, Nat.zero_le _⟩) hP hD hS hA (fun H locs hP hD hS => ?_)
              refine lv_iconst (v := 1) hx hb dX_turn_770 (by decide) ?_
              exact kb_zret (wf := mw h cZ) hx hb hr hlocks rfl hK hP hD hS ⟨(congrArg Prod.fst e).symm, (congrArg Prod.snd e).symm⟩ dX_turn_771
            · have e := e.trans (if_pos c_8)
              refine lv_goto (tgt := 764) hx hb dX_turn_754 (by decide) ?_
              refine lv_iconst (v := 0) hx hb dX_turn_764 (by decide) ?_
              exact kb_zret (wf := mw h cZ) hx hb hr hlocks rfl hK hP hD hS ⟨(congrArg Prod.fst e).symm, (congrArg Prod.snd e).symm⟩ dX_turn_765
      · have e := e.trans (if_neg c_1)
        refine lv_iload_n hx hb dX_turn_654 rfl (lv_at hl 3 rfl) ?_
        refine lv_goto (tgt := 662) hx hb dX_turn_655 (by decide) ?_
        refine kb_put (D := D) (wf := mw h cZ) (w' := ((up q.1 12 x3), q.2)) (ci := 7) (v := .int x3) (ty := .int) (C := "BoilerDeskModel") (T := TX) (N := 43) hx hb hts inX tyX tyX_ok nmX hown hK hP hD hS 0 rfl rfl 12 (by decide) (hts _ q_655) (fun _ h9 => h9) rfl (by decide +kernel) rfl rfl (Nat.le_of_ble_eq_true rfl) dX_turn_662 rfl (fun H locs hP hD hS => ?_)
        refine lv_aload_n hx hb dX_turn_665 rfl (lv_at hl 0 rfl) ?_
        refine lv_aload_n hx hb dX_turn_666 rfl (lv_at hl 0 rfl) ?_
        refine va_get (D := D) (ci := 7) (v := .ref (h 1)) (C := "BoilerDeskModel") (T := TX) (N := 43) hx hb hts inX hown hK hP 0 rfl rfl 24 (by decide) (hts _ q_667) (fun _ h9 => h9) rfl dX_turn_667 ?_
        refine lv_iconst (v := 0) hx hb dX_turn_670 (by decide) ?_
        refine va_zald hx hb hK hP 1 0 rfl rfl (by unfold vp_in; decide) dX_turn_671 ?_
        refine lv_if_eq (tgt := 680) hx hb dX_turn_672 (by decide) (fun c9 => absurd c9 c_1) (fun _ => ?_)
        refine lv_iload hx hb dX_turn_675 (lv_at hl 4 rfl) ?_
        refine lv_goto (tgt := 684) hx hb dX_turn_677 (by decide) ?_
        refine kb_put (D := D) (wf := mw h cZ) (w' := ((up (up q.1 12 x3) 13 x4), q.2)) (ci := 7) (v := .int x4) (ty := .int) (C := "BoilerDeskModel") (T := TX) (N := 43) hx hb hts inX tyX tyX_ok nmX hown hK hP hD hS 0 rfl rfl 13 (by decide) (hts _ q_656) (fun _ h9 => h9) rfl (by decide +kernel) rfl rfl (Nat.le_of_ble_eq_true rfl) dX_turn_684 rfl (fun H locs hP hD hS => ?_)
        refine lv_aload_n hx hb dX_turn_687 rfl (lv_at hl 0 rfl) ?_
        refine lv_aload_n hx hb dX_turn_688 rfl (lv_at hl 0 rfl) ?_
        refine va_get (D := D) (ci := 7) (v := .ref (h 1)) (C := "BoilerDeskModel") (T := TX) (N := 43) hx hb hts inX hown hK hP 0 rfl rfl 24 (by decide) (hts _ q_667) (fun _ h9 => h9) rfl dX_turn_689 ?_
        refine lv_iconst (v := 1) hx hb dX_turn_692 (by decide) ?_
        refine va_zald hx hb hK hP 1 0 rfl rfl (by unfold vp_in; decide) dX_turn_693 ?_
        refine lv_if_eq (tgt := 701) hx hb dX_turn_694 (by decide) (fun c_9 => ?_) (fun c_9 => ?_)
        · have e := e.trans (if_pos c_9)
          refine lv_aload_n hx hb dX_turn_701 rfl (lv_at hl 0 rfl) ?_
          refine va_get (D := D) (ci := 7) (v := .int (q.1 25)) (C := "BoilerDeskModel") (T := TX) (N := 43) hx hb hts inX hown hK hP 0 rfl rfl 31 (by decide) (hts _ q_674) (fun _ h9 => h9) rfl dX_turn_702 ?_
          refine kb_put (D := D) (wf := mw h cZ) (w' := ((up (up (up q.1 12 x3) 13 x4) 14 (q.1 25)), q.2)) (ci := 7) (v := .int (q.1 25)) (ty := .int) (C := "BoilerDeskModel") (T := TX) (N := 43) hx hb hts inX tyX tyX_ok nmX hown hK hP hD hS 0 rfl rfl 14 (by decide) (hts _ q_657) (fun _ h9 => h9) rfl (by decide +kernel) rfl rfl (Nat.le_of_ble_eq_true rfl) dX_turn_705 rfl (fun H locs hP hD hS => ?_)
          refine lv_aload_n hx hb dX_turn_708 rfl (lv_at hl 0 rfl) ?_
          refine lv_aload_n hx hb dX_turn_709 rfl (lv_at hl 0 rfl) ?_
          refine va_get (D := D) (ci := 7) (v := .ref (h 1)) (C := "BoilerDeskModel") (T := TX) (N := 43) hx hb hts inX hown hK hP 0 rfl rfl 24 (by decide) (hts _ q_667) (fun _ h9 => h9) rfl dX_turn_710 ?_
          refine lv_iconst (v := 1) hx hb dX_turn_713 (by decide) ?_
          refine va_zald hx hb hK hP 1 0 rfl rfl (by unfold vp_in; decide) dX_turn_714 ?_
          refine lv_if_eq (tgt := 722) hx hb dX_turn_715 (by decide) (fun _ => ?_) (fun c9 => absurd c_9 c9)
          refine lv_aload_n hx hb dX_turn_722 rfl (lv_at hl 0 rfl) ?_
          refine va_get (D := D) (ci := 7) (v := .int (q.1 25)) (C := "BoilerDeskModel") (T := TX) (N := 43) hx hb hts inX hown hK hP 0 rfl rfl 31 (by decide) (hts _ q_674) (fun _ h9 => h9) rfl dX_turn_723 ?_
          refine kb_put (D := D) (wf := mw h cZ) (w' := ((up (up (up (up q.1 12 x3) 13 x4) 14 (q.1 25)) 15 (q.1 25)), q.2)) (ci := 7) (v := .int (q.1 25)) (ty := .int) (C := "BoilerDeskModel") (T := TX) (N := 43) hx hb hts inX tyX tyX_ok nmX hown hK hP hD hS 0 rfl rfl 15 (by decide) (hts _ q_658) (fun _ h9 => h9) rfl (by decide +kernel) rfl rfl (Nat.le_of_ble_eq_true rfl) dX_turn_726 rfl (fun H locs hP hD hS => ?_)
          refine lv_aload_n hx hb dX_turn_729 rfl (lv_at hl 0 rfl) ?_
          refine lv_dup hx hb dX_turn_730 rfl ?_
          refine va_get (D := D) (ci := 7) (v := .int (q.1 23)) (C := "BoilerDeskModel") (T := TX) (N := 43) hx hb hts inX hown hK hP 0 rfl rfl 23 (by decide) (hts _ q_666) (fun _ h9 => h9) rfl dX_turn_731 ?_
          refine lv_aload_n hx hb dX_turn_734 rfl (lv_at hl 0 rfl) ?_
          refine va_get (D := D) (ci := 7) (v := .int (q.1 28)) (C := "BoilerDeskModel") (T := TX) (N := 43) hx hb hts inX hown hK hP 0 rfl rfl 34 (by decide) (hts _ q_677) (fun _ h9 => h9) rfl dX_turn_735 ?_
          refine lv_ior hx hb dX_turn_738 ?_
          refine kb_put (D := D) (wf := mw h cZ) (w' := ((up (up (up (up (up q.1 12 x3) 13 x4) 14 (q.1 25)) 15 (q.1 25)) 23 ((q.1 23) ||| (q.1 28))), q.2)) (ci := 7) (v := .int ((q.1 23) ||| (q.1 28))) (ty := .boolean) (C := "BoilerDeskModel") (T := TX) (N := 43) hx hb hts inX tyX tyX_ok nmX hown hK hP hD hS 0 rfl rfl 23 (by decide) (hts _ q_666) (fun _ h9 => h9) rfl (by decide +kernel) (zb_n (zb_or zs23 zs28)) (zb_f (zb_or zs23 zs28)) (Nat.le_of_ble_eq_true rfl) dX_turn_739 rfl (fun H locs hP hD hS => ?_)
          refine lv_iload hx hb dX_turn_742 (lv_at hl 5 rfl) ?_
          refine lv_if_eq (tgt := 757) hx hb dX_turn_744 (by decide) (fun c_10 => ?_) (fun c_10 => ?_)
          · have e := e.trans (if_pos c_10)
            refine lv_aload_n hx hb dX_turn_757 rfl (lv_at hl 0 rfl) ?_
            refine kb_calli (wf := mw h cZ) (r := (F_X_others ((up (up (up (up (up q.1 12 x3) 13 x4) 14 (q.1 25)) 15 (q.1 25)) 23 ((q.1 23) ||| (q.1 28))), q.2)).1) (u := (F_X_others ((up (up (up (up (up q.1 12 x3) 13 x4) 14 (q.1 25)) 15 (q.1 25)) 23 ((q.1 23) ||| (q.1 28))), q.2)).2) (va_runV (As := []) (rest := []) ⟨hx, hb, hml, hown, hts⟩ (c_X_others l D h cZ _ ((up (up (up (up (up q.1 12 x3) 13 x4) 14 (q.1 25)) 15 (q.1 25)) 23 ((q.1 23) ||| (q.1 28))), q.2)) (cwV 0 hts (gd_V q_835 q_837 q_30 q_40 q_838) rfl rfl rfl (by decide +kernel) ⟨Nat.le_of_ble_eq_true rfl, Nat.le_of_ble_eq_true rfl⟩) (kb_preV hN hK hP hD (va_recv hK hP (ci := 7) (q0 := 0) rfl rfl)) rfl rfl hl.1 rfl (lv_room (Nat.le_of_ble_eq_true rfl)) dX_turn_758 ⟨Nat.zero_le _, Nat.zero_le _⟩) hP hD hS hA (fun H locs hP hD hS => ?_)
            refine lv_if_ne (tgt := 766) hx hb dX_turn_761 (by decide) (fun c_11 => ?_) (fun c_11 => ?_)
            · have e := e.trans (if_neg c_11)
              refine lv_aload_n hx hb dX_turn_766 rfl (lv_at hl 0 rfl) ?_
              refine kb_callv (wf := mw h cZ) (u := F_X_command (F_X_others ((up (up (up (up (up q.1 12 x3) 13 x4) 14 (q.1 25)) 15 (q.1 25)) 23 ((q.1 23) ||| (q.1 28))), q.2)).2) (va_runV (As := []) (rest := []) ⟨hx, hb, hml, hown, hts⟩ (c_X_command l D h cZ _ (F_X_others ((up (up (up (up (up q.1 12 x3) 13 x4) 14 (q.1 25)) 15 (q.1 25)) 23 ((q.1 23) ||| (q.1 28))), q.2)).2 (by first | exact zs22 | (simp only [fun q a z => find_kp q a z (k := 22) (by decide), fun q => units_kp q (k := 22) (by decide), fun q => first_kp q (k := 22) (by decide), fun q => others_kp q (k := 22) (by decide)]; exact zs22))) (cwV 0 hts (gd_V q_839 q_841 q_31 q_40 q_842) rfl rfl rfl (by decide +kernel) ⟨Nat.le_of_ble_eq_true rfl, Nat.le_of_ble_eq_true rfl⟩) (kb_preV hN hK hP hD (va_recv hK hP (ci := 7) (q0 := 0) rfl rfl)) rfl rfl hl.1 rfl (lv_room (Nat.le_of_ble_eq_true rfl)) dX_turn_767 ⟨Nat.zero_le _, Nat.zero_le _⟩) hP hD hS hA (fun H locs hP hD hS => ?_)
              refine lv_iconst (v := 1) hx hb dX_turn_770 (by decide) ?_
              exact kb_zret (wf := mw h cZ) hx hb hr hlocks rfl hK hP hD hS ⟨(congrArg Prod.fst e).symm, (congrArg Prod.snd e).symm⟩ dX_turn_771
            · have e := e.trans (if_pos c_11)
              refine lv_iconst (v := 0) hx hb dX_turn_764 (by decide) ?_
              exact kb_zret (wf := mw h cZ) hx hb hr hlocks rfl hK hP hD hS ⟨(congrArg Prod.fst e).symm, (congrArg Prod.snd e).symm⟩ dX_turn_765
          · have e := e.trans (if_neg c_10)
            refine lv_aload_n hx hb dX_turn_747 rfl (lv_at hl 0 rfl) ?_
            refine kb_calli (wf := mw h cZ) (r := (F_X_first ((up (up (up (up (up q.1 12 x3) 13 x4) 14 (q.1 25)) 15 (q.1 25)) 23 ((q.1 23) ||| (q.1 28))), q.2)).1) (u := (F_X_first ((up (up (up (up (up q.1 12 x3) 13 x4) 14 (q.1 25)) 15 (q.1 25)) 23 ((q.1 23) ||| (q.1 28))), q.2)).2) (va_runV (As := []) (rest := []) ⟨hx, hb, hml, hown, hts⟩ (c_X_first l D h cZ _ ((up (up (up (up (up q.1 12 x3) 13 x4) 14 (q.1 25)) 15 (q.1 25)) 23 ((q.1 23) ||| (q.1 28))), q.2)) (cwV 0 hts (gd_V q_827 q_829 q_28 q_40 q_830) rfl rfl rfl (by decide +kernel) ⟨Nat.le_of_ble_eq_true rfl, Nat.le_of_ble_eq_true rfl⟩) (kb_preV hN hK hP hD (va_recv hK hP (ci := 7) (q0 := 0) rfl rfl)) rfl rfl hl.1 rfl (lv_room (Nat.le_of_ble_eq_true rfl)) dX_turn_748 ⟨Nat.zero_le _, Nat.zero_le _⟩) hP hD hS hA (fun H locs hP hD hS => ?_)
            refine lv_if_ne (tgt := 766) hx hb dX_turn_751 (by decide) (fun c_12 => ?_) (fun c_12 => ?_)
            · have e := e.trans (if_neg c_12)
              refine lv_aload_n hx hb dX_turn_766 rfl (lv_at hl 0 rfl) ?_
              refine kb_callv (wf := mw h cZ) (u := F_X_command (F_X_first ((up (up (up (up (up q.1 12 x3) 13 x4) 14 (q.1 25)) 15 (q.1 25)) 23 ((q.1 23) ||| (q.1 28))), q.2)).2) (va_runV (As := []) (rest := []) ⟨hx, hb, hml, hown, hts⟩ (c_X_command l D h cZ _ (F_X_first ((up (up (up (up (up q.1 12 x3) 13 x4) 14 (q.1 25)) 15 (q.1 25)) 23 ((q.1 23) ||| (q.1 28))), q.2)).2 (by first | exact zs22 | (simp only [fun q a z => find_kp q a z (k := 22) (by decide), fun q => units_kp q (k := 22) (by decide), fun q => first_kp q (k := 22) (by decide), fun q => others_kp q (k := 22) (by decide)]; exact zs22))) (cwV 0 hts (gd_V q_839 q_841 q_31 q_40 q_842) rfl rfl rfl (by decide +kernel) ⟨Nat.le_of_ble_eq_true rfl, Nat.le_of_ble_eq_true rfl⟩) (kb_preV hN hK hP hD (va_recv hK hP (ci := 7) (q0 := 0) rfl rfl)) rfl rfl hl.1 rfl (lv_room (Nat.le_of_ble_eq_true rfl)) dX_turn_767 ⟨Nat.zero_le _, Nat.zero_le _⟩) hP hD hS hA (fun H locs hP hD hS => ?_)
              refine lv_iconst (v := 1) hx hb dX_turn_770 (by decide) ?_
              exact kb_zret (wf := mw h cZ) hx hb hr hlocks rfl hK hP hD hS ⟨(congrArg Prod.fst e).symm, (congrArg Prod.snd e).symm⟩ dX_turn_771
            · have e := e.trans (if_pos c_12)
              refine lv_goto (tgt := 764) hx hb dX_turn_754 (by decide) ?_
              refine lv_iconst (v := 0) hx hb dX_turn_764 (by decide) ?_
              exact kb_zret (wf := mw h cZ) hx hb hr hlocks rfl hK hP hD hS ⟨(congrArg Prod.fst e).symm, (congrArg Prod.snd e).symm⟩ dX_turn_765
        · have e := e.trans (if_neg c_9)
          refine lv_iload_n hx hb dX_turn_697 rfl (lv_at hl 1 rfl) ?_
          refine lv_goto (tgt := 705) hx hb dX_turn_698 (by decide) ?_
          refine kb_put (D := D) (wf := mw h cZ) (w' := ((up (up (up q.1 12 x3) 13 x4) 14 x1), q.2)) (ci := 7) (v := .int x1) (ty := .int) (C := "BoilerDeskModel") (T := TX) (N := 43) hx hb hts inX tyX tyX_ok nmX hown hK hP hD hS 0 rfl rfl 14 (by decide) (hts _ q_657) (fun _ h9 => h9) rfl (by decide +kernel) rfl rfl (Nat.le_of_ble_eq_true rfl) dX_turn_705 rfl (fun H locs hP hD hS => ?_)
          refine lv_aload_n hx hb dX_turn_708 rfl (lv_at hl 0 rfl) ?_
          refine lv_aload_n hx hb dX_turn_709 rfl (lv_at hl 0 rfl) ?_
          refine va_get (D := D) (ci := 7) (v := .ref (h 1)) (C := "BoilerDeskModel") (T := TX) (N := 43) hx hb hts inX hown hK hP 0 rfl rfl 24 (by decide) (hts _ q_667) (fun _ h9 => h9) rfl dX_turn_710 ?_
          refine lv_iconst (v := 1) hx hb dX_turn_713 (by decide) ?_
          refine va_zald hx hb hK hP 1 0 rfl rfl (by unfold vp_in; decide) dX_turn_714 ?_
          refine lv_if_eq (tgt := 722) hx hb dX_turn_715 (by decide) (fun c9 => absurd c9 c_9) (fun _ => ?_)
          refine lv_iload_n hx hb dX_turn_718 rfl (lv_at hl 2 rfl) ?_
          refine lv_goto (tgt := 726) hx hb dX_turn_719 (by decide) ?_
          refine kb_put (D := D) (wf := mw h cZ) (w' := ((up (up (up (up q.1 12 x3) 13 x4) 14 x1) 15 x2), q.2)) (ci := 7) (v := .int x2) (ty := .int) (C := "BoilerDeskModel") (T := TX) (N := 43) hx hb hts inX tyX tyX_ok nmX hown hK hP hD hS 0 rfl rfl 15 (by decide) (hts _ q_658) (fun _ h9 => h9) rfl (by decide +kernel) rfl rfl (Nat.le_of_ble_eq_true rfl) dX_turn_726 rfl (fun H locs hP hD hS => ?_)
          refine lv_aload_n hx hb dX_turn_729 rfl (lv_at hl 0 rfl) ?_
          refine lv_dup hx hb dX_turn_730 rfl ?_
          refine va_get (D := D) (ci := 7) (v := .int (q.1 23)) (C := "BoilerDeskModel") (T := TX) (N := 43) hx hb hts inX hown hK hP 0 rfl rfl 23 (by decide) (hts _ q_666) (fun _ h9 => h9) rfl dX_turn_731 ?_
          refine lv_aload_n hx hb dX_turn_734 rfl (lv_at hl 0 rfl) ?_
          refine va_get (D := D) (ci := 7) (v := .int (q.1 28)) (C := "BoilerDeskModel") (T := TX) (N := 43) hx hb hts inX hown hK hP 0 rfl rfl 34 (by decide) (hts _ q_677) (fun _ h9 => h9) rfl dX_turn_735 ?_
          refine lv_ior hx hb dX_turn_738 ?_
          refine kb_put (D := D) (wf := mw h cZ) (w' := ((up (up (up (up (up q.1 12 x3) 13 x4) 14 x1) 15 x2) 23 ((q.1 23) ||| (q.1 28))), q.2)) (ci := 7) (v := .int ((q.1 23) ||| (q.1 28))) (ty := .boolean) (C := "BoilerDeskModel") (T := TX) (N := 43) hx hb hts inX tyX tyX_ok nmX hown hK hP hD hS 0 rfl rfl 23 (by decide) (hts _ q_666) (fun _ h9 => h9) rfl (by decide +kernel) (zb_n (zb_or zs23 zs28)) (zb_f (zb_or zs23 zs28)) (Nat.le_of_ble_eq_true rfl) dX_turn_739 rfl (fun H locs hP hD hS => ?_)
          refine lv_iload hx hb dX_turn_742 (lv_at hl 5 rfl) ?_
          refine lv_if_eq (tgt := 757) hx hb dX_turn_744 (by decide) (fun c_13 => ?_) (fun c_13 => ?_)
          · have e := e.trans (if_pos c_13)
            refine lv_aload_n hx hb dX_turn_757 rfl (lv_at hl 0 rfl) ?_
            refine kb_calli (wf := mw h cZ) (r := (F_X_others ((up (up (up (up (up q.1 12 x3) 13 x4) 14 x1) 15 x2) 23 ((q.1 23) ||| (q.1 28))), q.2)).1) (u := (F_X_others ((up (up (up (up (up q.1 12 x3) 13 x4) 14 x1) 15 x2) 23 ((q.1 23) ||| (q.1 28))), q.2)).2) (va_runV (As := []) (rest := []) ⟨hx, hb, hml, hown, hts⟩ (c_X_others l D h cZ _ ((up (up (up (up (up q.1 12 x3) 13 x4) 14 x1) 15 x2) 23 ((q.1 23) ||| (q.1 28))), q.2)) (cwV 0 hts (gd_V q_835 q_837 q_30 q_40 q_838) rfl rfl rfl (by decide +kernel) ⟨Nat.le_of_ble_eq_true rfl, Nat.le_of_ble_eq_true rfl⟩) (kb_preV hN hK hP hD (va_recv hK hP (ci := 7) (q0 := 0) rfl rfl)) rfl rfl hl.1 rfl (lv_room (Nat.le_of_ble_eq_true rfl)) dX_turn_758 ⟨Nat.zero_le _, Nat.zero_le _⟩) hP hD hS hA (fun H locs hP hD hS => ?_)
            refine lv_if_ne (tgt := 766) hx hb dX_turn_761 (by decide) (fun c_14 => ?_) (fun c_14 => ?_)
            · have e := e.trans (if_neg c_14)
              refine lv_aload_n hx hb dX_turn_766 rfl (lv_at hl 0 rfl) ?_
              refine kb_callv (wf := mw h cZ) (u := F_X_command (F_X_others ((up (up (up (up (up q.1 12 x3) 13 x4) 14 x1) 15 x2) 23 ((q.1 23) ||| (q.1 28))), q.2)).2) (va_runV (As := []) (rest := []) ⟨hx, hb, hml, hown, hts⟩ (c_X_command l D h cZ _ (F_X_others ((up (up (up (up (up q.1 12 x3) 13 x4) 14 x1) 15 x2) 23 ((q.1 23) ||| (q.1 28))), q.2)).2 (by first | exact zs22 | (simp only [fun q a z => find_kp q a z (k := 22) (by decide), fun q => units_kp q (k := 22) (by decide), fun q => first_kp q (k := 22) (by decide), fun q => others_kp q (k := 22) (by decide)]; exact zs22))) (cwV 0 hts (gd_V q_839 q_841 q_31 q_40 q_842) rfl rfl rfl (by decide +kernel) ⟨Nat.le_of_ble_eq_true rfl, Nat.le_of_ble_eq_true rfl⟩) (kb_preV hN hK hP hD (va_recv hK hP (ci := 7) (q0 := 0) rfl rfl)) rfl rfl hl.1 rfl (lv_room (Nat.le_of_ble_eq_true rfl)) dX_turn_767 ⟨Nat.zero_le _, Nat.zero_le _⟩) hP hD hS hA (fun H locs hP hD hS => ?_)
              refine lv_iconst (v := 1) hx hb dX_turn_770 (by decide) ?_
              exact kb_zret (wf := mw h cZ) hx hb hr hlocks rfl hK hP hD hS ⟨(congrArg Prod.fst e).symm, (congrArg Prod.snd e).symm⟩ dX_turn_771
            · have e := e.trans (if_pos c_14)
              refine lv_iconst (v := 0) hx hb dX_turn_764 (by decide) ?_
              exact kb_zret (wf := mw h cZ) hx hb hr hlocks rfl hK hP hD hS ⟨(congrArg Prod.fst e).symm, (congrArg Prod.snd e).symm⟩ dX_turn_765
          · have e := e.trans (if_neg c_13)
            refine lv_aload_n hx hb dX_turn_747 rfl (lv_at hl 0 rfl) ?_
            refine kb_calli (wf := mw h cZ) (r := (F_X_first ((up (up (up (up (up q.1 12 x3) 13 x4) 14 x1) 15 x2) 23 ((q.1 23) ||| (q.1 28))), q.2)).1) (u := (F_X_first ((up (up (up (up (up q.1 12 x3) 13 x4) 14 x1) 15 x2) 23 ((q.1 23) ||| (q.1 28))), q.2)).2) (va_runV (As := []) (rest := []) ⟨hx, hb, hml, hown, hts⟩ (c_X_first l D h cZ _ ((up (up (up (up (up q.1 12 x3) 13 x4) 14 x1) 15 x2) 23 ((q.1 23) ||| (q.1 28))), q.2)) (cwV 0 hts (gd_V q_827 q_829 q_28 q_40 q_830) rfl rfl rfl (by decide +kernel) ⟨Nat.le_of_ble_eq_true rfl, Nat.le_of_ble_eq_true rfl⟩) (kb_preV hN hK hP hD (va_recv hK hP (ci := 7) (q0 := 0) rfl rfl)) rfl rfl hl.1 rfl (lv_room (Nat.le_of_ble_eq_true rfl)) dX_turn_748 ⟨Nat.zero_le _, Nat.zero_le _⟩) hP hD hS hA (fun H locs hP hD hS => ?_)
            refine lv_if_ne (tgt := 766) hx hb dX_turn_751 (by decide) (fun c_15 => ?_) (fun c_15 => ?_)
            · have e := e.trans (if_neg c_15)
              refine lv_aload_n hx hb dX_turn_766 rfl (lv_at hl 0 rfl) ?_
              refine kb_callv (wf := mw h cZ) (u := F_X_command (F_X_first ((up (up (up (up (up q.1 12 x3) 13 x4) 14 x1) 15 x2) 23 ((q.1 23) ||| (q.1 28))), q.2)).2) (va_runV (As := []) (rest := []) ⟨hx, hb, hml, hown, hts⟩ (c_X_command l D h cZ _ (F_X_first ((up (up (up (up (up q.1 12 x3) 13 x4) 14 x1) 15 x2) 23 ((q.1 23) ||| (q.1 28))), q.2)).2 (by first | exact zs22 | (simp only [fun q a z => find_kp q a z (k := 22) (by decide), fun q => units_kp q (k := 22) (by decide), fun q => first_kp q (k := 22) (by decide), fun q => others_kp q (k := 22) (by decide)]; exact zs22))) (cwV 0 hts (gd_V q_839 q_841 q_31 q_40 q_842) rfl rfl rfl (by decide +kernel) ⟨Nat.le_of_ble_eq_true rfl, Nat.le_of_ble_eq_true rfl⟩) (kb_preV hN hK hP hD (va_recv hK hP (ci := 7) (q0 := 0) rfl rfl)) rfl rfl hl.1 rfl (lv_room (Nat.le_of_ble_eq_true rfl)) dX_turn_767 ⟨Nat.zero_le _, Nat.zero_le _⟩) hP hD hS hA (fun H locs hP hD hS => ?_)
              refine lv_iconst (v := 1) hx hb dX_turn_770 (by decide) ?_
              exact kb_zret (wf := mw h cZ) hx hb hr hlocks rfl hK hP hD hS ⟨(congrArg Prod.fst e).symm, (congrArg Prod.snd e).symm⟩ dX_turn_771
            · have e := e.trans (if_pos c_15)
              refine lv_goto (tgt := 764) hx hb dX_turn_754 (by decide) ?_
              refine lv_iconst (v := 0) hx hb dX_turn_764 (by decide) ?_
              exact kb_zret (wf := mw h cZ) hx hb hr hlocks rfl hK hP hD hS ⟨(congrArg Prod.fst e).symm, (congrArg Prod.snd e).symm⟩ dX_turn_765
    | succ n ih =>
      intro i q x1 x2 x3 x4 x5 H locs ls hin zs23 zs28 zs22 e hP hD hS hl
      refine lv_iload hx hb dX_turn_558 (lv_at hl 6 rfl) ?_
      refine lv_iconst (v := 4) hx hb dX_turn_560 (by decide) ?_
      refine lv_icmp_ge (tgt := 644) hx hb dX_turn_561 (by decide) (fun c9 => absurd c9 (nI_ge (b := 4) (by omega) (by decide))) (fun _ => ?_)
      refine lv_aload_n hx hb dX_turn_564 rfl (lv_at hl 0 rfl) ?_
      refine va_get (D := D) (ci := 7) (v := .ref (h 1)) (C := "BoilerDeskModel") (T := TX) (N := 43) hx hb hts inX hown hK hP 0 rfl rfl 24 (by decide) (hts _ q_667) (fun _ h9 => h9) rfl dX_turn_565 ?_
      refine lv_iconst (v := 2) hx hb dX_turn_568 (by decide) ?_
      refine lv_iload hx hb dX_turn_569 (lv_at hl 6 rfl) ?_
      refine lv_iadd hx hb dX_turn_571 ?_
      refine va_zald hx hb hK hP 1 0 rfl rfl (by rw [show (2 : Int32) + nI i = nI (2 + i) from nI_add 2 i]; exact vp_in_nI (by omega) (by decide)) dX_turn_572 ?_
      refine lv_if_ne (tgt := 638) hx hb dX_turn_573 (by decide) (fun c_16 => ?_) (fun c_16 => ?_)
      · have e := e.trans (if_neg c_16)
        refine lv_iinc (v := (nI (i + 1))) (lv' := [(6, .int (nI (i + 1))), (0, .ref (h 0)), (1, .int x1), (2, .int x2), (3, .int x3), (4, .int x4), (5, .int x5)]) hx hb dX_turn_638 hl (k := 6) rfl (nI_1 i) (by decide) rfl (fun ls hl => ?_)
        refine lv_goto (tgt := 558) hx hb dX_turn_641 (by decide) ?_
        exact ih (i + 1) q x1 x2 x3 x4 x5 _ _ _ (by omega) zs23 zs28 zs22 e hP hD hS (lv_sub hl [1, 2, 3, 4, 5, 6, 0] rfl)
      · have e := e.trans (if_pos c_16)
        refine lv_aload_n hx hb dX_turn_576 rfl (lv_at hl 0 rfl) ?_
        refine lv_bipush (v := 6) hx hb dX_turn_577 (by decide) ?_
        refine lv_iload hx hb dX_turn_579 (lv_at hl 6 rfl) ?_
        refine lv_iadd hx hb dX_turn_581 ?_
        refine lv_aload_n hx hb dX_turn_582 rfl (lv_at hl 0 rfl) ?_
        refine va_get (D := D) (ci := 7) (v := .ref (h 9)) (C := "BoilerDeskModel") (T := TX) (N := 43) hx hb hts inX hown hK hP 0 rfl rfl 39 (by decide) (hts _ q_682) (fun _ h9 => h9) rfl dX_turn_583 ?_
        refine lv_iload hx hb dX_turn_586 (lv_at hl 6 rfl) ?_
        refine va_zald hx hb hK hP 9 0 rfl rfl (vp_in_nI (by omega) (by decide)) dX_turn_588 ?_
        refine lv_if_eq (tgt := 610) hx hb dX_turn_589 (by decide) (fun c_17 => ?_) (fun c_17 => ?_)
        · have e := e.trans (if_pos c_17)
          refine lv_aload_n hx hb dX_turn_610 rfl (lv_at hl 0 rfl) ?_
          refine va_get (D := D) (ci := 7) (v := .ref (h 4)) (C := "BoilerDeskModel") (T := TX) (N := 43) hx hb hts inX hown hK hP 0 rfl rfl 27 (by decide) (hts _ q_670) (fun _ h9 => h9) rfl dX_turn_611 ?_
          refine lv_iload hx hb dX_turn_614 (lv_at hl 6 rfl) ?_
          refine va_zald hx hb hK hP 4 0 rfl rfl (vp_in_nI (by omega) (by decide)) dX_turn_616 ?_
          refine lv_if_eq (tgt := 634) hx hb dX_turn_617 (by decide) (fun c_18 => ?_) (fun c_18 => ?_)
          · have e := e.trans (if_pos c_18)
            refine lv_iconst (v := 0) hx hb dX_turn_634 (by decide) ?_
            refine kb_callv (wf := mw h cZ) (u := F_X_find q ((6 : Int32) + (nI i)) (0 : Int32)) (va_runV (As := [.int ((6 : Int32) + (nI i)), .int 0]) (rest := []) ⟨hx, hb, hml, hown, hts⟩ (c_X_find l D h cZ _ q ((6 : Int32) + (nI i)) (0 : Int32) (by rw [show (6 : Int32) + nI i = nI (6 + i) from nI_add 6 i]; exact vp_in_nI (by omega) (by decide)) (by decide)) (cwV 2 hts (gd_V q_823 q_825 q_27 q_40 q_826) rfl rfl rfl (by decide +kernel) ⟨Nat.le_of_ble_eq_true rfl, Nat.le_of_ble_eq_true rfl⟩) (kb_preV hN hK hP hD (va_recv hK hP (ci := 7) (q0 := 0) rfl rfl)) rfl rfl hl.1 rfl (lv_room (Nat.le_of_ble_eq_true rfl)) dX_turn_635 ⟨Nat.zero_le _, Nat.zero_le _⟩) hP hD hS hA (fun H locs hP hD hS => ?_)
            refine lv_iinc (v := (nI (i + 1))) (lv' := [(6, .int (nI (i + 1))), (0, .ref (h 0)), (1, .int x1), (2, .int x2), (3, .int x3), (4, .int x4), (5, .int x5)]) hx hb dX_turn_638 hl (k := 6) rfl (nI_1 i) (by decide) rfl (fun ls hl => ?_)
            refine lv_goto (tgt := 558) hx hb dX_turn_641 (by decide) ?_
            exact ih (i + 1) (F_X_find q ((6 : Int32) + (nI i)) (0 : Int32)) x1 x2 x3 x4 x5 _ _ _ (by omega) (by first | exact zs23 | (simp only [fun q a z => find_kp q a z (k := 23) (by decide), fun q => units_kp q (k := 23) (by decide), fun q => first_kp q (k := 23) (by decide), fun q => others_kp q (k := 23) (by decide)]; exact zs23)) (by first | exact zs28 | (simp only [fun q a z => find_kp q a z (k := 28) (by decide), fun q => units_kp q (k := 28) (by decide), fun q => first_kp q (k := 28) (by decide), fun q => others_kp q (k := 28) (by decide)]; exact zs28)) (by first | exact zs22 | (simp only [fun q a z => find_kp q a z (k := 22) (by decide), fun q => units_kp q (k := 22) (by decide), fun q => first_kp q (k := 22) (by decide), fun q => others_kp q (k := 22) (by decide)]; exact zs22)) e hP hD hS (lv_sub hl [1, 2, 3, 4, 5, 6, 0] rfl)
          · have e := e.trans (if_neg c_18)
            refine lv_aload_n hx hb dX_turn_620 rfl (lv_at hl 0 rfl) ?_
            refine va_get (D := D) (ci := 7) (v := .ref (h 5)) (C := "BoilerDeskModel") (T := TX) (N := 43) hx hb hts inX hown hK hP 0 rfl rfl 28 (by decide) (hts _ q_671) (fun _ h9 => h9) rfl dX_turn_621 ?_
            refine lv_iload hx hb dX_turn_624 (lv_at hl 6 rfl) ?_
            refine va_zald hx hb hK hP 5 0 rfl rfl (vp_in_nI (by omega) (by decide)) dX_turn_626 ?_
            refine lv_if_eq (tgt := 634) hx hb dX_turn_627 (by decide) (fun c_19 => ?_) (fun c_19 => ?_)
            · have e := e.trans (if_pos c_19)
              refine lv_iconst (v := 0) hx hb dX_turn_634 (by decide) ?_
              refine kb_callv (wf := mw h cZ) (u := F_X_find q ((6 : Int32) + (nI i)) (0 : Int32)) (va_runV (As := [.int ((6 : Int32) + (nI i)), .int 0]) (rest := []) ⟨hx, hb, hml, hown, hts⟩ (c_X_find l D h cZ _ q ((6 : Int32) + (nI i)) (0 : Int32) (by rw [show (6 : Int32) + nI i = nI (6 + i) from nI_add 6 i]; exact vp_in_nI (by omega) (by decide)) (by decide)) (cwV 2 hts (gd_V q_823 q_825 q_27 q_40 q_826) rfl rfl rfl (by decide +kernel) ⟨Nat.le_of_ble_eq_true rfl, Nat.le_of_ble_eq_true rfl⟩) (kb_preV hN hK hP hD (va_recv hK hP (ci := 7) (q0 := 0) rfl rfl)) rfl rfl hl.1 rfl (lv_room (Nat.le_of_ble_eq_true rfl)) dX_turn_635 ⟨Nat.zero_le _, Nat.zero_le _⟩) hP hD hS hA (fun H locs hP hD hS => ?_)
              refine lv_iinc (v := (nI (i + 1))) (lv' := [(6, .int (nI (i + 1))), (0, .ref (h 0)), (1, .int x1), (2, .int x2), (3, .int x3), (4, .int x4), (5, .int x5)]) hx hb dX_turn_638 hl (k := 6) rfl (nI_1 i) (by decide) rfl (fun ls hl => ?_)
              refine lv_goto (tgt := 558) hx hb dX_turn_641 (by decide) ?_
              exact ih (i + 1) (F_X_find q ((6 : Int32) + (nI i)) (0 : Int32)) x1 x2 x3 x4 x5 _ _ _ (by omega) (by first | exact zs23 | (simp only [fun q a z => find_kp q a z (k := 23) (by decide), fun q => units_kp q (k := 23) (by decide), fun q => first_kp q (k := 23) (by decide), fun q => others_kp q (k := 23) (by decide)]; exact zs23)) (by first | exact zs28 | (simp only [fun q a z => find_kp q a z (k := 28) (by decide), fun q => units_kp q (k := 28) (by decide), fun q => first_kp q (k := 28) (by decide), fun q => others_kp q (k := 28) (by decide)]; exact zs28)) (by first | exact zs22 | (simp only [fun q a z => find_kp q a z (k := 22) (by decide), fun q => units_kp q (k := 22) (by decide), fun q => first_kp q (k := 22) (by decide), fun q => others_kp q (k := 22) (by decide)]; exact zs22)) e hP hD hS (lv_sub hl [1, 2, 3, 4, 5, 6, 0] rfl)
            · have e := e.trans (if_neg c_19)
              refine lv_iconst (v := 1) hx hb dX_turn_630 (by decide) ?_
              refine lv_goto (tgt := 635) hx hb dX_turn_631 (by decide) ?_
              refine kb_callv (wf := mw h cZ) (u := F_X_find q ((6 : Int32) + (nI i)) (1 : Int32)) (va_runV (As := [.int ((6 : Int32) + (nI i)), .int 1]) (rest := []) ⟨hx, hb, hml, hown, hts⟩ (c_X_find l D h cZ _ q ((6 : Int32) + (nI i)) (1 : Int32) (by rw [show (6 : Int32) + nI i = nI (6 + i) from nI_add 6 i]; exact vp_in_nI (by omega) (by decide)) (by decide)) (cwV 2 hts (gd_V q_823 q_825 q_27 q_40 q_826) rfl rfl rfl (by decide +kernel) ⟨Nat.le_of_ble_eq_true rfl, Nat.le_of_ble_eq_true rfl⟩) (kb_preV hN hK hP hD (va_recv hK hP (ci := 7) (q0 := 0) rfl rfl)) rfl rfl hl.1 rfl (lv_room (Nat.le_of_ble_eq_true rfl)) dX_turn_635 ⟨Nat.zero_le _, Nat.zero_le _⟩) hP hD hS hA (fun H locs hP hD hS => ?_)
              refine lv_iinc (v := (nI (i + 1))) (lv' := [(6, .int (nI (i + 1))), (0, .ref (h 0)), (1, .int x1), (2, .int x2), (3, .int x3), (4, .int x4), (5, .int x5)]) hx hb dX_turn_638 hl (k := 6) rfl (nI_1 i) (by decide) rfl (fun ls hl => ?_)
              refine lv_goto (tgt := 558) hx hb dX_turn_641 (by decide) ?_
              exact ih (i + 1) (F_X_find q ((6 : Int32) + (nI i)) (1 : Int32)) x1 x2 x3 x4 x5 _ _ _ (by omega) (by first | exact zs23 | (simp only [fun q a z => find_kp q a z (k := 23) (by decide), fun q => units_kp q (k := 23) (by decide), fun q => first_kp q (k := 23) (by decide), fun q => others_kp q (k := 23) (by decide)]; exact zs23)) (by first | exact zs28 | (simp only [fun q a z => find_kp q a z (k := 28) (by decide), fun q => units_kp q (k := 28) (by decide), fun q => first_kp q (k := 28) (by decide), fun q => others_kp q (k := 28) (by decide)]; exact zs28)) (by first | exact zs22 | (simp only [fun q a z => find_kp q a z (k := 22) (by decide), fun q => units_kp q (k := 22) (by decide), fun q => first_kp q (k := 22) (by decide), fun q => others_kp q (k := 22) (by decide)]; exact zs22)) e hP hD hS (lv_sub hl [1, 2, 3, 4, 5, 6, 0] rfl)
        · have e := e.trans (if_neg c_17)
          refine lv_aload_n hx hb dX_turn_592 rfl (lv_at hl 0 rfl) ?_
          refine va_get (D := D) (ci := 7) (v := .ref (h 4)) (C := "BoilerDeskModel") (T := TX) (N := 43) hx hb hts inX hown hK hP 0 rfl rfl 27 (by decide) (hts _ q_670) (fun _ h9 => h9) rfl dX_turn_593 ?_
          refine lv_iload hx hb dX_turn_596 (lv_at hl 6 rfl) ?_
          refine va_zald hx hb hK hP 4 0 rfl rfl (vp_in_nI (by omega) (by decide)) dX_turn_598 ?_
          refine lv_if_ne (tgt := 606) hx hb dX_turn_599 (by decide) (fun c_20 => ?_) (fun c_20 => ?_)
          · have e := e.trans (if_neg c_20)
            refine lv_iconst (v := 0) hx hb dX_turn_606 (by decide) ?_
            refine lv_goto (tgt := 635) hx hb dX_turn_607 (by decide) ?_
            refine kb_callv (wf := mw h cZ) (u := F_X_find q ((6 : Int32) + (nI i)) (0 : Int32)) (va_runV (As := [.int ((6 : Int32) + (nI i)), .int 0]) (rest := []) ⟨hx, hb, hml, hown, hts⟩ (c_X_find l D h cZ _ q ((6 : Int32) + (nI i)) (0 : Int32) (by rw [show (6 : Int32) + nI i = nI (6 + i) from nI_add 6 i]; exact vp_in_nI (by omega) (by decide)) (by decide)) (cwV 2 hts (gd_V q_823 q_825 q_27 q_40 q_826) rfl rfl rfl (by decide +kernel) ⟨Nat.le_of_ble_eq_true rfl, Nat.le_of_ble_eq_true rfl⟩) (kb_preV hN hK hP hD (va_recv hK hP (ci := 7) (q0 := 0) rfl rfl)) rfl rfl hl.1 rfl (lv_room (Nat.le_of_ble_eq_true rfl)) dX_turn_635 ⟨Nat.zero_le _, Nat.zero_le _⟩) hP hD hS hA (fun H locs hP hD hS => ?_)
            refine lv_iinc (v := (nI (i + 1))) (lv' := [(6, .int (nI (i + 1))), (0, .ref (h 0)), (1, .int x1), (2, .int x2), (3, .int x3), (4, .int x4), (5, .int x5)]) hx hb dX_turn_638 hl (k := 6) rfl (nI_1 i) (by decide) rfl (fun ls hl => ?_)
            refine lv_goto (tgt := 558) hx hb dX_turn_641 (by decide) ?_
            exact ih (i + 1) (F_X_find q ((6 : Int32) + (nI i)) (0 : Int32)) x1 x2 x3 x4 x5 _ _ _ (by omega) (by first | exact zs23 | (simp only [fun q a z => find_kp q a z (k := 23) (by decide), fun q => units_kp q (k := 23) (by decide), fun q => first_kp q (k := 23) (by decide), fun q => others_kp q (k := 23) (by decide)]; exact zs23)) (by first | exact zs28 | (simp only [fun q a z => find_kp q a z (k := 28) (by decide), fun q => units_kp q (k := 28) (by decide), fun q => first_kp q (k := 28) (by decide), fun q => others_kp q (k := 28) (by decide)]; exact zs28)) (by first | exact zs22 | (simp only [fun q a z => find_kp q a z (k := 22) (by decide), fun q => units_kp q (k := 22) (by decide), fun q => first_kp q (k := 22) (by decide), fun q => others_kp q (k := 22) (by decide)]; exact zs22)) e hP hD hS (lv_sub hl [1, 2, 3, 4, 5, 6, 0] rfl)
          · have e := e.trans (if_pos c_20)
            refine lv_iconst (v := 1) hx hb dX_turn_602 (by decide) ?_
            refine lv_goto (tgt := 635) hx hb dX_turn_603 (by decide) ?_
            refine kb_callv (wf := mw h cZ) (u := F_X_find q ((6 : Int32) + (nI i)) (1 : Int32)) (va_runV (As := [.int ((6 : Int32) + (nI i)), .int 1]) (rest := []) ⟨hx, hb, hml, hown, hts⟩ (c_X_find l D h cZ _ q ((6 : Int32) + (nI i)) (1 : Int32) (by rw [show (6 : Int32) + nI i = nI (6 + i) from nI_add 6 i]; exact vp_in_nI (by omega) (by decide)) (by decide)) (cwV 2 hts (gd_V q_823 q_825 q_27 q_40 q_826) rfl rfl rfl (by decide +kernel) ⟨Nat.le_of_ble_eq_true rfl, Nat.le_of_ble_eq_true rfl⟩) (kb_preV hN hK hP hD (va_recv hK hP (ci := 7) (q0 := 0) rfl rfl)) rfl rfl hl.1 rfl (lv_room (Nat.le_of_ble_eq_true rfl)) dX_turn_635 ⟨Nat.zero_le _, Nat.zero_le _⟩) hP hD hS hA (fun H locs hP hD hS => ?_)
            refine lv_iinc (v := (nI (i + 1))) (lv' := [(6, .int (nI (i + 1))), (0, .ref (h 0)), (1, .int x1), (2, .int x2), (3, .int x3), (4, .int x4), (5, .int x5)]) hx hb dX_turn_638 hl (k := 6) rfl (nI_1 i) (by decide) rfl (fun ls hl => ?_)
            refine lv_goto (tgt := 558) hx hb dX_turn_641 (by decide) ?_
            exact ih (i + 1) (F_X_find q ((6 : Int32) + (nI i)) (1 : Int32)) x1 x2 x3 x4 x5 _ _ _ (by omega) (by first | exact zs23 | (simp only [fun q a z => find_kp q a z (k := 23) (by decide), fun q => units_kp q (k := 23) (by decide), fun q => first_kp q (k := 23) (by decide), fun q => others_kp q (k := 23) (by decide)]; exact zs23)) (by first | exact zs28 | (simp only [fun q a z => find_kp q a z (k := 28) (by decide), fun q => units_kp q (k := 28) (by decide), fun q => first_kp q (k := 28) (by decide), fun q => others_kp q (k := 28) (by decide)]; exact zs28)) (by first | exact zs22 | (simp only [fun q a z => find_kp q a z (k := 22) (by decide), fun q => units_kp q (k := 22) (by decide), fun q => first_kp q (k := 22) (by decide), fun q => others_kp q (k := 22) (by decide)]; exact zs22)) e hP hD hS (lv_sub hl [1, 2, 3, 4, 5, 6, 0] rfl)
  have k_513 : ∀ (n i : Nat) (q : (Nat → Int32) × (Nat → Nat → Int32)) (x1 : Int32) (x2 : Int32) (x3 : Int32) (x4 : Int32) (x5 : Int32) (H : Heap) (locs : List Loc) (ls : Array Slot), i + n = 4 → (q.1 23 = 0 ∨ q.1 23 = 1) → (q.1 28 = 0 ∨ q.1 28 = 1) → (q.1 22 = 0 ∨ q.1 22 = 1) → F_X_turn q0 = K_X_turn_513 n i q x1 x2 x3 x4 x5 → va_P D vwCl (mw h cZ q) H → va_D A (mw h cZ q) → va_S A s.heap H locs → lv_has ls 7 [(0, .ref (h 0)), (1, .int x1), (2, .int x2), (3, .int x3), (4, .int x4), (5, .int x5), (6, .int (nI i))] → W p l e ({ frames := 2, cells := 0, slots := 0, locals := 47 }) s m [.ref (h 0)].toArray below meth c H locs 0 0 (MQ below (va_Qi (fun r' u' => r' = (F_X_turn q0).1 ∧ u' = (F_X_turn q0).2) (kb_E D [(cZ, .boolean)] (mw h cZ) A) A) [.ref (h 0)].toArray s 0 0 A) (F0 m 513 ls []) := by
    intro n
    induction n with
    | zero =>
      intro i q x1 x2 x3 x4 x5 H locs ls hin zs23 zs28 zs22 e hP hD hS hl
      obtain rfl : i = 4 := by omega
      refine lv_iload hx hb dX_turn_513 (lv_at hl 6 rfl) ?_
      refine lv_iconst (v := 4) hx hb dX_turn_515 (by decide) ?_
      refine lv_icmp_ge (tgt := 555) hx hb dX_turn_516 (by decide) (fun _ => ?_) (fun c9 => absurd (by decide) c9)
      refine lv_iconst (v := 0) hx hb dX_turn_555 (by decide) ?_
      refine lv_istore (lv' := [(6, .int 0), (0, .ref (h 0)), (1, .int x1), (2, .int x2), (3, .int x3), (4, .int x4), (5, .int x5)]) hx hb dX_turn_556 hl (by decide) rfl (fun ls hl => ?_)
      exact k_558 4 0 q x1 x2 x3 x4 x5 _ _ _ (by omega) zs23 zs28 zs22 e hP hD hS (lv_sub hl [1, 2, 3, 4, 5, 6, 0] rfl)
    | succ n ih =>
      intro i q x1 x2 x3 x4 x5 H locs ls hin zs23 zs28 zs22 e hP hD hS hl
      refine lv_iload hx hb dX_turn_513 (lv_at hl 6 rfl) ?_
      refine lv_iconst (v := 4) hx hb dX_turn_515 (by decide) ?_
      refine lv_icmp_ge (tgt := 555) hx hb dX_turn_516 (by decide) (fun c9 => absurd c9 (nI_ge (b := 4) (by omega) (by decide))) (fun _ => ?_)
      refine lv_aload_n hx hb dX_turn_519 rfl (lv_at hl 0 rfl) ?_
      refine lv_iconst (v := 2) hx hb dX_turn_520 (by decide) ?_
      refine lv_iload hx hb dX_turn_521 (lv_at hl 6 rfl) ?_
      refine lv_iadd hx hb dX_turn_523 ?_
      refine lv_aload_n hx hb dX_turn_524 rfl (lv_at hl 0 rfl) ?_
      refine va_get (D := D) (ci := 7) (v := .ref (h 8)) (C := "BoilerDeskModel") (T := TX) (N := 43) hx hb hts inX hown hK hP 0 rfl rfl 38 (by decide) (hts _ q_681) (fun _ h9 => h9) rfl dX_turn_525 ?_
      refine lv_iload hx hb dX_turn_528 (lv_at hl 6 rfl) ?_
      refine va_zald hx hb hK hP 8 0 rfl rfl (vp_in_nI (by omega) (by decide)) dX_turn_530 ?_
      refine lv_aload_n hx hb dX_turn_531 rfl (lv_at hl 0 rfl) ?_
      refine va_get (D := D) (ci := 7) (v := .ref (h 4)) (C := "BoilerDeskModel") (T := TX) (N := 43) hx hb hts inX hown hK hP 0 rfl rfl 27 (by decide) (hts _ q_670) (fun _ h9 => h9) rfl dX_turn_532 ?_
      refine lv_iload hx hb dX_turn_535 (lv_at hl 6 rfl) ?_
      refine va_zald hx hb hK hP 4 0 rfl rfl (vp_in_nI (by omega) (by decide)) dX_turn_537 ?_
      refine lv_icmp_eq (tgt := 545) hx hb dX_turn_538 (by decide) (fun c_21 => ?_) (fun c_21 => ?_)
      · have e := e.trans (if_pos c_21)
        refine lv_iconst (v := 0) hx hb dX_turn_545 (by decide) ?_
        refine kb_callv (wf := mw h cZ) (u := F_X_find q ((2 : Int32) + (nI i)) (0 : Int32)) (va_runV (As := [.int ((2 : Int32) + (nI i)), .int 0]) (rest := []) ⟨hx, hb, hml, hown, hts⟩ (c_X_find l D h cZ _ q ((2 : Int32) + (nI i)) (0 : Int32) (by rw [show (2 : Int32) + nI i = nI (2 + i) from nI_add 2 i]; exact vp_in_nI (by omega) (by decide)) (by decide)) (cwV 2 hts (gd_V q_823 q_825 q_27 q_40 q_826) rfl rfl rfl (by decide +kernel) ⟨Nat.le_of_ble_eq_true rfl, Nat.le_of_ble_eq_true rfl⟩) (kb_preV hN hK hP hD (va_recv hK hP (ci := 7) (q0 := 0) rfl rfl)) rfl rfl hl.1 rfl (lv_room (Nat.le_of_ble_eq_true rfl)) dX_turn_546 ⟨Nat.zero_le _, Nat.zero_le _⟩) hP hD hS hA (fun H locs hP hD hS => ?_)
        refine lv_iinc (v := (nI (i + 1))) (lv' := [(6, .int (nI (i + 1))), (0, .ref (h 0)), (1, .int x1), (2, .int x2), (3, .int x3), (4, .int x4), (5, .int x5)]) hx hb dX_turn_549 hl (k := 6) rfl (nI_1 i) (by decide) rfl (fun ls hl => ?_)
        refine lv_goto (tgt := 513) hx hb dX_turn_552 (by decide) ?_
        exact ih (i + 1) (F_X_find q ((2 : Int32) + (nI i)) (0 : Int32)) x1 x2 x3 x4 x5 _ _ _ (by omega) (by first | exact zs23 | (simp only [fun q a z => find_kp q a z (k := 23) (by decide), fun q => units_kp q (k := 23) (by decide), fun q => first_kp q (k := 23) (by decide), fun q => others_kp q (k := 23) (by decide)]; exact zs23)) (by first | exact zs28 | (simp only [fun q a z => find_kp q a z (k := 28) (by decide), fun q => units_kp q (k := 28) (by decide), fun q => first_kp q (k := 28) (by decide), fun q => others_kp q (k := 28) (by decide)]; exact zs28)) (by first | exact zs22 | (simp only [fun q a z => find_kp q a z (k := 22) (by decide), fun q => units_kp q (k := 22) (by decide), fun q => first_kp q (k := 22) (by decide), fun q => others_kp q (k := 22) (by decide)]; exact zs22)) e hP hD hS (lv_sub hl [1, 2, 3, 4, 5, 6, 0] rfl)
      · have e := e.trans (if_neg c_21)
        refine lv_iconst (v := 1) hx hb dX_turn_541 (by decide) ?_
        refine lv_goto (tgt := 546) hx hb dX_turn_542 (by decide) ?_
        refine kb_callv (wf := mw h cZ) (u := F_X_find q ((2 : Int32) + (nI i)) (1 : Int32)) (va_runV (As := [.int ((2 : Int32) + (nI i)), .int 1]) (rest := []) ⟨hx, hb, hml, hown, hts⟩ (c_X_find l D h cZ _ q ((2 : Int32) + (nI i)) (1 : Int32) (by rw [show (2 : Int32) + nI i = nI (2 + i) from nI_add 2 i]; exact vp_in_nI (by omega) (by decide)) (by decide)) (cwV 2 hts (gd_V q_823 q_825 q_27 q_40 q_826) rfl rfl rfl (by decide +kernel) ⟨Nat.le_of_ble_eq_true rfl, Nat.le_of_ble_eq_true rfl⟩) (kb_preV hN hK hP hD (va_recv hK hP (ci := 7) (q0 := 0) rfl rfl)) rfl rfl hl.1 rfl (lv_room (Nat.le_of_ble_eq_true rfl)) dX_turn_546 ⟨Nat.zero_le _, Nat.zero_le _⟩) hP hD hS hA (fun H locs hP hD hS => ?_)
        refine lv_iinc (v := (nI (i + 1))) (lv' := [(6, .int (nI (i + 1))), (0, .ref (h 0)), (1, .int x1), (2, .int x2), (3, .int x3), (4, .int x4), (5, .int x5)]) hx hb dX_turn_549 hl (k := 6) rfl (nI_1 i) (by decide) rfl (fun ls hl => ?_)
        refine lv_goto (tgt := 513) hx hb dX_turn_552 (by decide) ?_
        exact ih (i + 1) (F_X_find q ((2 : Int32) + (nI i)) (1 : Int32)) x1 x2 x3 x4 x5 _ _ _ (by omega) (by first | exact zs23 | (simp only [fun q a z => find_kp q a z (k := 23) (by decide), fun q => units_kp q (k := 23) (by decide), fun q => first_kp q (k := 23) (by decide), fun q => others_kp q (k := 23) (by decide)]; exact zs23)) (by first | exact zs28 | (simp only [fun q a z => find_kp q a z (k := 28) (by decide), fun q => units_kp q (k := 28) (by decide), fun q => first_kp q (k := 28) (by decide), fun q => others_kp q (k := 28) (by decide)]; exact zs28)) (by first | exact zs22 | (simp only [fun q a z => find_kp q a z (k := 22) (by decide), fun q => units_kp q (k := 22) (by decide), fun q => first_kp q (k := 22) (by decide), fun q => others_kp q (k := 22) (by decide)]; exact zs22)) e hP hD hS (lv_sub hl [1, 2, 3, 4, 5, 6, 0] rfl)
  have k_423 : ∀ (q : (Nat → Int32) × (Nat → Nat → Int32)) (x1 : Int32) (x2 : Int32) (x3 : Int32) (x4 : Int32) (x5 : Int32) (y0 : Int32) (H : Heap) (locs : List Loc) (ls : Array Slot), (q.1 23 = 0 ∨ q.1 23 = 1) → (q.1 28 = 0 ∨ q.1 28 = 1) → (q.1 22 = 0 ∨ q.1 22 = 1) → F_X_turn q0 = K_X_turn_423 q x1 x2 x3 x4 x5 y0 → va_P D vwCl (mw h cZ q) H → va_D A (mw h cZ q) → va_S A s.heap H locs → lv_has ls 7 [(0, .ref (h 0)), (1, .int x1), (2, .int x2), (3, .int x3), (4, .int x4), (5, .int x5)] → W p l e ({ frames := 2, cells := 0, slots := 0, locals := 47 }) s m [.ref (h 0)].toArray below meth c H locs 0 0 (MQ below (va_Qi (fun r' u' => r' = (F_X_turn q0).1 ∧ u' = (F_X_turn q0).2) (kb_E D [(cZ, .boolean)] (mw h cZ) A) A) [.ref (h 0)].toArray s 0 0 A) (F0 m 423 ls [.int y0]) := by
      intro q x1 x2 x3 x4 x5 y0 H locs ls zs23 zs28 zs22 e hP hD hS hl
      refine lv_istore (lv' := [(5, .int y0), (0, .ref (h 0)), (1, .int x1), (2, .int x2), (3, .int x3), (4, .int x4)]) hx hb dX_turn_423 hl (by decide) rfl (fun ls hl => ?_)
      refine lv_aload_n hx hb dX_turn_425 rfl (lv_at hl 1 rfl) ?_
      refine lv_iconst (v := 0) hx hb dX_turn_426 (by decide) ?_
      refine lv_aload_n hx hb dX_turn_427 rfl (lv_at hl 1 rfl) ?_
      refine va_get (D := D) (ci := 7) (v := .int (q.1 24)) (C := "BoilerDeskModel") (T := TX) (N := 43) hx hb hts inX hown hK hP 0 rfl rfl 30 (by decide) (hts _ q_673) (fun _ h9 => h9) rfl dX_turn_428 ?_
      refine lv_iconst (v := 0) hx hb dX_turn_431 (by decide) ?_
      refine lv_aload_n hx hb dX_turn_432 rfl (lv_at hl 1 rfl) ?_
      refine va_get (D := D) (ci := 7) (v := .int (q.1 1)) (C := "BoilerDeskModel") (T := TX) (N := 43) hx hb hts inX hown hK hP 0 rfl rfl 1 (by decide) (hts _ q_644) (fun _ h9 => h9) rfl dX_turn_433 ?_
      refine kb_call0 (r := (F_X_in (q.1 24) (0 : Int32) (q.1 1))) (va_runS (As := [.int (q.1 24), .int 0, .int (q.1 1)]) (rest := [.int 0, .ref (h 0)]) ⟨hx, hb, hml, hown, hts⟩ (c_X_in l D _ (q.1 24) (0 : Int32) (q.1 1)) (va_cwS 3 hts (gd_S q_784 q_785 q_40 q_786) rfl rfl rfl (by decide +kernel) ⟨Nat.le_of_ble_eq_true rfl, Nat.le_of_ble_eq_true rfl⟩) (kb_pre0 hN hK) rfl rfl hl.1 rfl (lv_room (Nat.le_of_ble_eq_true rfl)) dX_turn_436 ⟨Nat.zero_le _, Nat.zero_le _⟩) hP hS hA (fun H locs hP hS => ?_)
      refine lv_if_eq (tgt := 460) hx hb dX_turn_439 (by decide) (fun c_22 => ?_) (fun c_22 => ?_)
      · have e := e.trans (if_pos c_22)
        refine lv_iconst (v := 1) hx hb dX_turn_460 (by decide) ?_
        refine lv_goto (tgt := 465) hx hb dX_turn_461 (by decide) ?_
        refine kb_callv (wf := mw h cZ) (u := F_X_find q (0 : Int32) (1 : Int32)) (va_runV (As := [.int 0, .int 1]) (rest := []) ⟨hx, hb, hml, hown, hts⟩ (c_X_find l D h cZ _ q (0 : Int32) (1 : Int32) (by unfold vp_in; decide) (by decide)) (cwV 2 hts (gd_V q_823 q_825 q_27 q_40 q_826) rfl rfl rfl (by decide +kernel) ⟨Nat.le_of_ble_eq_true rfl, Nat.le_of_ble_eq_true rfl⟩) (kb_preV hN hK hP hD (va_recv hK hP (ci := 7) (q0 := 0) rfl rfl)) rfl rfl hl.1 rfl (lv_room (Nat.le_of_ble_eq_true rfl)) dX_turn_465 ⟨Nat.zero_le _, Nat.zero_le _⟩) hP hD hS hA (fun H locs hP hD hS => ?_)
        refine lv_aload_n hx hb dX_turn_468 rfl (lv_at hl 1 rfl) ?_
        refine lv_iconst (v := 1) hx hb dX_turn_469 (by decide) ?_
        refine lv_aload_n hx hb dX_turn_470 rfl (lv_at hl 1 rfl) ?_
        refine va_get (D := D) (ci := 7) (v := .int ((F_X_find q (0 : Int32) (1 : Int32)).1 25)) (C := "BoilerDeskModel") (T := TX) (N := 43) hx hb hts inX hown hK hP 0 rfl rfl 31 (by decide) (hts _ q_674) (fun _ h9 => h9) rfl dX_turn_471 ?_
        refine lv_iconst (v := 0) hx hb dX_turn_474 (by decide) ?_
        refine lv_aload_n hx hb dX_turn_475 rfl (lv_at hl 1 rfl) ?_
        refine va_get (D := D) (ci := 7) (v := .int ((F_X_find q (0 : Int32) (1 : Int32)).1 6)) (C := "BoilerDeskModel") (T := TX) (N := 43) hx hb hts inX hown hK hP 0 rfl rfl 6 (by decide) (hts _ q_649) (fun _ h9 => h9) rfl dX_turn_476 ?_
        refine kb_call0 (r := (F_X_in ((F_X_find q (0 : Int32) (1 : Int32)).1 25) (0 : Int32) ((F_X_find q (0 : Int32) (1 : Int32)).1 6))) (va_runS (As := [.int ((F_X_find q (0 : Int32) (1 : Int32)).1 25), .int 0, .int ((F_X_find q (0 : Int32) (1 : Int32)).1 6)]) (rest := [.int 1, .ref (h 0)]) ⟨hx, hb, hml, hown, hts⟩ (c_X_in l D _ ((F_X_find q (0 : Int32) (1 : Int32)).1 25) (0 : Int32) ((F_X_find q (0 : Int32) (1 : Int32)).1 6)) (va_cwS 3 hts (gd_S q_784 q_785 q_40 q_786) rfl rfl rfl (by decide +kernel) ⟨Nat.le_of_ble_eq_true rfl, Nat.le_of_ble_eq_true rfl⟩) (kb_pre0 hN hK) rfl rfl hl.1 rfl (lv_room (Nat.le_of_ble_eq_true rfl)) dX_turn_479 ⟨Nat.zero_le _, Nat.zero_le _⟩) hP hS hA (fun H locs hP hS => ?_)
        refine lv_if_eq (tgt := 502) hx hb dX_turn_482 (by decide) (fun c_23 => ?_) (fun c_23 => ?_)
        · have e := e.trans (if_pos c_23)
          refine lv_iconst (v := 1) hx hb dX_turn_502 (by decide) ?_
          refine lv_goto (tgt := 507) hx hb dX_turn_503 (by decide) ?_
          refine kb_callv (wf := mw h cZ) (u := F_X_find (F_X_find q (0 : Int32) (1 : Int32)) (1 : Int32) (1 : Int32)) (va_runV (As := [.int 1, .int 1]) (rest := []) ⟨hx, hb, hml, hown, hts⟩ (c_X_find l D h cZ _ (F_X_find q (0 : Int32) (1 : Int32)) (1 : Int32) (1 : Int32) (by unfold vp_in; decide) (by decide)) (cwV 2 hts (gd_V q_823 q_825 q_27 q_40 q_826) rfl rfl rfl (by decide +kernel) ⟨Nat.le_of_ble_eq_true rfl, Nat.le_of_ble_eq_true rfl⟩) (kb_preV hN hK hP hD (va_recv hK hP (ci := 7) (q0 := 0) rfl rfl)) rfl rfl hl.1 rfl (lv_room (Nat.le_of_ble_eq_true rfl)) dX_turn_507 ⟨Nat.zero_le _, Nat.zero_le _⟩) hP hD hS hA (fun H locs hP hD hS => ?_)
          refine lv_iconst (v := 0) hx hb dX_turn_510 (by decide) ?_
          refine lv_istore (lv' := [(6, .int 0), (5, .int y0), (0, .ref (h 0)), (1, .int x1), (2, .int x2), (3, .int x3), (4, .int x4)]) hx hb dX_turn_511 hl (by decide) rfl (fun ls hl => ?_)
          exact k_513 4 0 (F_X_find (F_X_find q (0 : Int32) (1 : Int32)) (1 : Int32) (1 : Int32)) x1 x2 x3 x4 y0 _ _ _ (by omega) (by first | exact zs23 | (simp only [fun q a z => find_kp q a z (k := 23) (by decide), fun q => units_kp q (k := 23) (by decide), fun q => first_kp q (k := 23) (by decide), fun q => others_kp q (k := 23) (by decide)]; exact zs23)) (by first | exact zs28 | (simp only [fun q a z => find_kp q a z (k := 28) (by decide), fun q => units_kp q (k := 28) (by decide), fun q => first_kp q (k := 28) (by decide), fun q => others_kp q (k := 28) (by decide)]; exact zs28)) (by first | exact zs22 | (simp only [fun q a z => find_kp q a z (k := 22) (by decide), fun q => units_kp q (k := 22) (by decide), fun q => first_kp q (k := 22) (by decide), fun q => others_kp q (k := 22) (by decide)]; exact zs22)) e hP hD hS (lv_sub hl [2, 3, 4, 5, 6, 1, 0] rfl)
        · have e := e.trans (if_neg c_23)
          refine lv_iload hx hb dX_turn_485 (lv_at hl 0 rfl) ?_
          refine lv_if_ne (tgt := 506) hx hb dX_turn_487 (by decide) (fun c_24 => ?_) (fun c_24 => ?_)
          · have e := e.trans (if_neg c_24)
            refine lv_iconst (v := 0) hx hb dX_turn_506 (by decide) ?_
            refine kb_callv (wf := mw h cZ) (u := F_X_find (F_X_find q (0 : Int32) (1 : Int32)) (1 : Int32) (0 : Int32)) (va_runV (As := [.int 1, .int 0]) (rest := []) ⟨hx, hb, hml, hown, hts⟩ (c_X_find l D h cZ _ (F_X_find q (0 : Int32) (1 : Int32)) (1 : Int32) (0 : Int32) (by unfold vp_in; decide) (by decide)) (cwV 2 hts (gd_V q_823 q_825 q_27 q_40 q_826) rfl rfl rfl (by decide +kernel) ⟨Nat.le_of_ble_eq_true rfl, Nat.le_of_ble_eq_true rfl⟩) (kb_preV hN hK hP hD (va_recv hK hP (ci := 7) (q0 := 0) rfl rfl)) rfl rfl hl.1 rfl (lv_room (Nat.le_of_ble_eq_true rfl)) dX_turn_507 ⟨Nat.zero_le _, Nat.zero_le _⟩) hP hD hS hA (fun H locs hP hD hS => ?_)
            refine lv_iconst (v := 0) hx hb dX_turn_510 (by decide) ?_
            refine lv_istore (lv' := [(6, .int 0), (5, .int y0), (0, .ref (h 0)), (1, .int x1), (2, .int x2), (3, .int x3), (4, .int x4)]) hx hb dX_turn_511 hl (by decide) rfl (fun ls hl => ?_)
            exact k_513 4 0 (F_X_find (F_X_find q (0 : Int32) (1 : Int32)) (1 : Int32) (0 : Int32)) x1 x2 x3 x4 y0 _ _ _ (by omega) (by first | exact zs23 | (simp only [fun q a z => find_kp q a z (k := 23) (by decide), fun q => units_kp q (k := 23) (by decide), fun q => first_kp q (k := 23) (by decide), fun q => others_kp q (k := 23) (by decide)]; exact zs23)) (by first | exact zs28 | (simp only [fun q a z => find_kp q a z (k := 28) (by decide), fun q => units_kp q (k := 28) (by decide), fun q => first_kp q (k := 28) (by decide), fun q => others_kp q (k := 28) (by decide)]; exact zs28)) (by first | exact zs22 | (simp only [fun q a z => find_kp q a z (k := 22) (by decide), fun q => units_kp q (k := 22) (by decide), fun q => first_kp q (k := 22) (by decide), fun q => others_kp q (k := 22) (by decide)]; exact zs22)) e hP hD hS (lv_sub hl [2, 3, 4, 5, 6, 1, 0] rfl)
          · have e := e.trans (if_pos c_24)
            refine lv_aload_n hx hb dX_turn_490 rfl (lv_at hl 1 rfl) ?_
            refine va_get (D := D) (ci := 7) (v := .int ((F_X_find q (0 : Int32) (1 : Int32)).1 25)) (C := "BoilerDeskModel") (T := TX) (N := 43) hx hb hts inX hown hK hP 0 rfl rfl 31 (by decide) (hts _ q_674) (fun _ h9 => h9) rfl dX_turn_491 ?_
            refine lv_iload_n hx hb dX_turn_494 rfl (lv_at hl 2 rfl) ?_
            refine lv_iload_n hx hb dX_turn_495 rfl (lv_at hl 3 rfl) ?_
            refine kb_call0 (r := (F_X_in ((F_X_find q (0 : Int32) (1 : Int32)).1 25) x1 x2)) (va_runS (As := [.int ((F_X_find q (0 : Int32) (1 : Int32)).1 25), .int x1, .int x2]) (rest := [.int 1, .ref (h 0)]) ⟨hx, hb, hml, hown, hts⟩ (c_X_in l D _ ((F_X_find q (0 : Int32) (1 : Int32)).1 25) x1 x2) (va_cwS 3 hts (gd_S q_784 q_785 q_40 q_786) rfl rfl rfl (by decide +kernel) ⟨Nat.le_of_ble_eq_true rfl, Nat.le_of_ble_eq_true rfl⟩) (kb_pre0 hN hK) rfl rfl hl.1 rfl (lv_room (Nat.le_of_ble_eq_true rfl)) dX_turn_496 ⟨Nat.zero_le _, Nat.zero_le _⟩) hP hS hA (fun H locs hP hS => ?_)
            refine lv_if_ne (tgt := 506) hx hb dX_turn_499 (by decide) (fun c_25 => ?_) (fun c_25 => ?_)
            · have e := e.trans (if_neg c_25)
              refine lv_iconst (v := 0) hx hb dX_turn_506 (by decide) ?_
              refine kb_callv (wf := mw h cZ) (u := F_X_find (F_X_find q (0 : Int32) (1 : Int32)) (1 : Int32) (0 : Int32)) (va_runV (As := [.int 1, .int 0]) (rest := []) ⟨hx, hb, hml, hown, hts⟩ (c_X_find l D h cZ _ (F_X_find q (0 : Int32) (1 : Int32)) (1 : Int32) (0 : Int32) (by unfold vp_in; decide) (by decide)) (cwV 2 hts (gd_V q_823 q_825 q_27 q_40 q_826) rfl rfl rfl (by decide +kernel) ⟨Nat.le_of_ble_eq_true rfl, Nat.le_of_ble_eq_true rfl⟩) (kb_preV hN hK hP hD (va_recv hK hP (ci := 7) (q0 := 0) rfl rfl)) rfl rfl hl.1 rfl (lv_room (Nat.le_of_ble_eq_true rfl)) dX_turn_507 ⟨Nat.zero_le _, Nat.zero_le _⟩) hP hD hS hA (fun H locs hP hD hS => ?_)
              refine lv_iconst (v := 0) hx hb dX_turn_510 (by decide) ?_
              refine lv_istore (lv' := [(6, .int 0), (5, .int y0), (0, .ref (h 0)), (1, .int x1), (2, .int x2), (3, .int x3), (4, .int x4)]) hx hb dX_turn_511 hl (by decide) rfl (fun ls hl => ?_)
              exact k_513 4 0 (F_X_find (F_X_find q (0 : Int32) (1 : Int32)) (1 : Int32) (0 : Int32)) x1 x2 x3 x4 y0 _ _ _ (by omega) (by first | exact zs23 | (simp only [fun q a z => find_kp q a z (k := 23) (by decide), fun q => units_kp q (k := 23) (by decide), fun q => first_kp q (k := 23) (by decide), fun q => others_kp q (k := 23) (by decide)]; exact zs23)) (by first | exact zs28 | (simp only [fun q a z => find_kp q a z (k := 28) (by decide), fun q => units_kp q (k := 28) (by decide), fun q => first_kp q (k := 28) (by decide), fun q => others_kp q (k := 28) (by decide)]; exact zs28)) (by first | exact zs22 | (simp only [fun q a z => find_kp q a z (k := 22) (by decide), fun q => units_kp q (k := 22) (by decide), fun q => first_kp q (k := 22) (by decide), fun q => others_kp q (k := 22) (by decide)]; exact zs22)) e hP hD hS (lv_sub hl [2, 3, 4, 5, 6, 1, 0] rfl)
            · have e := e.trans (if_pos c_25)
              refine lv_iconst (v := 1) hx hb dX_turn_502 (by decide) ?_
              refine lv_goto (tgt := 507) hx hb dX_turn_503 (by decide) ?_
              refine kb_callv (wf := mw h cZ) (u := F_X_find (F_X_find q (0 : Int32) (1 : Int32)) (1 : Int32) (1 : Int32)) (va_runV (As := [.int 1, .int 1]) (rest := []) ⟨hx, hb, hml, hown, hts⟩ (c_X_find l D h cZ _ (F_X_find q (0 : Int32) (1 : Int32)) (1 : Int32) (1 : Int32) (by unfold vp_in; decide) (by decide)) (cwV 2 hts (gd_V q_823 q_825 q_27 q_40 q_826) rfl rfl rfl (by decide +kernel) ⟨Nat.le_of_ble_eq_true rfl, Nat.le_of_ble_eq_true rfl⟩) (kb_preV hN hK hP hD (va_recv hK hP (ci := 7) (q0 := 0) rfl rfl)) rfl rfl hl.1 rfl (lv_room (Nat.le_of_ble_eq_true rfl)) dX_turn_507 ⟨Nat.zero_le _, Nat.zero_le _⟩) hP hD hS hA (fun H locs hP hD hS => ?_)
              refine lv_iconst (v := 0) hx hb dX_turn_510 (by decide) ?_
              refine lv_istore (lv' := [(6, .int 0), (5, .int y0), (0, .ref (h 0)), (1, .int x1), (2, .int x2), (3, .int x3), (4, .int x4)]) hx hb dX_turn_511 hl (by decide) rfl (fun ls hl => ?_)
              exact k_513 4 0 (F_X_find (F_X_find q (0 : Int32) (1 : Int32)) (1 : Int32) (1 : Int32)) x1 x2 x3 x4 y0 _ _ _ (by omega) (by first | exact zs23 | (simp only [fun q a z => find_kp q a z (k := 23) (by decide), fun q => units_kp q (k := 23) (by decide), fun q => first_kp q (k := 23) (by decide), fun q => others_kp q (k := 23) (by decide)]; exact zs23)) (by first | exact zs28 | (simp only [fun q a z => find_kp q a z (k := 28) (by decide), fun q => units_kp q (k := 28) (by decide), fun q => first_kp q (k := 28) (by decide), fun q => others_kp q (k := 28) (by decide)]; exact zs28)) (by first | exact zs22 | (simp only [fun q a z => find_kp q a z (k := 22) (by decide), fun q => units_kp q (k := 22) (by decide), fun q => first_kp q (k := 22) (by decide), fun q => others_kp q (k := 22) (by decide)]; exact zs22)) e hP hD hS (lv_sub hl [2, 3, 4, 5, 6, 1, 0] rfl)
      · have e := e.trans (if_neg c_22)
        refine lv_iload hx hb dX_turn_442 (lv_at hl 0 rfl) ?_
        refine lv_if_ne (tgt := 464) hx hb dX_turn_444 (by decide) (fun c_26 => ?_) (fun c_26 => ?_)
        · have e := e.trans (if_neg c_26)
          refine lv_iconst (v := 0) hx hb dX_turn_464 (by decide) ?_
          refine kb_callv (wf := mw h cZ) (u := F_X_find q (0 : Int32) (0 : Int32)) (va_runV (As := [.int 0, .int 0]) (rest := []) ⟨hx, hb, hml, hown, hts⟩ (c_X_find l D h cZ _ q (0 : Int32) (0 : Int32) (by unfold vp_in; decide) (by decide)) (cwV 2 hts (gd_V q_823 q_825 q_27 q_40 q_826) rfl rfl rfl (by decide +kernel) ⟨Nat.le_of_ble_eq_true rfl, Nat.le_of_ble_eq_true rfl⟩) (kb_preV hN hK hP hD (va_recv hK hP (ci := 7) (q0 := 0) rfl rfl)) rfl rfl hl.1 rfl (lv_room (Nat.le_of_ble_eq_true rfl)) dX_turn_465 ⟨Nat.zero_le _, Nat.zero_le _⟩) hP hD hS hA (fun H locs hP hD hS => ?_)
          refine lv_aload_n hx hb dX_turn_468 rfl (lv_at hl 1 rfl) ?_
          refine lv_iconst (v := 1) hx hb dX_turn_469 (by decide) ?_
          refine lv_aload_n hx hb dX_turn_470 rfl (lv_at hl 1 rfl) ?_
          refine va_get (D := D) (ci := 7) (v := .int ((F_X_find q (0 : Int32) (0 : Int32)).1 25)) (C := "BoilerDeskModel") (T := TX) (N := 43) hx hb hts inX hown hK hP 0 rfl rfl 31 (by decide) (hts _ q_674) (fun _ h9 => h9) rfl dX_turn_471 ?_
          refine lv_iconst (v := 0) hx hb dX_turn_474 (by decide) ?_
          refine lv_aload_n hx hb dX_turn_475 rfl (lv_at hl 1 rfl) ?_
          refine va_get (D := D) (ci := 7) (v := .int ((F_X_find q (0 : Int32) (0 : Int32)).1 6)) (C := "BoilerDeskModel") (T := TX) (N := 43) hx hb hts inX hown hK hP 0 rfl rfl 6 (by decide) (hts _ q_649) (fun _ h9 => h9) rfl dX_turn_476 ?_
          refine kb_call0 (r := (F_X_in ((F_X_find q (0 : Int32) (0 : Int32)).1 25) (0 : Int32) ((F_X_find q (0 : Int32) (0 : Int32)).1 6))) (va_runS (As := [.int ((F_X_find q (0 : Int32) (0 : Int32)).1 25), .int 0, .int ((F_X_find q (0 : Int32) (0 : Int32)).1 6)]) (rest := [.int 1, .ref (h 0)]) ⟨hx, hb, hml, hown, hts⟩ (c_X_in l D _ ((F_X_find q (0 : Int32) (0 : Int32)).1 25) (0 : Int32) ((F_X_find q (0 : Int32) (0 : Int32)).1 6)) (va_cwS 3 hts (gd_S q_784 q_785 q_40 q_786) rfl rfl rfl (by decide +kernel) ⟨Nat.le_of_ble_eq_true rfl, Nat.le_of_ble_eq_true rfl⟩) (kb_pre0 hN hK) rfl rfl hl.1 rfl (lv_room (Nat.le_of_ble_eq_true rfl)) dX_turn_479 ⟨Nat.zero_le _, Nat.zero_le _⟩) hP hS hA (fun H locs hP hS => ?_)
          refine lv_if_eq (tgt := 502) hx hb dX_turn_482 (by decide) (fun c_27 => ?_) (fun c_27 => ?_)
          · have e := e.trans (if_pos c_27)
            refine lv_iconst (v := 1) hx hb dX_turn_502 (by decide) ?_
            refine lv_goto (tgt := 507) hx hb dX_turn_503 (by decide) ?_
            refine kb_callv (wf := mw h cZ) (u := F_X_find (F_X_find q (0 : Int32) (0 : Int32)) (1 : Int32) (1 : Int32)) (va_runV (As := [.int 1, .int 1]) (rest := []) ⟨hx, hb, hml, hown, hts⟩ (c_X_find l D h cZ _ (F_X_find q (0 : Int32) (0 : Int32)) (1 : Int32) (1 : Int32) (by unfold vp_in; decide) (by decide)) (cwV 2 hts (gd_V q_823 q_825 q_27 q_40 q_826) rfl rfl rfl (by decide +kernel) ⟨Nat.le_of_ble_eq_true rfl, Nat.le_of_ble_eq_true rfl⟩) (kb_preV hN hK hP hD (va_recv hK hP (ci := 7) (q0 := 0) rfl rfl)) rfl rfl hl.1 rfl (lv_room (Nat.le_of_ble_eq_true rfl)) dX_turn_507 ⟨Nat.zero_le _, Nat.zero_le _⟩) hP hD hS hA (fun H locs hP hD hS => ?_)
            refine lv_iconst (v := 0) hx hb dX_turn_510 (by decide) ?_
            refine lv_istore (lv' := [(6, .int 0), (5, .int y0), (0, .ref (h 0)), (1, .int x1), (2, .int x2), (3, .int x3), (4, .int x4)]) hx hb dX_turn_511 hl (by decide) rfl (fun ls hl => ?_)
            exact k_513 4 0 (F_X_find (F_X_find q (0 : Int32) (0 : Int32)) (1 : Int32) (1 : Int32)) x1 x2 x3 x4 y0 _ _ _ (by omega) (by first | exact zs23 | (simp only [fun q a z => find_kp q a z (k := 23) (by decide), fun q => units_kp q (k := 23) (by decide), fun q => first_kp q (k := 23) (by decide), fun q => others_kp q (k := 23) (by decide)]; exact zs23)) (by first | exact zs28 | (simp only [fun q a z => find_kp q a z (k := 28) (by decide), fun q => units_kp q (k := 28) (by decide), fun q => first_kp q (k := 28) (by decide), fun q => others_kp q (k := 28) (by decide)]; exact zs28)) (by first | exact zs22 | (simp only [fun q a z => find_kp q a z (k := 22) (by decide), fun q => units_kp q (k := 22) (by decide), fun q => first_kp q (k := 22) (by decide), fun q => others_kp q (k := 22) (by decide)]; exact zs22)) e hP hD hS (lv_sub hl [2, 3, 4, 5, 6, 1, 0] rfl)
          · have e := e.trans (if_neg c_27)
            refine lv_iload hx hb dX_turn_485 (lv_at hl 0 rfl) ?_
            refine lv_if_ne (tgt := 506) hx hb dX_turn_487 (by decide) (fun _ => ?_) (fun c9 => absurd c9 c_26)
            refine lv_iconst (v := 0) hx hb dX_turn_506 (by decide) ?_
            refine kb_callv (wf := mw h cZ) (u := F_X_find (F_X_find q (0 : Int32) (0 : Int32)) (1 : Int32) (0 : Int32)) (va_runV (As := [.int 1, .int 0]) (rest := []) ⟨hx, hb, hml, hown, hts⟩ (c_X_find l D h cZ _ (F_X_find q (0 : Int32) (0 : Int32)) (1 : Int32) (0 : Int32) (by unfold vp_in; decide) (by decide)) (cwV 2 hts (gd_V q_823 q_825 q_27 q_40 q_826) rfl rfl rfl (by decide +kernel) ⟨Nat.le_of_ble_eq_true rfl, Nat.le_of_ble_eq_true rfl⟩) (kb_preV hN hK hP hD (va_recv hK hP (ci := 7) (q0 := 0) rfl rfl)) rfl rfl hl.1 rfl (lv_room (Nat.le_of_ble_eq_true rfl)) dX_turn_507 ⟨Nat.zero_le _, Nat.zero_le _⟩) hP hD hS hA (fun H locs hP hD hS => ?_)
            refine lv_iconst (v := 0) hx hb dX_turn_510 (by decide) ?_
            refine lv_istore (lv' := [(6, .int 0), (5, .int y0), (0, .ref (h 0)), (1, .int x1), (2, .int x2), (3, .int x3), (4, .int x4)]) hx hb dX_turn_511 hl (by decide) rfl (fun ls hl => ?_)
            exact k_513 4 0 (F_X_find (F_X_find q (0 : Int32) (0 : Int32)) (1 : Int32) (0 : Int32)) x1 x2 x3 x4 y0 _ _ _ (by omega) (by first | exact zs23 | (simp only [fun q a z => find_kp q a z (k := 23) (by decide), fun q => units_kp q (k := 23) (by decide), fun q => first_kp q (k := 23) (by decide), fun q => others_kp q (k := 23) (by decide)]; exact zs23)) (by first | exact zs28 | (simp only [fun q a z => find_kp q a z (k := 28) (by decide), fun q => units_kp q (k := 28) (by decide), fun q => first_kp q (k := 28) (by decide), fun q => others_kp q (k := 28) (by decide)]; exact zs28)) (by first | exact zs22 | (simp only [fun q a z => find_kp q a z (k := 22) (by decide), fun q => units_kp q (k := 22) (by decide), fun q => first_kp q (k := 22) (by decide), fun q => others_kp q (k := 22) (by decide)]; exact zs22)) e hP hD hS (lv_sub hl [2, 3, 4, 5, 6, 1, 0] rfl)
        · have e := e.trans (if_pos c_26)
          refine lv_aload_n hx hb dX_turn_447 rfl (lv_at hl 1 rfl) ?_
          refine va_get (D := D) (ci := 7) (v := .int (q.1 24)) (C := "BoilerDeskModel") (T := TX) (N := 43) hx hb hts inX hown hK hP 0 rfl rfl 30 (by decide) (hts _ q_673) (fun _ h9 => h9) rfl dX_turn_448 ?_
          refine lv_iload_n hx hb dX_turn_451 rfl (lv_at hl 4 rfl) ?_
          refine lv_iload hx hb dX_turn_452 (lv_at hl 5 rfl) ?_
          refine kb_call0 (r := (F_X_in (q.1 24) x3 x4)) (va_runS (As := [.int (q.1 24), .int x3, .int x4]) (rest := [.int 0, .ref (h 0)]) ⟨hx, hb, hml, hown, hts⟩ (c_X_in l D _ (q.1 24) x3 x4) (va_cwS 3 hts (gd_S q_784 q_785 q_40 q_786) rfl rfl rfl (by decide +kernel) ⟨Nat.le_of_ble_eq_true rfl, Nat.le_of_ble_eq_true rfl⟩) (kb_pre0 hN hK) rfl rfl hl.1 rfl (lv_room (Nat.le_of_ble_eq_true rfl)) dX_turn_454 ⟨Nat.zero_le _, Nat.zero_le _⟩) hP hS hA (fun H locs hP hS => ?_)
          refine lv_if_ne (tgt := 464) hx hb dX_turn_457 (by decide) (fun c_28 => ?_) (fun c_28 => ?_)
          · have e := e.trans (if_neg c_28)
            refine lv_iconst (v := 0) hx hb dX_turn_464 (by decide) ?_
            refine kb_callv (wf := mw h cZ) (u := F_X_find q (0 : Int32) (0 : Int32)) (va_runV (As := [.int 0, .int 0]) (rest := []) ⟨hx, hb, hml, hown, hts⟩ (c_X_find l D h cZ _ q (0 : Int32) (0 : Int32) (by unfold vp_in; decide) (by decide)) (cwV 2 hts (gd_V q_823 q_825 q_27 q_40 q_826) rfl rfl rfl (by decide +kernel) ⟨Nat.le_of_ble_eq_true rfl, Nat.le_of_ble_eq_true rfl⟩) (kb_preV hN hK hP hD (va_recv hK hP (ci := 7) (q0 := 0) rfl rfl)) rfl rfl hl.1 rfl (lv_room (Nat.le_of_ble_eq_true rfl)) dX_turn_465 ⟨Nat.zero_le _, Nat.zero_le _⟩) hP hD hS hA (fun H locs hP hD hS => ?_)
            refine lv_aload_n hx hb dX_turn_468 rfl (lv_at hl 1 rfl) ?_
            refine lv_iconst (v := 1) hx hb dX_turn_469 (by decide) ?_
            refine lv_aload_n hx hb dX_turn_470 rfl (lv_at hl 1 rfl) ?_
            refine va_get (D := D) (ci := 7) (v := .int ((F_X_find q (0 : Int32) (0 : Int32)).1 25)) (C := "BoilerDeskModel") (T := TX) (N := 43) hx hb hts inX hown hK hP 0 rfl rfl 31 (by decide) (hts _ q_674) (fun _ h9 => h9) rfl dX_turn_471 ?_
            refine lv_iconst (v := 0) hx hb dX_turn_474 (by decide) ?_
            refine lv_aload_n hx hb dX_turn_475 rfl (lv_at hl 1 rfl) ?_
            refine va_get (D := D) (ci := 7) (v := .int ((F_X_find q (0 : Int32) (0 : Int32)).1 6)) (C := "BoilerDeskModel") (T := TX) (N := 43) hx hb hts inX hown hK hP 0 rfl rfl 6 (by decide) (hts _ q_649) (fun _ h9 => h9) rfl dX_turn_476 ?_
            refine kb_call0 (r := (F_X_in ((F_X_find q (0 : Int32) (0 : Int32)).1 25) (0 : Int32) ((F_X_find q (0 : Int32) (0 : Int32)).1 6))) (va_runS (As := [.int ((F_X_find q (0 : Int32) (0 : Int32)).1 25), .int 0, .int ((F_X_find q (0 : Int32) (0 : Int32)).1 6)]) (rest := [.int 1, .ref (h 0)]) ⟨hx, hb, hml, hown, hts⟩ (c_X_in l D _ ((F_X_find q (0 : Int32) (0 : Int32)).1 25) (0 : Int32) ((F_X_find q (0 : Int32) (0 : Int32)).1 6)) (va_cwS 3 hts (gd_S q_784 q_785 q_40 q_786) rfl rfl rfl (by decide +kernel) ⟨Nat.le_of_ble_eq_true rfl, Nat.le_of_ble_eq_true rfl⟩) (kb_pre0 hN hK) rfl rfl hl.1 rfl (lv_room (Nat.le_of_ble_eq_true rfl)) dX_turn_479 ⟨Nat.zero_le _, Nat.zero_le _⟩) hP hS hA (fun H locs hP hS => ?_)
            refine lv_if_eq (tgt := 502) hx hb dX_turn_482 (by decide) (fun c_29 => ?_) (fun c_29 => ?_)
            · have e := e.trans (if_pos c_29)
              refine lv_iconst (v := 1) hx hb dX_turn_502 (by decide) ?_
              refine lv_goto (tgt := 507) hx hb dX_turn_503 (by decide) ?_
              refine kb_callv (wf := mw h cZ) (u := F_X_find (F_X_find q (0 : Int32) (0 : Int32)) (1 : Int32) (1 : Int32)) (va_runV (As := [.int 1, .int 1]) (rest := []) ⟨hx, hb, hml, hown, hts⟩ (c_X_find l D h cZ _ (F_X_find q (0 : Int32) (0 : Int32)) (1 : Int32) (1 : Int32) (by unfold vp_in; decide) (by decide)) (cwV 2 hts (gd_V q_823 q_825 q_27 q_40 q_826) rfl rfl rfl (by decide +kernel) ⟨Nat.le_of_ble_eq_true rfl, Nat.le_of_ble_eq_true rfl⟩) (kb_preV hN hK hP hD (va_recv hK hP (ci := 7) (q0 := 0) rfl rfl)) rfl rfl hl.1 rfl (lv_room (Nat.le_of_ble_eq_true rfl)) dX_turn_507 ⟨Nat.zero_le _, Nat.zero_le _⟩) hP hD hS hA (fun H locs hP hD hS => ?_)
              refine lv_iconst (v := 0) hx hb dX_turn_510 (by decide) ?_
              refine lv_istore (lv' := [(6, .int 0), (5, .int y0), (0, .ref (h 0)), (1, .int x1), (2, .int x2), (3, .int x3), (4, .int x4)]) hx hb dX_turn_511 hl (by decide) rfl (fun ls hl => ?_)
              exact k_513 4 0 (F_X_find (F_X_find q (0 : Int32) (0 : Int32)) (1 : Int32) (1 : Int32)) x1 x2 x3 x4 y0 _ _ _ (by omega) (by first | exact zs23 | (simp only [fun q a z => find_kp q a z (k := 23) (by decide), fun q => units_kp q (k := 23) (by decide), fun q => first_kp q (k := 23) (by decide), fun q => others_kp q (k := 23) (by decide)]; exact zs23)) (by first | exact zs28 | (simp only [fun q a z => find_kp q a z (k := 28) (by decide), fun q => units_kp q (k := 28) (by decide), fun q => first_kp q (k := 28) (by decide), fun q => others_kp q (k := 28) (by decide)]; exact zs28)) (by first | exact zs22 | (simp only [fun q a z => find_kp q a z (k := 22) (by decide), fun q => units_kp q (k := 22) (by decide), fun q => first_kp q (k := 22) (by decide), fun q => others_kp q (k := 22) (by decide)]; exact zs22)) e hP hD hS (lv_sub hl [2, 3, 4, 5, 6, 1, 0] rfl)
            · have e := e.trans (if_neg c_29)
              refine lv_iload hx hb dX_turn_485 (lv_at hl 0 rfl) ?_
              refine lv_if_ne (tgt := 506) hx hb dX_turn_487 (by decide) (fun c9 => absurd c_26 c9) (fun _ => ?_)
              refine lv_aload_n hx hb dX_turn_490 rfl (lv_at hl 1 rfl) ?_
              refine va_get (D := D) (ci := 7) (v := .int ((F_X_find q (0 : Int32) (0 : Int32)).1 25)) (C := "BoilerDeskModel") (T := TX) (N := 43) hx hb hts inX hown hK hP 0 rfl rfl 31 (by decide) (hts _ q_674) (fun _ h9 => h9) rfl dX_turn_491 ?_
              refine lv_iload_n hx hb dX_turn_494 rfl (lv_at hl 2 rfl) ?_
              refine lv_iload_n hx hb dX_turn_495 rfl (lv_at hl 3 rfl) ?_
              refine kb_call0 (r := (F_X_in ((F_X_find q (0 : Int32) (0 : Int32)).1 25) x1 x2)) (va_runS (As := [.int ((F_X_find q (0 : Int32) (0 : Int32)).1 25), .int x1, .int x2]) (rest := [.int 1, .ref (h 0)]) ⟨hx, hb, hml, hown, hts⟩ (c_X_in l D _ ((F_X_find q (0 : Int32) (0 : Int32)).1 25) x1 x2) (va_cwS 3 hts (gd_S q_784 q_785 q_40 q_786) rfl rfl rfl (by decide +kernel) ⟨Nat.le_of_ble_eq_true rfl, Nat.le_of_ble_eq_true rfl⟩) (kb_pre0 hN hK) rfl rfl hl.1 rfl (lv_room (Nat.le_of_ble_eq_true rfl)) dX_turn_496 ⟨Nat.zero_le _, Nat.zero_le _⟩) hP hS hA (fun H locs hP hS => ?_)
              refine lv_if_ne (tgt := 506) hx hb dX_turn_499 (by decide) (fun c_30 => ?_) (fun c_30 => ?_)
              · have e := e.trans (if_neg c_30)
                refine lv_iconst (v := 0) hx hb dX_turn_506 (by decide) ?_
                refine kb_callv (wf := mw h cZ) (u := F_X_find (F_X_find q (0 : Int32) (0 : Int32)) (1 : Int32) (0 : Int32)) (va_runV (As := [.int 1, .int 0]) (rest := []) ⟨hx, hb, hml, hown, hts⟩ (c_X_find l D h cZ _ (F_X_find q (0 : Int32) (0 : Int32)) (1 : Int32) (0 : Int32) (by unfold vp_in; decide) (by decide)) (cwV 2 hts (gd_V q_823 q_825 q_27 q_40 q_826) rfl rfl rfl (by decide +kernel) ⟨Nat.le_of_ble_eq_true rfl, Nat.le_of_ble_eq_true rfl⟩) (kb_preV hN hK hP hD (va_recv hK hP (ci := 7) (q0 := 0) rfl rfl)) rfl rfl hl.1 rfl (lv_room (Nat.le_of_ble_eq_true rfl)) dX_turn_507 ⟨Nat.zero_le _, Nat.zero_le _⟩) hP hD hS hA (fun H locs hP hD hS => ?_)
                refine lv_iconst (v := 0) hx hb dX_turn_510 (by decide) ?_
                refine lv_istore (lv' := [(6, .int 0), (5, .int y0), (0, .ref (h 0)), (1, .int x1), (2, .int x2), (3, .int x3), (4, .int x4)]) hx hb dX_turn_511 hl (by decide) rfl (fun ls hl => ?_)
                exact k_513 4 0 (F_X_find (F_X_find q (0 : Int32) (0 : Int32)) (1 : Int32) (0 : Int32)) x1 x2 x3 x4 y0 _ _ _ (by omega) (by first | exact zs23 | (simp only [fun q a z => find_kp q a z (k := 23) (by decide), fun q => units_kp q (k := 23) (by decide), fun q => first_kp q (k := 23) (by decide), fun q => others_kp q (k := 23) (by decide)]; exact zs23)) (by first | exact zs28 | (simp only [fun q a z => find_kp q a z (k := 28) (by decide), fun q => units_kp q (k := 28) (by decide), fun q => first_kp q (k := 28) (by decide), fun q => others_kp q (k := 28) (by decide)]; exact zs28)) (by first | exact zs22 | (simp only [fun q a z => find_kp q a z (k := 22) (by decide), fun q => units_kp q (k := 22) (by decide), fun q => first_kp q (k := 22) (by decide), fun q => others_kp q (k := 22) (by decide)]; exact zs22)) e hP hD hS (lv_sub hl [2, 3, 4, 5, 6, 1, 0] rfl)
              · have e := e.trans (if_pos c_30)
                refine lv_iconst (v := 1) hx hb dX_turn_502 (by decide) ?_
                refine lv_goto (tgt := 507) hx hb dX_turn_503 (by decide) ?_
                refine kb_callv (wf := mw h cZ) (u := F_X_find (F_X_find q (0 : Int32) (0 : Int32)) (1 : Int32) (1 : Int32)) (va_runV (As := [.int 1, .int 1]) (rest := []) ⟨hx, hb, hml, hown, hts⟩ (c_X_find l D h cZ _ (F_X_find q (0 : Int32) (0 : Int32)) (1 : Int32) (1 : Int32) (by unfold vp_in; decide) (by decide)) (cwV 2 hts (gd_V q_823 q_825 q_27 q_40 q_826) rfl rfl rfl (by decide +kernel) ⟨Nat.le_of_ble_eq_true rfl, Nat.le_of_ble_eq_true rfl⟩) (kb_preV hN hK hP hD (va_recv hK hP (ci := 7) (q0 := 0) rfl rfl)) rfl rfl hl.1 rfl (lv_room (Nat.le_of_ble_eq_true rfl)) dX_turn_507 ⟨Nat.zero_le _, Nat.zero_le _⟩) hP hD hS hA (fun H locs hP hD hS => ?_)
                refine lv_iconst (v := 0) hx hb dX_turn_510 (by decide) ?_
                refine lv_istore (lv' := [(6, .int 0), (5, .int y0), (0, .ref (h 0)), (1, .int x1), (2, .int x2), (3, .int x3), (4, .int x4)]) hx hb dX_turn_511 hl (by decide) rfl (fun ls hl => ?_)
                exact k_513 4 0 (F_X_find (F_X_find q (0 : Int32) (0 : Int32)) (1 : Int32) (1 : Int32)) x1 x2 x3 x4 y0 _ _ _ (by omega) (by first | exact zs23 | (simp only [fun q a z => find_kp q a z (k := 23) (by decide), fun q => units_kp q (k := 23) (by decide), fun q => first_kp q (k := 23) (by decide), fun q => others_kp q (k := 23) (by decide)]; exact zs23)) (by first | exact zs28 | (simp only [fun q a z => find_kp q a z (k := 28) (by decide), fun q => units_kp q (k := 28) (by decide), fun q => first_kp q (k := 28) (by decide), fun q => others_kp q (k := 28) (by decide)]; exact zs28)) (by first | exact zs22 | (simp only [fun q a z => find_kp q a z (k := 22) (by decide), fun q => units_kp q (k := 22) (by decide), fun q => first_kp q (k := 22) (by decide), fun q => others_kp q (k := 22) (by decide)]; exact zs22)) e hP hD hS (lv_sub hl [2, 3, 4, 5, 6, 1, 0] rfl)
          · have e := e.trans (if_pos c_28)
            refine lv_iconst (v := 1) hx hb dX_turn_460 (by decide) ?_
            refine lv_goto (tgt := 465) hx hb dX_turn_461 (by decide) ?_
            refine kb_callv (wf := mw h cZ) (u := F_X_find q (0 : Int32) (1 : Int32)) (va_runV (As := [.int 0, .int 1]) (rest := []) ⟨hx, hb, hml, hown, hts⟩ (c_X_find l D h cZ _ q (0 : Int32) (1 : Int32) (by unfold vp_in; decide) (by decide)) (cwV 2 hts (gd_V q_823 q_825 q_27 q_40 q_826) rfl rfl rfl (by decide +kernel) ⟨Nat.le_of_ble_eq_true rfl, Nat.le_of_ble_eq_true rfl⟩) (kb_preV hN hK hP hD (va_recv hK hP (ci := 7) (q0 := 0) rfl rfl)) rfl rfl hl.1 rfl (lv_room (Nat.le_of_ble_eq_true rfl)) dX_turn_465 ⟨Nat.zero_le _, Nat.zero_le _⟩) hP hD hS hA (fun H locs hP hD hS => ?_)
            refine lv_aload_n hx hb dX_turn_468 rfl (lv_at hl 1 rfl) ?_
            refine lv_iconst (v := 1) hx hb dX_turn_469 (by decide) ?_
            refine lv_aload_n hx hb dX_turn_470 rfl (lv_at hl 1 rfl) ?_
            refine va_get (D := D) (ci := 7) (v := .int ((F_X_find q (0 : Int32) (1 : Int32)).1 25)) (C := "BoilerDeskModel") (T := TX) (N := 43) hx hb hts inX hown hK hP 0 rfl rfl 31 (by decide) (hts _ q_674) (fun _ h9 => h9) rfl dX_turn_471 ?_
            refine lv_iconst (v := 0) hx hb dX_turn_474 (by decide) ?_
            refine lv_aload_n hx hb dX_turn_475 rfl (lv_at hl 1 rfl) ?_
            refine va_get (D := D) (ci := 7) (v := .int ((F_X_find q (0 : Int32) (1 : Int32)).1 6)) (C := "BoilerDeskModel") (T := TX) (N := 43) hx hb hts inX hown hK hP 0 rfl rfl 6 (by decide) (hts _ q_649) (fun _ h9 => h9) rfl dX_turn_476 ?_
            refine kb_call0 (r := (F_X_in ((F_X_find q (0 : Int32) (1 : Int32)).1 25) (0 : Int32) ((F_X_find q (0 : Int32) (1 : Int32)).1 6))) (va_runS (As := [.int ((F_X_find q (0 : Int32) (1 : Int32)).1 25), .int 0, .int ((F_X_find q (0 : Int32) (1 : Int32)).1 6)]) (rest := [.int 1, .ref (h 0)]) ⟨hx, hb, hml, hown, hts⟩ (c_X_in l D _ ((F_X_find q (0 : Int32) (1 : Int32)).1 25) (0 : Int32) ((F_X_find q (0 : Int32) (1 : Int32)).1 6)) (va_cwS 3 hts (gd_S q_784 q_785 q_40 q_786) rfl rfl rfl (by decide +kernel) ⟨Nat.le_of_ble_eq_true rfl, Nat.le_of_ble_eq_true rfl⟩) (kb_pre0 hN hK) rfl rfl hl.1 rfl (lv_room (Nat.le_of_ble_eq_true rfl)) dX_turn_479 ⟨Nat.zero_le _, Nat.zero_le _⟩) hP hS hA (fun H locs hP hS => ?_)
            refine lv_if_eq (tgt := 502) hx hb dX_turn_482 (by decide) (fun c_31 => ?_) (fun c_31 => ?_)
            · have e := e.trans (if_pos c_31)
              refine lv_iconst (v := 1) hx hb dX_turn_502 (by decide) ?_
              refine lv_goto (tgt := 507) hx hb dX_turn_503 (by decide) ?_
              refine kb_callv (wf := mw h cZ) (u := F_X_find (F_X_find q (0 : Int32) (1 : Int32)) (1 : Int32) (1 : Int32)) (va_runV (As := [.int 1, .int 1]) (rest := []) ⟨hx, hb, hml, hown, hts⟩ (c_X_find l D h cZ _ (F_X_find q (0 : Int32) (1 : Int32)) (1 : Int32) (1 : Int32) (by unfold vp_in; decide) (by decide)) (cwV 2 hts (gd_V q_823 q_825 q_27 q_40 q_826) rfl rfl rfl (by decide +kernel) ⟨Nat.le_of_ble_eq_true rfl, Nat.le_of_ble_eq_true rfl⟩) (kb_preV hN hK hP hD (va_recv hK hP (ci := 7) (q0 := 0) rfl rfl)) rfl rfl hl.1 rfl (lv_room (Nat.le_of_ble_eq_true rfl)) dX_turn_507 ⟨Nat.zero_le _, Nat.zero_le _⟩) hP hD hS hA (fun H locs hP hD hS => ?_)
              refine lv_iconst (v := 0) hx hb dX_turn_510 (by decide) ?_
              refine lv_istore (lv' := [(6, .int 0), (5, .int y0), (0, .ref (h 0)), (1, .int x1), (2, .int x2), (3, .int x3), (4, .int x4)]) hx hb dX_turn_511 hl (by decide) rfl (fun ls hl => ?_)
              exact k_513 4 0 (F_X_find (F_X_find q (0 : Int32) (1 : Int32)) (1 : Int32) (1 : Int32)) x1 x2 x3 x4 y0 _ _ _ (by omega) (by first | exact zs23 | (simp only [fun q a z => find_kp q a z (k := 23) (by decide), fun q => units_kp q (k := 23) (by decide), fun q => first_kp q (k := 23) (by decide), fun q => others_kp q (k := 23) (by decide)]; exact zs23)) (by first | exact zs28 | (simp only [fun q a z => find_kp q a z (k := 28) (by decide), fun q => units_kp q (k := 28) (by decide), fun q => first_kp q (k := 28) (by decide), fun q => others_kp q (k := 28) (by decide)]; exact zs28)) (by first | exact zs22 | (simp only [fun q a z => find_kp q a z (k := 22) (by decide), fun q => units_kp q (k := 22) (by decide), fun q => first_kp q (k := 22) (by decide), fun q => others_kp q (k := 22) (by decide)]; exact zs22)) e hP hD hS (lv_sub hl [2, 3, 4, 5, 6, 1, 0] rfl)
            · have e := e.trans (if_neg c_31)
              refine lv_iload hx hb dX_turn_485 (lv_at hl 0 rfl) ?_
              refine lv_if_ne (tgt := 506) hx hb dX_turn_487 (by decide) (fun c9 => absurd c_26 c9) (fun _ => ?_)
              refine lv_aload_n hx hb dX_turn_490 rfl (lv_at hl 1 rfl) ?_
              refine va_get (D := D) (ci := 7) (v := .int ((F_X_find q (0 : Int32) (1 : Int32)).1 25)) (C := "BoilerDeskModel") (T := TX) (N := 43) hx hb hts inX hown hK hP 0 rfl rfl 31 (by decide) (hts _ q_674) (fun _ h9 => h9) rfl dX_turn_491 ?_
              refine lv_iload_n hx hb dX_turn_494 rfl (lv_at hl 2 rfl) ?_
              refine lv_iload_n hx hb dX_turn_495 rfl (lv_at hl 3 rfl) ?_
              refine kb_call0 (r := (F_X_in ((F_X_find q (0 : Int32) (1 : Int32)).1 25) x1 x2)) (va_runS (As := [.int ((F_X_find q (0 : Int32) (1 : Int32)).1 25), .int x1, .int x2]) (rest := [.int 1, .ref (h 0)]) ⟨hx, hb, hml, hown, hts⟩ (c_X_in l D _ ((F_X_find q (0 : Int32) (1 : Int32)).1 25) x1 x2) (va_cwS 3 hts (gd_S q_784 q_785 q_40 q_786) rfl rfl rfl (by decide +kernel) ⟨Nat.le_of_ble_eq_true rfl, Nat.le_of_ble_eq_true rfl⟩) (kb_pre0 hN hK) rfl rfl hl.1 rfl (lv_room (Nat.le_of_ble_eq_true rfl)) dX_turn_496 ⟨Nat.zero_le _, Nat.zero_le _⟩) hP hS hA (fun H locs hP hS => ?_)
              refine lv_if_ne (tgt := 506) hx hb dX_turn_499 (by decide) (fun c_32 => ?_) (fun c_32 => ?_)
              · have e := e.trans (if_neg c_32)
                refine lv_iconst (v := 0) hx hb dX_turn_506 (by decide) ?_
                refine kb_callv (wf := mw h cZ) (u := F_X_find (F_X_find q (0 : Int32) (1 : Int32)) (1 : Int32) (0 : Int32)) (va_runV (As := [.int 1, .int 0]) (rest := []) ⟨hx, hb, hml, hown, hts⟩ (c_X_find l D h cZ _ (F_X_find q (0 : Int32) (1 : Int32)) (1 : Int32) (0 : Int32) (by unfold vp_in; decide) (by decide)) (cwV 2 hts (gd_V q_823 q_825 q_27 q_40 q_826) rfl rfl rfl (by decide +kernel) ⟨Nat.le_of_ble_eq_true rfl, Nat.le_of_ble_eq_true rfl⟩) (kb_preV hN hK hP hD (va_recv hK hP (ci := 7) (q0 := 0) rfl rfl)) rfl rfl hl.1 rfl (lv_room (Nat.le_of_ble_eq_true rfl)) dX_turn_507 ⟨Nat.zero_le _, Nat.zero_le _⟩) hP hD hS hA (fun H locs hP hD hS => ?_)
                refine lv_iconst (v := 0) hx hb dX_turn_510 (by decide) ?_
                refine lv_istore (lv' := [(6, .int 0), (5, .int y0), (0, .ref (h 0)), (1, .int x1), (2, .int x2), (3, .int x3), (4, .int x4)]) hx hb dX_turn_511 hl (by decide) rfl (fun ls hl => ?_)
                exact k_513 4 0 (F_X_find (F_X_find q (0 : Int32) (1 : Int32)) (1 : Int32) (0 : Int32)) x1 x2 x3 x4 y0 _ _ _ (by omega) (by first | exact zs23 | (simp only [fun q a z => find_kp q a z (k := 23) (by decide), fun q => units_kp q (k := 23) (by decide), fun q => first_kp q (k := 23) (by decide), fun q => others_kp q (k := 23) (by decide)]; exact zs23)) (by first | exact zs28 | (simp only [fun q a z => find_kp q a z (k := 28) (by decide), fun q => units_kp q (k := 28) (by decide), fun q => first_kp q (k := 28) (by decide), fun q => others_kp q (k := 28) (by decide)]; exact zs28)) (by first | exact zs22 | (simp only [fun q a z => find_kp q a z (k := 22) (by decide), fun q => units_kp q (k := 22) (by decide), fun q => first_kp q (k := 22) (by decide), fun q => others_kp q (k := 22) (by decide)]; exact zs22)) e hP hD hS (lv_sub hl [2, 3, 4, 5, 6, 1, 0] rfl)
              · have e := e.trans (if_pos c_32)
                refine lv_iconst (v := 1) hx hb dX_turn_502 (by decide) ?_
                refine lv_goto (tgt := 507) hx hb dX_turn_503 (by decide) ?_
                refine kb_callv (wf := mw h cZ) (u := F_X_find (F_X_find q (0 : Int32) (1 : Int32)) (1 : Int32) (1 : Int32)) (va_runV (As := [.int 1, .int 1]) (rest := []) ⟨hx, hb, hml, hown, hts⟩ (c_X_find l D h cZ _ (F_X_find q (0 : Int32) (1 : Int32)) (1 : Int32) (1 : Int32) (by unfold vp_in; decide) (by decide)) (cwV 2 hts (gd_V q_823 q_825 q_27 q_40 q_826) rfl rfl rfl (by decide +kernel) ⟨Nat.le_of_ble_eq_true rfl, Nat.le_of_ble_eq_true rfl⟩) (kb_preV hN hK hP hD (va_recv hK hP (ci := 7) (q0 := 0) rfl rfl)) rfl rfl hl.1 rfl (lv_room (Nat.le_of_ble_eq_true rfl)) dX_turn_507 ⟨Nat.zero_le _, Nat.zero_le _⟩) hP hD hS hA (fun H locs hP hD hS => ?_)
                refine lv_iconst (v := 0) hx hb dX_turn_510 (by decide) ?_
                refine lv_istore (lv' := [(6, .int 0), (5, .int y0), (0, .ref (h 0)), (1, .int x1), (2, .int x2), (3, .int x3), (4, .int x4)]) hx hb dX_turn_511 hl (by decide) rfl (fun ls hl => ?_)
                exact k_513 4 0 (F_X_find (F_X_find q (0 : Int32) (1 : Int32)) (1 : Int32) (1 : Int32)) x1 x2 x3 x4 y0 _ _ _ (by omega) (by first | exact zs23 | (simp only [fun q a z => find_kp q a z (k := 23) (by decide), fun q => units_kp q (k := 23) (by decide), fun q => first_kp q (k := 23) (by decide), fun q => others_kp q (k := 23) (by decide)]; exact zs23)) (by first | exact zs28 | (simp only [fun q a z => find_kp q a z (k := 28) (by decide), fun q => units_kp q (k := 28) (by decide), fun q => first_kp q (k := 28) (by decide), fun q => others_kp q (k := 28) (by decide)]; exact zs28)) (by first | exact zs22 | (simp only [fun q a z => find_kp q a z (k := 22) (by decide), fun q => units_kp q (k := 22) (by decide), fun q => first_kp q (k := 22) (by decide), fun q => others_kp q (k := 22) (by decide)]; exact zs22)) e hP hD hS (lv_sub hl [2, 3, 4, 5, 6, 1, 0] rfl)
  have k_411 : ∀ (q : (Nat → Int32) × (Nat → Nat → Int32)) (x1 : Int32) (x2 : Int32) (x3 : Int32) (x4 : Int32) (x5 : Int32) (H : Heap) (locs : List Loc) (ls : Array Slot), (q.1 23 = 0 ∨ q.1 23 = 1) → (q.1 28 = 0 ∨ q.1 28 = 1) → (q.1 22 = 0 ∨ q.1 22 = 1) → F_X_turn q0 = K_X_turn_411 q x1 x2 x3 x4 x5 → va_P D vwCl (mw h cZ q) H → va_D A (mw h cZ q) → va_S A s.heap H locs → lv_has ls 7 [(0, .ref (h 0)), (1, .int x1), (2, .int x2), (3, .int x3), (4, .int x4), (5, .int x5)] → W p l e ({ frames := 2, cells := 0, slots := 0, locals := 47 }) s m [.ref (h 0)].toArray below meth c H locs 0 0 (MQ below (va_Qi (fun r' u' => r' = (F_X_turn q0).1 ∧ u' = (F_X_turn q0).2) (kb_E D [(cZ, .boolean)] (mw h cZ) A) A) [.ref (h 0)].toArray s 0 0 A) (F0 m 411 ls []) := by
      intro q x1 x2 x3 x4 x5 H locs ls zs23 zs28 zs22 e hP hD hS hl
      refine lv_aload_n hx hb dX_turn_411 rfl (lv_at hl 0 rfl) ?_
      refine va_get (D := D) (ci := 7) (v := .int (q.1 10)) (C := "BoilerDeskModel") (T := TX) (N := 43) hx hb hts inX hown hK hP 0 rfl rfl 10 (by decide) (hts _ q_653) (fun _ h9 => h9) rfl dX_turn_412 ?_
      refine lv_if_ne (tgt := 422) hx hb dX_turn_415 (by decide) (fun c_33 => ?_) (fun c_33 => ?_)
      · have e := e.trans (if_neg c_33)
        refine lv_iconst (v := 0) hx hb dX_turn_422 (by decide) ?_
        exact k_423 q x1 x2 x3 x4 x5 (0 : Int32) _ _ _ zs23 zs28 zs22 e hP hD hS (lv_sub hl [0, 1, 2, 3, 4, 5] rfl)
      · have e := e.trans (if_pos c_33)
        refine lv_iconst (v := 1) hx hb dX_turn_418 (by decide) ?_
        refine lv_goto (tgt := 423) hx hb dX_turn_419 (by decide) ?_
        exact k_423 q x1 x2 x3 x4 x5 (1 : Int32) _ _ _ zs23 zs28 zs22 e hP hD hS (lv_sub hl [0, 1, 2, 3, 4, 5] rfl)
  have k_387 : ∀ (q : (Nat → Int32) × (Nat → Nat → Int32)) (x1 : Int32) (x2 : Int32) (x3 : Int32) (x4 : Int32) (x5 : Int32) (y0 : Int32) (H : Heap) (locs : List Loc) (ls : Array Slot), (q.1 23 = 0 ∨ q.1 23 = 1) → (q.1 28 = 0 ∨ q.1 28 = 1) → (q.1 22 = 0 ∨ q.1 22 = 1) → F_X_turn q0 = K_X_turn_387 q x1 x2 x3 x4 x5 y0 → va_P D vwCl (mw h cZ q) H → va_D A (mw h cZ q) → va_S A s.heap H locs → lv_has ls 7 [(0, .ref (h 0)), (1, .int x1), (2, .int x2), (3, .int x3), (4, .int x4), (5, .int x5)] → W p l e ({ frames := 2, cells := 0, slots := 0, locals := 47 }) s m [.ref (h 0)].toArray below meth c H locs 0 0 (MQ below (va_Qi (fun r' u' => r' = (F_X_turn q0).1 ∧ u' = (F_X_turn q0).2) (kb_E D [(cZ, .boolean)] (mw h cZ) A) A) [.ref (h 0)].toArray s 0 0 A) (F0 m 387 ls [.int y0]) := by
      intro q x1 x2 x3 x4 x5 y0 H locs ls zs23 zs28 zs22 e hP hD hS hl
      refine lv_istore (lv' := [(4, .int y0), (0, .ref (h 0)), (1, .int x1), (2, .int x2), (3, .int x3), (5, .int x5)]) hx hb dX_turn_387 hl (by decide) rfl (fun ls hl => ?_)
      refine lv_aload_n hx hb dX_turn_389 rfl (lv_at hl 1 rfl) ?_
      refine va_get (D := D) (ci := 7) (v := .int (q.1 10)) (C := "BoilerDeskModel") (T := TX) (N := 43) hx hb hts inX hown hK hP 0 rfl rfl 10 (by decide) (hts _ q_653) (fun _ h9 => h9) rfl dX_turn_390 ?_
      refine lv_if_ne (tgt := 411) hx hb dX_turn_393 (by decide) (fun c_34 => ?_) (fun c_34 => ?_)
      · have e := e.trans (if_neg c_34)
        exact k_411 q x1 x2 x3 y0 x5 _ _ _ zs23 zs28 zs22 e hP hD hS (lv_sub hl [1, 2, 3, 4, 0, 5] rfl)
      · have e := e.trans (if_pos c_34)
        refine lv_iconst (v := 0) hx hb dX_turn_396 (by decide) ?_
        refine lv_istore_n (lv' := [(1, .int 0), (4, .int y0), (0, .ref (h 0)), (2, .int x2), (3, .int x3), (5, .int x5)]) hx hb dX_turn_397 rfl hl (by decide) rfl (fun ls hl => ?_)
        refine lv_aload_n hx hb dX_turn_398 rfl (lv_at hl 2 rfl) ?_
        refine va_get (D := D) (ci := 7) (v := .int (q.1 6)) (C := "BoilerDeskModel") (T := TX) (N := 43) hx hb hts inX hown hK hP 0 rfl rfl 6 (by decide) (hts _ q_649) (fun _ h9 => h9) rfl dX_turn_399 ?_
        refine lv_istore_n (lv' := [(2, .int (q.1 6)), (1, .int 0), (4, .int y0), (0, .ref (h 0)), (3, .int x3), (5, .int x5)]) hx hb dX_turn_402 rfl hl (by decide) rfl (fun ls hl => ?_)
        refine lv_iconst (v := 0) hx hb dX_turn_403 (by decide) ?_
        refine lv_istore_n (lv' := [(3, .int 0), (2, .int (q.1 6)), (1, .int 0), (4, .int y0), (0, .ref (h 0)), (5, .int x5)]) hx hb dX_turn_404 rfl hl (by decide) rfl (fun ls hl => ?_)
        refine lv_aload_n hx hb dX_turn_405 rfl (lv_at hl 4 rfl) ?_
        refine va_get (D := D) (ci := 7) (v := .int (q.1 1)) (C := "BoilerDeskModel") (T := TX) (N := 43) hx hb hts inX hown hK hP 0 rfl rfl 1 (by decide) (hts _ q_644) (fun _ h9 => h9) rfl dX_turn_406 ?_
        refine lv_istore (lv' := [(4, .int (q.1 1)), (3, .int 0), (2, .int (q.1 6)), (1, .int 0), (0, .ref (h 0)), (5, .int x5)]) hx hb dX_turn_409 hl (by decide) rfl (fun ls hl => ?_)
        exact k_411 q (0 : Int32) (q.1 6) (0 : Int32) (q.1 1) x5 _ _ _ zs23 zs28 zs22 e hP hD hS (lv_sub hl [4, 3, 2, 1, 0, 5] rfl)
  have k_359 : ∀ (q : (Nat → Int32) × (Nat → Nat → Int32)) (x1 : Int32) (x2 : Int32) (x3 : Int32) (x4 : Int32) (x5 : Int32) (y0 : Int32) (H : Heap) (locs : List Loc) (ls : Array Slot), (q.1 23 = 0 ∨ q.1 23 = 1) → (q.1 28 = 0 ∨ q.1 28 = 1) → (q.1 22 = 0 ∨ q.1 22 = 1) → F_X_turn q0 = K_X_turn_359 q x1 x2 x3 x4 x5 y0 → va_P D vwCl (mw h cZ q) H → va_D A (mw h cZ q) → va_S A s.heap H locs → lv_has ls 7 [(0, .ref (h 0)), (1, .int x1), (2, .int x2), (3, .int x3), (4, .int x4), (5, .int x5)] → W p l e ({ frames := 2, cells := 0, slots := 0, locals := 47 }) s m [.ref (h 0)].toArray below meth c H locs 0 0 (MQ below (va_Qi (fun r' u' => r' = (F_X_turn q0).1 ∧ u' = (F_X_turn q0).2) (kb_E D [(cZ, .boolean)] (mw h cZ) A) A) [.ref (h 0)].toArray s 0 0 A) (F0 m 359 ls [.int y0]) := by
      intro q x1 x2 x3 x4 x5 y0 H locs ls zs23 zs28 zs22 e hP hD hS hl
      refine lv_istore_n (lv' := [(3, .int y0), (0, .ref (h 0)), (1, .int x1), (2, .int x2), (4, .int x4), (5, .int x5)]) hx hb dX_turn_359 rfl hl (by decide) rfl (fun ls hl => ?_)
      refine lv_iload hx hb dX_turn_360 (lv_at hl 4 rfl) ?_
      refine lv_if_ge (tgt := 369) hx hb dX_turn_362 (by decide) (fun c_35 => ?_) (fun c_35 => ?_)
      · have e := e.trans (if_pos c_35)
        refine lv_iload hx hb dX_turn_369 (lv_at hl 4 rfl) ?_
        refine lv_aload_n hx hb dX_turn_371 rfl (lv_at hl 1 rfl) ?_
        refine va_get (D := D) (ci := 7) (v := .int (q.1 1)) (C := "BoilerDeskModel") (T := TX) (N := 43) hx hb hts inX hown hK hP 0 rfl rfl 1 (by decide) (hts _ q_644) (fun _ h9 => h9) rfl dX_turn_372 ?_
        refine lv_icmp_le (tgt := 385) hx hb dX_turn_375 (by decide) (fun c_36 => ?_) (fun c_36 => ?_)
        · have e := e.trans (if_pos c_36)
          refine lv_iload hx hb dX_turn_385 (lv_at hl 4 rfl) ?_
          exact k_387 q x1 x2 y0 x4 x5 x4 _ _ _ zs23 zs28 zs22 e hP hD hS (lv_sub hl [1, 2, 3, 0, 4, 5] rfl)
        · have e := e.trans (if_neg c_36)
          refine lv_aload_n hx hb dX_turn_378 rfl (lv_at hl 1 rfl) ?_
          refine va_get (D := D) (ci := 7) (v := .int (q.1 1)) (C := "BoilerDeskModel") (T := TX) (N := 43) hx hb hts inX hown hK hP 0 rfl rfl 1 (by decide) (hts _ q_644) (fun _ h9 => h9) rfl dX_turn_379 ?_
          refine lv_goto (tgt := 387) hx hb dX_turn_382 (by decide) ?_
          exact k_387 q x1 x2 y0 x4 x5 (q.1 1) _ _ _ zs23 zs28 zs22 e hP hD hS (lv_sub hl [1, 2, 3, 0, 4, 5] rfl)
      · have e := e.trans (if_neg c_35)
        refine lv_iconst (v := 0) hx hb dX_turn_365 (by decide) ?_
        refine lv_goto (tgt := 387) hx hb dX_turn_366 (by decide) ?_
        exact k_387 q x1 x2 y0 x4 x5 (0 : Int32) _ _ _ zs23 zs28 zs22 e hP hD hS (lv_sub hl [1, 2, 3, 0, 4, 5] rfl)
  have k_213 : ∀ (n i : Nat) (q : (Nat → Int32) × (Nat → Nat → Int32)) (x1 : Int32) (x2 : Int32) (x3 : Int32) (x4 : Int32) (H : Heap) (locs : List Loc) (ls : Array Slot), i + n = 4 → (q.1 23 = 0 ∨ q.1 23 = 1) → (q.1 28 = 0 ∨ q.1 28 = 1) → (q.1 22 = 0 ∨ q.1 22 = 1) → F_X_turn q0 = K_X_turn_213 n i q x1 x2 x3 x4 → va_P D vwCl (mw h cZ q) H → va_D A (mw h cZ q) → va_S A s.heap H locs → lv_has ls 7 [(0, .ref (h 0)), (1, .int x1), (2, .int x2), (3, .int x3), (4, .int x4), (5, .int (nI i))] → W p l e ({ frames := 2, cells := 0, slots := 0, locals := 47 }) s m [.ref (h 0)].toArray below meth c H locs 0 0 (MQ below (va_Qi (fun r' u' => r' = (F_X_turn q0).1 ∧ u' = (F_X_turn q0).2) (kb_E D [(cZ, .boolean)] (mw h cZ) A) A) [.ref (h 0)].toArray s 0 0 A) (F0 m 213 ls []) := by
    intro n
    induction n with
    | zero =>
      intro i q x1 x2 x3 x4 H locs ls hin zs23 zs28 zs22 e hP hD hS hl
      obtain rfl : i = 4 := by omega
      refine lv_iload hx hb dX_turn_213 (lv_at hl 5 rfl) ?_
      refine lv_iconst (v := 4) hx hb dX_turn_215 (by decide) ?_
      refine lv_icmp_ge (tgt := 335) hx hb dX_turn_216 (by decide) (fun _ => ?_) (fun c9 => absurd (by decide) c9)
      refine lv_iload_n hx hb dX_turn_335 rfl (lv_at hl 3 rfl) ?_
      refine lv_if_ge (tgt := 343) hx hb dX_turn_336 (by decide) (fun c_37 => ?_) (fun c_37 => ?_)
      · have e := e.trans (if_pos c_37)
        refine lv_iload_n hx hb dX_turn_343 rfl (lv_at hl 3 rfl) ?_
        refine lv_aload_n hx hb dX_turn_344 rfl (lv_at hl 0 rfl) ?_
        refine va_get (D := D) (ci := 7) (v := .int (q.1 1)) (C := "BoilerDeskModel") (T := TX) (N := 43) hx hb hts inX hown hK hP 0 rfl rfl 1 (by decide) (hts _ q_644) (fun _ h9 => h9) rfl dX_turn_345 ?_
        refine lv_icmp_le (tgt := 358) hx hb dX_turn_348 (by decide) (fun c_38 => ?_) (fun c_38 => ?_)
        · have e := e.trans (if_pos c_38)
          refine lv_iload_n hx hb dX_turn_358 rfl (lv_at hl 3 rfl) ?_
          exact k_359 q x1 x2 x3 x4 (nI 4) x3 _ _ _ zs23 zs28 zs22 e hP hD hS (lv_sub hl [0, 1, 2, 3, 4, 5] rfl)
        · have e := e.trans (if_neg c_38)
          refine lv_aload_n hx hb dX_turn_351 rfl (lv_at hl 0 rfl) ?_
          refine va_get (D := D) (ci := 7) (v := .int (q.1 1)) (C := "BoilerDeskModel") (T := TX) (N := 43) hx hb hts inX hown hK hP 0 rfl rfl 1 (by decide) (hts _ q_644) (fun _ h9 => h9) rfl dX_turn_352 ?_
          refine lv_goto (tgt := 359) hx hb dX_turn_355 (by decide) ?_
          exact k_359 q x1 x2 x3 x4 (nI 4) (q.1 1) _ _ _ zs23 zs28 zs22 e hP hD hS (lv_sub hl [0, 1, 2, 3, 4, 5] rfl)
      · have e := e.trans (if_neg c_37)
        refine lv_iconst (v := 0) hx hb dX_turn_339 (by decide) ?_
        refine lv_goto (tgt := 359) hx hb dX_turn_340 (by decide) ?_
        exact k_359 q x1 x2 x3 x4 (nI 4) (0 : Int32) _ _ _ zs23 zs28 zs22 e hP hD hS (lv_sub hl [0, 1, 2, 3, 4, 5] rfl)
    | succ n ih =>
      intro i q x1 x2 x3 x4 H locs ls hin zs23 zs28 zs22 e hP hD hS hl
      refine lv_iload hx hb dX_turn_213 (lv_at hl 5 rfl) ?_
      refine lv_iconst (v := 4) hx hb dX_turn_215 (by decide) ?_
      refine lv_icmp_ge (tgt := 335) hx hb dX_turn_216 (by decide) (fun c9 => absurd c9 (nI_ge (b := 4) (by omega) (by decide))) (fun _ => ?_)
      refine lv_aload_n hx hb dX_turn_219 rfl (lv_at hl 0 rfl) ?_
      refine va_get (D := D) (ci := 7) (v := .ref (h 3)) (C := "BoilerDeskModel") (T := TX) (N := 43) hx hb hts inX hown hK hP 0 rfl rfl 26 (by decide) (hts _ q_669) (fun _ h9 => h9) rfl dX_turn_220 ?_
      refine lv_iconst (v := 2) hx hb dX_turn_223 (by decide) ?_
      refine lv_iload hx hb dX_turn_224 (lv_at hl 5 rfl) ?_
      refine lv_iadd hx hb dX_turn_226 ?_
      refine va_zald hx hb hK hP 3 0 rfl rfl (by rw [show (2 : Int32) + nI i = nI (2 + i) from nI_add 2 i]; exact vp_in_nI (by omega) (by decide)) dX_turn_227 ?_
      refine lv_if_ne (tgt := 248) hx hb dX_turn_228 (by decide) (fun c_39 => ?_) (fun c_39 => ?_)
      · have e := e.trans (if_neg c_39)
        refine lv_iconst (v := 0) hx hb dX_turn_248 (by decide) ?_
        refine lv_istore (lv' := [(6, .int 0), (0, .ref (h 0)), (1, .int x1), (2, .int x2), (3, .int x3), (4, .int x4), (5, .int (nI i))]) hx hb dX_turn_249 hl (by decide) rfl (fun ls hl => ?_)
        refine lv_iload hx hb dX_turn_251 (lv_at hl 0 rfl) ?_
        refine lv_if_eq (tgt := 305) hx hb dX_turn_253 (by decide) (fun _ => ?_) (fun c9 => absurd (by decide) c9)
        refine lv_iload hx hb dX_turn_305 (lv_at hl 0 rfl) ?_
        refine lv_if_eq (tgt := 320) hx hb dX_turn_307 (by decide) (fun _ => ?_) (fun c9 => absurd (by decide) c9)
        refine lv_iload hx hb dX_turn_320 (lv_at hl 5 rfl) ?_
        refine lv_aload_n hx hb dX_turn_322 rfl (lv_at hl 1 rfl) ?_
        refine va_get (D := D) (ci := 7) (v := .int (q.1 9)) (C := "BoilerDeskModel") (T := TX) (N := 43) hx hb hts inX hown hK hP 0 rfl rfl 9 (by decide) (hts _ q_652) (fun _ h9 => h9) rfl dX_turn_323 ?_
        refine lv_iadd hx hb dX_turn_326 ?_
        refine lv_istore (lv' := [(4, .int (x4 + (q.1 9))), (6, .int 0), (0, .ref (h 0)), (1, .int x1), (2, .int x2), (3, .int x3), (5, .int (nI i))]) hx hb dX_turn_327 hl (by decide) rfl (fun ls hl => ?_)
        refine lv_iinc (v := (nI (i + 1))) (lv' := [(5, .int (nI (i + 1))), (4, .int (x4 + (q.1 9))), (6, .int 0), (0, .ref (h 0)), (1, .int x1), (2, .int x2), (3, .int x3)]) hx hb dX_turn_329 hl (k := 6) rfl (nI_1 i) (by decide) rfl (fun ls hl => ?_)
        refine lv_goto (tgt := 213) hx hb dX_turn_332 (by decide) ?_
        exact ih (i + 1) q x1 x2 x3 (x4 + (q.1 9)) _ _ _ (by omega) zs23 zs28 zs22 e hP hD hS (lv_sub hl [3, 4, 5, 6, 1, 0] rfl)
      · have e := e.trans (if_pos c_39)
        refine lv_aload_n hx hb dX_turn_231 rfl (lv_at hl 0 rfl) ?_
        refine va_get (D := D) (ci := 7) (v := .ref (h 3)) (C := "BoilerDeskModel") (T := TX) (N := 43) hx hb hts inX hown hK hP 0 rfl rfl 26 (by decide) (hts _ q_669) (fun _ h9 => h9) rfl dX_turn_232 ?_
        refine lv_bipush (v := 6) hx hb dX_turn_235 (by decide) ?_
        refine lv_iload hx hb dX_turn_237 (lv_at hl 5 rfl) ?_
        refine lv_iadd hx hb dX_turn_239 ?_
        refine va_zald hx hb hK hP 3 0 rfl rfl (by rw [show (6 : Int32) + nI i = nI (6 + i) from nI_add 6 i]; exact vp_in_nI (by omega) (by decide)) dX_turn_240 ?_
        refine lv_if_ne (tgt := 248) hx hb dX_turn_241 (by decide) (fun c_40 => ?_) (fun c_40 => ?_)
        · have e := e.trans (if_neg c_40)
          refine lv_iconst (v := 0) hx hb dX_turn_248 (by decide) ?_
          refine lv_istore (lv' := [(6, .int 0), (0, .ref (h 0)), (1, .int x1), (2, .int x2), (3, .int x3), (4, .int x4), (5, .int (nI i))]) hx hb dX_turn_249 hl (by decide) rfl (fun ls hl => ?_)
          refine lv_iload hx hb dX_turn_251 (lv_at hl 0 rfl) ?_
          refine lv_if_eq (tgt := 305) hx hb dX_turn_253 (by decide) (fun _ => ?_) (fun c9 => absurd (by decide) c9)
          refine lv_iload hx hb dX_turn_305 (lv_at hl 0 rfl) ?_
          refine lv_if_eq (tgt := 320) hx hb dX_turn_307 (by decide) (fun _ => ?_) (fun c9 => absurd (by decide) c9)
          refine lv_iload hx hb dX_turn_320 (lv_at hl 5 rfl) ?_
          refine lv_aload_n hx hb dX_turn_322 rfl (lv_at hl 1 rfl) ?_
          refine va_get (D := D) (ci := 7) (v := .int (q.1 9)) (C := "BoilerDeskModel") (T := TX) (N := 43) hx hb hts inX hown hK hP 0 rfl rfl 9 (by decide) (hts _ q_652) (fun _ h9 => h9) rfl dX_turn_323 ?_
          refine lv_iadd hx hb dX_turn_326 ?_
          refine lv_istore (lv' := [(4, .int (x4 + (q.1 9))), (6, .int 0), (0, .ref (h 0)), (1, .int x1), (2, .int x2), (3, .int x3), (5, .int (nI i))]) hx hb dX_turn_327 hl (by decide) rfl (fun ls hl => ?_)
          refine lv_iinc (v := (nI (i + 1))) (lv' := [(5, .int (nI (i + 1))), (4, .int (x4 + (q.1 9))), (6, .int 0), (0, .ref (h 0)), (1, .int x1), (2, .int x2), (3, .int x3)]) hx hb dX_turn_329 hl (k := 6) rfl (nI_1 i) (by decide) rfl (fun ls hl => ?_)
          refine lv_goto (tgt := 213) hx hb dX_turn_332 (by decide) ?_
          exact ih (i + 1) q x1 x2 x3 (x4 + (q.1 9)) _ _ _ (by omega) zs23 zs28 zs22 e hP hD hS (lv_sub hl [3, 4, 5, 6, 1, 0] rfl)
        · have e := e.trans (if_pos c_40)
          refine lv_iconst (v := 1) hx hb dX_turn_244 (by decide) ?_
          refine lv_goto (tgt := 249) hx hb dX_turn_245 (by decide) ?_
          refine lv_istore (lv' := [(6, .int 1), (0, .ref (h 0)), (1, .int x1), (2, .int x2), (3, .int x3), (4, .int x4), (5, .int (nI i))]) hx hb dX_turn_249 hl (by decide) rfl (fun ls hl => ?_)
          refine lv_iload hx hb dX_turn_251 (lv_at hl 0 rfl) ?_
          refine lv_if_eq (tgt := 305) hx hb dX_turn_253 (by decide) (fun c9 => absurd c9 (by decide)) (fun _ => ?_)
          refine lv_aload_n hx hb dX_turn_256 rfl (lv_at hl 1 rfl) ?_
          refine va_get (D := D) (ci := 7) (v := .ref (h 4)) (C := "BoilerDeskModel") (T := TX) (N := 43) hx hb hts inX hown hK hP 0 rfl rfl 27 (by decide) (hts _ q_670) (fun _ h9 => h9) rfl dX_turn_257 ?_
          refine lv_iload hx hb dX_turn_260 (lv_at hl 6 rfl) ?_
          refine va_zald hx hb hK hP 4 0 rfl rfl (vp_in_nI (by omega) (by decide)) dX_turn_262 ?_
          refine lv_if_eq (tgt := 305) hx hb dX_turn_263 (by decide) (fun c_41 => ?_) (fun c_41 => ?_)
          · have e := e.trans (if_pos c_41)
            refine lv_iload hx hb dX_turn_305 (lv_at hl 0 rfl) ?_
            refine lv_if_eq (tgt := 320) hx hb dX_turn_307 (by decide) (fun c9 => absurd c9 (by decide)) (fun _ => ?_)
            refine lv_aload_n hx hb dX_turn_310 rfl (lv_at hl 1 rfl) ?_
            refine va_get (D := D) (ci := 7) (v := .ref (h 4)) (C := "BoilerDeskModel") (T := TX) (N := 43) hx hb hts inX hown hK hP 0 rfl rfl 27 (by decide) (hts _ q_670) (fun _ h9 => h9) rfl dX_turn_311 ?_
            refine lv_iload hx hb dX_turn_314 (lv_at hl 6 rfl) ?_
            refine va_zald hx hb hK hP 4 0 rfl rfl (vp_in_nI (by omega) (by decide)) dX_turn_316 ?_
            refine lv_if_eq (tgt := 329) hx hb dX_turn_317 (by decide) (fun _ => ?_) (fun c9 => absurd c_41 c9)
            refine lv_iinc (v := (nI (i + 1))) (lv' := [(5, .int (nI (i + 1))), (6, .int 1), (0, .ref (h 0)), (1, .int x1), (2, .int x2), (3, .int x3), (4, .int x4)]) hx hb dX_turn_329 hl (k := 6) rfl (nI_1 i) (by decide) rfl (fun ls hl => ?_)
            refine lv_goto (tgt := 213) hx hb dX_turn_332 (by decide) ?_
            exact ih (i + 1) q x1 x2 x3 x4 _ _ _ (by omega) zs23 zs28 zs22 e hP hD hS (lv_sub hl [2, 3, 4, 5, 6, 0] rfl)
          · have e := e.trans (if_neg c_41)
            refine lv_aload_n hx hb dX_turn_266 rfl (lv_at hl 1 rfl) ?_
            refine va_get (D := D) (ci := 7) (v := .ref (h 5)) (C := "BoilerDeskModel") (T := TX) (N := 43) hx hb hts inX hown hK hP 0 rfl rfl 28 (by decide) (hts _ q_671) (fun _ h9 => h9) rfl dX_turn_267 ?_
            refine lv_iload hx hb dX_turn_270 (lv_at hl 6 rfl) ?_
            refine va_zald hx hb hK hP 5 0 rfl rfl (vp_in_nI (by omega) (by decide)) dX_turn_272 ?_
            refine lv_if_eq (tgt := 305) hx hb dX_turn_273 (by decide) (fun c_42 => ?_) (fun c_42 => ?_)
            · have e := e.trans (if_pos c_42)
              refine lv_iload hx hb dX_turn_305 (lv_at hl 0 rfl) ?_
              refine lv_if_eq (tgt := 320) hx hb dX_turn_307 (by decide) (fun c9 => absurd c9 (by decide)) (fun _ => ?_)
              refine lv_aload_n hx hb dX_turn_310 rfl (lv_at hl 1 rfl) ?_
              refine va_get (D := D) (ci := 7) (v := .ref (h 4)) (C := "BoilerDeskModel") (T := TX) (N := 43) hx hb hts inX hown hK hP 0 rfl rfl 27 (by decide) (hts _ q_670) (fun _ h9 => h9) rfl dX_turn_311 ?_
              refine lv_iload hx hb dX_turn_314 (lv_at hl 6 rfl) ?_
              refine va_zald hx hb hK hP 4 0 rfl rfl (vp_in_nI (by omega) (by decide)) dX_turn_316 ?_
              refine lv_if_eq (tgt := 329) hx hb dX_turn_317 (by decide) (fun c9 => absurd c9 c_41) (fun _ => ?_)
              refine lv_iload hx hb dX_turn_320 (lv_at hl 5 rfl) ?_
              refine lv_aload_n hx hb dX_turn_322 rfl (lv_at hl 1 rfl) ?_
              refine va_get (D := D) (ci := 7) (v := .int (q.1 9)) (C := "BoilerDeskModel") (T := TX) (N := 43) hx hb hts inX hown hK hP 0 rfl rfl 9 (by decide) (hts _ q_652) (fun _ h9 => h9) rfl dX_turn_323 ?_
              refine lv_iadd hx hb dX_turn_326 ?_
              refine lv_istore (lv' := [(4, .int (x4 + (q.1 9))), (6, .int 1), (0, .ref (h 0)), (1, .int x1), (2, .int x2), (3, .int x3), (5, .int (nI i))]) hx hb dX_turn_327 hl (by decide) rfl (fun ls hl => ?_)
              refine lv_iinc (v := (nI (i + 1))) (lv' := [(5, .int (nI (i + 1))), (4, .int (x4 + (q.1 9))), (6, .int 1), (0, .ref (h 0)), (1, .int x1), (2, .int x2), (3, .int x3)]) hx hb dX_turn_329 hl (k := 6) rfl (nI_1 i) (by decide) rfl (fun ls hl => ?_)
              refine lv_goto (tgt := 213) hx hb dX_turn_332 (by decide) ?_
              exact ih (i + 1) q x1 x2 x3 (x4 + (q.1 9)) _ _ _ (by omega) zs23 zs28 zs22 e hP hD hS (lv_sub hl [3, 4, 5, 6, 1, 0] rfl)
            · have e := e.trans (if_neg c_42)
              refine lv_aload_n hx hb dX_turn_276 rfl (lv_at hl 1 rfl) ?_
              refine va_get (D := D) (ci := 7) (v := .ref (h 6)) (C := "BoilerDeskModel") (T := TX) (N := 43) hx hb hts inX hown hK hP 0 rfl rfl 29 (by decide) (hts _ q_672) (fun _ h9 => h9) rfl dX_turn_277 ?_
              refine lv_iload hx hb dX_turn_280 (lv_at hl 6 rfl) ?_
              refine va_zald hx hb hK hP 6 0 rfl rfl (vp_in_nI (by omega) (by decide)) dX_turn_282 ?_
              refine lv_if_eq (tgt := 305) hx hb dX_turn_283 (by decide) (fun c_43 => ?_) (fun c_43 => ?_)
              · have e := e.trans (if_pos c_43)
                refine lv_iload hx hb dX_turn_305 (lv_at hl 0 rfl) ?_
                refine lv_if_eq (tgt := 320) hx hb dX_turn_307 (by decide) (fun c9 => absurd c9 (by decide)) (fun _ => ?_)
                refine lv_aload_n hx hb dX_turn_310 rfl (lv_at hl 1 rfl) ?_
                refine va_get (D := D) (ci := 7) (v := .ref (h 4)) (C := "BoilerDeskModel") (T := TX) (N := 43) hx hb hts inX hown hK hP 0 rfl rfl 27 (by decide) (hts _ q_670) (fun _ h9 => h9) rfl dX_turn_311 ?_
                refine lv_iload hx hb dX_turn_314 (lv_at hl 6 rfl) ?_
                refine va_zald hx hb hK hP 4 0 rfl rfl (vp_in_nI (by omega) (by decide)) dX_turn_316 ?_
                refine lv_if_eq (tgt := 329) hx hb dX_turn_317 (by decide) (fun c9 => absurd c9 c_41) (fun _ => ?_)
                refine lv_iload hx hb dX_turn_320 (lv_at hl 5 rfl) ?_
                refine lv_aload_n hx hb dX_turn_322 rfl (lv_at hl 1 rfl) ?_
                refine va_get (D := D) (ci := 7) (v := .int (q.1 9)) (C := "BoilerDeskModel") (T := TX) (N := 43) hx hb hts inX hown hK hP 0 rfl rfl 9 (by decide) (hts _ q_652) (fun _ h9 => h9) rfl dX_turn_323 ?_
                refine lv_iadd hx hb dX_turn_326 ?_
                refine lv_istore (lv' := [(4, .int (x4 + (q.1 9))), (6, .int 1), (0, .ref (h 0)), (1, .int x1), (2, .int x2), (3, .int x3), (5, .int (nI i))]) hx hb dX_turn_327 hl (by decide) rfl (fun ls hl => ?_)
                refine lv_iinc (v := (nI (i + 1))) (lv' := [(5, .int (nI (i + 1))), (4, .int (x4 + (q.1 9))), (6, .int 1), (0, .ref (h 0)), (1, .int x1), (2, .int x2), (3, .int x3)]) hx hb dX_turn_329 hl (k := 6) rfl (nI_1 i) (by decide) rfl (fun ls hl => ?_)
                refine lv_goto (tgt := 213) hx hb dX_turn_332 (by decide) ?_
                exact ih (i + 1) q x1 x2 x3 (x4 + (q.1 9)) _ _ _ (by omega) zs23 zs28 zs22 e hP hD hS (lv_sub hl [3, 4, 5, 6, 1, 0] rfl)
              · have e := e.trans (if_neg c_43)
                refine lv_iload_n hx hb dX_turn_286 rfl (lv_at hl 4 rfl) ?_
                refine lv_aload_n hx hb dX_turn_287 rfl (lv_at hl 1 rfl) ?_
                refine va_get (D := D) (ci := 7) (v := .int (q.1 9)) (C := "BoilerDeskModel") (T := TX) (N := 43) hx hb hts inX hown hK hP 0 rfl rfl 9 (by decide) (hts _ q_652) (fun _ h9 => h9) rfl dX_turn_288 ?_
                refine lv_iadd hx hb dX_turn_291 ?_
                refine lv_istore_n (lv' := [(3, .int (x3 + (q.1 9))), (6, .int 1), (0, .ref (h 0)), (1, .int x1), (2, .int x2), (4, .int x4), (5, .int (nI i))]) hx hb dX_turn_292 rfl hl (by decide) rfl (fun ls hl => ?_)
                refine lv_iload hx hb dX_turn_293 (lv_at hl 5 rfl) ?_
                refine lv_aload_n hx hb dX_turn_295 rfl (lv_at hl 2 rfl) ?_
                refine va_get (D := D) (ci := 7) (v := .int (q.1 9)) (C := "BoilerDeskModel") (T := TX) (N := 43) hx hb hts inX hown hK hP 0 rfl rfl 9 (by decide) (hts _ q_652) (fun _ h9 => h9) rfl dX_turn_296 ?_
                refine lv_iadd hx hb dX_turn_299 ?_
                refine lv_istore (lv' := [(4, .int (x4 + (q.1 9))), (3, .int (x3 + (q.1 9))), (6, .int 1), (0, .ref (h 0)), (1, .int x1), (2, .int x2), (5, .int (nI i))]) hx hb dX_turn_300 hl (by decide) rfl (fun ls hl => ?_)
                refine lv_goto (tgt := 329) hx hb dX_turn_302 (by decide) ?_
                refine lv_iinc (v := (nI (i + 1))) (lv' := [(5, .int (nI (i + 1))), (4, .int (x4 + (q.1 9))), (3, .int (x3 + (q.1 9))), (6, .int 1), (0, .ref (h 0)), (1, .int x1), (2, .int x2)]) hx hb dX_turn_329 hl (k := 6) rfl (nI_1 i) (by decide) rfl (fun ls hl => ?_)
                refine lv_goto (tgt := 213) hx hb dX_turn_332 (by decide) ?_
                exact ih (i + 1) q x1 x2 (x3 + (q.1 9)) (x4 + (q.1 9)) _ _ _ (by omega) zs23 zs28 zs22 e hP hD hS (lv_sub hl [4, 5, 6, 2, 1, 0] rfl)
  have k_207 : ∀ (q : (Nat → Int32) × (Nat → Nat → Int32)) (x1 : Int32) (x2 : Int32) (x3 : Int32) (y0 : Int32) (y1 : Int32) (H : Heap) (locs : List Loc) (ls : Array Slot), (q.1 23 = 0 ∨ q.1 23 = 1) → (q.1 28 = 0 ∨ q.1 28 = 1) → (q.1 22 = 0 ∨ q.1 22 = 1) → F_X_turn q0 = K_X_turn_207 q x1 x2 x3 y0 y1 → va_P D vwCl (mw h cZ q) H → va_D A (mw h cZ q) → va_S A s.heap H locs → lv_has ls 7 [(0, .ref (h 0)), (1, .int x1), (2, .int x2), (3, .int x3)] → W p l e ({ frames := 2, cells := 0, slots := 0, locals := 47 }) s m [.ref (h 0)].toArray below meth c H locs 0 0 (MQ below (va_Qi (fun r' u' => r' = (F_X_turn q0).1 ∧ u' = (F_X_turn q0).2) (kb_E D [(cZ, .boolean)] (mw h cZ) A) A) [.ref (h 0)].toArray s 0 0 A) (F0 m 207 ls [.int y0, .int y1]) := by
      intro q x1 x2 x3 y0 y1 H locs ls zs23 zs28 zs22 e hP hD hS hl
      refine lv_isub hx hb dX_turn_207 ?_
      refine lv_istore (lv' := [(4, .int (y1 - y0)), (0, .ref (h 0)), (1, .int x1), (2, .int x2), (3, .int x3)]) hx hb dX_turn_208 hl (by decide) rfl (fun ls hl => ?_)
      refine lv_iconst (v := 0) hx hb dX_turn_210 (by decide) ?_
      refine lv_istore (lv' := [(5, .int 0), (4, .int (y1 - y0)), (0, .ref (h 0)), (1, .int x1), (2, .int x2), (3, .int x3)]) hx hb dX_turn_211 hl (by decide) rfl (fun ls hl => ?_)
      exact k_213 4 0 q x1 x2 x3 (y1 - y0) _ _ _ (by omega) zs23 zs28 zs22 e hP hD hS (lv_sub hl [2, 3, 4, 5, 1, 0] rfl)
  have k_185 : ∀ (q : (Nat → Int32) × (Nat → Nat → Int32)) (x1 : Int32) (x2 : Int32) (y0 : Int32) (y1 : Int32) (H : Heap) (locs : List Loc) (ls : Array Slot), (q.1 23 = 0 ∨ q.1 23 = 1) → (q.1 28 = 0 ∨ q.1 28 = 1) → (q.1 22 = 0 ∨ q.1 22 = 1) → F_X_turn q0 = K_X_turn_185 q x1 x2 y0 y1 → va_P D vwCl (mw h cZ q) H → va_D A (mw h cZ q) → va_S A s.heap H locs → lv_has ls 7 [(0, .ref (h 0)), (1, .int x1), (2, .int x2)] → W p l e ({ frames := 2, cells := 0, slots := 0, locals := 47 }) s m [.ref (h 0)].toArray below meth c H locs 0 0 (MQ below (va_Qi (fun r' u' => r' = (F_X_turn q0).1 ∧ u' = (F_X_turn q0).2) (kb_E D [(cZ, .boolean)] (mw h cZ) A) A) [.ref (h 0)].toArray s 0 0 A) (F0 m 185 ls [.int y0, .int y1]) := by
      intro q x1 x2 y0 y1 H locs ls zs23 zs28 zs22 e hP hD hS hl
      refine lv_isub hx hb dX_turn_185 ?_
      refine lv_istore_n (lv' := [(3, .int (y1 - y0)), (0, .ref (h 0)), (1, .int x1), (2, .int x2)]) hx hb dX_turn_186 rfl hl (by decide) rfl (fun ls hl => ?_)
      refine lv_aload_n hx hb dX_turn_187 rfl (lv_at hl 1 rfl) ?_
      refine va_get (D := D) (ci := 7) (v := .int (q.1 13)) (C := "BoilerDeskModel") (T := TX) (N := 43) hx hb hts inX hown hK hP 0 rfl rfl 13 (by decide) (hts _ q_656) (fun _ h9 => h9) rfl dX_turn_188 ?_
      refine lv_aload_n hx hb dX_turn_191 rfl (lv_at hl 1 rfl) ?_
      refine va_get (D := D) (ci := 7) (v := .int (q.1 14)) (C := "BoilerDeskModel") (T := TX) (N := 43) hx hb hts inX hown hK hP 0 rfl rfl 14 (by decide) (hts _ q_657) (fun _ h9 => h9) rfl dX_turn_192 ?_
      refine lv_iload_n hx hb dX_turn_195 rfl (lv_at hl 2 rfl) ?_
      refine lv_icmp_ge (tgt := 206) hx hb dX_turn_196 (by decide) (fun c_44 => ?_) (fun c_44 => ?_)
      · have e := e.trans (if_pos c_44)
        refine lv_iload_n hx hb dX_turn_206 rfl (lv_at hl 2 rfl) ?_
        exact k_207 q x1 x2 (y1 - y0) x1 (q.1 13) _ _ _ zs23 zs28 zs22 e hP hD hS (lv_sub hl [1, 2, 3, 0] rfl)
      · have e := e.trans (if_neg c_44)
        refine lv_aload_n hx hb dX_turn_199 rfl (lv_at hl 1 rfl) ?_
        refine va_get (D := D) (ci := 7) (v := .int (q.1 14)) (C := "BoilerDeskModel") (T := TX) (N := 43) hx hb hts inX hown hK hP 0 rfl rfl 14 (by decide) (hts _ q_657) (fun _ h9 => h9) rfl dX_turn_200 ?_
        refine lv_goto (tgt := 207) hx hb dX_turn_203 (by decide) ?_
        exact k_207 q x1 x2 (y1 - y0) (q.1 14) (q.1 13) _ _ _ zs23 zs28 zs22 e hP hD hS (lv_sub hl [1, 2, 3, 0] rfl)
  have k_164 : ∀ (q : (Nat → Int32) × (Nat → Nat → Int32)) (x1 : Int32) (y0 : Int32) (H : Heap) (locs : List Loc) (ls : Array Slot), (q.1 23 = 0 ∨ q.1 23 = 1) → (q.1 28 = 0 ∨ q.1 28 = 1) → (q.1 22 = 0 ∨ q.1 22 = 1) → F_X_turn q0 = K_X_turn_164 q x1 y0 → va_P D vwCl (mw h cZ q) H → va_D A (mw h cZ q) → va_S A s.heap H locs → lv_has ls 7 [(0, .ref (h 0)), (1, .int x1)] → W p l e ({ frames := 2, cells := 0, slots := 0, locals := 47 }) s m [.ref (h 0)].toArray below meth c H locs 0 0 (MQ below (va_Qi (fun r' u' => r' = (F_X_turn q0).1 ∧ u' = (F_X_turn q0).2) (kb_E D [(cZ, .boolean)] (mw h cZ) A) A) [.ref (h 0)].toArray s 0 0 A) (F0 m 164 ls [.int y0]) := by
      intro q x1 y0 H locs ls zs23 zs28 zs22 e hP hD hS hl
      refine lv_istore_n (lv' := [(2, .int y0), (0, .ref (h 0)), (1, .int x1)]) hx hb dX_turn_164 rfl hl (by decide) rfl (fun ls hl => ?_)
      refine lv_aload_n hx hb dX_turn_165 rfl (lv_at hl 1 rfl) ?_
      refine va_get (D := D) (ci := 7) (v := .int (q.1 12)) (C := "BoilerDeskModel") (T := TX) (N := 43) hx hb hts inX hown hK hP 0 rfl rfl 12 (by decide) (hts _ q_655) (fun _ h9 => h9) rfl dX_turn_166 ?_
      refine lv_aload_n hx hb dX_turn_169 rfl (lv_at hl 1 rfl) ?_
      refine va_get (D := D) (ci := 7) (v := .int (q.1 15)) (C := "BoilerDeskModel") (T := TX) (N := 43) hx hb hts inX hown hK hP 0 rfl rfl 15 (by decide) (hts _ q_658) (fun _ h9 => h9) rfl dX_turn_170 ?_
      refine lv_iload_n hx hb dX_turn_173 rfl (lv_at hl 0 rfl) ?_
      refine lv_icmp_le (tgt := 184) hx hb dX_turn_174 (by decide) (fun c_45 => ?_) (fun c_45 => ?_)
      · have e := e.trans (if_pos c_45)
        refine lv_iload_n hx hb dX_turn_184 rfl (lv_at hl 0 rfl) ?_
        exact k_185 q x1 y0 y0 (q.1 12) _ _ _ zs23 zs28 zs22 e hP hD hS (lv_sub hl [1, 2, 0] rfl)
      · have e := e.trans (if_neg c_45)
        refine lv_aload_n hx hb dX_turn_177 rfl (lv_at hl 1 rfl) ?_
        refine va_get (D := D) (ci := 7) (v := .int (q.1 15)) (C := "BoilerDeskModel") (T := TX) (N := 43) hx hb hts inX hown hK hP 0 rfl rfl 15 (by decide) (hts _ q_658) (fun _ h9 => h9) rfl dX_turn_178 ?_
        refine lv_goto (tgt := 185) hx hb dX_turn_181 (by decide) ?_
        exact k_185 q x1 y0 (q.1 15) (q.1 12) _ _ _ zs23 zs28 zs22 e hP hD hS (lv_sub hl [1, 2, 0] rfl)
  have k_131 : ∀ (q : (Nat → Int32) × (Nat → Nat → Int32)) (x1 : Int32) (y0 : Int32) (H : Heap) (locs : List Loc) (ls : Array Slot), (q.1 23 = 0 ∨ q.1 23 = 1) → (q.1 28 = 0 ∨ q.1 28 = 1) → (q.1 22 = 0 ∨ q.1 22 = 1) → F_X_turn q0 = K_X_turn_131 q x1 y0 → va_P D vwCl (mw h cZ q) H → va_D A (mw h cZ q) → va_S A s.heap H locs → lv_has ls 7 [(0, .ref (h 0)), (1, .int x1)] → W p l e ({ frames := 2, cells := 0, slots := 0, locals := 47 }) s m [.ref (h 0)].toArray below meth c H locs 0 0 (MQ below (va_Qi (fun r' u' => r' = (F_X_turn q0).1 ∧ u' = (F_X_turn q0).2) (kb_E D [(cZ, .boolean)] (mw h cZ) A) A) [.ref (h 0)].toArray s 0 0 A) (F0 m 131 ls [.int y0]) := by
      intro q x1 y0 H locs ls zs23 zs28 zs22 e hP hD hS hl
      refine lv_istore_n (lv' := [(1, .int y0), (0, .ref (h 0))]) hx hb dX_turn_131 rfl hl (by decide) rfl (fun ls hl => ?_)
      refine lv_aload_n hx hb dX_turn_132 rfl (lv_at hl 1 rfl) ?_
      refine va_get (D := D) (ci := 7) (v := .int (q.1 15)) (C := "BoilerDeskModel") (T := TX) (N := 43) hx hb hts inX hown hK hP 0 rfl rfl 15 (by decide) (hts _ q_658) (fun _ h9 => h9) rfl dX_turn_133 ?_
      refine lv_aload_n hx hb dX_turn_136 rfl (lv_at hl 1 rfl) ?_
      refine va_get (D := D) (ci := 7) (v := .int (q.1 7)) (C := "BoilerDeskModel") (T := TX) (N := 43) hx hb hts inX hown hK hP 0 rfl rfl 7 (by decide) (hts _ q_650) (fun _ h9 => h9) rfl dX_turn_137 ?_
      refine lv_iadd hx hb dX_turn_140 ?_
      refine lv_aload_n hx hb dX_turn_141 rfl (lv_at hl 1 rfl) ?_
      refine va_get (D := D) (ci := 7) (v := .int (q.1 6)) (C := "BoilerDeskModel") (T := TX) (N := 43) hx hb hts inX hown hK hP 0 rfl rfl 6 (by decide) (hts _ q_649) (fun _ h9 => h9) rfl dX_turn_142 ?_
      refine lv_icmp_le (tgt := 155) hx hb dX_turn_145 (by decide) (fun c_46 => ?_) (fun c_46 => ?_)
      · have e := e.trans (if_pos c_46)
        refine lv_aload_n hx hb dX_turn_155 rfl (lv_at hl 1 rfl) ?_
        refine va_get (D := D) (ci := 7) (v := .int (q.1 15)) (C := "BoilerDeskModel") (T := TX) (N := 43) hx hb hts inX hown hK hP 0 rfl rfl 15 (by decide) (hts _ q_658) (fun _ h9 => h9) rfl dX_turn_156 ?_
        refine lv_aload_n hx hb dX_turn_159 rfl (lv_at hl 1 rfl) ?_
        refine va_get (D := D) (ci := 7) (v := .int (q.1 7)) (C := "BoilerDeskModel") (T := TX) (N := 43) hx hb hts inX hown hK hP 0 rfl rfl 7 (by decide) (hts _ q_650) (fun _ h9 => h9) rfl dX_turn_160 ?_
        refine lv_iadd hx hb dX_turn_163 ?_
        exact k_164 q y0 ((q.1 15) + (q.1 7)) _ _ _ zs23 zs28 zs22 e hP hD hS (lv_sub hl [1, 0] rfl)
      · have e := e.trans (if_neg c_46)
        refine lv_aload_n hx hb dX_turn_148 rfl (lv_at hl 1 rfl) ?_
        refine va_get (D := D) (ci := 7) (v := .int (q.1 6)) (C := "BoilerDeskModel") (T := TX) (N := 43) hx hb hts inX hown hK hP 0 rfl rfl 6 (by decide) (hts _ q_649) (fun _ h9 => h9) rfl dX_turn_149 ?_
        refine lv_goto (tgt := 164) hx hb dX_turn_152 (by decide) ?_
        exact k_164 q y0 (q.1 6) _ _ _ zs23 zs28 zs22 e hP hD hS (lv_sub hl [1, 0] rfl)
  have k_73 : ∀ (n i : Nat) (q : (Nat → Int32) × (Nat → Nat → Int32)) (H : Heap) (locs : List Loc) (ls : Array Slot), i + n = 10 → (q.1 23 = 0 ∨ q.1 23 = 1) → (q.1 28 = 0 ∨ q.1 28 = 1) → (q.1 22 = 0 ∨ q.1 22 = 1) → F_X_turn q0 = K_X_turn_73 n i q → va_P D vwCl (mw h cZ q) H → va_D A (mw h cZ q) → va_S A s.heap H locs → lv_has ls 7 [(0, .ref (h 0)), (1, .int (nI i))] → W p l e ({ frames := 2, cells := 0, slots := 0, locals := 47 }) s m [.ref (h 0)].toArray below meth c H locs 0 0 (MQ below (va_Qi (fun r' u' => r' = (F_X_turn q0).1 ∧ u' = (F_X_turn q0).2) (kb_E D [(cZ, .boolean)] (mw h cZ) A) A) [.ref (h 0)].toArray s 0 0 A) (F0 m 73 ls []) := by
    intro n
    induction n with
    | zero =>
      intro i q H locs ls hin zs23 zs28 zs22 e hP hD hS hl
      obtain rfl : i = 10 := by omega
      refine lv_iload_n hx hb dX_turn_73 rfl (lv_at hl 1 rfl) ?_
      refine lv_bipush (v := 10) hx hb dX_turn_74 (by decide) ?_
      refine lv_icmp_ge (tgt := 97) hx hb dX_turn_76 (by decide) (fun _ => ?_) (fun c9 => absurd (by decide) c9)
      refine lv_aload_n hx hb dX_turn_97 rfl (lv_at hl 0 rfl) ?_
      refine kb_calli (wf := mw h cZ) (r := (F_X_units q).1) (u := (F_X_units q).2) (va_runV (As := []) (rest := []) ⟨hx, hb, hml, hown, hts⟩ (c_X_units l D h cZ _ q) (cwV 0 hts (gd_V q_819 q_821 q_26 q_40 q_822) rfl rfl rfl (by decide +kernel) ⟨Nat.le_of_ble_eq_true rfl, Nat.le_of_ble_eq_true rfl⟩) (kb_preV hN hK hP hD (va_recv hK hP (ci := 7) (q0 := 0) rfl rfl)) rfl rfl hl.1 rfl (lv_room (Nat.le_of_ble_eq_true rfl)) dX_turn_98 ⟨Nat.zero_le _, Nat.zero_le _⟩) hP hD hS hA (fun H locs hP hD hS => ?_)
      refine lv_if_ne (tgt := 106) hx hb dX_turn_101 (by decide) (fun c_47 => ?_) (fun c_47 => ?_)
      · have e := e.trans (if_neg c_47)
        refine lv_aload_n hx hb dX_turn_106 rfl (lv_at hl 0 rfl) ?_
        refine va_get (D := D) (ci := 7) (v := .int ((F_X_units q).2.1 14)) (C := "BoilerDeskModel") (T := TX) (N := 43) hx hb hts inX hown hK hP 0 rfl rfl 14 (by decide) (hts _ q_657) (fun _ h9 => h9) rfl dX_turn_107 ?_
        refine lv_aload_n hx hb dX_turn_110 rfl (lv_at hl 0 rfl) ?_
        refine va_get (D := D) (ci := 7) (v := .int ((F_X_units q).2.1 8)) (C := "BoilerDeskModel") (T := TX) (N := 43) hx hb hts inX hown hK hP 0 rfl rfl 8 (by decide) (hts _ q_651) (fun _ h9 => h9) rfl dX_turn_111 ?_
        refine lv_isub hx hb dX_turn_114 ?_
        refine lv_if_ge (tgt := 122) hx hb dX_turn_115 (by decide) (fun c_48 => ?_) (fun c_48 => ?_)
        · have e := e.trans (if_pos c_48)
          refine lv_aload_n hx hb dX_turn_122 rfl (lv_at hl 0 rfl) ?_
          refine va_get (D := D) (ci := 7) (v := .int ((F_X_units q).2.1 14)) (C := "BoilerDeskModel") (T := TX) (N := 43) hx hb hts inX hown hK hP 0 rfl rfl 14 (by decide) (hts _ q_657) (fun _ h9 => h9) rfl dX_turn_123 ?_
          refine lv_aload_n hx hb dX_turn_126 rfl (lv_at hl 0 rfl) ?_
          refine va_get (D := D) (ci := 7) (v := .int ((F_X_units q).2.1 8)) (C := "BoilerDeskModel") (T := TX) (N := 43) hx hb hts inX hown hK hP 0 rfl rfl 8 (by decide) (hts _ q_651) (fun _ h9 => h9) rfl dX_turn_127 ?_
          refine lv_isub hx hb dX_turn_130 ?_
          exact k_131 (F_X_units q).2 (nI 10) (((F_X_units q).2.1 14) - ((F_X_units q).2.1 8)) _ _ _ (by first | exact zs23 | (simp only [fun q a z => find_kp q a z (k := 23) (by decide), fun q => units_kp q (k := 23) (by decide), fun q => first_kp q (k := 23) (by decide), fun q => others_kp q (k := 23) (by decide)]; exact zs23)) (by first | exact zs28 | (simp only [fun q a z => find_kp q a z (k := 28) (by decide), fun q => units_kp q (k := 28) (by decide), fun q => first_kp q (k := 28) (by decide), fun q => others_kp q (k := 28) (by decide)]; exact zs28)) (by first | exact zs22 | (simp only [fun q a z => find_kp q a z (k := 22) (by decide), fun q => units_kp q (k := 22) (by decide), fun q => first_kp q (k := 22) (by decide), fun q => others_kp q (k := 22) (by decide)]; exact zs22)) e hP hD hS (lv_sub hl [0, 1] rfl)
        · have e := e.trans (if_neg c_48)
          refine lv_iconst (v := 0) hx hb dX_turn_118 (by decide) ?_
          refine lv_goto (tgt := 131) hx hb dX_turn_119 (by decide) ?_
          exact k_131 (F_X_units q).2 (nI 10) (0 : Int32) _ _ _ (by first | exact zs23 | (simp only [fun q a z => find_kp q a z (k := 23) (by decide), fun q => units_kp q (k := 23) (by decide), fun q => first_kp q (k := 23) (by decide), fun q => others_kp q (k := 23) (by decide)]; exact zs23)) (by first | exact zs28 | (simp only [fun q a z => find_kp q a z (k := 28) (by decide), fun q => units_kp q (k := 28) (by decide), fun q => first_kp q (k := 28) (by decide), fun q => others_kp q (k := 28) (by decide)]; exact zs28)) (by first | exact zs22 | (simp only [fun q a z => find_kp q a z (k := 22) (by decide), fun q => units_kp q (k := 22) (by decide), fun q => first_kp q (k := 22) (by decide), fun q => others_kp q (k := 22) (by decide)]; exact zs22)) e hP hD hS (lv_sub hl [0, 1] rfl)
      · have e := e.trans (if_pos c_47)
        refine lv_iconst (v := 0) hx hb dX_turn_104 (by decide) ?_
        exact kb_zret (wf := mw h cZ) hx hb hr hlocks rfl hK hP hD hS ⟨(congrArg Prod.fst e).symm, (congrArg Prod.snd e).symm⟩ dX_turn_105
    | succ n ih =>
      intro i q H locs ls hin zs23 zs28 zs22 e hP hD hS hl
      refine lv_iload_n hx hb dX_turn_73 rfl (lv_at hl 1 rfl) ?_
      refine lv_bipush (v := 10) hx hb dX_turn_74 (by decide) ?_
      refine lv_icmp_ge (tgt := 97) hx hb dX_turn_76 (by decide) (fun c9 => absurd c9 (nI_ge (b := 10) (by omega) (by decide))) (fun _ => ?_)
      refine lv_aload_n hx hb dX_turn_79 rfl (lv_at hl 0 rfl) ?_
      refine va_get (D := D) (ci := 7) (v := .ref (h 3)) (C := "BoilerDeskModel") (T := TX) (N := 43) hx hb hts inX hown hK hP 0 rfl rfl 26 (by decide) (hts _ q_669) (fun _ h9 => h9) rfl dX_turn_80 ?_
      refine lv_iload_n hx hb dX_turn_83 rfl (lv_at hl 1 rfl) ?_
      refine lv_aload_n hx hb dX_turn_84 rfl (lv_at hl 0 rfl) ?_
      refine va_get (D := D) (ci := 7) (v := .ref (h 1)) (C := "BoilerDeskModel") (T := TX) (N := 43) hx hb hts inX hown hK hP 0 rfl rfl 24 (by decide) (hts _ q_667) (fun _ h9 => h9) rfl dX_turn_85 ?_
      refine lv_iload_n hx hb dX_turn_88 rfl (lv_at hl 1 rfl) ?_
      refine va_zald hx hb hK hP 1 0 rfl rfl (vp_in_nI (by omega) (by decide)) dX_turn_89 ?_
      refine kb_zast (D := D) (wf := mw h cZ) (w' := (q.1, (ub q.2 2 (upd (q.2 2) ((nI i)).toNatClampNeg (vp_nar .boolean ((q.2 0) ((nI i)).toNatClampNeg)))))) hx hb hK hP hD hS 3 0 rfl rfl (vp_in_nI (by omega) (by decide)) dX_turn_90 rfl (fun H locs hP hD hS => ?_)
      refine lv_iinc (v := (nI (i + 1))) (lv' := [(1, .int (nI (i + 1))), (0, .ref (h 0))]) hx hb dX_turn_91 hl (k := 1) rfl (nI_1 i) (by decide) rfl (fun ls hl => ?_)
      refine lv_goto (tgt := 73) hx hb dX_turn_94 (by decide) ?_
      exact ih (i + 1) (q.1, (ub q.2 2 (upd (q.2 2) ((nI i)).toNatClampNeg (vp_nar .boolean ((q.2 0) ((nI i)).toNatClampNeg))))) _ _ _ (by omega) zs23 zs28 zs22 e hP hD hS (lv_sub hl [1, 0] rfl)
  have k_49 : ∀ (n i : Nat) (q : (Nat → Int32) × (Nat → Nat → Int32)) (H : Heap) (locs : List Loc) (ls : Array Slot), i + n = 4 → (q.1 23 = 0 ∨ q.1 23 = 1) → (q.1 28 = 0 ∨ q.1 28 = 1) → (q.1 22 = 0 ∨ q.1 22 = 1) → F_X_turn q0 = K_X_turn_49 n i q → va_P D vwCl (mw h cZ q) H → va_D A (mw h cZ q) → va_S A s.heap H locs → lv_has ls 7 [(0, .ref (h 0)), (1, .int (nI i))] → W p l e ({ frames := 2, cells := 0, slots := 0, locals := 47 }) s m [.ref (h 0)].toArray below meth c H locs 0 0 (MQ below (va_Qi (fun r' u' => r' = (F_X_turn q0).1 ∧ u' = (F_X_turn q0).2) (kb_E D [(cZ, .boolean)] (mw h cZ) A) A) [.ref (h 0)].toArray s 0 0 A) (F0 m 49 ls []) := by
    intro n
    induction n with
    | zero =>
      intro i q H locs ls hin zs23 zs28 zs22 e hP hD hS hl
      obtain rfl : i = 4 := by omega
      refine lv_iload_n hx hb dX_turn_49 rfl (lv_at hl 1 rfl) ?_
      refine lv_iconst (v := 4) hx hb dX_turn_50 (by decide) ?_
      refine lv_icmp_ge (tgt := 71) hx hb dX_turn_51 (by decide) (fun _ => ?_) (fun c9 => absurd (by decide) c9)
      refine lv_iconst (v := 0) hx hb dX_turn_71 (by decide) ?_
      refine lv_istore_n (lv' := [(1, .int 0), (0, .ref (h 0))]) hx hb dX_turn_72 rfl hl (by decide) rfl (fun ls hl => ?_)
      exact k_73 10 0 q _ _ _ (by omega) zs23 zs28 zs22 e hP hD hS (lv_sub hl [1, 0] rfl)
    | succ n ih =>
      intro i q H locs ls hin zs23 zs28 zs22 e hP hD hS hl
      refine lv_iload_n hx hb dX_turn_49 rfl (lv_at hl 1 rfl) ?_
      refine lv_iconst (v := 4) hx hb dX_turn_50 (by decide) ?_
      refine lv_icmp_ge (tgt := 71) hx hb dX_turn_51 (by decide) (fun c9 => absurd c9 (nI_ge (b := 4) (by omega) (by decide))) (fun _ => ?_)
      refine lv_aload_n hx hb dX_turn_54 rfl (lv_at hl 0 rfl) ?_
      refine va_get (D := D) (ci := 7) (v := .ref (h 7)) (C := "BoilerDeskModel") (T := TX) (N := 43) hx hb hts inX hown hK hP 0 rfl rfl 37 (by decide) (hts _ q_680) (fun _ h9 => h9) rfl dX_turn_55 ?_
      refine lv_iload_n hx hb dX_turn_58 rfl (lv_at hl 1 rfl) ?_
      refine va_zald hx hb hK hP 7 0 rfl rfl (vp_in_nI (by omega) (by decide)) dX_turn_59 ?_
      refine lv_if_ne (tgt := 65) hx hb dX_turn_60 (by decide) (fun c_49 => ?_) (fun c_49 => ?_)
      · have e := e.trans (if_neg c_49)
        refine lv_iinc (v := (nI (i + 1))) (lv' := [(1, .int (nI (i + 1))), (0, .ref (h 0))]) hx hb dX_turn_65 hl (k := 1) rfl (nI_1 i) (by decide) rfl (fun ls hl => ?_)
        refine lv_goto (tgt := 49) hx hb dX_turn_68 (by decide) ?_
        exact ih (i + 1) q _ _ _ (by omega) zs23 zs28 zs22 e hP hD hS (lv_sub hl [1, 0] rfl)
      · have e := e.trans (if_pos c_49)
        refine lv_iconst (v := 0) hx hb dX_turn_63 (by decide) ?_
        exact kb_zret (wf := mw h cZ) hx hb hr hlocks rfl hK hP hD hS ⟨(congrArg Prod.fst e).symm, (congrArg Prod.snd e).symm⟩ dX_turn_64
  have k_45 : ∀ (q : (Nat → Int32) × (Nat → Nat → Int32)) (H : Heap) (locs : List Loc) (ls : Array Slot), (q.1 23 = 0 ∨ q.1 23 = 1) → (q.1 28 = 0 ∨ q.1 28 = 1) → (q.1 22 = 0 ∨ q.1 22 = 1) → F_X_turn q0 = K_X_turn_45 q → va_P D vwCl (mw h cZ q) H → va_D A (mw h cZ q) → va_S A s.heap H locs → lv_has ls 7 [(0, .ref (h 0))] → W p l e ({ frames := 2, cells := 0, slots := 0, locals := 47 }) s m [.ref (h 0)].toArray below meth c H locs 0 0 (MQ below (va_Qi (fun r' u' => r' = (F_X_turn q0).1 ∧ u' = (F_X_turn q0).2) (kb_E D [(cZ, .boolean)] (mw h cZ) A) A) [.ref (h 0)].toArray s 0 0 A) (F0 m 45 ls []) := by
      intro q H locs ls zs23 zs28 zs22 e hP hD hS hl
      refine lv_iconst (v := 0) hx hb dX_turn_45 (by decide) ?_
      exact kb_zret (wf := mw h cZ) hx hb hr hlocks rfl hK hP hD hS ⟨(congrArg Prod.fst e).symm, (congrArg Prod.snd e).symm⟩ dX_turn_46
  have e : F_X_turn q0 = F_X_turn q0 := rfl
  refine lv_aload_n hx hb dX_turn_0 rfl (lv_at hl 0 rfl) ?_
  refine lv_aload_n hx hb dX_turn_1 rfl (lv_at hl 0 rfl) ?_
  refine va_get (D := D) (ci := 7) (v := .int (q0.1 30)) (C := "BoilerDeskModel") (T := TX) (N := 43) hx hb hts inX hown hK hP 0 rfl rfl 36 (by decide) (hts _ q_679) (fun _ h9 => h9) rfl dX_turn_2 ?_
  refine lv_if_eq (tgt := 17) hx hb dX_turn_5 (by decide) (fun c_50 => ?_) (fun c_50 => ?_)
  · have e := e.trans (if_pos c_50)
    refine lv_iconst (v := 0) hx hb dX_turn_17 (by decide) ?_
    refine kb_put (D := D) (wf := mw h cZ) (w' := ((up q0.1 16 0), q0.2)) (ci := 7) (v := .int 0) (ty := .int) (C := "BoilerDeskModel") (T := TX) (N := 43) hx hb hts inX tyX tyX_ok nmX hown hK hP hD hS 0 rfl rfl 16 (by decide) (hts _ q_659) (fun _ h9 => h9) rfl (by decide +kernel) rfl rfl (Nat.le_of_ble_eq_true rfl) dX_turn_18 rfl (fun H locs hP hD hS => ?_)
    refine lv_aload_n hx hb dX_turn_21 rfl (lv_at hl 0 rfl) ?_
    refine va_get (D := D) (ci := 7) (v := .int 0) (C := "BoilerDeskModel") (T := TX) (N := 43) hx hb hts inX hown hK hP 0 rfl rfl 16 (by decide) (hts _ q_659) (fun _ h9 => h9) rfl dX_turn_22 ?_
    refine lv_iconst (v := 3) hx hb dX_turn_25 (by decide) ?_
    refine lv_icmp_lt (tgt := 31) hx hb dX_turn_26 (by decide) (fun _ => ?_) (fun c9 => absurd (by decide) c9)
    refine lv_aload_n hx hb dX_turn_31 rfl (lv_at hl 0 rfl) ?_
    refine va_get (D := D) (ci := 7) (v := .int (q0.1 26)) (C := "BoilerDeskModel") (T := TX) (N := 43) hx hb hts inX hown hK hP 0 rfl rfl 32 (by decide) (hts _ q_675) (fun _ h9 => h9) rfl dX_turn_32 ?_
    refine lv_if_eq (tgt := 45) hx hb dX_turn_35 (by decide) (fun c_51 => ?_) (fun c_51 => ?_)
    · have e := e.trans (if_pos c_51)
      exact k_45 ((up q0.1 16 0), q0.2) _ _ _ zt23 zt28 zt22 e hP hD hS (lv_sub hl [0] rfl)
    · have e := e.trans (if_neg c_51)
      refine lv_aload_n hx hb dX_turn_38 rfl (lv_at hl 0 rfl) ?_
      refine va_get (D := D) (ci := 7) (v := .int (q0.1 27)) (C := "BoilerDeskModel") (T := TX) (N := 43) hx hb hts inX hown hK hP 0 rfl rfl 33 (by decide) (hts _ q_676) (fun _ h9 => h9) rfl dX_turn_39 ?_
      refine lv_if_ne (tgt := 47) hx hb dX_turn_42 (by decide) (fun c_52 => ?_) (fun c_52 => ?_)
      · have e := e.trans (if_neg c_52)
        refine lv_iconst (v := 0) hx hb dX_turn_47 (by decide) ?_
        refine lv_istore_n (lv' := [(1, .int 0), (0, .ref (h 0))]) hx hb dX_turn_48 rfl hl (by decide) rfl (fun ls hl => ?_)
        exact k_49 4 0 ((up q0.1 16 0), q0.2) _ _ _ (by omega) zt23 zt28 zt22 e hP hD hS (lv_sub hl [1, 0] rfl)
      · have e := e.trans (if_pos c_52)
        exact k_45 ((up q0.1 16 0), q0.2) _ _ _ zt23 zt28 zt22 e hP hD hS (lv_sub hl [0] rfl)
  · have e := e.trans (if_neg c_50)
    refine lv_aload_n hx hb dX_turn_8 rfl (lv_at hl 0 rfl) ?_
    refine va_get (D := D) (ci := 7) (v := .int (q0.1 16)) (C := "BoilerDeskModel") (T := TX) (N := 43) hx hb hts inX hown hK hP 0 rfl rfl 16 (by decide) (hts _ q_659) (fun _ h9 => h9) rfl dX_turn_9 ?_
    refine lv_iconst (v := 1) hx hb dX_turn_12 (by decide) ?_
    refine lv_iadd hx hb dX_turn_13 ?_
    refine lv_goto (tgt := 18) hx hb dX_turn_14 (by decide) ?_
    refine kb_put (D := D) (wf := mw h cZ) (w' := ((up q0.1 16 ((q0.1 16) + (1 : Int32))), q0.2)) (ci := 7) (v := .int ((q0.1 16) + (1 : Int32))) (ty := .int) (C := "BoilerDeskModel") (T := TX) (N := 43) hx hb hts inX tyX tyX_ok nmX hown hK hP hD hS 0 rfl rfl 16 (by decide) (hts _ q_659) (fun _ h9 => h9) rfl (by decide +kernel) rfl rfl (Nat.le_of_ble_eq_true rfl) dX_turn_18 rfl (fun H locs hP hD hS => ?_)
    refine lv_aload_n hx hb dX_turn_21 rfl (lv_at hl 0 rfl) ?_
    refine va_get (D := D) (ci := 7) (v := .int ((q0.1 16) + (1 : Int32))) (C := "BoilerDeskModel") (T := TX) (N := 43) hx hb hts inX hown hK hP 0 rfl rfl 16 (by decide) (hts _ q_659) (fun _ h9 => h9) rfl dX_turn_22 ?_
    refine lv_iconst (v := 3) hx hb dX_turn_25 (by decide) ?_
    refine lv_icmp_lt (tgt := 31) hx hb dX_turn_26 (by decide) (fun c_53 => ?_) (fun c_53 => ?_)
    · have e := e.trans (if_pos c_53)
      refine lv_aload_n hx hb dX_turn_31 rfl (lv_at hl 0 rfl) ?_
      refine va_get (D := D) (ci := 7) (v := .int (q0.1 26)) (C := "BoilerDeskModel") (T := TX) (N := 43) hx hb hts inX hown hK hP 0 rfl rfl 32 (by decide) (hts _ q_675) (fun _ h9 => h9) rfl dX_turn_32 ?_
      refine lv_if_eq (tgt := 45) hx hb dX_turn_35 (by decide) (fun c_54 => ?_) (fun c_54 => ?_)
      · have e := e.trans (if_pos c_54)
        exact k_45 ((up q0.1 16 ((q0.1 16) + (1 : Int32))), q0.2) _ _ _ zt23 zt28 zt22 e hP hD hS (lv_sub hl [0] rfl)
      · have e := e.trans (if_neg c_54)
        refine lv_aload_n hx hb dX_turn_38 rfl (lv_at hl 0 rfl) ?_
        refine va_get (D := D) (ci := 7) (v := .int (q0.1 27)) (C := "BoilerDeskModel") (T := TX) (N := 43) hx hb hts inX hown hK hP 0 rfl rfl 33 (by decide) (hts _ q_676) (fun _ h9 => h9) rfl dX_turn_39 ?_
        refine lv_if_ne (tgt := 47) hx hb dX_turn_42 (by decide) (fun c_55 => ?_) (fun c_55 => ?_)
        · have e := e.trans (if_neg c_55)
          refine lv_iconst (v := 0) hx hb dX_turn_47 (by decide) ?_
          refine lv_istore_n (lv' := [(1, .int 0), (0, .ref (h 0))]) hx hb dX_turn_48 rfl hl (by decide) rfl (fun ls hl => ?_)
          exact k_49 4 0 ((up q0.1 16 ((q0.1 16) + (1 : Int32))), q0.2) _ _ _ (by omega) zt23 zt28 zt22 e hP hD hS (lv_sub hl [1, 0] rfl)
        · have e := e.trans (if_pos c_55)
          exact k_45 ((up q0.1 16 ((q0.1 16) + (1 : Int32))), q0.2) _ _ _ zt23 zt28 zt22 e hP hD hS (lv_sub hl [0] rfl)
    · have e := e.trans (if_neg c_53)
      refine lv_iconst (v := 0) hx hb dX_turn_29 (by decide) ?_
      exact kb_zret (wf := mw h cZ) hx hb hr hlocks rfl hK hP hD hS ⟨(congrArg Prod.fst e).symm, (congrArg Prod.snd e).symm⟩ dX_turn_30
/-- BoilerDeskModel.cycle()I -/
def F_X_cycle (q0 : (Nat → Int32) × (Nat → Nat → Int32))  : Int32 × ((Nat → Int32) × (Nat → Nat → Int32)) := (if (q0.1 11) = (1000000 : Int32) then (0, ((up (up q0.1 0 0) 0 1), q0.2)) else (if ((F_X_quiet ((up (up q0.1 0 0) 11 ((q0.1 11) + (1 : Int32))), q0.2)).1 10) = (4 : Int32) then (((F_X_forget (F_X_quiet ((up (up q0.1 0 0) 11 ((q0.1 11) + (1 : Int32))), q0.2))).1 10), (F_X_forget (F_X_quiet ((up (up q0.1 0 0) 11 ((q0.1 11) + (1 : Int32))), q0.2)))) else (if ((F_X_turn (F_X_quiet ((up (up q0.1 0 0) 11 ((q0.1 11) + (1 : Int32))), q0.2))).1) = (0 : Int32) then (((F_X_forget ((up (F_X_turn (F_X_quiet ((up (up q0.1 0 0) 11 ((q0.1 11) + (1 : Int32))), q0.2))).2.1 10 4), (F_X_turn (F_X_quiet ((up (up q0.1 0 0) 11 ((q0.1 11) + (1 : Int32))), q0.2))).2.2)).1 10), (F_X_forget ((up (F_X_turn (F_X_quiet ((up (up q0.1 0 0) 11 ((q0.1 11) + (1 : Int32))), q0.2))).2.1 10 4), (F_X_turn (F_X_quiet ((up (up q0.1 0 0) 11 ((q0.1 11) + (1 : Int32))), q0.2))).2.2))) else (((F_X_forget (F_X_turn (F_X_quiet ((up (up q0.1 0 0) 11 ((q0.1 11) + (1 : Int32))), q0.2))).2).1 10), (F_X_forget (F_X_turn (F_X_quiet ((up (up q0.1 0 0) 11 ((q0.1 11) + (1 : Int32))), q0.2))).2)))))
set_option maxHeartbeats 4000000 in
set_option maxRecDepth 100000 in
theorem c_X_cycle (l : Launch) (D : va_G) (h : Nat → Nat) (cZ : ClassId) (sz : Nat) (q0 : (Nat → Int32) × (Nat → Nat → Int32))  (zt22 : q0.1 22 = 0 ∨ q0.1 22 = 1) (zt23 : q0.1 23 = 0 ∨ q0.1 23 = 1) (zt28 : q0.1 28 = 0 ∨ q0.1 28 = 1) : Met l yX_cycle [.code yX_cycle cX_cycle 2 (some .int)] ({ frames := 3, cells := 0, slots := 0, locals := 73 }) (va_Pc [.ref (h 0)] (kb_B D [(cZ, .boolean)] (mw h cZ) q0 sz)) (va_Qi (fun r' u' => r' = (F_X_cycle q0).1 ∧ u' = (F_X_cycle q0).2) (kb_E D [(cZ, .boolean)] (mw h cZ) (va_A (mw h cZ q0) sz)) (va_A (mw h cZ q0) sz)) 0 0 (va_A (mw h cZ q0) sz) := by
  refine kb_of (cc := cX_cycle) (maxL := 2) (ret := (some .int)) (QcA := fun A => (va_Qi (fun r' u' => r' = (F_X_cycle q0).1 ∧ u' = (F_X_cycle q0).2) (kb_E D [(cZ, .boolean)] (mw h cZ) A) A)) (by decide) (Nat.le_of_ble_eq_true rfl) ?_
  intro p e s m below meth c A hx hb hr hlocks hml hown hts hA hN hK hP hD ls hl
  have hS : va_S A s.heap s.heap [] := va_S.rf
  have hl : lv_has ls 2 [(0, .ref (h 0))] := hl
  have e : F_X_cycle q0 = F_X_cycle q0 := rfl
  refine lv_aload_n hx hb dX_cycle_0 rfl (lv_at hl 0 rfl) ?_
  refine lv_iconst (v := 0) hx hb dX_cycle_1 (by decide) ?_
  refine kb_put (D := D) (wf := mw h cZ) (w' := ((up q0.1 0 0), q0.2)) (ci := 7) (v := .int 0) (ty := .int) (C := "BoilerDeskModel") (T := TX) (N := 43) hx hb hts inX tyX tyX_ok nmX hown hK hP hD hS 0 rfl rfl 0 (by decide) (hts _ q_643) (fun _ h9 => h9) rfl (by decide +kernel) rfl rfl (Nat.le_of_ble_eq_true rfl) dX_cycle_2 rfl (fun H locs hP hD hS => ?_)
  refine lv_aload_n hx hb dX_cycle_5 rfl (lv_at hl 0 rfl) ?_
  refine lv_aload_n hx hb dX_cycle_6 rfl (lv_at hl 0 rfl) ?_
  refine va_get (D := D) (ci := 7) (v := .int (q0.1 11)) (C := "BoilerDeskModel") (T := TX) (N := 43) hx hb hts inX hown hK hP 0 rfl rfl 11 (by decide) (hts _ q_654) (fun _ h9 => h9) rfl dX_cycle_7 ?_
  refine lv_ldc (v := 1000000) hx hb hown (hts _ q_782) dX_cycle_10 ?_
  refine lv_icmp_ne (tgt := 19) hx hb dX_cycle_12 (by decide) (fun c_1 => ?_) (fun c_1 => ?_)
  · have e := e.trans (if_neg c_1)
    refine lv_iconst (v := 0) hx hb dX_cycle_19 (by decide) ?_
    refine lv_iconst (v := 1) hx hb dX_cycle_20 (by decide) ?_
    refine kb_calli (wf := mw h cZ) (r := 0) (u := ((up q0.1 0 0), q0.2)) (va_runV (As := [.int 0, .int 1]) (rest := []) ⟨hx, hb, hml, hown, hts⟩ (c_X_fails_0 l D h cZ _ q0.1 q0.2) (cwV 2 hts (gd_V q_787 q_789 q_24 q_40 q_790) rfl rfl rfl (by decide +kernel) ⟨Nat.le_of_ble_eq_true rfl, Nat.le_of_ble_eq_true rfl⟩) (kb_preV hN hK hP hD (va_recv hK hP (ci := 7) (q0 := 0) rfl rfl)) rfl rfl hl.1 rfl (lv_room (Nat.le_of_ble_eq_true rfl)) dX_cycle_21 ⟨Nat.zero_le _, Nat.zero_le _⟩) hP hD hS hA (fun H locs hP hD hS => ?_)
    refine lv_if_eq (tgt := 29) hx hb dX_cycle_24 (by decide) (fun _ => ?_) (fun c9 => absurd (by decide) c9)
    refine lv_aload_n hx hb dX_cycle_29 rfl (lv_at hl 0 rfl) ?_
    refine lv_dup hx hb dX_cycle_30 rfl ?_
    refine va_get (D := D) (ci := 7) (v := .int (q0.1 11)) (C := "BoilerDeskModel") (T := TX) (N := 43) hx hb hts inX hown hK hP 0 rfl rfl 11 (by decide) (hts _ q_654) (fun _ h9 => h9) rfl dX_cycle_31 ?_
    refine lv_iconst (v := 1) hx hb dX_cycle_34 (by decide) ?_
    refine lv_iadd hx hb dX_cycle_35 ?_
    refine kb_put (D := D) (wf := mw h cZ) (w' := ((up (up q0.1 0 0) 11 ((q0.1 11) + (1 : Int32))), q0.2)) (ci := 7) (v := .int ((q0.1 11) + (1 : Int32))) (ty := .int) (C := "BoilerDeskModel") (T := TX) (N := 43) hx hb hts inX tyX tyX_ok nmX hown hK hP hD hS 0 rfl rfl 11 (by decide) (hts _ q_654) (fun _ h9 => h9) rfl (by decide +kernel) rfl rfl (Nat.le_of_ble_eq_true rfl) dX_cycle_36 rfl (fun H locs hP hD hS => ?_)
    refine lv_aload_n hx hb dX_cycle_39 rfl (lv_at hl 0 rfl) ?_
    refine kb_callv (wf := mw h cZ) (u := F_X_quiet ((up (up q0.1 0 0) 11 ((q0.1 11) + (1 : Int32))), q0.2)) (va_runV (As := []) (rest := []) ⟨hx, hb, hml, hown, hts⟩ (c_X_quiet l D h cZ _ ((up (up q0.1 0 0) 11 ((q0.1 11) + (1 : Int32))), q0.2)) (cwV 0 hts (gd_V q_639 q_641 q_23 q_40 q_642) rfl rfl rfl (by decide +kernel) ⟨Nat.le_of_ble_eq_true rfl, Nat.le_of_ble_eq_true rfl⟩) (kb_preV hN hK hP hD (va_recv hK hP (ci := 7) (q0 := 0) rfl rfl)) rfl rfl hl.1 rfl (lv_room (Nat.le_of_ble_eq_true rfl)) dX_cycle_40 ⟨Nat.zero_le _, Nat.zero_le _⟩) hP hD hS hA (fun H locs hP hD hS => ?_)
    refine lv_aload_n hx hb dX_cycle_43 rfl (lv_at hl 0 rfl) ?_
    refine va_get (D := D) (ci := 7) (v := .int ((F_X_quiet ((up (up q0.1 0 0) 11 ((q0.1 11) + (1 : Int32))), q0.2)).1 10)) (C := "BoilerDeskModel") (T := TX) (N := 43) hx hb hts inX hown hK hP 0 rfl rfl 10 (by decide) (hts _ q_653) (fun _ h9 => h9) rfl dX_cycle_44 ?_
    refine lv_iconst (v := 4) hx hb dX_cycle_47 (by decide) ?_
    refine lv_icmp_eq (tgt := 65) hx hb dX_cycle_48 (by decide) (fun c_2 => ?_) (fun c_2 => ?_)
    · have e := e.trans (if_pos c_2)
      refine lv_aload_n hx hb dX_cycle_65 rfl (lv_at hl 0 rfl) ?_
      refine kb_callv (wf := mw h cZ) (u := F_X_forget (F_X_quiet ((up (up q0.1 0 0) 11 ((q0.1 11) + (1 : Int32))), q0.2))) (va_runV (As := []) (rest := []) ⟨hx, hb, hml, hown, hts⟩ (c_X_forget l D h cZ _ (F_X_quiet ((up (up q0.1 0 0) 11 ((q0.1 11) + (1 : Int32))), q0.2))) (cwV 0 hts (gd_V q_635 q_637 q_22 q_40 q_638) rfl rfl rfl (by decide +kernel) ⟨Nat.le_of_ble_eq_true rfl, Nat.le_of_ble_eq_true rfl⟩) (kb_preV hN hK hP hD (va_recv hK hP (ci := 7) (q0 := 0) rfl rfl)) rfl rfl hl.1 rfl (lv_room (Nat.le_of_ble_eq_true rfl)) dX_cycle_66 ⟨Nat.zero_le _, Nat.zero_le _⟩) hP hD hS hA (fun H locs hP hD hS => ?_)
      refine lv_aload_n hx hb dX_cycle_69 rfl (lv_at hl 0 rfl) ?_
      refine va_get (D := D) (ci := 7) (v := .int ((F_X_forget (F_X_quiet ((up (up q0.1 0 0) 11 ((q0.1 11) + (1 : Int32))), q0.2))).1 10)) (C := "BoilerDeskModel") (T := TX) (N := 43) hx hb hts inX hown hK hP 0 rfl rfl 10 (by decide) (hts _ q_653) (fun _ h9 => h9) rfl dX_cycle_70 ?_
      exact kb_iret (wf := mw h cZ) hx hb hr hlocks hK hP hD hS ⟨(congrArg Prod.fst e).symm, (congrArg Prod.snd e).symm⟩ dX_cycle_73
    · have e := e.trans (if_neg c_2)
      refine lv_aload_n hx hb dX_cycle_51 rfl (lv_at hl 0 rfl) ?_
      refine kb_calli (wf := mw h cZ) (r := (F_X_turn (F_X_quiet ((up (up q0.1 0 0) 11 ((q0.1 11) + (1 : Int32))), q0.2))).1) (u := (F_X_turn (F_X_quiet ((up (up q0.1 0 0) 11 ((q0.1 11) + (1 : Int32))), q0.2))).2) (va_runV (As := []) (rest := []) ⟨hx, hb, hml, hown, hts⟩ (c_X_turn l D h cZ _ (F_X_quiet ((up (up q0.1 0 0) 11 ((q0.1 11) + (1 : Int32))), q0.2)) (by first | exact zt23 | (simp only [fun q a z => find_kp q a z (k := 23) (by decide), fun q => units_kp q (k := 23) (by decide), fun q => first_kp q (k := 23) (by decide), fun q => others_kp q (k := 23) (by decide)]; exact zt23)) (by first | exact zt28 | (simp only [fun q a z => find_kp q a z (k := 28) (by decide), fun q => units_kp q (k := 28) (by decide), fun q => first_kp q (k := 28) (by decide), fun q => others_kp q (k := 28) (by decide)]; exact zt28)) (by first | exact zt22 | (simp only [fun q a z => find_kp q a z (k := 22) (by decide), fun q => units_kp q (k := 22) (by decide), fun q => first_kp q (k := 22) (by decide), fun q => others_kp q (k := 22) (by decide)]; exact zt22))) (cwV 0 hts (gd_V q_815 q_817 q_25 q_40 q_818) rfl rfl rfl (by decide +kernel) ⟨Nat.le_of_ble_eq_true rfl, Nat.le_of_ble_eq_true rfl⟩) (kb_preV hN hK hP hD (va_recv hK hP (ci := 7) (q0 := 0) rfl rfl)) rfl rfl hl.1 rfl (lv_room (Nat.le_of_ble_eq_true rfl)) dX_cycle_52 ⟨Nat.zero_le _, Nat.zero_le _⟩) hP hD hS hA (fun H locs hP hD hS => ?_)
      refine lv_istore_n (lv' := [(1, .int ((F_X_turn (F_X_quiet ((up (up q0.1 0 0) 11 ((q0.1 11) + (1 : Int32))), q0.2))).1)), (0, .ref (h 0))]) hx hb dX_cycle_55 rfl hl (by decide) rfl (fun ls hl => ?_)
      refine lv_iload_n hx hb dX_cycle_56 rfl (lv_at hl 0 rfl) ?_
      refine lv_if_ne (tgt := 65) hx hb dX_cycle_57 (by decide) (fun c_3 => ?_) (fun c_3 => ?_)
      · have e := e.trans (if_neg c_3)
        refine lv_aload_n hx hb dX_cycle_65 rfl (lv_at hl 1 rfl) ?_
        refine kb_callv (wf := mw h cZ) (u := F_X_forget (F_X_turn (F_X_quiet ((up (up q0.1 0 0) 11 ((q0.1 11) + (1 : Int32))), q0.2))).2) (va_runV (As := []) (rest := []) ⟨hx, hb, hml, hown, hts⟩ (c_X_forget l D h cZ _ (F_X_turn (F_X_quiet ((up (up q0.1 0 0) 11 ((q0.1 11) + (1 : Int32))), q0.2))).2) (cwV 0 hts (gd_V q_635 q_637 q_22 q_40 q_638) rfl rfl rfl (by decide +kernel) ⟨Nat.le_of_ble_eq_true rfl, Nat.le_of_ble_eq_true rfl⟩) (kb_preV hN hK hP hD (va_recv hK hP (ci := 7) (q0 := 0) rfl rfl)) rfl rfl hl.1 rfl (lv_room (Nat.le_of_ble_eq_true rfl)) dX_cycle_66 ⟨Nat.zero_le _, Nat.zero_le _⟩) hP hD hS hA (fun H locs hP hD hS => ?_)
        refine lv_aload_n hx hb dX_cycle_69 rfl (lv_at hl 1 rfl) ?_
        refine va_get (D := D) (ci := 7) (v := .int ((F_X_forget (F_X_turn (F_X_quiet ((up (up q0.1 0 0) 11 ((q0.1 11) + (1 : Int32))), q0.2))).2).1 10)) (C := "BoilerDeskModel") (T := TX) (N := 43) hx hb hts inX hown hK hP 0 rfl rfl 10 (by decide) (hts _ q_653) (fun _ h9 => h9) rfl dX_cycle_70 ?_
        exact kb_iret (wf := mw h cZ) hx hb hr hlocks hK hP hD hS ⟨(congrArg Prod.fst e).symm, (congrArg Prod.snd e).symm⟩ dX_cycle_73
      · have e := e.trans (if_pos c_3)
        refine lv_aload_n hx hb dX_cycle_60 rfl (lv_at hl 1 rfl) ?_
        refine lv_iconst (v := 4) hx hb dX_cycle_61 (by decide) ?_
        refine kb_put (D := D) (wf := mw h cZ) (w' := ((up (F_X_turn (F_X_quiet ((up (up q0.1 0 0) 11 ((q0.1 11) + (1 : Int32))), q0.2))).2.1 10 4), (F_X_turn (F_X_quiet ((up (up q0.1 0 0) 11 ((q0.1 11) + (1 : Int32))), q0.2))).2.2)) (ci := 7) (v := .int 4) (ty := .int) (C := "BoilerDeskModel") (T := TX) (N := 43) hx hb hts inX tyX tyX_ok nmX hown hK hP hD hS 0 rfl rfl 10 (by decide) (hts _ q_653) (fun _ h9 => h9) rfl (by decide +kernel) rfl rfl (Nat.le_of_ble_eq_true rfl) dX_cycle_62 rfl (fun H locs hP hD hS => ?_)
        refine lv_aload_n hx hb dX_cycle_65 rfl (lv_at hl 1 rfl) ?_
        refine kb_callv (wf := mw h cZ) (u := F_X_forget ((up (F_X_turn (F_X_quiet ((up (up q0.1 0 0) 11 ((q0.1 11) + (1 : Int32))), q0.2))).2.1 10 4), (F_X_turn (F_X_quiet ((up (up q0.1 0 0) 11 ((q0.1 11) + (1 : Int32))), q0.2))).2.2)) (va_runV (As := []) (rest := []) ⟨hx, hb, hml, hown, hts⟩ (c_X_forget l D h cZ _ ((up (F_X_turn (F_X_quiet ((up (up q0.1 0 0) 11 ((q0.1 11) + (1 : Int32))), q0.2))).2.1 10 4), (F_X_turn (F_X_quiet ((up (up q0.1 0 0) 11 ((q0.1 11) + (1 : Int32))), q0.2))).2.2)) (cwV 0 hts (gd_V q_635 q_637 q_22 q_40 q_638) rfl rfl rfl (by decide +kernel) ⟨Nat.le_of_ble_eq_true rfl, Nat.le_of_ble_eq_true rfl⟩) (kb_preV hN hK hP hD (va_recv hK hP (ci := 7) (q0 := 0) rfl rfl)) rfl rfl hl.1 rfl (lv_room (Nat.le_of_ble_eq_true rfl)) dX_cycle_66 ⟨Nat.zero_le _, Nat.zero_le _⟩) hP hD hS hA (fun H locs hP hD hS => ?_)
        refine lv_aload_n hx hb dX_cycle_69 rfl (lv_at hl 1 rfl) ?_
        refine va_get (D := D) (ci := 7) (v := .int ((F_X_forget ((up (F_X_turn (F_X_quiet ((up (up q0.1 0 0) 11 ((q0.1 11) + (1 : Int32))), q0.2))).2.1 10 4), (F_X_turn (F_X_quiet ((up (up q0.1 0 0) 11 ((q0.1 11) + (1 : Int32))), q0.2))).2.2)).1 10)) (C := "BoilerDeskModel") (T := TX) (N := 43) hx hb hts inX hown hK hP 0 rfl rfl 10 (by decide) (hts _ q_653) (fun _ h9 => h9) rfl dX_cycle_70 ?_
        exact kb_iret (wf := mw h cZ) hx hb hr hlocks hK hP hD hS ⟨(congrArg Prod.fst e).symm, (congrArg Prod.snd e).symm⟩ dX_cycle_73
  · have e := e.trans (if_pos c_1)
    refine lv_iconst (v := 1) hx hb dX_cycle_15 (by decide) ?_
    refine lv_goto (tgt := 20) hx hb dX_cycle_16 (by decide) ?_
    refine lv_iconst (v := 1) hx hb dX_cycle_20 (by decide) ?_
    refine kb_calli (wf := mw h cZ) (r := 1) (u := ((up (up q0.1 0 0) 0 1), q0.2)) (va_runV (As := [.int 1, .int 1]) (rest := []) ⟨hx, hb, hml, hown, hts⟩ (c_X_fails_1 l D h cZ _ q0.1 q0.2) (cwV 2 hts (gd_V q_787 q_789 q_24 q_40 q_790) rfl rfl rfl (by decide +kernel) ⟨Nat.le_of_ble_eq_true rfl, Nat.le_of_ble_eq_true rfl⟩) (kb_preV hN hK hP hD (va_recv hK hP (ci := 7) (q0 := 0) rfl rfl)) rfl rfl hl.1 rfl (lv_room (Nat.le_of_ble_eq_true rfl)) dX_cycle_21 ⟨Nat.zero_le _, Nat.zero_le _⟩) hP hD hS hA (fun H locs hP hD hS => ?_)
    refine lv_if_eq (tgt := 29) hx hb dX_cycle_24 (by decide) (fun c9 => absurd c9 (by decide)) (fun _ => ?_)
    refine lv_iconst (v := 0) hx hb dX_cycle_27 (by decide) ?_
    exact kb_iret (wf := mw h cZ) hx hb hr hlocks hK hP hD hS ⟨(congrArg Prod.fst e).symm, (congrArg Prod.snd e).symm⟩ dX_cycle_28
