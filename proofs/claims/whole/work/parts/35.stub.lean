abbrev MSt : Type := (Nat → Int32) × (Nat → Nat → Int32)
def Rel (w : Nat → Int32) (q : MSt) : Prop := w 0 = q.1 10
theorem P_z22 {w : Nat → Int32} {q : MSt} (h : Rel w q) : q.1 22 = 0 ∨ q.1 22 = 1 := sorry
theorem P_z23 {w : Nat → Int32} {q : MSt} (h : Rel w q) : q.1 23 = 0 ∨ q.1 23 = 1 := sorry
theorem P_z28 {w : Nat → Int32} {q : MSt} (h : Rel w q) : q.1 28 = 0 ∨ q.1 28 = 1 := sorry
theorem P_init : Rel (F_D_startAnew (F_P_setRates (F_P_setLimits w00 1000 100 400 600 900) 50 5 5 15)) (F_X_anew (w00, b00) 1000 100 400 600 900 50 5 5 15) := sorry
theorem P_begin {w : Nat → Int32} {q : MSt} (h : Rel w q) (a1 a2 a3 a4 a5 a6 a7 a8 a9 : Int32) : F_X_thrown (F_X_begin q a1 a2 a3 a4 a5 a6 a7 a8 a9) = (exv (F_D_begin w a1 a2 a3 a4 a5 a6 a7 a8 a9) w).1 ∧ Rel (exv (F_D_begin w a1 a2 a3 a4 a5 a6 a7 a8 a9) w).2 (F_X_begin q a1 a2 a3 a4 a5 a6 a7 a8 a9) := sorry
theorem P_level {w : Nat → Int32} {q : MSt} (h : Rel w q) (a : Int32) : Rel (F_D_level w a) (F_X_level q a) := sorry
theorem P_steam {w : Nat → Int32} {q : MSt} (h : Rel w q) (a : Int32) : Rel (F_D_steam w a) (F_X_steam q a) := sorry
theorem P_pump {w : Nat → Int32} {q : MSt} (h : Rel w q) (a1 a2 a3 : Int32) (z2 : a2 = 0 ∨ a2 = 1) (z3 : a3 = 0 ∨ a3 = 1) : F_X_thrown (F_X_pump q a1 a2 a3) = (exv (F_D_pump w a1 a2 a3) w).1 ∧ Rel (exv (F_D_pump w a1 a2 a3) w).2 (F_X_pump q a1 a2 a3) := sorry
theorem P_say {w : Nat → Int32} {q : MSt} (h : Rel w q) (a1 : Int32) : F_X_thrown (F_X_say q a1) = (exv (F_D_say w a1) w).1 ∧ Rel (exv (F_D_say w a1) w).2 (F_X_say q a1) := sorry
theorem P_unit {w : Nat → Int32} {q : MSt} (h : Rel w q) (a1 a2 : Int32) (z2 : a2 = 0 ∨ a2 = 1) : F_X_thrown (F_X_unit q a1 a2) = (exv (F_D_unit w a1 a2) w).1 ∧ Rel (exv (F_D_unit w a1 a2) w).2 (F_X_unit q a1 a2) := sorry
theorem P_cycle {w : Nat → Int32} {q : MSt} (h : Rel w q) (f : Nat → Int64) : F_X_thrown (F_X_cycle q).2 = (exi (F_D_cycle w) (w, f)).1 ∧ Rel (exi (F_D_cycle w) (w, f)).2.1 (F_X_cycle q).2 ∧ ((exi (F_D_cycle w) (w, f)).1 = 0 → (exi (F_D_cycle w) (w, f)).2.2 ((0 : Int32)).toNatClampNeg = ((F_X_cycle q).1).toInt64) := sorry
theorem P_told {w : Nat → Int32} {q : MSt} (h : Rel w q) (f : Nat → Int64) (a : Int32) : F_X_thrown (F_X_told q a).2 = (exp (F_D_told w a) (w, f)).1 ∧ Rel (exp (F_D_told w a) (w, f)).2.1 (F_X_told q a).2 ∧ ((exp (F_D_told w a) (w, f)).1 = 0 → (exp (F_D_told w a) (w, f)).2.2 ((0 : Int32)).toNatClampNeg = ((F_X_told q a).1).toInt64) := sorry
theorem P_state {w : Nat → Int32} {q : MSt} (h : Rel w q) (f : Nat → Int64) (a : Int32) : F_X_thrown (F_X_state q a).2 = (exp (F_D_state w a) (w, f)).1 ∧ Rel (exp (F_D_state w a) (w, f)).2.1 (F_X_state q a).2 ∧ ((exp (F_D_state w a) (w, f)).1 = 0 → (exp (F_D_state w a) (w, f)).2.2 ((0 : Int32)).toNatClampNeg = ((F_X_state q a).1).toInt64) := sorry
