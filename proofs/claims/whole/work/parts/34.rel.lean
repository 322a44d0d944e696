/-! THE PURE PART: the class's numbers and the reference's numbers -/
abbrev MSt : Type := (Nat → Int32) × (Nat → Nat → Int32)
/-- the constants -/
def RC (w s : Nat → Int32) : Prop := w 4 = s 1 ∧ w 5 = s 2 ∧ w 6 = s 3 ∧ w 7 = s 4 ∧ w 8 = s 5 ∧ w 9 = s 6 ∧ w 10 = s 7 ∧ w 11 = s 8 ∧ w 12 = s 9 ∧ 0 ≤ (s 2).toInt ∧ (s 2).toInt < (s 3).toInt ∧ (s 3).toInt < (s 4).toInt ∧ (s 4).toInt < (s 5).toInt ∧ (s 5).toInt ≤ (s 1).toInt ∧ (s 1).toInt ≤ 1000000
/-- the estimates -/
def RE (w s : Nat → Int32) : Prop := w 38 = s 12 ∧ w 39 = s 13 ∧ w 40 = s 14 ∧ w 41 = s 15 ∧ 0 ≤ (s 12).toInt ∧ (s 12).toInt ≤ 1000000 ∧ 0 ≤ (s 13).toInt ∧ (s 13).toInt ≤ 1000000
/-- the units -/
def RU (w : Nat → Int32) (r : Nat → Nat → Int32) : Prop := Msk 10 (w 25) (r 0) ∧ Msk 10 (w 26) (r 1) ∧ ∀ i, bt (w 26) i = true → bt (w 25) i = true
/-- what was told to the pumps and the valve -/
def RM (w s : Nat → Int32) (r : Nat → Nat → Int32) : Prop := Msk 4 (w 27) (r 3) ∧ w 30 = s 22 ∧ (s 22 = 0 ∨ s 22 = 1)
def tv (a b : Int32) : Int32 := if a = 0 then (if b = 0 then 0 else 2) else 1
/-- what is told -/
def RR (w s : Nat → Int32) : Prop := (w 31 ||| (w 32 <<< ((4 : Int32) &&& 31))) = s 19 ∧ tv (w 33) (w 34) = s 20 ∧ w 35 = s 17 ∧ w 36 = s 18 ∧ w 37 = s 21 ∧ (s 21 = 0 ∨ s 21 = 1)
/-- what was received -/
def RI (w s : Nat → Int32) (r : Nat → Nat → Int32) : Prop := w 13 = s 26 ∧ (w 13 ≠ 0 → w 14 = s 24) ∧ w 15 = s 27 ∧ (w 15 ≠ 0 → w 16 = s 25) ∧ w 20 = s 28 ∧ (s 28 = 0 ∨ s 28 = 1) ∧ w 21 = s 29 ∧ w 22 = s 30 ∧ Msk 4 (w 17) (r 6) ∧ (∀ i, i < 4 → bt (w 17) i = true → r 7 i = bI (bt (w 18) i) ∧ r 8 i = bI (bt (w 19) i)) ∧ (∀ i, 4 ≤ i → bt (w 18) i = false ∧ bt (w 19) i = false) ∧ Msk 10 (w 23) (r 9) ∧ Msk 10 (w 24) (r 10)
/-- what counts only while the program has not stopped -/
def RO (w s : Nat → Int32) (r : Nat → Nat → Int32) : Prop := w 2 = s 16 ∧ w 3 = s 23 ∧ Msk 4 (w 28) (r 4) ∧ Msk 4 (w 29) (r 5)
def RN (w s : Nat → Int32) : Prop := w 1 = s 11 ∧ 0 ≤ (s 11).toInt ∧ (s 11).toInt ≤ 1000000
def Rel (w : Nat → Int32) (q : MSt) : Prop := RC w q.1 ∧ RE w q.1 ∧ RU w q.2 ∧ RM w q.1 q.2 ∧ RR w q.1 ∧ RI w q.1 q.2 ∧ RN w q.1 ∧ (q.1 23 = 0 ∨ q.1 23 = 1) ∧ w 0 = q.1 10 ∧ (q.1 10 ≠ 4 → RO w q.1 q.2)
theorem P_z22 {w : Nat → Int32} {q : MSt} (h : Rel w q) : q.1 22 = 0 ∨ q.1 22 = 1 := h.2.2.2.1.2.2
theorem P_z23 {w : Nat → Int32} {q : MSt} (h : Rel w q) : q.1 23 = 0 ∨ q.1 23 = 1 := h.2.2.2.2.2.2.2.1
theorem P_z28 {w : Nat → Int32} {q : MSt} (h : Rel w q) : q.1 28 = 0 ∨ q.1 28 = 1 := h.2.2.2.2.2.1.2.2.2.2.2.1
/-- the reference's note of a throw counts for nothing -/
theorem Rel.err {w : Nat → Int32} {q : MSt} (h : Rel w q) (x : Int32) : Rel w (up q.1 0 x, q.2) := h
theorem Rel.err2 {w : Nat → Int32} {q : MSt} (h : Rel w q) (x y : Int32) : Rel w (up (up q.1 0 x) 0 y, q.2) := h
theorem P_level {w : Nat → Int32} {q : MSt} (h : Rel w q) (a : Int32) : Rel (F_D_level w a) (F_X_level q a) := by
  obtain ⟨hC, hE, hU, hM, hR, ⟨-, -, i3⟩, hN, hz, h0, hO⟩ := h
  exact ⟨hC, hE, hU, hM, hR, ⟨rfl, fun _ => rfl, i3⟩, hN, hz, h0, hO⟩
theorem P_steam {w : Nat → Int32} {q : MSt} (h : Rel w q) (a : Int32) : Rel (F_D_steam w a) (F_X_steam q a) := by
  obtain ⟨hC, hE, hU, hM, hR, ⟨i1, i2, -, -, i5⟩, hN, hz, h0, hO⟩ := h
  exact ⟨hC, hE, hU, hM, hR, ⟨i1, i2, rfl, fun _ => rfl, i5⟩, hN, hz, h0, hO⟩
theorem within_iff (a b c : Int32) : F_X_in a b c = 0 ↔ ¬ (b.toInt ≤ a.toInt ∧ a.toInt ≤ c.toInt) := by
  unfold F_X_in
  split
  · rename_i z; rw [Int32.lt_iff_toInt_lt] at z; exact ⟨fun _ => by omega, fun _ => rfl⟩
  · rename_i z; rw [Int32.lt_iff_toInt_lt] at z
    split
    · rename_i y; rw [Int32.lt_iff_toInt_lt] at y; exact ⟨fun _ => by omega, fun _ => rfl⟩
    · rename_i y; rw [Int32.lt_iff_toInt_lt] at y; exact ⟨fun x => absurd x (by decide), fun x => absurd ⟨by omega, by omega⟩ x⟩
theorem isWithin_in (a b c : Int32) : F_D_isWithin a b c = F_X_in a b c := rfl
/-- a number in 0..n-1 -/
theorem in_nI {a : Int32} {n : Nat} (h0 : 0 ≤ a.toInt) (h1 : a.toInt < n) : ∃ i, i < n ∧ a = nI i := by
  obtain ⟨j, hj, e⟩ := nI_of2 (x := a) (M := a) (n := a.toInt.toNat) (by omega) (by rw [Int32.lt_iff_toInt_lt]; show ¬ a.toInt < 0; omega) (by rw [Int32.le_iff_toInt_le]; omega)
  exact ⟨j, by omega, e⟩
theorem P_pump {w : Nat → Int32} {q : MSt} (h : Rel w q) (a1 a2 a3 : Int32) (z2 : a2 = 0 ∨ a2 = 1) (z3 : a3 = 0 ∨ a3 = 1) : F_X_thrown (F_X_pump q a1 a2 a3) = (exv (F_D_pump w a1 a2 a3) w).1 ∧ Rel (exv (F_D_pump w a1 a2 a3) w).2 (F_X_pump q a1 a2 a3) := by
  unfold F_X_pump F_D_pump
  have c0 : (0 : Int32).toInt = 0 := by decide
  have c3 : (3 : Int32).toInt = 3 := by decide
  have c4 : (4 : Int32).toInt = 4 := by decide
  by_cases g1 : a1 < 0
  · rw [if_pos g1, if_pos ((within_iff _ _ _).mpr (by rw [Int32.lt_iff_toInt_lt] at g1; omega))]
    exact ⟨rfl, h.err2 0 1⟩
  by_cases g2 : a1 < 4
  · have g1' := g1
    rw [Int32.lt_iff_toInt_lt] at g1'
    have g2' := Int32.lt_iff_toInt_lt.mp g2
    have g3 : ¬ F_X_in a1 0 3 = 0 := by rw [within_iff]; omega
    rw [if_neg g1, if_pos g2, if_neg g3]
    obtain ⟨i, hi, rfl⟩ := in_nI (n := 4) (a := a1) (by omega) (by omega)
    refine ⟨rfl, ?_⟩
    obtain ⟨hC, hE, hU, hM, hR, ⟨i1, i2, i3, i4, i5, i6, i7, i8, i9, i10, i11, i12⟩, hN, hz, h0, hO⟩ := h
    refine ⟨hC, hE, hU, hM, hR, ⟨i1, i2, i3, i4, i5, i6, i7, i8, ?_, ?_, ?_, i12⟩, hN, hz, h0, hO⟩
    · exact i9.put hi (by decide) (Or.inr rfl)
    · show ∀ j, j < 4 → bt (F_D_withBit (w 17) (nI i) 1) j = true → upd (q.2 7) (nI i).toNatClampNeg (vp_nar .boolean a2) j = bI (bt (F_D_withBit (w 18) (nI i) a2) j) ∧ upd (q.2 8) (nI i).toNatClampNeg (vp_nar .boolean a3) j = bI (bt (F_D_withBit (w 19) (nI i) a3) j)
      intro j hj
      rw [with1 _ (by omega), withb _ (by omega) z2, withb _ (by omega) z3, clI (by omega), nar01 z2, nar01 z3, upd_eq, upd_eq]
      by_cases e : j = i
      · rw [if_pos e, if_pos e, if_pos e, if_pos e, bI_dec z2, bI_dec z3]; exact fun _ => ⟨rfl, rfl⟩
      · rw [if_neg e, if_neg e, if_neg e, if_neg e, decide_eq_false e, Bool.or_false]; exact i10 j hj
    · show ∀ j, 4 ≤ j → bt (F_D_withBit (w 18) (nI i) a2) j = false ∧ bt (F_D_withBit (w 19) (nI i) a3) j = false
      intro j hj
      rw [withb _ (by omega) z2, withb _ (by omega) z3, if_neg (by omega), if_neg (by omega)]
      exact i11 j hj
  · rw [if_neg g1, if_neg g2, if_pos ((within_iff _ _ _).mpr (by rw [Int32.lt_iff_toInt_lt] at g2; omega))]
    exact ⟨rfl, h.err2 0 1⟩
theorem P_say {w : Nat → Int32} {q : MSt} (h : Rel w q) (a1 : Int32) : F_X_thrown (F_X_say q a1) = (exv (F_D_say w a1) w).1 ∧ Rel (exv (F_D_say w a1) w).2 (F_X_say q a1) := by
  unfold F_X_say F_D_say
  have c0 : (0 : Int32).toInt = 0 := by decide
  have c2 : (2 : Int32).toInt = 2 := by decide
  by_cases g : F_X_in a1 0 2 = 0
  · rw [if_pos g]
    have n0 : ¬ a1 = 0 := fun e => by subst e; exact absurd g (by decide)
    have n1 : ¬ a1 = 1 := fun e => by subst e; exact absurd g (by decide)
    have n2 : ¬ a1 = 2 := fun e => by subst e; exact absurd g (by decide)
    rw [if_neg n0, if_neg n1, if_neg n2]
    exact ⟨rfl, h.err2 0 1⟩
  · rw [if_neg g]
    rw [within_iff] at g
    obtain ⟨i, hi, rfl⟩ := in_nI (n := 3) (a := a1) (by omega) (by omega)
    obtain ⟨hC, hE, hU, hM, hR, ⟨i1, i2, i3, i4, i5, i6, i7, i8, i9⟩, hN, hz, h0, hO⟩ := h
    match i, hi with
    | 0, _ => exact ⟨rfl, hC, hE, hU, hM, hR, ⟨i1, i2, i3, i4, rfl, Or.inr rfl, i7, i8, i9⟩, hN, hz, h0, hO⟩
    | 1, _ => exact ⟨rfl, hC, hE, hU, hM, hR, ⟨i1, i2, i3, i4, i5, i6, rfl, i8, i9⟩, hN, hz, h0, hO⟩
    | 2, _ => exact ⟨rfl, hC, hE, hU, hM, hR, ⟨i1, i2, i3, i4, i5, i6, i7, rfl, i9⟩, hN, hz, h0, hO⟩
theorem P_unit {w : Nat → Int32} {q : MSt} (h : Rel w q) (a1 a2 : Int32) (z2 : a2 = 0 ∨ a2 = 1) : F_X_thrown (F_X_unit q a1 a2) = (exv (F_D_unit w a1 a2) w).1 ∧ Rel (exv (F_D_unit w a1 a2) w).2 (F_X_unit q a1 a2) := by
  unfold F_X_unit F_D_unit
  have c0 : (0 : Int32).toInt = 0 := by decide
  have c3 : (9 : Int32).toInt = 9 := by decide
  have c4 : (10 : Int32).toInt = 10 := by decide
  by_cases g1 : a1 < 0
  · rw [if_pos g1, if_pos ((within_iff _ _ _).mpr (by rw [Int32.lt_iff_toInt_lt] at g1; omega))]
    exact ⟨rfl, h.err2 0 1⟩
  by_cases g2 : a1 < 10
  · have g1' := g1
    rw [Int32.lt_iff_toInt_lt] at g1'
    have g2' := Int32.lt_iff_toInt_lt.mp g2
    have g3 : ¬ F_X_in a1 0 9 = 0 := by rw [within_iff]; omega
    rw [if_neg g1, if_pos g2, if_neg g3]
    obtain ⟨i, hi, rfl⟩ := in_nI (n := 10) (a := a1) (by omega) (by omega)
    obtain ⟨hC, hE, hU, hM, hR, ⟨i1, i2, i3, i4, i5, i6, i7, i8, i9, i10, i11, i12, i13⟩, hN, hz, h0, hO⟩ := h
    by_cases e : a2 = 0
    · rw [if_pos e, if_pos e]
      exact ⟨rfl, hC, hE, hU, hM, hR, ⟨i1, i2, i3, i4, i5, i6, i7, i8, i9, i10, i11, i12, i13.put hi (by decide) (Or.inr rfl)⟩, hN, hz, h0, hO⟩
    · rw [if_neg e, if_neg e]
      exact ⟨rfl, hC, hE, hU, hM, hR, ⟨i1, i2, i3, i4, i5, i6, i7, i8, i9, i10, i11, i12.put hi (by decide) (Or.inr rfl), i13⟩, hN, hz, h0, hO⟩
  · rw [if_neg g1, if_neg g2, if_pos ((within_iff _ _ _).mpr (by rw [Int32.lt_iff_toInt_lt] at g2; omega))]
    exact ⟨rfl, h.err2 0 1⟩
theorem st106 (a1 : Int32) (m : Int32) : ∀ (n i : Nat) (q : MSt) (x : Int32), i + n = 10 → Msk 10 m (q.2 0) → (∀ j, bt x j = (bt m j && decide (j < i))) → K_X_state_106 a1 n i q x = (m, q) := by
  intro n
  induction n with
  | zero => intro i q x e h hx; have hx' : ∀ j, bt x j = (bt m j && decide (j < 10)) := (by rw [show (10 : Nat) = i by omega]; exact hx); rw [K_X_state_106, orZ h hx']
  | succ n ih =>
    intro i q x e h hx
    rw [K_X_state_106]
    rw [clI (by omega)]
    split
    · rename_i z; exact ih (i + 1) q x (by omega) h (or0 h (by omega) hx z)
    · rename_i z; exact ih (i + 1) q _ (by omega) h (or1 h (by omega) (by decide) hx z)
theorem st137 (a1 : Int32) (m : Int32) : ∀ (n i : Nat) (q : MSt) (x : Int32), i + n = 10 → Msk 10 m (q.2 1) → (∀ j, bt x j = (bt m j && decide (j < i))) → K_X_state_137 a1 n i q x = (m, q) := by
  intro n
  induction n with
  | zero => intro i q x e h hx; have hx' : ∀ j, bt x j = (bt m j && decide (j < 10)) := (by rw [show (10 : Nat) = i by omega]; exact hx); rw [K_X_state_137, orZ h hx']
  | succ n ih =>
    intro i q x e h hx
    rw [K_X_state_137]
    rw [clI (by omega)]
    split
    · rename_i z; exact ih (i + 1) q x (by omega) h (or0 h (by omega) hx z)
    · rename_i z; exact ih (i + 1) q _ (by omega) h (or1 h (by omega) (by decide) hx z)
theorem st168 (a1 : Int32) (m : Int32) : ∀ (n i : Nat) (q : MSt) (x : Int32), i + n = 4 → Msk 4 m (q.2 3) → (∀ j, bt x j = (bt m j && decide (j < i))) → K_X_state_168 a1 n i q x = (m, q) := by
  intro n
  induction n with
  | zero => intro i q x e h hx; have hx' : ∀ j, bt x j = (bt m j && decide (j < 4)) := (by rw [show (4 : Nat) = i by omega]; exact hx); rw [K_X_state_168, orZ h hx']
  | succ n ih =>
    intro i q x e h hx
    rw [K_X_state_168]
    rw [clI (by omega)]
    split
    · rename_i z; exact ih (i + 1) q x (by omega) h (or0 h (by omega) hx z)
    · rename_i z; exact ih (i + 1) q _ (by omega) h (or1 h (by omega) (by decide) hx z)
theorem or00 (m : Int32) : ∀ j, bt 0 j = (bt m j && decide (j < 0)) := fun j => by rw [b_0, decide_eq_false (by omega), Bool.and_false]
/-- an answer -/
theorem ans {w : Nat → Int32} {q : MSt} {f : Nat → Int64} (h : Rel w q) {o : Option Int32} {x y : Int32} (ho : o = some x) {q' : Int32 × MSt} (e : q' = (y, (up q.1 0 0, q.2))) (hx : x = y) : F_X_thrown q'.2 = (exp o (w, f)).1 ∧ Rel (exp o (w, f)).2.1 q'.2 ∧ ((exp o (w, f)).1 = 0 → (exp o (w, f)).2.2 ((0 : Int32)).toNatClampNeg = (q'.1).toInt64) := by
  subst ho e hx
  refine ⟨rfl, h.err 0, fun _ => ?_⟩
  show vp_updL f ((0 : Int32)).toNatClampNeg x.toInt64 ((0 : Int32)).toNatClampNeg = x.toInt64
  exact if_pos rfl
theorem ansN {w : Nat → Int32} {q : MSt} {f : Nat → Int64} (h : Rel w q) {o : Option Int32} (ho : o = none) {q' : Int32 × MSt} (e : q' = (0, (up (up q.1 0 0) 0 1, q.2))) : F_X_thrown q'.2 = (exp o (w, f)).1 ∧ Rel (exp o (w, f)).2.1 q'.2 ∧ ((exp o (w, f)).1 = 0 → (exp o (w, f)).2.2 ((0 : Int32)).toNatClampNeg = (q'.1).toInt64) := by
  subst ho e
  exact ⟨rfl, h.err2 0 1, fun z => absurd (show (1 : Int32) = 0 from z) (by decide)⟩
theorem P_told {w : Nat → Int32} {q : MSt} (h : Rel w q) (f : Nat → Int64) (a : Int32) : F_X_thrown (F_X_told q a).2 = (exp (F_D_told w a) (w, f)).1 ∧ Rel (exp (F_D_told w a) (w, f)).2.1 (F_X_told q a).2 ∧ ((exp (F_D_told w a) (w, f)).1 = 0 → (exp (F_D_told w a) (w, f)).2.2 ((0 : Int32)).toNatClampNeg = ((F_X_told q a).1).toInt64) := by
  have c0 : (0 : Int32).toInt = 0 := by decide
  have c4 : (4 : Int32).toInt = 4 := by decide
  obtain ⟨r1, r2, r3, r4, r5, r6⟩ := h.2.2.2.2.1
  by_cases g : F_X_in a 0 4 = 0
  · have n0 : ¬ a = 0 := fun e => by subst e; exact absurd g (by decide)
    have n1 : ¬ a = 1 := fun e => by subst e; exact absurd g (by decide)
    have n2 : ¬ a = 2 := fun e => by subst e; exact absurd g (by decide)
    have n3 : ¬ a = 3 := fun e => by subst e; exact absurd g (by decide)
    have n4 : ¬ a = 4 := fun e => by subst e; exact absurd g (by decide)
    refine ansN h ?_ (if_pos g)
    unfold F_D_told
    rw [if_neg n0, if_neg n1, if_neg n2, if_neg n3, if_neg n4]
  · have gg := g
    rw [within_iff] at gg
    obtain ⟨i, hi, rfl⟩ := in_nI (n := 5) (a := a) (by omega) (by omega)
    match i, hi with
    | 0, _ => exact ans h rfl rfl r1
    | 1, _ =>
      refine ans h (x := tv (w 33) (w 34)) ?_ rfl r2
      show (if (w 33) = (0 : Int32) then (if (w 34) = (0 : Int32) then (some (0 : Int32)) else (some (2 : Int32))) else (some (1 : Int32))) = _
      unfold tv
      split
      · split <;> rfl
      · rfl
    | 2, _ => exact ans h rfl rfl r3
    | 3, _ => exact ans h rfl rfl r4
    | 4, _ =>
      refine ans h (x := w 37) ?_ rfl r5
      show (if (w 37) = (0 : Int32) then (some (0 : Int32)) else (some (1 : Int32))) = _
      rw [r5]
      rcases r6 with z | z <;> rw [z] <;> rfl
theorem P_state {w : Nat → Int32} {q : MSt} (h : Rel w q) (f : Nat → Int64) (a : Int32) : F_X_thrown (F_X_state q a).2 = (exp (F_D_state w a) (w, f)).1 ∧ Rel (exp (F_D_state w a) (w, f)).2.1 (F_X_state q a).2 ∧ ((exp (F_D_state w a) (w, f)).1 = 0 → (exp (F_D_state w a) (w, f)).2.2 ((0 : Int32)).toNatClampNeg = ((F_X_state q a).1).toInt64) := by
  have c0 : (0 : Int32).toInt = 0 := by decide
  have c4 : (9 : Int32).toInt = 9 := by decide
  by_cases g : F_X_in a 0 9 = 0
  · have n0 : ¬ a = 0 := fun e => by subst e; exact absurd g (by decide)
    have n1 : ¬ a = 1 := fun e => by subst e; exact absurd g (by decide)
    have n2 : ¬ a = 2 := fun e => by subst e; exact absurd g (by decide)
    have n3 : ¬ a = 3 := fun e => by subst e; exact absurd g (by decide)
    have n4 : ¬ a = 4 := fun e => by subst e; exact absurd g (by decide)
    have n5 : ¬ a = 5 := fun e => by subst e; exact absurd g (by decide)
    have n6 : ¬ a = 6 := fun e => by subst e; exact absurd g (by decide)
    have n7 : ¬ a = 7 := fun e => by subst e; exact absurd g (by decide)
    have n8 : ¬ a = 8 := fun e => by subst e; exact absurd g (by decide)
    have n9 : ¬ a = 9 := fun e => by subst e; exact absurd g (by decide)
    refine ansN h ?_ (if_pos g)
    unfold F_D_state
    rw [if_neg n0, if_neg n1, if_neg n2, if_neg n3, if_neg n4, if_neg n5, if_neg n6, if_neg n7, if_neg n8, if_neg n9]
  · have gg := g
    rw [within_iff] at gg
    obtain ⟨i, hi, rfl⟩ := in_nI (n := 10) (a := a) (by omega) (by omega)
    have h' := h
    obtain ⟨hC, ⟨e1, e2, e3, e4, -⟩, ⟨u1, u2, -⟩, ⟨m1, m2, m3⟩, hR, hI, ⟨nn, -⟩, hz, h0, hO⟩ := h'
    match i, hi with
    | 0, _ => exact ans h rfl rfl e1
    | 1, _ => exact ans h rfl rfl e2
    | 2, _ => exact ans h rfl rfl e3
    | 3, _ => exact ans h rfl rfl e4
    | 4, _ => exact ans h (x := w 25) rfl (st106 4 (w 25) 10 0 _ _ rfl u1 (or00 _)) rfl
    | 5, _ => exact ans h (x := w 26) rfl (st137 5 (w 26) 10 0 _ _ rfl u2 (or00 _)) rfl
    | 6, _ => exact ans h (x := w 27) rfl (st168 6 (w 27) 4 0 _ _ rfl m1 (or00 _)) rfl
    | 7, _ =>
      rcases m3 with z | z
      · refine ans h (x := 0) (y := 0) ?_ ?_ rfl
        · show (if (w 30) = (0 : Int32) then (some (0 : Int32)) else (some (1 : Int32))) = _
          rw [m2, z]; rfl
        · show (if (q.1 22) = (0 : Int32) then (0, ((up q.1 0 0), q.2)) else (1, ((up q.1 0 0), q.2))) = _
          rw [z]; rfl
      · refine ans h (x := 1) (y := 1) ?_ ?_ rfl
        · show (if (w 30) = (0 : Int32) then (some (0 : Int32)) else (some (1 : Int32))) = _
          rw [m2, z]; rfl
        · show (if (q.1 22) = (0 : Int32) then (0, ((up q.1 0 0), q.2)) else (1, ((up q.1 0 0), q.2))) = _
          rw [z]; rfl
    | 8, _ => exact ans h rfl rfl h0
    | 9, _ => exact ans h rfl rfl nn
