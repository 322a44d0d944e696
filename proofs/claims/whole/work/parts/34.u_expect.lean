/-! THE PURE PART: what is expected, what is detected -/
def clampX (c x : Int32) : Int32 := if 0 ≤ x then (if x ≤ c then x else c) else 0
theorem clampX_lo {c : Int32} (x : Int32) (hc : 0 ≤ c.toInt) : 0 ≤ (clampX c x).toInt := by
  unfold clampX
  have c0 : (0 : Int32).toInt = 0 := by decide
  split
  · rename_i h; rw [Int32.le_iff_toInt_le] at h
    split <;> omega
  · omega
theorem clampX_hi {c : Int32} (x : Int32) (hc : 0 ≤ c.toInt) : (clampX c x).toInt ≤ c.toInt := by
  unfold clampX
  have c0 : (0 : Int32).toInt = 0 := by decide
  split
  · split
    · rename_i h; rw [Int32.le_iff_toInt_le] at h; exact h
    · omega
  · omega
theorem cap_eq (w : Nat → Int32) (a : Int32) (hc : 0 ≤ (w 4).toInt) : F_P_withinCapacity w a = clampX (w 4) a := by
  unfold F_P_withinCapacity clampX
  have c0 : (0 : Int32).toInt = 0 := by decide
  by_cases h1 : w 4 < a
  · rw [if_pos h1]
    have h1' := Int32.lt_iff_toInt_lt.mp h1
    have h2 : (0 : Int32) ≤ a := by rw [Int32.le_iff_toInt_le]; omega
    have h3 : ¬ a ≤ w 4 := by rw [Int32.le_iff_toInt_le]; omega
    rw [if_pos h2, if_neg h3]
    by_cases h4 : (0 : Int32) < w 4
    · rw [if_pos h4]
    · rw [if_neg h4]
      rw [Int32.lt_iff_toInt_lt] at h4
      exact Int32.toInt_inj.mp (by omega)
  · rw [if_neg h1]
    have h1' := h1
    rw [Int32.lt_iff_toInt_lt] at h1'
    have h3 : a ≤ w 4 := by rw [Int32.le_iff_toInt_le]; omega
    rw [if_pos h3]
    by_cases h4 : (0 : Int32) < a
    · have h2 : (0 : Int32) ≤ a := by rw [Int32.lt_iff_toInt_lt] at h4; rw [Int32.le_iff_toInt_le]; omega
      rw [if_pos h4, if_pos h2]
    · rw [if_neg h4]
      by_cases h2 : (0 : Int32) ≤ a
      · rw [if_pos h2]
        rw [Int32.lt_iff_toInt_lt] at h4
        rw [Int32.le_iff_toInt_le] at h2
        exact Int32.toInt_inj.mp (by omega)
      · rw [if_neg h2]
theorem k213_0 (i : Nat) (q : MSt) (x1 x2 x3 x4 : Int32) : K_X_turn_213 0 i q x1 x2 x3 x4 = K_X_turn_387 q x1 x2 (clampX (q.1 1) x3) x4 (nI 4) (clampX (q.1 1) x4) := by
  have e : ∀ y, K_X_turn_359 q x1 x2 x3 x4 (nI 4) y = K_X_turn_387 q x1 x2 y x4 (nI 4) (clampX (q.1 1) x4) := by
    intro y
    unfold K_X_turn_359 clampX
    split
    · split <;> rfl
    · rfl
  rw [K_X_turn_213, e, e, e]
  unfold clampX
  split
  · split <;> rfl
  · rfl
def mx (a b : Int32) : Int32 := if a ≤ b then b else a
def mn (a b : Int32) : Int32 := if a ≤ b then a else b
theorem mx_eq (a b : Int32) : (if a < b then b else a) = mx a b := by
  unfold mx
  by_cases h : a < b
  · rw [if_pos h, if_pos]; rw [Int32.lt_iff_toInt_lt] at h; rw [Int32.le_iff_toInt_le]; omega
  · rw [if_neg h]
    by_cases h' : a ≤ b
    · rw [if_pos h']; rw [Int32.lt_iff_toInt_lt] at h; rw [Int32.le_iff_toInt_le] at h'; exact Int32.toInt_inj.mp (by omega)
    · rw [if_neg h']
theorem mn_eq (a b : Int32) : (if a < b then a else b) = mn a b := by
  unfold mn
  by_cases h : a < b
  · rw [if_pos h, if_pos]; rw [Int32.lt_iff_toInt_lt] at h; rw [Int32.le_iff_toInt_le]; omega
  · rw [if_neg h]
    by_cases h' : a ≤ b
    · rw [if_pos h']; rw [Int32.lt_iff_toInt_lt] at h; rw [Int32.le_iff_toInt_le] at h'; exact Int32.toInt_inj.mp (by omega)
    · rw [if_neg h']
theorem mn_eq' (a b : Int32) : (if b < a then b else a) = mn a b := by
  unfold mn
  by_cases h : b < a
  · rw [if_pos h, if_neg]; rw [Int32.lt_iff_toInt_lt] at h; rw [Int32.le_iff_toInt_le]; omega
  · rw [if_neg h, if_pos]; rw [Int32.lt_iff_toInt_lt] at h; rw [Int32.le_iff_toInt_le]; omega
theorem low_eq (d : Int32) : (if d < 0 then (0 : Int32) else d) = (if 0 ≤ d then d else 0) := by
  by_cases h : d < 0
  · rw [if_pos h, if_neg]; rw [Int32.lt_iff_toInt_lt] at h; rw [Int32.le_iff_toInt_le]; omega
  · rw [if_neg h, if_pos]; rw [Int32.lt_iff_toInt_lt] at h; rw [Int32.le_iff_toInt_le]; omega
theorem k131 (q : MSt) (a y : Int32) : K_X_turn_131 q a y = K_X_turn_213 4 0 q y (mn (q.1 15 + q.1 7) (q.1 6)) (q.1 12 - mx (q.1 15) (mn (q.1 15 + q.1 7) (q.1 6))) (q.1 13 - mn y (q.1 14)) := by
  have e1 : ∀ x1 x2 y0 y1, K_X_turn_185 q x1 x2 y0 y1 = K_X_turn_213 4 0 q x1 x2 (y1 - y0) (q.1 13 - mn x1 (q.1 14)) := by
    intro x1 x2 y0 y1
    unfold K_X_turn_185 mn K_X_turn_207
    split <;> rfl
  have e2 : ∀ x1 y0, K_X_turn_164 q x1 y0 = K_X_turn_213 4 0 q x1 y0 (q.1 12 - mx (q.1 15) y0) (q.1 13 - mn x1 (q.1 14)) := by
    intro x1 y0
    unfold K_X_turn_164
    rw [e1, e1]
    unfold mx
    split <;> rfl
  unfold K_X_turn_131
  rw [e2, e2]
  by_cases h : q.1 15 + q.1 7 ≤ q.1 6
  · rw [if_pos h, show mn (q.1 15 + q.1 7) (q.1 6) = q.1 15 + q.1 7 from if_pos h]
  · rw [if_neg h, show mn (q.1 15 + q.1 7) (q.1 6) = q.1 6 from if_neg h]
theorem add_b (x p : Int32) (b : Bool) : x + bI b * p = if b = true then x + p else x := by
  cases b
  · show x + 0 * p = x; rw [Int32.zero_mul, Int32.add_zero]
  · show x + 1 * p = x + p; rw [Int32.one_mul]
def sureB (x1 on be ga : Int32) (i : Nat) : Bool := !bt x1 (2 + i) && !bt x1 (6 + i) && bt on i && bt be i && bt ga i
def mayB (x1 on : Int32) (i : Nat) : Bool := !(!bt x1 (2 + i) && !bt x1 (6 + i) && !bt on i)
theorem n2 (i : Nat) : (2 : Int32) + nI i = nI (2 + i) := nI_add 2 i
theorem n6 (i : Nat) : (6 : Int32) + nI i = nI (6 + i) := nI_add 6 i
theorem k213_s {q : MSt} {x on be ga : Int32} (hx : Msk 10 x (q.2 2)) (h3 : Msk 4 on (q.2 3)) (h4 : Msk 4 be (q.2 4)) (h5 : Msk 4 ga (q.2 5)) (n i : Nat) (hi : i < 4) (x1 x2 x3 x4 : Int32) : K_X_turn_213 (n + 1) i q x1 x2 x3 x4 = K_X_turn_213 n (i + 1) q x1 x2 (x3 + bI (sureB x on be ga i) * q.1 9) (x4 + bI (mayB x on i) * q.1 9) := by
  rw [K_X_turn_213, n2, n6, clI (by omega), clI (by omega), clI (by omega), hx.1 (2 + i) (by omega), hx.1 (6 + i) (by omega), h3.1 i hi, h4.1 i hi, h5.1 i hi, add_b, add_b]
  unfold sureB mayB
  generalize bt x (2 + i) = c1
  generalize bt x (6 + i) = c2
  generalize bt on i = c3
  generalize bt be i = c4
  generalize bt ga i = c5
  cases c1 <;> cases c2 <;> cases c3 <;> cases c4 <;> cases c5 <;> rfl
theorem sum4 (x p : Int32) (a b c d : Bool) : x + bI a * p + bI b * p + bI c * p + bI d * p = x + (bI a + bI b + bI c + bI d) * p := by
  rw [Int32.add_mul, Int32.add_mul, Int32.add_mul, Int32.add_assoc, Int32.add_assoc, Int32.add_assoc, Int32.add_assoc, Int32.add_assoc]
theorem trusted_bt (a : Int32) (i : Nat) (ha : ∀ j, 10 ≤ j → bt a j = false) : bt (F_M_trusted a) i = (decide (i < 4) && (!bt a (2 + i) && !bt a (6 + i))) := by
  unfold F_M_trusted
  rcases Nat.lt_or_ge i 32 with h | h
  · have e2 := b_sshr 2 (by decide) a h
    have e6 := b_sshr 6 (by decide) a h
    rw [b_and, b_and, b_15, b_not _ h, b_not _ h]
    have e2' : bt (a >>> ((2 : Int32) &&& 31)) i = bt a (2 + i) := by
      refine e2.trans ?_
      split
      · rfl
      · rw [ha 31 (by omega), ha (2 + i) (by omega)]
    have e6' : bt (a >>> ((6 : Int32) &&& 31)) i = bt a (6 + i) := by
      refine e6.trans ?_
      split
      · rfl
      · rw [ha 31 (by omega), ha (6 + i) (by omega)]
    rw [e2', e6', Bool.and_assoc]
  · rw [b_big h, decide_eq_false (by omega)]; rfl
theorem given_sure (w : Nat → Int32) (x : Int32) (ha : ∀ j, 10 ≤ j → bt x j = false) : F_P_given w (F_M_pumpsSurelyGiving w x) = (bI (sureB x (w 27) (w 28) (w 29) 0) + bI (sureB x (w 27) (w 28) (w 29) 1) + bI (sureB x (w 27) (w 28) (w 29) 2) + bI (sureB x (w 27) (w 28) (w 29) 3)) * w 12 := by
  have e : ∀ i, bt (F_M_pumpsSurelyGiving w x) i = (decide (i < 4) && sureB x (w 27) (w 28) (w 29) i) := by
    intro i
    unfold F_M_pumpsSurelyGiving sureB
    rw [b_and, b_and, b_and, trusted_bt x i ha]
    cases decide (i < 4) <;> cases bt x (2 + i) <;> cases bt x (6 + i) <;> cases bt (w 27) i <;> cases bt (w 28) i <;> cases bt (w 29) i <;> rfl
  unfold F_P_given
  rw [cnt4 (fun i hi => by rw [e, decide_eq_false (by omega)]; rfl), e, e, e, e]
  rfl
theorem given_may (w : Nat → Int32) (x : Int32) (ha : ∀ j, 10 ≤ j → bt x j = false) : F_P_given w ((15 : Int32) &&& ((F_M_pumpsSurelyIdle w x) ^^^ ((-1) : Int32))) = (bI (mayB x (w 27) 0) + bI (mayB x (w 27) 1) + bI (mayB x (w 27) 2) + bI (mayB x (w 27) 3)) * w 12 := by
  have e : ∀ i, bt ((15 : Int32) &&& ((F_M_pumpsSurelyIdle w x) ^^^ ((-1) : Int32))) i = (decide (i < 4) && mayB x (w 27) i) := by
    intro i
    rcases Nat.lt_or_ge i 4 with h | h
    · rw [b_and, b_15, b_not _ (by omega)]
      unfold F_M_pumpsSurelyIdle mayB
      rw [b_and, b_not _ (by omega), trusted_bt x i ha, decide_eq_true h]
      cases bt x (2 + i) <;> cases bt x (6 + i) <;> cases bt (w 27) i <;> rfl
    · rw [b_and, b_15, decide_eq_false (by omega)]; rfl
  unfold F_P_given
  rw [cnt4 (fun i hi => by rw [e, decide_eq_false (by omega)]; rfl), e, e, e, e]
  rfl
/-- what is expected, in the class's numbers -/
theorem exp_eq {w : Nat → Int32} {q : MSt} (h : RT w q) {x : Int32} (hx : Msk 10 x (q.2 2)) : ∃ X1 X2 X3 X4 Y : Int32, F_D_expectReadings w x = up (up (up (up w 44 X1) 45 X2) 42 X3) 43 X4 ∧ (if (0 : Int32) ≤ (q.1 14 - q.1 8) then K_X_turn_131 q (nI 10) (q.1 14 - q.1 8) else K_X_turn_131 q (nI 10) (0 : Int32)) = K_X_turn_423 q X1 X2 X3 X4 (nI 4) Y ∧ 0 ≤ X1.toInt ∧ X2.toInt ≤ (q.1 6).toInt ∧ 0 ≤ X3.toInt ∧ X3.toInt ≤ (q.1 1).toInt ∧ 0 ≤ X4.toInt ∧ X4.toInt ≤ (q.1 1).toInt ∧ ((Y = 0 ∧ q.1 10 ≠ 0) ∨ (Y = 1 ∧ q.1 10 = 0 ∧ X1 = 0 ∧ X2 = q.1 6 ∧ X3 = 0 ∧ X4 = q.1 1)) := by
  obtain ⟨⟨k1, k2, k3, k4, k5, k6, k7, k8, k9, l1, l2, l3, l4, l5, l6⟩, ⟨e1, e2, e3, e4, -⟩, hU, ⟨m1, -⟩, hR, hN, hz, hz2, h0, h4, ⟨-, -, o3, o4⟩, hJ⟩ := h
  have c0 : (0 : Int32).toInt = 0 := by decide
  have em : (if (0 : Int32) ≤ (q.1 14 - q.1 8) then K_X_turn_131 q (nI 10) (q.1 14 - q.1 8) else K_X_turn_131 q (nI 10) (0 : Int32)) = K_X_turn_131 q (nI 10) (if (0 : Int32) ≤ (q.1 14 - q.1 8) then (q.1 14 - q.1 8) else 0) := by split <;> rfl
  rw [em, k131, k213_s hx m1 o3 o4 3 0 (by decide), k213_s hx m1 o3 o4 2 1 (by decide), k213_s hx m1 o3 o4 1 2 (by decide), k213_s hx m1 o3 o4 0 3 (by decide), sum4, sum4, k213_0]
  unfold K_X_turn_387
  by_cases z : q.1 10 = 0
  · rw [if_pos z]
    refine ⟨0, q.1 6, 0, q.1 1, 1, ?_, ?_, ?_, ?_, ?_, ?_, ?_, ?_, Or.inr ⟨rfl, z, rfl, rfl, rfl, rfl⟩⟩
    · unfold F_D_expectReadings
      rw [if_pos (h0.trans z), ← k6, ← k1]; rfl
    · unfold K_X_turn_411; rw [if_pos z]
    all_goals omega
  · rw [if_neg z]
    have hc : 0 ≤ (w 4).toInt := by rw [k1]; omega
    have hc' : 0 ≤ (q.1 1).toInt := by omega
    have e411 : ∀ a b c d : Int32, K_X_turn_411 q a b c d (nI 4) = K_X_turn_423 q a b c d (nI 4) 0 := fun a b c d => if_neg z
    refine ⟨_, _, _, _, 0, ?_, e411 _ _ _ _, ?_, ?_, clampX_lo _ hc', clampX_hi _ hc', clampX_lo _ hc', clampX_hi _ hc', Or.inl ⟨rfl, z⟩⟩
    rotate_left
    · split
      · rename_i y; rw [Int32.le_iff_toInt_le] at y; omega
      · omega
    · unfold mn
      split
      · rename_i y; rw [Int32.le_iff_toInt_le] at y; exact y
      · omega
    · unfold F_D_expectReadings
      rw [if_neg (by rw [h0]; exact z), low_eq, mn_eq', ← k1, ← k6, ← k7, ← k8, ← k9, ← e1, ← e2, ← e3, ← e4]
      generalize hY1 : (if (0 : Int32) ≤ (w 40 - w 11) then (w 40 - w 11) else 0) = Y1
      generalize hY2 : mn (w 41 + w 10) (w 9) = Y2
      have a1 := cap_eq (F_S_put_9 w Y1 Y2) (w 38 - mx (w 41) Y2 + F_P_given (F_S_put_9 w Y1 Y2) (F_M_pumpsSurelyGiving (F_S_put_9 w Y1 Y2) x)) hc
      have a2 := cap_eq (F_S_put_9 w Y1 Y2) (w 39 - mn Y1 (w 40) + F_P_given (F_S_put_9 w Y1 Y2) ((15 : Int32) &&& ((F_M_pumpsSurelyIdle (F_S_put_9 w Y1 Y2) x) ^^^ ((-1) : Int32)))) hc
      rw [given_sure _ x hx.2] at a1
      rw [given_may _ x hx.2] at a2
      rw [given_sure _ x hx.2, given_may _ x hx.2]
      have b1 := mx_eq (w 41) Y2
      have b2 := mn_eq Y1 (w 40)
      show F_S_put_8 (F_S_put_9 w Y1 Y2) (F_P_withinCapacity (F_S_put_9 w Y1 Y2) (w 38 - (if w 41 < Y2 then Y2 else w 41) + _)) (F_P_withinCapacity (F_S_put_9 w Y1 Y2) (w 39 - (if Y1 < w 40 then Y1 else w 40) + _)) = _
      rw [b1, b2, a1, a2]
      rfl
