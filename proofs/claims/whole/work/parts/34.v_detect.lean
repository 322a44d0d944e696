/-! THE PURE PART: what is detected, what is estimated -/
def nb (x : Int32) : Int32 := if x = 0 then 1 else 0
theorem k423 {q : MSt} {X1 X2 X3 X4 Y : Int32} (b1 : 0 ≤ X1.toInt) (b2 : X2.toInt ≤ (q.1 6).toInt) (b3 : 0 ≤ X3.toInt) (b4 : X4.toInt ≤ (q.1 1).toInt) (hY : (Y = 0 ∧ q.1 10 ≠ 0) ∨ (Y = 1 ∧ q.1 10 = 0 ∧ X1 = 0 ∧ X2 = q.1 6 ∧ X3 = 0 ∧ X4 = q.1 1)) (x5 : Int32) : K_X_turn_423 q X1 X2 X3 X4 x5 Y = K_X_turn_513 4 0 (F_X_find (F_X_find q 0 (nb (F_X_in (q.1 24) X3 X4))) 1 (nb (F_X_in (q.1 25) X1 X2))) X1 X2 X3 X4 Y := by
  have c0 : (0 : Int32).toInt = 0 := by decide
  have A : F_X_in (q.1 24) 0 (q.1 1) = 0 → F_X_in (q.1 24) X3 X4 = 0 := by rw [within_iff, within_iff]; omega
  have B : F_X_in (q.1 25) 0 (q.1 6) = 0 → F_X_in (q.1 25) X1 X2 = 0 := by rw [within_iff, within_iff]; omega
  unfold K_X_turn_423
  rw [find_kp q 0 1 (show (25 : Nat) ≠ 17 by decide), find_kp q 0 1 (show (6 : Nat) ≠ 17 by decide), find_kp q 0 0 (show (25 : Nat) ≠ 17 by decide), find_kp q 0 0 (show (6 : Nat) ≠ 17 by decide)]
  rcases hY with ⟨y, -⟩ | ⟨y, -, y1, y2, y3, y4⟩
  · subst y
    rw [if_pos (show (0 : Int32) = 0 from rfl)]
    unfold nb
    by_cases h1 : F_X_in (q.1 24) X3 X4 = 0
    · by_cases h2 : F_X_in (q.1 25) X1 X2 = 0
      · by_cases h3 : F_X_in (q.1 24) 0 (q.1 1) = 0 <;> by_cases h4 : F_X_in (q.1 25) 0 (q.1 6) = 0 <;> simp only [h1, h2, h3, h4, if_true, if_false]
      · have h4 : ¬ F_X_in (q.1 25) 0 (q.1 6) = 0 := fun z => h2 (B z)
        by_cases h3 : F_X_in (q.1 24) 0 (q.1 1) = 0 <;> simp only [h1, h2, h3, h4, if_true, if_false]
    · have h3 : ¬ F_X_in (q.1 24) 0 (q.1 1) = 0 := fun z => h1 (A z)
      by_cases h2 : F_X_in (q.1 25) X1 X2 = 0
      · by_cases h4 : F_X_in (q.1 25) 0 (q.1 6) = 0 <;> simp only [h1, h2, h3, h4, if_true, if_false]
      · have h4 : ¬ F_X_in (q.1 25) 0 (q.1 6) = 0 := fun z => h2 (B z)
        simp only [h1, h2, h3, h4, if_true, if_false]
  · subst y y1 y2 y3 y4
    rw [if_neg (show ¬ (1 : Int32) = 0 by decide)]
    unfold nb
    by_cases h1 : F_X_in (q.1 24) 0 (q.1 1) = 0 <;> by_cases h2 : F_X_in (q.1 25) 0 (q.1 6) = 0 <;> simp only [h1, h2, if_true, if_false] <;> rfl
theorem find0 (q : MSt) (a : Int32) : F_X_find q a 0 = q := rfl
/-- in a cycle, with what is expected -/
def RD (w : Nat → Int32) (q : MSt) (X1 X2 X3 X4 : Int32) : Prop := RT w q ∧ w 44 = X1 ∧ w 45 = X2 ∧ w 42 = X3 ∧ w 43 = X4
def LV (w : Nat → Int32) (X3 X4 : Int32) : Prop := bt (w 25) 0 = false → ¬ F_X_in (w 14) X3 X4 = 0
theorem RD.det {w : Nat → Int32} {q : MSt} {X1 X2 X3 X4 : Int32} (h : RD w q X1 X2 X3 X4) {i : Nat} (hi : i < 10) : RD (F_D_detect w (nI i)) (F_X_find q (nI i) 1) X1 X2 X3 X4 := by
  have hh := h
  obtain ⟨⟨hC, hE, hU, hM, ⟨r1, r2, r3, r4, r5, r6, r7, r8, r9, r10⟩, hN, hz, hz2, h0, h4, hO, hJ⟩, x1, x2, x3, x4⟩ := hh
  unfold F_D_detect F_X_find K_X_find_13
  rw [failed_at hU hi, if_neg (show ¬ (1 : Int32) = 0 by decide)]
  by_cases g : q.2 0 (nI i).toNatClampNeg = 0
  · rw [if_pos g, if_pos g]
    have hb : bt (w 25) i = false := by rw [failed_bt hU hi, bI_0] at g; exact g
    refine ⟨⟨hC, hE, hU.fail hi hb _, hM, ⟨r1, r2, r3, r4, r5, r6, r7, r8, ?_, r10⟩, hN, hz, hz2, h0, h4, hO, hJ⟩, x1, x2, x3, x4⟩
    show F_D_withBit (w 35) (nI i) 1 = q.1 17 ||| ((1 : Int32) <<< (nI i &&& 31))
    rw [r9]; rfl
  · rw [if_neg g, if_neg g]
    exact h
theorem det_grow (w : Nat → Int32) {i : Nat} (hi : i < 32) (j : Nat) (h : bt (w 25) j = true) : bt (F_D_detect w (nI i) 25) j = true := by
  unfold F_D_detect
  split
  · show bt (F_D_withBit (w 25) (nI i) 1) j = true
    rw [with1 _ hi, h]; rfl
  · exact h
theorem det_14 (w : Nat → Int32) (a : Int32) : F_D_detect w a 14 = w 14 := by
  unfold F_D_detect
  split <;> rfl
theorem LV.det {w : Nat → Int32} {X3 X4 : Int32} (h : LV w X3 X4) {i : Nat} (hi : i < 32) : LV (F_D_detect w (nI i)) X3 X4 := by
  intro z
  rw [det_14]
  apply h
  cases hb : bt (w 25) 0 with
  | false => rfl
  | true => rw [det_grow w hi 0 hb] at z; exact z
theorem det_self {w : Nat → Int32} {r : Nat → Nat → Int32} (hU : RU w r) : bt (F_D_detect w (nI 0) 25) 0 = true := by
  unfold F_D_detect
  rw [failed_at hU (by decide), failed_bt hU (by decide)]
  cases hb : bt (w 25) 0 with
  | false =>
    rw [if_pos (show bI false = 0 from rfl)]
    show bt (F_D_withBit (w 25) (nI 0) 1) 0 = true
    rw [with1 _ (by decide), hb]; rfl
  | true => rw [if_neg (show ¬ bI true = 0 by decide)]; exact hb
theorem det558 (X1 X2 X3 X4 Y m : Int32) : ∀ (n i : Nat) (w : Nat → Int32) (q : MSt), i + n = 4 → RD w q X1 X2 X3 X4 → LV w X3 X4 → q.1 10 = m → ∃ q' : MSt, K_X_turn_558 n i q X1 X2 X3 X4 Y = K_X_turn_558 0 4 q' X1 X2 X3 X4 Y ∧ RD (K_D_detectFailures_91 n i w) q' X1 X2 X3 X4 ∧ LV (K_D_detectFailures_91 n i w) X3 X4 ∧ q'.1 10 = m := by
  intro n
  induction n with
  | zero =>
    intro i w q e h hl hm
    refine ⟨q, ?_, h, hl, hm⟩
    rw [K_X_turn_558, K_X_turn_558]
  | succ n ih =>
    intro i w q e h hl hm
    have hh := h
    obtain ⟨⟨hC, hE, hU, ⟨m1, m2⟩, hR, hN, hz, hz2, h0, h4, ⟨-, -, o3, o4⟩, ⟨-, -, -, j4, j5, -⟩⟩, x1, x2, x3, x4⟩ := hh
    rw [K_X_turn_558, K_D_detectFailures_91, n2, n6, failed_at hU (by omega), find0]
    have A := ih (i + 1) w q (by omega) h hl hm
    have B := ih (i + 1) _ _ (by omega) (h.det (i := 6 + i) (by omega)) (hl.det (i := 6 + i) (by omega)) ((find_kp _ _ _ (by decide)).trans hm)
    by_cases g : q.2 0 (nI (2 + i)).toNatClampNeg = 0
    · rw [if_pos g, if_pos g, clI (by omega), j5.1 i (by omega), m1.1 i (by omega), o3.1 i (by omega)]
      unfold F_D_isToldWrongly
      rw [hasBit_eq _ (by omega), hasBit_eq _ (by omega), hasBit_eq _ (by omega), b_and]
      generalize bt (w 19) i = c1
      generalize bt (w 27) i = c2
      generalize bt (w 28) i = c3
      cases c1 <;> cases c2 <;> cases c3 <;> first | exact A | exact B
    · rw [if_neg g, if_neg g]; exact A
theorem det513 (X1 X2 X3 X4 Y m : Int32) : ∀ (n i : Nat) (w : Nat → Int32) (q : MSt), i + n = 4 → RD w q X1 X2 X3 X4 → LV w X3 X4 → q.1 10 = m → ∃ q' : MSt, K_X_turn_513 n i q X1 X2 X3 X4 Y = K_X_turn_558 0 4 q' X1 X2 X3 X4 Y ∧ RD (K_D_detectFailures_46 n i w) q' X1 X2 X3 X4 ∧ LV (K_D_detectFailures_46 n i w) X3 X4 ∧ q'.1 10 = m := by
  intro n
  induction n with
  | zero =>
    intro i w q e h hl hm
    rw [K_X_turn_513, K_D_detectFailures_46]
    exact det558 X1 X2 X3 X4 Y m 4 0 w q rfl h hl hm
  | succ n ih =>
    intro i w q e h hl hm
    have hh := h
    obtain ⟨⟨hC, hE, hU, ⟨m1, m2⟩, hR, hN, hz, hz2, h0, h4, hO, ⟨-, -, -, j4, j5, -⟩⟩, x1, x2, x3, x4⟩ := hh
    rw [K_X_turn_513, K_D_detectFailures_46, n2, find0, j4.at (by omega) (by decide), m1.at (by omega) (by decide)]
    by_cases g : F_D_hasBit (w 18) (nI i) = F_D_hasBit (w 27) (nI i)
    · rw [if_pos g, if_pos g]
      exact ih (i + 1) w q (by omega) h hl hm
    · rw [if_neg g, if_neg g]
      exact ih (i + 1) _ _ (by omega) (h.det (by omega)) (hl.det (by omega)) ((find_kp _ _ _ (by decide)).trans hm)
/-- all that is detected -/
theorem detect_all {w : Nat → Int32} {q : MSt} (h : RT w q) {x : Int32} (hx : Msk 10 x (q.2 2)) : ∃ (q' : MSt) (X1 X2 X3 X4 Y : Int32), (if (0 : Int32) ≤ (q.1 14 - q.1 8) then K_X_turn_131 q (nI 10) (q.1 14 - q.1 8) else K_X_turn_131 q (nI 10) (0 : Int32)) = K_X_turn_558 0 4 q' X1 X2 X3 X4 Y ∧ RD (F_D_detectFailures (F_D_expectReadings w x)) q' X1 X2 X3 X4 ∧ LV (F_D_detectFailures (F_D_expectReadings w x)) X3 X4 ∧ 0 ≤ X3.toInt ∧ X3.toInt ≤ 1000000 ∧ 0 ≤ X4.toInt ∧ X4.toInt ≤ 1000000 ∧ ((Y = 0 ∧ q.1 10 ≠ 0) ∨ (Y = 1 ∧ q.1 10 = 0)) ∧ q'.1 10 = q.1 10 := by
  obtain ⟨X1, X2, X3, X4, Y, e1, e2, b1, b2, b3, b4, b5, b6, hY⟩ := exp_eq h hx
  have hc : (q.1 1).toInt ≤ 1000000 := h.1.2.2.2.2.2.2.2.2.2.2.2.2.2.2
  rw [e1, e2, k423 b1 b2 b3 b6 hY]
  have hD : RD (up (up (up (up w 44 X1) 45 X2) 42 X3) 43 X4) q X1 X2 X3 X4 := ⟨h, rfl, rfl, rfl, rfl⟩
  generalize up (up (up (up w 44 X1) 45 X2) 42 X3) 43 X4 = v at hD
  have hY' : (Y = 0 ∧ q.1 10 ≠ 0) ∨ (Y = 1 ∧ q.1 10 = 0) := by
    rcases hY with y | y
    · exact Or.inl y
    · exact Or.inr ⟨y.1, y.2.1⟩
  have hd := hD
  obtain ⟨⟨-, -, hU, -, -, -, -, -, -, -, -, ⟨j1, j2, -⟩⟩, x1, x2, x3, x4⟩ := hd
  -- the level
  have S1 : ∃ w1 : Nat → Int32, F_D_detectFailures v = K_D_detectFailures_22 w1 ∧ RD w1 (F_X_find q 0 (nb (F_X_in (q.1 24) X3 X4))) X1 X2 X3 X4 ∧ LV w1 X3 X4 := by
    unfold F_D_detectFailures
    have eh : F_S_holds_8 v (v 14) = F_X_in (q.1 24) X3 X4 := by rw [← j1, ← x3, ← x4]; rfl
    rw [eh]
    by_cases g : F_X_in (q.1 24) X3 X4 = 0
    · rw [if_pos g, show nb (F_X_in (q.1 24) X3 X4) = 1 from if_pos g]
      exact ⟨_, rfl, hD.det (i := 0) (by decide), fun z => absurd ((det_self hU).symm.trans z) (by decide)⟩
    · rw [if_neg g, show nb (F_X_in (q.1 24) X3 X4) = 0 from if_neg g]
      exact ⟨_, rfl, hD, fun _ => by rw [j1]; exact g⟩
  obtain ⟨w1, s1, s2, s3⟩ := S1
  have kp : (F_X_find q 0 (nb (F_X_in (q.1 24) X3 X4))).1 25 = q.1 25 := find_kp _ _ _ (by decide)
  have km : (F_X_find q 0 (nb (F_X_in (q.1 24) X3 X4))).1 10 = q.1 10 := find_kp _ _ _ (by decide)
  generalize F_X_find q 0 (nb (F_X_in (q.1 24) X3 X4)) = q1 at *
  rw [s1]
  have hd := s2
  obtain ⟨⟨-, -, -, -, -, -, -, -, -, -, -, ⟨-, i2, -⟩⟩, y1, y2, y3, y4⟩ := hd
  have S2 : ∃ w2 : Nat → Int32, K_D_detectFailures_22 w1 = K_D_detectFailures_46 4 0 w2 ∧ RD w2 (F_X_find q1 1 (nb (F_X_in (q.1 25) X1 X2))) X1 X2 X3 X4 ∧ LV w2 X3 X4 := by
    unfold K_D_detectFailures_22 K_D_detectFailures_44
    have eh : F_S_holds_9 w1 (w1 16) = F_X_in (q.1 25) X1 X2 := by rw [← kp, ← i2, ← y1, ← y2]; rfl
    rw [eh]
    by_cases g : F_X_in (q.1 25) X1 X2 = 0
    · rw [if_pos g, show nb (F_X_in (q.1 25) X1 X2) = 1 from if_pos g]
      exact ⟨_, rfl, s2.det (i := 1) (by decide), s3.det (i := 1) (by decide)⟩
    · rw [if_neg g, show nb (F_X_in (q.1 25) X1 X2) = 0 from if_neg g]
      exact ⟨_, rfl, s2, s3⟩
  obtain ⟨w2, t1, t2, t3⟩ := S2
  rw [t1]
  have kn : (F_X_find q1 1 (nb (F_X_in (q.1 25) X1 X2))).1 10 = q.1 10 := (find_kp _ _ _ (by decide)).trans km
  generalize F_X_find q1 1 (nb (F_X_in (q.1 25) X1 X2)) = q2 at *
  obtain ⟨q3, u1, u2, u3, u4⟩ := det513 X1 X2 X3 X4 Y _ 4 0 w2 q2 rfl t2 t3 kn
  refine ⟨q3, X1, X2, X3, X4, Y, u1, u2, u3, b3, by omega, b5, by omega, hY', u4⟩
