/-! THE PURE PART: the mode -/
/-- behind the estimates -/
def RF (w : Nat → Int32) (q : MSt) : Prop := RC w q.1 ∧ RE w q.1 ∧ RU w q.2 ∧ RM w q.1 q.2 ∧ RR0 w q.1 ∧ RN0 w q.1 ∧ (q.1 23 = 0 ∨ q.1 23 = 1) ∧ w 0 = q.1 10 ∧ q.1 10 ≠ 4 ∧ RO w q.1 q.2 ∧ RJ w q.1 q.2
theorem RF.rs {w : Nat → Int32} {q : MSt} (h : RF w q) : RS w q := by
  obtain ⟨hC, hE, hU, hM, hR, hN, hz, h0, h4, hO, hJ⟩ := h
  exact ⟨hC, hE, hU, hM, hR.rr, hN, hz⟩
theorem RF.mode {w : Nat → Int32} {q : MSt} (h : RF w q) {m : Int32} (hm : m ≠ 4) : RF (up w 0 m) (up q.1 10 m, q.2) := by
  obtain ⟨hC, hE, hU, hM, hR, hN, hz, h0, h4, hO, hJ⟩ := h
  exact ⟨hC, hE, hU, hM, hR, hN, hz, rfl, hm, hO, hJ⟩
theorem up_self (f : Nat → Int32) (k : Nat) {x : Int32} (h : f k = x) : up f k x = f := by
  funext j
  rw [up_eq]
  by_cases e : j = k
  · rw [if_pos e, e, h]
  · rw [if_neg e]
theorem some0_loop {m : Int32} : ∀ (n i : Nat) (q : MSt), i + n = 10 → Msk 10 m (q.2 0) → (∀ j, j < i → bt m j = false) → K_X_some_0_2 n i q = if m = 0 then 0 else 1 := by
  intro n
  induction n with
  | zero =>
    intro i q e h hb
    rw [K_X_some_0_2, if_pos ((is0 h.2).mpr (fun j hj => hb j (by omega)))]
  | succ n ih =>
    intro i q e h hb
    rw [K_X_some_0_2, clI (by omega), h.1 i (by omega)]
    cases z : bt m i with
    | true =>
      rw [if_neg (show ¬ bI true = 0 by decide), if_neg]
      intro y
      rw [(is0 h.2).mp y i (by omega)] at z
      exact absurd z (by decide)
    | false =>
      rw [if_pos (show bI false = 0 from rfl)]
      refine ih (i + 1) q (by omega) h (fun j hj => ?_)
      by_cases y : j = i
      · rw [y]; exact z
      · exact hb j (by omega)
theorem is960 {m : Int32} : m &&& 960 = 0 ↔ ∀ i, 6 ≤ i → i < 10 → bt m i = false := by
  constructor
  · intro e i h6 h10
    have t := congrArg (fun x => bt x i) e
    simp only [b_and, b_0, b_960] at t
    rw [decide_eq_true ⟨h6, h10⟩, Bool.and_true] at t
    exact t
  · intro z
    apply b_ext
    intro i hi
    rw [b_and, b_960, b_0]
    by_cases y : 6 ≤ i ∧ i < 10
    · rw [z i y.1 y.2]; rfl
    · rw [decide_eq_false y, Bool.and_false]
theorem some6_loop {m : Int32} : ∀ (n i : Nat) (q : MSt), i + n = 10 → 6 ≤ i → Msk 10 m (q.2 0) → (∀ j, 6 ≤ j → j < i → bt m j = false) → K_X_some_6_2 n i q = if m &&& 960 = 0 then 0 else 1 := by
  intro n
  induction n with
  | zero =>
    intro i q e h6 h hb
    rw [K_X_some_6_2, if_pos (is960.mpr (fun j hj hj' => hb j hj (by omega)))]
  | succ n ih =>
    intro i q e h6 h hb
    rw [K_X_some_6_2, clI (by omega), h.1 i (by omega)]
    cases z : bt m i with
    | true =>
      rw [if_neg (show ¬ bI true = 0 by decide), if_neg]
      intro y
      rw [is960.mp y i h6 (by omega)] at z
      exact absurd z (by decide)
    | false =>
      rw [if_pos (show bI false = 0 from rfl)]
      refine ih (i + 1) q (by omega) (by omega) h (fun j hj hj' => ?_)
      by_cases y : j = i
      · rw [y]; exact z
      · exact hb j hj (by omega)
theorem some0_eq {w : Nat → Int32} {q : MSt} (h : RU w q.2) : F_X_some_0 q = if w 25 = 0 then 0 else 1 := some0_loop 10 0 q rfl h.1 (fun j hj => absurd hj (by omega))
theorem some6_eq {w : Nat → Int32} {q : MSt} (h : RU w q.2) : F_X_some_6 q = if w 25 &&& 960 = 0 then 0 else 1 := some6_loop 4 6 q rfl (by decide) h.1 (fun j hj hj' => absurd hj (by omega))
def ModeIs (m : Int32) (q : MSt) (o : Int32 × MSt) : Prop := (m = 4 ∧ o = (0, q)) ∨ (m ≠ 4 ∧ o = (1, (up q.1 10 m, q.2)))
theorem f_0 {w : Nat → Int32} {q : MSt} (h : RU w q.2) : F_U_hasFailed w 0 = q.2 0 ((0 : Int32)).toNatClampNeg := failed_at (i := 0) h (by decide)
theorem f_1 {w : Nat → Int32} {q : MSt} (h : RU w q.2) : F_U_hasFailed w 1 = q.2 0 ((1 : Int32)).toNatClampNeg := failed_at (i := 1) h (by decide)
theorem byAny {w : Nat → Int32} {q : MSt} (h : RU w q.2) : ModeIs (F_D_modeByAnyFailure w) q (if (F_X_some_0 q) = (0 : Int32) then (1, ((up q.1 10 1), q.2)) else (1, ((up q.1 10 2), q.2))) := by
  unfold F_D_modeByAnyFailure
  rw [some0_eq h]
  by_cases g : w 25 = 0
  · rw [if_pos g, if_pos g]; exact Or.inr ⟨by decide, rfl⟩
  · rw [if_neg g, if_neg g]; exact Or.inr ⟨by decide, rfl⟩
theorem first_eq {w : Nat → Int32} {q : MSt} (h : RF w q) (hm : q.1 10 = 0) : ModeIs (F_D_modeBehindInitial w) q (F_X_first q) := by
  obtain ⟨⟨k1, k2, k3, k4, k5, -⟩, hE, hU, hM, hR, hN, hz, h0, h4, ⟨o1, o2, o3⟩, ⟨j1, j2, j3, -⟩⟩ := h
  have el : F_P_isNormalLevel w (w 14) = F_X_in (q.1 24) (q.1 3) (q.1 4) := by
    rw [← j1, ← k3, ← k4]; rfl
  have S : ModeIs 4 q (0, q) := Or.inl ⟨rfl, rfl⟩
  have Z : ModeIs 0 q (1, q) := Or.inr ⟨by decide, by rw [up_self q.1 10 hm]⟩
  have B := byAny hU
  unfold F_D_modeBehindInitial F_X_first K_D_modeBehindInitial_43 K_D_modeBehindInitial_22 K_X_first_18
  rw [f_0 hU, f_1 hU, el, o2, j2, j3]
  generalize (if (F_X_some_0 q) = (0 : Int32) then ((1 : Int32), ((up q.1 10 1), q.2)) else (1, ((up q.1 10 2), q.2))) = b at *
  generalize F_D_modeByAnyFailure w = mb at *
  by_cases g1 : q.2 0 ((0 : Int32)).toNatClampNeg = 0
  · rw [if_pos g1, if_pos g1]
    by_cases g2 : q.2 0 ((1 : Int32)).toNatClampNeg = 0
    · rw [if_pos g2, if_pos g2]
      by_cases g3 : q.1 23 = 0
      · simp only [if_pos g3]
        by_cases g4 : q.1 29 = 0
        · rw [if_pos g4, if_pos g4]; exact Z
        · rw [if_neg g4, if_neg g4]; exact S
      · simp only [if_neg g3]
        by_cases g5 : q.1 25 = 0
        · rw [if_pos g5, if_pos g5]
          by_cases g4 : q.1 29 = 0
          · rw [if_pos g4, if_pos g4]; exact Z
          · rw [if_neg g4, if_neg g4]
            by_cases g6 : F_X_in (q.1 24) (q.1 3) (q.1 4) = 0
            · rw [if_pos g6, if_pos g6]; exact S
            · rw [if_neg g6, if_neg g6]; exact B
        · rw [if_neg g5, if_neg g5]; exact S
    · rw [if_neg g2, if_neg g2]; exact S
  · rw [if_neg g1, if_neg g1]; exact S
theorem others_eq {w : Nat → Int32} {q : MSt} (h : RF w q) : ModeIs (F_D_modeInOperation w) q (F_X_others q) := by
  obtain ⟨⟨k1, k2, k3, k4, k5, -⟩, ⟨e1, e2, -⟩, hU, hM, hR, hN, hz, h0, h4, hO, hJ⟩ := h
  have S : ModeIs 4 q (0, q) := Or.inl ⟨rfl, rfl⟩
  have R : ModeIs 3 q (1, (up q.1 10 3, q.2)) := Or.inr ⟨by decide, rfl⟩
  have B := byAny hU
  unfold F_D_modeInOperation F_X_others K_D_modeInOperation_34 K_D_modeInOperation_77 K_X_others_22 K_X_others_53
  rw [f_0 hU, f_1 hU, some6_eq hU, e1, e2, k2, k5]
  generalize (if (F_X_some_0 q) = (0 : Int32) then ((1 : Int32), ((up q.1 10 1), q.2)) else (1, ((up q.1 10 2), q.2))) = b at *
  generalize F_D_modeByAnyFailure w = mb at *
  by_cases g1 : q.1 12 ≤ q.1 2
  · rw [if_pos g1, if_pos g1]; exact S
  rw [if_neg g1, if_neg g1]
  by_cases g2 : q.1 13 < q.1 5
  · rw [if_pos g2, if_pos g2]
    by_cases g3 : q.2 0 ((0 : Int32)).toNatClampNeg = 0
    · rw [if_pos g3, if_pos g3]; exact B
    rw [if_neg g3, if_neg g3]
    by_cases g4 : q.2 0 ((1 : Int32)).toNatClampNeg = 0
    · rw [if_pos g4, if_pos g4]
      by_cases g5 : w 25 &&& 960 = 0
      · rw [if_pos g5, if_pos g5]; exact R
      · rw [if_neg g5, if_neg g5]; exact S
    · rw [if_neg g4, if_neg g4]; exact S
  · rw [if_neg g2, if_neg g2]; exact S
/-- the end of a turn -/
def fin (Y : Int32) (q : MSt) : Int32 × MSt := if Y = 0 then (if (F_X_others q).1 = 0 then (0, (F_X_others q).2) else (1, F_X_command (F_X_others q).2)) else (if (F_X_first q).1 = 0 then (0, (F_X_first q).2) else (1, F_X_command (F_X_first q).2))
theorem k558_0 (i : Nat) (q : MSt) (X1 X2 X3 X4 Y : Int32) : K_X_turn_558 0 i q X1 X2 X3 X4 Y = fin Y (up (up (up (up (up q.1 12 (if q.2 0 ((0 : Int32)).toNatClampNeg = 0 then q.1 24 else X3)) 13 (if q.2 0 ((0 : Int32)).toNatClampNeg = 0 then q.1 24 else X4)) 14 (if q.2 0 ((1 : Int32)).toNatClampNeg = 0 then q.1 25 else X1)) 15 (if q.2 0 ((1 : Int32)).toNatClampNeg = 0 then q.1 25 else X2)) 23 (q.1 23 ||| q.1 28), q.2) := by
  rw [K_X_turn_558]
  unfold fin
  by_cases g1 : q.2 0 ((0 : Int32)).toNatClampNeg = 0
  · by_cases g2 : q.2 0 ((1 : Int32)).toNatClampNeg = 0
    · rw [if_pos g1, if_pos g2, if_pos g1, if_pos g1, if_pos g2, if_pos g2]
    · rw [if_pos g1, if_neg g2, if_pos g1, if_pos g1, if_neg g2, if_neg g2]
  · by_cases g2 : q.2 0 ((1 : Int32)).toNatClampNeg = 0
    · rw [if_neg g1, if_pos g2, if_neg g1, if_neg g1, if_pos g2, if_pos g2]
    · rw [if_neg g1, if_neg g2, if_neg g1, if_neg g1, if_neg g2, if_neg g2]
theorem est_eq {w : Nat → Int32} {q : MSt} (h : RU w q.2) : F_D_estimate w = up (up (up (up w 38 (if q.2 0 ((0 : Int32)).toNatClampNeg = 0 then w 14 else w 42)) 39 (if q.2 0 ((0 : Int32)).toNatClampNeg = 0 then w 14 else w 43)) 40 (if q.2 0 ((1 : Int32)).toNatClampNeg = 0 then w 16 else w 44)) 41 (if q.2 0 ((1 : Int32)).toNatClampNeg = 0 then w 16 else w 45) := by
  unfold F_D_estimate K_D_estimate_56
  have e1 : ∀ a b, F_U_hasFailed (F_S_put_6 w a b) 1 = q.2 0 ((1 : Int32)).toNatClampNeg := fun a b => f_1 h
  rw [f_0 h, e1, e1]
  by_cases g1 : q.2 0 ((0 : Int32)).toNatClampNeg = 0
  · by_cases g2 : q.2 0 ((1 : Int32)).toNatClampNeg = 0
    · simp only [if_pos g1, if_pos g2]; rfl
    · simp only [if_pos g1, if_neg g2]; rfl
  · by_cases g2 : q.2 0 ((1 : Int32)).toNatClampNeg = 0
    · simp only [if_neg g1, if_pos g2]; rfl
    · simp only [if_neg g1, if_neg g2]; rfl
theorem est_rel {w : Nat → Int32} {q : MSt} {X1 X2 X3 X4 : Int32} (h : RD w q X1 X2 X3 X4) (hl : LV w X3 X4) (b3 : 0 ≤ X3.toInt) (b3' : X3.toInt ≤ 1000000) (b4 : 0 ≤ X4.toInt) (b4' : X4.toInt ≤ 1000000) : RF (F_D_estimate w) (up (up (up (up (up q.1 12 (if q.2 0 ((0 : Int32)).toNatClampNeg = 0 then q.1 24 else X3)) 13 (if q.2 0 ((0 : Int32)).toNatClampNeg = 0 then q.1 24 else X4)) 14 (if q.2 0 ((1 : Int32)).toNatClampNeg = 0 then q.1 25 else X1)) 15 (if q.2 0 ((1 : Int32)).toNatClampNeg = 0 then q.1 25 else X2)) 23 (q.1 23 ||| q.1 28), q.2) := by
  obtain ⟨⟨hC, hE, hU, hM, hR, hN, hz, hz2, h0, h4, ⟨o1, o2, o3, o4⟩, ⟨j1, j2, jj⟩⟩, x1, x2, x3, x4⟩ := h
  rw [est_eq hU, j1, j2, x1, x2, x3, x4]
  have hb : q.2 0 ((0 : Int32)).toNatClampNeg = 0 → 0 ≤ (q.1 24).toInt ∧ (q.1 24).toInt ≤ 1000000 := by
    intro z
    have z' : bt (w 25) 0 = false := by
      have e := failed_bt (i := 0) hU (by decide)
      exact (bI_0 _).mp (e.symm.trans z)
    have y := hl z'
    rw [within_iff, j1] at y
    omega
  refine ⟨hC, ⟨rfl, rfl, rfl, rfl, ?_, ?_, ?_, ?_⟩, hU, hM, hR, hN, zb_or hz hz2, h0, h4, ⟨o1, o2, o3, o4⟩, ⟨j1, j2, jj⟩⟩
  · show 0 ≤ (if q.2 0 ((0 : Int32)).toNatClampNeg = 0 then q.1 24 else X3).toInt
    split
    · exact (hb (by assumption)).1
    · exact b3
  · show (if q.2 0 ((0 : Int32)).toNatClampNeg = 0 then q.1 24 else X3).toInt ≤ 1000000
    split
    · exact (hb (by assumption)).2
    · exact b3'
  · show 0 ≤ (if q.2 0 ((0 : Int32)).toNatClampNeg = 0 then q.1 24 else X4).toInt
    split
    · exact (hb (by assumption)).1
    · exact b4
  · show (if q.2 0 ((0 : Int32)).toNatClampNeg = 0 then q.1 24 else X4).toInt ≤ 1000000
    split
    · exact (hb (by assumption)).2
    · exact b4'
