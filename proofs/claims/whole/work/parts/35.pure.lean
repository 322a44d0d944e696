/-! THE PURE PART: a turn, a cycle -/
theorem RT.rows {w : Nat → Int32} {s : Nat → Int32} {r r' : Nat → Nat → Int32} (h : RT w (s, r)) (hr : ∀ k, k ≠ 2 → r' k = r k) : RT w (s, r') := by
  obtain ⟨hC, hE, hU, hM, hR, hN, hz, hz2, h0, h4, hO, hJ⟩ := h
  refine ⟨hC, hE, ?_, ?_, hR, hN, hz, hz2, h0, h4, ?_, ?_⟩
  · show RU w r'
    unfold RU
    rw [hr 0 (by decide), hr 1 (by decide)]; exact hU
  · show RM w s r'
    unfold RM
    rw [hr 3 (by decide)]; exact hM
  · show ROt w s r'
    unfold ROt
    rw [hr 4 (by decide), hr 5 (by decide)]; exact hO
  · show RJ w s r'
    unfold RJ
    rw [hr 7 (by decide), hr 8 (by decide), hr 9 (by decide), hr 10 (by decide)]; exact hJ
/-- the mode's end -/
theorem end_ok {E : Nat → Int32} {q : MSt} (h : RF E q) {Y : Int32} (hY : (Y = 0 ∧ q.1 10 ≠ 0) ∨ (Y = 1 ∧ q.1 10 = 0)) (x : Int32) : Out (if E 0 = 0 then K_D_runSteps_102 (up E 0 (F_D_modeBehindInitial E)) x else K_D_runSteps_102 (up E 0 (F_D_modeInOperation E)) x) (fin Y q) := by
  have h0 : E 0 = q.1 10 := h.2.2.2.2.2.2.2.1
  have A : ∀ (m : Int32) (o : Int32 × MSt), ModeIs m q o → Out (K_D_runSteps_102 (up E 0 m) x) (if o.1 = 0 then (0, o.2) else (1, F_X_command o.2)) := by
    intro m o hm
    rcases hm with ⟨rfl, rfl⟩ | ⟨hm, rfl⟩
    · rw [if_pos (show ((0 : Int32), q).1 = 0 from rfl), k102_4 x rfl]
      exact Out.stop (h.rs.mode 4) rfl rfl
    · have n1 : ¬ ((1 : Int32), ((up q.1 10 m, q.2) : MSt)).1 = 0 := (by decide : ¬ (1 : Int32) = 0)
      rw [if_neg n1]
      have e : K_D_runSteps_102 (up E 0 m) x = F_D_giveCommands (F_M_remember (up E 0 m) ((up E 0 m) 19)) := if_neg hm
      rw [e]
      exact Out.go (cmd_ok (h.mode hm)) rfl
  unfold fin
  rcases hY with ⟨rfl, z⟩ | ⟨rfl, z⟩
  · rw [if_pos rfl, if_neg (by rw [h0]; exact z)]
    exact A _ _ (others_eq h)
  · have n1 : ¬ (1 : Int32) = 0 := by decide
    rw [if_neg n1, if_pos (h0.trans z)]
    exact A _ _ (first_eq h z)
/-- with all readings -/
theorem steps_ok {w : Nat → Int32} {q : MSt} (h : RT w q) (hx : Msk 10 (w 25) (q.2 2)) : Out (K_D_runSteps_35 w (w 25)) (K_X_turn_73 0 10 q) := by
  have n4 : ¬ w 0 = 4 := by rw [h.2.2.2.2.2.2.2.2.1]; exact h.2.2.2.2.2.2.2.2.2.1
  generalize w 25 = x at hx
  rw [k35_4 x n4, K_X_turn_73]
  unfold F_X_units F_D_takeRepairs
  rcases rep_loop x 10 0 w q rfl h hx with ⟨a1, a2, a3⟩ | ⟨q3, a1, a2, a3⟩
  · rw [if_pos a1, k47_4 x a2]
    exact Out.stop a3 a2 rfl
  · rw [a1]
    generalize K_D_takeRepairs_2 10 0 w = w3 at a2
    have n4 : ¬ w3 0 = 4 := by rw [a2.2.2.2.2.2.2.2.2.1]; exact a2.2.2.2.2.2.2.2.2.2.1
    have e47 : K_D_runSteps_47 w3 x = K_D_runSteps_59 (F_D_takeAcknowledgements w3) x := if_neg n4
    rw [e47]
    unfold F_D_takeAcknowledgements
    rcases ack_loop x 10 0 w3 q3 rfl a2 a3 with ⟨b1, b2, b3⟩ | ⟨q4, b1, b2, b3⟩
    · rw [if_pos b1, k59_4 x b2]
      exact Out.stop b3 b2 rfl
    · rw [b1]
      generalize K_D_takeAcknowledgements_2 10 0 w3 = w4 at b2
      have n4 : ¬ w4 0 = 4 := by rw [b2.2.2.2.2.2.2.2.2.1]; exact b2.2.2.2.2.2.2.2.2.2.1
      have n1 : ¬ ((1 : Int32), q4).1 = 0 := (by decide : ¬ (1 : Int32) = 0)
      rw [if_neg n1]
      obtain ⟨q5, X1, X2, X3, X4, Y, e1, e2, e3, c1, c2, c3, c4, hY, hm⟩ := detect_all b2 b3
      dsimp only
      rw [e1, k558_0]
      have F := est_rel e2 e3 c1 c2 c3 c4
      unfold K_D_runSteps_59
      rw [if_neg n4]
      refine end_ok F ?_ x
      show (Y = 0 ∧ q5.1 10 ≠ 0) ∨ (Y = 1 ∧ q5.1 10 = 0)
      rw [hm]; exact hY
/-- ahead of a turn -/
def RP (w : Nat → Int32) (q : MSt) : Prop := RC w q.1 ∧ RE w q.1 ∧ RU w q.2 ∧ RM w q.1 q.2 ∧ RR0 w q.1 ∧ RN0 w q.1 ∧ (q.1 23 = 0 ∨ q.1 23 = 1) ∧ w 0 = q.1 10 ∧ q.1 10 ≠ 4 ∧ RO w q.1 q.2 ∧ RI w q.1 q.2
theorem turn_ok {w : Nat → Int32} {q : MSt} (h : RP w q) : Out (F_D_runSteps w) (F_X_turn q) := by
  obtain ⟨hC, hE, hU, hM, hR, hN, hz, h0, h4, ⟨o1, o2, o3, o4⟩, ⟨i1, i2, i3, i4, i5, i6, i7, i8, i9, i10, i11, i12, i13⟩⟩ := h
  have eX : (if w 22 = 0 then 0 else w 2 + 1) = (if q.1 30 = 0 then 0 else q.1 16 + 1) := by rw [i8, o1]
  have eY : (if w 3 = 0 then (if w 20 = 0 then (0 : Int32) else 1) else 1) = (q.1 23 ||| q.1 28) := by
    rw [o2, i5]
    rcases hz with z | z <;> rcases i6 with y | y <;> rw [z, y] <;> decide
  have eN : F_D_noteWords w = up (up w 2 (if q.1 30 = 0 then 0 else q.1 16 + 1)) 3 (q.1 23 ||| q.1 28) := by rw [noteWords_eq, eX, eY]
  have eT : F_X_turn q = if ¬ q.1 30 = 0 ∧ ¬ (q.1 16 + 1 < 3) then (0, (up q.1 16 (if q.1 30 = 0 then 0 else q.1 16 + 1), q.2)) else (if q.1 26 = 0 then (0, (up q.1 16 (if q.1 30 = 0 then 0 else q.1 16 + 1), q.2)) else (if q.1 27 = 0 then (0, (up q.1 16 (if q.1 30 = 0 then 0 else q.1 16 + 1), q.2)) else K_X_turn_49 4 0 (up q.1 16 (if q.1 30 = 0 then 0 else q.1 16 + 1), q.2))) := by
    unfold F_X_turn K_X_turn_45
    by_cases g : q.1 30 = 0
    · have n : ¬ (¬ q.1 30 = 0 ∧ ¬ (q.1 16 + 1 < 3)) := fun y => y.1 g
      simp only [if_pos g, if_neg n]
    · by_cases g2 : q.1 16 + 1 < 3
      · have n : ¬ (¬ q.1 30 = 0 ∧ ¬ (q.1 16 + 1 < 3)) := fun y => y.2 g2
        simp only [if_neg g, if_pos g2, if_neg n]
      · have n : (¬ q.1 30 = 0 ∧ ¬ (q.1 16 + 1 < 3)) := ⟨g, g2⟩
        simp only [if_neg g, if_neg g2, if_pos n]
  have c3 : ((3 : Int32) ≤ (if q.1 30 = 0 then 0 else q.1 16 + 1)) ↔ (¬ q.1 30 = 0 ∧ ¬ (q.1 16 + 1 < 3)) := by
    by_cases g : q.1 30 = 0
    · rw [if_pos g]; exact ⟨fun y => absurd y (by decide), fun y => absurd g y.1⟩
    · rw [if_neg g, Int32.le_iff_toInt_le, Int32.lt_iff_toInt_lt]; exact ⟨fun y => ⟨g, by omega⟩, fun y => by omega⟩
  rw [eT]
  unfold F_D_runSteps
  rw [eN]
  generalize hX : (if q.1 30 = 0 then (0 : Int32) else q.1 16 + 1) = X at *
  have x2 : up (up w 2 X) 3 (q.1 23 ||| q.1 28) 2 = X := rfl
  rw [x2, k30]
  have ST : Out (up (up (up w 2 X) 3 (q.1 23 ||| q.1 28)) 0 4) (0, (up q.1 16 X, q.2)) := Out.stop (w := up (up (up w 2 X) 3 (q.1 23 ||| q.1 28)) 0 4) (q := (up q.1 16 X, q.2)) ⟨hC, hE, hU, hM, RR0.rr (w := up (up (up w 2 X) 3 (q.1 23 ||| q.1 28)) 0 4) (s := up q.1 16 X) hR, hN, hz⟩ rfl rfl
  by_cases g3 : (3 : Int32) ≤ X
  · rw [if_pos g3, if_pos (c3.mp g3)]; exact ST
  rw [if_neg g3, if_neg (fun y => g3 (c3.mpr y))]
  have eR : F_I_hasAllReadings (up (up w 2 X) 3 (q.1 23 ||| q.1 28)) = (if w 13 = 0 then (0 : Int32) else (if w 15 = 0 then (0 : Int32) else (if w 17 = 15 then (1 : Int32) else (0 : Int32)))) := rfl
  rw [eR, k49 (m := w 17) 4 0 (up q.1 16 X, q.2) rfl i9 (fun j hj => absurd hj (by omega)), ← i1, ← i3]
  by_cases g5 : w 13 = 0
  · simp only [if_pos g5, if_true]; exact ST
  simp only [if_neg g5]
  by_cases g6 : w 15 = 0
  · simp only [if_pos g6, if_true]; exact ST
  simp only [if_neg g6]
  by_cases g7 : w 17 = 15
  · have n1 : ¬ (1 : Int32) = 0 := by decide
    simp only [if_pos g7, if_neg n1]
    have all := (is15 i9.2).mp g7
    have T : RT (up (up w 2 X) 3 (q.1 23 ||| q.1 28)) (up q.1 16 X, q.2) := ⟨hC, hE, hU, hM, hR, hN, hz, i6, h0, h4, ⟨rfl, rfl, o3, o4⟩, ⟨i2 g5, i4 g6, i7, ⟨fun j hj => (i10 j hj (all j hj)).1, fun j hj => (i11 j hj).1⟩, ⟨fun j hj => (i10 j hj (all j hj)).2, fun j hj => (i11 j hj).2⟩, i12, i13⟩⟩
    obtain ⟨q', e1, e2, e3, e4⟩ := k73 (m := w 25) 10 0 (up q.1 16 X, q.2) rfl hU.1 (fun j hj => absurd hj (by omega))
    rw [e1]
    obtain ⟨s', r'⟩ := q'
    dsimp only at e2 e3 e4
    subst e2
    exact steps_ok (T.rows e3) e4
  · simp only [if_neg g7, if_true]; exact ST
theorem cyc_out {w1 : Nat → Int32} {q1 : MSt} (h : RB w1 q1) (w : Nat → Int32) (f : Nat → Int64) {o : Option (Int32 × (Nat → Int32))} (ho : o = some ((F_I_clear w1) 0, F_I_clear w1)) {p : Int32 × MSt} (hp : p = ((F_X_forget q1).1 10, F_X_forget q1)) : F_X_thrown p.2 = (exi o (w, f)).1 ∧ Rel (exi o (w, f)).2.1 p.2 ∧ ((exi o (w, f)).1 = 0 → (exi o (w, f)).2.2 ((0 : Int32)).toNatClampNeg = (p.1).toInt64) := by
  subst ho hp
  obtain ⟨a, b⟩ := h.clear
  refine ⟨a, b, fun _ => ?_⟩
  show vp_updL f ((0 : Int32)).toNatClampNeg ((F_I_clear w1) 0).toInt64 ((0 : Int32)).toNatClampNeg = ((F_X_forget q1).1 10).toInt64
  rw [← b.2.2.2.2.2.2.2.2.1]
  exact if_pos rfl
theorem P_cycle {w : Nat → Int32} {q : MSt} (h : Rel w q) (f : Nat → Int64) : F_X_thrown (F_X_cycle q).2 = (exi (F_D_cycle w) (w, f)).1 ∧ Rel (exi (F_D_cycle w) (w, f)).2.1 (F_X_cycle q).2 ∧ ((exi (F_D_cycle w) (w, f)).1 = 0 → (exi (F_D_cycle w) (w, f)).2.2 ((0 : Int32)).toNatClampNeg = ((F_X_cycle q).1).toInt64) := by
  have hh := h
  obtain ⟨hC, hE, hU, hM, hR, hI, ⟨n1, n2', n3⟩, hz, h0, hO⟩ := hh
  have c1 : (1000000 : Int32).toInt = 1000000 := by decide
  have cI : (1 : Int32).toInt = 1 := by decide
  by_cases g : q.1 11 = 1000000
  · have e1 : F_X_cycle q = (0, (up (up q.1 0 0) 0 1, q.2)) := if_pos g
    have e2 : F_D_cycle w = none := if_neg (by rw [n1, g]; decide)
    rw [e1, e2]
    exact ⟨rfl, h.err2 0 1, fun z => absurd (show (1 : Int32) = 0 from z) (by decide)⟩
  · have lt : (q.1 11).toInt < 1000000 := by
      rcases Int.lt_or_eq_of_le n3 with y | y
      · exact y
      · exact absurd (Int32.toInt_inj.mp (y.trans c1.symm)) g
    have g' : w 1 < 1000000 := by rw [n1, Int32.lt_iff_toInt_lt, c1]; exact lt
    have ad : (q.1 11 + 1).toInt = (q.1 11).toInt + 1 := by
      rw [Int32.toInt_add, cI]; apply Int.bmod_eq_of_le <;> omega
    have N : RN0 (F_R_clear (up w 1 (w 1 + 1))) (F_X_quiet (up (up q.1 0 0) 11 (q.1 11 + 1), q.2)).1 := by
      refine ⟨⟨?_, ?_, ?_⟩, rfl⟩
      · show w 1 + 1 = q.1 11 + 1
        rw [n1]
      · show 0 ≤ (q.1 11 + 1).toInt
        omega
      · show (q.1 11 + 1).toInt ≤ 1000000
        omega
    have R0 : RR0 (F_R_clear (up w 1 (w 1 + 1))) (F_X_quiet (up (up q.1 0 0) 11 (q.1 11 + 1), q.2)).1 := ⟨rfl, rfl, rfl, rfl, rfl, rfl, rfl, rfl, rfl, rfl⟩
    by_cases g4 : q.1 10 = 4
    · have e1 : F_X_cycle q = ((F_X_forget (F_X_quiet (up (up q.1 0 0) 11 (q.1 11 + 1), q.2))).1 10, F_X_forget (F_X_quiet (up (up q.1 0 0) 11 (q.1 11 + 1), q.2))) := (if_neg g).trans (if_pos g4)
      have e2 : F_D_cycle w = some ((F_I_clear (F_R_clear (up w 1 (w 1 + 1)))) 0, F_I_clear (F_R_clear (up w 1 (w 1 + 1)))) := (if_pos g').trans (if_pos (h0.trans g4))
      exact cyc_out (w1 := F_R_clear (up w 1 (w 1 + 1))) (q1 := F_X_quiet (up (up q.1 0 0) 11 (q.1 11 + 1), q.2)) ⟨hC, hE, hU, hM, R0.rr, N, hz, h0, hO⟩ w f e2 e1
    · have T := turn_ok (w := F_R_clear (up w 1 (w 1 + 1))) (q := F_X_quiet (up (up q.1 0 0) 11 (q.1 11 + 1), q.2)) ⟨hC, hE, hU, hM, R0, N, hz, h0, g4, hO g4, hI⟩
      have e2 : F_D_cycle w = some ((F_I_clear (F_D_runSteps (F_R_clear (up w 1 (w 1 + 1))))) 0, F_I_clear (F_D_runSteps (F_R_clear (up w 1 (w 1 + 1))))) := (if_pos g').trans (if_neg (fun y => g4 (h0.symm.trans y)))
      unfold Out at T
      by_cases g5 : (F_X_turn (F_X_quiet (up (up q.1 0 0) 11 (q.1 11 + 1), q.2))).1 = 0
      · rw [if_pos g5] at T
        have e1 := (if_neg g).trans ((if_neg g4).trans (if_pos g5)) |> (fun (y : F_X_cycle q = _) => y)
        exact cyc_out T w f e2 e1
      · rw [if_neg g5] at T
        have e1 := (if_neg g).trans ((if_neg g4).trans (if_neg g5)) |> (fun (y : F_X_cycle q = _) => y)
        exact cyc_out T w f e2 e1
