/-! THE PURE PART: clearing, starting anew -/
theorem fg47 : ∀ (n i : Nat) (q : MSt), i + n = 10 → (∀ j, j < i → q.2 9 j = 0 ∧ q.2 10 j = 0) → (K_X_forget_47 n i q).1 = q.1 ∧ (∀ k, k ≠ 9 → k ≠ 10 → (K_X_forget_47 n i q).2 k = q.2 k) ∧ ∀ j, j < 10 → (K_X_forget_47 n i q).2 9 j = 0 ∧ (K_X_forget_47 n i q).2 10 j = 0 := by
  intro n
  induction n with
  | zero =>
    intro i q e h
    rw [K_X_forget_47]
    exact ⟨rfl, fun _ _ _ => rfl, fun j hj => h j (by omega)⟩
  | succ n ih =>
    intro i q e h
    rw [K_X_forget_47, clI (by omega), nar0]
    obtain ⟨h1, h2, h3⟩ := ih (i + 1) (q.1, ub (ub q.2 9 (upd (q.2 9) i 0)) 10 (upd (q.2 10) i 0)) (by omega) (by
      intro j hj
      show upd (q.2 9) i 0 j = 0 ∧ upd (q.2 10) i 0 j = 0
      rw [upd_eq, upd_eq]
      by_cases z : j = i
      · rw [if_pos z, if_pos z]; exact ⟨rfl, rfl⟩
      · rw [if_neg z, if_neg z]; exact h j (by omega))
    refine ⟨h1, fun k k9 k10 => ?_, h3⟩
    rw [h2 k k9 k10]
    show ub (ub q.2 9 _) 10 _ k = _
    rw [ub_eq, if_neg k10, ub_eq, if_neg k9]
theorem fg27 : ∀ (n i : Nat) (q : MSt), i + n = 4 → (∀ j, j < i → q.2 6 j = 0) → (K_X_forget_27 n i q).1 = q.1 ∧ (∀ k, k ≠ 6 → k ≠ 9 → k ≠ 10 → (K_X_forget_27 n i q).2 k = q.2 k) ∧ (∀ j, j < 4 → (K_X_forget_27 n i q).2 6 j = 0) ∧ ∀ j, j < 10 → (K_X_forget_27 n i q).2 9 j = 0 ∧ (K_X_forget_27 n i q).2 10 j = 0 := by
  intro n
  induction n with
  | zero =>
    intro i q e h
    rw [K_X_forget_27]
    obtain ⟨h1, h2, h3⟩ := fg47 10 0 q rfl (fun j hj => absurd hj (by omega))
    exact ⟨h1, fun k _ k9 k10 => h2 k k9 k10, fun j hj => by rw [h2 6 (by decide) (by decide)]; exact h j (by omega), h3⟩
  | succ n ih =>
    intro i q e h
    rw [K_X_forget_27, clI (by omega), nar0]
    obtain ⟨h1, h2, h3, h4⟩ := ih (i + 1) (q.1, ub q.2 6 (upd (q.2 6) i 0)) (by omega) (by
      intro j hj
      show upd (q.2 6) i 0 j = 0
      rw [upd_eq]
      by_cases z : j = i
      · rw [if_pos z]
      · rw [if_neg z]; exact h j (by omega))
    refine ⟨h1, fun k k6 k9 k10 => ?_, h3, h4⟩
    rw [h2 k k6 k9 k10]
    show ub q.2 6 _ k = _
    rw [ub_eq, if_neg k6]
theorem forget_eq (q : MSt) : (F_X_forget q).1 = up (up (up (up (up q.1 26 0) 27 0) 28 0) 29 0) 30 0 ∧ (∀ k, k ≠ 6 → k ≠ 9 → k ≠ 10 → (F_X_forget q).2 k = q.2 k) ∧ (∀ j, j < 4 → (F_X_forget q).2 6 j = 0) ∧ ∀ j, j < 10 → (F_X_forget q).2 9 j = 0 ∧ (F_X_forget q).2 10 j = 0 := fg27 4 0 _ rfl (fun j hj => absurd hj (by omega))
def RN0 (w s : Nat → Int32) : Prop := RN w s ∧ s 0 = 0
/-- all but what was received -/
def RB (w : Nat → Int32) (q : MSt) : Prop := RC w q.1 ∧ RE w q.1 ∧ RU w q.2 ∧ RM w q.1 q.2 ∧ RR w q.1 ∧ RN0 w q.1 ∧ (q.1 23 = 0 ∨ q.1 23 = 1) ∧ w 0 = q.1 10 ∧ (q.1 10 ≠ 4 → RO w q.1 q.2)
theorem RB.clear {w : Nat → Int32} {q : MSt} (h : RB w q) : F_X_thrown (F_X_forget q) = 0 ∧ Rel (F_I_clear w) (F_X_forget q) := by
  obtain ⟨e1, e2, e3, e4⟩ := forget_eq q
  generalize F_X_forget q = q' at *
  obtain ⟨s', r'⟩ := q'
  dsimp only at e1 e2 e3 e4
  subst e1
  obtain ⟨hC, hE, hU, hM, hR, hN, hz, h0, hO⟩ := h
  refine ⟨hN.2, hC, hE, ?_, ?_, hR, ?_, hN.1, hz, h0, ?_⟩
  · show RU w r'
    unfold RU
    rw [e2 0 (by decide) (by decide) (by decide), e2 1 (by decide) (by decide) (by decide)]
    exact hU
  · show RM w q.1 r'
    unfold RM
    rw [e2 3 (by decide) (by decide) (by decide)]
    exact hM
  · refine ⟨rfl, fun z => absurd rfl z, rfl, fun z => absurd rfl z, rfl, Or.inl rfl, rfl, rfl, Msk.zero e3, fun i _ z => ?_, fun i _ => ⟨b_0 i, b_0 i⟩, Msk.zero (fun i hi => (e4 i hi).1), Msk.zero (fun i hi => (e4 i hi).2)⟩
    exact absurd ((b_0 i).symm.trans z) (by decide)
  · intro z
    have hO := hO z
    show RO w q.1 r'
    unfold RO
    rw [e2 4 (by decide) (by decide) (by decide), e2 5 (by decide) (by decide) (by decide)]
    exact hO
theorem an137 (a1 a2 a3 a4 a5 a6 a7 a8 a9 : Int32) : ∀ (n i : Nat) (q : MSt), i + n = 4 → (∀ j, j < i → q.2 3 j = 0 ∧ q.2 4 j = 0 ∧ q.2 5 j = 0) → ∃ q' : MSt, K_X_anew_137 a1 a2 a3 a4 a5 a6 a7 a8 a9 n i q = F_X_quiet (F_X_forget q') ∧ q'.1 = q.1 ∧ q'.2 0 = q.2 0 ∧ q'.2 1 = q.2 1 ∧ ∀ j, j < 4 → q'.2 3 j = 0 ∧ q'.2 4 j = 0 ∧ q'.2 5 j = 0 := by
  intro n
  induction n with
  | zero =>
    intro i q e h
    rw [K_X_anew_137]
    exact ⟨q, rfl, rfl, rfl, rfl, fun j hj => h j (by omega)⟩
  | succ n ih =>
    intro i q e h
    rw [K_X_anew_137, clI (by omega), nar0]
    exact ih (i + 1) (q.1, ub (ub (ub q.2 3 (upd (q.2 3) i 0)) 4 (upd (q.2 4) i 0)) 5 (upd (q.2 5) i 0)) (by omega) (by
      intro j hj
      show upd (q.2 3) i 0 j = 0 ∧ upd (q.2 4) i 0 j = 0 ∧ upd (q.2 5) i 0 j = 0
      rw [upd_eq, upd_eq, upd_eq]
      by_cases z : j = i
      · rw [if_pos z, if_pos z, if_pos z]; exact ⟨rfl, rfl, rfl⟩
      · rw [if_neg z, if_neg z, if_neg z]; exact h j (by omega))
theorem an105 (a1 a2 a3 a4 a5 a6 a7 a8 a9 : Int32) : ∀ (n i : Nat) (q : MSt), i + n = 10 → (∀ j, j < i → q.2 0 j = 0 ∧ q.2 1 j = 0) → ∃ q' : MSt, K_X_anew_105 a1 a2 a3 a4 a5 a6 a7 a8 a9 n i q = F_X_quiet (F_X_forget q') ∧ q'.1 = q.1 ∧ (∀ j, j < 10 → q'.2 0 j = 0 ∧ q'.2 1 j = 0) ∧ ∀ j, j < 4 → q'.2 3 j = 0 ∧ q'.2 4 j = 0 ∧ q'.2 5 j = 0 := by
  intro n
  induction n with
  | zero =>
    intro i q e h
    rw [K_X_anew_105]
    obtain ⟨q', h1, h2, h3, h4, h5⟩ := an137 a1 a2 a3 a4 a5 a6 a7 a8 a9 4 0 q rfl (fun j hj => absurd hj (by omega))
    exact ⟨q', h1, h2, fun j hj => by rw [h3, h4]; exact h j (by omega), h5⟩
  | succ n ih =>
    intro i q e h
    rw [K_X_anew_105, clI (by omega), nar0]
    exact ih (i + 1) (q.1, ub (ub q.2 0 (upd (q.2 0) i 0)) 1 (upd (q.2 1) i 0)) (by omega) (by
      intro j hj
      show upd (q.2 0) i 0 j = 0 ∧ upd (q.2 1) i 0 j = 0
      rw [upd_eq, upd_eq]
      by_cases z : j = i
      · rw [if_pos z, if_pos z]; exact ⟨rfl, rfl⟩
      · rw [if_neg z, if_neg z]; exact h j (by omega))
theorem anew_rel (w : Nat → Int32) (q : MSt) (a1 a2 a3 a4 a5 a6 a7 a8 a9 : Int32) (g1 : 0 ≤ a2.toInt) (g2 : a2.toInt < a3.toInt) (g3 : a3.toInt < a4.toInt) (g4 : a4.toInt < a5.toInt) (g5 : a5.toInt ≤ a1.toInt) (g6 : a1.toInt ≤ 1000000) : F_X_thrown (F_X_anew q a1 a2 a3 a4 a5 a6 a7 a8 a9) = q.1 0 ∧ Rel (F_D_startAnew (F_P_setRates (F_P_setLimits w a1 a2 a3 a4 a5) a6 a7 a8 a9)) (F_X_anew q a1 a2 a3 a4 a5 a6 a7 a8 a9) := by
  unfold F_X_anew
  obtain ⟨q', h1, h2, h3, h4⟩ := an105 a1 a2 a3 a4 a5 a6 a7 a8 a9 10 0 (up (up (up (up (up (up (up (up (up (up (up (up (up (up (up (up (up (up q.1 1 a1) 2 a2) 3 a3) 4 a4) 5 a5) 6 a6) 7 a7) 8 a8) 9 a9) 10 0) 11 0) 12 0) 13 a1) 14 0) 15 a6) 16 0) 22 0) 23 0, q.2) rfl (fun j hj => absurd hj (by omega))
  rw [h1]
  obtain ⟨s', r'⟩ := q'
  dsimp only at h2 h3 h4
  subst h2
  obtain ⟨e1, e2, e3, e4⟩ := forget_eq (up (up (up (up (up (up (up (up (up (up (up (up (up (up (up (up (up (up q.1 1 a1) 2 a2) 3 a3) 4 a4) 5 a5) 6 a6) 7 a7) 8 a8) 9 a9) 10 0) 11 0) 12 0) 13 a1) 14 0) 15 a6) 16 0) 22 0) 23 0, r')
  generalize F_X_forget _ = q'' at *
  obtain ⟨s'', r''⟩ := q''
  dsimp only at e1 e2 e3 e4
  subst e1
  have c0 : (0 : Int32).toInt = 0 := by decide
  refine ⟨rfl, ⟨rfl, rfl, rfl, rfl, rfl, rfl, rfl, rfl, rfl, g1, g2, g3, g4, g5, g6⟩, ⟨rfl, rfl, rfl, rfl, ?_, ?_, ?_, ?_⟩, ⟨?_, ?_, ?_⟩, ⟨?_, rfl, Or.inl rfl⟩, ⟨(by show ((0 : Int32) ||| ((0 : Int32) <<< ((4 : Int32) &&& 31))) = 0; decide), rfl, rfl, rfl, rfl, Or.inl rfl⟩, ⟨rfl, fun z => absurd rfl z, rfl, fun z => absurd rfl z, rfl, Or.inl rfl, rfl, rfl, Msk.zero e3, fun i _ z => ?_, fun i _ => ⟨b_0 i, b_0 i⟩, Msk.zero (fun i hi => (e4 i hi).1), Msk.zero (fun i hi => (e4 i hi).2)⟩, ⟨rfl, ?_, ?_⟩, Or.inl rfl, rfl, fun _ => ⟨rfl, rfl, ?_, ?_⟩⟩
  · show 0 ≤ (0 : Int32).toInt; decide
  · show (0 : Int32).toInt ≤ 1000000; decide
  · show 0 ≤ a1.toInt; omega
  · show a1.toInt ≤ 1000000; omega
  · exact Msk.zero (fun i hi => by show r'' 0 i = 0; rw [e2 0 (by decide) (by decide) (by decide)]; exact (h3 i hi).1)
  · exact Msk.zero (fun i hi => by show r'' 1 i = 0; rw [e2 1 (by decide) (by decide) (by decide)]; exact (h3 i hi).2)
  · intro i z; exact absurd ((b_0 i).symm.trans z) (by decide)
  · exact Msk.zero (fun i hi => by show r'' 3 i = 0; rw [e2 3 (by decide) (by decide) (by decide)]; exact (h4 i hi).1)
  · exact absurd ((b_0 i).symm.trans z) (by decide)
  · show 0 ≤ (0 : Int32).toInt; decide
  · show (0 : Int32).toInt ≤ 1000000; decide
  · exact Msk.zero (fun i hi => by show r'' 4 i = 0; rw [e2 4 (by decide) (by decide) (by decide)]; exact (h4 i hi).2.1)
  · exact Msk.zero (fun i hi => by show r'' 5 i = 0; rw [e2 5 (by decide) (by decide) (by decide)]; exact (h4 i hi).2.2)
theorem P_init : Rel (F_D_startAnew (F_P_setRates (F_P_setLimits w00 1000 100 400 600 900) 50 5 5 15)) (F_X_anew (w00, b00) 1000 100 400 600 900 50 5 5 15) := (anew_rel w00 (w00, b00) 1000 100 400 600 900 50 5 5 15 (by decide) (by decide) (by decide) (by decide) (by decide) (by decide)).2
theorem bad87 (q : MSt) (a1 a2 a3 a4 a5 a6 a7 a8 a9 : Int32) : K_X_begin_87 a1 a2 a3 a4 a5 a6 a7 a8 a9 (up q.1 0 0, q.2) = (up (up q.1 0 0) 0 1, q.2) := rfl
theorem good88 (q : MSt) (a1 a2 a3 a4 a5 a6 a7 a8 a9 : Int32) : K_X_begin_88 a1 a2 a3 a4 a5 a6 a7 a8 a9 (up q.1 0 0, q.2) 1 = F_X_anew (up q.1 0 0, q.2) a1 a2 a3 a4 a5 a6 a7 a8 a9 := rfl
theorem bad_out {w : Nat → Int32} {q q' : MSt} (h : Rel w q) {o : Option (Nat → Int32)} (ho : o = none) (hq : q' = (up (up q.1 0 0) 0 1, q.2)) : F_X_thrown q' = (exv o w).1 ∧ Rel (exv o w).2 q' := by
  subst ho hq
  exact ⟨rfl, h.err2 0 1⟩
theorem lim_iff (a0 a1 a2 a3 a4 : Int32) : F_D_limitsAreSound a0 a1 a2 a3 a4 = 0 ↔ (a1 < 0 ∨ a2 ≤ a1 ∨ a3 ≤ a2 ∨ a4 ≤ a3 ∨ a0 < a4 ∨ 1000000 < a0) := by
  unfold F_D_limitsAreSound
  by_cases z1 : a1 < 0
  · rw [if_pos z1]; exact ⟨fun _ => Or.inl z1, fun _ => rfl⟩
  rw [if_neg z1]
  by_cases z2 : a2 ≤ a1
  · rw [if_pos z2]; exact ⟨fun _ => Or.inr (Or.inl z2), fun _ => rfl⟩
  rw [if_neg z2]
  by_cases z3 : a3 ≤ a2
  · rw [if_pos z3]; exact ⟨fun _ => Or.inr (Or.inr (Or.inl z3)), fun _ => rfl⟩
  rw [if_neg z3]
  by_cases z4 : a4 ≤ a3
  · rw [if_pos z4]; exact ⟨fun _ => Or.inr (Or.inr (Or.inr (Or.inl z4))), fun _ => rfl⟩
  rw [if_neg z4]
  by_cases z5 : a0 < a4
  · rw [if_pos z5]; exact ⟨fun _ => Or.inr (Or.inr (Or.inr (Or.inr (Or.inl z5)))), fun _ => rfl⟩
  rw [if_neg z5]
  by_cases z6 : 1000000 < a0
  · rw [if_pos z6]; exact ⟨fun _ => Or.inr (Or.inr (Or.inr (Or.inr (Or.inr z6)))), fun _ => rfl⟩
  rw [if_neg z6]
  refine ⟨fun z => absurd z (by decide), fun z => ?_⟩
  rcases z with z | z | z | z | z | z <;> contradiction
theorem rat_iff (a0 a1 a2 a3 : Int32) : F_D_ratesAreSound a0 a1 a2 a3 = 0 ↔ (F_X_in a0 0 100000 = 0 ∨ F_X_in a1 0 100000 = 0 ∨ F_X_in a2 0 100000 = 0 ∨ F_X_in a3 1 100000 = 0) := by
  unfold F_D_ratesAreSound
  show ((if F_X_in a0 0 100000 = 0 then (0 : Int32) else if F_X_in a1 0 100000 = 0 then (0 : Int32) else if F_X_in a2 0 100000 = 0 then (0 : Int32) else if F_X_in a3 1 100000 = 0 then (0 : Int32) else (1 : Int32)) = 0 ↔ _)
  by_cases z1 : F_X_in a0 0 100000 = 0
  · rw [if_pos z1]; exact ⟨fun _ => Or.inl z1, fun _ => rfl⟩
  rw [if_neg z1]
  by_cases z2 : F_X_in a1 0 100000 = 0
  · rw [if_pos z2]; exact ⟨fun _ => Or.inr (Or.inl z2), fun _ => rfl⟩
  rw [if_neg z2]
  by_cases z3 : F_X_in a2 0 100000 = 0
  · rw [if_pos z3]; exact ⟨fun _ => Or.inr (Or.inr (Or.inl z3)), fun _ => rfl⟩
  rw [if_neg z3]
  by_cases z4 : F_X_in a3 1 100000 = 0
  · rw [if_pos z4]; exact ⟨fun _ => Or.inr (Or.inr (Or.inr z4)), fun _ => rfl⟩
  rw [if_neg z4]
  refine ⟨fun z => absurd z (by decide), fun z => ?_⟩
  rcases z with z | z | z | z <;> contradiction
theorem P_begin {w : Nat → Int32} {q : MSt} (h : Rel w q) (a1 a2 a3 a4 a5 a6 a7 a8 a9 : Int32) : F_X_thrown (F_X_begin q a1 a2 a3 a4 a5 a6 a7 a8 a9) = (exv (F_D_begin w a1 a2 a3 a4 a5 a6 a7 a8 a9) w).1 ∧ Rel (exv (F_D_begin w a1 a2 a3 a4 a5 a6 a7 a8 a9) w).2 (F_X_begin q a1 a2 a3 a4 a5 a6 a7 a8 a9) := by
  have hl := lim_iff a1 a2 a3 a4 a5
  have hr := rat_iff a6 a7 a8 a9
  have oL : F_D_limitsAreSound a1 a2 a3 a4 a5 = 0 → F_D_begin w a1 a2 a3 a4 a5 a6 a7 a8 a9 = none := fun z => if_pos z
  have oR : F_D_ratesAreSound a6 a7 a8 a9 = 0 → F_D_begin w a1 a2 a3 a4 a5 a6 a7 a8 a9 = none := fun z => by
    unfold F_D_begin
    rw [if_pos z]
    split <;> rfl
  have oG : ¬ F_D_limitsAreSound a1 a2 a3 a4 a5 = 0 → ¬ F_D_ratesAreSound a6 a7 a8 a9 = 0 → F_D_begin w a1 a2 a3 a4 a5 a6 a7 a8 a9 = some (F_D_startAnew (F_P_setRates (F_P_setLimits w a1 a2 a3 a4 a5) a6 a7 a8 a9)) := fun z y => by
    unfold F_D_begin
    rw [if_neg z, if_neg y]
  generalize F_D_begin w a1 a2 a3 a4 a5 a6 a7 a8 a9 = o at *
  unfold F_X_begin
  by_cases z1 : 1000000 < a1
  · rw [if_pos z1]; exact bad_out h (oL (hl.mpr (Or.inr (Or.inr (Or.inr (Or.inr (Or.inr z1))))))) rfl
  rw [if_neg z1]
  by_cases z2 : a2 < 0
  · rw [if_pos z2]; exact bad_out h (oL (hl.mpr (Or.inl z2))) rfl
  rw [if_neg z2]
  by_cases z3 : a3 ≤ a2
  · rw [if_pos z3]; exact bad_out h (oL (hl.mpr (Or.inr (Or.inl z3)))) rfl
  rw [if_neg z3]
  by_cases z4 : a4 ≤ a3
  · rw [if_pos z4]; exact bad_out h (oL (hl.mpr (Or.inr (Or.inr (Or.inl z4))))) rfl
  rw [if_neg z4]
  by_cases z5 : a5 ≤ a4
  · rw [if_pos z5]; exact bad_out h (oL (hl.mpr (Or.inr (Or.inr (Or.inr (Or.inl z5)))))) rfl
  rw [if_neg z5]
  by_cases z6 : a1 < a5
  · rw [if_pos z6]; exact bad_out h (oL (hl.mpr (Or.inr (Or.inr (Or.inr (Or.inr (Or.inl z6))))))) rfl
  rw [if_neg z6]
  by_cases y1 : F_X_in a6 0 100000 = 0
  · rw [if_pos y1]; exact bad_out h (oR (hr.mpr (Or.inl y1))) rfl
  rw [if_neg y1]
  by_cases y2 : F_X_in a7 0 100000 = 0
  · rw [if_pos y2]; exact bad_out h (oR (hr.mpr (Or.inr (Or.inl y2)))) rfl
  rw [if_neg y2]
  by_cases y3 : F_X_in a8 0 100000 = 0
  · rw [if_pos y3]; exact bad_out h (oR (hr.mpr (Or.inr (Or.inr (Or.inl y3))))) rfl
  rw [if_neg y3]
  by_cases y4 : F_X_in a9 1 100000 = 0
  · rw [if_pos y4]; exact bad_out h (oR (hr.mpr (Or.inr (Or.inr (Or.inr y4))))) rfl
  rw [if_neg y4, good88]
  have e := oG (by rw [hl]; rintro (z | z | z | z | z | z) <;> contradiction) (by rw [hr]; rintro (z | z | z | z) <;> contradiction)
  subst e
  have c0 : (0 : Int32).toInt = 0 := by decide
  have c1 : (1000000 : Int32).toInt = 1000000 := by decide
  rw [Int32.lt_iff_toInt_lt] at z1 z2 z6
  rw [Int32.le_iff_toInt_le] at z3 z4 z5
  exact anew_rel w (up q.1 0 0, q.2) a1 a2 a3 a4 a5 a6 a7 a8 a9 (by omega) (by omega) (by omega) (by omega) (by omega) (by omega)
