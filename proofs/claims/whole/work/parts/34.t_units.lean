/-! THE PURE PART: the cycle up to the repairs and what is known -/
/-- what is told, ahead of the commands -/
def RR0 (w s : Nat → Int32) : Prop := w 31 = 0 ∧ w 32 = 0 ∧ w 33 = 0 ∧ w 34 = 0 ∧ w 37 = 0 ∧ s 19 = 0 ∧ s 20 = 0 ∧ s 21 = 0 ∧ w 35 = s 17 ∧ w 36 = s 18
theorem RR0.rr {w s : Nat → Int32} (h : RR0 w s) : RR w s := by
  obtain ⟨h1, h2, h3, h4, h5, h6, h7, h8, h9, h10⟩ := h
  refine ⟨?_, ?_, h9, h10, ?_, Or.inl h8⟩
  · rw [h1, h2, h6]; decide
  · rw [h3, h4, h7]; rfl
  · rw [h5, h8]
/-- what was received, in a cycle with all readings -/
def RJ (w s : Nat → Int32) (r : Nat → Nat → Int32) : Prop := w 14 = s 24 ∧ w 16 = s 25 ∧ w 21 = s 29 ∧ Msk 4 (w 18) (r 7) ∧ Msk 4 (w 19) (r 8) ∧ Msk 10 (w 23) (r 9) ∧ Msk 10 (w 24) (r 10)
def ROt (w s : Nat → Int32) (r : Nat → Nat → Int32) : Prop := w 2 = s 16 ∧ w 3 = (s 23 ||| s 28) ∧ Msk 4 (w 28) (r 4) ∧ Msk 4 (w 29) (r 5)
/-- where the program stops -/
def RS (w : Nat → Int32) (q : MSt) : Prop := RC w q.1 ∧ RE w q.1 ∧ RU w q.2 ∧ RM w q.1 q.2 ∧ RR w q.1 ∧ RN0 w q.1 ∧ (q.1 23 = 0 ∨ q.1 23 = 1)
/-- in a cycle -/
def RT (w : Nat → Int32) (q : MSt) : Prop := RC w q.1 ∧ RE w q.1 ∧ RU w q.2 ∧ RM w q.1 q.2 ∧ RR0 w q.1 ∧ RN0 w q.1 ∧ (q.1 23 = 0 ∨ q.1 23 = 1) ∧ (q.1 28 = 0 ∨ q.1 28 = 1) ∧ w 0 = q.1 10 ∧ q.1 10 ≠ 4 ∧ ROt w q.1 q.2 ∧ RJ w q.1 q.2
theorem RT.rs {w : Nat → Int32} {q : MSt} (h : RT w q) : RS w q := by
  obtain ⟨hC, hE, hU, hM, hR, hN, hz, hz2, h0, h4, hO, hJ⟩ := h
  exact ⟨hC, hE, hU, hM, hR.rr, hN, hz⟩
def Out (w : Nat → Int32) (o : Int32 × MSt) : Prop := RB w (if o.1 = 0 then (up o.2.1 10 4, o.2.2) else o.2)
theorem Out.stop {w : Nat → Int32} {q : MSt} (h : RS w q) (h4 : w 0 = 4) {o : Int32 × MSt} (ho : o = (0, q)) : Out w o := by
  subst ho
  obtain ⟨hC, hE, hU, hM, hR, hN, hz⟩ := h
  exact ⟨hC, hE, hU, hM, hR, hN, hz, h4, fun z => absurd rfl z⟩
theorem Out.stop' {w : Nat → Int32} {o : Int32 × MSt} (h : RS w o.2) (h4 : w 0 = 4) (ho : o.1 = 0) : Out w o := by
  obtain ⟨b, q⟩ := o
  dsimp only at ho
  subst ho
  exact Out.stop h h4 rfl
theorem Out.go {w : Nat → Int32} {q : MSt} (h : RB w q) {o : Int32 × MSt} (ho : o = (1, q)) : Out w o := by
  subst ho
  exact h
theorem noteWords_eq (w : Nat → Int32) : F_D_noteWords w = up (up w 2 (if w 22 = 0 then 0 else w 2 + 1)) 3 (if w 3 = 0 then (if w 20 = 0 then 0 else 1) else 1) := by
  unfold F_D_noteWords
  by_cases h1 : w 22 = 0 <;> by_cases h2 : w 3 = 0 <;> by_cases h3 : w 20 = 0 <;> simp only [h1, h2, h3, if_true, if_false]
theorem k30 (w : Nat → Int32) (x : Int32) : K_D_runSteps_30 w x = up w 0 4 := rfl
theorem k35_4 {w : Nat → Int32} (x : Int32) (h : ¬ w 0 = 4) : K_D_runSteps_35 w x = K_D_runSteps_47 (F_D_takeRepairs w) x := if_neg h
theorem k102_4 {w : Nat → Int32} (x : Int32) (h : w 0 = 4) : K_D_runSteps_102 w x = w := if_pos h
theorem k59_4 {w : Nat → Int32} (x : Int32) (h : w 0 = 4) : K_D_runSteps_59 w x = w := by unfold K_D_runSteps_59; rw [if_pos h, k102_4 x h]
theorem k47_4 {w : Nat → Int32} (x : Int32) (h : w 0 = 4) : K_D_runSteps_47 w x = w := by unfold K_D_runSteps_47; rw [if_pos h, k59_4 x h]
theorem rep_4 {n i : Nat} {w : Nat → Int32} (h : w 0 = 4) : K_D_takeRepairs_2 n i w = w := by cases n with
  | zero => rw [K_D_takeRepairs_2]
  | succ n => rw [K_D_takeRepairs_2, if_pos h]
theorem ack_4 {n i : Nat} {w : Nat → Int32} (h : w 0 = 4) : K_D_takeAcknowledgements_2 n i w = w := by cases n with
  | zero => rw [K_D_takeAcknowledgements_2]
  | succ n => rw [K_D_takeAcknowledgements_2, if_pos h]
/-- a unit is repaired -/
theorem RU.rep {w : Nat → Int32} {r : Nat → Nat → Int32} (h : RU w r) {i : Nat} (hi : i < 10) (z : Int32) : RU (up (F_U_repair w (nI i)) 36 z) (ub (ub r 0 (upd (r 0) (nI i).toNatClampNeg (vp_nar .boolean 0))) 1 (upd (r 1) (nI i).toNatClampNeg (vp_nar .boolean 0))) := by
  obtain ⟨h1, h2, h3⟩ := h
  refine ⟨h1.put hi (by decide) (Or.inl rfl), h2.put hi (by decide) (Or.inl rfl), ?_⟩
  intro j
  show bt (F_D_withBit (w 26) (nI i) 0) j = true → bt (F_D_withBit (w 25) (nI i) 0) j = true
  rw [with0 _ (by omega), with0 _ (by omega)]
  have := h3 j
  revert this
  cases bt (w 26) j <;> cases bt (w 25) j <;> cases decide (j = i) <;> decide
theorem RU.ack {w : Nat → Int32} {r : Nat → Nat → Int32} (h : RU w r) {i : Nat} (hi : i < 10) (hf : bt (w 25) i = true) : RU (F_U_acknowledge w (nI i)) (ub r 1 (upd (r 1) (nI i).toNatClampNeg (vp_nar .boolean 1))) := by
  obtain ⟨h1, h2, h3⟩ := h
  refine ⟨h1, h2.put hi (by decide) (Or.inr rfl), ?_⟩
  intro j
  show bt (F_D_withBit (w 26) (nI i) 1) j = true → bt (w 25) j = true
  rw [with1 _ (by omega)]
  by_cases e : j = i
  · subst e; exact fun _ => hf
  · rw [decide_eq_false e, Bool.or_false]; exact h3 j
theorem RU.fail {w : Nat → Int32} {r : Nat → Nat → Int32} (h : RU w r) {i : Nat} (hi : i < 10) (hf : bt (w 25) i = false) (z : Int32) : RU (up (F_U_fail w (nI i)) 35 z) (ub (ub r 0 (upd (r 0) (nI i).toNatClampNeg (vp_nar .boolean 1))) 1 (upd (r 1) (nI i).toNatClampNeg (vp_nar .boolean 0))) := by
  obtain ⟨h1, h2, h3⟩ := h
  have hk : bt (w 26) i = false := by
    cases hb : bt (w 26) i with
    | false => rfl
    | true => rw [h3 i hb] at hf; exact hf
  refine ⟨h1.put hi (by decide) (Or.inr rfl), ?_, ?_⟩
  · show Msk 10 (w 26) (upd (r 1) (nI i).toNatClampNeg (vp_nar .boolean 0))
    rw [clI (by omega), nar0]
    refine ⟨fun j hj => ?_, h2.2⟩
    rw [upd_eq]
    by_cases e : j = i
    · subst e; rw [if_pos rfl, hk]; rfl
    · rw [if_neg e, h2.1 j hj]
  · intro j
    show bt (w 26) j = true → bt (F_D_withBit (w 25) (nI i) 1) j = true
    rw [with1 _ (by omega)]
    intro z
    rw [h3 j z]; rfl
theorem failed_at {w : Nat → Int32} {r : Nat → Nat → Int32} (h : RU w r) {i : Nat} (hi : i < 10) : F_U_hasFailed w (nI i) = r 0 (nI i).toNatClampNeg := (h.1.at hi (by decide)).symm
theorem failed_bt {w : Nat → Int32} {r : Nat → Nat → Int32} (h : RU w r) {i : Nat} (hi : i < 10) : r 0 (nI i).toNatClampNeg = bI (bt (w 25) i) := by rw [clI (by omega)]; exact h.1.1 i hi
theorem known_bt {w : Nat → Int32} {r : Nat → Nat → Int32} (h : RU w r) {i : Nat} (hi : i < 10) : r 1 (nI i).toNatClampNeg = bI (bt (w 26) i) := by rw [clI (by omega)]; exact h.2.1.1 i hi
theorem awaits_eq (w : Nat → Int32) {i : Nat} (hi : i < 32) : F_U_awaitsAcknowledgement w (nI i) = bI (bt (w 25) i && !bt (w 26) i) := by
  unfold F_U_awaitsAcknowledgement
  rw [hasBit_eq _ hi, b_and, b_not _ hi]
theorem stopUnless_0 {w : Nat → Int32} (h : w 0 = 0) : F_D_stopUnlessInitial w = w := if_pos h
theorem stopUnless_n {w : Nat → Int32} (h : ¬ w 0 = 0) : F_D_stopUnlessInitial w = up w 0 4 := if_neg h
theorem RS.mode {w : Nat → Int32} {q : MSt} (h : RS w q) (x : Int32) : RS (up w 0 x) q := h
theorem ack_loop (x1 : Int32) : ∀ (n i : Nat) (w : Nat → Int32) (q : MSt), i + n = 10 → RT w q → Msk 10 x1 (q.2 2) → ((K_X_units_75 n i q).1 = 0 ∧ K_D_takeAcknowledgements_2 n i w 0 = 4 ∧ RS (K_D_takeAcknowledgements_2 n i w) (K_X_units_75 n i q).2) ∨ ∃ q' : MSt, K_X_units_75 n i q = (1, q') ∧ RT (K_D_takeAcknowledgements_2 n i w) q' ∧ Msk 10 x1 (q'.2 2) := by
  intro n
  induction n with
  | zero =>
    intro i w q e h hx
    rw [K_X_units_75, K_D_takeAcknowledgements_2]
    exact Or.inr ⟨q, rfl, h, hx⟩
  | succ n ih =>
    intro i w q e h hx
    have hh := h
    obtain ⟨hC, hE, hU, hM, hR, hN, hz, hz2, h0, h4, hO, j1, j2, j3, j4, j5, j6, j7⟩ := hh
    have n4 : ¬ w 0 = 4 := (by rw [h0]; exact h4)
    rw [K_X_units_75, K_D_takeAcknowledgements_2, if_neg n4, ← j7.at (i := i) (by omega) (by decide)]
    by_cases g1 : q.2 10 (nI i).toNatClampNeg = 0
    · rw [if_pos g1, if_pos g1]
      exact ih (i + 1) w q (by omega) h hx
    rw [if_neg g1, if_neg g1, awaits_eq w (by omega), failed_bt hU (by omega), known_bt hU (by omega)]
    cases hb : bt (w 25) i with
    | false =>
      rw [if_pos (show bI false = 0 from rfl), if_pos (show bI (false && !bt (w 26) i) = 0 from rfl)]
      by_cases g2 : q.1 10 = 0
      · rw [if_pos g2, stopUnless_0 (h0.trans g2)]
        exact ih (i + 1) w q (by omega) h hx
      · rw [if_neg g2, stopUnless_n (by rw [h0]; exact g2), ack_4 rfl]
        exact Or.inl ⟨rfl, rfl, h.rs.mode 4⟩
    | true =>
      rw [if_neg (show ¬ bI true = 0 by decide)]
      cases hk : bt (w 26) i with
      | false =>
        rw [if_pos (show bI false = 0 from rfl), if_neg (show ¬ bI (true && !false) = 0 by decide)]
        exact ih (i + 1) (F_U_acknowledge w (nI i)) (q.1, ub q.2 1 (upd (q.2 1) (nI i).toNatClampNeg (vp_nar .boolean 1))) (by omega) ⟨hC, hE, hU.ack (by omega) hb, hM, hR, hN, hz, hz2, h0, h4, hO, j1, j2, j3, j4, j5, j6, j7⟩ hx
      | true =>
        rw [if_neg (show ¬ bI true = 0 by decide), if_pos (show bI (true && !true) = 0 from rfl)]
        by_cases g2 : q.1 10 = 0
        · rw [if_pos g2, stopUnless_0 (h0.trans g2)]
          exact ih (i + 1) w q (by omega) h hx
        · rw [if_neg g2, stopUnless_n (by rw [h0]; exact g2), ack_4 rfl]
          exact Or.inl ⟨rfl, rfl, h.rs.mode 4⟩
theorem rep_loop (x1 : Int32) : ∀ (n i : Nat) (w : Nat → Int32) (q : MSt), i + n = 10 → RT w q → Msk 10 x1 (q.2 2) → ((K_X_units_2 n i q).1 = 0 ∧ K_D_takeRepairs_2 n i w 0 = 4 ∧ RS (K_D_takeRepairs_2 n i w) (K_X_units_2 n i q).2) ∨ ∃ q' : MSt, K_X_units_2 n i q = K_X_units_75 10 0 q' ∧ RT (K_D_takeRepairs_2 n i w) q' ∧ Msk 10 x1 (q'.2 2) := by
  intro n
  induction n with
  | zero =>
    intro i w q e h hx
    rw [K_X_units_2, K_D_takeRepairs_2]
    exact Or.inr ⟨q, rfl, h, hx⟩
  | succ n ih =>
    intro i w q e h hx
    have hh := h
    obtain ⟨hC, hE, hU, hM, ⟨r1, r2, r3, r4, r5, r6, r7, r8, r9, r10⟩, hN, hz, hz2, h0, h4, hO, j1, j2, j3, j4, j5, j6, j7⟩ := hh
    have n4 : ¬ w 0 = 4 := (by rw [h0]; exact h4)
    rw [K_X_units_2, K_D_takeRepairs_2, if_neg n4, ← j6.at (i := i) (by omega) (by decide), failed_at hU (by omega)]
    by_cases g1 : q.2 9 (nI i).toNatClampNeg = 0
    · rw [if_pos g1, if_pos g1]
      exact ih (i + 1) w q (by omega) h hx
    rw [if_neg g1, if_neg g1]
    by_cases g3 : q.2 0 (nI i).toNatClampNeg = 0
    · rw [if_pos g3, if_pos g3]
      by_cases g2 : q.1 10 = 0
      · rw [if_pos g2, stopUnless_0 (h0.trans g2)]
        exact ih (i + 1) w q (by omega) h hx
      · rw [if_neg g2, stopUnless_n (by rw [h0]; exact g2), rep_4 rfl]
        exact Or.inl ⟨rfl, rfl, h.rs.mode 4⟩
    · rw [if_neg g3, if_neg g3]
      refine ih (i + 1) _ _ (by omega) ⟨hC, hE, hU.rep (by omega) _, hM, ⟨r1, r2, r3, r4, r5, r6, r7, r8, r9, ?_⟩, hN, hz, hz2, h0, h4, hO, j1, j2, j3, j4, j5, j6, j7⟩ hx
      show F_D_withBit (w 36) (nI i) 1 = q.1 18 ||| ((1 : Int32) <<< (nI i &&& 31))
      rw [r10]; rfl
theorem k49 {m : Int32} : ∀ (n i : Nat) (q : MSt), i + n = 4 → Msk 4 m (q.2 6) → (∀ j, j < i → bt m j = true) → K_X_turn_49 n i q = if m = 15 then K_X_turn_73 10 0 q else (0, q) := by
  intro n
  induction n with
  | zero =>
    intro i q e h hb
    rw [K_X_turn_49, if_pos ((is15 h.2).mpr (fun j hj => hb j (by omega)))]
  | succ n ih =>
    intro i q e h hb
    rw [K_X_turn_49, clI (by omega), h.1 i (by omega)]
    cases z : bt m i with
    | false =>
      rw [if_pos (show bI false = 0 from rfl), if_neg]
      intro y
      rw [(is15 h.2).mp y i (by omega)] at z
      exact absurd z (by decide)
    | true =>
      rw [if_neg (show ¬ bI true = 0 by decide)]
      refine ih (i + 1) q (by omega) h (fun j hj => ?_)
      by_cases y : j = i
      · rw [y]; exact z
      · exact hb j (by omega)
theorem k73 {m : Int32} : ∀ (n i : Nat) (q : MSt), i + n = 10 → Msk 10 m (q.2 0) → (∀ j, j < i → q.2 2 j = bI (bt m j)) → ∃ q' : MSt, K_X_turn_73 n i q = K_X_turn_73 0 10 q' ∧ q'.1 = q.1 ∧ (∀ k, k ≠ 2 → q'.2 k = q.2 k) ∧ Msk 10 m (q'.2 2) := by
  intro n
  induction n with
  | zero =>
    intro i q e h hb
    refine ⟨q, ?_, rfl, fun _ _ => rfl, fun j hj => hb j (by omega), h.2⟩
    rw [K_X_turn_73, K_X_turn_73]
  | succ n ih =>
    intro i q e h hb
    rw [K_X_turn_73, clI (by omega), h.1 i (by omega), narb]
    obtain ⟨q', h1, h2, h3, h4⟩ := ih (i + 1) (q.1, ub q.2 2 (upd (q.2 2) i (bI (bt m i)))) (by omega) h (by
      intro j hj
      show upd (q.2 2) i (bI (bt m i)) j = _
      rw [upd_eq]
      by_cases z : j = i
      · rw [if_pos z, z]
      · rw [if_neg z]; exact hb j (by omega))
    refine ⟨q', h1, h2, fun k hk => ?_, h4⟩
    rw [h3 k hk]
    show ub q.2 2 _ k = _
    rw [ub_eq, if_neg hk]
