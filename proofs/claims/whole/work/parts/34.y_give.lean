/-! THE PURE PART: which commands -/
def R11 (q0 q : MSt) (t : Nat → Bool) (o : Int32) (i : Nat) : Prop := q.1 = q0.1 ∧ (∀ k, k ≠ 11 → q.2 k = q0.2 k) ∧ ∀ j, j < 4 → q.2 11 j = bI (if j < i then t j else bt o j)
theorem R11.set {q0 q : MSt} {t : Nat → Bool} {o : Int32} {i : Nat} (h : R11 q0 q t o i) {b : Int32} (hb : b = bI (t i)) : R11 q0 (q.1, ub q.2 11 (upd (q.2 11) i b)) t o (i + 1) := by
  subst hb
  refine ⟨h.1, fun k hk => ?_, fun j hj => ?_⟩
  · show ub q.2 11 _ k = _
    rw [ub_eq, if_neg hk]; exact h.2.1 k hk
  · show upd (q.2 11) i (bI (t i)) j = _
    rw [upd_eq]
    by_cases e : j = i
    · rw [if_pos e, e, if_pos (by omega)]
    · rw [if_neg e, h.2.2 j hj]
      by_cases e' : j < i
      · rw [if_pos e', if_pos (by omega)]
      · rw [if_neg e', if_neg (by omega)]
theorem R11.keep {q0 q : MSt} {t : Nat → Bool} {o : Int32} {i : Nat} (h : R11 q0 q t o i) (hb : t i = bt o i) : R11 q0 q t o (i + 1) := by
  refine ⟨h.1, h.2.1, fun j hj => ?_⟩
  rw [h.2.2 j hj]
  by_cases e : j = i
  · rw [e, if_neg (by omega), if_pos (by omega), hb]
  · by_cases e' : j < i
    · rw [if_pos e', if_pos (by omega)]
    · rw [if_neg e', if_neg (by omega)]
/-- the pumps that are on, and the good ones -/
def gB (o f : Int32) (j : Nat) : Bool := bt o j || !bt f (2 + j)
theorem lp63 {q0 : MSt} {o f : Int32} (hf : Msk 10 f (q0.2 0)) (x : Int32) : ∀ (n i : Nat) (q : MSt), i + n = 4 → R11 q0 q (fun j => if q0.1 24 < q0.1 3 then gB o f j else false) o i → ∃ q' : MSt, K_X_command_63 n i q x = K_X_command_63 0 4 q' x ∧ R11 q0 q' (fun j => if q0.1 24 < q0.1 3 then gB o f j else false) o 4 := by
  intro n
  induction n with
  | zero =>
    intro i q e h
    refine ⟨q, ?_, ?_⟩
    · rw [K_X_command_63, K_X_command_63]
    · rw [show 4 = i by omega]; exact h
  | succ n ih =>
    intro i q e h
    rw [K_X_command_63, n2, clI (by omega), clI (by omega), nar0, nar1, h.2.1 0 (by decide), hf.1 (2 + i) (by omega), h.1]
    by_cases g : q0.1 24 < q0.1 3
    · rw [if_pos g]
      by_cases y : bI (bt f (2 + i)) = 0
      · rw [if_pos y]
        refine ih (i + 1) _ (by omega) ?_
        have S := h.set (b := 1) (by
          show 1 = bI (if q0.1 24 < q0.1 3 then gB o f i else false)
          rw [if_pos g]; unfold gB; rw [(bI_0 _).mp y, Bool.not_false, Bool.or_true]; rfl)
        rw [h.1] at S; exact S
      · rw [if_neg y]
        refine ih (i + 1) _ (by omega) (h.keep ?_)
        show (if q0.1 24 < q0.1 3 then gB o f i else false) = _
        rw [if_pos g]; unfold gB
        cases hb : bt f (2 + i) with
        | false => rw [hb] at y; exact absurd rfl y
        | true => rw [Bool.not_true, Bool.or_false]
    · rw [if_neg g]
      refine ih (i + 1) _ (by omega) ?_
      have S := h.set (b := 0) (by
        show 0 = bI (if q0.1 24 < q0.1 3 then gB o f i else false)
        rw [if_neg g]; rfl)
      rw [h.1] at S; exact S
theorem lp226 {q0 : MSt} {o f : Int32} (hf : Msk 10 f (q0.2 0)) (x x2 x3 x4 : Int32) : ∀ (n i : Nat) (q : MSt), i + n = 4 → R11 q0 q (fun j => if x4 = 0 then false else gB o f j) o i → ∃ q' : MSt, K_X_command_226 n i q x x2 x3 x4 = K_X_command_274 q' x ∧ R11 q0 q' (fun j => if x4 = 0 then false else gB o f j) o 4 := by
  intro n
  induction n with
  | zero =>
    intro i q e h
    refine ⟨q, ?_, ?_⟩
    · rw [K_X_command_226]
    · rw [show 4 = i by omega]; exact h
  | succ n ih =>
    intro i q e h
    rw [K_X_command_226, n2, clI (by omega), clI (by omega), nar0, nar1, h.2.1 0 (by decide), hf.1 (2 + i) (by omega)]
    by_cases g : x4 = 0
    · rw [if_pos g]
      exact ih (i + 1) _ (by omega) (h.set (b := 0) (by
        show 0 = bI (if x4 = 0 then false else gB o f i)
        rw [if_pos g]; rfl))
    · rw [if_neg g]
      by_cases y : bI (bt f (2 + i)) = 0
      · rw [if_pos y]
        exact ih (i + 1) _ (by omega) (h.set (b := 1) (by
          show 1 = bI (if x4 = 0 then false else gB o f i)
          rw [if_neg g]; unfold gB; rw [(bI_0 _).mp y, Bool.not_false, Bool.or_true]; rfl))
      · rw [if_neg y]
        refine ih (i + 1) _ (by omega) (h.keep ?_)
        show (if x4 = 0 then false else gB o f i) = _
        rw [if_neg g]; unfold gB
        cases hb : bt f (2 + i) with
        | false => rw [hb] at y; exact absurd rfl y
        | true => rw [Bool.not_true, Bool.or_false]
theorem R11.msk {q0 q : MSt} {t : Nat → Bool} {o m : Int32} (h : R11 q0 q t o 4) (hm : ∀ j, j < 4 → bt m j = t j) (hz : ∀ j, 4 ≤ j → bt m j = false) : Msk 4 m (q.2 11) := ⟨fun j hj => by rw [h.2.2 j hj, if_pos hj, hm j hj], hz⟩
def good (o f : Int32) : Int32 := o ||| ((15 : Int32) &&& ((f >>> ((2 : Int32) &&& 31)) ^^^ ((-1) : Int32)))
theorem good_bt (o f : Int32) {j : Nat} (hj : j < 4) : bt (good o f) j = gB o f j := by
  unfold good gB
  have e : bt (f >>> ((2 : Int32) &&& 31)) j = bt f (2 + j) := (b_sshr 2 (by decide) f (show j < 32 by omega)).trans (if_pos (by omega))
  rw [b_or, b_and, b_15, b_not _ (by omega), e, decide_eq_true hj, Bool.true_and]
theorem good_hi (o f : Int32) (ho : ∀ j, 4 ≤ j → bt o j = false) (j : Nat) (hj : 4 ≤ j) : bt (good o f) j = false := by
  unfold good
  rw [b_or, b_and, b_15, ho j hj, decide_eq_false (by omega)]; rfl
/-- valve and pumps are told -/
theorem cmd_pumps {w : Nat → Int32} {q0 q : MSt} {m x z : Int32} (h : RF w q0) (hk : ∀ k, k ≠ 21 → q.1 k = q0.1 k) (hr : ∀ k, k ≠ 11 → q.2 k = q0.2 k) (hm : Msk 4 m (q.2 11)) (hx : x = 0 ∨ x = 1) (h21 : z = q.1 21) (z21 : q.1 21 = 0 ∨ q.1 21 = 1) : RB (up (F_D_commandPumps (F_D_commandValve (F_M_remember w (w 19)) x) m) 37 z) (K_X_command_274 q x) := by
  have hh := h
  obtain ⟨hC, hE, hU, ⟨m1, m2, m3⟩, ⟨r1, r2, r3, r4, r5, r6, r7, r8, r9, r10⟩, hN, hz, h0, h4, ⟨o1, o2, o3, o4⟩, hJ⟩ := hh
  rw [cv_eq]
  refine cmd_fin h hk hr hm hx h21 z21 hC hE hU hN h0 o1 o2 rfl rfl rfl rfl r9 r10 (fun y hy => told_mask hm.2 m1.2 hy) ?_
  show tv (va x (w 30)) (vb x (w 30)) = _
  rw [m2]; exact tv_v hx m3
theorem cmd_pumps' {w : Nat → Int32} {q0 q : MSt} {m x : Int32} (h : RF w q0) (hk : q.1 = q0.1) (hr : ∀ k, k ≠ 11 → q.2 k = q0.2 k) (hm : Msk 4 m (q.2 11)) (hx : x = 0 ∨ x = 1) : RB (F_D_commandPumps (F_D_commandValve (F_M_remember w (w 19)) x) m) (K_X_command_274 q x) := by
  have r5 := h.2.2.2.2.1.2.2.2.2.1
  have r8 := h.2.2.2.2.1.2.2.2.2.2.2.2.1
  have e37 : F_D_commandPumps (F_D_commandValve (F_M_remember w (w 19)) x) m 37 = 0 := by rw [cv_eq]; exact r5
  have A := cmd_pumps (z := 0) h (fun k _ => by rw [hk]) hr hm hx (by rw [hk, r8]) (by rw [hk, r8]; exact Or.inl rfl)
  rw [up_self _ 37 e37] at A
  exact A
/-- only the valve is told -/
theorem cmd_valve {w : Nat → Int32} {q0 q : MSt} {x : Int32} (h : RF w q0) (hk : q.1 = q0.1) (hr : ∀ k, k ≠ 11 → q.2 k = q0.2 k) (hm : Msk 4 (w 27) (q.2 11)) (hx : x = 0 ∨ x = 1) : RB (F_D_commandValve (F_M_remember w (w 19)) x) (K_X_command_274 q x) := by
  have hh := h
  obtain ⟨hC, hE, hU, ⟨m1, m2, m3⟩, ⟨r1, r2, r3, r4, r5, r6, r7, r8, r9, r10⟩, hN, hz, h0, h4, ⟨o1, o2, o3, o4⟩, hJ⟩ := hh
  rw [cv_eq]
  refine cmd_fin h (fun k _ => by rw [hk]) hr hm hx ?_ ?_ hC hE hU hN h0 o1 o2 rfl rfl rfl rfl r9 r10 (fun y hy => ?_) ?_
  · show w 37 = _
    rw [hk, r5, r8]
  · rw [hk, r8]; exact Or.inl rfl
  · show (w 31 ||| (w 32 <<< ((4 : Int32) &&& 31))) = y
    rw [told_none hy, r1, r2]; decide
  · show tv (va x (w 30)) (vb x (w 30)) = _
    rw [m2]; exact tv_v hx m3
/-- nothing is told -/
theorem cmd_none {w : Nat → Int32} {q0 q : MSt} (h : RF w q0) (hk : q.1 = q0.1) (hr : ∀ k, k ≠ 11 → q.2 k = q0.2 k) (hm : Msk 4 (w 27) (q.2 11)) : RB (F_M_remember w (w 19)) (K_X_command_274 q (q0.1 22)) := by
  have hh := h
  obtain ⟨hC, hE, hU, ⟨m1, m2, m3⟩, ⟨r1, r2, r3, r4, r5, r6, r7, r8, r9, r10⟩, hN, hz, h0, h4, ⟨o1, o2, o3, o4⟩, hJ⟩ := hh
  refine cmd_fin h (fun k _ => by rw [hk]) hr hm m3 ?_ ?_ hC hE hU hN h0 o1 o2 rfl rfl rfl m2 r9 r10 (fun y hy => ?_) ?_
  · show w 37 = _
    rw [hk, r5, r8]
  · rw [hk, r8]; exact Or.inl rfl
  · show (w 31 ||| (w 32 <<< ((4 : Int32) &&& 31))) = y
    rw [told_none hy, r1, r2]; decide
  · show tv (w 33) (w 34) = _
    rw [r3, r4]
    unfold v20
    rw [if_pos rfl]; rfl
/-- the first mode's commands -/
theorem cmd_init {w : Nat → Int32} {q0 q : MSt} (h : RF w q0) (hk : q.1 = q0.1) (hr : ∀ k, k ≠ 11 → q.2 k = q0.2 k) (hm : Msk 4 (w 27) (q.2 11)) {x : Int32} (hx : x = 0 ∨ x = 1) : RB (if w 6 ≤ w 14 then K_D_commandInInitial_55 (F_D_commandPumps (F_D_commandValve (F_M_remember w (w 19)) x) 0) else K_D_commandInInitial_55 (F_D_turnOnGoodPumps (F_D_commandValve (F_M_remember w (w 19)) x))) (K_X_command_63 4 0 q x) := by
  have hh := h
  obtain ⟨⟨k1, k2, k3, k4, -⟩, hE, hU, ⟨m1, m2, m3⟩, hR, hN, hz, h0, h4, hO, ⟨j1, -⟩⟩ := hh
  obtain ⟨q', e, t1, t2, t3⟩ := lp63 (q0 := q) (o := w 27) (f := w 25) (by rw [hr 0 (by decide)]; exact hU.1) x 4 0 q rfl ⟨rfl, fun _ _ => rfl, fun j hj => by rw [if_neg (by omega)]; exact hm.1 j hj⟩
  rw [e]
  have hT : R11 q q' (fun j => if q.1 24 < q.1 3 then gB (w 27) (w 25) j else false) (w 27) 4 := ⟨t1, t2, t3⟩
  have E : ∃ z : Int32, K_X_command_63 0 4 q' x = K_X_command_274 (up q'.1 21 z, q'.2) x ∧ (z = 0 ∨ z = 1) ∧ z = F_X_in (q0.1 24) (q0.1 3) (q0.1 4) := by
    rw [K_X_command_63, t1, hk]
    by_cases g : F_X_in (q0.1 24) (q0.1 3) (q0.1 4) = 0
    · rw [if_pos g]; exact ⟨0, rfl, Or.inl rfl, g.symm⟩
    · rw [if_neg g]
      refine ⟨1, rfl, Or.inr rfl, ?_⟩
      unfold F_X_in at g ⊢
      split
      · rename_i y; rw [if_pos y] at g; exact absurd rfl g
      · rename_i y; rw [if_neg y] at g
        split
        · rename_i y'; rw [if_pos y'] at g; exact absurd rfl g
        · rfl
  obtain ⟨z, e2, z01, ez⟩ := E
  rw [e2]
  have en : ∀ v : Nat → Int32, v 6 = w 6 → v 7 = w 7 → v 14 = w 14 → K_D_commandInInitial_55 v = up v 37 z := by
    intro v v6 v7 v14
    unfold K_D_commandInInitial_55
    rw [ez, ← j1, ← k3, ← k4, ← v6, ← v7, ← v14]; rfl
  have hk' : ∀ k, k ≠ 21 → up q'.1 21 z k = q0.1 k := fun k kk => by rw [up_eq, if_neg kk, t1, hk]
  have hr' : ∀ k, k ≠ 11 → q'.2 k = q0.2 k := fun k kk => (t2 k kk).trans (hr k kk)
  have c0 : (q.1 24 < q.1 3) ↔ ¬ w 6 ≤ w 14 := by
    rw [hk, ← j1, ← k3, Int32.lt_iff_toInt_lt, Int32.le_iff_toInt_le]; omega
  by_cases g : w 6 ≤ w 14
  · rw [if_pos g, en _ (by rw [cv_eq]; rfl) (by rw [cv_eq]; rfl) (by rw [cv_eq]; rfl)]
    refine cmd_pumps (q := (up q'.1 21 z, q'.2)) h hk' hr' (hT.msk (fun j hj => ?_) (fun j hj => b_0 j)) hx rfl z01
    rw [b_0, if_neg (fun y => (c0.mp y) g)]
  · rw [if_neg g]
    have eg : F_D_turnOnGoodPumps (F_D_commandValve (F_M_remember w (w 19)) x) = F_D_commandPumps (F_D_commandValve (F_M_remember w (w 19)) x) (good (w 27) (w 25)) := by
      rw [cv_eq]; rfl
    rw [eg, en _ (by rw [cv_eq]; rfl) (by rw [cv_eq]; rfl) (by rw [cv_eq]; rfl)]
    refine cmd_pumps (q := (up q'.1 21 z, q'.2)) h hk' hr' (hT.msk (fun j hj => ?_) (good_hi _ _ m1.2)) hx rfl z01
    rw [if_pos (c0.mpr g), good_bt _ _ hj]
/-- the other modes' commands -/
theorem cmd_op {w : Nat → Int32} {q0 q : MSt} (h : RF w q0) (hk : q.1 = q0.1) (hr : ∀ k, k ≠ 11 → q.2 k = q0.2 k) (hm : Msk 4 (w 27) (q.2 11)) : RB (F_D_commandInOperation (F_M_remember w (w 19))) (if q.1 13 ≤ q.1 4 then K_X_command_161 q 0 0 else K_X_command_161 q 0 1) := by
  have hh := h
  obtain ⟨⟨k1, k2, k3, k4, k5, k6, k7, k8, k9, l1, l2, l3, l4, l5, l6⟩, ⟨e1, e2, e3, e4, b1, b2, b3, b4⟩, hU, ⟨m1, m2, m3⟩, hR, hN, hz, h0, h4, hO, ⟨j1, -⟩⟩ := hh
  have v6 : F_D_commandValve (F_M_remember w (w 19)) 0 6 = q.1 3 := by rw [cv_eq, hk, ← k3]; rfl
  have v7 : F_D_commandValve (F_M_remember w (w 19)) 0 7 = q.1 4 := by rw [cv_eq, hk, ← k4]; rfl
  have v38 : F_D_commandValve (F_M_remember w (w 19)) 0 38 = q.1 12 := by rw [cv_eq, hk, ← e1]; rfl
  have v39 : F_D_commandValve (F_M_remember w (w 19)) 0 39 = q.1 13 := by rw [cv_eq, hk, ← e2]; rfl
  have eg : F_D_turnOnGoodPumps (F_D_commandValve (F_M_remember w (w 19)) 0) = F_D_commandPumps (F_D_commandValve (F_M_remember w (w 19)) 0) (good (w 27) (w 25)) := by
    rw [cv_eq]; rfl
  have P0 : ∀ x2 x3 : Int32, RB (F_D_commandPumps (F_D_commandValve (F_M_remember w (w 19)) 0) 0) (K_X_command_223 q 0 x2 x3 0) := by
    intro x2 x3
    obtain ⟨q', e, t1, t2, t3⟩ := lp226 (q0 := q) (o := w 27) (f := w 25) (by rw [hr 0 (by decide)]; exact hU.1) 0 x2 x3 0 4 0 q rfl ⟨rfl, fun _ _ => rfl, fun j hj => by rw [if_neg (by omega)]; exact hm.1 j hj⟩
    unfold K_X_command_223
    rw [e]
    have hT : R11 q q' (fun j => if (0 : Int32) = 0 then false else gB (w 27) (w 25) j) (w 27) 4 := ⟨t1, t2, t3⟩
    exact cmd_pumps' h (t1.trans hk) (fun k kk => (t2 k kk).trans (hr k kk)) (hT.msk (fun j hj => b_0 j) (fun j hj => b_0 j)) (Or.inl rfl)
  have P1 : ∀ x2 x3 : Int32, RB (F_D_turnOnGoodPumps (F_D_commandValve (F_M_remember w (w 19)) 0)) (K_X_command_223 q 0 x2 x3 1) := by
    intro x2 x3
    obtain ⟨q', e, t1, t2, t3⟩ := lp226 (q0 := q) (o := w 27) (f := w 25) (by rw [hr 0 (by decide)]; exact hU.1) 0 x2 x3 1 4 0 q rfl ⟨rfl, fun _ _ => rfl, fun j hj => by rw [if_neg (by omega)]; exact hm.1 j hj⟩
    unfold K_X_command_223
    rw [e, eg]
    have hT : R11 q q' (fun j => if (1 : Int32) = 0 then false else gB (w 27) (w 25) j) (w 27) 4 := ⟨t1, t2, t3⟩
    exact cmd_pumps' h (t1.trans hk) (fun k kk => (t2 k kk).trans (hr k kk)) (hT.msk (fun j hj => good_bt _ _ hj) (good_hi _ _ m1.2)) (Or.inl rfl)
  have PV : RB (F_D_commandValve (F_M_remember w (w 19)) 0) (K_X_command_274 q 0) := cmd_valve h hk hr hm (Or.inl rfl)
  unfold F_D_commandInOperation
  rw [v6, v7, v38, v39]
  generalize F_D_turnOnGoodPumps (F_D_commandValve (F_M_remember w (w 19)) 0) = G at *
  generalize F_D_commandPumps (F_D_commandValve (F_M_remember w (w 19)) 0) 0 = N at *
  generalize F_D_commandValve (F_M_remember w (w 19)) 0 = V at *
  rw [hk]
  have c0 : (0 : Int32).toInt = 0 := by decide
  have d1 : (q0.1 3 - q0.1 12).toInt = (q0.1 3).toInt - (q0.1 12).toInt := by
    rw [Int32.toInt_sub]; apply Int.bmod_eq_of_le <;> omega
  have d2 : (q0.1 13 - q0.1 4).toInt = (q0.1 13).toInt - (q0.1 4).toInt := by
    rw [Int32.toInt_sub]; apply Int.bmod_eq_of_le <;> omega
  have i1 : (q0.1 3 - q0.1 12 ≤ 0) ↔ (q0.1 3 ≤ q0.1 12) := by rw [Int32.le_iff_toInt_le, Int32.le_iff_toInt_le, d1]; omega
  have i2 : (q0.1 13 - q0.1 4 ≤ 0) ↔ (q0.1 13 ≤ q0.1 4) := by rw [Int32.le_iff_toInt_le, Int32.le_iff_toInt_le, d2]; omega
  have i3 : (q0.1 3 - q0.1 12 ≤ q0.1 13 - q0.1 4) ↔ ((q0.1 3).toInt - (q0.1 12).toInt ≤ (q0.1 13).toInt - (q0.1 4).toInt) := by rw [Int32.le_iff_toInt_le, d1, d2]
  unfold K_X_command_161 K_X_command_178 K_X_command_212 K_X_command_208 K_X_command_213
  rw [hk]
  have o1 : ¬ (1 : Int32) = 0 := by decide
  by_cases g1 : q0.1 3 ≤ q0.1 12
  · by_cases g2 : q0.1 13 ≤ q0.1 4
    · simp only [if_pos (i1.mpr g1), if_pos (i2.mpr g2), if_pos g1, if_pos g2, if_true, if_neg o1]
      exact PV
    · have n2 : ¬ (q0.1 13 - q0.1 4 ≤ 0) := fun y => g2 (i2.mp y)
      simp only [if_pos (i1.mpr g1), if_neg n2, if_pos g1, if_neg g2, if_true, if_neg o1]
      exact P0 _ _
  · have n1 : ¬ (q0.1 3 - q0.1 12 ≤ 0) := fun y => g1 (i1.mp y)
    by_cases g2 : q0.1 13 ≤ q0.1 4
    · have n3 : ¬ (q0.1 3 - q0.1 12 ≤ q0.1 13 - q0.1 4) := by
        rw [i3]
        rw [Int32.le_iff_toInt_le] at g1 g2
        omega
      simp only [if_neg n1, if_neg n3, if_neg g1, if_pos g2, if_true, if_neg o1]
      exact P1 _ _
    · have n2 : ¬ (q0.1 13 - q0.1 4 ≤ 0) := fun y => g2 (i2.mp y)
      by_cases g3 : q0.1 3 - q0.1 12 ≤ q0.1 13 - q0.1 4
      · simp only [if_neg n1, if_neg n2, if_pos g3, if_neg g1, if_neg g2, if_true, if_neg o1]
        exact P0 _ _
      · simp only [if_neg n1, if_neg g3, if_neg g1, if_neg g2, if_true, if_neg o1]
        exact P1 _ _
theorem cmd_ok {w : Nat → Int32} {q : MSt} (h : RF w q) : RB (F_D_giveCommands (F_M_remember w (w 19))) (F_X_command q) := by
  have hh := h
  obtain ⟨⟨k1, k2, k3, k4, -⟩, hE, hU, ⟨m1, m2, m3⟩, hR, hN, hz, h0, h4, ⟨o1, o2, o3⟩, ⟨j1, -⟩⟩ := hh
  unfold F_X_command
  obtain ⟨q', e, t1, t2, t3⟩ := kc2 4 0 q (w 27) rfl m1 (fun j hj => absurd hj (by omega))
  rw [e, K_X_command_2]
  unfold F_D_giveCommands
  have r0 : F_M_remember w (w 19) 0 = q.1 10 := h0
  have r3 : F_M_remember w (w 19) 3 = q.1 23 := o2
  rw [r0, r3]
  by_cases g1 : q.1 10 = 0
  · rw [if_pos g1, if_pos (show q'.1 10 = 0 by rw [t1]; exact g1)]
    by_cases g2 : q.1 23 = 0
    · rw [if_pos g2, if_pos (show q'.1 23 = 0 by rw [t1]; exact g2)]
      have A := cmd_none h t1 t2 t3
      rw [show q'.1 22 = q.1 22 by rw [t1]]; exact A
    · rw [if_neg g2, if_neg (show ¬ q'.1 23 = 0 by rw [t1]; exact g2)]
      unfold F_D_commandInInitial
      have x6 : ∀ x, F_D_commandValve (F_M_remember w (w 19)) x 6 = w 6 := fun x => by rw [cv_eq]; rfl
      have x14 : ∀ x, F_D_commandValve (F_M_remember w (w 19)) x 14 = w 14 := fun x => by rw [cv_eq]; rfl
      rw [x6, x14, x6, x14]
      have rl : (F_M_remember w (w 19) 14 ≤ F_M_remember w (w 19) 7) ↔ (q'.1 24 ≤ q'.1 4) := by
        show (w 14 ≤ w 7) ↔ _
        rw [t1, j1, k4]
      by_cases g3 : q'.1 24 ≤ q'.1 4
      · rw [if_pos g3, if_pos (rl.mpr g3)]
        exact cmd_init h t1 t2 t3 (Or.inl rfl)
      · rw [if_neg g3, if_neg (fun y => g3 (rl.mp y))]
        exact cmd_init h t1 t2 t3 (Or.inr rfl)
  · rw [if_neg g1, if_neg (show ¬ q'.1 10 = 0 by rw [t1]; exact g1)]
    exact cmd_op h t1 t2 t3
