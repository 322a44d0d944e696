/-! THE PURE PART: the commands -/
theorem kc2 : ∀ (n i : Nat) (q : MSt) (m : Int32), i + n = 4 → Msk 4 m (q.2 3) → (∀ j, j < i → q.2 11 j = bI (bt m j)) → ∃ q' : MSt, K_X_command_2 n i q = K_X_command_2 0 4 q' ∧ q'.1 = q.1 ∧ (∀ k, k ≠ 11 → q'.2 k = q.2 k) ∧ Msk 4 m (q'.2 11) := by
  intro n
  induction n with
  | zero =>
    intro i q m e h hb
    refine ⟨q, ?_, rfl, fun _ _ => rfl, fun j hj => hb j (by omega), h.2⟩
    rw [K_X_command_2, K_X_command_2]
  | succ n ih =>
    intro i q m e h hb
    rw [K_X_command_2, clI (by omega), h.1 i (by omega), narb]
    obtain ⟨q', h1, h2, h3, h4⟩ := ih (i + 1) (q.1, ub q.2 11 (upd (q.2 11) i (bI (bt m i)))) m (by omega) h (by
      intro j hj
      show upd (q.2 11) i (bI (bt m i)) j = _
      rw [upd_eq]
      by_cases z : j = i
      · rw [if_pos z, z]
      · rw [if_neg z]; exact hb j (by omega))
    refine ⟨q', h1, h2, fun k hk => ?_, h4⟩
    rw [h3 k hk]
    show ub q.2 11 _ k = _
    rw [ub_eq, if_neg hk]
/-- bits of what is told to the pumps -/
def tB (m o : Int32) (i j : Nat) : Bool := (decide (j < i) && (bt m j && !bt o j)) || (decide (4 ≤ j ∧ j < 4 + i) && (bt o (j - 4) && !bt m (j - 4)))
theorem b_16 (n : Nat) (hn : n < 4) (i : Nat) : bt ((16 : Int32) <<< (nI n &&& 31)) i = decide (i = 4 + n) := by
  rcases Nat.lt_or_ge i 32 with h | h
  · match n, hn with
    | 0, _ => exact (by decide +kernel : ∀ i, i < 32 → bt ((16 : Int32) <<< (nI 0 &&& 31)) i = decide (i = 4 + 0)) i h
    | 1, _ => exact (by decide +kernel : ∀ i, i < 32 → bt ((16 : Int32) <<< (nI 1 &&& 31)) i = decide (i = 4 + 1)) i h
    | 2, _ => exact (by decide +kernel : ∀ i, i < 32 → bt ((16 : Int32) <<< (nI 2 &&& 31)) i = decide (i = 4 + 2)) i h
    | 3, _ => exact (by decide +kernel : ∀ i, i < 32 → bt ((16 : Int32) <<< (nI 3 &&& 31)) i = decide (i = 4 + 3)) i h
  · rw [b_big h, decide_eq_false (by omega)]
theorem tB_same {m o : Int32} {i : Nat} (hi : i < 4) (h : bt m i = bt o i) (j : Nat) : tB m o (i + 1) j = tB m o i j := by
  unfold tB
  by_cases e : j = i
  · subst e
    rw [decide_eq_true (show j < j + 1 by omega), decide_eq_false (show ¬ j < j by omega), h, decide_eq_false (show ¬ (4 ≤ j ∧ j < 4 + (j + 1)) by omega), decide_eq_false (show ¬ (4 ≤ j ∧ j < 4 + j) by omega)]
    cases bt o j <;> rfl
  · by_cases e' : j = 4 + i
    · subst e'
      rw [show 4 + i - 4 = i by omega, h, decide_eq_false (show ¬ 4 + i < i + 1 by omega), decide_eq_false (show ¬ 4 + i < i by omega)]
      cases bt o i <;> simp
    · rw [decide_eq_decide.mpr (show j < i + 1 ↔ j < i by omega), decide_eq_decide.mpr (show (4 ≤ j ∧ j < 4 + (i + 1)) ↔ (4 ≤ j ∧ j < 4 + i) by omega)]
theorem tB_on {m o : Int32} {i : Nat} (hi : i < 4) (hm : bt m i = true) (ho : bt o i = false) (j : Nat) : tB m o (i + 1) j = (tB m o i j || decide (j = i)) := by
  unfold tB
  by_cases e : j = i
  · subst e
    rw [decide_eq_true (show j < j + 1 by omega), hm, ho, decide_eq_true (show j = j from rfl), Bool.or_true]; rfl
  · rw [decide_eq_false e, Bool.or_false]
    by_cases e' : j = 4 + i
    · subst e'
      rw [show 4 + i - 4 = i by omega, ho, decide_eq_false (show ¬ 4 + i < i + 1 by omega), decide_eq_false (show ¬ 4 + i < i by omega)]
      simp
    · rw [decide_eq_decide.mpr (show j < i + 1 ↔ j < i by omega), decide_eq_decide.mpr (show (4 ≤ j ∧ j < 4 + (i + 1)) ↔ (4 ≤ j ∧ j < 4 + i) by omega)]
theorem tB_off {m o : Int32} {i : Nat} (hi : i < 4) (hm : bt m i = false) (ho : bt o i = true) (j : Nat) : tB m o (i + 1) j = (tB m o i j || decide (j = 4 + i)) := by
  unfold tB
  by_cases e : j = i
  · subst e
    rw [hm, decide_eq_false (show ¬ (4 ≤ j ∧ j < 4 + (j + 1)) by omega), decide_eq_false (show ¬ (4 ≤ j ∧ j < 4 + j) by omega), decide_eq_false (show ¬ j = 4 + j by omega)]
    simp
  · by_cases e' : j = 4 + i
    · subst e'
      rw [show 4 + i - 4 = i by omega, ho, hm, decide_eq_true (show 4 ≤ 4 + i ∧ 4 + i < 4 + (i + 1) by omega), decide_eq_true (show 4 + i = 4 + i from rfl), Bool.or_true]
      simp
    · rw [decide_eq_false e', Bool.or_false, decide_eq_decide.mpr (show j < i + 1 ↔ j < i by omega), decide_eq_decide.mpr (show (4 ≤ j ∧ j < 4 + (i + 1)) ↔ (4 ≤ j ∧ j < 4 + i) by omega)]
/-- what the last loop leaves -/
def Cm (q0 q : MSt) (m o g : Int32) (i : Nat) : Prop := (∀ k, k ≠ 19 → q.1 k = q0.1 k) ∧ (∀ k, k ≠ 3 → k ≠ 4 → k ≠ 5 → q.2 k = q0.2 k) ∧ (∀ j, j < 4 → q.2 3 j = if j < i then bI (bt m j) else bI (bt o j)) ∧ (∀ j, j < i → q.2 4 j = bI (bt o j)) ∧ (∀ j, j < i → q.2 5 j = bI (bt g j)) ∧ ∀ j, bt (q.1 19) j = tB m o i j
theorem Cm.step {q0 q : MSt} {m o g : Int32} {i : Nat} (h : Cm q0 q m o g i) (hi : i < 4) {z : Int32} (hz : ∀ j, bt z j = tB m o (i + 1) j) (s' : Nat → Int32) (hs : s' = up q.1 19 z) : Cm q0 (s', ub (ub (ub q.2 4 (upd (q.2 4) i (bI (bt o i)))) 3 (upd (q.2 3) i (bI (bt m i)))) 5 (upd (q.2 5) i (bI (bt g i)))) m o g (i + 1) := by
  subst hs
  obtain ⟨h1, h2, h3, h4, h5, h6⟩ := h
  refine ⟨fun k hk => ?_, fun k k3 k4 k5 => ?_, fun j hj => ?_, fun j hj => ?_, fun j hj => ?_, hz⟩
  · show up q.1 19 z k = _
    rw [up_eq, if_neg hk]; exact h1 k hk
  · show ub (ub (ub q.2 4 _) 3 _) 5 _ k = _
    rw [ub_eq, if_neg k5, ub_eq, if_neg k3, ub_eq, if_neg k4]; exact h2 k k3 k4 k5
  · show upd (q.2 3) i (bI (bt m i)) j = _
    rw [upd_eq]
    by_cases e : j = i
    · rw [if_pos e, e, if_pos (by omega)]
    · rw [if_neg e, h3 j hj]
      by_cases e' : j < i
      · rw [if_pos e', if_pos (by omega)]
      · rw [if_neg e', if_neg (by omega)]
  · show upd (q.2 4) i (bI (bt o i)) j = _
    rw [upd_eq]
    by_cases e : j = i
    · rw [if_pos e, e]
    · rw [if_neg e]; exact h4 j (by omega)
  · show upd (q.2 5) i (bI (bt g i)) j = _
    rw [upd_eq]
    by_cases e : j = i
    · rw [if_pos e, e]
    · rw [if_neg e]; exact h5 j (by omega)
theorem k276 {q0 : MSt} {m o g : Int32} (hm : Msk 4 m (q0.2 11)) (hg : Msk 4 g (q0.2 8)) (x : Int32) : ∀ (n i : Nat) (q : MSt), i + n = 4 → Cm q0 q m o g i → ∃ q' : MSt, K_X_command_276 n i q x = K_X_command_276 0 4 q' x ∧ Cm q0 q' m o g 4 := by
  intro n
  induction n with
  | zero =>
    intro i q e h
    refine ⟨q, ?_, ?_⟩
    · rw [K_X_command_276, K_X_command_276]
    · rw [show 4 = i by omega]; exact h
  | succ n ih =>
    intro i q e h
    have hh := h
    obtain ⟨h1, h2, h3, h4, h5, h6⟩ := hh
    have e11 : q.2 11 i = bI (bt m i) := by rw [h2 11 (by decide) (by decide) (by decide)]; exact hm.1 i (by omega)
    have e8 : q.2 8 i = bI (bt g i) := by rw [h2 8 (by decide) (by decide) (by decide)]; exact hg.1 i (by omega)
    have e3 : q.2 3 i = bI (bt o i) := by rw [h3 i (by omega), if_neg (by omega)]
    rw [K_X_command_276, clI (by omega), e11, e8, e3, narb, narb, narb]
    by_cases c1 : bI (bt m i) = bI (bt o i)
    · rw [if_pos c1]
      refine ih (i + 1) _ (by omega) (h.step (by omega) (z := q.1 19) (fun j => ?_) q.1 (up_self q.1 19 rfl).symm)
      rw [h6, tB_same (by omega) (bI_inj c1)]
    · rw [if_neg c1]
      by_cases c2 : bI (bt m i) = 0
      · rw [if_pos c2]
        have m0 : bt m i = false := (bI_0 _).mp c2
        have o1 : bt o i = true := by
          cases hb : bt o i with
          | true => rfl
          | false => rw [m0, hb] at c1; exact absurd rfl c1
        refine ih (i + 1) _ (by omega) (h.step (by omega) (fun j => ?_) _ rfl)
        rw [b_or, b_16 i (by omega), h6, tB_off (by omega) m0 o1]
      · rw [if_neg c2]
        have m1 : bt m i = true := by
          cases hb : bt m i with
          | true => rfl
          | false => exact absurd (by rw [hb]; rfl) c2
        have o0 : bt o i = false := by
          cases hb : bt o i with
          | false => rfl
          | true => rw [m1, hb] at c1; exact absurd rfl c1
        refine ih (i + 1) _ (by omega) (h.step (by omega) (fun j => ?_) _ rfl)
        rw [b_or, b_one i (by omega), h6, tB_on (by omega) m1 o0]
theorem told_mask {m o : Int32} (hm : ∀ j, 4 ≤ j → bt m j = false) (ho : ∀ j, 4 ≤ j → bt o j = false) {z : Int32} (hz : ∀ j, bt z j = tB m o 4 j) : ((m &&& (o ^^^ ((-1) : Int32))) ||| ((o &&& (m ^^^ ((-1) : Int32))) <<< ((4 : Int32) &&& 31))) = z := b_ext fun j hj => by
  have e := b_shl 4 (by decide) (o &&& (m ^^^ ((-1) : Int32))) hj
  have e' : bt ((o &&& (m ^^^ ((-1) : Int32))) <<< ((4 : Int32) &&& 31)) j = (decide (4 ≤ j) && bt (o &&& (m ^^^ ((-1) : Int32))) (j - 4)) := e
  rw [hz, b_or, e', b_and, b_and, b_not _ hj, b_not _ (by omega)]
  unfold tB
  rcases Nat.lt_or_ge j 4 with y | y
  · rw [decide_eq_true y, decide_eq_false (show ¬ 4 ≤ j by omega), decide_eq_false (show ¬ (4 ≤ j ∧ j < 4 + 4) by omega)]
    simp
  · rw [decide_eq_false (show ¬ j < 4 by omega), hm j y, decide_eq_true y]
    rcases Nat.lt_or_ge j 8 with u | u
    · rw [decide_eq_true (show 4 ≤ j ∧ j < 4 + 4 by omega)]; simp
    · rw [ho (j - 4) (by omega)]; simp
theorem told_none {o : Int32} {z : Int32} (hz : ∀ j, bt z j = tB o o 4 j) : z = 0 := b_ext fun j _ => by
  rw [hz, b_0]
  unfold tB
  cases bt o j <;> cases bt o (j - 4) <;> simp
def va (x y : Int32) : Int32 := if x = 0 then 0 else (if y = 0 then 1 else 0)
def vb (x y : Int32) : Int32 := if x = 0 then (if y = 0 then 0 else 1) else 0
theorem cv_eq (w : Nat → Int32) (x : Int32) : F_D_commandValve w x = up (up (up w 33 (va x (w 30))) 34 (vb x (w 30))) 30 x := by
  unfold F_D_commandValve va vb
  by_cases h1 : x = 0 <;> by_cases h2 : w 30 = 0 <;> simp only [h1, h2, if_true, if_false]
def v20 (x y : Int32) : Int32 := if x = y then 0 else (if x = 0 then 2 else 1)
theorem tv_v {x y : Int32} (hx : x = 0 ∨ x = 1) (hy : y = 0 ∨ y = 1) : tv (va x y) (vb x y) = v20 x y := by
  rcases hx with rfl | rfl <;> rcases hy with rfl | rfl <;> decide
/-- the last step: what the class's numbers must say -/
theorem cmd_fin {w wf : Nat → Int32} {q0 q : MSt} {m x : Int32} (h : RF w q0) (hk : ∀ k, k ≠ 21 → q.1 k = q0.1 k) (hr : ∀ k, k ≠ 11 → q.2 k = q0.2 k) (hm : Msk 4 m (q.2 11)) (hx : x = 0 ∨ x = 1) (h21 : wf 37 = q.1 21) (z21 : q.1 21 = 0 ∨ q.1 21 = 1)
    (fC : RC wf q0.1) (fE : RE wf q0.1) (fU : RU wf q0.2) (fN : RN0 wf q0.1) (f0 : wf 0 = q0.1 10) (f2 : wf 2 = q0.1 16) (f3 : wf 3 = q0.1 23) (f27 : wf 27 = m) (f28 : wf 28 = w 27) (f29 : wf 29 = w 19) (f30 : wf 30 = x) (f35 : wf 35 = q0.1 17) (f36 : wf 36 = q0.1 18)
    (f31 : ∀ z : Int32, (∀ j, bt z j = tB m (w 27) 4 j) → (wf 31 ||| (wf 32 <<< ((4 : Int32) &&& 31))) = z) (f33 : tv (wf 33) (wf 34) = v20 x (q0.1 22)) : RB wf (K_X_command_274 q x) := by
  obtain ⟨hC, hE, hU, ⟨m1, m2, m3⟩, ⟨r1, r2, r3, r4, r5, r6, r7, r8, r9, r10⟩, hN, hz, h0, h4, ⟨o1, o2, o3, o4⟩, ⟨j1, j2, j3, j4, j5, j6⟩⟩ := h
  have S : Cm q q m (w 27) (w 19) 0 := by
    refine ⟨fun _ _ => rfl, fun _ _ _ _ => rfl, fun j hj => ?_, fun j hj => absurd hj (by omega), fun j hj => absurd hj (by omega), fun j => ?_⟩
    · rw [if_neg (by omega), hr 3 (by decide)]; exact m1.1 j hj
    · rw [hk 19 (by decide), r6, b_0]
      unfold tB
      rw [decide_eq_false (by omega), decide_eq_false (show ¬ (4 ≤ j ∧ j < 4 + 0) by omega)]; rfl
  unfold K_X_command_274
  obtain ⟨q', e, c1, c2, c3, c4, c5, c6⟩ := k276 (q0 := q) (o := w 27) (g := w 19) hm (by rw [hr 8 (by decide)]; exact j5) x 4 0 q rfl S
  rw [e]
  have d : ∀ k, k ≠ 19 → k ≠ 21 → q'.1 k = q0.1 k := fun k a b => (c1 k a).trans (hk k b)
  have d2 : ∀ k, k ≠ 3 → k ≠ 4 → k ≠ 5 → k ≠ 11 → q'.2 k = q0.2 k := fun k a b c e => (c2 k a b c).trans (hr k e)
  have E : ∃ s, K_X_command_276 0 4 q' x = (s, q'.2) ∧ (∀ k, k ≠ 20 → k ≠ 22 → s k = q'.1 k) ∧ s 22 = x ∧ s 20 = v20 x (q0.1 22) := by
    rw [K_X_command_276, d 22 (by decide) (by decide)]
    unfold v20
    by_cases g : x = q0.1 22
    · rw [if_pos g, if_pos g]
      refine ⟨_, rfl, fun k _ b => by rw [up_eq, if_neg b], rfl, ?_⟩
      show q'.1 20 = 0
      rw [d 20 (by decide) (by decide), r7]
    · rw [if_neg g, if_neg g]
      by_cases g2 : x = 0
      · rw [if_pos g2, if_pos g2]
        exact ⟨_, rfl, fun k a b => by rw [up_eq, if_neg b, up_eq, if_neg a], rfl, rfl⟩
      · rw [if_neg g2, if_neg g2]
        exact ⟨_, rfl, fun k a b => by rw [up_eq, if_neg b, up_eq, if_neg a], rfl, rfl⟩
  obtain ⟨s, e', s1, s2, s3⟩ := E
  rw [e']
  have t : ∀ k, k ≠ 19 → k ≠ 20 → k ≠ 21 → k ≠ 22 → s k = q0.1 k := fun k a b c d' => (s1 k b d').trans (d k a c)
  have t1 := t 1 (by decide) (by decide) (by decide) (by decide)
  have t2 := t 2 (by decide) (by decide) (by decide) (by decide)
  have t3 := t 3 (by decide) (by decide) (by decide) (by decide)
  have t4 := t 4 (by decide) (by decide) (by decide) (by decide)
  have t5 := t 5 (by decide) (by decide) (by decide) (by decide)
  have t6 := t 6 (by decide) (by decide) (by decide) (by decide)
  have t7 := t 7 (by decide) (by decide) (by decide) (by decide)
  have t8 := t 8 (by decide) (by decide) (by decide) (by decide)
  have t9 := t 9 (by decide) (by decide) (by decide) (by decide)
  have t10 := t 10 (by decide) (by decide) (by decide) (by decide)
  have t11 := t 11 (by decide) (by decide) (by decide) (by decide)
  have t12 := t 12 (by decide) (by decide) (by decide) (by decide)
  have t13 := t 13 (by decide) (by decide) (by decide) (by decide)
  have t14 := t 14 (by decide) (by decide) (by decide) (by decide)
  have t15 := t 15 (by decide) (by decide) (by decide) (by decide)
  have t16 := t 16 (by decide) (by decide) (by decide) (by decide)
  have t17 := t 17 (by decide) (by decide) (by decide) (by decide)
  have t18 := t 18 (by decide) (by decide) (by decide) (by decide)
  have t23 := t 23 (by decide) (by decide) (by decide) (by decide)
  have t19 : s 19 = q'.1 19 := s1 19 (by decide) (by decide)
  have t21 : s 21 = q.1 21 := (s1 21 (by decide) (by decide)).trans (c1 21 (by decide))
  refine ⟨?_, ?_, ?_, ⟨?_, ?_, ?_⟩, ⟨?_, ?_, ?_, ?_, ?_, ?_⟩, ?_, ?_, ?_, fun _ => ⟨?_, ?_, ?_, ?_⟩⟩
  · show RC wf s
    unfold RC
    rw [t1, t2, t3, t4, t5, t6, t7, t8, t9]; exact fC
  · show RE wf s
    unfold RE
    rw [t12, t13, t14, t15]; exact fE
  · show RU wf q'.2
    unfold RU
    rw [d2 0 (by decide) (by decide) (by decide) (by decide), d2 1 (by decide) (by decide) (by decide) (by decide)]; exact fU
  · show Msk 4 (wf 27) (q'.2 3)
    rw [f27]
    exact ⟨fun j hj => by rw [c3 j hj, if_pos hj], hm.2⟩
  · show wf 30 = s 22
    rw [f30, s2]
  · show s 22 = 0 ∨ s 22 = 1
    rw [s2]; exact hx
  · show _ = s 19
    rw [t19]; exact f31 _ c6
  · show _ = s 20
    rw [s3]; exact f33
  · show _ = s 17
    rw [t17]; exact f35
  · show _ = s 18
    rw [t18]; exact f36
  · show _ = s 21
    rw [t21]; exact h21
  · show s 21 = 0 ∨ s 21 = 1
    rw [t21]; exact z21
  · show RN0 wf s
    unfold RN0 RN
    rw [t11, t 0 (by decide) (by decide) (by decide) (by decide)]; exact fN
  · show s 23 = 0 ∨ s 23 = 1
    rw [t23]; exact hz
  · show _ = s 10
    rw [t10]; exact f0
  · show _ = s 16
    rw [t16]; exact f2
  · show _ = s 23
    rw [t23]; exact f3
  · show Msk 4 (wf 28) (q'.2 4)
    rw [f28]
    exact ⟨fun j hj => c4 j hj, m1.2⟩
  · show Msk 4 (wf 29) (q'.2 5)
    rw [f29]
    exact ⟨fun j hj => c5 j hj, j5.2⟩
