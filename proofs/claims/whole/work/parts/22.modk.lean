/-! what the reference's steps leave as it was -/
theorem up_eq (f : Nat → Int32) (k : Nat) (x : Int32) (j : Nat) : up f k x j = if j = k then x else f j := by
  unfold up
  cases hb : Nat.beq j k with
  | true => rw [if_pos (Nat.eq_of_beq_eq_true hb)]; rfl
  | false => rw [if_neg (Nat.ne_of_beq_eq_false hb)]; rfl
theorem ub_eq (f : Nat → Nat → Int32) (k : Nat) (x : Nat → Int32) (j : Nat) : ub f k x j = if j = k then x else f j := by
  unfold ub
  cases hb : Nat.beq j k with
  | true => rw [if_pos (Nat.eq_of_beq_eq_true hb)]; rfl
  | false => rw [if_neg (Nat.ne_of_beq_eq_false hb)]; rfl
theorem zb_or {x y : Int32} (hx : x = 0 ∨ x = 1) (hy : y = 0 ∨ y = 1) : x ||| y = 0 ∨ x ||| y = 1 := by
  rcases hx with rfl | rfl <;> rcases hy with rfl | rfl <;> decide
theorem find_kp (q : (Nat → Int32) × (Nat → Nat → Int32)) (a z : Int32) {k : Nat} (h : k ≠ 17) : (F_X_find q a z).1 k = q.1 k := by
  unfold F_X_find K_X_find_13
  repeat' split
  all_goals first | rfl | (simp only [up_eq, if_neg h])
theorem units75_kp (n : Nat) : ∀ (i : Nat) (q : (Nat → Int32) × (Nat → Nat → Int32)) (k : Nat), (K_X_units_75 n i q).2.1 k = q.1 k := by
  induction n with
  | zero => intro i q k; rfl
  | succ n ih =>
    intro i q k
    rw [K_X_units_75]
    repeat' split
    all_goals first | rfl | exact ih _ _ _
theorem units2_kp (n : Nat) : ∀ (i : Nat) (q : (Nat → Int32) × (Nat → Nat → Int32)) {k : Nat}, k ≠ 18 → (K_X_units_2 n i q).2.1 k = q.1 k := by
  induction n with
  | zero => intro i q k h; exact units75_kp _ _ _ _
  | succ n ih =>
    intro i q k h
    rw [K_X_units_2]
    repeat' split
    all_goals first | rfl | exact ih _ _ h | (rw [ih _ _ h]; simp only [up_eq, if_neg h])
theorem units_kp (q : (Nat → Int32) × (Nat → Nat → Int32)) {k : Nat} (h : k ≠ 18) : (F_X_units q).2.1 k = q.1 k := units2_kp _ _ _ h
theorem first_kp (q : (Nat → Int32) × (Nat → Nat → Int32)) {k : Nat} (h : k ≠ 10) : (F_X_first q).2.1 k = q.1 k := by
  unfold F_X_first K_X_first_18
  repeat' split
  all_goals first | rfl | (simp only [up_eq, if_neg h])
theorem others_kp (q : (Nat → Int32) × (Nat → Nat → Int32)) {k : Nat} (h : k ≠ 10) : (F_X_others q).2.1 k = q.1 k := by
  unfold F_X_others K_X_others_53 K_X_others_22
  repeat' split
  all_goals first | rfl | (simp only [up_eq, if_neg h])
