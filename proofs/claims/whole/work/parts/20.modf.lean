theorem mf_0 (v : Nat → Int32) (b : Nat → Nat → Int32) : F_X_fails (up v 0 0, b) 0 1 = (0, (up v 0 0, b)) := by
  unfold F_X_fails
  simp [up]
theorem mf_1 (v : Nat → Int32) (b : Nat → Nat → Int32) : F_X_fails (up v 0 0, b) 1 1 = (1, (up (up v 0 0) 0 1, b)) := by
  unfold F_X_fails
  simp [up]
theorem c_X_fails_0 (l : Launch) (D : va_G) (h : Nat → Nat) (cZ : ClassId) (sz : Nat) (v : Nat → Int32) (b : Nat → Nat → Int32) : Met l yX_fails [.code yX_fails cX_fails 3 (some .boolean)] ({ frames := 0, cells := 0, slots := 0, locals := 0 }) (va_Pc [.ref (h 0), .int 0, .int 1] (kb_B D [(cZ, .boolean)] (mw h cZ) (up v 0 0, b) sz)) (va_Qi (fun r' u' => r' = 0 ∧ u' = (up v 0 0, b)) (kb_E D [(cZ, .boolean)] (mw h cZ) (va_A (mw h cZ (up v 0 0, b)) sz)) (va_A (mw h cZ (up v 0 0, b)) sz)) 0 0 (va_A (mw h cZ (up v 0 0, b)) sz) := by
  have h9 := c_X_fails l D h cZ sz (up v 0 0, b) 0 1 (by decide)
  rw [mf_0] at h9
  exact h9
theorem c_X_fails_1 (l : Launch) (D : va_G) (h : Nat → Nat) (cZ : ClassId) (sz : Nat) (v : Nat → Int32) (b : Nat → Nat → Int32) : Met l yX_fails [.code yX_fails cX_fails 3 (some .boolean)] ({ frames := 0, cells := 0, slots := 0, locals := 0 }) (va_Pc [.ref (h 0), .int 1, .int 1] (kb_B D [(cZ, .boolean)] (mw h cZ) (up v 0 0, b) sz)) (va_Qi (fun r' u' => r' = 1 ∧ u' = (up (up v 0 0) 0 1, b)) (kb_E D [(cZ, .boolean)] (mw h cZ) (va_A (mw h cZ (up v 0 0, b)) sz)) (va_A (mw h cZ (up v 0 0, b)) sz)) 0 0 (va_A (mw h cZ (up v 0 0, b)) sz) := by
  have h9 := c_X_fails l D h cZ sz (up v 0 0, b) 1 1 (by decide)
  rw [mf_1] at h9
  exact h9
theorem in_vp {a b : Int32} {n : Nat} (hn : b.toInt = (n : Int)) (h : ¬ F_X_in a 0 b = 0) : vp_in a (n + 1) := by
  unfold F_X_in at h
  rw [vp_in_iff]
  split at h
  · exact absurd rfl h
  · split at h
    · exact absurd rfl h
    · rename_i h1 h2
      rw [Int32.not_lt, Int32.le_iff_toInt_le] at h1 h2
      rw [hn] at h2
      rw [Int32.toInt_zero] at h1
      omega
