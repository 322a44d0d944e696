/-! THE PURE PART: masks and rows of flags -/
def bt (x : Int32) (i : Nat) : Bool := x.toBitVec.getLsbD i
theorem b_ext {x y : Int32} (h : ∀ i, i < 32 → bt x i = bt y i) : x = y := Int32.toBitVec_inj.mp (BitVec.eq_of_getLsbD_eq (fun i hi => h i hi))
theorem b_or (x y : Int32) (i : Nat) : bt (x ||| y) i = (bt x i || bt y i) := by unfold bt; rw [Int32.toBitVec_or, BitVec.getLsbD_or]
theorem b_and (x y : Int32) (i : Nat) : bt (x &&& y) i = (bt x i && bt y i) := by unfold bt; rw [Int32.toBitVec_and, BitVec.getLsbD_and]
theorem b_xor (x y : Int32) (i : Nat) : bt (x ^^^ y) i = (bt x i ^^ bt y i) := by unfold bt; rw [Int32.toBitVec_xor, BitVec.getLsbD_xor]
theorem b_big {x : Int32} {i : Nat} (h : 32 ≤ i) : bt x i = false := BitVec.getLsbD_of_ge _ _ h
theorem b_m1 : ∀ i, i < 32 → bt (-1) i = true := by decide +kernel
theorem b_0 (i : Nat) : bt 0 i = false := BitVec.getLsbD_zero
theorem s_l : ∀ n, n < 32 → ((nI n &&& 31).toBitVec.smod 32).toNat = n := by decide +kernel
theorem b_shl (n : Nat) (hn : n < 32) (x : Int32) {i : Nat} (hi : i < 32) : bt (x <<< (nI n &&& 31)) i = (decide (n ≤ i) && bt x (i - n)) := by
  unfold bt
  rw [Int32.toBitVec_shiftLeft]
  show (x.toBitVec <<< ((nI n &&& 31).toBitVec.smod 32).toNat).getLsbD i = _
  rw [s_l n hn, BitVec.getLsbD_shiftLeft]
  rcases Nat.lt_or_ge i n with h | h
  · simp [h, Nat.not_le.mpr h]
  · simp [hi, h, Nat.not_lt.mpr h]
theorem b_sshr (n : Nat) (hn : n < 32) (x : Int32) {i : Nat} (hi : i < 32) : bt (x >>> (nI n &&& 31)) i = if n + i < 32 then bt x (n + i) else bt x 31 := by
  unfold bt
  rw [Int32.toBitVec_shiftRight]
  show (x.toBitVec.sshiftRight ((nI n &&& 31).toBitVec.smod 32).toNat).getLsbD i = _
  rw [s_l n hn, BitVec.getLsbD_sshiftRight, BitVec.msb_eq_getLsbD_last]
  simp [hi]
theorem b_1 (i : Nat) : bt 1 i = decide (i = 0) := by
  rcases Nat.lt_or_ge i 32 with h | h
  · exact (by decide +kernel : ∀ i, i < 32 → bt 1 i = decide (i = 0)) i h
  · rw [b_big h, decide_eq_false (by omega)]
theorem b_15 (i : Nat) : bt 15 i = decide (i < 4) := by
  rcases Nat.lt_or_ge i 32 with h | h
  · exact (by decide +kernel : ∀ i, i < 32 → bt 15 i = decide (i < 4)) i h
  · rw [b_big h, decide_eq_false (by omega)]
theorem b_960 (i : Nat) : bt 960 i = decide (6 ≤ i ∧ i < 10) := by
  rcases Nat.lt_or_ge i 32 with h | h
  · exact (by decide +kernel : ∀ i, i < 32 → bt 960 i = decide (6 ≤ i ∧ i < 10)) i h
  · rw [b_big h, decide_eq_false (by omega)]
theorem b_not (x : Int32) {i : Nat} (h : i < 32) : bt (x ^^^ ((-1) : Int32)) i = !bt x i := by
  rw [b_xor, b_m1 i h]; cases bt x i <;> rfl
theorem b_one (n : Nat) (hn : n < 32) (i : Nat) : bt ((1 : Int32) <<< (nI n &&& 31)) i = decide (i = n) := by
  rcases Nat.lt_or_ge i 32 with h | h
  · rw [b_shl n hn _ h, b_1]
    by_cases e : i = n
    · subst e; simp
    · rw [decide_eq_false e]
      by_cases z : n ≤ i
      · rw [decide_eq_true z, decide_eq_false (by omega)]; rfl
      · rw [decide_eq_false z]; rfl
  · rw [b_big h, decide_eq_false (by omega)]
theorem b_low1 (y : Int32) : (y &&& (1 : Int32)) = 0 ↔ bt y 0 = false := by
  constructor
  · intro h
    have t := congrArg (fun x => bt x 0) h
    simpa [b_and, b_1, b_0] using t
  · intro h
    apply b_ext
    intro i hi
    rw [b_and, b_1, b_0]
    by_cases e : i = 0
    · subst e; rw [h]; rfl
    · rw [decide_eq_false e, Bool.and_false]
/-- a flag as a number -/
def bI (b : Bool) : Int32 := bif b then 1 else 0
theorem bI_01 (b : Bool) : bI b = 0 ∨ bI b = 1 := by cases b; exact Or.inl rfl; exact Or.inr rfl
theorem bI_0 (b : Bool) : bI b = 0 ↔ b = false := by cases b <;> decide
theorem bI_inj {a b : Bool} (h : bI a = bI b) : a = b := by revert h; cases a <;> cases b <;> decide
theorem bI_iff (a b : Bool) : bI a = bI b ↔ a = b := ⟨bI_inj, fun h => by rw [h]⟩
theorem hasBit_eq (x : Int32) {i : Nat} (h : i < 32) : F_D_hasBit x (nI i) = bI (bt x i) := by
  have e : bt (x >>> (nI i &&& 31)) 0 = bt x i := by
    rw [b_sshr i h x (by omega), if_pos (by omega)]; rfl
  unfold F_D_hasBit
  cases hb : bt x i with
  | true => rw [if_neg (by rw [b_low1, e, hb]; decide)]; rfl
  | false => rw [if_pos (by rw [b_low1, e, hb])]; rfl
theorem with1 (x : Int32) {i : Nat} (h : i < 32) (j : Nat) : bt (F_D_withBit x (nI i) 1) j = (bt x j || decide (j = i)) := by
  unfold F_D_withBit
  rw [if_neg (by decide), b_or, b_one i h]
theorem with0 (x : Int32) {i : Nat} (h : i < 32) (j : Nat) : bt (F_D_withBit x (nI i) 0) j = (bt x j && !decide (j = i)) := by
  unfold F_D_withBit
  rw [if_pos rfl, b_and]
  rcases Nat.lt_or_ge j 32 with z | z
  · rw [b_not _ z, b_one i h]
  · rw [b_big z]; rfl
theorem withb (x : Int32) {i : Nat} (h : i < 32) {b : Int32} (hb : b = 0 ∨ b = 1) (j : Nat) : bt (F_D_withBit x (nI i) b) j = if j = i then decide (b = 1) else bt x j := by
  rcases hb with rfl | rfl
  · rw [with0 x h]
    by_cases e : j = i
    · rw [if_pos e, decide_eq_true e, decide_eq_false (by decide), Bool.not_true, Bool.and_false]
    · rw [if_neg e, decide_eq_false e, Bool.not_false, Bool.and_true]
  · rw [with1 x h]
    by_cases e : j = i
    · rw [if_pos e, decide_eq_true e, Bool.or_true]; rfl
    · rw [if_neg e, decide_eq_false e, Bool.or_false]
theorem bI_dec {b : Int32} (hb : b = 0 ∨ b = 1) : bI (decide (b = 1)) = b := by rcases hb with rfl | rfl <;> rfl
theorem nar01 {x : Int32} (h : x = 0 ∨ x = 1) : vp_nar .boolean x = x := by rcases h with rfl | rfl <;> rfl
theorem nar0 : vp_nar .boolean 0 = 0 := rfl
theorem nar1 : vp_nar .boolean 1 = 1 := rfl
theorem narb (b : Bool) : vp_nar .boolean (bI b) = bI b := nar01 (bI_01 b)
theorem upd_eq (f : Nat → Int32) (k : Nat) (x : Int32) (j : Nat) : upd f k x j = if j = k then x else f j := rfl
theorem clI {i : Nat} (h : i < 32) : (nI i).toNatClampNeg = i := nI_clamp (by omega)
/-- a mask of n bits says what a row of n flags says -/
def Msk (n : Nat) (x : Int32) (r : Nat → Int32) : Prop := (∀ i, i < n → r i = bI (bt x i)) ∧ ∀ i, n ≤ i → bt x i = false
theorem Msk.put {n : Nat} {x : Int32} {r : Nat → Int32} (h : Msk n x r) {i : Nat} (hi : i < n) (hn : n ≤ 32) {b : Int32} (hb : b = 0 ∨ b = 1) : Msk n (F_D_withBit x (nI i) b) (upd r (nI i).toNatClampNeg (vp_nar .boolean b)) := by
  rw [clI (by omega), nar01 hb]
  refine ⟨fun j hj => ?_, fun j hj => ?_⟩
  · rw [upd_eq, withb x (by omega) hb]
    by_cases e : j = i
    · rw [if_pos e, if_pos e, bI_dec hb]
    · rw [if_neg e, if_neg e, h.1 j hj]
  · rw [withb x (by omega) hb, if_neg (by omega), h.2 j hj]
theorem Msk.at {n : Nat} {x : Int32} {r : Nat → Int32} (h : Msk n x r) {i : Nat} (hi : i < n) (hn : n ≤ 32) : r (nI i).toNatClampNeg = F_D_hasBit x (nI i) := by
  rw [clI (by omega), hasBit_eq x (by omega), h.1 i hi]
theorem Msk.zero {n : Nat} {r : Nat → Int32} (h : ∀ i, i < n → r i = 0) : Msk n 0 r := ⟨fun i hi => by rw [h i hi, b_0]; rfl, fun i _ => b_0 i⟩
theorem Msk.eq {n : Nat} {x y : Int32} {r : Nat → Int32} (h : Msk n x r) (h' : Msk n y r) : x = y := b_ext fun i _ => by
  rcases Nat.lt_or_ge i n with z | z
  · exact bI_inj ((h.1 i z).symm.trans (h'.1 i z))
  · rw [h.2 i z, h'.2 i z]
theorem Msk.b01 {n : Nat} {x : Int32} {r : Nat → Int32} (h : Msk n x r) {i : Nat} (hi : i < n) : r i = 0 ∨ r i = 1 := by rw [h.1 i hi]; exact bI_01 _
/-- or-ing in the bits of a row -/
theorem or1 {n i : Nat} {x m : Int32} {r : Nat → Int32} (h : Msk n m r) (hi : i < n) (hn : n ≤ 32) (hx : ∀ j, bt x j = (bt m j && decide (j < i))) (hr : ¬ r i = 0) : ∀ j, bt (x ||| ((1 : Int32) <<< (nI i &&& 31))) j = (bt m j && decide (j < i + 1)) := by
  intro j
  have hm : bt m i = true := by
    cases hb : bt m i with
    | true => rfl
    | false => exact absurd (by rw [h.1 i hi, hb]; rfl) hr
  rw [b_or, hx, b_one i (by omega)]
  by_cases e : j = i
  · subst e; rw [hm]; simp
  · rw [decide_eq_false e, Bool.or_false]
    congr 1
    exact decide_eq_decide.mpr (by omega)
theorem or0 {n i : Nat} {x m : Int32} {r : Nat → Int32} (h : Msk n m r) (hi : i < n) (hx : ∀ j, bt x j = (bt m j && decide (j < i))) (hr : r i = 0) : ∀ j, bt x j = (bt m j && decide (j < i + 1)) := by
  intro j
  have hm : bt m i = false := by
    cases hb : bt m i with
    | false => rfl
    | true => rw [h.1 i hi, hb] at hr; exact absurd hr (by decide)
  rw [hx]
  by_cases e : j = i
  · subst e; rw [hm]; rfl
  · congr 1
    exact decide_eq_decide.mpr (by omega)
theorem orZ {n : Nat} {x m : Int32} {r : Nat → Int32} (h : Msk n m r) (hx : ∀ j, bt x j = (bt m j && decide (j < n))) : x = m := b_ext fun j _ => by
  rw [hx]
  rcases Nat.lt_or_ge j n with z | z
  · rw [decide_eq_true z, Bool.and_true]
  · rw [h.2 j z]; rfl
/-- a mask of four bits is one of sixteen -/
theorem four {m : Int32} (h : ∀ i, 4 ≤ i → bt m i = false) (b0 b1 b2 b3 : Bool) (h0 : bt m 0 = b0) (h1 : bt m 1 = b1) (h2 : bt m 2 = b2) (h3 : bt m 3 = b3) {y : Int32} (hy : ∀ i, i < 32 → bt y i = (if i = 0 then b0 else if i = 1 then b1 else if i = 2 then b2 else if i = 3 then b3 else false)) : m = y := b_ext fun i hi => by
  rw [hy i hi]
  by_cases e0 : i = 0
  · subst e0; rw [h0]; rfl
  by_cases e1 : i = 1
  · subst e1; rw [h1]; rfl
  by_cases e2 : i = 2
  · subst e2; rw [h2]; rfl
  by_cases e3 : i = 3
  · subst e3; rw [h3]; rfl
  rw [if_neg e0, if_neg e1, if_neg e2, if_neg e3, h i (by omega)]
def pick (b0 b1 b2 b3 : Bool) : Int32 := bI b0 ||| (bI b1 <<< 1) ||| (bI b2 <<< 2) ||| (bI b3 <<< 3)
theorem pick_bt : ∀ (b0 b1 b2 b3 : Bool), ∀ i, i < 32 → bt (pick b0 b1 b2 b3) i = (if i = 0 then b0 else if i = 1 then b1 else if i = 2 then b2 else if i = 3 then b3 else false) := by decide +kernel
theorem pick_cnt : ∀ (b0 b1 b2 b3 : Bool), F_J_bitCount (pick b0 b1 b2 b3) = bI b0 + bI b1 + bI b2 + bI b3 := by decide +kernel
theorem cnt4 {m : Int32} (h : ∀ i, 4 ≤ i → bt m i = false) : F_J_bitCount m = bI (bt m 0) + bI (bt m 1) + bI (bt m 2) + bI (bt m 3) := by
  have e := four h _ _ _ _ rfl rfl rfl rfl (pick_bt (bt m 0) (bt m 1) (bt m 2) (bt m 3))
  have c := pick_cnt (bt m 0) (bt m 1) (bt m 2) (bt m 3)
  rw [← e] at c
  exact c
theorem is15 {m : Int32} (h : ∀ i, 4 ≤ i → bt m i = false) : m = 15 ↔ ∀ i, i < 4 → bt m i = true := by
  constructor
  · intro e i hi; rw [e, b_15, decide_eq_true hi]
  · intro z
    apply b_ext
    intro i hi
    rw [b_15]
    rcases Nat.lt_or_ge i 4 with y | y
    · rw [z i y, decide_eq_true y]
    · rw [h i y, decide_eq_false (by omega)]
theorem is0 {n : Nat} {m : Int32} (h : ∀ i, n ≤ i → bt m i = false) : m = 0 ↔ ∀ i, i < n → bt m i = false := by
  constructor
  · intro e i hi; rw [e, b_0]
  · intro z
    apply b_ext
    intro i hi
    rw [b_0]
    rcases Nat.lt_or_ge i n with y | y
    · exact z i y
    · exact h i y
