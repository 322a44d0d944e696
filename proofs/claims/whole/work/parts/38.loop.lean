theorem lp_ge {L i : Nat} (hL : L ≤ 5120) (hi : i ≤ 5200) (h : ¬ nI L - 10 < nI i) : i + 10 ≤ L := by
  have h1 : ((10 : Int32)) = nI 10 := rfl
  rw [h1, Int32.lt_iff_toInt_lt, pk_sub_toInt (by omega) (by omega), nI_toInt (by omega)] at h
  omega
set_option maxHeartbeats 4000000 in
set_option maxRecDepth 100000 in
theorem law_loop {p : Program} {l : Launch} {e : Env} {s : State} {m : MethodId} {below : List Frame} {meth : Method} {c : Code} {b L : Nat} {xs : Nat → Int32} (hl0 : l.stackTraces = false) (hL : L ≤ 5120) (C0 : lw_At p s m meth c b L xs) (hT : kt_W s ∧ kt_Z (fun q : Nat => s.heap.size ≤ q) s s.heap) {D : va_G} {hc hm : Nat → Nat} {ho : Nat} {cL cZ : ClassId} (hK : va_K D vwCl [(cZ, .boolean), (cL, .long)] s) : ∀ (n t : Nat) (w : Nat → Int32) (f : Nat → Int64) (q : (Nat → Int32) × (Nat → Nat → Int32)) (H : Heap) (locs : List Loc) (ls : Array Slot), t + n = 513 → Rel w q → va_P D vwCl (mw hm cZ q ++ cwo hc ho cL (w, f)) H → va_D (fun q : Nat => s.heap.size ≤ q) (mw hm cZ q ++ cwo hc ho cL (w, f)) → va_S (fun q : Nat => s.heap.size ≤ q) s.heap H locs → lv_has ls 7 [(0, .ref b), (1, .ref (hc 0)), (2, .ref (hm 0)), (3, .ref ho), (4, .int (nI (10 * t)))] → W p l e room_1 s m #[Value.ref b] below meth c H locs (24 + t) (177 + 6 * t) (lw_Z below #[Value.ref b] s) (F0 m 23 ls []) := by
  obtain ⟨hx, hb, hr, hml, hown, hts0, hX, hbl, hlocks, hgv⟩ := id C0
  have hN : kb_N s := kb_N.of hts0
  have hts := hN.ts #[Value.ref b]
  have hown : s.vm.findClass "BoilerDeskLaw" = some m.cls := hown
  have hA : ∀ q : Nat, s.heap.size ≤ q → (fun q : Nat => s.heap.size ≤ q) q := fun _ h => h
  have hbA : ¬ (fun q : Nat => s.heap.size ≤ q) b := Nat.not_le.mpr hbl
  have hKc := hK.sub (tys' := []) [] rfl
  have hKm := hK.sub (tys' := [(cZ, .boolean)]) [0] rfl
  have hKo := hK.sub (tys' := [(cL, .long)]) [1] rfl
  intro n
  induction n with
  | zero =>
    intro t w f q H locs ls ht hR hP hD hS hl
    refine lv_iload hx hb dL_law_23 (lv_at hl 4 rfl) ?_
    refine lv_aload_n hx hb dL_law_25 rfl (lv_at hl 0 rfl) ?_
    refine va_slen hx hb hX hbl hbA hS dL_law_26 ?_
    refine lv_bipush (v := 10) hx hb dL_law_27 (by decide) ?_
    refine lv_isub hx hb dL_law_29 ?_
    refine lv_icmp_gt (tgt := 632) hx hb dL_law_30 (by decide) (fun c9 => ?_) (fun c9 => ?_)
    · refine lv_iconst (v := 1) hx hb dL_law_632 (by decide) ?_
      refine va_forget (fun q hq => hS.2.2 q hq) ?_
      refine W.widen (k := 1055) (n := 8411) (by omega) (by omega) ?_
      exact lw_ret hx hb hr hlocks dL_law_633
    · have h9 := lp_ge hL (by omega) c9
      omega
  | succ n ih =>
    intro t w f q H locs ls ht hR hP hD hS hl
    refine lv_iload hx hb dL_law_23 (lv_at hl 4 rfl) ?_
    refine lv_aload_n hx hb dL_law_25 rfl (lv_at hl 0 rfl) ?_
    refine va_slen hx hb hX hbl hbA hS dL_law_26 ?_
    refine lv_bipush (v := 10) hx hb dL_law_27 (by decide) ?_
    refine lv_isub hx hb dL_law_29 ?_
    refine lv_icmp_gt (tgt := 632) hx hb dL_law_30 (by decide) (fun c9 => ?_) (fun c9 => ?_)
    · refine lv_iconst (v := 1) hx hb dL_law_632 (by decide) ?_
      refine va_forget (fun q hq => hS.2.2 q hq) ?_
      refine W.widen (k := 1055) (n := 8411) (by omega) (by omega) ?_
      exact lw_ret hx hb hr hlocks dL_law_633
    · have hi : 10 * t + 10 ≤ L := lp_ge hL (by omega) c9
      have k626 : ∀ (w : Nat → Int32) (f : Nat → Int64) (q : (Nat → Int32) × (Nat → Nat → Int32)) (H : Heap) (locs : List Loc) (ls : Array Slot), Rel w q → va_P D vwCl (mw hm cZ q ++ cwo hc ho cL (w, f)) H → va_D (fun q : Nat => s.heap.size ≤ q) (mw hm cZ q ++ cwo hc ho cL (w, f)) → va_S (fun q : Nat => s.heap.size ≤ q) s.heap H locs → lv_has ls 7 [(0, .ref b), (1, .ref (hc 0)), (2, .ref (hm 0)), (3, .ref ho), (4, .int (nI (10 * t)))] → W p l e room_1 s m #[Value.ref b] below meth c H locs (24 + t + 1) (177 + 6 * t + 6) (lw_Z below #[Value.ref b] s) (F0 m 626 ls []) := by
        intro w f q H locs ls hR hP hD hS hl
        refine lv_iinc (v := nI (10 * (t + 1))) (lv' := [(4, .int (nI (10 * (t + 1)))), (0, .ref b), (1, .ref (hc 0)), (2, .ref (hm 0)), (3, .ref ho)]) hx hb dL_law_626 hl (k := 4) rfl (nI_add (10 * t) 10) (by decide) rfl (fun ls hl => ?_)
        refine lv_goto (tgt := 23) hx hb dL_law_629 (by decide) ?_
        exact ih (t + 1) w f q H locs ls (by omega) hR hP hD hS (lv_sub hl [1, 2, 3, 4, 0] rfl)
      refine lv_aload_n hx hb dL_law_33 rfl (lv_at hl 0 rfl) ?_
      refine lv_iload hx hb dL_law_34 (lv_at hl 4 rfl) ?_
      refine va_sld hx hb hX hbl hbA hS (vp_in_nI (by omega) (by omega)) dL_law_36 ?_
      refine lv_bipush (v := 15) hx hb dL_law_37 (by decide) ?_
      refine lv_iand hx hb dL_law_39 ?_
      generalize xs (nI (10 * t)).toNatClampNeg &&& 15 = x
      by_cases e0 : x = 0
      · refine lv_tableIn (tgt := 92) hx hb dL_law_40 (by rw [e0]; decide) (by rw [e0]; decide) (by rw [e0]; rfl) (by decide) ?_
        exact law_case_0 hl0 hL C0 hT hK hi (by omega) (by omega) hR hP hD hS hl k626
      by_cases e1 : x = 1
      · refine lv_tableIn (tgt := 232) hx hb dL_law_40 (by rw [e1]; decide) (by rw [e1]; decide) (by rw [e1]; rfl) (by decide) ?_
        exact law_case_1 hl0 hL C0 hT hK hi (by omega) (by omega) hR hP hD hS hl k626
      by_cases e2 : x = 2
      · refine lv_tableIn (tgt := 255) hx hb dL_law_40 (by rw [e2]; decide) (by rw [e2]; decide) (by rw [e2]; rfl) (by decide) ?_
        exact law_case_2 hl0 hL C0 hT hK hi (by omega) (by omega) hR hP hD hS hl k626
      by_cases e3 : x = 3
      · refine lv_tableIn (tgt := 278) hx hb dL_law_40 (by rw [e3]; decide) (by rw [e3]; decide) (by rw [e3]; rfl) (by decide) ?_
        exact law_case_3 hl0 hL C0 hT hK hi (by omega) (by omega) hR hP hD hS hl k626
      by_cases e4 : x = 4
      · refine lv_tableIn (tgt := 370) hx hb dL_law_40 (by rw [e4]; decide) (by rw [e4]; decide) (by rw [e4]; rfl) (by decide) ?_
        exact law_case_4 hl0 hL C0 hT hK hi (by omega) (by omega) hR hP hD hS hl k626
      by_cases e5 : x = 5
      · refine lv_tableIn (tgt := 406) hx hb dL_law_40 (by rw [e5]; decide) (by rw [e5]; decide) (by rw [e5]; rfl) (by decide) ?_
        exact law_case_5 hl0 hL C0 hT hK hi (by omega) (by omega) hR hP hD hS hl k626
      by_cases e6 : x = 6
      · refine lv_tableIn (tgt := 470) hx hb dL_law_40 (by rw [e6]; decide) (by rw [e6]; decide) (by rw [e6]; rfl) (by decide) ?_
        exact law_case_6 hl0 hL C0 hT hK hi (by omega) (by omega) hR hP hD hS hl k626
      by_cases e7 : x = 7
      · refine lv_tableIn (tgt := 514) hx hb dL_law_40 (by rw [e7]; decide) (by rw [e7]; decide) (by rw [e7]; rfl) (by decide) ?_
        exact law_case_7 hl0 hL C0 hT hK hi (by omega) (by omega) hR hP hD hS hl k626
      by_cases e8 : x = 8
      · refine lv_tableIn (tgt := 570) hx hb dL_law_40 (by rw [e8]; decide) (by rw [e8]; decide) (by rw [e8]; rfl) (by decide) ?_
        exact law_case_8 hl0 hL C0 hT hK hi (by omega) (by omega) hR hP hD hS hl k626
      have h9 : x.toInt < 0 ∨ 8 < x.toInt := by
        have t0 := ne_ti e0 (j := 0) (by decide)
        have t1 := ne_ti e1 (j := 1) (by decide)
        have t2 := ne_ti e2 (j := 2) (by decide)
        have t3 := ne_ti e3 (j := 3) (by decide)
        have t4 := ne_ti e4 (j := 4) (by decide)
        have t5 := ne_ti e5 (j := 5) (by decide)
        have t6 := ne_ti e6 (j := 6) (by decide)
        have t7 := ne_ti e7 (j := 7) (by decide)
        have t8 := ne_ti e8 (j := 8) (by decide)
        omega
      refine lv_tableOut (tgt := 626) hx hb dL_law_40 h9 (by decide) ?_
      refine W.widen (k := 24 + t + 1) (n := 177 + 6 * t + 6) (by omega) (by omega) ?_
      exact k626 w f q H locs ls hR hP hD hS hl
