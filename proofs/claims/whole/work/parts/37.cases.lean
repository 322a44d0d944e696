set_option maxHeartbeats 4000000 in
set_option maxRecDepth 100000 in
theorem law_case_0 {p : Program} {l : Launch} {e : Env} {s : State} {m : MethodId} {below : List Frame} {meth : Method} {c : Code} {b L : Nat} {xs : Nat → Int32} (hl0 : l.stackTraces = false) (hL : L ≤ 5120) (C0 : lw_At p s m meth c b L xs) (hT : kt_W s ∧ kt_Z (fun q : Nat => s.heap.size ≤ q) s s.heap) {D : va_G} {hc hm : Nat → Nat} {ho : Nat} {cL cZ : ClassId} (hK : va_K D vwCl [(cZ, .boolean), (cL, .long)] s) {i : Nat} (hi : i + 10 ≤ L) {cells slots : Nat} (hce : cells + 1 ≤ 1055) (hsl : slots + 6 ≤ 8411) {w : Nat → Int32} {f : Nat → Int64} {q : (Nat → Int32) × (Nat → Nat → Int32)} (hR : Rel w q) {H : Heap} {locs : List Loc} {ls : Array Slot} (hP : va_P D vwCl (mw hm cZ q ++ cwo hc ho cL (w, f)) H) (hD : va_D (fun q : Nat => s.heap.size ≤ q) (mw hm cZ q ++ cwo hc ho cL (w, f))) (hS : va_S (fun q : Nat => s.heap.size ≤ q) s.heap H locs) (hl : lv_has ls 7 [(0, .ref b), (1, .ref (hc 0)), (2, .ref (hm 0)), (3, .ref ho), (4, .int (nI i))]) (kk : ∀ (w' : Nat → Int32) (f' : Nat → Int64) (q' : (Nat → Int32) × (Nat → Nat → Int32)) (H1 : Heap) (locs1 : List Loc) (ls1 : Array Slot), Rel w' q' → va_P D vwCl (mw hm cZ q' ++ cwo hc ho cL (w', f')) H1 → va_D (fun q : Nat => s.heap.size ≤ q) (mw hm cZ q' ++ cwo hc ho cL (w', f')) → va_S (fun q : Nat => s.heap.size ≤ q) s.heap H1 locs1 → lv_has ls1 7 [(0, .ref b), (1, .ref (hc 0)), (2, .ref (hm 0)), (3, .ref ho), (4, .int (nI i))] → W p l e room_1 s m #[Value.ref b] below meth c H1 locs1 (cells + 1) (slots + 6) (lw_Z below #[Value.ref b] s) (F0 m 626 ls1 [])) : W p l e room_1 s m #[Value.ref b] below meth c H locs (cells) (slots) (lw_Z below #[Value.ref b] s) (F0 m 92 ls []) := by
  obtain ⟨hx, hb, hr, hml, hown, hts0, hX, hbl, hlocks, hgv⟩ := id C0
  have hN : kb_N s := kb_N.of hts0
  have hts := hN.ts #[Value.ref b]
  have hown : s.vm.findClass "BoilerDeskLaw" = some m.cls := hown
  have hA : ∀ q : Nat, s.heap.size ≤ q → (fun q : Nat => s.heap.size ≤ q) q := fun _ h => h
  have hbA : ¬ (fun q : Nat => s.heap.size ≤ q) b := Nat.not_le.mpr hbl
  have hKc := hK.sub (tys' := []) [] rfl
  have hKm := hK.sub (tys' := [(cZ, .boolean)]) [0] rfl
  have hKo := hK.sub (tys' := [(cL, .long)]) [1] rfl
  refine lv_aload_n hx hb dL_law_92 rfl (lv_at hl 1 rfl) ?_
  refine lv_aload_n hx hb dL_law_93 rfl (lv_at hl 0 rfl) ?_
  refine lv_iload hx hb dL_law_94 (lv_at hl 4 rfl) ?_
  refine lv_iconst (v := 1) hx hb dL_law_96 (by decide) ?_
  refine lv_iadd hx hb dL_law_97 ?_
  refine va_sld hx hb hX hbl hbA hS (by rw [show nI i + (1 : Int32) = nI (i + 1) from nI_add i 1]; exact vp_in_nI (by omega) (by omega)) dL_law_98 ?_
  refine lv_aload_n hx hb dL_law_99 rfl (lv_at hl 0 rfl) ?_
  refine lv_iload hx hb dL_law_100 (lv_at hl 4 rfl) ?_
  refine lv_iconst (v := 2) hx hb dL_law_102 (by decide) ?_
  refine lv_iadd hx hb dL_law_103 ?_
  refine va_sld hx hb hX hbl hbA hS (by rw [show nI i + (2 : Int32) = nI (i + 2) from nI_add i 2]; exact vp_in_nI (by omega) (by omega)) dL_law_104 ?_
  refine lv_aload_n hx hb dL_law_105 rfl (lv_at hl 0 rfl) ?_
  refine lv_iload hx hb dL_law_106 (lv_at hl 4 rfl) ?_
  refine lv_iconst (v := 3) hx hb dL_law_108 (by decide) ?_
  refine lv_iadd hx hb dL_law_109 ?_
  refine va_sld hx hb hX hbl hbA hS (by rw [show nI i + (3 : Int32) = nI (i + 3) from nI_add i 3]; exact vp_in_nI (by omega) (by omega)) dL_law_110 ?_
  refine lv_aload_n hx hb dL_law_111 rfl (lv_at hl 0 rfl) ?_
  refine lv_iload hx hb dL_law_112 (lv_at hl 4 rfl) ?_
  refine lv_iconst (v := 4) hx hb dL_law_114 (by decide) ?_
  refine lv_iadd hx hb dL_law_115 ?_
  refine va_sld hx hb hX hbl hbA hS (by rw [show nI i + (4 : Int32) = nI (i + 4) from nI_add i 4]; exact vp_in_nI (by omega) (by omega)) dL_law_116 ?_
  refine lv_aload_n hx hb dL_law_117 rfl (lv_at hl 0 rfl) ?_
  refine lv_iload hx hb dL_law_118 (lv_at hl 4 rfl) ?_
  refine lv_iconst (v := 5) hx hb dL_law_120 (by decide) ?_
  refine lv_iadd hx hb dL_law_121 ?_
  refine va_sld hx hb hX hbl hbA hS (by rw [show nI i + (5 : Int32) = nI (i + 5) from nI_add i 5]; exact vp_in_nI (by omega) (by omega)) dL_law_122 ?_
  refine lv_aload_n hx hb dL_law_123 rfl (lv_at hl 0 rfl) ?_
  refine lv_iload hx hb dL_law_124 (lv_at hl 4 rfl) ?_
  refine lv_bipush (v := 6) hx hb dL_law_126 (by decide) ?_
  refine lv_iadd hx hb dL_law_128 ?_
  refine va_sld hx hb hX hbl hbA hS (by rw [show nI i + (6 : Int32) = nI (i + 6) from nI_add i 6]; exact vp_in_nI (by omega) (by omega)) dL_law_129 ?_
  refine lv_aload_n hx hb dL_law_130 rfl (lv_at hl 0 rfl) ?_
  refine lv_iload hx hb dL_law_131 (lv_at hl 4 rfl) ?_
  refine lv_bipush (v := 7) hx hb dL_law_133 (by decide) ?_
  refine lv_iadd hx hb dL_law_135 ?_
  refine va_sld hx hb hX hbl hbA hS (by rw [show nI i + (7 : Int32) = nI (i + 7) from nI_add i 7]; exact vp_in_nI (by omega) (by omega)) dL_law_136 ?_
  refine lv_aload_n hx hb dL_law_137 rfl (lv_at hl 0 rfl) ?_
  refine lv_iload hx hb dL_law_138 (lv_at hl 4 rfl) ?_
  refine lv_bipush (v := 8) hx hb dL_law_140 (by decide) ?_
  refine lv_iadd hx hb dL_law_142 ?_
  refine va_sld hx hb hX hbl hbA hS (by rw [show nI i + (8 : Int32) = nI (i + 8) from nI_add i 8]; exact vp_in_nI (by omega) (by omega)) dL_law_143 ?_
  refine lv_aload_n hx hb dL_law_144 rfl (lv_at hl 0 rfl) ?_
  refine lv_iload hx hb dL_law_145 (lv_at hl 4 rfl) ?_
  refine lv_bipush (v := 9) hx hb dL_law_147 (by decide) ?_
  refine lv_iadd hx hb dL_law_149 ?_
  refine va_sld hx hb hX hbl hbA hS (by rw [show nI i + (9 : Int32) = nI (i + 9) from nI_add i 9]; exact vp_in_nI (by omega) (by omega)) dL_law_150 ?_
  have hP1 : va_P D vwCl ((mw hm cZ q ++ lo ho cL f) ++ cw hc w) H := by rw [List.append_assoc]; exact hP
  have hD1 : va_D (fun q : Nat => s.heap.size ≤ q) ((mw hm cZ q ++ lo ho cL f) ++ cw hc w) := by rw [List.append_assoc]; exact hD
  refine kb_calliR (wf := cw hc) (wr := mw hm cZ q ++ lo ho cL f) (r := (exv (F_D_begin w (xs (((nI i) + (1 : Int32))).toNatClampNeg) (xs (((nI i) + (2 : Int32))).toNatClampNeg) (xs (((nI i) + (3 : Int32))).toNatClampNeg) (xs (((nI i) + (4 : Int32))).toNatClampNeg) (xs (((nI i) + (5 : Int32))).toNatClampNeg) (xs (((nI i) + (6 : Int32))).toNatClampNeg) (xs (((nI i) + (7 : Int32))).toNatClampNeg) (xs (((nI i) + (8 : Int32))).toNatClampNeg) (xs (((nI i) + (9 : Int32))).toNatClampNeg)) w).1) (u := (exv (F_D_begin w (xs (((nI i) + (1 : Int32))).toNatClampNeg) (xs (((nI i) + (2 : Int32))).toNatClampNeg) (xs (((nI i) + (3 : Int32))).toNatClampNeg) (xs (((nI i) + (4 : Int32))).toNatClampNeg) (xs (((nI i) + (5 : Int32))).toNatClampNeg) (xs (((nI i) + (6 : Int32))).toNatClampNeg) (xs (((nI i) + (7 : Int32))).toNatClampNeg) (xs (((nI i) + (8 : Int32))).toNatClampNeg) (xs (((nI i) + (9 : Int32))).toNatClampNeg)) w).2) (kw_run (n := 10) (As := [.ref (hc 0), .int (xs (((nI i) + (1 : Int32))).toNatClampNeg), .int (xs (((nI i) + (2 : Int32))).toNatClampNeg), .int (xs (((nI i) + (3 : Int32))).toNatClampNeg), .int (xs (((nI i) + (4 : Int32))).toNatClampNeg), .int (xs (((nI i) + (5 : Int32))).toNatClampNeg), .int (xs (((nI i) + (6 : Int32))).toNatClampNeg), .int (xs (((nI i) + (7 : Int32))).toNatClampNeg), .int (xs (((nI i) + (8 : Int32))).toNatClampNeg), .int (xs (((nI i) + (9 : Int32))).toNatClampNeg)]) (rest := []) hx hb hml hown hN (c_L_begin l hl0 D hc _ w (xs (((nI i) + (1 : Int32))).toNatClampNeg) (xs (((nI i) + (2 : Int32))).toNatClampNeg) (xs (((nI i) + (3 : Int32))).toNatClampNeg) (xs (((nI i) + (4 : Int32))).toNatClampNeg) (xs (((nI i) + (5 : Int32))).toNatClampNeg) (xs (((nI i) + (6 : Int32))).toNatClampNeg) (xs (((nI i) + (7 : Int32))).toNatClampNeg) (xs (((nI i) + (8 : Int32))).toNatClampNeg) (xs (((nI i) + (9 : Int32))).toNatClampNeg) ) q_322 q_320 q_321 q_32 (by decide +kernel) rfl rfl ⟨Nat.le_of_ble_eq_true rfl, Nat.le_of_ble_eq_true rfl⟩ (kt_preS hN hT hKc (wp_r hP1) (wd_r hD1) hS hA) rfl rfl hl.1 rfl (lv_room (Nat.le_of_ble_eq_true rfl)) dL_law_151 ⟨show cells + 0 + 1 ≤ 1055 by omega, show slots + 0 + 6 ≤ 8411 by omega⟩) hP1 hD1 hS hA (fun H locs hP hD hS => ?_)
  rw [List.append_assoc] at hP hD
  have hP : va_P D vwCl (mw hm cZ q ++ cwo hc ho cL ((exv (F_D_begin w (xs (((nI i) + (1 : Int32))).toNatClampNeg) (xs (((nI i) + (2 : Int32))).toNatClampNeg) (xs (((nI i) + (3 : Int32))).toNatClampNeg) (xs (((nI i) + (4 : Int32))).toNatClampNeg) (xs (((nI i) + (5 : Int32))).toNatClampNeg) (xs (((nI i) + (6 : Int32))).toNatClampNeg) (xs (((nI i) + (7 : Int32))).toNatClampNeg) (xs (((nI i) + (8 : Int32))).toNatClampNeg) (xs (((nI i) + (9 : Int32))).toNatClampNeg)) w).2, f)) H := hP
  have hD : va_D (fun q : Nat => s.heap.size ≤ q) (mw hm cZ q ++ cwo hc ho cL ((exv (F_D_begin w (xs (((nI i) + (1 : Int32))).toNatClampNeg) (xs (((nI i) + (2 : Int32))).toNatClampNeg) (xs (((nI i) + (3 : Int32))).toNatClampNeg) (xs (((nI i) + (4 : Int32))).toNatClampNeg) (xs (((nI i) + (5 : Int32))).toNatClampNeg) (xs (((nI i) + (6 : Int32))).toNatClampNeg) (xs (((nI i) + (7 : Int32))).toNatClampNeg) (xs (((nI i) + (8 : Int32))).toNatClampNeg) (xs (((nI i) + (9 : Int32))).toNatClampNeg)) w).2, f)) := hD
  refine lv_istore (lv' := [(5, .int (exv (F_D_begin w (xs (((nI i) + (1 : Int32))).toNatClampNeg) (xs (((nI i) + (2 : Int32))).toNatClampNeg) (xs (((nI i) + (3 : Int32))).toNatClampNeg) (xs (((nI i) + (4 : Int32))).toNatClampNeg) (xs (((nI i) + (5 : Int32))).toNatClampNeg) (xs (((nI i) + (6 : Int32))).toNatClampNeg) (xs (((nI i) + (7 : Int32))).toNatClampNeg) (xs (((nI i) + (8 : Int32))).toNatClampNeg) (xs (((nI i) + (9 : Int32))).toNatClampNeg)) w).1), (0, .ref b), (1, .ref (hc 0)), (2, .ref (hm 0)), (3, .ref ho), (4, .int (nI i))]) hx hb dL_law_154 hl (by decide) rfl (fun ls hl => ?_)
  refine lv_aload_n hx hb dL_law_156 rfl (lv_at hl 3 rfl) ?_
  refine lv_aload_n hx hb dL_law_157 rfl (lv_at hl 1 rfl) ?_
  refine lv_iload hx hb dL_law_158 (lv_at hl 5 rfl) ?_
  refine lv_iconst (v := 1) hx hb dL_law_160 (by decide) ?_
  refine lv_iadd hx hb dL_law_161 ?_
  refine va_sld hx hb hX hbl hbA hS (by rw [show nI i + (1 : Int32) = nI (i + 1) from nI_add i 1]; exact vp_in_nI (by omega) (by omega)) dL_law_162 ?_
  refine lv_aload_n hx hb dL_law_163 rfl (lv_at hl 1 rfl) ?_
  refine lv_iload hx hb dL_law_164 (lv_at hl 5 rfl) ?_
  refine lv_iconst (v := 2) hx hb dL_law_166 (by decide) ?_
  refine lv_iadd hx hb dL_law_167 ?_
  refine va_sld hx hb hX hbl hbA hS (by rw [show nI i + (2 : Int32) = nI (i + 2) from nI_add i 2]; exact vp_in_nI (by omega) (by omega)) dL_law_168 ?_
  refine lv_aload_n hx hb dL_law_169 rfl (lv_at hl 1 rfl) ?_
  refine lv_iload hx hb dL_law_170 (lv_at hl 5 rfl) ?_
  refine lv_iconst (v := 3) hx hb dL_law_172 (by decide) ?_
  refine lv_iadd hx hb dL_law_173 ?_
  refine va_sld hx hb hX hbl hbA hS (by rw [show nI i + (3 : Int32) = nI (i + 3) from nI_add i 3]; exact vp_in_nI (by omega) (by omega)) dL_law_174 ?_
  refine lv_aload_n hx hb dL_law_175 rfl (lv_at hl 1 rfl) ?_
  refine lv_iload hx hb dL_law_176 (lv_at hl 5 rfl) ?_
  refine lv_iconst (v := 4) hx hb dL_law_178 (by decide) ?_
  refine lv_iadd hx hb dL_law_179 ?_
  refine va_sld hx hb hX hbl hbA hS (by rw [show nI i + (4 : Int32) = nI (i + 4) from nI_add i 4]; exact vp_in_nI (by omega) (by omega)) dL_law_180 ?_
  refine lv_aload_n hx hb dL_law_181 rfl (lv_at hl 1 rfl) ?_
  refine lv_iload hx hb dL_law_182 (lv_at hl 5 rfl) ?_
  refine lv_iconst (v := 5) hx hb dL_law_184 (by decide) ?_
  refine lv_iadd hx hb dL_law_185 ?_
  refine va_sld hx hb hX hbl hbA hS (by rw [show nI i + (5 : Int32) = nI (i + 5) from nI_add i 5]; exact vp_in_nI (by omega) (by omega)) dL_law_186 ?_
  refine lv_aload_n hx hb dL_law_187 rfl (lv_at hl 1 rfl) ?_
  refine lv_iload hx hb dL_law_188 (lv_at hl 5 rfl) ?_
  refine lv_bipush (v := 6) hx hb dL_law_190 (by decide) ?_
  refine lv_iadd hx hb dL_law_192 ?_
  refine va_sld hx hb hX hbl hbA hS (by rw [show nI i + (6 : Int32) = nI (i + 6) from nI_add i 6]; exact vp_in_nI (by omega) (by omega)) dL_law_193 ?_
  refine lv_aload_n hx hb dL_law_194 rfl (lv_at hl 1 rfl) ?_
  refine lv_iload hx hb dL_law_195 (lv_at hl 5 rfl) ?_
  refine lv_bipush (v := 7) hx hb dL_law_197 (by decide) ?_
  refine lv_iadd hx hb dL_law_199 ?_
  refine va_sld hx hb hX hbl hbA hS (by rw [show nI i + (7 : Int32) = nI (i + 7) from nI_add i 7]; exact vp_in_nI (by omega) (by omega)) dL_law_200 ?_
  refine lv_aload_n hx hb dL_law_201 rfl (lv_at hl 1 rfl) ?_
  refine lv_iload hx hb dL_law_202 (lv_at hl 5 rfl) ?_
  refine lv_bipush (v := 8) hx hb dL_law_204 (by decide) ?_
  refine lv_iadd hx hb dL_law_206 ?_
  refine va_sld hx hb hX hbl hbA hS (by rw [show nI i + (8 : Int32) = nI (i + 8) from nI_add i 8]; exact vp_in_nI (by omega) (by omega)) dL_law_207 ?_
  refine lv_aload_n hx hb dL_law_208 rfl (lv_at hl 1 rfl) ?_
  refine lv_iload hx hb dL_law_209 (lv_at hl 5 rfl) ?_
  refine lv_bipush (v := 9) hx hb dL_law_211 (by decide) ?_
  refine lv_iadd hx hb dL_law_213 ?_
  refine va_sld hx hb hX hbl hbA hS (by rw [show nI i + (9 : Int32) = nI (i + 9) from nI_add i 9]; exact vp_in_nI (by omega) (by omega)) dL_law_214 ?_
  have hP1 := wp_sw hP
  have hD1 := wd_sw hD
  refine kb_callvR (wf := mw hm cZ) (wr := cwo hc ho cL ((exv (F_D_begin w (xs (((nI i) + (1 : Int32))).toNatClampNeg) (xs (((nI i) + (2 : Int32))).toNatClampNeg) (xs (((nI i) + (3 : Int32))).toNatClampNeg) (xs (((nI i) + (4 : Int32))).toNatClampNeg) (xs (((nI i) + (5 : Int32))).toNatClampNeg) (xs (((nI i) + (6 : Int32))).toNatClampNeg) (xs (((nI i) + (7 : Int32))).toNatClampNeg) (xs (((nI i) + (8 : Int32))).toNatClampNeg) (xs (((nI i) + (9 : Int32))).toNatClampNeg)) w).2, f)) (u := F_X_begin q (xs (((nI i) + (1 : Int32))).toNatClampNeg) (xs (((nI i) + (2 : Int32))).toNatClampNeg) (xs (((nI i) + (3 : Int32))).toNatClampNeg) (xs (((nI i) + (4 : Int32))).toNatClampNeg) (xs (((nI i) + (5 : Int32))).toNatClampNeg) (xs (((nI i) + (6 : Int32))).toNatClampNeg) (xs (((nI i) + (7 : Int32))).toNatClampNeg) (xs (((nI i) + (8 : Int32))).toNatClampNeg) (xs (((nI i) + (9 : Int32))).toNatClampNeg)) (va_runV (As := [.int (xs (((nI i) + (1 : Int32))).toNatClampNeg), .int (xs (((nI i) + (2 : Int32))).toNatClampNeg), .int (xs (((nI i) + (3 : Int32))).toNatClampNeg), .int (xs (((nI i) + (4 : Int32))).toNatClampNeg), .int (xs (((nI i) + (5 : Int32))).toNatClampNeg), .int (xs (((nI i) + (6 : Int32))).toNatClampNeg), .int (xs (((nI i) + (7 : Int32))).toNatClampNeg), .int (xs (((nI i) + (8 : Int32))).toNatClampNeg), .int (xs (((nI i) + (9 : Int32))).toNatClampNeg)]) (rest := []) ⟨hx, hb, hml, hown, hts⟩ (c_X_begin l D hm cZ _ q (xs (((nI i) + (1 : Int32))).toNatClampNeg) (xs (((nI i) + (2 : Int32))).toNatClampNeg) (xs (((nI i) + (3 : Int32))).toNatClampNeg) (xs (((nI i) + (4 : Int32))).toNatClampNeg) (xs (((nI i) + (5 : Int32))).toNatClampNeg) (xs (((nI i) + (6 : Int32))).toNatClampNeg) (xs (((nI i) + (7 : Int32))).toNatClampNeg) (xs (((nI i) + (8 : Int32))).toNatClampNeg) (xs (((nI i) + (9 : Int32))).toNatClampNeg)  ) (cwV 9 hts (gd_V q_778 q_779 q_780 q_40 q_781) rfl rfl rfl (by decide +kernel) ⟨Nat.le_of_ble_eq_true rfl, Nat.le_of_ble_eq_true rfl⟩) (kb_preV hN hKm (wp_r hP1) (wd_r hD1) (va_recv hKm (wp_r hP1) (ci := 7) (q0 := 0) rfl rfl)) rfl rfl hl.1 rfl (lv_room (Nat.le_of_ble_eq_true rfl)) dL_law_215 ⟨show cells + 0 + 1 + 0 ≤ 1055 by omega, show slots + 0 + 6 + 0 ≤ 8411 by omega⟩) hP1 hD1 hS hA (fun H locs hP hD hS => ?_)
  have hP := wp_sw hP
  have hD := wd_sw hD
  have hp := P_begin hR (xs (((nI i) + (1 : Int32))).toNatClampNeg) (xs (((nI i) + (2 : Int32))).toNatClampNeg) (xs (((nI i) + (3 : Int32))).toNatClampNeg) (xs (((nI i) + (4 : Int32))).toNatClampNeg) (xs (((nI i) + (5 : Int32))).toNatClampNeg) (xs (((nI i) + (6 : Int32))).toNatClampNeg) (xs (((nI i) + (7 : Int32))).toNatClampNeg) (xs (((nI i) + (8 : Int32))).toNatClampNeg) (xs (((nI i) + (9 : Int32))).toNatClampNeg) 
  refine lv_aload_n hx hb dL_law_218 rfl (lv_at hl 3 rfl) ?_
  have hP1 := wp_sw hP
  have hD1 := wd_sw hD
  refine kb_calliR (wf := mw hm cZ) (wr := cwo hc ho cL ((exv (F_D_begin w (xs (((nI i) + (1 : Int32))).toNatClampNeg) (xs (((nI i) + (2 : Int32))).toNatClampNeg) (xs (((nI i) + (3 : Int32))).toNatClampNeg) (xs (((nI i) + (4 : Int32))).toNatClampNeg) (xs (((nI i) + (5 : Int32))).toNatClampNeg) (xs (((nI i) + (6 : Int32))).toNatClampNeg) (xs (((nI i) + (7 : Int32))).toNatClampNeg) (xs (((nI i) + (8 : Int32))).toNatClampNeg) (xs (((nI i) + (9 : Int32))).toNatClampNeg)) w).2, f)) (r := F_X_thrown (F_X_begin q (xs (((nI i) + (1 : Int32))).toNatClampNeg) (xs (((nI i) + (2 : Int32))).toNatClampNeg) (xs (((nI i) + (3 : Int32))).toNatClampNeg) (xs (((nI i) + (4 : Int32))).toNatClampNeg) (xs (((nI i) + (5 : Int32))).toNatClampNeg) (xs (((nI i) + (6 : Int32))).toNatClampNeg) (xs (((nI i) + (7 : Int32))).toNatClampNeg) (xs (((nI i) + (8 : Int32))).toNatClampNeg) (xs (((nI i) + (9 : Int32))).toNatClampNeg))) (u := (F_X_begin q (xs (((nI i) + (1 : Int32))).toNatClampNeg) (xs (((nI i) + (2 : Int32))).toNatClampNeg) (xs (((nI i) + (3 : Int32))).toNatClampNeg) (xs (((nI i) + (4 : Int32))).toNatClampNeg) (xs (((nI i) + (5 : Int32))).toNatClampNeg) (xs (((nI i) + (6 : Int32))).toNatClampNeg) (xs (((nI i) + (7 : Int32))).toNatClampNeg) (xs (((nI i) + (8 : Int32))).toNatClampNeg) (xs (((nI i) + (9 : Int32))).toNatClampNeg))) (va_runV (As := []) (rest := []) ⟨hx, hb, hml, hown, hts⟩ (c_X_thrown l D hm cZ _ (F_X_begin q (xs (((nI i) + (1 : Int32))).toNatClampNeg) (xs (((nI i) + (2 : Int32))).toNatClampNeg) (xs (((nI i) + (3 : Int32))).toNatClampNeg) (xs (((nI i) + (4 : Int32))).toNatClampNeg) (xs (((nI i) + (5 : Int32))).toNatClampNeg) (xs (((nI i) + (6 : Int32))).toNatClampNeg) (xs (((nI i) + (7 : Int32))).toNatClampNeg) (xs (((nI i) + (8 : Int32))).toNatClampNeg) (xs (((nI i) + (9 : Int32))).toNatClampNeg))   ) (cwV 0 hts (gd_V q_774 q_775 q_776 q_40 q_777) rfl rfl rfl (by decide +kernel) ⟨Nat.le_of_ble_eq_true rfl, Nat.le_of_ble_eq_true rfl⟩) (kb_preV hN hKm (wp_r hP1) (wd_r hD1) (va_recv hKm (wp_r hP1) (ci := 7) (q0 := 0) rfl rfl)) rfl rfl hl.1 rfl (lv_room (Nat.le_of_ble_eq_true rfl)) dL_law_219 ⟨show cells + 0 + 1 + 0 + 0 ≤ 1055 by omega, show slots + 0 + 6 + 0 + 0 ≤ 8411 by omega⟩) hP1 hD1 hS hA (fun H locs hP hD hS => ?_)
  have hP := wp_sw hP
  have hD := wd_sw hD
  refine lv_iload hx hb dL_law_222 (lv_at hl 0 rfl) ?_
  refine lv_icmp_eq (tgt := 229) hx hb dL_law_224 (by decide) (fun _ => ?_) (fun c9 => absurd hp.1 c9)
  refine lv_goto (tgt := 626) hx hb dL_law_229 (by decide) ?_
  refine W.widen (k := cells + 1) (n := slots + 6) (by omega) (by omega) ?_
  exact kk ((exv (F_D_begin w (xs (((nI i) + (1 : Int32))).toNatClampNeg) (xs (((nI i) + (2 : Int32))).toNatClampNeg) (xs (((nI i) + (3 : Int32))).toNatClampNeg) (xs (((nI i) + (4 : Int32))).toNatClampNeg) (xs (((nI i) + (5 : Int32))).toNatClampNeg) (xs (((nI i) + (6 : Int32))).toNatClampNeg) (xs (((nI i) + (7 : Int32))).toNatClampNeg) (xs (((nI i) + (8 : Int32))).toNatClampNeg) (xs (((nI i) + (9 : Int32))).toNatClampNeg)) w).2) f (F_X_begin q (xs (((nI i) + (1 : Int32))).toNatClampNeg) (xs (((nI i) + (2 : Int32))).toNatClampNeg) (xs (((nI i) + (3 : Int32))).toNatClampNeg) (xs (((nI i) + (4 : Int32))).toNatClampNeg) (xs (((nI i) + (5 : Int32))).toNatClampNeg) (xs (((nI i) + (6 : Int32))).toNatClampNeg) (xs (((nI i) + (7 : Int32))).toNatClampNeg) (xs (((nI i) + (8 : Int32))).toNatClampNeg) (xs (((nI i) + (9 : Int32))).toNatClampNeg)) _ _ _ hp.2 hP hD hS (lv_sub hl [1, 2, 3, 4, 5] rfl)
set_option maxHeartbeats 4000000 in
set_option maxRecDepth 100000 in
theorem law_case_1 {p : Program} {l : Launch} {e : Env} {s : State} {m : MethodId} {below : List Frame} {meth : Method} {c : Code} {b L : Nat} {xs : Nat → Int32} (hl0 : l.stackTraces = false) (hL : L ≤ 5120) (C0 : lw_At p s m meth c b L xs) (hT : kt_W s ∧ kt_Z (fun q : Nat => s.heap.size ≤ q) s s.heap) {D : va_G} {hc hm : Nat → Nat} {ho : Nat} {cL cZ : ClassId} (hK : va_K D vwCl [(cZ, .boolean), (cL, .long)] s) {i : Nat} (hi : i + 10 ≤ L) {cells slots : Nat} (hce : cells + 1 ≤ 1055) (hsl : slots + 6 ≤ 8411) {w : Nat → Int32} {f : Nat → Int64} {q : (Nat → Int32) × (Nat → Nat → Int32)} (hR : Rel w q) {H : Heap} {locs : List Loc} {ls : Array Slot} (hP : va_P D vwCl (mw hm cZ q ++ cwo hc ho cL (w, f)) H) (hD : va_D (fun q : Nat => s.heap.size ≤ q) (mw hm cZ q ++ cwo hc ho cL (w, f))) (hS : va_S (fun q : Nat => s.heap.size ≤ q) s.heap H locs) (hl : lv_has ls 7 [(0, .ref b), (1, .ref (hc 0)), (2, .ref (hm 0)), (3, .ref ho), (4, .int (nI i))]) (kk : ∀ (w' : Nat → Int32) (f' : Nat → Int64) (q' : (Nat → Int32) × (Nat → Nat → Int32)) (H1 : Heap) (locs1 : List Loc) (ls1 : Array Slot), Rel w' q' → va_P D vwCl (mw hm cZ q' ++ cwo hc ho cL (w', f')) H1 → va_D (fun q : Nat => s.heap.size ≤ q) (mw hm cZ q' ++ cwo hc ho cL (w', f')) → va_S (fun q : Nat => s.heap.size ≤ q) s.heap H1 locs1 → lv_has ls1 7 [(0, .ref b), (1, .ref (hc 0)), (2, .ref (hm 0)), (3, .ref ho), (4, .int (nI i))] → W p l e room_1 s m #[Value.ref b] below meth c H1 locs1 (cells + 1) (slots + 6) (lw_Z below #[Value.ref b] s) (F0 m 626 ls1 [])) : W p l e room_1 s m #[Value.ref b] below meth c H locs (cells) (slots) (lw_Z below #[Value.ref b] s) (F0 m 232 ls []) := by
  obtain ⟨hx, hb, hr, hml, hown, hts0, hX, hbl, hlocks, hgv⟩ := id C0
  have hN : kb_N s := kb_N.of hts0
  have hts := hN.ts #[Value.ref b]
  have hown : s.vm.findClass "BoilerDeskLaw" = some m.cls := hown
  have hA : ∀ q : Nat, s.heap.size ≤ q → (fun q : Nat => s.heap.size ≤ q) q := fun _ h => h
  have hbA : ¬ (fun q : Nat => s.heap.size ≤ q) b := Nat.not_le.mpr hbl
  have hKc := hK.sub (tys' := []) [] rfl
  have hKm := hK.sub (tys' := [(cZ, .boolean)]) [0] rfl
  have hKo := hK.sub (tys' := [(cL, .long)]) [1] rfl
  refine lv_aload_n hx hb dL_law_232 rfl (lv_at hl 1 rfl) ?_
  refine lv_aload_n hx hb dL_law_233 rfl (lv_at hl 0 rfl) ?_
  refine lv_iload hx hb dL_law_234 (lv_at hl 4 rfl) ?_
  refine lv_iconst (v := 1) hx hb dL_law_236 (by decide) ?_
  refine lv_iadd hx hb dL_law_237 ?_
  refine va_sld hx hb hX hbl hbA hS (by rw [show nI i + (1 : Int32) = nI (i + 1) from nI_add i 1]; exact vp_in_nI (by omega) (by omega)) dL_law_238 ?_
  have hP1 : va_P D vwCl ((mw hm cZ q ++ lo ho cL f) ++ cw hc w) H := by rw [List.append_assoc]; exact hP
  have hD1 : va_D (fun q : Nat => s.heap.size ≤ q) ((mw hm cZ q ++ lo ho cL f) ++ cw hc w) := by rw [List.append_assoc]; exact hD
  refine kb_callvR (wf := cw hc) (wr := mw hm cZ q ++ lo ho cL f) (u := F_D_level w (xs (((nI i) + (1 : Int32))).toNatClampNeg)) (va_runV (As := [.int (xs (((nI i) + (1 : Int32))).toNatClampNeg)]) (rest := []) ⟨hx, hb, hml, hown, hts⟩ (c_D_level l D hc _ w (xs (((nI i) + (1 : Int32))).toNatClampNeg)) (cwV 1 hts (gd_V q_312 q_313 q_314 q_33 q_315) rfl rfl rfl (by decide +kernel) ⟨Nat.le_of_ble_eq_true rfl, Nat.le_of_ble_eq_true rfl⟩) (kb_preV hN hKc (wp_r hP1) (wd_r hD1) (va_recv hKc (wp_r hP1) (ci := 0) (q0 := 0) rfl rfl)) rfl rfl hl.1 rfl (lv_room (Nat.le_of_ble_eq_true rfl)) dL_law_239 ⟨show cells + 0 + 0 ≤ 1055 by omega, show slots + 0 + 0 ≤ 8411 by omega⟩) hP1 hD1 hS hA (fun H locs hP hD hS => ?_)
  rw [List.append_assoc] at hP hD
  have hP : va_P D vwCl (mw hm cZ q ++ cwo hc ho cL ((F_D_level w (xs (((nI i) + (1 : Int32))).toNatClampNeg)), f)) H := hP
  have hD : va_D (fun q : Nat => s.heap.size ≤ q) (mw hm cZ q ++ cwo hc ho cL ((F_D_level w (xs (((nI i) + (1 : Int32))).toNatClampNeg)), f)) := hD
  refine lv_aload_n hx hb dL_law_242 rfl (lv_at hl 2 rfl) ?_
  refine lv_aload_n hx hb dL_law_243 rfl (lv_at hl 0 rfl) ?_
  refine lv_iload hx hb dL_law_244 (lv_at hl 4 rfl) ?_
  refine lv_iconst (v := 1) hx hb dL_law_246 (by decide) ?_
  refine lv_iadd hx hb dL_law_247 ?_
  refine va_sld hx hb hX hbl hbA hS (by rw [show nI i + (1 : Int32) = nI (i + 1) from nI_add i 1]; exact vp_in_nI (by omega) (by omega)) dL_law_248 ?_
  have hP1 := wp_sw hP
  have hD1 := wd_sw hD
  refine kb_callvR (wf := mw hm cZ) (wr := cwo hc ho cL ((F_D_level w (xs (((nI i) + (1 : Int32))).toNatClampNeg)), f)) (u := F_X_level q (xs (((nI i) + (1 : Int32))).toNatClampNeg)) (va_runV (As := [.int (xs (((nI i) + (1 : Int32))).toNatClampNeg)]) (rest := []) ⟨hx, hb, hml, hown, hts⟩ (c_X_level l D hm cZ _ q (xs (((nI i) + (1 : Int32))).toNatClampNeg)  ) (cwV 1 hts (gd_V q_791 q_792 q_793 q_40 q_794) rfl rfl rfl (by decide +kernel) ⟨Nat.le_of_ble_eq_true rfl, Nat.le_of_ble_eq_true rfl⟩) (kb_preV hN hKm (wp_r hP1) (wd_r hD1) (va_recv hKm (wp_r hP1) (ci := 7) (q0 := 0) rfl rfl)) rfl rfl hl.1 rfl (lv_room (Nat.le_of_ble_eq_true rfl)) dL_law_249 ⟨show cells + 0 + 0 + 0 ≤ 1055 by omega, show slots + 0 + 0 + 0 ≤ 8411 by omega⟩) hP1 hD1 hS hA (fun H locs hP hD hS => ?_)
  have hP := wp_sw hP
  have hD := wd_sw hD
  have hp := P_level hR (xs (((nI i) + (1 : Int32))).toNatClampNeg)
  refine lv_goto (tgt := 626) hx hb dL_law_252 (by decide) ?_
  refine W.widen (k := cells + 1) (n := slots + 6) (by omega) (by omega) ?_
  exact kk (F_D_level w (xs (((nI i) + (1 : Int32))).toNatClampNeg)) f (F_X_level q (xs (((nI i) + (1 : Int32))).toNatClampNeg)) _ _ _ hp hP hD hS (lv_sub hl [0, 1, 2, 3, 4] rfl)
set_option maxHeartbeats 4000000 in
set_option maxRecDepth 100000 in
theorem law_case_2 {p : Program} {l : Launch} {e : Env} {s : State} {m : MethodId} {below : List Frame} {meth : Method} {c : Code} {b L : Nat} {xs : Nat → Int32} (hl0 : l.stackTraces = false) (hL : L ≤ 5120) (C0 : lw_At p s m meth c b L xs) (hT : kt_W s ∧ kt_Z (fun q : Nat => s.heap.size ≤ q) s s.heap) {D : va_G} {hc hm : Nat → Nat} {ho : Nat} {cL cZ : ClassId} (hK : va_K D vwCl [(cZ, .boolean), (cL, .long)] s) {i : Nat} (hi : i + 10 ≤ L) {cells slots : Nat} (hce : cells + 1 ≤ 1055) (hsl : slots + 6 ≤ 8411) {w : Nat → Int32} {f : Nat → Int64} {q : (Nat → Int32) × (Nat → Nat → Int32)} (hR : Rel w q) {H : Heap} {locs : List Loc} {ls : Array Slot} (hP : va_P D vwCl (mw hm cZ q ++ cwo hc ho cL (w, f)) H) (hD : va_D (fun q : Nat => s.heap.size ≤ q) (mw hm cZ q ++ cwo hc ho cL (w, f))) (hS : va_S (fun q : Nat => s.heap.size ≤ q) s.heap H locs) (hl : lv_has ls 7 [(0, .ref b), (1, .ref (hc 0)), (2, .ref (hm 0)), (3, .ref ho), (4, .int (nI i))]) (kk : ∀ (w' : Nat → Int32) (f' : Nat → Int64) (q' : (Nat → Int32) × (Nat → Nat → Int32)) (H1 : Heap) (locs1 : List Loc) (ls1 : Array Slot), Rel w' q' → va_P D vwCl (mw hm cZ q' ++ cwo hc ho cL (w', f')) H1 → va_D (fun q : Nat => s.heap.size ≤ q) (mw hm cZ q' ++ cwo hc ho cL (w', f')) → va_S (fun q : Nat => s.heap.size ≤ q) s.heap H1 locs1 → lv_has ls1 7 [(0, .ref b), (1, .ref (hc 0)), (2, .ref (hm 0)), (3, .ref ho), (4, .int (nI i))] → W p l e room_1 s m #[Value.ref b] below meth c H1 locs1 (cells + 1) (slots + 6) (lw_Z below #[Value.ref b] s) (F0 m 626 ls1 [])) : W p l e room_1 s m #[Value.ref b] below meth c H locs (cells) (slots) (lw_Z below #[Value.ref b] s) (F0 m 255 ls []) := by
  obtain ⟨hx, hb, hr, hml, hown, hts0, hX, hbl, hlocks, hgv⟩ := id C0
  have hN : kb_N s := kb_N.of hts0
  have hts := hN.ts #[Value.ref b]
  have hown : s.vm.findClass "BoilerDeskLaw" = some m.cls := hown
  have hA : ∀ q : Nat, s.heap.size ≤ q → (fun q : Nat => s.heap.size ≤ q) q := fun _ h => h
  have hbA : ¬ (fun q : Nat => s.heap.size ≤ q) b := Nat.not_le.mpr hbl
  have hKc := hK.sub (tys' := []) [] rfl
  have hKm := hK.sub (tys' := [(cZ, .boolean)]) [0] rfl
  have hKo := hK.sub (tys' := [(cL, .long)]) [1] rfl
  refine lv_aload_n hx hb dL_law_255 rfl (lv_at hl 1 rfl) ?_
  refine lv_aload_n hx hb dL_law_256 rfl (lv_at hl 0 rfl) ?_
  refine lv_iload hx hb dL_law_257 (lv_at hl 4 rfl) ?_
  refine lv_iconst (v := 1) hx hb dL_law_259 (by decide) ?_
  refine lv_iadd hx hb dL_law_260 ?_
  refine va_sld hx hb hX hbl hbA hS (by rw [show nI i + (1 : Int32) = nI (i + 1) from nI_add i 1]; exact vp_in_nI (by omega) (by omega)) dL_law_261 ?_
  have hP1 : va_P D vwCl ((mw hm cZ q ++ lo ho cL f) ++ cw hc w) H := by rw [List.append_assoc]; exact hP
  have hD1 : va_D (fun q : Nat => s.heap.size ≤ q) ((mw hm cZ q ++ lo ho cL f) ++ cw hc w) := by rw [List.append_assoc]; exact hD
  refine kb_callvR (wf := cw hc) (wr := mw hm cZ q ++ lo ho cL f) (u := F_D_steam w (xs (((nI i) + (1 : Int32))).toNatClampNeg)) (va_runV (As := [.int (xs (((nI i) + (1 : Int32))).toNatClampNeg)]) (rest := []) ⟨hx, hb, hml, hown, hts⟩ (c_D_steam l D hc _ w (xs (((nI i) + (1 : Int32))).toNatClampNeg)) (cwV 1 hts (gd_V q_316 q_317 q_318 q_33 q_319) rfl rfl rfl (by decide +kernel) ⟨Nat.le_of_ble_eq_true rfl, Nat.le_of_ble_eq_true rfl⟩) (kb_preV hN hKc (wp_r hP1) (wd_r hD1) (va_recv hKc (wp_r hP1) (ci := 0) (q0 := 0) rfl rfl)) rfl rfl hl.1 rfl (lv_room (Nat.le_of_ble_eq_true rfl)) dL_law_262 ⟨show cells + 0 + 0 ≤ 1055 by omega, show slots + 0 + 0 ≤ 8411 by omega⟩) hP1 hD1 hS hA (fun H locs hP hD hS => ?_)
  rw [List.append_assoc] at hP hD
  have hP : va_P D vwCl (mw hm cZ q ++ cwo hc ho cL ((F_D_steam w (xs (((nI i) + (1 : Int32))).toNatClampNeg)), f)) H := hP
  have hD : va_D (fun q : Nat => s.heap.size ≤ q) (mw hm cZ q ++ cwo hc ho cL ((F_D_steam w (xs (((nI i) + (1 : Int32))).toNatClampNeg)), f)) := hD
  refine lv_aload_n hx hb dL_law_265 rfl (lv_at hl 2 rfl) ?_
  refine lv_aload_n hx hb dL_law_266 rfl (lv_at hl 0 rfl) ?_
  refine lv_iload hx hb dL_law_267 (lv_at hl 4 rfl) ?_
  refine lv_iconst (v := 1) hx hb dL_law_269 (by decide) ?_
  refine lv_iadd hx hb dL_law_270 ?_
  refine va_sld hx hb hX hbl hbA hS (by rw [show nI i + (1 : Int32) = nI (i + 1) from nI_add i 1]; exact vp_in_nI (by omega) (by omega)) dL_law_271 ?_
  have hP1 := wp_sw hP
  have hD1 := wd_sw hD
  refine kb_callvR (wf := mw hm cZ) (wr := cwo hc ho cL ((F_D_steam w (xs (((nI i) + (1 : Int32))).toNatClampNeg)), f)) (u := F_X_steam q (xs (((nI i) + (1 : Int32))).toNatClampNeg)) (va_runV (As := [.int (xs (((nI i) + (1 : Int32))).toNatClampNeg)]) (rest := []) ⟨hx, hb, hml, hown, hts⟩ (c_X_steam l D hm cZ _ q (xs (((nI i) + (1 : Int32))).toNatClampNeg)  ) (cwV 1 hts (gd_V q_795 q_796 q_797 q_40 q_798) rfl rfl rfl (by decide +kernel) ⟨Nat.le_of_ble_eq_true rfl, Nat.le_of_ble_eq_true rfl⟩) (kb_preV hN hKm (wp_r hP1) (wd_r hD1) (va_recv hKm (wp_r hP1) (ci := 7) (q0 := 0) rfl rfl)) rfl rfl hl.1 rfl (lv_room (Nat.le_of_ble_eq_true rfl)) dL_law_272 ⟨show cells + 0 + 0 + 0 ≤ 1055 by omega, show slots + 0 + 0 + 0 ≤ 8411 by omega⟩) hP1 hD1 hS hA (fun H locs hP hD hS => ?_)
  have hP := wp_sw hP
  have hD := wd_sw hD
  have hp := P_steam hR (xs (((nI i) + (1 : Int32))).toNatClampNeg)
  refine lv_goto (tgt := 626) hx hb dL_law_275 (by decide) ?_
  refine W.widen (k := cells + 1) (n := slots + 6) (by omega) (by omega) ?_
  exact kk (F_D_steam w (xs (((nI i) + (1 : Int32))).toNatClampNeg)) f (F_X_steam q (xs (((nI i) + (1 : Int32))).toNatClampNeg)) _ _ _ hp hP hD hS (lv_sub hl [0, 1, 2, 3, 4] rfl)
set_option maxHeartbeats 4000000 in
set_option maxRecDepth 100000 in
theorem law_case_3 {p : Program} {l : Launch} {e : Env} {s : State} {m : MethodId} {below : List Frame} {meth : Method} {c : Code} {b L : Nat} {xs : Nat → Int32} (hl0 : l.stackTraces = false) (hL : L ≤ 5120) (C0 : lw_At p s m meth c b L xs) (hT : kt_W s ∧ kt_Z (fun q : Nat => s.heap.size ≤ q) s s.heap) {D : va_G} {hc hm : Nat → Nat} {ho : Nat} {cL cZ : ClassId} (hK : va_K D vwCl [(cZ, .boolean), (cL, .long)] s) {i : Nat} (hi : i + 10 ≤ L) {cells slots : Nat} (hce : cells + 1 ≤ 1055) (hsl : slots + 6 ≤ 8411) {w : Nat → Int32} {f : Nat → Int64} {q : (Nat → Int32) × (Nat → Nat → Int32)} (hR : Rel w q) {H : Heap} {locs : List Loc} {ls : Array Slot} (hP : va_P D vwCl (mw hm cZ q ++ cwo hc ho cL (w, f)) H) (hD : va_D (fun q : Nat => s.heap.size ≤ q) (mw hm cZ q ++ cwo hc ho cL (w, f))) (hS : va_S (fun q : Nat => s.heap.size ≤ q) s.heap H locs) (hl : lv_has ls 7 [(0, .ref b), (1, .ref (hc 0)), (2, .ref (hm 0)), (3, .ref ho), (4, .int (nI i))]) (kk : ∀ (w' : Nat → Int32) (f' : Nat → Int64) (q' : (Nat → Int32) × (Nat → Nat → Int32)) (H1 : Heap) (locs1 : List Loc) (ls1 : Array Slot), Rel w' q' → va_P D vwCl (mw hm cZ q' ++ cwo hc ho cL (w', f')) H1 → va_D (fun q : Nat => s.heap.size ≤ q) (mw hm cZ q' ++ cwo hc ho cL (w', f')) → va_S (fun q : Nat => s.heap.size ≤ q) s.heap H1 locs1 → lv_has ls1 7 [(0, .ref b), (1, .ref (hc 0)), (2, .ref (hm 0)), (3, .ref ho), (4, .int (nI i))] → W p l e room_1 s m #[Value.ref b] below meth c H1 locs1 (cells + 1) (slots + 6) (lw_Z below #[Value.ref b] s) (F0 m 626 ls1 [])) : W p l e room_1 s m #[Value.ref b] below meth c H locs (cells) (slots) (lw_Z below #[Value.ref b] s) (F0 m 278 ls []) := by
  obtain ⟨hx, hb, hr, hml, hown, hts0, hX, hbl, hlocks, hgv⟩ := id C0
  have hN : kb_N s := kb_N.of hts0
  have hts := hN.ts #[Value.ref b]
  have hown : s.vm.findClass "BoilerDeskLaw" = some m.cls := hown
  have hA : ∀ q : Nat, s.heap.size ≤ q → (fun q : Nat => s.heap.size ≤ q) q := fun _ h => h
  have hbA : ¬ (fun q : Nat => s.heap.size ≤ q) b := Nat.not_le.mpr hbl
  have hKc := hK.sub (tys' := []) [] rfl
  have hKm := hK.sub (tys' := [(cZ, .boolean)]) [0] rfl
  have hKo := hK.sub (tys' := [(cL, .long)]) [1] rfl
  refine lv_aload_n hx hb dL_law_278 rfl (lv_at hl 1 rfl) ?_
  refine lv_aload_n hx hb dL_law_279 rfl (lv_at hl 0 rfl) ?_
  refine lv_iload hx hb dL_law_280 (lv_at hl 4 rfl) ?_
  refine lv_iconst (v := 1) hx hb dL_law_282 (by decide) ?_
  refine lv_iadd hx hb dL_law_283 ?_
  refine va_sld hx hb hX hbl hbA hS (by rw [show nI i + (1 : Int32) = nI (i + 1) from nI_add i 1]; exact vp_in_nI (by omega) (by omega)) dL_law_284 ?_
  refine lv_aload_n hx hb dL_law_285 rfl (lv_at hl 0 rfl) ?_
  refine lv_iload hx hb dL_law_286 (lv_at hl 4 rfl) ?_
  refine lv_iconst (v := 2) hx hb dL_law_288 (by decide) ?_
  refine lv_iadd hx hb dL_law_289 ?_
  refine va_sld hx hb hX hbl hbA hS (by rw [show nI i + (2 : Int32) = nI (i + 2) from nI_add i 2]; exact vp_in_nI (by omega) (by omega)) dL_law_290 ?_
  refine lv_if_eq (tgt := 298) hx hb dL_law_291 (by decide) (fun c_1 => ?_) (fun c_1 => ?_)
  · refine lv_iconst (v := 0) hx hb dL_law_298 (by decide) ?_
    refine lv_aload_n hx hb dL_law_299 rfl (lv_at hl 0 rfl) ?_
    refine lv_iload hx hb dL_law_300 (lv_at hl 4 rfl) ?_
    refine lv_iconst (v := 3) hx hb dL_law_302 (by decide) ?_
    refine lv_iadd hx hb dL_law_303 ?_
    refine va_sld hx hb hX hbl hbA hS (by rw [show nI i + (3 : Int32) = nI (i + 3) from nI_add i 3]; exact vp_in_nI (by omega) (by omega)) dL_law_304 ?_
    refine lv_if_eq (tgt := 312) hx hb dL_law_305 (by decide) (fun c_2 => ?_) (fun c_2 => ?_)
    · refine lv_iconst (v := 0) hx hb dL_law_312 (by decide) ?_
      have hP1 : va_P D vwCl ((mw hm cZ q ++ lo ho cL f) ++ cw hc w) H := by rw [List.append_assoc]; exact hP
      have hD1 : va_D (fun q : Nat => s.heap.size ≤ q) ((mw hm cZ q ++ lo ho cL f) ++ cw hc w) := by rw [List.append_assoc]; exact hD
      refine kb_calliR (wf := cw hc) (wr := mw hm cZ q ++ lo ho cL f) (r := (exv (F_D_pump w (xs (((nI i) + (1 : Int32))).toNatClampNeg) (0 : Int32) (0 : Int32)) w).1) (u := (exv (F_D_pump w (xs (((nI i) + (1 : Int32))).toNatClampNeg) (0 : Int32) (0 : Int32)) w).2) (kw_run (n := 4) (As := [.ref (hc 0), .int (xs (((nI i) + (1 : Int32))).toNatClampNeg), .int 0, .int 0]) (rest := []) hx hb hml hown hN (c_L_pump l hl0 D hc _ w (xs (((nI i) + (1 : Int32))).toNatClampNeg) (0 : Int32) (0 : Int32) (by decide) (by decide)) q_408 q_406 q_407 q_32 (by decide +kernel) rfl rfl ⟨Nat.le_of_ble_eq_true rfl, Nat.le_of_ble_eq_true rfl⟩ (kt_preS hN hT hKc (wp_r hP1) (wd_r hD1) hS hA) rfl rfl hl.1 rfl (lv_room (Nat.le_of_ble_eq_true rfl)) dL_law_313 ⟨show cells + 0 + 1 ≤ 1055 by omega, show slots + 0 + 6 ≤ 8411 by omega⟩) hP1 hD1 hS hA (fun H locs hP hD hS => ?_)
      rw [List.append_assoc] at hP hD
      have hP : va_P D vwCl (mw hm cZ q ++ cwo hc ho cL ((exv (F_D_pump w (xs (((nI i) + (1 : Int32))).toNatClampNeg) (0 : Int32) (0 : Int32)) w).2, f)) H := hP
      have hD : va_D (fun q : Nat => s.heap.size ≤ q) (mw hm cZ q ++ cwo hc ho cL ((exv (F_D_pump w (xs (((nI i) + (1 : Int32))).toNatClampNeg) (0 : Int32) (0 : Int32)) w).2, f)) := hD
      refine lv_istore (lv' := [(5, .int (exv (F_D_pump w (xs (((nI i) + (1 : Int32))).toNatClampNeg) (0 : Int32) (0 : Int32)) w).1), (0, .ref b), (1, .ref (hc 0)), (2, .ref (hm 0)), (3, .ref ho), (4, .int (nI i))]) hx hb dL_law_316 hl (by decide) rfl (fun ls hl => ?_)
      refine lv_aload_n hx hb dL_law_318 rfl (lv_at hl 3 rfl) ?_
      refine lv_aload_n hx hb dL_law_319 rfl (lv_at hl 1 rfl) ?_
      refine lv_iload hx hb dL_law_320 (lv_at hl 5 rfl) ?_
      refine lv_iconst (v := 1) hx hb dL_law_322 (by decide) ?_
      refine lv_iadd hx hb dL_law_323 ?_
      refine va_sld hx hb hX hbl hbA hS (by rw [show nI i + (1 : Int32) = nI (i + 1) from nI_add i 1]; exact vp_in_nI (by omega) (by omega)) dL_law_324 ?_
      refine lv_aload_n hx hb dL_law_325 rfl (lv_at hl 1 rfl) ?_
      refine lv_iload hx hb dL_law_326 (lv_at hl 5 rfl) ?_
      refine lv_iconst (v := 2) hx hb dL_law_328 (by decide) ?_
      refine lv_iadd hx hb dL_law_329 ?_
      refine va_sld hx hb hX hbl hbA hS (by rw [show nI i + (2 : Int32) = nI (i + 2) from nI_add i 2]; exact vp_in_nI (by omega) (by omega)) dL_law_330 ?_
      refine lv_if_eq (tgt := 338) hx hb dL_law_331 (by decide) (fun _ => ?_) (fun c9 => absurd c_1 c9)
      refine lv_iconst (v := 0) hx hb dL_law_338 (by decide) ?_
      refine lv_aload_n hx hb dL_law_339 rfl (lv_at hl 1 rfl) ?_
      refine lv_iload hx hb dL_law_340 (lv_at hl 5 rfl) ?_
      refine lv_iconst (v := 3) hx hb dL_law_342 (by decide) ?_
      refine lv_iadd hx hb dL_law_343 ?_
      refine va_sld hx hb hX hbl hbA hS (by rw [show nI i + (3 : Int32) = nI (i + 3) from nI_add i 3]; exact vp_in_nI (by omega) (by omega)) dL_law_344 ?_
      refine lv_if_eq (tgt := 352) hx hb dL_law_345 (by decide) (fun _ => ?_) (fun c9 => absurd c_2 c9)
      refine lv_iconst (v := 0) hx hb dL_law_352 (by decide) ?_
      have hP1 := wp_sw hP
      have hD1 := wd_sw hD
      refine kb_callvR (wf := mw hm cZ) (wr := cwo hc ho cL ((exv (F_D_pump w (xs (((nI i) + (1 : Int32))).toNatClampNeg) (0 : Int32) (0 : Int32)) w).2, f)) (u := F_X_pump q (xs (((nI i) + (1 : Int32))).toNatClampNeg) (0 : Int32) (0 : Int32)) (va_runV (As := [.int (xs (((nI i) + (1 : Int32))).toNatClampNeg), .int 0, .int 0]) (rest := []) ⟨hx, hb, hml, hown, hts⟩ (c_X_pump l D hm cZ _ q (xs (((nI i) + (1 : Int32))).toNatClampNeg) (0 : Int32) (0 : Int32) (by decide) (by decide) ) (cwV 3 hts (gd_V q_799 q_800 q_801 q_40 q_802) rfl rfl rfl (by decide +kernel) ⟨Nat.le_of_ble_eq_true rfl, Nat.le_of_ble_eq_true rfl⟩) (kb_preV hN hKm (wp_r hP1) (wd_r hD1) (va_recv hKm (wp_r hP1) (ci := 7) (q0 := 0) rfl rfl)) rfl rfl hl.1 rfl (lv_room (Nat.le_of_ble_eq_true rfl)) dL_law_353 ⟨show cells + 0 + 1 + 0 ≤ 1055 by omega, show slots + 0 + 6 + 0 ≤ 8411 by omega⟩) hP1 hD1 hS hA (fun H locs hP hD hS => ?_)
      have hP := wp_sw hP
      have hD := wd_sw hD
      have hp := P_pump hR (xs (((nI i) + (1 : Int32))).toNatClampNeg) (0 : Int32) (0 : Int32) (by decide) (by decide)
      refine lv_aload_n hx hb dL_law_356 rfl (lv_at hl 3 rfl) ?_
      have hP1 := wp_sw hP
      have hD1 := wd_sw hD
      refine kb_calliR (wf := mw hm cZ) (wr := cwo hc ho cL ((exv (F_D_pump w (xs (((nI i) + (1 : Int32))).toNatClampNeg) (0 : Int32) (0 : Int32)) w).2, f)) (r := F_X_thrown (F_X_pump q (xs (((nI i) + (1 : Int32))).toNatClampNeg) (0 : Int32) (0 : Int32))) (u := (F_X_pump q (xs (((nI i) + (1 : Int32))).toNatClampNeg) (0 : Int32) (0 : Int32))) (va_runV (As := []) (rest := []) ⟨hx, hb, hml, hown, hts⟩ (c_X_thrown l D hm cZ _ (F_X_pump q (xs (((nI i) + (1 : Int32))).toNatClampNeg) (0 : Int32) (0 : Int32))   ) (cwV 0 hts (gd_V q_774 q_775 q_776 q_40 q_777) rfl rfl rfl (by decide +kernel) ⟨Nat.le_of_ble_eq_true rfl, Nat.le_of_ble_eq_true rfl⟩) (kb_preV hN hKm (wp_r hP1) (wd_r hD1) (va_recv hKm (wp_r hP1) (ci := 7) (q0 := 0) rfl rfl)) rfl rfl hl.1 rfl (lv_room (Nat.le_of_ble_eq_true rfl)) dL_law_357 ⟨show cells + 0 + 1 + 0 + 0 ≤ 1055 by omega, show slots + 0 + 6 + 0 + 0 ≤ 8411 by omega⟩) hP1 hD1 hS hA (fun H locs hP hD hS => ?_)
      have hP := wp_sw hP
      have hD := wd_sw hD
      refine lv_iload hx hb dL_law_360 (lv_at hl 0 rfl) ?_
      refine lv_icmp_eq (tgt := 367) hx hb dL_law_362 (by decide) (fun _ => ?_) (fun c9 => absurd hp.1 c9)
      refine lv_goto (tgt := 626) hx hb dL_law_367 (by decide) ?_
      refine W.widen (k := cells + 1) (n := slots + 6) (by omega) (by omega) ?_
      exact kk ((exv (F_D_pump w (xs (((nI i) + (1 : Int32))).toNatClampNeg) (0 : Int32) (0 : Int32)) w).2) f (F_X_pump q (xs (((nI i) + (1 : Int32))).toNatClampNeg) (0 : Int32) (0 : Int32)) _ _ _ hp.2 hP hD hS (lv_sub hl [1, 2, 3, 4, 5] rfl)
    · refine lv_iconst (v := 1) hx hb dL_law_308 (by decide) ?_
      refine lv_goto (tgt := 313) hx hb dL_law_309 (by decide) ?_
      have hP1 : va_P D vwCl ((mw hm cZ q ++ lo ho cL f) ++ cw hc w) H := by rw [List.append_assoc]; exact hP
      have hD1 : va_D (fun q : Nat => s.heap.size ≤ q) ((mw hm cZ q ++ lo ho cL f) ++ cw hc w) := by rw [List.append_assoc]; exact hD
      refine kb_calliR (wf := cw hc) (wr := mw hm cZ q ++ lo ho cL f) (r := (exv (F_D_pump w (xs (((nI i) + (1 : Int32))).toNatClampNeg) (0 : Int32) (1 : Int32)) w).1) (u := (exv (F_D_pump w (xs (((nI i) + (1 : Int32))).toNatClampNeg) (0 : Int32) (1 : Int32)) w).2) (kw_run (n := 4) (As := [.ref (hc 0), .int (xs (((nI i) + (1 : Int32))).toNatClampNeg), .int 0, .int 1]) (rest := []) hx hb hml hown hN (c_L_pump l hl0 D hc _ w (xs (((nI i) + (1 : Int32))).toNatClampNeg) (0 : Int32) (1 : Int32) (by decide) (by decide)) q_408 q_406 q_407 q_32 (by decide +kernel) rfl rfl ⟨Nat.le_of_ble_eq_true rfl, Nat.le_of_ble_eq_true rfl⟩ (kt_preS hN hT hKc (wp_r hP1) (wd_r hD1) hS hA) rfl rfl hl.1 rfl (lv_room (Nat.le_of_ble_eq_true rfl)) dL_law_313 ⟨show cells + 0 + 1 ≤ 1055 by omega, show slots + 0 + 6 ≤ 8411 by omega⟩) hP1 hD1 hS hA (fun H locs hP hD hS => ?_)
      rw [List.append_assoc] at hP hD
      have hP : va_P D vwCl (mw hm cZ q ++ cwo hc ho cL ((exv (F_D_pump w (xs (((nI i) + (1 : Int32))).toNatClampNeg) (0 : Int32) (1 : Int32)) w).2, f)) H := hP
      have hD : va_D (fun q : Nat => s.heap.size ≤ q) (mw hm cZ q ++ cwo hc ho cL ((exv (F_D_pump w (xs (((nI i) + (1 : Int32))).toNatClampNeg) (0 : Int32) (1 : Int32)) w).2, f)) := hD
      refine lv_istore (lv' := [(5, .int (exv (F_D_pump w (xs (((nI i) + (1 : Int32))).toNatClampNeg) (0 : Int32) (1 : Int32)) w).1), (0, .ref b), (1, .ref (hc 0)), (2, .ref (hm 0)), (3, .ref ho), (4, .int (nI i))]) hx hb dL_law_316 hl (by decide) rfl (fun ls hl => ?_)
      refine lv_aload_n hx hb dL_law_318 rfl (lv_at hl 3 rfl) ?_
      refine lv_aload_n hx hb dL_law_319 rfl (lv_at hl 1 rfl) ?_
      refine lv_iload hx hb dL_law_320 (lv_at hl 5 rfl) ?_
      refine lv_iconst (v := 1) hx hb dL_law_322 (by decide) ?_
      refine lv_iadd hx hb dL_law_323 ?_
      refine va_sld hx hb hX hbl hbA hS (by rw [show nI i + (1 : Int32) = nI (i + 1) from nI_add i 1]; exact vp_in_nI (by omega) (by omega)) dL_law_324 ?_
      refine lv_aload_n hx hb dL_law_325 rfl (lv_at hl 1 rfl) ?_
      refine lv_iload hx hb dL_law_326 (lv_at hl 5 rfl) ?_
      refine lv_iconst (v := 2) hx hb dL_law_328 (by decide) ?_
      refine lv_iadd hx hb dL_law_329 ?_
      refine va_sld hx hb hX hbl hbA hS (by rw [show nI i + (2 : Int32) = nI (i + 2) from nI_add i 2]; exact vp_in_nI (by omega) (by omega)) dL_law_330 ?_
      refine lv_if_eq (tgt := 338) hx hb dL_law_331 (by decide) (fun _ => ?_) (fun c9 => absurd c_1 c9)
      refine lv_iconst (v := 0) hx hb dL_law_338 (by decide) ?_
      refine lv_aload_n hx hb dL_law_339 rfl (lv_at hl 1 rfl) ?_
      refine lv_iload hx hb dL_law_340 (lv_at hl 5 rfl) ?_
      refine lv_iconst (v := 3) hx hb dL_law_342 (by decide) ?_
      refine lv_iadd hx hb dL_law_343 ?_
      refine va_sld hx hb hX hbl hbA hS (by rw [show nI i + (3 : Int32) = nI (i + 3) from nI_add i 3]; exact vp_in_nI (by omega) (by omega)) dL_law_344 ?_
      refine lv_if_eq (tgt := 352) hx hb dL_law_345 (by decide) (fun c9 => absurd c9 c_2) (fun _ => ?_)
      refine lv_iconst (v := 1) hx hb dL_law_348 (by decide) ?_
      refine lv_goto (tgt := 353) hx hb dL_law_349 (by decide) ?_
      have hP1 := wp_sw hP
      have hD1 := wd_sw hD
      refine kb_callvR (wf := mw hm cZ) (wr := cwo hc ho cL ((exv (F_D_pump w (xs (((nI i) + (1 : Int32))).toNatClampNeg) (0 : Int32) (1 : Int32)) w).2, f)) (u := F_X_pump q (xs (((nI i) + (1 : Int32))).toNatClampNeg) (0 : Int32) (1 : Int32)) (va_runV (As := [.int (xs (((nI i) + (1 : Int32))).toNatClampNeg), .int 0, .int 1]) (rest := []) ⟨hx, hb, hml, hown, hts⟩ (c_X_pump l D hm cZ _ q (xs (((nI i) + (1 : Int32))).toNatClampNeg) (0 : Int32) (1 : Int32) (by decide) (by decide) ) (cwV 3 hts (gd_V q_799 q_800 q_801 q_40 q_802) rfl rfl rfl (by decide +kernel) ⟨Nat.le_of_ble_eq_true rfl, Nat.le_of_ble_eq_true rfl⟩) (kb_preV hN hKm (wp_r hP1) (wd_r hD1) (va_recv hKm (wp_r hP1) (ci := 7) (q0 := 0) rfl rfl)) rfl rfl hl.1 rfl (lv_room (Nat.le_of_ble_eq_true rfl)) dL_law_353 ⟨show cells + 0 + 1 + 0 ≤ 1055 by omega, show slots + 0 + 6 + 0 ≤ 8411 by omega⟩) hP1 hD1 hS hA (fun H locs hP hD hS => ?_)
      have hP := wp_sw hP
      have hD := wd_sw hD
      have hp := P_pump hR (xs (((nI i) + (1 : Int32))).toNatClampNeg) (0 : Int32) (1 : Int32) (by decide) (by decide)
      refine lv_aload_n hx hb dL_law_356 rfl (lv_at hl 3 rfl) ?_
      have hP1 := wp_sw hP
      have hD1 := wd_sw hD
      refine kb_calliR (wf := mw hm cZ) (wr := cwo hc ho cL ((exv (F_D_pump w (xs (((nI i) + (1 : Int32))).toNatClampNeg) (0 : Int32) (1 : Int32)) w).2, f)) (r := F_X_thrown (F_X_pump q (xs (((nI i) + (1 : Int32))).toNatClampNeg) (0 : Int32) (1 : Int32))) (u := (F_X_pump q (xs (((nI i) + (1 : Int32))).toNatClampNeg) (0 : Int32) (1 : Int32))) (va_runV (As := []) (rest := []) ⟨hx, hb, hml, hown, hts⟩ (c_X_thrown l D hm cZ _ (F_X_pump q (xs (((nI i) + (1 : Int32))).toNatClampNeg) (0 : Int32) (1 : Int32))   ) (cwV 0 hts (gd_V q_774 q_775 q_776 q_40 q_777) rfl rfl rfl (by decide +kernel) ⟨Nat.le_of_ble_eq_true rfl, Nat.le_of_ble_eq_true rfl⟩) (kb_preV hN hKm (wp_r hP1) (wd_r hD1) (va_recv hKm (wp_r hP1) (ci := 7) (q0 := 0) rfl rfl)) rfl rfl hl.1 rfl (lv_room (Nat.le_of_ble_eq_true rfl)) dL_law_357 ⟨show cells + 0 + 1 + 0 + 0 ≤ 1055 by omega, show slots + 0 + 6 + 0 + 0 ≤ 8411 by omega⟩) hP1 hD1 hS hA (fun H locs hP hD hS => ?_)
      have hP := wp_sw hP
      have hD := wd_sw hD
      refine lv_iload hx hb dL_law_360 (lv_at hl 0 rfl) ?_
      refine lv_icmp_eq (tgt := 367) hx hb dL_law_362 (by decide) (fun _ => ?_) (fun c9 => absurd hp.1 c9)
      refine lv_goto (tgt := 626) hx hb dL_law_367 (by decide) ?_
      refine W.widen (k := cells + 1) (n := slots + 6) (by omega) (by omega) ?_
      exact kk ((exv (F_D_pump w (xs (((nI i) + (1 : Int32))).toNatClampNeg) (0 : Int32) (1 : Int32)) w).2) f (F_X_pump q (xs (((nI i) + (1 : Int32))).toNatClampNeg) (0 : Int32) (1 : Int32)) _ _ _ hp.2 hP hD hS (lv_sub hl [1, 2, 3, 4, 5] rfl)
  · refine lv_iconst (v := 1) hx hb dL_law_294 (by decide) ?_
    refine lv_goto (tgt := 299) hx hb dL_law_295 (by decide) ?_
    refine lv_aload_n hx hb dL_law_299 rfl (lv_at hl 0 rfl) ?_
    refine lv_iload hx hb dL_law_300 (lv_at hl 4 rfl) ?_
    refine lv_iconst (v := 3) hx hb dL_law_302 (by decide) ?_
    refine lv_iadd hx hb dL_law_303 ?_
    refine va_sld hx hb hX hbl hbA hS (by rw [show nI i + (3 : Int32) = nI (i + 3) from nI_add i 3]; exact vp_in_nI (by omega) (by omega)) dL_law_304 ?_
    refine lv_if_eq (tgt := 312) hx hb dL_law_305 (by decide) (fun c_3 => ?_) (fun c_3 => ?_)
    · refine lv_iconst (v := 0) hx hb dL_law_312 (by decide) ?_
      have hP1 : va_P D vwCl ((mw hm cZ q ++ lo ho cL f) ++ cw hc w) H := by rw [List.append_assoc]; exact hP
      have hD1 : va_D (fun q : Nat => s.heap.size ≤ q) ((mw hm cZ q ++ lo ho cL f) ++ cw hc w) := by rw [List.append_assoc]; exact hD
      refine kb_calliR (wf := cw hc) (wr := mw hm cZ q ++ lo ho cL f) (r := (exv (F_D_pump w (xs (((nI i) + (1 : Int32))).toNatClampNeg) (1 : Int32) (0 : Int32)) w).1) (u := (exv (F_D_pump w (xs (((nI i) + (1 : Int32))).toNatClampNeg) (1 : Int32) (0 : Int32)) w).2) (kw_run (n := 4) (As := [.ref (hc 0), .int (xs (((nI i) + (1 : Int32))).toNatClampNeg), .int 1, .int 0]) (rest := []) hx hb hml hown hN (c_L_pump l hl0 D hc _ w (xs (((nI i) + (1 : Int32))).toNatClampNeg) (1 : Int32) (0 : Int32) (by decide) (by decide)) q_408 q_406 q_407 q_32 (by decide +kernel) rfl rfl ⟨Nat.le_of_ble_eq_true rfl, Nat.le_of_ble_eq_true rfl⟩ (kt_preS hN hT hKc (wp_r hP1) (wd_r hD1) hS hA) rfl rfl hl.1 rfl (lv_room (Nat.le_of_ble_eq_true rfl)) dL_law_313 ⟨show cells + 0 + 1 ≤ 1055 by omega, show slots + 0 + 6 ≤ 8411 by omega⟩) hP1 hD1 hS hA (fun H locs hP hD hS => ?_)
      rw [List.append_assoc] at hP hD
      have hP : va_P D vwCl (mw hm cZ q ++ cwo hc ho cL ((exv (F_D_pump w (xs (((nI i) + (1 : Int32))).toNatClampNeg) (1 : Int32) (0 : Int32)) w).2, f)) H := hP
      have hD : va_D (fun q : Nat => s.heap.size ≤ q) (mw hm cZ q ++ cwo hc ho cL ((exv (F_D_pump w (xs (((nI i) + (1 : Int32))).toNatClampNeg) (1 : Int32) (0 : Int32)) w).2, f)) := hD
      refine lv_istore (lv' := [(5, .int (exv (F_D_pump w (xs (((nI i) + (1 : Int32))).toNatClampNeg) (1 : Int32) (0 : Int32)) w).1), (0, .ref b), (1, .ref (hc 0)), (2, .ref (hm 0)), (3, .ref ho), (4, .int (nI i))]) hx hb dL_law_316 hl (by decide) rfl (fun ls hl => ?_)
      refine lv_aload_n hx hb dL_law_318 rfl (lv_at hl 3 rfl) ?_
      refine lv_aload_n hx hb dL_law_319 rfl (lv_at hl 1 rfl) ?_
      refine lv_iload hx hb dL_law_320 (lv_at hl 5 rfl) ?_
      refine lv_iconst (v := 1) hx hb dL_law_322 (by decide) ?_
      refine lv_iadd hx hb dL_law_323 ?_
      refine va_sld hx hb hX hbl hbA hS (by rw [show nI i + (1 : Int32) = nI (i + 1) from nI_add i 1]; exact vp_in_nI (by omega) (by omega)) dL_law_324 ?_
      refine lv_aload_n hx hb dL_law_325 rfl (lv_at hl 1 rfl) ?_
      refine lv_iload hx hb dL_law_326 (lv_at hl 5 rfl) ?_
      refine lv_iconst (v := 2) hx hb dL_law_328 (by decide) ?_
      refine lv_iadd hx hb dL_law_329 ?_
      refine va_sld hx hb hX hbl hbA hS (by rw [show nI i + (2 : Int32) = nI (i + 2) from nI_add i 2]; exact vp_in_nI (by omega) (by omega)) dL_law_330 ?_
      refine lv_if_eq (tgt := 338) hx hb dL_law_331 (by decide) (fun c9 => absurd c9 c_1) (fun _ => ?_)
      refine lv_iconst (v := 1) hx hb dL_law_334 (by decide) ?_
      refine lv_goto (tgt := 339) hx hb dL_law_335 (by decide) ?_
      refine lv_aload_n hx hb dL_law_339 rfl (lv_at hl 1 rfl) ?_
      refine lv_iload hx hb dL_law_340 (lv_at hl 5 rfl) ?_
      refine lv_iconst (v := 3) hx hb dL_law_342 (by decide) ?_
      refine lv_iadd hx hb dL_law_343 ?_
      refine va_sld hx hb hX hbl hbA hS (by rw [show nI i + (3 : Int32) = nI (i + 3) from nI_add i 3]; exact vp_in_nI (by omega) (by omega)) dL_law_344 ?_
      refine lv_if_eq (tgt := 352) hx hb dL_law_345 (by decide) (fun _ => ?_) (fun c9 => absurd c_3 c9)
      refine lv_iconst (v := 0) hx hb dL_law_352 (by decide) ?_
      have hP1 := wp_sw hP
      have hD1 := wd_sw hD
      refine kb_callvR (wf := mw hm cZ) (wr := cwo hc ho cL ((exv (F_D_pump w (xs (((nI i) + (1 : Int32))).toNatClampNeg) (1 : Int32) (0 : Int32)) w).2, f)) (u := F_X_pump q (xs (((nI i) + (1 : Int32))).toNatClampNeg) (1 : Int32) (0 : Int32)) (va_runV (As := [.int (xs (((nI i) + (1 : Int32))).toNatClampNeg), .int 1, .int 0]) (rest := []) ⟨hx, hb, hml, hown, hts⟩ (c_X_pump l D hm cZ _ q (xs (((nI i) + (1 : Int32))).toNatClampNeg) (1 : Int32) (0 : Int32) (by decide) (by decide) ) (cwV 3 hts (gd_V q_799 q_800 q_801 q_40 q_802) rfl rfl rfl (by decide +kernel) ⟨Nat.le_of_ble_eq_true rfl, Nat.le_of_ble_eq_true rfl⟩) (kb_preV hN hKm (wp_r hP1) (wd_r hD1) (va_recv hKm (wp_r hP1) (ci := 7) (q0 := 0) rfl rfl)) rfl rfl hl.1 rfl (lv_room (Nat.le_of_ble_eq_true rfl)) dL_law_353 ⟨show cells + 0 + 1 + 0 ≤ 1055 by omega, show slots + 0 + 6 + 0 ≤ 8411 by omega⟩) hP1 hD1 hS hA (fun H locs hP hD hS => ?_)
      have hP := wp_sw hP
      have hD := wd_sw hD
      have hp := P_pump hR (xs (((nI i) + (1 : Int32))).toNatClampNeg) (1 : Int32) (0 : Int32) (by decide) (by decide)
      refine lv_aload_n hx hb dL_law_356 rfl (lv_at hl 3 rfl) ?_
      have hP1 := wp_sw hP
      have hD1 := wd_sw hD
      refine kb_calliR (wf := mw hm cZ) (wr := cwo hc ho cL ((exv (F_D_pump w (xs (((nI i) + (1 : Int32))).toNatClampNeg) (1 : Int32) (0 : Int32)) w).2, f)) (r := F_X_thrown (F_X_pump q (xs (((nI i) + (1 : Int32))).toNatClampNeg) (1 : Int32) (0 : Int32))) (u := (F_X_pump q (xs (((nI i) + (1 : Int32))).toNatClampNeg) (1 : Int32) (0 : Int32))) (va_runV (As := []) (rest := []) ⟨hx, hb, hml, hown, hts⟩ (c_X_thrown l D hm cZ _ (F_X_pump q (xs (((nI i) + (1 : Int32))).toNatClampNeg) (1 : Int32) (0 : Int32))   ) (cwV 0 hts (gd_V q_774 q_775 q_776 q_40 q_777) rfl rfl rfl (by decide +kernel) ⟨Nat.le_of_ble_eq_true rfl, Nat.le_of_ble_eq_true rfl⟩) (kb_preV hN hKm (wp_r hP1) (wd_r hD1) (va_recv hKm (wp_r hP1) (ci := 7) (q0 := 0) rfl rfl)) rfl rfl hl.1 rfl (lv_room (Nat.le_of_ble_eq_true rfl)) dL_law_357 ⟨show cells + 0 + 1 + 0 + 0 ≤ 1055 by omega, show slots + 0 + 6 + 0 + 0 ≤ 8411 by omega⟩) hP1 hD1 hS hA (fun H locs hP hD hS => ?_)
      have hP := wp_sw hP
      have hD := wd_sw hD
      refine lv_iload hx hb dL_law_360 (lv_at hl 0 rfl) ?_
      refine lv_icmp_eq (tgt := 367) hx hb dL_law_362 (by decide) (fun _ => ?_) (fun c9 => absurd hp.1 c9)
      refine lv_goto (tgt := 626) hx hb dL_law_367 (by decide) ?_
      refine W.widen (k := cells + 1) (n := slots + 6) (by omega) (by omega) ?_
      exact kk ((exv (F_D_pump w (xs (((nI i) + (1 : Int32))).toNatClampNeg) (1 : Int32) (0 : Int32)) w).2) f (F_X_pump q (xs (((nI i) + (1 : Int32))).toNatClampNeg) (1 : Int32) (0 : Int32)) _ _ _ hp.2 hP hD hS (lv_sub hl [1, 2, 3, 4, 5] rfl)
    · refine lv_iconst (v := 1) hx hb dL_law_308 (by decide) ?_
      refine lv_goto (tgt := 313) hx hb dL_law_309 (by decide) ?_
      have hP1 : va_P D vwCl ((mw hm cZ q ++ lo ho cL f) ++ cw hc w) H := by rw [List.append_assoc]; exact hP
      have hD1 : va_D (fun q : Nat => s.heap.size ≤ q) ((mw hm cZ q ++ lo ho cL f) ++ cw hc w) := by rw [List.append_assoc]; exact hD
      refine kb_calliR (wf := cw hc) (wr := mw hm cZ q ++ lo ho cL f) (r := (exv (F_D_pump w (xs (((nI i) + (1 : Int32))).toNatClampNeg) (1 : Int32) (1 : Int32)) w).1) (u := (exv (F_D_pump w (xs (((nI i) + (1 : Int32))).toNatClampNeg) (1 : Int32) (1 : Int32)) w).2) (kw_run (n := 4) (As := [.ref (hc 0), .int (xs (((nI i) + (1 : Int32))).toNatClampNeg), .int 1, .int 1]) (rest := []) hx hb hml hown hN (c_L_pump l hl0 D hc _ w (xs (((nI i) + (1 : Int32))).toNatClampNeg) (1 : Int32) (1 : Int32) (by decide) (by decide)) q_408 q_406 q_407 q_32 (by decide +kernel) rfl rfl ⟨Nat.le_of_ble_eq_true rfl, Nat.le_of_ble_eq_true rfl⟩ (kt_preS hN hT hKc (wp_r hP1) (wd_r hD1) hS hA) rfl rfl hl.1 rfl (lv_room (Nat.le_of_ble_eq_true rfl)) dL_law_313 ⟨show cells + 0 + 1 ≤ 1055 by omega, show slots + 0 + 6 ≤ 8411 by omega⟩) hP1 hD1 hS hA (fun H locs hP hD hS => ?_)
      rw [List.append_assoc] at hP hD
      have hP : va_P D vwCl (mw hm cZ q ++ cwo hc ho cL ((exv (F_D_pump w (xs (((nI i) + (1 : Int32))).toNatClampNeg) (1 : Int32) (1 : Int32)) w).2, f)) H := hP
      have hD : va_D (fun q : Nat => s.heap.size ≤ q) (mw hm cZ q ++ cwo hc ho cL ((exv (F_D_pump w (xs (((nI i) + (1 : Int32))).toNatClampNeg) (1 : Int32) (1 : Int32)) w).2, f)) := hD
      refine lv_istore (lv' := [(5, .int (exv (F_D_pump w (xs (((nI i) + (1 : Int32))).toNatClampNeg) (1 : Int32) (1 : Int32)) w).1), (0, .ref b), (1, .ref (hc 0)), (2, .ref (hm 0)), (3, .ref ho), (4, .int (nI i))]) hx hb dL_law_316 hl (by decide) rfl (fun ls hl => ?_)
      refine lv_aload_n hx hb dL_law_318 rfl (lv_at hl 3 rfl) ?_
      refine lv_aload_n hx hb dL_law_319 rfl (lv_at hl 1 rfl) ?_
      refine lv_iload hx hb dL_law_320 (lv_at hl 5 rfl) ?_
      refine lv_iconst (v := 1) hx hb dL_law_322 (by decide) ?_
      refine lv_iadd hx hb dL_law_323 ?_
      refine va_sld hx hb hX hbl hbA hS (by rw [show nI i + (1 : Int32) = nI (i + 1) from nI_add i 1]; exact vp_in_nI (by omega) (by omega)) dL_law_324 ?_
      refine lv_aload_n hx hb dL_law_325 rfl (lv_at hl 1 rfl) ?_
      refine lv_iload hx hb dL_law_326 (lv_at hl 5 rfl) ?_
      refine lv_iconst (v := 2) hx hb dL_law_328 (by decide) ?_
      refine lv_iadd hx hb dL_law_329 ?_
      refine va_sld hx hb hX hbl hbA hS (by rw [show nI i + (2 : Int32) = nI (i + 2) from nI_add i 2]; exact vp_in_nI (by omega) (by omega)) dL_law_330 ?_
      refine lv_if_eq (tgt := 338) hx hb dL_law_331 (by decide) (fun c9 => absurd c9 c_1) (fun _ => ?_)
      refine lv_iconst (v := 1) hx hb dL_law_334 (by decide) ?_
      refine lv_goto (tgt := 339) hx hb dL_law_335 (by decide) ?_
      refine lv_aload_n hx hb dL_law_339 rfl (lv_at hl 1 rfl) ?_
      refine lv_iload hx hb dL_law_340 (lv_at hl 5 rfl) ?_
      refine lv_iconst (v := 3) hx hb dL_law_342 (by decide) ?_
      refine lv_iadd hx hb dL_law_343 ?_
      refine va_sld hx hb hX hbl hbA hS (by rw [show nI i + (3 : Int32) = nI (i + 3) from nI_add i 3]; exact vp_in_nI (by omega) (by omega)) dL_law_344 ?_
      refine lv_if_eq (tgt := 352) hx hb dL_law_345 (by decide) (fun c9 => absurd c9 c_3) (fun _ => ?_)
      refine lv_iconst (v := 1) hx hb dL_law_348 (by decide) ?_
      refine lv_goto (tgt := 353) hx hb dL_law_349 (by decide) ?_
      have hP1 := wp_sw hP
      have hD1 := wd_sw hD
      refine kb_callvR (wf := mw hm cZ) (wr := cwo hc ho cL ((exv (F_D_pump w (xs (((nI i) + (1 : Int32))).toNatClampNeg) (1 : Int32) (1 : Int32)) w).2, f)) (u := F_X_pump q (xs (((nI i) + (1 : Int32))).toNatClampNeg) (1 : Int32) (1 : Int32)) (va_runV (As := [.int (xs (((nI i) + (1 : Int32))).toNatClampNeg), .int 1, .int 1]) (rest := []) ⟨hx, hb, hml, hown, hts⟩ (c_X_pump l D hm cZ _ q (xs (((nI i) + (1 : Int32))).toNatClampNeg) (1 : Int32) (1 : Int32) (by decide) (by decide) ) (cwV 3 hts (gd_V q_799 q_800 q_801 q_40 q_802) rfl rfl rfl (by decide +kernel) ⟨Nat.le_of_ble_eq_true rfl, Nat.le_of_ble_eq_true rfl⟩) (kb_preV hN hKm (wp_r hP1) (wd_r hD1) (va_recv hKm (wp_r hP1) (ci := 7) (q0 := 0) rfl rfl)) rfl rfl hl.1 rfl (lv_room (Nat.le_of_ble_eq_true rfl)) dL_law_353 ⟨show cells + 0 + 1 + 0 ≤ 1055 by omega, show slots + 0 + 6 + 0 ≤ 8411 by omega⟩) hP1 hD1 hS hA (fun H locs hP hD hS => ?_)
      have hP := wp_sw hP
      have hD := wd_sw hD
      have hp := P_pump hR (xs (((nI i) + (1 : Int32))).toNatClampNeg) (1 : Int32) (1 : Int32) (by decide) (by decide)
      refine lv_aload_n hx hb dL_law_356 rfl (lv_at hl 3 rfl) ?_
      have hP1 := wp_sw hP
      have hD1 := wd_sw hD
      refine kb_calliR (wf := mw hm cZ) (wr := cwo hc ho cL ((exv (F_D_pump w (xs (((nI i) + (1 : Int32))).toNatClampNeg) (1 : Int32) (1 : Int32)) w).2, f)) (r := F_X_thrown (F_X_pump q (xs (((nI i) + (1 : Int32))).toNatClampNeg) (1 : Int32) (1 : Int32))) (u := (F_X_pump q (xs (((nI i) + (1 : Int32))).toNatClampNeg) (1 : Int32) (1 : Int32))) (va_runV (As := []) (rest := []) ⟨hx, hb, hml, hown, hts⟩ (c_X_thrown l D hm cZ _ (F_X_pump q (xs (((nI i) + (1 : Int32))).toNatClampNeg) (1 : Int32) (1 : Int32))   ) (cwV 0 hts (gd_V q_774 q_775 q_776 q_40 q_777) rfl rfl rfl (by decide +kernel) ⟨Nat.le_of_ble_eq_true rfl, Nat.le_of_ble_eq_true rfl⟩) (kb_preV hN hKm (wp_r hP1) (wd_r hD1) (va_recv hKm (wp_r hP1) (ci := 7) (q0 := 0) rfl rfl)) rfl rfl hl.1 rfl (lv_room (Nat.le_of_ble_eq_true rfl)) dL_law_357 ⟨show cells + 0 + 1 + 0 + 0 ≤ 1055 by omega, show slots + 0 + 6 + 0 + 0 ≤ 8411 by omega⟩) hP1 hD1 hS hA (fun H locs hP hD hS => ?_)
      have hP := wp_sw hP
      have hD := wd_sw hD
      refine lv_iload hx hb dL_law_360 (lv_at hl 0 rfl) ?_
      refine lv_icmp_eq (tgt := 367) hx hb dL_law_362 (by decide) (fun _ => ?_) (fun c9 => absurd hp.1 c9)
      refine lv_goto (tgt := 626) hx hb dL_law_367 (by decide) ?_
      refine W.widen (k := cells + 1) (n := slots + 6) (by omega) (by omega) ?_
      exact kk ((exv (F_D_pump w (xs (((nI i) + (1 : Int32))).toNatClampNeg) (1 : Int32) (1 : Int32)) w).2) f (F_X_pump q (xs (((nI i) + (1 : Int32))).toNatClampNeg) (1 : Int32) (1 : Int32)) _ _ _ hp.2 hP hD hS (lv_sub hl [1, 2, 3, 4, 5] rfl)
set_option maxHeartbeats 4000000 in
set_option maxRecDepth 100000 in
theorem law_case_4 {p : Program} {l : Launch} {e : Env} {s : State} {m : MethodId} {below : List Frame} {meth : Method} {c : Code} {b L : Nat} {xs : Nat → Int32} (hl0 : l.stackTraces = false) (hL : L ≤ 5120) (C0 : lw_At p s m meth c b L xs) (hT : kt_W s ∧ kt_Z (fun q : Nat => s.heap.size ≤ q) s s.heap) {D : va_G} {hc hm : Nat → Nat} {ho : Nat} {cL cZ : ClassId} (hK : va_K D vwCl [(cZ, .boolean), (cL, .long)] s) {i : Nat} (hi : i + 10 ≤ L) {cells slots : Nat} (hce : cells + 1 ≤ 1055) (hsl : slots + 6 ≤ 8411) {w : Nat → Int32} {f : Nat → Int64} {q : (Nat → Int32) × (Nat → Nat → Int32)} (hR : Rel w q) {H : Heap} {locs : List Loc} {ls : Array Slot} (hP : va_P D vwCl (mw hm cZ q ++ cwo hc ho cL (w, f)) H) (hD : va_D (fun q : Nat => s.heap.size ≤ q) (mw hm cZ q ++ cwo hc ho cL (w, f))) (hS : va_S (fun q : Nat => s.heap.size ≤ q) s.heap H locs) (hl : lv_has ls 7 [(0, .ref b), (1, .ref (hc 0)), (2, .ref (hm 0)), (3, .ref ho), (4, .int (nI i))]) (kk : ∀ (w' : Nat → Int32) (f' : Nat → Int64) (q' : (Nat → Int32) × (Nat → Nat → Int32)) (H1 : Heap) (locs1 : List Loc) (ls1 : Array Slot), Rel w' q' → va_P D vwCl (mw hm cZ q' ++ cwo hc ho cL (w', f')) H1 → va_D (fun q : Nat => s.heap.size ≤ q) (mw hm cZ q' ++ cwo hc ho cL (w', f')) → va_S (fun q : Nat => s.heap.size ≤ q) s.heap H1 locs1 → lv_has ls1 7 [(0, .ref b), (1, .ref (hc 0)), (2, .ref (hm 0)), (3, .ref ho), (4, .int (nI i))] → W p l e room_1 s m #[Value.ref b] below meth c H1 locs1 (cells + 1) (slots + 6) (lw_Z below #[Value.ref b] s) (F0 m 626 ls1 [])) : W p l e room_1 s m #[Value.ref b] below meth c H locs (cells) (slots) (lw_Z below #[Value.ref b] s) (F0 m 370 ls []) := by
  obtain ⟨hx, hb, hr, hml, hown, hts0, hX, hbl, hlocks, hgv⟩ := id C0
  have hN : kb_N s := kb_N.of hts0
  have hts := hN.ts #[Value.ref b]
  have hown : s.vm.findClass "BoilerDeskLaw" = some m.cls := hown
  have hA : ∀ q : Nat, s.heap.size ≤ q → (fun q : Nat => s.heap.size ≤ q) q := fun _ h => h
  have hbA : ¬ (fun q : Nat => s.heap.size ≤ q) b := Nat.not_le.mpr hbl
  have hKc := hK.sub (tys' := []) [] rfl
  have hKm := hK.sub (tys' := [(cZ, .boolean)]) [0] rfl
  have hKo := hK.sub (tys' := [(cL, .long)]) [1] rfl
  refine lv_aload_n hx hb dL_law_370 rfl (lv_at hl 1 rfl) ?_
  refine lv_aload_n hx hb dL_law_371 rfl (lv_at hl 0 rfl) ?_
  refine lv_iload hx hb dL_law_372 (lv_at hl 4 rfl) ?_
  refine lv_iconst (v := 1) hx hb dL_law_374 (by decide) ?_
  refine lv_iadd hx hb dL_law_375 ?_
  refine va_sld hx hb hX hbl hbA hS (by rw [show nI i + (1 : Int32) = nI (i + 1) from nI_add i 1]; exact vp_in_nI (by omega) (by omega)) dL_law_376 ?_
  have hP1 : va_P D vwCl ((mw hm cZ q ++ lo ho cL f) ++ cw hc w) H := by rw [List.append_assoc]; exact hP
  have hD1 : va_D (fun q : Nat => s.heap.size ≤ q) ((mw hm cZ q ++ lo ho cL f) ++ cw hc w) := by rw [List.append_assoc]; exact hD
  refine kb_calliR (wf := cw hc) (wr := mw hm cZ q ++ lo ho cL f) (r := (exv (F_D_say w (xs (((nI i) + (1 : Int32))).toNatClampNeg)) w).1) (u := (exv (F_D_say w (xs (((nI i) + (1 : Int32))).toNatClampNeg)) w).2) (kw_run (n := 2) (As := [.ref (hc 0), .int (xs (((nI i) + (1 : Int32))).toNatClampNeg)]) (rest := []) hx hb hml hown hN (c_L_say l hl0 D hc _ w (xs (((nI i) + (1 : Int32))).toNatClampNeg) ) q_419 q_417 q_418 q_32 (by decide +kernel) rfl rfl ⟨Nat.le_of_ble_eq_true rfl, Nat.le_of_ble_eq_true rfl⟩ (kt_preS hN hT hKc (wp_r hP1) (wd_r hD1) hS hA) rfl rfl hl.1 rfl (lv_room (Nat.le_of_ble_eq_true rfl)) dL_law_377 ⟨show cells + 0 + 1 ≤ 1055 by omega, show slots + 0 + 6 ≤ 8411 by omega⟩) hP1 hD1 hS hA (fun H locs hP hD hS => ?_)
  rw [List.append_assoc] at hP hD
  have hP : va_P D vwCl (mw hm cZ q ++ cwo hc ho cL ((exv (F_D_say w (xs (((nI i) + (1 : Int32))).toNatClampNeg)) w).2, f)) H := hP
  have hD : va_D (fun q : Nat => s.heap.size ≤ q) (mw hm cZ q ++ cwo hc ho cL ((exv (F_D_say w (xs (((nI i) + (1 : Int32))).toNatClampNeg)) w).2, f)) := hD
  refine lv_istore (lv' := [(5, .int (exv (F_D_say w (xs (((nI i) + (1 : Int32))).toNatClampNeg)) w).1), (0, .ref b), (1, .ref (hc 0)), (2, .ref (hm 0)), (3, .ref ho), (4, .int (nI i))]) hx hb dL_law_380 hl (by decide) rfl (fun ls hl => ?_)
  refine lv_aload_n hx hb dL_law_382 rfl (lv_at hl 3 rfl) ?_
  refine lv_aload_n hx hb dL_law_383 rfl (lv_at hl 1 rfl) ?_
  refine lv_iload hx hb dL_law_384 (lv_at hl 5 rfl) ?_
  refine lv_iconst (v := 1) hx hb dL_law_386 (by decide) ?_
  refine lv_iadd hx hb dL_law_387 ?_
  refine va_sld hx hb hX hbl hbA hS (by rw [show nI i + (1 : Int32) = nI (i + 1) from nI_add i 1]; exact vp_in_nI (by omega) (by omega)) dL_law_388 ?_
  have hP1 := wp_sw hP
  have hD1 := wd_sw hD
  refine kb_callvR (wf := mw hm cZ) (wr := cwo hc ho cL ((exv (F_D_say w (xs (((nI i) + (1 : Int32))).toNatClampNeg)) w).2, f)) (u := F_X_say q (xs (((nI i) + (1 : Int32))).toNatClampNeg)) (va_runV (As := [.int (xs (((nI i) + (1 : Int32))).toNatClampNeg)]) (rest := []) ⟨hx, hb, hml, hown, hts⟩ (c_X_say l D hm cZ _ q (xs (((nI i) + (1 : Int32))).toNatClampNeg)  ) (cwV 1 hts (gd_V q_803 q_804 q_805 q_40 q_806) rfl rfl rfl (by decide +kernel) ⟨Nat.le_of_ble_eq_true rfl, Nat.le_of_ble_eq_true rfl⟩) (kb_preV hN hKm (wp_r hP1) (wd_r hD1) (va_recv hKm (wp_r hP1) (ci := 7) (q0 := 0) rfl rfl)) rfl rfl hl.1 rfl (lv_room (Nat.le_of_ble_eq_true rfl)) dL_law_389 ⟨show cells + 0 + 1 + 0 ≤ 1055 by omega, show slots + 0 + 6 + 0 ≤ 8411 by omega⟩) hP1 hD1 hS hA (fun H locs hP hD hS => ?_)
  have hP := wp_sw hP
  have hD := wd_sw hD
  have hp := P_say hR (xs (((nI i) + (1 : Int32))).toNatClampNeg) 
  refine lv_aload_n hx hb dL_law_392 rfl (lv_at hl 3 rfl) ?_
  have hP1 := wp_sw hP
  have hD1 := wd_sw hD
  refine kb_calliR (wf := mw hm cZ) (wr := cwo hc ho cL ((exv (F_D_say w (xs (((nI i) + (1 : Int32))).toNatClampNeg)) w).2, f)) (r := F_X_thrown (F_X_say q (xs (((nI i) + (1 : Int32))).toNatClampNeg))) (u := (F_X_say q (xs (((nI i) + (1 : Int32))).toNatClampNeg))) (va_runV (As := []) (rest := []) ⟨hx, hb, hml, hown, hts⟩ (c_X_thrown l D hm cZ _ (F_X_say q (xs (((nI i) + (1 : Int32))).toNatClampNeg))   ) (cwV 0 hts (gd_V q_774 q_775 q_776 q_40 q_777) rfl rfl rfl (by decide +kernel) ⟨Nat.le_of_ble_eq_true rfl, Nat.le_of_ble_eq_true rfl⟩) (kb_preV hN hKm (wp_r hP1) (wd_r hD1) (va_recv hKm (wp_r hP1) (ci := 7) (q0 := 0) rfl rfl)) rfl rfl hl.1 rfl (lv_room (Nat.le_of_ble_eq_true rfl)) dL_law_393 ⟨show cells + 0 + 1 + 0 + 0 ≤ 1055 by omega, show slots + 0 + 6 + 0 + 0 ≤ 8411 by omega⟩) hP1 hD1 hS hA (fun H locs hP hD hS => ?_)
  have hP := wp_sw hP
  have hD := wd_sw hD
  refine lv_iload hx hb dL_law_396 (lv_at hl 0 rfl) ?_
  refine lv_icmp_eq (tgt := 403) hx hb dL_law_398 (by decide) (fun _ => ?_) (fun c9 => absurd hp.1 c9)
  refine lv_goto (tgt := 626) hx hb dL_law_403 (by decide) ?_
  refine W.widen (k := cells + 1) (n := slots + 6) (by omega) (by omega) ?_
  exact kk ((exv (F_D_say w (xs (((nI i) + (1 : Int32))).toNatClampNeg)) w).2) f (F_X_say q (xs (((nI i) + (1 : Int32))).toNatClampNeg)) _ _ _ hp.2 hP hD hS (lv_sub hl [1, 2, 3, 4, 5] rfl)
set_option maxHeartbeats 4000000 in
set_option maxRecDepth 100000 in
theorem law_case_5 {p : Program} {l : Launch} {e : Env} {s : State} {m : MethodId} {below : List Frame} {meth : Method} {c : Code} {b L : Nat} {xs : Nat → Int32} (hl0 : l.stackTraces = false) (hL : L ≤ 5120) (C0 : lw_At p s m meth c b L xs) (hT : kt_W s ∧ kt_Z (fun q : Nat => s.heap.size ≤ q) s s.heap) {D : va_G} {hc hm : Nat → Nat} {ho : Nat} {cL cZ : ClassId} (hK : va_K D vwCl [(cZ, .boolean), (cL, .long)] s) {i : Nat} (hi : i + 10 ≤ L) {cells slots : Nat} (hce : cells + 1 ≤ 1055) (hsl : slots + 6 ≤ 8411) {w : Nat → Int32} {f : Nat → Int64} {q : (Nat → Int32) × (Nat → Nat → Int32)} (hR : Rel w q) {H : Heap} {locs : List Loc} {ls : Array Slot} (hP : va_P D vwCl (mw hm cZ q ++ cwo hc ho cL (w, f)) H) (hD : va_D (fun q : Nat => s.heap.size ≤ q) (mw hm cZ q ++ cwo hc ho cL (w, f))) (hS : va_S (fun q : Nat => s.heap.size ≤ q) s.heap H locs) (hl : lv_has ls 7 [(0, .ref b), (1, .ref (hc 0)), (2, .ref (hm 0)), (3, .ref ho), (4, .int (nI i))]) (kk : ∀ (w' : Nat → Int32) (f' : Nat → Int64) (q' : (Nat → Int32) × (Nat → Nat → Int32)) (H1 : Heap) (locs1 : List Loc) (ls1 : Array Slot), Rel w' q' → va_P D vwCl (mw hm cZ q' ++ cwo hc ho cL (w', f')) H1 → va_D (fun q : Nat => s.heap.size ≤ q) (mw hm cZ q' ++ cwo hc ho cL (w', f')) → va_S (fun q : Nat => s.heap.size ≤ q) s.heap H1 locs1 → lv_has ls1 7 [(0, .ref b), (1, .ref (hc 0)), (2, .ref (hm 0)), (3, .ref ho), (4, .int (nI i))] → W p l e room_1 s m #[Value.ref b] below meth c H1 locs1 (cells + 1) (slots + 6) (lw_Z below #[Value.ref b] s) (F0 m 626 ls1 [])) : W p l e room_1 s m #[Value.ref b] below meth c H locs (cells) (slots) (lw_Z below #[Value.ref b] s) (F0 m 406 ls []) := by
  obtain ⟨hx, hb, hr, hml, hown, hts0, hX, hbl, hlocks, hgv⟩ := id C0
  have hN : kb_N s := kb_N.of hts0
  have hts := hN.ts #[Value.ref b]
  have hown : s.vm.findClass "BoilerDeskLaw" = some m.cls := hown
  have hA : ∀ q : Nat, s.heap.size ≤ q → (fun q : Nat => s.heap.size ≤ q) q := fun _ h => h
  have hbA : ¬ (fun q : Nat => s.heap.size ≤ q) b := Nat.not_le.mpr hbl
  have hKc := hK.sub (tys' := []) [] rfl
  have hKm := hK.sub (tys' := [(cZ, .boolean)]) [0] rfl
  have hKo := hK.sub (tys' := [(cL, .long)]) [1] rfl
  refine lv_aload_n hx hb dL_law_406 rfl (lv_at hl 1 rfl) ?_
  refine lv_aload_n hx hb dL_law_407 rfl (lv_at hl 0 rfl) ?_
  refine lv_iload hx hb dL_law_408 (lv_at hl 4 rfl) ?_
  refine lv_iconst (v := 1) hx hb dL_law_410 (by decide) ?_
  refine lv_iadd hx hb dL_law_411 ?_
  refine va_sld hx hb hX hbl hbA hS (by rw [show nI i + (1 : Int32) = nI (i + 1) from nI_add i 1]; exact vp_in_nI (by omega) (by omega)) dL_law_412 ?_
  refine lv_aload_n hx hb dL_law_413 rfl (lv_at hl 0 rfl) ?_
  refine lv_iload hx hb dL_law_414 (lv_at hl 4 rfl) ?_
  refine lv_iconst (v := 2) hx hb dL_law_416 (by decide) ?_
  refine lv_iadd hx hb dL_law_417 ?_
  refine va_sld hx hb hX hbl hbA hS (by rw [show nI i + (2 : Int32) = nI (i + 2) from nI_add i 2]; exact vp_in_nI (by omega) (by omega)) dL_law_418 ?_
  refine lv_if_eq (tgt := 426) hx hb dL_law_419 (by decide) (fun c_4 => ?_) (fun c_4 => ?_)
  · refine lv_iconst (v := 0) hx hb dL_law_426 (by decide) ?_
    have hP1 : va_P D vwCl ((mw hm cZ q ++ lo ho cL f) ++ cw hc w) H := by rw [List.append_assoc]; exact hP
    have hD1 : va_D (fun q : Nat => s.heap.size ≤ q) ((mw hm cZ q ++ lo ho cL f) ++ cw hc w) := by rw [List.append_assoc]; exact hD
    refine kb_calliR (wf := cw hc) (wr := mw hm cZ q ++ lo ho cL f) (r := (exv (F_D_unit w (xs (((nI i) + (1 : Int32))).toNatClampNeg) (0 : Int32)) w).1) (u := (exv (F_D_unit w (xs (((nI i) + (1 : Int32))).toNatClampNeg) (0 : Int32)) w).2) (kw_run (n := 3) (As := [.ref (hc 0), .int (xs (((nI i) + (1 : Int32))).toNatClampNeg), .int 0]) (rest := []) hx hb hml hown hN (c_L_unit l hl0 D hc _ w (xs (((nI i) + (1 : Int32))).toNatClampNeg) (0 : Int32) (by decide)) q_427 q_425 q_426 q_32 (by decide +kernel) rfl rfl ⟨Nat.le_of_ble_eq_true rfl, Nat.le_of_ble_eq_true rfl⟩ (kt_preS hN hT hKc (wp_r hP1) (wd_r hD1) hS hA) rfl rfl hl.1 rfl (lv_room (Nat.le_of_ble_eq_true rfl)) dL_law_427 ⟨show cells + 0 + 1 ≤ 1055 by omega, show slots + 0 + 6 ≤ 8411 by omega⟩) hP1 hD1 hS hA (fun H locs hP hD hS => ?_)
    rw [List.append_assoc] at hP hD
    have hP : va_P D vwCl (mw hm cZ q ++ cwo hc ho cL ((exv (F_D_unit w (xs (((nI i) + (1 : Int32))).toNatClampNeg) (0 : Int32)) w).2, f)) H := hP
    have hD : va_D (fun q : Nat => s.heap.size ≤ q) (mw hm cZ q ++ cwo hc ho cL ((exv (F_D_unit w (xs (((nI i) + (1 : Int32))).toNatClampNeg) (0 : Int32)) w).2, f)) := hD
    refine lv_istore (lv' := [(5, .int (exv (F_D_unit w (xs (((nI i) + (1 : Int32))).toNatClampNeg) (0 : Int32)) w).1), (0, .ref b), (1, .ref (hc 0)), (2, .ref (hm 0)), (3, .ref ho), (4, .int (nI i))]) hx hb dL_law_430 hl (by decide) rfl (fun ls hl => ?_)
    refine lv_aload_n hx hb dL_law_432 rfl (lv_at hl 3 rfl) ?_
    refine lv_aload_n hx hb dL_law_433 rfl (lv_at hl 1 rfl) ?_
    refine lv_iload hx hb dL_law_434 (lv_at hl 5 rfl) ?_
    refine lv_iconst (v := 1) hx hb dL_law_436 (by decide) ?_
    refine lv_iadd hx hb dL_law_437 ?_
    refine va_sld hx hb hX hbl hbA hS (by rw [show nI i + (1 : Int32) = nI (i + 1) from nI_add i 1]; exact vp_in_nI (by omega) (by omega)) dL_law_438 ?_
    refine lv_aload_n hx hb dL_law_439 rfl (lv_at hl 1 rfl) ?_
    refine lv_iload hx hb dL_law_440 (lv_at hl 5 rfl) ?_
    refine lv_iconst (v := 2) hx hb dL_law_442 (by decide) ?_
    refine lv_iadd hx hb dL_law_443 ?_
    refine va_sld hx hb hX hbl hbA hS (by rw [show nI i + (2 : Int32) = nI (i + 2) from nI_add i 2]; exact vp_in_nI (by omega) (by omega)) dL_law_444 ?_
    refine lv_if_eq (tgt := 452) hx hb dL_law_445 (by decide) (fun _ => ?_) (fun c9 => absurd c_4 c9)
    refine lv_iconst (v := 0) hx hb dL_law_452 (by decide) ?_
    have hP1 := wp_sw hP
    have hD1 := wd_sw hD
    refine kb_callvR (wf := mw hm cZ) (wr := cwo hc ho cL ((exv (F_D_unit w (xs (((nI i) + (1 : Int32))).toNatClampNeg) (0 : Int32)) w).2, f)) (u := F_X_unit q (xs (((nI i) + (1 : Int32))).toNatClampNeg) (0 : Int32)) (va_runV (As := [.int (xs (((nI i) + (1 : Int32))).toNatClampNeg), .int 0]) (rest := []) ⟨hx, hb, hml, hown, hts⟩ (c_X_unit l D hm cZ _ q (xs (((nI i) + (1 : Int32))).toNatClampNeg) (0 : Int32) (by decide) ) (cwV 2 hts (gd_V q_807 q_808 q_809 q_40 q_810) rfl rfl rfl (by decide +kernel) ⟨Nat.le_of_ble_eq_true rfl, Nat.le_of_ble_eq_true rfl⟩) (kb_preV hN hKm (wp_r hP1) (wd_r hD1) (va_recv hKm (wp_r hP1) (ci := 7) (q0 := 0) rfl rfl)) rfl rfl hl.1 rfl (lv_room (Nat.le_of_ble_eq_true rfl)) dL_law_453 ⟨show cells + 0 + 1 + 0 ≤ 1055 by omega, show slots + 0 + 6 + 0 ≤ 8411 by omega⟩) hP1 hD1 hS hA (fun H locs hP hD hS => ?_)
    have hP := wp_sw hP
    have hD := wd_sw hD
    have hp := P_unit hR (xs (((nI i) + (1 : Int32))).toNatClampNeg) (0 : Int32) (by decide)
    refine lv_aload_n hx hb dL_law_456 rfl (lv_at hl 3 rfl) ?_
    have hP1 := wp_sw hP
    have hD1 := wd_sw hD
    refine kb_calliR (wf := mw hm cZ) (wr := cwo hc ho cL ((exv (F_D_unit w (xs (((nI i) + (1 : Int32))).toNatClampNeg) (0 : Int32)) w).2, f)) (r := F_X_thrown (F_X_unit q (xs (((nI i) + (1 : Int32))).toNatClampNeg) (0 : Int32))) (u := (F_X_unit q (xs (((nI i) + (1 : Int32))).toNatClampNeg) (0 : Int32))) (va_runV (As := []) (rest := []) ⟨hx, hb, hml, hown, hts⟩ (c_X_thrown l D hm cZ _ (F_X_unit q (xs (((nI i) + (1 : Int32))).toNatClampNeg) (0 : Int32))   ) (cwV 0 hts (gd_V q_774 q_775 q_776 q_40 q_777) rfl rfl rfl (by decide +kernel) ⟨Nat.le_of_ble_eq_true rfl, Nat.le_of_ble_eq_true rfl⟩) (kb_preV hN hKm (wp_r hP1) (wd_r hD1) (va_recv hKm (wp_r hP1) (ci := 7) (q0 := 0) rfl rfl)) rfl rfl hl.1 rfl (lv_room (Nat.le_of_ble_eq_true rfl)) dL_law_457 ⟨show cells + 0 + 1 + 0 + 0 ≤ 1055 by omega, show slots + 0 + 6 + 0 + 0 ≤ 8411 by omega⟩) hP1 hD1 hS hA (fun H locs hP hD hS => ?_)
    have hP := wp_sw hP
    have hD := wd_sw hD
    refine lv_iload hx hb dL_law_460 (lv_at hl 0 rfl) ?_
    refine lv_icmp_eq (tgt := 467) hx hb dL_law_462 (by decide) (fun _ => ?_) (fun c9 => absurd hp.1 c9)
    refine lv_goto (tgt := 626) hx hb dL_law_467 (by decide) ?_
    refine W.widen (k := cells + 1) (n := slots + 6) (by omega) (by omega) ?_
    exact kk ((exv (F_D_unit w (xs (((nI i) + (1 : Int32))).toNatClampNeg) (0 : Int32)) w).2) f (F_X_unit q (xs (((nI i) + (1 : Int32))).toNatClampNeg) (0 : Int32)) _ _ _ hp.2 hP hD hS (lv_sub hl [1, 2, 3, 4, 5] rfl)
  · refine lv_iconst (v := 1) hx hb dL_law_422 (by decide) ?_
    refine lv_goto (tgt := 427) hx hb dL_law_423 (by decide) ?_
    have hP1 : va_P D vwCl ((mw hm cZ q ++ lo ho cL f) ++ cw hc w) H := by rw [List.append_assoc]; exact hP
    have hD1 : va_D (fun q : Nat => s.heap.size ≤ q) ((mw hm cZ q ++ lo ho cL f) ++ cw hc w) := by rw [List.append_assoc]; exact hD
    refine kb_calliR (wf := cw hc) (wr := mw hm cZ q ++ lo ho cL f) (r := (exv (F_D_unit w (xs (((nI i) + (1 : Int32))).toNatClampNeg) (1 : Int32)) w).1) (u := (exv (F_D_unit w (xs (((nI i) + (1 : Int32))).toNatClampNeg) (1 : Int32)) w).2) (kw_run (n := 3) (As := [.ref (hc 0), .int (xs (((nI i) + (1 : Int32))).toNatClampNeg), .int 1]) (rest := []) hx hb hml hown hN (c_L_unit l hl0 D hc _ w (xs (((nI i) + (1 : Int32))).toNatClampNeg) (1 : Int32) (by decide)) q_427 q_425 q_426 q_32 (by decide +kernel) rfl rfl ⟨Nat.le_of_ble_eq_true rfl, Nat.le_of_ble_eq_true rfl⟩ (kt_preS hN hT hKc (wp_r hP1) (wd_r hD1) hS hA) rfl rfl hl.1 rfl (lv_room (Nat.le_of_ble_eq_true rfl)) dL_law_427 ⟨show cells + 0 + 1 ≤ 1055 by omega, show slots + 0 + 6 ≤ 8411 by omega⟩) hP1 hD1 hS hA (fun H locs hP hD hS => ?_)
    rw [List.append_assoc] at hP hD
    have hP : va_P D vwCl (mw hm cZ q ++ cwo hc ho cL ((exv (F_D_unit w (xs (((nI i) + (1 : Int32))).toNatClampNeg) (1 : Int32)) w).2, f)) H := hP
    have hD : va_D (fun q : Nat => s.heap.size ≤ q) (mw hm cZ q ++ cwo hc ho cL ((exv (F_D_unit w (xs (((nI i) + (1 : Int32))).toNatClampNeg) (1 : Int32)) w).2, f)) := hD
    refine lv_istore (lv' := [(5, .int (exv (F_D_unit w (xs (((nI i) + (1 : Int32))).toNatClampNeg) (1 : Int32)) w).1), (0, .ref b), (1, .ref (hc 0)), (2, .ref (hm 0)), (3, .ref ho), (4, .int (nI i))]) hx hb dL_law_430 hl (by decide) rfl (fun ls hl => ?_)
    refine lv_aload_n hx hb dL_law_432 rfl (lv_at hl 3 rfl) ?_
    refine lv_aload_n hx hb dL_law_433 rfl (lv_at hl 1 rfl) ?_
    refine lv_iload hx hb dL_law_434 (lv_at hl 5 rfl) ?_
    refine lv_iconst (v := 1) hx hb dL_law_436 (by decide) ?_
    refine lv_iadd hx hb dL_law_437 ?_
    refine va_sld hx hb hX hbl hbA hS (by rw [show nI i + (1 : Int32) = nI (i + 1) from nI_add i 1]; exact vp_in_nI (by omega) (by omega)) dL_law_438 ?_
    refine lv_aload_n hx hb dL_law_439 rfl (lv_at hl 1 rfl) ?_
    refine lv_iload hx hb dL_law_440 (lv_at hl 5 rfl) ?_
    refine lv_iconst (v := 2) hx hb dL_law_442 (by decide) ?_
    refine lv_iadd hx hb dL_law_443 ?_
    refine va_sld hx hb hX hbl hbA hS (by rw [show nI i + (2 : Int32) = nI (i + 2) from nI_add i 2]; exact vp_in_nI (by omega) (by omega)) dL_law_444 ?_
    refine lv_if_eq (tgt := 452) hx hb dL_law_445 (by decide) (fun c9 => absurd c9 c_4) (fun _ => ?_)
    refine lv_iconst (v := 1) hx hb dL_law_448 (by decide) ?_
    refine lv_goto (tgt := 453) hx hb dL_law_449 (by decide) ?_
    have hP1 := wp_sw hP
    have hD1 := wd_sw hD
    refine kb_callvR (wf := mw hm cZ) (wr := cwo hc ho cL ((exv (F_D_unit w (xs (((nI i) + (1 : Int32))).toNatClampNeg) (1 : Int32)) w).2, f)) (u := F_X_unit q (xs (((nI i) + (1 : Int32))).toNatClampNeg) (1 : Int32)) (va_runV (As := [.int (xs (((nI i) + (1 : Int32))).toNatClampNeg), .int 1]) (rest := []) ⟨hx, hb, hml, hown, hts⟩ (c_X_unit l D hm cZ _ q (xs (((nI i) + (1 : Int32))).toNatClampNeg) (1 : Int32) (by decide) ) (cwV 2 hts (gd_V q_807 q_808 q_809 q_40 q_810) rfl rfl rfl (by decide +kernel) ⟨Nat.le_of_ble_eq_true rfl, Nat.le_of_ble_eq_true rfl⟩) (kb_preV hN hKm (wp_r hP1) (wd_r hD1) (va_recv hKm (wp_r hP1) (ci := 7) (q0 := 0) rfl rfl)) rfl rfl hl.1 rfl (lv_room (Nat.le_of_ble_eq_true rfl)) dL_law_453 ⟨show cells + 0 + 1 + 0 ≤ 1055 by omega, show slots + 0 + 6 + 0 ≤ 8411 by omega⟩) hP1 hD1 hS hA (fun H locs hP hD hS => ?_)
    have hP := wp_sw hP
    have hD := wd_sw hD
    have hp := P_unit hR (xs (((nI i) + (1 : Int32))).toNatClampNeg) (1 : Int32) (by decide)
    refine lv_aload_n hx hb dL_law_456 rfl (lv_at hl 3 rfl) ?_
    have hP1 := wp_sw hP
    have hD1 := wd_sw hD
    refine kb_calliR (wf := mw hm cZ) (wr := cwo hc ho cL ((exv (F_D_unit w (xs (((nI i) + (1 : Int32))).toNatClampNeg) (1 : Int32)) w).2, f)) (r := F_X_thrown (F_X_unit q (xs (((nI i) + (1 : Int32))).toNatClampNeg) (1 : Int32))) (u := (F_X_unit q (xs (((nI i) + (1 : Int32))).toNatClampNeg) (1 : Int32))) (va_runV (As := []) (rest := []) ⟨hx, hb, hml, hown, hts⟩ (c_X_thrown l D hm cZ _ (F_X_unit q (xs (((nI i) + (1 : Int32))).toNatClampNeg) (1 : Int32))   ) (cwV 0 hts (gd_V q_774 q_775 q_776 q_40 q_777) rfl rfl rfl (by decide +kernel) ⟨Nat.le_of_ble_eq_true rfl, Nat.le_of_ble_eq_true rfl⟩) (kb_preV hN hKm (wp_r hP1) (wd_r hD1) (va_recv hKm (wp_r hP1) (ci := 7) (q0 := 0) rfl rfl)) rfl rfl hl.1 rfl (lv_room (Nat.le_of_ble_eq_true rfl)) dL_law_457 ⟨show cells + 0 + 1 + 0 + 0 ≤ 1055 by omega, show slots + 0 + 6 + 0 + 0 ≤ 8411 by omega⟩) hP1 hD1 hS hA (fun H locs hP hD hS => ?_)
    have hP := wp_sw hP
    have hD := wd_sw hD
    refine lv_iload hx hb dL_law_460 (lv_at hl 0 rfl) ?_
    refine lv_icmp_eq (tgt := 467) hx hb dL_law_462 (by decide) (fun _ => ?_) (fun c9 => absurd hp.1 c9)
    refine lv_goto (tgt := 626) hx hb dL_law_467 (by decide) ?_
    refine W.widen (k := cells + 1) (n := slots + 6) (by omega) (by omega) ?_
    exact kk ((exv (F_D_unit w (xs (((nI i) + (1 : Int32))).toNatClampNeg) (1 : Int32)) w).2) f (F_X_unit q (xs (((nI i) + (1 : Int32))).toNatClampNeg) (1 : Int32)) _ _ _ hp.2 hP hD hS (lv_sub hl [1, 2, 3, 4, 5] rfl)
set_option maxHeartbeats 4000000 in
set_option maxRecDepth 100000 in
theorem law_case_6 {p : Program} {l : Launch} {e : Env} {s : State} {m : MethodId} {below : List Frame} {meth : Method} {c : Code} {b L : Nat} {xs : Nat → Int32} (hl0 : l.stackTraces = false) (hL : L ≤ 5120) (C0 : lw_At p s m meth c b L xs) (hT : kt_W s ∧ kt_Z (fun q : Nat => s.heap.size ≤ q) s s.heap) {D : va_G} {hc hm : Nat → Nat} {ho : Nat} {cL cZ : ClassId} (hK : va_K D vwCl [(cZ, .boolean), (cL, .long)] s) {i : Nat} (hi : i + 10 ≤ L) {cells slots : Nat} (hce : cells + 1 ≤ 1055) (hsl : slots + 6 ≤ 8411) {w : Nat → Int32} {f : Nat → Int64} {q : (Nat → Int32) × (Nat → Nat → Int32)} (hR : Rel w q) {H : Heap} {locs : List Loc} {ls : Array Slot} (hP : va_P D vwCl (mw hm cZ q ++ cwo hc ho cL (w, f)) H) (hD : va_D (fun q : Nat => s.heap.size ≤ q) (mw hm cZ q ++ cwo hc ho cL (w, f))) (hS : va_S (fun q : Nat => s.heap.size ≤ q) s.heap H locs) (hl : lv_has ls 7 [(0, .ref b), (1, .ref (hc 0)), (2, .ref (hm 0)), (3, .ref ho), (4, .int (nI i))]) (kk : ∀ (w' : Nat → Int32) (f' : Nat → Int64) (q' : (Nat → Int32) × (Nat → Nat → Int32)) (H1 : Heap) (locs1 : List Loc) (ls1 : Array Slot), Rel w' q' → va_P D vwCl (mw hm cZ q' ++ cwo hc ho cL (w', f')) H1 → va_D (fun q : Nat => s.heap.size ≤ q) (mw hm cZ q' ++ cwo hc ho cL (w', f')) → va_S (fun q : Nat => s.heap.size ≤ q) s.heap H1 locs1 → lv_has ls1 7 [(0, .ref b), (1, .ref (hc 0)), (2, .ref (hm 0)), (3, .ref ho), (4, .int (nI i))] → W p l e room_1 s m #[Value.ref b] below meth c H1 locs1 (cells + 1) (slots + 6) (lw_Z below #[Value.ref b] s) (F0 m 626 ls1 [])) : W p l e room_1 s m #[Value.ref b] below meth c H locs (cells) (slots) (lw_Z below #[Value.ref b] s) (F0 m 470 ls []) := by
  obtain ⟨hx, hb, hr, hml, hown, hts0, hX, hbl, hlocks, hgv⟩ := id C0
  have hN : kb_N s := kb_N.of hts0
  have hts := hN.ts #[Value.ref b]
  have hown : s.vm.findClass "BoilerDeskLaw" = some m.cls := hown
  have hA : ∀ q : Nat, s.heap.size ≤ q → (fun q : Nat => s.heap.size ≤ q) q := fun _ h => h
  have hbA : ¬ (fun q : Nat => s.heap.size ≤ q) b := Nat.not_le.mpr hbl
  have hKc := hK.sub (tys' := []) [] rfl
  have hKm := hK.sub (tys' := [(cZ, .boolean)]) [0] rfl
  have hKo := hK.sub (tys' := [(cL, .long)]) [1] rfl
  refine lv_aload_n hx hb dL_law_470 rfl (lv_at hl 1 rfl) ?_
  refine lv_aload_n hx hb dL_law_471 rfl (lv_at hl 3 rfl) ?_
  refine kb_calliR (wf := cwo hc ho cL) (wr := mw hm cZ q) (r := (exi (F_D_cycle w ) (w, f)).1) (u := (exi (F_D_cycle w ) (w, f)).2) (kw_run (n := 2) (As := [.ref (hc 0), .ref ho]) (rest := []) hx hb hml hown hN (c_L_cycle l hl0 D hc ho cL _ w f ) q_435 q_433 q_434 q_32 (by decide +kernel) rfl rfl ⟨Nat.le_of_ble_eq_true rfl, Nat.le_of_ble_eq_true rfl⟩ (kt_preS hN hT hKo (wp_r hP) (wd_r hD) hS hA) rfl rfl hl.1 rfl (lv_room (Nat.le_of_ble_eq_true rfl)) dL_law_472 ⟨show cells + 0 + 1 ≤ 1055 by omega, show slots + 0 + 6 ≤ 8411 by omega⟩) hP hD hS hA (fun H locs hP hD hS => ?_)
  have hP : va_P D vwCl (mw hm cZ q ++ cwo hc ho cL ((exi (F_D_cycle w ) (w, f)).2.1, (exi (F_D_cycle w ) (w, f)).2.2)) H := hP
  have hD : va_D (fun q : Nat => s.heap.size ≤ q) (mw hm cZ q ++ cwo hc ho cL ((exi (F_D_cycle w ) (w, f)).2.1, (exi (F_D_cycle w ) (w, f)).2.2)) := hD
  refine lv_istore (lv' := [(5, .int (exi (F_D_cycle w ) (w, f)).1), (0, .ref b), (1, .ref (hc 0)), (2, .ref (hm 0)), (3, .ref ho), (4, .int (nI i))]) hx hb dL_law_475 hl (by decide) rfl (fun ls hl => ?_)
  refine lv_aload_n hx hb dL_law_477 rfl (lv_at hl 3 rfl) ?_
  have hP1 := wp_sw hP
  have hD1 := wd_sw hD
  refine kb_calliR (wf := mw hm cZ) (wr := cwo hc ho cL ((exi (F_D_cycle w ) (w, f)).2.1, (exi (F_D_cycle w ) (w, f)).2.2)) (r := (F_X_cycle q).1) (u := (F_X_cycle q).2) (va_runV (As := []) (rest := []) ⟨hx, hb, hml, hown, hts⟩ (c_X_cycle l D hm cZ _ q   (P_z22 hR) (P_z23 hR) (P_z28 hR)) (cwV 0 hts (gd_V q_811 q_812 q_813 q_40 q_814) rfl rfl rfl (by decide +kernel) ⟨Nat.le_of_ble_eq_true rfl, Nat.le_of_ble_eq_true rfl⟩) (kb_preV hN hKm (wp_r hP1) (wd_r hD1) (va_recv hKm (wp_r hP1) (ci := 7) (q0 := 0) rfl rfl)) rfl rfl hl.1 rfl (lv_room (Nat.le_of_ble_eq_true rfl)) dL_law_478 ⟨show cells + 0 + 1 + 0 ≤ 1055 by omega, show slots + 0 + 6 + 0 ≤ 8411 by omega⟩) hP1 hD1 hS hA (fun H locs hP hD hS => ?_)
  have hP := wp_sw hP
  have hD := wd_sw hD
  have hp := P_cycle hR f 
  refine lv_istore (lv' := [(6, .int ((F_X_cycle q).1)), (5, .int (exi (F_D_cycle w ) (w, f)).1), (0, .ref b), (1, .ref (hc 0)), (2, .ref (hm 0)), (3, .ref ho), (4, .int (nI i))]) hx hb dL_law_481 hl (by decide) rfl (fun ls hl => ?_)
  refine lv_aload_n hx hb dL_law_483 rfl (lv_at hl 4 rfl) ?_
  have hP1 := wp_sw hP
  have hD1 := wd_sw hD
  refine kb_calliR (wf := mw hm cZ) (wr := cwo hc ho cL ((exi (F_D_cycle w ) (w, f)).2.1, (exi (F_D_cycle w ) (w, f)).2.2)) (r := F_X_thrown ((F_X_cycle q).2)) (u := ((F_X_cycle q).2)) (va_runV (As := []) (rest := []) ⟨hx, hb, hml, hown, hts⟩ (c_X_thrown l D hm cZ _ ((F_X_cycle q).2)   ) (cwV 0 hts (gd_V q_774 q_775 q_776 q_40 q_777) rfl rfl rfl (by decide +kernel) ⟨Nat.le_of_ble_eq_true rfl, Nat.le_of_ble_eq_true rfl⟩) (kb_preV hN hKm (wp_r hP1) (wd_r hD1) (va_recv hKm (wp_r hP1) (ci := 7) (q0 := 0) rfl rfl)) rfl rfl hl.1 rfl (lv_room (Nat.le_of_ble_eq_true rfl)) dL_law_484 ⟨show cells + 0 + 1 + 0 + 0 ≤ 1055 by omega, show slots + 0 + 6 + 0 + 0 ≤ 8411 by omega⟩) hP1 hD1 hS hA (fun H locs hP hD hS => ?_)
  have hP := wp_sw hP
  have hD := wd_sw hD
  refine lv_iload hx hb dL_law_487 (lv_at hl 1 rfl) ?_
  refine lv_icmp_eq (tgt := 494) hx hb dL_law_489 (by decide) (fun _ => ?_) (fun c9 => absurd hp.1 c9)
  refine lv_iload hx hb dL_law_494 (lv_at hl 1 rfl) ?_
  refine lv_if_ne (tgt := 511) hx hb dL_law_496 (by decide) (fun c_5 => ?_) (fun c_5 => ?_)
  · refine lv_goto (tgt := 626) hx hb dL_law_511 (by decide) ?_
    refine W.widen (k := cells + 1) (n := slots + 6) (by omega) (by omega) ?_
    exact kk ((exi (F_D_cycle w ) (w, f)).2.1) ((exi (F_D_cycle w ) (w, f)).2.2) ((F_X_cycle q).2) _ _ _ hp.2.1 hP hD hS (lv_sub hl [2, 3, 4, 5, 6] rfl)
  · refine lv_aload_n hx hb dL_law_499 rfl (lv_at hl 5 rfl) ?_
    refine lv_iconst (v := 0) hx hb dL_law_500 (by decide) ?_
    refine va_lald hx hb hK hP 13 1 rfl rfl (by unfold vp_in; decide) dL_law_501 ?_
    refine lv_iload hx hb dL_law_502 (lv_at hl 0 rfl) ?_
    refine lv_i2l hx hb dL_law_504 rfl ?_
    refine W.lcmp hx hb dL_law_505 ?_
    refine lv_if_eq (tgt := 511) hx hb dL_law_506 (by decide) (fun _ => ?_) (fun c9 => absurd (lgc (hp.2.2 c_5)) c9)
    refine lv_goto (tgt := 626) hx hb dL_law_511 (by decide) ?_
    refine W.widen (k := cells + 1) (n := slots + 6) (by omega) (by omega) ?_
    exact kk ((exi (F_D_cycle w ) (w, f)).2.1) ((exi (F_D_cycle w ) (w, f)).2.2) ((F_X_cycle q).2) _ _ _ hp.2.1 hP hD hS (lv_sub hl [2, 3, 4, 5, 6] rfl)
set_option maxHeartbeats 4000000 in
set_option maxRecDepth 100000 in
theorem law_case_7 {p : Program} {l : Launch} {e : Env} {s : State} {m : MethodId} {below : List Frame} {meth : Method} {c : Code} {b L : Nat} {xs : Nat → Int32} (hl0 : l.stackTraces = false) (hL : L ≤ 5120) (C0 : lw_At p s m meth c b L xs) (hT : kt_W s ∧ kt_Z (fun q : Nat => s.heap.size ≤ q) s s.heap) {D : va_G} {hc hm : Nat → Nat} {ho : Nat} {cL cZ : ClassId} (hK : va_K D vwCl [(cZ, .boolean), (cL, .long)] s) {i : Nat} (hi : i + 10 ≤ L) {cells slots : Nat} (hce : cells + 1 ≤ 1055) (hsl : slots + 6 ≤ 8411) {w : Nat → Int32} {f : Nat → Int64} {q : (Nat → Int32) × (Nat → Nat → Int32)} (hR : Rel w q) {H : Heap} {locs : List Loc} {ls : Array Slot} (hP : va_P D vwCl (mw hm cZ q ++ cwo hc ho cL (w, f)) H) (hD : va_D (fun q : Nat => s.heap.size ≤ q) (mw hm cZ q ++ cwo hc ho cL (w, f))) (hS : va_S (fun q : Nat => s.heap.size ≤ q) s.heap H locs) (hl : lv_has ls 7 [(0, .ref b), (1, .ref (hc 0)), (2, .ref (hm 0)), (3, .ref ho), (4, .int (nI i))]) (kk : ∀ (w' : Nat → Int32) (f' : Nat → Int64) (q' : (Nat → Int32) × (Nat → Nat → Int32)) (H1 : Heap) (locs1 : List Loc) (ls1 : Array Slot), Rel w' q' → va_P D vwCl (mw hm cZ q' ++ cwo hc ho cL (w', f')) H1 → va_D (fun q : Nat => s.heap.size ≤ q) (mw hm cZ q' ++ cwo hc ho cL (w', f')) → va_S (fun q : Nat => s.heap.size ≤ q) s.heap H1 locs1 → lv_has ls1 7 [(0, .ref b), (1, .ref (hc 0)), (2, .ref (hm 0)), (3, .ref ho), (4, .int (nI i))] → W p l e room_1 s m #[Value.ref b] below meth c H1 locs1 (cells + 1) (slots + 6) (lw_Z below #[Value.ref b] s) (F0 m 626 ls1 [])) : W p l e room_1 s m #[Value.ref b] below meth c H locs (cells) (slots) (lw_Z below #[Value.ref b] s) (F0 m 514 ls []) := by
  obtain ⟨hx, hb, hr, hml, hown, hts0, hX, hbl, hlocks, hgv⟩ := id C0
  have hN : kb_N s := kb_N.of hts0
  have hts := hN.ts #[Value.ref b]
  have hown : s.vm.findClass "BoilerDeskLaw" = some m.cls := hown
  have hA : ∀ q : Nat, s.heap.size ≤ q → (fun q : Nat => s.heap.size ≤ q) q := fun _ h => h
  have hbA : ¬ (fun q : Nat => s.heap.size ≤ q) b := Nat.not_le.mpr hbl
  have hKc := hK.sub (tys' := []) [] rfl
  have hKm := hK.sub (tys' := [(cZ, .boolean)]) [0] rfl
  have hKo := hK.sub (tys' := [(cL, .long)]) [1] rfl
  refine lv_aload_n hx hb dL_law_514 rfl (lv_at hl 1 rfl) ?_
  refine lv_aload_n hx hb dL_law_515 rfl (lv_at hl 0 rfl) ?_
  refine lv_iload hx hb dL_law_516 (lv_at hl 4 rfl) ?_
  refine lv_iconst (v := 1) hx hb dL_law_518 (by decide) ?_
  refine lv_iadd hx hb dL_law_519 ?_
  refine va_sld hx hb hX hbl hbA hS (by rw [show nI i + (1 : Int32) = nI (i + 1) from nI_add i 1]; exact vp_in_nI (by omega) (by omega)) dL_law_520 ?_
  refine lv_aload_n hx hb dL_law_521 rfl (lv_at hl 3 rfl) ?_
  refine kb_calliR (wf := cwo hc ho cL) (wr := mw hm cZ q) (r := (exp (F_D_told w (xs (((nI i) + (1 : Int32))).toNatClampNeg)) (w, f)).1) (u := (exp (F_D_told w (xs (((nI i) + (1 : Int32))).toNatClampNeg)) (w, f)).2) (kw_run (n := 3) (As := [.ref (hc 0), .int (xs (((nI i) + (1 : Int32))).toNatClampNeg), .ref ho]) (rest := []) hx hb hml hown hN (c_L_told l hl0 D hc ho cL _ w f (xs (((nI i) + (1 : Int32))).toNatClampNeg)) q_611 q_609 q_610 q_32 (by decide +kernel) rfl rfl ⟨Nat.le_of_ble_eq_true rfl, Nat.le_of_ble_eq_true rfl⟩ (kt_preS hN hT hKo (wp_r hP) (wd_r hD) hS hA) rfl rfl hl.1 rfl (lv_room (Nat.le_of_ble_eq_true rfl)) dL_law_522 ⟨show cells + 0 + 1 ≤ 1055 by omega, show slots + 0 + 6 ≤ 8411 by omega⟩) hP hD hS hA (fun H locs hP hD hS => ?_)
  have hP : va_P D vwCl (mw hm cZ q ++ cwo hc ho cL ((exp (F_D_told w (xs (((nI i) + (1 : Int32))).toNatClampNeg)) (w, f)).2.1, (exp (F_D_told w (xs (((nI i) + (1 : Int32))).toNatClampNeg)) (w, f)).2.2)) H := hP
  have hD : va_D (fun q : Nat => s.heap.size ≤ q) (mw hm cZ q ++ cwo hc ho cL ((exp (F_D_told w (xs (((nI i) + (1 : Int32))).toNatClampNeg)) (w, f)).2.1, (exp (F_D_told w (xs (((nI i) + (1 : Int32))).toNatClampNeg)) (w, f)).2.2)) := hD
  refine lv_istore (lv' := [(5, .int (exp (F_D_told w (xs (((nI i) + (1 : Int32))).toNatClampNeg)) (w, f)).1), (0, .ref b), (1, .ref (hc 0)), (2, .ref (hm 0)), (3, .ref ho), (4, .int (nI i))]) hx hb dL_law_525 hl (by decide) rfl (fun ls hl => ?_)
  refine lv_aload_n hx hb dL_law_527 rfl (lv_at hl 3 rfl) ?_
  refine lv_aload_n hx hb dL_law_528 rfl (lv_at hl 1 rfl) ?_
  refine lv_iload hx hb dL_law_529 (lv_at hl 5 rfl) ?_
  refine lv_iconst (v := 1) hx hb dL_law_531 (by decide) ?_
  refine lv_iadd hx hb dL_law_532 ?_
  refine va_sld hx hb hX hbl hbA hS (by rw [show nI i + (1 : Int32) = nI (i + 1) from nI_add i 1]; exact vp_in_nI (by omega) (by omega)) dL_law_533 ?_
  have hP1 := wp_sw hP
  have hD1 := wd_sw hD
  refine kb_calliR (wf := mw hm cZ) (wr := cwo hc ho cL ((exp (F_D_told w (xs (((nI i) + (1 : Int32))).toNatClampNeg)) (w, f)).2.1, (exp (F_D_told w (xs (((nI i) + (1 : Int32))).toNatClampNeg)) (w, f)).2.2)) (r := (F_X_told q (xs (((nI i) + (1 : Int32))).toNatClampNeg)).1) (u := (F_X_told q (xs (((nI i) + (1 : Int32))).toNatClampNeg)).2) (va_runV (As := [.int (xs (((nI i) + (1 : Int32))).toNatClampNeg)]) (rest := []) ⟨hx, hb, hml, hown, hts⟩ (c_X_told l D hm cZ _ q (xs (((nI i) + (1 : Int32))).toNatClampNeg)  ) (cwV 1 hts (gd_V q_843 q_844 q_845 q_40 q_846) rfl rfl rfl (by decide +kernel) ⟨Nat.le_of_ble_eq_true rfl, Nat.le_of_ble_eq_true rfl⟩) (kb_preV hN hKm (wp_r hP1) (wd_r hD1) (va_recv hKm (wp_r hP1) (ci := 7) (q0 := 0) rfl rfl)) rfl rfl hl.1 rfl (lv_room (Nat.le_of_ble_eq_true rfl)) dL_law_534 ⟨show cells + 0 + 1 + 0 ≤ 1055 by omega, show slots + 0 + 6 + 0 ≤ 8411 by omega⟩) hP1 hD1 hS hA (fun H locs hP hD hS => ?_)
  have hP := wp_sw hP
  have hD := wd_sw hD
  have hp := P_told hR f (xs (((nI i) + (1 : Int32))).toNatClampNeg)
  refine lv_istore (lv' := [(6, .int ((F_X_told q (xs (((nI i) + (1 : Int32))).toNatClampNeg)).1)), (5, .int (exp (F_D_told w (xs (((nI i) + (1 : Int32))).toNatClampNeg)) (w, f)).1), (0, .ref b), (1, .ref (hc 0)), (2, .ref (hm 0)), (3, .ref ho), (4, .int (nI i))]) hx hb dL_law_537 hl (by decide) rfl (fun ls hl => ?_)
  refine lv_aload_n hx hb dL_law_539 rfl (lv_at hl 4 rfl) ?_
  have hP1 := wp_sw hP
  have hD1 := wd_sw hD
  refine kb_calliR (wf := mw hm cZ) (wr := cwo hc ho cL ((exp (F_D_told w (xs (((nI i) + (1 : Int32))).toNatClampNeg)) (w, f)).2.1, (exp (F_D_told w (xs (((nI i) + (1 : Int32))).toNatClampNeg)) (w, f)).2.2)) (r := F_X_thrown ((F_X_told q (xs (((nI i) + (1 : Int32))).toNatClampNeg)).2)) (u := ((F_X_told q (xs (((nI i) + (1 : Int32))).toNatClampNeg)).2)) (va_runV (As := []) (rest := []) ⟨hx, hb, hml, hown, hts⟩ (c_X_thrown l D hm cZ _ ((F_X_told q (xs (((nI i) + (1 : Int32))).toNatClampNeg)).2)   ) (cwV 0 hts (gd_V q_774 q_775 q_776 q_40 q_777) rfl rfl rfl (by decide +kernel) ⟨Nat.le_of_ble_eq_true rfl, Nat.le_of_ble_eq_true rfl⟩) (kb_preV hN hKm (wp_r hP1) (wd_r hD1) (va_recv hKm (wp_r hP1) (ci := 7) (q0 := 0) rfl rfl)) rfl rfl hl.1 rfl (lv_room (Nat.le_of_ble_eq_true rfl)) dL_law_540 ⟨show cells + 0 + 1 + 0 + 0 ≤ 1055 by omega, show slots + 0 + 6 + 0 + 0 ≤ 8411 by omega⟩) hP1 hD1 hS hA (fun H locs hP hD hS => ?_)
  have hP := wp_sw hP
  have hD := wd_sw hD
  refine lv_iload hx hb dL_law_543 (lv_at hl 1 rfl) ?_
  refine lv_icmp_eq (tgt := 550) hx hb dL_law_545 (by decide) (fun _ => ?_) (fun c9 => absurd hp.1 c9)
  refine lv_iload hx hb dL_law_550 (lv_at hl 1 rfl) ?_
  refine lv_if_ne (tgt := 567) hx hb dL_law_552 (by decide) (fun c_6 => ?_) (fun c_6 => ?_)
  · refine lv_goto (tgt := 626) hx hb dL_law_567 (by decide) ?_
    refine W.widen (k := cells + 1) (n := slots + 6) (by omega) (by omega) ?_
    exact kk ((exp (F_D_told w (xs (((nI i) + (1 : Int32))).toNatClampNeg)) (w, f)).2.1) ((exp (F_D_told w (xs (((nI i) + (1 : Int32))).toNatClampNeg)) (w, f)).2.2) ((F_X_told q (xs (((nI i) + (1 : Int32))).toNatClampNeg)).2) _ _ _ hp.2.1 hP hD hS (lv_sub hl [2, 3, 4, 5, 6] rfl)
  · refine lv_aload_n hx hb dL_law_555 rfl (lv_at hl 5 rfl) ?_
    refine lv_iconst (v := 0) hx hb dL_law_556 (by decide) ?_
    refine va_lald hx hb hK hP 13 1 rfl rfl (by unfold vp_in; decide) dL_law_557 ?_
    refine lv_iload hx hb dL_law_558 (lv_at hl 0 rfl) ?_
    refine lv_i2l hx hb dL_law_560 rfl ?_
    refine W.lcmp hx hb dL_law_561 ?_
    refine lv_if_eq (tgt := 567) hx hb dL_law_562 (by decide) (fun _ => ?_) (fun c9 => absurd (lgc (hp.2.2 c_6)) c9)
    refine lv_goto (tgt := 626) hx hb dL_law_567 (by decide) ?_
    refine W.widen (k := cells + 1) (n := slots + 6) (by omega) (by omega) ?_
    exact kk ((exp (F_D_told w (xs (((nI i) + (1 : Int32))).toNatClampNeg)) (w, f)).2.1) ((exp (F_D_told w (xs (((nI i) + (1 : Int32))).toNatClampNeg)) (w, f)).2.2) ((F_X_told q (xs (((nI i) + (1 : Int32))).toNatClampNeg)).2) _ _ _ hp.2.1 hP hD hS (lv_sub hl [2, 3, 4, 5, 6] rfl)
set_option maxHeartbeats 4000000 in
set_option maxRecDepth 100000 in
theorem law_case_8 {p : Program} {l : Launch} {e : Env} {s : State} {m : MethodId} {below : List Frame} {meth : Method} {c : Code} {b L : Nat} {xs : Nat → Int32} (hl0 : l.stackTraces = false) (hL : L ≤ 5120) (C0 : lw_At p s m meth c b L xs) (hT : kt_W s ∧ kt_Z (fun q : Nat => s.heap.size ≤ q) s s.heap) {D : va_G} {hc hm : Nat → Nat} {ho : Nat} {cL cZ : ClassId} (hK : va_K D vwCl [(cZ, .boolean), (cL, .long)] s) {i : Nat} (hi : i + 10 ≤ L) {cells slots : Nat} (hce : cells + 1 ≤ 1055) (hsl : slots + 6 ≤ 8411) {w : Nat → Int32} {f : Nat → Int64} {q : (Nat → Int32) × (Nat → Nat → Int32)} (hR : Rel w q) {H : Heap} {locs : List Loc} {ls : Array Slot} (hP : va_P D vwCl (mw hm cZ q ++ cwo hc ho cL (w, f)) H) (hD : va_D (fun q : Nat => s.heap.size ≤ q) (mw hm cZ q ++ cwo hc ho cL (w, f))) (hS : va_S (fun q : Nat => s.heap.size ≤ q) s.heap H locs) (hl : lv_has ls 7 [(0, .ref b), (1, .ref (hc 0)), (2, .ref (hm 0)), (3, .ref ho), (4, .int (nI i))]) (kk : ∀ (w' : Nat → Int32) (f' : Nat → Int64) (q' : (Nat → Int32) × (Nat → Nat → Int32)) (H1 : Heap) (locs1 : List Loc) (ls1 : Array Slot), Rel w' q' → va_P D vwCl (mw hm cZ q' ++ cwo hc ho cL (w', f')) H1 → va_D (fun q : Nat => s.heap.size ≤ q) (mw hm cZ q' ++ cwo hc ho cL (w', f')) → va_S (fun q : Nat => s.heap.size ≤ q) s.heap H1 locs1 → lv_has ls1 7 [(0, .ref b), (1, .ref (hc 0)), (2, .ref (hm 0)), (3, .ref ho), (4, .int (nI i))] → W p l e room_1 s m #[Value.ref b] below meth c H1 locs1 (cells + 1) (slots + 6) (lw_Z below #[Value.ref b] s) (F0 m 626 ls1 [])) : W p l e room_1 s m #[Value.ref b] below meth c H locs (cells) (slots) (lw_Z below #[Value.ref b] s) (F0 m 570 ls []) := by
  obtain ⟨hx, hb, hr, hml, hown, hts0, hX, hbl, hlocks, hgv⟩ := id C0
  have hN : kb_N s := kb_N.of hts0
  have hts := hN.ts #[Value.ref b]
  have hown : s.vm.findClass "BoilerDeskLaw" = some m.cls := hown
  have hA : ∀ q : Nat, s.heap.size ≤ q → (fun q : Nat => s.heap.size ≤ q) q := fun _ h => h
  have hbA : ¬ (fun q : Nat => s.heap.size ≤ q) b := Nat.not_le.mpr hbl
  have hKc := hK.sub (tys' := []) [] rfl
  have hKm := hK.sub (tys' := [(cZ, .boolean)]) [0] rfl
  have hKo := hK.sub (tys' := [(cL, .long)]) [1] rfl
  refine lv_aload_n hx hb dL_law_570 rfl (lv_at hl 1 rfl) ?_
  refine lv_aload_n hx hb dL_law_571 rfl (lv_at hl 0 rfl) ?_
  refine lv_iload hx hb dL_law_572 (lv_at hl 4 rfl) ?_
  refine lv_iconst (v := 1) hx hb dL_law_574 (by decide) ?_
  refine lv_iadd hx hb dL_law_575 ?_
  refine va_sld hx hb hX hbl hbA hS (by rw [show nI i + (1 : Int32) = nI (i + 1) from nI_add i 1]; exact vp_in_nI (by omega) (by omega)) dL_law_576 ?_
  refine lv_aload_n hx hb dL_law_577 rfl (lv_at hl 3 rfl) ?_
  refine kb_calliR (wf := cwo hc ho cL) (wr := mw hm cZ q) (r := (exp (F_D_state w (xs (((nI i) + (1 : Int32))).toNatClampNeg)) (w, f)).1) (u := (exp (F_D_state w (xs (((nI i) + (1 : Int32))).toNatClampNeg)) (w, f)).2) (kw_run (n := 3) (As := [.ref (hc 0), .int (xs (((nI i) + (1 : Int32))).toNatClampNeg), .ref ho]) (rest := []) hx hb hml hown hN (c_L_state l hl0 D hc ho cL _ w f (xs (((nI i) + (1 : Int32))).toNatClampNeg)) q_619 q_617 q_618 q_32 (by decide +kernel) rfl rfl ⟨Nat.le_of_ble_eq_true rfl, Nat.le_of_ble_eq_true rfl⟩ (kt_preS hN hT hKo (wp_r hP) (wd_r hD) hS hA) rfl rfl hl.1 rfl (lv_room (Nat.le_of_ble_eq_true rfl)) dL_law_578 ⟨show cells + 0 + 1 ≤ 1055 by omega, show slots + 0 + 6 ≤ 8411 by omega⟩) hP hD hS hA (fun H locs hP hD hS => ?_)
  have hP : va_P D vwCl (mw hm cZ q ++ cwo hc ho cL ((exp (F_D_state w (xs (((nI i) + (1 : Int32))).toNatClampNeg)) (w, f)).2.1, (exp (F_D_state w (xs (((nI i) + (1 : Int32))).toNatClampNeg)) (w, f)).2.2)) H := hP
  have hD : va_D (fun q : Nat => s.heap.size ≤ q) (mw hm cZ q ++ cwo hc ho cL ((exp (F_D_state w (xs (((nI i) + (1 : Int32))).toNatClampNeg)) (w, f)).2.1, (exp (F_D_state w (xs (((nI i) + (1 : Int32))).toNatClampNeg)) (w, f)).2.2)) := hD
  refine lv_istore (lv' := [(5, .int (exp (F_D_state w (xs (((nI i) + (1 : Int32))).toNatClampNeg)) (w, f)).1), (0, .ref b), (1, .ref (hc 0)), (2, .ref (hm 0)), (3, .ref ho), (4, .int (nI i))]) hx hb dL_law_581 hl (by decide) rfl (fun ls hl => ?_)
  refine lv_aload_n hx hb dL_law_583 rfl (lv_at hl 3 rfl) ?_
  refine lv_aload_n hx hb dL_law_584 rfl (lv_at hl 1 rfl) ?_
  refine lv_iload hx hb dL_law_585 (lv_at hl 5 rfl) ?_
  refine lv_iconst (v := 1) hx hb dL_law_587 (by decide) ?_
  refine lv_iadd hx hb dL_law_588 ?_
  refine va_sld hx hb hX hbl hbA hS (by rw [show nI i + (1 : Int32) = nI (i + 1) from nI_add i 1]; exact vp_in_nI (by omega) (by omega)) dL_law_589 ?_
  have hP1 := wp_sw hP
  have hD1 := wd_sw hD
  refine kb_calliR (wf := mw hm cZ) (wr := cwo hc ho cL ((exp (F_D_state w (xs (((nI i) + (1 : Int32))).toNatClampNeg)) (w, f)).2.1, (exp (F_D_state w (xs (((nI i) + (1 : Int32))).toNatClampNeg)) (w, f)).2.2)) (r := (F_X_state q (xs (((nI i) + (1 : Int32))).toNatClampNeg)).1) (u := (F_X_state q (xs (((nI i) + (1 : Int32))).toNatClampNeg)).2) (va_runV (As := [.int (xs (((nI i) + (1 : Int32))).toNatClampNeg)]) (rest := []) ⟨hx, hb, hml, hown, hts⟩ (c_X_state l D hm cZ _ q (xs (((nI i) + (1 : Int32))).toNatClampNeg)  ) (cwV 1 hts (gd_V q_847 q_848 q_849 q_40 q_850) rfl rfl rfl (by decide +kernel) ⟨Nat.le_of_ble_eq_true rfl, Nat.le_of_ble_eq_true rfl⟩) (kb_preV hN hKm (wp_r hP1) (wd_r hD1) (va_recv hKm (wp_r hP1) (ci := 7) (q0 := 0) rfl rfl)) rfl rfl hl.1 rfl (lv_room (Nat.le_of_ble_eq_true rfl)) dL_law_590 ⟨show cells + 0 + 1 + 0 ≤ 1055 by omega, show slots + 0 + 6 + 0 ≤ 8411 by omega⟩) hP1 hD1 hS hA (fun H locs hP hD hS => ?_)
  have hP := wp_sw hP
  have hD := wd_sw hD
  have hp := P_state hR f (xs (((nI i) + (1 : Int32))).toNatClampNeg)
  refine lv_istore (lv' := [(6, .int ((F_X_state q (xs (((nI i) + (1 : Int32))).toNatClampNeg)).1)), (5, .int (exp (F_D_state w (xs (((nI i) + (1 : Int32))).toNatClampNeg)) (w, f)).1), (0, .ref b), (1, .ref (hc 0)), (2, .ref (hm 0)), (3, .ref ho), (4, .int (nI i))]) hx hb dL_law_593 hl (by decide) rfl (fun ls hl => ?_)
  refine lv_aload_n hx hb dL_law_595 rfl (lv_at hl 4 rfl) ?_
  have hP1 := wp_sw hP
  have hD1 := wd_sw hD
  refine kb_calliR (wf := mw hm cZ) (wr := cwo hc ho cL ((exp (F_D_state w (xs (((nI i) + (1 : Int32))).toNatClampNeg)) (w, f)).2.1, (exp (F_D_state w (xs (((nI i) + (1 : Int32))).toNatClampNeg)) (w, f)).2.2)) (r := F_X_thrown ((F_X_state q (xs (((nI i) + (1 : Int32))).toNatClampNeg)).2)) (u := ((F_X_state q (xs (((nI i) + (1 : Int32))).toNatClampNeg)).2)) (va_runV (As := []) (rest := []) ⟨hx, hb, hml, hown, hts⟩ (c_X_thrown l D hm cZ _ ((F_X_state q (xs (((nI i) + (1 : Int32))).toNatClampNeg)).2)   ) (cwV 0 hts (gd_V q_774 q_775 q_776 q_40 q_777) rfl rfl rfl (by decide +kernel) ⟨Nat.le_of_ble_eq_true rfl, Nat.le_of_ble_eq_true rfl⟩) (kb_preV hN hKm (wp_r hP1) (wd_r hD1) (va_recv hKm (wp_r hP1) (ci := 7) (q0 := 0) rfl rfl)) rfl rfl hl.1 rfl (lv_room (Nat.le_of_ble_eq_true rfl)) dL_law_596 ⟨show cells + 0 + 1 + 0 + 0 ≤ 1055 by omega, show slots + 0 + 6 + 0 + 0 ≤ 8411 by omega⟩) hP1 hD1 hS hA (fun H locs hP hD hS => ?_)
  have hP := wp_sw hP
  have hD := wd_sw hD
  refine lv_iload hx hb dL_law_599 (lv_at hl 1 rfl) ?_
  refine lv_icmp_eq (tgt := 606) hx hb dL_law_601 (by decide) (fun _ => ?_) (fun c9 => absurd hp.1 c9)
  refine lv_iload hx hb dL_law_606 (lv_at hl 1 rfl) ?_
  refine lv_if_ne (tgt := 623) hx hb dL_law_608 (by decide) (fun c_7 => ?_) (fun c_7 => ?_)
  · refine lv_goto (tgt := 626) hx hb dL_law_623 (by decide) ?_
    refine W.widen (k := cells + 1) (n := slots + 6) (by omega) (by omega) ?_
    exact kk ((exp (F_D_state w (xs (((nI i) + (1 : Int32))).toNatClampNeg)) (w, f)).2.1) ((exp (F_D_state w (xs (((nI i) + (1 : Int32))).toNatClampNeg)) (w, f)).2.2) ((F_X_state q (xs (((nI i) + (1 : Int32))).toNatClampNeg)).2) _ _ _ hp.2.1 hP hD hS (lv_sub hl [2, 3, 4, 5, 6] rfl)
  · refine lv_aload_n hx hb dL_law_611 rfl (lv_at hl 5 rfl) ?_
    refine lv_iconst (v := 0) hx hb dL_law_612 (by decide) ?_
    refine va_lald hx hb hK hP 13 1 rfl rfl (by unfold vp_in; decide) dL_law_613 ?_
    refine lv_iload hx hb dL_law_614 (lv_at hl 0 rfl) ?_
    refine lv_i2l hx hb dL_law_616 rfl ?_
    refine W.lcmp hx hb dL_law_617 ?_
    refine lv_if_eq (tgt := 623) hx hb dL_law_618 (by decide) (fun _ => ?_) (fun c9 => absurd (lgc (hp.2.2 c_7)) c9)
    refine lv_goto (tgt := 626) hx hb dL_law_623 (by decide) ?_
    refine W.widen (k := cells + 1) (n := slots + 6) (by omega) (by omega) ?_
    exact kk ((exp (F_D_state w (xs (((nI i) + (1 : Int32))).toNatClampNeg)) (w, f)).2.1) ((exp (F_D_state w (xs (((nI i) + (1 : Int32))).toNatClampNeg)) (w, f)).2.2) ((F_X_state q (xs (((nI i) + (1 : Int32))).toNatClampNeg)).2) _ _ _ hp.2.1 hP hD hS (lv_sub hl [2, 3, 4, 5, 6] rfl)
