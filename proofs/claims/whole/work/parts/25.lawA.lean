set_option maxHeartbeats 4000000 in
set_option maxRecDepth 100000 in
theorem law_c0 {p : Program} {e : Env} {s : State} {m : MethodId} {below : List Frame} {meth : Method} {c : Code} (l : Launch) {b L : Nat} {xs : Nat → Int32} (hL : L ≤ 3073) (C0 : lw_At p s m meth c b L xs) {dC : Nat → ClassId} {dI : Nat → Nat → Nat} {q r : Nat → Nat} {cI cL : ClassId} (hK : va_K (dC, dI) vwCl [(cI, .int), (cL, .long)] s) {i t : Nat} (hi : i + 6 ≤ L) (hit : i = 1 + 6 * t) {ls : Array Slot} (hl : lv_has ls 4 [(3, .int (nI i)), (0, .ref b), (1, .ref (q 0)), (2, .ref (r 0))]) {H : Heap} {locs : List Loc} (hSt : li_St dC dI s q r cI cL t H locs) (kk : ∀ (H : Heap) (locs : List Loc), li_St dC dI s q r cI cL (t + 1) H locs → W p l e room_1 s m #[Value.ref b] below meth c H locs 30 95869 (lw_Z below #[Value.ref b] s) (F0 m 602 ls [])) : W p l e room_1 s m #[Value.ref b] below meth c H locs 30 95869 (lw_Z below #[Value.ref b] s) (F0 m 116 ls []) := by
  obtain ⟨hx, hb, hr, hml, hown, hts, hX, hbl, hlocks, hgv⟩ := C0
  have hT : ∀ w ∈ ob_T, w.before #[Value.ref b] s = true := fun w h => hts w (ob_T_in w h)
  have hN : ∀ w ∈ ob_N, va_Nw w s := fun w h => va_Nw.of (ob_onT (List.all_eq_true.mp ob_N_nest w h)) (hts w (ob_N_in w h))
  have hbA : ¬ (fun q : Nat => s.heap.size ≤ q) b := Nat.not_le.mpr hbl
  obtain ⟨supply, pot, apl, own, amt, tag, mad, spt, made, dsp, dow, dam, dtg, sp, mk, mint, dep, sups, pots, apps, row, hgt, und, ds2, fes, mns, tms, pic, ⟨⟨hm, hsp, hmk, hrow, hdp1, hdep, hud, huh, hht⟩, hv, hd, hs⟩, hP, hD, hS⟩ := hSt
  have hhg : hgt ≤ 1000 := by omega
  by_cases hc : p_live spt made (xs (i + 1)) ∧ ¬ f_any (fun j => decide (dsp j = xs (i + 1))) sp = true ∧ sp < 16
  · refine lv_aload_n hx hb d_L_law_116 rfl (lv_at hl 2 rfl) ?_
    refine lv_aload_n hx hb d_L_law_117 rfl (lv_at hl 1 rfl) ?_
    refine lv_iload_n hx hb d_L_law_118 rfl (lv_at hl 0 rfl) ?_
    refine lv_iconst (v := nI 1) hx hb d_L_law_119 (by decide) ?_
    refine lv_iadd hx hb d_L_law_120 ?_
    refine ob_eqi (nI_add i 1) ?_
    refine ob_sld hx hb hX hbl hbA hS (j := i + 1) (nI_clamp (by omega)) (vp_in_nI (by omega) (by omega)) d_L_law_121 ?_
    refine ob_callP1i (va_runV (As := [.int (xs (i + 1))]) (rest := []) ⟨hx, hb, hml, hown, hT⟩ (c_K_spend_t l dC dI q cI cL supply pot apl own amt tag mad spt made dsp dow dam dtg sp mk mint dep sups pots apps row hgt und (xs (i + 1)) hm hsp hc.1 hc.2.1 hc.2.2) (cwV 1 hT (ob_goodV k_145 k_146 k_147 k_9 k_148) rfl rfl rfl (by decide +kernel) ⟨Nat.le_of_ble_eq_true rfl, Nat.le_of_ble_eq_true rfl⟩) (ob_preXW ob_N_nest hK (ob_P1 hP) (ob_D1 hD) hN rfl rfl) rfl rfl hl.1 rfl (lv_room (Nat.le_of_ble_eq_true rfl)) d_L_law_122 ⟨Nat.le_of_ble_eq_true rfl, Nat.le_of_ble_eq_true rfl⟩) hS hP hD rfl (fun H locs hP hD hS => ?_)
    refine lv_aload_n hx hb d_L_law_125 rfl (lv_at hl 3 rfl) ?_
    refine lv_aload_n hx hb d_L_law_126 rfl (lv_at hl 1 rfl) ?_
    refine lv_iload_n hx hb d_L_law_127 rfl (lv_at hl 0 rfl) ?_
    refine lv_iconst (v := nI 1) hx hb d_L_law_128 (by decide) ?_
    refine lv_iadd hx hb d_L_law_129 ?_
    refine ob_eqi (nI_add i 1) ?_
    refine ob_sld hx hb hX hbl hbA hS (j := i + 1) (nI_clamp (by omega)) (vp_in_nI (by omega) (by omega)) d_L_law_130 ?_
    refine ob_callP2i (va_runV (As := [.int (xs (i + 1))]) (rest := [.int (nI 1)]) ⟨hx, hb, hml, hown, hT⟩ (c_M_spend_t l dC dI r cI cL own amt tag mad spt made ds2 dow dam dtg sp mk mint dep hgt und supply pot apl fes mns tms pic (xs (i + 1)) hm hv hsp hc.1 (fun z => hc.2.1 ((li_D_any hd).mp z)) hc.2.2) (cwV 1 hT (ob_goodV k_398 k_399 k_400 k_14 k_401) rfl rfl rfl (by decide +kernel) ⟨Nat.le_of_ble_eq_true rfl, Nat.le_of_ble_eq_true rfl⟩) (ob_preXW rfl hK (ob_P2 hP) (ob_D2 hD) (fun _ h => absurd h List.not_mem_nil) rfl rfl) rfl rfl hl.1 rfl (lv_room (Nat.le_of_ble_eq_true rfl)) d_L_law_131 ⟨Nat.le_of_ble_eq_true rfl, Nat.le_of_ble_eq_true rfl⟩) hS hP hD rfl (fun H locs hP hD hS => ?_)
    refine lv_icmp_eq (tgt := 602) hx hb d_L_law_134 (by decide) (fun _ => ?_) (fun c => absurd rfl c)
    exact kk _ _ ⟨_, _, _, _, _, _, _, _, _, _, _, _, _, _, _, _, _, _, _, _, _, _, _, _, _, _, _, _, (by exact ⟨⟨hm, by omega, hmk, hrow, hdp1, hdep, hud, huh, by omega⟩, hv, li_D_spend hd hc.1 hc.2.1, hs⟩), hP, hD, hS⟩
  · refine lv_aload_n hx hb d_L_law_116 rfl (lv_at hl 2 rfl) ?_
    refine lv_aload_n hx hb d_L_law_117 rfl (lv_at hl 1 rfl) ?_
    refine lv_iload_n hx hb d_L_law_118 rfl (lv_at hl 0 rfl) ?_
    refine lv_iconst (v := nI 1) hx hb d_L_law_119 (by decide) ?_
    refine lv_iadd hx hb d_L_law_120 ?_
    refine ob_eqi (nI_add i 1) ?_
    refine ob_sld hx hb hX hbl hbA hS (j := i + 1) (nI_clamp (by omega)) (vp_in_nI (by omega) (by omega)) d_L_law_121 ?_
    refine ob_callR (W.runV (As := [.int (xs (i + 1))]) (rest := []) ⟨hx, hb, hml, hown, hT⟩ (c_K_spend_f l dC dI q cI cL supply pot apl own amt tag mad spt made dsp dow dam dtg sp mk mint dep sups pots apps row hgt und (xs (i + 1)) hm hsp hc) (cwV 1 hT (ob_goodV k_145 k_146 k_147 k_9 k_148) rfl rfl rfl (by decide +kernel) ⟨Nat.le_of_ble_eq_true rfl, Nat.le_of_ble_eq_true rfl⟩) (ob_preX ob_N_nest hK (ob_P1 hP) hN rfl rfl) rfl rfl hl.1 rfl (lv_room (Nat.le_of_ble_eq_true rfl)) d_L_law_122 ⟨Nat.le_of_ble_eq_true rfl, Nat.le_of_ble_eq_true rfl⟩) ?_
    refine lv_aload_n hx hb d_L_law_125 rfl (lv_at hl 3 rfl) ?_
    refine lv_aload_n hx hb d_L_law_126 rfl (lv_at hl 1 rfl) ?_
    refine lv_iload_n hx hb d_L_law_127 rfl (lv_at hl 0 rfl) ?_
    refine lv_iconst (v := nI 1) hx hb d_L_law_128 (by decide) ?_
    refine lv_iadd hx hb d_L_law_129 ?_
    refine ob_eqi (nI_add i 1) ?_
    refine ob_sld hx hb hX hbl hbA hS (j := i + 1) (nI_clamp (by omega)) (vp_in_nI (by omega) (by omega)) d_L_law_130 ?_
    refine ob_callP2i (va_runV (As := [.int (xs (i + 1))]) (rest := [.int (nI 0)]) ⟨hx, hb, hml, hown, hT⟩ (c_M_spend_f l dC dI r cI cL own amt tag mad spt made ds2 dow dam dtg sp mk mint dep hgt und supply pot apl fes mns tms pic (xs (i + 1)) hm hv hsp (fun z => hc ⟨z.1, fun y => z.2.1 ((li_D_any hd).mpr y), z.2.2⟩)) (cwV 1 hT (ob_goodV k_398 k_399 k_400 k_14 k_401) rfl rfl rfl (by decide +kernel) ⟨Nat.le_of_ble_eq_true rfl, Nat.le_of_ble_eq_true rfl⟩) (ob_preXW rfl hK (ob_P2 hP) (ob_D2 hD) (fun _ h => absurd h List.not_mem_nil) rfl rfl) rfl rfl hl.1 rfl (lv_room (Nat.le_of_ble_eq_true rfl)) d_L_law_131 ⟨Nat.le_of_ble_eq_true rfl, Nat.le_of_ble_eq_true rfl⟩) hS hP hD rfl (fun H locs hP hD hS => ?_)
    refine lv_icmp_eq (tgt := 602) hx hb d_L_law_134 (by decide) (fun _ => ?_) (fun c => absurd rfl c)
    exact kk _ _ ⟨_, _, _, _, _, _, _, _, _, _, _, _, _, _, _, _, _, _, _, _, _, _, _, _, _, _, _, _, (by exact ⟨⟨hm, hsp, hmk, hrow, hdp1, hdep, hud, huh, by omega⟩, hv, hd, hs⟩), hP, hD, hS⟩
set_option maxHeartbeats 4000000 in
set_option maxRecDepth 100000 in
theorem law_c1 {p : Program} {e : Env} {s : State} {m : MethodId} {below : List Frame} {meth : Method} {c : Code} (l : Launch) {b L : Nat} {xs : Nat → Int32} (hL : L ≤ 3073) (C0 : lw_At p s m meth c b L xs) {dC : Nat → ClassId} {dI : Nat → Nat → Nat} {q r : Nat → Nat} {cI cL : ClassId} (hK : va_K (dC, dI) vwCl [(cI, .int), (cL, .long)] s) {i t : Nat} (hi : i + 6 ≤ L) (hit : i = 1 + 6 * t) {ls : Array Slot} (hl : lv_has ls 4 [(3, .int (nI i)), (0, .ref b), (1, .ref (q 0)), (2, .ref (r 0))]) {H : Heap} {locs : List Loc} (hSt : li_St dC dI s q r cI cL t H locs) (kk : ∀ (H : Heap) (locs : List Loc), li_St dC dI s q r cI cL (t + 1) H locs → W p l e room_1 s m #[Value.ref b] below meth c H locs 30 95869 (lw_Z below #[Value.ref b] s) (F0 m 602 ls [])) : W p l e room_1 s m #[Value.ref b] below meth c H locs 30 95869 (lw_Z below #[Value.ref b] s) (F0 m 139 ls []) := by
  obtain ⟨hx, hb, hr, hml, hown, hts, hX, hbl, hlocks, hgv⟩ := C0
  have hT : ∀ w ∈ ob_T, w.before #[Value.ref b] s = true := fun w h => hts w (ob_T_in w h)
  have hN : ∀ w ∈ ob_N, va_Nw w s := fun w h => va_Nw.of (ob_onT (List.all_eq_true.mp ob_N_nest w h)) (hts w (ob_N_in w h))
  have hbA : ¬ (fun q : Nat => s.heap.size ≤ q) b := Nat.not_le.mpr hbl
  obtain ⟨supply, pot, apl, own, amt, tag, mad, spt, made, dsp, dow, dam, dtg, sp, mk, mint, dep, sups, pots, apps, row, hgt, und, ds2, fes, mns, tms, pic, ⟨⟨hm, hsp, hmk, hrow, hdp1, hdep, hud, huh, hht⟩, hv, hd, hs⟩, hP, hD, hS⟩ := hSt
  have hhg : hgt ≤ 1000 := by omega
  by_cases hc : (0 ≤ (xs (i + 1)).toInt ∧ (xs (i + 1)).toInt < 256) ∧ ¬ lk_L (xs (i + 2)) (xs (i + 3)) < 1 ∧ mk < 16
  · refine lv_aload_n hx hb d_L_law_139 rfl (lv_at hl 2 rfl) ?_
    refine lv_aload_n hx hb d_L_law_140 rfl (lv_at hl 1 rfl) ?_
    refine lv_iload_n hx hb d_L_law_141 rfl (lv_at hl 0 rfl) ?_
    refine lv_iconst (v := nI 1) hx hb d_L_law_142 (by decide) ?_
    refine lv_iadd hx hb d_L_law_143 ?_
    refine ob_eqi (nI_add i 1) ?_
    refine ob_sld hx hb hX hbl hbA hS (j := i + 1) (nI_clamp (by omega)) (vp_in_nI (by omega) (by omega)) d_L_law_144 ?_
    refine lv_aload_n hx hb d_L_law_145 rfl (lv_at hl 1 rfl) ?_
    refine lv_iload_n hx hb d_L_law_146 rfl (lv_at hl 0 rfl) ?_
    refine lv_iconst (v := nI 2) hx hb d_L_law_147 (by decide) ?_
    refine lv_iadd hx hb d_L_law_148 ?_
    refine ob_eqi (nI_add i 2) ?_
    refine ob_sld hx hb hX hbl hbA hS (j := i + 2) (nI_clamp (by omega)) (vp_in_nI (by omega) (by omega)) d_L_law_149 ?_
    refine lv_i2l (v := (xs (i + 2)).toInt64) hx hb d_L_law_150 rfl ?_
    refine lv_bipush (v := nI 32) hx hb d_L_law_151 (by decide) ?_
    refine lv_lshl (v := ((xs (i + 2)).toInt64) <<< ((nI 32).toInt64 &&& 63)) hx hb d_L_law_153 rfl ?_
    refine lv_aload_n hx hb d_L_law_154 rfl (lv_at hl 1 rfl) ?_
    refine lv_iload_n hx hb d_L_law_155 rfl (lv_at hl 0 rfl) ?_
    refine lv_iconst (v := nI 3) hx hb d_L_law_156 (by decide) ?_
    refine lv_iadd hx hb d_L_law_157 ?_
    refine ob_eqi (nI_add i 3) ?_
    refine ob_sld hx hb hX hbl hbA hS (j := i + 3) (nI_clamp (by omega)) (vp_in_nI (by omega) (by omega)) d_L_law_158 ?_
    refine lv_i2l (v := (xs (i + 3)).toInt64) hx hb d_L_law_159 rfl ?_
    refine lv_ldc2 (v := 4294967295) hx hb hown (hT _ k_485) d_L_law_160 ?_
    refine lv_land hx hb d_L_law_163 ?_
    refine lv_lor hx hb d_L_law_164 ?_
    refine ob_eql (y := lk_L (xs (i + 2)) (xs (i + 3))) rfl ?_
    refine lv_aload_n hx hb d_L_law_165 rfl (lv_at hl 1 rfl) ?_
    refine lv_iload_n hx hb d_L_law_166 rfl (lv_at hl 0 rfl) ?_
    refine lv_iconst (v := nI 4) hx hb d_L_law_167 (by decide) ?_
    refine lv_iadd hx hb d_L_law_168 ?_
    refine ob_eqi (nI_add i 4) ?_
    refine ob_sld hx hb hX hbl hbA hS (j := i + 4) (nI_clamp (by omega)) (vp_in_nI (by omega) (by omega)) d_L_law_169 ?_
    refine lv_i2l (v := (xs (i + 4)).toInt64) hx hb d_L_law_170 rfl ?_
    refine lv_bipush (v := nI 32) hx hb d_L_law_171 (by decide) ?_
    refine lv_lshl (v := ((xs (i + 4)).toInt64) <<< ((nI 32).toInt64 &&& 63)) hx hb d_L_law_173 rfl ?_
    refine lv_aload_n hx hb d_L_law_174 rfl (lv_at hl 1 rfl) ?_
    refine lv_iload_n hx hb d_L_law_175 rfl (lv_at hl 0 rfl) ?_
    refine lv_iconst (v := nI 5) hx hb d_L_law_176 (by decide) ?_
    refine lv_iadd hx hb d_L_law_177 ?_
    refine ob_eqi (nI_add i 5) ?_
    refine ob_sld hx hb hX hbl hbA hS (j := i + 5) (nI_clamp (by omega)) (vp_in_nI (by omega) (by omega)) d_L_law_178 ?_
    refine lv_i2l (v := (xs (i + 5)).toInt64) hx hb d_L_law_179 rfl ?_
    refine lv_ldc2 (v := 4294967295) hx hb hown (hT _ k_485) d_L_law_180 ?_
    refine lv_land hx hb d_L_law_183 ?_
    refine lv_lor hx hb d_L_law_184 ?_
    refine ob_eql (y := lk_L (xs (i + 4)) (xs (i + 5))) rfl ?_
    refine ob_callP1i (va_runV (As := [.int (xs (i + 1)), .long (lk_L (xs (i + 2)) (xs (i + 3))), .long (lk_L (xs (i + 4)) (xs (i + 5)))]) (rest := []) ⟨hx, hb, hml, hown, hT⟩ (c_K_make_t l dC dI q cI cL supply pot apl own amt tag mad spt made dsp dow dam dtg sp mk mint dep sups pots apps row hgt und (xs (i + 1)) (lk_L (xs (i + 2)) (xs (i + 3))) (lk_L (xs (i + 4)) (xs (i + 5))) hmk hc.1 hc.2.1 hc.2.2) (cwV 3 hT (ob_goodV k_174 k_175 k_176 k_9 k_177) rfl rfl rfl (by decide +kernel) ⟨Nat.le_of_ble_eq_true rfl, Nat.le_of_ble_eq_true rfl⟩) (ob_preXW ob_N_nest hK (ob_P1 hP) (ob_D1 hD) hN rfl rfl) rfl rfl hl.1 rfl (lv_room (Nat.le_of_ble_eq_true rfl)) d_L_law_185 ⟨Nat.le_of_ble_eq_true rfl, Nat.le_of_ble_eq_true rfl⟩) hS hP hD rfl (fun H locs hP hD hS => ?_)
    refine lv_aload_n hx hb d_L_law_188 rfl (lv_at hl 3 rfl) ?_
    refine lv_aload_n hx hb d_L_law_189 rfl (lv_at hl 1 rfl) ?_
    refine lv_iload_n hx hb d_L_law_190 rfl (lv_at hl 0 rfl) ?_
    refine lv_iconst (v := nI 1) hx hb d_L_law_191 (by decide) ?_
    refine lv_iadd hx hb d_L_law_192 ?_
    refine ob_eqi (nI_add i 1) ?_
    refine ob_sld hx hb hX hbl hbA hS (j := i + 1) (nI_clamp (by omega)) (vp_in_nI (by omega) (by omega)) d_L_law_193 ?_
    refine lv_aload_n hx hb d_L_law_194 rfl (lv_at hl 1 rfl) ?_
    refine lv_iload_n hx hb d_L_law_195 rfl (lv_at hl 0 rfl) ?_
    refine lv_iconst (v := nI 2) hx hb d_L_law_196 (by decide) ?_
    refine lv_iadd hx hb d_L_law_197 ?_
    refine ob_eqi (nI_add i 2) ?_
    refine ob_sld hx hb hX hbl hbA hS (j := i + 2) (nI_clamp (by omega)) (vp_in_nI (by omega) (by omega)) d_L_law_198 ?_
    refine lv_i2l (v := (xs (i + 2)).toInt64) hx hb d_L_law_199 rfl ?_
    refine lv_bipush (v := nI 32) hx hb d_L_law_200 (by decide) ?_
    refine lv_lshl (v := ((xs (i + 2)).toInt64) <<< ((nI 32).toInt64 &&& 63)) hx hb d_L_law_202 rfl ?_
    refine lv_aload_n hx hb d_L_law_203 rfl (lv_at hl 1 rfl) ?_
    refine lv_iload_n hx hb d_L_law_204 rfl (lv_at hl 0 rfl) ?_
    refine lv_iconst (v := nI 3) hx hb d_L_law_205 (by decide) ?_
    refine lv_iadd hx hb d_L_law_206 ?_
    refine ob_eqi (nI_add i 3) ?_
    refine ob_sld hx hb hX hbl hbA hS (j := i + 3) (nI_clamp (by omega)) (vp_in_nI (by omega) (by omega)) d_L_law_207 ?_
    refine lv_i2l (v := (xs (i + 3)).toInt64) hx hb d_L_law_208 rfl ?_
    refine lv_ldc2 (v := 4294967295) hx hb hown (hT _ k_485) d_L_law_209 ?_
    refine lv_land hx hb d_L_law_212 ?_
    refine lv_lor hx hb d_L_law_213 ?_
    refine ob_eql (y := lk_L (xs (i + 2)) (xs (i + 3))) rfl ?_
    refine lv_aload_n hx hb d_L_law_214 rfl (lv_at hl 1 rfl) ?_
    refine lv_iload_n hx hb d_L_law_215 rfl (lv_at hl 0 rfl) ?_
    refine lv_iconst (v := nI 4) hx hb d_L_law_216 (by decide) ?_
    refine lv_iadd hx hb d_L_law_217 ?_
    refine ob_eqi (nI_add i 4) ?_
    refine ob_sld hx hb hX hbl hbA hS (j := i + 4) (nI_clamp (by omega)) (vp_in_nI (by omega) (by omega)) d_L_law_218 ?_
    refine lv_i2l (v := (xs (i + 4)).toInt64) hx hb d_L_law_219 rfl ?_
    refine lv_bipush (v := nI 32) hx hb d_L_law_220 (by decide) ?_
    refine lv_lshl (v := ((xs (i + 4)).toInt64) <<< ((nI 32).toInt64 &&& 63)) hx hb d_L_law_222 rfl ?_
    refine lv_aload_n hx hb d_L_law_223 rfl (lv_at hl 1 rfl) ?_
    refine lv_iload_n hx hb d_L_law_224 rfl (lv_at hl 0 rfl) ?_
    refine lv_iconst (v := nI 5) hx hb d_L_law_225 (by decide) ?_
    refine lv_iadd hx hb d_L_law_226 ?_
    refine ob_eqi (nI_add i 5) ?_
    refine ob_sld hx hb hX hbl hbA hS (j := i + 5) (nI_clamp (by omega)) (vp_in_nI (by omega) (by omega)) d_L_law_227 ?_
    refine lv_i2l (v := (xs (i + 5)).toInt64) hx hb d_L_law_228 rfl ?_
    refine lv_ldc2 (v := 4294967295) hx hb hown (hT _ k_485) d_L_law_229 ?_
    refine lv_land hx hb d_L_law_232 ?_
    refine lv_lor hx hb d_L_law_233 ?_
    refine ob_eql (y := lk_L (xs (i + 4)) (xs (i + 5))) rfl ?_
    refine ob_callP2i (va_runV (As := [.int (xs (i + 1)), .long (lk_L (xs (i + 2)) (xs (i + 3))), .long (lk_L (xs (i + 4)) (xs (i + 5)))]) (rest := [.int (nI 1)]) ⟨hx, hb, hml, hown, hT⟩ (c_M_make_t l dC dI r cI cL own amt tag mad spt made ds2 dow dam dtg sp mk mint dep hgt und supply pot apl fes mns tms pic (xs (i + 1)) (lk_L (xs (i + 2)) (xs (i + 3))) (lk_L (xs (i + 4)) (xs (i + 5))) hmk hc.1 hc.2.1 hc.2.2) (cwV 3 hT (ob_goodV k_414 k_415 k_416 k_14 k_417) rfl rfl rfl (by decide +kernel) ⟨Nat.le_of_ble_eq_true rfl, Nat.le_of_ble_eq_true rfl⟩) (ob_preXW rfl hK (ob_P2 hP) (ob_D2 hD) (fun _ h => absurd h List.not_mem_nil) rfl rfl) rfl rfl hl.1 rfl (lv_room (Nat.le_of_ble_eq_true rfl)) d_L_law_234 ⟨Nat.le_of_ble_eq_true rfl, Nat.le_of_ble_eq_true rfl⟩) hS hP hD rfl (fun H locs hP hD hS => ?_)
    refine lv_icmp_eq (tgt := 602) hx hb d_L_law_237 (by decide) (fun _ => ?_) (fun c => absurd rfl c)
    exact kk _ _ ⟨_, _, _, _, _, _, _, _, _, _, _, _, _, _, _, _, _, _, _, _, _, _, _, _, _, _, _, _, (by exact ⟨⟨hm, hsp, by omega, hrow, hdp1, hdep, hud, huh, by omega⟩, hv, hd, hs⟩), hP, hD, hS⟩
  · refine lv_aload_n hx hb d_L_law_139 rfl (lv_at hl 2 rfl) ?_
    refine lv_aload_n hx hb d_L_law_140 rfl (lv_at hl 1 rfl) ?_
    refine lv_iload_n hx hb d_L_law_141 rfl (lv_at hl 0 rfl) ?_
    refine lv_iconst (v := nI 1) hx hb d_L_law_142 (by decide) ?_
    refine lv_iadd hx hb d_L_law_143 ?_
    refine ob_eqi (nI_add i 1) ?_
    refine ob_sld hx hb hX hbl hbA hS (j := i + 1) (nI_clamp (by omega)) (vp_in_nI (by omega) (by omega)) d_L_law_144 ?_
    refine lv_aload_n hx hb d_L_law_145 rfl (lv_at hl 1 rfl) ?_
    refine lv_iload_n hx hb d_L_law_146 rfl (lv_at hl 0 rfl) ?_
    refine lv_iconst (v := nI 2) hx hb d_L_law_147 (by decide) ?_
    refine lv_iadd hx hb d_L_law_148 ?_
    refine ob_eqi (nI_add i 2) ?_
    refine ob_sld hx hb hX hbl hbA hS (j := i + 2) (nI_clamp (by omega)) (vp_in_nI (by omega) (by omega)) d_L_law_149 ?_
    refine lv_i2l (v := (xs (i + 2)).toInt64) hx hb d_L_law_150 rfl ?_
    refine lv_bipush (v := nI 32) hx hb d_L_law_151 (by decide) ?_
    refine lv_lshl (v := ((xs (i + 2)).toInt64) <<< ((nI 32).toInt64 &&& 63)) hx hb d_L_law_153 rfl ?_
    refine lv_aload_n hx hb d_L_law_154 rfl (lv_at hl 1 rfl) ?_
    refine lv_iload_n hx hb d_L_law_155 rfl (lv_at hl 0 rfl) ?_
    refine lv_iconst (v := nI 3) hx hb d_L_law_156 (by decide) ?_
    refine lv_iadd hx hb d_L_law_157 ?_
    refine ob_eqi (nI_add i 3) ?_
    refine ob_sld hx hb hX hbl hbA hS (j := i + 3) (nI_clamp (by omega)) (vp_in_nI (by omega) (by omega)) d_L_law_158 ?_
    refine lv_i2l (v := (xs (i + 3)).toInt64) hx hb d_L_law_159 rfl ?_
    refine lv_ldc2 (v := 4294967295) hx hb hown (hT _ k_485) d_L_law_160 ?_
    refine lv_land hx hb d_L_law_163 ?_
    refine lv_lor hx hb d_L_law_164 ?_
    refine ob_eql (y := lk_L (xs (i + 2)) (xs (i + 3))) rfl ?_
    refine lv_aload_n hx hb d_L_law_165 rfl (lv_at hl 1 rfl) ?_
    refine lv_iload_n hx hb d_L_law_166 rfl (lv_at hl 0 rfl) ?_
    refine lv_iconst (v := nI 4) hx hb d_L_law_167 (by decide) ?_
    refine lv_iadd hx hb d_L_law_168 ?_
    refine ob_eqi (nI_add i 4) ?_
    refine ob_sld hx hb hX hbl hbA hS (j := i + 4) (nI_clamp (by omega)) (vp_in_nI (by omega) (by omega)) d_L_law_169 ?_
    refine lv_i2l (v := (xs (i + 4)).toInt64) hx hb d_L_law_170 rfl ?_
    refine lv_bipush (v := nI 32) hx hb d_L_law_171 (by decide) ?_
    refine lv_lshl (v := ((xs (i + 4)).toInt64) <<< ((nI 32).toInt64 &&& 63)) hx hb d_L_law_173 rfl ?_
    refine lv_aload_n hx hb d_L_law_174 rfl (lv_at hl 1 rfl) ?_
    refine lv_iload_n hx hb d_L_law_175 rfl (lv_at hl 0 rfl) ?_
    refine lv_iconst (v := nI 5) hx hb d_L_law_176 (by decide) ?_
    refine lv_iadd hx hb d_L_law_177 ?_
    refine ob_eqi (nI_add i 5) ?_
    refine ob_sld hx hb hX hbl hbA hS (j := i + 5) (nI_clamp (by omega)) (vp_in_nI (by omega) (by omega)) d_L_law_178 ?_
    refine lv_i2l (v := (xs (i + 5)).toInt64) hx hb d_L_law_179 rfl ?_
    refine lv_ldc2 (v := 4294967295) hx hb hown (hT _ k_485) d_L_law_180 ?_
    refine lv_land hx hb d_L_law_183 ?_
    refine lv_lor hx hb d_L_law_184 ?_
    refine ob_eql (y := lk_L (xs (i + 4)) (xs (i + 5))) rfl ?_
    refine ob_callR (W.runV (As := [.int (xs (i + 1)), .long (lk_L (xs (i + 2)) (xs (i + 3))), .long (lk_L (xs (i + 4)) (xs (i + 5)))]) (rest := []) ⟨hx, hb, hml, hown, hT⟩ (c_K_make_f l dC dI q cI cL supply pot apl own amt tag mad spt made dsp dow dam dtg sp mk mint dep sups pots apps row hgt und (xs (i + 1)) (lk_L (xs (i + 2)) (xs (i + 3))) (lk_L (xs (i + 4)) (xs (i + 5))) hmk hc) (cwV 3 hT (ob_goodV k_174 k_175 k_176 k_9 k_177) rfl rfl rfl (by decide +kernel) ⟨Nat.le_of_ble_eq_true rfl, Nat.le_of_ble_eq_true rfl⟩) (ob_preX ob_N_nest hK (ob_P1 hP) hN rfl rfl) rfl rfl hl.1 rfl (lv_room (Nat.le_of_ble_eq_true rfl)) d_L_law_185 ⟨Nat.le_of_ble_eq_true rfl, Nat.le_of_ble_eq_true rfl⟩) ?_
    refine lv_aload_n hx hb d_L_law_188 rfl (lv_at hl 3 rfl) ?_
    refine lv_aload_n hx hb d_L_law_189 rfl (lv_at hl 1 rfl) ?_
    refine lv_iload_n hx hb d_L_law_190 rfl (lv_at hl 0 rfl) ?_
    refine lv_iconst (v := nI 1) hx hb d_L_law_191 (by decide) ?_
    refine lv_iadd hx hb d_L_law_192 ?_
    refine ob_eqi (nI_add i 1) ?_
    refine ob_sld hx hb hX hbl hbA hS (j := i + 1) (nI_clamp (by omega)) (vp_in_nI (by omega) (by omega)) d_L_law_193 ?_
    refine lv_aload_n hx hb d_L_law_194 rfl (lv_at hl 1 rfl) ?_
    refine lv_iload_n hx hb d_L_law_195 rfl (lv_at hl 0 rfl) ?_
    refine lv_iconst (v := nI 2) hx hb d_L_law_196 (by decide) ?_
    refine lv_iadd hx hb d_L_law_197 ?_
    refine ob_eqi (nI_add i 2) ?_
    refine ob_sld hx hb hX hbl hbA hS (j := i + 2) (nI_clamp (by omega)) (vp_in_nI (by omega) (by omega)) d_L_law_198 ?_
    refine lv_i2l (v := (xs (i + 2)).toInt64) hx hb d_L_law_199 rfl ?_
    refine lv_bipush (v := nI 32) hx hb d_L_law_200 (by decide) ?_
    refine lv_lshl (v := ((xs (i + 2)).toInt64) <<< ((nI 32).toInt64 &&& 63)) hx hb d_L_law_202 rfl ?_
    refine lv_aload_n hx hb d_L_law_203 rfl (lv_at hl 1 rfl) ?_
    refine lv_iload_n hx hb d_L_law_204 rfl (lv_at hl 0 rfl) ?_
    refine lv_iconst (v := nI 3) hx hb d_L_law_205 (by decide) ?_
    refine lv_iadd hx hb d_L_law_206 ?_
    refine ob_eqi (nI_add i 3) ?_
    refine ob_sld hx hb hX hbl hbA hS (j := i + 3) (nI_clamp (by omega)) (vp_in_nI (by omega) (by omega)) d_L_law_207 ?_
    refine lv_i2l (v := (xs (i + 3)).toInt64) hx hb d_L_law_208 rfl ?_
    refine lv_ldc2 (v := 4294967295) hx hb hown (hT _ k_485) d_L_law_209 ?_
    refine lv_land hx hb d_L_law_212 ?_
    refine lv_lor hx hb d_L_law_213 ?_
    refine ob_eql (y := lk_L (xs (i + 2)) (xs (i + 3))) rfl ?_
    refine lv_aload_n hx hb d_L_law_214 rfl (lv_at hl 1 rfl) ?_
    refine lv_iload_n hx hb d_L_law_215 rfl (lv_at hl 0 rfl) ?_
    refine lv_iconst (v := nI 4) hx hb d_L_law_216 (by decide) ?_
    refine lv_iadd hx hb d_L_law_217 ?_
    refine ob_eqi (nI_add i 4) ?_
    refine ob_sld hx hb hX hbl hbA hS (j := i + 4) (nI_clamp (by omega)) (vp_in_nI (by omega) (by omega)) d_L_law_218 ?_
    refine lv_i2l (v := (xs (i + 4)).toInt64) hx hb d_L_law_219 rfl ?_
    refine lv_bipush (v := nI 32) hx hb d_L_law_220 (by decide) ?_
    refine lv_lshl (v := ((xs (i + 4)).toInt64) <<< ((nI 32).toInt64 &&& 63)) hx hb d_L_law_222 rfl ?_
    refine lv_aload_n hx hb d_L_law_223 rfl (lv_at hl 1 rfl) ?_
    refine lv_iload_n hx hb d_L_law_224 rfl (lv_at hl 0 rfl) ?_
    refine lv_iconst (v := nI 5) hx hb d_L_law_225 (by decide) ?_
    refine lv_iadd hx hb d_L_law_226 ?_
    refine ob_eqi (nI_add i 5) ?_
    refine ob_sld hx hb hX hbl hbA hS (j := i + 5) (nI_clamp (by omega)) (vp_in_nI (by omega) (by omega)) d_L_law_227 ?_
    refine lv_i2l (v := (xs (i + 5)).toInt64) hx hb d_L_law_228 rfl ?_
    refine lv_ldc2 (v := 4294967295) hx hb hown (hT _ k_485) d_L_law_229 ?_
    refine lv_land hx hb d_L_law_232 ?_
    refine lv_lor hx hb d_L_law_233 ?_
    refine ob_eql (y := lk_L (xs (i + 4)) (xs (i + 5))) rfl ?_
    refine ob_callP2i (va_runV (As := [.int (xs (i + 1)), .long (lk_L (xs (i + 2)) (xs (i + 3))), .long (lk_L (xs (i + 4)) (xs (i + 5)))]) (rest := [.int (nI 0)]) ⟨hx, hb, hml, hown, hT⟩ (c_M_make_f l dC dI r cI cL own amt tag mad spt made ds2 dow dam dtg sp mk mint dep hgt und supply pot apl fes mns tms pic (xs (i + 1)) (lk_L (xs (i + 2)) (xs (i + 3))) (lk_L (xs (i + 4)) (xs (i + 5))) hmk hc) (cwV 3 hT (ob_goodV k_414 k_415 k_416 k_14 k_417) rfl rfl rfl (by decide +kernel) ⟨Nat.le_of_ble_eq_true rfl, Nat.le_of_ble_eq_true rfl⟩) (ob_preXW rfl hK (ob_P2 hP) (ob_D2 hD) (fun _ h => absurd h List.not_mem_nil) rfl rfl) rfl rfl hl.1 rfl (lv_room (Nat.le_of_ble_eq_true rfl)) d_L_law_234 ⟨Nat.le_of_ble_eq_true rfl, Nat.le_of_ble_eq_true rfl⟩) hS hP hD rfl (fun H locs hP hD hS => ?_)
    refine lv_icmp_eq (tgt := 602) hx hb d_L_law_237 (by decide) (fun _ => ?_) (fun c => absurd rfl c)
    exact kk _ _ ⟨_, _, _, _, _, _, _, _, _, _, _, _, _, _, _, _, _, _, _, _, _, _, _, _, _, _, _, _, (by exact ⟨⟨hm, hsp, hmk, hrow, hdp1, hdep, hud, huh, by omega⟩, hv, hd, hs⟩), hP, hD, hS⟩
set_option maxHeartbeats 4000000 in
set_option maxRecDepth 100000 in
theorem law_c2 {p : Program} {e : Env} {s : State} {m : MethodId} {below : List Frame} {meth : Method} {c : Code} (l : Launch) {b L : Nat} {xs : Nat → Int32} (hL : L ≤ 3073) (C0 : lw_At p s m meth c b L xs) {dC : Nat → ClassId} {dI : Nat → Nat → Nat} {q r : Nat → Nat} {cI cL : ClassId} (hK : va_K (dC, dI) vwCl [(cI, .int), (cL, .long)] s) {i t : Nat} (hi : i + 6 ≤ L) (hit : i = 1 + 6 * t) {ls : Array Slot} (hl : lv_has ls 4 [(3, .int (nI i)), (0, .ref b), (1, .ref (q 0)), (2, .ref (r 0))]) {H : Heap} {locs : List Loc} (hSt : li_St dC dI s q r cI cL t H locs) (kk : ∀ (H : Heap) (locs : List Loc), li_St dC dI s q r cI cL (t + 1) H locs → W p l e room_1 s m #[Value.ref b] below meth c H locs 30 95869 (lw_Z below #[Value.ref b] s) (F0 m 602 ls [])) : W p l e room_1 s m #[Value.ref b] below meth c H locs 30 95869 (lw_Z below #[Value.ref b] s) (F0 m 242 ls []) := by
  obtain ⟨hx, hb, hr, hml, hown, hts, hX, hbl, hlocks, hgv⟩ := C0
  have hT : ∀ w ∈ ob_T, w.before #[Value.ref b] s = true := fun w h => hts w (ob_T_in w h)
  have hN : ∀ w ∈ ob_N, va_Nw w s := fun w h => va_Nw.of (ob_onT (List.all_eq_true.mp ob_N_nest w h)) (hts w (ob_N_in w h))
  have hbA : ¬ (fun q : Nat => s.heap.size ≤ q) b := Nat.not_le.mpr hbl
  obtain ⟨supply, pot, apl, own, amt, tag, mad, spt, made, dsp, dow, dam, dtg, sp, mk, mint, dep, sups, pots, apps, row, hgt, und, ds2, fes, mns, tms, pic, ⟨⟨hm, hsp, hmk, hrow, hdp1, hdep, hud, huh, hht⟩, hv, hd, hs⟩, hP, hD, hS⟩ := hSt
  have hhg : hgt ≤ 1000 := by omega
  refine lv_aload_n hx hb d_L_law_242 rfl (lv_at hl 2 rfl) ?_
  refine lv_aload_n hx hb d_L_law_243 rfl (lv_at hl 1 rfl) ?_
  refine lv_iload_n hx hb d_L_law_244 rfl (lv_at hl 0 rfl) ?_
  refine lv_iconst (v := nI 1) hx hb d_L_law_245 (by decide) ?_
  refine lv_iadd hx hb d_L_law_246 ?_
  refine ob_eqi (nI_add i 1) ?_
  refine ob_sld hx hb hX hbl hbA hS (j := i + 1) (nI_clamp (by omega)) (vp_in_nI (by omega) (by omega)) d_L_law_247 ?_
  refine lv_i2l (v := (xs (i + 1)).toInt64) hx hb d_L_law_248 rfl ?_
  refine lv_bipush (v := nI 32) hx hb d_L_law_249 (by decide) ?_
  refine lv_lshl (v := ((xs (i + 1)).toInt64) <<< ((nI 32).toInt64 &&& 63)) hx hb d_L_law_251 rfl ?_
  refine lv_aload_n hx hb d_L_law_252 rfl (lv_at hl 1 rfl) ?_
  refine lv_iload_n hx hb d_L_law_253 rfl (lv_at hl 0 rfl) ?_
  refine lv_iconst (v := nI 2) hx hb d_L_law_254 (by decide) ?_
  refine lv_iadd hx hb d_L_law_255 ?_
  refine ob_eqi (nI_add i 2) ?_
  refine ob_sld hx hb hX hbl hbA hS (j := i + 2) (nI_clamp (by omega)) (vp_in_nI (by omega) (by omega)) d_L_law_256 ?_
  refine lv_i2l (v := (xs (i + 2)).toInt64) hx hb d_L_law_257 rfl ?_
  refine lv_ldc2 (v := 4294967295) hx hb hown (hT _ k_485) d_L_law_258 ?_
  refine lv_land hx hb d_L_law_261 ?_
  refine lv_lor hx hb d_L_law_262 ?_
  refine ob_eql (y := lk_L (xs (i + 1)) (xs (i + 2))) rfl ?_
  refine ob_callP1v (va_runV (As := [.long (lk_L (xs (i + 1)) (xs (i + 2)))]) (rest := []) ⟨hx, hb, hml, hown, hT⟩ (c_K_mint l dC dI q cI cL supply pot apl own amt tag mad spt made dsp dow dam dtg sp mk mint dep sups pots apps row hgt und (lk_L (xs (i + 1)) (xs (i + 2))) ) (cwV 1 hT (ob_goodV k_187 k_188 k_189 k_9 k_190) rfl rfl rfl (by decide +kernel) ⟨Nat.le_of_ble_eq_true rfl, Nat.le_of_ble_eq_true rfl⟩) (ob_preXW ob_N_nest hK (ob_P1 hP) (ob_D1 hD) hN rfl rfl) rfl rfl hl.1 rfl (lv_room (Nat.le_of_ble_eq_true rfl)) d_L_law_263 ⟨Nat.le_of_ble_eq_true rfl, Nat.le_of_ble_eq_true rfl⟩) hS hP hD rfl (fun H locs hP hD hS => ?_)
  refine lv_aload_n hx hb d_L_law_266 rfl (lv_at hl 3 rfl) ?_
  refine lv_aload_n hx hb d_L_law_267 rfl (lv_at hl 1 rfl) ?_
  refine lv_iload_n hx hb d_L_law_268 rfl (lv_at hl 0 rfl) ?_
  refine lv_iconst (v := nI 1) hx hb d_L_law_269 (by decide) ?_
  refine lv_iadd hx hb d_L_law_270 ?_
  refine ob_eqi (nI_add i 1) ?_
  refine ob_sld hx hb hX hbl hbA hS (j := i + 1) (nI_clamp (by omega)) (vp_in_nI (by omega) (by omega)) d_L_law_271 ?_
  refine lv_i2l (v := (xs (i + 1)).toInt64) hx hb d_L_law_272 rfl ?_
  refine lv_bipush (v := nI 32) hx hb d_L_law_273 (by decide) ?_
  refine lv_lshl (v := ((xs (i + 1)).toInt64) <<< ((nI 32).toInt64 &&& 63)) hx hb d_L_law_275 rfl ?_
  refine lv_aload_n hx hb d_L_law_276 rfl (lv_at hl 1 rfl) ?_
  refine lv_iload_n hx hb d_L_law_277 rfl (lv_at hl 0 rfl) ?_
  refine lv_iconst (v := nI 2) hx hb d_L_law_278 (by decide) ?_
  refine lv_iadd hx hb d_L_law_279 ?_
  refine ob_eqi (nI_add i 2) ?_
  refine ob_sld hx hb hX hbl hbA hS (j := i + 2) (nI_clamp (by omega)) (vp_in_nI (by omega) (by omega)) d_L_law_280 ?_
  refine lv_i2l (v := (xs (i + 2)).toInt64) hx hb d_L_law_281 rfl ?_
  refine lv_ldc2 (v := 4294967295) hx hb hown (hT _ k_485) d_L_law_282 ?_
  refine lv_land hx hb d_L_law_285 ?_
  refine lv_lor hx hb d_L_law_286 ?_
  refine ob_eql (y := lk_L (xs (i + 1)) (xs (i + 2))) rfl ?_
  refine ob_callP2v (va_runV (As := [.long (lk_L (xs (i + 1)) (xs (i + 2)))]) (rest := []) ⟨hx, hb, hml, hown, hT⟩ (c_M_mint l dC dI r cI cL own amt tag mad spt made ds2 dow dam dtg sp mk mint dep hgt und supply pot apl fes mns tms pic (lk_L (xs (i + 1)) (xs (i + 2))) ) (cwV 1 hT (ob_goodV k_421 k_422 k_423 k_14 k_424) rfl rfl rfl (by decide +kernel) ⟨Nat.le_of_ble_eq_true rfl, Nat.le_of_ble_eq_true rfl⟩) (ob_preXW rfl hK (ob_P2 hP) (ob_D2 hD) (fun _ h => absurd h List.not_mem_nil) rfl rfl) rfl rfl hl.1 rfl (lv_room (Nat.le_of_ble_eq_true rfl)) d_L_law_287 ⟨Nat.le_of_ble_eq_true rfl, Nat.le_of_ble_eq_true rfl⟩) hS hP hD rfl (fun H locs hP hD hS => ?_)
  refine lv_goto (tgt := 602) hx hb d_L_law_290 (by decide) ?_
  exact kk _ _ ⟨_, _, _, _, _, _, _, _, _, _, _, _, _, _, _, _, _, _, _, _, _, _, _, _, _, _, _, _, (by exact ⟨⟨hm, hsp, hmk, hrow, hdp1, hdep, hud, huh, by omega⟩, hv, hd, hs⟩), hP, hD, hS⟩
set_option maxHeartbeats 4000000 in
set_option maxRecDepth 100000 in
theorem law_c3 {p : Program} {e : Env} {s : State} {m : MethodId} {below : List Frame} {meth : Method} {c : Code} (l : Launch) {b L : Nat} {xs : Nat → Int32} (hL : L ≤ 3073) (C0 : lw_At p s m meth c b L xs) {dC : Nat → ClassId} {dI : Nat → Nat → Nat} {q r : Nat → Nat} {cI cL : ClassId} (hK : va_K (dC, dI) vwCl [(cI, .int), (cL, .long)] s) {i t : Nat} (hi : i + 6 ≤ L) (hit : i = 1 + 6 * t) {ls : Array Slot} (hl : lv_has ls 4 [(3, .int (nI i)), (0, .ref b), (1, .ref (q 0)), (2, .ref (r 0))]) {H : Heap} {locs : List Loc} (hSt : li_St dC dI s q r cI cL t H locs) (kk : ∀ (H : Heap) (locs : List Loc), li_St dC dI s q r cI cL (t + 1) H locs → W p l e room_1 s m #[Value.ref b] below meth c H locs 30 95869 (lw_Z below #[Value.ref b] s) (F0 m 602 ls [])) : W p l e room_1 s m #[Value.ref b] below meth c H locs 30 95869 (lw_Z below #[Value.ref b] s) (F0 m 293 ls []) := by
  obtain ⟨hx, hb, hr, hml, hown, hts, hX, hbl, hlocks, hgv⟩ := C0
  have hT : ∀ w ∈ ob_T, w.before #[Value.ref b] s = true := fun w h => hts w (ob_T_in w h)
  have hN : ∀ w ∈ ob_N, va_Nw w s := fun w h => va_Nw.of (ob_onT (List.all_eq_true.mp ob_N_nest w h)) (hts w (ob_N_in w h))
  have hbA : ¬ (fun q : Nat => s.heap.size ≤ q) b := Nat.not_le.mpr hbl
  obtain ⟨supply, pot, apl, own, amt, tag, mad, spt, made, dsp, dow, dam, dtg, sp, mk, mint, dep, sups, pots, apps, row, hgt, und, ds2, fes, mns, tms, pic, ⟨⟨hm, hsp, hmk, hrow, hdp1, hdep, hud, huh, hht⟩, hv, hd, hs⟩, hP, hD, hS⟩ := hSt
  have hhg : hgt ≤ 1000 := by omega
  refine lv_aload_n hx hb d_L_law_293 rfl (lv_at hl 2 rfl) ?_
  refine ob_callP1v (va_runV (As := []) (rest := []) ⟨hx, hb, hml, hown, hT⟩ (c_K_drop l dC dI q cI cL supply pot apl own amt tag mad spt made dsp dow dam dtg sp mk mint dep sups pots apps row hgt und ) (cwV 0 hT (ob_goodV k_191 k_192 k_193 k_9 k_194) rfl rfl rfl (by decide +kernel) ⟨Nat.le_of_ble_eq_true rfl, Nat.le_of_ble_eq_true rfl⟩) (ob_preXW ob_N_nest hK (ob_P1 hP) (ob_D1 hD) hN rfl rfl) rfl rfl hl.1 rfl (lv_room (Nat.le_of_ble_eq_true rfl)) d_L_law_294 ⟨Nat.le_of_ble_eq_true rfl, Nat.le_of_ble_eq_true rfl⟩) hS hP hD rfl (fun H locs hP hD hS => ?_)
  refine lv_aload_n hx hb d_L_law_297 rfl (lv_at hl 3 rfl) ?_
  refine ob_callP2v (va_runV (As := []) (rest := []) ⟨hx, hb, hml, hown, hT⟩ (c_M_drop l dC dI r cI cL own amt tag mad spt made ds2 dow dam dtg sp mk mint dep hgt und supply pot apl fes mns tms pic ) (cwV 0 hT (ob_goodV k_425 k_426 k_427 k_14 k_428) rfl rfl rfl (by decide +kernel) ⟨Nat.le_of_ble_eq_true rfl, Nat.le_of_ble_eq_true rfl⟩) (ob_preXW rfl hK (ob_P2 hP) (ob_D2 hD) (fun _ h => absurd h List.not_mem_nil) rfl rfl) rfl rfl hl.1 rfl (lv_room (Nat.le_of_ble_eq_true rfl)) d_L_law_298 ⟨Nat.le_of_ble_eq_true rfl, Nat.le_of_ble_eq_true rfl⟩) hS hP hD rfl (fun H locs hP hD hS => ?_)
  refine lv_goto (tgt := 602) hx hb d_L_law_301 (by decide) ?_
  exact kk _ _ ⟨_, _, _, _, _, _, _, _, _, _, _, _, _, _, _, _, _, _, _, _, _, _, _, _, _, _, _, _, (by exact ⟨⟨hm, by omega, by omega, hrow, hdp1, hdep, hud, huh, by omega⟩, hv, li_D_0, hs⟩), hP, hD, hS⟩
set_option maxHeartbeats 4000000 in
set_option maxRecDepth 100000 in
theorem law_c5 {p : Program} {e : Env} {s : State} {m : MethodId} {below : List Frame} {meth : Method} {c : Code} (l : Launch) {b L : Nat} {xs : Nat → Int32} (hL : L ≤ 3073) (C0 : lw_At p s m meth c b L xs) {dC : Nat → ClassId} {dI : Nat → Nat → Nat} {q r : Nat → Nat} {cI cL : ClassId} (hK : va_K (dC, dI) vwCl [(cI, .int), (cL, .long)] s) {i t : Nat} (hi : i + 6 ≤ L) (hit : i = 1 + 6 * t) {ls : Array Slot} (hl : lv_has ls 4 [(3, .int (nI i)), (0, .ref b), (1, .ref (q 0)), (2, .ref (r 0))]) {H : Heap} {locs : List Loc} (hSt : li_St dC dI s q r cI cL t H locs) (kk : ∀ (H : Heap) (locs : List Loc), li_St dC dI s q r cI cL (t + 1) H locs → W p l e room_1 s m #[Value.ref b] below meth c H locs 30 95869 (lw_Z below #[Value.ref b] s) (F0 m 602 ls [])) : W p l e room_1 s m #[Value.ref b] below meth c H locs 30 95869 (lw_Z below #[Value.ref b] s) (F0 m 318 ls []) := by
  obtain ⟨hx, hb, hr, hml, hown, hts, hX, hbl, hlocks, hgv⟩ := C0
  have hT : ∀ w ∈ ob_T, w.before #[Value.ref b] s = true := fun w h => hts w (ob_T_in w h)
  have hN : ∀ w ∈ ob_N, va_Nw w s := fun w h => va_Nw.of (ob_onT (List.all_eq_true.mp ob_N_nest w h)) (hts w (ob_N_in w h))
  have hbA : ¬ (fun q : Nat => s.heap.size ≤ q) b := Nat.not_le.mpr hbl
  obtain ⟨supply, pot, apl, own, amt, tag, mad, spt, made, dsp, dow, dam, dtg, sp, mk, mint, dep, sups, pots, apps, row, hgt, und, ds2, fes, mns, tms, pic, ⟨⟨hm, hsp, hmk, hrow, hdp1, hdep, hud, huh, hht⟩, hv, hd, hs⟩, hP, hD, hS⟩ := hSt
  have hhg : hgt ≤ 1000 := by omega
  refine lv_aload_n hx hb d_L_law_318 rfl (lv_at hl 2 rfl) ?_
  refine ob_callP1i (va_runV (As := []) (rest := []) ⟨hx, hb, hml, hown, hT⟩ (c_K_close l dC dI q cI cL supply pot apl own amt tag mad spt made dsp dow dam dtg sp mk mint dep sups pots apps row hgt und hrow hdep hhg hud) (cwV 0 hT (ob_goodV k_233 k_234 k_235 k_9 k_236) rfl rfl rfl (by decide +kernel) ⟨Nat.le_of_ble_eq_true rfl, Nat.le_of_ble_eq_true rfl⟩) (ob_preXW ob_N_nest hK (ob_P1 hP) (ob_D1 hD) hN rfl rfl) rfl rfl hl.1 rfl (lv_room (Nat.le_of_ble_eq_true rfl)) d_L_law_319 ⟨Nat.le_of_ble_eq_true rfl, Nat.le_of_ble_eq_true rfl⟩) hS hP hD rfl (fun H locs hP hD hS => ?_)
  refine lv_aload_n hx hb d_L_law_322 rfl (lv_at hl 3 rfl) ?_
  refine ob_callP2i (va_runV (As := []) (rest := [.int (nI (hgt + 1))]) ⟨hx, hb, hml, hown, hT⟩ (c_M_close l dC dI r cI cL own amt tag mad spt made ds2 dow dam dtg sp mk mint dep hgt und supply pot apl fes mns tms pic hdep hhg hud) (cwV 0 hT (ob_goodV k_441 k_442 k_443 k_14 k_444) rfl rfl rfl (by decide +kernel) ⟨Nat.le_of_ble_eq_true rfl, Nat.le_of_ble_eq_true rfl⟩) (ob_preXW rfl hK (ob_P2 hP) (ob_D2 hD) (fun _ h => absurd h List.not_mem_nil) rfl rfl) rfl rfl hl.1 rfl (lv_room (Nat.le_of_ble_eq_true rfl)) d_L_law_323 ⟨Nat.le_of_ble_eq_true rfl, Nat.le_of_ble_eq_true rfl⟩) hS hP hD rfl (fun H locs hP hD hS => ?_)
  refine lv_icmp_eq (tgt := 602) hx hb d_L_law_326 (by decide) (fun _ => ?_) (fun c => absurd rfl c)
  exact kk _ _ ⟨_, _, _, _, _, _, _, _, _, _, _, _, _, _, _, _, _, _, _, _, _, _, _, _, _, _, _, _, (by exact ⟨⟨hm, hsp, hmk, f_row_le, hdp1, hdep, by omega, by omega, by omega⟩, hv, hd, li_S_close hs huh hrow⟩), hP, hD, hS⟩
