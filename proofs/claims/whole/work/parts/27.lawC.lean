set_option maxHeartbeats 4000000 in
set_option maxRecDepth 100000 in
theorem law_c7 {p : Program} {e : Env} {s : State} {m : MethodId} {below : List Frame} {meth : Method} {c : Code} (l : Launch) {b L : Nat} {xs : Nat → Int32} (hL : L ≤ 3073) (C0 : lw_At p s m meth c b L xs) {dC : Nat → ClassId} {dI : Nat → Nat → Nat} {q r : Nat → Nat} {cI cL : ClassId} (hK : va_K (dC, dI) vwCl [(cI, .int), (cL, .long)] s) {i t : Nat} (hi : i + 6 ≤ L) (hit : i = 1 + 6 * t) {ls : Array Slot} (hl : lv_has ls 4 [(3, .int (nI i)), (0, .ref b), (1, .ref (q 0)), (2, .ref (r 0))]) {H : Heap} {locs : List Loc} (hSt : li_St dC dI s q r cI cL t H locs) (kk : ∀ (H : Heap) (locs : List Loc), li_St dC dI s q r cI cL (t + 1) H locs → W p l e room_1 s m #[Value.ref b] below meth c H locs 30 95869 (lw_Z below #[Value.ref b] s) (F0 m 602 ls [])) : W p l e room_1 s m #[Value.ref b] below meth c H locs 30 95869 (lw_Z below #[Value.ref b] s) (F0 m 354 ls []) := by
  obtain ⟨hx, hb, hr, hml, hown, hts, hX, hbl, hlocks, hgv⟩ := C0
  have hT : ∀ w ∈ ob_T, w.before #[Value.ref b] s = true := fun w h => hts w (ob_T_in w h)
  have hN : ∀ w ∈ ob_N, va_Nw w s := fun w h => va_Nw.of (ob_onT (List.all_eq_true.mp ob_N_nest w h)) (hts w (ob_N_in w h))
  have hbA : ¬ (fun q : Nat => s.heap.size ≤ q) b := Nat.not_le.mpr hbl
  obtain ⟨supply, pot, apl, own, amt, tag, mad, spt, made, dsp, dow, dam, dtg, sp, mk, mint, dep, sups, pots, apps, row, hgt, und, ds2, fes, mns, tms, pic, ⟨⟨hm, hsp, hmk, hrow, hdp1, hdep, hud, huh, hht⟩, hv, hd, hs⟩, hP, hD, hS⟩ := hSt
  have hhg : hgt ≤ 1000 := by omega
  refine lv_aload_n hx hb d_L_law_354 rfl (lv_at hl 2 rfl) ?_
  refine lv_aload_n hx hb d_L_law_355 rfl (lv_at hl 1 rfl) ?_
  refine lv_iload_n hx hb d_L_law_356 rfl (lv_at hl 0 rfl) ?_
  refine lv_iconst (v := nI 1) hx hb d_L_law_357 (by decide) ?_
  refine lv_iadd hx hb d_L_law_358 ?_
  refine ob_eqi (nI_add i 1) ?_
  refine ob_sld hx hb hX hbl hbA hS (j := i + 1) (nI_clamp (by omega)) (vp_in_nI (by omega) (by omega)) d_L_law_359 ?_
  refine lv_aload_n hx hb d_L_law_360 rfl (lv_at hl 1 rfl) ?_
  refine lv_iload_n hx hb d_L_law_361 rfl (lv_at hl 0 rfl) ?_
  refine lv_iconst (v := nI 2) hx hb d_L_law_362 (by decide) ?_
  refine lv_iadd hx hb d_L_law_363 ?_
  refine ob_eqi (nI_add i 2) ?_
  refine ob_sld hx hb hX hbl hbA hS (j := i + 2) (nI_clamp (by omega)) (vp_in_nI (by omega) (by omega)) d_L_law_364 ?_
  refine ob_callR (W.runV (As := [.int (xs (i + 1)), .int (xs (i + 2))]) (rest := []) ⟨hx, hb, hml, hown, hT⟩ (c_K_output l dC dI q cI cL supply pot apl own amt tag mad spt made dsp dow dam dtg sp mk mint dep sups pots apps row hgt und (xs (i + 1)) (xs (i + 2)) hm) (cwV 2 hT (ob_goodV k_266 k_267 k_268 k_9 k_269) rfl rfl rfl (by decide +kernel) ⟨Nat.le_of_ble_eq_true rfl, Nat.le_of_ble_eq_true rfl⟩) (ob_preX ob_N_nest hK (ob_P1 hP) hN rfl rfl) rfl rfl hl.1 rfl (lv_room (Nat.le_of_ble_eq_true rfl)) d_L_law_365 ⟨Nat.le_of_ble_eq_true rfl, Nat.le_of_ble_eq_true rfl⟩) ?_
  refine lv_aload_n hx hb d_L_law_368 rfl (lv_at hl 3 rfl) ?_
  refine lv_aload_n hx hb d_L_law_369 rfl (lv_at hl 1 rfl) ?_
  refine lv_iload_n hx hb d_L_law_370 rfl (lv_at hl 0 rfl) ?_
  refine lv_iconst (v := nI 1) hx hb d_L_law_371 (by decide) ?_
  refine lv_iadd hx hb d_L_law_372 ?_
  refine ob_eqi (nI_add i 1) ?_
  refine ob_sld hx hb hX hbl hbA hS (j := i + 1) (nI_clamp (by omega)) (vp_in_nI (by omega) (by omega)) d_L_law_373 ?_
  refine lv_aload_n hx hb d_L_law_374 rfl (lv_at hl 1 rfl) ?_
  refine lv_iload_n hx hb d_L_law_375 rfl (lv_at hl 0 rfl) ?_
  refine lv_iconst (v := nI 2) hx hb d_L_law_376 (by decide) ?_
  refine lv_iadd hx hb d_L_law_377 ?_
  refine ob_eqi (nI_add i 2) ?_
  refine ob_sld hx hb hX hbl hbA hS (j := i + 2) (nI_clamp (by omega)) (vp_in_nI (by omega) (by omega)) d_L_law_378 ?_
  refine ob_callP2i (va_runV (As := [.int (xs (i + 1)), .int (xs (i + 2))]) (rest := [.int (f_out own mad spt made (xs (i + 1)) (xs (i + 2)))]) ⟨hx, hb, hml, hown, hT⟩ (c_M_output l dC dI r cI cL own amt tag mad spt made ds2 dow dam dtg sp mk mint dep hgt und supply pot apl fes mns tms pic (xs (i + 1)) (xs (i + 2)) hm hv) (cwV 2 hT (ob_goodV k_449 k_450 k_451 k_14 k_452) rfl rfl rfl (by decide +kernel) ⟨Nat.le_of_ble_eq_true rfl, Nat.le_of_ble_eq_true rfl⟩) (ob_preXW rfl hK (ob_P2 hP) (ob_D2 hD) (fun _ h => absurd h List.not_mem_nil) rfl rfl) rfl rfl hl.1 rfl (lv_room (Nat.le_of_ble_eq_true rfl)) d_L_law_379 ⟨Nat.le_of_ble_eq_true rfl, Nat.le_of_ble_eq_true rfl⟩) hS hP hD rfl (fun H locs hP hD hS => ?_)
  refine lv_icmp_eq (tgt := 602) hx hb d_L_law_382 (by decide) (fun _ => ?_) (fun c => absurd rfl c)
  exact kk _ _ ⟨_, _, _, _, _, _, _, _, _, _, _, _, _, _, _, _, _, _, _, _, _, _, _, _, _, _, _, _, (by exact ⟨⟨hm, hsp, hmk, hrow, hdp1, hdep, hud, huh, by omega⟩, hv, hd, hs⟩), hP, hD, hS⟩
set_option maxHeartbeats 4000000 in
set_option maxRecDepth 100000 in
theorem law_c8 {p : Program} {e : Env} {s : State} {m : MethodId} {below : List Frame} {meth : Method} {c : Code} (l : Launch) {b L : Nat} {xs : Nat → Int32} (hL : L ≤ 3073) (C0 : lw_At p s m meth c b L xs) {dC : Nat → ClassId} {dI : Nat → Nat → Nat} {q r : Nat → Nat} {cI cL : ClassId} (hK : va_K (dC, dI) vwCl [(cI, .int), (cL, .long)] s) {i t : Nat} (hi : i + 6 ≤ L) (hit : i = 1 + 6 * t) {ls : Array Slot} (hl : lv_has ls 4 [(3, .int (nI i)), (0, .ref b), (1, .ref (q 0)), (2, .ref (r 0))]) {H : Heap} {locs : List Loc} (hSt : li_St dC dI s q r cI cL t H locs) (kk : ∀ (H : Heap) (locs : List Loc), li_St dC dI s q r cI cL (t + 1) H locs → W p l e room_1 s m #[Value.ref b] below meth c H locs 30 95869 (lw_Z below #[Value.ref b] s) (F0 m 602 ls [])) : W p l e room_1 s m #[Value.ref b] below meth c H locs 30 95869 (lw_Z below #[Value.ref b] s) (F0 m 387 ls []) := by
  obtain ⟨hx, hb, hr, hml, hown, hts, hX, hbl, hlocks, hgv⟩ := C0
  have hT : ∀ w ∈ ob_T, w.before #[Value.ref b] s = true := fun w h => hts w (ob_T_in w h)
  have hN : ∀ w ∈ ob_N, va_Nw w s := fun w h => va_Nw.of (ob_onT (List.all_eq_true.mp ob_N_nest w h)) (hts w (ob_N_in w h))
  have hbA : ¬ (fun q : Nat => s.heap.size ≤ q) b := Nat.not_le.mpr hbl
  obtain ⟨supply, pot, apl, own, amt, tag, mad, spt, made, dsp, dow, dam, dtg, sp, mk, mint, dep, sups, pots, apps, row, hgt, und, ds2, fes, mns, tms, pic, ⟨⟨hm, hsp, hmk, hrow, hdp1, hdep, hud, huh, hht⟩, hv, hd, hs⟩, hP, hD, hS⟩ := hSt
  have hhg : hgt ≤ 1000 := by omega
  refine lv_aload_n hx hb d_L_law_387 rfl (lv_at hl 2 rfl) ?_
  refine lv_aload_n hx hb d_L_law_388 rfl (lv_at hl 1 rfl) ?_
  refine lv_iload_n hx hb d_L_law_389 rfl (lv_at hl 0 rfl) ?_
  refine lv_iconst (v := nI 1) hx hb d_L_law_390 (by decide) ?_
  refine lv_iadd hx hb d_L_law_391 ?_
  refine ob_eqi (nI_add i 1) ?_
  refine ob_sld hx hb hX hbl hbA hS (j := i + 1) (nI_clamp (by omega)) (vp_in_nI (by omega) (by omega)) d_L_law_392 ?_
  refine ob_callL (W.runV (As := [.int (xs (i + 1))]) (rest := []) ⟨hx, hb, hml, hown, hT⟩ (c_K_amount l dC dI q cI cL supply pot apl own amt tag mad spt made dsp dow dam dtg sp mk mint dep sups pots apps row hgt und (xs (i + 1)) hm) (cwV 1 hT (ob_goodV k_271 k_272 k_273 k_9 k_274) rfl rfl rfl (by decide +kernel) ⟨Nat.le_of_ble_eq_true rfl, Nat.le_of_ble_eq_true rfl⟩) (ob_preX ob_N_nest hK (ob_P1 hP) hN rfl rfl) rfl rfl hl.1 rfl (lv_room (Nat.le_of_ble_eq_true rfl)) d_L_law_393 ⟨Nat.le_of_ble_eq_true rfl, Nat.le_of_ble_eq_true rfl⟩) ?_
  refine lv_aload_n hx hb d_L_law_396 rfl (lv_at hl 3 rfl) ?_
  refine lv_aload_n hx hb d_L_law_397 rfl (lv_at hl 1 rfl) ?_
  refine lv_iload_n hx hb d_L_law_398 rfl (lv_at hl 0 rfl) ?_
  refine lv_iconst (v := nI 1) hx hb d_L_law_399 (by decide) ?_
  refine lv_iadd hx hb d_L_law_400 ?_
  refine ob_eqi (nI_add i 1) ?_
  refine ob_sld hx hb hX hbl hbA hS (j := i + 1) (nI_clamp (by omega)) (vp_in_nI (by omega) (by omega)) d_L_law_401 ?_
  refine ob_callP2l (va_runV (As := [.int (xs (i + 1))]) (rest := [.long (f_amt amt made (xs (i + 1)))]) ⟨hx, hb, hml, hown, hT⟩ (c_M_amount l dC dI r cI cL own amt tag mad spt made ds2 dow dam dtg sp mk mint dep hgt und supply pot apl fes mns tms pic (xs (i + 1)) hm) (cwV 1 hT (ob_goodV k_453 k_454 k_455 k_14 k_456) rfl rfl rfl (by decide +kernel) ⟨Nat.le_of_ble_eq_true rfl, Nat.le_of_ble_eq_true rfl⟩) (ob_preXW rfl hK (ob_P2 hP) (ob_D2 hD) (fun _ h => absurd h List.not_mem_nil) rfl rfl) rfl rfl hl.1 rfl (lv_room (Nat.le_of_ble_eq_true rfl)) d_L_law_402 ⟨Nat.le_of_ble_eq_true rfl, Nat.le_of_ble_eq_true rfl⟩) hS hP hD rfl (fun H locs hP hD hS => ?_)
  refine W.lcmp hx hb d_L_law_405 ?_
  refine lv_if_eq (tgt := 602) hx hb d_L_law_406 (by decide) (fun _ => ?_) (fun c => absurd ((lg_cmp_eq _ _).mpr rfl) c)
  exact kk _ _ ⟨_, _, _, _, _, _, _, _, _, _, _, _, _, _, _, _, _, _, _, _, _, _, _, _, _, _, _, _, (by exact ⟨⟨hm, hsp, hmk, hrow, hdp1, hdep, hud, huh, by omega⟩, hv, hd, hs⟩), hP, hD, hS⟩
set_option maxHeartbeats 4000000 in
set_option maxRecDepth 100000 in
theorem law_c9 {p : Program} {e : Env} {s : State} {m : MethodId} {below : List Frame} {meth : Method} {c : Code} (l : Launch) {b L : Nat} {xs : Nat → Int32} (hL : L ≤ 3073) (C0 : lw_At p s m meth c b L xs) {dC : Nat → ClassId} {dI : Nat → Nat → Nat} {q r : Nat → Nat} {cI cL : ClassId} (hK : va_K (dC, dI) vwCl [(cI, .int), (cL, .long)] s) {i t : Nat} (hi : i + 6 ≤ L) (hit : i = 1 + 6 * t) {ls : Array Slot} (hl : lv_has ls 4 [(3, .int (nI i)), (0, .ref b), (1, .ref (q 0)), (2, .ref (r 0))]) {H : Heap} {locs : List Loc} (hSt : li_St dC dI s q r cI cL t H locs) (kk : ∀ (H : Heap) (locs : List Loc), li_St dC dI s q r cI cL (t + 1) H locs → W p l e room_1 s m #[Value.ref b] below meth c H locs 30 95869 (lw_Z below #[Value.ref b] s) (F0 m 602 ls [])) : W p l e room_1 s m #[Value.ref b] below meth c H locs 30 95869 (lw_Z below #[Value.ref b] s) (F0 m 411 ls []) := by
  obtain ⟨hx, hb, hr, hml, hown, hts, hX, hbl, hlocks, hgv⟩ := C0
  have hT : ∀ w ∈ ob_T, w.before #[Value.ref b] s = true := fun w h => hts w (ob_T_in w h)
  have hN : ∀ w ∈ ob_N, va_Nw w s := fun w h => va_Nw.of (ob_onT (List.all_eq_true.mp ob_N_nest w h)) (hts w (ob_N_in w h))
  have hbA : ¬ (fun q : Nat => s.heap.size ≤ q) b := Nat.not_le.mpr hbl
  obtain ⟨supply, pot, apl, own, amt, tag, mad, spt, made, dsp, dow, dam, dtg, sp, mk, mint, dep, sups, pots, apps, row, hgt, und, ds2, fes, mns, tms, pic, ⟨⟨hm, hsp, hmk, hrow, hdp1, hdep, hud, huh, hht⟩, hv, hd, hs⟩, hP, hD, hS⟩ := hSt
  have hhg : hgt ≤ 1000 := by omega
  refine lv_aload_n hx hb d_L_law_411 rfl (lv_at hl 2 rfl) ?_
  refine lv_aload_n hx hb d_L_law_412 rfl (lv_at hl 1 rfl) ?_
  refine lv_iload_n hx hb d_L_law_413 rfl (lv_at hl 0 rfl) ?_
  refine lv_iconst (v := nI 1) hx hb d_L_law_414 (by decide) ?_
  refine lv_iadd hx hb d_L_law_415 ?_
  refine ob_eqi (nI_add i 1) ?_
  refine ob_sld hx hb hX hbl hbA hS (j := i + 1) (nI_clamp (by omega)) (vp_in_nI (by omega) (by omega)) d_L_law_416 ?_
  refine ob_callL (W.runV (As := [.int (xs (i + 1))]) (rest := []) ⟨hx, hb, hml, hown, hT⟩ (c_K_tag l dC dI q cI cL supply pot apl own amt tag mad spt made dsp dow dam dtg sp mk mint dep sups pots apps row hgt und (xs (i + 1)) hm) (cwV 1 hT (ob_goodV k_275 k_276 k_277 k_9 k_278) rfl rfl rfl (by decide +kernel) ⟨Nat.le_of_ble_eq_true rfl, Nat.le_of_ble_eq_true rfl⟩) (ob_preX ob_N_nest hK (ob_P1 hP) hN rfl rfl) rfl rfl hl.1 rfl (lv_room (Nat.le_of_ble_eq_true rfl)) d_L_law_417 ⟨Nat.le_of_ble_eq_true rfl, Nat.le_of_ble_eq_true rfl⟩) ?_
  refine lv_aload_n hx hb d_L_law_420 rfl (lv_at hl 3 rfl) ?_
  refine lv_aload_n hx hb d_L_law_421 rfl (lv_at hl 1 rfl) ?_
  refine lv_iload_n hx hb d_L_law_422 rfl (lv_at hl 0 rfl) ?_
  refine lv_iconst (v := nI 1) hx hb d_L_law_423 (by decide) ?_
  refine lv_iadd hx hb d_L_law_424 ?_
  refine ob_eqi (nI_add i 1) ?_
  refine ob_sld hx hb hX hbl hbA hS (j := i + 1) (nI_clamp (by omega)) (vp_in_nI (by omega) (by omega)) d_L_law_425 ?_
  refine ob_callP2l (va_runV (As := [.int (xs (i + 1))]) (rest := [.long (f_amt tag made (xs (i + 1)))]) ⟨hx, hb, hml, hown, hT⟩ (c_M_tag l dC dI r cI cL own amt tag mad spt made ds2 dow dam dtg sp mk mint dep hgt und supply pot apl fes mns tms pic (xs (i + 1)) hm) (cwV 1 hT (ob_goodV k_457 k_458 k_459 k_14 k_460) rfl rfl rfl (by decide +kernel) ⟨Nat.le_of_ble_eq_true rfl, Nat.le_of_ble_eq_true rfl⟩) (ob_preXW rfl hK (ob_P2 hP) (ob_D2 hD) (fun _ h => absurd h List.not_mem_nil) rfl rfl) rfl rfl hl.1 rfl (lv_room (Nat.le_of_ble_eq_true rfl)) d_L_law_426 ⟨Nat.le_of_ble_eq_true rfl, Nat.le_of_ble_eq_true rfl⟩) hS hP hD rfl (fun H locs hP hD hS => ?_)
  refine W.lcmp hx hb d_L_law_429 ?_
  refine lv_if_eq (tgt := 602) hx hb d_L_law_430 (by decide) (fun _ => ?_) (fun c => absurd ((lg_cmp_eq _ _).mpr rfl) c)
  exact kk _ _ ⟨_, _, _, _, _, _, _, _, _, _, _, _, _, _, _, _, _, _, _, _, _, _, _, _, _, _, _, _, (by exact ⟨⟨hm, hsp, hmk, hrow, hdp1, hdep, hud, huh, by omega⟩, hv, hd, hs⟩), hP, hD, hS⟩
set_option maxHeartbeats 4000000 in
set_option maxRecDepth 100000 in
theorem law_c10 {p : Program} {e : Env} {s : State} {m : MethodId} {below : List Frame} {meth : Method} {c : Code} (l : Launch) {b L : Nat} {xs : Nat → Int32} (hL : L ≤ 3073) (C0 : lw_At p s m meth c b L xs) {dC : Nat → ClassId} {dI : Nat → Nat → Nat} {q r : Nat → Nat} {cI cL : ClassId} (hK : va_K (dC, dI) vwCl [(cI, .int), (cL, .long)] s) {i t : Nat} (hi : i + 6 ≤ L) (hit : i = 1 + 6 * t) {ls : Array Slot} (hl : lv_has ls 4 [(3, .int (nI i)), (0, .ref b), (1, .ref (q 0)), (2, .ref (r 0))]) {H : Heap} {locs : List Loc} (hSt : li_St dC dI s q r cI cL t H locs) (kk : ∀ (H : Heap) (locs : List Loc), li_St dC dI s q r cI cL (t + 1) H locs → W p l e room_1 s m #[Value.ref b] below meth c H locs 30 95869 (lw_Z below #[Value.ref b] s) (F0 m 602 ls [])) : W p l e room_1 s m #[Value.ref b] below meth c H locs 30 95869 (lw_Z below #[Value.ref b] s) (F0 m 435 ls []) := by
  obtain ⟨hx, hb, hr, hml, hown, hts, hX, hbl, hlocks, hgv⟩ := C0
  have hT : ∀ w ∈ ob_T, w.before #[Value.ref b] s = true := fun w h => hts w (ob_T_in w h)
  have hN : ∀ w ∈ ob_N, va_Nw w s := fun w h => va_Nw.of (ob_onT (List.all_eq_true.mp ob_N_nest w h)) (hts w (ob_N_in w h))
  have hbA : ¬ (fun q : Nat => s.heap.size ≤ q) b := Nat.not_le.mpr hbl
  obtain ⟨supply, pot, apl, own, amt, tag, mad, spt, made, dsp, dow, dam, dtg, sp, mk, mint, dep, sups, pots, apps, row, hgt, und, ds2, fes, mns, tms, pic, ⟨⟨hm, hsp, hmk, hrow, hdp1, hdep, hud, huh, hht⟩, hv, hd, hs⟩, hP, hD, hS⟩ := hSt
  have hhg : hgt ≤ 1000 := by omega
  refine lv_aload_n hx hb d_L_law_435 rfl (lv_at hl 2 rfl) ?_
  refine lv_aload_n hx hb d_L_law_436 rfl (lv_at hl 1 rfl) ?_
  refine lv_iload_n hx hb d_L_law_437 rfl (lv_at hl 0 rfl) ?_
  refine lv_iconst (v := nI 1) hx hb d_L_law_438 (by decide) ?_
  refine lv_iadd hx hb d_L_law_439 ?_
  refine ob_eqi (nI_add i 1) ?_
  refine ob_sld hx hb hX hbl hbA hS (j := i + 1) (nI_clamp (by omega)) (vp_in_nI (by omega) (by omega)) d_L_law_440 ?_
  refine ob_callL (W.runV (As := [.int (xs (i + 1))]) (rest := []) ⟨hx, hb, hml, hown, hT⟩ (c_K_balance l dC dI q cI cL supply pot apl own amt tag mad spt made dsp dow dam dtg sp mk mint dep sups pots apps row hgt und (xs (i + 1)) hm) (cwV 1 hT (ob_goodV k_279 k_280 k_281 k_9 k_282) rfl rfl rfl (by decide +kernel) ⟨Nat.le_of_ble_eq_true rfl, Nat.le_of_ble_eq_true rfl⟩) (ob_preX ob_N_nest hK (ob_P1 hP) hN rfl rfl) rfl rfl hl.1 rfl (lv_room (Nat.le_of_ble_eq_true rfl)) d_L_law_441 ⟨Nat.le_of_ble_eq_true rfl, Nat.le_of_ble_eq_true rfl⟩) ?_
  refine lv_aload_n hx hb d_L_law_444 rfl (lv_at hl 3 rfl) ?_
  refine lv_aload_n hx hb d_L_law_445 rfl (lv_at hl 1 rfl) ?_
  refine lv_iload_n hx hb d_L_law_446 rfl (lv_at hl 0 rfl) ?_
  refine lv_iconst (v := nI 1) hx hb d_L_law_447 (by decide) ?_
  refine lv_iadd hx hb d_L_law_448 ?_
  refine ob_eqi (nI_add i 1) ?_
  refine ob_sld hx hb hX hbl hbA hS (j := i + 1) (nI_clamp (by omega)) (vp_in_nI (by omega) (by omega)) d_L_law_449 ?_
  refine ob_callP2l (va_runV (As := [.int (xs (i + 1))]) (rest := [.long (f_bal (f_lv own spt (xs (i + 1))) amt made)]) ⟨hx, hb, hml, hown, hT⟩ (c_M_balance l dC dI r cI cL own amt tag mad spt made ds2 dow dam dtg sp mk mint dep hgt und supply pot apl fes mns tms pic (xs (i + 1)) hm hv) (cwV 1 hT (ob_goodV k_461 k_462 k_463 k_14 k_464) rfl rfl rfl (by decide +kernel) ⟨Nat.le_of_ble_eq_true rfl, Nat.le_of_ble_eq_true rfl⟩) (ob_preXW rfl hK (ob_P2 hP) (ob_D2 hD) (fun _ h => absurd h List.not_mem_nil) rfl rfl) rfl rfl hl.1 rfl (lv_room (Nat.le_of_ble_eq_true rfl)) d_L_law_450 ⟨Nat.le_of_ble_eq_true rfl, Nat.le_of_ble_eq_true rfl⟩) hS hP hD rfl (fun H locs hP hD hS => ?_)
  refine W.lcmp hx hb d_L_law_453 ?_
  refine lv_if_eq (tgt := 602) hx hb d_L_law_454 (by decide) (fun _ => ?_) (fun c => absurd ((lg_cmp_eq _ _).mpr rfl) c)
  exact kk _ _ ⟨_, _, _, _, _, _, _, _, _, _, _, _, _, _, _, _, _, _, _, _, _, _, _, _, _, _, _, _, (by exact ⟨⟨hm, hsp, hmk, hrow, hdp1, hdep, hud, huh, by omega⟩, hv, hd, hs⟩), hP, hD, hS⟩
set_option maxHeartbeats 4000000 in
set_option maxRecDepth 100000 in
theorem law_c11 {p : Program} {e : Env} {s : State} {m : MethodId} {below : List Frame} {meth : Method} {c : Code} (l : Launch) {b L : Nat} {xs : Nat → Int32} (hL : L ≤ 3073) (C0 : lw_At p s m meth c b L xs) {dC : Nat → ClassId} {dI : Nat → Nat → Nat} {q r : Nat → Nat} {cI cL : ClassId} (hK : va_K (dC, dI) vwCl [(cI, .int), (cL, .long)] s) {i t : Nat} (hi : i + 6 ≤ L) (hit : i = 1 + 6 * t) {ls : Array Slot} (hl : lv_has ls 4 [(3, .int (nI i)), (0, .ref b), (1, .ref (q 0)), (2, .ref (r 0))]) {H : Heap} {locs : List Loc} (hSt : li_St dC dI s q r cI cL t H locs) (kk : ∀ (H : Heap) (locs : List Loc), li_St dC dI s q r cI cL (t + 1) H locs → W p l e room_1 s m #[Value.ref b] below meth c H locs 30 95869 (lw_Z below #[Value.ref b] s) (F0 m 602 ls [])) : W p l e room_1 s m #[Value.ref b] below meth c H locs 30 95869 (lw_Z below #[Value.ref b] s) (F0 m 459 ls []) := by
  obtain ⟨hx, hb, hr, hml, hown, hts, hX, hbl, hlocks, hgv⟩ := C0
  have hT : ∀ w ∈ ob_T, w.before #[Value.ref b] s = true := fun w h => hts w (ob_T_in w h)
  have hN : ∀ w ∈ ob_N, va_Nw w s := fun w h => va_Nw.of (ob_onT (List.all_eq_true.mp ob_N_nest w h)) (hts w (ob_N_in w h))
  have hbA : ¬ (fun q : Nat => s.heap.size ≤ q) b := Nat.not_le.mpr hbl
  obtain ⟨supply, pot, apl, own, amt, tag, mad, spt, made, dsp, dow, dam, dtg, sp, mk, mint, dep, sups, pots, apps, row, hgt, und, ds2, fes, mns, tms, pic, ⟨⟨hm, hsp, hmk, hrow, hdp1, hdep, hud, huh, hht⟩, hv, hd, hs⟩, hP, hD, hS⟩ := hSt
  have hhg : hgt ≤ 1000 := by omega
  refine lv_aload_n hx hb d_L_law_459 rfl (lv_at hl 2 rfl) ?_
  refine lv_aload_n hx hb d_L_law_460 rfl (lv_at hl 1 rfl) ?_
  refine lv_iload_n hx hb d_L_law_461 rfl (lv_at hl 0 rfl) ?_
  refine lv_iconst (v := nI 1) hx hb d_L_law_462 (by decide) ?_
  refine lv_iadd hx hb d_L_law_463 ?_
  refine ob_eqi (nI_add i 1) ?_
  refine ob_sld hx hb hX hbl hbA hS (j := i + 1) (nI_clamp (by omega)) (vp_in_nI (by omega) (by omega)) d_L_law_464 ?_
  refine ob_callR (W.runV (As := [.int (xs (i + 1))]) (rest := []) ⟨hx, hb, hml, hown, hT⟩ (c_K_count l dC dI q cI cL supply pot apl own amt tag mad spt made dsp dow dam dtg sp mk mint dep sups pots apps row hgt und (xs (i + 1)) hm) (cwV 1 hT (ob_goodV k_287 k_288 k_289 k_9 k_290) rfl rfl rfl (by decide +kernel) ⟨Nat.le_of_ble_eq_true rfl, Nat.le_of_ble_eq_true rfl⟩) (ob_preX ob_N_nest hK (ob_P1 hP) hN rfl rfl) rfl rfl hl.1 rfl (lv_room (Nat.le_of_ble_eq_true rfl)) d_L_law_465 ⟨Nat.le_of_ble_eq_true rfl, Nat.le_of_ble_eq_true rfl⟩) ?_
  refine lv_aload_n hx hb d_L_law_468 rfl (lv_at hl 3 rfl) ?_
  refine lv_aload_n hx hb d_L_law_469 rfl (lv_at hl 1 rfl) ?_
  refine lv_iload_n hx hb d_L_law_470 rfl (lv_at hl 0 rfl) ?_
  refine lv_iconst (v := nI 1) hx hb d_L_law_471 (by decide) ?_
  refine lv_iadd hx hb d_L_law_472 ?_
  refine ob_eqi (nI_add i 1) ?_
  refine ob_sld hx hb hX hbl hbA hS (j := i + 1) (nI_clamp (by omega)) (vp_in_nI (by omega) (by omega)) d_L_law_473 ?_
  refine ob_callP2i (va_runV (As := [.int (xs (i + 1))]) (rest := [.int (nI (f_cnt (f_lv own spt (xs (i + 1))) made))]) ⟨hx, hb, hml, hown, hT⟩ (c_M_count l dC dI r cI cL own amt tag mad spt made ds2 dow dam dtg sp mk mint dep hgt und supply pot apl fes mns tms pic (xs (i + 1)) hm hv) (cwV 1 hT (ob_goodV k_465 k_466 k_467 k_14 k_468) rfl rfl rfl (by decide +kernel) ⟨Nat.le_of_ble_eq_true rfl, Nat.le_of_ble_eq_true rfl⟩) (ob_preXW rfl hK (ob_P2 hP) (ob_D2 hD) (fun _ h => absurd h List.not_mem_nil) rfl rfl) rfl rfl hl.1 rfl (lv_room (Nat.le_of_ble_eq_true rfl)) d_L_law_474 ⟨Nat.le_of_ble_eq_true rfl, Nat.le_of_ble_eq_true rfl⟩) hS hP hD rfl (fun H locs hP hD hS => ?_)
  refine lv_icmp_eq (tgt := 602) hx hb d_L_law_477 (by decide) (fun _ => ?_) (fun c => absurd rfl c)
  exact kk _ _ ⟨_, _, _, _, _, _, _, _, _, _, _, _, _, _, _, _, _, _, _, _, _, _, _, _, _, _, _, _, (by exact ⟨⟨hm, hsp, hmk, hrow, hdp1, hdep, hud, huh, by omega⟩, hv, hd, hs⟩), hP, hD, hS⟩
set_option maxHeartbeats 4000000 in
set_option maxRecDepth 100000 in
theorem law_c12 {p : Program} {e : Env} {s : State} {m : MethodId} {below : List Frame} {meth : Method} {c : Code} (l : Launch) {b L : Nat} {xs : Nat → Int32} (hL : L ≤ 3073) (C0 : lw_At p s m meth c b L xs) {dC : Nat → ClassId} {dI : Nat → Nat → Nat} {q r : Nat → Nat} {cI cL : ClassId} (hK : va_K (dC, dI) vwCl [(cI, .int), (cL, .long)] s) {i t : Nat} (hi : i + 6 ≤ L) (hit : i = 1 + 6 * t) {ls : Array Slot} (hl : lv_has ls 4 [(3, .int (nI i)), (0, .ref b), (1, .ref (q 0)), (2, .ref (r 0))]) {H : Heap} {locs : List Loc} (hSt : li_St dC dI s q r cI cL t H locs) (kk : ∀ (H : Heap) (locs : List Loc), li_St dC dI s q r cI cL (t + 1) H locs → W p l e room_1 s m #[Value.ref b] below meth c H locs 30 95869 (lw_Z below #[Value.ref b] s) (F0 m 602 ls [])) : W p l e room_1 s m #[Value.ref b] below meth c H locs 30 95869 (lw_Z below #[Value.ref b] s) (F0 m 482 ls []) := by
  obtain ⟨hx, hb, hr, hml, hown, hts, hX, hbl, hlocks, hgv⟩ := C0
  have hT : ∀ w ∈ ob_T, w.before #[Value.ref b] s = true := fun w h => hts w (ob_T_in w h)
  have hN : ∀ w ∈ ob_N, va_Nw w s := fun w h => va_Nw.of (ob_onT (List.all_eq_true.mp ob_N_nest w h)) (hts w (ob_N_in w h))
  have hbA : ¬ (fun q : Nat => s.heap.size ≤ q) b := Nat.not_le.mpr hbl
  obtain ⟨supply, pot, apl, own, amt, tag, mad, spt, made, dsp, dow, dam, dtg, sp, mk, mint, dep, sups, pots, apps, row, hgt, und, ds2, fes, mns, tms, pic, ⟨⟨hm, hsp, hmk, hrow, hdp1, hdep, hud, huh, hht⟩, hv, hd, hs⟩, hP, hD, hS⟩ := hSt
  have hhg : hgt ≤ 1000 := by omega
  refine lv_aload_n hx hb d_L_law_482 rfl (lv_at hl 2 rfl) ?_
  refine lv_aload_n hx hb d_L_law_483 rfl (lv_at hl 1 rfl) ?_
  refine lv_iload_n hx hb d_L_law_484 rfl (lv_at hl 0 rfl) ?_
  refine lv_iconst (v := nI 1) hx hb d_L_law_485 (by decide) ?_
  refine lv_iadd hx hb d_L_law_486 ?_
  refine ob_eqi (nI_add i 1) ?_
  refine ob_sld hx hb hX hbl hbA hS (j := i + 1) (nI_clamp (by omega)) (vp_in_nI (by omega) (by omega)) d_L_law_487 ?_
  refine lv_aload_n hx hb d_L_law_488 rfl (lv_at hl 1 rfl) ?_
  refine lv_iload_n hx hb d_L_law_489 rfl (lv_at hl 0 rfl) ?_
  refine lv_iconst (v := nI 2) hx hb d_L_law_490 (by decide) ?_
  refine lv_iadd hx hb d_L_law_491 ?_
  refine ob_eqi (nI_add i 2) ?_
  refine ob_sld hx hb hX hbl hbA hS (j := i + 2) (nI_clamp (by omega)) (vp_in_nI (by omega) (by omega)) d_L_law_492 ?_
  refine ob_callR (W.runV (As := [.int (xs (i + 1)), .int (xs (i + 2))]) (rest := []) ⟨hx, hb, hml, hown, hT⟩ (c_K_nth l dC dI q cI cL supply pot apl own amt tag mad spt made dsp dow dam dtg sp mk mint dep sups pots apps row hgt und (xs (i + 1)) (xs (i + 2)) hm) (cwV 2 hT (ob_goodV k_291 k_292 k_293 k_9 k_294) rfl rfl rfl (by decide +kernel) ⟨Nat.le_of_ble_eq_true rfl, Nat.le_of_ble_eq_true rfl⟩) (ob_preX ob_N_nest hK (ob_P1 hP) hN rfl rfl) rfl rfl hl.1 rfl (lv_room (Nat.le_of_ble_eq_true rfl)) d_L_law_493 ⟨Nat.le_of_ble_eq_true rfl, Nat.le_of_ble_eq_true rfl⟩) ?_
  refine lv_aload_n hx hb d_L_law_496 rfl (lv_at hl 3 rfl) ?_
  refine lv_aload_n hx hb d_L_law_497 rfl (lv_at hl 1 rfl) ?_
  refine lv_iload_n hx hb d_L_law_498 rfl (lv_at hl 0 rfl) ?_
  refine lv_iconst (v := nI 1) hx hb d_L_law_499 (by decide) ?_
  refine lv_iadd hx hb d_L_law_500 ?_
  refine ob_eqi (nI_add i 1) ?_
  refine ob_sld hx hb hX hbl hbA hS (j := i + 1) (nI_clamp (by omega)) (vp_in_nI (by omega) (by omega)) d_L_law_501 ?_
  refine lv_aload_n hx hb d_L_law_502 rfl (lv_at hl 1 rfl) ?_
  refine lv_iload_n hx hb d_L_law_503 rfl (lv_at hl 0 rfl) ?_
  refine lv_iconst (v := nI 2) hx hb d_L_law_504 (by decide) ?_
  refine lv_iadd hx hb d_L_law_505 ?_
  refine ob_eqi (nI_add i 2) ?_
  refine ob_sld hx hb hX hbl hbA hS (j := i + 2) (nI_clamp (by omega)) (vp_in_nI (by omega) (by omega)) d_L_law_506 ?_
  refine ob_callP2i (va_runV (As := [.int (xs (i + 1)), .int (xs (i + 2))]) (rest := [.int (f_nth (f_lv own spt (xs (i + 1))) (xs (i + 2)) made 0)]) ⟨hx, hb, hml, hown, hT⟩ (c_M_nth l dC dI r cI cL own amt tag mad spt made ds2 dow dam dtg sp mk mint dep hgt und supply pot apl fes mns tms pic (xs (i + 1)) (xs (i + 2)) hm hv) (cwV 2 hT (ob_goodV k_469 k_470 k_471 k_14 k_472) rfl rfl rfl (by decide +kernel) ⟨Nat.le_of_ble_eq_true rfl, Nat.le_of_ble_eq_true rfl⟩) (ob_preXW rfl hK (ob_P2 hP) (ob_D2 hD) (fun _ h => absurd h List.not_mem_nil) rfl rfl) rfl rfl hl.1 rfl (lv_room (Nat.le_of_ble_eq_true rfl)) d_L_law_507 ⟨Nat.le_of_ble_eq_true rfl, Nat.le_of_ble_eq_true rfl⟩) hS hP hD rfl (fun H locs hP hD hS => ?_)
  refine lv_icmp_eq (tgt := 602) hx hb d_L_law_510 (by decide) (fun _ => ?_) (fun c => absurd rfl c)
  exact kk _ _ ⟨_, _, _, _, _, _, _, _, _, _, _, _, _, _, _, _, _, _, _, _, _, _, _, _, _, _, _, _, (by exact ⟨⟨hm, hsp, hmk, hrow, hdp1, hdep, hud, huh, by omega⟩, hv, hd, hs⟩), hP, hD, hS⟩
set_option maxHeartbeats 4000000 in
set_option maxRecDepth 100000 in
theorem law_c14 {p : Program} {e : Env} {s : State} {m : MethodId} {below : List Frame} {meth : Method} {c : Code} (l : Launch) {b L : Nat} {xs : Nat → Int32} (hL : L ≤ 3073) (C0 : lw_At p s m meth c b L xs) {dC : Nat → ClassId} {dI : Nat → Nat → Nat} {q r : Nat → Nat} {cI cL : ClassId} (hK : va_K (dC, dI) vwCl [(cI, .int), (cL, .long)] s) {i t : Nat} (hi : i + 6 ≤ L) (hit : i = 1 + 6 * t) {ls : Array Slot} (hl : lv_has ls 4 [(3, .int (nI i)), (0, .ref b), (1, .ref (q 0)), (2, .ref (r 0))]) {H : Heap} {locs : List Loc} (hSt : li_St dC dI s q r cI cL t H locs) (kk : ∀ (H : Heap) (locs : List Loc), li_St dC dI s q r cI cL (t + 1) H locs → W p l e room_1 s m #[Value.ref b] below meth c H locs 30 95869 (lw_Z below #[Value.ref b] s) (F0 m 602 ls [])) : W p l e room_1 s m #[Value.ref b] below meth c H locs 30 95869 (lw_Z below #[Value.ref b] s) (F0 m 578 ls []) := by
  obtain ⟨hx, hb, hr, hml, hown, hts, hX, hbl, hlocks, hgv⟩ := C0
  have hT : ∀ w ∈ ob_T, w.before #[Value.ref b] s = true := fun w h => hts w (ob_T_in w h)
  have hN : ∀ w ∈ ob_N, va_Nw w s := fun w h => va_Nw.of (ob_onT (List.all_eq_true.mp ob_N_nest w h)) (hts w (ob_N_in w h))
  have hbA : ¬ (fun q : Nat => s.heap.size ≤ q) b := Nat.not_le.mpr hbl
  obtain ⟨supply, pot, apl, own, amt, tag, mad, spt, made, dsp, dow, dam, dtg, sp, mk, mint, dep, sups, pots, apps, row, hgt, und, ds2, fes, mns, tms, pic, ⟨⟨hm, hsp, hmk, hrow, hdp1, hdep, hud, huh, hht⟩, hv, hd, hs⟩, hP, hD, hS⟩ := hSt
  have hhg : hgt ≤ 1000 := by omega
  refine lv_aload_n hx hb d_L_law_578 rfl (lv_at hl 2 rfl) ?_
  refine lv_aload_n hx hb d_L_law_579 rfl (lv_at hl 1 rfl) ?_
  refine lv_iload_n hx hb d_L_law_580 rfl (lv_at hl 0 rfl) ?_
  refine lv_iconst (v := nI 1) hx hb d_L_law_581 (by decide) ?_
  refine lv_iadd hx hb d_L_law_582 ?_
  refine ob_eqi (nI_add i 1) ?_
  refine ob_sld hx hb hX hbl hbA hS (j := i + 1) (nI_clamp (by omega)) (vp_in_nI (by omega) (by omega)) d_L_law_583 ?_
  refine ob_callL (W.runV (As := [.int (xs (i + 1))]) (rest := []) ⟨hx, hb, hml, hown, hT⟩ (c_K_look l dC dI q cI cL supply pot apl own amt tag mad spt made dsp dow dam dtg sp mk mint dep sups pots apps row hgt und (xs (i + 1)) hm) (cwV 1 hT (ob_goodV k_308 k_309 k_310 k_9 k_311) rfl rfl rfl (by decide +kernel) ⟨Nat.le_of_ble_eq_true rfl, Nat.le_of_ble_eq_true rfl⟩) (ob_preX ob_N_nest hK (ob_P1 hP) hN rfl rfl) rfl rfl hl.1 rfl (lv_room (Nat.le_of_ble_eq_true rfl)) d_L_law_584 ⟨Nat.le_of_ble_eq_true rfl, Nat.le_of_ble_eq_true rfl⟩) ?_
  refine lv_aload_n hx hb d_L_law_587 rfl (lv_at hl 3 rfl) ?_
  refine lv_aload_n hx hb d_L_law_588 rfl (lv_at hl 1 rfl) ?_
  refine lv_iload_n hx hb d_L_law_589 rfl (lv_at hl 0 rfl) ?_
  refine lv_iconst (v := nI 1) hx hb d_L_law_590 (by decide) ?_
  refine lv_iadd hx hb d_L_law_591 ?_
  refine ob_eqi (nI_add i 1) ?_
  refine ob_sld hx hb hX hbl hbA hS (j := i + 1) (nI_clamp (by omega)) (vp_in_nI (by omega) (by omega)) d_L_law_592 ?_
  refine ob_callP2l (va_runV (As := [.int (xs (i + 1))]) (rest := [.long (f_look supply pot apl spt made sp mk mint hgt und (xs (i + 1)))]) ⟨hx, hb, hml, hown, hT⟩ (c_M_look l dC dI r cI cL own amt tag mad spt made ds2 dow dam dtg sp mk mint dep hgt und supply pot apl fes mns tms pic (xs (i + 1)) hm hv) (cwV 1 hT (ob_goodV k_481 k_482 k_483 k_14 k_484) rfl rfl rfl (by decide +kernel) ⟨Nat.le_of_ble_eq_true rfl, Nat.le_of_ble_eq_true rfl⟩) (ob_preXW rfl hK (ob_P2 hP) (ob_D2 hD) (fun _ h => absurd h List.not_mem_nil) rfl rfl) rfl rfl hl.1 rfl (lv_room (Nat.le_of_ble_eq_true rfl)) d_L_law_593 ⟨Nat.le_of_ble_eq_true rfl, Nat.le_of_ble_eq_true rfl⟩) hS hP hD rfl (fun H locs hP hD hS => ?_)
  refine W.lcmp hx hb d_L_law_596 ?_
  refine lv_if_eq (tgt := 602) hx hb d_L_law_597 (by decide) (fun _ => ?_) (fun c => absurd ((lg_cmp_eq _ _).mpr rfl) c)
  exact kk _ _ ⟨_, _, _, _, _, _, _, _, _, _, _, _, _, _, _, _, _, _, _, _, _, _, _, _, _, _, _, _, (by exact ⟨⟨hm, hsp, hmk, hrow, hdp1, hdep, hud, huh, by omega⟩, hv, hd, hs⟩), hP, hD, hS⟩
