set_option maxHeartbeats 4000000 in
set_option maxRecDepth 100000 in
theorem law_c4 {p : Program} {e : Env} {s : State} {m : MethodId} {below : List Frame} {meth : Method} {c : Code} (l : Launch) {b L : Nat} {xs : Nat → Int32} (hL : L ≤ 3073) (C0 : lw_At p s m meth c b L xs) {dC : Nat → ClassId} {dI : Nat → Nat → Nat} {q r : Nat → Nat} {cI cL : ClassId} (hK : va_K (dC, dI) vwCl [(cI, .int), (cL, .long)] s) {i t : Nat} (hi : i + 6 ≤ L) (hit : i = 1 + 6 * t) {ls : Array Slot} (hl : lv_has ls 4 [(3, .int (nI i)), (0, .ref b), (1, .ref (q 0)), (2, .ref (r 0))]) {H : Heap} {locs : List Loc} (hSt : li_St dC dI s q r cI cL t H locs) (kk : ∀ (H : Heap) (locs : List Loc), li_St dC dI s q r cI cL (t + 1) H locs → W p l e room_1 s m #[Value.ref b] below meth c H locs 30 95869 (lw_Z below #[Value.ref b] s) (F0 m 602 ls [])) : W p l e room_1 s m #[Value.ref b] below meth c H locs 30 95869 (lw_Z below #[Value.ref b] s) (F0 m 304 ls []) := by
  obtain ⟨hx, hb, hr, hml, hown, hts, hX, hbl, hlocks, hgv⟩ := C0
  have hT : ∀ w ∈ ob_T, w.before #[Value.ref b] s = true := fun w h => hts w (ob_T_in w h)
  have hN : ∀ w ∈ ob_N, va_Nw w s := fun w h => va_Nw.of (ob_onT (List.all_eq_true.mp ob_N_nest w h)) (hts w (ob_N_in w h))
  have hbA : ¬ (fun q : Nat => s.heap.size ≤ q) b := Nat.not_le.mpr hbl
  obtain ⟨supply, pot, apl, own, amt, tag, mad, spt, made, dsp, dow, dam, dtg, sp, mk, mint, dep, sups, pots, apps, row, hgt, und, ds2, fes, mns, tms, pic, ⟨⟨hm, hsp, hmk, hrow, hdp1, hdep, hud, huh, hht⟩, hv, hd, hs⟩, hP, hD, hS⟩ := hSt
  have hhg : hgt ≤ 1000 := by omega
  by_cases h1 : sp = 0 ∧ mk = 0
  · refine lv_aload_n hx hb d_L_law_304 rfl (lv_at hl 2 rfl) ?_
    refine ob_callL (W.runV (As := []) (rest := []) ⟨hx, hb, hml, hown, hT⟩ (c_K_apply_n l dC dI q cI cL supply pot apl own amt tag mad spt made dsp dow dam dtg sp mk mint dep sups pots apps row hgt und h1.1 h1.2) (cwV 0 hT (ob_goodV k_199 k_200 k_201 k_9 k_202) rfl rfl rfl (by decide +kernel) ⟨Nat.le_of_ble_eq_true rfl, Nat.le_of_ble_eq_true rfl⟩) (ob_preX ob_N_nest hK (ob_P1 hP) hN rfl rfl) rfl rfl hl.1 rfl (lv_room (Nat.le_of_ble_eq_true rfl)) d_L_law_305 ⟨Nat.le_of_ble_eq_true rfl, Nat.le_of_ble_eq_true rfl⟩) ?_
    refine lv_aload_n hx hb d_L_law_308 rfl (lv_at hl 3 rfl) ?_
    refine ob_callP2l (va_runV (As := []) (rest := [.long (-1 : Int64)]) ⟨hx, hb, hml, hown, hT⟩ (c_M_apply_n l dC dI r cI cL own amt tag mad spt made ds2 dow dam dtg sp mk mint dep hgt und supply pot apl fes mns tms pic h1.1 h1.2) (cwV 0 hT (ob_goodV k_433 k_434 k_435 k_14 k_436) rfl rfl rfl (by decide +kernel) ⟨Nat.le_of_ble_eq_true rfl, Nat.le_of_ble_eq_true rfl⟩) (ob_preXW rfl hK (ob_P2 hP) (ob_D2 hD) (fun _ h => absurd h List.not_mem_nil) rfl rfl) rfl rfl hl.1 rfl (lv_room (Nat.le_of_ble_eq_true rfl)) d_L_law_309 ⟨Nat.le_of_ble_eq_true rfl, Nat.le_of_ble_eq_true rfl⟩) hS hP hD rfl (fun H locs hP hD hS => ?_)
    refine W.lcmp hx hb d_L_law_312 ?_
    refine lv_if_eq (tgt := 602) hx hb d_L_law_313 (by decide) (fun _ => ?_) (fun c => absurd ((lg_cmp_eq _ _).mpr rfl) c)
    exact kk _ _ ⟨_, _, _, _, _, _, _, _, _, _, _, _, _, _, _, _, _, _, _, _, _, _, _, _, _, _, _, _, (by exact ⟨⟨hm, hsp, hmk, hrow, hdp1, hdep, hud, huh, by omega⟩, hv, hd, hs⟩), hP, hD, hS⟩
  · by_cases h2 : 0 ≤ f_fee supply mint amt made dsp sp dam mk
    · by_cases h3 : made + mk ≤ 2048
      · refine lv_aload_n hx hb d_L_law_304 rfl (lv_at hl 2 rfl) ?_
        refine ob_callP1l (va_runV (As := []) (rest := []) ⟨hx, hb, hml, hown, hT⟩ (c_K_apply_t l dC dI q cI cL supply pot apl own amt tag mad spt made dsp dow dam dtg sp mk mint dep sups pots apps row hgt und hm hsp hmk h1 h2 h3) (cwV 0 hT (ob_goodV k_199 k_200 k_201 k_9 k_202) rfl rfl rfl (by decide +kernel) ⟨Nat.le_of_ble_eq_true rfl, Nat.le_of_ble_eq_true rfl⟩) (ob_preXW ob_N_nest hK (ob_P1 hP) (ob_D1 hD) hN rfl rfl) rfl rfl hl.1 rfl (lv_room (Nat.le_of_ble_eq_true rfl)) d_L_law_305 ⟨Nat.le_of_ble_eq_true rfl, Nat.le_of_ble_eq_true rfl⟩) hS hP hD rfl (fun H locs hP hD hS => ?_)
        refine lv_aload_n hx hb d_L_law_308 rfl (lv_at hl 3 rfl) ?_
        have hcon := c_M_apply_t l dC dI r cI cL own amt tag mad spt made ds2 dow dam dtg sp mk mint dep hgt und supply pot apl fes mns tms pic hm hsp hmk hhg (li_D_dr hd) h1 (by rw [li_D_fee hd]; exact h2) h3
        rw [li_D_fee hd, ← li_D_offs hd] at hcon
        refine ob_callP2l (va_runV (As := []) (rest := [.long (f_fee supply mint amt made dsp sp dam mk)]) ⟨hx, hb, hml, hown, hT⟩ hcon (cwV 0 hT (ob_goodV k_433 k_434 k_435 k_14 k_436) rfl rfl rfl (by decide +kernel) ⟨Nat.le_of_ble_eq_true rfl, Nat.le_of_ble_eq_true rfl⟩) (ob_preXW rfl hK (ob_P2 hP) (ob_D2 hD) (fun _ h => absurd h List.not_mem_nil) rfl rfl) rfl rfl hl.1 rfl (lv_room (Nat.le_of_ble_eq_true rfl)) d_L_law_309 ⟨Nat.le_of_ble_eq_true rfl, Nat.le_of_ble_eq_true rfl⟩) hS hP hD rfl (fun H locs hP hD hS => ?_)
        refine W.lcmp hx hb d_L_law_312 ?_
        refine lv_if_eq (tgt := 602) hx hb d_L_law_313 (by decide) (fun _ => ?_) (fun c => absurd ((lg_cmp_eq _ _).mpr rfl) c)
        exact kk _ _ ⟨_, _, _, _, _, _, _, _, _, _, _, _, _, _, _, _, _, _, _, _, _, _, _, _, _, _, _, _, (by exact ⟨⟨by omega, by omega, by omega, hrow, hdp1, hdep, hud, huh, by omega⟩, by rw [li_D_offs hd]; exact li_V_app (li_V_sets (g := nI hgt) hv (by rw [nI_toInt (by omega)]; omega) sp) mk, li_D_0, li_S_apply hs huh⟩), hP, hD, hS⟩
      · refine lv_aload_n hx hb d_L_law_304 rfl (lv_at hl 2 rfl) ?_
        refine ob_callL (W.runV (As := []) (rest := []) ⟨hx, hb, hml, hown, hT⟩ (c_K_apply_r l dC dI q cI cL supply pot apl own amt tag mad spt made dsp dow dam dtg sp mk mint dep sups pots apps row hgt und hm hsp hmk h1 h2 (by omega)) (cwV 0 hT (ob_goodV k_199 k_200 k_201 k_9 k_202) rfl rfl rfl (by decide +kernel) ⟨Nat.le_of_ble_eq_true rfl, Nat.le_of_ble_eq_true rfl⟩) (ob_preX ob_N_nest hK (ob_P1 hP) hN rfl rfl) rfl rfl hl.1 rfl (lv_room (Nat.le_of_ble_eq_true rfl)) d_L_law_305 ⟨Nat.le_of_ble_eq_true rfl, Nat.le_of_ble_eq_true rfl⟩) ?_
        refine lv_aload_n hx hb d_L_law_308 rfl (lv_at hl 3 rfl) ?_
        refine ob_callP2l (va_runV (As := []) (rest := [.long (-3 : Int64)]) ⟨hx, hb, hml, hown, hT⟩ (c_M_apply_r l dC dI r cI cL own amt tag mad spt made ds2 dow dam dtg sp mk mint dep hgt und supply pot apl fes mns tms pic hm hsp hmk hhg (li_D_dr hd) h1 (by rw [li_D_fee hd]; exact h2) (by omega)) (cwV 0 hT (ob_goodV k_433 k_434 k_435 k_14 k_436) rfl rfl rfl (by decide +kernel) ⟨Nat.le_of_ble_eq_true rfl, Nat.le_of_ble_eq_true rfl⟩) (ob_preXW rfl hK (ob_P2 hP) (ob_D2 hD) (fun _ h => absurd h List.not_mem_nil) rfl rfl) rfl rfl hl.1 rfl (lv_room (Nat.le_of_ble_eq_true rfl)) d_L_law_309 ⟨Nat.le_of_ble_eq_true rfl, Nat.le_of_ble_eq_true rfl⟩) hS hP hD rfl (fun H locs hP hD hS => ?_)
        refine W.lcmp hx hb d_L_law_312 ?_
        refine lv_if_eq (tgt := 602) hx hb d_L_law_313 (by decide) (fun _ => ?_) (fun c => absurd ((lg_cmp_eq _ _).mpr rfl) c)
        exact kk _ _ ⟨_, _, _, _, _, _, _, _, _, _, _, _, _, _, _, _, _, _, _, _, _, _, _, _, _, _, _, _, (by exact ⟨⟨hm, hsp, hmk, hrow, hdp1, hdep, hud, huh, by omega⟩, hv, hd, hs⟩), hP, hD, hS⟩
    · refine lv_aload_n hx hb d_L_law_304 rfl (lv_at hl 2 rfl) ?_
      refine ob_callL (W.runV (As := []) (rest := []) ⟨hx, hb, hml, hown, hT⟩ (c_K_apply_c l dC dI q cI cL supply pot apl own amt tag mad spt made dsp dow dam dtg sp mk mint dep sups pots apps row hgt und hm hsp hmk h1 h2) (cwV 0 hT (ob_goodV k_199 k_200 k_201 k_9 k_202) rfl rfl rfl (by decide +kernel) ⟨Nat.le_of_ble_eq_true rfl, Nat.le_of_ble_eq_true rfl⟩) (ob_preX ob_N_nest hK (ob_P1 hP) hN rfl rfl) rfl rfl hl.1 rfl (lv_room (Nat.le_of_ble_eq_true rfl)) d_L_law_305 ⟨Nat.le_of_ble_eq_true rfl, Nat.le_of_ble_eq_true rfl⟩) ?_
      refine lv_aload_n hx hb d_L_law_308 rfl (lv_at hl 3 rfl) ?_
      refine ob_callP2l (va_runV (As := []) (rest := [.long (-2 : Int64)]) ⟨hx, hb, hml, hown, hT⟩ (c_M_apply_c l dC dI r cI cL own amt tag mad spt made ds2 dow dam dtg sp mk mint dep hgt und supply pot apl fes mns tms pic hm hsp hmk hhg (li_D_dr hd) h1 (by rw [li_D_fee hd]; exact h2)) (cwV 0 hT (ob_goodV k_433 k_434 k_435 k_14 k_436) rfl rfl rfl (by decide +kernel) ⟨Nat.le_of_ble_eq_true rfl, Nat.le_of_ble_eq_true rfl⟩) (ob_preXW rfl hK (ob_P2 hP) (ob_D2 hD) (fun _ h => absurd h List.not_mem_nil) rfl rfl) rfl rfl hl.1 rfl (lv_room (Nat.le_of_ble_eq_true rfl)) d_L_law_309 ⟨Nat.le_of_ble_eq_true rfl, Nat.le_of_ble_eq_true rfl⟩) hS hP hD rfl (fun H locs hP hD hS => ?_)
      refine W.lcmp hx hb d_L_law_312 ?_
      refine lv_if_eq (tgt := 602) hx hb d_L_law_313 (by decide) (fun _ => ?_) (fun c => absurd ((lg_cmp_eq _ _).mpr rfl) c)
      exact kk _ _ ⟨_, _, _, _, _, _, _, _, _, _, _, _, _, _, _, _, _, _, _, _, _, _, _, _, _, _, _, _, (by exact ⟨⟨hm, hsp, hmk, hrow, hdp1, hdep, hud, huh, by omega⟩, hv, hd, hs⟩), hP, hD, hS⟩
set_option maxHeartbeats 4000000 in
set_option maxRecDepth 100000 in
theorem law_c6 {p : Program} {e : Env} {s : State} {m : MethodId} {below : List Frame} {meth : Method} {c : Code} (l : Launch) {b L : Nat} {xs : Nat → Int32} (hL : L ≤ 3073) (C0 : lw_At p s m meth c b L xs) {dC : Nat → ClassId} {dI : Nat → Nat → Nat} {q r : Nat → Nat} {cI cL : ClassId} (hK : va_K (dC, dI) vwCl [(cI, .int), (cL, .long)] s) {i t : Nat} (hi : i + 6 ≤ L) (hit : i = 1 + 6 * t) {ls : Array Slot} (hl : lv_has ls 4 [(3, .int (nI i)), (0, .ref b), (1, .ref (q 0)), (2, .ref (r 0))]) {H : Heap} {locs : List Loc} (hSt : li_St dC dI s q r cI cL t H locs) (kk : ∀ (H : Heap) (locs : List Loc), li_St dC dI s q r cI cL (t + 1) H locs → W p l e room_1 s m #[Value.ref b] below meth c H locs 30 95869 (lw_Z below #[Value.ref b] s) (F0 m 602 ls [])) : W p l e room_1 s m #[Value.ref b] below meth c H locs 30 95869 (lw_Z below #[Value.ref b] s) (F0 m 331 ls []) := by
  obtain ⟨hx, hb, hr, hml, hown, hts, hX, hbl, hlocks, hgv⟩ := C0
  have hT : ∀ w ∈ ob_T, w.before #[Value.ref b] s = true := fun w h => hts w (ob_T_in w h)
  have hN : ∀ w ∈ ob_N, va_Nw w s := fun w h => va_Nw.of (ob_onT (List.all_eq_true.mp ob_N_nest w h)) (hts w (ob_N_in w h))
  have hbA : ¬ (fun q : Nat => s.heap.size ≤ q) b := Nat.not_le.mpr hbl
  obtain ⟨supply, pot, apl, own, amt, tag, mad, spt, made, dsp, dow, dam, dtg, sp, mk, mint, dep, sups, pots, apps, row, hgt, und, ds2, fes, mns, tms, pic, ⟨⟨hm, hsp, hmk, hrow, hdp1, hdep, hud, huh, hht⟩, hv, hd, hs⟩, hP, hD, hS⟩ := hSt
  have hhg : hgt ≤ 1000 := by omega
  by_cases hc : 0 ≤ (xs (i + 1)).toInt ∧ (xs (i + 1)).toInt ≤ und
  · have hxn := cl_toInt hc.1
    have hns := hs ((xs (i + 1)).toNatClampNeg) (by omega)
    refine lv_aload_n hx hb d_L_law_331 rfl (lv_at hl 2 rfl) ?_
    refine lv_aload_n hx hb d_L_law_332 rfl (lv_at hl 1 rfl) ?_
    refine lv_iload_n hx hb d_L_law_333 rfl (lv_at hl 0 rfl) ?_
    refine lv_iconst (v := nI 1) hx hb d_L_law_334 (by decide) ?_
    refine lv_iadd hx hb d_L_law_335 ?_
    refine ob_eqi (nI_add i 1) ?_
    refine ob_sld hx hb hX hbl hbA hS (j := i + 1) (nI_clamp (by omega)) (vp_in_nI (by omega) (by omega)) d_L_law_336 ?_
    refine ob_callP1i (va_runV (As := [.int (xs (i + 1))]) (rest := []) ⟨hx, hb, hml, hown, hT⟩ (c_K_undo_t l dC dI q cI cL supply pot apl own amt tag mad spt made dsp dow dam dtg sp mk mint dep sups pots apps row hgt und (xs (i + 1)) hm hrow hdep hhg hud huh hc.1 hc.2) (cwV 1 hT (ob_goodV k_242 k_243 k_244 k_9 k_245) rfl rfl rfl (by decide +kernel) ⟨Nat.le_of_ble_eq_true rfl, Nat.le_of_ble_eq_true rfl⟩) (ob_preXW ob_N_nest hK (ob_P1 hP) (ob_D1 hD) hN rfl rfl) rfl rfl hl.1 rfl (lv_room (Nat.le_of_ble_eq_true rfl)) d_L_law_337 ⟨Nat.le_of_ble_eq_true rfl, Nat.le_of_ble_eq_true rfl⟩) hS hP hD rfl (fun H locs hP hD hS => ?_)
    refine lv_aload_n hx hb d_L_law_340 rfl (lv_at hl 3 rfl) ?_
    refine lv_aload_n hx hb d_L_law_341 rfl (lv_at hl 1 rfl) ?_
    refine lv_iload_n hx hb d_L_law_342 rfl (lv_at hl 0 rfl) ?_
    refine lv_iconst (v := nI 1) hx hb d_L_law_343 (by decide) ?_
    refine lv_iadd hx hb d_L_law_344 ?_
    refine ob_eqi (nI_add i 1) ?_
    refine ob_sld hx hb hX hbl hbA hS (j := i + 1) (nI_clamp (by omega)) (vp_in_nI (by omega) (by omega)) d_L_law_345 ?_
    have hcon := c_M_undo_t l dC dI r cI cL own amt tag mad spt made ds2 dow dam dtg sp mk mint dep hgt und supply pot apl fes mns tms pic (xs (i + 1)) hm hdep hhg hud huh hc.1 hc.2
    rw [← hns.1, ← hns.2.1, ← hns.2.2] at hcon
    refine ob_callP2i (va_runV (As := [.int (xs (i + 1))]) (rest := [.int (nI (hgt - (xs (i + 1)).toNatClampNeg))]) ⟨hx, hb, hml, hown, hT⟩ hcon (cwV 1 hT (ob_goodV k_445 k_446 k_447 k_14 k_448) rfl rfl rfl (by decide +kernel) ⟨Nat.le_of_ble_eq_true rfl, Nat.le_of_ble_eq_true rfl⟩) (ob_preXW rfl hK (ob_P2 hP) (ob_D2 hD) (fun _ h => absurd h List.not_mem_nil) rfl rfl) rfl rfl hl.1 rfl (lv_room (Nat.le_of_ble_eq_true rfl)) d_L_law_346 ⟨Nat.le_of_ble_eq_true rfl, Nat.le_of_ble_eq_true rfl⟩) hS hP hD rfl (fun H locs hP hD hS => ?_)
    refine lv_icmp_eq (tgt := 602) hx hb d_L_law_349 (by decide) (fun _ => ?_) (fun c => absurd rfl c)
    exact kk _ _ ⟨_, _, _, _, _, _, _, _, _, _, _, _, _, _, _, _, _, _, _, _, _, _, _, _, _, _, _, _, (by refine ⟨⟨Nat.le_trans f_back_le hm, by omega, by omega, f_rowb_le hrow (by omega), hdp1, hdep, by omega, by omega, by omega⟩, li_V_unsp hv, li_D_0, ?_⟩; rw [hns.1, hns.2.1, hns.2.2]; exact li_S_undo hs huh hrow hud (by omega)), hP, hD, hS⟩
  · refine lv_aload_n hx hb d_L_law_331 rfl (lv_at hl 2 rfl) ?_
    refine lv_aload_n hx hb d_L_law_332 rfl (lv_at hl 1 rfl) ?_
    refine lv_iload_n hx hb d_L_law_333 rfl (lv_at hl 0 rfl) ?_
    refine lv_iconst (v := nI 1) hx hb d_L_law_334 (by decide) ?_
    refine lv_iadd hx hb d_L_law_335 ?_
    refine ob_eqi (nI_add i 1) ?_
    refine ob_sld hx hb hX hbl hbA hS (j := i + 1) (nI_clamp (by omega)) (vp_in_nI (by omega) (by omega)) d_L_law_336 ?_
    refine ob_callR (W.runV (As := [.int (xs (i + 1))]) (rest := []) ⟨hx, hb, hml, hown, hT⟩ (c_K_undo_f l dC dI q cI cL supply pot apl own amt tag mad spt made dsp dow dam dtg sp mk mint dep sups pots apps row hgt und (xs (i + 1)) (by omega) hc) (cwV 1 hT (ob_goodV k_242 k_243 k_244 k_9 k_245) rfl rfl rfl (by decide +kernel) ⟨Nat.le_of_ble_eq_true rfl, Nat.le_of_ble_eq_true rfl⟩) (ob_preX ob_N_nest hK (ob_P1 hP) hN rfl rfl) rfl rfl hl.1 rfl (lv_room (Nat.le_of_ble_eq_true rfl)) d_L_law_337 ⟨Nat.le_of_ble_eq_true rfl, Nat.le_of_ble_eq_true rfl⟩) ?_
    refine lv_aload_n hx hb d_L_law_340 rfl (lv_at hl 3 rfl) ?_
    refine lv_aload_n hx hb d_L_law_341 rfl (lv_at hl 1 rfl) ?_
    refine lv_iload_n hx hb d_L_law_342 rfl (lv_at hl 0 rfl) ?_
    refine lv_iconst (v := nI 1) hx hb d_L_law_343 (by decide) ?_
    refine lv_iadd hx hb d_L_law_344 ?_
    refine ob_eqi (nI_add i 1) ?_
    refine ob_sld hx hb hX hbl hbA hS (j := i + 1) (nI_clamp (by omega)) (vp_in_nI (by omega) (by omega)) d_L_law_345 ?_
    refine ob_callP2i (va_runV (As := [.int (xs (i + 1))]) (rest := [.int (-1 : Int32)]) ⟨hx, hb, hml, hown, hT⟩ (c_M_undo_f l dC dI r cI cL own amt tag mad spt made ds2 dow dam dtg sp mk mint dep hgt und supply pot apl fes mns tms pic (xs (i + 1)) (by omega) hc) (cwV 1 hT (ob_goodV k_445 k_446 k_447 k_14 k_448) rfl rfl rfl (by decide +kernel) ⟨Nat.le_of_ble_eq_true rfl, Nat.le_of_ble_eq_true rfl⟩) (ob_preXW rfl hK (ob_P2 hP) (ob_D2 hD) (fun _ h => absurd h List.not_mem_nil) rfl rfl) rfl rfl hl.1 rfl (lv_room (Nat.le_of_ble_eq_true rfl)) d_L_law_346 ⟨Nat.le_of_ble_eq_true rfl, Nat.le_of_ble_eq_true rfl⟩) hS hP hD rfl (fun H locs hP hD hS => ?_)
    refine lv_icmp_eq (tgt := 602) hx hb d_L_law_349 (by decide) (fun _ => ?_) (fun c => absurd rfl c)
    exact kk _ _ ⟨_, _, _, _, _, _, _, _, _, _, _, _, _, _, _, _, _, _, _, _, _, _, _, _, _, _, _, _, (by exact ⟨⟨hm, hsp, hmk, hrow, hdp1, hdep, hud, huh, by omega⟩, hv, hd, hs⟩), hP, hD, hS⟩
set_option maxHeartbeats 4000000 in
set_option maxRecDepth 100000 in
theorem law_c13 {p : Program} {e : Env} {s : State} {m : MethodId} {below : List Frame} {meth : Method} {c : Code} (l : Launch) {b L : Nat} {xs : Nat → Int32} (hL : L ≤ 3073) (C0 : lw_At p s m meth c b L xs) {dC : Nat → ClassId} {dI : Nat → Nat → Nat} {q r : Nat → Nat} {cI cL : ClassId} (hK : va_K (dC, dI) vwCl [(cI, .int), (cL, .long)] s) {i t : Nat} (hi : i + 6 ≤ L) (hit : i = 1 + 6 * t) {ls : Array Slot} (hl : lv_has ls 4 [(3, .int (nI i)), (0, .ref b), (1, .ref (q 0)), (2, .ref (r 0))]) {H : Heap} {locs : List Loc} (hSt : li_St dC dI s q r cI cL t H locs) (kk : ∀ (H : Heap) (locs : List Loc), li_St dC dI s q r cI cL (t + 1) H locs → W p l e room_1 s m #[Value.ref b] below meth c H locs 30 95869 (lw_Z below #[Value.ref b] s) (F0 m 602 ls [])) : W p l e room_1 s m #[Value.ref b] below meth c H locs 30 95869 (lw_Z below #[Value.ref b] s) (F0 m 515 ls []) := by
  obtain ⟨hx, hb, hr, hml, hown, hts, hX, hbl, hlocks, hgv⟩ := C0
  have hT : ∀ w ∈ ob_T, w.before #[Value.ref b] s = true := fun w h => hts w (ob_T_in w h)
  have hN : ∀ w ∈ ob_N, va_Nw w s := fun w h => va_Nw.of (ob_onT (List.all_eq_true.mp ob_N_nest w h)) (hts w (ob_N_in w h))
  have hbA : ¬ (fun q : Nat => s.heap.size ≤ q) b := Nat.not_le.mpr hbl
  obtain ⟨supply, pot, apl, own, amt, tag, mad, spt, made, dsp, dow, dam, dtg, sp, mk, mint, dep, sups, pots, apps, row, hgt, und, ds2, fes, mns, tms, pic, ⟨⟨hm, hsp, hmk, hrow, hdp1, hdep, hud, huh, hht⟩, hv, hd, hs⟩, hP, hD, hS⟩ := hSt
  have hhg : hgt ≤ 1000 := by omega
  by_cases hc : 1 ≤ lk_L (xs (i + 2)) (xs (i + 3))
  · have hg := li_D_gather (own := own) (amt := amt) hm hd hsp (o := xs (i + 1)) (a := lk_L (xs (i + 2)) (xs (i + 3)))
    refine lv_aload_n hx hb d_L_law_515 rfl (lv_at hl 2 rfl) ?_
    refine lv_aload_n hx hb d_L_law_516 rfl (lv_at hl 1 rfl) ?_
    refine lv_iload_n hx hb d_L_law_517 rfl (lv_at hl 0 rfl) ?_
    refine lv_iconst (v := nI 1) hx hb d_L_law_518 (by decide) ?_
    refine lv_iadd hx hb d_L_law_519 ?_
    refine ob_eqi (nI_add i 1) ?_
    refine ob_sld hx hb hX hbl hbA hS (j := i + 1) (nI_clamp (by omega)) (vp_in_nI (by omega) (by omega)) d_L_law_520 ?_
    refine lv_aload_n hx hb d_L_law_521 rfl (lv_at hl 1 rfl) ?_
    refine lv_iload_n hx hb d_L_law_522 rfl (lv_at hl 0 rfl) ?_
    refine lv_iconst (v := nI 2) hx hb d_L_law_523 (by decide) ?_
    refine lv_iadd hx hb d_L_law_524 ?_
    refine ob_eqi (nI_add i 2) ?_
    refine ob_sld hx hb hX hbl hbA hS (j := i + 2) (nI_clamp (by omega)) (vp_in_nI (by omega) (by omega)) d_L_law_525 ?_
    refine lv_i2l (v := (xs (i + 2)).toInt64) hx hb d_L_law_526 rfl ?_
    refine lv_bipush (v := nI 32) hx hb d_L_law_527 (by decide) ?_
    refine lv_lshl (v := ((xs (i + 2)).toInt64) <<< ((nI 32).toInt64 &&& 63)) hx hb d_L_law_529 rfl ?_
    refine lv_aload_n hx hb d_L_law_530 rfl (lv_at hl 1 rfl) ?_
    refine lv_iload_n hx hb d_L_law_531 rfl (lv_at hl 0 rfl) ?_
    refine lv_iconst (v := nI 3) hx hb d_L_law_532 (by decide) ?_
    refine lv_iadd hx hb d_L_law_533 ?_
    refine ob_eqi (nI_add i 3) ?_
    refine ob_sld hx hb hX hbl hbA hS (j := i + 3) (nI_clamp (by omega)) (vp_in_nI (by omega) (by omega)) d_L_law_534 ?_
    refine lv_i2l (v := (xs (i + 3)).toInt64) hx hb d_L_law_535 rfl ?_
    refine lv_ldc2 (v := 4294967295) hx hb hown (hT _ k_485) d_L_law_536 ?_
    refine lv_land hx hb d_L_law_539 ?_
    refine lv_lor hx hb d_L_law_540 ?_
    refine ob_eql (y := lk_L (xs (i + 2)) (xs (i + 3))) rfl ?_
    refine ob_callP1i (va_runV (As := [.int (xs (i + 1)), .long (lk_L (xs (i + 2)) (xs (i + 3)))]) (rest := []) ⟨hx, hb, hml, hown, hT⟩ (c_K_gather_t l dC dI q cI cL supply pot apl own amt tag mad spt made dsp dow dam dtg sp mk mint dep sups pots apps row hgt und (xs (i + 1)) (lk_L (xs (i + 2)) (xs (i + 3))) hm hsp hc) (cwV 2 hT (ob_goodV k_295 k_296 k_297 k_9 k_298) rfl rfl rfl (by decide +kernel) ⟨Nat.le_of_ble_eq_true rfl, Nat.le_of_ble_eq_true rfl⟩) (ob_preXW ob_N_nest hK (ob_P1 hP) (ob_D1 hD) hN rfl rfl) rfl rfl hl.1 rfl (lv_room (Nat.le_of_ble_eq_true rfl)) d_L_law_541 ⟨Nat.le_of_ble_eq_true rfl, Nat.le_of_ble_eq_true rfl⟩) hS hP hD rfl (fun H locs hP hD hS => ?_)
    refine lv_aload_n hx hb d_L_law_544 rfl (lv_at hl 3 rfl) ?_
    refine lv_aload_n hx hb d_L_law_545 rfl (lv_at hl 1 rfl) ?_
    refine lv_iload_n hx hb d_L_law_546 rfl (lv_at hl 0 rfl) ?_
    refine lv_iconst (v := nI 1) hx hb d_L_law_547 (by decide) ?_
    refine lv_iadd hx hb d_L_law_548 ?_
    refine ob_eqi (nI_add i 1) ?_
    refine ob_sld hx hb hX hbl hbA hS (j := i + 1) (nI_clamp (by omega)) (vp_in_nI (by omega) (by omega)) d_L_law_549 ?_
    refine lv_aload_n hx hb d_L_law_550 rfl (lv_at hl 1 rfl) ?_
    refine lv_iload_n hx hb d_L_law_551 rfl (lv_at hl 0 rfl) ?_
    refine lv_iconst (v := nI 2) hx hb d_L_law_552 (by decide) ?_
    refine lv_iadd hx hb d_L_law_553 ?_
    refine ob_eqi (nI_add i 2) ?_
    refine ob_sld hx hb hX hbl hbA hS (j := i + 2) (nI_clamp (by omega)) (vp_in_nI (by omega) (by omega)) d_L_law_554 ?_
    refine lv_i2l (v := (xs (i + 2)).toInt64) hx hb d_L_law_555 rfl ?_
    refine lv_bipush (v := nI 32) hx hb d_L_law_556 (by decide) ?_
    refine lv_lshl (v := ((xs (i + 2)).toInt64) <<< ((nI 32).toInt64 &&& 63)) hx hb d_L_law_558 rfl ?_
    refine lv_aload_n hx hb d_L_law_559 rfl (lv_at hl 1 rfl) ?_
    refine lv_iload_n hx hb d_L_law_560 rfl (lv_at hl 0 rfl) ?_
    refine lv_iconst (v := nI 3) hx hb d_L_law_561 (by decide) ?_
    refine lv_iadd hx hb d_L_law_562 ?_
    refine ob_eqi (nI_add i 3) ?_
    refine ob_sld hx hb hX hbl hbA hS (j := i + 3) (nI_clamp (by omega)) (vp_in_nI (by omega) (by omega)) d_L_law_563 ?_
    refine lv_i2l (v := (xs (i + 3)).toInt64) hx hb d_L_law_564 rfl ?_
    refine lv_ldc2 (v := 4294967295) hx hb hown (hT _ k_485) d_L_law_565 ?_
    refine lv_land hx hb d_L_law_568 ?_
    refine lv_lor hx hb d_L_law_569 ?_
    refine ob_eql (y := lk_L (xs (i + 2)) (xs (i + 3))) rfl ?_
    have hcon := c_M_gather_t l dC dI r cI cL own amt tag mad spt made ds2 dow dam dtg sp mk mint dep hgt und supply pot apl fes mns tms pic (xs (i + 1)) (lk_L (xs (i + 2)) (xs (i + 3))) hm hv hsp hc
    rw [hg.1] at hcon
    refine ob_callP2i (va_runV (As := [.int (xs (i + 1)), .long (lk_L (xs (i + 2)) (xs (i + 3)))]) (rest := [.int (f_gans (f_gs amt made (f_pk own amt spt made (xs (i + 1))) dsp sp (lk_L (xs (i + 2)) (xs (i + 3))) (16 - sp) 0))]) ⟨hx, hb, hml, hown, hT⟩ hcon (cwV 2 hT (ob_goodV k_473 k_474 k_475 k_14 k_476) rfl rfl rfl (by decide +kernel) ⟨Nat.le_of_ble_eq_true rfl, Nat.le_of_ble_eq_true rfl⟩) (ob_preXW rfl hK (ob_P2 hP) (ob_D2 hD) (fun _ h => absurd h List.not_mem_nil) rfl rfl) rfl rfl hl.1 rfl (lv_room (Nat.le_of_ble_eq_true rfl)) d_L_law_570 ⟨Nat.le_of_ble_eq_true rfl, Nat.le_of_ble_eq_true rfl⟩) hS hP hD rfl (fun H locs hP hD hS => ?_)
    refine lv_icmp_eq (tgt := 602) hx hb d_L_law_573 (by decide) (fun _ => ?_) (fun c => absurd rfl c)
    exact kk _ _ ⟨_, _, _, _, _, _, _, _, _, _, _, _, _, _, _, _, _, _, _, _, _, _, _, _, _, _, _, _, (by exact ⟨⟨hm, hg.2.1, hmk, hrow, hdp1, hdep, hud, huh, by omega⟩, hv, hg.2.2, hs⟩), hP, hD, hS⟩
  · refine lv_aload_n hx hb d_L_law_515 rfl (lv_at hl 2 rfl) ?_
    refine lv_aload_n hx hb d_L_law_516 rfl (lv_at hl 1 rfl) ?_
    refine lv_iload_n hx hb d_L_law_517 rfl (lv_at hl 0 rfl) ?_
    refine lv_iconst (v := nI 1) hx hb d_L_law_518 (by decide) ?_
    refine lv_iadd hx hb d_L_law_519 ?_
    refine ob_eqi (nI_add i 1) ?_
    refine ob_sld hx hb hX hbl hbA hS (j := i + 1) (nI_clamp (by omega)) (vp_in_nI (by omega) (by omega)) d_L_law_520 ?_
    refine lv_aload_n hx hb d_L_law_521 rfl (lv_at hl 1 rfl) ?_
    refine lv_iload_n hx hb d_L_law_522 rfl (lv_at hl 0 rfl) ?_
    refine lv_iconst (v := nI 2) hx hb d_L_law_523 (by decide) ?_
    refine lv_iadd hx hb d_L_law_524 ?_
    refine ob_eqi (nI_add i 2) ?_
    refine ob_sld hx hb hX hbl hbA hS (j := i + 2) (nI_clamp (by omega)) (vp_in_nI (by omega) (by omega)) d_L_law_525 ?_
    refine lv_i2l (v := (xs (i + 2)).toInt64) hx hb d_L_law_526 rfl ?_
    refine lv_bipush (v := nI 32) hx hb d_L_law_527 (by decide) ?_
    refine lv_lshl (v := ((xs (i + 2)).toInt64) <<< ((nI 32).toInt64 &&& 63)) hx hb d_L_law_529 rfl ?_
    refine lv_aload_n hx hb d_L_law_530 rfl (lv_at hl 1 rfl) ?_
    refine lv_iload_n hx hb d_L_law_531 rfl (lv_at hl 0 rfl) ?_
    refine lv_iconst (v := nI 3) hx hb d_L_law_532 (by decide) ?_
    refine lv_iadd hx hb d_L_law_533 ?_
    refine ob_eqi (nI_add i 3) ?_
    refine ob_sld hx hb hX hbl hbA hS (j := i + 3) (nI_clamp (by omega)) (vp_in_nI (by omega) (by omega)) d_L_law_534 ?_
    refine lv_i2l (v := (xs (i + 3)).toInt64) hx hb d_L_law_535 rfl ?_
    refine lv_ldc2 (v := 4294967295) hx hb hown (hT _ k_485) d_L_law_536 ?_
    refine lv_land hx hb d_L_law_539 ?_
    refine lv_lor hx hb d_L_law_540 ?_
    refine ob_eql (y := lk_L (xs (i + 2)) (xs (i + 3))) rfl ?_
    refine ob_callR (W.runV (As := [.int (xs (i + 1)), .long (lk_L (xs (i + 2)) (xs (i + 3)))]) (rest := []) ⟨hx, hb, hml, hown, hT⟩ (c_K_gather_l l dC dI q cI cL supply pot apl own amt tag mad spt made dsp dow dam dtg sp mk mint dep sups pots apps row hgt und (xs (i + 1)) (lk_L (xs (i + 2)) (xs (i + 3))) hc) (cwV 2 hT (ob_goodV k_295 k_296 k_297 k_9 k_298) rfl rfl rfl (by decide +kernel) ⟨Nat.le_of_ble_eq_true rfl, Nat.le_of_ble_eq_true rfl⟩) (ob_preX ob_N_nest hK (ob_P1 hP) hN rfl rfl) rfl rfl hl.1 rfl (lv_room (Nat.le_of_ble_eq_true rfl)) d_L_law_541 ⟨Nat.le_of_ble_eq_true rfl, Nat.le_of_ble_eq_true rfl⟩) ?_
    refine lv_aload_n hx hb d_L_law_544 rfl (lv_at hl 3 rfl) ?_
    refine lv_aload_n hx hb d_L_law_545 rfl (lv_at hl 1 rfl) ?_
    refine lv_iload_n hx hb d_L_law_546 rfl (lv_at hl 0 rfl) ?_
    refine lv_iconst (v := nI 1) hx hb d_L_law_547 (by decide) ?_
    refine lv_iadd hx hb d_L_law_548 ?_
    refine ob_eqi (nI_add i 1) ?_
    refine ob_sld hx hb hX hbl hbA hS (j := i + 1) (nI_clamp (by omega)) (vp_in_nI (by omega) (by omega)) d_L_law_549 ?_
    refine lv_aload_n hx hb d_L_law_550 rfl (lv_at hl 1 rfl) ?_
    refine lv_iload_n hx hb d_L_law_551 rfl (lv_at hl 0 rfl) ?_
    refine lv_iconst (v := nI 2) hx hb d_L_law_552 (by decide) ?_
    refine lv_iadd hx hb d_L_law_553 ?_
    refine ob_eqi (nI_add i 2) ?_
    refine ob_sld hx hb hX hbl hbA hS (j := i + 2) (nI_clamp (by omega)) (vp_in_nI (by omega) (by omega)) d_L_law_554 ?_
    refine lv_i2l (v := (xs (i + 2)).toInt64) hx hb d_L_law_555 rfl ?_
    refine lv_bipush (v := nI 32) hx hb d_L_law_556 (by decide) ?_
    refine lv_lshl (v := ((xs (i + 2)).toInt64) <<< ((nI 32).toInt64 &&& 63)) hx hb d_L_law_558 rfl ?_
    refine lv_aload_n hx hb d_L_law_559 rfl (lv_at hl 1 rfl) ?_
    refine lv_iload_n hx hb d_L_law_560 rfl (lv_at hl 0 rfl) ?_
    refine lv_iconst (v := nI 3) hx hb d_L_law_561 (by decide) ?_
    refine lv_iadd hx hb d_L_law_562 ?_
    refine ob_eqi (nI_add i 3) ?_
    refine ob_sld hx hb hX hbl hbA hS (j := i + 3) (nI_clamp (by omega)) (vp_in_nI (by omega) (by omega)) d_L_law_563 ?_
    refine lv_i2l (v := (xs (i + 3)).toInt64) hx hb d_L_law_564 rfl ?_
    refine lv_ldc2 (v := 4294967295) hx hb hown (hT _ k_485) d_L_law_565 ?_
    refine lv_land hx hb d_L_law_568 ?_
    refine lv_lor hx hb d_L_law_569 ?_
    refine ob_eql (y := lk_L (xs (i + 2)) (xs (i + 3))) rfl ?_
    refine ob_callP2i (va_runV (As := [.int (xs (i + 1)), .long (lk_L (xs (i + 2)) (xs (i + 3)))]) (rest := [.int (-1 : Int32)]) ⟨hx, hb, hml, hown, hT⟩ (c_M_gather_l l dC dI r cI cL own amt tag mad spt made ds2 dow dam dtg sp mk mint dep hgt und supply pot apl fes mns tms pic (xs (i + 1)) (lk_L (xs (i + 2)) (xs (i + 3))) hc) (cwV 2 hT (ob_goodV k_473 k_474 k_475 k_14 k_476) rfl rfl rfl (by decide +kernel) ⟨Nat.le_of_ble_eq_true rfl, Nat.le_of_ble_eq_true rfl⟩) (ob_preXW rfl hK (ob_P2 hP) (ob_D2 hD) (fun _ h => absurd h List.not_mem_nil) rfl rfl) rfl rfl hl.1 rfl (lv_room (Nat.le_of_ble_eq_true rfl)) d_L_law_570 ⟨Nat.le_of_ble_eq_true rfl, Nat.le_of_ble_eq_true rfl⟩) hS hP hD rfl (fun H locs hP hD hS => ?_)
    refine lv_icmp_eq (tgt := 602) hx hb d_L_law_573 (by decide) (fun _ => ?_) (fun c => absurd rfl c)
    exact kk _ _ ⟨_, _, _, _, _, _, _, _, _, _, _, _, _, _, _, _, _, _, _, _, _, _, _, _, _, _, _, _, (by exact ⟨⟨hm, hsp, hmk, hrow, hdp1, hdep, hud, huh, by omega⟩, hv, hd, hs⟩), hP, hD, hS⟩
