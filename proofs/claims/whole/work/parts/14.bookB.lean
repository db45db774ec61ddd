abbrev rm_K_apply_c : Room := { frames := 3, cells := 0, slots := 0, locals := 65 }
set_option maxHeartbeats 4000000 in
set_option maxRecDepth 100000 in
theorem c_K_apply_c (l : Launch) (dC : Nat → ClassId) (dI : Nat → Nat → Nat) (q : Nat → Nat) (cI cL : ClassId) (supply : Int64) (pot : Int64) (apl : Int32) (own : Nat → Int32) (amt : Nat → Int64) (tag : Nat → Int64) (mad : Nat → Int32) (spt : Nat → Int32) (made : Nat) (dsp : Nat → Int32) (dow : Nat → Int32) (dam : Nat → Int64) (dtg : Nat → Int64) (sp : Nat) (mk : Nat) (mint : Int64) (dep : Nat) (sups : Nat → Int64) (pots : Nat → Int64) (apps : Nat → Int32) (row : Nat) (hgt : Nat) (und : Nat)  (hm : made ≤ 2048) (hsp : sp ≤ 16) (hmk : mk ≤ 16) (h1 : ¬ (sp = 0 ∧ mk = 0)) (h2 : ¬ 0 ≤ f_fee supply mint amt made dsp sp dam mk) : Met l y_K_apply w_K_apply rm_K_apply_c (va_Pc [.ref (q 0)] (ob_B (dC, dI) vwCl (wK q cI cL supply pot apl own amt tag mad spt made dsp dow dam dtg sp mk mint dep sups pots apps row hgt und) [(cI, .int), (cL, .long)] ob_N)) (QcReadL ((-2 : Int64))) 0 0 (fun _ => False) := by
  refine ob_ofW (cc := b_K_apply) (maxL := 3) (ret := (some .long)) (own := R_K) (by decide) rfl rfl (Nat.le_of_ble_eq_true rfl) ?_
  intro p e s m args below meth c Q hQ hx hb hr hml hT hown hlocks hv ls hl
  obtain ⟨hP, hK, hN⟩ := hv
  have hl : lv_has ls 3 [(0, .ref (q 0))] := hl
  refine lv_aload_n hx hb d_K_apply_0 rfl (lv_at hl 0 rfl) ?_
  refine va_get (D := (dC, dI)) (ci := 3) (v := .ref (q 7)) (C := R_K) (T := T_K) (N := 6) hx hb hT in_K hown hK hP 0 rfl rfl 1 (by decide) (hT _ k_127) (fun _ h9 => h9) rfl d_K_apply_1 ?_
  refine va_getN (D := (dC, dI)) (ci := 1) (v := .int (nI sp)) (C := R_D) (T := T_D) (N := 7) hx hb hT in_D hown hK hP 7 rfl rfl 4 (by decide) (va_Nw.use rfl (hN _ (List.mem_of_getElem? (i := 11) rfl))) (fun _ h9 => h9) rfl d_K_apply_4 ?_
  refine lv_if_ne (tgt := 24) hx hb d_K_apply_7 (by decide) (fun c_7 => ?_) (fun c_7 => ?_)
  · have t_7 := mt (cv_eq (nI_toInt (by omega)) (by decide : (0 : Int32).toInt = 0)).mpr c_7
    refine lv_aload_n hx hb d_K_apply_24 rfl (lv_at hl 0 rfl) ?_
    refine ob_callL (W.runV (As := []) (rest := []) ⟨hx, hb, hml, hown, hT⟩ (c_K_feeOfDraft l dC dI q cI cL supply pot apl own amt tag mad spt made dsp dow dam dtg sp mk mint dep sups pots apps row hgt und hm hsp hmk) (cwV 0 hT (ob_goodV k_204 k_206 k_0 k_9 k_207) rfl rfl rfl (by decide +kernel) ⟨Nat.le_of_ble_eq_true rfl, Nat.le_of_ble_eq_true rfl⟩) (ob_preV (wc := wK q cI cL supply pot apl own amt tag mad spt made dsp dow dam dtg sp mk mint dep sups pots apps row hgt und) (q0 := 0) rfl hK hP hN rfl [0, 1, 2, 3, 4, 5, 6, 7, 8, 9, 10, 11, 12, 13, 14, 15] rfl rfl) rfl rfl hl.1 rfl (lv_room (Nat.le_of_ble_eq_true rfl)) d_K_apply_25 ⟨Nat.zero_le _, Nat.zero_le _⟩) ?_
    refine lv_lstore_n (lv' := [(1, .long (f_fee supply mint amt made dsp sp dam mk)), (0, .ref (q 0))]) hx hb d_K_apply_28 rfl hl (by decide) rfl (fun ls hl => ?_)
    refine lv_lload_n hx hb d_K_apply_29 rfl (lv_at hl 0 rfl) ?_
    refine lv_lconst (v := 0) hx hb d_K_apply_30 (by decide) ?_
    refine W.lcmp hx hb d_K_apply_31 ?_
    refine lv_if_ge (tgt := 39) hx hb d_K_apply_32 (by decide) (fun c_32 => ?_) (fun c_32 => ?_)
    · have c_32 := (lg_cmp_ge _ _).mp c_32
      exact absurd c_32 h2
    · have c_32 := mt (lg_cmp_ge _ _).mpr c_32
      refine lv_ldc2 (v := -2) hx hb hown (hT _ k_209) d_K_apply_35 ?_
      exact ob_lret (v := (-2 : Int64)) hx hb hr hlocks hQ rfl d_K_apply_38
  · have t_7 := (cv_eq (nI_toInt (by omega)) (by decide : (0 : Int32).toInt = 0)).mp c_7
    refine lv_aload_n hx hb d_K_apply_10 rfl (lv_at hl 0 rfl) ?_
    refine va_get (D := (dC, dI)) (ci := 3) (v := .ref (q 7)) (C := R_K) (T := T_K) (N := 6) hx hb hT in_K hown hK hP 0 rfl rfl 1 (by decide) (hT _ k_127) (fun _ h9 => h9) rfl d_K_apply_11 ?_
    refine va_getN (D := (dC, dI)) (ci := 1) (v := .int (nI mk)) (C := R_D) (T := T_D) (N := 7) hx hb hT in_D hown hK hP 7 rfl rfl 5 (by decide) (va_Nw.use rfl (hN _ (List.mem_of_getElem? (i := 12) rfl))) (fun _ h9 => h9) rfl d_K_apply_14 ?_
    refine lv_if_ne (tgt := 24) hx hb d_K_apply_17 (by decide) (fun c_17 => ?_) (fun c_17 => ?_)
    · have t_17 := mt (cv_eq (nI_toInt (by omega)) (by decide : (0 : Int32).toInt = 0)).mpr c_17
      refine lv_aload_n hx hb d_K_apply_24 rfl (lv_at hl 0 rfl) ?_
      refine ob_callL (W.runV (As := []) (rest := []) ⟨hx, hb, hml, hown, hT⟩ (c_K_feeOfDraft l dC dI q cI cL supply pot apl own amt tag mad spt made dsp dow dam dtg sp mk mint dep sups pots apps row hgt und hm hsp hmk) (cwV 0 hT (ob_goodV k_204 k_206 k_0 k_9 k_207) rfl rfl rfl (by decide +kernel) ⟨Nat.le_of_ble_eq_true rfl, Nat.le_of_ble_eq_true rfl⟩) (ob_preV (wc := wK q cI cL supply pot apl own amt tag mad spt made dsp dow dam dtg sp mk mint dep sups pots apps row hgt und) (q0 := 0) rfl hK hP hN rfl [0, 1, 2, 3, 4, 5, 6, 7, 8, 9, 10, 11, 12, 13, 14, 15] rfl rfl) rfl rfl hl.1 rfl (lv_room (Nat.le_of_ble_eq_true rfl)) d_K_apply_25 ⟨Nat.zero_le _, Nat.zero_le _⟩) ?_
      refine lv_lstore_n (lv' := [(1, .long (f_fee supply mint amt made dsp sp dam mk)), (0, .ref (q 0))]) hx hb d_K_apply_28 rfl hl (by decide) rfl (fun ls hl => ?_)
      refine lv_lload_n hx hb d_K_apply_29 rfl (lv_at hl 0 rfl) ?_
      refine lv_lconst (v := 0) hx hb d_K_apply_30 (by decide) ?_
      refine W.lcmp hx hb d_K_apply_31 ?_
      refine lv_if_ge (tgt := 39) hx hb d_K_apply_32 (by decide) (fun c_32 => ?_) (fun c_32 => ?_)
      · have c_32 := (lg_cmp_ge _ _).mp c_32
        exact absurd c_32 h2
      · have c_32 := mt (lg_cmp_ge _ _).mpr c_32
        refine lv_ldc2 (v := -2) hx hb hown (hT _ k_209) d_K_apply_35 ?_
        exact ob_lret (v := (-2 : Int64)) hx hb hr hlocks hQ rfl d_K_apply_38
    · have t_17 := (cv_eq (nI_toInt (by omega)) (by decide : (0 : Int32).toInt = 0)).mp c_17
      exact absurd h1 (by omega)
abbrev rm_K_apply_r : Room := { frames := 3, cells := 0, slots := 0, locals := 65 }
set_option maxHeartbeats 4000000 in
set_option maxRecDepth 100000 in
theorem c_K_apply_r (l : Launch) (dC : Nat → ClassId) (dI : Nat → Nat → Nat) (q : Nat → Nat) (cI cL : ClassId) (supply : Int64) (pot : Int64) (apl : Int32) (own : Nat → Int32) (amt : Nat → Int64) (tag : Nat → Int64) (mad : Nat → Int32) (spt : Nat → Int32) (made : Nat) (dsp : Nat → Int32) (dow : Nat → Int32) (dam : Nat → Int64) (dtg : Nat → Int64) (sp : Nat) (mk : Nat) (mint : Int64) (dep : Nat) (sups : Nat → Int64) (pots : Nat → Int64) (apps : Nat → Int32) (row : Nat) (hgt : Nat) (und : Nat)  (hm : made ≤ 2048) (hsp : sp ≤ 16) (hmk : mk ≤ 16) (h1 : ¬ (sp = 0 ∧ mk = 0)) (h2 : 0 ≤ f_fee supply mint amt made dsp sp dam mk) (h3 : 2048 < made + mk) : Met l y_K_apply w_K_apply rm_K_apply_r (va_Pc [.ref (q 0)] (ob_B (dC, dI) vwCl (wK q cI cL supply pot apl own amt tag mad spt made dsp dow dam dtg sp mk mint dep sups pots apps row hgt und) [(cI, .int), (cL, .long)] ob_N)) (QcReadL ((-3 : Int64))) 0 0 (fun _ => False) := by
  refine ob_ofW (cc := b_K_apply) (maxL := 3) (ret := (some .long)) (own := R_K) (by decide) rfl rfl (Nat.le_of_ble_eq_true rfl) ?_
  intro p e s m args below meth c Q hQ hx hb hr hml hT hown hlocks hv ls hl
  obtain ⟨hP, hK, hN⟩ := hv
  have hl : lv_has ls 3 [(0, .ref (q 0))] := hl
  refine lv_aload_n hx hb d_K_apply_0 rfl (lv_at hl 0 rfl) ?_
  refine va_get (D := (dC, dI)) (ci := 3) (v := .ref (q 7)) (C := R_K) (T := T_K) (N := 6) hx hb hT in_K hown hK hP 0 rfl rfl 1 (by decide) (hT _ k_127) (fun _ h9 => h9) rfl d_K_apply_1 ?_
  refine va_getN (D := (dC, dI)) (ci := 1) (v := .int (nI sp)) (C := R_D) (T := T_D) (N := 7) hx hb hT in_D hown hK hP 7 rfl rfl 4 (by decide) (va_Nw.use rfl (hN _ (List.mem_of_getElem? (i := 11) rfl))) (fun _ h9 => h9) rfl d_K_apply_4 ?_
  refine lv_if_ne (tgt := 24) hx hb d_K_apply_7 (by decide) (fun c_7 => ?_) (fun c_7 => ?_)
  · have t_7 := mt (cv_eq (nI_toInt (by omega)) (by decide : (0 : Int32).toInt = 0)).mpr c_7
    refine lv_aload_n hx hb d_K_apply_24 rfl (lv_at hl 0 rfl) ?_
    refine ob_callL (W.runV (As := []) (rest := []) ⟨hx, hb, hml, hown, hT⟩ (c_K_feeOfDraft l dC dI q cI cL supply pot apl own amt tag mad spt made dsp dow dam dtg sp mk mint dep sups pots apps row hgt und hm hsp hmk) (cwV 0 hT (ob_goodV k_204 k_206 k_0 k_9 k_207) rfl rfl rfl (by decide +kernel) ⟨Nat.le_of_ble_eq_true rfl, Nat.le_of_ble_eq_true rfl⟩) (ob_preV (wc := wK q cI cL supply pot apl own amt tag mad spt made dsp dow dam dtg sp mk mint dep sups pots apps row hgt und) (q0 := 0) rfl hK hP hN rfl [0, 1, 2, 3, 4, 5, 6, 7, 8, 9, 10, 11, 12, 13, 14, 15] rfl rfl) rfl rfl hl.1 rfl (lv_room (Nat.le_of_ble_eq_true rfl)) d_K_apply_25 ⟨Nat.zero_le _, Nat.zero_le _⟩) ?_
    refine lv_lstore_n (lv' := [(1, .long (f_fee supply mint amt made dsp sp dam mk)), (0, .ref (q 0))]) hx hb d_K_apply_28 rfl hl (by decide) rfl (fun ls hl => ?_)
    refine lv_lload_n hx hb d_K_apply_29 rfl (lv_at hl 0 rfl) ?_
    refine lv_lconst (v := 0) hx hb d_K_apply_30 (by decide) ?_
    refine W.lcmp hx hb d_K_apply_31 ?_
    refine lv_if_ge (tgt := 39) hx hb d_K_apply_32 (by decide) (fun c_32 => ?_) (fun c_32 => ?_)
    · have c_32 := (lg_cmp_ge _ _).mp c_32
      refine lv_aload_n hx hb d_K_apply_39 rfl (lv_at hl 1 rfl) ?_
      refine va_get (D := (dC, dI)) (ci := 3) (v := .ref (q 7)) (C := R_K) (T := T_K) (N := 6) hx hb hT in_K hown hK hP 0 rfl rfl 1 (by decide) (hT _ k_127) (fun _ h9 => h9) rfl d_K_apply_40 ?_
      refine va_getN (D := (dC, dI)) (ci := 1) (v := .int (nI mk)) (C := R_D) (T := T_D) (N := 7) hx hb hT in_D hown hK hP 7 rfl rfl 5 (by decide) (va_Nw.use rfl (hN _ (List.mem_of_getElem? (i := 12) rfl))) (fun _ h9 => h9) rfl d_K_apply_43 ?_
      refine lv_aload_n hx hb d_K_apply_46 rfl (lv_at hl 1 rfl) ?_
      refine va_get (D := (dC, dI)) (ci := 3) (v := .ref (q 1)) (C := R_K) (T := T_K) (N := 6) hx hb hT in_K hown hK hP 0 rfl rfl 0 (by decide) (hT _ k_126) (fun _ h9 => h9) rfl d_K_apply_47 ?_
      refine ob_callR (W.runV (As := []) (rest := [.int (nI mk)]) ⟨hx, hb, hml, hown, hT⟩ (c_O_room l dC dI q cI cL own amt tag mad spt made hm) (cwV 0 hT (ob_goodV k_214 k_215 k_216 k_10 k_217) rfl rfl rfl (by decide +kernel) ⟨Nat.le_of_ble_eq_true rfl, Nat.le_of_ble_eq_true rfl⟩) (ob_preV (wc := wO q cI cL own amt tag mad spt made) (q0 := 0) rfl hK hP (fun _ h => absurd h List.not_mem_nil) rfl [1, 2, 3, 4, 5, 6] rfl rfl) rfl rfl hl.1 rfl (lv_room (Nat.le_of_ble_eq_true rfl)) d_K_apply_50 ⟨Nat.zero_le _, Nat.zero_le _⟩) ?_
      refine lv_icmp_le (tgt := 60) hx hb d_K_apply_53 (by decide) (fun c_53 => ?_) (fun c_53 => ?_)
      · have t_53 := (cv_le (nI_toInt (by omega)) (nI_toInt (by omega))).mp c_53
        exact absurd t_53 (by omega)
      · have t_53 := mt (cv_le (nI_toInt (by omega)) (nI_toInt (by omega))).mpr c_53
        refine lv_ldc2 (v := -3) hx hb hown (hT _ k_218) d_K_apply_56 ?_
        exact ob_lret (v := (-3 : Int64)) hx hb hr hlocks hQ rfl d_K_apply_59
    · have c_32 := mt (lg_cmp_ge _ _).mpr c_32
      exact absurd h2 c_32
  · have t_7 := (cv_eq (nI_toInt (by omega)) (by decide : (0 : Int32).toInt = 0)).mp c_7
    refine lv_aload_n hx hb d_K_apply_10 rfl (lv_at hl 0 rfl) ?_
    refine va_get (D := (dC, dI)) (ci := 3) (v := .ref (q 7)) (C := R_K) (T := T_K) (N := 6) hx hb hT in_K hown hK hP 0 rfl rfl 1 (by decide) (hT _ k_127) (fun _ h9 => h9) rfl d_K_apply_11 ?_
    refine va_getN (D := (dC, dI)) (ci := 1) (v := .int (nI mk)) (C := R_D) (T := T_D) (N := 7) hx hb hT in_D hown hK hP 7 rfl rfl 5 (by decide) (va_Nw.use rfl (hN _ (List.mem_of_getElem? (i := 12) rfl))) (fun _ h9 => h9) rfl d_K_apply_14 ?_
    refine lv_if_ne (tgt := 24) hx hb d_K_apply_17 (by decide) (fun c_17 => ?_) (fun c_17 => ?_)
    · have t_17 := mt (cv_eq (nI_toInt (by omega)) (by decide : (0 : Int32).toInt = 0)).mpr c_17
      refine lv_aload_n hx hb d_K_apply_24 rfl (lv_at hl 0 rfl) ?_
      refine ob_callL (W.runV (As := []) (rest := []) ⟨hx, hb, hml, hown, hT⟩ (c_K_feeOfDraft l dC dI q cI cL supply pot apl own amt tag mad spt made dsp dow dam dtg sp mk mint dep sups pots apps row hgt und hm hsp hmk) (cwV 0 hT (ob_goodV k_204 k_206 k_0 k_9 k_207) rfl rfl rfl (by decide +kernel) ⟨Nat.le_of_ble_eq_true rfl, Nat.le_of_ble_eq_true rfl⟩) (ob_preV (wc := wK q cI cL supply pot apl own amt tag mad spt made dsp dow dam dtg sp mk mint dep sups pots apps row hgt und) (q0 := 0) rfl hK hP hN rfl [0, 1, 2, 3, 4, 5, 6, 7, 8, 9, 10, 11, 12, 13, 14, 15] rfl rfl) rfl rfl hl.1 rfl (lv_room (Nat.le_of_ble_eq_true rfl)) d_K_apply_25 ⟨Nat.zero_le _, Nat.zero_le _⟩) ?_
      refine lv_lstore_n (lv' := [(1, .long (f_fee supply mint amt made dsp sp dam mk)), (0, .ref (q 0))]) hx hb d_K_apply_28 rfl hl (by decide) rfl (fun ls hl => ?_)
      refine lv_lload_n hx hb d_K_apply_29 rfl (lv_at hl 0 rfl) ?_
      refine lv_lconst (v := 0) hx hb d_K_apply_30 (by decide) ?_
      refine W.lcmp hx hb d_K_apply_31 ?_
      refine lv_if_ge (tgt := 39) hx hb d_K_apply_32 (by decide) (fun c_32 => ?_) (fun c_32 => ?_)
      · have c_32 := (lg_cmp_ge _ _).mp c_32
        refine lv_aload_n hx hb d_K_apply_39 rfl (lv_at hl 1 rfl) ?_
        refine va_get (D := (dC, dI)) (ci := 3) (v := .ref (q 7)) (C := R_K) (T := T_K) (N := 6) hx hb hT in_K hown hK hP 0 rfl rfl 1 (by decide) (hT _ k_127) (fun _ h9 => h9) rfl d_K_apply_40 ?_
        refine va_getN (D := (dC, dI)) (ci := 1) (v := .int (nI mk)) (C := R_D) (T := T_D) (N := 7) hx hb hT in_D hown hK hP 7 rfl rfl 5 (by decide) (va_Nw.use rfl (hN _ (List.mem_of_getElem? (i := 12) rfl))) (fun _ h9 => h9) rfl d_K_apply_43 ?_
        refine lv_aload_n hx hb d_K_apply_46 rfl (lv_at hl 1 rfl) ?_
        refine va_get (D := (dC, dI)) (ci := 3) (v := .ref (q 1)) (C := R_K) (T := T_K) (N := 6) hx hb hT in_K hown hK hP 0 rfl rfl 0 (by decide) (hT _ k_126) (fun _ h9 => h9) rfl d_K_apply_47 ?_
        refine ob_callR (W.runV (As := []) (rest := [.int (nI mk)]) ⟨hx, hb, hml, hown, hT⟩ (c_O_room l dC dI q cI cL own amt tag mad spt made hm) (cwV 0 hT (ob_goodV k_214 k_215 k_216 k_10 k_217) rfl rfl rfl (by decide +kernel) ⟨Nat.le_of_ble_eq_true rfl, Nat.le_of_ble_eq_true rfl⟩) (ob_preV (wc := wO q cI cL own amt tag mad spt made) (q0 := 0) rfl hK hP (fun _ h => absurd h List.not_mem_nil) rfl [1, 2, 3, 4, 5, 6] rfl rfl) rfl rfl hl.1 rfl (lv_room (Nat.le_of_ble_eq_true rfl)) d_K_apply_50 ⟨Nat.zero_le _, Nat.zero_le _⟩) ?_
        refine lv_icmp_le (tgt := 60) hx hb d_K_apply_53 (by decide) (fun c_53 => ?_) (fun c_53 => ?_)
        · have t_53 := (cv_le (nI_toInt (by omega)) (nI_toInt (by omega))).mp c_53
          exact absurd t_53 (by omega)
        · have t_53 := mt (cv_le (nI_toInt (by omega)) (nI_toInt (by omega))).mpr c_53
          refine lv_ldc2 (v := -3) hx hb hown (hT _ k_218) d_K_apply_56 ?_
          exact ob_lret (v := (-3 : Int64)) hx hb hr hlocks hQ rfl d_K_apply_59
      · have c_32 := mt (lg_cmp_ge _ _).mpr c_32
        exact absurd h2 c_32
    · have t_17 := (cv_eq (nI_toInt (by omega)) (by decide : (0 : Int32).toInt = 0)).mp c_17
      exact absurd h1 (by omega)
abbrev rm_K_apply_t : Room := { frames := 4, cells := 0, slots := 0, locals := 85 }
set_option maxHeartbeats 4000000 in
set_option maxRecDepth 100000 in
theorem c_K_apply_t (l : Launch) (dC : Nat → ClassId) (dI : Nat → Nat → Nat) (q : Nat → Nat) (cI cL : ClassId) (supply : Int64) (pot : Int64) (apl : Int32) (own : Nat → Int32) (amt : Nat → Int64) (tag : Nat → Int64) (mad : Nat → Int32) (spt : Nat → Int32) (made : Nat) (dsp : Nat → Int32) (dow : Nat → Int32) (dam : Nat → Int64) (dtg : Nat → Int64) (sp : Nat) (mk : Nat) (mint : Int64) (dep : Nat) (sups : Nat → Int64) (pots : Nat → Int64) (apps : Nat → Int32) (row : Nat) (hgt : Nat) (und : Nat)  (hm : made ≤ 2048) (hsp : sp ≤ 16) (hmk : mk ≤ 16) (h1 : ¬ (sp = 0 ∧ mk = 0)) (h2 : 0 ≤ f_fee supply mint amt made dsp sp dam mk) (h3 : made + mk ≤ 2048) : Met l y_K_apply w_K_apply rm_K_apply_t (va_Pc [.ref (q 0)] (ob_BW (dC, dI) vwCl (wK q cI cL supply pot apl own amt tag mad spt made dsp dow dam dtg sp mk mint dep sups pots apps row hgt und) [(cI, .int), (cL, .long)] ob_N)) (va_Ql (fun (r : Int64) (_ : Unit) => r = f_fee supply mint amt made dsp sp dam mk) (fun _ t => va_P (dC, dI) vwCl (wK q cI cL (supply + mint) (pot + f_fee supply mint amt made dsp sp dam mk) (apl + nI 1) (f_app own made dow mk) (f_appL amt made dam mk) (f_appL tag made dtg mk) (f_app mad made (fun _ => nI hgt) mk) (f_app (f_offs spt made dsp (nI hgt) sp) made (fun _ => -1) mk) (made + mk) dsp dow dam dtg 0 0 (0 : Int64) dep sups pots apps row hgt und) t.heap) (ob_A (wK q cI cL supply pot apl own amt tag mad spt made dsp dow dam dtg sp mk mint dep sups pots apps row hgt und))) 0 0 (ob_A (wK q cI cL supply pot apl own amt tag mad spt made dsp dow dam dtg sp mk mint dep sups pots apps row hgt und)) := by
  refine ob_ofW (cc := b_K_apply) (maxL := 3) (ret := (some .long)) (own := R_K) (by decide) rfl rfl (Nat.le_of_ble_eq_true rfl) ?_
  intro p e s m args below meth c Q hQ hx hb hr hml hT hown hlocks hv ls hl
  obtain ⟨⟨hP, hK, hN⟩, hD0⟩ := hv
  have hD := ob_D_self hD0
  generalize hAe : ob_A (wK q cI cL supply pot apl own amt tag mad spt made dsp dow dam dtg sp mk mint dep sups pots apps row hgt und) = A at hQ hD
  have hS : va_S A s.heap s.heap [] := va_S.rf
  have hl : lv_has ls 3 [(0, .ref (q 0))] := hl
  refine lv_aload_n hx hb d_K_apply_0 rfl (lv_at hl 0 rfl) ?_
  refine va_get (D := (dC, dI)) (ci := 3) (v := .ref (q 7)) (C := R_K) (T := T_K) (N := 6) hx hb hT in_K hown hK hP 0 rfl rfl 1 (by decide) (hT _ k_127) (fun _ h9 => h9) rfl d_K_apply_1 ?_
  refine va_getN (D := (dC, dI)) (ci := 1) (v := .int (nI sp)) (C := R_D) (T := T_D) (N := 7) hx hb hT in_D hown hK hP 7 rfl rfl 4 (by decide) (va_Nw.use rfl (hN _ (List.mem_of_getElem? (i := 11) rfl))) (fun _ h9 => h9) rfl d_K_apply_4 ?_
  refine lv_if_ne (tgt := 24) hx hb d_K_apply_7 (by decide) (fun c_7 => ?_) (fun c_7 => ?_)
  · have t_7 := mt (cv_eq (nI_toInt (by omega)) (by decide : (0 : Int32).toInt = 0)).mpr c_7
    refine lv_aload_n hx hb d_K_apply_24 rfl (lv_at hl 0 rfl) ?_
    refine ob_callL (W.runV (As := []) (rest := []) ⟨hx, hb, hml, hown, hT⟩ (c_K_feeOfDraft l dC dI q cI cL supply pot apl own amt tag mad spt made dsp dow dam dtg sp mk mint dep sups pots apps row hgt und hm hsp hmk) (cwV 0 hT (ob_goodV k_204 k_206 k_0 k_9 k_207) rfl rfl rfl (by decide +kernel) ⟨Nat.le_of_ble_eq_true rfl, Nat.le_of_ble_eq_true rfl⟩) (ob_preV (wc := wK q cI cL supply pot apl own amt tag mad spt made dsp dow dam dtg sp mk mint dep sups pots apps row hgt und) (q0 := 0) rfl hK hP hN rfl [0, 1, 2, 3, 4, 5, 6, 7, 8, 9, 10, 11, 12, 13, 14, 15] rfl rfl) rfl rfl hl.1 rfl (lv_room (Nat.le_of_ble_eq_true rfl)) d_K_apply_25 ⟨Nat.zero_le _, Nat.zero_le _⟩) ?_
    refine lv_lstore_n (lv' := [(1, .long (f_fee supply mint amt made dsp sp dam mk)), (0, .ref (q 0))]) hx hb d_K_apply_28 rfl hl (by decide) rfl (fun ls hl => ?_)
    refine lv_lload_n hx hb d_K_apply_29 rfl (lv_at hl 0 rfl) ?_
    refine lv_lconst (v := 0) hx hb d_K_apply_30 (by decide) ?_
    refine W.lcmp hx hb d_K_apply_31 ?_
    refine lv_if_ge (tgt := 39) hx hb d_K_apply_32 (by decide) (fun c_32 => ?_) (fun c_32 => ?_)
    · have c_32 := (lg_cmp_ge _ _).mp c_32
      refine lv_aload_n hx hb d_K_apply_39 rfl (lv_at hl 1 rfl) ?_
      refine va_get (D := (dC, dI)) (ci := 3) (v := .ref (q 7)) (C := R_K) (T := T_K) (N := 6) hx hb hT in_K hown hK hP 0 rfl rfl 1 (by decide) (hT _ k_127) (fun _ h9 => h9) rfl d_K_apply_40 ?_
      refine va_getN (D := (dC, dI)) (ci := 1) (v := .int (nI mk)) (C := R_D) (T := T_D) (N := 7) hx hb hT in_D hown hK hP 7 rfl rfl 5 (by decide) (va_Nw.use rfl (hN _ (List.mem_of_getElem? (i := 12) rfl))) (fun _ h9 => h9) rfl d_K_apply_43 ?_
      refine lv_aload_n hx hb d_K_apply_46 rfl (lv_at hl 1 rfl) ?_
      refine va_get (D := (dC, dI)) (ci := 3) (v := .ref (q 1)) (C := R_K) (T := T_K) (N := 6) hx hb hT in_K hown hK hP 0 rfl rfl 0 (by decide) (hT _ k_126) (fun _ h9 => h9) rfl d_K_apply_47 ?_
      refine ob_callR (W.runV (As := []) (rest := [.int (nI mk)]) ⟨hx, hb, hml, hown, hT⟩ (c_O_room l dC dI q cI cL own amt tag mad spt made hm) (cwV 0 hT (ob_goodV k_214 k_215 k_216 k_10 k_217) rfl rfl rfl (by decide +kernel) ⟨Nat.le_of_ble_eq_true rfl, Nat.le_of_ble_eq_true rfl⟩) (ob_preV (wc := wO q cI cL own amt tag mad spt made) (q0 := 0) rfl hK hP (fun _ h => absurd h List.not_mem_nil) rfl [1, 2, 3, 4, 5, 6] rfl rfl) rfl rfl hl.1 rfl (lv_room (Nat.le_of_ble_eq_true rfl)) d_K_apply_50 ⟨Nat.zero_le _, Nat.zero_le _⟩) ?_
      refine lv_icmp_le (tgt := 60) hx hb d_K_apply_53 (by decide) (fun c_53 => ?_) (fun c_53 => ?_)
      · have t_53 := (cv_le (nI_toInt (by omega)) (nI_toInt (by omega))).mp c_53
        refine lv_aload_n hx hb d_K_apply_60 rfl (lv_at hl 1 rfl) ?_
        refine lv_dup hx hb d_K_apply_61 rfl ?_
        refine va_get (D := (dC, dI)) (ci := 3) (v := .long supply) (C := R_K) (T := T_K) (N := 6) hx hb hT in_K hown hK hP 0 rfl rfl 3 (by decide) (hT _ k_129) (fun _ h9 => h9) rfl d_K_apply_62 ?_
        refine lv_aload_n hx hb d_K_apply_65 rfl (lv_at hl 1 rfl) ?_
        refine va_get (D := (dC, dI)) (ci := 3) (v := .ref (q 7)) (C := R_K) (T := T_K) (N := 6) hx hb hT in_K hown hK hP 0 rfl rfl 1 (by decide) (hT _ k_127) (fun _ h9 => h9) rfl d_K_apply_66 ?_
        refine va_getN (D := (dC, dI)) (ci := 1) (v := .long mint) (C := R_D) (T := T_D) (N := 7) hx hb hT in_D hown hK hP 7 rfl rfl 6 (by decide) (va_Nw.use rfl (hN _ (List.mem_of_getElem? (i := 13) rfl))) (fun _ h9 => h9) rfl d_K_apply_69 ?_
        refine lv_ladd hx hb d_K_apply_72 ?_
        refine va_put (D := (dC, dI)) (ci := 3) (v := .long (supply + mint)) (ty := .long) (C := R_K) (T := T_K) (N := 6) hx hb hT in_K t_K t_K_ok n_K hown hK hP hD hS 0 rfl rfl 3 (by decide) (hT _ k_129) (fun _ h9 => h9) rfl (by decide +kernel) rfl rfl (Nat.le_of_ble_eq_true rfl) d_K_apply_73 (fun H locs hP hD hS => ?_)
        have hP : va_P (dC, dI) vwCl (wK q cI cL (supply + mint) pot apl own amt tag mad spt made dsp dow dam dtg sp mk mint dep sups pots apps row hgt und) H := hP
        have hD : va_D A (wK q cI cL (supply + mint) pot apl own amt tag mad spt made dsp dow dam dtg sp mk mint dep sups pots apps row hgt und) := hD
        refine lv_aload_n hx hb d_K_apply_76 rfl (lv_at hl 1 rfl) ?_
        refine lv_dup hx hb d_K_apply_77 rfl ?_
        refine va_get (D := (dC, dI)) (ci := 3) (v := .long pot) (C := R_K) (T := T_K) (N := 6) hx hb hT in_K hown hK hP 0 rfl rfl 4 (by decide) (hT _ k_130) (fun _ h9 => h9) rfl d_K_apply_78 ?_
        refine lv_lload_n hx hb d_K_apply_81 rfl (lv_at hl 0 rfl) ?_
        refine lv_ladd hx hb d_K_apply_82 ?_
        refine va_put (D := (dC, dI)) (ci := 3) (v := .long (pot + (f_fee supply mint amt made dsp sp dam mk))) (ty := .long) (C := R_K) (T := T_K) (N := 6) hx hb hT in_K t_K t_K_ok n_K hown hK hP hD hS 0 rfl rfl 4 (by decide) (hT _ k_130) (fun _ h9 => h9) rfl (by decide +kernel) rfl rfl (Nat.le_of_ble_eq_true rfl) d_K_apply_83 (fun H locs hP hD hS => ?_)
        have hP : va_P (dC, dI) vwCl (wK q cI cL (supply + mint) (pot + (f_fee supply mint amt made dsp sp dam mk)) apl own amt tag mad spt made dsp dow dam dtg sp mk mint dep sups pots apps row hgt und) H := hP
        have hD : va_D A (wK q cI cL (supply + mint) (pot + (f_fee supply mint amt made dsp sp dam mk)) apl own amt tag mad spt made dsp dow dam dtg sp mk mint dep sups pots apps row hgt und) := hD
        refine lv_aload_n hx hb d_K_apply_86 rfl (lv_at hl 1 rfl) ?_
        refine lv_dup hx hb d_K_apply_87 rfl ?_
        refine va_get (D := (dC, dI)) (ci := 3) (v := .int apl) (C := R_K) (T := T_K) (N := 6) hx hb hT in_K hown hK hP 0 rfl rfl 5 (by decide) (hT _ k_131) (fun _ h9 => h9) rfl d_K_apply_88 ?_
        refine lv_iconst (v := nI 1) hx hb d_K_apply_91 (by decide) ?_
        refine lv_iadd hx hb d_K_apply_92 ?_
        refine va_put (D := (dC, dI)) (ci := 3) (v := .int (apl + (nI 1))) (ty := .int) (C := R_K) (T := T_K) (N := 6) hx hb hT in_K t_K t_K_ok n_K hown hK hP hD hS 0 rfl rfl 5 (by decide) (hT _ k_131) (fun _ h9 => h9) rfl (by decide +kernel) rfl rfl (Nat.le_of_ble_eq_true rfl) d_K_apply_93 (fun H locs hP hD hS => ?_)
        have hP : va_P (dC, dI) vwCl (wK q cI cL (supply + mint) (pot + (f_fee supply mint amt made dsp sp dam mk)) (apl + (nI 1)) own amt tag mad spt made dsp dow dam dtg sp mk mint dep sups pots apps row hgt und) H := hP
        have hD : va_D A (wK q cI cL (supply + mint) (pot + (f_fee supply mint amt made dsp sp dam mk)) (apl + (nI 1)) own amt tag mad spt made dsp dow dam dtg sp mk mint dep sups pots apps row hgt und) := hD
        refine lv_aload_n hx hb d_K_apply_96 rfl (lv_at hl 1 rfl) ?_
        refine ob_callWv (va_runV (As := []) (rest := []) ⟨hx, hb, hml, hown, hT⟩ (c_K_bookDraft l dC dI q cI cL (supply + mint) (pot + (f_fee supply mint amt made dsp sp dam mk)) (apl + (nI 1)) own amt tag mad spt made dsp dow dam dtg sp mk mint dep sups pots apps row hgt und hm hsp hmk (by omega)) (cwV 0 hT (ob_goodV k_219 k_221 k_1 k_9 k_222) rfl rfl rfl (by decide +kernel) ⟨Nat.le_of_ble_eq_true rfl, Nat.le_of_ble_eq_true rfl⟩) (ob_preVW (wc := wK q cI cL (supply + mint) (pot + (f_fee supply mint amt made dsp sp dam mk)) (apl + (nI 1)) own amt tag mad spt made dsp dow dam dtg sp mk mint dep sups pots apps row hgt und) (q0 := 0) rfl hK hP hD hN rfl [0, 1, 2, 3, 4, 5, 6, 7, 8, 9, 10, 11, 12, 13, 14, 15] rfl rfl rfl rfl) rfl rfl hl.1 rfl (lv_room (Nat.le_of_ble_eq_true rfl)) d_K_apply_97 ⟨Nat.zero_le _, Nat.zero_le _⟩) hS hP hD [0, 1, 2, 3, 4, 5, 6, 7, 8, 9, 10, 11, 12, 13, 14, 15] rfl rfl (fun H locs hP hD hS => ?_)
        have hP : va_P (dC, dI) vwCl (wK q cI cL (supply + mint) (pot + (f_fee supply mint amt made dsp sp dam mk)) (apl + (nI 1)) (f_app own made dow mk) (f_appL amt made dam mk) (f_appL tag made dtg mk) (f_app mad made (fun _ => nI hgt) mk) (f_app (f_offs spt made dsp (nI hgt) sp) made (fun _ => -1) mk) (made + mk) dsp dow dam dtg sp mk mint dep sups pots apps row hgt und) H := hP
        have hD : va_D A (wK q cI cL (supply + mint) (pot + (f_fee supply mint amt made dsp sp dam mk)) (apl + (nI 1)) (f_app own made dow mk) (f_appL amt made dam mk) (f_appL tag made dtg mk) (f_app mad made (fun _ => nI hgt) mk) (f_app (f_offs spt made dsp (nI hgt) sp) made (fun _ => -1) mk) (made + mk) dsp dow dam dtg sp mk mint dep sups pots apps row hgt und) := hD
        refine lv_aload_n hx hb d_K_apply_100 rfl (lv_at hl 1 rfl) ?_
        refine va_get (D := (dC, dI)) (ci := 3) (v := .ref (q 7)) (C := R_K) (T := T_K) (N := 6) hx hb hT in_K hown hK hP 0 rfl rfl 1 (by decide) (hT _ k_127) (fun _ h9 => h9) rfl d_K_apply_101 ?_
        refine ob_callWv (va_runV (As := []) (rest := []) ⟨hx, hb, hml, hown, hT⟩ (c_D_clear l dC dI q cI cL dsp dow dam dtg sp mk mint ) (cwV 0 hT (ob_goodV k_195 k_196 k_197 k_11 k_198) rfl rfl rfl (by decide +kernel) ⟨Nat.le_of_ble_eq_true rfl, Nat.le_of_ble_eq_true rfl⟩) (ob_preVW (wc := wD q cI cL dsp dow dam dtg sp mk mint) (q0 := 0) rfl hK hP hD (fun _ h => absurd h List.not_mem_nil) rfl [7, 8, 9, 10, 11] rfl rfl rfl rfl) rfl rfl hl.1 rfl (lv_room (Nat.le_of_ble_eq_true rfl)) d_K_apply_104 ⟨Nat.zero_le _, Nat.zero_le _⟩) hS hP hD [7, 8, 9, 10, 11] rfl rfl (fun H locs hP hD hS => ?_)
        have hP : va_P (dC, dI) vwCl (wK q cI cL (supply + mint) (pot + (f_fee supply mint amt made dsp sp dam mk)) (apl + (nI 1)) (f_app own made dow mk) (f_appL amt made dam mk) (f_appL tag made dtg mk) (f_app mad made (fun _ => nI hgt) mk) (f_app (f_offs spt made dsp (nI hgt) sp) made (fun _ => -1) mk) (made + mk) dsp dow dam dtg 0 0 (0 : Int64) dep sups pots apps row hgt und) H := hP
        have hD : va_D A (wK q cI cL (supply + mint) (pot + (f_fee supply mint amt made dsp sp dam mk)) (apl + (nI 1)) (f_app own made dow mk) (f_appL amt made dam mk) (f_appL tag made dtg mk) (f_app mad made (fun _ => nI hgt) mk) (f_app (f_offs spt made dsp (nI hgt) sp) made (fun _ => -1) mk) (made + mk) dsp dow dam dtg 0 0 (0 : Int64) dep sups pots apps row hgt und) := hD
        refine lv_lload_n hx hb d_K_apply_107 rfl (lv_at hl 0 rfl) ?_
        exact ob_lretW (v := f_fee supply mint amt made dsp sp dam mk) hx hb hr hlocks hQ hS hP rfl rfl d_K_apply_108
      · have t_53 := mt (cv_le (nI_toInt (by omega)) (nI_toInt (by omega))).mpr c_53
        exact absurd t_53 (by omega)
    · have c_32 := mt (lg_cmp_ge _ _).mpr c_32
      exact absurd h2 c_32
  · have t_7 := (cv_eq (nI_toInt (by omega)) (by decide : (0 : Int32).toInt = 0)).mp c_7
    refine lv_aload_n hx hb d_K_apply_10 rfl (lv_at hl 0 rfl) ?_
    refine va_get (D := (dC, dI)) (ci := 3) (v := .ref (q 7)) (C := R_K) (T := T_K) (N := 6) hx hb hT in_K hown hK hP 0 rfl rfl 1 (by decide) (hT _ k_127) (fun _ h9 => h9) rfl d_K_apply_11 ?_
    refine va_getN (D := (dC, dI)) (ci := 1) (v := .int (nI mk)) (C := R_D) (T := T_D) (N := 7) hx hb hT in_D hown hK hP 7 rfl rfl 5 (by decide) (va_Nw.use rfl (hN _ (List.mem_of_getElem? (i := 12) rfl))) (fun _ h9 => h9) rfl d_K_apply_14 ?_
    refine lv_if_ne (tgt := 24) hx hb d_K_apply_17 (by decide) (fun c_17 => ?_) (fun c_17 => ?_)
    · have t_17 := mt (cv_eq (nI_toInt (by omega)) (by decide : (0 : Int32).toInt = 0)).mpr c_17
      refine lv_aload_n hx hb d_K_apply_24 rfl (lv_at hl 0 rfl) ?_
      refine ob_callL (W.runV (As := []) (rest := []) ⟨hx, hb, hml, hown, hT⟩ (c_K_feeOfDraft l dC dI q cI cL supply pot apl own amt tag mad spt made dsp dow dam dtg sp mk mint dep sups pots apps row hgt und hm hsp hmk) (cwV 0 hT (ob_goodV k_204 k_206 k_0 k_9 k_207) rfl rfl rfl (by decide +kernel) ⟨Nat.le_of_ble_eq_true rfl, Nat.le_of_ble_eq_true rfl⟩) (ob_preV (wc := wK q cI cL supply pot apl own amt tag mad spt made dsp dow dam dtg sp mk mint dep sups pots apps row hgt und) (q0 := 0) rfl hK hP hN rfl [0, 1, 2, 3, 4, 5, 6, 7, 8, 9, 10, 11, 12, 13, 14, 15] rfl rfl) rfl rfl hl.1 rfl (lv_room (Nat.le_of_ble_eq_true rfl)) d_K_apply_25 ⟨Nat.zero_le _, Nat.zero_le _⟩) ?_
      refine lv_lstore_n (lv' := [(1, .long (f_fee supply mint amt made dsp sp dam mk)), (0, .ref (q 0))]) hx hb d_K_apply_28 rfl hl (by decide) rfl (fun ls hl => ?_)
      refine lv_lload_n hx hb d_K_apply_29 rfl (lv_at hl 0 rfl) ?_
      refine lv_lconst (v := 0) hx hb d_K_apply_30 (by decide) ?_
      refine W.lcmp hx hb d_K_apply_31 ?_
      refine lv_if_ge (tgt := 39) hx hb d_K_apply_32 (by decide) (fun c_32 => ?_) (fun c_32 => ?_)
      · have c_32 := (lg_cmp_ge _ _).mp c_32
        refine lv_aload_n hx hb d_K_apply_39 rfl (lv_at hl 1 rfl) ?_
        refine va_get (D := (dC, dI)) (ci := 3) (v := .ref (q 7)) (C := R_K) (T := T_K) (N := 6) hx hb hT in_K hown hK hP 0 rfl rfl 1 (by decide) (hT _ k_127) (fun _ h9 => h9) rfl d_K_apply_40 ?_
        refine va_getN (D := (dC, dI)) (ci := 1) (v := .int (nI mk)) (C := R_D) (T := T_D) (N := 7) hx hb hT in_D hown hK hP 7 rfl rfl 5 (by decide) (va_Nw.use rfl (hN _ (List.mem_of_getElem? (i := 12) rfl))) (fun _ h9 => h9) rfl d_K_apply_43 ?_
        refine lv_aload_n hx hb d_K_apply_46 rfl (lv_at hl 1 rfl) ?_
        refine va_get (D := (dC, dI)) (ci := 3) (v := .ref (q 1)) (C := R_K) (T := T_K) (N := 6) hx hb hT in_K hown hK hP 0 rfl rfl 0 (by decide) (hT _ k_126) (fun _ h9 => h9) rfl d_K_apply_47 ?_
        refine ob_callR (W.runV (As := []) (rest := [.int (nI mk)]) ⟨hx, hb, hml, hown, hT⟩ (c_O_room l dC dI q cI cL own amt tag mad spt made hm) (cwV 0 hT (ob_goodV k_214 k_215 k_216 k_10 k_217) rfl rfl rfl (by decide +kernel) ⟨Nat.le_of_ble_eq_true rfl, Nat.le_of_ble_eq_true rfl⟩) (ob_preV (wc := wO q cI cL own amt tag mad spt made) (q0 := 0) rfl hK hP (fun _ h => absurd h List.not_mem_nil) rfl [1, 2, 3, 4, 5, 6] rfl rfl) rfl rfl hl.1 rfl (lv_room (Nat.le_of_ble_eq_true rfl)) d_K_apply_50 ⟨Nat.zero_le _, Nat.zero_le _⟩) ?_
        refine lv_icmp_le (tgt := 60) hx hb d_K_apply_53 (by decide) (fun c_53 => ?_) (fun c_53 => ?_)
        · have t_53 := (cv_le (nI_toInt (by omega)) (nI_toInt (by omega))).mp c_53
          refine lv_aload_n hx hb d_K_apply_60 rfl (lv_at hl 1 rfl) ?_
          refine lv_dup hx hb d_K_apply_61 rfl ?_
          refine va_get (D := (dC, dI)) (ci := 3) (v := .long supply) (C := R_K) (T := T_K) (N := 6) hx hb hT in_K hown hK hP 0 rfl rfl 3 (by decide) (hT _ k_129) (fun _ h9 => h9) rfl d_K_apply_62 ?_
          refine lv_aload_n hx hb d_K_apply_65 rfl (lv_at hl 1 rfl) ?_
          refine va_get (D := (dC, dI)) (ci := 3) (v := .ref (q 7)) (C := R_K) (T := T_K) (N := 6) hx hb hT in_K hown hK hP 0 rfl rfl 1 (by decide) (hT _ k_127) (fun _ h9 => h9) rfl d_K_apply_66 ?_
          refine va_getN (D := (dC, dI)) (ci := 1) (v := .long mint) (C := R_D) (T := T_D) (N := 7) hx hb hT in_D hown hK hP 7 rfl rfl 6 (by decide) (va_Nw.use rfl (hN _ (List.mem_of_getElem? (i := 13) rfl))) (fun _ h9 => h9) rfl d_K_apply_69 ?_
          refine lv_ladd hx hb d_K_apply_72 ?_
          refine va_put (D := (dC, dI)) (ci := 3) (v := .long (supply + mint)) (ty := .long) (C := R_K) (T := T_K) (N := 6) hx hb hT in_K t_K t_K_ok n_K hown hK hP hD hS 0 rfl rfl 3 (by decide) (hT _ k_129) (fun _ h9 => h9) rfl (by decide +kernel) rfl rfl (Nat.le_of_ble_eq_true rfl) d_K_apply_73 (fun H locs hP hD hS => ?_)
          have hP : va_P (dC, dI) vwCl (wK q cI cL (supply + mint) pot apl own amt tag mad spt made dsp dow dam dtg sp mk mint dep sups pots apps row hgt und) H := hP
          have hD : va_D A (wK q cI cL (supply + mint) pot apl own amt tag mad spt made dsp dow dam dtg sp mk mint dep sups pots apps row hgt und) := hD
          refine lv_aload_n hx hb d_K_apply_76 rfl (lv_at hl 1 rfl) ?_
          refine lv_dup hx hb d_K_apply_77 rfl ?_
          refine va_get (D := (dC, dI)) (ci := 3) (v := .long pot) (C := R_K) (T := T_K) (N := 6) hx hb hT in_K hown hK hP 0 rfl rfl 4 (by decide) (hT _ k_130) (fun _ h9 => h9) rfl d_K_apply_78 ?_
          refine lv_lload_n hx hb d_K_apply_81 rfl (lv_at hl 0 rfl) ?_
          refine lv_ladd hx hb d_K_apply_82 ?_
          refine va_put (D := (dC, dI)) (ci := 3) (v := .long (pot + (f_fee supply mint amt made dsp sp dam mk))) (ty := .long) (C := R_K) (T := T_K) (N := 6) hx hb hT in_K t_K t_K_ok n_K hown hK hP hD hS 0 rfl rfl 4 (by decide) (hT _ k_130) (fun _ h9 => h9) rfl (by decide +kernel) rfl rfl (Nat.le_of_ble_eq_true rfl) d_K_apply_83 (fun H locs hP hD hS => ?_)
          have hP : va_P (dC, dI) vwCl (wK q cI cL (supply + mint) (pot + (f_fee supply mint amt made dsp sp dam mk)) apl own amt tag mad spt made dsp dow dam dtg sp mk mint dep sups pots apps row hgt und) H := hP
          have hD : va_D A (wK q cI cL (supply + mint) (pot + (f_fee supply mint amt made dsp sp dam mk)) apl own amt tag mad spt made dsp dow dam dtg sp mk mint dep sups pots apps row hgt und) := hD
          refine lv_aload_n hx hb d_K_apply_86 rfl (lv_at hl 1 rfl) ?_
          refine lv_dup hx hb d_K_apply_87 rfl ?_
          refine va_get (D := (dC, dI)) (ci := 3) (v := .int apl) (C := R_K) (T := T_K) (N := 6) hx hb hT in_K hown hK hP 0 rfl rfl 5 (by decide) (hT _ k_131) (fun _ h9 => h9) rfl d_K_apply_88 ?_
          refine lv_iconst (v := nI 1) hx hb d_K_apply_91 (by decide) ?_
          refine lv_iadd hx hb d_K_apply_92 ?_
          refine va_put (D := (dC, dI)) (ci := 3) (v := .int (apl + (nI 1))) (ty := .int) (C := R_K) (T := T_K) (N := 6) hx hb hT in_K t_K t_K_ok n_K hown hK hP hD hS 0 rfl rfl 5 (by decide) (hT _ k_131) (fun _ h9 => h9) rfl (by decide +kernel) rfl rfl (Nat.le_of_ble_eq_true rfl) d_K_apply_93 (fun H locs hP hD hS => ?_)
          have hP : va_P (dC, dI) vwCl (wK q cI cL (supply + mint) (pot + (f_fee supply mint amt made dsp sp dam mk)) (apl + (nI 1)) own amt tag mad spt made dsp dow dam dtg sp mk mint dep sups pots apps row hgt und) H := hP
          have hD : va_D A (wK q cI cL (supply + mint) (pot + (f_fee supply mint amt made dsp sp dam mk)) (apl + (nI 1)) own amt tag mad spt made dsp dow dam dtg sp mk mint dep sups pots apps row hgt und) := hD
          refine lv_aload_n hx hb d_K_apply_96 rfl (lv_at hl 1 rfl) ?_
          refine ob_callWv (va_runV (As := []) (rest := []) ⟨hx, hb, hml, hown, hT⟩ (c_K_bookDraft l dC dI q cI cL (supply + mint) (pot + (f_fee supply mint amt made dsp sp dam mk)) (apl + (nI 1)) own amt tag mad spt made dsp dow dam dtg sp mk mint dep sups pots apps row hgt und hm hsp hmk (by omega)) (cwV 0 hT (ob_goodV k_219 k_221 k_1 k_9 k_222) rfl rfl rfl (by decide +kernel) ⟨Nat.le_of_ble_eq_true rfl, Nat.le_of_ble_eq_true rfl⟩) (ob_preVW (wc := wK q cI cL (supply + mint) (pot + (f_fee supply mint amt made dsp sp dam mk)) (apl + (nI 1)) own amt tag mad spt made dsp dow dam dtg sp mk mint dep sups pots apps row hgt und) (q0 := 0) rfl hK hP hD hN rfl [0, 1, 2, 3, 4, 5, 6, 7, 8, 9, 10, 11, 12, 13, 14, 15] rfl rfl rfl rfl) rfl rfl hl.1 rfl (lv_room (Nat.le_of_ble_eq_true rfl)) d_K_apply_97 ⟨Nat.zero_le _, Nat.zero_le _⟩) hS hP hD [0, 1, 2, 3, 4, 5, 6, 7, 8, 9, 10, 11, 12, 13, 14, 15] rfl rfl (fun H locs hP hD hS => ?_)
          have hP : va_P (dC, dI) vwCl (wK q cI cL (supply + mint) (pot + (f_fee supply mint amt made dsp sp dam mk)) (apl + (nI 1)) (f_app own made dow mk) (f_appL amt made dam mk) (f_appL tag made dtg mk) (f_app mad made (fun _ => nI hgt) mk) (f_app (f_offs spt made dsp (nI hgt) sp) made (fun _ => -1) mk) (made + mk) dsp dow dam dtg sp mk mint dep sups pots apps row hgt und) H := hP
          have hD : va_D A (wK q cI cL (supply + mint) (pot + (f_fee supply mint amt made dsp sp dam mk)) (apl + (nI 1)) (f_app own made dow mk) (f_appL amt made dam mk) (f_appL tag made dtg mk) (f_app mad made (fun _ => nI hgt) mk) (f_app (f_offs spt made dsp (nI hgt) sp) made (fun _ => -1) mk) (made + mk) dsp dow dam dtg sp mk mint dep sups pots apps row hgt und) := hD
          refine lv_aload_n hx hb d_K_apply_100 rfl (lv_at hl 1 rfl) ?_
          refine va_get (D := (dC, dI)) (ci := 3) (v := .ref (q 7)) (C := R_K) (T := T_K) (N := 6) hx hb hT in_K hown hK hP 0 rfl rfl 1 (by decide) (hT _ k_127) (fun _ h9 => h9) rfl d_K_apply_101 ?_
          refine ob_callWv (va_runV (As := []) (rest := []) ⟨hx, hb, hml, hown, hT⟩ (c_D_clear l dC dI q cI cL dsp dow dam dtg sp mk mint ) (cwV 0 hT (ob_goodV k_195 k_196 k_197 k_11 k_198) rfl rfl rfl (by decide +kernel) ⟨Nat.le_of_ble_eq_true rfl, Nat.le_of_ble_eq_true rfl⟩) (ob_preVW (wc := wD q cI cL dsp dow dam dtg sp mk mint) (q0 := 0) rfl hK hP hD (fun _ h => absurd h List.not_mem_nil) rfl [7, 8, 9, 10, 11] rfl rfl rfl rfl) rfl rfl hl.1 rfl (lv_room (Nat.le_of_ble_eq_true rfl)) d_K_apply_104 ⟨Nat.zero_le _, Nat.zero_le _⟩) hS hP hD [7, 8, 9, 10, 11] rfl rfl (fun H locs hP hD hS => ?_)
          have hP : va_P (dC, dI) vwCl (wK q cI cL (supply + mint) (pot + (f_fee supply mint amt made dsp sp dam mk)) (apl + (nI 1)) (f_app own made dow mk) (f_appL amt made dam mk) (f_appL tag made dtg mk) (f_app mad made (fun _ => nI hgt) mk) (f_app (f_offs spt made dsp (nI hgt) sp) made (fun _ => -1) mk) (made + mk) dsp dow dam dtg 0 0 (0 : Int64) dep sups pots apps row hgt und) H := hP
          have hD : va_D A (wK q cI cL (supply + mint) (pot + (f_fee supply mint amt made dsp sp dam mk)) (apl + (nI 1)) (f_app own made dow mk) (f_appL amt made dam mk) (f_appL tag made dtg mk) (f_app mad made (fun _ => nI hgt) mk) (f_app (f_offs spt made dsp (nI hgt) sp) made (fun _ => -1) mk) (made + mk) dsp dow dam dtg 0 0 (0 : Int64) dep sups pots apps row hgt und) := hD
          refine lv_lload_n hx hb d_K_apply_107 rfl (lv_at hl 0 rfl) ?_
          exact ob_lretW (v := f_fee supply mint amt made dsp sp dam mk) hx hb hr hlocks hQ hS hP rfl rfl d_K_apply_108
        · have t_53 := mt (cv_le (nI_toInt (by omega)) (nI_toInt (by omega))).mpr c_53
          exact absurd t_53 (by omega)
      · have c_32 := mt (lg_cmp_ge _ _).mpr c_32
        exact absurd h2 c_32
    · have t_17 := (cv_eq (nI_toInt (by omega)) (by decide : (0 : Int32).toInt = 0)).mp c_17
      exact absurd h1 (by omega)
abbrev rm_K_close : Room := { frames := 2, cells := 0, slots := 0, locals := 39 }
set_option maxHeartbeats 4000000 in
set_option maxRecDepth 100000 in
theorem c_K_close (l : Launch) (dC : Nat → ClassId) (dI : Nat → Nat → Nat) (q : Nat → Nat) (cI cL : ClassId) (supply : Int64) (pot : Int64) (apl : Int32) (own : Nat → Int32) (amt : Nat → Int64) (tag : Nat → Int64) (mad : Nat → Int32) (spt : Nat → Int32) (made : Nat) (dsp : Nat → Int32) (dow : Nat → Int32) (dam : Nat → Int64) (dtg : Nat → Int64) (sp : Nat) (mk : Nat) (mint : Int64) (dep : Nat) (sups : Nat → Int64) (pots : Nat → Int64) (apps : Nat → Int32) (row : Nat) (hgt : Nat) (und : Nat)  (hrow : row ≤ dep) (hdep : dep ≤ 64) (hhg : hgt ≤ 1000) (hud : und ≤ dep) : Met l y_K_close w_K_close rm_K_close (va_Pc [.ref (q 0)] (ob_BW (dC, dI) vwCl (wK q cI cL supply pot apl own amt tag mad spt made dsp dow dam dtg sp mk mint dep sups pots apps row hgt und) [(cI, .int), (cL, .long)] ob_N)) (va_Qi (fun (r : Int32) (_ : Unit) => r = nI (hgt + 1)) (fun _ t => va_P (dC, dI) vwCl (wK q cI cL supply pot apl own amt tag mad spt made dsp dow dam dtg sp mk mint dep (vp_updL sups (f_row row dep) supply) (vp_updL pots (f_row row dep) pot) (upd apps (f_row row dep) apl) (f_row row dep) (hgt + 1) (min dep (und + 1))) t.heap) (ob_A (wK q cI cL supply pot apl own amt tag mad spt made dsp dow dam dtg sp mk mint dep sups pots apps row hgt und))) 0 0 (ob_A (wK q cI cL supply pot apl own amt tag mad spt made dsp dow dam dtg sp mk mint dep sups pots apps row hgt und)) := by
  refine ob_ofW (cc := b_K_close) (maxL := 1) (ret := (some .int)) (own := R_K) (by decide) rfl rfl (Nat.le_of_ble_eq_true rfl) ?_
  intro p e s m args below meth c Q hQ hx hb hr hml hT hown hlocks hv ls hl
  obtain ⟨⟨hP, hK, hN⟩, hD0⟩ := hv
  have hD := ob_D_self hD0
  generalize hAe : ob_A (wK q cI cL supply pot apl own amt tag mad spt made dsp dow dam dtg sp mk mint dep sups pots apps row hgt und) = A at hQ hD
  have hS : va_S A s.heap s.heap [] := va_S.rf
  have hl : lv_has ls 1 [(0, .ref (q 0))] := hl
  refine lv_aload_n hx hb d_K_close_0 rfl (lv_at hl 0 rfl) ?_
  refine va_get (D := (dC, dI)) (ci := 3) (v := .ref (q 12)) (C := R_K) (T := T_K) (N := 6) hx hb hT in_K hown hK hP 0 rfl rfl 2 (by decide) (hT _ k_128) (fun _ h9 => h9) rfl d_K_close_1 ?_
  refine lv_aload_n hx hb d_K_close_4 rfl (lv_at hl 0 rfl) ?_
  refine va_get (D := (dC, dI)) (ci := 3) (v := .long supply) (C := R_K) (T := T_K) (N := 6) hx hb hT in_K hown hK hP 0 rfl rfl 3 (by decide) (hT _ k_129) (fun _ h9 => h9) rfl d_K_close_5 ?_
  refine lv_aload_n hx hb d_K_close_8 rfl (lv_at hl 0 rfl) ?_
  refine va_get (D := (dC, dI)) (ci := 3) (v := .long pot) (C := R_K) (T := T_K) (N := 6) hx hb hT in_K hown hK hP 0 rfl rfl 4 (by decide) (hT _ k_130) (fun _ h9 => h9) rfl d_K_close_9 ?_
  refine lv_aload_n hx hb d_K_close_12 rfl (lv_at hl 0 rfl) ?_
  refine va_get (D := (dC, dI)) (ci := 3) (v := .int apl) (C := R_K) (T := T_K) (N := 6) hx hb hT in_K hown hK hP 0 rfl rfl 5 (by decide) (hT _ k_131) (fun _ h9 => h9) rfl d_K_close_13 ?_
  refine ob_callWv (va_runV (As := [.long supply, .long pot, .int apl]) (rest := []) ⟨hx, hb, hml, hown, hT⟩ (c_B_openNext l dC dI q cI cL dep sups pots apps row hgt und supply pot apl hrow hdep hhg hud) (cwV 3 hT (ob_goodV k_237 k_238 k_239 k_12 k_240) rfl rfl rfl (by decide +kernel) ⟨Nat.le_of_ble_eq_true rfl, Nat.le_of_ble_eq_true rfl⟩) (ob_preVW (wc := wB q cI cL dep sups pots apps row hgt und) (q0 := 0) rfl hK hP hD (fun _ h => absurd h List.not_mem_nil) rfl [12, 13, 14, 15] rfl rfl rfl rfl) rfl rfl hl.1 rfl (lv_room (Nat.le_of_ble_eq_true rfl)) d_K_close_16 ⟨Nat.zero_le _, Nat.zero_le _⟩) hS hP hD [12, 13, 14, 15] rfl rfl (fun H locs hP hD hS => ?_)
  have hP : va_P (dC, dI) vwCl (wK q cI cL supply pot apl own amt tag mad spt made dsp dow dam dtg sp mk mint dep (vp_updL sups (f_row row dep) supply) (vp_updL pots (f_row row dep) pot) (upd apps (f_row row dep) apl) (f_row row dep) (hgt + 1) (min dep (und + 1))) H := hP
  have hD : va_D A (wK q cI cL supply pot apl own amt tag mad spt made dsp dow dam dtg sp mk mint dep (vp_updL sups (f_row row dep) supply) (vp_updL pots (f_row row dep) pot) (upd apps (f_row row dep) apl) (f_row row dep) (hgt + 1) (min dep (und + 1))) := hD
  refine lv_aload_n hx hb d_K_close_19 rfl (lv_at hl 0 rfl) ?_
  refine va_get (D := (dC, dI)) (ci := 3) (v := .ref (q 12)) (C := R_K) (T := T_K) (N := 6) hx hb hT in_K hown hK hP 0 rfl rfl 2 (by decide) (hT _ k_128) (fun _ h9 => h9) rfl d_K_close_20 ?_
  refine va_getN (D := (dC, dI)) (ci := 0) (v := .int (nI (hgt + 1))) (C := R_B) (T := T_B) (N := 7) hx hb hT in_B hown hK hP 12 rfl rfl 5 (by decide) (va_Nw.use rfl (hN _ (List.mem_of_getElem? (i := 14) rfl))) (fun _ h9 => h9) rfl d_K_close_23 ?_
  exact ob_iretW (v := nI (hgt + 1)) hx hb hr hlocks hQ hS hP rfl rfl d_K_close_26
abbrev rm_K_undo_f : Room := { frames := 0, cells := 0, slots := 0, locals := 0 }
set_option maxHeartbeats 4000000 in
set_option maxRecDepth 100000 in
theorem c_K_undo_f (l : Launch) (dC : Nat → ClassId) (dI : Nat → Nat → Nat) (q : Nat → Nat) (cI cL : ClassId) (supply : Int64) (pot : Int64) (apl : Int32) (own : Nat → Int32) (amt : Nat → Int64) (tag : Nat → Int64) (mad : Nat → Int32) (spt : Nat → Int32) (made : Nat) (dsp : Nat → Int32) (dow : Nat → Int32) (dam : Nat → Int64) (dtg : Nat → Int64) (sp : Nat) (mk : Nat) (mint : Int64) (dep : Nat) (sups : Nat → Int64) (pots : Nat → Int64) (apps : Nat → Int32) (row : Nat) (hgt : Nat) (und : Nat) (x : Int32) (hud : und ≤ 64) (hno : ¬ (0 ≤ x.toInt ∧ x.toInt ≤ und)) : Met l y_K_undo w_K_undo rm_K_undo_f (va_Pc [.ref (q 0), .int x] (ob_B (dC, dI) vwCl (wK q cI cL supply pot apl own amt tag mad spt made dsp dow dam dtg sp mk mint dep sups pots apps row hgt und) [(cI, .int), (cL, .long)] ob_N)) (QcRead ((-1 : Int32))) 0 0 (fun _ => False) := by
  refine ob_ofW (cc := b_K_undo) (maxL := 2) (ret := (some .int)) (own := R_K) (by decide) rfl rfl (Nat.le_of_ble_eq_true rfl) ?_
  intro p e s m args below meth c Q hQ hx hb hr hml hT hown hlocks hv ls hl
  obtain ⟨hP, hK, hN⟩ := hv
  have hl : lv_has ls 2 [(0, .ref (q 0)), (1, .int x)] := hl
  refine lv_iload_n hx hb d_K_undo_0 rfl (lv_at hl 1 rfl) ?_
  refine lv_if_lt (tgt := 15) hx hb d_K_undo_1 (by decide) (fun c_1 => ?_) (fun c_1 => ?_)
  · have t_1 := (cv_lt rfl (by decide : (0 : Int32).toInt = 0)).mp c_1
    refine lv_iconst (v := (-1 : Int32)) hx hb d_K_undo_15 (by decide) ?_
    exact ob_iret (v := (-1 : Int32)) hx hb hr hlocks hQ rfl d_K_undo_16
  · have t_1 := mt (cv_lt rfl (by decide : (0 : Int32).toInt = 0)).mpr c_1
    refine lv_iload_n hx hb d_K_undo_4 rfl (lv_at hl 1 rfl) ?_
    refine lv_aload_n hx hb d_K_undo_5 rfl (lv_at hl 0 rfl) ?_
    refine va_get (D := (dC, dI)) (ci := 3) (v := .ref (q 12)) (C := R_K) (T := T_K) (N := 6) hx hb hT in_K hown hK hP 0 rfl rfl 2 (by decide) (hT _ k_128) (fun _ h9 => h9) rfl d_K_undo_6 ?_
    refine va_getN (D := (dC, dI)) (ci := 0) (v := .int (nI und)) (C := R_B) (T := T_B) (N := 7) hx hb hT in_B hown hK hP 12 rfl rfl 6 (by decide) (va_Nw.use rfl (hN _ (List.mem_of_getElem? (i := 15) rfl))) (fun _ h9 => h9) rfl d_K_undo_9 ?_
    refine lv_icmp_le (tgt := 17) hx hb d_K_undo_12 (by decide) (fun c_12 => ?_) (fun c_12 => ?_)
    · have t_12 := (cv_le rfl (nI_toInt (by omega))).mp c_12
      exact absurd hno (by omega)
    · have t_12 := mt (cv_le rfl (nI_toInt (by omega))).mpr c_12
      refine lv_iconst (v := (-1 : Int32)) hx hb d_K_undo_15 (by decide) ?_
      exact ob_iret (v := (-1 : Int32)) hx hb hr hlocks hQ rfl d_K_undo_16
abbrev rm_K_undo_t : Room := { frames := 1, cells := 0, slots := 0, locals := 22 }
set_option maxHeartbeats 4000000 in
set_option maxRecDepth 100000 in
theorem c_K_undo_t (l : Launch) (dC : Nat → ClassId) (dI : Nat → Nat → Nat) (q : Nat → Nat) (cI cL : ClassId) (supply : Int64) (pot : Int64) (apl : Int32) (own : Nat → Int32) (amt : Nat → Int64) (tag : Nat → Int64) (mad : Nat → Int32) (spt : Nat → Int32) (made : Nat) (dsp : Nat → Int32) (dow : Nat → Int32) (dam : Nat → Int64) (dtg : Nat → Int64) (sp : Nat) (mk : Nat) (mint : Int64) (dep : Nat) (sups : Nat → Int64) (pots : Nat → Int64) (apps : Nat → Int32) (row : Nat) (hgt : Nat) (und : Nat) (x : Int32) (hm : made ≤ 2048) (hrow : row ≤ dep) (hdep : dep ≤ 64) (hhg : hgt ≤ 1000) (hud : und ≤ dep) (huh : und ≤ hgt) (h0 : 0 ≤ x.toInt) (h1 : x.toInt ≤ und) : Met l y_K_undo w_K_undo rm_K_undo_t (va_Pc [.ref (q 0), .int x] (ob_BW (dC, dI) vwCl (wK q cI cL supply pot apl own amt tag mad spt made dsp dow dam dtg sp mk mint dep sups pots apps row hgt und) [(cI, .int), (cL, .long)] ob_N)) (va_Qi (fun (r : Int32) (_ : Unit) => r = nI (hgt - x.toNatClampNeg)) (fun _ t => va_P (dC, dI) vwCl (wK q cI cL (sups (f_rowb row dep x.toNatClampNeg)) (pots (f_rowb row dep x.toNatClampNeg)) (apps (f_rowb row dep x.toNatClampNeg)) own amt tag mad (f_unsp spt (nI (hgt - x.toNatClampNeg)) (f_back mad (nI (hgt - x.toNatClampNeg)) made)) (f_back mad (nI (hgt - x.toNatClampNeg)) made) dsp dow dam dtg 0 0 (0 : Int64) dep sups pots apps (f_rowb row dep x.toNatClampNeg) (hgt - x.toNatClampNeg) (und - x.toNatClampNeg)) t.heap) (ob_A (wK q cI cL supply pot apl own amt tag mad spt made dsp dow dam dtg sp mk mint dep sups pots apps row hgt und))) 0 0 (ob_A (wK q cI cL supply pot apl own amt tag mad spt made dsp dow dam dtg sp mk mint dep sups pots apps row hgt und)) := by
  refine ob_ofW (cc := b_K_undo) (maxL := 2) (ret := (some .int)) (own := R_K) (by decide) rfl rfl (Nat.le_of_ble_eq_true rfl) ?_
  intro p e s m args below meth c Q hQ hx hb hr hml hT hown hlocks hv ls hl
  obtain ⟨⟨hP, hK, hN⟩, hD0⟩ := hv
  have hD := ob_D_self hD0
  generalize hAe : ob_A (wK q cI cL supply pot apl own amt tag mad spt made dsp dow dam dtg sp mk mint dep sups pots apps row hgt und) = A at hQ hD
  have hS : va_S A s.heap s.heap [] := va_S.rf
  have hl : lv_has ls 2 [(0, .ref (q 0)), (1, .int x)] := hl
  refine lv_iload_n hx hb d_K_undo_0 rfl (lv_at hl 1 rfl) ?_
  refine lv_if_lt (tgt := 15) hx hb d_K_undo_1 (by decide) (fun c_1 => ?_) (fun c_1 => ?_)
  · have t_1 := (cv_lt rfl (by decide : (0 : Int32).toInt = 0)).mp c_1
    exact absurd t_1 (by omega)
  · have t_1 := mt (cv_lt rfl (by decide : (0 : Int32).toInt = 0)).mpr c_1
    refine lv_iload_n hx hb d_K_undo_4 rfl (lv_at hl 1 rfl) ?_
    refine lv_aload_n hx hb d_K_undo_5 rfl (lv_at hl 0 rfl) ?_
    refine va_get (D := (dC, dI)) (ci := 3) (v := .ref (q 12)) (C := R_K) (T := T_K) (N := 6) hx hb hT in_K hown hK hP 0 rfl rfl 2 (by decide) (hT _ k_128) (fun _ h9 => h9) rfl d_K_undo_6 ?_
    refine va_getN (D := (dC, dI)) (ci := 0) (v := .int (nI und)) (C := R_B) (T := T_B) (N := 7) hx hb hT in_B hown hK hP 12 rfl rfl 6 (by decide) (va_Nw.use rfl (hN _ (List.mem_of_getElem? (i := 15) rfl))) (fun _ h9 => h9) rfl d_K_undo_9 ?_
    refine lv_icmp_le (tgt := 17) hx hb d_K_undo_12 (by decide) (fun c_12 => ?_) (fun c_12 => ?_)
    · have t_12 := (cv_le rfl (nI_toInt (by omega))).mp c_12
      refine lv_aload_n hx hb d_K_undo_17 rfl (lv_at hl 0 rfl) ?_
      refine va_get (D := (dC, dI)) (ci := 3) (v := .ref (q 12)) (C := R_K) (T := T_K) (N := 6) hx hb hT in_K hown hK hP 0 rfl rfl 2 (by decide) (hT _ k_128) (fun _ h9 => h9) rfl d_K_undo_18 ?_
      refine lv_iload_n hx hb d_K_undo_21 rfl (lv_at hl 1 rfl) ?_
      have hxn := cl_toInt h0
      refine ob_eqi (y := nI x.toNatClampNeg) (nI_self h0) ?_
      have hfr := f_rowb_le (row := row) (dep := dep) (n := x.toNatClampNeg) hrow (by omega)
      refine ob_callWv (va_runV (As := [.int (nI x.toNatClampNeg)]) (rest := []) ⟨hx, hb, hml, hown, hT⟩ (c_B_goBack l dC dI q cI cL dep sups pots apps row hgt und x.toNatClampNeg hrow hdep hhg hud huh (by omega)) (cwV 1 hT (ob_goodV k_246 k_247 k_248 k_12 k_249) rfl rfl rfl (by decide +kernel) ⟨Nat.le_of_ble_eq_true rfl, Nat.le_of_ble_eq_true rfl⟩) (ob_preVW (wc := wB q cI cL dep sups pots apps row hgt und) (q0 := 0) rfl hK hP hD (fun _ h => absurd h List.not_mem_nil) rfl [12, 13, 14, 15] rfl rfl rfl rfl) rfl rfl hl.1 rfl (lv_room (Nat.le_of_ble_eq_true rfl)) d_K_undo_22 ⟨Nat.zero_le _, Nat.zero_le _⟩) hS hP hD [12, 13, 14, 15] rfl rfl (fun H locs hP hD hS => ?_)
      have hP : va_P (dC, dI) vwCl (wK q cI cL supply pot apl own amt tag mad spt made dsp dow dam dtg sp mk mint dep sups pots apps (f_rowb row dep x.toNatClampNeg) (hgt - x.toNatClampNeg) (und - x.toNatClampNeg)) H := hP
      have hD : va_D A (wK q cI cL supply pot apl own amt tag mad spt made dsp dow dam dtg sp mk mint dep sups pots apps (f_rowb row dep x.toNatClampNeg) (hgt - x.toNatClampNeg) (und - x.toNatClampNeg)) := hD
      refine lv_aload_n hx hb d_K_undo_25 rfl (lv_at hl 0 rfl) ?_
      refine lv_aload_n hx hb d_K_undo_26 rfl (lv_at hl 0 rfl) ?_
      refine va_get (D := (dC, dI)) (ci := 3) (v := .ref (q 12)) (C := R_K) (T := T_K) (N := 6) hx hb hT in_K hown hK hP 0 rfl rfl 2 (by decide) (hT _ k_128) (fun _ h9 => h9) rfl d_K_undo_27 ?_
      refine ob_callL (W.runV (As := []) (rest := [.ref (q 0)]) ⟨hx, hb, hml, hown, hT⟩ (c_B_supplyAtOpening l dC dI q cI cL dep sups pots apps (f_rowb row dep x.toNatClampNeg) (hgt - x.toNatClampNeg) (und - x.toNatClampNeg) hfr hdep) (cwV 0 hT (ob_goodV k_250 k_251 k_252 k_12 k_253) rfl rfl rfl (by decide +kernel) ⟨Nat.le_of_ble_eq_true rfl, Nat.le_of_ble_eq_true rfl⟩) (ob_preV (wc := wB q cI cL dep sups pots apps (f_rowb row dep x.toNatClampNeg) (hgt - x.toNatClampNeg) (und - x.toNatClampNeg)) (q0 := 0) rfl hK hP (fun _ h => absurd h List.not_mem_nil) rfl [12, 13, 14, 15] rfl rfl) rfl rfl hl.1 rfl (lv_room (Nat.le_of_ble_eq_true rfl)) d_K_undo_30 ⟨Nat.zero_le _, Nat.zero_le _⟩) ?_
      refine va_put (D := (dC, dI)) (ci := 3) (v := .long (sups (f_rowb row dep x.toNatClampNeg))) (ty := .long) (C := R_K) (T := T_K) (N := 6) hx hb hT in_K t_K t_K_ok n_K hown hK hP hD hS 0 rfl rfl 3 (by decide) (hT _ k_129) (fun _ h9 => h9) rfl (by decide +kernel) rfl rfl (Nat.le_of_ble_eq_true rfl) d_K_undo_33 (fun H locs hP hD hS => ?_)
      have hP : va_P (dC, dI) vwCl (wK q cI cL (sups (f_rowb row dep x.toNatClampNeg)) pot apl own amt tag mad spt made dsp dow dam dtg sp mk mint dep sups pots apps (f_rowb row dep x.toNatClampNeg) (hgt - x.toNatClampNeg) (und - x.toNatClampNeg)) H := hP
      have hD : va_D A (wK q cI cL (sups (f_rowb row dep x.toNatClampNeg)) pot apl own amt tag mad spt made dsp dow dam dtg sp mk mint dep sups pots apps (f_rowb row dep x.toNatClampNeg) (hgt - x.toNatClampNeg) (und - x.toNatClampNeg)) := hD
      refine lv_aload_n hx hb d_K_undo_36 rfl (lv_at hl 0 rfl) ?_
      refine lv_aload_n hx hb d_K_undo_37 rfl (lv_at hl 0 rfl) ?_
      refine va_get (D := (dC, dI)) (ci := 3) (v := .ref (q 12)) (C := R_K) (T := T_K) (N := 6) hx hb hT in_K hown hK hP 0 rfl rfl 2 (by decide) (hT _ k_128) (fun _ h9 => h9) rfl d_K_undo_38 ?_
      refine ob_callL (W.runV (As := []) (rest := [.ref (q 0)]) ⟨hx, hb, hml, hown, hT⟩ (c_B_potAtOpening l dC dI q cI cL dep sups pots apps (f_rowb row dep x.toNatClampNeg) (hgt - x.toNatClampNeg) (und - x.toNatClampNeg) hfr hdep) (cwV 0 hT (ob_goodV k_254 k_255 k_256 k_12 k_257) rfl rfl rfl (by decide +kernel) ⟨Nat.le_of_ble_eq_true rfl, Nat.le_of_ble_eq_true rfl⟩) (ob_preV (wc := wB q cI cL dep sups pots apps (f_rowb row dep x.toNatClampNeg) (hgt - x.toNatClampNeg) (und - x.toNatClampNeg)) (q0 := 0) rfl hK hP (fun _ h => absurd h List.not_mem_nil) rfl [12, 13, 14, 15] rfl rfl) rfl rfl hl.1 rfl (lv_room (Nat.le_of_ble_eq_true rfl)) d_K_undo_41 ⟨Nat.zero_le _, Nat.zero_le _⟩) ?_
      refine va_put (D := (dC, dI)) (ci := 3) (v := .long (pots (f_rowb row dep x.toNatClampNeg))) (ty := .long) (C := R_K) (T := T_K) (N := 6) hx hb hT in_K t_K t_K_ok n_K hown hK hP hD hS 0 rfl rfl 4 (by decide) (hT _ k_130) (fun _ h9 => h9) rfl (by decide +kernel) rfl rfl (Nat.le_of_ble_eq_true rfl) d_K_undo_44 (fun H locs hP hD hS => ?_)
      have hP : va_P (dC, dI) vwCl (wK q cI cL (sups (f_rowb row dep x.toNatClampNeg)) (pots (f_rowb row dep x.toNatClampNeg)) apl own amt tag mad spt made dsp dow dam dtg sp mk mint dep sups pots apps (f_rowb row dep x.toNatClampNeg) (hgt - x.toNatClampNeg) (und - x.toNatClampNeg)) H := hP
      have hD : va_D A (wK q cI cL (sups (f_rowb row dep x.toNatClampNeg)) (pots (f_rowb row dep x.toNatClampNeg)) apl own amt tag mad spt made dsp dow dam dtg sp mk mint dep sups pots apps (f_rowb row dep x.toNatClampNeg) (hgt - x.toNatClampNeg) (und - x.toNatClampNeg)) := hD
      refine lv_aload_n hx hb d_K_undo_47 rfl (lv_at hl 0 rfl) ?_
      refine lv_aload_n hx hb d_K_undo_48 rfl (lv_at hl 0 rfl) ?_
      refine va_get (D := (dC, dI)) (ci := 3) (v := .ref (q 12)) (C := R_K) (T := T_K) (N := 6) hx hb hT in_K hown hK hP 0 rfl rfl 2 (by decide) (hT _ k_128) (fun _ h9 => h9) rfl d_K_undo_49 ?_
      refine ob_callR (W.runV (As := []) (rest := [.ref (q 0)]) ⟨hx, hb, hml, hown, hT⟩ (c_B_appliedAtOpening l dC dI q cI cL dep sups pots apps (f_rowb row dep x.toNatClampNeg) (hgt - x.toNatClampNeg) (und - x.toNatClampNeg) hfr hdep) (cwV 0 hT (ob_goodV k_258 k_259 k_260 k_12 k_261) rfl rfl rfl (by decide +kernel) ⟨Nat.le_of_ble_eq_true rfl, Nat.le_of_ble_eq_true rfl⟩) (ob_preV (wc := wB q cI cL dep sups pots apps (f_rowb row dep x.toNatClampNeg) (hgt - x.toNatClampNeg) (und - x.toNatClampNeg)) (q0 := 0) rfl hK hP (fun _ h => absurd h List.not_mem_nil) rfl [12, 13, 14, 15] rfl rfl) rfl rfl hl.1 rfl (lv_room (Nat.le_of_ble_eq_true rfl)) d_K_undo_52 ⟨Nat.zero_le _, Nat.zero_le _⟩) ?_
      refine va_put (D := (dC, dI)) (ci := 3) (v := .int (apps (f_rowb row dep x.toNatClampNeg))) (ty := .int) (C := R_K) (T := T_K) (N := 6) hx hb hT in_K t_K t_K_ok n_K hown hK hP hD hS 0 rfl rfl 5 (by decide) (hT _ k_131) (fun _ h9 => h9) rfl (by decide +kernel) rfl rfl (Nat.le_of_ble_eq_true rfl) d_K_undo_55 (fun H locs hP hD hS => ?_)
      have hP : va_P (dC, dI) vwCl (wK q cI cL (sups (f_rowb row dep x.toNatClampNeg)) (pots (f_rowb row dep x.toNatClampNeg)) (apps (f_rowb row dep x.toNatClampNeg)) own amt tag mad spt made dsp dow dam dtg sp mk mint dep sups pots apps (f_rowb row dep x.toNatClampNeg) (hgt - x.toNatClampNeg) (und - x.toNatClampNeg)) H := hP
      have hD : va_D A (wK q cI cL (sups (f_rowb row dep x.toNatClampNeg)) (pots (f_rowb row dep x.toNatClampNeg)) (apps (f_rowb row dep x.toNatClampNeg)) own amt tag mad spt made dsp dow dam dtg sp mk mint dep sups pots apps (f_rowb row dep x.toNatClampNeg) (hgt - x.toNatClampNeg) (und - x.toNatClampNeg)) := hD
      refine lv_aload_n hx hb d_K_undo_58 rfl (lv_at hl 0 rfl) ?_
      refine va_get (D := (dC, dI)) (ci := 3) (v := .ref (q 1)) (C := R_K) (T := T_K) (N := 6) hx hb hT in_K hown hK hP 0 rfl rfl 0 (by decide) (hT _ k_126) (fun _ h9 => h9) rfl d_K_undo_59 ?_
      refine lv_aload_n hx hb d_K_undo_62 rfl (lv_at hl 0 rfl) ?_
      refine va_get (D := (dC, dI)) (ci := 3) (v := .ref (q 12)) (C := R_K) (T := T_K) (N := 6) hx hb hT in_K hown hK hP 0 rfl rfl 2 (by decide) (hT _ k_128) (fun _ h9 => h9) rfl d_K_undo_63 ?_
      refine va_getN (D := (dC, dI)) (ci := 0) (v := .int (nI (hgt - x.toNatClampNeg))) (C := R_B) (T := T_B) (N := 7) hx hb hT in_B hown hK hP 12 rfl rfl 5 (by decide) (va_Nw.use rfl (hN _ (List.mem_of_getElem? (i := 14) rfl))) (fun _ h9 => h9) rfl d_K_undo_66 ?_
      refine ob_callWv (va_runV (As := [.int (nI (hgt - x.toNatClampNeg))]) (rest := []) ⟨hx, hb, hml, hown, hT⟩ (c_O_takeBackFrom l dC dI q cI cL own amt tag mad spt made (nI (hgt - x.toNatClampNeg)) hm) (cwV 1 hT (ob_goodV k_262 k_263 k_264 k_10 k_265) rfl rfl rfl (by decide +kernel) ⟨Nat.le_of_ble_eq_true rfl, Nat.le_of_ble_eq_true rfl⟩) (ob_preVW (wc := wO q cI cL own amt tag mad spt made) (q0 := 0) rfl hK hP hD (fun _ h => absurd h List.not_mem_nil) rfl [1, 2, 3, 4, 5, 6] rfl rfl rfl rfl) rfl rfl hl.1 rfl (lv_room (Nat.le_of_ble_eq_true rfl)) d_K_undo_69 ⟨Nat.zero_le _, Nat.zero_le _⟩) hS hP hD [1, 2, 3, 4, 5, 6] rfl rfl (fun H locs hP hD hS => ?_)
      have hP : va_P (dC, dI) vwCl (wK q cI cL (sups (f_rowb row dep x.toNatClampNeg)) (pots (f_rowb row dep x.toNatClampNeg)) (apps (f_rowb row dep x.toNatClampNeg)) own amt tag mad (f_unsp spt (nI (hgt - x.toNatClampNeg)) (f_back mad (nI (hgt - x.toNatClampNeg)) made)) (f_back mad (nI (hgt - x.toNatClampNeg)) made) dsp dow dam dtg sp mk mint dep sups pots apps (f_rowb row dep x.toNatClampNeg) (hgt - x.toNatClampNeg) (und - x.toNatClampNeg)) H := hP
      have hD : va_D A (wK q cI cL (sups (f_rowb row dep x.toNatClampNeg)) (pots (f_rowb row dep x.toNatClampNeg)) (apps (f_rowb row dep x.toNatClampNeg)) own amt tag mad (f_unsp spt (nI (hgt - x.toNatClampNeg)) (f_back mad (nI (hgt - x.toNatClampNeg)) made)) (f_back mad (nI (hgt - x.toNatClampNeg)) made) dsp dow dam dtg sp mk mint dep sups pots apps (f_rowb row dep x.toNatClampNeg) (hgt - x.toNatClampNeg) (und - x.toNatClampNeg)) := hD
      refine lv_aload_n hx hb d_K_undo_72 rfl (lv_at hl 0 rfl) ?_
      refine va_get (D := (dC, dI)) (ci := 3) (v := .ref (q 7)) (C := R_K) (T := T_K) (N := 6) hx hb hT in_K hown hK hP 0 rfl rfl 1 (by decide) (hT _ k_127) (fun _ h9 => h9) rfl d_K_undo_73 ?_
      refine ob_callWv (va_runV (As := []) (rest := []) ⟨hx, hb, hml, hown, hT⟩ (c_D_clear l dC dI q cI cL dsp dow dam dtg sp mk mint ) (cwV 0 hT (ob_goodV k_195 k_196 k_197 k_11 k_198) rfl rfl rfl (by decide +kernel) ⟨Nat.le_of_ble_eq_true rfl, Nat.le_of_ble_eq_true rfl⟩) (ob_preVW (wc := wD q cI cL dsp dow dam dtg sp mk mint) (q0 := 0) rfl hK hP hD (fun _ h => absurd h List.not_mem_nil) rfl [7, 8, 9, 10, 11] rfl rfl rfl rfl) rfl rfl hl.1 rfl (lv_room (Nat.le_of_ble_eq_true rfl)) d_K_undo_76 ⟨Nat.zero_le _, Nat.zero_le _⟩) hS hP hD [7, 8, 9, 10, 11] rfl rfl (fun H locs hP hD hS => ?_)
      have hP : va_P (dC, dI) vwCl (wK q cI cL (sups (f_rowb row dep x.toNatClampNeg)) (pots (f_rowb row dep x.toNatClampNeg)) (apps (f_rowb row dep x.toNatClampNeg)) own amt tag mad (f_unsp spt (nI (hgt - x.toNatClampNeg)) (f_back mad (nI (hgt - x.toNatClampNeg)) made)) (f_back mad (nI (hgt - x.toNatClampNeg)) made) dsp dow dam dtg 0 0 (0 : Int64) dep sups pots apps (f_rowb row dep x.toNatClampNeg) (hgt - x.toNatClampNeg) (und - x.toNatClampNeg)) H := hP
      have hD : va_D A (wK q cI cL (sups (f_rowb row dep x.toNatClampNeg)) (pots (f_rowb row dep x.toNatClampNeg)) (apps (f_rowb row dep x.toNatClampNeg)) own amt tag mad (f_unsp spt (nI (hgt - x.toNatClampNeg)) (f_back mad (nI (hgt - x.toNatClampNeg)) made)) (f_back mad (nI (hgt - x.toNatClampNeg)) made) dsp dow dam dtg 0 0 (0 : Int64) dep sups pots apps (f_rowb row dep x.toNatClampNeg) (hgt - x.toNatClampNeg) (und - x.toNatClampNeg)) := hD
      refine lv_aload_n hx hb d_K_undo_79 rfl (lv_at hl 0 rfl) ?_
      refine va_get (D := (dC, dI)) (ci := 3) (v := .ref (q 12)) (C := R_K) (T := T_K) (N := 6) hx hb hT in_K hown hK hP 0 rfl rfl 2 (by decide) (hT _ k_128) (fun _ h9 => h9) rfl d_K_undo_80 ?_
      refine va_getN (D := (dC, dI)) (ci := 0) (v := .int (nI (hgt - x.toNatClampNeg))) (C := R_B) (T := T_B) (N := 7) hx hb hT in_B hown hK hP 12 rfl rfl 5 (by decide) (va_Nw.use rfl (hN _ (List.mem_of_getElem? (i := 14) rfl))) (fun _ h9 => h9) rfl d_K_undo_83 ?_
      exact ob_iretW (v := nI (hgt - x.toNatClampNeg)) hx hb hr hlocks hQ hS hP rfl rfl d_K_undo_86
    · have t_12 := mt (cv_le rfl (nI_toInt (by omega))).mpr c_12
      exact absurd t_12 (by omega)
abbrev rm_K_output : Room := { frames := 2, cells := 0, slots := 0, locals := 42 }
set_option maxHeartbeats 4000000 in
set_option maxRecDepth 100000 in
theorem c_K_output (l : Launch) (dC : Nat → ClassId) (dI : Nat → Nat → Nat) (q : Nat → Nat) (cI cL : ClassId) (supply : Int64) (pot : Int64) (apl : Int32) (own : Nat → Int32) (amt : Nat → Int64) (tag : Nat → Int64) (mad : Nat → Int32) (spt : Nat → Int32) (made : Nat) (dsp : Nat → Int32) (dow : Nat → Int32) (dam : Nat → Int64) (dtg : Nat → Int64) (sp : Nat) (mk : Nat) (mint : Int64) (dep : Nat) (sups : Nat → Int64) (pots : Nat → Int64) (apps : Nat → Int32) (row : Nat) (hgt : Nat) (und : Nat) (x : Int32) (w : Int32) (hm : made ≤ 2048) : Met l y_K_output w_K_output rm_K_output (va_Pc [.ref (q 0), .int x, .int w] (ob_B (dC, dI) vwCl (wK q cI cL supply pot apl own amt tag mad spt made dsp dow dam dtg sp mk mint dep sups pots apps row hgt und) [(cI, .int), (cL, .long)] ob_N)) (QcRead (f_out own mad spt made x w)) 0 0 (fun _ => False) := by
  refine ob_ofW (cc := b_K_output) (maxL := 3) (ret := (some .int)) (own := R_K) (by decide) rfl rfl (Nat.le_of_ble_eq_true rfl) ?_
  intro p e s m args below meth c Q hQ hx hb hr hml hT hown hlocks hv ls hl
  obtain ⟨hP, hK, hN⟩ := hv
  have hl : lv_has ls 3 [(0, .ref (q 0)), (1, .int x), (2, .int w)] := hl
  refine lv_aload_n hx hb d_K_output_0 rfl (lv_at hl 0 rfl) ?_
  refine va_get (D := (dC, dI)) (ci := 3) (v := .ref (q 1)) (C := R_K) (T := T_K) (N := 6) hx hb hT in_K hown hK hP 0 rfl rfl 0 (by decide) (hT _ k_126) (fun _ h9 => h9) rfl d_K_output_1 ?_
  refine lv_iload_n hx hb d_K_output_4 rfl (lv_at hl 1 rfl) ?_
  refine ob_callR (W.runV (As := [.int x]) (rest := []) ⟨hx, hb, hml, hown, hT⟩ (c_O_has l dC dI q cI cL own amt tag mad spt made x hm) (cwV 1 hT (ob_goodV k_270 k_154 k_155 k_10 k_156) rfl rfl rfl (by decide +kernel) ⟨Nat.le_of_ble_eq_true rfl, Nat.le_of_ble_eq_true rfl⟩) (ob_preV (wc := wO q cI cL own amt tag mad spt made) (q0 := 0) rfl hK hP (fun _ h => absurd h List.not_mem_nil) rfl [1, 2, 3, 4, 5, 6] rfl rfl) rfl rfl hl.1 rfl (lv_room (Nat.le_of_ble_eq_true rfl)) d_K_output_5 ⟨Nat.zero_le _, Nat.zero_le _⟩) ?_
  refine ob_split (P := p_has made x) (fun b_5 => ?_) (fun b_5 => ?_)
  · refine lv_if_ne (tgt := 13) hx hb d_K_output_8 (by decide) (fun _ => ?_) (fun c => absurd c (by decide))
    refine lv_iload_n hx hb d_K_output_13 rfl (lv_at hl 2 rfl) ?_
    by_cases s_14_0 : w.toInt = 0
    · refine lv_tableIn (off := 30) (tgt := 44) hx hb d_K_output_14 (by omega) (by omega) (by rw [s_14_0]; rfl) (by decide) ?_
      refine lv_aload_n hx hb d_K_output_44 rfl (lv_at hl 0 rfl) ?_
      refine va_get (D := (dC, dI)) (ci := 3) (v := .ref (q 1)) (C := R_K) (T := T_K) (N := 6) hx hb hT in_K hown hK hP 0 rfl rfl 0 (by decide) (hT _ k_126) (fun _ h9 => h9) rfl d_K_output_45 ?_
      refine va_getN (D := (dC, dI)) (ci := 2) (v := .ref (q 2)) (C := R_O) (T := T_O) (N := 6) hx hb hT in_O hown hK hP 1 rfl rfl 0 (by decide) (va_Nw.use rfl (hN _ (List.mem_of_getElem? (i := 1) rfl))) (fun _ h9 => h9) rfl d_K_output_48 ?_
      refine lv_iload_n hx hb d_K_output_51 rfl (lv_at hl 1 rfl) ?_
      refine ob_iald hx hb hK hP 2 0 rfl rfl (j := x.toNatClampNeg) rfl (cv_in rfl (by omega)) d_K_output_52 ?_
      exact ob_iret (v := own x.toNatClampNeg) hx hb hr hlocks hQ (by rw [f_out, if_pos b_5, if_pos s_14_0]) d_K_output_53
    by_cases s_14_1 : w.toInt = 1
    · refine lv_tableIn (off := 40) (tgt := 54) hx hb d_K_output_14 (by omega) (by omega) (by rw [s_14_1]; rfl) (by decide) ?_
      refine lv_aload_n hx hb d_K_output_54 rfl (lv_at hl 0 rfl) ?_
      refine va_get (D := (dC, dI)) (ci := 3) (v := .ref (q 1)) (C := R_K) (T := T_K) (N := 6) hx hb hT in_K hown hK hP 0 rfl rfl 0 (by decide) (hT _ k_126) (fun _ h9 => h9) rfl d_K_output_55 ?_
      refine lv_iload_n hx hb d_K_output_58 rfl (lv_at hl 1 rfl) ?_
      refine ob_callR (W.runV (As := [.int x]) (rest := []) ⟨hx, hb, hml, hown, hT⟩ (c_O_isLive l dC dI q cI cL own amt tag mad spt made x hm) (cwV 1 hT (ob_goodV k_149 k_150 k_151 k_10 k_152) rfl rfl rfl (by decide +kernel) ⟨Nat.le_of_ble_eq_true rfl, Nat.le_of_ble_eq_true rfl⟩) (ob_preV (wc := wO q cI cL own amt tag mad spt made) (q0 := 0) rfl hK hP (fun _ h => absurd h List.not_mem_nil) rfl [1, 2, 3, 4, 5, 6] rfl rfl) rfl rfl hl.1 rfl (lv_room (Nat.le_of_ble_eq_true rfl)) d_K_output_59 ⟨Nat.zero_le _, Nat.zero_le _⟩) ?_
      refine ob_split (P := p_live spt made x) (fun b_59 => ?_) (fun b_59 => ?_)
      · refine lv_if_eq (tgt := 69) hx hb d_K_output_62 (by decide) (fun c => absurd c (by decide)) (fun _ => ?_)
        refine lv_iconst (v := nI 1) hx hb d_K_output_65 (by decide) ?_
        refine lv_goto (tgt := 70) hx hb d_K_output_66 (by decide) ?_
        exact ob_iret (v := nI 1) hx hb hr hlocks hQ (by rw [f_out, if_pos b_5, if_neg s_14_0, if_pos s_14_1]; first | rw [if_pos b_59.2] | rw [if_neg (fun h => b_59 ⟨b_5, h⟩)]) d_K_output_70
      · refine lv_if_eq (tgt := 69) hx hb d_K_output_62 (by decide) (fun _ => ?_) (fun c => absurd c (by decide))
        refine lv_iconst (v := nI 0) hx hb d_K_output_69 (by decide) ?_
        exact ob_iret (v := nI 0) hx hb hr hlocks hQ (by rw [f_out, if_pos b_5, if_neg s_14_0, if_pos s_14_1]; first | rw [if_pos b_59.2] | rw [if_neg (fun h => b_59 ⟨b_5, h⟩)]) d_K_output_70
    by_cases s_14_2 : w.toInt = 2
    · refine lv_tableIn (off := 57) (tgt := 71) hx hb d_K_output_14 (by omega) (by omega) (by rw [s_14_2]; rfl) (by decide) ?_
      refine lv_aload_n hx hb d_K_output_71 rfl (lv_at hl 0 rfl) ?_
      refine va_get (D := (dC, dI)) (ci := 3) (v := .ref (q 1)) (C := R_K) (T := T_K) (N := 6) hx hb hT in_K hown hK hP 0 rfl rfl 0 (by decide) (hT _ k_126) (fun _ h9 => h9) rfl d_K_output_72 ?_
      refine va_getN (D := (dC, dI)) (ci := 2) (v := .ref (q 5)) (C := R_O) (T := T_O) (N := 6) hx hb hT in_O hown hK hP 1 rfl rfl 3 (by decide) (va_Nw.use rfl (hN _ (List.mem_of_getElem? (i := 3) rfl))) (fun _ h9 => h9) rfl d_K_output_75 ?_
      refine lv_iload_n hx hb d_K_output_78 rfl (lv_at hl 1 rfl) ?_
      refine ob_iald hx hb hK hP 5 0 rfl rfl (j := x.toNatClampNeg) rfl (cv_in rfl (by omega)) d_K_output_79 ?_
      exact ob_iret (v := mad x.toNatClampNeg) hx hb hr hlocks hQ (by rw [f_out, if_pos b_5, if_neg s_14_0, if_neg s_14_1, if_pos s_14_2]) d_K_output_80
    by_cases s_14_3 : w.toInt = 3
    · refine lv_tableIn (off := 67) (tgt := 81) hx hb d_K_output_14 (by omega) (by omega) (by rw [s_14_3]; rfl) (by decide) ?_
      refine lv_aload_n hx hb d_K_output_81 rfl (lv_at hl 0 rfl) ?_
      refine va_get (D := (dC, dI)) (ci := 3) (v := .ref (q 1)) (C := R_K) (T := T_K) (N := 6) hx hb hT in_K hown hK hP 0 rfl rfl 0 (by decide) (hT _ k_126) (fun _ h9 => h9) rfl d_K_output_82 ?_
      refine va_getN (D := (dC, dI)) (ci := 2) (v := .ref (q 6)) (C := R_O) (T := T_O) (N := 6) hx hb hT in_O hown hK hP 1 rfl rfl 4 (by decide) (va_Nw.use rfl (hN _ (List.mem_of_getElem? (i := 4) rfl))) (fun _ h9 => h9) rfl d_K_output_85 ?_
      refine lv_iload_n hx hb d_K_output_88 rfl (lv_at hl 1 rfl) ?_
      refine ob_iald hx hb hK hP 6 0 rfl rfl (j := x.toNatClampNeg) rfl (cv_in rfl (by omega)) d_K_output_89 ?_
      exact ob_iret (v := spt x.toNatClampNeg) hx hb hr hlocks hQ (by rw [f_out, if_pos b_5, if_neg s_14_0, if_neg s_14_1, if_neg s_14_2, if_pos s_14_3]) d_K_output_90
    refine lv_tableOut (tgt := 91) hx hb d_K_output_14 (by omega) (by decide) ?_
    refine lv_iconst (v := (-1 : Int32)) hx hb d_K_output_91 (by decide) ?_
    exact ob_iret (v := (-1 : Int32)) hx hb hr hlocks hQ (by rw [f_out, if_pos b_5, if_neg s_14_0, if_neg s_14_1, if_neg s_14_2, if_neg s_14_3]) d_K_output_92
  · refine lv_if_ne (tgt := 13) hx hb d_K_output_8 (by decide) (fun c => absurd c (by decide)) (fun _ => ?_)
    refine lv_iconst (v := (-1 : Int32)) hx hb d_K_output_11 (by decide) ?_
    exact ob_iret (v := (-1 : Int32)) hx hb hr hlocks hQ (by rw [f_out, if_neg b_5]) d_K_output_12
abbrev rm_K_amount : Room := { frames := 2, cells := 0, slots := 0, locals := 42 }
set_option maxHeartbeats 4000000 in
set_option maxRecDepth 100000 in
theorem c_K_amount (l : Launch) (dC : Nat → ClassId) (dI : Nat → Nat → Nat) (q : Nat → Nat) (cI cL : ClassId) (supply : Int64) (pot : Int64) (apl : Int32) (own : Nat → Int32) (amt : Nat → Int64) (tag : Nat → Int64) (mad : Nat → Int32) (spt : Nat → Int32) (made : Nat) (dsp : Nat → Int32) (dow : Nat → Int32) (dam : Nat → Int64) (dtg : Nat → Int64) (sp : Nat) (mk : Nat) (mint : Int64) (dep : Nat) (sups : Nat → Int64) (pots : Nat → Int64) (apps : Nat → Int32) (row : Nat) (hgt : Nat) (und : Nat) (x : Int32) (hm : made ≤ 2048) : Met l y_K_amount w_K_amount rm_K_amount (va_Pc [.ref (q 0), .int x] (ob_B (dC, dI) vwCl (wK q cI cL supply pot apl own amt tag mad spt made dsp dow dam dtg sp mk mint dep sups pots apps row hgt und) [(cI, .int), (cL, .long)] ob_N)) (QcReadL (f_amt amt made x)) 0 0 (fun _ => False) := by
  refine ob_ofW (cc := b_K_amount) (maxL := 2) (ret := (some .long)) (own := R_K) (by decide) rfl rfl (Nat.le_of_ble_eq_true rfl) ?_
  intro p e s m args below meth c Q hQ hx hb hr hml hT hown hlocks hv ls hl
  obtain ⟨hP, hK, hN⟩ := hv
  have hl : lv_has ls 2 [(0, .ref (q 0)), (1, .int x)] := hl
  refine lv_aload_n hx hb d_K_amount_0 rfl (lv_at hl 0 rfl) ?_
  refine va_get (D := (dC, dI)) (ci := 3) (v := .ref (q 1)) (C := R_K) (T := T_K) (N := 6) hx hb hT in_K hown hK hP 0 rfl rfl 0 (by decide) (hT _ k_126) (fun _ h9 => h9) rfl d_K_amount_1 ?_
  refine lv_iload_n hx hb d_K_amount_4 rfl (lv_at hl 1 rfl) ?_
  refine ob_callL (W.runV (As := [.int x]) (rest := []) ⟨hx, hb, hml, hown, hT⟩ (c_O_amountOf l dC dI q cI cL own amt tag mad spt made x hm) (cwV 1 hT (ob_goodV k_210 k_211 k_212 k_10 k_213) rfl rfl rfl (by decide +kernel) ⟨Nat.le_of_ble_eq_true rfl, Nat.le_of_ble_eq_true rfl⟩) (ob_preV (wc := wO q cI cL own amt tag mad spt made) (q0 := 0) rfl hK hP (fun _ h => absurd h List.not_mem_nil) rfl [1, 2, 3, 4, 5, 6] rfl rfl) rfl rfl hl.1 rfl (lv_room (Nat.le_of_ble_eq_true rfl)) d_K_amount_5 ⟨Nat.zero_le _, Nat.zero_le _⟩) ?_
  exact ob_lret (v := f_amt amt made x) hx hb hr hlocks hQ rfl d_K_amount_8
abbrev rm_K_tag : Room := { frames := 1, cells := 0, slots := 0, locals := 21 }
set_option maxHeartbeats 4000000 in
set_option maxRecDepth 100000 in
theorem c_K_tag (l : Launch) (dC : Nat → ClassId) (dI : Nat → Nat → Nat) (q : Nat → Nat) (cI cL : ClassId) (supply : Int64) (pot : Int64) (apl : Int32) (own : Nat → Int32) (amt : Nat → Int64) (tag : Nat → Int64) (mad : Nat → Int32) (spt : Nat → Int32) (made : Nat) (dsp : Nat → Int32) (dow : Nat → Int32) (dam : Nat → Int64) (dtg : Nat → Int64) (sp : Nat) (mk : Nat) (mint : Int64) (dep : Nat) (sups : Nat → Int64) (pots : Nat → Int64) (apps : Nat → Int32) (row : Nat) (hgt : Nat) (und : Nat) (x : Int32) (hm : made ≤ 2048) : Met l y_K_tag w_K_tag rm_K_tag (va_Pc [.ref (q 0), .int x] (ob_B (dC, dI) vwCl (wK q cI cL supply pot apl own amt tag mad spt made dsp dow dam dtg sp mk mint dep sups pots apps row hgt und) [(cI, .int), (cL, .long)] ob_N)) (QcReadL (f_amt tag made x)) 0 0 (fun _ => False) := by
  refine ob_ofW (cc := b_K_tag) (maxL := 2) (ret := (some .long)) (own := R_K) (by decide) rfl rfl (Nat.le_of_ble_eq_true rfl) ?_
  intro p e s m args below meth c Q hQ hx hb hr hml hT hown hlocks hv ls hl
  obtain ⟨hP, hK, hN⟩ := hv
  have hl : lv_has ls 2 [(0, .ref (q 0)), (1, .int x)] := hl
  refine lv_aload_n hx hb d_K_tag_0 rfl (lv_at hl 0 rfl) ?_
  refine va_get (D := (dC, dI)) (ci := 3) (v := .ref (q 1)) (C := R_K) (T := T_K) (N := 6) hx hb hT in_K hown hK hP 0 rfl rfl 0 (by decide) (hT _ k_126) (fun _ h9 => h9) rfl d_K_tag_1 ?_
  refine lv_iload_n hx hb d_K_tag_4 rfl (lv_at hl 1 rfl) ?_
  refine ob_callR (W.runV (As := [.int x]) (rest := []) ⟨hx, hb, hml, hown, hT⟩ (c_O_has l dC dI q cI cL own amt tag mad spt made x hm) (cwV 1 hT (ob_goodV k_270 k_154 k_155 k_10 k_156) rfl rfl rfl (by decide +kernel) ⟨Nat.le_of_ble_eq_true rfl, Nat.le_of_ble_eq_true rfl⟩) (ob_preV (wc := wO q cI cL own amt tag mad spt made) (q0 := 0) rfl hK hP (fun _ h => absurd h List.not_mem_nil) rfl [1, 2, 3, 4, 5, 6] rfl rfl) rfl rfl hl.1 rfl (lv_room (Nat.le_of_ble_eq_true rfl)) d_K_tag_5 ⟨Nat.zero_le _, Nat.zero_le _⟩) ?_
  refine ob_split (P := p_has made x) (fun b_5 => ?_) (fun b_5 => ?_)
  · refine lv_if_eq (tgt := 23) hx hb d_K_tag_8 (by decide) (fun c => absurd c (by decide)) (fun _ => ?_)
    refine lv_aload_n hx hb d_K_tag_11 rfl (lv_at hl 0 rfl) ?_
    refine va_get (D := (dC, dI)) (ci := 3) (v := .ref (q 1)) (C := R_K) (T := T_K) (N := 6) hx hb hT in_K hown hK hP 0 rfl rfl 0 (by decide) (hT _ k_126) (fun _ h9 => h9) rfl d_K_tag_12 ?_
    refine va_getN (D := (dC, dI)) (ci := 2) (v := .ref (q 4)) (C := R_O) (T := T_O) (N := 6) hx hb hT in_O hown hK hP 1 rfl rfl 2 (by decide) (va_Nw.use rfl (hN _ (List.mem_of_getElem? (i := 2) rfl))) (fun _ h9 => h9) rfl d_K_tag_15 ?_
    refine lv_iload_n hx hb d_K_tag_18 rfl (lv_at hl 1 rfl) ?_
    refine ob_lald hx hb hK hP 4 1 rfl rfl (j := x.toNatClampNeg) rfl (cv_in rfl (by omega)) d_K_tag_19 ?_
    refine lv_goto (tgt := 24) hx hb d_K_tag_20 (by decide) ?_
    exact ob_lret (v := tag x.toNatClampNeg) hx hb hr hlocks hQ (by first | exact (if_pos b_5).symm | exact (if_neg b_5).symm) d_K_tag_24
  · refine lv_if_eq (tgt := 23) hx hb d_K_tag_8 (by decide) (fun _ => ?_) (fun c => absurd c (by decide))
    refine lv_lconst (v := 0) hx hb d_K_tag_23 (by decide) ?_
    exact ob_lret (v := (0 : Int64)) hx hb hr hlocks hQ (by first | exact (if_pos b_5).symm | exact (if_neg b_5).symm) d_K_tag_24
abbrev rm_K_balance : Room := { frames := 3, cells := 0, slots := 0, locals := 64 }
set_option maxHeartbeats 4000000 in
set_option maxRecDepth 100000 in
theorem c_K_balance (l : Launch) (dC : Nat → ClassId) (dI : Nat → Nat → Nat) (q : Nat → Nat) (cI cL : ClassId) (supply : Int64) (pot : Int64) (apl : Int32) (own : Nat → Int32) (amt : Nat → Int64) (tag : Nat → Int64) (mad : Nat → Int32) (spt : Nat → Int32) (made : Nat) (dsp : Nat → Int32) (dow : Nat → Int32) (dam : Nat → Int64) (dtg : Nat → Int64) (sp : Nat) (mk : Nat) (mint : Int64) (dep : Nat) (sups : Nat → Int64) (pots : Nat → Int64) (apps : Nat → Int32) (row : Nat) (hgt : Nat) (und : Nat) (o : Int32) (hm : made ≤ 2048) : Met l y_K_balance w_K_balance rm_K_balance (va_Pc [.ref (q 0), .int o] (ob_B (dC, dI) vwCl (wK q cI cL supply pot apl own amt tag mad spt made dsp dow dam dtg sp mk mint dep sups pots apps row hgt und) [(cI, .int), (cL, .long)] ob_N)) (QcReadL (f_bal (f_lv own spt o) amt made)) 0 0 (fun _ => False) := by
  refine ob_ofW (cc := b_K_balance) (maxL := 5) (ret := (some .long)) (own := R_K) (by decide) rfl rfl (Nat.le_of_ble_eq_true rfl) ?_
  intro p e s m args below meth c Q hQ hx hb hr hml hT hown hlocks hv ls hl
  obtain ⟨hP, hK, hN⟩ := hv
  have hl : lv_has ls 5 [(0, .ref (q 0)), (1, .int o)] := hl
  refine lv_lconst (v := 0) hx hb d_K_balance_0 (by decide) ?_
  refine lv_lstore_n (lv' := [(2, .long (0 : Int64)), (0, .ref (q 0)), (1, .int o)]) hx hb d_K_balance_1 rfl hl (by decide) rfl (fun ls hl => ?_)
  refine lv_iconst (v := nI 0) hx hb d_K_balance_2 (by decide) ?_
  refine lv_istore (lv' := [(4, .int (nI 0)), (2, .long (0 : Int64)), (0, .ref (q 0)), (1, .int o)]) hx hb d_K_balance_3 hl (by decide) rfl (fun ls hl => ?_)
  have key_5 : ∀ (n : Nat) (k : Nat) (sm : Int64) (ls : Array Slot), made - k < n → (k ≤ made) → (sm = f_bal (f_lv own spt o) amt k) → lv_has ls 5 [(4, .int (nI k)), (2, .long sm), (0, .ref (q 0)), (1, .int o)] → W p l e rm_K_balance s m args below meth c s.heap [] 0 0 Q (F0 m 5 ls []) := by
    intro n_5
    induction n_5 with
    | zero => intro k sm ls h; exact absurd h (Nat.not_lt_zero _)
    | succ n_5 ih_5 =>
      intro k sm ls hn_5 hk hs hl
      refine lv_iload hx hb d_K_balance_5 (lv_at hl 0 rfl) ?_
      refine lv_aload_n hx hb d_K_balance_7 rfl (lv_at hl 2 rfl) ?_
      refine va_get (D := (dC, dI)) (ci := 3) (v := .ref (q 1)) (C := R_K) (T := T_K) (N := 6) hx hb hT in_K hown hK hP 0 rfl rfl 0 (by decide) (hT _ k_126) (fun _ h9 => h9) rfl d_K_balance_8 ?_
      refine va_getN (D := (dC, dI)) (ci := 2) (v := .int (nI made)) (C := R_O) (T := T_O) (N := 6) hx hb hT in_O hown hK hP 1 rfl rfl 5 (by decide) (va_Nw.use rfl (hN _ (List.mem_of_getElem? (i := 5) rfl))) (fun _ h9 => h9) rfl d_K_balance_11 ?_
      refine lv_icmp_ge (tgt := 48) hx hb d_K_balance_14 (by decide) (fun c_14 => ?_) (fun c_14 => ?_)
      · have t_14 := (cv_le (nI_toInt (by omega)) (nI_toInt (by omega))).mp c_14
        refine lv_lload_n hx hb d_K_balance_48 rfl (lv_at hl 1 rfl) ?_
        exact ob_lret (v := sm) hx hb hr hlocks hQ (by rw [hs, show k = made by omega]) d_K_balance_49
      · have t_14 := mt (cv_le (nI_toInt (by omega)) (nI_toInt (by omega))).mpr c_14
        refine lv_aload_n hx hb d_K_balance_17 rfl (lv_at hl 2 rfl) ?_
        refine va_get (D := (dC, dI)) (ci := 3) (v := .ref (q 1)) (C := R_K) (T := T_K) (N := 6) hx hb hT in_K hown hK hP 0 rfl rfl 0 (by decide) (hT _ k_126) (fun _ h9 => h9) rfl d_K_balance_18 ?_
        refine lv_iload_n hx hb d_K_balance_21 rfl (lv_at hl 3 rfl) ?_
        refine lv_iload hx hb d_K_balance_22 (lv_at hl 0 rfl) ?_
        refine ob_callR (W.runV (As := [.int o, .int (nI k)]) (rest := []) ⟨hx, hb, hml, hown, hT⟩ (c_O_isLiveOf l dC dI q cI cL own amt tag mad spt made o (nI k) hm) (cwV 2 hT (ob_goodV k_283 k_284 k_285 k_10 k_286) rfl rfl rfl (by decide +kernel) ⟨Nat.le_of_ble_eq_true rfl, Nat.le_of_ble_eq_true rfl⟩) (ob_preV (wc := wO q cI cL own amt tag mad spt made) (q0 := 0) rfl hK hP (fun _ h => absurd h List.not_mem_nil) rfl [1, 2, 3, 4, 5, 6] rfl rfl) rfl rfl hl.1 rfl (lv_room (Nat.le_of_ble_eq_true rfl)) d_K_balance_24 ⟨Nat.zero_le _, Nat.zero_le _⟩) ?_
        refine ob_split (P := p_liveOf own spt made o (nI k)) (fun b_24 => ?_) (fun b_24 => ?_)
        · refine lv_if_eq (tgt := 42) hx hb d_K_balance_27 (by decide) (fun c => absurd c (by decide)) (fun _ => ?_)
          refine lv_lload_n hx hb d_K_balance_30 rfl (lv_at hl 1 rfl) ?_
          refine lv_aload_n hx hb d_K_balance_31 rfl (lv_at hl 2 rfl) ?_
          refine va_get (D := (dC, dI)) (ci := 3) (v := .ref (q 1)) (C := R_K) (T := T_K) (N := 6) hx hb hT in_K hown hK hP 0 rfl rfl 0 (by decide) (hT _ k_126) (fun _ h9 => h9) rfl d_K_balance_32 ?_
          refine lv_iload hx hb d_K_balance_35 (lv_at hl 0 rfl) ?_
          refine ob_callL (W.runV (As := [.int (nI k)]) (rest := [.long sm]) ⟨hx, hb, hml, hown, hT⟩ (c_O_amountOf l dC dI q cI cL own amt tag mad spt made (nI k) hm) (cwV 1 hT (ob_goodV k_210 k_211 k_212 k_10 k_213) rfl rfl rfl (by decide +kernel) ⟨Nat.le_of_ble_eq_true rfl, Nat.le_of_ble_eq_true rfl⟩) (ob_preV (wc := wO q cI cL own amt tag mad spt made) (q0 := 0) rfl hK hP (fun _ h => absurd h List.not_mem_nil) rfl [1, 2, 3, 4, 5, 6] rfl rfl) rfl rfl hl.1 rfl (lv_room (Nat.le_of_ble_eq_true rfl)) d_K_balance_37 ⟨Nat.zero_le _, Nat.zero_le _⟩) ?_
          refine lv_ladd hx hb d_K_balance_40 ?_
          refine lv_lstore_n (lv' := [(2, .long (sm + (f_amt amt made (nI k)))), (4, .int (nI k)), (0, .ref (q 0)), (1, .int o)]) hx hb d_K_balance_41 rfl hl (by decide) rfl (fun ls hl => ?_)
          refine lv_iinc (v := nI (k + 1)) (lv' := [(4, .int (nI (k + 1))), (2, .long (sm + (f_amt amt made (nI k)))), (0, .ref (q 0)), (1, .int o)]) hx hb d_K_balance_42 hl (k := 1) rfl (nI_add k 1) (by decide) rfl (fun ls hl => ?_)
          refine lv_goto (tgt := 5) hx hb d_K_balance_45 (by decide) ?_
          exact ih_5 (k + 1) (sm + (f_amt amt made (nI k))) _ (by omega) (by omega) (by first | exact (by rw [f_bal, if_pos ((p_liveOf_nI (by omega) hm).mp b_24), hs, f_amt_nI (by omega) hm]) | exact (by rw [f_bal, if_neg (fun h => b_24 ((p_liveOf_nI (by omega) hm).mpr h)), hs])) (lv_sub hl [0, 1, 2, 3] rfl)
        · refine lv_if_eq (tgt := 42) hx hb d_K_balance_27 (by decide) (fun _ => ?_) (fun c => absurd c (by decide))
          refine lv_iinc (v := nI (k + 1)) (lv' := [(4, .int (nI (k + 1))), (2, .long sm), (0, .ref (q 0)), (1, .int o)]) hx hb d_K_balance_42 hl (k := 0) rfl (nI_add k 1) (by decide) rfl (fun ls hl => ?_)
          refine lv_goto (tgt := 5) hx hb d_K_balance_45 (by decide) ?_
          exact ih_5 (k + 1) sm _ (by omega) (by omega) (by first | exact (by rw [f_bal, if_pos ((p_liveOf_nI (by omega) hm).mp b_24), hs, f_amt_nI (by omega) hm]) | exact (by rw [f_bal, if_neg (fun h => b_24 ((p_liveOf_nI (by omega) hm).mpr h)), hs])) (lv_sub hl [0, 1, 2, 3] rfl)
  exact key_5 _ 0 (0 : Int64) _ (Nat.lt_succ_self _) (Nat.zero_le _) rfl (lv_sub hl [0, 1, 2, 3] rfl)
abbrev rm_K_count : Room := { frames := 3, cells := 0, slots := 0, locals := 64 }
set_option maxHeartbeats 4000000 in
set_option maxRecDepth 100000 in
theorem c_K_count (l : Launch) (dC : Nat → ClassId) (dI : Nat → Nat → Nat) (q : Nat → Nat) (cI cL : ClassId) (supply : Int64) (pot : Int64) (apl : Int32) (own : Nat → Int32) (amt : Nat → Int64) (tag : Nat → Int64) (mad : Nat → Int32) (spt : Nat → Int32) (made : Nat) (dsp : Nat → Int32) (dow : Nat → Int32) (dam : Nat → Int64) (dtg : Nat → Int64) (sp : Nat) (mk : Nat) (mint : Int64) (dep : Nat) (sups : Nat → Int64) (pots : Nat → Int64) (apps : Nat → Int32) (row : Nat) (hgt : Nat) (und : Nat) (o : Int32) (hm : made ≤ 2048) : Met l y_K_count w_K_count rm_K_count (va_Pc [.ref (q 0), .int o] (ob_B (dC, dI) vwCl (wK q cI cL supply pot apl own amt tag mad spt made dsp dow dam dtg sp mk mint dep sups pots apps row hgt und) [(cI, .int), (cL, .long)] ob_N)) (QcRead (nI (f_cnt (f_lv own spt o) made))) 0 0 (fun _ => False) := by
  refine ob_ofW (cc := b_K_count) (maxL := 4) (ret := (some .int)) (own := R_K) (by decide) rfl rfl (Nat.le_of_ble_eq_true rfl) ?_
  intro p e s m args below meth c Q hQ hx hb hr hml hT hown hlocks hv ls hl
  obtain ⟨hP, hK, hN⟩ := hv
  have hl : lv_has ls 4 [(0, .ref (q 0)), (1, .int o)] := hl
  refine lv_iconst (v := nI 0) hx hb d_K_count_0 (by decide) ?_
  refine lv_istore_n (lv' := [(2, .int (nI 0)), (0, .ref (q 0)), (1, .int o)]) hx hb d_K_count_1 rfl hl (by decide) rfl (fun ls hl => ?_)
  refine lv_iconst (v := nI 0) hx hb d_K_count_2 (by decide) ?_
  refine lv_istore_n (lv' := [(3, .int (nI 0)), (2, .int (nI 0)), (0, .ref (q 0)), (1, .int o)]) hx hb d_K_count_3 rfl hl (by decide) rfl (fun ls hl => ?_)
  have key_4 : ∀ (n : Nat) (k : Nat) (c9 : Nat) (ls : Array Slot), made - k < n → (k ≤ made) → (c9 = f_cnt (f_lv own spt o) k) → lv_has ls 4 [(3, .int (nI k)), (2, .int (nI c9)), (0, .ref (q 0)), (1, .int o)] → W p l e rm_K_count s m args below meth c s.heap [] 0 0 Q (F0 m 4 ls []) := by
    intro n_4
    induction n_4 with
    | zero => intro k c9 ls h; exact absurd h (Nat.not_lt_zero _)
    | succ n_4 ih_4 =>
      intro k c9 ls hn_4 hk hc hl
      refine lv_iload_n hx hb d_K_count_4 rfl (lv_at hl 0 rfl) ?_
      refine lv_aload_n hx hb d_K_count_5 rfl (lv_at hl 2 rfl) ?_
      refine va_get (D := (dC, dI)) (ci := 3) (v := .ref (q 1)) (C := R_K) (T := T_K) (N := 6) hx hb hT in_K hown hK hP 0 rfl rfl 0 (by decide) (hT _ k_126) (fun _ h9 => h9) rfl d_K_count_6 ?_
      refine va_getN (D := (dC, dI)) (ci := 2) (v := .int (nI made)) (C := R_O) (T := T_O) (N := 6) hx hb hT in_O hown hK hP 1 rfl rfl 5 (by decide) (va_Nw.use rfl (hN _ (List.mem_of_getElem? (i := 5) rfl))) (fun _ h9 => h9) rfl d_K_count_9 ?_
      refine lv_icmp_ge (tgt := 36) hx hb d_K_count_12 (by decide) (fun c_12 => ?_) (fun c_12 => ?_)
      · have t_12 := (cv_le (nI_toInt (by omega)) (nI_toInt (by omega))).mp c_12
        refine lv_iload_n hx hb d_K_count_36 rfl (lv_at hl 1 rfl) ?_
        exact ob_iret (v := nI c9) hx hb hr hlocks hQ (by rw [hc, show k = made by omega]) d_K_count_37
      · have t_12 := mt (cv_le (nI_toInt (by omega)) (nI_toInt (by omega))).mpr c_12
        refine lv_aload_n hx hb d_K_count_15 rfl (lv_at hl 2 rfl) ?_
        refine va_get (D := (dC, dI)) (ci := 3) (v := .ref (q 1)) (C := R_K) (T := T_K) (N := 6) hx hb hT in_K hown hK hP 0 rfl rfl 0 (by decide) (hT _ k_126) (fun _ h9 => h9) rfl d_K_count_16 ?_
        refine lv_iload_n hx hb d_K_count_19 rfl (lv_at hl 3 rfl) ?_
        refine lv_iload_n hx hb d_K_count_20 rfl (lv_at hl 0 rfl) ?_
        refine ob_callR (W.runV (As := [.int o, .int (nI k)]) (rest := []) ⟨hx, hb, hml, hown, hT⟩ (c_O_isLiveOf l dC dI q cI cL own amt tag mad spt made o (nI k) hm) (cwV 2 hT (ob_goodV k_283 k_284 k_285 k_10 k_286) rfl rfl rfl (by decide +kernel) ⟨Nat.le_of_ble_eq_true rfl, Nat.le_of_ble_eq_true rfl⟩) (ob_preV (wc := wO q cI cL own amt tag mad spt made) (q0 := 0) rfl hK hP (fun _ h => absurd h List.not_mem_nil) rfl [1, 2, 3, 4, 5, 6] rfl rfl) rfl rfl hl.1 rfl (lv_room (Nat.le_of_ble_eq_true rfl)) d_K_count_21 ⟨Nat.zero_le _, Nat.zero_le _⟩) ?_
        refine ob_split (P := p_liveOf own spt made o (nI k)) (fun b_21 => ?_) (fun b_21 => ?_)
        · refine lv_if_eq (tgt := 30) hx hb d_K_count_24 (by decide) (fun c => absurd c (by decide)) (fun _ => ?_)
          refine lv_iinc (v := nI (c9 + 1)) (lv' := [(2, .int (nI (c9 + 1))), (3, .int (nI k)), (0, .ref (q 0)), (1, .int o)]) hx hb d_K_count_27 hl (k := 1) rfl (nI_add c9 1) (by decide) rfl (fun ls hl => ?_)
          refine lv_iinc (v := nI (k + 1)) (lv' := [(3, .int (nI (k + 1))), (2, .int (nI (c9 + 1))), (0, .ref (q 0)), (1, .int o)]) hx hb d_K_count_30 hl (k := 1) rfl (nI_add k 1) (by decide) rfl (fun ls hl => ?_)
          refine lv_goto (tgt := 4) hx hb d_K_count_33 (by decide) ?_
          exact ih_4 (k + 1) (c9 + 1) _ (by omega) (by omega) (by first | exact (by rw [hc, f_cnt_t ((p_liveOf_nI (by omega) hm).mp b_21)]) | exact (by rw [hc, f_cnt_f (fun h => b_21 ((p_liveOf_nI (by omega) hm).mpr h))])) (lv_sub hl [0, 1, 2, 3] rfl)
        · refine lv_if_eq (tgt := 30) hx hb d_K_count_24 (by decide) (fun _ => ?_) (fun c => absurd c (by decide))
          refine lv_iinc (v := nI (k + 1)) (lv' := [(3, .int (nI (k + 1))), (2, .int (nI c9)), (0, .ref (q 0)), (1, .int o)]) hx hb d_K_count_30 hl (k := 0) rfl (nI_add k 1) (by decide) rfl (fun ls hl => ?_)
          refine lv_goto (tgt := 4) hx hb d_K_count_33 (by decide) ?_
          exact ih_4 (k + 1) c9 _ (by omega) (by omega) (by first | exact (by rw [hc, f_cnt_t ((p_liveOf_nI (by omega) hm).mp b_21)]) | exact (by rw [hc, f_cnt_f (fun h => b_21 ((p_liveOf_nI (by omega) hm).mpr h))])) (lv_sub hl [0, 1, 2, 3] rfl)
  exact key_4 _ 0 0 _ (Nat.lt_succ_self _) (Nat.zero_le _) rfl (lv_sub hl [0, 1, 2, 3] rfl)
abbrev rm_K_nth : Room := { frames := 3, cells := 0, slots := 0, locals := 64 }
set_option maxHeartbeats 4000000 in
set_option maxRecDepth 100000 in
theorem c_K_nth (l : Launch) (dC : Nat → ClassId) (dI : Nat → Nat → Nat) (q : Nat → Nat) (cI cL : ClassId) (supply : Int64) (pot : Int64) (apl : Int32) (own : Nat → Int32) (amt : Nat → Int64) (tag : Nat → Int64) (mad : Nat → Int32) (spt : Nat → Int32) (made : Nat) (dsp : Nat → Int32) (dow : Nat → Int32) (dam : Nat → Int64) (dtg : Nat → Int64) (sp : Nat) (mk : Nat) (mint : Int64) (dep : Nat) (sups : Nat → Int64) (pots : Nat → Int64) (apps : Nat → Int32) (row : Nat) (hgt : Nat) (und : Nat) (o : Int32) (i : Int32) (hm : made ≤ 2048) : Met l y_K_nth w_K_nth rm_K_nth (va_Pc [.ref (q 0), .int o, .int i] (ob_B (dC, dI) vwCl (wK q cI cL supply pot apl own amt tag mad spt made dsp dow dam dtg sp mk mint dep sups pots apps row hgt und) [(cI, .int), (cL, .long)] ob_N)) (QcRead (f_nth (f_lv own spt o) i made 0)) 0 0 (fun _ => False) := by
  refine ob_ofW (cc := b_K_nth) (maxL := 5) (ret := (some .int)) (own := R_K) (by decide) rfl rfl (Nat.le_of_ble_eq_true rfl) ?_
  intro p e s m args below meth c Q hQ hx hb hr hml hT hown hlocks hv ls hl
  obtain ⟨hP, hK, hN⟩ := hv
  have hl : lv_has ls 5 [(0, .ref (q 0)), (1, .int o), (2, .int i)] := hl
  refine lv_iconst (v := nI 0) hx hb d_K_nth_0 (by decide) ?_
  refine lv_istore_n (lv' := [(3, .int (nI 0)), (0, .ref (q 0)), (1, .int o), (2, .int i)]) hx hb d_K_nth_1 rfl hl (by decide) rfl (fun ls hl => ?_)
  refine lv_iconst (v := nI 0) hx hb d_K_nth_2 (by decide) ?_
  refine lv_istore (lv' := [(4, .int (nI 0)), (3, .int (nI 0)), (0, .ref (q 0)), (1, .int o), (2, .int i)]) hx hb d_K_nth_3 hl (by decide) rfl (fun ls hl => ?_)
  have key_5 : ∀ (n : Nat) (k : Nat) (bf : Nat) (ls : Array Slot), made - k < n → (k ≤ made) → (bf = f_cnt (f_lv own spt o) k) → (f_nth (f_lv own spt o) i (made - k) k = f_nth (f_lv own spt o) i made 0) → lv_has ls 5 [(4, .int (nI k)), (3, .int (nI bf)), (0, .ref (q 0)), (1, .int o), (2, .int i)] → W p l e rm_K_nth s m args below meth c s.heap [] 0 0 Q (F0 m 5 ls []) := by
    intro n_5
    induction n_5 with
    | zero => intro k bf ls h; exact absurd h (Nat.not_lt_zero _)
    | succ n_5 ih_5 =>
      intro k bf ls hn_5 hk hc hres hl
      have hbl := f_cnt_le (f_lv own spt o) k
      refine lv_iload hx hb d_K_nth_5 (lv_at hl 0 rfl) ?_
      refine lv_aload_n hx hb d_K_nth_7 rfl (lv_at hl 2 rfl) ?_
      refine va_get (D := (dC, dI)) (ci := 3) (v := .ref (q 1)) (C := R_K) (T := T_K) (N := 6) hx hb hT in_K hown hK hP 0 rfl rfl 0 (by decide) (hT _ k_126) (fun _ h9 => h9) rfl d_K_nth_8 ?_
      refine va_getN (D := (dC, dI)) (ci := 2) (v := .int (nI made)) (C := R_O) (T := T_O) (N := 6) hx hb hT in_O hown hK hP 1 rfl rfl 5 (by decide) (va_Nw.use rfl (hN _ (List.mem_of_getElem? (i := 5) rfl))) (fun _ h9 => h9) rfl d_K_nth_11 ?_
      refine lv_icmp_ge (tgt := 47) hx hb d_K_nth_14 (by decide) (fun c_14 => ?_) (fun c_14 => ?_)
      · have t_14 := (cv_le (nI_toInt (by omega)) (nI_toInt (by omega))).mp c_14
        refine lv_iconst (v := (-1 : Int32)) hx hb d_K_nth_47 (by decide) ?_
        exact ob_iret (v := (-1 : Int32)) hx hb hr hlocks hQ (by rw [← hres, show made - k = 0 by omega]; rfl) d_K_nth_48
      · have t_14 := mt (cv_le (nI_toInt (by omega)) (nI_toInt (by omega))).mpr c_14
        refine lv_aload_n hx hb d_K_nth_17 rfl (lv_at hl 2 rfl) ?_
        refine va_get (D := (dC, dI)) (ci := 3) (v := .ref (q 1)) (C := R_K) (T := T_K) (N := 6) hx hb hT in_K hown hK hP 0 rfl rfl 0 (by decide) (hT _ k_126) (fun _ h9 => h9) rfl d_K_nth_18 ?_
        refine lv_iload_n hx hb d_K_nth_21 rfl (lv_at hl 3 rfl) ?_
        refine lv_iload hx hb d_K_nth_22 (lv_at hl 0 rfl) ?_
        refine ob_callR (W.runV (As := [.int o, .int (nI k)]) (rest := []) ⟨hx, hb, hml, hown, hT⟩ (c_O_isLiveOf l dC dI q cI cL own amt tag mad spt made o (nI k) hm) (cwV 2 hT (ob_goodV k_283 k_284 k_285 k_10 k_286) rfl rfl rfl (by decide +kernel) ⟨Nat.le_of_ble_eq_true rfl, Nat.le_of_ble_eq_true rfl⟩) (ob_preV (wc := wO q cI cL own amt tag mad spt made) (q0 := 0) rfl hK hP (fun _ h => absurd h List.not_mem_nil) rfl [1, 2, 3, 4, 5, 6] rfl rfl) rfl rfl hl.1 rfl (lv_room (Nat.le_of_ble_eq_true rfl)) d_K_nth_24 ⟨Nat.zero_le _, Nat.zero_le _⟩) ?_
        refine ob_split (P := p_liveOf own spt made o (nI k)) (fun b_24 => ?_) (fun b_24 => ?_)
        · refine lv_if_eq (tgt := 41) hx hb d_K_nth_27 (by decide) (fun c => absurd c (by decide)) (fun _ => ?_)
          refine lv_iload_n hx hb d_K_nth_30 rfl (lv_at hl 1 rfl) ?_
          refine lv_iload_n hx hb d_K_nth_31 rfl (lv_at hl 4 rfl) ?_
          refine lv_icmp_ne (tgt := 38) hx hb d_K_nth_32 (by decide) (fun c_32 => ?_) (fun c_32 => ?_)
          · have t_32 := mt (cv_eq (nI_toInt (by omega)) rfl).mpr c_32
            refine lv_iinc (v := nI (bf + 1)) (lv' := [(3, .int (nI (bf + 1))), (4, .int (nI k)), (0, .ref (q 0)), (1, .int o), (2, .int i)]) hx hb d_K_nth_38 hl (k := 1) rfl (nI_add bf 1) (by decide) rfl (fun ls hl => ?_)
            refine lv_iinc (v := nI (k + 1)) (lv' := [(4, .int (nI (k + 1))), (3, .int (nI (bf + 1))), (0, .ref (q 0)), (1, .int o), (2, .int i)]) hx hb d_K_nth_41 hl (k := 1) rfl (nI_add k 1) (by decide) rfl (fun ls hl => ?_)
            refine lv_goto (tgt := 5) hx hb d_K_nth_44 (by decide) ?_
            exact ih_5 (k + 1) (bf + 1) _ (by omega) (by omega) (by first | exact (by rw [hc, f_cnt_t ((p_liveOf_nI (by omega) hm).mp b_24)]) | exact (by rw [hc, f_cnt_f (fun h => b_24 ((p_liveOf_nI (by omega) hm).mpr h))])) (by rw [← hres]; first | exact (f_nth_no (by omega) (fun h => b_24 ((p_liveOf_nI (by omega) hm).mpr h.1))).symm | exact (f_nth_no (by omega) (fun h => c_32 (by rw [hc]; exact h.2))).symm) (lv_sub hl [0, 1, 2, 3, 4] rfl)
          · have t_32 := (cv_eq (nI_toInt (by omega)) rfl).mp c_32
            refine lv_iload hx hb d_K_nth_35 (lv_at hl 0 rfl) ?_
            exact ob_iret (v := nI k) hx hb hr hlocks hQ (by rw [← hres, f_nth_go (by omega) ⟨(p_liveOf_nI (by omega) hm).mp b_24, by rw [← hc]; exact c_32⟩]) d_K_nth_37
        · refine lv_if_eq (tgt := 41) hx hb d_K_nth_27 (by decide) (fun _ => ?_) (fun c => absurd c (by decide))
          refine lv_iinc (v := nI (k + 1)) (lv' := [(4, .int (nI (k + 1))), (3, .int (nI bf)), (0, .ref (q 0)), (1, .int o), (2, .int i)]) hx hb d_K_nth_41 hl (k := 0) rfl (nI_add k 1) (by decide) rfl (fun ls hl => ?_)
          refine lv_goto (tgt := 5) hx hb d_K_nth_44 (by decide) ?_
          exact ih_5 (k + 1) bf _ (by omega) (by omega) (by first | exact (by rw [hc, f_cnt_t ((p_liveOf_nI (by omega) hm).mp b_24)]) | exact (by rw [hc, f_cnt_f (fun h => b_24 ((p_liveOf_nI (by omega) hm).mpr h))])) (by rw [← hres]; first | exact (f_nth_no (by omega) (fun h => b_24 ((p_liveOf_nI (by omega) hm).mpr h.1))).symm | exact (f_nth_no (by omega) (fun h => c_32 (by rw [hc]; exact h.2))).symm) (lv_sub hl [0, 1, 2, 3, 4] rfl)
  exact key_5 _ 0 0 _ (Nat.lt_succ_self _) (Nat.zero_le _) rfl rfl (lv_sub hl [0, 1, 2, 3, 4] rfl)
abbrev rm_K_gather_l : Room := { frames := 0, cells := 0, slots := 0, locals := 0 }
set_option maxHeartbeats 4000000 in
set_option maxRecDepth 100000 in
theorem c_K_gather_l (l : Launch) (dC : Nat → ClassId) (dI : Nat → Nat → Nat) (q : Nat → Nat) (cI cL : ClassId) (supply : Int64) (pot : Int64) (apl : Int32) (own : Nat → Int32) (amt : Nat → Int64) (tag : Nat → Int64) (mad : Nat → Int32) (spt : Nat → Int32) (made : Nat) (dsp : Nat → Int32) (dow : Nat → Int32) (dam : Nat → Int64) (dtg : Nat → Int64) (sp : Nat) (mk : Nat) (mint : Int64) (dep : Nat) (sups : Nat → Int64) (pots : Nat → Int64) (apps : Nat → Int32) (row : Nat) (hgt : Nat) (und : Nat) (o : Int32) (a : Int64) (h1 : ¬ 1 ≤ a) : Met l y_K_gather w_K_gather rm_K_gather_l (va_Pc [.ref (q 0), .int o, .long a] (ob_B (dC, dI) vwCl (wK q cI cL supply pot apl own amt tag mad spt made dsp dow dam dtg sp mk mint dep sups pots apps row hgt und) [(cI, .int), (cL, .long)] ob_N)) (QcRead ((-1 : Int32))) 0 0 (fun _ => False) := by
  refine ob_ofW (cc := b_K_gather) (maxL := 9) (ret := (some .int)) (own := R_K) (by decide) rfl rfl (Nat.le_of_ble_eq_true rfl) ?_
  intro p e s m args below meth c Q hQ hx hb hr hml hT hown hlocks hv ls hl
  obtain ⟨hP, hK, hN⟩ := hv
  have hl : lv_has ls 9 [(0, .ref (q 0)), (1, .int o), (2, .long a)] := hl
  refine lv_lload_n hx hb d_K_gather_0 rfl (lv_at hl 2 rfl) ?_
  refine lv_lconst (v := 1) hx hb d_K_gather_1 (by decide) ?_
  refine W.lcmp hx hb d_K_gather_2 ?_
  refine lv_if_ge (tgt := 8) hx hb d_K_gather_3 (by decide) (fun c_3 => ?_) (fun c_3 => ?_)
  · have c_3 := (lg_cmp_ge _ _).mp c_3
    exact absurd c_3 h1
  · have c_3 := mt (lg_cmp_ge _ _).mpr c_3
    refine lv_iconst (v := (-1 : Int32)) hx hb d_K_gather_6 (by decide) ?_
    exact ob_iret (v := (-1 : Int32)) hx hb hr hlocks hQ rfl d_K_gather_7
abbrev rm_K_gather_t : Room := { frames := 4, cells := 0, slots := 0, locals := 88 }
set_option maxHeartbeats 4000000 in
set_option maxRecDepth 100000 in
theorem c_K_gather_t (l : Launch) (dC : Nat → ClassId) (dI : Nat → Nat → Nat) (q : Nat → Nat) (cI cL : ClassId) (supply : Int64) (pot : Int64) (apl : Int32) (own : Nat → Int32) (amt : Nat → Int64) (tag : Nat → Int64) (mad : Nat → Int32) (spt : Nat → Int32) (made : Nat) (dsp : Nat → Int32) (dow : Nat → Int32) (dam : Nat → Int64) (dtg : Nat → Int64) (sp : Nat) (mk : Nat) (mint : Int64) (dep : Nat) (sups : Nat → Int64) (pots : Nat → Int64) (apps : Nat → Int32) (row : Nat) (hgt : Nat) (und : Nat) (o : Int32) (a : Int64) (hm : made ≤ 2048) (hsp : sp ≤ 16) (h1 : 1 ≤ a) : Met l y_K_gather w_K_gather rm_K_gather_t (va_Pc [.ref (q 0), .int o, .long a] (ob_BW (dC, dI) vwCl (wK q cI cL supply pot apl own amt tag mad spt made dsp dow dam dtg sp mk mint dep sups pots apps row hgt und) [(cI, .int), (cL, .long)] ob_N)) (va_Qi (fun (r : Int32) (_ : Unit) => r = f_gans (f_gs amt made (f_pk own amt spt made o) dsp sp a (16 - sp) 0)) (fun _ t => va_P (dC, dI) vwCl (wK q cI cL supply pot apl own amt tag mad spt made (f_app dsp sp (fun i => f_pk own amt spt made o (i + 1)) (f_gw amt made (f_pk own amt spt made o) dsp sp a (16 - sp) 0)) dow dam dtg (sp + f_gs amt made (f_pk own amt spt made o) dsp sp a (16 - sp) 0) mk mint dep sups pots apps row hgt und) t.heap) (ob_A (wK q cI cL supply pot apl own amt tag mad spt made dsp dow dam dtg sp mk mint dep sups pots apps row hgt und))) 0 0 (ob_A (wK q cI cL supply pot apl own amt tag mad spt made dsp dow dam dtg sp mk mint dep sups pots apps row hgt und)) := by
  refine ob_ofW (cc := b_K_gather) (maxL := 9) (ret := (some .int)) (own := R_K) (by decide) rfl rfl (Nat.le_of_ble_eq_true rfl) ?_
  intro p e s m args below meth c Q hQ hx hb hr hml hT hown hlocks hv ls hl
  obtain ⟨⟨hP, hK, hN⟩, hD0⟩ := hv
  have hD := ob_D_self hD0
  generalize hAe : ob_A (wK q cI cL supply pot apl own amt tag mad spt made dsp dow dam dtg sp mk mint dep sups pots apps row hgt und) = A at hQ hD
  have hS : va_S A s.heap s.heap [] := va_S.rf
  have hl : lv_has ls 9 [(0, .ref (q 0)), (1, .int o), (2, .long a)] := hl
  refine lv_lload_n hx hb d_K_gather_0 rfl (lv_at hl 2 rfl) ?_
  refine lv_lconst (v := 1) hx hb d_K_gather_1 (by decide) ?_
  refine W.lcmp hx hb d_K_gather_2 ?_
  refine lv_if_ge (tgt := 8) hx hb d_K_gather_3 (by decide) (fun c_3 => ?_) (fun c_3 => ?_)
  · have c_3 := (lg_cmp_ge _ _).mp c_3
    refine lv_lload_n hx hb d_K_gather_8 rfl (lv_at hl 2 rfl) ?_
    refine lv_lstore (lv' := [(4, .long a), (0, .ref (q 0)), (1, .int o), (2, .long a)]) hx hb d_K_gather_9 hl (by decide) rfl (fun ls hl => ?_)
    refine lv_iconst (v := (-1 : Int32)) hx hb d_K_gather_11 (by decide) ?_
    refine lv_istore (lv' := [(6, .int (-1 : Int32)), (4, .long a), (0, .ref (q 0)), (1, .int o), (2, .long a)]) hx hb d_K_gather_12 hl (by decide) rfl (fun ls hl => ?_)
    refine lv_aload_n hx hb d_K_gather_14 rfl (lv_at hl 2 rfl) ?_
    refine va_get (D := (dC, dI)) (ci := 3) (v := .ref (q 7)) (C := R_K) (T := T_K) (N := 6) hx hb hT in_K hown hK hP 0 rfl rfl 1 (by decide) (hT _ k_127) (fun _ h9 => h9) rfl d_K_gather_15 ?_
    refine ob_callR (W.runV (As := []) (rest := []) ⟨hx, hb, hml, hown, hT⟩ (c_D_roomToSpend l dC dI q cI cL dsp dow dam dtg sp mk mint hsp) (cwV 0 hT (ob_goodV k_161 k_162 k_163 k_11 k_164) rfl rfl rfl (by decide +kernel) ⟨Nat.le_of_ble_eq_true rfl, Nat.le_of_ble_eq_true rfl⟩) (ob_preV (wc := wD q cI cL dsp dow dam dtg sp mk mint) (q0 := 0) rfl hK hP (fun _ h => absurd h List.not_mem_nil) rfl [7, 8, 9, 10, 11] rfl rfl) rfl rfl hl.1 rfl (lv_room (Nat.le_of_ble_eq_true rfl)) d_K_gather_18 ⟨Nat.zero_le _, Nat.zero_le _⟩) ?_
    refine lv_istore (lv' := [(7, .int (nI (16 - sp))), (6, .int (-1 : Int32)), (4, .long a), (0, .ref (q 0)), (1, .int o), (2, .long a)]) hx hb d_K_gather_21 hl (by decide) rfl (fun ls hl => ?_)
    refine lv_iconst (v := nI 0) hx hb d_K_gather_23 (by decide) ?_
    refine lv_istore (lv' := [(8, .int (nI 0)), (7, .int (nI (16 - sp))), (6, .int (-1 : Int32)), (4, .long a), (0, .ref (q 0)), (1, .int o), (2, .long a)]) hx hb d_K_gather_24 hl (by decide) rfl (fun ls hl => ?_)
    have key_26 : ∀ (n : Nat) (j : Nat) (nm : Int32) (lf : Int64) (d9 : Nat → Int32) (H : Heap) (locs : List Loc) (ls : Array Slot), 16 - sp - j < n → (j ≤ 16 - sp) → (nm = f_pk own amt spt made o j) → (lf = f_lack amt made (f_pk own amt spt made o) a j) → (d9 = f_app dsp sp (fun i => f_pk own amt spt made o (i + 1)) j) → (f_gs amt made (f_pk own amt spt made o) dsp sp a (16 - sp - j) j = f_gs amt made (f_pk own amt spt made o) dsp sp a (16 - sp) 0) → (f_gw amt made (f_pk own amt spt made o) dsp sp a (16 - sp - j) j = f_gw amt made (f_pk own amt spt made o) dsp sp a (16 - sp) 0) → va_P (dC, dI) vwCl (wK q cI cL supply pot apl own amt tag mad spt made d9 dow dam dtg sp mk mint dep sups pots apps row hgt und) H → va_D A (wK q cI cL supply pot apl own amt tag mad spt made d9 dow dam dtg sp mk mint dep sups pots apps row hgt und) → va_S A s.heap H locs → lv_has ls 9 [(8, .int (nI j)), (7, .int (nI (16 - sp))), (6, .int nm), (4, .long lf), (0, .ref (q 0)), (1, .int o), (2, .long a)] → W p l e rm_K_gather_t s m args below meth c H locs 0 0 Q (F0 m 26 ls []) := by
      intro n_26
      induction n_26 with
      | zero => intro j nm lf d9 H locs ls h; exact absurd h (Nat.not_lt_zero _)
      | succ n_26 ih_26 =>
        intro j nm lf d9 H locs ls hn_26 hj hnm hlf hd9 hgs hgw hP hD hS hl
        refine lv_iload hx hb d_K_gather_26 (lv_at hl 0 rfl) ?_
        refine lv_iload hx hb d_K_gather_28 (lv_at hl 1 rfl) ?_
        refine lv_icmp_ge (tgt := 119) hx hb d_K_gather_30 (by decide) (fun c_30 => ?_) (fun c_30 => ?_)
        · have t_30 := (cv_le (nI_toInt (by omega)) (nI_toInt (by omega))).mp c_30
          refine lv_iconst (v := (-1 : Int32)) hx hb d_K_gather_119 (by decide) ?_
          exact ob_iretW (v := (-1 : Int32)) hx hb hr hlocks hQ hS hP (by rw [← hgs, ← hgw, show 16 - sp - j = 0 by omega, hd9]; rfl) (by rw [← hgs, show 16 - sp - j = 0 by omega]; rfl) d_K_gather_120
        · have t_30 := mt (cv_le (nI_toInt (by omega)) (nI_toInt (by omega))).mpr c_30
          refine lv_aload_n hx hb d_K_gather_33 rfl (lv_at hl 4 rfl) ?_
          refine va_get (D := (dC, dI)) (ci := 3) (v := .ref (q 1)) (C := R_K) (T := T_K) (N := 6) hx hb hT in_K hown hK hP 0 rfl rfl 0 (by decide) (hT _ k_126) (fun _ h9 => h9) rfl d_K_gather_34 ?_
          refine lv_iload_n hx hb d_K_gather_37 rfl (lv_at hl 5 rfl) ?_
          refine lv_iload hx hb d_K_gather_38 (lv_at hl 2 rfl) ?_
          refine ob_callR (W.runV (As := [.int o, .int nm]) (rest := []) ⟨hx, hb, hml, hown, hT⟩ (c_O_nextByAmount l dC dI q cI cL own amt tag mad spt made o nm hm) (cwV 2 hT (ob_goodV k_299 k_300 k_301 k_10 k_302) rfl rfl rfl (by decide +kernel) ⟨Nat.le_of_ble_eq_true rfl, Nat.le_of_ble_eq_true rfl⟩) (ob_preV (wc := wO q cI cL own amt tag mad spt made) (q0 := 0) rfl hK hP (fun _ h => absurd h List.not_mem_nil) rfl [1, 2, 3, 4, 5, 6] rfl rfl) rfl rfl hl.1 rfl (lv_room (Nat.le_of_ble_eq_true rfl)) d_K_gather_40 ⟨Nat.zero_le _, Nat.zero_le _⟩) ?_
          refine lv_istore (lv' := [(6, .int (f_next own amt spt made o nm made)), (8, .int (nI j)), (7, .int (nI (16 - sp))), (4, .long lf), (0, .ref (q 0)), (1, .int o), (2, .long a)]) hx hb d_K_gather_43 hl (by decide) rfl (fun ls hl => ?_)
          have hpk : f_next own amt spt made o nm made = f_pk own amt spt made o (j + 1) := by rw [hnm]; rfl
          refine lv_iload hx hb d_K_gather_45 (lv_at hl 0 rfl) ?_
          refine lv_iconst (v := (-1 : Int32)) hx hb d_K_gather_47 (by decide) ?_
          refine lv_icmp_eq (tgt := 63) hx hb d_K_gather_48 (by decide) (fun c_48 => ?_) (fun c_48 => ?_)
          · have t_48 := (cv_eq rfl (by decide : (-1 : Int32).toInt = -1)).mp c_48
            have hbad : p_bad (f_pk own amt spt made o) dsp sp j := by first | exact Or.inl (by rw [← hpk]; exact c_48) | exact Or.inr (f_any_app.mp (by rw [← hpk, ← hd9]; exact b_57))
            refine lv_iconst (v := (-1 : Int32)) hx hb d_K_gather_63 (by decide) ?_
            exact ob_iretW (v := (-1 : Int32)) hx hb hr hlocks hQ hS hP (by rw [← hgs, ← hgw, (f_gs_bad (by omega) hbad).1, (f_gs_bad (by omega) hbad).2, hd9]; rfl) (by rw [← hgs, (f_gs_bad (by omega) hbad).1]; rfl) d_K_gather_64
          · have t_48 := mt (cv_eq rfl (by decide : (-1 : Int32).toInt = -1)).mpr c_48
            refine lv_aload_n hx hb d_K_gather_51 rfl (lv_at hl 4 rfl) ?_
            refine va_get (D := (dC, dI)) (ci := 3) (v := .ref (q 7)) (C := R_K) (T := T_K) (N := 6) hx hb hT in_K hown hK hP 0 rfl rfl 1 (by decide) (hT _ k_127) (fun _ h9 => h9) rfl d_K_gather_52 ?_
            refine lv_iload hx hb d_K_gather_55 (lv_at hl 0 rfl) ?_
            refine ob_callR (W.runV (As := [.int (f_next own amt spt made o nm made)]) (rest := []) ⟨hx, hb, hml, hown, hT⟩ (c_D_hasToSpend l dC dI q cI cL d9 dow dam dtg sp mk mint (f_next own amt spt made o nm made) hsp) (cwV 1 hT (ob_goodV k_157 k_158 k_159 k_11 k_160) rfl rfl rfl (by decide +kernel) ⟨Nat.le_of_ble_eq_true rfl, Nat.le_of_ble_eq_true rfl⟩) (ob_preV (wc := wD q cI cL d9 dow dam dtg sp mk mint) (q0 := 0) rfl hK hP (fun _ h => absurd h List.not_mem_nil) rfl [7, 8, 9, 10, 11] rfl rfl) rfl rfl hl.1 rfl (lv_room (Nat.le_of_ble_eq_true rfl)) d_K_gather_57 ⟨Nat.zero_le _, Nat.zero_le _⟩) ?_
            refine ob_split (P := f_any (fun j => decide (d9 j = (f_next own amt spt made o nm made))) sp = true) (fun b_57 => ?_) (fun b_57 => ?_)
            · refine lv_if_eq (tgt := 65) hx hb d_K_gather_60 (by decide) (fun c => absurd c (by decide)) (fun _ => ?_)
              have hbad : p_bad (f_pk own amt spt made o) dsp sp j := by first | exact Or.inl (by rw [← hpk]; exact c_48) | exact Or.inr (f_any_app.mp (by rw [← hpk, ← hd9]; exact b_57))
              refine lv_iconst (v := (-1 : Int32)) hx hb d_K_gather_63 (by decide) ?_
              exact ob_iretW (v := (-1 : Int32)) hx hb hr hlocks hQ hS hP (by rw [← hgs, ← hgw, (f_gs_bad (by omega) hbad).1, (f_gs_bad (by omega) hbad).2, hd9]; rfl) (by rw [← hgs, (f_gs_bad (by omega) hbad).1]; rfl) d_K_gather_64
            · refine lv_if_eq (tgt := 65) hx hb d_K_gather_60 (by decide) (fun _ => ?_) (fun c => absurd c (by decide))
              have hnb : ¬ p_bad (f_pk own amt spt made o) dsp sp j := fun h => h.elim (fun z => c_48 (by rw [hpk]; exact z)) (fun z => b_57 (by rw [hd9, hpk]; exact f_any_app.mpr z))
              refine lv_aload_n hx hb d_K_gather_65 rfl (lv_at hl 4 rfl) ?_
              refine va_get (D := (dC, dI)) (ci := 3) (v := .ref (q 7)) (C := R_K) (T := T_K) (N := 6) hx hb hT in_K hown hK hP 0 rfl rfl 1 (by decide) (hT _ k_127) (fun _ h9 => h9) rfl d_K_gather_66 ?_
              refine lv_iload hx hb d_K_gather_69 (lv_at hl 1 rfl) ?_
              refine lv_iload hx hb d_K_gather_71 (lv_at hl 0 rfl) ?_
              refine ob_callWv (va_runV (As := [.int (nI j), .int (f_next own amt spt made o nm made)]) (rest := []) ⟨hx, hb, hml, hown, hT⟩ (c_D_writeToSpend l dC dI q cI cL d9 dow dam dtg sp mk mint j (f_next own amt spt made o nm made) (by omega)) (cwV 2 hT (ob_goodV k_165 k_166 k_167 k_11 k_168) rfl rfl rfl (by decide +kernel) ⟨Nat.le_of_ble_eq_true rfl, Nat.le_of_ble_eq_true rfl⟩) (ob_preVW (wc := wD q cI cL d9 dow dam dtg sp mk mint) (q0 := 0) rfl hK hP hD (fun _ h => absurd h List.not_mem_nil) rfl [7, 8, 9, 10, 11] rfl rfl rfl rfl) rfl rfl hl.1 rfl (lv_room (Nat.le_of_ble_eq_true rfl)) d_K_gather_73 ⟨Nat.zero_le _, Nat.zero_le _⟩) hS hP hD [7, 8, 9, 10, 11] rfl rfl (fun H locs hP hD hS => ?_)
              have hP : va_P (dC, dI) vwCl (wK q cI cL supply pot apl own amt tag mad spt made (upd d9 (sp + j) (f_next own amt spt made o nm made)) dow dam dtg sp mk mint dep sups pots apps row hgt und) H := hP
              have hD : va_D A (wK q cI cL supply pot apl own amt tag mad spt made (upd d9 (sp + j) (f_next own amt spt made o nm made)) dow dam dtg sp mk mint dep sups pots apps row hgt und) := hD
              refine lv_lload hx hb d_K_gather_76 (lv_at hl 3 rfl) ?_
              refine lv_aload_n hx hb d_K_gather_78 rfl (lv_at hl 4 rfl) ?_
              refine va_get (D := (dC, dI)) (ci := 3) (v := .ref (q 1)) (C := R_K) (T := T_K) (N := 6) hx hb hT in_K hown hK hP 0 rfl rfl 0 (by decide) (hT _ k_126) (fun _ h9 => h9) rfl d_K_gather_79 ?_
              refine lv_iload hx hb d_K_gather_82 (lv_at hl 0 rfl) ?_
              refine ob_callL (W.runV (As := [.int (f_next own amt spt made o nm made)]) (rest := [.long lf]) ⟨hx, hb, hml, hown, hT⟩ (c_O_amountOf l dC dI q cI cL own amt tag mad spt made (f_next own amt spt made o nm made) hm) (cwV 1 hT (ob_goodV k_210 k_211 k_212 k_10 k_213) rfl rfl rfl (by decide +kernel) ⟨Nat.le_of_ble_eq_true rfl, Nat.le_of_ble_eq_true rfl⟩) (ob_preV (wc := wO q cI cL own amt tag mad spt made) (q0 := 0) rfl hK hP (fun _ h => absurd h List.not_mem_nil) rfl [1, 2, 3, 4, 5, 6] rfl rfl) rfl rfl hl.1 rfl (lv_room (Nat.le_of_ble_eq_true rfl)) d_K_gather_84 ⟨Nat.zero_le _, Nat.zero_le _⟩) ?_
              refine lv_lsub hx hb d_K_gather_87 ?_
              refine lv_lstore (lv' := [(4, .long (lf - (f_amt amt made (f_next own amt spt made o nm made)))), (6, .int (f_next own amt spt made o nm made)), (8, .int (nI j)), (7, .int (nI (16 - sp))), (0, .ref (q 0)), (1, .int o), (2, .long a)]) hx hb d_K_gather_88 hl (by decide) rfl (fun ls hl => ?_)
              have hlk : lf - f_amt amt made (f_next own amt spt made o nm made) = f_lack amt made (f_pk own amt spt made o) a (j + 1) := by rw [hlf, hpk]; rfl
              refine lv_lload hx hb d_K_gather_90 (lv_at hl 0 rfl) ?_
              refine lv_lconst (v := 0) hx hb d_K_gather_92 (by decide) ?_
              refine W.lcmp hx hb d_K_gather_93 ?_
              refine lv_if_gt (tgt := 113) hx hb d_K_gather_94 (by decide) (fun c_94 => ?_) (fun c_94 => ?_)
              · have c_94 := (lg_cmp_gt _ _).mp c_94
                refine lv_iinc (v := nI (j + 1)) (lv' := [(8, .int (nI (j + 1))), (4, .long (lf - (f_amt amt made (f_next own amt spt made o nm made)))), (6, .int (f_next own amt spt made o nm made)), (7, .int (nI (16 - sp))), (0, .ref (q 0)), (1, .int o), (2, .long a)]) hx hb d_K_gather_113 hl (k := 2) rfl (nI_add j 1) (by decide) rfl (fun ls hl => ?_)
                refine lv_goto (tgt := 26) hx hb d_K_gather_116 (by decide) ?_
                exact ih_26 (j + 1) (f_next own amt spt made o nm made) (lf - (f_amt amt made (f_next own amt spt made o nm made))) (upd d9 (sp + j) (f_next own amt spt made o nm made)) _ _ _ (by omega) (by omega) (by rw [hnm]; rfl) (by rw [hlf, hnm]; rfl) (by rw [hd9, hnm]; rfl) (by rw [← hgs]; exact (f_gs_go (by omega) hnb (by rw [← hlk]; exact fun h => absurd c_94 (Int64.not_lt.mpr h))).1.symm) (by rw [← hgw]; exact (f_gs_go (by omega) hnb (by rw [← hlk]; exact fun h => absurd c_94 (Int64.not_lt.mpr h))).2.symm) hP hD hS (lv_sub hl [0, 3, 2, 1, 4, 5, 6] rfl)
              · have c_94 := mt (lg_cmp_gt _ _).mpr c_94
                refine lv_aload_n hx hb d_K_gather_97 rfl (lv_at hl 4 rfl) ?_
                refine va_get (D := (dC, dI)) (ci := 3) (v := .ref (q 7)) (C := R_K) (T := T_K) (N := 6) hx hb hT in_K hown hK hP 0 rfl rfl 1 (by decide) (hT _ k_127) (fun _ h9 => h9) rfl d_K_gather_98 ?_
                refine lv_iload hx hb d_K_gather_101 (lv_at hl 2 rfl) ?_
                refine lv_iconst (v := nI 1) hx hb d_K_gather_103 (by decide) ?_
                refine lv_iadd hx hb d_K_gather_104 ?_
                refine ob_eqi (nI_add j 1) ?_
                refine ob_callWv (va_runV (As := [.int (nI (j + 1))]) (rest := []) ⟨hx, hb, hml, hown, hT⟩ (c_D_keepToSpend l dC dI q cI cL (upd d9 (sp + j) (f_next own amt spt made o nm made)) dow dam dtg sp mk mint (j + 1) (by omega)) (cwV 1 hT (ob_goodV k_170 k_171 k_172 k_11 k_173) rfl rfl rfl (by decide +kernel) ⟨Nat.le_of_ble_eq_true rfl, Nat.le_of_ble_eq_true rfl⟩) (ob_preVW (wc := wD q cI cL (upd d9 (sp + j) (f_next own amt spt made o nm made)) dow dam dtg sp mk mint) (q0 := 0) rfl hK hP hD (fun _ h => absurd h List.not_mem_nil) rfl [7, 8, 9, 10, 11] rfl rfl rfl rfl) rfl rfl hl.1 rfl (lv_room (Nat.le_of_ble_eq_true rfl)) d_K_gather_105 ⟨Nat.zero_le _, Nat.zero_le _⟩) hS hP hD [7, 8, 9, 10, 11] rfl rfl (fun H locs hP hD hS => ?_)
                have hP : va_P (dC, dI) vwCl (wK q cI cL supply pot apl own amt tag mad spt made (upd d9 (sp + j) (f_next own amt spt made o nm made)) dow dam dtg (sp + (j + 1)) mk mint dep sups pots apps row hgt und) H := hP
                have hD : va_D A (wK q cI cL supply pot apl own amt tag mad spt made (upd d9 (sp + j) (f_next own amt spt made o nm made)) dow dam dtg (sp + (j + 1)) mk mint dep sups pots apps row hgt und) := hD
                refine lv_iload hx hb d_K_gather_108 (lv_at hl 2 rfl) ?_
                refine lv_iconst (v := nI 1) hx hb d_K_gather_110 (by decide) ?_
                refine lv_iadd hx hb d_K_gather_111 ?_
                refine ob_eqi (nI_add j 1) ?_
                exact ob_iretW (v := nI (j + 1)) hx hb hr hlocks hQ hS hP (by rw [← hgs, ← hgw, (f_gs_end (by omega) hnb (by rw [← hlk]; exact Int64.not_lt.mp c_94)).1, (f_gs_end (by omega) hnb (by rw [← hlk]; exact Int64.not_lt.mp c_94)).2, hd9, hpk]; rfl) (by rw [← hgs, (f_gs_end (by omega) hnb (by rw [← hlk]; exact Int64.not_lt.mp c_94)).1]; rfl) d_K_gather_112
    exact key_26 _ 0 (-1 : Int32) a dsp _ _ _ (Nat.lt_succ_self _) (Nat.zero_le _) rfl rfl rfl rfl rfl hP hD hS (lv_sub hl [0, 1, 2, 3, 4, 5, 6] rfl)
  · have c_3 := mt (lg_cmp_ge _ _).mpr c_3
    exact absurd h1 c_3
abbrev rm_K_look : Room := { frames := 3, cells := 0, slots := 0, locals := 64 }
set_option maxHeartbeats 4000000 in
set_option maxRecDepth 100000 in
theorem c_K_look (l : Launch) (dC : Nat → ClassId) (dI : Nat → Nat → Nat) (q : Nat → Nat) (cI cL : ClassId) (supply : Int64) (pot : Int64) (apl : Int32) (own : Nat → Int32) (amt : Nat → Int64) (tag : Nat → Int64) (mad : Nat → Int32) (spt : Nat → Int32) (made : Nat) (dsp : Nat → Int32) (dow : Nat → Int32) (dam : Nat → Int64) (dtg : Nat → Int64) (sp : Nat) (mk : Nat) (mint : Int64) (dep : Nat) (sups : Nat → Int64) (pots : Nat → Int64) (apps : Nat → Int32) (row : Nat) (hgt : Nat) (und : Nat) (w : Int32) (hm : made ≤ 2048) : Met l y_K_look w_K_look rm_K_look (va_Pc [.ref (q 0), .int w] (ob_B (dC, dI) vwCl (wK q cI cL supply pot apl own amt tag mad spt made dsp dow dam dtg sp mk mint dep sups pots apps row hgt und) [(cI, .int), (cL, .long)] ob_N)) (QcReadL (f_look supply pot apl spt made sp mk mint hgt und w)) 0 0 (fun _ => False) := by
  refine ob_ofW (cc := b_K_look) (maxL := 2) (ret := (some .long)) (own := R_K) (by decide) rfl rfl (Nat.le_of_ble_eq_true rfl) ?_
  intro p e s m args below meth c Q hQ hx hb hr hml hT hown hlocks hv ls hl
  obtain ⟨hP, hK, hN⟩ := hv
  have hl : lv_has ls 2 [(0, .ref (q 0)), (1, .int w)] := hl
  refine lv_iload_n hx hb d_K_look_0 rfl (lv_at hl 1 rfl) ?_
  by_cases s_1_0 : w.toInt = 0
  · refine lv_tableIn (off := 55) (tgt := 56) hx hb d_K_look_1 (by omega) (by omega) (by rw [s_1_0]; rfl) (by decide) ?_
    refine lv_aload_n hx hb d_K_look_56 rfl (lv_at hl 0 rfl) ?_
    refine va_get (D := (dC, dI)) (ci := 3) (v := .long supply) (C := R_K) (T := T_K) (N := 6) hx hb hT in_K hown hK hP 0 rfl rfl 3 (by decide) (hT _ k_129) (fun _ h9 => h9) rfl d_K_look_57 ?_
    exact ob_lret (v := supply) hx hb hr hlocks hQ (by rw [f_look, if_pos s_1_0]) d_K_look_60
  by_cases s_1_1 : w.toInt = 1
  · refine lv_tableIn (off := 60) (tgt := 61) hx hb d_K_look_1 (by omega) (by omega) (by rw [s_1_1]; rfl) (by decide) ?_
    refine lv_aload_n hx hb d_K_look_61 rfl (lv_at hl 0 rfl) ?_
    refine va_get (D := (dC, dI)) (ci := 3) (v := .long pot) (C := R_K) (T := T_K) (N := 6) hx hb hT in_K hown hK hP 0 rfl rfl 4 (by decide) (hT _ k_130) (fun _ h9 => h9) rfl d_K_look_62 ?_
    exact ob_lret (v := pot) hx hb hr hlocks hQ (by rw [f_look, if_neg s_1_0, if_pos s_1_1]) d_K_look_65
  by_cases s_1_2 : w.toInt = 2
  · refine lv_tableIn (off := 65) (tgt := 66) hx hb d_K_look_1 (by omega) (by omega) (by rw [s_1_2]; rfl) (by decide) ?_
    refine lv_aload_n hx hb d_K_look_66 rfl (lv_at hl 0 rfl) ?_
    refine va_get (D := (dC, dI)) (ci := 3) (v := .ref (q 12)) (C := R_K) (T := T_K) (N := 6) hx hb hT in_K hown hK hP 0 rfl rfl 2 (by decide) (hT _ k_128) (fun _ h9 => h9) rfl d_K_look_67 ?_
    refine va_getN (D := (dC, dI)) (ci := 0) (v := .int (nI hgt)) (C := R_B) (T := T_B) (N := 7) hx hb hT in_B hown hK hP 12 rfl rfl 5 (by decide) (va_Nw.use rfl (hN _ (List.mem_of_getElem? (i := 14) rfl))) (fun _ h9 => h9) rfl d_K_look_70 ?_
    refine lv_i2l (v := (nI hgt).toInt64) hx hb d_K_look_73 rfl ?_
    exact ob_lret (v := (nI hgt).toInt64) hx hb hr hlocks hQ (by rw [f_look, if_neg s_1_0, if_neg s_1_1, if_pos s_1_2]) d_K_look_74
  by_cases s_1_3 : w.toInt = 3
  · refine lv_tableIn (off := 74) (tgt := 75) hx hb d_K_look_1 (by omega) (by omega) (by rw [s_1_3]; rfl) (by decide) ?_
    refine lv_aload_n hx hb d_K_look_75 rfl (lv_at hl 0 rfl) ?_
    refine va_get (D := (dC, dI)) (ci := 3) (v := .ref (q 1)) (C := R_K) (T := T_K) (N := 6) hx hb hT in_K hown hK hP 0 rfl rfl 0 (by decide) (hT _ k_126) (fun _ h9 => h9) rfl d_K_look_76 ?_
    refine va_getN (D := (dC, dI)) (ci := 2) (v := .int (nI made)) (C := R_O) (T := T_O) (N := 6) hx hb hT in_O hown hK hP 1 rfl rfl 5 (by decide) (va_Nw.use rfl (hN _ (List.mem_of_getElem? (i := 5) rfl))) (fun _ h9 => h9) rfl d_K_look_79 ?_
    refine lv_i2l (v := (nI made).toInt64) hx hb d_K_look_82 rfl ?_
    exact ob_lret (v := (nI made).toInt64) hx hb hr hlocks hQ (by rw [f_look, if_neg s_1_0, if_neg s_1_1, if_neg s_1_2, if_pos s_1_3]) d_K_look_83
  by_cases s_1_4 : w.toInt = 4
  · refine lv_tableIn (off := 83) (tgt := 84) hx hb d_K_look_1 (by omega) (by omega) (by rw [s_1_4]; rfl) (by decide) ?_
    refine lv_aload_n hx hb d_K_look_84 rfl (lv_at hl 0 rfl) ?_
    refine va_get (D := (dC, dI)) (ci := 3) (v := .ref (q 1)) (C := R_K) (T := T_K) (N := 6) hx hb hT in_K hown hK hP 0 rfl rfl 0 (by decide) (hT _ k_126) (fun _ h9 => h9) rfl d_K_look_85 ?_
    refine ob_callR (W.runV (As := []) (rest := []) ⟨hx, hb, hml, hown, hT⟩ (c_O_liveOnes l dC dI q cI cL own amt tag mad spt made hm) (cwV 0 hT (ob_goodV k_312 k_313 k_314 k_10 k_315) rfl rfl rfl (by decide +kernel) ⟨Nat.le_of_ble_eq_true rfl, Nat.le_of_ble_eq_true rfl⟩) (ob_preV (wc := wO q cI cL own amt tag mad spt made) (q0 := 0) rfl hK hP (fun _ h => absurd h List.not_mem_nil) rfl [1, 2, 3, 4, 5, 6] rfl rfl) rfl rfl hl.1 rfl (lv_room (Nat.le_of_ble_eq_true rfl)) d_K_look_88 ⟨Nat.zero_le _, Nat.zero_le _⟩) ?_
    refine lv_i2l (v := (nI (f_cnt (fun j => decide (spt j = -1)) made)).toInt64) hx hb d_K_look_91 rfl ?_
    exact ob_lret (v := (nI (f_cnt (fun j => decide (spt j = -1)) made)).toInt64) hx hb hr hlocks hQ (by rw [f_look, if_neg s_1_0, if_neg s_1_1, if_neg s_1_2, if_neg s_1_3, if_pos s_1_4]) d_K_look_92
  by_cases s_1_5 : w.toInt = 5
  · refine lv_tableIn (off := 92) (tgt := 93) hx hb d_K_look_1 (by omega) (by omega) (by rw [s_1_5]; rfl) (by decide) ?_
    refine lv_aload_n hx hb d_K_look_93 rfl (lv_at hl 0 rfl) ?_
    refine va_get (D := (dC, dI)) (ci := 3) (v := .ref (q 12)) (C := R_K) (T := T_K) (N := 6) hx hb hT in_K hown hK hP 0 rfl rfl 2 (by decide) (hT _ k_128) (fun _ h9 => h9) rfl d_K_look_94 ?_
    refine va_getN (D := (dC, dI)) (ci := 0) (v := .int (nI und)) (C := R_B) (T := T_B) (N := 7) hx hb hT in_B hown hK hP 12 rfl rfl 6 (by decide) (va_Nw.use rfl (hN _ (List.mem_of_getElem? (i := 15) rfl))) (fun _ h9 => h9) rfl d_K_look_97 ?_
    refine lv_i2l (v := (nI und).toInt64) hx hb d_K_look_100 rfl ?_
    exact ob_lret (v := (nI und).toInt64) hx hb hr hlocks hQ (by rw [f_look, if_neg s_1_0, if_neg s_1_1, if_neg s_1_2, if_neg s_1_3, if_neg s_1_4, if_pos s_1_5]) d_K_look_101
  by_cases s_1_6 : w.toInt = 6
  · refine lv_tableIn (off := 101) (tgt := 102) hx hb d_K_look_1 (by omega) (by omega) (by rw [s_1_6]; rfl) (by decide) ?_
    refine lv_aload_n hx hb d_K_look_102 rfl (lv_at hl 0 rfl) ?_
    refine va_get (D := (dC, dI)) (ci := 3) (v := .ref (q 7)) (C := R_K) (T := T_K) (N := 6) hx hb hT in_K hown hK hP 0 rfl rfl 1 (by decide) (hT _ k_127) (fun _ h9 => h9) rfl d_K_look_103 ?_
    refine va_getN (D := (dC, dI)) (ci := 1) (v := .int (nI sp)) (C := R_D) (T := T_D) (N := 7) hx hb hT in_D hown hK hP 7 rfl rfl 4 (by decide) (va_Nw.use rfl (hN _ (List.mem_of_getElem? (i := 11) rfl))) (fun _ h9 => h9) rfl d_K_look_106 ?_
    refine lv_i2l (v := (nI sp).toInt64) hx hb d_K_look_109 rfl ?_
    exact ob_lret (v := (nI sp).toInt64) hx hb hr hlocks hQ (by rw [f_look, if_neg s_1_0, if_neg s_1_1, if_neg s_1_2, if_neg s_1_3, if_neg s_1_4, if_neg s_1_5, if_pos s_1_6]) d_K_look_110
  by_cases s_1_7 : w.toInt = 7
  · refine lv_tableIn (off := 110) (tgt := 111) hx hb d_K_look_1 (by omega) (by omega) (by rw [s_1_7]; rfl) (by decide) ?_
    refine lv_aload_n hx hb d_K_look_111 rfl (lv_at hl 0 rfl) ?_
    refine va_get (D := (dC, dI)) (ci := 3) (v := .ref (q 7)) (C := R_K) (T := T_K) (N := 6) hx hb hT in_K hown hK hP 0 rfl rfl 1 (by decide) (hT _ k_127) (fun _ h9 => h9) rfl d_K_look_112 ?_
    refine va_getN (D := (dC, dI)) (ci := 1) (v := .int (nI mk)) (C := R_D) (T := T_D) (N := 7) hx hb hT in_D hown hK hP 7 rfl rfl 5 (by decide) (va_Nw.use rfl (hN _ (List.mem_of_getElem? (i := 12) rfl))) (fun _ h9 => h9) rfl d_K_look_115 ?_
    refine lv_i2l (v := (nI mk).toInt64) hx hb d_K_look_118 rfl ?_
    exact ob_lret (v := (nI mk).toInt64) hx hb hr hlocks hQ (by rw [f_look, if_neg s_1_0, if_neg s_1_1, if_neg s_1_2, if_neg s_1_3, if_neg s_1_4, if_neg s_1_5, if_neg s_1_6, if_pos s_1_7]) d_K_look_119
  by_cases s_1_8 : w.toInt = 8
  · refine lv_tableIn (off := 119) (tgt := 120) hx hb d_K_look_1 (by omega) (by omega) (by rw [s_1_8]; rfl) (by decide) ?_
    refine lv_aload_n hx hb d_K_look_120 rfl (lv_at hl 0 rfl) ?_
    refine va_get (D := (dC, dI)) (ci := 3) (v := .ref (q 7)) (C := R_K) (T := T_K) (N := 6) hx hb hT in_K hown hK hP 0 rfl rfl 1 (by decide) (hT _ k_127) (fun _ h9 => h9) rfl d_K_look_121 ?_
    refine va_getN (D := (dC, dI)) (ci := 1) (v := .long mint) (C := R_D) (T := T_D) (N := 7) hx hb hT in_D hown hK hP 7 rfl rfl 6 (by decide) (va_Nw.use rfl (hN _ (List.mem_of_getElem? (i := 13) rfl))) (fun _ h9 => h9) rfl d_K_look_124 ?_
    exact ob_lret (v := mint) hx hb hr hlocks hQ (by rw [f_look, if_neg s_1_0, if_neg s_1_1, if_neg s_1_2, if_neg s_1_3, if_neg s_1_4, if_neg s_1_5, if_neg s_1_6, if_neg s_1_7, if_pos s_1_8]) d_K_look_127
  by_cases s_1_9 : w.toInt = 9
  · refine lv_tableIn (off := 127) (tgt := 128) hx hb d_K_look_1 (by omega) (by omega) (by rw [s_1_9]; rfl) (by decide) ?_
    refine lv_aload_n hx hb d_K_look_128 rfl (lv_at hl 0 rfl) ?_
    refine va_get (D := (dC, dI)) (ci := 3) (v := .int apl) (C := R_K) (T := T_K) (N := 6) hx hb hT in_K hown hK hP 0 rfl rfl 5 (by decide) (hT _ k_131) (fun _ h9 => h9) rfl d_K_look_129 ?_
    refine lv_i2l (v := apl.toInt64) hx hb d_K_look_132 rfl ?_
    exact ob_lret (v := apl.toInt64) hx hb hr hlocks hQ (by rw [f_look, if_neg s_1_0, if_neg s_1_1, if_neg s_1_2, if_neg s_1_3, if_neg s_1_4, if_neg s_1_5, if_neg s_1_6, if_neg s_1_7, if_neg s_1_8, if_pos s_1_9]) d_K_look_133
  refine lv_tableOut (tgt := 134) hx hb d_K_look_1 (by omega) (by decide) ?_
  refine lv_ldc2 (v := -1) hx hb hown (hT _ k_203) d_K_look_134 ?_
  exact ob_lret (v := (-1 : Int64)) hx hb hr hlocks hQ (by rw [f_look, if_neg s_1_0, if_neg s_1_1, if_neg s_1_2, if_neg s_1_3, if_neg s_1_4, if_neg s_1_5, if_neg s_1_6, if_neg s_1_7, if_neg s_1_8, if_neg s_1_9]) d_K_look_137
