abbrev rm_D_roomToSpend : Room := { frames := 0, cells := 0, slots := 0, locals := 0 }
set_option maxHeartbeats 4000000 in
set_option maxRecDepth 100000 in
theorem c_D_roomToSpend (l : Launch) (dC : Nat → ClassId) (dI : Nat → Nat → Nat) (q : Nat → Nat) (cI cL : ClassId) (dsp : Nat → Int32) (dow : Nat → Int32) (dam : Nat → Int64) (dtg : Nat → Int64) (sp : Nat) (mk : Nat) (mint : Int64)  (hsp : sp ≤ 16) : Met l y_D_roomToSpend w_D_roomToSpend rm_D_roomToSpend (va_Pc [.ref (q 7)] (ob_B (dC, dI) vwCl (wD q cI cL dsp dow dam dtg sp mk mint) [(cI, .int), (cL, .long)] [])) (QcRead (nI (16 - sp))) 0 0 (fun _ => False) := by
  refine ob_ofW (cc := b_D_roomToSpend) (maxL := 1) (ret := (some .int)) (own := R_D) (by decide) rfl rfl (Nat.le_of_ble_eq_true rfl) ?_
  intro p e s m args below meth c Q hQ hx hb hr hml hT hown hlocks hv ls hl
  obtain ⟨hP, hK, hN⟩ := hv
  have hl : lv_has ls 1 [(0, .ref (q 7))] := hl
  refine lv_bipush (v := nI 16) hx hb d_D_roomToSpend_0 (by decide) ?_
  refine lv_aload_n hx hb d_D_roomToSpend_2 rfl (lv_at hl 0 rfl) ?_
  refine va_get (D := (dC, dI)) (ci := 1) (v := .int (nI sp)) (C := R_D) (T := T_D) (N := 7) hx hb hT in_D hown hK hP 0 rfl rfl 4 (by decide) (hT _ k_69) (fun _ h9 => h9) rfl d_D_roomToSpend_3 ?_
  refine lv_isub hx hb d_D_roomToSpend_6 ?_
  refine ob_eqi (pk_sub (a := 16) (b := sp) (by omega)) ?_
  exact ob_iret (v := nI (16 - sp)) hx hb hr hlocks hQ rfl d_D_roomToSpend_7
abbrev rm_D_roomToMake : Room := { frames := 0, cells := 0, slots := 0, locals := 0 }
set_option maxHeartbeats 4000000 in
set_option maxRecDepth 100000 in
theorem c_D_roomToMake (l : Launch) (dC : Nat → ClassId) (dI : Nat → Nat → Nat) (q : Nat → Nat) (cI cL : ClassId) (dsp : Nat → Int32) (dow : Nat → Int32) (dam : Nat → Int64) (dtg : Nat → Int64) (sp : Nat) (mk : Nat) (mint : Int64)  (hmk : mk ≤ 16) : Met l y_D_roomToMake w_D_roomToMake rm_D_roomToMake (va_Pc [.ref (q 7)] (ob_B (dC, dI) vwCl (wD q cI cL dsp dow dam dtg sp mk mint) [(cI, .int), (cL, .long)] [])) (QcRead (nI (16 - mk))) 0 0 (fun _ => False) := by
  refine ob_ofW (cc := b_D_roomToMake) (maxL := 1) (ret := (some .int)) (own := R_D) (by decide) rfl rfl (Nat.le_of_ble_eq_true rfl) ?_
  intro p e s m args below meth c Q hQ hx hb hr hml hT hown hlocks hv ls hl
  obtain ⟨hP, hK, hN⟩ := hv
  have hl : lv_has ls 1 [(0, .ref (q 7))] := hl
  refine lv_bipush (v := nI 16) hx hb d_D_roomToMake_0 (by decide) ?_
  refine lv_aload_n hx hb d_D_roomToMake_2 rfl (lv_at hl 0 rfl) ?_
  refine va_get (D := (dC, dI)) (ci := 1) (v := .int (nI mk)) (C := R_D) (T := T_D) (N := 7) hx hb hT in_D hown hK hP 0 rfl rfl 5 (by decide) (hT _ k_71) (fun _ h9 => h9) rfl d_D_roomToMake_3 ?_
  refine lv_isub hx hb d_D_roomToMake_6 ?_
  refine ob_eqi (pk_sub (a := 16) (b := mk) (by omega)) ?_
  exact ob_iret (v := nI (16 - mk)) hx hb hr hlocks hQ rfl d_D_roomToMake_7
abbrev rm_D_hasToSpend : Room := { frames := 0, cells := 0, slots := 0, locals := 0 }
set_option maxHeartbeats 4000000 in
set_option maxRecDepth 100000 in
theorem c_D_hasToSpend (l : Launch) (dC : Nat → ClassId) (dI : Nat → Nat → Nat) (q : Nat → Nat) (cI cL : ClassId) (dsp : Nat → Int32) (dow : Nat → Int32) (dam : Nat → Int64) (dtg : Nat → Int64) (sp : Nat) (mk : Nat) (mint : Int64) (x : Int32) (hsp : sp ≤ 16) : Met l y_D_hasToSpend w_D_hasToSpend rm_D_hasToSpend (va_Pc [.ref (q 7), .int x] (ob_B (dC, dI) vwCl (wD q cI cL dsp dow dam dtg sp mk mint) [(cI, .int), (cL, .long)] [])) (QcRead (if f_any (fun j => decide (dsp j = x)) sp = true then nI 1 else nI 0)) 0 0 (fun _ => False) := by
  refine ob_ofW (cc := b_D_hasToSpend) (maxL := 3) (ret := (some .boolean)) (own := R_D) (by decide) rfl rfl (Nat.le_of_ble_eq_true rfl) ?_
  intro p e s m args below meth c Q hQ hx hb hr hml hT hown hlocks hv ls hl
  obtain ⟨hP, hK, hN⟩ := hv
  have hl : lv_has ls 3 [(0, .ref (q 7)), (1, .int x)] := hl
  refine lv_iconst (v := nI 0) hx hb d_D_hasToSpend_0 (by decide) ?_
  refine lv_istore_n (lv' := [(2, .int (nI 0)), (0, .ref (q 7)), (1, .int x)]) hx hb d_D_hasToSpend_1 rfl hl (by decide) rfl (fun ls hl => ?_)
  have key_2 : ∀ (n : Nat) (k : Nat) (ls : Array Slot), sp - k < n → (k ≤ sp) → (¬ f_any (fun j => decide (dsp j = x)) k = true) → lv_has ls 3 [(2, .int (nI k)), (0, .ref (q 7)), (1, .int x)] → W p l e rm_D_hasToSpend s m args below meth c s.heap [] 0 0 Q (F0 m 2 ls []) := by
    intro n_2
    induction n_2 with
    | zero => intro k ls h; exact absurd h (Nat.not_lt_zero _)
    | succ n_2 ih_2 =>
      intro k ls hn_2 hk hno hl
      refine lv_iload_n hx hb d_D_hasToSpend_2 rfl (lv_at hl 0 rfl) ?_
      refine lv_aload_n hx hb d_D_hasToSpend_3 rfl (lv_at hl 1 rfl) ?_
      refine va_get (D := (dC, dI)) (ci := 1) (v := .int (nI sp)) (C := R_D) (T := T_D) (N := 7) hx hb hT in_D hown hK hP 0 rfl rfl 4 (by decide) (hT _ k_69) (fun _ h9 => h9) rfl d_D_hasToSpend_4 ?_
      refine lv_icmp_ge (tgt := 28) hx hb d_D_hasToSpend_7 (by decide) (fun c_7 => ?_) (fun c_7 => ?_)
      · have t_7 := (cv_le (nI_toInt (by omega)) (nI_toInt (by omega))).mp c_7
        refine lv_iconst (v := nI 0) hx hb d_D_hasToSpend_28 (by decide) ?_
        exact ob_zret (v := nI 0) hx hb hr hlocks hQ (by decide) (if_neg (by rw [show sp = k by omega]; exact hno)).symm d_D_hasToSpend_29
      · have t_7 := mt (cv_le (nI_toInt (by omega)) (nI_toInt (by omega))).mpr c_7
        refine lv_aload_n hx hb d_D_hasToSpend_10 rfl (lv_at hl 1 rfl) ?_
        refine va_get (D := (dC, dI)) (ci := 1) (v := .ref (q 8)) (C := R_D) (T := T_D) (N := 7) hx hb hT in_D hown hK hP 0 rfl rfl 0 (by decide) (hT _ k_61) (fun _ h9 => h9) rfl d_D_hasToSpend_11 ?_
        refine lv_iload_n hx hb d_D_hasToSpend_14 rfl (lv_at hl 0 rfl) ?_
        refine ob_iald hx hb hK hP 1 0 rfl rfl (j := k) (nI_clamp (by omega)) (cv_in (nI_toInt (by omega)) (by omega)) d_D_hasToSpend_15 ?_
        refine lv_iload_n hx hb d_D_hasToSpend_16 rfl (lv_at hl 2 rfl) ?_
        refine lv_icmp_ne (tgt := 22) hx hb d_D_hasToSpend_17 (by decide) (fun c_17 => ?_) (fun c_17 => ?_)
        · have t_17 := mt (cv_eq rfl rfl).mpr c_17
          refine lv_iinc (v := nI (k + 1)) (lv' := [(2, .int (nI (k + 1))), (0, .ref (q 7)), (1, .int x)]) hx hb d_D_hasToSpend_22 hl (k := 0) rfl (nI_add k 1) (by decide) rfl (fun ls hl => ?_)
          refine lv_goto (tgt := 2) hx hb d_D_hasToSpend_25 (by decide) ?_
          exact ih_2 (k + 1) _ (by omega) (by omega) (by rw [f_any, Bool.or_eq_true]; exact fun h => h.elim hno (fun z => c_17 (by simpa using z))) (lv_sub hl [0, 1, 2] rfl)
        · have t_17 := (cv_eq rfl rfl).mp c_17
          refine lv_iconst (v := nI 1) hx hb d_D_hasToSpend_20 (by decide) ?_
          exact ob_zret (v := nI 1) hx hb hr hlocks hQ (by decide) (if_pos ((f_any_iff _ _).mpr ⟨k, by omega, by simpa using c_17⟩)).symm d_D_hasToSpend_21
  exact key_2 _ 0 _ (Nat.lt_succ_self _) (Nat.zero_le _) (by simp [f_any]) (lv_sub hl [0, 1, 2] rfl)
abbrev rm_D_writeToSpend : Room := { frames := 1, cells := 0, slots := 0, locals := 20 }
set_option maxHeartbeats 4000000 in
set_option maxRecDepth 100000 in
theorem c_D_writeToSpend (l : Launch) (dC : Nat → ClassId) (dI : Nat → Nat → Nat) (q : Nat → Nat) (cI cL : ClassId) (dsp : Nat → Int32) (dow : Nat → Int32) (dam : Nat → Int64) (dtg : Nat → Int64) (sp : Nat) (mk : Nat) (mint : Int64) (i : Nat) (x : Int32) (hlt : sp + i < 16) : Met l y_D_writeToSpend w_D_writeToSpend rm_D_writeToSpend (va_Pc [.ref (q 7), .int (nI i), .int x] (ob_BW (dC, dI) vwCl (wD q cI cL dsp dow dam dtg sp mk mint) [(cI, .int), (cL, .long)] [])) (va_Qv (fun (_ : Unit) => True) (fun _ t => va_P (dC, dI) vwCl (wD q cI cL (upd dsp (sp + i) x) dow dam dtg sp mk mint) t.heap) (ob_A (wD q cI cL dsp dow dam dtg sp mk mint))) 0 0 (ob_A (wD q cI cL dsp dow dam dtg sp mk mint)) := by
  refine ob_ofW (cc := b_D_writeToSpend) (maxL := 3) (ret := none) (own := R_D) (by decide) rfl rfl (Nat.le_of_ble_eq_true rfl) ?_
  intro p e s m args below meth c Q hQ hx hb hr hml hT hown hlocks hv ls hl
  obtain ⟨⟨hP, hK, hN⟩, hD0⟩ := hv
  have hD := ob_D_self hD0
  generalize hAe : ob_A (wD q cI cL dsp dow dam dtg sp mk mint) = A at hQ hD
  have hS : va_S A s.heap s.heap [] := va_S.rf
  have hl : lv_has ls 3 [(0, .ref (q 7)), (1, .int (nI i)), (2, .int x)] := hl
  refine lv_iload_n hx hb d_D_writeToSpend_0 rfl (lv_at hl 1 rfl) ?_
  refine lv_if_lt (tgt := 24) hx hb d_D_writeToSpend_1 (by decide) (fun c_1 => ?_) (fun c_1 => ?_)
  · have t_1 := (cv_lt (nI_toInt (by omega)) (by decide : (0 : Int32).toInt = 0)).mp c_1
    exact absurd t_1 (by omega)
  · have t_1 := mt (cv_lt (nI_toInt (by omega)) (by decide : (0 : Int32).toInt = 0)).mpr c_1
    refine lv_iload_n hx hb d_D_writeToSpend_4 rfl (lv_at hl 1 rfl) ?_
    refine lv_aload_n hx hb d_D_writeToSpend_5 rfl (lv_at hl 0 rfl) ?_
    refine ob_callR (W.runV (As := []) (rest := [.int (nI i)]) ⟨hx, hb, hml, hown, hT⟩ (c_D_roomToSpend l dC dI q cI cL dsp dow dam dtg sp mk mint (by omega)) (cwV 0 hT (ob_goodV k_169 k_162 k_163 k_11 k_164) rfl rfl rfl (by decide +kernel) ⟨Nat.le_of_ble_eq_true rfl, Nat.le_of_ble_eq_true rfl⟩) (ob_preV (wc := wD q cI cL dsp dow dam dtg sp mk mint) (q0 := 0) rfl hK hP (fun _ h => absurd h List.not_mem_nil) rfl [0, 1, 2, 3, 4] rfl rfl) rfl rfl hl.1 rfl (lv_room (Nat.le_of_ble_eq_true rfl)) d_D_writeToSpend_6 ⟨Nat.zero_le _, Nat.zero_le _⟩) ?_
    refine lv_icmp_ge (tgt := 24) hx hb d_D_writeToSpend_9 (by decide) (fun c_9 => ?_) (fun c_9 => ?_)
    · have t_9 := (cv_le (nI_toInt (by omega)) (nI_toInt (by omega))).mp c_9
      exact absurd t_9 (by omega)
    · have t_9 := mt (cv_le (nI_toInt (by omega)) (nI_toInt (by omega))).mpr c_9
      refine lv_aload_n hx hb d_D_writeToSpend_12 rfl (lv_at hl 0 rfl) ?_
      refine va_get (D := (dC, dI)) (ci := 1) (v := .ref (q 8)) (C := R_D) (T := T_D) (N := 7) hx hb hT in_D hown hK hP 0 rfl rfl 0 (by decide) (hT _ k_61) (fun _ h9 => h9) rfl d_D_writeToSpend_13 ?_
      refine lv_aload_n hx hb d_D_writeToSpend_16 rfl (lv_at hl 0 rfl) ?_
      refine va_get (D := (dC, dI)) (ci := 1) (v := .int (nI sp)) (C := R_D) (T := T_D) (N := 7) hx hb hT in_D hown hK hP 0 rfl rfl 4 (by decide) (hT _ k_69) (fun _ h9 => h9) rfl d_D_writeToSpend_17 ?_
      refine lv_iload_n hx hb d_D_writeToSpend_20 rfl (lv_at hl 1 rfl) ?_
      refine lv_iadd hx hb d_D_writeToSpend_21 ?_
      refine ob_eqi (nI_add sp i) ?_
      refine lv_iload_n hx hb d_D_writeToSpend_22 rfl (lv_at hl 2 rfl) ?_
      refine ob_iast hx hb hK hP hD hS 1 0 rfl rfl (j := sp + i) (nI_clamp (by omega)) (cv_in (nI_toInt (by omega)) (by omega)) d_D_writeToSpend_23 (fun H locs hP hD hS => ?_)
      have hP : va_P (dC, dI) vwCl (wD q cI cL (upd dsp (sp + i) x) dow dam dtg sp mk mint) H := hP
      have hD : va_D A (wD q cI cL (upd dsp (sp + i) x) dow dam dtg sp mk mint) := hD
      exact ob_vretW hx hb hr hlocks hQ hS hP rfl d_D_writeToSpend_24
abbrev rm_D_keepToSpend : Room := { frames := 1, cells := 0, slots := 0, locals := 20 }
set_option maxHeartbeats 4000000 in
set_option maxRecDepth 100000 in
theorem c_D_keepToSpend (l : Launch) (dC : Nat → ClassId) (dI : Nat → Nat → Nat) (q : Nat → Nat) (cI cL : ClassId) (dsp : Nat → Int32) (dow : Nat → Int32) (dam : Nat → Int64) (dtg : Nat → Int64) (sp : Nat) (mk : Nat) (mint : Int64) (i : Nat) (hle : sp + i ≤ 16) : Met l y_D_keepToSpend w_D_keepToSpend rm_D_keepToSpend (va_Pc [.ref (q 7), .int (nI i)] (ob_BW (dC, dI) vwCl (wD q cI cL dsp dow dam dtg sp mk mint) [(cI, .int), (cL, .long)] [])) (va_Qv (fun (_ : Unit) => True) (fun _ t => va_P (dC, dI) vwCl (wD q cI cL dsp dow dam dtg (sp + i) mk mint) t.heap) (ob_A (wD q cI cL dsp dow dam dtg sp mk mint))) 0 0 (ob_A (wD q cI cL dsp dow dam dtg sp mk mint)) := by
  refine ob_ofW (cc := b_D_keepToSpend) (maxL := 2) (ret := none) (own := R_D) (by decide) rfl rfl (Nat.le_of_ble_eq_true rfl) ?_
  intro p e s m args below meth c Q hQ hx hb hr hml hT hown hlocks hv ls hl
  obtain ⟨⟨hP, hK, hN⟩, hD0⟩ := hv
  have hD := ob_D_self hD0
  generalize hAe : ob_A (wD q cI cL dsp dow dam dtg sp mk mint) = A at hQ hD
  have hS : va_S A s.heap s.heap [] := va_S.rf
  have hl : lv_has ls 2 [(0, .ref (q 7)), (1, .int (nI i))] := hl
  refine lv_iload_n hx hb d_D_keepToSpend_0 rfl (lv_at hl 1 rfl) ?_
  refine lv_if_lt (tgt := 22) hx hb d_D_keepToSpend_1 (by decide) (fun c_1 => ?_) (fun c_1 => ?_)
  · have t_1 := (cv_lt (nI_toInt (by omega)) (by decide : (0 : Int32).toInt = 0)).mp c_1
    exact absurd t_1 (by omega)
  · have t_1 := mt (cv_lt (nI_toInt (by omega)) (by decide : (0 : Int32).toInt = 0)).mpr c_1
    refine lv_iload_n hx hb d_D_keepToSpend_4 rfl (lv_at hl 1 rfl) ?_
    refine lv_aload_n hx hb d_D_keepToSpend_5 rfl (lv_at hl 0 rfl) ?_
    refine ob_callR (W.runV (As := []) (rest := [.int (nI i)]) ⟨hx, hb, hml, hown, hT⟩ (c_D_roomToSpend l dC dI q cI cL dsp dow dam dtg sp mk mint (by omega)) (cwV 0 hT (ob_goodV k_169 k_162 k_163 k_11 k_164) rfl rfl rfl (by decide +kernel) ⟨Nat.le_of_ble_eq_true rfl, Nat.le_of_ble_eq_true rfl⟩) (ob_preV (wc := wD q cI cL dsp dow dam dtg sp mk mint) (q0 := 0) rfl hK hP (fun _ h => absurd h List.not_mem_nil) rfl [0, 1, 2, 3, 4] rfl rfl) rfl rfl hl.1 rfl (lv_room (Nat.le_of_ble_eq_true rfl)) d_D_keepToSpend_6 ⟨Nat.zero_le _, Nat.zero_le _⟩) ?_
    refine lv_icmp_gt (tgt := 22) hx hb d_D_keepToSpend_9 (by decide) (fun c_9 => ?_) (fun c_9 => ?_)
    · have t_9 := (cv_lt (nI_toInt (by omega)) (nI_toInt (by omega))).mp c_9
      exact absurd t_9 (by omega)
    · have t_9 := mt (cv_lt (nI_toInt (by omega)) (nI_toInt (by omega))).mpr c_9
      refine lv_aload_n hx hb d_D_keepToSpend_12 rfl (lv_at hl 0 rfl) ?_
      refine lv_dup hx hb d_D_keepToSpend_13 rfl ?_
      refine va_get (D := (dC, dI)) (ci := 1) (v := .int (nI sp)) (C := R_D) (T := T_D) (N := 7) hx hb hT in_D hown hK hP 0 rfl rfl 4 (by decide) (hT _ k_69) (fun _ h9 => h9) rfl d_D_keepToSpend_14 ?_
      refine lv_iload_n hx hb d_D_keepToSpend_17 rfl (lv_at hl 1 rfl) ?_
      refine lv_iadd hx hb d_D_keepToSpend_18 ?_
      refine ob_eqi (nI_add sp i) ?_
      refine va_put (D := (dC, dI)) (ci := 1) (v := .int (nI (sp + i))) (ty := .int) (C := R_D) (T := T_D) (N := 7) hx hb hT in_D t_D t_D_ok n_D hown hK hP hD hS 0 rfl rfl 4 (by decide) (hT _ k_69) (fun _ h9 => h9) rfl (by decide +kernel) rfl rfl (Nat.le_of_ble_eq_true rfl) d_D_keepToSpend_19 (fun H locs hP hD hS => ?_)
      have hP : va_P (dC, dI) vwCl (wD q cI cL dsp dow dam dtg (sp + i) mk mint) H := hP
      have hD : va_D A (wD q cI cL dsp dow dam dtg (sp + i) mk mint) := hD
      exact ob_vretW hx hb hr hlocks hQ hS hP rfl d_D_keepToSpend_22
abbrev rm_D_addToMake : Room := { frames := 1, cells := 0, slots := 0, locals := 20 }
set_option maxHeartbeats 4000000 in
set_option maxRecDepth 100000 in
theorem c_D_addToMake (l : Launch) (dC : Nat → ClassId) (dI : Nat → Nat → Nat) (q : Nat → Nat) (cI cL : ClassId) (dsp : Nat → Int32) (dow : Nat → Int32) (dam : Nat → Int64) (dtg : Nat → Int64) (sp : Nat) (mk : Nat) (mint : Int64) (o : Int32) (a : Int64) (g : Int64) (hlt : mk < 16) : Met l y_D_addToMake w_D_addToMake rm_D_addToMake (va_Pc [.ref (q 7), .int o, .long a, .long g] (ob_BW (dC, dI) vwCl (wD q cI cL dsp dow dam dtg sp mk mint) [(cI, .int), (cL, .long)] [])) (va_Qv (fun (_ : Unit) => True) (fun _ t => va_P (dC, dI) vwCl (wD q cI cL dsp (upd dow mk o) (vp_updL dam mk a) (vp_updL dtg mk g) sp (mk + 1) mint) t.heap) (ob_A (wD q cI cL dsp dow dam dtg sp mk mint))) 0 0 (ob_A (wD q cI cL dsp dow dam dtg sp mk mint)) := by
  refine ob_ofW (cc := b_D_addToMake) (maxL := 6) (ret := none) (own := R_D) (by decide) rfl rfl (Nat.le_of_ble_eq_true rfl) ?_
  intro p e s m args below meth c Q hQ hx hb hr hml hT hown hlocks hv ls hl
  obtain ⟨⟨hP, hK, hN⟩, hD0⟩ := hv
  have hD := ob_D_self hD0
  generalize hAe : ob_A (wD q cI cL dsp dow dam dtg sp mk mint) = A at hQ hD
  have hS : va_S A s.heap s.heap [] := va_S.rf
  have hl : lv_has ls 6 [(0, .ref (q 7)), (1, .int o), (2, .long a), (4, .long g)] := hl
  refine lv_aload_n hx hb d_D_addToMake_0 rfl (lv_at hl 0 rfl) ?_
  refine ob_callR (W.runV (As := []) (rest := []) ⟨hx, hb, hml, hown, hT⟩ (c_D_roomToMake l dC dI q cI cL dsp dow dam dtg sp mk mint (by omega)) (cwV 0 hT (ob_goodV k_186 k_179 k_180 k_11 k_181) rfl rfl rfl (by decide +kernel) ⟨Nat.le_of_ble_eq_true rfl, Nat.le_of_ble_eq_true rfl⟩) (ob_preV (wc := wD q cI cL dsp dow dam dtg sp mk mint) (q0 := 0) rfl hK hP (fun _ h => absurd h List.not_mem_nil) rfl [0, 1, 2, 3, 4] rfl rfl) rfl rfl hl.1 rfl (lv_room (Nat.le_of_ble_eq_true rfl)) d_D_addToMake_1 ⟨Nat.zero_le _, Nat.zero_le _⟩) ?_
  refine lv_iconst (v := nI 1) hx hb d_D_addToMake_4 (by decide) ?_
  refine lv_icmp_ge (tgt := 9) hx hb d_D_addToMake_5 (by decide) (fun c_5 => ?_) (fun c_5 => ?_)
  · have t_5 := (cv_le (nI_toInt (by omega)) (nI_toInt (by omega))).mp c_5
    refine lv_aload_n hx hb d_D_addToMake_9 rfl (lv_at hl 0 rfl) ?_
    refine va_get (D := (dC, dI)) (ci := 1) (v := .ref (q 9)) (C := R_D) (T := T_D) (N := 7) hx hb hT in_D hown hK hP 0 rfl rfl 1 (by decide) (hT _ k_63) (fun _ h9 => h9) rfl d_D_addToMake_10 ?_
    refine lv_aload_n hx hb d_D_addToMake_13 rfl (lv_at hl 0 rfl) ?_
    refine va_get (D := (dC, dI)) (ci := 1) (v := .int (nI mk)) (C := R_D) (T := T_D) (N := 7) hx hb hT in_D hown hK hP 0 rfl rfl 5 (by decide) (hT _ k_71) (fun _ h9 => h9) rfl d_D_addToMake_14 ?_
    refine lv_iload_n hx hb d_D_addToMake_17 rfl (lv_at hl 1 rfl) ?_
    refine ob_iast hx hb hK hP hD hS 2 0 rfl rfl (j := mk) (nI_clamp (by omega)) (cv_in (nI_toInt (by omega)) (by omega)) d_D_addToMake_18 (fun H locs hP hD hS => ?_)
    have hP : va_P (dC, dI) vwCl (wD q cI cL dsp (upd dow mk o) dam dtg sp mk mint) H := hP
    have hD : va_D A (wD q cI cL dsp (upd dow mk o) dam dtg sp mk mint) := hD
    refine lv_aload_n hx hb d_D_addToMake_19 rfl (lv_at hl 0 rfl) ?_
    refine va_get (D := (dC, dI)) (ci := 1) (v := .ref (q 10)) (C := R_D) (T := T_D) (N := 7) hx hb hT in_D hown hK hP 0 rfl rfl 2 (by decide) (hT _ k_65) (fun _ h9 => h9) rfl d_D_addToMake_20 ?_
    refine lv_aload_n hx hb d_D_addToMake_23 rfl (lv_at hl 0 rfl) ?_
    refine va_get (D := (dC, dI)) (ci := 1) (v := .int (nI mk)) (C := R_D) (T := T_D) (N := 7) hx hb hT in_D hown hK hP 0 rfl rfl 5 (by decide) (hT _ k_71) (fun _ h9 => h9) rfl d_D_addToMake_24 ?_
    refine lv_lload_n hx hb d_D_addToMake_27 rfl (lv_at hl 2 rfl) ?_
    refine ob_last hx hb hK hP hD hS 3 1 rfl rfl (j := mk) (nI_clamp (by omega)) (cv_in (nI_toInt (by omega)) (by omega)) d_D_addToMake_28 (fun H locs hP hD hS => ?_)
    have hP : va_P (dC, dI) vwCl (wD q cI cL dsp (upd dow mk o) (vp_updL dam mk a) dtg sp mk mint) H := hP
    have hD : va_D A (wD q cI cL dsp (upd dow mk o) (vp_updL dam mk a) dtg sp mk mint) := hD
    refine lv_aload_n hx hb d_D_addToMake_29 rfl (lv_at hl 0 rfl) ?_
    refine va_get (D := (dC, dI)) (ci := 1) (v := .ref (q 11)) (C := R_D) (T := T_D) (N := 7) hx hb hT in_D hown hK hP 0 rfl rfl 3 (by decide) (hT _ k_67) (fun _ h9 => h9) rfl d_D_addToMake_30 ?_
    refine lv_aload_n hx hb d_D_addToMake_33 rfl (lv_at hl 0 rfl) ?_
    refine va_get (D := (dC, dI)) (ci := 1) (v := .int (nI mk)) (C := R_D) (T := T_D) (N := 7) hx hb hT in_D hown hK hP 0 rfl rfl 5 (by decide) (hT _ k_71) (fun _ h9 => h9) rfl d_D_addToMake_34 ?_
    refine lv_lload hx hb d_D_addToMake_37 (lv_at hl 3 rfl) ?_
    refine ob_last hx hb hK hP hD hS 4 1 rfl rfl (j := mk) (nI_clamp (by omega)) (cv_in (nI_toInt (by omega)) (by omega)) d_D_addToMake_39 (fun H locs hP hD hS => ?_)
    have hP : va_P (dC, dI) vwCl (wD q cI cL dsp (upd dow mk o) (vp_updL dam mk a) (vp_updL dtg mk g) sp mk mint) H := hP
    have hD : va_D A (wD q cI cL dsp (upd dow mk o) (vp_updL dam mk a) (vp_updL dtg mk g) sp mk mint) := hD
    refine lv_aload_n hx hb d_D_addToMake_40 rfl (lv_at hl 0 rfl) ?_
    refine lv_dup hx hb d_D_addToMake_41 rfl ?_
    refine va_get (D := (dC, dI)) (ci := 1) (v := .int (nI mk)) (C := R_D) (T := T_D) (N := 7) hx hb hT in_D hown hK hP 0 rfl rfl 5 (by decide) (hT _ k_71) (fun _ h9 => h9) rfl d_D_addToMake_42 ?_
    refine lv_iconst (v := nI 1) hx hb d_D_addToMake_45 (by decide) ?_
    refine lv_iadd hx hb d_D_addToMake_46 ?_
    refine ob_eqi (nI_add mk 1) ?_
    refine va_put (D := (dC, dI)) (ci := 1) (v := .int (nI (mk + 1))) (ty := .int) (C := R_D) (T := T_D) (N := 7) hx hb hT in_D t_D t_D_ok n_D hown hK hP hD hS 0 rfl rfl 5 (by decide) (hT _ k_71) (fun _ h9 => h9) rfl (by decide +kernel) rfl rfl (Nat.le_of_ble_eq_true rfl) d_D_addToMake_47 (fun H locs hP hD hS => ?_)
    have hP : va_P (dC, dI) vwCl (wD q cI cL dsp (upd dow mk o) (vp_updL dam mk a) (vp_updL dtg mk g) sp (mk + 1) mint) H := hP
    have hD : va_D A (wD q cI cL dsp (upd dow mk o) (vp_updL dam mk a) (vp_updL dtg mk g) sp (mk + 1) mint) := hD
    exact ob_vretW hx hb hr hlocks hQ hS hP rfl d_D_addToMake_50
  · have t_5 := mt (cv_le (nI_toInt (by omega)) (nI_toInt (by omega))).mpr c_5
    exact absurd t_5 (by omega)
abbrev rm_D_clear : Room := { frames := 0, cells := 0, slots := 0, locals := 0 }
set_option maxHeartbeats 4000000 in
set_option maxRecDepth 100000 in
theorem c_D_clear (l : Launch) (dC : Nat → ClassId) (dI : Nat → Nat → Nat) (q : Nat → Nat) (cI cL : ClassId) (dsp : Nat → Int32) (dow : Nat → Int32) (dam : Nat → Int64) (dtg : Nat → Int64) (sp : Nat) (mk : Nat) (mint : Int64)   : Met l y_D_clear w_D_clear rm_D_clear (va_Pc [.ref (q 7)] (ob_BW (dC, dI) vwCl (wD q cI cL dsp dow dam dtg sp mk mint) [(cI, .int), (cL, .long)] [])) (va_Qv (fun (_ : Unit) => True) (fun _ t => va_P (dC, dI) vwCl (wD q cI cL dsp dow dam dtg 0 0 (0 : Int64)) t.heap) (ob_A (wD q cI cL dsp dow dam dtg sp mk mint))) 0 0 (ob_A (wD q cI cL dsp dow dam dtg sp mk mint)) := by
  refine ob_ofW (cc := b_D_clear) (maxL := 1) (ret := none) (own := R_D) (by decide) rfl rfl (Nat.le_of_ble_eq_true rfl) ?_
  intro p e s m args below meth c Q hQ hx hb hr hml hT hown hlocks hv ls hl
  obtain ⟨⟨hP, hK, hN⟩, hD0⟩ := hv
  have hD := ob_D_self hD0
  generalize hAe : ob_A (wD q cI cL dsp dow dam dtg sp mk mint) = A at hQ hD
  have hS : va_S A s.heap s.heap [] := va_S.rf
  have hl : lv_has ls 1 [(0, .ref (q 7))] := hl
  refine lv_aload_n hx hb d_D_clear_0 rfl (lv_at hl 0 rfl) ?_
  refine lv_iconst (v := nI 0) hx hb d_D_clear_1 (by decide) ?_
  refine va_put (D := (dC, dI)) (ci := 1) (v := .int (nI 0)) (ty := .int) (C := R_D) (T := T_D) (N := 7) hx hb hT in_D t_D t_D_ok n_D hown hK hP hD hS 0 rfl rfl 4 (by decide) (hT _ k_69) (fun _ h9 => h9) rfl (by decide +kernel) rfl rfl (Nat.le_of_ble_eq_true rfl) d_D_clear_2 (fun H locs hP hD hS => ?_)
  have hP : va_P (dC, dI) vwCl (wD q cI cL dsp dow dam dtg 0 mk mint) H := hP
  have hD : va_D A (wD q cI cL dsp dow dam dtg 0 mk mint) := hD
  refine lv_aload_n hx hb d_D_clear_5 rfl (lv_at hl 0 rfl) ?_
  refine lv_iconst (v := nI 0) hx hb d_D_clear_6 (by decide) ?_
  refine va_put (D := (dC, dI)) (ci := 1) (v := .int (nI 0)) (ty := .int) (C := R_D) (T := T_D) (N := 7) hx hb hT in_D t_D t_D_ok n_D hown hK hP hD hS 0 rfl rfl 5 (by decide) (hT _ k_71) (fun _ h9 => h9) rfl (by decide +kernel) rfl rfl (Nat.le_of_ble_eq_true rfl) d_D_clear_7 (fun H locs hP hD hS => ?_)
  have hP : va_P (dC, dI) vwCl (wD q cI cL dsp dow dam dtg 0 0 mint) H := hP
  have hD : va_D A (wD q cI cL dsp dow dam dtg 0 0 mint) := hD
  refine lv_aload_n hx hb d_D_clear_10 rfl (lv_at hl 0 rfl) ?_
  refine lv_lconst (v := 0) hx hb d_D_clear_11 (by decide) ?_
  refine va_put (D := (dC, dI)) (ci := 1) (v := .long (0 : Int64)) (ty := .long) (C := R_D) (T := T_D) (N := 7) hx hb hT in_D t_D t_D_ok n_D hown hK hP hD hS 0 rfl rfl 6 (by decide) (hT _ k_74) (fun _ h9 => h9) rfl (by decide +kernel) rfl rfl (Nat.le_of_ble_eq_true rfl) d_D_clear_12 (fun H locs hP hD hS => ?_)
  have hP : va_P (dC, dI) vwCl (wD q cI cL dsp dow dam dtg 0 0 (0 : Int64)) H := hP
  have hD : va_D A (wD q cI cL dsp dow dam dtg 0 0 (0 : Int64)) := hD
  exact ob_vretW hx hb hr hlocks hQ hS hP rfl d_D_clear_15
abbrev rm_B_openNext : Room := { frames := 1, cells := 0, slots := 0, locals := 14 }
set_option maxHeartbeats 4000000 in
set_option maxRecDepth 100000 in
theorem c_B_openNext (l : Launch) (dC : Nat → ClassId) (dI : Nat → Nat → Nat) (q : Nat → Nat) (cI cL : ClassId) (dep : Nat) (sups : Nat → Int64) (pots : Nat → Int64) (apps : Nat → Int32) (row : Nat) (hgt : Nat) (und : Nat) (s9 : Int64) (p9 : Int64) (a9 : Int32) (hrow : row ≤ dep) (hdep : dep ≤ 64) (hhg : hgt ≤ 1000) (hud : und ≤ dep) : Met l y_B_openNext w_B_openNext rm_B_openNext (va_Pc [.ref (q 12), .long s9, .long p9, .int a9] (ob_BW (dC, dI) vwCl (wB q cI cL dep sups pots apps row hgt und) [(cI, .int), (cL, .long)] [])) (va_Qv (fun (_ : Unit) => True) (fun _ t => va_P (dC, dI) vwCl (wB q cI cL dep (vp_updL sups (f_row row dep) s9) (vp_updL pots (f_row row dep) p9) (upd apps (f_row row dep) a9) (f_row row dep) (hgt + 1) (min dep (und + 1))) t.heap) (ob_A (wB q cI cL dep sups pots apps row hgt und))) 0 0 (ob_A (wB q cI cL dep sups pots apps row hgt und)) := by
  refine ob_ofW (cc := b_B_openNext) (maxL := 6) (ret := none) (own := R_B) (by decide) rfl rfl (Nat.le_of_ble_eq_true rfl) ?_
  intro p e s m args below meth c Q hQ hx hb hr hml hT hown hlocks hv ls hl
  obtain ⟨⟨hP, hK, hN⟩, hD0⟩ := hv
  have hD := ob_D_self hD0
  generalize hAe : ob_A (wB q cI cL dep sups pots apps row hgt und) = A at hQ hD
  have hS : va_S A s.heap s.heap [] := va_S.rf
  have hl : lv_has ls 6 [(0, .ref (q 12)), (1, .long s9), (3, .long p9), (5, .int a9)] := hl
  have hfr := f_row_le (row := row) (dep := dep)
  refine lv_aload_n hx hb d_B_openNext_0 rfl (lv_at hl 0 rfl) ?_
  refine lv_aload_n hx hb d_B_openNext_1 rfl (lv_at hl 0 rfl) ?_
  refine va_get (D := (dC, dI)) (ci := 0) (v := .int (nI row)) (C := R_B) (T := T_B) (N := 7) hx hb hT in_B hown hK hP 0 rfl rfl 4 (by decide) (hT _ k_106) (fun _ h9 => h9) rfl d_B_openNext_2 ?_
  refine lv_aload_n hx hb d_B_openNext_5 rfl (lv_at hl 0 rfl) ?_
  refine va_get (D := (dC, dI)) (ci := 0) (v := .int (nI dep)) (C := R_B) (T := T_B) (N := 7) hx hb hT in_B hown hK hP 0 rfl rfl 0 (by decide) (hT _ k_102) (fun _ h9 => h9) rfl d_B_openNext_6 ?_
  refine lv_icmp_ge (tgt := 21) hx hb d_B_openNext_9 (by decide) (fun c_9 => ?_) (fun c_9 => ?_)
  · have t_9 := (cv_le (nI_toInt (by omega)) (nI_toInt (by omega))).mp c_9
    refine lv_iconst (v := nI 0) hx hb d_B_openNext_21 (by decide) ?_
    refine ob_eqi (y := nI (f_row row dep)) (by first | (rw [f_row, if_pos (by omega)]) | (rw [f_row, if_neg (by omega)])) ?_
    refine va_put (D := (dC, dI)) (ci := 0) (v := .int (nI (f_row row dep))) (ty := .int) (C := R_B) (T := T_B) (N := 7) hx hb hT in_B t_B t_B_ok n_B hown hK hP hD hS 0 rfl rfl 4 (by decide) (hT _ k_106) (fun _ h9 => h9) rfl (by decide +kernel) rfl rfl (Nat.le_of_ble_eq_true rfl) d_B_openNext_22 (fun H locs hP hD hS => ?_)
    have hP : va_P (dC, dI) vwCl (wB q cI cL dep sups pots apps (f_row row dep) hgt und) H := hP
    have hD : va_D A (wB q cI cL dep sups pots apps (f_row row dep) hgt und) := hD
    refine lv_aload_n hx hb d_B_openNext_25 rfl (lv_at hl 0 rfl) ?_
    refine va_get (D := (dC, dI)) (ci := 0) (v := .ref (q 13)) (C := R_B) (T := T_B) (N := 7) hx hb hT in_B hown hK hP 0 rfl rfl 1 (by decide) (hT _ k_103) (fun _ h9 => h9) rfl d_B_openNext_26 ?_
    refine lv_aload_n hx hb d_B_openNext_29 rfl (lv_at hl 0 rfl) ?_
    refine va_get (D := (dC, dI)) (ci := 0) (v := .int (nI (f_row row dep))) (C := R_B) (T := T_B) (N := 7) hx hb hT in_B hown hK hP 0 rfl rfl 4 (by decide) (hT _ k_106) (fun _ h9 => h9) rfl d_B_openNext_30 ?_
    refine lv_lload_n hx hb d_B_openNext_33 rfl (lv_at hl 1 rfl) ?_
    refine ob_last hx hb hK hP hD hS 1 1 rfl rfl (j := f_row row dep) (nI_clamp (by omega)) (cv_in (nI_toInt (by omega)) (by omega)) d_B_openNext_34 (fun H locs hP hD hS => ?_)
    have hP : va_P (dC, dI) vwCl (wB q cI cL dep (vp_updL sups (f_row row dep) s9) pots apps (f_row row dep) hgt und) H := hP
    have hD : va_D A (wB q cI cL dep (vp_updL sups (f_row row dep) s9) pots apps (f_row row dep) hgt und) := hD
    refine lv_aload_n hx hb d_B_openNext_35 rfl (lv_at hl 0 rfl) ?_
    refine va_get (D := (dC, dI)) (ci := 0) (v := .ref (q 14)) (C := R_B) (T := T_B) (N := 7) hx hb hT in_B hown hK hP 0 rfl rfl 2 (by decide) (hT _ k_104) (fun _ h9 => h9) rfl d_B_openNext_36 ?_
    refine lv_aload_n hx hb d_B_openNext_39 rfl (lv_at hl 0 rfl) ?_
    refine va_get (D := (dC, dI)) (ci := 0) (v := .int (nI (f_row row dep))) (C := R_B) (T := T_B) (N := 7) hx hb hT in_B hown hK hP 0 rfl rfl 4 (by decide) (hT _ k_106) (fun _ h9 => h9) rfl d_B_openNext_40 ?_
    refine lv_lload_n hx hb d_B_openNext_43 rfl (lv_at hl 2 rfl) ?_
    refine ob_last hx hb hK hP hD hS 2 1 rfl rfl (j := f_row row dep) (nI_clamp (by omega)) (cv_in (nI_toInt (by omega)) (by omega)) d_B_openNext_44 (fun H locs hP hD hS => ?_)
    have hP : va_P (dC, dI) vwCl (wB q cI cL dep (vp_updL sups (f_row row dep) s9) (vp_updL pots (f_row row dep) p9) apps (f_row row dep) hgt und) H := hP
    have hD : va_D A (wB q cI cL dep (vp_updL sups (f_row row dep) s9) (vp_updL pots (f_row row dep) p9) apps (f_row row dep) hgt und) := hD
    refine lv_aload_n hx hb d_B_openNext_45 rfl (lv_at hl 0 rfl) ?_
    refine va_get (D := (dC, dI)) (ci := 0) (v := .ref (q 15)) (C := R_B) (T := T_B) (N := 7) hx hb hT in_B hown hK hP 0 rfl rfl 3 (by decide) (hT _ k_105) (fun _ h9 => h9) rfl d_B_openNext_46 ?_
    refine lv_aload_n hx hb d_B_openNext_49 rfl (lv_at hl 0 rfl) ?_
    refine va_get (D := (dC, dI)) (ci := 0) (v := .int (nI (f_row row dep))) (C := R_B) (T := T_B) (N := 7) hx hb hT in_B hown hK hP 0 rfl rfl 4 (by decide) (hT _ k_106) (fun _ h9 => h9) rfl d_B_openNext_50 ?_
    refine lv_iload hx hb d_B_openNext_53 (lv_at hl 3 rfl) ?_
    refine ob_iast hx hb hK hP hD hS 3 0 rfl rfl (j := f_row row dep) (nI_clamp (by omega)) (cv_in (nI_toInt (by omega)) (by omega)) d_B_openNext_55 (fun H locs hP hD hS => ?_)
    have hP : va_P (dC, dI) vwCl (wB q cI cL dep (vp_updL sups (f_row row dep) s9) (vp_updL pots (f_row row dep) p9) (upd apps (f_row row dep) a9) (f_row row dep) hgt und) H := hP
    have hD : va_D A (wB q cI cL dep (vp_updL sups (f_row row dep) s9) (vp_updL pots (f_row row dep) p9) (upd apps (f_row row dep) a9) (f_row row dep) hgt und) := hD
    refine lv_aload_n hx hb d_B_openNext_56 rfl (lv_at hl 0 rfl) ?_
    refine lv_dup hx hb d_B_openNext_57 rfl ?_
    refine va_get (D := (dC, dI)) (ci := 0) (v := .int (nI hgt)) (C := R_B) (T := T_B) (N := 7) hx hb hT in_B hown hK hP 0 rfl rfl 5 (by decide) (hT _ k_107) (fun _ h9 => h9) rfl d_B_openNext_58 ?_
    refine lv_iconst (v := nI 1) hx hb d_B_openNext_61 (by decide) ?_
    refine lv_iadd hx hb d_B_openNext_62 ?_
    refine ob_eqi (nI_add hgt 1) ?_
    refine va_put (D := (dC, dI)) (ci := 0) (v := .int (nI (hgt + 1))) (ty := .int) (C := R_B) (T := T_B) (N := 7) hx hb hT in_B t_B t_B_ok n_B hown hK hP hD hS 0 rfl rfl 5 (by decide) (hT _ k_107) (fun _ h9 => h9) rfl (by decide +kernel) rfl rfl (Nat.le_of_ble_eq_true rfl) d_B_openNext_63 (fun H locs hP hD hS => ?_)
    have hP : va_P (dC, dI) vwCl (wB q cI cL dep (vp_updL sups (f_row row dep) s9) (vp_updL pots (f_row row dep) p9) (upd apps (f_row row dep) a9) (f_row row dep) (hgt + 1) und) H := hP
    have hD : va_D A (wB q cI cL dep (vp_updL sups (f_row row dep) s9) (vp_updL pots (f_row row dep) p9) (upd apps (f_row row dep) a9) (f_row row dep) (hgt + 1) und) := hD
    refine lv_aload_n hx hb d_B_openNext_66 rfl (lv_at hl 0 rfl) ?_
    refine lv_aload_n hx hb d_B_openNext_67 rfl (lv_at hl 0 rfl) ?_
    refine va_get (D := (dC, dI)) (ci := 0) (v := .int (nI dep)) (C := R_B) (T := T_B) (N := 7) hx hb hT in_B hown hK hP 0 rfl rfl 0 (by decide) (hT _ k_102) (fun _ h9 => h9) rfl d_B_openNext_68 ?_
    refine lv_aload_n hx hb d_B_openNext_71 rfl (lv_at hl 0 rfl) ?_
    refine va_get (D := (dC, dI)) (ci := 0) (v := .int (nI und)) (C := R_B) (T := T_B) (N := 7) hx hb hT in_B hown hK hP 0 rfl rfl 6 (by decide) (hT _ k_109) (fun _ h9 => h9) rfl d_B_openNext_72 ?_
    refine lv_iconst (v := nI 1) hx hb d_B_openNext_75 (by decide) ?_
    refine lv_iadd hx hb d_B_openNext_76 ?_
    refine ob_eqi (nI_add und 1) ?_
    refine va_mmin hx hb (by rw [hml]; exact hl.1.symm) hown (hT _ k_241) (hT _ k_93) (hT _ k_13) (hT _ k_94) (Nat.le_of_ble_eq_true rfl) (Nat.le_of_ble_eq_true rfl) (Nat.zero_le _) (Nat.zero_le _) d_B_openNext_77 ?_
    refine ob_eqi (min_nI (by omega) (by omega)) ?_
    refine va_put (D := (dC, dI)) (ci := 0) (v := .int (nI (min dep (und + 1)))) (ty := .int) (C := R_B) (T := T_B) (N := 7) hx hb hT in_B t_B t_B_ok n_B hown hK hP hD hS 0 rfl rfl 6 (by decide) (hT _ k_109) (fun _ h9 => h9) rfl (by decide +kernel) rfl rfl (Nat.le_of_ble_eq_true rfl) d_B_openNext_80 (fun H locs hP hD hS => ?_)
    have hP : va_P (dC, dI) vwCl (wB q cI cL dep (vp_updL sups (f_row row dep) s9) (vp_updL pots (f_row row dep) p9) (upd apps (f_row row dep) a9) (f_row row dep) (hgt + 1) (min dep (und + 1))) H := hP
    have hD : va_D A (wB q cI cL dep (vp_updL sups (f_row row dep) s9) (vp_updL pots (f_row row dep) p9) (upd apps (f_row row dep) a9) (f_row row dep) (hgt + 1) (min dep (und + 1))) := hD
    exact ob_vretW hx hb hr hlocks hQ hS hP rfl d_B_openNext_83
  · have t_9 := mt (cv_le (nI_toInt (by omega)) (nI_toInt (by omega))).mpr c_9
    refine lv_aload_n hx hb d_B_openNext_12 rfl (lv_at hl 0 rfl) ?_
    refine va_get (D := (dC, dI)) (ci := 0) (v := .int (nI row)) (C := R_B) (T := T_B) (N := 7) hx hb hT in_B hown hK hP 0 rfl rfl 4 (by decide) (hT _ k_106) (fun _ h9 => h9) rfl d_B_openNext_13 ?_
    refine lv_iconst (v := nI 1) hx hb d_B_openNext_16 (by decide) ?_
    refine lv_iadd hx hb d_B_openNext_17 ?_
    refine ob_eqi (nI_add row 1) ?_
    refine lv_goto (tgt := 22) hx hb d_B_openNext_18 (by decide) ?_
    refine ob_eqi (y := nI (f_row row dep)) (by first | (rw [f_row, if_pos (by omega)]) | (rw [f_row, if_neg (by omega)])) ?_
    refine va_put (D := (dC, dI)) (ci := 0) (v := .int (nI (f_row row dep))) (ty := .int) (C := R_B) (T := T_B) (N := 7) hx hb hT in_B t_B t_B_ok n_B hown hK hP hD hS 0 rfl rfl 4 (by decide) (hT _ k_106) (fun _ h9 => h9) rfl (by decide +kernel) rfl rfl (Nat.le_of_ble_eq_true rfl) d_B_openNext_22 (fun H locs hP hD hS => ?_)
    have hP : va_P (dC, dI) vwCl (wB q cI cL dep sups pots apps (f_row row dep) hgt und) H := hP
    have hD : va_D A (wB q cI cL dep sups pots apps (f_row row dep) hgt und) := hD
    refine lv_aload_n hx hb d_B_openNext_25 rfl (lv_at hl 0 rfl) ?_
    refine va_get (D := (dC, dI)) (ci := 0) (v := .ref (q 13)) (C := R_B) (T := T_B) (N := 7) hx hb hT in_B hown hK hP 0 rfl rfl 1 (by decide) (hT _ k_103) (fun _ h9 => h9) rfl d_B_openNext_26 ?_
    refine lv_aload_n hx hb d_B_openNext_29 rfl (lv_at hl 0 rfl) ?_
    refine va_get (D := (dC, dI)) (ci := 0) (v := .int (nI (f_row row dep))) (C := R_B) (T := T_B) (N := 7) hx hb hT in_B hown hK hP 0 rfl rfl 4 (by decide) (hT _ k_106) (fun _ h9 => h9) rfl d_B_openNext_30 ?_
    refine lv_lload_n hx hb d_B_openNext_33 rfl (lv_at hl 1 rfl) ?_
    refine ob_last hx hb hK hP hD hS 1 1 rfl rfl (j := f_row row dep) (nI_clamp (by omega)) (cv_in (nI_toInt (by omega)) (by omega)) d_B_openNext_34 (fun H locs hP hD hS => ?_)
    have hP : va_P (dC, dI) vwCl (wB q cI cL dep (vp_updL sups (f_row row dep) s9) pots apps (f_row row dep) hgt und) H := hP
    have hD : va_D A (wB q cI cL dep (vp_updL sups (f_row row dep) s9) pots apps (f_row row dep) hgt und) := hD
    refine lv_aload_n hx hb d_B_openNext_35 rfl (lv_at hl 0 rfl) ?_
    refine va_get (D := (dC, dI)) (ci := 0) (v := .ref (q 14)) (C := R_B) (T := T_B) (N := 7) hx hb hT in_B hown hK hP 0 rfl rfl 2 (by decide) (hT _ k_104) (fun _ h9 => h9) rfl d_B_openNext_36 ?_
    refine lv_aload_n hx hb d_B_openNext_39 rfl (lv_at hl 0 rfl) ?_
    refine va_get (D := (dC, dI)) (ci := 0) (v := .int (nI (f_row row dep))) (C := R_B) (T := T_B) (N := 7) hx hb hT in_B hown hK hP 0 rfl rfl 4 (by decide) (hT _ k_106) (fun _ h9 => h9) rfl d_B_openNext_40 ?_
    refine lv_lload_n hx hb d_B_openNext_43 rfl (lv_at hl 2 rfl) ?_
    refine ob_last hx hb hK hP hD hS 2 1 rfl rfl (j := f_row row dep) (nI_clamp (by omega)) (cv_in (nI_toInt (by omega)) (by omega)) d_B_openNext_44 (fun H locs hP hD hS => ?_)
    have hP : va_P (dC, dI) vwCl (wB q cI cL dep (vp_updL sups (f_row row dep) s9) (vp_updL pots (f_row row dep) p9) apps (f_row row dep) hgt und) H := hP
    have hD : va_D A (wB q cI cL dep (vp_updL sups (f_row row dep) s9) (vp_updL pots (f_row row dep) p9) apps (f_row row dep) hgt und) := hD
    refine lv_aload_n hx hb d_B_openNext_45 rfl (lv_at hl 0 rfl) ?_
    refine va_get (D := (dC, dI)) (ci := 0) (v := .ref (q 15)) (C := R_B) (T := T_B) (N := 7) hx hb hT in_B hown hK hP 0 rfl rfl 3 (by decide) (hT _ k_105) (fun _ h9 => h9) rfl d_B_openNext_46 ?_
    refine lv_aload_n hx hb d_B_openNext_49 rfl (lv_at hl 0 rfl) ?_
    refine va_get (D := (dC, dI)) (ci := 0) (v := .int (nI (f_row row dep))) (C := R_B) (T := T_B) (N := 7) hx hb hT in_B hown hK hP 0 rfl rfl 4 (by decide) (hT _ k_106) (fun _ h9 => h9) rfl d_B_openNext_50 ?_
    refine lv_iload hx hb d_B_openNext_53 (lv_at hl 3 rfl) ?_
    refine ob_iast hx hb hK hP hD hS 3 0 rfl rfl (j := f_row row dep) (nI_clamp (by omega)) (cv_in (nI_toInt (by omega)) (by omega)) d_B_openNext_55 (fun H locs hP hD hS => ?_)
    have hP : va_P (dC, dI) vwCl (wB q cI cL dep (vp_updL sups (f_row row dep) s9) (vp_updL pots (f_row row dep) p9) (upd apps (f_row row dep) a9) (f_row row dep) hgt und) H := hP
    have hD : va_D A (wB q cI cL dep (vp_updL sups (f_row row dep) s9) (vp_updL pots (f_row row dep) p9) (upd apps (f_row row dep) a9) (f_row row dep) hgt und) := hD
    refine lv_aload_n hx hb d_B_openNext_56 rfl (lv_at hl 0 rfl) ?_
    refine lv_dup hx hb d_B_openNext_57 rfl ?_
    refine va_get (D := (dC, dI)) (ci := 0) (v := .int (nI hgt)) (C := R_B) (T := T_B) (N := 7) hx hb hT in_B hown hK hP 0 rfl rfl 5 (by decide) (hT _ k_107) (fun _ h9 => h9) rfl d_B_openNext_58 ?_
    refine lv_iconst (v := nI 1) hx hb d_B_openNext_61 (by decide) ?_
    refine lv_iadd hx hb d_B_openNext_62 ?_
    refine ob_eqi (nI_add hgt 1) ?_
    refine va_put (D := (dC, dI)) (ci := 0) (v := .int (nI (hgt + 1))) (ty := .int) (C := R_B) (T := T_B) (N := 7) hx hb hT in_B t_B t_B_ok n_B hown hK hP hD hS 0 rfl rfl 5 (by decide) (hT _ k_107) (fun _ h9 => h9) rfl (by decide +kernel) rfl rfl (Nat.le_of_ble_eq_true rfl) d_B_openNext_63 (fun H locs hP hD hS => ?_)
    have hP : va_P (dC, dI) vwCl (wB q cI cL dep (vp_updL sups (f_row row dep) s9) (vp_updL pots (f_row row dep) p9) (upd apps (f_row row dep) a9) (f_row row dep) (hgt + 1) und) H := hP
    have hD : va_D A (wB q cI cL dep (vp_updL sups (f_row row dep) s9) (vp_updL pots (f_row row dep) p9) (upd apps (f_row row dep) a9) (f_row row dep) (hgt + 1) und) := hD
    refine lv_aload_n hx hb d_B_openNext_66 rfl (lv_at hl 0 rfl) ?_
    refine lv_aload_n hx hb d_B_openNext_67 rfl (lv_at hl 0 rfl) ?_
    refine va_get (D := (dC, dI)) (ci := 0) (v := .int (nI dep)) (C := R_B) (T := T_B) (N := 7) hx hb hT in_B hown hK hP 0 rfl rfl 0 (by decide) (hT _ k_102) (fun _ h9 => h9) rfl d_B_openNext_68 ?_
    refine lv_aload_n hx hb d_B_openNext_71 rfl (lv_at hl 0 rfl) ?_
    refine va_get (D := (dC, dI)) (ci := 0) (v := .int (nI und)) (C := R_B) (T := T_B) (N := 7) hx hb hT in_B hown hK hP 0 rfl rfl 6 (by decide) (hT _ k_109) (fun _ h9 => h9) rfl d_B_openNext_72 ?_
    refine lv_iconst (v := nI 1) hx hb d_B_openNext_75 (by decide) ?_
    refine lv_iadd hx hb d_B_openNext_76 ?_
    refine ob_eqi (nI_add und 1) ?_
    refine va_mmin hx hb (by rw [hml]; exact hl.1.symm) hown (hT _ k_241) (hT _ k_93) (hT _ k_13) (hT _ k_94) (Nat.le_of_ble_eq_true rfl) (Nat.le_of_ble_eq_true rfl) (Nat.zero_le _) (Nat.zero_le _) d_B_openNext_77 ?_
    refine ob_eqi (min_nI (by omega) (by omega)) ?_
    refine va_put (D := (dC, dI)) (ci := 0) (v := .int (nI (min dep (und + 1)))) (ty := .int) (C := R_B) (T := T_B) (N := 7) hx hb hT in_B t_B t_B_ok n_B hown hK hP hD hS 0 rfl rfl 6 (by decide) (hT _ k_109) (fun _ h9 => h9) rfl (by decide +kernel) rfl rfl (Nat.le_of_ble_eq_true rfl) d_B_openNext_80 (fun H locs hP hD hS => ?_)
    have hP : va_P (dC, dI) vwCl (wB q cI cL dep (vp_updL sups (f_row row dep) s9) (vp_updL pots (f_row row dep) p9) (upd apps (f_row row dep) a9) (f_row row dep) (hgt + 1) (min dep (und + 1))) H := hP
    have hD : va_D A (wB q cI cL dep (vp_updL sups (f_row row dep) s9) (vp_updL pots (f_row row dep) p9) (upd apps (f_row row dep) a9) (f_row row dep) (hgt + 1) (min dep (und + 1))) := hD
    exact ob_vretW hx hb hr hlocks hQ hS hP rfl d_B_openNext_83
abbrev rm_B_goBack : Room := { frames := 0, cells := 0, slots := 0, locals := 0 }
set_option maxHeartbeats 4000000 in
set_option maxRecDepth 100000 in
theorem c_B_goBack (l : Launch) (dC : Nat → ClassId) (dI : Nat → Nat → Nat) (q : Nat → Nat) (cI cL : ClassId) (dep : Nat) (sups : Nat → Int64) (pots : Nat → Int64) (apps : Nat → Int32) (row : Nat) (hgt : Nat) (und : Nat) (n : Nat) (hrow : row ≤ dep) (hdep : dep ≤ 64) (hhg : hgt ≤ 1000) (hud : und ≤ dep) (huh : und ≤ hgt) (hn : n ≤ und) : Met l y_B_goBack w_B_goBack rm_B_goBack (va_Pc [.ref (q 12), .int (nI n)] (ob_BW (dC, dI) vwCl (wB q cI cL dep sups pots apps row hgt und) [(cI, .int), (cL, .long)] [])) (va_Qv (fun (_ : Unit) => True) (fun _ t => va_P (dC, dI) vwCl (wB q cI cL dep sups pots apps (f_rowb row dep n) (hgt - n) (und - n)) t.heap) (ob_A (wB q cI cL dep sups pots apps row hgt und))) 0 0 (ob_A (wB q cI cL dep sups pots apps row hgt und)) := by
  refine ob_ofW (cc := b_B_goBack) (maxL := 2) (ret := none) (own := R_B) (by decide) rfl rfl (Nat.le_of_ble_eq_true rfl) ?_
  intro p e s m args below meth c Q hQ hx hb hr hml hT hown hlocks hv ls hl
  obtain ⟨⟨hP, hK, hN⟩, hD0⟩ := hv
  have hD := ob_D_self hD0
  generalize hAe : ob_A (wB q cI cL dep sups pots apps row hgt und) = A at hQ hD
  have hS : va_S A s.heap s.heap [] := va_S.rf
  have hl : lv_has ls 2 [(0, .ref (q 12)), (1, .int (nI n))] := hl
  refine lv_iload_n hx hb d_B_goBack_0 rfl (lv_at hl 1 rfl) ?_
  refine lv_if_lt (tgt := 12) hx hb d_B_goBack_1 (by decide) (fun c_1 => ?_) (fun c_1 => ?_)
  · have t_1 := (cv_lt (nI_toInt (by omega)) (by decide : (0 : Int32).toInt = 0)).mp c_1
    exact absurd t_1 (by omega)
  · have t_1 := mt (cv_lt (nI_toInt (by omega)) (by decide : (0 : Int32).toInt = 0)).mpr c_1
    refine lv_iload_n hx hb d_B_goBack_4 rfl (lv_at hl 1 rfl) ?_
    refine lv_aload_n hx hb d_B_goBack_5 rfl (lv_at hl 0 rfl) ?_
    refine va_get (D := (dC, dI)) (ci := 0) (v := .int (nI und)) (C := R_B) (T := T_B) (N := 7) hx hb hT in_B hown hK hP 0 rfl rfl 6 (by decide) (hT _ k_109) (fun _ h9 => h9) rfl d_B_goBack_6 ?_
    refine lv_icmp_le (tgt := 13) hx hb d_B_goBack_9 (by decide) (fun c_9 => ?_) (fun c_9 => ?_)
    · have t_9 := (cv_le (nI_toInt (by omega)) (nI_toInt (by omega))).mp c_9
      refine lv_aload_n hx hb d_B_goBack_13 rfl (lv_at hl 0 rfl) ?_
      refine lv_aload_n hx hb d_B_goBack_14 rfl (lv_at hl 0 rfl) ?_
      refine va_get (D := (dC, dI)) (ci := 0) (v := .int (nI row)) (C := R_B) (T := T_B) (N := 7) hx hb hT in_B hown hK hP 0 rfl rfl 4 (by decide) (hT _ k_106) (fun _ h9 => h9) rfl d_B_goBack_15 ?_
      refine lv_iload_n hx hb d_B_goBack_18 rfl (lv_at hl 1 rfl) ?_
      refine lv_icmp_lt (tgt := 31) hx hb d_B_goBack_19 (by decide) (fun c_19 => ?_) (fun c_19 => ?_)
      · have t_19 := (cv_lt (nI_toInt (by omega)) (nI_toInt (by omega))).mp c_19
        refine lv_aload_n hx hb d_B_goBack_31 rfl (lv_at hl 0 rfl) ?_
        refine va_get (D := (dC, dI)) (ci := 0) (v := .int (nI row)) (C := R_B) (T := T_B) (N := 7) hx hb hT in_B hown hK hP 0 rfl rfl 4 (by decide) (hT _ k_106) (fun _ h9 => h9) rfl d_B_goBack_32 ?_
        refine lv_iload_n hx hb d_B_goBack_35 rfl (lv_at hl 1 rfl) ?_
        refine lv_isub hx hb d_B_goBack_36 ?_
        refine lv_aload_n hx hb d_B_goBack_37 rfl (lv_at hl 0 rfl) ?_
        refine va_get (D := (dC, dI)) (ci := 0) (v := .int (nI dep)) (C := R_B) (T := T_B) (N := 7) hx hb hT in_B hown hK hP 0 rfl rfl 0 (by decide) (hT _ k_102) (fun _ h9 => h9) rfl d_B_goBack_38 ?_
        refine lv_iadd hx hb d_B_goBack_41 ?_
        refine lv_iconst (v := nI 1) hx hb d_B_goBack_42 (by decide) ?_
        refine lv_iadd hx hb d_B_goBack_43 ?_
        refine ob_eqi (y := nI (f_rowb row dep n)) (by first | (rw [f_rowb, if_pos (by omega)]) | (rw [f_rowb, if_neg (by omega)]; exact f_rowb_eq (by omega))) ?_
        refine va_put (D := (dC, dI)) (ci := 0) (v := .int (nI (f_rowb row dep n))) (ty := .int) (C := R_B) (T := T_B) (N := 7) hx hb hT in_B t_B t_B_ok n_B hown hK hP hD hS 0 rfl rfl 4 (by decide) (hT _ k_106) (fun _ h9 => h9) rfl (by decide +kernel) rfl rfl (Nat.le_of_ble_eq_true rfl) d_B_goBack_44 (fun H locs hP hD hS => ?_)
        have hP : va_P (dC, dI) vwCl (wB q cI cL dep sups pots apps (f_rowb row dep n) hgt und) H := hP
        have hD : va_D A (wB q cI cL dep sups pots apps (f_rowb row dep n) hgt und) := hD
        refine lv_aload_n hx hb d_B_goBack_47 rfl (lv_at hl 0 rfl) ?_
        refine lv_dup hx hb d_B_goBack_48 rfl ?_
        refine va_get (D := (dC, dI)) (ci := 0) (v := .int (nI hgt)) (C := R_B) (T := T_B) (N := 7) hx hb hT in_B hown hK hP 0 rfl rfl 5 (by decide) (hT _ k_107) (fun _ h9 => h9) rfl d_B_goBack_49 ?_
        refine lv_iload_n hx hb d_B_goBack_52 rfl (lv_at hl 1 rfl) ?_
        refine lv_isub hx hb d_B_goBack_53 ?_
        refine ob_eqi (pk_sub (a := hgt) (b := n) (by omega)) ?_
        refine va_put (D := (dC, dI)) (ci := 0) (v := .int (nI (hgt - n))) (ty := .int) (C := R_B) (T := T_B) (N := 7) hx hb hT in_B t_B t_B_ok n_B hown hK hP hD hS 0 rfl rfl 5 (by decide) (hT _ k_107) (fun _ h9 => h9) rfl (by decide +kernel) rfl rfl (Nat.le_of_ble_eq_true rfl) d_B_goBack_54 (fun H locs hP hD hS => ?_)
        have hP : va_P (dC, dI) vwCl (wB q cI cL dep sups pots apps (f_rowb row dep n) (hgt - n) und) H := hP
        have hD : va_D A (wB q cI cL dep sups pots apps (f_rowb row dep n) (hgt - n) und) := hD
        refine lv_aload_n hx hb d_B_goBack_57 rfl (lv_at hl 0 rfl) ?_
        refine lv_dup hx hb d_B_goBack_58 rfl ?_
        refine va_get (D := (dC, dI)) (ci := 0) (v := .int (nI und)) (C := R_B) (T := T_B) (N := 7) hx hb hT in_B hown hK hP 0 rfl rfl 6 (by decide) (hT _ k_109) (fun _ h9 => h9) rfl d_B_goBack_59 ?_
        refine lv_iload_n hx hb d_B_goBack_62 rfl (lv_at hl 1 rfl) ?_
        refine lv_isub hx hb d_B_goBack_63 ?_
        refine ob_eqi (pk_sub (a := und) (b := n) (by omega)) ?_
        refine va_put (D := (dC, dI)) (ci := 0) (v := .int (nI (und - n))) (ty := .int) (C := R_B) (T := T_B) (N := 7) hx hb hT in_B t_B t_B_ok n_B hown hK hP hD hS 0 rfl rfl 6 (by decide) (hT _ k_109) (fun _ h9 => h9) rfl (by decide +kernel) rfl rfl (Nat.le_of_ble_eq_true rfl) d_B_goBack_64 (fun H locs hP hD hS => ?_)
        have hP : va_P (dC, dI) vwCl (wB q cI cL dep sups pots apps (f_rowb row dep n) (hgt - n) (und - n)) H := hP
        have hD : va_D A (wB q cI cL dep sups pots apps (f_rowb row dep n) (hgt - n) (und - n)) := hD
        exact ob_vretW hx hb hr hlocks hQ hS hP rfl d_B_goBack_67
      · have t_19 := mt (cv_lt (nI_toInt (by omega)) (nI_toInt (by omega))).mpr c_19
        refine lv_aload_n hx hb d_B_goBack_22 rfl (lv_at hl 0 rfl) ?_
        refine va_get (D := (dC, dI)) (ci := 0) (v := .int (nI row)) (C := R_B) (T := T_B) (N := 7) hx hb hT in_B hown hK hP 0 rfl rfl 4 (by decide) (hT _ k_106) (fun _ h9 => h9) rfl d_B_goBack_23 ?_
        refine lv_iload_n hx hb d_B_goBack_26 rfl (lv_at hl 1 rfl) ?_
        refine lv_isub hx hb d_B_goBack_27 ?_
        refine ob_eqi (pk_sub (a := row) (b := n) (by omega)) ?_
        refine lv_goto (tgt := 44) hx hb d_B_goBack_28 (by decide) ?_
        refine ob_eqi (y := nI (f_rowb row dep n)) (by first | (rw [f_rowb, if_pos (by omega)]) | (rw [f_rowb, if_neg (by omega)]; exact f_rowb_eq (by omega))) ?_
        refine va_put (D := (dC, dI)) (ci := 0) (v := .int (nI (f_rowb row dep n))) (ty := .int) (C := R_B) (T := T_B) (N := 7) hx hb hT in_B t_B t_B_ok n_B hown hK hP hD hS 0 rfl rfl 4 (by decide) (hT _ k_106) (fun _ h9 => h9) rfl (by decide +kernel) rfl rfl (Nat.le_of_ble_eq_true rfl) d_B_goBack_44 (fun H locs hP hD hS => ?_)
        have hP : va_P (dC, dI) vwCl (wB q cI cL dep sups pots apps (f_rowb row dep n) hgt und) H := hP
        have hD : va_D A (wB q cI cL dep sups pots apps (f_rowb row dep n) hgt und) := hD
        refine lv_aload_n hx hb d_B_goBack_47 rfl (lv_at hl 0 rfl) ?_
        refine lv_dup hx hb d_B_goBack_48 rfl ?_
        refine va_get (D := (dC, dI)) (ci := 0) (v := .int (nI hgt)) (C := R_B) (T := T_B) (N := 7) hx hb hT in_B hown hK hP 0 rfl rfl 5 (by decide) (hT _ k_107) (fun _ h9 => h9) rfl d_B_goBack_49 ?_
        refine lv_iload_n hx hb d_B_goBack_52 rfl (lv_at hl 1 rfl) ?_
        refine lv_isub hx hb d_B_goBack_53 ?_
        refine ob_eqi (pk_sub (a := hgt) (b := n) (by omega)) ?_
        refine va_put (D := (dC, dI)) (ci := 0) (v := .int (nI (hgt - n))) (ty := .int) (C := R_B) (T := T_B) (N := 7) hx hb hT in_B t_B t_B_ok n_B hown hK hP hD hS 0 rfl rfl 5 (by decide) (hT _ k_107) (fun _ h9 => h9) rfl (by decide +kernel) rfl rfl (Nat.le_of_ble_eq_true rfl) d_B_goBack_54 (fun H locs hP hD hS => ?_)
        have hP : va_P (dC, dI) vwCl (wB q cI cL dep sups pots apps (f_rowb row dep n) (hgt - n) und) H := hP
        have hD : va_D A (wB q cI cL dep sups pots apps (f_rowb row dep n) (hgt - n) und) := hD
        refine lv_aload_n hx hb d_B_goBack_57 rfl (lv_at hl 0 rfl) ?_
        refine lv_dup hx hb d_B_goBack_58 rfl ?_
        refine va_get (D := (dC, dI)) (ci := 0) (v := .int (nI und)) (C := R_B) (T := T_B) (N := 7) hx hb hT in_B hown hK hP 0 rfl rfl 6 (by decide) (hT _ k_109) (fun _ h9 => h9) rfl d_B_goBack_59 ?_
        refine lv_iload_n hx hb d_B_goBack_62 rfl (lv_at hl 1 rfl) ?_
        refine lv_isub hx hb d_B_goBack_63 ?_
        refine ob_eqi (pk_sub (a := und) (b := n) (by omega)) ?_
        refine va_put (D := (dC, dI)) (ci := 0) (v := .int (nI (und - n))) (ty := .int) (C := R_B) (T := T_B) (N := 7) hx hb hT in_B t_B t_B_ok n_B hown hK hP hD hS 0 rfl rfl 6 (by decide) (hT _ k_109) (fun _ h9 => h9) rfl (by decide +kernel) rfl rfl (Nat.le_of_ble_eq_true rfl) d_B_goBack_64 (fun H locs hP hD hS => ?_)
        have hP : va_P (dC, dI) vwCl (wB q cI cL dep sups pots apps (f_rowb row dep n) (hgt - n) (und - n)) H := hP
        have hD : va_D A (wB q cI cL dep sups pots apps (f_rowb row dep n) (hgt - n) (und - n)) := hD
        exact ob_vretW hx hb hr hlocks hQ hS hP rfl d_B_goBack_67
    · have t_9 := mt (cv_le (nI_toInt (by omega)) (nI_toInt (by omega))).mpr c_9
      exact absurd t_9 (by omega)
abbrev rm_B_supplyAtOpening : Room := { frames := 0, cells := 0, slots := 0, locals := 0 }
set_option maxHeartbeats 4000000 in
set_option maxRecDepth 100000 in
theorem c_B_supplyAtOpening (l : Launch) (dC : Nat → ClassId) (dI : Nat → Nat → Nat) (q : Nat → Nat) (cI cL : ClassId) (dep : Nat) (sups : Nat → Int64) (pots : Nat → Int64) (apps : Nat → Int32) (row : Nat) (hgt : Nat) (und : Nat)  (hrow : row ≤ dep) (hdep : dep ≤ 64) : Met l y_B_supplyAtOpening w_B_supplyAtOpening rm_B_supplyAtOpening (va_Pc [.ref (q 12)] (ob_B (dC, dI) vwCl (wB q cI cL dep sups pots apps row hgt und) [(cI, .int), (cL, .long)] [])) (QcReadL (sups row)) 0 0 (fun _ => False) := by
  refine ob_ofW (cc := b_B_supplyAtOpening) (maxL := 1) (ret := (some .long)) (own := R_B) (by decide) rfl rfl (Nat.le_of_ble_eq_true rfl) ?_
  intro p e s m args below meth c Q hQ hx hb hr hml hT hown hlocks hv ls hl
  obtain ⟨hP, hK, hN⟩ := hv
  have hl : lv_has ls 1 [(0, .ref (q 12))] := hl
  refine lv_aload_n hx hb d_B_supplyAtOpening_0 rfl (lv_at hl 0 rfl) ?_
  refine va_get (D := (dC, dI)) (ci := 0) (v := .ref (q 13)) (C := R_B) (T := T_B) (N := 7) hx hb hT in_B hown hK hP 0 rfl rfl 1 (by decide) (hT _ k_103) (fun _ h9 => h9) rfl d_B_supplyAtOpening_1 ?_
  refine lv_aload_n hx hb d_B_supplyAtOpening_4 rfl (lv_at hl 0 rfl) ?_
  refine va_get (D := (dC, dI)) (ci := 0) (v := .int (nI row)) (C := R_B) (T := T_B) (N := 7) hx hb hT in_B hown hK hP 0 rfl rfl 4 (by decide) (hT _ k_106) (fun _ h9 => h9) rfl d_B_supplyAtOpening_5 ?_
  refine ob_lald hx hb hK hP 1 1 rfl rfl (j := row) (nI_clamp (by omega)) (cv_in (nI_toInt (by omega)) (by omega)) d_B_supplyAtOpening_8 ?_
  exact ob_lret (v := sups row) hx hb hr hlocks hQ rfl d_B_supplyAtOpening_9
abbrev rm_B_potAtOpening : Room := { frames := 0, cells := 0, slots := 0, locals := 0 }
set_option maxHeartbeats 4000000 in
set_option maxRecDepth 100000 in
theorem c_B_potAtOpening (l : Launch) (dC : Nat → ClassId) (dI : Nat → Nat → Nat) (q : Nat → Nat) (cI cL : ClassId) (dep : Nat) (sups : Nat → Int64) (pots : Nat → Int64) (apps : Nat → Int32) (row : Nat) (hgt : Nat) (und : Nat)  (hrow : row ≤ dep) (hdep : dep ≤ 64) : Met l y_B_potAtOpening w_B_potAtOpening rm_B_potAtOpening (va_Pc [.ref (q 12)] (ob_B (dC, dI) vwCl (wB q cI cL dep sups pots apps row hgt und) [(cI, .int), (cL, .long)] [])) (QcReadL (pots row)) 0 0 (fun _ => False) := by
  refine ob_ofW (cc := b_B_potAtOpening) (maxL := 1) (ret := (some .long)) (own := R_B) (by decide) rfl rfl (Nat.le_of_ble_eq_true rfl) ?_
  intro p e s m args below meth c Q hQ hx hb hr hml hT hown hlocks hv ls hl
  obtain ⟨hP, hK, hN⟩ := hv
  have hl : lv_has ls 1 [(0, .ref (q 12))] := hl
  refine lv_aload_n hx hb d_B_potAtOpening_0 rfl (lv_at hl 0 rfl) ?_
  refine va_get (D := (dC, dI)) (ci := 0) (v := .ref (q 14)) (C := R_B) (T := T_B) (N := 7) hx hb hT in_B hown hK hP 0 rfl rfl 2 (by decide) (hT _ k_104) (fun _ h9 => h9) rfl d_B_potAtOpening_1 ?_
  refine lv_aload_n hx hb d_B_potAtOpening_4 rfl (lv_at hl 0 rfl) ?_
  refine va_get (D := (dC, dI)) (ci := 0) (v := .int (nI row)) (C := R_B) (T := T_B) (N := 7) hx hb hT in_B hown hK hP 0 rfl rfl 4 (by decide) (hT _ k_106) (fun _ h9 => h9) rfl d_B_potAtOpening_5 ?_
  refine ob_lald hx hb hK hP 2 1 rfl rfl (j := row) (nI_clamp (by omega)) (cv_in (nI_toInt (by omega)) (by omega)) d_B_potAtOpening_8 ?_
  exact ob_lret (v := pots row) hx hb hr hlocks hQ rfl d_B_potAtOpening_9
abbrev rm_B_appliedAtOpening : Room := { frames := 0, cells := 0, slots := 0, locals := 0 }
set_option maxHeartbeats 4000000 in
set_option maxRecDepth 100000 in
theorem c_B_appliedAtOpening (l : Launch) (dC : Nat → ClassId) (dI : Nat → Nat → Nat) (q : Nat → Nat) (cI cL : ClassId) (dep : Nat) (sups : Nat → Int64) (pots : Nat → Int64) (apps : Nat → Int32) (row : Nat) (hgt : Nat) (und : Nat)  (hrow : row ≤ dep) (hdep : dep ≤ 64) : Met l y_B_appliedAtOpening w_B_appliedAtOpening rm_B_appliedAtOpening (va_Pc [.ref (q 12)] (ob_B (dC, dI) vwCl (wB q cI cL dep sups pots apps row hgt und) [(cI, .int), (cL, .long)] [])) (QcRead (apps row)) 0 0 (fun _ => False) := by
  refine ob_ofW (cc := b_B_appliedAtOpening) (maxL := 1) (ret := (some .int)) (own := R_B) (by decide) rfl rfl (Nat.le_of_ble_eq_true rfl) ?_
  intro p e s m args below meth c Q hQ hx hb hr hml hT hown hlocks hv ls hl
  obtain ⟨hP, hK, hN⟩ := hv
  have hl : lv_has ls 1 [(0, .ref (q 12))] := hl
  refine lv_aload_n hx hb d_B_appliedAtOpening_0 rfl (lv_at hl 0 rfl) ?_
  refine va_get (D := (dC, dI)) (ci := 0) (v := .ref (q 15)) (C := R_B) (T := T_B) (N := 7) hx hb hT in_B hown hK hP 0 rfl rfl 3 (by decide) (hT _ k_105) (fun _ h9 => h9) rfl d_B_appliedAtOpening_1 ?_
  refine lv_aload_n hx hb d_B_appliedAtOpening_4 rfl (lv_at hl 0 rfl) ?_
  refine va_get (D := (dC, dI)) (ci := 0) (v := .int (nI row)) (C := R_B) (T := T_B) (N := 7) hx hb hT in_B hown hK hP 0 rfl rfl 4 (by decide) (hT _ k_106) (fun _ h9 => h9) rfl d_B_appliedAtOpening_5 ?_
  refine ob_iald hx hb hK hP 3 0 rfl rfl (j := row) (nI_clamp (by omega)) (cv_in (nI_toInt (by omega)) (by omega)) d_B_appliedAtOpening_8 ?_
  exact ob_iret (v := apps row) hx hb hr hlocks hQ rfl d_B_appliedAtOpening_9
