abbrev rm_M_isOwner : Room := { frames := 0, cells := 0, slots := 0, locals := 0 }
theorem c_M_isOwner (l : Launch) (o : Int32) : Met l y_M_isOwner w_M_isOwner rm_M_isOwner (va_Pc [.int o] (fun _ => True)) (QcRead (if 0 ≤ o.toInt ∧ o.toInt < 256 then nI 1 else nI 0)) 0 0 (fun _ => False) := by
  refine ob_ofW (cc := b_M_isOwner) (maxL := 1) (ret := (some .boolean)) (own := R_M) (by decide) rfl rfl (Nat.le_of_ble_eq_true rfl) ?_
  intro p e s m args below meth c Q hQ hx hb hr hml hT hown hlocks hv ls hl
  have hl : lv_has ls 1 [(0, .int o)] := hl
  refine lv_iload_n hx hb d_M_isOwner_0 rfl (lv_at hl 0 rfl) ?_
  refine lv_if_lt (tgt := 15) hx hb d_M_isOwner_1 (by decide) (fun c_1 => ?_) (fun c_1 => ?_)
  · have t_1 := (cv_lt rfl (by decide : (0 : Int32).toInt = 0)).mp c_1
    refine lv_iconst (v := nI 0) hx hb d_M_isOwner_15 (by decide) ?_
    exact ob_zret (v := nI 0) hx hb hr hlocks hQ (by decide) (by first | exact (if_pos (by omega)).symm | exact (if_neg (by omega)).symm) d_M_isOwner_16
  · have t_1 := mt (cv_lt rfl (by decide : (0 : Int32).toInt = 0)).mpr c_1
    refine lv_iload_n hx hb d_M_isOwner_4 rfl (lv_at hl 0 rfl) ?_
    refine lv_sipush (v := nI 256) hx hb d_M_isOwner_5 (by decide) ?_
    refine lv_icmp_ge (tgt := 15) hx hb d_M_isOwner_8 (by decide) (fun c_8 => ?_) (fun c_8 => ?_)
    · have t_8 := (cv_le (nI_toInt (by omega)) rfl).mp c_8
      refine lv_iconst (v := nI 0) hx hb d_M_isOwner_15 (by decide) ?_
      exact ob_zret (v := nI 0) hx hb hr hlocks hQ (by decide) (by first | exact (if_pos (by omega)).symm | exact (if_neg (by omega)).symm) d_M_isOwner_16
    · have t_8 := mt (cv_le (nI_toInt (by omega)) rfl).mpr c_8
      refine lv_iconst (v := nI 1) hx hb d_M_isOwner_11 (by decide) ?_
      refine lv_goto (tgt := 16) hx hb d_M_isOwner_12 (by decide) ?_
      exact ob_zret (v := nI 1) hx hb hr hlocks hQ (by decide) (by first | exact (if_pos (by omega)).symm | exact (if_neg (by omega)).symm) d_M_isOwner_16
abbrev rm_M_isMade : Room := { frames := 0, cells := 0, slots := 0, locals := 0 }
set_option maxHeartbeats 4000000 in
set_option maxRecDepth 100000 in
theorem c_M_isMade (l : Launch) (dC : Nat → ClassId) (dI : Nat → Nat → Nat) (q : Nat → Nat) (cI cL : ClassId) (own : Nat → Int32) (amt : Nat → Int64) (tag : Nat → Int64) (mad : Nat → Int32) (spt : Nat → Int32) (made : Nat) (dsp : Nat → Int32) (dow : Nat → Int32) (dam : Nat → Int64) (dtg : Nat → Int64) (sp : Nat) (mk : Nat) (mint : Int64) (dep : Nat) (hgt : Nat) (und : Nat) (supply : Int64) (pot : Int64) (apl : Int32) (fes : Nat → Int64) (mns : Nat → Int64) (tms : Nat → Int32) (pic : Nat → Int32) (x : Int32) (hm : made ≤ 2048) : Met l y_M_isMade w_M_isMade rm_M_isMade (va_Pc [.ref (q 0), .int x] (ob_B (dC, dI) vwCl (wM q cI cL own amt tag mad spt made dsp dow dam dtg sp mk mint dep hgt und supply pot apl fes mns tms pic) [(cI, .int), (cL, .long)] [])) (QcRead (if p_has made x then nI 1 else nI 0)) 0 0 (fun _ => False) := by
  refine ob_ofW (cc := b_M_isMade) (maxL := 2) (ret := (some .boolean)) (own := R_M) (by decide) rfl rfl (Nat.le_of_ble_eq_true rfl) ?_
  intro p e s m args below meth c Q hQ hx hb hr hml hT hown hlocks hv ls hl
  obtain ⟨hP, hK, hN⟩ := hv
  have hl : lv_has ls 2 [(0, .ref (q 0)), (1, .int x)] := hl
  refine lv_iload_n hx hb d_M_isMade_0 rfl (lv_at hl 1 rfl) ?_
  refine lv_if_lt (tgt := 16) hx hb d_M_isMade_1 (by decide) (fun c_1 => ?_) (fun c_1 => ?_)
  · have t_1 := (cv_lt rfl (by decide : (0 : Int32).toInt = 0)).mp c_1
    refine lv_iconst (v := nI 0) hx hb d_M_isMade_16 (by decide) ?_
    exact ob_zret (v := nI 0) hx hb hr hlocks hQ (by decide) (by first | exact (if_pos (by omega)).symm | exact (if_neg (by omega)).symm) d_M_isMade_17
  · have t_1 := mt (cv_lt rfl (by decide : (0 : Int32).toInt = 0)).mpr c_1
    refine lv_iload_n hx hb d_M_isMade_4 rfl (lv_at hl 1 rfl) ?_
    refine lv_aload_n hx hb d_M_isMade_5 rfl (lv_at hl 0 rfl) ?_
    refine va_get (D := (dC, dI)) (ci := 4) (v := .int (nI made)) (C := R_M) (T := T_M) (N := 24) hx hb hT in_M hown hK hP 0 rfl rfl 2 (by decide) (hT _ k_327) (fun _ h9 => h9) rfl d_M_isMade_6 ?_
    refine lv_icmp_ge (tgt := 16) hx hb d_M_isMade_9 (by decide) (fun c_9 => ?_) (fun c_9 => ?_)
    · have t_9 := (cv_le (nI_toInt (by omega)) rfl).mp c_9
      refine lv_iconst (v := nI 0) hx hb d_M_isMade_16 (by decide) ?_
      exact ob_zret (v := nI 0) hx hb hr hlocks hQ (by decide) (by first | exact (if_pos (by omega)).symm | exact (if_neg (by omega)).symm) d_M_isMade_17
    · have t_9 := mt (cv_le (nI_toInt (by omega)) rfl).mpr c_9
      refine lv_iconst (v := nI 1) hx hb d_M_isMade_12 (by decide) ?_
      refine lv_goto (tgt := 17) hx hb d_M_isMade_13 (by decide) ?_
      exact ob_zret (v := nI 1) hx hb hr hlocks hQ (by decide) (by first | exact (if_pos (by omega)).symm | exact (if_neg (by omega)).symm) d_M_isMade_17
abbrev rm_M_isLive : Room := { frames := 1, cells := 0, slots := 0, locals := 21 }
set_option maxHeartbeats 4000000 in
set_option maxRecDepth 100000 in
theorem c_M_isLive (l : Launch) (dC : Nat → ClassId) (dI : Nat → Nat → Nat) (q : Nat → Nat) (cI cL : ClassId) (own : Nat → Int32) (amt : Nat → Int64) (tag : Nat → Int64) (mad : Nat → Int32) (spt : Nat → Int32) (made : Nat) (dsp : Nat → Int32) (dow : Nat → Int32) (dam : Nat → Int64) (dtg : Nat → Int64) (sp : Nat) (mk : Nat) (mint : Int64) (dep : Nat) (hgt : Nat) (und : Nat) (supply : Int64) (pot : Int64) (apl : Int32) (fes : Nat → Int64) (mns : Nat → Int64) (tms : Nat → Int32) (pic : Nat → Int32) (x : Int32) (hm : made ≤ 2048) (hv : ∀ j, spt j = -1 ∨ 0 ≤ (spt j).toInt) : Met l y_M_isLive w_M_isLive rm_M_isLive (va_Pc [.ref (q 0), .int x] (ob_B (dC, dI) vwCl (wM q cI cL own amt tag mad spt made dsp dow dam dtg sp mk mint dep hgt und supply pot apl fes mns tms pic) [(cI, .int), (cL, .long)] [])) (QcRead (if p_live spt made x then nI 1 else nI 0)) 0 0 (fun _ => False) := by
  refine ob_ofW (cc := b_M_isLive) (maxL := 2) (ret := (some .boolean)) (own := R_M) (by decide) rfl rfl (Nat.le_of_ble_eq_true rfl) ?_
  intro p e s m args below meth c Q hQ hx hb hr hml hT hown hlocks hv ls hl
  obtain ⟨hP, hK, hN⟩ := hv
  have hl : lv_has ls 2 [(0, .ref (q 0)), (1, .int x)] := hl
  refine lv_aload_n hx hb d_M_isLive_0 rfl (lv_at hl 0 rfl) ?_
  refine lv_iload_n hx hb d_M_isLive_1 rfl (lv_at hl 1 rfl) ?_
  refine ob_callR (W.runV (As := [.int x]) (rest := []) ⟨hx, hb, hml, hown, hT⟩ (c_M_isMade l dC dI q cI cL own amt tag mad spt made dsp dow dam dtg sp mk mint dep hgt und supply pot apl fes mns tms pic x hm) (cwV 1 hT (ob_goodV k_406 k_408 k_4 k_14 k_409) rfl rfl rfl (by decide +kernel) ⟨Nat.le_of_ble_eq_true rfl, Nat.le_of_ble_eq_true rfl⟩) (ob_preV (wc := wM q cI cL own amt tag mad spt made dsp dow dam dtg sp mk mint dep hgt und supply pot apl fes mns tms pic) (q0 := 0) rfl hK hP (fun _ h => absurd h List.not_mem_nil) rfl [0, 1, 2, 3, 4, 5, 6, 7, 8, 9, 10, 11, 12, 13] rfl rfl) rfl rfl hl.1 rfl (lv_room (Nat.le_of_ble_eq_true rfl)) d_M_isLive_2 ⟨Nat.zero_le _, Nat.zero_le _⟩) ?_
  refine ob_split (P := p_has made x) (fun b_2 => ?_) (fun b_2 => ?_)
  · refine lv_if_eq (tgt := 21) hx hb d_M_isLive_5 (by decide) (fun c => absurd c (by decide)) (fun _ => ?_)
    refine lv_aload_n hx hb d_M_isLive_8 rfl (lv_at hl 0 rfl) ?_
    refine va_get (D := (dC, dI)) (ci := 4) (v := .ref (q 5)) (C := R_M) (T := T_M) (N := 24) hx hb hT in_M hown hK hP 0 rfl rfl 7 (by decide) (hT _ k_332) (fun _ h9 => h9) rfl d_M_isLive_9 ?_
    refine lv_iload_n hx hb d_M_isLive_12 rfl (lv_at hl 1 rfl) ?_
    refine ob_iald hx hb hK hP 5 0 rfl rfl (j := x.toNatClampNeg) rfl (cv_in rfl (by omega)) d_M_isLive_13 ?_
    refine lv_if_ge (tgt := 21) hx hb d_M_isLive_14 (by decide) (fun c_14 => ?_) (fun c_14 => ?_)
    · have t_14 := (cv_le (by decide : (0 : Int32).toInt = 0) rfl).mp c_14
      refine lv_iconst (v := nI 0) hx hb d_M_isLive_21 (by decide) ?_
      exact ob_zret (v := nI 0) hx hb hr hlocks hQ (by decide) (by first | exact (if_pos ⟨b_2, (hv _).resolve_right t_14⟩).symm | exact (if_neg (fun h => absurd t_14 (by rw [h.2]; decide))).symm | exact (if_neg (fun h => b_2 h.1)).symm) d_M_isLive_22
    · have t_14 := mt (cv_le (by decide : (0 : Int32).toInt = 0) rfl).mpr c_14
      refine lv_iconst (v := nI 1) hx hb d_M_isLive_17 (by decide) ?_
      refine lv_goto (tgt := 22) hx hb d_M_isLive_18 (by decide) ?_
      exact ob_zret (v := nI 1) hx hb hr hlocks hQ (by decide) (by first | exact (if_pos ⟨b_2, (hv _).resolve_right t_14⟩).symm | exact (if_neg (fun h => absurd t_14 (by rw [h.2]; decide))).symm | exact (if_neg (fun h => b_2 h.1)).symm) d_M_isLive_22
  · refine lv_if_eq (tgt := 21) hx hb d_M_isLive_5 (by decide) (fun _ => ?_) (fun c => absurd c (by decide))
    refine lv_iconst (v := nI 0) hx hb d_M_isLive_21 (by decide) ?_
    exact ob_zret (v := nI 0) hx hb hr hlocks hQ (by decide) (by first | exact (if_pos ⟨b_2, (hv _).resolve_right t_14⟩).symm | exact (if_neg (fun h => absurd t_14 (by rw [h.2]; decide))).symm | exact (if_neg (fun h => b_2 h.1)).symm) d_M_isLive_22
abbrev rm_M_isDrafted : Room := { frames := 0, cells := 0, slots := 0, locals := 0 }
set_option maxHeartbeats 4000000 in
set_option maxRecDepth 100000 in
theorem c_M_isDrafted (l : Launch) (dC : Nat → ClassId) (dI : Nat → Nat → Nat) (q : Nat → Nat) (cI cL : ClassId) (own : Nat → Int32) (amt : Nat → Int64) (tag : Nat → Int64) (mad : Nat → Int32) (spt : Nat → Int32) (made : Nat) (dsp : Nat → Int32) (dow : Nat → Int32) (dam : Nat → Int64) (dtg : Nat → Int64) (sp : Nat) (mk : Nat) (mint : Int64) (dep : Nat) (hgt : Nat) (und : Nat) (supply : Int64) (pot : Int64) (apl : Int32) (fes : Nat → Int64) (mns : Nat → Int64) (tms : Nat → Int32) (pic : Nat → Int32) (x : Int32) (hsp : sp ≤ 16) : Met l y_M_isDrafted w_M_isDrafted rm_M_isDrafted (va_Pc [.ref (q 0), .int x] (ob_B (dC, dI) vwCl (wM q cI cL own amt tag mad spt made dsp dow dam dtg sp mk mint dep hgt und supply pot apl fes mns tms pic) [(cI, .int), (cL, .long)] [])) (QcRead (if f_any (fun z9 => decide (dsp z9 = x)) sp = true then nI 1 else nI 0)) 0 0 (fun _ => False) := by
  refine ob_ofW (cc := b_M_isDrafted) (maxL := 4) (ret := (some .boolean)) (own := R_M) (by decide) rfl rfl (Nat.le_of_ble_eq_true rfl) ?_
  intro p e s m args below meth c Q hQ hx hb hr hml hT hown hlocks hv ls hl
  obtain ⟨hP, hK, hN⟩ := hv
  have hl : lv_has ls 4 [(0, .ref (q 0)), (1, .int x)] := hl
  refine lv_iconst (v := nI 0) hx hb d_M_isDrafted_0 (by decide) ?_
  refine lv_istore_n (lv' := [(2, .int (nI 0)), (0, .ref (q 0)), (1, .int x)]) hx hb d_M_isDrafted_1 rfl hl (by decide) rfl (fun ls hl => ?_)
  refine lv_iconst (v := nI 0) hx hb d_M_isDrafted_2 (by decide) ?_
  refine lv_istore_n (lv' := [(3, .int (nI 0)), (2, .int (nI 0)), (0, .ref (q 0)), (1, .int x)]) hx hb d_M_isDrafted_3 rfl hl (by decide) rfl (fun ls hl => ?_)
  have key_4 : ∀ (n : Nat) (k : Nat) (is9 : Int32) (ls : Array Slot), sp - k < n → (k ≤ sp) → (is9 = if f_any (fun j => decide (dsp j = x)) k = true then nI 1 else nI 0) → lv_has ls 4 [(3, .int (nI k)), (2, .int is9), (0, .ref (q 0)), (1, .int x)] → W p l e rm_M_isDrafted s m args below meth c s.heap [] 0 0 Q (F0 m 4 ls []) := by
    intro n_4
    induction n_4 with
    | zero => intro k is9 ls h; exact absurd h (Nat.not_lt_zero _)
    | succ n_4 ih_4 =>
      intro k is9 ls hn_4 hk his hl
      refine lv_iload_n hx hb d_M_isDrafted_4 rfl (lv_at hl 0 rfl) ?_
      refine lv_aload_n hx hb d_M_isDrafted_5 rfl (lv_at hl 2 rfl) ?_
      refine va_get (D := (dC, dI)) (ci := 4) (v := .int (nI sp)) (C := R_M) (T := T_M) (N := 24) hx hb hT in_M hown hK hP 0 rfl rfl 16 (by decide) (hT _ k_341) (fun _ h9 => h9) rfl d_M_isDrafted_6 ?_
      refine lv_icmp_ge (tgt := 38) hx hb d_M_isDrafted_9 (by decide) (fun c_9 => ?_) (fun c_9 => ?_)
      · have t_9 := (cv_le (nI_toInt (by omega)) (nI_toInt (by omega))).mp c_9
        refine lv_iload_n hx hb d_M_isDrafted_38 rfl (lv_at hl 1 rfl) ?_
        exact ob_zret (v := is9) hx hb hr hlocks hQ (by rw [his]; exact b2_z) (by rw [his, show k = sp by omega]) d_M_isDrafted_39
      · have t_9 := mt (cv_le (nI_toInt (by omega)) (nI_toInt (by omega))).mpr c_9
        refine lv_iload_n hx hb d_M_isDrafted_12 rfl (lv_at hl 1 rfl) ?_
        refine lv_if_ne (tgt := 26) hx hb d_M_isDrafted_13 (by decide) (fun c_13 => ?_) (fun c_13 => ?_)
        · have t_13 := mt (cv_eq rfl (by decide : (0 : Int32).toInt = 0)).mpr c_13
          refine lv_iconst (v := nI 1) hx hb d_M_isDrafted_26 (by decide) ?_
          refine lv_goto (tgt := 31) hx hb d_M_isDrafted_27 (by decide) ?_
          refine lv_istore_n (lv' := [(2, .int (nI 1)), (3, .int (nI k)), (0, .ref (q 0)), (1, .int x)]) hx hb d_M_isDrafted_31 rfl hl (by decide) rfl (fun ls hl => ?_)
          refine lv_iinc (v := nI (k + 1)) (lv' := [(3, .int (nI (k + 1))), (2, .int (nI 1)), (0, .ref (q 0)), (1, .int x)]) hx hb d_M_isDrafted_32 hl (k := 1) rfl (nI_add k 1) (by decide) rfl (fun ls hl => ?_)
          refine lv_goto (tgt := 4) hx hb d_M_isDrafted_35 (by decide) ?_
          exact ih_4 (k + 1) (nI 1) _ (by omega) (by omega) (by first | exact (if_pos (any_s.mpr (Or.inl (b2_ne (by rw [← his]; exact c_13))))).symm | exact (if_pos (any_s.mpr (Or.inr (by simpa using c_23)))).symm | exact (if_neg (fun h => (any_s.mp h).elim (b2_eq (by rw [← his]; exact c_13)) (fun z => c_23 (by simpa using z)))).symm) (lv_sub hl [0, 1, 2, 3] rfl)
        · have t_13 := (cv_eq rfl (by decide : (0 : Int32).toInt = 0)).mp c_13
          refine lv_aload_n hx hb d_M_isDrafted_16 rfl (lv_at hl 2 rfl) ?_
          refine va_get (D := (dC, dI)) (ci := 4) (v := .ref (q 9)) (C := R_M) (T := T_M) (N := 24) hx hb hT in_M hown hK hP 0 rfl rfl 17 (by decide) (hT _ k_342) (fun _ h9 => h9) rfl d_M_isDrafted_17 ?_
          refine lv_iload_n hx hb d_M_isDrafted_20 rfl (lv_at hl 0 rfl) ?_
          refine ob_iald hx hb hK hP 9 0 rfl rfl (j := k) (nI_clamp (by omega)) (cv_in (nI_toInt (by omega)) (by omega)) d_M_isDrafted_21 ?_
          refine lv_iload_n hx hb d_M_isDrafted_22 rfl (lv_at hl 3 rfl) ?_
          refine lv_icmp_ne (tgt := 30) hx hb d_M_isDrafted_23 (by decide) (fun c_23 => ?_) (fun c_23 => ?_)
          · have t_23 := mt (cv_eq rfl rfl).mpr c_23
            refine lv_iconst (v := nI 0) hx hb d_M_isDrafted_30 (by decide) ?_
            refine lv_istore_n (lv' := [(2, .int (nI 0)), (3, .int (nI k)), (0, .ref (q 0)), (1, .int x)]) hx hb d_M_isDrafted_31 rfl hl (by decide) rfl (fun ls hl => ?_)
            refine lv_iinc (v := nI (k + 1)) (lv' := [(3, .int (nI (k + 1))), (2, .int (nI 0)), (0, .ref (q 0)), (1, .int x)]) hx hb d_M_isDrafted_32 hl (k := 1) rfl (nI_add k 1) (by decide) rfl (fun ls hl => ?_)
            refine lv_goto (tgt := 4) hx hb d_M_isDrafted_35 (by decide) ?_
            exact ih_4 (k + 1) (nI 0) _ (by omega) (by omega) (by first | exact (if_pos (any_s.mpr (Or.inl (b2_ne (by rw [← his]; exact c_13))))).symm | exact (if_pos (any_s.mpr (Or.inr (by simpa using c_23)))).symm | exact (if_neg (fun h => (any_s.mp h).elim (b2_eq (by rw [← his]; exact c_13)) (fun z => c_23 (by simpa using z)))).symm) (lv_sub hl [0, 1, 2, 3] rfl)
          · have t_23 := (cv_eq rfl rfl).mp c_23
            refine lv_iconst (v := nI 1) hx hb d_M_isDrafted_26 (by decide) ?_
            refine lv_goto (tgt := 31) hx hb d_M_isDrafted_27 (by decide) ?_
            refine lv_istore_n (lv' := [(2, .int (nI 1)), (3, .int (nI k)), (0, .ref (q 0)), (1, .int x)]) hx hb d_M_isDrafted_31 rfl hl (by decide) rfl (fun ls hl => ?_)
            refine lv_iinc (v := nI (k + 1)) (lv' := [(3, .int (nI (k + 1))), (2, .int (nI 1)), (0, .ref (q 0)), (1, .int x)]) hx hb d_M_isDrafted_32 hl (k := 1) rfl (nI_add k 1) (by decide) rfl (fun ls hl => ?_)
            refine lv_goto (tgt := 4) hx hb d_M_isDrafted_35 (by decide) ?_
            exact ih_4 (k + 1) (nI 1) _ (by omega) (by omega) (by first | exact (if_pos (any_s.mpr (Or.inl (b2_ne (by rw [← his]; exact c_13))))).symm | exact (if_pos (any_s.mpr (Or.inr (by simpa using c_23)))).symm | exact (if_neg (fun h => (any_s.mp h).elim (b2_eq (by rw [← his]; exact c_13)) (fun z => c_23 (by simpa using z)))).symm) (lv_sub hl [0, 1, 2, 3] rfl)
  exact key_4 _ 0 (nI 0) _ (Nat.lt_succ_self _) (Nat.zero_le _) rfl (lv_sub hl [0, 1, 2, 3] rfl)
abbrev rm_M_empty : Room := { frames := 0, cells := 0, slots := 0, locals := 0 }
set_option maxHeartbeats 4000000 in
set_option maxRecDepth 100000 in
theorem c_M_empty (l : Launch) (dC : Nat → ClassId) (dI : Nat → Nat → Nat) (q : Nat → Nat) (cI cL : ClassId) (own : Nat → Int32) (amt : Nat → Int64) (tag : Nat → Int64) (mad : Nat → Int32) (spt : Nat → Int32) (made : Nat) (dsp : Nat → Int32) (dow : Nat → Int32) (dam : Nat → Int64) (dtg : Nat → Int64) (sp : Nat) (mk : Nat) (mint : Int64) (dep : Nat) (hgt : Nat) (und : Nat) (supply : Int64) (pot : Int64) (apl : Int32) (fes : Nat → Int64) (mns : Nat → Int64) (tms : Nat → Int32) (pic : Nat → Int32)   : Met l y_M_empty w_M_empty rm_M_empty (va_Pc [.ref (q 0)] (ob_BW (dC, dI) vwCl (wM q cI cL own amt tag mad spt made dsp dow dam dtg sp mk mint dep hgt und supply pot apl fes mns tms pic) [(cI, .int), (cL, .long)] [])) (va_Qv (fun (_ : Unit) => True) (fun _ t => va_P (dC, dI) vwCl (wM q cI cL own amt tag mad spt made dsp dow dam dtg 0 0 (0 : Int64) dep hgt und supply pot apl fes mns tms pic) t.heap) (ob_A (wM q cI cL own amt tag mad spt made dsp dow dam dtg sp mk mint dep hgt und supply pot apl fes mns tms pic))) 0 0 (ob_A (wM q cI cL own amt tag mad spt made dsp dow dam dtg sp mk mint dep hgt und supply pot apl fes mns tms pic)) := by
  refine ob_ofW (cc := b_M_empty) (maxL := 1) (ret := none) (own := R_M) (by decide) rfl rfl (Nat.le_of_ble_eq_true rfl) ?_
  intro p e s m args below meth c Q hQ hx hb hr hml hT hown hlocks hv ls hl
  obtain ⟨⟨hP, hK, hN⟩, hD0⟩ := hv
  have hD := ob_D_self hD0
  generalize hAe : ob_A (wM q cI cL own amt tag mad spt made dsp dow dam dtg sp mk mint dep hgt und supply pot apl fes mns tms pic) = A at hQ hD
  have hS : va_S A s.heap s.heap [] := va_S.rf
  have hl : lv_has ls 1 [(0, .ref (q 0))] := hl
  refine lv_aload_n hx hb d_M_empty_0 rfl (lv_at hl 0 rfl) ?_
  refine lv_iconst (v := nI 0) hx hb d_M_empty_1 (by decide) ?_
  refine va_put (D := (dC, dI)) (ci := 4) (v := .int (nI 0)) (ty := .int) (C := R_M) (T := T_M) (N := 24) hx hb hT in_M t_M t_M_ok n_M hown hK hP hD hS 0 rfl rfl 16 (by decide) (hT _ k_341) (fun _ h9 => h9) rfl (by decide +kernel) rfl rfl (Nat.le_of_ble_eq_true rfl) d_M_empty_2 (fun H locs hP hD hS => ?_)
  have hP : va_P (dC, dI) vwCl (wM q cI cL own amt tag mad spt made dsp dow dam dtg 0 mk mint dep hgt und supply pot apl fes mns tms pic) H := hP
  have hD : va_D A (wM q cI cL own amt tag mad spt made dsp dow dam dtg 0 mk mint dep hgt und supply pot apl fes mns tms pic) := hD
  refine lv_aload_n hx hb d_M_empty_5 rfl (lv_at hl 0 rfl) ?_
  refine lv_iconst (v := nI 0) hx hb d_M_empty_6 (by decide) ?_
  refine va_put (D := (dC, dI)) (ci := 4) (v := .int (nI 0)) (ty := .int) (C := R_M) (T := T_M) (N := 24) hx hb hT in_M t_M t_M_ok n_M hown hK hP hD hS 0 rfl rfl 18 (by decide) (hT _ k_343) (fun _ h9 => h9) rfl (by decide +kernel) rfl rfl (Nat.le_of_ble_eq_true rfl) d_M_empty_7 (fun H locs hP hD hS => ?_)
  have hP : va_P (dC, dI) vwCl (wM q cI cL own amt tag mad spt made dsp dow dam dtg 0 0 mint dep hgt und supply pot apl fes mns tms pic) H := hP
  have hD : va_D A (wM q cI cL own amt tag mad spt made dsp dow dam dtg 0 0 mint dep hgt und supply pot apl fes mns tms pic) := hD
  refine lv_aload_n hx hb d_M_empty_10 rfl (lv_at hl 0 rfl) ?_
  refine lv_lconst (v := 0) hx hb d_M_empty_11 (by decide) ?_
  refine va_put (D := (dC, dI)) (ci := 4) (v := .long (0 : Int64)) (ty := .long) (C := R_M) (T := T_M) (N := 24) hx hb hT in_M t_M t_M_ok n_M hown hK hP hD hS 0 rfl rfl 22 (by decide) (hT _ k_347) (fun _ h9 => h9) rfl (by decide +kernel) rfl rfl (Nat.le_of_ble_eq_true rfl) d_M_empty_12 (fun H locs hP hD hS => ?_)
  have hP : va_P (dC, dI) vwCl (wM q cI cL own amt tag mad spt made dsp dow dam dtg 0 0 (0 : Int64) dep hgt und supply pot apl fes mns tms pic) H := hP
  have hD : va_D A (wM q cI cL own amt tag mad spt made dsp dow dam dtg 0 0 (0 : Int64) dep hgt und supply pot apl fes mns tms pic) := hD
  exact ob_vretW hx hb hr hlocks hQ hS hP rfl d_M_empty_15
abbrev rm_M_spend_t : Room := { frames := 2, cells := 0, slots := 0, locals := 42 }
set_option maxHeartbeats 4000000 in
set_option maxRecDepth 100000 in
theorem c_M_spend_t (l : Launch) (dC : Nat → ClassId) (dI : Nat → Nat → Nat) (q : Nat → Nat) (cI cL : ClassId) (own : Nat → Int32) (amt : Nat → Int64) (tag : Nat → Int64) (mad : Nat → Int32) (spt : Nat → Int32) (made : Nat) (dsp : Nat → Int32) (dow : Nat → Int32) (dam : Nat → Int64) (dtg : Nat → Int64) (sp : Nat) (mk : Nat) (mint : Int64) (dep : Nat) (hgt : Nat) (und : Nat) (supply : Int64) (pot : Int64) (apl : Int32) (fes : Nat → Int64) (mns : Nat → Int64) (tms : Nat → Int32) (pic : Nat → Int32) (x : Int32) (hm : made ≤ 2048) (hv : ∀ j, spt j = -1 ∨ 0 ≤ (spt j).toInt) (hsp : sp ≤ 16) (h1 : p_live spt made x) (h2 : ¬ f_any (fun j => decide (dsp j = x)) sp = true) (h3 : sp < 16) : Met l y_M_spend w_M_spend rm_M_spend_t (va_Pc [.ref (q 0), .int x] (ob_BW (dC, dI) vwCl (wM q cI cL own amt tag mad spt made dsp dow dam dtg sp mk mint dep hgt und supply pot apl fes mns tms pic) [(cI, .int), (cL, .long)] [])) (va_Qi (fun (r : Int32) (_ : Unit) => r = nI 1) (fun _ t => va_P (dC, dI) vwCl (wM q cI cL own amt tag mad spt made (upd dsp sp x) dow dam dtg (sp + 1) mk mint dep hgt und supply pot apl fes mns tms pic) t.heap) (ob_A (wM q cI cL own amt tag mad spt made dsp dow dam dtg sp mk mint dep hgt und supply pot apl fes mns tms pic))) 0 0 (ob_A (wM q cI cL own amt tag mad spt made dsp dow dam dtg sp mk mint dep hgt und supply pot apl fes mns tms pic)) := by
  refine ob_ofW (cc := b_M_spend) (maxL := 2) (ret := (some .boolean)) (own := R_M) (by decide) rfl rfl (Nat.le_of_ble_eq_true rfl) ?_
  intro p e s m args below meth c Q hQ hx hb hr hml hT hown hlocks hv ls hl
  obtain ⟨⟨hP, hK, hN⟩, hD0⟩ := hv
  have hD := ob_D_self hD0
  generalize hAe : ob_A (wM q cI cL own amt tag mad spt made dsp dow dam dtg sp mk mint dep hgt und supply pot apl fes mns tms pic) = A at hQ hD
  have hS : va_S A s.heap s.heap [] := va_S.rf
  have hl : lv_has ls 2 [(0, .ref (q 0)), (1, .int x)] := hl
  refine lv_aload_n hx hb d_M_spend_0 rfl (lv_at hl 0 rfl) ?_
  refine lv_iconst (v := nI 0) hx hb d_M_spend_1 (by decide) ?_
  refine va_put (D := (dC, dI)) (ci := 4) (v := .int (nI 0)) (ty := .int) (C := R_M) (T := T_M) (N := 24) hx hb hT in_M t_M t_M_ok n_M hown hK hP hD hS 0 rfl rfl 0 (by decide) (hT _ k_325) (fun _ h9 => h9) rfl (by decide +kernel) rfl rfl (Nat.le_of_ble_eq_true rfl) d_M_spend_2 (fun H locs hP hD hS => ?_)
  have hP : va_P (dC, dI) vwCl (wM q cI cL own amt tag mad spt made dsp dow dam dtg sp mk mint dep hgt und supply pot apl fes mns tms pic) H := hP
  have hD : va_D A (wM q cI cL own amt tag mad spt made dsp dow dam dtg sp mk mint dep hgt und supply pot apl fes mns tms pic) := hD
  refine lv_aload_n hx hb d_M_spend_5 rfl (lv_at hl 0 rfl) ?_
  refine lv_iload_n hx hb d_M_spend_6 rfl (lv_at hl 1 rfl) ?_
  refine ob_callR (W.runV (As := [.int x]) (rest := []) ⟨hx, hb, hml, hown, hT⟩ (c_M_isLive l dC dI q cI cL own amt tag mad spt made dsp dow dam dtg sp mk mint dep hgt und supply pot apl fes mns tms pic x hm hv) (cwV 1 hT (ob_goodV k_402 k_404 k_3 k_14 k_405) rfl rfl rfl (by decide +kernel) ⟨Nat.le_of_ble_eq_true rfl, Nat.le_of_ble_eq_true rfl⟩) (ob_preV (wc := wM q cI cL own amt tag mad spt made dsp dow dam dtg sp mk mint dep hgt und supply pot apl fes mns tms pic) (q0 := 0) rfl hK hP (fun _ h => absurd h List.not_mem_nil) rfl [0, 1, 2, 3, 4, 5, 6, 7, 8, 9, 10, 11, 12, 13] rfl rfl) rfl rfl hl.1 rfl (lv_room (Nat.le_of_ble_eq_true rfl)) d_M_spend_7 ⟨Nat.zero_le _, Nat.zero_le _⟩) ?_
  refine ob_split (P := p_live spt made x) (fun b_7 => ?_) (fun b_7 => ?_)
  · refine lv_if_eq (tgt := 30) hx hb d_M_spend_10 (by decide) (fun c => absurd c (by decide)) (fun _ => ?_)
    refine lv_aload_n hx hb d_M_spend_13 rfl (lv_at hl 0 rfl) ?_
    refine lv_iload_n hx hb d_M_spend_14 rfl (lv_at hl 1 rfl) ?_
    refine ob_callR (W.runV (As := [.int x]) (rest := []) ⟨hx, hb, hml, hown, hT⟩ (c_M_isDrafted l dC dI q cI cL own amt tag mad spt made dsp dow dam dtg sp mk mint dep hgt und supply pot apl fes mns tms pic x hsp) (cwV 1 hT (ob_goodV k_410 k_412 k_5 k_14 k_413) rfl rfl rfl (by decide +kernel) ⟨Nat.le_of_ble_eq_true rfl, Nat.le_of_ble_eq_true rfl⟩) (ob_preV (wc := wM q cI cL own amt tag mad spt made dsp dow dam dtg sp mk mint dep hgt und supply pot apl fes mns tms pic) (q0 := 0) rfl hK hP (fun _ h => absurd h List.not_mem_nil) rfl [0, 1, 2, 3, 4, 5, 6, 7, 8, 9, 10, 11, 12, 13] rfl rfl) rfl rfl hl.1 rfl (lv_room (Nat.le_of_ble_eq_true rfl)) d_M_spend_15 ⟨Nat.zero_le _, Nat.zero_le _⟩) ?_
    refine ob_split (P := f_any (fun z9 => decide (dsp z9 = x)) sp = true) (fun b_15 => ?_) (fun b_15 => ?_)
    · exact absurd b_15 h2
    · refine lv_if_ne (tgt := 30) hx hb d_M_spend_18 (by decide) (fun c => absurd c (by decide)) (fun _ => ?_)
      refine lv_aload_n hx hb d_M_spend_21 rfl (lv_at hl 0 rfl) ?_
      refine va_get (D := (dC, dI)) (ci := 4) (v := .int (nI sp)) (C := R_M) (T := T_M) (N := 24) hx hb hT in_M hown hK hP 0 rfl rfl 16 (by decide) (hT _ k_341) (fun _ h9 => h9) rfl d_M_spend_22 ?_
      refine lv_bipush (v := nI 16) hx hb d_M_spend_25 (by decide) ?_
      refine lv_icmp_ne (tgt := 32) hx hb d_M_spend_27 (by decide) (fun c_27 => ?_) (fun c_27 => ?_)
      · have t_27 := mt (cv_eq (nI_toInt (by omega)) (nI_toInt (by omega))).mpr c_27
        refine lv_aload_n hx hb d_M_spend_32 rfl (lv_at hl 0 rfl) ?_
        refine va_get (D := (dC, dI)) (ci := 4) (v := .ref (q 9)) (C := R_M) (T := T_M) (N := 24) hx hb hT in_M hown hK hP 0 rfl rfl 17 (by decide) (hT _ k_342) (fun _ h9 => h9) rfl d_M_spend_33 ?_
        refine lv_aload_n hx hb d_M_spend_36 rfl (lv_at hl 0 rfl) ?_
        refine va_get (D := (dC, dI)) (ci := 4) (v := .int (nI sp)) (C := R_M) (T := T_M) (N := 24) hx hb hT in_M hown hK hP 0 rfl rfl 16 (by decide) (hT _ k_341) (fun _ h9 => h9) rfl d_M_spend_37 ?_
        refine lv_iload_n hx hb d_M_spend_40 rfl (lv_at hl 1 rfl) ?_
        refine ob_iast hx hb hK hP hD hS 9 0 rfl rfl (j := sp) (nI_clamp (by omega)) (cv_in (nI_toInt (by omega)) (by omega)) d_M_spend_41 (fun H locs hP hD hS => ?_)
        have hP : va_P (dC, dI) vwCl (wM q cI cL own amt tag mad spt made (upd dsp sp x) dow dam dtg sp mk mint dep hgt und supply pot apl fes mns tms pic) H := hP
        have hD : va_D A (wM q cI cL own amt tag mad spt made (upd dsp sp x) dow dam dtg sp mk mint dep hgt und supply pot apl fes mns tms pic) := hD
        refine lv_aload_n hx hb d_M_spend_42 rfl (lv_at hl 0 rfl) ?_
        refine lv_dup hx hb d_M_spend_43 rfl ?_
        refine va_get (D := (dC, dI)) (ci := 4) (v := .int (nI sp)) (C := R_M) (T := T_M) (N := 24) hx hb hT in_M hown hK hP 0 rfl rfl 16 (by decide) (hT _ k_341) (fun _ h9 => h9) rfl d_M_spend_44 ?_
        refine lv_iconst (v := nI 1) hx hb d_M_spend_47 (by decide) ?_
        refine lv_iadd hx hb d_M_spend_48 ?_
        refine ob_eqi (nI_add sp 1) ?_
        refine va_put (D := (dC, dI)) (ci := 4) (v := .int (nI (sp + 1))) (ty := .int) (C := R_M) (T := T_M) (N := 24) hx hb hT in_M t_M t_M_ok n_M hown hK hP hD hS 0 rfl rfl 16 (by decide) (hT _ k_341) (fun _ h9 => h9) rfl (by decide +kernel) rfl rfl (Nat.le_of_ble_eq_true rfl) d_M_spend_49 (fun H locs hP hD hS => ?_)
        have hP : va_P (dC, dI) vwCl (wM q cI cL own amt tag mad spt made (upd dsp sp x) dow dam dtg (sp + 1) mk mint dep hgt und supply pot apl fes mns tms pic) H := hP
        have hD : va_D A (wM q cI cL own amt tag mad spt made (upd dsp sp x) dow dam dtg (sp + 1) mk mint dep hgt und supply pot apl fes mns tms pic) := hD
        refine lv_iconst (v := nI 1) hx hb d_M_spend_52 (by decide) ?_
        exact ob_zretW (v := nI 1) hx hb hr hlocks hQ hS hP rfl (by decide) rfl d_M_spend_53
      · have t_27 := (cv_eq (nI_toInt (by omega)) (nI_toInt (by omega))).mp c_27
        exact absurd t_27 (by omega)
  · exact absurd h1 b_7
abbrev rm_M_spend_f : Room := { frames := 2, cells := 0, slots := 0, locals := 42 }
set_option maxHeartbeats 4000000 in
set_option maxRecDepth 100000 in
theorem c_M_spend_f (l : Launch) (dC : Nat → ClassId) (dI : Nat → Nat → Nat) (q : Nat → Nat) (cI cL : ClassId) (own : Nat → Int32) (amt : Nat → Int64) (tag : Nat → Int64) (mad : Nat → Int32) (spt : Nat → Int32) (made : Nat) (dsp : Nat → Int32) (dow : Nat → Int32) (dam : Nat → Int64) (dtg : Nat → Int64) (sp : Nat) (mk : Nat) (mint : Int64) (dep : Nat) (hgt : Nat) (und : Nat) (supply : Int64) (pot : Int64) (apl : Int32) (fes : Nat → Int64) (mns : Nat → Int64) (tms : Nat → Int32) (pic : Nat → Int32) (x : Int32) (hm : made ≤ 2048) (hv : ∀ j, spt j = -1 ∨ 0 ≤ (spt j).toInt) (hsp : sp ≤ 16) (hno : ¬ (p_live spt made x ∧ ¬ f_any (fun j => decide (dsp j = x)) sp = true ∧ sp < 16)) : Met l y_M_spend w_M_spend rm_M_spend_f (va_Pc [.ref (q 0), .int x] (ob_BW (dC, dI) vwCl (wM q cI cL own amt tag mad spt made dsp dow dam dtg sp mk mint dep hgt und supply pot apl fes mns tms pic) [(cI, .int), (cL, .long)] [])) (va_Qi (fun (r : Int32) (_ : Unit) => r = nI 0) (fun _ t => va_P (dC, dI) vwCl (wM q cI cL own amt tag mad spt made dsp dow dam dtg sp mk mint dep hgt und supply pot apl fes mns tms pic) t.heap) (ob_A (wM q cI cL own amt tag mad spt made dsp dow dam dtg sp mk mint dep hgt und supply pot apl fes mns tms pic))) 0 0 (ob_A (wM q cI cL own amt tag mad spt made dsp dow dam dtg sp mk mint dep hgt und supply pot apl fes mns tms pic)) := by
  refine ob_ofW (cc := b_M_spend) (maxL := 2) (ret := (some .boolean)) (own := R_M) (by decide) rfl rfl (Nat.le_of_ble_eq_true rfl) ?_
  intro p e s m args below meth c Q hQ hx hb hr hml hT hown hlocks hv ls hl
  obtain ⟨⟨hP, hK, hN⟩, hD0⟩ := hv
  have hD := ob_D_self hD0
  generalize hAe : ob_A (wM q cI cL own amt tag mad spt made dsp dow dam dtg sp mk mint dep hgt und supply pot apl fes mns tms pic) = A at hQ hD
  have hS : va_S A s.heap s.heap [] := va_S.rf
  have hl : lv_has ls 2 [(0, .ref (q 0)), (1, .int x)] := hl
  refine lv_aload_n hx hb d_M_spend_0 rfl (lv_at hl 0 rfl) ?_
  refine lv_iconst (v := nI 0) hx hb d_M_spend_1 (by decide) ?_
  refine va_put (D := (dC, dI)) (ci := 4) (v := .int (nI 0)) (ty := .int) (C := R_M) (T := T_M) (N := 24) hx hb hT in_M t_M t_M_ok n_M hown hK hP hD hS 0 rfl rfl 0 (by decide) (hT _ k_325) (fun _ h9 => h9) rfl (by decide +kernel) rfl rfl (Nat.le_of_ble_eq_true rfl) d_M_spend_2 (fun H locs hP hD hS => ?_)
  have hP : va_P (dC, dI) vwCl (wM q cI cL own amt tag mad spt made dsp dow dam dtg sp mk mint dep hgt und supply pot apl fes mns tms pic) H := hP
  have hD : va_D A (wM q cI cL own amt tag mad spt made dsp dow dam dtg sp mk mint dep hgt und supply pot apl fes mns tms pic) := hD
  refine lv_aload_n hx hb d_M_spend_5 rfl (lv_at hl 0 rfl) ?_
  refine lv_iload_n hx hb d_M_spend_6 rfl (lv_at hl 1 rfl) ?_
  refine ob_callR (W.runV (As := [.int x]) (rest := []) ⟨hx, hb, hml, hown, hT⟩ (c_M_isLive l dC dI q cI cL own amt tag mad spt made dsp dow dam dtg sp mk mint dep hgt und supply pot apl fes mns tms pic x hm hv) (cwV 1 hT (ob_goodV k_402 k_404 k_3 k_14 k_405) rfl rfl rfl (by decide +kernel) ⟨Nat.le_of_ble_eq_true rfl, Nat.le_of_ble_eq_true rfl⟩) (ob_preV (wc := wM q cI cL own amt tag mad spt made dsp dow dam dtg sp mk mint dep hgt und supply pot apl fes mns tms pic) (q0 := 0) rfl hK hP (fun _ h => absurd h List.not_mem_nil) rfl [0, 1, 2, 3, 4, 5, 6, 7, 8, 9, 10, 11, 12, 13] rfl rfl) rfl rfl hl.1 rfl (lv_room (Nat.le_of_ble_eq_true rfl)) d_M_spend_7 ⟨Nat.zero_le _, Nat.zero_le _⟩) ?_
  refine ob_split (P := p_live spt made x) (fun b_7 => ?_) (fun b_7 => ?_)
  · refine lv_if_eq (tgt := 30) hx hb d_M_spend_10 (by decide) (fun c => absurd c (by decide)) (fun _ => ?_)
    refine lv_aload_n hx hb d_M_spend_13 rfl (lv_at hl 0 rfl) ?_
    refine lv_iload_n hx hb d_M_spend_14 rfl (lv_at hl 1 rfl) ?_
    refine ob_callR (W.runV (As := [.int x]) (rest := []) ⟨hx, hb, hml, hown, hT⟩ (c_M_isDrafted l dC dI q cI cL own amt tag mad spt made dsp dow dam dtg sp mk mint dep hgt und supply pot apl fes mns tms pic x hsp) (cwV 1 hT (ob_goodV k_410 k_412 k_5 k_14 k_413) rfl rfl rfl (by decide +kernel) ⟨Nat.le_of_ble_eq_true rfl, Nat.le_of_ble_eq_true rfl⟩) (ob_preV (wc := wM q cI cL own amt tag mad spt made dsp dow dam dtg sp mk mint dep hgt und supply pot apl fes mns tms pic) (q0 := 0) rfl hK hP (fun _ h => absurd h List.not_mem_nil) rfl [0, 1, 2, 3, 4, 5, 6, 7, 8, 9, 10, 11, 12, 13] rfl rfl) rfl rfl hl.1 rfl (lv_room (Nat.le_of_ble_eq_true rfl)) d_M_spend_15 ⟨Nat.zero_le _, Nat.zero_le _⟩) ?_
    refine ob_split (P := f_any (fun z9 => decide (dsp z9 = x)) sp = true) (fun b_15 => ?_) (fun b_15 => ?_)
    · refine lv_if_ne (tgt := 30) hx hb d_M_spend_18 (by decide) (fun _ => ?_) (fun c => absurd c (by decide))
      refine lv_iconst (v := nI 0) hx hb d_M_spend_30 (by decide) ?_
      exact ob_zretW (v := nI 0) hx hb hr hlocks hQ hS hP rfl (by decide) rfl d_M_spend_31
    · refine lv_if_ne (tgt := 30) hx hb d_M_spend_18 (by decide) (fun c => absurd c (by decide)) (fun _ => ?_)
      refine lv_aload_n hx hb d_M_spend_21 rfl (lv_at hl 0 rfl) ?_
      refine va_get (D := (dC, dI)) (ci := 4) (v := .int (nI sp)) (C := R_M) (T := T_M) (N := 24) hx hb hT in_M hown hK hP 0 rfl rfl 16 (by decide) (hT _ k_341) (fun _ h9 => h9) rfl d_M_spend_22 ?_
      refine lv_bipush (v := nI 16) hx hb d_M_spend_25 (by decide) ?_
      refine lv_icmp_ne (tgt := 32) hx hb d_M_spend_27 (by decide) (fun c_27 => ?_) (fun c_27 => ?_)
      · have t_27 := mt (cv_eq (nI_toInt (by omega)) (nI_toInt (by omega))).mpr c_27
        exact absurd ⟨b_7, b_15, by omega⟩ hno
      · have t_27 := (cv_eq (nI_toInt (by omega)) (nI_toInt (by omega))).mp c_27
        refine lv_iconst (v := nI 0) hx hb d_M_spend_30 (by decide) ?_
        exact ob_zretW (v := nI 0) hx hb hr hlocks hQ hS hP rfl (by decide) rfl d_M_spend_31
  · refine lv_if_eq (tgt := 30) hx hb d_M_spend_10 (by decide) (fun _ => ?_) (fun c => absurd c (by decide))
    refine lv_iconst (v := nI 0) hx hb d_M_spend_30 (by decide) ?_
    exact ob_zretW (v := nI 0) hx hb hr hlocks hQ hS hP rfl (by decide) rfl d_M_spend_31
abbrev rm_M_make_t : Room := { frames := 1, cells := 0, slots := 0, locals := 20 }
set_option maxHeartbeats 4000000 in
set_option maxRecDepth 100000 in
theorem c_M_make_t (l : Launch) (dC : Nat → ClassId) (dI : Nat → Nat → Nat) (q : Nat → Nat) (cI cL : ClassId) (own : Nat → Int32) (amt : Nat → Int64) (tag : Nat → Int64) (mad : Nat → Int32) (spt : Nat → Int32) (made : Nat) (dsp : Nat → Int32) (dow : Nat → Int32) (dam : Nat → Int64) (dtg : Nat → Int64) (sp : Nat) (mk : Nat) (mint : Int64) (dep : Nat) (hgt : Nat) (und : Nat) (supply : Int64) (pot : Int64) (apl : Int32) (fes : Nat → Int64) (mns : Nat → Int64) (tms : Nat → Int32) (pic : Nat → Int32) (o : Int32) (a : Int64) (g : Int64) (hmk : mk ≤ 16) (h1 : 0 ≤ o.toInt ∧ o.toInt < 256) (h2 : ¬ a < 1) (h3 : mk < 16) : Met l y_M_make w_M_make rm_M_make_t (va_Pc [.ref (q 0), .int o, .long a, .long g] (ob_BW (dC, dI) vwCl (wM q cI cL own amt tag mad spt made dsp dow dam dtg sp mk mint dep hgt und supply pot apl fes mns tms pic) [(cI, .int), (cL, .long)] [])) (va_Qi (fun (r : Int32) (_ : Unit) => r = nI 1) (fun _ t => va_P (dC, dI) vwCl (wM q cI cL own amt tag mad spt made dsp (upd dow mk o) (vp_updL dam mk a) (vp_updL dtg mk g) sp (mk + 1) mint dep hgt und supply pot apl fes mns tms pic) t.heap) (ob_A (wM q cI cL own amt tag mad spt made dsp dow dam dtg sp mk mint dep hgt und supply pot apl fes mns tms pic))) 0 0 (ob_A (wM q cI cL own amt tag mad spt made dsp dow dam dtg sp mk mint dep hgt und supply pot apl fes mns tms pic)) := by
  refine ob_ofW (cc := b_M_make) (maxL := 6) (ret := (some .boolean)) (own := R_M) (by decide) rfl rfl (Nat.le_of_ble_eq_true rfl) ?_
  intro p e s m args below meth c Q hQ hx hb hr hml hT hown hlocks hv ls hl
  obtain ⟨⟨hP, hK, hN⟩, hD0⟩ := hv
  have hD := ob_D_self hD0
  generalize hAe : ob_A (wM q cI cL own amt tag mad spt made dsp dow dam dtg sp mk mint dep hgt und supply pot apl fes mns tms pic) = A at hQ hD
  have hS : va_S A s.heap s.heap [] := va_S.rf
  have hl : lv_has ls 6 [(0, .ref (q 0)), (1, .int o), (2, .long a), (4, .long g)] := hl
  refine lv_aload_n hx hb d_M_make_0 rfl (lv_at hl 0 rfl) ?_
  refine lv_iconst (v := nI 0) hx hb d_M_make_1 (by decide) ?_
  refine va_put (D := (dC, dI)) (ci := 4) (v := .int (nI 0)) (ty := .int) (C := R_M) (T := T_M) (N := 24) hx hb hT in_M t_M t_M_ok n_M hown hK hP hD hS 0 rfl rfl 0 (by decide) (hT _ k_325) (fun _ h9 => h9) rfl (by decide +kernel) rfl rfl (Nat.le_of_ble_eq_true rfl) d_M_make_2 (fun H locs hP hD hS => ?_)
  have hP : va_P (dC, dI) vwCl (wM q cI cL own amt tag mad spt made dsp dow dam dtg sp mk mint dep hgt und supply pot apl fes mns tms pic) H := hP
  have hD : va_D A (wM q cI cL own amt tag mad spt made dsp dow dam dtg sp mk mint dep hgt und supply pot apl fes mns tms pic) := hD
  refine lv_iload_n hx hb d_M_make_5 rfl (lv_at hl 1 rfl) ?_
  refine ob_callR (W.runS (As := [.int o]) (rest := []) ⟨hx, hb, hml, hown, hT⟩ (c_M_isOwner l o) (cwS 1 hT (ob_goodS k_418 k_419 k_14 k_420) rfl rfl rfl (by decide +kernel) ⟨Nat.le_of_ble_eq_true rfl, Nat.le_of_ble_eq_true rfl⟩) ob_preS rfl rfl hl.1 rfl (lv_room (Nat.le_of_ble_eq_true rfl)) d_M_make_6 ⟨Nat.zero_le _, Nat.zero_le _⟩) ?_
  refine ob_split (P := 0 ≤ o.toInt ∧ o.toInt < 256) (fun b_6 => ?_) (fun b_6 => ?_)
  · refine lv_if_eq (tgt := 27) hx hb d_M_make_9 (by decide) (fun c => absurd c (by decide)) (fun _ => ?_)
    refine lv_lload_n hx hb d_M_make_12 rfl (lv_at hl 2 rfl) ?_
    refine lv_lconst (v := 1) hx hb d_M_make_13 (by decide) ?_
    refine W.lcmp hx hb d_M_make_14 ?_
    refine lv_if_lt (tgt := 27) hx hb d_M_make_15 (by decide) (fun c_15 => ?_) (fun c_15 => ?_)
    · have c_15 := (lg_cmp_lt _ _).mp c_15
      exact absurd c_15 h2
    · have c_15 := mt (lg_cmp_lt _ _).mpr c_15
      refine lv_aload_n hx hb d_M_make_18 rfl (lv_at hl 0 rfl) ?_
      refine va_get (D := (dC, dI)) (ci := 4) (v := .int (nI mk)) (C := R_M) (T := T_M) (N := 24) hx hb hT in_M hown hK hP 0 rfl rfl 18 (by decide) (hT _ k_343) (fun _ h9 => h9) rfl d_M_make_19 ?_
      refine lv_bipush (v := nI 16) hx hb d_M_make_22 (by decide) ?_
      refine lv_icmp_ne (tgt := 29) hx hb d_M_make_24 (by decide) (fun c_24 => ?_) (fun c_24 => ?_)
      · have t_24 := mt (cv_eq (nI_toInt (by omega)) (nI_toInt (by omega))).mpr c_24
        refine lv_aload_n hx hb d_M_make_29 rfl (lv_at hl 0 rfl) ?_
        refine va_get (D := (dC, dI)) (ci := 4) (v := .ref (q 10)) (C := R_M) (T := T_M) (N := 24) hx hb hT in_M hown hK hP 0 rfl rfl 19 (by decide) (hT _ k_344) (fun _ h9 => h9) rfl d_M_make_30 ?_
        refine lv_aload_n hx hb d_M_make_33 rfl (lv_at hl 0 rfl) ?_
        refine va_get (D := (dC, dI)) (ci := 4) (v := .int (nI mk)) (C := R_M) (T := T_M) (N := 24) hx hb hT in_M hown hK hP 0 rfl rfl 18 (by decide) (hT _ k_343) (fun _ h9 => h9) rfl d_M_make_34 ?_
        refine lv_iload_n hx hb d_M_make_37 rfl (lv_at hl 1 rfl) ?_
        refine ob_iast hx hb hK hP hD hS 10 0 rfl rfl (j := mk) (nI_clamp (by omega)) (cv_in (nI_toInt (by omega)) (by omega)) d_M_make_38 (fun H locs hP hD hS => ?_)
        have hP : va_P (dC, dI) vwCl (wM q cI cL own amt tag mad spt made dsp (upd dow mk o) dam dtg sp mk mint dep hgt und supply pot apl fes mns tms pic) H := hP
        have hD : va_D A (wM q cI cL own amt tag mad spt made dsp (upd dow mk o) dam dtg sp mk mint dep hgt und supply pot apl fes mns tms pic) := hD
        refine lv_aload_n hx hb d_M_make_39 rfl (lv_at hl 0 rfl) ?_
        refine va_get (D := (dC, dI)) (ci := 4) (v := .ref (q 11)) (C := R_M) (T := T_M) (N := 24) hx hb hT in_M hown hK hP 0 rfl rfl 20 (by decide) (hT _ k_345) (fun _ h9 => h9) rfl d_M_make_40 ?_
        refine lv_aload_n hx hb d_M_make_43 rfl (lv_at hl 0 rfl) ?_
        refine va_get (D := (dC, dI)) (ci := 4) (v := .int (nI mk)) (C := R_M) (T := T_M) (N := 24) hx hb hT in_M hown hK hP 0 rfl rfl 18 (by decide) (hT _ k_343) (fun _ h9 => h9) rfl d_M_make_44 ?_
        refine lv_lload_n hx hb d_M_make_47 rfl (lv_at hl 2 rfl) ?_
        refine ob_last hx hb hK hP hD hS 11 1 rfl rfl (j := mk) (nI_clamp (by omega)) (cv_in (nI_toInt (by omega)) (by omega)) d_M_make_48 (fun H locs hP hD hS => ?_)
        have hP : va_P (dC, dI) vwCl (wM q cI cL own amt tag mad spt made dsp (upd dow mk o) (vp_updL dam mk a) dtg sp mk mint dep hgt und supply pot apl fes mns tms pic) H := hP
        have hD : va_D A (wM q cI cL own amt tag mad spt made dsp (upd dow mk o) (vp_updL dam mk a) dtg sp mk mint dep hgt und supply pot apl fes mns tms pic) := hD
        refine lv_aload_n hx hb d_M_make_49 rfl (lv_at hl 0 rfl) ?_
        refine va_get (D := (dC, dI)) (ci := 4) (v := .ref (q 12)) (C := R_M) (T := T_M) (N := 24) hx hb hT in_M hown hK hP 0 rfl rfl 21 (by decide) (hT _ k_346) (fun _ h9 => h9) rfl d_M_make_50 ?_
        refine lv_aload_n hx hb d_M_make_53 rfl (lv_at hl 0 rfl) ?_
        refine va_get (D := (dC, dI)) (ci := 4) (v := .int (nI mk)) (C := R_M) (T := T_M) (N := 24) hx hb hT in_M hown hK hP 0 rfl rfl 18 (by decide) (hT _ k_343) (fun _ h9 => h9) rfl d_M_make_54 ?_
        refine lv_lload hx hb d_M_make_57 (lv_at hl 3 rfl) ?_
        refine ob_last hx hb hK hP hD hS 12 1 rfl rfl (j := mk) (nI_clamp (by omega)) (cv_in (nI_toInt (by omega)) (by omega)) d_M_make_59 (fun H locs hP hD hS => ?_)
        have hP : va_P (dC, dI) vwCl (wM q cI cL own amt tag mad spt made dsp (upd dow mk o) (vp_updL dam mk a) (vp_updL dtg mk g) sp mk mint dep hgt und supply pot apl fes mns tms pic) H := hP
        have hD : va_D A (wM q cI cL own amt tag mad spt made dsp (upd dow mk o) (vp_updL dam mk a) (vp_updL dtg mk g) sp mk mint dep hgt und supply pot apl fes mns tms pic) := hD
        refine lv_aload_n hx hb d_M_make_60 rfl (lv_at hl 0 rfl) ?_
        refine lv_dup hx hb d_M_make_61 rfl ?_
        refine va_get (D := (dC, dI)) (ci := 4) (v := .int (nI mk)) (C := R_M) (T := T_M) (N := 24) hx hb hT in_M hown hK hP 0 rfl rfl 18 (by decide) (hT _ k_343) (fun _ h9 => h9) rfl d_M_make_62 ?_
        refine lv_iconst (v := nI 1) hx hb d_M_make_65 (by decide) ?_
        refine lv_iadd hx hb d_M_make_66 ?_
        refine ob_eqi (nI_add mk 1) ?_
        refine va_put (D := (dC, dI)) (ci := 4) (v := .int (nI (mk + 1))) (ty := .int) (C := R_M) (T := T_M) (N := 24) hx hb hT in_M t_M t_M_ok n_M hown hK hP hD hS 0 rfl rfl 18 (by decide) (hT _ k_343) (fun _ h9 => h9) rfl (by decide +kernel) rfl rfl (Nat.le_of_ble_eq_true rfl) d_M_make_67 (fun H locs hP hD hS => ?_)
        have hP : va_P (dC, dI) vwCl (wM q cI cL own amt tag mad spt made dsp (upd dow mk o) (vp_updL dam mk a) (vp_updL dtg mk g) sp (mk + 1) mint dep hgt und supply pot apl fes mns tms pic) H := hP
        have hD : va_D A (wM q cI cL own amt tag mad spt made dsp (upd dow mk o) (vp_updL dam mk a) (vp_updL dtg mk g) sp (mk + 1) mint dep hgt und supply pot apl fes mns tms pic) := hD
        refine lv_iconst (v := nI 1) hx hb d_M_make_70 (by decide) ?_
        exact ob_zretW (v := nI 1) hx hb hr hlocks hQ hS hP rfl (by decide) rfl d_M_make_71
      · have t_24 := (cv_eq (nI_toInt (by omega)) (nI_toInt (by omega))).mp c_24
        exact absurd t_24 (by omega)
  · exact absurd h1 b_6
abbrev rm_M_make_f : Room := { frames := 1, cells := 0, slots := 0, locals := 20 }
set_option maxHeartbeats 4000000 in
set_option maxRecDepth 100000 in
theorem c_M_make_f (l : Launch) (dC : Nat → ClassId) (dI : Nat → Nat → Nat) (q : Nat → Nat) (cI cL : ClassId) (own : Nat → Int32) (amt : Nat → Int64) (tag : Nat → Int64) (mad : Nat → Int32) (spt : Nat → Int32) (made : Nat) (dsp : Nat → Int32) (dow : Nat → Int32) (dam : Nat → Int64) (dtg : Nat → Int64) (sp : Nat) (mk : Nat) (mint : Int64) (dep : Nat) (hgt : Nat) (und : Nat) (supply : Int64) (pot : Int64) (apl : Int32) (fes : Nat → Int64) (mns : Nat → Int64) (tms : Nat → Int32) (pic : Nat → Int32) (o : Int32) (a : Int64) (g : Int64) (hmk : mk ≤ 16) (hno : ¬ ((0 ≤ o.toInt ∧ o.toInt < 256) ∧ ¬ a < 1 ∧ mk < 16)) : Met l y_M_make w_M_make rm_M_make_f (va_Pc [.ref (q 0), .int o, .long a, .long g] (ob_BW (dC, dI) vwCl (wM q cI cL own amt tag mad spt made dsp dow dam dtg sp mk mint dep hgt und supply pot apl fes mns tms pic) [(cI, .int), (cL, .long)] [])) (va_Qi (fun (r : Int32) (_ : Unit) => r = nI 0) (fun _ t => va_P (dC, dI) vwCl (wM q cI cL own amt tag mad spt made dsp dow dam dtg sp mk mint dep hgt und supply pot apl fes mns tms pic) t.heap) (ob_A (wM q cI cL own amt tag mad spt made dsp dow dam dtg sp mk mint dep hgt und supply pot apl fes mns tms pic))) 0 0 (ob_A (wM q cI cL own amt tag mad spt made dsp dow dam dtg sp mk mint dep hgt und supply pot apl fes mns tms pic)) := by
  refine ob_ofW (cc := b_M_make) (maxL := 6) (ret := (some .boolean)) (own := R_M) (by decide) rfl rfl (Nat.le_of_ble_eq_true rfl) ?_
  intro p e s m args below meth c Q hQ hx hb hr hml hT hown hlocks hv ls hl
  obtain ⟨⟨hP, hK, hN⟩, hD0⟩ := hv
  have hD := ob_D_self hD0
  generalize hAe : ob_A (wM q cI cL own amt tag mad spt made dsp dow dam dtg sp mk mint dep hgt und supply pot apl fes mns tms pic) = A at hQ hD
  have hS : va_S A s.heap s.heap [] := va_S.rf
  have hl : lv_has ls 6 [(0, .ref (q 0)), (1, .int o), (2, .long a), (4, .long g)] := hl
  refine lv_aload_n hx hb d_M_make_0 rfl (lv_at hl 0 rfl) ?_
  refine lv_iconst (v := nI 0) hx hb d_M_make_1 (by decide) ?_
  refine va_put (D := (dC, dI)) (ci := 4) (v := .int (nI 0)) (ty := .int) (C := R_M) (T := T_M) (N := 24) hx hb hT in_M t_M t_M_ok n_M hown hK hP hD hS 0 rfl rfl 0 (by decide) (hT _ k_325) (fun _ h9 => h9) rfl (by decide +kernel) rfl rfl (Nat.le_of_ble_eq_true rfl) d_M_make_2 (fun H locs hP hD hS => ?_)
  have hP : va_P (dC, dI) vwCl (wM q cI cL own amt tag mad spt made dsp dow dam dtg sp mk mint dep hgt und supply pot apl fes mns tms pic) H := hP
  have hD : va_D A (wM q cI cL own amt tag mad spt made dsp dow dam dtg sp mk mint dep hgt und supply pot apl fes mns tms pic) := hD
  refine lv_iload_n hx hb d_M_make_5 rfl (lv_at hl 1 rfl) ?_
  refine ob_callR (W.runS (As := [.int o]) (rest := []) ⟨hx, hb, hml, hown, hT⟩ (c_M_isOwner l o) (cwS 1 hT (ob_goodS k_418 k_419 k_14 k_420) rfl rfl rfl (by decide +kernel) ⟨Nat.le_of_ble_eq_true rfl, Nat.le_of_ble_eq_true rfl⟩) ob_preS rfl rfl hl.1 rfl (lv_room (Nat.le_of_ble_eq_true rfl)) d_M_make_6 ⟨Nat.zero_le _, Nat.zero_le _⟩) ?_
  refine ob_split (P := 0 ≤ o.toInt ∧ o.toInt < 256) (fun b_6 => ?_) (fun b_6 => ?_)
  · refine lv_if_eq (tgt := 27) hx hb d_M_make_9 (by decide) (fun c => absurd c (by decide)) (fun _ => ?_)
    refine lv_lload_n hx hb d_M_make_12 rfl (lv_at hl 2 rfl) ?_
    refine lv_lconst (v := 1) hx hb d_M_make_13 (by decide) ?_
    refine W.lcmp hx hb d_M_make_14 ?_
    refine lv_if_lt (tgt := 27) hx hb d_M_make_15 (by decide) (fun c_15 => ?_) (fun c_15 => ?_)
    · have c_15 := (lg_cmp_lt _ _).mp c_15
      refine lv_iconst (v := nI 0) hx hb d_M_make_27 (by decide) ?_
      exact ob_zretW (v := nI 0) hx hb hr hlocks hQ hS hP rfl (by decide) rfl d_M_make_28
    · have c_15 := mt (lg_cmp_lt _ _).mpr c_15
      refine lv_aload_n hx hb d_M_make_18 rfl (lv_at hl 0 rfl) ?_
      refine va_get (D := (dC, dI)) (ci := 4) (v := .int (nI mk)) (C := R_M) (T := T_M) (N := 24) hx hb hT in_M hown hK hP 0 rfl rfl 18 (by decide) (hT _ k_343) (fun _ h9 => h9) rfl d_M_make_19 ?_
      refine lv_bipush (v := nI 16) hx hb d_M_make_22 (by decide) ?_
      refine lv_icmp_ne (tgt := 29) hx hb d_M_make_24 (by decide) (fun c_24 => ?_) (fun c_24 => ?_)
      · have t_24 := mt (cv_eq (nI_toInt (by omega)) (nI_toInt (by omega))).mpr c_24
        exact absurd ⟨b_6, c_15, by omega⟩ hno
      · have t_24 := (cv_eq (nI_toInt (by omega)) (nI_toInt (by omega))).mp c_24
        refine lv_iconst (v := nI 0) hx hb d_M_make_27 (by decide) ?_
        exact ob_zretW (v := nI 0) hx hb hr hlocks hQ hS hP rfl (by decide) rfl d_M_make_28
  · refine lv_if_eq (tgt := 27) hx hb d_M_make_9 (by decide) (fun _ => ?_) (fun c => absurd c (by decide))
    refine lv_iconst (v := nI 0) hx hb d_M_make_27 (by decide) ?_
    exact ob_zretW (v := nI 0) hx hb hr hlocks hQ hS hP rfl (by decide) rfl d_M_make_28
abbrev rm_M_mint : Room := { frames := 0, cells := 0, slots := 0, locals := 0 }
set_option maxHeartbeats 4000000 in
set_option maxRecDepth 100000 in
theorem c_M_mint (l : Launch) (dC : Nat → ClassId) (dI : Nat → Nat → Nat) (q : Nat → Nat) (cI cL : ClassId) (own : Nat → Int32) (amt : Nat → Int64) (tag : Nat → Int64) (mad : Nat → Int32) (spt : Nat → Int32) (made : Nat) (dsp : Nat → Int32) (dow : Nat → Int32) (dam : Nat → Int64) (dtg : Nat → Int64) (sp : Nat) (mk : Nat) (mint : Int64) (dep : Nat) (hgt : Nat) (und : Nat) (supply : Int64) (pot : Int64) (apl : Int32) (fes : Nat → Int64) (mns : Nat → Int64) (tms : Nat → Int32) (pic : Nat → Int32) (a : Int64)  : Met l y_M_mint w_M_mint rm_M_mint (va_Pc [.ref (q 0), .long a] (ob_BW (dC, dI) vwCl (wM q cI cL own amt tag mad spt made dsp dow dam dtg sp mk mint dep hgt und supply pot apl fes mns tms pic) [(cI, .int), (cL, .long)] [])) (va_Qv (fun (_ : Unit) => True) (fun _ t => va_P (dC, dI) vwCl (wM q cI cL own amt tag mad spt made dsp dow dam dtg sp mk a dep hgt und supply pot apl fes mns tms pic) t.heap) (ob_A (wM q cI cL own amt tag mad spt made dsp dow dam dtg sp mk mint dep hgt und supply pot apl fes mns tms pic))) 0 0 (ob_A (wM q cI cL own amt tag mad spt made dsp dow dam dtg sp mk mint dep hgt und supply pot apl fes mns tms pic)) := by
  refine ob_ofW (cc := b_M_mint) (maxL := 3) (ret := none) (own := R_M) (by decide) rfl rfl (Nat.le_of_ble_eq_true rfl) ?_
  intro p e s m args below meth c Q hQ hx hb hr hml hT hown hlocks hv ls hl
  obtain ⟨⟨hP, hK, hN⟩, hD0⟩ := hv
  have hD := ob_D_self hD0
  generalize hAe : ob_A (wM q cI cL own amt tag mad spt made dsp dow dam dtg sp mk mint dep hgt und supply pot apl fes mns tms pic) = A at hQ hD
  have hS : va_S A s.heap s.heap [] := va_S.rf
  have hl : lv_has ls 3 [(0, .ref (q 0)), (1, .long a)] := hl
  refine lv_aload_n hx hb d_M_mint_0 rfl (lv_at hl 0 rfl) ?_
  refine lv_iconst (v := nI 0) hx hb d_M_mint_1 (by decide) ?_
  refine va_put (D := (dC, dI)) (ci := 4) (v := .int (nI 0)) (ty := .int) (C := R_M) (T := T_M) (N := 24) hx hb hT in_M t_M t_M_ok n_M hown hK hP hD hS 0 rfl rfl 0 (by decide) (hT _ k_325) (fun _ h9 => h9) rfl (by decide +kernel) rfl rfl (Nat.le_of_ble_eq_true rfl) d_M_mint_2 (fun H locs hP hD hS => ?_)
  have hP : va_P (dC, dI) vwCl (wM q cI cL own amt tag mad spt made dsp dow dam dtg sp mk mint dep hgt und supply pot apl fes mns tms pic) H := hP
  have hD : va_D A (wM q cI cL own amt tag mad spt made dsp dow dam dtg sp mk mint dep hgt und supply pot apl fes mns tms pic) := hD
  refine lv_aload_n hx hb d_M_mint_5 rfl (lv_at hl 0 rfl) ?_
  refine lv_lload_n hx hb d_M_mint_6 rfl (lv_at hl 1 rfl) ?_
  refine va_put (D := (dC, dI)) (ci := 4) (v := .long a) (ty := .long) (C := R_M) (T := T_M) (N := 24) hx hb hT in_M t_M t_M_ok n_M hown hK hP hD hS 0 rfl rfl 22 (by decide) (hT _ k_347) (fun _ h9 => h9) rfl (by decide +kernel) rfl rfl (Nat.le_of_ble_eq_true rfl) d_M_mint_7 (fun H locs hP hD hS => ?_)
  have hP : va_P (dC, dI) vwCl (wM q cI cL own amt tag mad spt made dsp dow dam dtg sp mk a dep hgt und supply pot apl fes mns tms pic) H := hP
  have hD : va_D A (wM q cI cL own amt tag mad spt made dsp dow dam dtg sp mk a dep hgt und supply pot apl fes mns tms pic) := hD
  exact ob_vretW hx hb hr hlocks hQ hS hP rfl d_M_mint_10
abbrev rm_M_drop : Room := { frames := 1, cells := 0, slots := 0, locals := 20 }
set_option maxHeartbeats 4000000 in
set_option maxRecDepth 100000 in
theorem c_M_drop (l : Launch) (dC : Nat → ClassId) (dI : Nat → Nat → Nat) (q : Nat → Nat) (cI cL : ClassId) (own : Nat → Int32) (amt : Nat → Int64) (tag : Nat → Int64) (mad : Nat → Int32) (spt : Nat → Int32) (made : Nat) (dsp : Nat → Int32) (dow : Nat → Int32) (dam : Nat → Int64) (dtg : Nat → Int64) (sp : Nat) (mk : Nat) (mint : Int64) (dep : Nat) (hgt : Nat) (und : Nat) (supply : Int64) (pot : Int64) (apl : Int32) (fes : Nat → Int64) (mns : Nat → Int64) (tms : Nat → Int32) (pic : Nat → Int32)   : Met l y_M_drop w_M_drop rm_M_drop (va_Pc [.ref (q 0)] (ob_BW (dC, dI) vwCl (wM q cI cL own amt tag mad spt made dsp dow dam dtg sp mk mint dep hgt und supply pot apl fes mns tms pic) [(cI, .int), (cL, .long)] [])) (va_Qv (fun (_ : Unit) => True) (fun _ t => va_P (dC, dI) vwCl (wM q cI cL own amt tag mad spt made dsp dow dam dtg 0 0 (0 : Int64) dep hgt und supply pot apl fes mns tms pic) t.heap) (ob_A (wM q cI cL own amt tag mad spt made dsp dow dam dtg sp mk mint dep hgt und supply pot apl fes mns tms pic))) 0 0 (ob_A (wM q cI cL own amt tag mad spt made dsp dow dam dtg sp mk mint dep hgt und supply pot apl fes mns tms pic)) := by
  refine ob_ofW (cc := b_M_drop) (maxL := 1) (ret := none) (own := R_M) (by decide) rfl rfl (Nat.le_of_ble_eq_true rfl) ?_
  intro p e s m args below meth c Q hQ hx hb hr hml hT hown hlocks hv ls hl
  obtain ⟨⟨hP, hK, hN⟩, hD0⟩ := hv
  have hD := ob_D_self hD0
  generalize hAe : ob_A (wM q cI cL own amt tag mad spt made dsp dow dam dtg sp mk mint dep hgt und supply pot apl fes mns tms pic) = A at hQ hD
  have hS : va_S A s.heap s.heap [] := va_S.rf
  have hl : lv_has ls 1 [(0, .ref (q 0))] := hl
  refine lv_aload_n hx hb d_M_drop_0 rfl (lv_at hl 0 rfl) ?_
  refine lv_iconst (v := nI 0) hx hb d_M_drop_1 (by decide) ?_
  refine va_put (D := (dC, dI)) (ci := 4) (v := .int (nI 0)) (ty := .int) (C := R_M) (T := T_M) (N := 24) hx hb hT in_M t_M t_M_ok n_M hown hK hP hD hS 0 rfl rfl 0 (by decide) (hT _ k_325) (fun _ h9 => h9) rfl (by decide +kernel) rfl rfl (Nat.le_of_ble_eq_true rfl) d_M_drop_2 (fun H locs hP hD hS => ?_)
  have hP : va_P (dC, dI) vwCl (wM q cI cL own amt tag mad spt made dsp dow dam dtg sp mk mint dep hgt und supply pot apl fes mns tms pic) H := hP
  have hD : va_D A (wM q cI cL own amt tag mad spt made dsp dow dam dtg sp mk mint dep hgt und supply pot apl fes mns tms pic) := hD
  refine lv_aload_n hx hb d_M_drop_5 rfl (lv_at hl 0 rfl) ?_
  refine ob_callWv (va_runV (As := []) (rest := []) ⟨hx, hb, hml, hown, hT⟩ (c_M_empty l dC dI q cI cL own amt tag mad spt made dsp dow dam dtg sp mk mint dep hgt und supply pot apl fes mns tms pic ) (cwV 0 hT (ob_goodV k_429 k_431 k_6 k_14 k_432) rfl rfl rfl (by decide +kernel) ⟨Nat.le_of_ble_eq_true rfl, Nat.le_of_ble_eq_true rfl⟩) (ob_preVW (wc := wM q cI cL own amt tag mad spt made dsp dow dam dtg sp mk mint dep hgt und supply pot apl fes mns tms pic) (q0 := 0) rfl hK hP hD (fun _ h => absurd h List.not_mem_nil) rfl [0, 1, 2, 3, 4, 5, 6, 7, 8, 9, 10, 11, 12, 13] rfl rfl rfl rfl) rfl rfl hl.1 rfl (lv_room (Nat.le_of_ble_eq_true rfl)) d_M_drop_6 ⟨Nat.zero_le _, Nat.zero_le _⟩) hS hP hD [0, 1, 2, 3, 4, 5, 6, 7, 8, 9, 10, 11, 12, 13] rfl rfl (fun H locs hP hD hS => ?_)
  have hP : va_P (dC, dI) vwCl (wM q cI cL own amt tag mad spt made dsp dow dam dtg 0 0 (0 : Int64) dep hgt und supply pot apl fes mns tms pic) H := hP
  have hD : va_D A (wM q cI cL own amt tag mad spt made dsp dow dam dtg 0 0 (0 : Int64) dep hgt und supply pot apl fes mns tms pic) := hD
  exact ob_vretW hx hb hr hlocks hQ hS hP rfl d_M_drop_9
abbrev rm_M_close : Room := { frames := 0, cells := 0, slots := 0, locals := 0 }
set_option maxHeartbeats 4000000 in
set_option maxRecDepth 100000 in
theorem c_M_close (l : Launch) (dC : Nat → ClassId) (dI : Nat → Nat → Nat) (q : Nat → Nat) (cI cL : ClassId) (own : Nat → Int32) (amt : Nat → Int64) (tag : Nat → Int64) (mad : Nat → Int32) (spt : Nat → Int32) (made : Nat) (dsp : Nat → Int32) (dow : Nat → Int32) (dam : Nat → Int64) (dtg : Nat → Int64) (sp : Nat) (mk : Nat) (mint : Int64) (dep : Nat) (hgt : Nat) (und : Nat) (supply : Int64) (pot : Int64) (apl : Int32) (fes : Nat → Int64) (mns : Nat → Int64) (tms : Nat → Int32) (pic : Nat → Int32)  (hdep : dep ≤ 64) (hhg : hgt ≤ 1000) (hud : und ≤ dep) : Met l y_M_close w_M_close rm_M_close (va_Pc [.ref (q 0)] (ob_BW (dC, dI) vwCl (wM q cI cL own amt tag mad spt made dsp dow dam dtg sp mk mint dep hgt und supply pot apl fes mns tms pic) [(cI, .int), (cL, .long)] [])) (va_Qi (fun (r : Int32) (_ : Unit) => r = nI (hgt + 1)) (fun _ t => va_P (dC, dI) vwCl (wM q cI cL own amt tag mad spt made dsp dow dam dtg sp mk mint dep (hgt + 1) (min dep (und + 1)) supply pot apl (vp_updL fes (hgt + 1) (0 : Int64)) (vp_updL mns (hgt + 1) (0 : Int64)) (upd tms (hgt + 1) (nI 0)) pic) t.heap) (ob_A (wM q cI cL own amt tag mad spt made dsp dow dam dtg sp mk mint dep hgt und supply pot apl fes mns tms pic))) 0 0 (ob_A (wM q cI cL own amt tag mad spt made dsp dow dam dtg sp mk mint dep hgt und supply pot apl fes mns tms pic)) := by
  refine ob_ofW (cc := b_M_close) (maxL := 1) (ret := (some .int)) (own := R_M) (by decide) rfl rfl (Nat.le_of_ble_eq_true rfl) ?_
  intro p e s m args below meth c Q hQ hx hb hr hml hT hown hlocks hv ls hl
  obtain ⟨⟨hP, hK, hN⟩, hD0⟩ := hv
  have hD := ob_D_self hD0
  generalize hAe : ob_A (wM q cI cL own amt tag mad spt made dsp dow dam dtg sp mk mint dep hgt und supply pot apl fes mns tms pic) = A at hQ hD
  have hS : va_S A s.heap s.heap [] := va_S.rf
  have hl : lv_has ls 1 [(0, .ref (q 0))] := hl
  refine lv_aload_n hx hb d_M_close_0 rfl (lv_at hl 0 rfl) ?_
  refine lv_iconst (v := nI 0) hx hb d_M_close_1 (by decide) ?_
  refine va_put (D := (dC, dI)) (ci := 4) (v := .int (nI 0)) (ty := .int) (C := R_M) (T := T_M) (N := 24) hx hb hT in_M t_M t_M_ok n_M hown hK hP hD hS 0 rfl rfl 0 (by decide) (hT _ k_325) (fun _ h9 => h9) rfl (by decide +kernel) rfl rfl (Nat.le_of_ble_eq_true rfl) d_M_close_2 (fun H locs hP hD hS => ?_)
  have hP : va_P (dC, dI) vwCl (wM q cI cL own amt tag mad spt made dsp dow dam dtg sp mk mint dep hgt und supply pot apl fes mns tms pic) H := hP
  have hD : va_D A (wM q cI cL own amt tag mad spt made dsp dow dam dtg sp mk mint dep hgt und supply pot apl fes mns tms pic) := hD
  refine lv_aload_n hx hb d_M_close_5 rfl (lv_at hl 0 rfl) ?_
  refine lv_dup hx hb d_M_close_6 rfl ?_
  refine va_get (D := (dC, dI)) (ci := 4) (v := .int (nI hgt)) (C := R_M) (T := T_M) (N := 24) hx hb hT in_M hown hK hP 0 rfl rfl 8 (by decide) (hT _ k_333) (fun _ h9 => h9) rfl d_M_close_7 ?_
  refine lv_iconst (v := nI 1) hx hb d_M_close_10 (by decide) ?_
  refine lv_iadd hx hb d_M_close_11 ?_
  refine ob_eqi (nI_add hgt 1) ?_
  refine va_put (D := (dC, dI)) (ci := 4) (v := .int (nI (hgt + 1))) (ty := .int) (C := R_M) (T := T_M) (N := 24) hx hb hT in_M t_M t_M_ok n_M hown hK hP hD hS 0 rfl rfl 8 (by decide) (hT _ k_333) (fun _ h9 => h9) rfl (by decide +kernel) rfl rfl (Nat.le_of_ble_eq_true rfl) d_M_close_12 (fun H locs hP hD hS => ?_)
  have hP : va_P (dC, dI) vwCl (wM q cI cL own amt tag mad spt made dsp dow dam dtg sp mk mint dep (hgt + 1) und supply pot apl fes mns tms pic) H := hP
  have hD : va_D A (wM q cI cL own amt tag mad spt made dsp dow dam dtg sp mk mint dep (hgt + 1) und supply pot apl fes mns tms pic) := hD
  refine lv_aload_n hx hb d_M_close_15 rfl (lv_at hl 0 rfl) ?_
  refine va_get (D := (dC, dI)) (ci := 4) (v := .ref (q 6)) (C := R_M) (T := T_M) (N := 24) hx hb hT in_M hown hK hP 0 rfl rfl 13 (by decide) (hT _ k_338) (fun _ h9 => h9) rfl d_M_close_16 ?_
  refine lv_aload_n hx hb d_M_close_19 rfl (lv_at hl 0 rfl) ?_
  refine va_get (D := (dC, dI)) (ci := 4) (v := .int (nI (hgt + 1))) (C := R_M) (T := T_M) (N := 24) hx hb hT in_M hown hK hP 0 rfl rfl 8 (by decide) (hT _ k_333) (fun _ h9 => h9) rfl d_M_close_20 ?_
  refine lv_lconst (v := 0) hx hb d_M_close_23 (by decide) ?_
  refine ob_last hx hb hK hP hD hS 6 1 rfl rfl (j := hgt + 1) (nI_clamp (by omega)) (cv_in (nI_toInt (by omega)) (by omega)) d_M_close_24 (fun H locs hP hD hS => ?_)
  have hP : va_P (dC, dI) vwCl (wM q cI cL own amt tag mad spt made dsp dow dam dtg sp mk mint dep (hgt + 1) und supply pot apl (vp_updL fes (hgt + 1) (0 : Int64)) mns tms pic) H := hP
  have hD : va_D A (wM q cI cL own amt tag mad spt made dsp dow dam dtg sp mk mint dep (hgt + 1) und supply pot apl (vp_updL fes (hgt + 1) (0 : Int64)) mns tms pic) := hD
  refine lv_aload_n hx hb d_M_close_25 rfl (lv_at hl 0 rfl) ?_
  refine va_get (D := (dC, dI)) (ci := 4) (v := .ref (q 7)) (C := R_M) (T := T_M) (N := 24) hx hb hT in_M hown hK hP 0 rfl rfl 14 (by decide) (hT _ k_339) (fun _ h9 => h9) rfl d_M_close_26 ?_
  refine lv_aload_n hx hb d_M_close_29 rfl (lv_at hl 0 rfl) ?_
  refine va_get (D := (dC, dI)) (ci := 4) (v := .int (nI (hgt + 1))) (C := R_M) (T := T_M) (N := 24) hx hb hT in_M hown hK hP 0 rfl rfl 8 (by decide) (hT _ k_333) (fun _ h9 => h9) rfl d_M_close_30 ?_
  refine lv_lconst (v := 0) hx hb d_M_close_33 (by decide) ?_
  refine ob_last hx hb hK hP hD hS 7 1 rfl rfl (j := hgt + 1) (nI_clamp (by omega)) (cv_in (nI_toInt (by omega)) (by omega)) d_M_close_34 (fun H locs hP hD hS => ?_)
  have hP : va_P (dC, dI) vwCl (wM q cI cL own amt tag mad spt made dsp dow dam dtg sp mk mint dep (hgt + 1) und supply pot apl (vp_updL fes (hgt + 1) (0 : Int64)) (vp_updL mns (hgt + 1) (0 : Int64)) tms pic) H := hP
  have hD : va_D A (wM q cI cL own amt tag mad spt made dsp dow dam dtg sp mk mint dep (hgt + 1) und supply pot apl (vp_updL fes (hgt + 1) (0 : Int64)) (vp_updL mns (hgt + 1) (0 : Int64)) tms pic) := hD
  refine lv_aload_n hx hb d_M_close_35 rfl (lv_at hl 0 rfl) ?_
  refine va_get (D := (dC, dI)) (ci := 4) (v := .ref (q 8)) (C := R_M) (T := T_M) (N := 24) hx hb hT in_M hown hK hP 0 rfl rfl 15 (by decide) (hT _ k_340) (fun _ h9 => h9) rfl d_M_close_36 ?_
  refine lv_aload_n hx hb d_M_close_39 rfl (lv_at hl 0 rfl) ?_
  refine va_get (D := (dC, dI)) (ci := 4) (v := .int (nI (hgt + 1))) (C := R_M) (T := T_M) (N := 24) hx hb hT in_M hown hK hP 0 rfl rfl 8 (by decide) (hT _ k_333) (fun _ h9 => h9) rfl d_M_close_40 ?_
  refine lv_iconst (v := nI 0) hx hb d_M_close_43 (by decide) ?_
  refine ob_iast hx hb hK hP hD hS 8 0 rfl rfl (j := hgt + 1) (nI_clamp (by omega)) (cv_in (nI_toInt (by omega)) (by omega)) d_M_close_44 (fun H locs hP hD hS => ?_)
  have hP : va_P (dC, dI) vwCl (wM q cI cL own amt tag mad spt made dsp dow dam dtg sp mk mint dep (hgt + 1) und supply pot apl (vp_updL fes (hgt + 1) (0 : Int64)) (vp_updL mns (hgt + 1) (0 : Int64)) (upd tms (hgt + 1) (nI 0)) pic) H := hP
  have hD : va_D A (wM q cI cL own amt tag mad spt made dsp dow dam dtg sp mk mint dep (hgt + 1) und supply pot apl (vp_updL fes (hgt + 1) (0 : Int64)) (vp_updL mns (hgt + 1) (0 : Int64)) (upd tms (hgt + 1) (nI 0)) pic) := hD
  refine lv_aload_n hx hb d_M_close_45 rfl (lv_at hl 0 rfl) ?_
  refine lv_aload_n hx hb d_M_close_46 rfl (lv_at hl 0 rfl) ?_
  refine va_get (D := (dC, dI)) (ci := 4) (v := .int (nI und)) (C := R_M) (T := T_M) (N := 24) hx hb hT in_M hown hK hP 0 rfl rfl 9 (by decide) (hT _ k_334) (fun _ h9 => h9) rfl d_M_close_47 ?_
  refine lv_aload_n hx hb d_M_close_50 rfl (lv_at hl 0 rfl) ?_
  refine va_get (D := (dC, dI)) (ci := 4) (v := .int (nI dep)) (C := R_M) (T := T_M) (N := 24) hx hb hT in_M hown hK hP 0 rfl rfl 1 (by decide) (hT _ k_326) (fun _ h9 => h9) rfl d_M_close_51 ?_
  refine lv_icmp_ne (tgt := 64) hx hb d_M_close_54 (by decide) (fun c_54 => ?_) (fun c_54 => ?_)
  · have t_54 := mt (cv_eq (nI_toInt (by omega)) (nI_toInt (by omega))).mpr c_54
    refine lv_aload_n hx hb d_M_close_64 rfl (lv_at hl 0 rfl) ?_
    refine va_get (D := (dC, dI)) (ci := 4) (v := .int (nI und)) (C := R_M) (T := T_M) (N := 24) hx hb hT in_M hown hK hP 0 rfl rfl 9 (by decide) (hT _ k_334) (fun _ h9 => h9) rfl d_M_close_65 ?_
    refine lv_iconst (v := nI 1) hx hb d_M_close_68 (by decide) ?_
    refine lv_iadd hx hb d_M_close_69 ?_
    refine ob_eqi (nI_add und 1) ?_
    refine ob_eqi (y := nI (min dep (und + 1))) (by first | (rw [show min dep (und + 1) = dep by omega]) | (rw [show min dep (und + 1) = und + 1 by omega])) ?_
    refine va_put (D := (dC, dI)) (ci := 4) (v := .int (nI (min dep (und + 1)))) (ty := .int) (C := R_M) (T := T_M) (N := 24) hx hb hT in_M t_M t_M_ok n_M hown hK hP hD hS 0 rfl rfl 9 (by decide) (hT _ k_334) (fun _ h9 => h9) rfl (by decide +kernel) rfl rfl (Nat.le_of_ble_eq_true rfl) d_M_close_70 (fun H locs hP hD hS => ?_)
    have hP : va_P (dC, dI) vwCl (wM q cI cL own amt tag mad spt made dsp dow dam dtg sp mk mint dep (hgt + 1) (min dep (und + 1)) supply pot apl (vp_updL fes (hgt + 1) (0 : Int64)) (vp_updL mns (hgt + 1) (0 : Int64)) (upd tms (hgt + 1) (nI 0)) pic) H := hP
    have hD : va_D A (wM q cI cL own amt tag mad spt made dsp dow dam dtg sp mk mint dep (hgt + 1) (min dep (und + 1)) supply pot apl (vp_updL fes (hgt + 1) (0 : Int64)) (vp_updL mns (hgt + 1) (0 : Int64)) (upd tms (hgt + 1) (nI 0)) pic) := hD
    refine lv_aload_n hx hb d_M_close_73 rfl (lv_at hl 0 rfl) ?_
    refine va_get (D := (dC, dI)) (ci := 4) (v := .int (nI (hgt + 1))) (C := R_M) (T := T_M) (N := 24) hx hb hT in_M hown hK hP 0 rfl rfl 8 (by decide) (hT _ k_333) (fun _ h9 => h9) rfl d_M_close_74 ?_
    exact ob_iretW (v := nI (hgt + 1)) hx hb hr hlocks hQ hS hP rfl rfl d_M_close_77
  · have t_54 := (cv_eq (nI_toInt (by omega)) (nI_toInt (by omega))).mp c_54
    refine lv_aload_n hx hb d_M_close_57 rfl (lv_at hl 0 rfl) ?_
    refine va_get (D := (dC, dI)) (ci := 4) (v := .int (nI dep)) (C := R_M) (T := T_M) (N := 24) hx hb hT in_M hown hK hP 0 rfl rfl 1 (by decide) (hT _ k_326) (fun _ h9 => h9) rfl d_M_close_58 ?_
    refine lv_goto (tgt := 70) hx hb d_M_close_61 (by decide) ?_
    refine ob_eqi (y := nI (min dep (und + 1))) (by first | (rw [show min dep (und + 1) = dep by omega]) | (rw [show min dep (und + 1) = und + 1 by omega])) ?_
    refine va_put (D := (dC, dI)) (ci := 4) (v := .int (nI (min dep (und + 1)))) (ty := .int) (C := R_M) (T := T_M) (N := 24) hx hb hT in_M t_M t_M_ok n_M hown hK hP hD hS 0 rfl rfl 9 (by decide) (hT _ k_334) (fun _ h9 => h9) rfl (by decide +kernel) rfl rfl (Nat.le_of_ble_eq_true rfl) d_M_close_70 (fun H locs hP hD hS => ?_)
    have hP : va_P (dC, dI) vwCl (wM q cI cL own amt tag mad spt made dsp dow dam dtg sp mk mint dep (hgt + 1) (min dep (und + 1)) supply pot apl (vp_updL fes (hgt + 1) (0 : Int64)) (vp_updL mns (hgt + 1) (0 : Int64)) (upd tms (hgt + 1) (nI 0)) pic) H := hP
    have hD : va_D A (wM q cI cL own amt tag mad spt made dsp dow dam dtg sp mk mint dep (hgt + 1) (min dep (und + 1)) supply pot apl (vp_updL fes (hgt + 1) (0 : Int64)) (vp_updL mns (hgt + 1) (0 : Int64)) (upd tms (hgt + 1) (nI 0)) pic) := hD
    refine lv_aload_n hx hb d_M_close_73 rfl (lv_at hl 0 rfl) ?_
    refine va_get (D := (dC, dI)) (ci := 4) (v := .int (nI (hgt + 1))) (C := R_M) (T := T_M) (N := 24) hx hb hT in_M hown hK hP 0 rfl rfl 8 (by decide) (hT _ k_333) (fun _ h9 => h9) rfl d_M_close_74 ?_
    exact ob_iretW (v := nI (hgt + 1)) hx hb hr hlocks hQ hS hP rfl rfl d_M_close_77
abbrev rm_M_output : Room := { frames := 2, cells := 0, slots := 0, locals := 42 }
set_option maxHeartbeats 4000000 in
set_option maxRecDepth 100000 in
theorem c_M_output (l : Launch) (dC : Nat → ClassId) (dI : Nat → Nat → Nat) (q : Nat → Nat) (cI cL : ClassId) (own : Nat → Int32) (amt : Nat → Int64) (tag : Nat → Int64) (mad : Nat → Int32) (spt : Nat → Int32) (made : Nat) (dsp : Nat → Int32) (dow : Nat → Int32) (dam : Nat → Int64) (dtg : Nat → Int64) (sp : Nat) (mk : Nat) (mint : Int64) (dep : Nat) (hgt : Nat) (und : Nat) (supply : Int64) (pot : Int64) (apl : Int32) (fes : Nat → Int64) (mns : Nat → Int64) (tms : Nat → Int32) (pic : Nat → Int32) (x : Int32) (w : Int32) (hm : made ≤ 2048) (hv : ∀ j, spt j = -1 ∨ 0 ≤ (spt j).toInt) : Met l y_M_output w_M_output rm_M_output (va_Pc [.ref (q 0), .int x, .int w] (ob_BW (dC, dI) vwCl (wM q cI cL own amt tag mad spt made dsp dow dam dtg sp mk mint dep hgt und supply pot apl fes mns tms pic) [(cI, .int), (cL, .long)] [])) (va_Qi (fun (r : Int32) (_ : Unit) => r = f_out own mad spt made x w) (fun _ t => va_P (dC, dI) vwCl (wM q cI cL own amt tag mad spt made dsp dow dam dtg sp mk mint dep hgt und supply pot apl fes mns tms pic) t.heap) (ob_A (wM q cI cL own amt tag mad spt made dsp dow dam dtg sp mk mint dep hgt und supply pot apl fes mns tms pic))) 0 0 (ob_A (wM q cI cL own amt tag mad spt made dsp dow dam dtg sp mk mint dep hgt und supply pot apl fes mns tms pic)) := by
  refine ob_ofW (cc := b_M_output) (maxL := 3) (ret := (some .int)) (own := R_M) (by decide) rfl rfl (Nat.le_of_ble_eq_true rfl) ?_
  intro p e s m args below meth c Q hQ hx hb hr hml hT hown hlocks hv ls hl
  obtain ⟨⟨hP, hK, hN⟩, hD0⟩ := hv
  have hD := ob_D_self hD0
  generalize hAe : ob_A (wM q cI cL own amt tag mad spt made dsp dow dam dtg sp mk mint dep hgt und supply pot apl fes mns tms pic) = A at hQ hD
  have hS : va_S A s.heap s.heap [] := va_S.rf
  have hl : lv_has ls 3 [(0, .ref (q 0)), (1, .int x), (2, .int w)] := hl
  refine lv_aload_n hx hb d_M_output_0 rfl (lv_at hl 0 rfl) ?_
  refine lv_iconst (v := nI 0) hx hb d_M_output_1 (by decide) ?_
  refine va_put (D := (dC, dI)) (ci := 4) (v := .int (nI 0)) (ty := .int) (C := R_M) (T := T_M) (N := 24) hx hb hT in_M t_M t_M_ok n_M hown hK hP hD hS 0 rfl rfl 0 (by decide) (hT _ k_325) (fun _ h9 => h9) rfl (by decide +kernel) rfl rfl (Nat.le_of_ble_eq_true rfl) d_M_output_2 (fun H locs hP hD hS => ?_)
  have hP : va_P (dC, dI) vwCl (wM q cI cL own amt tag mad spt made dsp dow dam dtg sp mk mint dep hgt und supply pot apl fes mns tms pic) H := hP
  have hD : va_D A (wM q cI cL own amt tag mad spt made dsp dow dam dtg sp mk mint dep hgt und supply pot apl fes mns tms pic) := hD
  refine lv_aload_n hx hb d_M_output_5 rfl (lv_at hl 0 rfl) ?_
  refine lv_iload_n hx hb d_M_output_6 rfl (lv_at hl 1 rfl) ?_
  refine ob_callR (W.runV (As := [.int x]) (rest := []) ⟨hx, hb, hml, hown, hT⟩ (c_M_isMade l dC dI q cI cL own amt tag mad spt made dsp dow dam dtg sp mk mint dep hgt und supply pot apl fes mns tms pic x hm) (cwV 1 hT (ob_goodV k_406 k_408 k_4 k_14 k_409) rfl rfl rfl (by decide +kernel) ⟨Nat.le_of_ble_eq_true rfl, Nat.le_of_ble_eq_true rfl⟩) (ob_preV (wc := wM q cI cL own amt tag mad spt made dsp dow dam dtg sp mk mint dep hgt und supply pot apl fes mns tms pic) (q0 := 0) rfl hK hP (fun _ h => absurd h List.not_mem_nil) rfl [0, 1, 2, 3, 4, 5, 6, 7, 8, 9, 10, 11, 12, 13] rfl rfl) rfl rfl hl.1 rfl (lv_room (Nat.le_of_ble_eq_true rfl)) d_M_output_7 ⟨Nat.zero_le _, Nat.zero_le _⟩) ?_
  refine ob_split (P := p_has made x) (fun b_7 => ?_) (fun b_7 => ?_)
  · refine lv_if_ne (tgt := 15) hx hb d_M_output_10 (by decide) (fun _ => ?_) (fun c => absurd c (by decide))
    refine lv_iload_n hx hb d_M_output_15 rfl (lv_at hl 2 rfl) ?_
    refine lv_if_ne (tgt := 28) hx hb d_M_output_16 (by decide) (fun c_16 => ?_) (fun c_16 => ?_)
    · have t_16 := mt (cv_eq rfl (by decide : (0 : Int32).toInt = 0)).mpr c_16
      refine lv_iload_n hx hb d_M_output_28 rfl (lv_at hl 2 rfl) ?_
      refine lv_iconst (v := nI 1) hx hb d_M_output_29 (by decide) ?_
      refine lv_icmp_ne (tgt := 49) hx hb d_M_output_30 (by decide) (fun c_30 => ?_) (fun c_30 => ?_)
      · have t_30 := mt (cv_eq rfl (nI_toInt (by omega))).mpr c_30
        refine lv_iload_n hx hb d_M_output_49 rfl (lv_at hl 2 rfl) ?_
        refine lv_iconst (v := nI 2) hx hb d_M_output_50 (by decide) ?_
        refine lv_icmp_ne (tgt := 63) hx hb d_M_output_51 (by decide) (fun c_51 => ?_) (fun c_51 => ?_)
        · have t_51 := mt (cv_eq rfl (nI_toInt (by omega))).mpr c_51
          refine lv_iload_n hx hb d_M_output_63 rfl (lv_at hl 2 rfl) ?_
          refine lv_iconst (v := nI 3) hx hb d_M_output_64 (by decide) ?_
          refine lv_icmp_ne (tgt := 77) hx hb d_M_output_65 (by decide) (fun c_65 => ?_) (fun c_65 => ?_)
          · have t_65 := mt (cv_eq rfl (nI_toInt (by omega))).mpr c_65
            refine lv_iconst (v := (-1 : Int32)) hx hb d_M_output_77 (by decide) ?_
            exact ob_iretW (v := (-1 : Int32)) hx hb hr hlocks hQ hS hP rfl (by rw [f_out, if_pos b_7]; first | exact (if_pos (by omega)).symm | (rw [if_neg (by omega), if_pos (by omega)]; done) | (rw [if_neg (by omega), if_pos (by omega), if_pos b_35.2]; done) | (rw [if_neg (by omega), if_pos (by omega), if_neg (fun h => b_35 ⟨b_7, h⟩)]; done) | (rw [if_neg (by omega), if_neg (by omega), if_pos (by omega)]; done) | (rw [if_neg (by omega), if_neg (by omega), if_neg (by omega), if_pos (by omega)]; done) | (rw [if_neg (by omega), if_neg (by omega), if_neg (by omega), if_neg (by omega)]; done)) d_M_output_78
          · have t_65 := (cv_eq rfl (nI_toInt (by omega))).mp c_65
            refine lv_aload_n hx hb d_M_output_68 rfl (lv_at hl 0 rfl) ?_
            refine va_get (D := (dC, dI)) (ci := 4) (v := .ref (q 5)) (C := R_M) (T := T_M) (N := 24) hx hb hT in_M hown hK hP 0 rfl rfl 7 (by decide) (hT _ k_332) (fun _ h9 => h9) rfl d_M_output_69 ?_
            refine lv_iload_n hx hb d_M_output_72 rfl (lv_at hl 1 rfl) ?_
            refine ob_iald hx hb hK hP 5 0 rfl rfl (j := x.toNatClampNeg) rfl (cv_in rfl (by omega)) d_M_output_73 ?_
            refine lv_goto (tgt := 78) hx hb d_M_output_74 (by decide) ?_
            exact ob_iretW (v := spt x.toNatClampNeg) hx hb hr hlocks hQ hS hP rfl (by rw [f_out, if_pos b_7]; first | exact (if_pos (by omega)).symm | (rw [if_neg (by omega), if_pos (by omega)]; done) | (rw [if_neg (by omega), if_pos (by omega), if_pos b_35.2]; done) | (rw [if_neg (by omega), if_pos (by omega), if_neg (fun h => b_35 ⟨b_7, h⟩)]; done) | (rw [if_neg (by omega), if_neg (by omega), if_pos (by omega)]; done) | (rw [if_neg (by omega), if_neg (by omega), if_neg (by omega), if_pos (by omega)]; done) | (rw [if_neg (by omega), if_neg (by omega), if_neg (by omega), if_neg (by omega)]; done)) d_M_output_78
        · have t_51 := (cv_eq rfl (nI_toInt (by omega))).mp c_51
          refine lv_aload_n hx hb d_M_output_54 rfl (lv_at hl 0 rfl) ?_
          refine va_get (D := (dC, dI)) (ci := 4) (v := .ref (q 4)) (C := R_M) (T := T_M) (N := 24) hx hb hT in_M hown hK hP 0 rfl rfl 6 (by decide) (hT _ k_331) (fun _ h9 => h9) rfl d_M_output_55 ?_
          refine lv_iload_n hx hb d_M_output_58 rfl (lv_at hl 1 rfl) ?_
          refine ob_iald hx hb hK hP 4 0 rfl rfl (j := x.toNatClampNeg) rfl (cv_in rfl (by omega)) d_M_output_59 ?_
          refine lv_goto (tgt := 78) hx hb d_M_output_60 (by decide) ?_
          exact ob_iretW (v := mad x.toNatClampNeg) hx hb hr hlocks hQ hS hP rfl (by rw [f_out, if_pos b_7]; first | exact (if_pos (by omega)).symm | (rw [if_neg (by omega), if_pos (by omega)]; done) | (rw [if_neg (by omega), if_pos (by omega), if_pos b_35.2]; done) | (rw [if_neg (by omega), if_pos (by omega), if_neg (fun h => b_35 ⟨b_7, h⟩)]; done) | (rw [if_neg (by omega), if_neg (by omega), if_pos (by omega)]; done) | (rw [if_neg (by omega), if_neg (by omega), if_neg (by omega), if_pos (by omega)]; done) | (rw [if_neg (by omega), if_neg (by omega), if_neg (by omega), if_neg (by omega)]; done)) d_M_output_78
      · have t_30 := (cv_eq rfl (nI_toInt (by omega))).mp c_30
        refine lv_aload_n hx hb d_M_output_33 rfl (lv_at hl 0 rfl) ?_
        refine lv_iload_n hx hb d_M_output_34 rfl (lv_at hl 1 rfl) ?_
        refine ob_callR (W.runV (As := [.int x]) (rest := []) ⟨hx, hb, hml, hown, hT⟩ (c_M_isLive l dC dI q cI cL own amt tag mad spt made dsp dow dam dtg sp mk mint dep hgt und supply pot apl fes mns tms pic x hm hv) (cwV 1 hT (ob_goodV k_402 k_404 k_3 k_14 k_405) rfl rfl rfl (by decide +kernel) ⟨Nat.le_of_ble_eq_true rfl, Nat.le_of_ble_eq_true rfl⟩) (ob_preV (wc := wM q cI cL own amt tag mad spt made dsp dow dam dtg sp mk mint dep hgt und supply pot apl fes mns tms pic) (q0 := 0) rfl hK hP (fun _ h => absurd h List.not_mem_nil) rfl [0, 1, 2, 3, 4, 5, 6, 7, 8, 9, 10, 11, 12, 13] rfl rfl) rfl rfl hl.1 rfl (lv_room (Nat.le_of_ble_eq_true rfl)) d_M_output_35 ⟨Nat.zero_le _, Nat.zero_le _⟩) ?_
        refine ob_split (P := p_live spt made x) (fun b_35 => ?_) (fun b_35 => ?_)
        · refine lv_if_eq (tgt := 45) hx hb d_M_output_38 (by decide) (fun c => absurd c (by decide)) (fun _ => ?_)
          refine lv_iconst (v := nI 1) hx hb d_M_output_41 (by decide) ?_
          refine lv_goto (tgt := 78) hx hb d_M_output_42 (by decide) ?_
          exact ob_iretW (v := nI 1) hx hb hr hlocks hQ hS hP rfl (by rw [f_out, if_pos b_7]; first | exact (if_pos (by omega)).symm | (rw [if_neg (by omega), if_pos (by omega)]; done) | (rw [if_neg (by omega), if_pos (by omega), if_pos b_35.2]; done) | (rw [if_neg (by omega), if_pos (by omega), if_neg (fun h => b_35 ⟨b_7, h⟩)]; done) | (rw [if_neg (by omega), if_neg (by omega), if_pos (by omega)]; done) | (rw [if_neg (by omega), if_neg (by omega), if_neg (by omega), if_pos (by omega)]; done) | (rw [if_neg (by omega), if_neg (by omega), if_neg (by omega), if_neg (by omega)]; done)) d_M_output_78
        · refine lv_if_eq (tgt := 45) hx hb d_M_output_38 (by decide) (fun _ => ?_) (fun c => absurd c (by decide))
          refine lv_iconst (v := nI 0) hx hb d_M_output_45 (by decide) ?_
          refine lv_goto (tgt := 78) hx hb d_M_output_46 (by decide) ?_
          exact ob_iretW (v := nI 0) hx hb hr hlocks hQ hS hP rfl (by rw [f_out, if_pos b_7]; first | exact (if_pos (by omega)).symm | (rw [if_neg (by omega), if_pos (by omega)]; done) | (rw [if_neg (by omega), if_pos (by omega), if_pos b_35.2]; done) | (rw [if_neg (by omega), if_pos (by omega), if_neg (fun h => b_35 ⟨b_7, h⟩)]; done) | (rw [if_neg (by omega), if_neg (by omega), if_pos (by omega)]; done) | (rw [if_neg (by omega), if_neg (by omega), if_neg (by omega), if_pos (by omega)]; done) | (rw [if_neg (by omega), if_neg (by omega), if_neg (by omega), if_neg (by omega)]; done)) d_M_output_78
    · have t_16 := (cv_eq rfl (by decide : (0 : Int32).toInt = 0)).mp c_16
      refine lv_aload_n hx hb d_M_output_19 rfl (lv_at hl 0 rfl) ?_
      refine va_get (D := (dC, dI)) (ci := 4) (v := .ref (q 1)) (C := R_M) (T := T_M) (N := 24) hx hb hT in_M hown hK hP 0 rfl rfl 3 (by decide) (hT _ k_328) (fun _ h9 => h9) rfl d_M_output_20 ?_
      refine lv_iload_n hx hb d_M_output_23 rfl (lv_at hl 1 rfl) ?_
      refine ob_iald hx hb hK hP 1 0 rfl rfl (j := x.toNatClampNeg) rfl (cv_in rfl (by omega)) d_M_output_24 ?_
      refine lv_goto (tgt := 78) hx hb d_M_output_25 (by decide) ?_
      exact ob_iretW (v := own x.toNatClampNeg) hx hb hr hlocks hQ hS hP rfl (by rw [f_out, if_pos b_7]; first | exact (if_pos (by omega)).symm | (rw [if_neg (by omega), if_pos (by omega)]; done) | (rw [if_neg (by omega), if_pos (by omega), if_pos b_35.2]; done) | (rw [if_neg (by omega), if_pos (by omega), if_neg (fun h => b_35 ⟨b_7, h⟩)]; done) | (rw [if_neg (by omega), if_neg (by omega), if_pos (by omega)]; done) | (rw [if_neg (by omega), if_neg (by omega), if_neg (by omega), if_pos (by omega)]; done) | (rw [if_neg (by omega), if_neg (by omega), if_neg (by omega), if_neg (by omega)]; done)) d_M_output_78
  · refine lv_if_ne (tgt := 15) hx hb d_M_output_10 (by decide) (fun c => absurd c (by decide)) (fun _ => ?_)
    refine lv_iconst (v := (-1 : Int32)) hx hb d_M_output_13 (by decide) ?_
    exact ob_iretW (v := (-1 : Int32)) hx hb hr hlocks hQ hS hP rfl (by rw [f_out, if_neg b_7]) d_M_output_14
abbrev rm_M_amount : Room := { frames := 1, cells := 0, slots := 0, locals := 21 }
set_option maxHeartbeats 4000000 in
set_option maxRecDepth 100000 in
theorem c_M_amount (l : Launch) (dC : Nat → ClassId) (dI : Nat → Nat → Nat) (q : Nat → Nat) (cI cL : ClassId) (own : Nat → Int32) (amt : Nat → Int64) (tag : Nat → Int64) (mad : Nat → Int32) (spt : Nat → Int32) (made : Nat) (dsp : Nat → Int32) (dow : Nat → Int32) (dam : Nat → Int64) (dtg : Nat → Int64) (sp : Nat) (mk : Nat) (mint : Int64) (dep : Nat) (hgt : Nat) (und : Nat) (supply : Int64) (pot : Int64) (apl : Int32) (fes : Nat → Int64) (mns : Nat → Int64) (tms : Nat → Int32) (pic : Nat → Int32) (x : Int32) (hm : made ≤ 2048) : Met l y_M_amount w_M_amount rm_M_amount (va_Pc [.ref (q 0), .int x] (ob_BW (dC, dI) vwCl (wM q cI cL own amt tag mad spt made dsp dow dam dtg sp mk mint dep hgt und supply pot apl fes mns tms pic) [(cI, .int), (cL, .long)] [])) (va_Ql (fun (r : Int64) (_ : Unit) => r = f_amt amt made x) (fun _ t => va_P (dC, dI) vwCl (wM q cI cL own amt tag mad spt made dsp dow dam dtg sp mk mint dep hgt und supply pot apl fes mns tms pic) t.heap) (ob_A (wM q cI cL own amt tag mad spt made dsp dow dam dtg sp mk mint dep hgt und supply pot apl fes mns tms pic))) 0 0 (ob_A (wM q cI cL own amt tag mad spt made dsp dow dam dtg sp mk mint dep hgt und supply pot apl fes mns tms pic)) := by
  refine ob_ofW (cc := b_M_amount) (maxL := 2) (ret := (some .long)) (own := R_M) (by decide) rfl rfl (Nat.le_of_ble_eq_true rfl) ?_
  intro p e s m args below meth c Q hQ hx hb hr hml hT hown hlocks hv ls hl
  obtain ⟨⟨hP, hK, hN⟩, hD0⟩ := hv
  have hD := ob_D_self hD0
  generalize hAe : ob_A (wM q cI cL own amt tag mad spt made dsp dow dam dtg sp mk mint dep hgt und supply pot apl fes mns tms pic) = A at hQ hD
  have hS : va_S A s.heap s.heap [] := va_S.rf
  have hl : lv_has ls 2 [(0, .ref (q 0)), (1, .int x)] := hl
  refine lv_aload_n hx hb d_M_amount_0 rfl (lv_at hl 0 rfl) ?_
  refine lv_iconst (v := nI 0) hx hb d_M_amount_1 (by decide) ?_
  refine va_put (D := (dC, dI)) (ci := 4) (v := .int (nI 0)) (ty := .int) (C := R_M) (T := T_M) (N := 24) hx hb hT in_M t_M t_M_ok n_M hown hK hP hD hS 0 rfl rfl 0 (by decide) (hT _ k_325) (fun _ h9 => h9) rfl (by decide +kernel) rfl rfl (Nat.le_of_ble_eq_true rfl) d_M_amount_2 (fun H locs hP hD hS => ?_)
  have hP : va_P (dC, dI) vwCl (wM q cI cL own amt tag mad spt made dsp dow dam dtg sp mk mint dep hgt und supply pot apl fes mns tms pic) H := hP
  have hD : va_D A (wM q cI cL own amt tag mad spt made dsp dow dam dtg sp mk mint dep hgt und supply pot apl fes mns tms pic) := hD
  refine lv_aload_n hx hb d_M_amount_5 rfl (lv_at hl 0 rfl) ?_
  refine lv_iload_n hx hb d_M_amount_6 rfl (lv_at hl 1 rfl) ?_
  refine ob_callR (W.runV (As := [.int x]) (rest := []) ⟨hx, hb, hml, hown, hT⟩ (c_M_isMade l dC dI q cI cL own amt tag mad spt made dsp dow dam dtg sp mk mint dep hgt und supply pot apl fes mns tms pic x hm) (cwV 1 hT (ob_goodV k_406 k_408 k_4 k_14 k_409) rfl rfl rfl (by decide +kernel) ⟨Nat.le_of_ble_eq_true rfl, Nat.le_of_ble_eq_true rfl⟩) (ob_preV (wc := wM q cI cL own amt tag mad spt made dsp dow dam dtg sp mk mint dep hgt und supply pot apl fes mns tms pic) (q0 := 0) rfl hK hP (fun _ h => absurd h List.not_mem_nil) rfl [0, 1, 2, 3, 4, 5, 6, 7, 8, 9, 10, 11, 12, 13] rfl rfl) rfl rfl hl.1 rfl (lv_room (Nat.le_of_ble_eq_true rfl)) d_M_amount_7 ⟨Nat.zero_le _, Nat.zero_le _⟩) ?_
  refine ob_split (P := p_has made x) (fun b_7 => ?_) (fun b_7 => ?_)
  · refine lv_if_eq (tgt := 22) hx hb d_M_amount_10 (by decide) (fun c => absurd c (by decide)) (fun _ => ?_)
    refine lv_aload_n hx hb d_M_amount_13 rfl (lv_at hl 0 rfl) ?_
    refine va_get (D := (dC, dI)) (ci := 4) (v := .ref (q 2)) (C := R_M) (T := T_M) (N := 24) hx hb hT in_M hown hK hP 0 rfl rfl 4 (by decide) (hT _ k_329) (fun _ h9 => h9) rfl d_M_amount_14 ?_
    refine lv_iload_n hx hb d_M_amount_17 rfl (lv_at hl 1 rfl) ?_
    refine ob_lald hx hb hK hP 2 1 rfl rfl (j := x.toNatClampNeg) rfl (cv_in rfl (by omega)) d_M_amount_18 ?_
    refine lv_goto (tgt := 23) hx hb d_M_amount_19 (by decide) ?_
    exact ob_lretW (v := amt x.toNatClampNeg) hx hb hr hlocks hQ hS hP rfl (by first | exact (if_pos b_7).symm | exact (if_neg b_7).symm) d_M_amount_23
  · refine lv_if_eq (tgt := 22) hx hb d_M_amount_10 (by decide) (fun _ => ?_) (fun c => absurd c (by decide))
    refine lv_lconst (v := 0) hx hb d_M_amount_22 (by decide) ?_
    exact ob_lretW (v := (0 : Int64)) hx hb hr hlocks hQ hS hP rfl (by first | exact (if_pos b_7).symm | exact (if_neg b_7).symm) d_M_amount_23
abbrev rm_M_tag : Room := { frames := 1, cells := 0, slots := 0, locals := 21 }
set_option maxHeartbeats 4000000 in
set_option maxRecDepth 100000 in
theorem c_M_tag (l : Launch) (dC : Nat → ClassId) (dI : Nat → Nat → Nat) (q : Nat → Nat) (cI cL : ClassId) (own : Nat → Int32) (amt : Nat → Int64) (tag : Nat → Int64) (mad : Nat → Int32) (spt : Nat → Int32) (made : Nat) (dsp : Nat → Int32) (dow : Nat → Int32) (dam : Nat → Int64) (dtg : Nat → Int64) (sp : Nat) (mk : Nat) (mint : Int64) (dep : Nat) (hgt : Nat) (und : Nat) (supply : Int64) (pot : Int64) (apl : Int32) (fes : Nat → Int64) (mns : Nat → Int64) (tms : Nat → Int32) (pic : Nat → Int32) (x : Int32) (hm : made ≤ 2048) : Met l y_M_tag w_M_tag rm_M_tag (va_Pc [.ref (q 0), .int x] (ob_BW (dC, dI) vwCl (wM q cI cL own amt tag mad spt made dsp dow dam dtg sp mk mint dep hgt und supply pot apl fes mns tms pic) [(cI, .int), (cL, .long)] [])) (va_Ql (fun (r : Int64) (_ : Unit) => r = f_amt tag made x) (fun _ t => va_P (dC, dI) vwCl (wM q cI cL own amt tag mad spt made dsp dow dam dtg sp mk mint dep hgt und supply pot apl fes mns tms pic) t.heap) (ob_A (wM q cI cL own amt tag mad spt made dsp dow dam dtg sp mk mint dep hgt und supply pot apl fes mns tms pic))) 0 0 (ob_A (wM q cI cL own amt tag mad spt made dsp dow dam dtg sp mk mint dep hgt und supply pot apl fes mns tms pic)) := by
  refine ob_ofW (cc := b_M_tag) (maxL := 2) (ret := (some .long)) (own := R_M) (by decide) rfl rfl (Nat.le_of_ble_eq_true rfl) ?_
  intro p e s m args below meth c Q hQ hx hb hr hml hT hown hlocks hv ls hl
  obtain ⟨⟨hP, hK, hN⟩, hD0⟩ := hv
  have hD := ob_D_self hD0
  generalize hAe : ob_A (wM q cI cL own amt tag mad spt made dsp dow dam dtg sp mk mint dep hgt und supply pot apl fes mns tms pic) = A at hQ hD
  have hS : va_S A s.heap s.heap [] := va_S.rf
  have hl : lv_has ls 2 [(0, .ref (q 0)), (1, .int x)] := hl
  refine lv_aload_n hx hb d_M_tag_0 rfl (lv_at hl 0 rfl) ?_
  refine lv_iconst (v := nI 0) hx hb d_M_tag_1 (by decide) ?_
  refine va_put (D := (dC, dI)) (ci := 4) (v := .int (nI 0)) (ty := .int) (C := R_M) (T := T_M) (N := 24) hx hb hT in_M t_M t_M_ok n_M hown hK hP hD hS 0 rfl rfl 0 (by decide) (hT _ k_325) (fun _ h9 => h9) rfl (by decide +kernel) rfl rfl (Nat.le_of_ble_eq_true rfl) d_M_tag_2 (fun H locs hP hD hS => ?_)
  have hP : va_P (dC, dI) vwCl (wM q cI cL own amt tag mad spt made dsp dow dam dtg sp mk mint dep hgt und supply pot apl fes mns tms pic) H := hP
  have hD : va_D A (wM q cI cL own amt tag mad spt made dsp dow dam dtg sp mk mint dep hgt und supply pot apl fes mns tms pic) := hD
  refine lv_aload_n hx hb d_M_tag_5 rfl (lv_at hl 0 rfl) ?_
  refine lv_iload_n hx hb d_M_tag_6 rfl (lv_at hl 1 rfl) ?_
  refine ob_callR (W.runV (As := [.int x]) (rest := []) ⟨hx, hb, hml, hown, hT⟩ (c_M_isMade l dC dI q cI cL own amt tag mad spt made dsp dow dam dtg sp mk mint dep hgt und supply pot apl fes mns tms pic x hm) (cwV 1 hT (ob_goodV k_406 k_408 k_4 k_14 k_409) rfl rfl rfl (by decide +kernel) ⟨Nat.le_of_ble_eq_true rfl, Nat.le_of_ble_eq_true rfl⟩) (ob_preV (wc := wM q cI cL own amt tag mad spt made dsp dow dam dtg sp mk mint dep hgt und supply pot apl fes mns tms pic) (q0 := 0) rfl hK hP (fun _ h => absurd h List.not_mem_nil) rfl [0, 1, 2, 3, 4, 5, 6, 7, 8, 9, 10, 11, 12, 13] rfl rfl) rfl rfl hl.1 rfl (lv_room (Nat.le_of_ble_eq_true rfl)) d_M_tag_7 ⟨Nat.zero_le _, Nat.zero_le _⟩) ?_
  refine ob_split (P := p_has made x) (fun b_7 => ?_) (fun b_7 => ?_)
  · refine lv_if_eq (tgt := 22) hx hb d_M_tag_10 (by decide) (fun c => absurd c (by decide)) (fun _ => ?_)
    refine lv_aload_n hx hb d_M_tag_13 rfl (lv_at hl 0 rfl) ?_
    refine va_get (D := (dC, dI)) (ci := 4) (v := .ref (q 3)) (C := R_M) (T := T_M) (N := 24) hx hb hT in_M hown hK hP 0 rfl rfl 5 (by decide) (hT _ k_330) (fun _ h9 => h9) rfl d_M_tag_14 ?_
    refine lv_iload_n hx hb d_M_tag_17 rfl (lv_at hl 1 rfl) ?_
    refine ob_lald hx hb hK hP 3 1 rfl rfl (j := x.toNatClampNeg) rfl (cv_in rfl (by omega)) d_M_tag_18 ?_
    refine lv_goto (tgt := 23) hx hb d_M_tag_19 (by decide) ?_
    exact ob_lretW (v := tag x.toNatClampNeg) hx hb hr hlocks hQ hS hP rfl (by first | exact (if_pos b_7).symm | exact (if_neg b_7).symm) d_M_tag_23
  · refine lv_if_eq (tgt := 22) hx hb d_M_tag_10 (by decide) (fun _ => ?_) (fun c => absurd c (by decide))
    refine lv_lconst (v := 0) hx hb d_M_tag_22 (by decide) ?_
    exact ob_lretW (v := (0 : Int64)) hx hb hr hlocks hQ hS hP rfl (by first | exact (if_pos b_7).symm | exact (if_neg b_7).symm) d_M_tag_23
abbrev rm_M_balance : Room := { frames := 2, cells := 0, slots := 0, locals := 42 }
set_option maxHeartbeats 4000000 in
set_option maxRecDepth 100000 in
theorem c_M_balance (l : Launch) (dC : Nat → ClassId) (dI : Nat → Nat → Nat) (q : Nat → Nat) (cI cL : ClassId) (own : Nat → Int32) (amt : Nat → Int64) (tag : Nat → Int64) (mad : Nat → Int32) (spt : Nat → Int32) (made : Nat) (dsp : Nat → Int32) (dow : Nat → Int32) (dam : Nat → Int64) (dtg : Nat → Int64) (sp : Nat) (mk : Nat) (mint : Int64) (dep : Nat) (hgt : Nat) (und : Nat) (supply : Int64) (pot : Int64) (apl : Int32) (fes : Nat → Int64) (mns : Nat → Int64) (tms : Nat → Int32) (pic : Nat → Int32) (o : Int32) (hm : made ≤ 2048) (hv : ∀ j, spt j = -1 ∨ 0 ≤ (spt j).toInt) : Met l y_M_balance w_M_balance rm_M_balance (va_Pc [.ref (q 0), .int o] (ob_BW (dC, dI) vwCl (wM q cI cL own amt tag mad spt made dsp dow dam dtg sp mk mint dep hgt und supply pot apl fes mns tms pic) [(cI, .int), (cL, .long)] [])) (va_Ql (fun (r : Int64) (_ : Unit) => r = f_bal (f_lv own spt o) amt made) (fun _ t => va_P (dC, dI) vwCl (wM q cI cL own amt tag mad spt made dsp dow dam dtg sp mk mint dep hgt und supply pot apl fes mns tms pic) t.heap) (ob_A (wM q cI cL own amt tag mad spt made dsp dow dam dtg sp mk mint dep hgt und supply pot apl fes mns tms pic))) 0 0 (ob_A (wM q cI cL own amt tag mad spt made dsp dow dam dtg sp mk mint dep hgt und supply pot apl fes mns tms pic)) := by
  refine ob_ofW (cc := b_M_balance) (maxL := 5) (ret := (some .long)) (own := R_M) (by decide) rfl rfl (Nat.le_of_ble_eq_true rfl) ?_
  intro p e s m args below meth c Q hQ hx hb hr hml hT hown hlocks hv ls hl
  obtain ⟨⟨hP, hK, hN⟩, hD0⟩ := hv
  have hD := ob_D_self hD0
  generalize hAe : ob_A (wM q cI cL own amt tag mad spt made dsp dow dam dtg sp mk mint dep hgt und supply pot apl fes mns tms pic) = A at hQ hD
  have hS : va_S A s.heap s.heap [] := va_S.rf
  have hl : lv_has ls 5 [(0, .ref (q 0)), (1, .int o)] := hl
  refine lv_aload_n hx hb d_M_balance_0 rfl (lv_at hl 0 rfl) ?_
  refine lv_iconst (v := nI 0) hx hb d_M_balance_1 (by decide) ?_
  refine va_put (D := (dC, dI)) (ci := 4) (v := .int (nI 0)) (ty := .int) (C := R_M) (T := T_M) (N := 24) hx hb hT in_M t_M t_M_ok n_M hown hK hP hD hS 0 rfl rfl 0 (by decide) (hT _ k_325) (fun _ h9 => h9) rfl (by decide +kernel) rfl rfl (Nat.le_of_ble_eq_true rfl) d_M_balance_2 (fun H locs hP hD hS => ?_)
  have hP : va_P (dC, dI) vwCl (wM q cI cL own amt tag mad spt made dsp dow dam dtg sp mk mint dep hgt und supply pot apl fes mns tms pic) H := hP
  have hD : va_D A (wM q cI cL own amt tag mad spt made dsp dow dam dtg sp mk mint dep hgt und supply pot apl fes mns tms pic) := hD
  refine lv_lconst (v := 0) hx hb d_M_balance_5 (by decide) ?_
  refine lv_lstore_n (lv' := [(2, .long (0 : Int64)), (0, .ref (q 0)), (1, .int o)]) hx hb d_M_balance_6 rfl hl (by decide) rfl (fun ls hl => ?_)
  refine lv_iconst (v := nI 0) hx hb d_M_balance_7 (by decide) ?_
  refine lv_istore (lv' := [(4, .int (nI 0)), (2, .long (0 : Int64)), (0, .ref (q 0)), (1, .int o)]) hx hb d_M_balance_8 hl (by decide) rfl (fun ls hl => ?_)
  have key_10 : ∀ (n : Nat) (k : Nat) (sm : Int64) (H : Heap) (locs : List Loc) (ls : Array Slot), made - k < n → (k ≤ made) → (sm = f_bal (f_lv own spt o) amt k) → va_P (dC, dI) vwCl (wM q cI cL own amt tag mad spt made dsp dow dam dtg sp mk mint dep hgt und supply pot apl fes mns tms pic) H → va_D A (wM q cI cL own amt tag mad spt made dsp dow dam dtg sp mk mint dep hgt und supply pot apl fes mns tms pic) → va_S A s.heap H locs → lv_has ls 5 [(4, .int (nI k)), (2, .long sm), (0, .ref (q 0)), (1, .int o)] → W p l e rm_M_balance s m args below meth c H locs 0 0 Q (F0 m 10 ls []) := by
    intro n_10
    induction n_10 with
    | zero => intro k sm H locs ls h; exact absurd h (Nat.not_lt_zero _)
    | succ n_10 ih_10 =>
      intro k sm H locs ls hn_10 hk hs hP hD hS hl
      refine lv_iload hx hb d_M_balance_10 (lv_at hl 0 rfl) ?_
      refine lv_aload_n hx hb d_M_balance_12 rfl (lv_at hl 2 rfl) ?_
      refine va_get (D := (dC, dI)) (ci := 4) (v := .int (nI made)) (C := R_M) (T := T_M) (N := 24) hx hb hT in_M hown hK hP 0 rfl rfl 2 (by decide) (hT _ k_327) (fun _ h9 => h9) rfl d_M_balance_13 ?_
      refine lv_icmp_ge (tgt := 59) hx hb d_M_balance_16 (by decide) (fun c_16 => ?_) (fun c_16 => ?_)
      · have t_16 := (cv_le (nI_toInt (by omega)) (nI_toInt (by omega))).mp c_16
        refine lv_lload_n hx hb d_M_balance_59 rfl (lv_at hl 1 rfl) ?_
        exact ob_lretW (v := sm) hx hb hr hlocks hQ hS hP rfl (by rw [hs, show k = made by omega]) d_M_balance_60
      · have t_16 := mt (cv_le (nI_toInt (by omega)) (nI_toInt (by omega))).mpr c_16
        refine lv_lload_n hx hb d_M_balance_19 rfl (lv_at hl 1 rfl) ?_
        refine lv_aload_n hx hb d_M_balance_20 rfl (lv_at hl 2 rfl) ?_
        refine lv_iload hx hb d_M_balance_21 (lv_at hl 0 rfl) ?_
        refine ob_callR (W.runV (As := [.int (nI k)]) (rest := [.long sm]) ⟨hx, hb, hml, hown, hT⟩ (c_M_isLive l dC dI q cI cL own amt tag mad spt made dsp dow dam dtg sp mk mint dep hgt und supply pot apl fes mns tms pic (nI k) hm hv) (cwV 1 hT (ob_goodV k_402 k_404 k_3 k_14 k_405) rfl rfl rfl (by decide +kernel) ⟨Nat.le_of_ble_eq_true rfl, Nat.le_of_ble_eq_true rfl⟩) (ob_preV (wc := wM q cI cL own amt tag mad spt made dsp dow dam dtg sp mk mint dep hgt und supply pot apl fes mns tms pic) (q0 := 0) rfl hK hP (fun _ h => absurd h List.not_mem_nil) rfl [0, 1, 2, 3, 4, 5, 6, 7, 8, 9, 10, 11, 12, 13] rfl rfl) rfl rfl hl.1 rfl (lv_room (Nat.le_of_ble_eq_true rfl)) d_M_balance_23 ⟨Nat.zero_le _, Nat.zero_le _⟩) ?_
        refine ob_split (P := p_live spt made (nI k)) (fun b_23 => ?_) (fun b_23 => ?_)
        · refine lv_if_eq (tgt := 50) hx hb d_M_balance_26 (by decide) (fun c => absurd c (by decide)) (fun _ => ?_)
          refine lv_aload_n hx hb d_M_balance_29 rfl (lv_at hl 2 rfl) ?_
          refine va_get (D := (dC, dI)) (ci := 4) (v := .ref (q 1)) (C := R_M) (T := T_M) (N := 24) hx hb hT in_M hown hK hP 0 rfl rfl 3 (by decide) (hT _ k_328) (fun _ h9 => h9) rfl d_M_balance_30 ?_
          refine lv_iload hx hb d_M_balance_33 (lv_at hl 0 rfl) ?_
          refine ob_iald hx hb hK hP 1 0 rfl rfl (j := k) (nI_clamp (by omega)) (cv_in (nI_toInt (by omega)) (by omega)) d_M_balance_35 ?_
          refine lv_iload_n hx hb d_M_balance_36 rfl (lv_at hl 3 rfl) ?_
          refine lv_icmp_ne (tgt := 50) hx hb d_M_balance_37 (by decide) (fun c_37 => ?_) (fun c_37 => ?_)
          · have t_37 := mt (cv_eq rfl rfl).mpr c_37
            refine lv_lconst (v := 0) hx hb d_M_balance_50 (by decide) ?_
            refine lv_ladd hx hb d_M_balance_51 ?_
            refine lv_lstore_n (lv' := [(2, .long (sm + (0 : Int64))), (4, .int (nI k)), (0, .ref (q 0)), (1, .int o)]) hx hb d_M_balance_52 rfl hl (by decide) rfl (fun ls hl => ?_)
            refine lv_iinc (v := nI (k + 1)) (lv' := [(4, .int (nI (k + 1))), (2, .long (sm + (0 : Int64))), (0, .ref (q 0)), (1, .int o)]) hx hb d_M_balance_53 hl (k := 1) rfl (nI_add k 1) (by decide) rfl (fun ls hl => ?_)
            refine lv_goto (tgt := 10) hx hb d_M_balance_56 (by decide) ?_
            exact ih_10 (k + 1) (sm + (0 : Int64)) _ _ _ (by omega) (by omega) (by first | exact f_bal_t hs (f_lv_iff.mpr ⟨(p_live_nI (by omega) hm).mp b_23, c_37⟩) | exact f_bal_f hs (fun h => b_23 ((p_live_nI (by omega) hm).mpr (f_lv_iff.mp h).1)) | exact f_bal_f hs (fun h => c_37 (f_lv_iff.mp h).2)) hP hD hS (lv_sub hl [0, 1, 2, 3] rfl)
          · have t_37 := (cv_eq rfl rfl).mp c_37
            refine lv_aload_n hx hb d_M_balance_40 rfl (lv_at hl 2 rfl) ?_
            refine va_get (D := (dC, dI)) (ci := 4) (v := .ref (q 2)) (C := R_M) (T := T_M) (N := 24) hx hb hT in_M hown hK hP 0 rfl rfl 4 (by decide) (hT _ k_329) (fun _ h9 => h9) rfl d_M_balance_41 ?_
            refine lv_iload hx hb d_M_balance_44 (lv_at hl 0 rfl) ?_
            refine ob_lald hx hb hK hP 2 1 rfl rfl (j := k) (nI_clamp (by omega)) (cv_in (nI_toInt (by omega)) (by omega)) d_M_balance_46 ?_
            refine lv_goto (tgt := 51) hx hb d_M_balance_47 (by decide) ?_
            refine lv_ladd hx hb d_M_balance_51 ?_
            refine lv_lstore_n (lv' := [(2, .long (sm + (amt k))), (4, .int (nI k)), (0, .ref (q 0)), (1, .int o)]) hx hb d_M_balance_52 rfl hl (by decide) rfl (fun ls hl => ?_)
            refine lv_iinc (v := nI (k + 1)) (lv' := [(4, .int (nI (k + 1))), (2, .long (sm + (amt k))), (0, .ref (q 0)), (1, .int o)]) hx hb d_M_balance_53 hl (k := 1) rfl (nI_add k 1) (by decide) rfl (fun ls hl => ?_)
            refine lv_goto (tgt := 10) hx hb d_M_balance_56 (by decide) ?_
            exact ih_10 (k + 1) (sm + (amt k)) _ _ _ (by omega) (by omega) (by first | exact f_bal_t hs (f_lv_iff.mpr ⟨(p_live_nI (by omega) hm).mp b_23, c_37⟩) | exact f_bal_f hs (fun h => b_23 ((p_live_nI (by omega) hm).mpr (f_lv_iff.mp h).1)) | exact f_bal_f hs (fun h => c_37 (f_lv_iff.mp h).2)) hP hD hS (lv_sub hl [0, 1, 2, 3] rfl)
        · refine lv_if_eq (tgt := 50) hx hb d_M_balance_26 (by decide) (fun _ => ?_) (fun c => absurd c (by decide))
          refine lv_lconst (v := 0) hx hb d_M_balance_50 (by decide) ?_
          refine lv_ladd hx hb d_M_balance_51 ?_
          refine lv_lstore_n (lv' := [(2, .long (sm + (0 : Int64))), (4, .int (nI k)), (0, .ref (q 0)), (1, .int o)]) hx hb d_M_balance_52 rfl hl (by decide) rfl (fun ls hl => ?_)
          refine lv_iinc (v := nI (k + 1)) (lv' := [(4, .int (nI (k + 1))), (2, .long (sm + (0 : Int64))), (0, .ref (q 0)), (1, .int o)]) hx hb d_M_balance_53 hl (k := 1) rfl (nI_add k 1) (by decide) rfl (fun ls hl => ?_)
          refine lv_goto (tgt := 10) hx hb d_M_balance_56 (by decide) ?_
          exact ih_10 (k + 1) (sm + (0 : Int64)) _ _ _ (by omega) (by omega) (by first | exact f_bal_t hs (f_lv_iff.mpr ⟨(p_live_nI (by omega) hm).mp b_23, c_37⟩) | exact f_bal_f hs (fun h => b_23 ((p_live_nI (by omega) hm).mpr (f_lv_iff.mp h).1)) | exact f_bal_f hs (fun h => c_37 (f_lv_iff.mp h).2)) hP hD hS (lv_sub hl [0, 1, 2, 3] rfl)
  exact key_10 _ 0 (0 : Int64) _ _ _ (Nat.lt_succ_self _) (Nat.zero_le _) rfl hP hD hS (lv_sub hl [0, 1, 2, 3] rfl)
abbrev rm_M_count : Room := { frames := 2, cells := 0, slots := 0, locals := 42 }
set_option maxHeartbeats 4000000 in
set_option maxRecDepth 100000 in
theorem c_M_count (l : Launch) (dC : Nat → ClassId) (dI : Nat → Nat → Nat) (q : Nat → Nat) (cI cL : ClassId) (own : Nat → Int32) (amt : Nat → Int64) (tag : Nat → Int64) (mad : Nat → Int32) (spt : Nat → Int32) (made : Nat) (dsp : Nat → Int32) (dow : Nat → Int32) (dam : Nat → Int64) (dtg : Nat → Int64) (sp : Nat) (mk : Nat) (mint : Int64) (dep : Nat) (hgt : Nat) (und : Nat) (supply : Int64) (pot : Int64) (apl : Int32) (fes : Nat → Int64) (mns : Nat → Int64) (tms : Nat → Int32) (pic : Nat → Int32) (o : Int32) (hm : made ≤ 2048) (hv : ∀ j, spt j = -1 ∨ 0 ≤ (spt j).toInt) : Met l y_M_count w_M_count rm_M_count (va_Pc [.ref (q 0), .int o] (ob_BW (dC, dI) vwCl (wM q cI cL own amt tag mad spt made dsp dow dam dtg sp mk mint dep hgt und supply pot apl fes mns tms pic) [(cI, .int), (cL, .long)] [])) (va_Qi (fun (r : Int32) (_ : Unit) => r = nI (f_cnt (f_lv own spt o) made)) (fun _ t => va_P (dC, dI) vwCl (wM q cI cL own amt tag mad spt made dsp dow dam dtg sp mk mint dep hgt und supply pot apl fes mns tms pic) t.heap) (ob_A (wM q cI cL own amt tag mad spt made dsp dow dam dtg sp mk mint dep hgt und supply pot apl fes mns tms pic))) 0 0 (ob_A (wM q cI cL own amt tag mad spt made dsp dow dam dtg sp mk mint dep hgt und supply pot apl fes mns tms pic)) := by
  refine ob_ofW (cc := b_M_count) (maxL := 4) (ret := (some .int)) (own := R_M) (by decide) rfl rfl (Nat.le_of_ble_eq_true rfl) ?_
  intro p e s m args below meth c Q hQ hx hb hr hml hT hown hlocks hv ls hl
  obtain ⟨⟨hP, hK, hN⟩, hD0⟩ := hv
  have hD := ob_D_self hD0
  generalize hAe : ob_A (wM q cI cL own amt tag mad spt made dsp dow dam dtg sp mk mint dep hgt und supply pot apl fes mns tms pic) = A at hQ hD
  have hS : va_S A s.heap s.heap [] := va_S.rf
  have hl : lv_has ls 4 [(0, .ref (q 0)), (1, .int o)] := hl
  refine lv_aload_n hx hb d_M_count_0 rfl (lv_at hl 0 rfl) ?_
  refine lv_iconst (v := nI 0) hx hb d_M_count_1 (by decide) ?_
  refine va_put (D := (dC, dI)) (ci := 4) (v := .int (nI 0)) (ty := .int) (C := R_M) (T := T_M) (N := 24) hx hb hT in_M t_M t_M_ok n_M hown hK hP hD hS 0 rfl rfl 0 (by decide) (hT _ k_325) (fun _ h9 => h9) rfl (by decide +kernel) rfl rfl (Nat.le_of_ble_eq_true rfl) d_M_count_2 (fun H locs hP hD hS => ?_)
  have hP : va_P (dC, dI) vwCl (wM q cI cL own amt tag mad spt made dsp dow dam dtg sp mk mint dep hgt und supply pot apl fes mns tms pic) H := hP
  have hD : va_D A (wM q cI cL own amt tag mad spt made dsp dow dam dtg sp mk mint dep hgt und supply pot apl fes mns tms pic) := hD
  refine lv_iconst (v := nI 0) hx hb d_M_count_5 (by decide) ?_
  refine lv_istore_n (lv' := [(2, .int (nI 0)), (0, .ref (q 0)), (1, .int o)]) hx hb d_M_count_6 rfl hl (by decide) rfl (fun ls hl => ?_)
  refine lv_iconst (v := nI 0) hx hb d_M_count_7 (by decide) ?_
  refine lv_istore_n (lv' := [(3, .int (nI 0)), (2, .int (nI 0)), (0, .ref (q 0)), (1, .int o)]) hx hb d_M_count_8 rfl hl (by decide) rfl (fun ls hl => ?_)
  have key_9 : ∀ (n : Nat) (k : Nat) (c9 : Nat) (H : Heap) (locs : List Loc) (ls : Array Slot), made - k < n → (k ≤ made) → (c9 = f_cnt (f_lv own spt o) k) → va_P (dC, dI) vwCl (wM q cI cL own amt tag mad spt made dsp dow dam dtg sp mk mint dep hgt und supply pot apl fes mns tms pic) H → va_D A (wM q cI cL own amt tag mad spt made dsp dow dam dtg sp mk mint dep hgt und supply pot apl fes mns tms pic) → va_S A s.heap H locs → lv_has ls 4 [(3, .int (nI k)), (2, .int (nI c9)), (0, .ref (q 0)), (1, .int o)] → W p l e rm_M_count s m args below meth c H locs 0 0 Q (F0 m 9 ls []) := by
    intro n_9
    induction n_9 with
    | zero => intro k c9 H locs ls h; exact absurd h (Nat.not_lt_zero _)
    | succ n_9 ih_9 =>
      intro k c9 H locs ls hn_9 hk hc hP hD hS hl
      refine lv_iload_n hx hb d_M_count_9 rfl (lv_at hl 0 rfl) ?_
      refine lv_aload_n hx hb d_M_count_10 rfl (lv_at hl 2 rfl) ?_
      refine va_get (D := (dC, dI)) (ci := 4) (v := .int (nI made)) (C := R_M) (T := T_M) (N := 24) hx hb hT in_M hown hK hP 0 rfl rfl 2 (by decide) (hT _ k_327) (fun _ h9 => h9) rfl d_M_count_11 ?_
      refine lv_icmp_ge (tgt := 49) hx hb d_M_count_14 (by decide) (fun c_14 => ?_) (fun c_14 => ?_)
      · have t_14 := (cv_le (nI_toInt (by omega)) (nI_toInt (by omega))).mp c_14
        refine lv_iload_n hx hb d_M_count_49 rfl (lv_at hl 1 rfl) ?_
        exact ob_iretW (v := nI c9) hx hb hr hlocks hQ hS hP rfl (by rw [hc, show k = made by omega]) d_M_count_50
      · have t_14 := mt (cv_le (nI_toInt (by omega)) (nI_toInt (by omega))).mpr c_14
        refine lv_iload_n hx hb d_M_count_17 rfl (lv_at hl 1 rfl) ?_
        refine lv_aload_n hx hb d_M_count_18 rfl (lv_at hl 2 rfl) ?_
        refine lv_iload_n hx hb d_M_count_19 rfl (lv_at hl 0 rfl) ?_
        refine ob_callR (W.runV (As := [.int (nI k)]) (rest := [.int (nI c9)]) ⟨hx, hb, hml, hown, hT⟩ (c_M_isLive l dC dI q cI cL own amt tag mad spt made dsp dow dam dtg sp mk mint dep hgt und supply pot apl fes mns tms pic (nI k) hm hv) (cwV 1 hT (ob_goodV k_402 k_404 k_3 k_14 k_405) rfl rfl rfl (by decide +kernel) ⟨Nat.le_of_ble_eq_true rfl, Nat.le_of_ble_eq_true rfl⟩) (ob_preV (wc := wM q cI cL own amt tag mad spt made dsp dow dam dtg sp mk mint dep hgt und supply pot apl fes mns tms pic) (q0 := 0) rfl hK hP (fun _ h => absurd h List.not_mem_nil) rfl [0, 1, 2, 3, 4, 5, 6, 7, 8, 9, 10, 11, 12, 13] rfl rfl) rfl rfl hl.1 rfl (lv_room (Nat.le_of_ble_eq_true rfl)) d_M_count_20 ⟨Nat.zero_le _, Nat.zero_le _⟩) ?_
        refine ob_split (P := p_live spt made (nI k)) (fun b_20 => ?_) (fun b_20 => ?_)
        · refine lv_if_eq (tgt := 40) hx hb d_M_count_23 (by decide) (fun c => absurd c (by decide)) (fun _ => ?_)
          refine lv_aload_n hx hb d_M_count_26 rfl (lv_at hl 2 rfl) ?_
          refine va_get (D := (dC, dI)) (ci := 4) (v := .ref (q 1)) (C := R_M) (T := T_M) (N := 24) hx hb hT in_M hown hK hP 0 rfl rfl 3 (by decide) (hT _ k_328) (fun _ h9 => h9) rfl d_M_count_27 ?_
          refine lv_iload_n hx hb d_M_count_30 rfl (lv_at hl 0 rfl) ?_
          refine ob_iald hx hb hK hP 1 0 rfl rfl (j := k) (nI_clamp (by omega)) (cv_in (nI_toInt (by omega)) (by omega)) d_M_count_31 ?_
          refine lv_iload_n hx hb d_M_count_32 rfl (lv_at hl 3 rfl) ?_
          refine lv_icmp_ne (tgt := 40) hx hb d_M_count_33 (by decide) (fun c_33 => ?_) (fun c_33 => ?_)
          · have t_33 := mt (cv_eq rfl rfl).mpr c_33
            refine lv_iconst (v := nI 0) hx hb d_M_count_40 (by decide) ?_
            refine lv_iadd hx hb d_M_count_41 ?_
            refine ob_eqi (nI_add c9 0) ?_
            refine lv_istore_n (lv' := [(2, .int (nI (c9 + 0))), (3, .int (nI k)), (0, .ref (q 0)), (1, .int o)]) hx hb d_M_count_42 rfl hl (by decide) rfl (fun ls hl => ?_)
            refine lv_iinc (v := nI (k + 1)) (lv' := [(3, .int (nI (k + 1))), (2, .int (nI (c9 + 0))), (0, .ref (q 0)), (1, .int o)]) hx hb d_M_count_43 hl (k := 1) rfl (nI_add k 1) (by decide) rfl (fun ls hl => ?_)
            refine lv_goto (tgt := 9) hx hb d_M_count_46 (by decide) ?_
            exact ih_9 (k + 1) (c9 + 0) _ _ _ (by omega) (by omega) (by first | exact (by rw [hc, f_cnt_t (f_lv_iff.mpr ⟨(p_live_nI (by omega) hm).mp b_20, c_33⟩)]) | exact (by rw [hc, f_cnt_f (fun h => b_20 ((p_live_nI (by omega) hm).mpr (f_lv_iff.mp h).1))]; rfl) | exact (by rw [hc, f_cnt_f (fun h => c_33 (f_lv_iff.mp h).2)]; rfl)) hP hD hS (lv_sub hl [0, 1, 2, 3] rfl)
          · have t_33 := (cv_eq rfl rfl).mp c_33
            refine lv_iconst (v := nI 1) hx hb d_M_count_36 (by decide) ?_
            refine lv_goto (tgt := 41) hx hb d_M_count_37 (by decide) ?_
            refine lv_iadd hx hb d_M_count_41 ?_
            refine ob_eqi (nI_add c9 1) ?_
            refine lv_istore_n (lv' := [(2, .int (nI (c9 + 1))), (3, .int (nI k)), (0, .ref (q 0)), (1, .int o)]) hx hb d_M_count_42 rfl hl (by decide) rfl (fun ls hl => ?_)
            refine lv_iinc (v := nI (k + 1)) (lv' := [(3, .int (nI (k + 1))), (2, .int (nI (c9 + 1))), (0, .ref (q 0)), (1, .int o)]) hx hb d_M_count_43 hl (k := 1) rfl (nI_add k 1) (by decide) rfl (fun ls hl => ?_)
            refine lv_goto (tgt := 9) hx hb d_M_count_46 (by decide) ?_
            exact ih_9 (k + 1) (c9 + 1) _ _ _ (by omega) (by omega) (by first | exact (by rw [hc, f_cnt_t (f_lv_iff.mpr ⟨(p_live_nI (by omega) hm).mp b_20, c_33⟩)]) | exact (by rw [hc, f_cnt_f (fun h => b_20 ((p_live_nI (by omega) hm).mpr (f_lv_iff.mp h).1))]; rfl) | exact (by rw [hc, f_cnt_f (fun h => c_33 (f_lv_iff.mp h).2)]; rfl)) hP hD hS (lv_sub hl [0, 1, 2, 3] rfl)
        · refine lv_if_eq (tgt := 40) hx hb d_M_count_23 (by decide) (fun _ => ?_) (fun c => absurd c (by decide))
          refine lv_iconst (v := nI 0) hx hb d_M_count_40 (by decide) ?_
          refine lv_iadd hx hb d_M_count_41 ?_
          refine ob_eqi (nI_add c9 0) ?_
          refine lv_istore_n (lv' := [(2, .int (nI (c9 + 0))), (3, .int (nI k)), (0, .ref (q 0)), (1, .int o)]) hx hb d_M_count_42 rfl hl (by decide) rfl (fun ls hl => ?_)
          refine lv_iinc (v := nI (k + 1)) (lv' := [(3, .int (nI (k + 1))), (2, .int (nI (c9 + 0))), (0, .ref (q 0)), (1, .int o)]) hx hb d_M_count_43 hl (k := 1) rfl (nI_add k 1) (by decide) rfl (fun ls hl => ?_)
          refine lv_goto (tgt := 9) hx hb d_M_count_46 (by decide) ?_
          exact ih_9 (k + 1) (c9 + 0) _ _ _ (by omega) (by omega) (by first | exact (by rw [hc, f_cnt_t (f_lv_iff.mpr ⟨(p_live_nI (by omega) hm).mp b_20, c_33⟩)]) | exact (by rw [hc, f_cnt_f (fun h => b_20 ((p_live_nI (by omega) hm).mpr (f_lv_iff.mp h).1))]; rfl) | exact (by rw [hc, f_cnt_f (fun h => c_33 (f_lv_iff.mp h).2)]; rfl)) hP hD hS (lv_sub hl [0, 1, 2, 3] rfl)
  exact key_9 _ 0 0 _ _ _ (Nat.lt_succ_self _) (Nat.zero_le _) rfl hP hD hS (lv_sub hl [0, 1, 2, 3] rfl)
abbrev rm_M_nth : Room := { frames := 2, cells := 0, slots := 0, locals := 42 }
set_option maxHeartbeats 4000000 in
set_option maxRecDepth 100000 in
theorem c_M_nth (l : Launch) (dC : Nat → ClassId) (dI : Nat → Nat → Nat) (q : Nat → Nat) (cI cL : ClassId) (own : Nat → Int32) (amt : Nat → Int64) (tag : Nat → Int64) (mad : Nat → Int32) (spt : Nat → Int32) (made : Nat) (dsp : Nat → Int32) (dow : Nat → Int32) (dam : Nat → Int64) (dtg : Nat → Int64) (sp : Nat) (mk : Nat) (mint : Int64) (dep : Nat) (hgt : Nat) (und : Nat) (supply : Int64) (pot : Int64) (apl : Int32) (fes : Nat → Int64) (mns : Nat → Int64) (tms : Nat → Int32) (pic : Nat → Int32) (o : Int32) (i : Int32) (hm : made ≤ 2048) (hv : ∀ j, spt j = -1 ∨ 0 ≤ (spt j).toInt) : Met l y_M_nth w_M_nth rm_M_nth (va_Pc [.ref (q 0), .int o, .int i] (ob_BW (dC, dI) vwCl (wM q cI cL own amt tag mad spt made dsp dow dam dtg sp mk mint dep hgt und supply pot apl fes mns tms pic) [(cI, .int), (cL, .long)] [])) (va_Qi (fun (r : Int32) (_ : Unit) => r = f_nth (f_lv own spt o) i made 0) (fun _ t => va_P (dC, dI) vwCl (wM q cI cL own amt tag mad spt made dsp dow dam dtg sp mk mint dep hgt und supply pot apl fes mns tms pic) t.heap) (ob_A (wM q cI cL own amt tag mad spt made dsp dow dam dtg sp mk mint dep hgt und supply pot apl fes mns tms pic))) 0 0 (ob_A (wM q cI cL own amt tag mad spt made dsp dow dam dtg sp mk mint dep hgt und supply pot apl fes mns tms pic)) := by
  refine ob_ofW (cc := b_M_nth) (maxL := 5) (ret := (some .int)) (own := R_M) (by decide) rfl rfl (Nat.le_of_ble_eq_true rfl) ?_
  intro p e s m args below meth c Q hQ hx hb hr hml hT hown hlocks hv ls hl
  obtain ⟨⟨hP, hK, hN⟩, hD0⟩ := hv
  have hD := ob_D_self hD0
  generalize hAe : ob_A (wM q cI cL own amt tag mad spt made dsp dow dam dtg sp mk mint dep hgt und supply pot apl fes mns tms pic) = A at hQ hD
  have hS : va_S A s.heap s.heap [] := va_S.rf
  have hl : lv_has ls 5 [(0, .ref (q 0)), (1, .int o), (2, .int i)] := hl
  refine lv_aload_n hx hb d_M_nth_0 rfl (lv_at hl 0 rfl) ?_
  refine lv_iconst (v := nI 0) hx hb d_M_nth_1 (by decide) ?_
  refine va_put (D := (dC, dI)) (ci := 4) (v := .int (nI 0)) (ty := .int) (C := R_M) (T := T_M) (N := 24) hx hb hT in_M t_M t_M_ok n_M hown hK hP hD hS 0 rfl rfl 0 (by decide) (hT _ k_325) (fun _ h9 => h9) rfl (by decide +kernel) rfl rfl (Nat.le_of_ble_eq_true rfl) d_M_nth_2 (fun H locs hP hD hS => ?_)
  have hP : va_P (dC, dI) vwCl (wM q cI cL own amt tag mad spt made dsp dow dam dtg sp mk mint dep hgt und supply pot apl fes mns tms pic) H := hP
  have hD : va_D A (wM q cI cL own amt tag mad spt made dsp dow dam dtg sp mk mint dep hgt und supply pot apl fes mns tms pic) := hD
  refine lv_iload_n hx hb d_M_nth_5 rfl (lv_at hl 2 rfl) ?_
  refine lv_istore_n (lv' := [(3, .int i), (0, .ref (q 0)), (1, .int o), (2, .int i)]) hx hb d_M_nth_6 rfl hl (by decide) rfl (fun ls hl => ?_)
  refine lv_iconst (v := nI 0) hx hb d_M_nth_7 (by decide) ?_
  refine lv_istore (lv' := [(4, .int (nI 0)), (3, .int i), (0, .ref (q 0)), (1, .int o), (2, .int i)]) hx hb d_M_nth_8 hl (by decide) rfl (fun ls hl => ?_)
  have key_10 : ∀ (n : Nat) (k : Nat) (lf : Int32) (H : Heap) (locs : List Loc) (ls : Array Slot), made - k < n → (k ≤ made) → (lf.toInt = i.toInt - f_cnt (f_lv own spt o) k) → ((f_cnt (f_lv own spt o) k : Int) ≤ i.toInt ∨ (f_cnt (f_lv own spt o) k = 0 ∧ k = 0)) → (f_nth (f_lv own spt o) i (made - k) k = f_nth (f_lv own spt o) i made 0) → va_P (dC, dI) vwCl (wM q cI cL own amt tag mad spt made dsp dow dam dtg sp mk mint dep hgt und supply pot apl fes mns tms pic) H → va_D A (wM q cI cL own amt tag mad spt made dsp dow dam dtg sp mk mint dep hgt und supply pot apl fes mns tms pic) → va_S A s.heap H locs → lv_has ls 5 [(4, .int (nI k)), (3, .int lf), (0, .ref (q 0)), (1, .int o), (2, .int i)] → W p l e rm_M_nth s m args below meth c H locs 0 0 Q (F0 m 10 ls []) := by
    intro n_10
    induction n_10 with
    | zero => intro k lf H locs ls h; exact absurd h (Nat.not_lt_zero _)
    | succ n_10 ih_10 =>
      intro k lf H locs ls hn_10 hk hl1 hl2 hres hP hD hS hl
      have hbl := f_cnt_le (f_lv own spt o) k
      refine lv_iload hx hb d_M_nth_10 (lv_at hl 0 rfl) ?_
      refine lv_aload_n hx hb d_M_nth_12 rfl (lv_at hl 2 rfl) ?_
      refine va_get (D := (dC, dI)) (ci := 4) (v := .int (nI made)) (C := R_M) (T := T_M) (N := 24) hx hb hT in_M hown hK hP 0 rfl rfl 2 (by decide) (hT _ k_327) (fun _ h9 => h9) rfl d_M_nth_13 ?_
      refine lv_icmp_ge (tgt := 59) hx hb d_M_nth_16 (by decide) (fun c_16 => ?_) (fun c_16 => ?_)
      · have t_16 := (cv_le (nI_toInt (by omega)) (nI_toInt (by omega))).mp c_16
        refine lv_iconst (v := (-1 : Int32)) hx hb d_M_nth_59 (by decide) ?_
        exact ob_iretW (v := (-1 : Int32)) hx hb hr hlocks hQ hS hP rfl (by rw [← hres]; first | (rw [show made - k = 0 by omega]; rfl) | exact (f_nth_neg (by omega) _ _ (by omega)).symm) d_M_nth_60
      · have t_16 := mt (cv_le (nI_toInt (by omega)) (nI_toInt (by omega))).mpr c_16
        refine lv_iload_n hx hb d_M_nth_19 rfl (lv_at hl 1 rfl) ?_
        refine lv_if_lt (tgt := 59) hx hb d_M_nth_20 (by decide) (fun c_20 => ?_) (fun c_20 => ?_)
        · have t_20 := (cv_lt rfl (by decide : (0 : Int32).toInt = 0)).mp c_20
          refine lv_iconst (v := (-1 : Int32)) hx hb d_M_nth_59 (by decide) ?_
          exact ob_iretW (v := (-1 : Int32)) hx hb hr hlocks hQ hS hP rfl (by rw [← hres]; first | (rw [show made - k = 0 by omega]; rfl) | exact (f_nth_neg (by omega) _ _ (by omega)).symm) d_M_nth_60
        · have t_20 := mt (cv_lt rfl (by decide : (0 : Int32).toInt = 0)).mpr c_20
          refine lv_aload_n hx hb d_M_nth_23 rfl (lv_at hl 2 rfl) ?_
          refine lv_iload hx hb d_M_nth_24 (lv_at hl 0 rfl) ?_
          refine ob_callR (W.runV (As := [.int (nI k)]) (rest := []) ⟨hx, hb, hml, hown, hT⟩ (c_M_isLive l dC dI q cI cL own amt tag mad spt made dsp dow dam dtg sp mk mint dep hgt und supply pot apl fes mns tms pic (nI k) hm hv) (cwV 1 hT (ob_goodV k_402 k_404 k_3 k_14 k_405) rfl rfl rfl (by decide +kernel) ⟨Nat.le_of_ble_eq_true rfl, Nat.le_of_ble_eq_true rfl⟩) (ob_preV (wc := wM q cI cL own amt tag mad spt made dsp dow dam dtg sp mk mint dep hgt und supply pot apl fes mns tms pic) (q0 := 0) rfl hK hP (fun _ h => absurd h List.not_mem_nil) rfl [0, 1, 2, 3, 4, 5, 6, 7, 8, 9, 10, 11, 12, 13] rfl rfl) rfl rfl hl.1 rfl (lv_room (Nat.le_of_ble_eq_true rfl)) d_M_nth_26 ⟨Nat.zero_le _, Nat.zero_le _⟩) ?_
          refine ob_split (P := p_live spt made (nI k)) (fun b_26 => ?_) (fun b_26 => ?_)
          · refine lv_if_eq (tgt := 53) hx hb d_M_nth_29 (by decide) (fun c => absurd c (by decide)) (fun _ => ?_)
            refine lv_aload_n hx hb d_M_nth_32 rfl (lv_at hl 2 rfl) ?_
            refine va_get (D := (dC, dI)) (ci := 4) (v := .ref (q 1)) (C := R_M) (T := T_M) (N := 24) hx hb hT in_M hown hK hP 0 rfl rfl 3 (by decide) (hT _ k_328) (fun _ h9 => h9) rfl d_M_nth_33 ?_
            refine lv_iload hx hb d_M_nth_36 (lv_at hl 0 rfl) ?_
            refine ob_iald hx hb hK hP 1 0 rfl rfl (j := k) (nI_clamp (by omega)) (cv_in (nI_toInt (by omega)) (by omega)) d_M_nth_38 ?_
            refine lv_iload_n hx hb d_M_nth_39 rfl (lv_at hl 3 rfl) ?_
            refine lv_icmp_ne (tgt := 53) hx hb d_M_nth_40 (by decide) (fun c_40 => ?_) (fun c_40 => ?_)
            · have t_40 := mt (cv_eq rfl rfl).mpr c_40
              refine lv_iinc (v := nI (k + 1)) (lv' := [(4, .int (nI (k + 1))), (3, .int lf), (0, .ref (q 0)), (1, .int o), (2, .int i)]) hx hb d_M_nth_53 hl (k := 0) rfl (nI_add k 1) (by decide) rfl (fun ls hl => ?_)
              refine lv_goto (tgt := 10) hx hb d_M_nth_56 (by decide) ?_
              exact ih_10 (k + 1) lf _ _ _ (by omega) (by omega) (by first | exact (by rw [f_cnt_t (f_lv_iff.mpr ⟨(p_live_nI (by omega) hm).mp b_26, c_40⟩), i_dec (by omega)]; omega) | exact (by rw [f_cnt_f (fun h => b_26 ((p_live_nI (by omega) hm).mpr (f_lv_iff.mp h).1))]; exact hl1) | exact (by rw [f_cnt_f (fun h => c_40 (f_lv_iff.mp h).2)]; exact hl1)) (by first | exact (by rw [f_cnt_t (f_lv_iff.mpr ⟨(p_live_nI (by omega) hm).mp b_26, c_40⟩)]; omega) | exact (by rw [f_cnt_f (fun h => b_26 ((p_live_nI (by omega) hm).mpr (f_lv_iff.mp h).1))]; omega) | exact (by rw [f_cnt_f (fun h => c_40 (f_lv_iff.mp h).2)]; omega)) (by rw [← hres]; first | exact (f_nth_no (by omega) (fun h => (fun h => b_26 ((p_live_nI (by omega) hm).mpr (f_lv_iff.mp h).1)) h.1)).symm | exact (f_nth_no (by omega) (fun h => (fun h => c_40 (f_lv_iff.mp h).2) h.1)).symm | exact (f_nth_no (by omega) (fun h => t_44 (by have h2 := congrArg Int32.toInt h.2; rw [nI_toInt (by omega)] at h2; omega))).symm) hP hD hS (lv_sub hl [0, 1, 2, 3, 4] rfl)
            · have t_40 := (cv_eq rfl rfl).mp c_40
              refine lv_iload_n hx hb d_M_nth_43 rfl (lv_at hl 1 rfl) ?_
              refine lv_if_ne (tgt := 50) hx hb d_M_nth_44 (by decide) (fun c_44 => ?_) (fun c_44 => ?_)
              · have t_44 := mt (cv_eq rfl (by decide : (0 : Int32).toInt = 0)).mpr c_44
                refine lv_iinc (v := lf + (-1)) (lv' := [(3, .int (lf + (-1))), (4, .int (nI k)), (0, .ref (q 0)), (1, .int o), (2, .int i)]) hx hb d_M_nth_50 hl (k := 1) rfl rfl (by decide) rfl (fun ls hl => ?_)
                refine lv_iinc (v := nI (k + 1)) (lv' := [(4, .int (nI (k + 1))), (3, .int (lf + (-1))), (0, .ref (q 0)), (1, .int o), (2, .int i)]) hx hb d_M_nth_53 hl (k := 1) rfl (nI_add k 1) (by decide) rfl (fun ls hl => ?_)
                refine lv_goto (tgt := 10) hx hb d_M_nth_56 (by decide) ?_
                exact ih_10 (k + 1) (lf + (-1)) _ _ _ (by omega) (by omega) (by first | exact (by rw [f_cnt_t (f_lv_iff.mpr ⟨(p_live_nI (by omega) hm).mp b_26, c_40⟩), i_dec (by omega)]; omega) | exact (by rw [f_cnt_f (fun h => b_26 ((p_live_nI (by omega) hm).mpr (f_lv_iff.mp h).1))]; exact hl1) | exact (by rw [f_cnt_f (fun h => c_40 (f_lv_iff.mp h).2)]; exact hl1)) (by first | exact (by rw [f_cnt_t (f_lv_iff.mpr ⟨(p_live_nI (by omega) hm).mp b_26, c_40⟩)]; omega) | exact (by rw [f_cnt_f (fun h => b_26 ((p_live_nI (by omega) hm).mpr (f_lv_iff.mp h).1))]; omega) | exact (by rw [f_cnt_f (fun h => c_40 (f_lv_iff.mp h).2)]; omega)) (by rw [← hres]; first | exact (f_nth_no (by omega) (fun h => (fun h => b_26 ((p_live_nI (by omega) hm).mpr (f_lv_iff.mp h).1)) h.1)).symm | exact (f_nth_no (by omega) (fun h => (fun h => c_40 (f_lv_iff.mp h).2) h.1)).symm | exact (f_nth_no (by omega) (fun h => t_44 (by have h2 := congrArg Int32.toInt h.2; rw [nI_toInt (by omega)] at h2; omega))).symm) hP hD hS (lv_sub hl [0, 1, 2, 3, 4] rfl)
              · have t_44 := (cv_eq rfl (by decide : (0 : Int32).toInt = 0)).mp c_44
                refine lv_iload hx hb d_M_nth_47 (lv_at hl 0 rfl) ?_
                exact ob_iretW (v := nI k) hx hb hr hlocks hQ hS hP rfl (by rw [← hres, f_nth_go (by omega) ⟨(f_lv_iff.mpr ⟨(p_live_nI (by omega) hm).mp b_26, c_40⟩), Int32.toInt_inj.mp (by rw [nI_toInt (by omega)]; omega)⟩]) d_M_nth_49
          · refine lv_if_eq (tgt := 53) hx hb d_M_nth_29 (by decide) (fun _ => ?_) (fun c => absurd c (by decide))
            refine lv_iinc (v := nI (k + 1)) (lv' := [(4, .int (nI (k + 1))), (3, .int lf), (0, .ref (q 0)), (1, .int o), (2, .int i)]) hx hb d_M_nth_53 hl (k := 0) rfl (nI_add k 1) (by decide) rfl (fun ls hl => ?_)
            refine lv_goto (tgt := 10) hx hb d_M_nth_56 (by decide) ?_
            exact ih_10 (k + 1) lf _ _ _ (by omega) (by omega) (by first | exact (by rw [f_cnt_t (f_lv_iff.mpr ⟨(p_live_nI (by omega) hm).mp b_26, c_40⟩), i_dec (by omega)]; omega) | exact (by rw [f_cnt_f (fun h => b_26 ((p_live_nI (by omega) hm).mpr (f_lv_iff.mp h).1))]; exact hl1) | exact (by rw [f_cnt_f (fun h => c_40 (f_lv_iff.mp h).2)]; exact hl1)) (by first | exact (by rw [f_cnt_t (f_lv_iff.mpr ⟨(p_live_nI (by omega) hm).mp b_26, c_40⟩)]; omega) | exact (by rw [f_cnt_f (fun h => b_26 ((p_live_nI (by omega) hm).mpr (f_lv_iff.mp h).1))]; omega) | exact (by rw [f_cnt_f (fun h => c_40 (f_lv_iff.mp h).2)]; omega)) (by rw [← hres]; first | exact (f_nth_no (by omega) (fun h => (fun h => b_26 ((p_live_nI (by omega) hm).mpr (f_lv_iff.mp h).1)) h.1)).symm | exact (f_nth_no (by omega) (fun h => (fun h => c_40 (f_lv_iff.mp h).2) h.1)).symm | exact (f_nth_no (by omega) (fun h => t_44 (by have h2 := congrArg Int32.toInt h.2; rw [nI_toInt (by omega)] at h2; omega))).symm) hP hD hS (lv_sub hl [0, 1, 2, 3, 4] rfl)
  exact key_10 _ 0 i _ _ _ (Nat.lt_succ_self _) (Nat.zero_le _) (by simp [f_cnt]) (Or.inr ⟨rfl, rfl⟩) rfl hP hD hS (lv_sub hl [0, 1, 2, 3, 4] rfl)
abbrev rm_M_look : Room := { frames := 2, cells := 0, slots := 0, locals := 42 }
set_option maxHeartbeats 4000000 in
set_option maxRecDepth 100000 in
theorem c_M_look (l : Launch) (dC : Nat → ClassId) (dI : Nat → Nat → Nat) (q : Nat → Nat) (cI cL : ClassId) (own : Nat → Int32) (amt : Nat → Int64) (tag : Nat → Int64) (mad : Nat → Int32) (spt : Nat → Int32) (made : Nat) (dsp : Nat → Int32) (dow : Nat → Int32) (dam : Nat → Int64) (dtg : Nat → Int64) (sp : Nat) (mk : Nat) (mint : Int64) (dep : Nat) (hgt : Nat) (und : Nat) (supply : Int64) (pot : Int64) (apl : Int32) (fes : Nat → Int64) (mns : Nat → Int64) (tms : Nat → Int32) (pic : Nat → Int32) (w : Int32) (hm : made ≤ 2048) (hv : ∀ j, spt j = -1 ∨ 0 ≤ (spt j).toInt) : Met l y_M_look w_M_look rm_M_look (va_Pc [.ref (q 0), .int w] (ob_BW (dC, dI) vwCl (wM q cI cL own amt tag mad spt made dsp dow dam dtg sp mk mint dep hgt und supply pot apl fes mns tms pic) [(cI, .int), (cL, .long)] [])) (va_Ql (fun (r : Int64) (_ : Unit) => r = f_look supply pot apl spt made sp mk mint hgt und w) (fun _ t => va_P (dC, dI) vwCl (wM q cI cL own amt tag mad spt made dsp dow dam dtg sp mk mint dep hgt und supply pot apl fes mns tms pic) t.heap) (ob_A (wM q cI cL own amt tag mad spt made dsp dow dam dtg sp mk mint dep hgt und supply pot apl fes mns tms pic))) 0 0 (ob_A (wM q cI cL own amt tag mad spt made dsp dow dam dtg sp mk mint dep hgt und supply pot apl fes mns tms pic)) := by
  refine ob_ofW (cc := b_M_look) (maxL := 5) (ret := (some .long)) (own := R_M) (by decide) rfl rfl (Nat.le_of_ble_eq_true rfl) ?_
  intro p e s m args below meth c Q hQ hx hb hr hml hT hown hlocks hv ls hl
  obtain ⟨⟨hP, hK, hN⟩, hD0⟩ := hv
  have hD := ob_D_self hD0
  generalize hAe : ob_A (wM q cI cL own amt tag mad spt made dsp dow dam dtg sp mk mint dep hgt und supply pot apl fes mns tms pic) = A at hQ hD
  have hS : va_S A s.heap s.heap [] := va_S.rf
  have hl : lv_has ls 5 [(0, .ref (q 0)), (1, .int w)] := hl
  refine lv_aload_n hx hb d_M_look_0 rfl (lv_at hl 0 rfl) ?_
  refine lv_iconst (v := nI 0) hx hb d_M_look_1 (by decide) ?_
  refine va_put (D := (dC, dI)) (ci := 4) (v := .int (nI 0)) (ty := .int) (C := R_M) (T := T_M) (N := 24) hx hb hT in_M t_M t_M_ok n_M hown hK hP hD hS 0 rfl rfl 0 (by decide) (hT _ k_325) (fun _ h9 => h9) rfl (by decide +kernel) rfl rfl (Nat.le_of_ble_eq_true rfl) d_M_look_2 (fun H locs hP hD hS => ?_)
  have hP : va_P (dC, dI) vwCl (wM q cI cL own amt tag mad spt made dsp dow dam dtg sp mk mint dep hgt und supply pot apl fes mns tms pic) H := hP
  have hD : va_D A (wM q cI cL own amt tag mad spt made dsp dow dam dtg sp mk mint dep hgt und supply pot apl fes mns tms pic) := hD
  refine lv_lconst (v := 0) hx hb d_M_look_5 (by decide) ?_
  refine lv_lstore_n (lv' := [(2, .long (0 : Int64)), (0, .ref (q 0)), (1, .int w)]) hx hb d_M_look_6 rfl hl (by decide) rfl (fun ls hl => ?_)
  refine lv_iconst (v := nI 0) hx hb d_M_look_7 (by decide) ?_
  refine lv_istore (lv' := [(4, .int (nI 0)), (2, .long (0 : Int64)), (0, .ref (q 0)), (1, .int w)]) hx hb d_M_look_8 hl (by decide) rfl (fun ls hl => ?_)
  have key_10 : ∀ (n : Nat) (k : Nat) (lv : Int64) (H : Heap) (locs : List Loc) (ls : Array Slot), made - k < n → (k ≤ made) → (lv = (nI (f_cnt (fun j => decide (spt j = -1)) k)).toInt64) → va_P (dC, dI) vwCl (wM q cI cL own amt tag mad spt made dsp dow dam dtg sp mk mint dep hgt und supply pot apl fes mns tms pic) H → va_D A (wM q cI cL own amt tag mad spt made dsp dow dam dtg sp mk mint dep hgt und supply pot apl fes mns tms pic) → va_S A s.heap H locs → lv_has ls 5 [(4, .int (nI k)), (2, .long lv), (0, .ref (q 0)), (1, .int w)] → W p l e rm_M_look s m args below meth c H locs 0 0 Q (F0 m 10 ls []) := by
    intro n_10
    induction n_10 with
    | zero => intro k lv H locs ls h; exact absurd h (Nat.not_lt_zero _)
    | succ n_10 ih_10 =>
      intro k lv H locs ls hn_10 hk hc hP hD hS hl
      have hbl := f_cnt_le (fun j => decide (spt j = -1)) k
      refine lv_iload hx hb d_M_look_10 (lv_at hl 0 rfl) ?_
      refine lv_aload_n hx hb d_M_look_12 rfl (lv_at hl 2 rfl) ?_
      refine va_get (D := (dC, dI)) (ci := 4) (v := .int (nI made)) (C := R_M) (T := T_M) (N := 24) hx hb hT in_M hown hK hP 0 rfl rfl 2 (by decide) (hT _ k_327) (fun _ h9 => h9) rfl d_M_look_13 ?_
      refine lv_icmp_ge (tgt := 42) hx hb d_M_look_16 (by decide) (fun c_16 => ?_) (fun c_16 => ?_)
      · have t_16 := (cv_le (nI_toInt (by omega)) (nI_toInt (by omega))).mp c_16
        refine lv_iload_n hx hb d_M_look_42 rfl (lv_at hl 3 rfl) ?_
        by_cases s_43_0 : w.toInt = 0
        · refine lv_tableIn (off := 53) (tgt := 96) hx hb d_M_look_43 (by omega) (by omega) (by rw [s_43_0]; rfl) (by decide) ?_
          refine lv_aload_n hx hb d_M_look_96 rfl (lv_at hl 2 rfl) ?_
          refine va_get (D := (dC, dI)) (ci := 4) (v := .long supply) (C := R_M) (T := T_M) (N := 24) hx hb hT in_M hown hK hP 0 rfl rfl 11 (by decide) (hT _ k_336) (fun _ h9 => h9) rfl d_M_look_97 ?_
          exact ob_lretW (v := supply) hx hb hr hlocks hQ hS hP rfl (by rw [f_look, if_pos s_43_0]) d_M_look_100
        by_cases s_43_1 : w.toInt = 1
        · refine lv_tableIn (off := 58) (tgt := 101) hx hb d_M_look_43 (by omega) (by omega) (by rw [s_43_1]; rfl) (by decide) ?_
          refine lv_aload_n hx hb d_M_look_101 rfl (lv_at hl 2 rfl) ?_
          refine va_get (D := (dC, dI)) (ci := 4) (v := .long pot) (C := R_M) (T := T_M) (N := 24) hx hb hT in_M hown hK hP 0 rfl rfl 10 (by decide) (hT _ k_335) (fun _ h9 => h9) rfl d_M_look_102 ?_
          exact ob_lretW (v := pot) hx hb hr hlocks hQ hS hP rfl (by rw [f_look, if_neg s_43_0, if_pos s_43_1]) d_M_look_105
        by_cases s_43_2 : w.toInt = 2
        · refine lv_tableIn (off := 63) (tgt := 106) hx hb d_M_look_43 (by omega) (by omega) (by rw [s_43_2]; rfl) (by decide) ?_
          refine lv_aload_n hx hb d_M_look_106 rfl (lv_at hl 2 rfl) ?_
          refine va_get (D := (dC, dI)) (ci := 4) (v := .int (nI hgt)) (C := R_M) (T := T_M) (N := 24) hx hb hT in_M hown hK hP 0 rfl rfl 8 (by decide) (hT _ k_333) (fun _ h9 => h9) rfl d_M_look_107 ?_
          refine lv_i2l (v := (nI hgt).toInt64) hx hb d_M_look_110 rfl ?_
          exact ob_lretW (v := (nI hgt).toInt64) hx hb hr hlocks hQ hS hP rfl (by rw [f_look, if_neg s_43_0, if_neg s_43_1, if_pos s_43_2]) d_M_look_111
        by_cases s_43_3 : w.toInt = 3
        · refine lv_tableIn (off := 69) (tgt := 112) hx hb d_M_look_43 (by omega) (by omega) (by rw [s_43_3]; rfl) (by decide) ?_
          refine lv_aload_n hx hb d_M_look_112 rfl (lv_at hl 2 rfl) ?_
          refine va_get (D := (dC, dI)) (ci := 4) (v := .int (nI made)) (C := R_M) (T := T_M) (N := 24) hx hb hT in_M hown hK hP 0 rfl rfl 2 (by decide) (hT _ k_327) (fun _ h9 => h9) rfl d_M_look_113 ?_
          refine lv_i2l (v := (nI made).toInt64) hx hb d_M_look_116 rfl ?_
          exact ob_lretW (v := (nI made).toInt64) hx hb hr hlocks hQ hS hP rfl (by rw [f_look, if_neg s_43_0, if_neg s_43_1, if_neg s_43_2, if_pos s_43_3]) d_M_look_117
        by_cases s_43_4 : w.toInt = 4
        · refine lv_tableIn (off := 75) (tgt := 118) hx hb d_M_look_43 (by omega) (by omega) (by rw [s_43_4]; rfl) (by decide) ?_
          refine lv_lload_n hx hb d_M_look_118 rfl (lv_at hl 1 rfl) ?_
          exact ob_lretW (v := lv) hx hb hr hlocks hQ hS hP rfl (by rw [f_look, if_neg s_43_0, if_neg s_43_1, if_neg s_43_2, if_neg s_43_3, if_pos s_43_4, hc, show k = made by omega]) d_M_look_119
        by_cases s_43_5 : w.toInt = 5
        · refine lv_tableIn (off := 77) (tgt := 120) hx hb d_M_look_43 (by omega) (by omega) (by rw [s_43_5]; rfl) (by decide) ?_
          refine lv_aload_n hx hb d_M_look_120 rfl (lv_at hl 2 rfl) ?_
          refine va_get (D := (dC, dI)) (ci := 4) (v := .int (nI und)) (C := R_M) (T := T_M) (N := 24) hx hb hT in_M hown hK hP 0 rfl rfl 9 (by decide) (hT _ k_334) (fun _ h9 => h9) rfl d_M_look_121 ?_
          refine lv_i2l (v := (nI und).toInt64) hx hb d_M_look_124 rfl ?_
          exact ob_lretW (v := (nI und).toInt64) hx hb hr hlocks hQ hS hP rfl (by rw [f_look, if_neg s_43_0, if_neg s_43_1, if_neg s_43_2, if_neg s_43_3, if_neg s_43_4, if_pos s_43_5]) d_M_look_125
        by_cases s_43_6 : w.toInt = 6
        · refine lv_tableIn (off := 83) (tgt := 126) hx hb d_M_look_43 (by omega) (by omega) (by rw [s_43_6]; rfl) (by decide) ?_
          refine lv_aload_n hx hb d_M_look_126 rfl (lv_at hl 2 rfl) ?_
          refine va_get (D := (dC, dI)) (ci := 4) (v := .int (nI sp)) (C := R_M) (T := T_M) (N := 24) hx hb hT in_M hown hK hP 0 rfl rfl 16 (by decide) (hT _ k_341) (fun _ h9 => h9) rfl d_M_look_127 ?_
          refine lv_i2l (v := (nI sp).toInt64) hx hb d_M_look_130 rfl ?_
          exact ob_lretW (v := (nI sp).toInt64) hx hb hr hlocks hQ hS hP rfl (by rw [f_look, if_neg s_43_0, if_neg s_43_1, if_neg s_43_2, if_neg s_43_3, if_neg s_43_4, if_neg s_43_5, if_pos s_43_6]) d_M_look_131
        by_cases s_43_7 : w.toInt = 7
        · refine lv_tableIn (off := 89) (tgt := 132) hx hb d_M_look_43 (by omega) (by omega) (by rw [s_43_7]; rfl) (by decide) ?_
          refine lv_aload_n hx hb d_M_look_132 rfl (lv_at hl 2 rfl) ?_
          refine va_get (D := (dC, dI)) (ci := 4) (v := .int (nI mk)) (C := R_M) (T := T_M) (N := 24) hx hb hT in_M hown hK hP 0 rfl rfl 18 (by decide) (hT _ k_343) (fun _ h9 => h9) rfl d_M_look_133 ?_
          refine lv_i2l (v := (nI mk).toInt64) hx hb d_M_look_136 rfl ?_
          exact ob_lretW (v := (nI mk).toInt64) hx hb hr hlocks hQ hS hP rfl (by rw [f_look, if_neg s_43_0, if_neg s_43_1, if_neg s_43_2, if_neg s_43_3, if_neg s_43_4, if_neg s_43_5, if_neg s_43_6, if_pos s_43_7]) d_M_look_137
        by_cases s_43_8 : w.toInt = 8
        · refine lv_tableIn (off := 95) (tgt := 138) hx hb d_M_look_43 (by omega) (by omega) (by rw [s_43_8]; rfl) (by decide) ?_
          refine lv_aload_n hx hb d_M_look_138 rfl (lv_at hl 2 rfl) ?_
          refine va_get (D := (dC, dI)) (ci := 4) (v := .long mint) (C := R_M) (T := T_M) (N := 24) hx hb hT in_M hown hK hP 0 rfl rfl 22 (by decide) (hT _ k_347) (fun _ h9 => h9) rfl d_M_look_139 ?_
          exact ob_lretW (v := mint) hx hb hr hlocks hQ hS hP rfl (by rw [f_look, if_neg s_43_0, if_neg s_43_1, if_neg s_43_2, if_neg s_43_3, if_neg s_43_4, if_neg s_43_5, if_neg s_43_6, if_neg s_43_7, if_pos s_43_8]) d_M_look_142
        by_cases s_43_9 : w.toInt = 9
        · refine lv_tableIn (off := 100) (tgt := 143) hx hb d_M_look_43 (by omega) (by omega) (by rw [s_43_9]; rfl) (by decide) ?_
          refine lv_aload_n hx hb d_M_look_143 rfl (lv_at hl 2 rfl) ?_
          refine va_get (D := (dC, dI)) (ci := 4) (v := .int apl) (C := R_M) (T := T_M) (N := 24) hx hb hT in_M hown hK hP 0 rfl rfl 12 (by decide) (hT _ k_337) (fun _ h9 => h9) rfl d_M_look_144 ?_
          refine lv_i2l (v := apl.toInt64) hx hb d_M_look_147 rfl ?_
          exact ob_lretW (v := apl.toInt64) hx hb hr hlocks hQ hS hP rfl (by rw [f_look, if_neg s_43_0, if_neg s_43_1, if_neg s_43_2, if_neg s_43_3, if_neg s_43_4, if_neg s_43_5, if_neg s_43_6, if_neg s_43_7, if_neg s_43_8, if_pos s_43_9]) d_M_look_148
        refine lv_tableOut (tgt := 149) hx hb d_M_look_43 (by omega) (by decide) ?_
        refine lv_ldc2 (v := -1) hx hb hown (hT _ k_437) d_M_look_149 ?_
        exact ob_lretW (v := (-1 : Int64)) hx hb hr hlocks hQ hS hP rfl (by rw [f_look, if_neg s_43_0, if_neg s_43_1, if_neg s_43_2, if_neg s_43_3, if_neg s_43_4, if_neg s_43_5, if_neg s_43_6, if_neg s_43_7, if_neg s_43_8, if_neg s_43_9]) d_M_look_152
      · have t_16 := mt (cv_le (nI_toInt (by omega)) (nI_toInt (by omega))).mpr c_16
        refine lv_lload_n hx hb d_M_look_19 rfl (lv_at hl 1 rfl) ?_
        refine lv_aload_n hx hb d_M_look_20 rfl (lv_at hl 2 rfl) ?_
        refine lv_iload hx hb d_M_look_21 (lv_at hl 0 rfl) ?_
        refine ob_callR (W.runV (As := [.int (nI k)]) (rest := [.long lv]) ⟨hx, hb, hml, hown, hT⟩ (c_M_isLive l dC dI q cI cL own amt tag mad spt made dsp dow dam dtg sp mk mint dep hgt und supply pot apl fes mns tms pic (nI k) hm hv) (cwV 1 hT (ob_goodV k_402 k_404 k_3 k_14 k_405) rfl rfl rfl (by decide +kernel) ⟨Nat.le_of_ble_eq_true rfl, Nat.le_of_ble_eq_true rfl⟩) (ob_preV (wc := wM q cI cL own amt tag mad spt made dsp dow dam dtg sp mk mint dep hgt und supply pot apl fes mns tms pic) (q0 := 0) rfl hK hP (fun _ h => absurd h List.not_mem_nil) rfl [0, 1, 2, 3, 4, 5, 6, 7, 8, 9, 10, 11, 12, 13] rfl rfl) rfl rfl hl.1 rfl (lv_room (Nat.le_of_ble_eq_true rfl)) d_M_look_23 ⟨Nat.zero_le _, Nat.zero_le _⟩) ?_
        refine ob_split (P := p_live spt made (nI k)) (fun b_23 => ?_) (fun b_23 => ?_)
        · refine lv_if_eq (tgt := 33) hx hb d_M_look_26 (by decide) (fun c => absurd c (by decide)) (fun _ => ?_)
          refine lv_lconst (v := 1) hx hb d_M_look_29 (by decide) ?_
          refine lv_goto (tgt := 34) hx hb d_M_look_30 (by decide) ?_
          refine lv_ladd hx hb d_M_look_34 ?_
          refine lv_lstore_n (lv' := [(2, .long (lv + (1 : Int64))), (4, .int (nI k)), (0, .ref (q 0)), (1, .int w)]) hx hb d_M_look_35 rfl hl (by decide) rfl (fun ls hl => ?_)
          refine lv_iinc (v := nI (k + 1)) (lv' := [(4, .int (nI (k + 1))), (2, .long (lv + (1 : Int64))), (0, .ref (q 0)), (1, .int w)]) hx hb d_M_look_36 hl (k := 1) rfl (nI_add k 1) (by decide) rfl (fun ls hl => ?_)
          refine lv_goto (tgt := 10) hx hb d_M_look_39 (by decide) ?_
          exact ih_10 (k + 1) (lv + (1 : Int64)) _ _ _ (by omega) (by omega) (by first | exact (by rw [hc, f_cnt_t (by simpa using (p_live_nI (by omega) hm).mp b_23)]; exact cnt_1 (by omega)) | exact (by rw [hc, f_cnt_f (fun h => b_23 ((p_live_nI (by omega) hm).mpr (by simpa using h))), Int64.add_zero])) hP hD hS (lv_sub hl [0, 1, 2, 3] rfl)
        · refine lv_if_eq (tgt := 33) hx hb d_M_look_26 (by decide) (fun _ => ?_) (fun c => absurd c (by decide))
          refine lv_lconst (v := 0) hx hb d_M_look_33 (by decide) ?_
          refine lv_ladd hx hb d_M_look_34 ?_
          refine lv_lstore_n (lv' := [(2, .long (lv + (0 : Int64))), (4, .int (nI k)), (0, .ref (q 0)), (1, .int w)]) hx hb d_M_look_35 rfl hl (by decide) rfl (fun ls hl => ?_)
          refine lv_iinc (v := nI (k + 1)) (lv' := [(4, .int (nI (k + 1))), (2, .long (lv + (0 : Int64))), (0, .ref (q 0)), (1, .int w)]) hx hb d_M_look_36 hl (k := 1) rfl (nI_add k 1) (by decide) rfl (fun ls hl => ?_)
          refine lv_goto (tgt := 10) hx hb d_M_look_39 (by decide) ?_
          exact ih_10 (k + 1) (lv + (0 : Int64)) _ _ _ (by omega) (by omega) (by first | exact (by rw [hc, f_cnt_t (by simpa using (p_live_nI (by omega) hm).mp b_23)]; exact cnt_1 (by omega)) | exact (by rw [hc, f_cnt_f (fun h => b_23 ((p_live_nI (by omega) hm).mpr (by simpa using h))), Int64.add_zero])) hP hD hS (lv_sub hl [0, 1, 2, 3] rfl)
  exact key_10 _ 0 (0 : Int64) _ _ _ (Nat.lt_succ_self _) (Nat.zero_le _) (by rw [f_cnt]; decide) hP hD hS (lv_sub hl [0, 1, 2, 3] rfl)
