abbrev rm_O_room : Room := { frames := 0, cells := 0, slots := 0, locals := 0 }
set_option maxHeartbeats 4000000 in
set_option maxRecDepth 100000 in
theorem c_O_room (l : Launch) (dC : Nat → ClassId) (dI : Nat → Nat → Nat) (q : Nat → Nat) (cI cL : ClassId) (own : Nat → Int32) (amt : Nat → Int64) (tag : Nat → Int64) (mad : Nat → Int32) (spt : Nat → Int32) (made : Nat)  (hm : made ≤ 2048) : Met l y_O_room w_O_room rm_O_room (va_Pc [.ref (q 1)] (ob_B (dC, dI) vwCl (wO q cI cL own amt tag mad spt made) [(cI, .int), (cL, .long)] [])) (QcRead (nI (2048 - made))) 0 0 (fun _ => False) := by
  refine ob_ofW (cc := b_O_room) (maxL := 1) (ret := (some .int)) (own := R_O) (by decide) rfl rfl (Nat.le_of_ble_eq_true rfl) ?_
  intro p e s m args below meth c Q hQ hx hb hr hml hT hown hlocks hv ls hl
  obtain ⟨hP, hK, hN⟩ := hv
  have hl : lv_has ls 1 [(0, .ref (q 1))] := hl
  refine lv_sipush (v := nI 2048) hx hb d_O_room_0 (by decide) ?_
  refine lv_aload_n hx hb d_O_room_3 rfl (lv_at hl 0 rfl) ?_
  refine va_get (D := (dC, dI)) (ci := 2) (v := .int (nI made)) (C := R_O) (T := T_O) (N := 6) hx hb hT in_O hown hK hP 0 rfl rfl 5 (by decide) (hT _ k_38) (fun _ h9 => h9) rfl d_O_room_4 ?_
  refine lv_isub hx hb d_O_room_7 ?_
  refine ob_eqi (pk_sub (a := 2048) (b := made) (by omega)) ?_
  exact ob_iret (v := nI (2048 - made)) hx hb hr hlocks hQ rfl d_O_room_8
abbrev rm_O_has : Room := { frames := 0, cells := 0, slots := 0, locals := 0 }
set_option maxHeartbeats 4000000 in
set_option maxRecDepth 100000 in
theorem c_O_has (l : Launch) (dC : Nat → ClassId) (dI : Nat → Nat → Nat) (q : Nat → Nat) (cI cL : ClassId) (own : Nat → Int32) (amt : Nat → Int64) (tag : Nat → Int64) (mad : Nat → Int32) (spt : Nat → Int32) (made : Nat) (x : Int32) (hm : made ≤ 2048) : Met l y_O_has w_O_has rm_O_has (va_Pc [.ref (q 1), .int x] (ob_B (dC, dI) vwCl (wO q cI cL own amt tag mad spt made) [(cI, .int), (cL, .long)] [])) (QcRead (if p_has made x then nI 1 else nI 0)) 0 0 (fun _ => False) := by
  refine ob_ofW (cc := b_O_has) (maxL := 2) (ret := (some .boolean)) (own := R_O) (by decide) rfl rfl (Nat.le_of_ble_eq_true rfl) ?_
  intro p e s m args below meth c Q hQ hx hb hr hml hT hown hlocks hv ls hl
  obtain ⟨hP, hK, hN⟩ := hv
  have hl : lv_has ls 2 [(0, .ref (q 1)), (1, .int x)] := hl
  refine lv_iload_n hx hb d_O_has_0 rfl (lv_at hl 1 rfl) ?_
  refine lv_if_lt (tgt := 16) hx hb d_O_has_1 (by decide) (fun c_1 => ?_) (fun c_1 => ?_)
  · have t_1 := (cv_lt rfl (by decide : (0 : Int32).toInt = 0)).mp c_1
    refine lv_iconst (v := nI 0) hx hb d_O_has_16 (by decide) ?_
    exact ob_zret (v := nI 0) hx hb hr hlocks hQ (by decide) (by first | exact (if_pos (by omega)).symm | exact (if_neg (by omega)).symm) d_O_has_17
  · have t_1 := mt (cv_lt rfl (by decide : (0 : Int32).toInt = 0)).mpr c_1
    refine lv_iload_n hx hb d_O_has_4 rfl (lv_at hl 1 rfl) ?_
    refine lv_aload_n hx hb d_O_has_5 rfl (lv_at hl 0 rfl) ?_
    refine va_get (D := (dC, dI)) (ci := 2) (v := .int (nI made)) (C := R_O) (T := T_O) (N := 6) hx hb hT in_O hown hK hP 0 rfl rfl 5 (by decide) (hT _ k_38) (fun _ h9 => h9) rfl d_O_has_6 ?_
    refine lv_icmp_ge (tgt := 16) hx hb d_O_has_9 (by decide) (fun c_9 => ?_) (fun c_9 => ?_)
    · have t_9 := (cv_le (nI_toInt (by omega)) rfl).mp c_9
      refine lv_iconst (v := nI 0) hx hb d_O_has_16 (by decide) ?_
      exact ob_zret (v := nI 0) hx hb hr hlocks hQ (by decide) (by first | exact (if_pos (by omega)).symm | exact (if_neg (by omega)).symm) d_O_has_17
    · have t_9 := mt (cv_le (nI_toInt (by omega)) rfl).mpr c_9
      refine lv_iconst (v := nI 1) hx hb d_O_has_12 (by decide) ?_
      refine lv_goto (tgt := 17) hx hb d_O_has_13 (by decide) ?_
      exact ob_zret (v := nI 1) hx hb hr hlocks hQ (by decide) (by first | exact (if_pos (by omega)).symm | exact (if_neg (by omega)).symm) d_O_has_17
abbrev rm_O_isLive : Room := { frames := 1, cells := 0, slots := 0, locals := 21 }
set_option maxHeartbeats 4000000 in
set_option maxRecDepth 100000 in
theorem c_O_isLive (l : Launch) (dC : Nat → ClassId) (dI : Nat → Nat → Nat) (q : Nat → Nat) (cI cL : ClassId) (own : Nat → Int32) (amt : Nat → Int64) (tag : Nat → Int64) (mad : Nat → Int32) (spt : Nat → Int32) (made : Nat) (x : Int32) (hm : made ≤ 2048) : Met l y_O_isLive w_O_isLive rm_O_isLive (va_Pc [.ref (q 1), .int x] (ob_B (dC, dI) vwCl (wO q cI cL own amt tag mad spt made) [(cI, .int), (cL, .long)] [])) (QcRead (if p_live spt made x then nI 1 else nI 0)) 0 0 (fun _ => False) := by
  refine ob_ofW (cc := b_O_isLive) (maxL := 2) (ret := (some .boolean)) (own := R_O) (by decide) rfl rfl (Nat.le_of_ble_eq_true rfl) ?_
  intro p e s m args below meth c Q hQ hx hb hr hml hT hown hlocks hv ls hl
  obtain ⟨hP, hK, hN⟩ := hv
  have hl : lv_has ls 2 [(0, .ref (q 1)), (1, .int x)] := hl
  refine lv_aload_n hx hb d_O_isLive_0 rfl (lv_at hl 0 rfl) ?_
  refine lv_iload_n hx hb d_O_isLive_1 rfl (lv_at hl 1 rfl) ?_
  refine ob_callR (W.runV (As := [.int x]) (rest := []) ⟨hx, hb, hml, hown, hT⟩ (c_O_has l dC dI q cI cL own amt tag mad spt made x hm) (cwV 1 hT (ob_goodV k_153 k_154 k_155 k_10 k_156) rfl rfl rfl (by decide +kernel) ⟨Nat.le_of_ble_eq_true rfl, Nat.le_of_ble_eq_true rfl⟩) (ob_preV (wc := wO q cI cL own amt tag mad spt made) (q0 := 0) rfl hK hP (fun _ h => absurd h List.not_mem_nil) rfl [0, 1, 2, 3, 4, 5] rfl rfl) rfl rfl hl.1 rfl (lv_room (Nat.le_of_ble_eq_true rfl)) d_O_isLive_2 ⟨Nat.zero_le _, Nat.zero_le _⟩) ?_
  refine ob_split (P := p_has made x) (fun b_2 => ?_) (fun b_2 => ?_)
  · refine lv_if_eq (tgt := 22) hx hb d_O_isLive_5 (by decide) (fun c => absurd c (by decide)) (fun _ => ?_)
    refine lv_aload_n hx hb d_O_isLive_8 rfl (lv_at hl 0 rfl) ?_
    refine va_get (D := (dC, dI)) (ci := 2) (v := .ref (q 6)) (C := R_O) (T := T_O) (N := 6) hx hb hT in_O hown hK hP 0 rfl rfl 4 (by decide) (hT _ k_36) (fun _ h9 => h9) rfl d_O_isLive_9 ?_
    refine lv_iload_n hx hb d_O_isLive_12 rfl (lv_at hl 1 rfl) ?_
    refine ob_iald hx hb hK hP 5 0 rfl rfl (j := x.toNatClampNeg) rfl (cv_in rfl (by omega)) d_O_isLive_13 ?_
    refine lv_iconst (v := (-1 : Int32)) hx hb d_O_isLive_14 (by decide) ?_
    refine lv_icmp_ne (tgt := 22) hx hb d_O_isLive_15 (by decide) (fun c_15 => ?_) (fun c_15 => ?_)
    · have t_15 := mt (cv_eq rfl (by decide : (-1 : Int32).toInt = -1)).mpr c_15
      refine lv_iconst (v := nI 0) hx hb d_O_isLive_22 (by decide) ?_
      exact ob_zret (v := nI 0) hx hb hr hlocks hQ (by decide) (by first | exact (if_pos ⟨b_2, c_15⟩).symm | exact (if_neg (fun h => c_15 h.2)).symm | exact (if_neg (fun h => b_2 h.1)).symm) d_O_isLive_23
    · have t_15 := (cv_eq rfl (by decide : (-1 : Int32).toInt = -1)).mp c_15
      refine lv_iconst (v := nI 1) hx hb d_O_isLive_18 (by decide) ?_
      refine lv_goto (tgt := 23) hx hb d_O_isLive_19 (by decide) ?_
      exact ob_zret (v := nI 1) hx hb hr hlocks hQ (by decide) (by first | exact (if_pos ⟨b_2, c_15⟩).symm | exact (if_neg (fun h => c_15 h.2)).symm | exact (if_neg (fun h => b_2 h.1)).symm) d_O_isLive_23
  · refine lv_if_eq (tgt := 22) hx hb d_O_isLive_5 (by decide) (fun _ => ?_) (fun c => absurd c (by decide))
    refine lv_iconst (v := nI 0) hx hb d_O_isLive_22 (by decide) ?_
    exact ob_zret (v := nI 0) hx hb hr hlocks hQ (by decide) (by first | exact (if_pos ⟨b_2, c_15⟩).symm | exact (if_neg (fun h => c_15 h.2)).symm | exact (if_neg (fun h => b_2 h.1)).symm) d_O_isLive_23
abbrev rm_O_isLiveOf : Room := { frames := 2, cells := 0, slots := 0, locals := 42 }
set_option maxHeartbeats 4000000 in
set_option maxRecDepth 100000 in
theorem c_O_isLiveOf (l : Launch) (dC : Nat → ClassId) (dI : Nat → Nat → Nat) (q : Nat → Nat) (cI cL : ClassId) (own : Nat → Int32) (amt : Nat → Int64) (tag : Nat → Int64) (mad : Nat → Int32) (spt : Nat → Int32) (made : Nat) (o : Int32) (x : Int32) (hm : made ≤ 2048) : Met l y_O_isLiveOf w_O_isLiveOf rm_O_isLiveOf (va_Pc [.ref (q 1), .int o, .int x] (ob_B (dC, dI) vwCl (wO q cI cL own amt tag mad spt made) [(cI, .int), (cL, .long)] [])) (QcRead (if p_liveOf own spt made o x then nI 1 else nI 0)) 0 0 (fun _ => False) := by
  refine ob_ofW (cc := b_O_isLiveOf) (maxL := 3) (ret := (some .boolean)) (own := R_O) (by decide) rfl rfl (Nat.le_of_ble_eq_true rfl) ?_
  intro p e s m args below meth c Q hQ hx hb hr hml hT hown hlocks hv ls hl
  obtain ⟨hP, hK, hN⟩ := hv
  have hl : lv_has ls 3 [(0, .ref (q 1)), (1, .int o), (2, .int x)] := hl
  refine lv_aload_n hx hb d_O_isLiveOf_0 rfl (lv_at hl 0 rfl) ?_
  refine lv_iload_n hx hb d_O_isLiveOf_1 rfl (lv_at hl 2 rfl) ?_
  refine ob_callR (W.runV (As := [.int x]) (rest := []) ⟨hx, hb, hml, hown, hT⟩ (c_O_isLive l dC dI q cI cL own amt tag mad spt made x hm) (cwV 1 hT (ob_goodV k_227 k_150 k_151 k_10 k_152) rfl rfl rfl (by decide +kernel) ⟨Nat.le_of_ble_eq_true rfl, Nat.le_of_ble_eq_true rfl⟩) (ob_preV (wc := wO q cI cL own amt tag mad spt made) (q0 := 0) rfl hK hP (fun _ h => absurd h List.not_mem_nil) rfl [0, 1, 2, 3, 4, 5] rfl rfl) rfl rfl hl.1 rfl (lv_room (Nat.le_of_ble_eq_true rfl)) d_O_isLiveOf_2 ⟨Nat.zero_le _, Nat.zero_le _⟩) ?_
  refine ob_split (P := p_live spt made x) (fun b_2 => ?_) (fun b_2 => ?_)
  · refine lv_if_eq (tgt := 22) hx hb d_O_isLiveOf_5 (by decide) (fun c => absurd c (by decide)) (fun _ => ?_)
    refine lv_aload_n hx hb d_O_isLiveOf_8 rfl (lv_at hl 0 rfl) ?_
    refine va_get (D := (dC, dI)) (ci := 2) (v := .ref (q 2)) (C := R_O) (T := T_O) (N := 6) hx hb hT in_O hown hK hP 0 rfl rfl 0 (by decide) (hT _ k_29) (fun _ h9 => h9) rfl d_O_isLiveOf_9 ?_
    refine lv_iload_n hx hb d_O_isLiveOf_12 rfl (lv_at hl 2 rfl) ?_
    refine ob_iald hx hb hK hP 1 0 rfl rfl (j := x.toNatClampNeg) rfl (cv_in rfl (by omega)) d_O_isLiveOf_13 ?_
    refine lv_iload_n hx hb d_O_isLiveOf_14 rfl (lv_at hl 1 rfl) ?_
    refine lv_icmp_ne (tgt := 22) hx hb d_O_isLiveOf_15 (by decide) (fun c_15 => ?_) (fun c_15 => ?_)
    · have t_15 := mt (cv_eq rfl rfl).mpr c_15
      refine lv_iconst (v := nI 0) hx hb d_O_isLiveOf_22 (by decide) ?_
      exact ob_zret (v := nI 0) hx hb hr hlocks hQ (by decide) (by first | exact (if_pos ⟨b_2, c_15⟩).symm | exact (if_neg (fun h => c_15 h.2)).symm | exact (if_neg (fun h => b_2 h.1)).symm) d_O_isLiveOf_23
    · have t_15 := (cv_eq rfl rfl).mp c_15
      refine lv_iconst (v := nI 1) hx hb d_O_isLiveOf_18 (by decide) ?_
      refine lv_goto (tgt := 23) hx hb d_O_isLiveOf_19 (by decide) ?_
      exact ob_zret (v := nI 1) hx hb hr hlocks hQ (by decide) (by first | exact (if_pos ⟨b_2, c_15⟩).symm | exact (if_neg (fun h => c_15 h.2)).symm | exact (if_neg (fun h => b_2 h.1)).symm) d_O_isLiveOf_23
  · refine lv_if_eq (tgt := 22) hx hb d_O_isLiveOf_5 (by decide) (fun _ => ?_) (fun c => absurd c (by decide))
    refine lv_iconst (v := nI 0) hx hb d_O_isLiveOf_22 (by decide) ?_
    exact ob_zret (v := nI 0) hx hb hr hlocks hQ (by decide) (by first | exact (if_pos ⟨b_2, c_15⟩).symm | exact (if_neg (fun h => c_15 h.2)).symm | exact (if_neg (fun h => b_2 h.1)).symm) d_O_isLiveOf_23
abbrev rm_O_amountOf : Room := { frames := 1, cells := 0, slots := 0, locals := 21 }
set_option maxHeartbeats 4000000 in
set_option maxRecDepth 100000 in
theorem c_O_amountOf (l : Launch) (dC : Nat → ClassId) (dI : Nat → Nat → Nat) (q : Nat → Nat) (cI cL : ClassId) (own : Nat → Int32) (amt : Nat → Int64) (tag : Nat → Int64) (mad : Nat → Int32) (spt : Nat → Int32) (made : Nat) (x : Int32) (hm : made ≤ 2048) : Met l y_O_amountOf w_O_amountOf rm_O_amountOf (va_Pc [.ref (q 1), .int x] (ob_B (dC, dI) vwCl (wO q cI cL own amt tag mad spt made) [(cI, .int), (cL, .long)] [])) (QcReadL (f_amt amt made x)) 0 0 (fun _ => False) := by
  refine ob_ofW (cc := b_O_amountOf) (maxL := 2) (ret := (some .long)) (own := R_O) (by decide) rfl rfl (Nat.le_of_ble_eq_true rfl) ?_
  intro p e s m args below meth c Q hQ hx hb hr hml hT hown hlocks hv ls hl
  obtain ⟨hP, hK, hN⟩ := hv
  have hl : lv_has ls 2 [(0, .ref (q 1)), (1, .int x)] := hl
  refine lv_aload_n hx hb d_O_amountOf_0 rfl (lv_at hl 0 rfl) ?_
  refine lv_iload_n hx hb d_O_amountOf_1 rfl (lv_at hl 1 rfl) ?_
  refine ob_callR (W.runV (As := [.int x]) (rest := []) ⟨hx, hb, hml, hown, hT⟩ (c_O_has l dC dI q cI cL own amt tag mad spt made x hm) (cwV 1 hT (ob_goodV k_153 k_154 k_155 k_10 k_156) rfl rfl rfl (by decide +kernel) ⟨Nat.le_of_ble_eq_true rfl, Nat.le_of_ble_eq_true rfl⟩) (ob_preV (wc := wO q cI cL own amt tag mad spt made) (q0 := 0) rfl hK hP (fun _ h => absurd h List.not_mem_nil) rfl [0, 1, 2, 3, 4, 5] rfl rfl) rfl rfl hl.1 rfl (lv_room (Nat.le_of_ble_eq_true rfl)) d_O_amountOf_2 ⟨Nat.zero_le _, Nat.zero_le _⟩) ?_
  refine ob_split (P := p_has made x) (fun b_2 => ?_) (fun b_2 => ?_)
  · refine lv_if_eq (tgt := 17) hx hb d_O_amountOf_5 (by decide) (fun c => absurd c (by decide)) (fun _ => ?_)
    refine lv_aload_n hx hb d_O_amountOf_8 rfl (lv_at hl 0 rfl) ?_
    refine va_get (D := (dC, dI)) (ci := 2) (v := .ref (q 3)) (C := R_O) (T := T_O) (N := 6) hx hb hT in_O hown hK hP 0 rfl rfl 1 (by decide) (hT _ k_31) (fun _ h9 => h9) rfl d_O_amountOf_9 ?_
    refine lv_iload_n hx hb d_O_amountOf_12 rfl (lv_at hl 1 rfl) ?_
    refine ob_lald hx hb hK hP 2 1 rfl rfl (j := x.toNatClampNeg) rfl (cv_in rfl (by omega)) d_O_amountOf_13 ?_
    refine lv_goto (tgt := 18) hx hb d_O_amountOf_14 (by decide) ?_
    exact ob_lret (v := amt x.toNatClampNeg) hx hb hr hlocks hQ (by first | exact (if_pos b_2).symm | exact (if_neg b_2).symm) d_O_amountOf_18
  · refine lv_if_eq (tgt := 17) hx hb d_O_amountOf_5 (by decide) (fun _ => ?_) (fun c => absurd c (by decide))
    refine lv_lconst (v := 0) hx hb d_O_amountOf_17 (by decide) ?_
    exact ob_lret (v := (0 : Int64)) hx hb hr hlocks hQ (by first | exact (if_pos b_2).symm | exact (if_neg b_2).symm) d_O_amountOf_18
