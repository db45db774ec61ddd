abbrev rm_O_room : Room := { frames := 0, cells := 0, slots := 0, locals := 0 }
set_option maxHeartbeats 4000000 in
set_option maxRecDepth 100000 in
theorem c_O_room (l : Launch) (dC : Nat → ClassId) (dI : Nat → Nat → Nat) (q : Nat → Nat) (cI cL : ClassId) (own : Nat → Int32) (amt : Nat → Int64) (tag : Nat → Int64) (mad : Nat → Int32) (spt : Nat → Int32) (made : Nat)  (hm : made ≤ 2048) : Met l y_O_room w_O_room rm_O_room (va_Pc [.ref (q 1)] (ob_B (dC, dI) vwCl (wO q cI cL own amt tag mad spt made) [(cI, .int), (cL, .long)] [])) (QcRead (nI (2048 - made))) 0 0 (fun _ => False) := by
  refine ob_ofW (cc := b_O_room) (maxL := 1) (ret := (some .int)) (own := R_O) (by decide) rfl rfl (Nat.le_of_ble_eq_true rfl) ?_
  intro p e s m args below meth c Q hQ hx hb hr hml hT hown hlocks hv ls hl
  obtain ⟨hP, hK, hN⟩ := hv
  have hl : lv_has ls 1 [(0, .ref (q 1))] := hl
  refine lv_sipush (v := nI 2048) hx hb d_O_room_0 (by decide) ?_
  refine lv_aload_n hx hb d_O_room_3 rfl (lv_at hl 0 rfl) ?_
  refine va_get (D := (dC, dI)) (ci := 2) (v := .int (nI made)) (C := R_O) (T := T_O) (N := 6) hx hb hT in_O hown hK hP 0 rfl rfl 5 (by decide) (hT _ k_38) (fun _ h9 => h9) rfl d_O_room_4 ?_
  refine lv_isub hx hb d_O_room_7 ?_
  refine ob_eqi (pk_sub (a := 2048) (b := made) (by omega)) ?_
  exact ob_iret (v := nI (2048 - made)) hx hb hr hlocks hQ rfl d_O_room_8
abbrev rm_O_has : Room := { frames := 0, cells := 0, slots := 0, locals := 0 }
set_option maxHeartbeats 4000000 in
set_option maxRecDepth 100000 in
theorem c_O_has (l : Launch) (dC : Nat → ClassId) (dI : Nat → Nat → Nat) (q : Nat → Nat) (cI cL : ClassId) (own : Nat → Int32) (amt : Nat → Int64) (tag : Nat → Int64) (mad : Nat → Int32) (spt : Nat → Int32) (made : Nat) (x : Int32) (hm : made ≤ 2048) : Met l y_O_has w_O_has rm_O_has (va_Pc [.ref (q 1), .int x] (ob_B (dC, dI) vwCl (wO q cI cL own amt tag mad spt made) [(cI, .int), (cL, .long)] [])) (QcRead (if p_has made x then nI 1 else nI 0)) 0 0 (fun _ => False) := by
  refine ob_ofW (cc := b_O_has) (maxL := 2) (ret := (some .boolean)) (own := R_O) (by decide) rfl rfl (Nat.le_of_ble_eq_true rfl) ?_
  intro p e s m args below meth c Q hQ hx hb hr hml hT hown hlocks hv ls hl
  obtain ⟨hP, hK, hN⟩ := hv
  have hl : lv_has ls 2 [(0, .ref (q 1)), (1, .int x)] := hl
  refine lv_iload_n hx hb d_O_has_0 rfl (lv_at hl 1 rfl) ?_
  refine lv_if_lt (tgt := 16) hx hb d_O_has_1 (by decide) (fun c_1 => ?_) (fun c_1 => ?_)
  · have t_1 := (cv_lt rfl (by decide : (0 : Int32).toInt = 0)).mp c_1
    refine lv_iconst (v := nI 0) hx hb d_O_has_16 (by decide) ?_
    exact ob_zret (v := nI 0) hx hb hr hlocks hQ (by decide) (by first | exact (if_pos (by omega)).symm | exact (if_neg (by omega)).symm) d_O_has_17
  · have t_1 := mt (cv_lt rfl (by decide : (0 : Int32).toInt = 0)).mpr c_1
    refine lv_iload_n hx hb d_O_has_4 rfl (lv_at hl 1 rfl) ?_
    refine lv_aload_n hx hb d_O_has_5 rfl (lv_at hl 0 rfl) ?_
    refine va_get (D := (dC, dI)) (ci := 2) (v := .int (nI made)) (C := R_O) (T := T_O) (N := 6) hx hb hT in_O hown hK hP 0 rfl rfl 5 (by decide) (hT _ k_38) (fun _ h9 => h9) rfl d_O_has_6 ?_
    refine lv_icmp_ge (tgt := 16) hx hb d_O_has_9 (by decide) (fun c_9 => ?_) (fun c_9 => ?_)
    · have t_9 := (cv_le (nI_toInt (by omega)) rfl).mp c_9
      refine lv_iconst (v := nI 0) hx hb d_O_has_16 (by decide) ?_
      exact ob_zret (v := nI 0) hx hb hr hlocks hQ (by decide) (by first | exact (if_pos (by omega)).symm | exact (if_neg (by omega)).symm) d_O_has_17
    · have t_9 := mt (cv_le (nI_toInt (by omega)) rfl).mpr c_9
      refine lv_iconst (v := nI 1) hx hb d_O_has_12 (by decide) ?_
      refine lv_goto (tgt := 17) hx hb d_O_has_13 (by decide) ?_
      exact ob_zret (v := nI 1) hx hb hr hlocks hQ (by decide) (by first | exact (if_pos (by omega)).symm | exact (if_neg (by omega)).symm) d_O_has_17
abbrev rm_O_isLive : Room := { frames := 1, cells := 0, slots := 0, locals := 21 }
set_option maxHeartbeats 4000000 in
set_option maxRecDepth 100000 in
theorem c_O_isLive (l : Launch) (dC : Nat → ClassId) (dI : Nat → Nat → Nat) (q : Nat → Nat) (cI cL : ClassId) (own : Nat → Int32) (amt : Nat → Int64) (tag : Nat → Int64) (mad : Nat → Int32) (spt : Nat → Int32) (made : Nat) (x : Int32) (hm : made ≤ 2048) : Met l y_O_isLive w_O_isLive rm_O_isLive (va_Pc [.ref (q 1), .int x] (ob_B (dC, dI) vwCl (wO q cI cL own amt tag mad spt made) [(cI, .int), (cL, .long)] [])) (QcRead (if p_live spt made x then nI 1 else nI 0)) 0 0 (fun _ => False) := by
  refine ob_ofW (cc := b_O_isLive) (maxL := 2) (ret := (some .boolean)) (own := R_O) (by decide) rfl rfl (Nat.le_of_ble_eq_true rfl) ?_
  intro p e s m args below meth c Q hQ hx hb hr hml hT hown hlocks hv ls hl
  obtain ⟨hP, hK, hN⟩ := hv
  have hl : lv_has ls 2 [(0, .ref (q 1)), (1, .int x)] := hl
  refine lv_aload_n hx hb d_O_isLive_0 rfl (lv_at hl 0 rfl) ?_
  refine lv_iload_n hx hb d_O_isLive_1 rfl (lv_at hl 1 rfl) ?_
  refine ob_callR (W.runV (As := [.int x]) (rest := []) ⟨hx, hb, hml, hown, hT⟩ (c_O_has l dC dI q cI cL own amt tag mad spt made x hm) (cwV 1 hT (ob_goodV k_153 k_154 k_155 k_10 k_156) rfl rfl rfl (by decide +kernel) ⟨Nat.le_of_ble_eq_true rfl, Nat.le_of_ble_eq_true rfl⟩) (ob_preV (wc := wO q cI cL own amt tag mad spt made) (q0 := 0) rfl hK hP (fun _ h => absurd h List.not_mem_nil) rfl [0, 1, 2, 3, 4, 5] rfl rfl) rfl rfl hl.1 rfl (lv_room (Nat.le_of_ble_eq_true rfl)) d_O_isLive_2 ⟨Nat.zero_le _, Nat.zero_le _⟩) ?_
  refine ob_split (P := p_has made x) (fun b_2 => ?_) (fun b_2 => ?_)
  · refine lv_if_eq (tgt := 22) hx hb d_O_isLive_5 (by decide) (fun c => absurd c (by decide)) (fun _ => ?_)
    refine lv_aload_n hx hb d_O_isLive_8 rfl (lv_at hl 0 rfl) ?_
    refine va_get (D := (dC, dI)) (ci := 2) (v := .ref (q 6)) (C := R_O) (T := T_O) (N := 6) hx hb hT in_O hown hK hP 0 rfl rfl 4 (by decide) (hT _ k_36) (fun _ h9 => h9) rfl d_O_isLive_9 ?_
    refine lv_iload_n hx hb d_O_isLive_12 rfl (lv_at hl 1 rfl) ?_
    refine ob_iald hx hb hK hP 5 0 rfl rfl (j := x.toNatClampNeg) rfl (cv_in rfl (by omega)) d_O_isLive_13 ?_
    refine lv_iconst (v := (-1 : Int32)) hx hb d_O_isLive_14 (by decide) ?_
    refine lv_icmp_ne (tgt := 22) hx hb d_O_isLive_15 (by decide) (fun c_15 => ?_) (fun c_15 => ?_)
    · have t_15 := mt (cv_eq rfl (by decide : (-1 : Int32).toInt = -1)).mpr c_15
      refine lv_iconst (v := nI 0) hx hb d_O_isLive_22 (by decide) ?_
      exact ob_zret (v := nI 0) hx hb hr hlocks hQ (by decide) (by first | exact (if_pos ⟨b_2, c_15⟩).symm | exact (if_neg (fun h => c_15 h.2)).symm | exact (if_neg (fun h => b_2 h.1)).symm) d_O_isLive_23
    · have t_15 := (cv_eq rfl (by decide : (-1 : Int32).toInt = -1)).mp c_15
      refine lv_iconst (v := nI 1) hx hb d_O_isLive_18 (by decide) ?_
      refine lv_goto (tgt := 23) hx hb d_O_isLive_19 (by decide) ?_
      exact ob_zret (v := nI 1) hx hb hr hlocks hQ (by decide) (by first | exact (if_pos ⟨b_2, c_15⟩).symm | exact (if_neg (fun h => c_15 h.2)).symm | exact (if_neg (fun h => b_2 h.1)).symm) d_O_isLive_23
  · refine lv_if_eq (tgt := 22) hx hb d_O_isLive_5 (by decide) (fun _ => ?_) (fun c => absurd c (by decide))
    refine lv_iconst (v := nI 0) hx hb d_O_isLive_22 (by decide) ?_
    exact ob_zret (v := nI 0) hx hb hr hlocks hQ (by decide) (by first | exact (if_pos ⟨b_2, c_15⟩).symm | exact (if_neg (fun h => c_15 h.2)).symm | exact (if_neg (fun h => b_2 h.1)).symm) d_O_isLive_23
abbrev rm_O_isLiveOf : Room := { frames := 2, cells := 0, slots := 0, locals := 42 }
set_option maxHeartbeats 4000000 in
set_option maxRecDepth 100000 in
theorem c_O_isLiveOf (l : Launch) (dC : Nat → ClassId) (dI : Nat → Nat → Nat) (q : Nat → Nat) (cI cL : ClassId) (own : Nat → Int32) (amt : Nat → Int64) (tag : Nat → Int64) (mad : Nat → Int32) (spt : Nat → Int32) (made : Nat) (o : Int32) (x : Int32) (hm : made ≤ 2048) : Met l y_O_isLiveOf w_O_isLiveOf rm_O_isLiveOf (va_Pc [.ref (q 1), .int o, .int x] (ob_B (dC, dI) vwCl (wO q cI cL own amt tag mad spt made) [(cI, .int), (cL, .long)] [])) (QcRead (if p_liveOf own spt made o x then nI 1 else nI 0)) 0 0 (fun _ => False) := by
  refine ob_ofW (cc := b_O_isLiveOf) (maxL := 3) (ret := (some .boolean)) (own := R_O) (by decide) rfl rfl (Nat.le_of_ble_eq_true rfl) ?_
  intro p e s m args below meth c Q hQ hx hb hr hml hT hown hlocks hv ls hl
  obtain ⟨hP, hK, hN⟩ := hv
  have hl : lv_has ls 3 [(0, .ref (q 1)), (1, .int o), (2, .int x)] := hl
  refine lv_aload_n hx hb d_O_isLiveOf_0 rfl (lv_at hl 0 rfl) ?_
  refine lv_iload_n hx hb d_O_isLiveOf_1 rfl (lv_at hl 2 rfl) ?_
  refine ob_callR (W.runV (As := [.int x]) (rest := []) ⟨hx, hb, hml, hown, hT⟩ (c_O_isLive l dC dI q cI cL own amt tag mad spt made x hm) (cwV 1 hT (ob_goodV k_227 k_150 k_151 k_10 k_152) rfl rfl rfl (by decide +kernel) ⟨Nat.le_of_ble_eq_true rfl, Nat.le_of_ble_eq_true rfl⟩) (ob_preV (wc := wO q cI cL own amt tag mad spt made) (q0 := 0) rfl hK hP (fun _ h => absurd h List.not_mem_nil) rfl [0, 1, 2, 3, 4, 5] rfl rfl) rfl rfl hl.1 rfl (lv_room (Nat.le_of_ble_eq_true rfl)) d_O_isLiveOf_2 ⟨Nat.zero_le _, Nat.zero_le _⟩) ?_
  refine ob_split (P := p_live spt made x) (fun b_2 => ?_) (fun b_2 => ?_)
  · refine lv_if_eq (tgt := 22) hx hb d_O_isLiveOf_5 (by decide) (fun c => absurd c (by decide)) (fun _ => ?_)
    refine lv_aload_n hx hb d_O_isLiveOf_8 rfl (lv_at hl 0 rfl) ?_
    refine va_get (D := (dC, dI)) (ci := 2) (v := .ref (q 2)) (C := R_O) (T := T_O) (N := 6) hx hb hT in_O hown hK hP 0 rfl rfl 0 (by decide) (hT _ k_29) (fun _ h9 => h9) rfl d_O_isLiveOf_9 ?_
    refine lv_iload_n hx hb d_O_isLiveOf_12 rfl (lv_at hl 2 rfl) ?_
    refine ob_iald hx hb hK hP 1 0 rfl rfl (j := x.toNatClampNeg) rfl (cv_in rfl (by omega)) d_O_isLiveOf_13 ?_
    refine lv_iload_n hx hb d_O_isLiveOf_14 rfl (lv_at hl 1 rfl) ?_
    refine lv_icmp_ne (tgt := 22) hx hb d_O_isLiveOf_15 (by decide) (fun c_15 => ?_) (fun c_15 => ?_)
    · have t_15 := mt (cv_eq rfl rfl).mpr c_15
      refine lv_iconst (v := nI 0) hx hb d_O_isLiveOf_22 (by decide) ?_
      exact ob_zret (v := nI 0) hx hb hr hlocks hQ (by decide) (by first | exact (if_pos ⟨b_2, c_15⟩).symm | exact (if_neg (fun h => c_15 h.2)).symm | exact (if_neg (fun h => b_2 h.1)).symm) d_O_isLiveOf_23
    · have t_15 := (cv_eq rfl rfl).mp c_15
      refine lv_iconst (v := nI 1) hx hb d_O_isLiveOf_18 (by decide) ?_
      refine lv_goto (tgt := 23) hx hb d_O_isLiveOf_19 (by decide) ?_
      exact ob_zret (v := nI 1) hx hb hr hlocks hQ (by decide) (by first | exact (if_pos ⟨b_2, c_15⟩).symm | exact (if_neg (fun h => c_15 h.2)).symm | exact (if_neg (fun h => b_2 h.1)).symm) d_O_isLiveOf_23
  · refine lv_if_eq (tgt := 22) hx hb d_O_isLiveOf_5 (by decide) (fun _ => ?_) (fun c => absurd c (by decide))
    refine lv_iconst (v := nI 0) hx hb d_O_isLiveOf_22 (by decide) ?_
    exact ob_zret (v := nI 0) hx hb hr hlocks hQ (by decide) (by first | exact (if_pos ⟨b_2, c_15⟩).symm | exact (if_neg (fun h => c_15 h.2)).symm | exact (if_neg (fun h => b_2 h.1)).symm) d_O_isLiveOf_23
abbrev rm_O_amountOf : Room := { frames := 1, cells := 0, slots := 0, locals := 21 }
set_option maxHeartbeats 4000000 in
set_option maxRecDepth 100000 in
theorem c_O_amountOf (l : Launch) (dC : Nat → ClassId) (dI : Nat → Nat → Nat) (q : Nat → Nat) (cI cL : ClassId) (own : Nat → Int32) (amt : Nat → Int64) (tag : Nat → Int64) (mad : Nat → Int32) (spt : Nat → Int32) (made : Nat) (x : Int32) (hm : made ≤ 2048) : Met l y_O_amountOf w_O_amountOf rm_O_amountOf (va_Pc [.ref (q 1), .int x] (ob_B (dC, dI) vwCl (wO q cI cL own amt tag mad spt made) [(cI, .int), (cL, .long)] [])) (QcReadL (f_amt amt made x)) 0 0 (fun _ => False) := by
  refine ob_ofW (cc := b_O_amountOf) (maxL := 2) (ret := (some .long)) (own := R_O) (by decide) rfl rfl (Nat.le_of_ble_eq_true rfl) ?_
  intro p e s m args below meth c Q hQ hx hb hr hml hT hown hlocks hv ls hl
  obtain ⟨hP, hK, hN⟩ := hv
  have hl : lv_has ls 2 [(0, .ref (q 1)), (1, .int x)] := hl
  refine lv_aload_n hx hb d_O_amountOf_0 rfl (lv_at hl 0 rfl) ?_
  refine lv_iload_n hx hb d_O_amountOf_1 rfl (lv_at hl 1 rfl) ?_
  refine ob_callR (W.runV (As := [.int x]) (rest := []) ⟨hx, hb, hml, hown, hT⟩ (c_O_has l dC dI q cI cL own amt tag mad spt made x hm) (cwV 1 hT (ob_goodV k_153 k_154 k_155 k_10 k_156) rfl rfl rfl (by decide +kernel) ⟨Nat.le_of_ble_eq_true rfl, Nat.le_of_ble_eq_true rfl⟩) (ob_preV (wc := wO q cI cL own amt tag mad spt made) (q0 := 0) rfl hK hP (fun _ h => absurd h List.not_mem_nil) rfl [0, 1, 2, 3, 4, 5] rfl rfl) rfl rfl hl.1 rfl (lv_room (Nat.le_of_ble_eq_true rfl)) d_O_amountOf_2 ⟨Nat.zero_le _, Nat.zero_le _⟩) ?_
  refine ob_split (P := p_has made x) (fun b_2 => ?_) (fun b_2 => ?_)
  · refine lv_if_eq (tgt := 17) hx hb d_O_amountOf_5 (by decide) (fun c => absurd c (by decide)) (fun _ => ?_)
    refine lv_aload_n hx hb d_O_amountOf_8 rfl (lv_at hl 0 rfl) ?_
    refine va_get (D := (dC, dI)) (ci := 2) (v := .ref (q 3)) (C := R_O) (T := T_O) (N := 6) hx hb hT in_O hown hK hP 0 rfl rfl 1 (by decide) (hT _ k_31) (fun _ h9 => h9) rfl d_O_amountOf_9 ?_
    refine lv_iload_n hx hb d_O_amountOf_12 rfl (lv_at hl 1 rfl) ?_
    refine ob_lald hx hb hK hP 2 1 rfl rfl (j := x.toNatClampNeg) rfl (cv_in rfl (by omega)) d_O_amountOf_13 ?_
    refine lv_goto (tgt := 18) hx hb d_O_amountOf_14 (by decide) ?_
    exact ob_lret (v := amt x.toNatClampNeg) hx hb hr hlocks hQ (by first | exact (if_pos b_2).symm | exact (if_neg b_2).symm) d_O_amountOf_18
  · refine lv_if_eq (tgt := 17) hx hb d_O_amountOf_5 (by decide) (fun _ => ?_) (fun c => absurd c (by decide))
    refine lv_lconst (v := 0) hx hb d_O_amountOf_17 (by decide) ?_
    exact ob_lret (v := (0 : Int64)) hx hb hr hlocks hQ (by first | exact (if_pos b_2).symm | exact (if_neg b_2).symm) d_O_amountOf_18
abbrev rm_O_liveOnes : Room := { frames := 2, cells := 0, slots := 0, locals := 42 }
set_option maxHeartbeats 4000000 in
set_option maxRecDepth 100000 in
theorem c_O_liveOnes (l : Launch) (dC : Nat → ClassId) (dI : Nat → Nat → Nat) (q : Nat → Nat) (cI cL : ClassId) (own : Nat → Int32) (amt : Nat → Int64) (tag : Nat → Int64) (mad : Nat → Int32) (spt : Nat → Int32) (made : Nat)  (hm : made ≤ 2048) : Met l y_O_liveOnes w_O_liveOnes rm_O_liveOnes (va_Pc [.ref (q 1)] (ob_B (dC, dI) vwCl (wO q cI cL own amt tag mad spt made) [(cI, .int), (cL, .long)] [])) (QcRead (nI (f_cnt (fun j => decide (spt j = -1)) made))) 0 0 (fun _ => False) := by
  refine ob_ofW (cc := b_O_liveOnes) (maxL := 3) (ret := (some .int)) (own := R_O) (by decide) rfl rfl (Nat.le_of_ble_eq_true rfl) ?_
  intro p e s m args below meth c Q hQ hx hb hr hml hT hown hlocks hv ls hl
  obtain ⟨hP, hK, hN⟩ := hv
  have hl : lv_has ls 3 [(0, .ref (q 1))] := hl
  refine lv_iconst (v := nI 0) hx hb d_O_liveOnes_0 (by decide) ?_
  refine lv_istore_n (lv' := [(1, .int (nI 0)), (0, .ref (q 1))]) hx hb d_O_liveOnes_1 rfl hl (by decide) rfl (fun ls hl => ?_)
  refine lv_iconst (v := nI 0) hx hb d_O_liveOnes_2 (by decide) ?_
  refine lv_istore_n (lv' := [(2, .int (nI 0)), (1, .int (nI 0)), (0, .ref (q 1))]) hx hb d_O_liveOnes_3 rfl hl (by decide) rfl (fun ls hl => ?_)
  have key_4 : ∀ (n : Nat) (k : Nat) (c9 : Nat) (ls : Array Slot), made - k < n → (k ≤ made) → (c9 = f_cnt (fun j => decide (spt j = -1)) k) → lv_has ls 3 [(2, .int (nI k)), (1, .int (nI c9)), (0, .ref (q 1))] → W p l e rm_O_liveOnes s m args below meth c s.heap [] 0 0 Q (F0 m 4 ls []) := by
    intro n_4
    induction n_4 with
    | zero => intro k c9 ls h; exact absurd h (Nat.not_lt_zero _)
    | succ n_4 ih_4 =>
      intro k c9 ls hn_4 hk hc hl
      refine lv_iload_n hx hb d_O_liveOnes_4 rfl (lv_at hl 0 rfl) ?_
      refine lv_aload_n hx hb d_O_liveOnes_5 rfl (lv_at hl 2 rfl) ?_
      refine va_get (D := (dC, dI)) (ci := 2) (v := .int (nI made)) (C := R_O) (T := T_O) (N := 6) hx hb hT in_O hown hK hP 0 rfl rfl 5 (by decide) (hT _ k_38) (fun _ h9 => h9) rfl d_O_liveOnes_6 ?_
      refine lv_icmp_ge (tgt := 29) hx hb d_O_liveOnes_9 (by decide) (fun c_9 => ?_) (fun c_9 => ?_)
      · have t_9 := (cv_le (nI_toInt (by omega)) (nI_toInt (by omega))).mp c_9
        refine lv_iload_n hx hb d_O_liveOnes_29 rfl (lv_at hl 1 rfl) ?_
        exact ob_iret (v := nI c9) hx hb hr hlocks hQ (by rw [hc, show k = made by omega]) d_O_liveOnes_30
      · have t_9 := mt (cv_le (nI_toInt (by omega)) (nI_toInt (by omega))).mpr c_9
        refine lv_aload_n hx hb d_O_liveOnes_12 rfl (lv_at hl 2 rfl) ?_
        refine lv_iload_n hx hb d_O_liveOnes_13 rfl (lv_at hl 0 rfl) ?_
        refine ob_callR (W.runV (As := [.int (nI k)]) (rest := []) ⟨hx, hb, hml, hown, hT⟩ (c_O_isLive l dC dI q cI cL own amt tag mad spt made (nI k) hm) (cwV 1 hT (ob_goodV k_227 k_150 k_151 k_10 k_152) rfl rfl rfl (by decide +kernel) ⟨Nat.le_of_ble_eq_true rfl, Nat.le_of_ble_eq_true rfl⟩) (ob_preV (wc := wO q cI cL own amt tag mad spt made) (q0 := 0) rfl hK hP (fun _ h => absurd h List.not_mem_nil) rfl [0, 1, 2, 3, 4, 5] rfl rfl) rfl rfl hl.1 rfl (lv_room (Nat.le_of_ble_eq_true rfl)) d_O_liveOnes_14 ⟨Nat.zero_le _, Nat.zero_le _⟩) ?_
        refine ob_split (P := p_live spt made (nI k)) (fun b_14 => ?_) (fun b_14 => ?_)
        · refine lv_if_eq (tgt := 23) hx hb d_O_liveOnes_17 (by decide) (fun c => absurd c (by decide)) (fun _ => ?_)
          refine lv_iinc (v := nI (c9 + 1)) (lv' := [(1, .int (nI (c9 + 1))), (2, .int (nI k)), (0, .ref (q 1))]) hx hb d_O_liveOnes_20 hl (k := 1) rfl (nI_add c9 1) (by decide) rfl (fun ls hl => ?_)
          refine lv_iinc (v := nI (k + 1)) (lv' := [(2, .int (nI (k + 1))), (1, .int (nI (c9 + 1))), (0, .ref (q 1))]) hx hb d_O_liveOnes_23 hl (k := 1) rfl (nI_add k 1) (by decide) rfl (fun ls hl => ?_)
          refine lv_goto (tgt := 4) hx hb d_O_liveOnes_26 (by decide) ?_
          exact ih_4 (k + 1) (c9 + 1) _ (by omega) (by omega) (by first | exact (by rw [hc, f_cnt_t (by simpa using (p_live_nI (by omega) hm).mp b_14)]) | exact (by rw [hc, f_cnt_f (fun h => b_14 ((p_live_nI (by omega) hm).mpr (by simpa using h)))])) (lv_sub hl [0, 1, 2] rfl)
        · refine lv_if_eq (tgt := 23) hx hb d_O_liveOnes_17 (by decide) (fun _ => ?_) (fun c => absurd c (by decide))
          refine lv_iinc (v := nI (k + 1)) (lv' := [(2, .int (nI (k + 1))), (1, .int (nI c9)), (0, .ref (q 1))]) hx hb d_O_liveOnes_23 hl (k := 0) rfl (nI_add k 1) (by decide) rfl (fun ls hl => ?_)
          refine lv_goto (tgt := 4) hx hb d_O_liveOnes_26 (by decide) ?_
          exact ih_4 (k + 1) c9 _ (by omega) (by omega) (by first | exact (by rw [hc, f_cnt_t (by simpa using (p_live_nI (by omega) hm).mp b_14)]) | exact (by rw [hc, f_cnt_f (fun h => b_14 ((p_live_nI (by omega) hm).mpr (by simpa using h)))])) (lv_sub hl [0, 1, 2] rfl)
  exact key_4 _ 0 0 _ (Nat.lt_succ_self _) (Nat.zero_le _) rfl (lv_sub hl [0, 1, 2] rfl)
abbrev rm_O_add : Room := { frames := 1, cells := 0, slots := 0, locals := 20 }
set_option maxHeartbeats 4000000 in
set_option maxRecDepth 100000 in
theorem c_O_add (l : Launch) (dC : Nat → ClassId) (dI : Nat → Nat → Nat) (q : Nat → Nat) (cI cL : ClassId) (own : Nat → Int32) (amt : Nat → Int64) (tag : Nat → Int64) (mad : Nat → Int32) (spt : Nat → Int32) (made : Nat) (o : Int32) (a : Int64) (g : Int64) (h : Int32) (hlt : made < 2048) : Met l y_O_add w_O_add rm_O_add (va_Pc [.ref (q 1), .int o, .long a, .long g, .int h] (ob_BW (dC, dI) vwCl (wO q cI cL own amt tag mad spt made) [(cI, .int), (cL, .long)] [])) (va_Qv (fun (_ : Unit) => True) (fun _ t => va_P (dC, dI) vwCl (wO q cI cL (upd own made o) (vp_updL amt made a) (vp_updL tag made g) (upd mad made h) (upd spt made (-1 : Int32)) (made + 1)) t.heap) (ob_A (wO q cI cL own amt tag mad spt made))) 0 0 (ob_A (wO q cI cL own amt tag mad spt made)) := by
  refine ob_ofW (cc := b_O_add) (maxL := 7) (ret := none) (own := R_O) (by decide) rfl rfl (Nat.le_of_ble_eq_true rfl) ?_
  intro p e s m args below meth c Q hQ hx hb hr hml hT hown hlocks hv ls hl
  obtain ⟨⟨hP, hK, hN⟩, hD0⟩ := hv
  have hD := ob_D_self hD0
  generalize hAe : ob_A (wO q cI cL own amt tag mad spt made) = A at hQ hD
  have hS : va_S A s.heap s.heap [] := va_S.rf
  have hl : lv_has ls 7 [(0, .ref (q 1)), (1, .int o), (2, .long a), (4, .long g), (6, .int h)] := hl
  refine lv_aload_n hx hb d_O_add_0 rfl (lv_at hl 0 rfl) ?_
  refine ob_callR (W.runV (As := []) (rest := []) ⟨hx, hb, hml, hown, hT⟩ (c_O_room l dC dI q cI cL own amt tag mad spt made (by omega)) (cwV 0 hT (ob_goodV k_232 k_215 k_216 k_10 k_217) rfl rfl rfl (by decide +kernel) ⟨Nat.le_of_ble_eq_true rfl, Nat.le_of_ble_eq_true rfl⟩) (ob_preV (wc := wO q cI cL own amt tag mad spt made) (q0 := 0) rfl hK hP (fun _ h => absurd h List.not_mem_nil) rfl [0, 1, 2, 3, 4, 5] rfl rfl) rfl rfl hl.1 rfl (lv_room (Nat.le_of_ble_eq_true rfl)) d_O_add_1 ⟨Nat.zero_le _, Nat.zero_le _⟩) ?_
  refine lv_iconst (v := nI 1) hx hb d_O_add_4 (by decide) ?_
  refine lv_icmp_ge (tgt := 9) hx hb d_O_add_5 (by decide) (fun c_5 => ?_) (fun c_5 => ?_)
  · have t_5 := (cv_le (nI_toInt (by omega)) (nI_toInt (by omega))).mp c_5
    refine lv_aload_n hx hb d_O_add_9 rfl (lv_at hl 0 rfl) ?_
    refine va_get (D := (dC, dI)) (ci := 2) (v := .ref (q 2)) (C := R_O) (T := T_O) (N := 6) hx hb hT in_O hown hK hP 0 rfl rfl 0 (by decide) (hT _ k_29) (fun _ h9 => h9) rfl d_O_add_10 ?_
    refine lv_aload_n hx hb d_O_add_13 rfl (lv_at hl 0 rfl) ?_
    refine va_get (D := (dC, dI)) (ci := 2) (v := .int (nI made)) (C := R_O) (T := T_O) (N := 6) hx hb hT in_O hown hK hP 0 rfl rfl 5 (by decide) (hT _ k_38) (fun _ h9 => h9) rfl d_O_add_14 ?_
    refine lv_iload_n hx hb d_O_add_17 rfl (lv_at hl 1 rfl) ?_
    refine ob_iast hx hb hK hP hD hS 1 0 rfl rfl (j := made) (nI_clamp (by omega)) (cv_in (nI_toInt (by omega)) (by omega)) d_O_add_18 (fun H locs hP hD hS => ?_)
    have hP : va_P (dC, dI) vwCl (wO q cI cL (upd own made o) amt tag mad spt made) H := hP
    have hD : va_D A (wO q cI cL (upd own made o) amt tag mad spt made) := hD
    refine lv_aload_n hx hb d_O_add_19 rfl (lv_at hl 0 rfl) ?_
    refine va_get (D := (dC, dI)) (ci := 2) (v := .ref (q 3)) (C := R_O) (T := T_O) (N := 6) hx hb hT in_O hown hK hP 0 rfl rfl 1 (by decide) (hT _ k_31) (fun _ h9 => h9) rfl d_O_add_20 ?_
    refine lv_aload_n hx hb d_O_add_23 rfl (lv_at hl 0 rfl) ?_
    refine va_get (D := (dC, dI)) (ci := 2) (v := .int (nI made)) (C := R_O) (T := T_O) (N := 6) hx hb hT in_O hown hK hP 0 rfl rfl 5 (by decide) (hT _ k_38) (fun _ h9 => h9) rfl d_O_add_24 ?_
    refine lv_lload_n hx hb d_O_add_27 rfl (lv_at hl 2 rfl) ?_
    refine ob_last hx hb hK hP hD hS 2 1 rfl rfl (j := made) (nI_clamp (by omega)) (cv_in (nI_toInt (by omega)) (by omega)) d_O_add_28 (fun H locs hP hD hS => ?_)
    have hP : va_P (dC, dI) vwCl (wO q cI cL (upd own made o) (vp_updL amt made a) tag mad spt made) H := hP
    have hD : va_D A (wO q cI cL (upd own made o) (vp_updL amt made a) tag mad spt made) := hD
    refine lv_aload_n hx hb d_O_add_29 rfl (lv_at hl 0 rfl) ?_
    refine va_get (D := (dC, dI)) (ci := 2) (v := .ref (q 4)) (C := R_O) (T := T_O) (N := 6) hx hb hT in_O hown hK hP 0 rfl rfl 2 (by decide) (hT _ k_32) (fun _ h9 => h9) rfl d_O_add_30 ?_
    refine lv_aload_n hx hb d_O_add_33 rfl (lv_at hl 0 rfl) ?_
    refine va_get (D := (dC, dI)) (ci := 2) (v := .int (nI made)) (C := R_O) (T := T_O) (N := 6) hx hb hT in_O hown hK hP 0 rfl rfl 5 (by decide) (hT _ k_38) (fun _ h9 => h9) rfl d_O_add_34 ?_
    refine lv_lload hx hb d_O_add_37 (lv_at hl 3 rfl) ?_
    refine ob_last hx hb hK hP hD hS 3 1 rfl rfl (j := made) (nI_clamp (by omega)) (cv_in (nI_toInt (by omega)) (by omega)) d_O_add_39 (fun H locs hP hD hS => ?_)
    have hP : va_P (dC, dI) vwCl (wO q cI cL (upd own made o) (vp_updL amt made a) (vp_updL tag made g) mad spt made) H := hP
    have hD : va_D A (wO q cI cL (upd own made o) (vp_updL amt made a) (vp_updL tag made g) mad spt made) := hD
    refine lv_aload_n hx hb d_O_add_40 rfl (lv_at hl 0 rfl) ?_
    refine va_get (D := (dC, dI)) (ci := 2) (v := .ref (q 5)) (C := R_O) (T := T_O) (N := 6) hx hb hT in_O hown hK hP 0 rfl rfl 3 (by decide) (hT _ k_34) (fun _ h9 => h9) rfl d_O_add_41 ?_
    refine lv_aload_n hx hb d_O_add_44 rfl (lv_at hl 0 rfl) ?_
    refine va_get (D := (dC, dI)) (ci := 2) (v := .int (nI made)) (C := R_O) (T := T_O) (N := 6) hx hb hT in_O hown hK hP 0 rfl rfl 5 (by decide) (hT _ k_38) (fun _ h9 => h9) rfl d_O_add_45 ?_
    refine lv_iload hx hb d_O_add_48 (lv_at hl 4 rfl) ?_
    refine ob_iast hx hb hK hP hD hS 4 0 rfl rfl (j := made) (nI_clamp (by omega)) (cv_in (nI_toInt (by omega)) (by omega)) d_O_add_50 (fun H locs hP hD hS => ?_)
    have hP : va_P (dC, dI) vwCl (wO q cI cL (upd own made o) (vp_updL amt made a) (vp_updL tag made g) (upd mad made h) spt made) H := hP
    have hD : va_D A (wO q cI cL (upd own made o) (vp_updL amt made a) (vp_updL tag made g) (upd mad made h) spt made) := hD
    refine lv_aload_n hx hb d_O_add_51 rfl (lv_at hl 0 rfl) ?_
    refine va_get (D := (dC, dI)) (ci := 2) (v := .ref (q 6)) (C := R_O) (T := T_O) (N := 6) hx hb hT in_O hown hK hP 0 rfl rfl 4 (by decide) (hT _ k_36) (fun _ h9 => h9) rfl d_O_add_52 ?_
    refine lv_aload_n hx hb d_O_add_55 rfl (lv_at hl 0 rfl) ?_
    refine va_get (D := (dC, dI)) (ci := 2) (v := .int (nI made)) (C := R_O) (T := T_O) (N := 6) hx hb hT in_O hown hK hP 0 rfl rfl 5 (by decide) (hT _ k_38) (fun _ h9 => h9) rfl d_O_add_56 ?_
    refine lv_iconst (v := (-1 : Int32)) hx hb d_O_add_59 (by decide) ?_
    refine ob_iast hx hb hK hP hD hS 5 0 rfl rfl (j := made) (nI_clamp (by omega)) (cv_in (nI_toInt (by omega)) (by omega)) d_O_add_60 (fun H locs hP hD hS => ?_)
    have hP : va_P (dC, dI) vwCl (wO q cI cL (upd own made o) (vp_updL amt made a) (vp_updL tag made g) (upd mad made h) (upd spt made (-1 : Int32)) made) H := hP
    have hD : va_D A (wO q cI cL (upd own made o) (vp_updL amt made a) (vp_updL tag made g) (upd mad made h) (upd spt made (-1 : Int32)) made) := hD
    refine lv_aload_n hx hb d_O_add_61 rfl (lv_at hl 0 rfl) ?_
    refine lv_dup hx hb d_O_add_62 rfl ?_
    refine va_get (D := (dC, dI)) (ci := 2) (v := .int (nI made)) (C := R_O) (T := T_O) (N := 6) hx hb hT in_O hown hK hP 0 rfl rfl 5 (by decide) (hT _ k_38) (fun _ h9 => h9) rfl d_O_add_63 ?_
    refine lv_iconst (v := nI 1) hx hb d_O_add_66 (by decide) ?_
    refine lv_iadd hx hb d_O_add_67 ?_
    refine ob_eqi (nI_add made 1) ?_
    refine va_put (D := (dC, dI)) (ci := 2) (v := .int (nI (made + 1))) (ty := .int) (C := R_O) (T := T_O) (N := 6) hx hb hT in_O t_O t_O_ok n_O hown hK hP hD hS 0 rfl rfl 5 (by decide) (hT _ k_38) (fun _ h9 => h9) rfl (by decide +kernel) rfl rfl (Nat.le_of_ble_eq_true rfl) d_O_add_68 (fun H locs hP hD hS => ?_)
    have hP : va_P (dC, dI) vwCl (wO q cI cL (upd own made o) (vp_updL amt made a) (vp_updL tag made g) (upd mad made h) (upd spt made (-1 : Int32)) (made + 1)) H := hP
    have hD : va_D A (wO q cI cL (upd own made o) (vp_updL amt made a) (vp_updL tag made g) (upd mad made h) (upd spt made (-1 : Int32)) (made + 1)) := hD
    exact ob_vretW hx hb hr hlocks hQ hS hP rfl d_O_add_71
  · have t_5 := mt (cv_le (nI_toInt (by omega)) (nI_toInt (by omega))).mpr c_5
    exact absurd t_5 (by omega)
abbrev rm_O_takeOff : Room := { frames := 2, cells := 0, slots := 0, locals := 42 }
set_option maxHeartbeats 4000000 in
set_option maxRecDepth 100000 in
theorem c_O_takeOff (l : Launch) (dC : Nat → ClassId) (dI : Nat → Nat → Nat) (q : Nat → Nat) (cI cL : ClassId) (own : Nat → Int32) (amt : Nat → Int64) (tag : Nat → Int64) (mad : Nat → Int32) (spt : Nat → Int32) (made : Nat) (x : Int32) (h : Int32) (hm : made ≤ 2048) : Met l y_O_takeOff w_O_takeOff rm_O_takeOff (va_Pc [.ref (q 1), .int x, .int h] (ob_BW (dC, dI) vwCl (wO q cI cL own amt tag mad spt made) [(cI, .int), (cL, .long)] [])) (va_Qv (fun (_ : Unit) => True) (fun _ t => va_P (dC, dI) vwCl (wO q cI cL own amt tag mad (f_off spt made x h) made) t.heap) (ob_A (wO q cI cL own amt tag mad spt made))) 0 0 (ob_A (wO q cI cL own amt tag mad spt made)) := by
  refine ob_ofW (cc := b_O_takeOff) (maxL := 3) (ret := none) (own := R_O) (by decide) rfl rfl (Nat.le_of_ble_eq_true rfl) ?_
  intro p e s m args below meth c Q hQ hx hb hr hml hT hown hlocks hv ls hl
  obtain ⟨⟨hP, hK, hN⟩, hD0⟩ := hv
  have hD := ob_D_self hD0
  generalize hAe : ob_A (wO q cI cL own amt tag mad spt made) = A at hQ hD
  have hS : va_S A s.heap s.heap [] := va_S.rf
  have hl : lv_has ls 3 [(0, .ref (q 1)), (1, .int x), (2, .int h)] := hl
  refine lv_aload_n hx hb d_O_takeOff_0 rfl (lv_at hl 0 rfl) ?_
  refine lv_iload_n hx hb d_O_takeOff_1 rfl (lv_at hl 1 rfl) ?_
  refine ob_callR (W.runV (As := [.int x]) (rest := []) ⟨hx, hb, hml, hown, hT⟩ (c_O_isLive l dC dI q cI cL own amt tag mad spt made x hm) (cwV 1 hT (ob_goodV k_227 k_150 k_151 k_10 k_152) rfl rfl rfl (by decide +kernel) ⟨Nat.le_of_ble_eq_true rfl, Nat.le_of_ble_eq_true rfl⟩) (ob_preV (wc := wO q cI cL own amt tag mad spt made) (q0 := 0) rfl hK hP (fun _ h => absurd h List.not_mem_nil) rfl [0, 1, 2, 3, 4, 5] rfl rfl) rfl rfl hl.1 rfl (lv_room (Nat.le_of_ble_eq_true rfl)) d_O_takeOff_2 ⟨Nat.zero_le _, Nat.zero_le _⟩) ?_
  refine ob_split (P := p_live spt made x) (fun b_2 => ?_) (fun b_2 => ?_)
  · refine lv_if_eq (tgt := 15) hx hb d_O_takeOff_5 (by decide) (fun c => absurd c (by decide)) (fun _ => ?_)
    refine lv_aload_n hx hb d_O_takeOff_8 rfl (lv_at hl 0 rfl) ?_
    refine va_get (D := (dC, dI)) (ci := 2) (v := .ref (q 6)) (C := R_O) (T := T_O) (N := 6) hx hb hT in_O hown hK hP 0 rfl rfl 4 (by decide) (hT _ k_36) (fun _ h9 => h9) rfl d_O_takeOff_9 ?_
    refine lv_iload_n hx hb d_O_takeOff_12 rfl (lv_at hl 1 rfl) ?_
    refine lv_iload_n hx hb d_O_takeOff_13 rfl (lv_at hl 2 rfl) ?_
    refine ob_iast hx hb hK hP hD hS 5 0 rfl rfl (j := x.toNatClampNeg) rfl (cv_in rfl (by omega)) d_O_takeOff_14 (fun H locs hP hD hS => ?_)
    have hP : va_P (dC, dI) vwCl (wO q cI cL own amt tag mad (upd spt x.toNatClampNeg h) made) H := hP
    have hD : va_D A (wO q cI cL own amt tag mad (upd spt x.toNatClampNeg h) made) := hD
    exact ob_vretW hx hb hr hlocks hQ hS hP (by first | rw [f_off_t b_2] | rw [f_off_f b_2]) d_O_takeOff_15
  · refine lv_if_eq (tgt := 15) hx hb d_O_takeOff_5 (by decide) (fun _ => ?_) (fun c => absurd c (by decide))
    exact ob_vretW hx hb hr hlocks hQ hS hP (by first | rw [f_off_t b_2] | rw [f_off_f b_2]) d_O_takeOff_15
abbrev rm_O_takeBackFrom : Room := { frames := 0, cells := 0, slots := 0, locals := 0 }
set_option maxHeartbeats 4000000 in
set_option maxRecDepth 100000 in
theorem c_O_takeBackFrom (l : Launch) (dC : Nat → ClassId) (dI : Nat → Nat → Nat) (q : Nat → Nat) (cI cL : ClassId) (own : Nat → Int32) (amt : Nat → Int64) (tag : Nat → Int64) (mad : Nat → Int32) (spt : Nat → Int32) (made : Nat) (h : Int32) (hm : made ≤ 2048) : Met l y_O_takeBackFrom w_O_takeBackFrom rm_O_takeBackFrom (va_Pc [.ref (q 1), .int h] (ob_BW (dC, dI) vwCl (wO q cI cL own amt tag mad spt made) [(cI, .int), (cL, .long)] [])) (va_Qv (fun (_ : Unit) => True) (fun _ t => va_P (dC, dI) vwCl (wO q cI cL own amt tag mad (f_unsp spt h (f_back mad h made)) (f_back mad h made)) t.heap) (ob_A (wO q cI cL own amt tag mad spt made))) 0 0 (ob_A (wO q cI cL own amt tag mad spt made)) := by
  refine ob_ofW (cc := b_O_takeBackFrom) (maxL := 3) (ret := none) (own := R_O) (by decide) rfl rfl (Nat.le_of_ble_eq_true rfl) ?_
  intro p e s m args below meth c Q hQ hx hb hr hml hT hown hlocks hv ls hl
  obtain ⟨⟨hP, hK, hN⟩, hD0⟩ := hv
  have hD := ob_D_self hD0
  generalize hAe : ob_A (wO q cI cL own amt tag mad spt made) = A at hQ hD
  have hS : va_S A s.heap s.heap [] := va_S.rf
  have hl : lv_has ls 3 [(0, .ref (q 1)), (1, .int h)] := hl
  have key_0 : ∀ (n : Nat) (mm : Nat) (H : Heap) (locs : List Loc) (ls : Array Slot), mm < n → (mm ≤ made) → (f_back mad h mm = f_back mad h made) → va_P (dC, dI) vwCl (wO q cI cL own amt tag mad spt mm) H → va_D A (wO q cI cL own amt tag mad spt mm) → va_S A s.heap H locs → lv_has ls 3 [(0, .ref (q 1)), (1, .int h)] → W p l e rm_O_takeBackFrom s m args below meth c H locs 0 0 Q (F0 m 0 ls []) := by
    intro n_0
    induction n_0 with
    | zero => intro mm H locs ls h; exact absurd h (Nat.not_lt_zero _)
    | succ n_0 ih_0 =>
      intro mm H locs ls hn_0 hmm hb2 hP hD hS hl
      refine lv_aload_n hx hb d_O_takeBackFrom_0 rfl (lv_at hl 0 rfl) ?_
      refine va_get (D := (dC, dI)) (ci := 2) (v := .int (nI mm)) (C := R_O) (T := T_O) (N := 6) hx hb hT in_O hown hK hP 0 rfl rfl 5 (by decide) (hT _ k_38) (fun _ h9 => h9) rfl d_O_takeBackFrom_1 ?_
      refine lv_if_le (tgt := 35) hx hb d_O_takeBackFrom_4 (by decide) (fun c_4 => ?_) (fun c_4 => ?_)
      · have t_4 := (cv_le (nI_toInt (by omega)) (by decide : (0 : Int32).toInt = 0)).mp c_4
        have hfin : mm = f_back mad h made := by rw [← hb2, f_back_end (by first | exact Or.inl (by omega) | exact Or.inr c_19)]
        refine lv_iconst (v := nI 0) hx hb d_O_takeBackFrom_35 (by decide) ?_
        refine lv_istore_n (lv' := [(2, .int (nI 0)), (0, .ref (q 1)), (1, .int h)]) hx hb d_O_takeBackFrom_36 rfl hl (by decide) rfl (fun ls hl => ?_)
        have key_37 : ∀ (n : Nat) (k : Nat) (g : Nat → Int32) (H : Heap) (locs : List Loc) (ls : Array Slot), mm - k < n → (k ≤ mm) → (g = f_unsp spt h k) → va_P (dC, dI) vwCl (wO q cI cL own amt tag mad g mm) H → va_D A (wO q cI cL own amt tag mad g mm) → va_S A s.heap H locs → lv_has ls 3 [(2, .int (nI k)), (0, .ref (q 1)), (1, .int h)] → W p l e rm_O_takeBackFrom s m args below meth c H locs 0 0 Q (F0 m 37 ls []) := by
          intro n_37
          induction n_37 with
          | zero => intro k g H locs ls h; exact absurd h (Nat.not_lt_zero _)
          | succ n_37 ih_37 =>
            intro k g H locs ls hn_37 hk hg hP hD hS hl
            refine lv_iload_n hx hb d_O_takeBackFrom_37 rfl (lv_at hl 0 rfl) ?_
            refine lv_aload_n hx hb d_O_takeBackFrom_38 rfl (lv_at hl 1 rfl) ?_
            refine va_get (D := (dC, dI)) (ci := 2) (v := .int (nI mm)) (C := R_O) (T := T_O) (N := 6) hx hb hT in_O hown hK hP 0 rfl rfl 5 (by decide) (hT _ k_38) (fun _ h9 => h9) rfl d_O_takeBackFrom_39 ?_
            refine lv_icmp_ge (tgt := 68) hx hb d_O_takeBackFrom_42 (by decide) (fun c_42 => ?_) (fun c_42 => ?_)
            · have t_42 := (cv_le (nI_toInt (by omega)) (nI_toInt (by omega))).mp c_42
              exact ob_vretW hx hb hr hlocks hQ hS hP (by rw [hg, show k = mm by omega, hfin]) d_O_takeBackFrom_68
            · have t_42 := mt (cv_le (nI_toInt (by omega)) (nI_toInt (by omega))).mpr c_42
              refine lv_aload_n hx hb d_O_takeBackFrom_45 rfl (lv_at hl 1 rfl) ?_
              refine va_get (D := (dC, dI)) (ci := 2) (v := .ref (q 6)) (C := R_O) (T := T_O) (N := 6) hx hb hT in_O hown hK hP 0 rfl rfl 4 (by decide) (hT _ k_36) (fun _ h9 => h9) rfl d_O_takeBackFrom_46 ?_
              refine lv_iload_n hx hb d_O_takeBackFrom_49 rfl (lv_at hl 0 rfl) ?_
              refine ob_iald hx hb hK hP 5 0 rfl rfl (j := k) (nI_clamp (by omega)) (cv_in (nI_toInt (by omega)) (by omega)) d_O_takeBackFrom_50 ?_
              refine lv_iload_n hx hb d_O_takeBackFrom_51 rfl (lv_at hl 2 rfl) ?_
              refine lv_icmp_lt (tgt := 62) hx hb d_O_takeBackFrom_52 (by decide) (fun c_52 => ?_) (fun c_52 => ?_)
              · have t_52 := (cv_lt rfl rfl).mp c_52
                refine lv_iinc (v := nI (k + 1)) (lv' := [(2, .int (nI (k + 1))), (0, .ref (q 1)), (1, .int h)]) hx hb d_O_takeBackFrom_62 hl (k := 0) rfl (nI_add k 1) (by decide) rfl (fun ls hl => ?_)
                refine lv_goto (tgt := 37) hx hb d_O_takeBackFrom_65 (by decide) ?_
                exact ih_37 (k + 1) g _ _ _ (by omega) (by omega) (by first | exact f_unsp_lt hg c_52 | exact f_unsp_ge hg c_52) hP hD hS (lv_sub hl [0, 1, 2] rfl)
              · have t_52 := mt (cv_lt rfl rfl).mpr c_52
                refine lv_aload_n hx hb d_O_takeBackFrom_55 rfl (lv_at hl 1 rfl) ?_
                refine va_get (D := (dC, dI)) (ci := 2) (v := .ref (q 6)) (C := R_O) (T := T_O) (N := 6) hx hb hT in_O hown hK hP 0 rfl rfl 4 (by decide) (hT _ k_36) (fun _ h9 => h9) rfl d_O_takeBackFrom_56 ?_
                refine lv_iload_n hx hb d_O_takeBackFrom_59 rfl (lv_at hl 0 rfl) ?_
                refine lv_iconst (v := (-1 : Int32)) hx hb d_O_takeBackFrom_60 (by decide) ?_
                refine ob_iast hx hb hK hP hD hS 5 0 rfl rfl (j := k) (nI_clamp (by omega)) (cv_in (nI_toInt (by omega)) (by omega)) d_O_takeBackFrom_61 (fun H locs hP hD hS => ?_)
                have hP : va_P (dC, dI) vwCl (wO q cI cL own amt tag mad (upd g k (-1 : Int32)) mm) H := hP
                have hD : va_D A (wO q cI cL own amt tag mad (upd g k (-1 : Int32)) mm) := hD
                refine lv_iinc (v := nI (k + 1)) (lv' := [(2, .int (nI (k + 1))), (0, .ref (q 1)), (1, .int h)]) hx hb d_O_takeBackFrom_62 hl (k := 0) rfl (nI_add k 1) (by decide) rfl (fun ls hl => ?_)
                refine lv_goto (tgt := 37) hx hb d_O_takeBackFrom_65 (by decide) ?_
                exact ih_37 (k + 1) (upd g k (-1 : Int32)) _ _ _ (by omega) (by omega) (by first | exact f_unsp_lt hg c_52 | exact f_unsp_ge hg c_52) hP hD hS (lv_sub hl [0, 1, 2] rfl)
        exact key_37 _ 0 spt _ _ _ (Nat.lt_succ_self _) (Nat.zero_le _) f_unsp_0 hP hD hS (lv_sub hl [0, 1, 2] rfl)
      · have t_4 := mt (cv_le (nI_toInt (by omega)) (by decide : (0 : Int32).toInt = 0)).mpr c_4
        refine lv_aload_n hx hb d_O_takeBackFrom_7 rfl (lv_at hl 0 rfl) ?_
        refine va_get (D := (dC, dI)) (ci := 2) (v := .ref (q 5)) (C := R_O) (T := T_O) (N := 6) hx hb hT in_O hown hK hP 0 rfl rfl 3 (by decide) (hT _ k_34) (fun _ h9 => h9) rfl d_O_takeBackFrom_8 ?_
        refine lv_aload_n hx hb d_O_takeBackFrom_11 rfl (lv_at hl 0 rfl) ?_
        refine va_get (D := (dC, dI)) (ci := 2) (v := .int (nI mm)) (C := R_O) (T := T_O) (N := 6) hx hb hT in_O hown hK hP 0 rfl rfl 5 (by decide) (hT _ k_38) (fun _ h9 => h9) rfl d_O_takeBackFrom_12 ?_
        refine lv_iconst (v := nI 1) hx hb d_O_takeBackFrom_15 (by decide) ?_
        refine lv_isub hx hb d_O_takeBackFrom_16 ?_
        refine ob_eqi (pk_sub (a := mm) (b := 1) (by omega)) ?_
        refine ob_iald hx hb hK hP 4 0 rfl rfl (j := mm - 1) (nI_clamp (by omega)) (cv_in (nI_toInt (by omega)) (by omega)) d_O_takeBackFrom_17 ?_
        refine lv_iload_n hx hb d_O_takeBackFrom_18 rfl (lv_at hl 1 rfl) ?_
        refine lv_icmp_lt (tgt := 35) hx hb d_O_takeBackFrom_19 (by decide) (fun c_19 => ?_) (fun c_19 => ?_)
        · have t_19 := (cv_lt rfl rfl).mp c_19
          have hfin : mm = f_back mad h made := by rw [← hb2, f_back_end (by first | exact Or.inl (by omega) | exact Or.inr c_19)]
          refine lv_iconst (v := nI 0) hx hb d_O_takeBackFrom_35 (by decide) ?_
          refine lv_istore_n (lv' := [(2, .int (nI 0)), (0, .ref (q 1)), (1, .int h)]) hx hb d_O_takeBackFrom_36 rfl hl (by decide) rfl (fun ls hl => ?_)
          have key_37 : ∀ (n : Nat) (k : Nat) (g : Nat → Int32) (H : Heap) (locs : List Loc) (ls : Array Slot), mm - k < n → (k ≤ mm) → (g = f_unsp spt h k) → va_P (dC, dI) vwCl (wO q cI cL own amt tag mad g mm) H → va_D A (wO q cI cL own amt tag mad g mm) → va_S A s.heap H locs → lv_has ls 3 [(2, .int (nI k)), (0, .ref (q 1)), (1, .int h)] → W p l e rm_O_takeBackFrom s m args below meth c H locs 0 0 Q (F0 m 37 ls []) := by
            intro n_37
            induction n_37 with
            | zero => intro k g H locs ls h; exact absurd h (Nat.not_lt_zero _)
            | succ n_37 ih_37 =>
              intro k g H locs ls hn_37 hk hg hP hD hS hl
              refine lv_iload_n hx hb d_O_takeBackFrom_37 rfl (lv_at hl 0 rfl) ?_
              refine lv_aload_n hx hb d_O_takeBackFrom_38 rfl (lv_at hl 1 rfl) ?_
              refine va_get (D := (dC, dI)) (ci := 2) (v := .int (nI mm)) (C := R_O) (T := T_O) (N := 6) hx hb hT in_O hown hK hP 0 rfl rfl 5 (by decide) (hT _ k_38) (fun _ h9 => h9) rfl d_O_takeBackFrom_39 ?_
              refine lv_icmp_ge (tgt := 68) hx hb d_O_takeBackFrom_42 (by decide) (fun c_42 => ?_) (fun c_42 => ?_)
              · have t_42 := (cv_le (nI_toInt (by omega)) (nI_toInt (by omega))).mp c_42
                exact ob_vretW hx hb hr hlocks hQ hS hP (by rw [hg, show k = mm by omega, hfin]) d_O_takeBackFrom_68
              · have t_42 := mt (cv_le (nI_toInt (by omega)) (nI_toInt (by omega))).mpr c_42
                refine lv_aload_n hx hb d_O_takeBackFrom_45 rfl (lv_at hl 1 rfl) ?_
                refine va_get (D := (dC, dI)) (ci := 2) (v := .ref (q 6)) (C := R_O) (T := T_O) (N := 6) hx hb hT in_O hown hK hP 0 rfl rfl 4 (by decide) (hT _ k_36) (fun _ h9 => h9) rfl d_O_takeBackFrom_46 ?_
                refine lv_iload_n hx hb d_O_takeBackFrom_49 rfl (lv_at hl 0 rfl) ?_
                refine ob_iald hx hb hK hP 5 0 rfl rfl (j := k) (nI_clamp (by omega)) (cv_in (nI_toInt (by omega)) (by omega)) d_O_takeBackFrom_50 ?_
                refine lv_iload_n hx hb d_O_takeBackFrom_51 rfl (lv_at hl 2 rfl) ?_
                refine lv_icmp_lt (tgt := 62) hx hb d_O_takeBackFrom_52 (by decide) (fun c_52 => ?_) (fun c_52 => ?_)
                · have t_52 := (cv_lt rfl rfl).mp c_52
                  refine lv_iinc (v := nI (k + 1)) (lv' := [(2, .int (nI (k + 1))), (0, .ref (q 1)), (1, .int h)]) hx hb d_O_takeBackFrom_62 hl (k := 0) rfl (nI_add k 1) (by decide) rfl (fun ls hl => ?_)
                  refine lv_goto (tgt := 37) hx hb d_O_takeBackFrom_65 (by decide) ?_
                  exact ih_37 (k + 1) g _ _ _ (by omega) (by omega) (by first | exact f_unsp_lt hg c_52 | exact f_unsp_ge hg c_52) hP hD hS (lv_sub hl [0, 1, 2] rfl)
                · have t_52 := mt (cv_lt rfl rfl).mpr c_52
                  refine lv_aload_n hx hb d_O_takeBackFrom_55 rfl (lv_at hl 1 rfl) ?_
                  refine va_get (D := (dC, dI)) (ci := 2) (v := .ref (q 6)) (C := R_O) (T := T_O) (N := 6) hx hb hT in_O hown hK hP 0 rfl rfl 4 (by decide) (hT _ k_36) (fun _ h9 => h9) rfl d_O_takeBackFrom_56 ?_
                  refine lv_iload_n hx hb d_O_takeBackFrom_59 rfl (lv_at hl 0 rfl) ?_
                  refine lv_iconst (v := (-1 : Int32)) hx hb d_O_takeBackFrom_60 (by decide) ?_
                  refine ob_iast hx hb hK hP hD hS 5 0 rfl rfl (j := k) (nI_clamp (by omega)) (cv_in (nI_toInt (by omega)) (by omega)) d_O_takeBackFrom_61 (fun H locs hP hD hS => ?_)
                  have hP : va_P (dC, dI) vwCl (wO q cI cL own amt tag mad (upd g k (-1 : Int32)) mm) H := hP
                  have hD : va_D A (wO q cI cL own amt tag mad (upd g k (-1 : Int32)) mm) := hD
                  refine lv_iinc (v := nI (k + 1)) (lv' := [(2, .int (nI (k + 1))), (0, .ref (q 1)), (1, .int h)]) hx hb d_O_takeBackFrom_62 hl (k := 0) rfl (nI_add k 1) (by decide) rfl (fun ls hl => ?_)
                  refine lv_goto (tgt := 37) hx hb d_O_takeBackFrom_65 (by decide) ?_
                  exact ih_37 (k + 1) (upd g k (-1 : Int32)) _ _ _ (by omega) (by omega) (by first | exact f_unsp_lt hg c_52 | exact f_unsp_ge hg c_52) hP hD hS (lv_sub hl [0, 1, 2] rfl)
          exact key_37 _ 0 spt _ _ _ (Nat.lt_succ_self _) (Nat.zero_le _) f_unsp_0 hP hD hS (lv_sub hl [0, 1, 2] rfl)
        · have t_19 := mt (cv_lt rfl rfl).mpr c_19
          refine lv_aload_n hx hb d_O_takeBackFrom_22 rfl (lv_at hl 0 rfl) ?_
          refine lv_dup hx hb d_O_takeBackFrom_23 rfl ?_
          refine va_get (D := (dC, dI)) (ci := 2) (v := .int (nI mm)) (C := R_O) (T := T_O) (N := 6) hx hb hT in_O hown hK hP 0 rfl rfl 5 (by decide) (hT _ k_38) (fun _ h9 => h9) rfl d_O_takeBackFrom_24 ?_
          refine lv_iconst (v := nI 1) hx hb d_O_takeBackFrom_27 (by decide) ?_
          refine lv_isub hx hb d_O_takeBackFrom_28 ?_
          refine ob_eqi (pk_sub (a := mm) (b := 1) (by omega)) ?_
          refine va_put (D := (dC, dI)) (ci := 2) (v := .int (nI (mm - 1))) (ty := .int) (C := R_O) (T := T_O) (N := 6) hx hb hT in_O t_O t_O_ok n_O hown hK hP hD hS 0 rfl rfl 5 (by decide) (hT _ k_38) (fun _ h9 => h9) rfl (by decide +kernel) rfl rfl (Nat.le_of_ble_eq_true rfl) d_O_takeBackFrom_29 (fun H locs hP hD hS => ?_)
          have hP : va_P (dC, dI) vwCl (wO q cI cL own amt tag mad spt (mm - 1)) H := hP
          have hD : va_D A (wO q cI cL own amt tag mad spt (mm - 1)) := hD
          refine lv_goto (tgt := 0) hx hb d_O_takeBackFrom_32 (by decide) ?_
          exact ih_0 (mm - 1) _ _ _ (by omega) (by omega) (by rw [← hb2, f_back_go (by omega) c_19]) hP hD hS (lv_sub hl [0, 1] rfl)
  exact key_0 _ made _ _ _ (Nat.lt_succ_self _) (Nat.le_refl _) rfl hP hD hS (lv_sub hl [0, 1] rfl)
abbrev rm_O_standsAhead : Room := { frames := 0, cells := 0, slots := 0, locals := 0 }
set_option maxHeartbeats 4000000 in
set_option maxRecDepth 100000 in
theorem c_O_standsAhead (l : Launch) (dC : Nat → ClassId) (dI : Nat → Nat → Nat) (q : Nat → Nat) (cI cL : ClassId) (own : Nat → Int32) (amt : Nat → Int64) (tag : Nat → Int64) (mad : Nat → Int32) (spt : Nat → Int32) (made : Nat) (x : Int32) (y : Int32) (h1 : p_has 2048 x) (h2 : p_has 2048 y) : Met l y_O_standsAhead w_O_standsAhead rm_O_standsAhead (va_Pc [.ref (q 1), .int x, .int y] (ob_B (dC, dI) vwCl (wO q cI cL own amt tag mad spt made) [(cI, .int), (cL, .long)] [])) (QcRead (if p_ahead amt x y then nI 1 else nI 0)) 0 0 (fun _ => False) := by
  refine ob_ofW (cc := b_O_standsAhead) (maxL := 3) (ret := (some .boolean)) (own := R_O) (by decide) rfl rfl (Nat.le_of_ble_eq_true rfl) ?_
  intro p e s m args below meth c Q hQ hx hb hr hml hT hown hlocks hv ls hl
  obtain ⟨hP, hK, hN⟩ := hv
  have hl : lv_has ls 3 [(0, .ref (q 1)), (1, .int x), (2, .int y)] := hl
  refine lv_aload_n hx hb d_O_standsAhead_0 rfl (lv_at hl 0 rfl) ?_
  refine va_get (D := (dC, dI)) (ci := 2) (v := .ref (q 3)) (C := R_O) (T := T_O) (N := 6) hx hb hT in_O hown hK hP 0 rfl rfl 1 (by decide) (hT _ k_31) (fun _ h9 => h9) rfl d_O_standsAhead_1 ?_
  refine lv_iload_n hx hb d_O_standsAhead_4 rfl (lv_at hl 1 rfl) ?_
  refine ob_lald hx hb hK hP 2 1 rfl rfl (j := x.toNatClampNeg) rfl (cv_in rfl (by omega)) d_O_standsAhead_5 ?_
  refine lv_aload_n hx hb d_O_standsAhead_6 rfl (lv_at hl 0 rfl) ?_
  refine va_get (D := (dC, dI)) (ci := 2) (v := .ref (q 3)) (C := R_O) (T := T_O) (N := 6) hx hb hT in_O hown hK hP 0 rfl rfl 1 (by decide) (hT _ k_31) (fun _ h9 => h9) rfl d_O_standsAhead_7 ?_
  refine lv_iload_n hx hb d_O_standsAhead_10 rfl (lv_at hl 2 rfl) ?_
  refine ob_lald hx hb hK hP 2 1 rfl rfl (j := y.toNatClampNeg) rfl (cv_in rfl (by omega)) d_O_standsAhead_11 ?_
  refine W.lcmp hx hb d_O_standsAhead_12 ?_
  refine lv_if_gt (tgt := 37) hx hb d_O_standsAhead_13 (by decide) (fun c_13 => ?_) (fun c_13 => ?_)
  · have c_13 := (lg_cmp_gt _ _).mp c_13
    refine lv_iconst (v := nI 1) hx hb d_O_standsAhead_37 (by decide) ?_
    refine lv_goto (tgt := 42) hx hb d_O_standsAhead_38 (by decide) ?_
    exact ob_zret (v := nI 1) hx hb hr hlocks hQ (by decide) (by first | exact (if_pos (Or.inl c_13)).symm | exact (if_pos (Or.inr ⟨c_29, by omega⟩)).symm | exact (if_neg (fun h => h.elim c_13 (fun z => absurd z.2 (by omega)))).symm | exact (if_neg (fun h => h.elim c_13 (fun z => absurd z.1 c_29))).symm) d_O_standsAhead_42
  · have c_13 := mt (lg_cmp_gt _ _).mpr c_13
    refine lv_aload_n hx hb d_O_standsAhead_16 rfl (lv_at hl 0 rfl) ?_
    refine va_get (D := (dC, dI)) (ci := 2) (v := .ref (q 3)) (C := R_O) (T := T_O) (N := 6) hx hb hT in_O hown hK hP 0 rfl rfl 1 (by decide) (hT _ k_31) (fun _ h9 => h9) rfl d_O_standsAhead_17 ?_
    refine lv_iload_n hx hb d_O_standsAhead_20 rfl (lv_at hl 1 rfl) ?_
    refine ob_lald hx hb hK hP 2 1 rfl rfl (j := x.toNatClampNeg) rfl (cv_in rfl (by omega)) d_O_standsAhead_21 ?_
    refine lv_aload_n hx hb d_O_standsAhead_22 rfl (lv_at hl 0 rfl) ?_
    refine va_get (D := (dC, dI)) (ci := 2) (v := .ref (q 3)) (C := R_O) (T := T_O) (N := 6) hx hb hT in_O hown hK hP 0 rfl rfl 1 (by decide) (hT _ k_31) (fun _ h9 => h9) rfl d_O_standsAhead_23 ?_
    refine lv_iload_n hx hb d_O_standsAhead_26 rfl (lv_at hl 2 rfl) ?_
    refine ob_lald hx hb hK hP 2 1 rfl rfl (j := y.toNatClampNeg) rfl (cv_in rfl (by omega)) d_O_standsAhead_27 ?_
    refine W.lcmp hx hb d_O_standsAhead_28 ?_
    refine lv_if_ne (tgt := 41) hx hb d_O_standsAhead_29 (by decide) (fun c_29 => ?_) (fun c_29 => ?_)
    · have c_29 := mt (lg_cmp_eq _ _).mpr c_29
      refine lv_iconst (v := nI 0) hx hb d_O_standsAhead_41 (by decide) ?_
      exact ob_zret (v := nI 0) hx hb hr hlocks hQ (by decide) (by first | exact (if_pos (Or.inl c_13)).symm | exact (if_pos (Or.inr ⟨c_29, by omega⟩)).symm | exact (if_neg (fun h => h.elim c_13 (fun z => absurd z.2 (by omega)))).symm | exact (if_neg (fun h => h.elim c_13 (fun z => absurd z.1 c_29))).symm) d_O_standsAhead_42
    · have c_29 := (lg_cmp_eq _ _).mp c_29
      refine lv_iload_n hx hb d_O_standsAhead_32 rfl (lv_at hl 1 rfl) ?_
      refine lv_iload_n hx hb d_O_standsAhead_33 rfl (lv_at hl 2 rfl) ?_
      refine lv_icmp_ge (tgt := 41) hx hb d_O_standsAhead_34 (by decide) (fun c_34 => ?_) (fun c_34 => ?_)
      · have t_34 := (cv_le rfl rfl).mp c_34
        refine lv_iconst (v := nI 0) hx hb d_O_standsAhead_41 (by decide) ?_
        exact ob_zret (v := nI 0) hx hb hr hlocks hQ (by decide) (by first | exact (if_pos (Or.inl c_13)).symm | exact (if_pos (Or.inr ⟨c_29, by omega⟩)).symm | exact (if_neg (fun h => h.elim c_13 (fun z => absurd z.2 (by omega)))).symm | exact (if_neg (fun h => h.elim c_13 (fun z => absurd z.1 c_29))).symm) d_O_standsAhead_42
      · have t_34 := mt (cv_le rfl rfl).mpr c_34
        refine lv_iconst (v := nI 1) hx hb d_O_standsAhead_37 (by decide) ?_
        refine lv_goto (tgt := 42) hx hb d_O_standsAhead_38 (by decide) ?_
        exact ob_zret (v := nI 1) hx hb hr hlocks hQ (by decide) (by first | exact (if_pos (Or.inl c_13)).symm | exact (if_pos (Or.inr ⟨c_29, by omega⟩)).symm | exact (if_neg (fun h => h.elim c_13 (fun z => absurd z.2 (by omega)))).symm | exact (if_neg (fun h => h.elim c_13 (fun z => absurd z.1 c_29))).symm) d_O_standsAhead_42
abbrev rm_O_nextByAmount : Room := { frames := 3, cells := 0, slots := 0, locals := 64 }
set_option maxHeartbeats 4000000 in
set_option maxRecDepth 100000 in
theorem c_O_nextByAmount (l : Launch) (dC : Nat → ClassId) (dI : Nat → Nat → Nat) (q : Nat → Nat) (cI cL : ClassId) (own : Nat → Int32) (amt : Nat → Int64) (tag : Nat → Int64) (mad : Nat → Int32) (spt : Nat → Int32) (made : Nat) (o : Int32) (bh : Int32) (hm : made ≤ 2048) : Met l y_O_nextByAmount w_O_nextByAmount rm_O_nextByAmount (va_Pc [.ref (q 1), .int o, .int bh] (ob_B (dC, dI) vwCl (wO q cI cL own amt tag mad spt made) [(cI, .int), (cL, .long)] [])) (QcRead (f_next own amt spt made o bh made)) 0 0 (fun _ => False) := by
  refine ob_ofW (cc := b_O_nextByAmount) (maxL := 5) (ret := (some .int)) (own := R_O) (by decide) rfl rfl (Nat.le_of_ble_eq_true rfl) ?_
  intro p e s m args below meth c Q hQ hx hb hr hml hT hown hlocks hv ls hl
  obtain ⟨hP, hK, hN⟩ := hv
  have hl : lv_has ls 5 [(0, .ref (q 1)), (1, .int o), (2, .int bh)] := hl
  refine lv_iconst (v := (-1 : Int32)) hx hb d_O_nextByAmount_0 (by decide) ?_
  refine lv_istore_n (lv' := [(3, .int (-1 : Int32)), (0, .ref (q 1)), (1, .int o), (2, .int bh)]) hx hb d_O_nextByAmount_1 rfl hl (by decide) rfl (fun ls hl => ?_)
  refine lv_iconst (v := nI 0) hx hb d_O_nextByAmount_2 (by decide) ?_
  refine lv_istore (lv' := [(4, .int (nI 0)), (3, .int (-1 : Int32)), (0, .ref (q 1)), (1, .int o), (2, .int bh)]) hx hb d_O_nextByAmount_3 hl (by decide) rfl (fun ls hl => ?_)
  have key_5 : ∀ (n : Nat) (k : Nat) (best : Int32) (ls : Array Slot), made - k < n → (k ≤ made) → (best = f_next own amt spt made o bh k) → lv_has ls 5 [(4, .int (nI k)), (3, .int best), (0, .ref (q 1)), (1, .int o), (2, .int bh)] → W p l e rm_O_nextByAmount s m args below meth c s.heap [] 0 0 Q (F0 m 5 ls []) := by
    intro n_5
    induction n_5 with
    | zero => intro k best ls h; exact absurd h (Nat.not_lt_zero _)
    | succ n_5 ih_5 =>
      intro k best ls hn_5 hk hbest hl
      refine lv_iload hx hb d_O_nextByAmount_5 (lv_at hl 0 rfl) ?_
      refine lv_aload_n hx hb d_O_nextByAmount_7 rfl (lv_at hl 2 rfl) ?_
      refine va_get (D := (dC, dI)) (ci := 2) (v := .int (nI made)) (C := R_O) (T := T_O) (N := 6) hx hb hT in_O hown hK hP 0 rfl rfl 5 (by decide) (hT _ k_38) (fun _ h9 => h9) rfl d_O_nextByAmount_8 ?_
      refine lv_icmp_ge (tgt := 69) hx hb d_O_nextByAmount_11 (by decide) (fun c_11 => ?_) (fun c_11 => ?_)
      · have t_11 := (cv_le (nI_toInt (by omega)) (nI_toInt (by omega))).mp c_11
        refine lv_iload_n hx hb d_O_nextByAmount_69 rfl (lv_at hl 1 rfl) ?_
        exact ob_iret (v := best) hx hb hr hlocks hQ (by rw [hbest, show k = made by omega]) d_O_nextByAmount_70
      · have t_11 := mt (cv_le (nI_toInt (by omega)) (nI_toInt (by omega))).mpr c_11
        refine lv_aload_n hx hb d_O_nextByAmount_14 rfl (lv_at hl 2 rfl) ?_
        refine lv_iload_n hx hb d_O_nextByAmount_15 rfl (lv_at hl 3 rfl) ?_
        refine lv_iload hx hb d_O_nextByAmount_16 (lv_at hl 0 rfl) ?_
        refine ob_callR (W.runV (As := [.int o, .int (nI k)]) (rest := []) ⟨hx, hb, hml, hown, hT⟩ (c_O_isLiveOf l dC dI q cI cL own amt tag mad spt made o (nI k) hm) (cwV 2 hT (ob_goodV k_303 k_284 k_285 k_10 k_286) rfl rfl rfl (by decide +kernel) ⟨Nat.le_of_ble_eq_true rfl, Nat.le_of_ble_eq_true rfl⟩) (ob_preV (wc := wO q cI cL own amt tag mad spt made) (q0 := 0) rfl hK hP (fun _ h => absurd h List.not_mem_nil) rfl [0, 1, 2, 3, 4, 5] rfl rfl) rfl rfl hl.1 rfl (lv_room (Nat.le_of_ble_eq_true rfl)) d_O_nextByAmount_18 ⟨Nat.zero_le _, Nat.zero_le _⟩) ?_
        refine ob_split (P := p_liveOf own spt made o (nI k)) (fun b_18 => ?_) (fun b_18 => ?_)
        · refine lv_if_eq (tgt := 63) hx hb d_O_nextByAmount_21 (by decide) (fun c => absurd c (by decide)) (fun _ => ?_)
          refine lv_aload_n hx hb d_O_nextByAmount_24 rfl (lv_at hl 2 rfl) ?_
          refine lv_iload_n hx hb d_O_nextByAmount_25 rfl (lv_at hl 4 rfl) ?_
          refine ob_callR (W.runV (As := [.int bh]) (rest := []) ⟨hx, hb, hml, hown, hT⟩ (c_O_has l dC dI q cI cL own amt tag mad spt made bh hm) (cwV 1 hT (ob_goodV k_153 k_154 k_155 k_10 k_156) rfl rfl rfl (by decide +kernel) ⟨Nat.le_of_ble_eq_true rfl, Nat.le_of_ble_eq_true rfl⟩) (ob_preV (wc := wO q cI cL own amt tag mad spt made) (q0 := 0) rfl hK hP (fun _ h => absurd h List.not_mem_nil) rfl [0, 1, 2, 3, 4, 5] rfl rfl) rfl rfl hl.1 rfl (lv_room (Nat.le_of_ble_eq_true rfl)) d_O_nextByAmount_26 ⟨Nat.zero_le _, Nat.zero_le _⟩) ?_
          refine ob_split (P := p_has made bh) (fun b_26 => ?_) (fun b_26 => ?_)
          · refine lv_if_eq (tgt := 42) hx hb d_O_nextByAmount_29 (by decide) (fun c => absurd c (by decide)) (fun _ => ?_)
            refine lv_aload_n hx hb d_O_nextByAmount_32 rfl (lv_at hl 2 rfl) ?_
            refine lv_iload_n hx hb d_O_nextByAmount_33 rfl (lv_at hl 4 rfl) ?_
            refine lv_iload hx hb d_O_nextByAmount_34 (lv_at hl 0 rfl) ?_
            refine ob_callR (W.runV (As := [.int bh, .int (nI k)]) (rest := []) ⟨hx, hb, hml, hown, hT⟩ (c_O_standsAhead l dC dI q cI cL own amt tag mad spt made bh (nI k) (p_has_le b_26 hm) (p_has_nI (by omega) (by omega))) (cwV 2 hT (ob_goodV k_304 k_306 k_2 k_10 k_307) rfl rfl rfl (by decide +kernel) ⟨Nat.le_of_ble_eq_true rfl, Nat.le_of_ble_eq_true rfl⟩) (ob_preV (wc := wO q cI cL own amt tag mad spt made) (q0 := 0) rfl hK hP (fun _ h => absurd h List.not_mem_nil) rfl [0, 1, 2, 3, 4, 5] rfl rfl) rfl rfl hl.1 rfl (lv_room (Nat.le_of_ble_eq_true rfl)) d_O_nextByAmount_36 ⟨Nat.zero_le _, Nat.zero_le _⟩) ?_
            refine ob_split (P := p_ahead amt bh (nI k)) (fun b_36 => ?_) (fun b_36 => ?_)
            · refine lv_if_eq (tgt := 63) hx hb d_O_nextByAmount_39 (by decide) (fun c => absurd c (by decide)) (fun _ => ?_)
              refine lv_aload_n hx hb d_O_nextByAmount_42 rfl (lv_at hl 2 rfl) ?_
              refine lv_iload_n hx hb d_O_nextByAmount_43 rfl (lv_at hl 1 rfl) ?_
              refine ob_callR (W.runV (As := [.int best]) (rest := []) ⟨hx, hb, hml, hown, hT⟩ (c_O_has l dC dI q cI cL own amt tag mad spt made best hm) (cwV 1 hT (ob_goodV k_153 k_154 k_155 k_10 k_156) rfl rfl rfl (by decide +kernel) ⟨Nat.le_of_ble_eq_true rfl, Nat.le_of_ble_eq_true rfl⟩) (ob_preV (wc := wO q cI cL own amt tag mad spt made) (q0 := 0) rfl hK hP (fun _ h => absurd h List.not_mem_nil) rfl [0, 1, 2, 3, 4, 5] rfl rfl) rfl rfl hl.1 rfl (lv_room (Nat.le_of_ble_eq_true rfl)) d_O_nextByAmount_44 ⟨Nat.zero_le _, Nat.zero_le _⟩) ?_
              refine ob_split (P := p_has made best) (fun b_44 => ?_) (fun b_44 => ?_)
              · refine lv_if_eq (tgt := 60) hx hb d_O_nextByAmount_47 (by decide) (fun c => absurd c (by decide)) (fun _ => ?_)
                refine lv_aload_n hx hb d_O_nextByAmount_50 rfl (lv_at hl 2 rfl) ?_
                refine lv_iload hx hb d_O_nextByAmount_51 (lv_at hl 0 rfl) ?_
                refine lv_iload_n hx hb d_O_nextByAmount_53 rfl (lv_at hl 1 rfl) ?_
                refine ob_callR (W.runV (As := [.int (nI k), .int best]) (rest := []) ⟨hx, hb, hml, hown, hT⟩ (c_O_standsAhead l dC dI q cI cL own amt tag mad spt made (nI k) best (p_has_nI (by omega) (by omega)) (p_has_le b_44 hm)) (cwV 2 hT (ob_goodV k_304 k_306 k_2 k_10 k_307) rfl rfl rfl (by decide +kernel) ⟨Nat.le_of_ble_eq_true rfl, Nat.le_of_ble_eq_true rfl⟩) (ob_preV (wc := wO q cI cL own amt tag mad spt made) (q0 := 0) rfl hK hP (fun _ h => absurd h List.not_mem_nil) rfl [0, 1, 2, 3, 4, 5] rfl rfl) rfl rfl hl.1 rfl (lv_room (Nat.le_of_ble_eq_true rfl)) d_O_nextByAmount_54 ⟨Nat.zero_le _, Nat.zero_le _⟩) ?_
                refine ob_split (P := p_ahead amt (nI k) best) (fun b_54 => ?_) (fun b_54 => ?_)
                · refine lv_if_eq (tgt := 63) hx hb d_O_nextByAmount_57 (by decide) (fun c => absurd c (by decide)) (fun _ => ?_)
                  refine lv_iload hx hb d_O_nextByAmount_60 (lv_at hl 0 rfl) ?_
                  refine lv_istore_n (lv' := [(3, .int (nI k)), (4, .int (nI k)), (0, .ref (q 1)), (1, .int o), (2, .int bh)]) hx hb d_O_nextByAmount_62 rfl hl (by decide) rfl (fun ls hl => ?_)
                  refine lv_iinc (v := nI (k + 1)) (lv' := [(4, .int (nI (k + 1))), (3, .int (nI k)), (0, .ref (q 1)), (1, .int o), (2, .int bh)]) hx hb d_O_nextByAmount_63 hl (k := 1) rfl (nI_add k 1) (by decide) rfl (fun ls hl => ?_)
                  refine lv_goto (tgt := 5) hx hb d_O_nextByAmount_66 (by decide) ?_
                  exact ih_5 (k + 1) (nI k) _ (by omega) (by omega) (by first | exact f_next_t hbest ⟨b_18, Or.inl b_26, Or.inl b_44⟩ | exact f_next_t hbest ⟨b_18, Or.inr b_36, Or.inl b_44⟩ | exact f_next_t hbest ⟨b_18, Or.inl b_26, Or.inr b_54⟩ | exact f_next_t hbest ⟨b_18, Or.inr b_36, Or.inr b_54⟩ | exact f_next_f hbest (fun h => b_18 h.1) | exact f_next_f hbest (fun h => h.2.1.elim (fun z => z b_26) b_36) | exact f_next_f hbest (fun h => h.2.2.elim (fun z => z b_44) b_54)) (lv_sub hl [0, 1, 2, 3, 4] rfl)
                · refine lv_if_eq (tgt := 63) hx hb d_O_nextByAmount_57 (by decide) (fun _ => ?_) (fun c => absurd c (by decide))
                  refine lv_iinc (v := nI (k + 1)) (lv' := [(4, .int (nI (k + 1))), (3, .int best), (0, .ref (q 1)), (1, .int o), (2, .int bh)]) hx hb d_O_nextByAmount_63 hl (k := 0) rfl (nI_add k 1) (by decide) rfl (fun ls hl => ?_)
                  refine lv_goto (tgt := 5) hx hb d_O_nextByAmount_66 (by decide) ?_
                  exact ih_5 (k + 1) best _ (by omega) (by omega) (by first | exact f_next_t hbest ⟨b_18, Or.inl b_26, Or.inl b_44⟩ | exact f_next_t hbest ⟨b_18, Or.inr b_36, Or.inl b_44⟩ | exact f_next_t hbest ⟨b_18, Or.inl b_26, Or.inr b_54⟩ | exact f_next_t hbest ⟨b_18, Or.inr b_36, Or.inr b_54⟩ | exact f_next_f hbest (fun h => b_18 h.1) | exact f_next_f hbest (fun h => h.2.1.elim (fun z => z b_26) b_36) | exact f_next_f hbest (fun h => h.2.2.elim (fun z => z b_44) b_54)) (lv_sub hl [0, 1, 2, 3, 4] rfl)
              · refine lv_if_eq (tgt := 60) hx hb d_O_nextByAmount_47 (by decide) (fun _ => ?_) (fun c => absurd c (by decide))
                refine lv_iload hx hb d_O_nextByAmount_60 (lv_at hl 0 rfl) ?_
                refine lv_istore_n (lv' := [(3, .int (nI k)), (4, .int (nI k)), (0, .ref (q 1)), (1, .int o), (2, .int bh)]) hx hb d_O_nextByAmount_62 rfl hl (by decide) rfl (fun ls hl => ?_)
                refine lv_iinc (v := nI (k + 1)) (lv' := [(4, .int (nI (k + 1))), (3, .int (nI k)), (0, .ref (q 1)), (1, .int o), (2, .int bh)]) hx hb d_O_nextByAmount_63 hl (k := 1) rfl (nI_add k 1) (by decide) rfl (fun ls hl => ?_)
                refine lv_goto (tgt := 5) hx hb d_O_nextByAmount_66 (by decide) ?_
                exact ih_5 (k + 1) (nI k) _ (by omega) (by omega) (by first | exact f_next_t hbest ⟨b_18, Or.inl b_26, Or.inl b_44⟩ | exact f_next_t hbest ⟨b_18, Or.inr b_36, Or.inl b_44⟩ | exact f_next_t hbest ⟨b_18, Or.inl b_26, Or.inr b_54⟩ | exact f_next_t hbest ⟨b_18, Or.inr b_36, Or.inr b_54⟩ | exact f_next_f hbest (fun h => b_18 h.1) | exact f_next_f hbest (fun h => h.2.1.elim (fun z => z b_26) b_36) | exact f_next_f hbest (fun h => h.2.2.elim (fun z => z b_44) b_54)) (lv_sub hl [0, 1, 2, 3, 4] rfl)
            · refine lv_if_eq (tgt := 63) hx hb d_O_nextByAmount_39 (by decide) (fun _ => ?_) (fun c => absurd c (by decide))
              refine lv_iinc (v := nI (k + 1)) (lv' := [(4, .int (nI (k + 1))), (3, .int best), (0, .ref (q 1)), (1, .int o), (2, .int bh)]) hx hb d_O_nextByAmount_63 hl (k := 0) rfl (nI_add k 1) (by decide) rfl (fun ls hl => ?_)
              refine lv_goto (tgt := 5) hx hb d_O_nextByAmount_66 (by decide) ?_
              exact ih_5 (k + 1) best _ (by omega) (by omega) (by first | exact f_next_t hbest ⟨b_18, Or.inl b_26, Or.inl b_44⟩ | exact f_next_t hbest ⟨b_18, Or.inr b_36, Or.inl b_44⟩ | exact f_next_t hbest ⟨b_18, Or.inl b_26, Or.inr b_54⟩ | exact f_next_t hbest ⟨b_18, Or.inr b_36, Or.inr b_54⟩ | exact f_next_f hbest (fun h => b_18 h.1) | exact f_next_f hbest (fun h => h.2.1.elim (fun z => z b_26) b_36) | exact f_next_f hbest (fun h => h.2.2.elim (fun z => z b_44) b_54)) (lv_sub hl [0, 1, 2, 3, 4] rfl)
          · refine lv_if_eq (tgt := 42) hx hb d_O_nextByAmount_29 (by decide) (fun _ => ?_) (fun c => absurd c (by decide))
            refine lv_aload_n hx hb d_O_nextByAmount_42 rfl (lv_at hl 2 rfl) ?_
            refine lv_iload_n hx hb d_O_nextByAmount_43 rfl (lv_at hl 1 rfl) ?_
            refine ob_callR (W.runV (As := [.int best]) (rest := []) ⟨hx, hb, hml, hown, hT⟩ (c_O_has l dC dI q cI cL own amt tag mad spt made best hm) (cwV 1 hT (ob_goodV k_153 k_154 k_155 k_10 k_156) rfl rfl rfl (by decide +kernel) ⟨Nat.le_of_ble_eq_true rfl, Nat.le_of_ble_eq_true rfl⟩) (ob_preV (wc := wO q cI cL own amt tag mad spt made) (q0 := 0) rfl hK hP (fun _ h => absurd h List.not_mem_nil) rfl [0, 1, 2, 3, 4, 5] rfl rfl) rfl rfl hl.1 rfl (lv_room (Nat.le_of_ble_eq_true rfl)) d_O_nextByAmount_44 ⟨Nat.zero_le _, Nat.zero_le _⟩) ?_
            refine ob_split (P := p_has made best) (fun b_44 => ?_) (fun b_44 => ?_)
            · refine lv_if_eq (tgt := 60) hx hb d_O_nextByAmount_47 (by decide) (fun c => absurd c (by decide)) (fun _ => ?_)
              refine lv_aload_n hx hb d_O_nextByAmount_50 rfl (lv_at hl 2 rfl) ?_
              refine lv_iload hx hb d_O_nextByAmount_51 (lv_at hl 0 rfl) ?_
              refine lv_iload_n hx hb d_O_nextByAmount_53 rfl (lv_at hl 1 rfl) ?_
              refine ob_callR (W.runV (As := [.int (nI k), .int best]) (rest := []) ⟨hx, hb, hml, hown, hT⟩ (c_O_standsAhead l dC dI q cI cL own amt tag mad spt made (nI k) best (p_has_nI (by omega) (by omega)) (p_has_le b_44 hm)) (cwV 2 hT (ob_goodV k_304 k_306 k_2 k_10 k_307) rfl rfl rfl (by decide +kernel) ⟨Nat.le_of_ble_eq_true rfl, Nat.le_of_ble_eq_true rfl⟩) (ob_preV (wc := wO q cI cL own amt tag mad spt made) (q0 := 0) rfl hK hP (fun _ h => absurd h List.not_mem_nil) rfl [0, 1, 2, 3, 4, 5] rfl rfl) rfl rfl hl.1 rfl (lv_room (Nat.le_of_ble_eq_true rfl)) d_O_nextByAmount_54 ⟨Nat.zero_le _, Nat.zero_le _⟩) ?_
              refine ob_split (P := p_ahead amt (nI k) best) (fun b_54 => ?_) (fun b_54 => ?_)
              · refine lv_if_eq (tgt := 63) hx hb d_O_nextByAmount_57 (by decide) (fun c => absurd c (by decide)) (fun _ => ?_)
                refine lv_iload hx hb d_O_nextByAmount_60 (lv_at hl 0 rfl) ?_
                refine lv_istore_n (lv' := [(3, .int (nI k)), (4, .int (nI k)), (0, .ref (q 1)), (1, .int o), (2, .int bh)]) hx hb d_O_nextByAmount_62 rfl hl (by decide) rfl (fun ls hl => ?_)
                refine lv_iinc (v := nI (k + 1)) (lv' := [(4, .int (nI (k + 1))), (3, .int (nI k)), (0, .ref (q 1)), (1, .int o), (2, .int bh)]) hx hb d_O_nextByAmount_63 hl (k := 1) rfl (nI_add k 1) (by decide) rfl (fun ls hl => ?_)
                refine lv_goto (tgt := 5) hx hb d_O_nextByAmount_66 (by decide) ?_
                exact ih_5 (k + 1) (nI k) _ (by omega) (by omega) (by first | exact f_next_t hbest ⟨b_18, Or.inl b_26, Or.inl b_44⟩ | exact f_next_t hbest ⟨b_18, Or.inr b_36, Or.inl b_44⟩ | exact f_next_t hbest ⟨b_18, Or.inl b_26, Or.inr b_54⟩ | exact f_next_t hbest ⟨b_18, Or.inr b_36, Or.inr b_54⟩ | exact f_next_f hbest (fun h => b_18 h.1) | exact f_next_f hbest (fun h => h.2.1.elim (fun z => z b_26) b_36) | exact f_next_f hbest (fun h => h.2.2.elim (fun z => z b_44) b_54)) (lv_sub hl [0, 1, 2, 3, 4] rfl)
              · refine lv_if_eq (tgt := 63) hx hb d_O_nextByAmount_57 (by decide) (fun _ => ?_) (fun c => absurd c (by decide))
                refine lv_iinc (v := nI (k + 1)) (lv' := [(4, .int (nI (k + 1))), (3, .int best), (0, .ref (q 1)), (1, .int o), (2, .int bh)]) hx hb d_O_nextByAmount_63 hl (k := 0) rfl (nI_add k 1) (by decide) rfl (fun ls hl => ?_)
                refine lv_goto (tgt := 5) hx hb d_O_nextByAmount_66 (by decide) ?_
                exact ih_5 (k + 1) best _ (by omega) (by omega) (by first | exact f_next_t hbest ⟨b_18, Or.inl b_26, Or.inl b_44⟩ | exact f_next_t hbest ⟨b_18, Or.inr b_36, Or.inl b_44⟩ | exact f_next_t hbest ⟨b_18, Or.inl b_26, Or.inr b_54⟩ | exact f_next_t hbest ⟨b_18, Or.inr b_36, Or.inr b_54⟩ | exact f_next_f hbest (fun h => b_18 h.1) | exact f_next_f hbest (fun h => h.2.1.elim (fun z => z b_26) b_36) | exact f_next_f hbest (fun h => h.2.2.elim (fun z => z b_44) b_54)) (lv_sub hl [0, 1, 2, 3, 4] rfl)
            · refine lv_if_eq (tgt := 60) hx hb d_O_nextByAmount_47 (by decide) (fun _ => ?_) (fun c => absurd c (by decide))
              refine lv_iload hx hb d_O_nextByAmount_60 (lv_at hl 0 rfl) ?_
              refine lv_istore_n (lv' := [(3, .int (nI k)), (4, .int (nI k)), (0, .ref (q 1)), (1, .int o), (2, .int bh)]) hx hb d_O_nextByAmount_62 rfl hl (by decide) rfl (fun ls hl => ?_)
              refine lv_iinc (v := nI (k + 1)) (lv' := [(4, .int (nI (k + 1))), (3, .int (nI k)), (0, .ref (q 1)), (1, .int o), (2, .int bh)]) hx hb d_O_nextByAmount_63 hl (k := 1) rfl (nI_add k 1) (by decide) rfl (fun ls hl => ?_)
              refine lv_goto (tgt := 5) hx hb d_O_nextByAmount_66 (by decide) ?_
              exact ih_5 (k + 1) (nI k) _ (by omega) (by omega) (by first | exact f_next_t hbest ⟨b_18, Or.inl b_26, Or.inl b_44⟩ | exact f_next_t hbest ⟨b_18, Or.inr b_36, Or.inl b_44⟩ | exact f_next_t hbest ⟨b_18, Or.inl b_26, Or.inr b_54⟩ | exact f_next_t hbest ⟨b_18, Or.inr b_36, Or.inr b_54⟩ | exact f_next_f hbest (fun h => b_18 h.1) | exact f_next_f hbest (fun h => h.2.1.elim (fun z => z b_26) b_36) | exact f_next_f hbest (fun h => h.2.2.elim (fun z => z b_44) b_54)) (lv_sub hl [0, 1, 2, 3, 4] rfl)
        · refine lv_if_eq (tgt := 63) hx hb d_O_nextByAmount_21 (by decide) (fun _ => ?_) (fun c => absurd c (by decide))
          refine lv_iinc (v := nI (k + 1)) (lv' := [(4, .int (nI (k + 1))), (3, .int best), (0, .ref (q 1)), (1, .int o), (2, .int bh)]) hx hb d_O_nextByAmount_63 hl (k := 0) rfl (nI_add k 1) (by decide) rfl (fun ls hl => ?_)
          refine lv_goto (tgt := 5) hx hb d_O_nextByAmount_66 (by decide) ?_
          exact ih_5 (k + 1) best _ (by omega) (by omega) (by first | exact f_next_t hbest ⟨b_18, Or.inl b_26, Or.inl b_44⟩ | exact f_next_t hbest ⟨b_18, Or.inr b_36, Or.inl b_44⟩ | exact f_next_t hbest ⟨b_18, Or.inl b_26, Or.inr b_54⟩ | exact f_next_t hbest ⟨b_18, Or.inr b_36, Or.inr b_54⟩ | exact f_next_f hbest (fun h => b_18 h.1) | exact f_next_f hbest (fun h => h.2.1.elim (fun z => z b_26) b_36) | exact f_next_f hbest (fun h => h.2.2.elim (fun z => z b_44) b_54)) (lv_sub hl [0, 1, 2, 3, 4] rfl)
  exact key_5 _ 0 (-1 : Int32) _ (Nat.lt_succ_self _) (Nat.zero_le _) rfl (lv_sub hl [0, 1, 2, 3, 4] rfl)
