abbrev rm_K_feeOfDraft : Room := { frames := 2, cells := 0, slots := 0, locals := 42 }
set_option maxHeartbeats 4000000 in
set_option maxRecDepth 100000 in
theorem c_K_feeOfDraft (l : Launch) (dC : Nat → ClassId) (dI : Nat → Nat → Nat) (q : Nat → Nat) (cI cL : ClassId) (supply : Int64) (pot : Int64) (apl : Int32) (own : Nat → Int32) (amt : Nat → Int64) (tag : Nat → Int64) (mad : Nat → Int32) (spt : Nat → Int32) (made : Nat) (dsp : Nat → Int32) (dow : Nat → Int32) (dam : Nat → Int64) (dtg : Nat → Int64) (sp : Nat) (mk : Nat) (mint : Int64) (dep : Nat) (sups : Nat → Int64) (pots : Nat → Int64) (apps : Nat → Int32) (row : Nat) (hgt : Nat) (und : Nat)  (hm : made ≤ 2048) (hsp : sp ≤ 16) (hmk : mk ≤ 16) : Met l y_K_feeOfDraft w_K_feeOfDraft rm_K_feeOfDraft (va_Pc [.ref (q 0)] (ob_B (dC, dI) vwCl (wK q cI cL supply pot apl own amt tag mad spt made dsp dow dam dtg sp mk mint dep sups pots apps row hgt und) [(cI, .int), (cL, .long)] ob_N)) (QcReadL (f_fee supply mint amt made dsp sp dam mk)) 0 0 (fun _ => False) := by
  refine ob_ofW (cc := b_K_feeOfDraft) (maxL := 4) (ret := (some .long)) (own := R_K) (by decide) rfl rfl (Nat.le_of_ble_eq_true rfl) ?_
  intro p e s m args below meth c Q hQ hx hb hr hml hT hown hlocks hv ls hl
  obtain ⟨hP, hK, hN⟩ := hv
  have hl : lv_has ls 4 [(0, .ref (q 0))] := hl
  refine lv_aload_n hx hb d_K_feeOfDraft_0 rfl (lv_at hl 0 rfl) ?_
  refine va_get (D := (dC, dI)) (ci := 3) (v := .ref (q 7)) (C := R_K) (T := T_K) (N := 6) hx hb hT in_K hown hK hP 0 rfl rfl 1 (by decide) (hT _ k_127) (fun _ h9 => h9) rfl d_K_feeOfDraft_1 ?_
  refine va_getN (D := (dC, dI)) (ci := 1) (v := .long mint) (C := R_D) (T := T_D) (N := 7) hx hb hT in_D hown hK hP 7 rfl rfl 6 (by decide) (va_Nw.use rfl (hN _ (List.mem_of_getElem? (i := 13) rfl))) (fun _ h9 => h9) rfl d_K_feeOfDraft_4 ?_
  refine lv_aload_n hx hb d_K_feeOfDraft_7 rfl (lv_at hl 0 rfl) ?_
  refine va_get (D := (dC, dI)) (ci := 3) (v := .long supply) (C := R_K) (T := T_K) (N := 6) hx hb hT in_K hown hK hP 0 rfl rfl 3 (by decide) (hT _ k_129) (fun _ h9 => h9) rfl d_K_feeOfDraft_8 ?_
  refine lv_lneg hx hb d_K_feeOfDraft_11 ?_
  refine W.lcmp hx hb d_K_feeOfDraft_12 ?_
  refine lv_if_lt (tgt := 35) hx hb d_K_feeOfDraft_13 (by decide) (fun c_13 => ?_) (fun c_13 => ?_)
  · have c_13 := (lg_cmp_lt _ _).mp c_13
    refine lv_ldc2 (v := -2) hx hb hown (hT _ k_209) d_K_feeOfDraft_35 ?_
    exact ob_lret (v := (-2 : Int64)) hx hb hr hlocks hQ (by first | exact (f_fee_no (Or.inl c_13)).symm | exact (f_fee_no (Or.inr c_32)).symm) d_K_feeOfDraft_38
  · have c_13 := mt (lg_cmp_lt _ _).mpr c_13
    refine lv_aload_n hx hb d_K_feeOfDraft_16 rfl (lv_at hl 0 rfl) ?_
    refine va_get (D := (dC, dI)) (ci := 3) (v := .ref (q 7)) (C := R_K) (T := T_K) (N := 6) hx hb hT in_K hown hK hP 0 rfl rfl 1 (by decide) (hT _ k_127) (fun _ h9 => h9) rfl d_K_feeOfDraft_17 ?_
    refine va_getN (D := (dC, dI)) (ci := 1) (v := .long mint) (C := R_D) (T := T_D) (N := 7) hx hb hT in_D hown hK hP 7 rfl rfl 6 (by decide) (va_Nw.use rfl (hN _ (List.mem_of_getElem? (i := 13) rfl))) (fun _ h9 => h9) rfl d_K_feeOfDraft_20 ?_
    refine lv_ldc2 (v := 4611686018427387904) hx hb hown (hT _ k_208) d_K_feeOfDraft_23 ?_
    refine lv_aload_n hx hb d_K_feeOfDraft_26 rfl (lv_at hl 0 rfl) ?_
    refine va_get (D := (dC, dI)) (ci := 3) (v := .long supply) (C := R_K) (T := T_K) (N := 6) hx hb hT in_K hown hK hP 0 rfl rfl 3 (by decide) (hT _ k_129) (fun _ h9 => h9) rfl d_K_feeOfDraft_27 ?_
    refine lv_lsub hx hb d_K_feeOfDraft_30 ?_
    refine W.lcmp hx hb d_K_feeOfDraft_31 ?_
    refine lv_if_le (tgt := 39) hx hb d_K_feeOfDraft_32 (by decide) (fun c_32 => ?_) (fun c_32 => ?_)
    · have c_32 := (lg_cmp_le _ _).mp c_32
      refine lv_aload_n hx hb d_K_feeOfDraft_39 rfl (lv_at hl 0 rfl) ?_
      refine va_get (D := (dC, dI)) (ci := 3) (v := .ref (q 7)) (C := R_K) (T := T_K) (N := 6) hx hb hT in_K hown hK hP 0 rfl rfl 1 (by decide) (hT _ k_127) (fun _ h9 => h9) rfl d_K_feeOfDraft_40 ?_
      refine va_getN (D := (dC, dI)) (ci := 1) (v := .long mint) (C := R_D) (T := T_D) (N := 7) hx hb hT in_D hown hK hP 7 rfl rfl 6 (by decide) (va_Nw.use rfl (hN _ (List.mem_of_getElem? (i := 13) rfl))) (fun _ h9 => h9) rfl d_K_feeOfDraft_43 ?_
      refine lv_lstore_n (lv' := [(1, .long mint), (0, .ref (q 0))]) hx hb d_K_feeOfDraft_46 rfl hl (by decide) rfl (fun ls hl => ?_)
      refine lv_iconst (v := nI 0) hx hb d_K_feeOfDraft_47 (by decide) ?_
      refine lv_istore_n (lv' := [(3, .int (nI 0)), (1, .long mint), (0, .ref (q 0))]) hx hb d_K_feeOfDraft_48 rfl hl (by decide) rfl (fun ls hl => ?_)
      have key_49 : ∀ (n : Nat) (i : Nat) (left : Int64) (ls : Array Slot), sp - i < n → (i ≤ sp) → (left = f_gain amt made dsp mint i) → lv_has ls 4 [(3, .int (nI i)), (1, .long left), (0, .ref (q 0))] → W p l e rm_K_feeOfDraft s m args below meth c s.heap [] 0 0 Q (F0 m 49 ls []) := by
        intro n_49
        induction n_49 with
        | zero => intro i left ls h; exact absurd h (Nat.not_lt_zero _)
        | succ n_49 ih_49 =>
          intro i left ls hn_49 hi hlf hl
          refine lv_iload_n hx hb d_K_feeOfDraft_49 rfl (lv_at hl 0 rfl) ?_
          refine lv_aload_n hx hb d_K_feeOfDraft_50 rfl (lv_at hl 2 rfl) ?_
          refine va_get (D := (dC, dI)) (ci := 3) (v := .ref (q 7)) (C := R_K) (T := T_K) (N := 6) hx hb hT in_K hown hK hP 0 rfl rfl 1 (by decide) (hT _ k_127) (fun _ h9 => h9) rfl d_K_feeOfDraft_51 ?_
          refine va_getN (D := (dC, dI)) (ci := 1) (v := .int (nI sp)) (C := R_D) (T := T_D) (N := 7) hx hb hT in_D hown hK hP 7 rfl rfl 4 (by decide) (va_Nw.use rfl (hN _ (List.mem_of_getElem? (i := 11) rfl))) (fun _ h9 => h9) rfl d_K_feeOfDraft_54 ?_
          refine lv_icmp_ge (tgt := 85) hx hb d_K_feeOfDraft_57 (by decide) (fun c_57 => ?_) (fun c_57 => ?_)
          · have t_57 := (cv_le (nI_toInt (by omega)) (nI_toInt (by omega))).mp c_57
            refine lv_iconst (v := nI 0) hx hb d_K_feeOfDraft_85 (by decide) ?_
            refine lv_istore_n (lv' := [(3, .int (nI 0)), (1, .long left), (0, .ref (q 0))]) hx hb d_K_feeOfDraft_86 rfl hl (by decide) rfl (fun ls hl => ?_)
            have key_87 : ∀ (n : Nat) (j : Nat) (lf2 : Int64) (ls : Array Slot), mk - j < n → (j ≤ mk) → (f_less dam (mk - j) j lf2 = f_less dam mk 0 (f_gain amt made dsp mint sp)) → lv_has ls 4 [(3, .int (nI j)), (1, .long lf2), (0, .ref (q 0))] → W p l e rm_K_feeOfDraft s m args below meth c s.heap [] 0 0 Q (F0 m 87 ls []) := by
              intro n_87
              induction n_87 with
              | zero => intro j lf2 ls h; exact absurd h (Nat.not_lt_zero _)
              | succ n_87 ih_87 =>
                intro j lf2 ls hn_87 hj hres hl
                refine lv_iload_n hx hb d_K_feeOfDraft_87 rfl (lv_at hl 0 rfl) ?_
                refine lv_aload_n hx hb d_K_feeOfDraft_88 rfl (lv_at hl 2 rfl) ?_
                refine va_get (D := (dC, dI)) (ci := 3) (v := .ref (q 7)) (C := R_K) (T := T_K) (N := 6) hx hb hT in_K hown hK hP 0 rfl rfl 1 (by decide) (hT _ k_127) (fun _ h9 => h9) rfl d_K_feeOfDraft_89 ?_
                refine va_getN (D := (dC, dI)) (ci := 1) (v := .int (nI mk)) (C := R_D) (T := T_D) (N := 7) hx hb hT in_D hown hK hP 7 rfl rfl 5 (by decide) (va_Nw.use rfl (hN _ (List.mem_of_getElem? (i := 12) rfl))) (fun _ h9 => h9) rfl d_K_feeOfDraft_92 ?_
                refine lv_icmp_ge (tgt := 134) hx hb d_K_feeOfDraft_95 (by decide) (fun c_95 => ?_) (fun c_95 => ?_)
                · have t_95 := (cv_le (nI_toInt (by omega)) (nI_toInt (by omega))).mp c_95
                  refine lv_lload_n hx hb d_K_feeOfDraft_134 rfl (lv_at hl 1 rfl) ?_
                  exact ob_lret (v := lf2) hx hb hr hlocks hQ (by rw [f_fee_go (fun h => h.elim c_13 (fun z => z c_32)), ← hres, show mk - j = 0 by omega]; rfl) d_K_feeOfDraft_135
                · have t_95 := mt (cv_le (nI_toInt (by omega)) (nI_toInt (by omega))).mpr c_95
                  refine lv_aload_n hx hb d_K_feeOfDraft_98 rfl (lv_at hl 2 rfl) ?_
                  refine va_get (D := (dC, dI)) (ci := 3) (v := .ref (q 7)) (C := R_K) (T := T_K) (N := 6) hx hb hT in_K hown hK hP 0 rfl rfl 1 (by decide) (hT _ k_127) (fun _ h9 => h9) rfl d_K_feeOfDraft_99 ?_
                  refine va_getN (D := (dC, dI)) (ci := 1) (v := .ref (q 10)) (C := R_D) (T := T_D) (N := 7) hx hb hT in_D hown hK hP 7 rfl rfl 2 (by decide) (va_Nw.use rfl (hN _ (List.mem_of_getElem? (i := 9) rfl))) (fun _ h9 => h9) rfl d_K_feeOfDraft_102 ?_
                  refine lv_iload_n hx hb d_K_feeOfDraft_105 rfl (lv_at hl 0 rfl) ?_
                  refine ob_lald hx hb hK hP 10 1 rfl rfl (j := j) (nI_clamp (by omega)) (cv_in (nI_toInt (by omega)) (by omega)) d_K_feeOfDraft_106 ?_
                  refine lv_lload_n hx hb d_K_feeOfDraft_107 rfl (lv_at hl 1 rfl) ?_
                  refine W.lcmp hx hb d_K_feeOfDraft_108 ?_
                  refine lv_if_le (tgt := 116) hx hb d_K_feeOfDraft_109 (by decide) (fun c_109 => ?_) (fun c_109 => ?_)
                  · have c_109 := (lg_cmp_le _ _).mp c_109
                    refine lv_lload_n hx hb d_K_feeOfDraft_116 rfl (lv_at hl 1 rfl) ?_
                    refine lv_aload_n hx hb d_K_feeOfDraft_117 rfl (lv_at hl 2 rfl) ?_
                    refine va_get (D := (dC, dI)) (ci := 3) (v := .ref (q 7)) (C := R_K) (T := T_K) (N := 6) hx hb hT in_K hown hK hP 0 rfl rfl 1 (by decide) (hT _ k_127) (fun _ h9 => h9) rfl d_K_feeOfDraft_118 ?_
                    refine va_getN (D := (dC, dI)) (ci := 1) (v := .ref (q 10)) (C := R_D) (T := T_D) (N := 7) hx hb hT in_D hown hK hP 7 rfl rfl 2 (by decide) (va_Nw.use rfl (hN _ (List.mem_of_getElem? (i := 9) rfl))) (fun _ h9 => h9) rfl d_K_feeOfDraft_121 ?_
                    refine lv_iload_n hx hb d_K_feeOfDraft_124 rfl (lv_at hl 0 rfl) ?_
                    refine ob_lald hx hb hK hP 10 1 rfl rfl (j := j) (nI_clamp (by omega)) (cv_in (nI_toInt (by omega)) (by omega)) d_K_feeOfDraft_125 ?_
                    refine lv_lsub hx hb d_K_feeOfDraft_126 ?_
                    refine lv_lstore_n (lv' := [(1, .long (lf2 - (dam j))), (3, .int (nI j)), (0, .ref (q 0))]) hx hb d_K_feeOfDraft_127 rfl hl (by decide) rfl (fun ls hl => ?_)
                    refine lv_iinc (v := nI (j + 1)) (lv' := [(3, .int (nI (j + 1))), (1, .long (lf2 - (dam j))), (0, .ref (q 0))]) hx hb d_K_feeOfDraft_128 hl (k := 1) rfl (nI_add j 1) (by decide) rfl (fun ls hl => ?_)
                    refine lv_goto (tgt := 87) hx hb d_K_feeOfDraft_131 (by decide) ?_
                    exact ih_87 (j + 1) (lf2 - (dam j)) _ (by omega) (by omega) (by rw [← hres, f_less_go (by omega) c_109]) (lv_sub hl [0, 1, 2] rfl)
                  · have c_109 := mt (lg_cmp_le _ _).mpr c_109
                    refine lv_ldc2 (v := -2) hx hb hown (hT _ k_209) d_K_feeOfDraft_112 ?_
                    exact ob_lret (v := (-2 : Int64)) hx hb hr hlocks hQ (by rw [f_fee_go (fun h => h.elim c_13 (fun z => z c_32)), ← hres, f_less_no (by omega) c_109]) d_K_feeOfDraft_115
            exact key_87 _ 0 left _ (Nat.lt_succ_self _) (Nat.zero_le _) (by rw [hlf, show i = sp by omega]; rfl) (lv_sub hl [0, 1, 2] rfl)
          · have t_57 := mt (cv_le (nI_toInt (by omega)) (nI_toInt (by omega))).mpr c_57
            refine lv_lload_n hx hb d_K_feeOfDraft_60 rfl (lv_at hl 1 rfl) ?_
            refine lv_aload_n hx hb d_K_feeOfDraft_61 rfl (lv_at hl 2 rfl) ?_
            refine va_get (D := (dC, dI)) (ci := 3) (v := .ref (q 1)) (C := R_K) (T := T_K) (N := 6) hx hb hT in_K hown hK hP 0 rfl rfl 0 (by decide) (hT _ k_126) (fun _ h9 => h9) rfl d_K_feeOfDraft_62 ?_
            refine lv_aload_n hx hb d_K_feeOfDraft_65 rfl (lv_at hl 2 rfl) ?_
            refine va_get (D := (dC, dI)) (ci := 3) (v := .ref (q 7)) (C := R_K) (T := T_K) (N := 6) hx hb hT in_K hown hK hP 0 rfl rfl 1 (by decide) (hT _ k_127) (fun _ h9 => h9) rfl d_K_feeOfDraft_66 ?_
            refine va_getN (D := (dC, dI)) (ci := 1) (v := .ref (q 8)) (C := R_D) (T := T_D) (N := 7) hx hb hT in_D hown hK hP 7 rfl rfl 0 (by decide) (va_Nw.use rfl (hN _ (List.mem_of_getElem? (i := 7) rfl))) (fun _ h9 => h9) rfl d_K_feeOfDraft_69 ?_
            refine lv_iload_n hx hb d_K_feeOfDraft_72 rfl (lv_at hl 0 rfl) ?_
            refine ob_iald hx hb hK hP 8 0 rfl rfl (j := i) (nI_clamp (by omega)) (cv_in (nI_toInt (by omega)) (by omega)) d_K_feeOfDraft_73 ?_
            refine ob_callL (W.runV (As := [.int (dsp i)]) (rest := [.long left]) ⟨hx, hb, hml, hown, hT⟩ (c_O_amountOf l dC dI q cI cL own amt tag mad spt made (dsp i) hm) (cwV 1 hT (ob_goodV k_210 k_211 k_212 k_10 k_213) rfl rfl rfl (by decide +kernel) ⟨Nat.le_of_ble_eq_true rfl, Nat.le_of_ble_eq_true rfl⟩) (ob_preV (wc := wO q cI cL own amt tag mad spt made) (q0 := 0) rfl hK hP (fun _ h => absurd h List.not_mem_nil) rfl [1, 2, 3, 4, 5, 6] rfl rfl) rfl rfl hl.1 rfl (lv_room (Nat.le_of_ble_eq_true rfl)) d_K_feeOfDraft_74 ⟨Nat.zero_le _, Nat.zero_le _⟩) ?_
            refine lv_ladd hx hb d_K_feeOfDraft_77 ?_
            refine lv_lstore_n (lv' := [(1, .long (left + (f_amt amt made (dsp i)))), (3, .int (nI i)), (0, .ref (q 0))]) hx hb d_K_feeOfDraft_78 rfl hl (by decide) rfl (fun ls hl => ?_)
            refine lv_iinc (v := nI (i + 1)) (lv' := [(3, .int (nI (i + 1))), (1, .long (left + (f_amt amt made (dsp i)))), (0, .ref (q 0))]) hx hb d_K_feeOfDraft_79 hl (k := 1) rfl (nI_add i 1) (by decide) rfl (fun ls hl => ?_)
            refine lv_goto (tgt := 49) hx hb d_K_feeOfDraft_82 (by decide) ?_
            exact ih_49 (i + 1) (left + (f_amt amt made (dsp i))) _ (by omega) (by omega) (by rw [hlf]; rfl) (lv_sub hl [0, 1, 2] rfl)
      exact key_49 _ 0 mint _ (Nat.lt_succ_self _) (Nat.zero_le _) rfl (lv_sub hl [0, 1, 2] rfl)
    · have c_32 := mt (lg_cmp_le _ _).mpr c_32
      refine lv_ldc2 (v := -2) hx hb hown (hT _ k_209) d_K_feeOfDraft_35 ?_
      exact ob_lret (v := (-2 : Int64)) hx hb hr hlocks hQ (by first | exact (f_fee_no (Or.inl c_13)).symm | exact (f_fee_no (Or.inr c_32)).symm) d_K_feeOfDraft_38
abbrev rm_K_bookDraft : Room := { frames := 3, cells := 0, slots := 0, locals := 64 }
set_option maxHeartbeats 4000000 in
set_option maxRecDepth 100000 in
theorem c_K_bookDraft (l : Launch) (dC : Nat → ClassId) (dI : Nat → Nat → Nat) (q : Nat → Nat) (cI cL : ClassId) (supply : Int64) (pot : Int64) (apl : Int32) (own : Nat → Int32) (amt : Nat → Int64) (tag : Nat → Int64) (mad : Nat → Int32) (spt : Nat → Int32) (made : Nat) (dsp : Nat → Int32) (dow : Nat → Int32) (dam : Nat → Int64) (dtg : Nat → Int64) (sp : Nat) (mk : Nat) (mint : Int64) (dep : Nat) (sups : Nat → Int64) (pots : Nat → Int64) (apps : Nat → Int32) (row : Nat) (hgt : Nat) (und : Nat)  (hm : made ≤ 2048) (hsp : sp ≤ 16) (hmk : mk ≤ 16) (hrm : made + mk ≤ 2048) : Met l y_K_bookDraft w_K_bookDraft rm_K_bookDraft (va_Pc [.ref (q 0)] (ob_BW (dC, dI) vwCl (wK q cI cL supply pot apl own amt tag mad spt made dsp dow dam dtg sp mk mint dep sups pots apps row hgt und) [(cI, .int), (cL, .long)] ob_N)) (va_Qv (fun (_ : Unit) => True) (fun _ t => va_P (dC, dI) vwCl (wK q cI cL supply pot apl (f_app own made dow mk) (f_appL amt made dam mk) (f_appL tag made dtg mk) (f_app mad made (fun _ => nI hgt) mk) (f_app (f_offs spt made dsp (nI hgt) sp) made (fun _ => -1) mk) (made + mk) dsp dow dam dtg sp mk mint dep sups pots apps row hgt und) t.heap) (ob_A (wK q cI cL supply pot apl own amt tag mad spt made dsp dow dam dtg sp mk mint dep sups pots apps row hgt und))) 0 0 (ob_A (wK q cI cL supply pot apl own amt tag mad spt made dsp dow dam dtg sp mk mint dep sups pots apps row hgt und)) := by
  refine ob_ofW (cc := b_K_bookDraft) (maxL := 2) (ret := none) (own := R_K) (by decide) rfl rfl (Nat.le_of_ble_eq_true rfl) ?_
  intro p e s m args below meth c Q hQ hx hb hr hml hT hown hlocks hv ls hl
  obtain ⟨⟨hP, hK, hN⟩, hD0⟩ := hv
  have hD := ob_D_self hD0
  generalize hAe : ob_A (wK q cI cL supply pot apl own amt tag mad spt made dsp dow dam dtg sp mk mint dep sups pots apps row hgt und) = A at hQ hD
  have hS : va_S A s.heap s.heap [] := va_S.rf
  have hl : lv_has ls 2 [(0, .ref (q 0))] := hl
  refine lv_iconst (v := nI 0) hx hb d_K_bookDraft_0 (by decide) ?_
  refine lv_istore_n (lv' := [(1, .int (nI 0)), (0, .ref (q 0))]) hx hb d_K_bookDraft_1 rfl hl (by decide) rfl (fun ls hl => ?_)
  have key_2 : ∀ (n : Nat) (k : Nat) (s1 : Nat → Int32) (H : Heap) (locs : List Loc) (ls : Array Slot), sp - k < n → (k ≤ sp) → (s1 = f_offs spt made dsp (nI hgt) k) → va_P (dC, dI) vwCl (wK q cI cL supply pot apl own amt tag mad s1 made dsp dow dam dtg sp mk mint dep sups pots apps row hgt und) H → va_D A (wK q cI cL supply pot apl own amt tag mad s1 made dsp dow dam dtg sp mk mint dep sups pots apps row hgt und) → va_S A s.heap H locs → lv_has ls 2 [(1, .int (nI k)), (0, .ref (q 0))] → W p l e rm_K_bookDraft s m args below meth c H locs 0 0 Q (F0 m 2 ls []) := by
    intro n_2
    induction n_2 with
    | zero => intro k s1 H locs ls h; exact absurd h (Nat.not_lt_zero _)
    | succ n_2 ih_2 =>
      intro k s1 H locs ls hn_2 hk hs1 hP hD hS hl
      refine lv_iload_n hx hb d_K_bookDraft_2 rfl (lv_at hl 0 rfl) ?_
      refine lv_aload_n hx hb d_K_bookDraft_3 rfl (lv_at hl 1 rfl) ?_
      refine va_get (D := (dC, dI)) (ci := 3) (v := .ref (q 7)) (C := R_K) (T := T_K) (N := 6) hx hb hT in_K hown hK hP 0 rfl rfl 1 (by decide) (hT _ k_127) (fun _ h9 => h9) rfl d_K_bookDraft_4 ?_
      refine va_getN (D := (dC, dI)) (ci := 1) (v := .int (nI sp)) (C := R_D) (T := T_D) (N := 7) hx hb hT in_D hown hK hP 7 rfl rfl 4 (by decide) (va_Nw.use rfl (hN _ (List.mem_of_getElem? (i := 11) rfl))) (fun _ h9 => h9) rfl d_K_bookDraft_7 ?_
      refine lv_icmp_ge (tgt := 42) hx hb d_K_bookDraft_10 (by decide) (fun c_10 => ?_) (fun c_10 => ?_)
      · have t_10 := (cv_le (nI_toInt (by omega)) (nI_toInt (by omega))).mp c_10
        refine lv_iconst (v := nI 0) hx hb d_K_bookDraft_42 (by decide) ?_
        refine lv_istore_n (lv' := [(1, .int (nI 0)), (0, .ref (q 0))]) hx hb d_K_bookDraft_43 rfl hl (by decide) rfl (fun ls hl => ?_)
        have key_44 : ∀ (n : Nat) (i : Nat) (o9 : Nat → Int32) (a9 : Nat → Int64) (g9 : Nat → Int64) (m9 : Nat → Int32) (s9 : Nat → Int32) (n9 : Nat) (H : Heap) (locs : List Loc) (ls : Array Slot), mk - i < n → (i ≤ mk) → (n9 = made + i) → (o9 = f_app own made dow i) → (a9 = f_appL amt made dam i) → (g9 = f_appL tag made dtg i) → (m9 = f_app mad made (fun _ => nI hgt) i) → (s9 = f_app s1 made (fun _ => -1) i) → va_P (dC, dI) vwCl (wK q cI cL supply pot apl o9 a9 g9 m9 s9 n9 dsp dow dam dtg sp mk mint dep sups pots apps row hgt und) H → va_D A (wK q cI cL supply pot apl o9 a9 g9 m9 s9 n9 dsp dow dam dtg sp mk mint dep sups pots apps row hgt und) → va_S A s.heap H locs → lv_has ls 2 [(1, .int (nI i)), (0, .ref (q 0))] → W p l e rm_K_bookDraft s m args below meth c H locs 0 0 Q (F0 m 44 ls []) := by
          intro n_44
          induction n_44 with
          | zero => intro i o9 a9 g9 m9 s9 n9 H locs ls h; exact absurd h (Nat.not_lt_zero _)
          | succ n_44 ih_44 =>
            intro i o9 a9 g9 m9 s9 n9 H locs ls hn_44 hi hn9 ho9 ha9 hg9 hm9 hs9 hP hD hS hl
            refine lv_iload_n hx hb d_K_bookDraft_44 rfl (lv_at hl 0 rfl) ?_
            refine lv_aload_n hx hb d_K_bookDraft_45 rfl (lv_at hl 1 rfl) ?_
            refine va_get (D := (dC, dI)) (ci := 3) (v := .ref (q 7)) (C := R_K) (T := T_K) (N := 6) hx hb hT in_K hown hK hP 0 rfl rfl 1 (by decide) (hT _ k_127) (fun _ h9 => h9) rfl d_K_bookDraft_46 ?_
            refine va_getN (D := (dC, dI)) (ci := 1) (v := .int (nI mk)) (C := R_D) (T := T_D) (N := 7) hx hb hT in_D hown hK hP 7 rfl rfl 5 (by decide) (va_Nw.use rfl (hN _ (List.mem_of_getElem? (i := 12) rfl))) (fun _ h9 => h9) rfl d_K_bookDraft_49 ?_
            refine lv_icmp_ge (tgt := 102) hx hb d_K_bookDraft_52 (by decide) (fun c_52 => ?_) (fun c_52 => ?_)
            · have t_52 := (cv_le (nI_toInt (by omega)) (nI_toInt (by omega))).mp c_52
              exact ob_vretW hx hb hr hlocks hQ hS hP (by rw [ho9, ha9, hg9, hm9, hs9, hs1, hn9, show i = mk by omega, show k = sp by omega]) d_K_bookDraft_102
            · have t_52 := mt (cv_le (nI_toInt (by omega)) (nI_toInt (by omega))).mpr c_52
              refine lv_aload_n hx hb d_K_bookDraft_55 rfl (lv_at hl 1 rfl) ?_
              refine va_get (D := (dC, dI)) (ci := 3) (v := .ref (q 1)) (C := R_K) (T := T_K) (N := 6) hx hb hT in_K hown hK hP 0 rfl rfl 0 (by decide) (hT _ k_126) (fun _ h9 => h9) rfl d_K_bookDraft_56 ?_
              refine lv_aload_n hx hb d_K_bookDraft_59 rfl (lv_at hl 1 rfl) ?_
              refine va_get (D := (dC, dI)) (ci := 3) (v := .ref (q 7)) (C := R_K) (T := T_K) (N := 6) hx hb hT in_K hown hK hP 0 rfl rfl 1 (by decide) (hT _ k_127) (fun _ h9 => h9) rfl d_K_bookDraft_60 ?_
              refine va_getN (D := (dC, dI)) (ci := 1) (v := .ref (q 9)) (C := R_D) (T := T_D) (N := 7) hx hb hT in_D hown hK hP 7 rfl rfl 1 (by decide) (va_Nw.use rfl (hN _ (List.mem_of_getElem? (i := 8) rfl))) (fun _ h9 => h9) rfl d_K_bookDraft_63 ?_
              refine lv_iload_n hx hb d_K_bookDraft_66 rfl (lv_at hl 0 rfl) ?_
              refine ob_iald hx hb hK hP 9 0 rfl rfl (j := i) (nI_clamp (by omega)) (cv_in (nI_toInt (by omega)) (by omega)) d_K_bookDraft_67 ?_
              refine lv_aload_n hx hb d_K_bookDraft_68 rfl (lv_at hl 1 rfl) ?_
              refine va_get (D := (dC, dI)) (ci := 3) (v := .ref (q 7)) (C := R_K) (T := T_K) (N := 6) hx hb hT in_K hown hK hP 0 rfl rfl 1 (by decide) (hT _ k_127) (fun _ h9 => h9) rfl d_K_bookDraft_69 ?_
              refine va_getN (D := (dC, dI)) (ci := 1) (v := .ref (q 10)) (C := R_D) (T := T_D) (N := 7) hx hb hT in_D hown hK hP 7 rfl rfl 2 (by decide) (va_Nw.use rfl (hN _ (List.mem_of_getElem? (i := 9) rfl))) (fun _ h9 => h9) rfl d_K_bookDraft_72 ?_
              refine lv_iload_n hx hb d_K_bookDraft_75 rfl (lv_at hl 0 rfl) ?_
              refine ob_lald hx hb hK hP 10 1 rfl rfl (j := i) (nI_clamp (by omega)) (cv_in (nI_toInt (by omega)) (by omega)) d_K_bookDraft_76 ?_
              refine lv_aload_n hx hb d_K_bookDraft_77 rfl (lv_at hl 1 rfl) ?_
              refine va_get (D := (dC, dI)) (ci := 3) (v := .ref (q 7)) (C := R_K) (T := T_K) (N := 6) hx hb hT in_K hown hK hP 0 rfl rfl 1 (by decide) (hT _ k_127) (fun _ h9 => h9) rfl d_K_bookDraft_78 ?_
              refine va_getN (D := (dC, dI)) (ci := 1) (v := .ref (q 11)) (C := R_D) (T := T_D) (N := 7) hx hb hT in_D hown hK hP 7 rfl rfl 3 (by decide) (va_Nw.use rfl (hN _ (List.mem_of_getElem? (i := 10) rfl))) (fun _ h9 => h9) rfl d_K_bookDraft_81 ?_
              refine lv_iload_n hx hb d_K_bookDraft_84 rfl (lv_at hl 0 rfl) ?_
              refine ob_lald hx hb hK hP 11 1 rfl rfl (j := i) (nI_clamp (by omega)) (cv_in (nI_toInt (by omega)) (by omega)) d_K_bookDraft_85 ?_
              refine lv_aload_n hx hb d_K_bookDraft_86 rfl (lv_at hl 1 rfl) ?_
              refine va_get (D := (dC, dI)) (ci := 3) (v := .ref (q 12)) (C := R_K) (T := T_K) (N := 6) hx hb hT in_K hown hK hP 0 rfl rfl 2 (by decide) (hT _ k_128) (fun _ h9 => h9) rfl d_K_bookDraft_87 ?_
              refine va_getN (D := (dC, dI)) (ci := 0) (v := .int (nI hgt)) (C := R_B) (T := T_B) (N := 7) hx hb hT in_B hown hK hP 12 rfl rfl 5 (by decide) (va_Nw.use rfl (hN _ (List.mem_of_getElem? (i := 14) rfl))) (fun _ h9 => h9) rfl d_K_bookDraft_90 ?_
              refine ob_callWv (va_runV (As := [.int (dow i), .long (dam i), .long (dtg i), .int (nI hgt)]) (rest := []) ⟨hx, hb, hml, hown, hT⟩ (c_O_add l dC dI q cI cL o9 a9 g9 m9 s9 n9 (dow i) (dam i) (dtg i) (nI hgt) (by omega)) (cwV 4 hT (ob_goodV k_228 k_229 k_230 k_10 k_231) rfl rfl rfl (by decide +kernel) ⟨Nat.le_of_ble_eq_true rfl, Nat.le_of_ble_eq_true rfl⟩) (ob_preVW (wc := wO q cI cL o9 a9 g9 m9 s9 n9) (q0 := 0) rfl hK hP hD (fun _ h => absurd h List.not_mem_nil) rfl [1, 2, 3, 4, 5, 6] rfl rfl rfl rfl) rfl rfl hl.1 rfl (lv_room (Nat.le_of_ble_eq_true rfl)) d_K_bookDraft_93 ⟨Nat.zero_le _, Nat.zero_le _⟩) hS hP hD [1, 2, 3, 4, 5, 6] rfl rfl (fun H locs hP hD hS => ?_)
              have hP : va_P (dC, dI) vwCl (wK q cI cL supply pot apl (upd o9 n9 (dow i)) (vp_updL a9 n9 (dam i)) (vp_updL g9 n9 (dtg i)) (upd m9 n9 (nI hgt)) (upd s9 n9 (-1 : Int32)) (n9 + 1) dsp dow dam dtg sp mk mint dep sups pots apps row hgt und) H := hP
              have hD : va_D A (wK q cI cL supply pot apl (upd o9 n9 (dow i)) (vp_updL a9 n9 (dam i)) (vp_updL g9 n9 (dtg i)) (upd m9 n9 (nI hgt)) (upd s9 n9 (-1 : Int32)) (n9 + 1) dsp dow dam dtg sp mk mint dep sups pots apps row hgt und) := hD
              refine lv_iinc (v := nI (i + 1)) (lv' := [(1, .int (nI (i + 1))), (0, .ref (q 0))]) hx hb d_K_bookDraft_96 hl (k := 0) rfl (nI_add i 1) (by decide) rfl (fun ls hl => ?_)
              refine lv_goto (tgt := 44) hx hb d_K_bookDraft_99 (by decide) ?_
              exact ih_44 (i + 1) (upd o9 n9 (dow i)) (vp_updL a9 n9 (dam i)) (vp_updL g9 n9 (dtg i)) (upd m9 n9 (nI hgt)) (upd s9 n9 (-1 : Int32)) (n9 + 1) _ _ _ (by omega) (by omega) (by omega) (by rw [ho9, hn9]; rfl) (by rw [ha9, hn9]; rfl) (by rw [hg9, hn9]; rfl) (by rw [hm9, hn9]; rfl) (by rw [hs9, hn9]; rfl) hP hD hS (lv_sub hl [0, 1] rfl)
        exact key_44 _ 0 own amt tag mad s1 made _ _ _ (Nat.lt_succ_self _) (Nat.zero_le _) rfl rfl rfl rfl rfl rfl hP hD hS (lv_sub hl [0, 1] rfl)
      · have t_10 := mt (cv_le (nI_toInt (by omega)) (nI_toInt (by omega))).mpr c_10
        refine lv_aload_n hx hb d_K_bookDraft_13 rfl (lv_at hl 1 rfl) ?_
        refine va_get (D := (dC, dI)) (ci := 3) (v := .ref (q 1)) (C := R_K) (T := T_K) (N := 6) hx hb hT in_K hown hK hP 0 rfl rfl 0 (by decide) (hT _ k_126) (fun _ h9 => h9) rfl d_K_bookDraft_14 ?_
        refine lv_aload_n hx hb d_K_bookDraft_17 rfl (lv_at hl 1 rfl) ?_
        refine va_get (D := (dC, dI)) (ci := 3) (v := .ref (q 7)) (C := R_K) (T := T_K) (N := 6) hx hb hT in_K hown hK hP 0 rfl rfl 1 (by decide) (hT _ k_127) (fun _ h9 => h9) rfl d_K_bookDraft_18 ?_
        refine va_getN (D := (dC, dI)) (ci := 1) (v := .ref (q 8)) (C := R_D) (T := T_D) (N := 7) hx hb hT in_D hown hK hP 7 rfl rfl 0 (by decide) (va_Nw.use rfl (hN _ (List.mem_of_getElem? (i := 7) rfl))) (fun _ h9 => h9) rfl d_K_bookDraft_21 ?_
        refine lv_iload_n hx hb d_K_bookDraft_24 rfl (lv_at hl 0 rfl) ?_
        refine ob_iald hx hb hK hP 8 0 rfl rfl (j := k) (nI_clamp (by omega)) (cv_in (nI_toInt (by omega)) (by omega)) d_K_bookDraft_25 ?_
        refine lv_aload_n hx hb d_K_bookDraft_26 rfl (lv_at hl 1 rfl) ?_
        refine va_get (D := (dC, dI)) (ci := 3) (v := .ref (q 12)) (C := R_K) (T := T_K) (N := 6) hx hb hT in_K hown hK hP 0 rfl rfl 2 (by decide) (hT _ k_128) (fun _ h9 => h9) rfl d_K_bookDraft_27 ?_
        refine va_getN (D := (dC, dI)) (ci := 0) (v := .int (nI hgt)) (C := R_B) (T := T_B) (N := 7) hx hb hT in_B hown hK hP 12 rfl rfl 5 (by decide) (va_Nw.use rfl (hN _ (List.mem_of_getElem? (i := 14) rfl))) (fun _ h9 => h9) rfl d_K_bookDraft_30 ?_
        refine ob_callWv (va_runV (As := [.int (dsp k), .int (nI hgt)]) (rest := []) ⟨hx, hb, hml, hown, hT⟩ (c_O_takeOff l dC dI q cI cL own amt tag mad s1 made (dsp k) (nI hgt) hm) (cwV 2 hT (ob_goodV k_223 k_224 k_225 k_10 k_226) rfl rfl rfl (by decide +kernel) ⟨Nat.le_of_ble_eq_true rfl, Nat.le_of_ble_eq_true rfl⟩) (ob_preVW (wc := wO q cI cL own amt tag mad s1 made) (q0 := 0) rfl hK hP hD (fun _ h => absurd h List.not_mem_nil) rfl [1, 2, 3, 4, 5, 6] rfl rfl rfl rfl) rfl rfl hl.1 rfl (lv_room (Nat.le_of_ble_eq_true rfl)) d_K_bookDraft_33 ⟨Nat.zero_le _, Nat.zero_le _⟩) hS hP hD [1, 2, 3, 4, 5, 6] rfl rfl (fun H locs hP hD hS => ?_)
        have hP : va_P (dC, dI) vwCl (wK q cI cL supply pot apl own amt tag mad (f_off s1 made (dsp k) (nI hgt)) made dsp dow dam dtg sp mk mint dep sups pots apps row hgt und) H := hP
        have hD : va_D A (wK q cI cL supply pot apl own amt tag mad (f_off s1 made (dsp k) (nI hgt)) made dsp dow dam dtg sp mk mint dep sups pots apps row hgt und) := hD
        refine lv_iinc (v := nI (k + 1)) (lv' := [(1, .int (nI (k + 1))), (0, .ref (q 0))]) hx hb d_K_bookDraft_36 hl (k := 0) rfl (nI_add k 1) (by decide) rfl (fun ls hl => ?_)
        refine lv_goto (tgt := 2) hx hb d_K_bookDraft_39 (by decide) ?_
        exact ih_2 (k + 1) (f_off s1 made (dsp k) (nI hgt)) _ _ _ (by omega) (by omega) (by rw [hs1]; rfl) hP hD hS (lv_sub hl [0, 1] rfl)
  exact key_2 _ 0 spt _ _ _ (Nat.lt_succ_self _) (Nat.zero_le _) rfl hP hD hS (lv_sub hl [0, 1] rfl)
abbrev rm_K_spend_t : Room := { frames := 2, cells := 0, slots := 0, locals := 42 }
set_option maxHeartbeats 4000000 in
set_option maxRecDepth 100000 in
theorem c_K_spend_t (l : Launch) (dC : Nat → ClassId) (dI : Nat → Nat → Nat) (q : Nat → Nat) (cI cL : ClassId) (supply : Int64) (pot : Int64) (apl : Int32) (own : Nat → Int32) (amt : Nat → Int64) (tag : Nat → Int64) (mad : Nat → Int32) (spt : Nat → Int32) (made : Nat) (dsp : Nat → Int32) (dow : Nat → Int32) (dam : Nat → Int64) (dtg : Nat → Int64) (sp : Nat) (mk : Nat) (mint : Int64) (dep : Nat) (sups : Nat → Int64) (pots : Nat → Int64) (apps : Nat → Int32) (row : Nat) (hgt : Nat) (und : Nat) (x : Int32) (hm : made ≤ 2048) (hsp : sp ≤ 16) (h1 : p_live spt made x) (h2 : ¬ f_any (fun j => decide (dsp j = x)) sp = true) (h3 : sp < 16) : Met l y_K_spend w_K_spend rm_K_spend_t (va_Pc [.ref (q 0), .int x] (ob_BW (dC, dI) vwCl (wK q cI cL supply pot apl own amt tag mad spt made dsp dow dam dtg sp mk mint dep sups pots apps row hgt und) [(cI, .int), (cL, .long)] ob_N)) (va_Qi (fun (r : Int32) (_ : Unit) => r = nI 1) (fun _ t => va_P (dC, dI) vwCl (wK q cI cL supply pot apl own amt tag mad spt made (upd dsp (sp + 0) x) dow dam dtg (sp + 1) mk mint dep sups pots apps row hgt und) t.heap) (ob_A (wK q cI cL supply pot apl own amt tag mad spt made dsp dow dam dtg sp mk mint dep sups pots apps row hgt und))) 0 0 (ob_A (wK q cI cL supply pot apl own amt tag mad spt made dsp dow dam dtg sp mk mint dep sups pots apps row hgt und)) := by
  refine ob_ofW (cc := b_K_spend) (maxL := 2) (ret := (some .boolean)) (own := R_K) (by decide) rfl rfl (Nat.le_of_ble_eq_true rfl) ?_
  intro p e s m args below meth c Q hQ hx hb hr hml hT hown hlocks hv ls hl
  obtain ⟨⟨hP, hK, hN⟩, hD0⟩ := hv
  have hD := ob_D_self hD0
  generalize hAe : ob_A (wK q cI cL supply pot apl own amt tag mad spt made dsp dow dam dtg sp mk mint dep sups pots apps row hgt und) = A at hQ hD
  have hS : va_S A s.heap s.heap [] := va_S.rf
  have hl : lv_has ls 2 [(0, .ref (q 0)), (1, .int x)] := hl
  refine lv_aload_n hx hb d_K_spend_0 rfl (lv_at hl 0 rfl) ?_
  refine va_get (D := (dC, dI)) (ci := 3) (v := .ref (q 1)) (C := R_K) (T := T_K) (N := 6) hx hb hT in_K hown hK hP 0 rfl rfl 0 (by decide) (hT _ k_126) (fun _ h9 => h9) rfl d_K_spend_1 ?_
  refine lv_iload_n hx hb d_K_spend_4 rfl (lv_at hl 1 rfl) ?_
  refine ob_callR (W.runV (As := [.int x]) (rest := []) ⟨hx, hb, hml, hown, hT⟩ (c_O_isLive l dC dI q cI cL own amt tag mad spt made x hm) (cwV 1 hT (ob_goodV k_149 k_150 k_151 k_10 k_152) rfl rfl rfl (by decide +kernel) ⟨Nat.le_of_ble_eq_true rfl, Nat.le_of_ble_eq_true rfl⟩) (ob_preV (wc := wO q cI cL own amt tag mad spt made) (q0 := 0) rfl hK hP (fun _ h => absurd h List.not_mem_nil) rfl [1, 2, 3, 4, 5, 6] rfl rfl) rfl rfl hl.1 rfl (lv_room (Nat.le_of_ble_eq_true rfl)) d_K_spend_5 ⟨Nat.zero_le _, Nat.zero_le _⟩) ?_
  refine ob_split (P := p_live spt made x) (fun b_5 => ?_) (fun b_5 => ?_)
  · refine lv_if_eq (tgt := 33) hx hb d_K_spend_8 (by decide) (fun c => absurd c (by decide)) (fun _ => ?_)
    refine lv_aload_n hx hb d_K_spend_11 rfl (lv_at hl 0 rfl) ?_
    refine va_get (D := (dC, dI)) (ci := 3) (v := .ref (q 7)) (C := R_K) (T := T_K) (N := 6) hx hb hT in_K hown hK hP 0 rfl rfl 1 (by decide) (hT _ k_127) (fun _ h9 => h9) rfl d_K_spend_12 ?_
    refine lv_iload_n hx hb d_K_spend_15 rfl (lv_at hl 1 rfl) ?_
    refine ob_callR (W.runV (As := [.int x]) (rest := []) ⟨hx, hb, hml, hown, hT⟩ (c_D_hasToSpend l dC dI q cI cL dsp dow dam dtg sp mk mint x hsp) (cwV 1 hT (ob_goodV k_157 k_158 k_159 k_11 k_160) rfl rfl rfl (by decide +kernel) ⟨Nat.le_of_ble_eq_true rfl, Nat.le_of_ble_eq_true rfl⟩) (ob_preV (wc := wD q cI cL dsp dow dam dtg sp mk mint) (q0 := 0) rfl hK hP (fun _ h => absurd h List.not_mem_nil) rfl [7, 8, 9, 10, 11] rfl rfl) rfl rfl hl.1 rfl (lv_room (Nat.le_of_ble_eq_true rfl)) d_K_spend_16 ⟨Nat.zero_le _, Nat.zero_le _⟩) ?_
    refine ob_split (P := f_any (fun j => decide (dsp j = x)) sp = true) (fun b_16 => ?_) (fun b_16 => ?_)
    · exact absurd b_16 h2
    · refine lv_if_ne (tgt := 33) hx hb d_K_spend_19 (by decide) (fun c => absurd c (by decide)) (fun _ => ?_)
      refine lv_aload_n hx hb d_K_spend_22 rfl (lv_at hl 0 rfl) ?_
      refine va_get (D := (dC, dI)) (ci := 3) (v := .ref (q 7)) (C := R_K) (T := T_K) (N := 6) hx hb hT in_K hown hK hP 0 rfl rfl 1 (by decide) (hT _ k_127) (fun _ h9 => h9) rfl d_K_spend_23 ?_
      refine ob_callR (W.runV (As := []) (rest := []) ⟨hx, hb, hml, hown, hT⟩ (c_D_roomToSpend l dC dI q cI cL dsp dow dam dtg sp mk mint hsp) (cwV 0 hT (ob_goodV k_161 k_162 k_163 k_11 k_164) rfl rfl rfl (by decide +kernel) ⟨Nat.le_of_ble_eq_true rfl, Nat.le_of_ble_eq_true rfl⟩) (ob_preV (wc := wD q cI cL dsp dow dam dtg sp mk mint) (q0 := 0) rfl hK hP (fun _ h => absurd h List.not_mem_nil) rfl [7, 8, 9, 10, 11] rfl rfl) rfl rfl hl.1 rfl (lv_room (Nat.le_of_ble_eq_true rfl)) d_K_spend_26 ⟨Nat.zero_le _, Nat.zero_le _⟩) ?_
      refine lv_iconst (v := nI 1) hx hb d_K_spend_29 (by decide) ?_
      refine lv_icmp_ge (tgt := 35) hx hb d_K_spend_30 (by decide) (fun c_30 => ?_) (fun c_30 => ?_)
      · have t_30 := (cv_le (nI_toInt (by omega)) (nI_toInt (by omega))).mp c_30
        refine lv_aload_n hx hb d_K_spend_35 rfl (lv_at hl 0 rfl) ?_
        refine va_get (D := (dC, dI)) (ci := 3) (v := .ref (q 7)) (C := R_K) (T := T_K) (N := 6) hx hb hT in_K hown hK hP 0 rfl rfl 1 (by decide) (hT _ k_127) (fun _ h9 => h9) rfl d_K_spend_36 ?_
        refine lv_iconst (v := nI 0) hx hb d_K_spend_39 (by decide) ?_
        refine lv_iload_n hx hb d_K_spend_40 rfl (lv_at hl 1 rfl) ?_
        refine ob_callWv (va_runV (As := [.int (nI 0), .int x]) (rest := []) ⟨hx, hb, hml, hown, hT⟩ (c_D_writeToSpend l dC dI q cI cL dsp dow dam dtg sp mk mint 0 x (by omega)) (cwV 2 hT (ob_goodV k_165 k_166 k_167 k_11 k_168) rfl rfl rfl (by decide +kernel) ⟨Nat.le_of_ble_eq_true rfl, Nat.le_of_ble_eq_true rfl⟩) (ob_preVW (wc := wD q cI cL dsp dow dam dtg sp mk mint) (q0 := 0) rfl hK hP hD (fun _ h => absurd h List.not_mem_nil) rfl [7, 8, 9, 10, 11] rfl rfl rfl rfl) rfl rfl hl.1 rfl (lv_room (Nat.le_of_ble_eq_true rfl)) d_K_spend_41 ⟨Nat.zero_le _, Nat.zero_le _⟩) hS hP hD [7, 8, 9, 10, 11] rfl rfl (fun H locs hP hD hS => ?_)
        have hP : va_P (dC, dI) vwCl (wK q cI cL supply pot apl own amt tag mad spt made (upd dsp (sp + 0) x) dow dam dtg sp mk mint dep sups pots apps row hgt und) H := hP
        have hD : va_D A (wK q cI cL supply pot apl own amt tag mad spt made (upd dsp (sp + 0) x) dow dam dtg sp mk mint dep sups pots apps row hgt und) := hD
        refine lv_aload_n hx hb d_K_spend_44 rfl (lv_at hl 0 rfl) ?_
        refine va_get (D := (dC, dI)) (ci := 3) (v := .ref (q 7)) (C := R_K) (T := T_K) (N := 6) hx hb hT in_K hown hK hP 0 rfl rfl 1 (by decide) (hT _ k_127) (fun _ h9 => h9) rfl d_K_spend_45 ?_
        refine lv_iconst (v := nI 1) hx hb d_K_spend_48 (by decide) ?_
        refine ob_callWv (va_runV (As := [.int (nI 1)]) (rest := []) ⟨hx, hb, hml, hown, hT⟩ (c_D_keepToSpend l dC dI q cI cL (upd dsp (sp + 0) x) dow dam dtg sp mk mint 1 (by omega)) (cwV 1 hT (ob_goodV k_170 k_171 k_172 k_11 k_173) rfl rfl rfl (by decide +kernel) ⟨Nat.le_of_ble_eq_true rfl, Nat.le_of_ble_eq_true rfl⟩) (ob_preVW (wc := wD q cI cL (upd dsp (sp + 0) x) dow dam dtg sp mk mint) (q0 := 0) rfl hK hP hD (fun _ h => absurd h List.not_mem_nil) rfl [7, 8, 9, 10, 11] rfl rfl rfl rfl) rfl rfl hl.1 rfl (lv_room (Nat.le_of_ble_eq_true rfl)) d_K_spend_49 ⟨Nat.zero_le _, Nat.zero_le _⟩) hS hP hD [7, 8, 9, 10, 11] rfl rfl (fun H locs hP hD hS => ?_)
        have hP : va_P (dC, dI) vwCl (wK q cI cL supply pot apl own amt tag mad spt made (upd dsp (sp + 0) x) dow dam dtg (sp + 1) mk mint dep sups pots apps row hgt und) H := hP
        have hD : va_D A (wK q cI cL supply pot apl own amt tag mad spt made (upd dsp (sp + 0) x) dow dam dtg (sp + 1) mk mint dep sups pots apps row hgt und) := hD
        refine lv_iconst (v := nI 1) hx hb d_K_spend_52 (by decide) ?_
        exact ob_zretW (v := nI 1) hx hb hr hlocks hQ hS hP rfl (by decide) rfl d_K_spend_53
      · have t_30 := mt (cv_le (nI_toInt (by omega)) (nI_toInt (by omega))).mpr c_30
        exact absurd t_30 (by omega)
  · exact absurd h1 b_5
abbrev rm_K_spend_f : Room := { frames := 2, cells := 0, slots := 0, locals := 42 }
set_option maxHeartbeats 4000000 in
set_option maxRecDepth 100000 in
theorem c_K_spend_f (l : Launch) (dC : Nat → ClassId) (dI : Nat → Nat → Nat) (q : Nat → Nat) (cI cL : ClassId) (supply : Int64) (pot : Int64) (apl : Int32) (own : Nat → Int32) (amt : Nat → Int64) (tag : Nat → Int64) (mad : Nat → Int32) (spt : Nat → Int32) (made : Nat) (dsp : Nat → Int32) (dow : Nat → Int32) (dam : Nat → Int64) (dtg : Nat → Int64) (sp : Nat) (mk : Nat) (mint : Int64) (dep : Nat) (sups : Nat → Int64) (pots : Nat → Int64) (apps : Nat → Int32) (row : Nat) (hgt : Nat) (und : Nat) (x : Int32) (hm : made ≤ 2048) (hsp : sp ≤ 16) (hno : ¬ (p_live spt made x ∧ ¬ f_any (fun j => decide (dsp j = x)) sp = true ∧ sp < 16)) : Met l y_K_spend w_K_spend rm_K_spend_f (va_Pc [.ref (q 0), .int x] (ob_B (dC, dI) vwCl (wK q cI cL supply pot apl own amt tag mad spt made dsp dow dam dtg sp mk mint dep sups pots apps row hgt und) [(cI, .int), (cL, .long)] ob_N)) (QcRead (nI 0)) 0 0 (fun _ => False) := by
  refine ob_ofW (cc := b_K_spend) (maxL := 2) (ret := (some .boolean)) (own := R_K) (by decide) rfl rfl (Nat.le_of_ble_eq_true rfl) ?_
  intro p e s m args below meth c Q hQ hx hb hr hml hT hown hlocks hv ls hl
  obtain ⟨hP, hK, hN⟩ := hv
  have hl : lv_has ls 2 [(0, .ref (q 0)), (1, .int x)] := hl
  refine lv_aload_n hx hb d_K_spend_0 rfl (lv_at hl 0 rfl) ?_
  refine va_get (D := (dC, dI)) (ci := 3) (v := .ref (q 1)) (C := R_K) (T := T_K) (N := 6) hx hb hT in_K hown hK hP 0 rfl rfl 0 (by decide) (hT _ k_126) (fun _ h9 => h9) rfl d_K_spend_1 ?_
  refine lv_iload_n hx hb d_K_spend_4 rfl (lv_at hl 1 rfl) ?_
  refine ob_callR (W.runV (As := [.int x]) (rest := []) ⟨hx, hb, hml, hown, hT⟩ (c_O_isLive l dC dI q cI cL own amt tag mad spt made x hm) (cwV 1 hT (ob_goodV k_149 k_150 k_151 k_10 k_152) rfl rfl rfl (by decide +kernel) ⟨Nat.le_of_ble_eq_true rfl, Nat.le_of_ble_eq_true rfl⟩) (ob_preV (wc := wO q cI cL own amt tag mad spt made) (q0 := 0) rfl hK hP (fun _ h => absurd h List.not_mem_nil) rfl [1, 2, 3, 4, 5, 6] rfl rfl) rfl rfl hl.1 rfl (lv_room (Nat.le_of_ble_eq_true rfl)) d_K_spend_5 ⟨Nat.zero_le _, Nat.zero_le _⟩) ?_
  refine ob_split (P := p_live spt made x) (fun b_5 => ?_) (fun b_5 => ?_)
  · refine lv_if_eq (tgt := 33) hx hb d_K_spend_8 (by decide) (fun c => absurd c (by decide)) (fun _ => ?_)
    refine lv_aload_n hx hb d_K_spend_11 rfl (lv_at hl 0 rfl) ?_
    refine va_get (D := (dC, dI)) (ci := 3) (v := .ref (q 7)) (C := R_K) (T := T_K) (N := 6) hx hb hT in_K hown hK hP 0 rfl rfl 1 (by decide) (hT _ k_127) (fun _ h9 => h9) rfl d_K_spend_12 ?_
    refine lv_iload_n hx hb d_K_spend_15 rfl (lv_at hl 1 rfl) ?_
    refine ob_callR (W.runV (As := [.int x]) (rest := []) ⟨hx, hb, hml, hown, hT⟩ (c_D_hasToSpend l dC dI q cI cL dsp dow dam dtg sp mk mint x hsp) (cwV 1 hT (ob_goodV k_157 k_158 k_159 k_11 k_160) rfl rfl rfl (by decide +kernel) ⟨Nat.le_of_ble_eq_true rfl, Nat.le_of_ble_eq_true rfl⟩) (ob_preV (wc := wD q cI cL dsp dow dam dtg sp mk mint) (q0 := 0) rfl hK hP (fun _ h => absurd h List.not_mem_nil) rfl [7, 8, 9, 10, 11] rfl rfl) rfl rfl hl.1 rfl (lv_room (Nat.le_of_ble_eq_true rfl)) d_K_spend_16 ⟨Nat.zero_le _, Nat.zero_le _⟩) ?_
    refine ob_split (P := f_any (fun j => decide (dsp j = x)) sp = true) (fun b_16 => ?_) (fun b_16 => ?_)
    · refine lv_if_ne (tgt := 33) hx hb d_K_spend_19 (by decide) (fun _ => ?_) (fun c => absurd c (by decide))
      refine lv_iconst (v := nI 0) hx hb d_K_spend_33 (by decide) ?_
      exact ob_zret (v := nI 0) hx hb hr hlocks hQ (by decide) rfl d_K_spend_34
    · refine lv_if_ne (tgt := 33) hx hb d_K_spend_19 (by decide) (fun c => absurd c (by decide)) (fun _ => ?_)
      refine lv_aload_n hx hb d_K_spend_22 rfl (lv_at hl 0 rfl) ?_
      refine va_get (D := (dC, dI)) (ci := 3) (v := .ref (q 7)) (C := R_K) (T := T_K) (N := 6) hx hb hT in_K hown hK hP 0 rfl rfl 1 (by decide) (hT _ k_127) (fun _ h9 => h9) rfl d_K_spend_23 ?_
      refine ob_callR (W.runV (As := []) (rest := []) ⟨hx, hb, hml, hown, hT⟩ (c_D_roomToSpend l dC dI q cI cL dsp dow dam dtg sp mk mint hsp) (cwV 0 hT (ob_goodV k_161 k_162 k_163 k_11 k_164) rfl rfl rfl (by decide +kernel) ⟨Nat.le_of_ble_eq_true rfl, Nat.le_of_ble_eq_true rfl⟩) (ob_preV (wc := wD q cI cL dsp dow dam dtg sp mk mint) (q0 := 0) rfl hK hP (fun _ h => absurd h List.not_mem_nil) rfl [7, 8, 9, 10, 11] rfl rfl) rfl rfl hl.1 rfl (lv_room (Nat.le_of_ble_eq_true rfl)) d_K_spend_26 ⟨Nat.zero_le _, Nat.zero_le _⟩) ?_
      refine lv_iconst (v := nI 1) hx hb d_K_spend_29 (by decide) ?_
      refine lv_icmp_ge (tgt := 35) hx hb d_K_spend_30 (by decide) (fun c_30 => ?_) (fun c_30 => ?_)
      · have t_30 := (cv_le (nI_toInt (by omega)) (nI_toInt (by omega))).mp c_30
        exact absurd ⟨b_5, b_16, by omega⟩ hno
      · have t_30 := mt (cv_le (nI_toInt (by omega)) (nI_toInt (by omega))).mpr c_30
        refine lv_iconst (v := nI 0) hx hb d_K_spend_33 (by decide) ?_
        exact ob_zret (v := nI 0) hx hb hr hlocks hQ (by decide) rfl d_K_spend_34
  · refine lv_if_eq (tgt := 33) hx hb d_K_spend_8 (by decide) (fun _ => ?_) (fun c => absurd c (by decide))
    refine lv_iconst (v := nI 0) hx hb d_K_spend_33 (by decide) ?_
    exact ob_zret (v := nI 0) hx hb hr hlocks hQ (by decide) rfl d_K_spend_34
abbrev rm_K_make_t : Room := { frames := 2, cells := 0, slots := 0, locals := 45 }
set_option maxHeartbeats 4000000 in
set_option maxRecDepth 100000 in
theorem c_K_make_t (l : Launch) (dC : Nat → ClassId) (dI : Nat → Nat → Nat) (q : Nat → Nat) (cI cL : ClassId) (supply : Int64) (pot : Int64) (apl : Int32) (own : Nat → Int32) (amt : Nat → Int64) (tag : Nat → Int64) (mad : Nat → Int32) (spt : Nat → Int32) (made : Nat) (dsp : Nat → Int32) (dow : Nat → Int32) (dam : Nat → Int64) (dtg : Nat → Int64) (sp : Nat) (mk : Nat) (mint : Int64) (dep : Nat) (sups : Nat → Int64) (pots : Nat → Int64) (apps : Nat → Int32) (row : Nat) (hgt : Nat) (und : Nat) (o : Int32) (a : Int64) (g : Int64) (hmk : mk ≤ 16) (h1 : 0 ≤ o.toInt ∧ o.toInt < 256) (h2 : ¬ a < 1) (h3 : mk < 16) : Met l y_K_make w_K_make rm_K_make_t (va_Pc [.ref (q 0), .int o, .long a, .long g] (ob_BW (dC, dI) vwCl (wK q cI cL supply pot apl own amt tag mad spt made dsp dow dam dtg sp mk mint dep sups pots apps row hgt und) [(cI, .int), (cL, .long)] ob_N)) (va_Qi (fun (r : Int32) (_ : Unit) => r = nI 1) (fun _ t => va_P (dC, dI) vwCl (wK q cI cL supply pot apl own amt tag mad spt made dsp (upd dow mk o) (vp_updL dam mk a) (vp_updL dtg mk g) sp (mk + 1) mint dep sups pots apps row hgt und) t.heap) (ob_A (wK q cI cL supply pot apl own amt tag mad spt made dsp dow dam dtg sp mk mint dep sups pots apps row hgt und))) 0 0 (ob_A (wK q cI cL supply pot apl own amt tag mad spt made dsp dow dam dtg sp mk mint dep sups pots apps row hgt und)) := by
  refine ob_ofW (cc := b_K_make) (maxL := 6) (ret := (some .boolean)) (own := R_K) (by decide) rfl rfl (Nat.le_of_ble_eq_true rfl) ?_
  intro p e s m args below meth c Q hQ hx hb hr hml hT hown hlocks hv ls hl
  obtain ⟨⟨hP, hK, hN⟩, hD0⟩ := hv
  have hD := ob_D_self hD0
  generalize hAe : ob_A (wK q cI cL supply pot apl own amt tag mad spt made dsp dow dam dtg sp mk mint dep sups pots apps row hgt und) = A at hQ hD
  have hS : va_S A s.heap s.heap [] := va_S.rf
  have hl : lv_has ls 6 [(0, .ref (q 0)), (1, .int o), (2, .long a), (4, .long g)] := hl
  refine lv_iload_n hx hb d_K_make_0 rfl (lv_at hl 1 rfl) ?_
  refine lv_if_lt (tgt := 28) hx hb d_K_make_1 (by decide) (fun c_1 => ?_) (fun c_1 => ?_)
  · have t_1 := (cv_lt rfl (by decide : (0 : Int32).toInt = 0)).mp c_1
    exact absurd t_1 (by omega)
  · have t_1 := mt (cv_lt rfl (by decide : (0 : Int32).toInt = 0)).mpr c_1
    refine lv_iload_n hx hb d_K_make_4 rfl (lv_at hl 1 rfl) ?_
    refine lv_sipush (v := nI 256) hx hb d_K_make_5 (by decide) ?_
    refine lv_icmp_ge (tgt := 28) hx hb d_K_make_8 (by decide) (fun c_8 => ?_) (fun c_8 => ?_)
    · have t_8 := (cv_le (nI_toInt (by omega)) rfl).mp c_8
      exact absurd t_8 (by omega)
    · have t_8 := mt (cv_le (nI_toInt (by omega)) rfl).mpr c_8
      refine lv_lload_n hx hb d_K_make_11 rfl (lv_at hl 2 rfl) ?_
      refine lv_lconst (v := 1) hx hb d_K_make_12 (by decide) ?_
      refine W.lcmp hx hb d_K_make_13 ?_
      refine lv_if_lt (tgt := 28) hx hb d_K_make_14 (by decide) (fun c_14 => ?_) (fun c_14 => ?_)
      · have c_14 := (lg_cmp_lt _ _).mp c_14
        exact absurd c_14 h2
      · have c_14 := mt (lg_cmp_lt _ _).mpr c_14
        refine lv_aload_n hx hb d_K_make_17 rfl (lv_at hl 0 rfl) ?_
        refine va_get (D := (dC, dI)) (ci := 3) (v := .ref (q 7)) (C := R_K) (T := T_K) (N := 6) hx hb hT in_K hown hK hP 0 rfl rfl 1 (by decide) (hT _ k_127) (fun _ h9 => h9) rfl d_K_make_18 ?_
        refine ob_callR (W.runV (As := []) (rest := []) ⟨hx, hb, hml, hown, hT⟩ (c_D_roomToMake l dC dI q cI cL dsp dow dam dtg sp mk mint hmk) (cwV 0 hT (ob_goodV k_178 k_179 k_180 k_11 k_181) rfl rfl rfl (by decide +kernel) ⟨Nat.le_of_ble_eq_true rfl, Nat.le_of_ble_eq_true rfl⟩) (ob_preV (wc := wD q cI cL dsp dow dam dtg sp mk mint) (q0 := 0) rfl hK hP (fun _ h => absurd h List.not_mem_nil) rfl [7, 8, 9, 10, 11] rfl rfl) rfl rfl hl.1 rfl (lv_room (Nat.le_of_ble_eq_true rfl)) d_K_make_21 ⟨Nat.zero_le _, Nat.zero_le _⟩) ?_
        refine lv_iconst (v := nI 1) hx hb d_K_make_24 (by decide) ?_
        refine lv_icmp_ge (tgt := 30) hx hb d_K_make_25 (by decide) (fun c_25 => ?_) (fun c_25 => ?_)
        · have t_25 := (cv_le (nI_toInt (by omega)) (nI_toInt (by omega))).mp c_25
          refine lv_aload_n hx hb d_K_make_30 rfl (lv_at hl 0 rfl) ?_
          refine va_get (D := (dC, dI)) (ci := 3) (v := .ref (q 7)) (C := R_K) (T := T_K) (N := 6) hx hb hT in_K hown hK hP 0 rfl rfl 1 (by decide) (hT _ k_127) (fun _ h9 => h9) rfl d_K_make_31 ?_
          refine lv_iload_n hx hb d_K_make_34 rfl (lv_at hl 1 rfl) ?_
          refine lv_lload_n hx hb d_K_make_35 rfl (lv_at hl 2 rfl) ?_
          refine lv_lload hx hb d_K_make_36 (lv_at hl 3 rfl) ?_
          refine ob_callWv (va_runV (As := [.int o, .long a, .long g]) (rest := []) ⟨hx, hb, hml, hown, hT⟩ (c_D_addToMake l dC dI q cI cL dsp dow dam dtg sp mk mint o a g (by omega)) (cwV 3 hT (ob_goodV k_182 k_183 k_184 k_11 k_185) rfl rfl rfl (by decide +kernel) ⟨Nat.le_of_ble_eq_true rfl, Nat.le_of_ble_eq_true rfl⟩) (ob_preVW (wc := wD q cI cL dsp dow dam dtg sp mk mint) (q0 := 0) rfl hK hP hD (fun _ h => absurd h List.not_mem_nil) rfl [7, 8, 9, 10, 11] rfl rfl rfl rfl) rfl rfl hl.1 rfl (lv_room (Nat.le_of_ble_eq_true rfl)) d_K_make_38 ⟨Nat.zero_le _, Nat.zero_le _⟩) hS hP hD [7, 8, 9, 10, 11] rfl rfl (fun H locs hP hD hS => ?_)
          have hP : va_P (dC, dI) vwCl (wK q cI cL supply pot apl own amt tag mad spt made dsp (upd dow mk o) (vp_updL dam mk a) (vp_updL dtg mk g) sp (mk + 1) mint dep sups pots apps row hgt und) H := hP
          have hD : va_D A (wK q cI cL supply pot apl own amt tag mad spt made dsp (upd dow mk o) (vp_updL dam mk a) (vp_updL dtg mk g) sp (mk + 1) mint dep sups pots apps row hgt und) := hD
          refine lv_iconst (v := nI 1) hx hb d_K_make_41 (by decide) ?_
          exact ob_zretW (v := nI 1) hx hb hr hlocks hQ hS hP rfl (by decide) rfl d_K_make_42
        · have t_25 := mt (cv_le (nI_toInt (by omega)) (nI_toInt (by omega))).mpr c_25
          exact absurd t_25 (by omega)
abbrev rm_K_make_f : Room := { frames := 1, cells := 0, slots := 0, locals := 20 }
set_option maxHeartbeats 4000000 in
set_option maxRecDepth 100000 in
theorem c_K_make_f (l : Launch) (dC : Nat → ClassId) (dI : Nat → Nat → Nat) (q : Nat → Nat) (cI cL : ClassId) (supply : Int64) (pot : Int64) (apl : Int32) (own : Nat → Int32) (amt : Nat → Int64) (tag : Nat → Int64) (mad : Nat → Int32) (spt : Nat → Int32) (made : Nat) (dsp : Nat → Int32) (dow : Nat → Int32) (dam : Nat → Int64) (dtg : Nat → Int64) (sp : Nat) (mk : Nat) (mint : Int64) (dep : Nat) (sups : Nat → Int64) (pots : Nat → Int64) (apps : Nat → Int32) (row : Nat) (hgt : Nat) (und : Nat) (o : Int32) (a : Int64) (g : Int64) (hmk : mk ≤ 16) (hno : ¬ ((0 ≤ o.toInt ∧ o.toInt < 256) ∧ ¬ a < 1 ∧ mk < 16)) : Met l y_K_make w_K_make rm_K_make_f (va_Pc [.ref (q 0), .int o, .long a, .long g] (ob_B (dC, dI) vwCl (wK q cI cL supply pot apl own amt tag mad spt made dsp dow dam dtg sp mk mint dep sups pots apps row hgt und) [(cI, .int), (cL, .long)] ob_N)) (QcRead (nI 0)) 0 0 (fun _ => False) := by
  refine ob_ofW (cc := b_K_make) (maxL := 6) (ret := (some .boolean)) (own := R_K) (by decide) rfl rfl (Nat.le_of_ble_eq_true rfl) ?_
  intro p e s m args below meth c Q hQ hx hb hr hml hT hown hlocks hv ls hl
  obtain ⟨hP, hK, hN⟩ := hv
  have hl : lv_has ls 6 [(0, .ref (q 0)), (1, .int o), (2, .long a), (4, .long g)] := hl
  refine lv_iload_n hx hb d_K_make_0 rfl (lv_at hl 1 rfl) ?_
  refine lv_if_lt (tgt := 28) hx hb d_K_make_1 (by decide) (fun c_1 => ?_) (fun c_1 => ?_)
  · have t_1 := (cv_lt rfl (by decide : (0 : Int32).toInt = 0)).mp c_1
    refine lv_iconst (v := nI 0) hx hb d_K_make_28 (by decide) ?_
    exact ob_zret (v := nI 0) hx hb hr hlocks hQ (by decide) rfl d_K_make_29
  · have t_1 := mt (cv_lt rfl (by decide : (0 : Int32).toInt = 0)).mpr c_1
    refine lv_iload_n hx hb d_K_make_4 rfl (lv_at hl 1 rfl) ?_
    refine lv_sipush (v := nI 256) hx hb d_K_make_5 (by decide) ?_
    refine lv_icmp_ge (tgt := 28) hx hb d_K_make_8 (by decide) (fun c_8 => ?_) (fun c_8 => ?_)
    · have t_8 := (cv_le (nI_toInt (by omega)) rfl).mp c_8
      refine lv_iconst (v := nI 0) hx hb d_K_make_28 (by decide) ?_
      exact ob_zret (v := nI 0) hx hb hr hlocks hQ (by decide) rfl d_K_make_29
    · have t_8 := mt (cv_le (nI_toInt (by omega)) rfl).mpr c_8
      refine lv_lload_n hx hb d_K_make_11 rfl (lv_at hl 2 rfl) ?_
      refine lv_lconst (v := 1) hx hb d_K_make_12 (by decide) ?_
      refine W.lcmp hx hb d_K_make_13 ?_
      refine lv_if_lt (tgt := 28) hx hb d_K_make_14 (by decide) (fun c_14 => ?_) (fun c_14 => ?_)
      · have c_14 := (lg_cmp_lt _ _).mp c_14
        refine lv_iconst (v := nI 0) hx hb d_K_make_28 (by decide) ?_
        exact ob_zret (v := nI 0) hx hb hr hlocks hQ (by decide) rfl d_K_make_29
      · have c_14 := mt (lg_cmp_lt _ _).mpr c_14
        refine lv_aload_n hx hb d_K_make_17 rfl (lv_at hl 0 rfl) ?_
        refine va_get (D := (dC, dI)) (ci := 3) (v := .ref (q 7)) (C := R_K) (T := T_K) (N := 6) hx hb hT in_K hown hK hP 0 rfl rfl 1 (by decide) (hT _ k_127) (fun _ h9 => h9) rfl d_K_make_18 ?_
        refine ob_callR (W.runV (As := []) (rest := []) ⟨hx, hb, hml, hown, hT⟩ (c_D_roomToMake l dC dI q cI cL dsp dow dam dtg sp mk mint hmk) (cwV 0 hT (ob_goodV k_178 k_179 k_180 k_11 k_181) rfl rfl rfl (by decide +kernel) ⟨Nat.le_of_ble_eq_true rfl, Nat.le_of_ble_eq_true rfl⟩) (ob_preV (wc := wD q cI cL dsp dow dam dtg sp mk mint) (q0 := 0) rfl hK hP (fun _ h => absurd h List.not_mem_nil) rfl [7, 8, 9, 10, 11] rfl rfl) rfl rfl hl.1 rfl (lv_room (Nat.le_of_ble_eq_true rfl)) d_K_make_21 ⟨Nat.zero_le _, Nat.zero_le _⟩) ?_
        refine lv_iconst (v := nI 1) hx hb d_K_make_24 (by decide) ?_
        refine lv_icmp_ge (tgt := 30) hx hb d_K_make_25 (by decide) (fun c_25 => ?_) (fun c_25 => ?_)
        · have t_25 := (cv_le (nI_toInt (by omega)) (nI_toInt (by omega))).mp c_25
          exact absurd ⟨⟨by omega, by omega⟩, c_14, by omega⟩ hno
        · have t_25 := mt (cv_le (nI_toInt (by omega)) (nI_toInt (by omega))).mpr c_25
          refine lv_iconst (v := nI 0) hx hb d_K_make_28 (by decide) ?_
          exact ob_zret (v := nI 0) hx hb hr hlocks hQ (by decide) rfl d_K_make_29
abbrev rm_K_mint : Room := { frames := 0, cells := 0, slots := 0, locals := 0 }
set_option maxHeartbeats 4000000 in
set_option maxRecDepth 100000 in
theorem c_K_mint (l : Launch) (dC : Nat → ClassId) (dI : Nat → Nat → Nat) (q : Nat → Nat) (cI cL : ClassId) (supply : Int64) (pot : Int64) (apl : Int32) (own : Nat → Int32) (amt : Nat → Int64) (tag : Nat → Int64) (mad : Nat → Int32) (spt : Nat → Int32) (made : Nat) (dsp : Nat → Int32) (dow : Nat → Int32) (dam : Nat → Int64) (dtg : Nat → Int64) (sp : Nat) (mk : Nat) (mint : Int64) (dep : Nat) (sups : Nat → Int64) (pots : Nat → Int64) (apps : Nat → Int32) (row : Nat) (hgt : Nat) (und : Nat) (a : Int64)  : Met l y_K_mint w_K_mint rm_K_mint (va_Pc [.ref (q 0), .long a] (ob_BW (dC, dI) vwCl (wK q cI cL supply pot apl own amt tag mad spt made dsp dow dam dtg sp mk mint dep sups pots apps row hgt und) [(cI, .int), (cL, .long)] ob_N)) (va_Qv (fun (_ : Unit) => True) (fun _ t => va_P (dC, dI) vwCl (wK q cI cL supply pot apl own amt tag mad spt made dsp dow dam dtg sp mk a dep sups pots apps row hgt und) t.heap) (ob_A (wK q cI cL supply pot apl own amt tag mad spt made dsp dow dam dtg sp mk mint dep sups pots apps row hgt und))) 0 0 (ob_A (wK q cI cL supply pot apl own amt tag mad spt made dsp dow dam dtg sp mk mint dep sups pots apps row hgt und)) := by
  refine ob_ofW (cc := b_K_mint) (maxL := 3) (ret := none) (own := R_K) (by decide) rfl rfl (Nat.le_of_ble_eq_true rfl) ?_
  intro p e s m args below meth c Q hQ hx hb hr hml hT hown hlocks hv ls hl
  obtain ⟨⟨hP, hK, hN⟩, hD0⟩ := hv
  have hD := ob_D_self hD0
  generalize hAe : ob_A (wK q cI cL supply pot apl own amt tag mad spt made dsp dow dam dtg sp mk mint dep sups pots apps row hgt und) = A at hQ hD
  have hS : va_S A s.heap s.heap [] := va_S.rf
  have hl : lv_has ls 3 [(0, .ref (q 0)), (1, .long a)] := hl
  refine lv_aload_n hx hb d_K_mint_0 rfl (lv_at hl 0 rfl) ?_
  refine va_get (D := (dC, dI)) (ci := 3) (v := .ref (q 7)) (C := R_K) (T := T_K) (N := 6) hx hb hT in_K hown hK hP 0 rfl rfl 1 (by decide) (hT _ k_127) (fun _ h9 => h9) rfl d_K_mint_1 ?_
  refine lv_lload_n hx hb d_K_mint_4 rfl (lv_at hl 1 rfl) ?_
  refine va_putN (D := (dC, dI)) (ci := 1) (v := .long a) (ty := .long) (C := R_D) (T := T_D) (N := 7) hx hb hT in_D t_D t_D_ok n_D hown hK hP hD hS 7 rfl rfl 6 (by decide) (va_Nw.use rfl (hN _ (List.mem_of_getElem? (i := 13) rfl))) (fun _ h9 => h9) rfl (by decide +kernel) rfl rfl (Nat.le_of_ble_eq_true rfl) d_K_mint_5 (fun H locs hP hD hS => ?_)
  have hP : va_P (dC, dI) vwCl (wK q cI cL supply pot apl own amt tag mad spt made dsp dow dam dtg sp mk a dep sups pots apps row hgt und) H := hP
  have hD : va_D A (wK q cI cL supply pot apl own amt tag mad spt made dsp dow dam dtg sp mk a dep sups pots apps row hgt und) := hD
  exact ob_vretW hx hb hr hlocks hQ hS hP rfl d_K_mint_8
abbrev rm_K_drop : Room := { frames := 1, cells := 0, slots := 0, locals := 20 }
set_option maxHeartbeats 4000000 in
set_option maxRecDepth 100000 in
theorem c_K_drop (l : Launch) (dC : Nat → ClassId) (dI : Nat → Nat → Nat) (q : Nat → Nat) (cI cL : ClassId) (supply : Int64) (pot : Int64) (apl : Int32) (own : Nat → Int32) (amt : Nat → Int64) (tag : Nat → Int64) (mad : Nat → Int32) (spt : Nat → Int32) (made : Nat) (dsp : Nat → Int32) (dow : Nat → Int32) (dam : Nat → Int64) (dtg : Nat → Int64) (sp : Nat) (mk : Nat) (mint : Int64) (dep : Nat) (sups : Nat → Int64) (pots : Nat → Int64) (apps : Nat → Int32) (row : Nat) (hgt : Nat) (und : Nat)   : Met l y_K_drop w_K_drop rm_K_drop (va_Pc [.ref (q 0)] (ob_BW (dC, dI) vwCl (wK q cI cL supply pot apl own amt tag mad spt made dsp dow dam dtg sp mk mint dep sups pots apps row hgt und) [(cI, .int), (cL, .long)] ob_N)) (va_Qv (fun (_ : Unit) => True) (fun _ t => va_P (dC, dI) vwCl (wK q cI cL supply pot apl own amt tag mad spt made dsp dow dam dtg 0 0 (0 : Int64) dep sups pots apps row hgt und) t.heap) (ob_A (wK q cI cL supply pot apl own amt tag mad spt made dsp dow dam dtg sp mk mint dep sups pots apps row hgt und))) 0 0 (ob_A (wK q cI cL supply pot apl own amt tag mad spt made dsp dow dam dtg sp mk mint dep sups pots apps row hgt und)) := by
  refine ob_ofW (cc := b_K_drop) (maxL := 1) (ret := none) (own := R_K) (by decide) rfl rfl (Nat.le_of_ble_eq_true rfl) ?_
  intro p e s m args below meth c Q hQ hx hb hr hml hT hown hlocks hv ls hl
  obtain ⟨⟨hP, hK, hN⟩, hD0⟩ := hv
  have hD := ob_D_self hD0
  generalize hAe : ob_A (wK q cI cL supply pot apl own amt tag mad spt made dsp dow dam dtg sp mk mint dep sups pots apps row hgt und) = A at hQ hD
  have hS : va_S A s.heap s.heap [] := va_S.rf
  have hl : lv_has ls 1 [(0, .ref (q 0))] := hl
  refine lv_aload_n hx hb d_K_drop_0 rfl (lv_at hl 0 rfl) ?_
  refine va_get (D := (dC, dI)) (ci := 3) (v := .ref (q 7)) (C := R_K) (T := T_K) (N := 6) hx hb hT in_K hown hK hP 0 rfl rfl 1 (by decide) (hT _ k_127) (fun _ h9 => h9) rfl d_K_drop_1 ?_
  refine ob_callWv (va_runV (As := []) (rest := []) ⟨hx, hb, hml, hown, hT⟩ (c_D_clear l dC dI q cI cL dsp dow dam dtg sp mk mint ) (cwV 0 hT (ob_goodV k_195 k_196 k_197 k_11 k_198) rfl rfl rfl (by decide +kernel) ⟨Nat.le_of_ble_eq_true rfl, Nat.le_of_ble_eq_true rfl⟩) (ob_preVW (wc := wD q cI cL dsp dow dam dtg sp mk mint) (q0 := 0) rfl hK hP hD (fun _ h => absurd h List.not_mem_nil) rfl [7, 8, 9, 10, 11] rfl rfl rfl rfl) rfl rfl hl.1 rfl (lv_room (Nat.le_of_ble_eq_true rfl)) d_K_drop_4 ⟨Nat.zero_le _, Nat.zero_le _⟩) hS hP hD [7, 8, 9, 10, 11] rfl rfl (fun H locs hP hD hS => ?_)
  have hP : va_P (dC, dI) vwCl (wK q cI cL supply pot apl own amt tag mad spt made dsp dow dam dtg 0 0 (0 : Int64) dep sups pots apps row hgt und) H := hP
  have hD : va_D A (wK q cI cL supply pot apl own amt tag mad spt made dsp dow dam dtg 0 0 (0 : Int64) dep sups pots apps row hgt und) := hD
  exact ob_vretW hx hb hr hlocks hQ hS hP rfl d_K_drop_7
abbrev rm_K_apply_n : Room := { frames := 0, cells := 0, slots := 0, locals := 0 }
set_option maxHeartbeats 4000000 in
set_option maxRecDepth 100000 in
theorem c_K_apply_n (l : Launch) (dC : Nat → ClassId) (dI : Nat → Nat → Nat) (q : Nat → Nat) (cI cL : ClassId) (supply : Int64) (pot : Int64) (apl : Int32) (own : Nat → Int32) (amt : Nat → Int64) (tag : Nat → Int64) (mad : Nat → Int32) (spt : Nat → Int32) (made : Nat) (dsp : Nat → Int32) (dow : Nat → Int32) (dam : Nat → Int64) (dtg : Nat → Int64) (sp : Nat) (mk : Nat) (mint : Int64) (dep : Nat) (sups : Nat → Int64) (pots : Nat → Int64) (apps : Nat → Int32) (row : Nat) (hgt : Nat) (und : Nat)  (h1 : sp = 0) (h2 : mk = 0) : Met l y_K_apply w_K_apply rm_K_apply_n (va_Pc [.ref (q 0)] (ob_B (dC, dI) vwCl (wK q cI cL supply pot apl own amt tag mad spt made dsp dow dam dtg sp mk mint dep sups pots apps row hgt und) [(cI, .int), (cL, .long)] ob_N)) (QcReadL ((-1 : Int64))) 0 0 (fun _ => False) := by
  refine ob_ofW (cc := b_K_apply) (maxL := 3) (ret := (some .long)) (own := R_K) (by decide) rfl rfl (Nat.le_of_ble_eq_true rfl) ?_
  intro p e s m args below meth c Q hQ hx hb hr hml hT hown hlocks hv ls hl
  obtain ⟨hP, hK, hN⟩ := hv
  have hl : lv_has ls 3 [(0, .ref (q 0))] := hl
  refine lv_aload_n hx hb d_K_apply_0 rfl (lv_at hl 0 rfl) ?_
  refine va_get (D := (dC, dI)) (ci := 3) (v := .ref (q 7)) (C := R_K) (T := T_K) (N := 6) hx hb hT in_K hown hK hP 0 rfl rfl 1 (by decide) (hT _ k_127) (fun _ h9 => h9) rfl d_K_apply_1 ?_
  refine va_getN (D := (dC, dI)) (ci := 1) (v := .int (nI sp)) (C := R_D) (T := T_D) (N := 7) hx hb hT in_D hown hK hP 7 rfl rfl 4 (by decide) (va_Nw.use rfl (hN _ (List.mem_of_getElem? (i := 11) rfl))) (fun _ h9 => h9) rfl d_K_apply_4 ?_
  refine lv_if_ne (tgt := 24) hx hb d_K_apply_7 (by decide) (fun c_7 => ?_) (fun c_7 => ?_)
  · have t_7 := mt (cv_eq (nI_toInt (by omega)) (by decide : (0 : Int32).toInt = 0)).mpr c_7
    exact absurd t_7 (by omega)
  · have t_7 := (cv_eq (nI_toInt (by omega)) (by decide : (0 : Int32).toInt = 0)).mp c_7
    refine lv_aload_n hx hb d_K_apply_10 rfl (lv_at hl 0 rfl) ?_
    refine va_get (D := (dC, dI)) (ci := 3) (v := .ref (q 7)) (C := R_K) (T := T_K) (N := 6) hx hb hT in_K hown hK hP 0 rfl rfl 1 (by decide) (hT _ k_127) (fun _ h9 => h9) rfl d_K_apply_11 ?_
    refine va_getN (D := (dC, dI)) (ci := 1) (v := .int (nI mk)) (C := R_D) (T := T_D) (N := 7) hx hb hT in_D hown hK hP 7 rfl rfl 5 (by decide) (va_Nw.use rfl (hN _ (List.mem_of_getElem? (i := 12) rfl))) (fun _ h9 => h9) rfl d_K_apply_14 ?_
    refine lv_if_ne (tgt := 24) hx hb d_K_apply_17 (by decide) (fun c_17 => ?_) (fun c_17 => ?_)
    · have t_17 := mt (cv_eq (nI_toInt (by omega)) (by decide : (0 : Int32).toInt = 0)).mpr c_17
      exact absurd t_17 (by omega)
    · have t_17 := (cv_eq (nI_toInt (by omega)) (by decide : (0 : Int32).toInt = 0)).mp c_17
      refine lv_ldc2 (v := -1) hx hb hown (hT _ k_203) d_K_apply_20 ?_
      exact ob_lret (v := (-1 : Int64)) hx hb hr hlocks hQ rfl d_K_apply_23
