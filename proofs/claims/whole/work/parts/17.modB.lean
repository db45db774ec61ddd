abbrev rm_M_apply_n : Room := { frames := 0, cells := 0, slots := 0, locals := 0 }
set_option maxHeartbeats 4000000 in
set_option maxRecDepth 100000 in
theorem c_M_apply_n (l : Launch) (dC : Nat → ClassId) (dI : Nat → Nat → Nat) (q : Nat → Nat) (cI cL : ClassId) (own : Nat → Int32) (amt : Nat → Int64) (tag : Nat → Int64) (mad : Nat → Int32) (spt : Nat → Int32) (made : Nat) (dsp : Nat → Int32) (dow : Nat → Int32) (dam : Nat → Int64) (dtg : Nat → Int64) (sp : Nat) (mk : Nat) (mint : Int64) (dep : Nat) (hgt : Nat) (und : Nat) (supply : Int64) (pot : Int64) (apl : Int32) (fes : Nat → Int64) (mns : Nat → Int64) (tms : Nat → Int32) (pic : Nat → Int32)  (h1 : sp = 0) (h2 : mk = 0) : Met l y_M_apply w_M_apply rm_M_apply_n (va_Pc [.ref (q 0)] (ob_BW (dC, dI) vwCl (wM q cI cL own amt tag mad spt made dsp dow dam dtg sp mk mint dep hgt und supply pot apl fes mns tms pic) [(cI, .int), (cL, .long)] [])) (va_Ql (fun (r : Int64) (_ : Unit) => r = (-1 : Int64)) (fun _ t => va_P (dC, dI) vwCl (wM q cI cL own amt tag mad spt made dsp dow dam dtg sp mk mint dep hgt und supply pot apl fes mns tms pic) t.heap) (ob_A (wM q cI cL own amt tag mad spt made dsp dow dam dtg sp mk mint dep hgt und supply pot apl fes mns tms pic))) 0 0 (ob_A (wM q cI cL own amt tag mad spt made dsp dow dam dtg sp mk mint dep hgt und supply pot apl fes mns tms pic)) := by
  refine ob_ofW (cc := b_M_apply) (maxL := 4) (ret := (some .long)) (own := R_M) (by decide) rfl rfl (Nat.le_of_ble_eq_true rfl) ?_
  intro p e s m args below meth c Q hQ hx hb hr hml hT hown hlocks hv ls hl
  obtain ⟨⟨hP, hK, hN⟩, hD0⟩ := hv
  have hD := ob_D_self hD0
  generalize hAe : ob_A (wM q cI cL own amt tag mad spt made dsp dow dam dtg sp mk mint dep hgt und supply pot apl fes mns tms pic) = A at hQ hD
  have hS : va_S A s.heap s.heap [] := va_S.rf
  have hl : lv_has ls 4 [(0, .ref (q 0))] := hl
  refine lv_aload_n hx hb d_M_apply_0 rfl (lv_at hl 0 rfl) ?_
  refine lv_iconst (v := nI 0) hx hb d_M_apply_1 (by decide) ?_
  refine va_put (D := (dC, dI)) (ci := 4) (v := .int (nI 0)) (ty := .int) (C := R_M) (T := T_M) (N := 24) hx hb hT in_M t_M t_M_ok n_M hown hK hP hD hS 0 rfl rfl 0 (by decide) (hT _ k_325) (fun _ h9 => h9) rfl (by decide +kernel) rfl rfl (Nat.le_of_ble_eq_true rfl) d_M_apply_2 (fun H locs hP hD hS => ?_)
  have hP : va_P (dC, dI) vwCl (wM q cI cL own amt tag mad spt made dsp dow dam dtg sp mk mint dep hgt und supply pot apl fes mns tms pic) H := hP
  have hD : va_D A (wM q cI cL own amt tag mad spt made dsp dow dam dtg sp mk mint dep hgt und supply pot apl fes mns tms pic) := hD
  refine lv_aload_n hx hb d_M_apply_5 rfl (lv_at hl 0 rfl) ?_
  refine va_get (D := (dC, dI)) (ci := 4) (v := .int (nI sp)) (C := R_M) (T := T_M) (N := 24) hx hb hT in_M hown hK hP 0 rfl rfl 16 (by decide) (hT _ k_341) (fun _ h9 => h9) rfl d_M_apply_6 ?_
  refine lv_if_ne (tgt := 23) hx hb d_M_apply_9 (by decide) (fun c_9 => ?_) (fun c_9 => ?_)
  · have t_9 := mt (cv_eq (nI_toInt (by omega)) (by decide : (0 : Int32).toInt = 0)).mpr c_9
    exact absurd t_9 (by omega)
  · have t_9 := (cv_eq (nI_toInt (by omega)) (by decide : (0 : Int32).toInt = 0)).mp c_9
    refine lv_aload_n hx hb d_M_apply_12 rfl (lv_at hl 0 rfl) ?_
    refine va_get (D := (dC, dI)) (ci := 4) (v := .int (nI mk)) (C := R_M) (T := T_M) (N := 24) hx hb hT in_M hown hK hP 0 rfl rfl 18 (by decide) (hT _ k_343) (fun _ h9 => h9) rfl d_M_apply_13 ?_
    refine lv_if_ne (tgt := 23) hx hb d_M_apply_16 (by decide) (fun c_16 => ?_) (fun c_16 => ?_)
    · have t_16 := mt (cv_eq (nI_toInt (by omega)) (by decide : (0 : Int32).toInt = 0)).mpr c_16
      exact absurd t_16 (by omega)
    · have t_16 := (cv_eq (nI_toInt (by omega)) (by decide : (0 : Int32).toInt = 0)).mp c_16
      refine lv_ldc2 (v := -1) hx hb hown (hT _ k_437) d_M_apply_19 ?_
      exact ob_lretW (v := (-1 : Int64)) hx hb hr hlocks hQ hS hP rfl rfl d_M_apply_22
abbrev rm_M_apply_c : Room := { frames := 0, cells := 0, slots := 0, locals := 0 }
set_option maxHeartbeats 4000000 in
set_option maxRecDepth 100000 in
theorem c_M_apply_c (l : Launch) (dC : Nat → ClassId) (dI : Nat → Nat → Nat) (q : Nat → Nat) (cI cL : ClassId) (own : Nat → Int32) (amt : Nat → Int64) (tag : Nat → Int64) (mad : Nat → Int32) (spt : Nat → Int32) (made : Nat) (dsp : Nat → Int32) (dow : Nat → Int32) (dam : Nat → Int64) (dtg : Nat → Int64) (sp : Nat) (mk : Nat) (mint : Int64) (dep : Nat) (hgt : Nat) (und : Nat) (supply : Int64) (pot : Int64) (apl : Int32) (fes : Nat → Int64) (mns : Nat → Int64) (tms : Nat → Int32) (pic : Nat → Int32)  (hm : made ≤ 2048) (hsp : sp ≤ 16) (hmk : mk ≤ 16) (hhg : hgt ≤ 1000) (hdr : ∀ i, i < sp → p_has made (dsp i)) (h1 : ¬ (sp = 0 ∧ mk = 0)) (h2 : ¬ 0 ≤ f_fee supply mint amt made dsp sp dam mk) : Met l y_M_apply w_M_apply rm_M_apply_c (va_Pc [.ref (q 0)] (ob_BW (dC, dI) vwCl (wM q cI cL own amt tag mad spt made dsp dow dam dtg sp mk mint dep hgt und supply pot apl fes mns tms pic) [(cI, .int), (cL, .long)] [])) (va_Ql (fun (r : Int64) (_ : Unit) => r = (-2 : Int64)) (fun _ t => va_P (dC, dI) vwCl (wM q cI cL own amt tag mad spt made dsp dow dam dtg sp mk mint dep hgt und supply pot apl fes mns tms pic) t.heap) (ob_A (wM q cI cL own amt tag mad spt made dsp dow dam dtg sp mk mint dep hgt und supply pot apl fes mns tms pic))) 0 0 (ob_A (wM q cI cL own amt tag mad spt made dsp dow dam dtg sp mk mint dep hgt und supply pot apl fes mns tms pic)) := by
  refine ob_ofW (cc := b_M_apply) (maxL := 4) (ret := (some .long)) (own := R_M) (by decide) rfl rfl (Nat.le_of_ble_eq_true rfl) ?_
  intro p e s m args below meth c Q hQ hx hb hr hml hT hown hlocks hv ls hl
  obtain ⟨⟨hP, hK, hN⟩, hD0⟩ := hv
  have hD := ob_D_self hD0
  generalize hAe : ob_A (wM q cI cL own amt tag mad spt made dsp dow dam dtg sp mk mint dep hgt und supply pot apl fes mns tms pic) = A at hQ hD
  have hS : va_S A s.heap s.heap [] := va_S.rf
  have hl : lv_has ls 4 [(0, .ref (q 0))] := hl
  refine lv_aload_n hx hb d_M_apply_0 rfl (lv_at hl 0 rfl) ?_
  refine lv_iconst (v := nI 0) hx hb d_M_apply_1 (by decide) ?_
  refine va_put (D := (dC, dI)) (ci := 4) (v := .int (nI 0)) (ty := .int) (C := R_M) (T := T_M) (N := 24) hx hb hT in_M t_M t_M_ok n_M hown hK hP hD hS 0 rfl rfl 0 (by decide) (hT _ k_325) (fun _ h9 => h9) rfl (by decide +kernel) rfl rfl (Nat.le_of_ble_eq_true rfl) d_M_apply_2 (fun H locs hP hD hS => ?_)
  have hP : va_P (dC, dI) vwCl (wM q cI cL own amt tag mad spt made dsp dow dam dtg sp mk mint dep hgt und supply pot apl fes mns tms pic) H := hP
  have hD : va_D A (wM q cI cL own amt tag mad spt made dsp dow dam dtg sp mk mint dep hgt und supply pot apl fes mns tms pic) := hD
  refine lv_aload_n hx hb d_M_apply_5 rfl (lv_at hl 0 rfl) ?_
  refine va_get (D := (dC, dI)) (ci := 4) (v := .int (nI sp)) (C := R_M) (T := T_M) (N := 24) hx hb hT in_M hown hK hP 0 rfl rfl 16 (by decide) (hT _ k_341) (fun _ h9 => h9) rfl d_M_apply_6 ?_
  refine lv_if_ne (tgt := 23) hx hb d_M_apply_9 (by decide) (fun c_9 => ?_) (fun c_9 => ?_)
  · have t_9 := mt (cv_eq (nI_toInt (by omega)) (by decide : (0 : Int32).toInt = 0)).mpr c_9
    refine lv_aload_n hx hb d_M_apply_23 rfl (lv_at hl 0 rfl) ?_
    refine va_get (D := (dC, dI)) (ci := 4) (v := .long mint) (C := R_M) (T := T_M) (N := 24) hx hb hT in_M hown hK hP 0 rfl rfl 22 (by decide) (hT _ k_347) (fun _ h9 => h9) rfl d_M_apply_24 ?_
    refine lv_ldc2 (v := 4611686018427387904) hx hb hown (hT _ k_438) d_M_apply_27 ?_
    refine lv_aload_n hx hb d_M_apply_30 rfl (lv_at hl 0 rfl) ?_
    refine va_get (D := (dC, dI)) (ci := 4) (v := .long supply) (C := R_M) (T := T_M) (N := 24) hx hb hT in_M hown hK hP 0 rfl rfl 11 (by decide) (hT _ k_336) (fun _ h9 => h9) rfl d_M_apply_31 ?_
    refine lv_lsub hx hb d_M_apply_34 ?_
    refine W.lcmp hx hb d_M_apply_35 ?_
    refine lv_if_gt (tgt := 52) hx hb d_M_apply_36 (by decide) (fun c_36 => ?_) (fun c_36 => ?_)
    · have c_36 := (lg_cmp_gt _ _).mp c_36
      refine lv_ldc2 (v := -2) hx hb hown (hT _ k_439) d_M_apply_52 ?_
      exact ob_lretW (v := (-2 : Int64)) hx hb hr hlocks hQ hS hP rfl rfl d_M_apply_55
    · have c_36 := mt (lg_cmp_gt _ _).mpr c_36
      refine lv_aload_n hx hb d_M_apply_39 rfl (lv_at hl 0 rfl) ?_
      refine va_get (D := (dC, dI)) (ci := 4) (v := .long mint) (C := R_M) (T := T_M) (N := 24) hx hb hT in_M hown hK hP 0 rfl rfl 22 (by decide) (hT _ k_347) (fun _ h9 => h9) rfl d_M_apply_40 ?_
      refine lv_aload_n hx hb d_M_apply_43 rfl (lv_at hl 0 rfl) ?_
      refine va_get (D := (dC, dI)) (ci := 4) (v := .long supply) (C := R_M) (T := T_M) (N := 24) hx hb hT in_M hown hK hP 0 rfl rfl 11 (by decide) (hT _ k_336) (fun _ h9 => h9) rfl d_M_apply_44 ?_
      refine lv_lneg hx hb d_M_apply_47 ?_
      refine W.lcmp hx hb d_M_apply_48 ?_
      refine lv_if_ge (tgt := 56) hx hb d_M_apply_49 (by decide) (fun c_49 => ?_) (fun c_49 => ?_)
      · have c_49 := (lg_cmp_ge _ _).mp c_49
        refine lv_aload_n hx hb d_M_apply_56 rfl (lv_at hl 0 rfl) ?_
        refine va_get (D := (dC, dI)) (ci := 4) (v := .long mint) (C := R_M) (T := T_M) (N := 24) hx hb hT in_M hown hK hP 0 rfl rfl 22 (by decide) (hT _ k_347) (fun _ h9 => h9) rfl d_M_apply_57 ?_
        refine lv_lstore_n (lv' := [(1, .long mint), (0, .ref (q 0))]) hx hb d_M_apply_60 rfl hl (by decide) rfl (fun ls hl => ?_)
        refine lv_iconst (v := nI 0) hx hb d_M_apply_61 (by decide) ?_
        refine lv_istore_n (lv' := [(3, .int (nI 0)), (1, .long mint), (0, .ref (q 0))]) hx hb d_M_apply_62 rfl hl (by decide) rfl (fun ls hl => ?_)
        have key_63 : ∀ (n : Nat) (i : Nat) (left : Int64) (H : Heap) (locs : List Loc) (ls : Array Slot), sp - i < n → (i ≤ sp) → (left = f_gain amt made dsp mint i) → va_P (dC, dI) vwCl (wM q cI cL own amt tag mad spt made dsp dow dam dtg sp mk mint dep hgt und supply pot apl fes mns tms pic) H → va_D A (wM q cI cL own amt tag mad spt made dsp dow dam dtg sp mk mint dep hgt und supply pot apl fes mns tms pic) → va_S A s.heap H locs → lv_has ls 4 [(3, .int (nI i)), (1, .long left), (0, .ref (q 0))] → W p l e rm_M_apply_c s m args below meth c H locs 0 0 Q (F0 m 63 ls []) := by
          intro n_63
          induction n_63 with
          | zero => intro i left H locs ls h; exact absurd h (Nat.not_lt_zero _)
          | succ n_63 ih_63 =>
            intro i left H locs ls hn_63 hi hlf hP hD hS hl
            refine lv_iload_n hx hb d_M_apply_63 rfl (lv_at hl 0 rfl) ?_
            refine lv_aload_n hx hb d_M_apply_64 rfl (lv_at hl 2 rfl) ?_
            refine va_get (D := (dC, dI)) (ci := 4) (v := .int (nI sp)) (C := R_M) (T := T_M) (N := 24) hx hb hT in_M hown hK hP 0 rfl rfl 16 (by decide) (hT _ k_341) (fun _ h9 => h9) rfl d_M_apply_65 ?_
            refine lv_icmp_ge (tgt := 91) hx hb d_M_apply_68 (by decide) (fun c_68 => ?_) (fun c_68 => ?_)
            · have t_68 := (cv_le (nI_toInt (by omega)) (nI_toInt (by omega))).mp c_68
              refine lv_iconst (v := nI 0) hx hb d_M_apply_91 (by decide) ?_
              refine lv_istore_n (lv' := [(3, .int (nI 0)), (1, .long left), (0, .ref (q 0))]) hx hb d_M_apply_92 rfl hl (by decide) rfl (fun ls hl => ?_)
              have key_93 : ∀ (n : Nat) (j : Nat) (lf2 : Int64) (H : Heap) (locs : List Loc) (ls : Array Slot), mk - j < n → (j ≤ mk) → (f_less dam (mk - j) j lf2 = f_less dam mk 0 (f_gain amt made dsp mint sp)) → va_P (dC, dI) vwCl (wM q cI cL own amt tag mad spt made dsp dow dam dtg sp mk mint dep hgt und supply pot apl fes mns tms pic) H → va_D A (wM q cI cL own amt tag mad spt made dsp dow dam dtg sp mk mint dep hgt und supply pot apl fes mns tms pic) → va_S A s.heap H locs → lv_has ls 4 [(3, .int (nI j)), (1, .long lf2), (0, .ref (q 0))] → W p l e rm_M_apply_c s m args below meth c H locs 0 0 Q (F0 m 93 ls []) := by
                intro n_93
                induction n_93 with
                | zero => intro j lf2 H locs ls h; exact absurd h (Nat.not_lt_zero _)
                | succ n_93 ih_93 =>
                  intro j lf2 H locs ls hn_93 hj hres hP hD hS hl
                  refine lv_iload_n hx hb d_M_apply_93 rfl (lv_at hl 0 rfl) ?_
                  refine lv_aload_n hx hb d_M_apply_94 rfl (lv_at hl 2 rfl) ?_
                  refine va_get (D := (dC, dI)) (ci := 4) (v := .int (nI mk)) (C := R_M) (T := T_M) (N := 24) hx hb hT in_M hown hK hP 0 rfl rfl 18 (by decide) (hT _ k_343) (fun _ h9 => h9) rfl d_M_apply_95 ?_
                  refine lv_icmp_ge (tgt := 131) hx hb d_M_apply_98 (by decide) (fun c_98 => ?_) (fun c_98 => ?_)
                  · have t_98 := (cv_le (nI_toInt (by omega)) (nI_toInt (by omega))).mp c_98
                    have hfee : f_fee supply mint amt made dsp sp dam mk = lf2 := by rw [f_fee_go (fun h => h.elim (fun z => Int64.not_lt.mpr c_49 z) (fun z => z (Int64.not_lt.mp c_36))), ← hres, show mk - j = 0 by omega]; rfl
                    refine lv_lload_n hx hb d_M_apply_131 rfl (lv_at hl 1 rfl) ?_
                    refine lv_lconst (v := 0) hx hb d_M_apply_132 (by decide) ?_
                    refine W.lcmp hx hb d_M_apply_133 ?_
                    refine lv_if_ge (tgt := 141) hx hb d_M_apply_134 (by decide) (fun c_134 => ?_) (fun c_134 => ?_)
                    · have c_134 := (lg_cmp_ge _ _).mp c_134
                      exact absurd (by rw [hfee]; exact c_134) h2
                    · have c_134 := mt (lg_cmp_ge _ _).mpr c_134
                      refine lv_ldc2 (v := -2) hx hb hown (hT _ k_439) d_M_apply_137 ?_
                      exact ob_lretW (v := (-2 : Int64)) hx hb hr hlocks hQ hS hP rfl rfl d_M_apply_140
                  · have t_98 := mt (cv_le (nI_toInt (by omega)) (nI_toInt (by omega))).mpr c_98
                    refine lv_aload_n hx hb d_M_apply_101 rfl (lv_at hl 2 rfl) ?_
                    refine va_get (D := (dC, dI)) (ci := 4) (v := .ref (q 11)) (C := R_M) (T := T_M) (N := 24) hx hb hT in_M hown hK hP 0 rfl rfl 20 (by decide) (hT _ k_345) (fun _ h9 => h9) rfl d_M_apply_102 ?_
                    refine lv_iload_n hx hb d_M_apply_105 rfl (lv_at hl 0 rfl) ?_
                    refine ob_lald hx hb hK hP 11 1 rfl rfl (j := j) (nI_clamp (by omega)) (cv_in (nI_toInt (by omega)) (by omega)) d_M_apply_106 ?_
                    refine lv_lload_n hx hb d_M_apply_107 rfl (lv_at hl 1 rfl) ?_
                    refine W.lcmp hx hb d_M_apply_108 ?_
                    refine lv_if_le (tgt := 116) hx hb d_M_apply_109 (by decide) (fun c_109 => ?_) (fun c_109 => ?_)
                    · have c_109 := (lg_cmp_le _ _).mp c_109
                      refine lv_lload_n hx hb d_M_apply_116 rfl (lv_at hl 1 rfl) ?_
                      refine lv_aload_n hx hb d_M_apply_117 rfl (lv_at hl 2 rfl) ?_
                      refine va_get (D := (dC, dI)) (ci := 4) (v := .ref (q 11)) (C := R_M) (T := T_M) (N := 24) hx hb hT in_M hown hK hP 0 rfl rfl 20 (by decide) (hT _ k_345) (fun _ h9 => h9) rfl d_M_apply_118 ?_
                      refine lv_iload_n hx hb d_M_apply_121 rfl (lv_at hl 0 rfl) ?_
                      refine ob_lald hx hb hK hP 11 1 rfl rfl (j := j) (nI_clamp (by omega)) (cv_in (nI_toInt (by omega)) (by omega)) d_M_apply_122 ?_
                      refine lv_lsub hx hb d_M_apply_123 ?_
                      refine lv_lstore_n (lv' := [(1, .long (lf2 - (dam j))), (3, .int (nI j)), (0, .ref (q 0))]) hx hb d_M_apply_124 rfl hl (by decide) rfl (fun ls hl => ?_)
                      refine lv_iinc (v := nI (j + 1)) (lv' := [(3, .int (nI (j + 1))), (1, .long (lf2 - (dam j))), (0, .ref (q 0))]) hx hb d_M_apply_125 hl (k := 1) rfl (nI_add j 1) (by decide) rfl (fun ls hl => ?_)
                      refine lv_goto (tgt := 93) hx hb d_M_apply_128 (by decide) ?_
                      exact ih_93 (j + 1) (lf2 - (dam j)) _ _ _ (by omega) (by omega) (by rw [← hres, f_less_go (by omega) c_109]) hP hD hS (lv_sub hl [0, 1, 2] rfl)
                    · have c_109 := mt (lg_cmp_le _ _).mpr c_109
                      refine lv_ldc2 (v := -2) hx hb hown (hT _ k_439) d_M_apply_112 ?_
                      exact ob_lretW (v := (-2 : Int64)) hx hb hr hlocks hQ hS hP rfl rfl d_M_apply_115
              exact key_93 _ 0 left _ _ _ (Nat.lt_succ_self _) (Nat.zero_le _) (by rw [hlf, show i = sp by omega]; rfl) hP hD hS (lv_sub hl [0, 1, 2] rfl)
            · have t_68 := mt (cv_le (nI_toInt (by omega)) (nI_toInt (by omega))).mpr c_68
              refine lv_lload_n hx hb d_M_apply_71 rfl (lv_at hl 1 rfl) ?_
              refine lv_aload_n hx hb d_M_apply_72 rfl (lv_at hl 2 rfl) ?_
              refine va_get (D := (dC, dI)) (ci := 4) (v := .ref (q 2)) (C := R_M) (T := T_M) (N := 24) hx hb hT in_M hown hK hP 0 rfl rfl 4 (by decide) (hT _ k_329) (fun _ h9 => h9) rfl d_M_apply_73 ?_
              refine lv_aload_n hx hb d_M_apply_76 rfl (lv_at hl 2 rfl) ?_
              refine va_get (D := (dC, dI)) (ci := 4) (v := .ref (q 9)) (C := R_M) (T := T_M) (N := 24) hx hb hT in_M hown hK hP 0 rfl rfl 17 (by decide) (hT _ k_342) (fun _ h9 => h9) rfl d_M_apply_77 ?_
              refine lv_iload_n hx hb d_M_apply_80 rfl (lv_at hl 0 rfl) ?_
              refine ob_iald hx hb hK hP 9 0 rfl rfl (j := i) (nI_clamp (by omega)) (cv_in (nI_toInt (by omega)) (by omega)) d_M_apply_81 ?_
              refine ob_lald hx hb hK hP 2 1 rfl rfl (j := (dsp i).toNatClampNeg) rfl (cv_in rfl (by have := hdr i (by omega); omega)) d_M_apply_82 ?_
              refine lv_ladd hx hb d_M_apply_83 ?_
              refine lv_lstore_n (lv' := [(1, .long (left + (amt ((dsp i).toNatClampNeg)))), (3, .int (nI i)), (0, .ref (q 0))]) hx hb d_M_apply_84 rfl hl (by decide) rfl (fun ls hl => ?_)
              refine lv_iinc (v := nI (i + 1)) (lv' := [(3, .int (nI (i + 1))), (1, .long (left + (amt ((dsp i).toNatClampNeg)))), (0, .ref (q 0))]) hx hb d_M_apply_85 hl (k := 1) rfl (nI_add i 1) (by decide) rfl (fun ls hl => ?_)
              refine lv_goto (tgt := 63) hx hb d_M_apply_88 (by decide) ?_
              exact ih_63 (i + 1) (left + (amt ((dsp i).toNatClampNeg))) _ _ _ (by omega) (by omega) (by rw [hlf, f_gain, f_amt, if_pos (hdr i (by omega))]) hP hD hS (lv_sub hl [0, 1, 2] rfl)
        exact key_63 _ 0 mint _ _ _ (Nat.lt_succ_self _) (Nat.zero_le _) rfl hP hD hS (lv_sub hl [0, 1, 2] rfl)
      · have c_49 := mt (lg_cmp_ge _ _).mpr c_49
        refine lv_ldc2 (v := -2) hx hb hown (hT _ k_439) d_M_apply_52 ?_
        exact ob_lretW (v := (-2 : Int64)) hx hb hr hlocks hQ hS hP rfl rfl d_M_apply_55
  · have t_9 := (cv_eq (nI_toInt (by omega)) (by decide : (0 : Int32).toInt = 0)).mp c_9
    refine lv_aload_n hx hb d_M_apply_12 rfl (lv_at hl 0 rfl) ?_
    refine va_get (D := (dC, dI)) (ci := 4) (v := .int (nI mk)) (C := R_M) (T := T_M) (N := 24) hx hb hT in_M hown hK hP 0 rfl rfl 18 (by decide) (hT _ k_343) (fun _ h9 => h9) rfl d_M_apply_13 ?_
    refine lv_if_ne (tgt := 23) hx hb d_M_apply_16 (by decide) (fun c_16 => ?_) (fun c_16 => ?_)
    · have t_16 := mt (cv_eq (nI_toInt (by omega)) (by decide : (0 : Int32).toInt = 0)).mpr c_16
      refine lv_aload_n hx hb d_M_apply_23 rfl (lv_at hl 0 rfl) ?_
      refine va_get (D := (dC, dI)) (ci := 4) (v := .long mint) (C := R_M) (T := T_M) (N := 24) hx hb hT in_M hown hK hP 0 rfl rfl 22 (by decide) (hT _ k_347) (fun _ h9 => h9) rfl d_M_apply_24 ?_
      refine lv_ldc2 (v := 4611686018427387904) hx hb hown (hT _ k_438) d_M_apply_27 ?_
      refine lv_aload_n hx hb d_M_apply_30 rfl (lv_at hl 0 rfl) ?_
      refine va_get (D := (dC, dI)) (ci := 4) (v := .long supply) (C := R_M) (T := T_M) (N := 24) hx hb hT in_M hown hK hP 0 rfl rfl 11 (by decide) (hT _ k_336) (fun _ h9 => h9) rfl d_M_apply_31 ?_
      refine lv_lsub hx hb d_M_apply_34 ?_
      refine W.lcmp hx hb d_M_apply_35 ?_
      refine lv_if_gt (tgt := 52) hx hb d_M_apply_36 (by decide) (fun c_36 => ?_) (fun c_36 => ?_)
      · have c_36 := (lg_cmp_gt _ _).mp c_36
        refine lv_ldc2 (v := -2) hx hb hown (hT _ k_439) d_M_apply_52 ?_
        exact ob_lretW (v := (-2 : Int64)) hx hb hr hlocks hQ hS hP rfl rfl d_M_apply_55
      · have c_36 := mt (lg_cmp_gt _ _).mpr c_36
        refine lv_aload_n hx hb d_M_apply_39 rfl (lv_at hl 0 rfl) ?_
        refine va_get (D := (dC, dI)) (ci := 4) (v := .long mint) (C := R_M) (T := T_M) (N := 24) hx hb hT in_M hown hK hP 0 rfl rfl 22 (by decide) (hT _ k_347) (fun _ h9 => h9) rfl d_M_apply_40 ?_
        refine lv_aload_n hx hb d_M_apply_43 rfl (lv_at hl 0 rfl) ?_
        refine va_get (D := (dC, dI)) (ci := 4) (v := .long supply) (C := R_M) (T := T_M) (N := 24) hx hb hT in_M hown hK hP 0 rfl rfl 11 (by decide) (hT _ k_336) (fun _ h9 => h9) rfl d_M_apply_44 ?_
        refine lv_lneg hx hb d_M_apply_47 ?_
        refine W.lcmp hx hb d_M_apply_48 ?_
        refine lv_if_ge (tgt := 56) hx hb d_M_apply_49 (by decide) (fun c_49 => ?_) (fun c_49 => ?_)
        · have c_49 := (lg_cmp_ge _ _).mp c_49
          refine lv_aload_n hx hb d_M_apply_56 rfl (lv_at hl 0 rfl) ?_
          refine va_get (D := (dC, dI)) (ci := 4) (v := .long mint) (C := R_M) (T := T_M) (N := 24) hx hb hT in_M hown hK hP 0 rfl rfl 22 (by decide) (hT _ k_347) (fun _ h9 => h9) rfl d_M_apply_57 ?_
          refine lv_lstore_n (lv' := [(1, .long mint), (0, .ref (q 0))]) hx hb d_M_apply_60 rfl hl (by decide) rfl (fun ls hl => ?_)
          refine lv_iconst (v := nI 0) hx hb d_M_apply_61 (by decide) ?_
          refine lv_istore_n (lv' := [(3, .int (nI 0)), (1, .long mint), (0, .ref (q 0))]) hx hb d_M_apply_62 rfl hl (by decide) rfl (fun ls hl => ?_)
          have key_63 : ∀ (n : Nat) (i : Nat) (left : Int64) (H : Heap) (locs : List Loc) (ls : Array Slot), sp - i < n → (i ≤ sp) → (left = f_gain amt made dsp mint i) → va_P (dC, dI) vwCl (wM q cI cL own amt tag mad spt made dsp dow dam dtg sp mk mint dep hgt und supply pot apl fes mns tms pic) H → va_D A (wM q cI cL own amt tag mad spt made dsp dow dam dtg sp mk mint dep hgt und supply pot apl fes mns tms pic) → va_S A s.heap H locs → lv_has ls 4 [(3, .int (nI i)), (1, .long left), (0, .ref (q 0))] → W p l e rm_M_apply_c s m args below meth c H locs 0 0 Q (F0 m 63 ls []) := by
            intro n_63
            induction n_63 with
            | zero => intro i left H locs ls h; exact absurd h (Nat.not_lt_zero _)
            | succ n_63 ih_63 =>
              intro i left H locs ls hn_63 hi hlf hP hD hS hl
              refine lv_iload_n hx hb d_M_apply_63 rfl (lv_at hl 0 rfl) ?_
              refine lv_aload_n hx hb d_M_apply_64 rfl (lv_at hl 2 rfl) ?_
              refine va_get (D := (dC, dI)) (ci := 4) (v := .int (nI sp)) (C := R_M) (T := T_M) (N := 24) hx hb hT in_M hown hK hP 0 rfl rfl 16 (by decide) (hT _ k_341) (fun _ h9 => h9) rfl d_M_apply_65 ?_
              refine lv_icmp_ge (tgt := 91) hx hb d_M_apply_68 (by decide) (fun c_68 => ?_) (fun c_68 => ?_)
              · have t_68 := (cv_le (nI_toInt (by omega)) (nI_toInt (by omega))).mp c_68
                refine lv_iconst (v := nI 0) hx hb d_M_apply_91 (by decide) ?_
                refine lv_istore_n (lv' := [(3, .int (nI 0)), (1, .long left), (0, .ref (q 0))]) hx hb d_M_apply_92 rfl hl (by decide) rfl (fun ls hl => ?_)
                have key_93 : ∀ (n : Nat) (j : Nat) (lf2 : Int64) (H : Heap) (locs : List Loc) (ls : Array Slot), mk - j < n → (j ≤ mk) → (f_less dam (mk - j) j lf2 = f_less dam mk 0 (f_gain amt made dsp mint sp)) → va_P (dC, dI) vwCl (wM q cI cL own amt tag mad spt made dsp dow dam dtg sp mk mint dep hgt und supply pot apl fes mns tms pic) H → va_D A (wM q cI cL own amt tag mad spt made dsp dow dam dtg sp mk mint dep hgt und supply pot apl fes mns tms pic) → va_S A s.heap H locs → lv_has ls 4 [(3, .int (nI j)), (1, .long lf2), (0, .ref (q 0))] → W p l e rm_M_apply_c s m args below meth c H locs 0 0 Q (F0 m 93 ls []) := by
                  intro n_93
                  induction n_93 with
                  | zero => intro j lf2 H locs ls h; exact absurd h (Nat.not_lt_zero _)
                  | succ n_93 ih_93 =>
                    intro j lf2 H locs ls hn_93 hj hres hP hD hS hl
                    refine lv_iload_n hx hb d_M_apply_93 rfl (lv_at hl 0 rfl) ?_
                    refine lv_aload_n hx hb d_M_apply_94 rfl (lv_at hl 2 rfl) ?_
                    refine va_get (D := (dC, dI)) (ci := 4) (v := .int (nI mk)) (C := R_M) (T := T_M) (N := 24) hx hb hT in_M hown hK hP 0 rfl rfl 18 (by decide) (hT _ k_343) (fun _ h9 => h9) rfl d_M_apply_95 ?_
                    refine lv_icmp_ge (tgt := 131) hx hb d_M_apply_98 (by decide) (fun c_98 => ?_) (fun c_98 => ?_)
                    · have t_98 := (cv_le (nI_toInt (by omega)) (nI_toInt (by omega))).mp c_98
                      have hfee : f_fee supply mint amt made dsp sp dam mk = lf2 := by rw [f_fee_go (fun h => h.elim (fun z => Int64.not_lt.mpr c_49 z) (fun z => z (Int64.not_lt.mp c_36))), ← hres, show mk - j = 0 by omega]; rfl
                      refine lv_lload_n hx hb d_M_apply_131 rfl (lv_at hl 1 rfl) ?_
                      refine lv_lconst (v := 0) hx hb d_M_apply_132 (by decide) ?_
                      refine W.lcmp hx hb d_M_apply_133 ?_
                      refine lv_if_ge (tgt := 141) hx hb d_M_apply_134 (by decide) (fun c_134 => ?_) (fun c_134 => ?_)
                      · have c_134 := (lg_cmp_ge _ _).mp c_134
                        exact absurd (by rw [hfee]; exact c_134) h2
                      · have c_134 := mt (lg_cmp_ge _ _).mpr c_134
                        refine lv_ldc2 (v := -2) hx hb hown (hT _ k_439) d_M_apply_137 ?_
                        exact ob_lretW (v := (-2 : Int64)) hx hb hr hlocks hQ hS hP rfl rfl d_M_apply_140
                    · have t_98 := mt (cv_le (nI_toInt (by omega)) (nI_toInt (by omega))).mpr c_98
                      refine lv_aload_n hx hb d_M_apply_101 rfl (lv_at hl 2 rfl) ?_
                      refine va_get (D := (dC, dI)) (ci := 4) (v := .ref (q 11)) (C := R_M) (T := T_M) (N := 24) hx hb hT in_M hown hK hP 0 rfl rfl 20 (by decide) (hT _ k_345) (fun _ h9 => h9) rfl d_M_apply_102 ?_
                      refine lv_iload_n hx hb d_M_apply_105 rfl (lv_at hl 0 rfl) ?_
                      refine ob_lald hx hb hK hP 11 1 rfl rfl (j := j) (nI_clamp (by omega)) (cv_in (nI_toInt (by omega)) (by omega)) d_M_apply_106 ?_
                      refine lv_lload_n hx hb d_M_apply_107 rfl (lv_at hl 1 rfl) ?_
                      refine W.lcmp hx hb d_M_apply_108 ?_
                      refine lv_if_le (tgt := 116) hx hb d_M_apply_109 (by decide) (fun c_109 => ?_) (fun c_109 => ?_)
                      · have c_109 := (lg_cmp_le _ _).mp c_109
                        refine lv_lload_n hx hb d_M_apply_116 rfl (lv_at hl 1 rfl) ?_
                        refine lv_aload_n hx hb d_M_apply_117 rfl (lv_at hl 2 rfl) ?_
                        refine va_get (D := (dC, dI)) (ci := 4) (v := .ref (q 11)) (C := R_M) (T := T_M) (N := 24) hx hb hT in_M hown hK hP 0 rfl rfl 20 (by decide) (hT _ k_345) (fun _ h9 => h9) rfl d_M_apply_118 ?_
                        refine lv_iload_n hx hb d_M_apply_121 rfl (lv_at hl 0 rfl) ?_
                        refine ob_lald hx hb hK hP 11 1 rfl rfl (j := j) (nI_clamp (by omega)) (cv_in (nI_toInt (by omega)) (by omega)) d_M_apply_122 ?_
                        refine lv_lsub hx hb d_M_apply_123 ?_
                        refine lv_lstore_n (lv' := [(1, .long (lf2 - (dam j))), (3, .int (nI j)), (0, .ref (q 0))]) hx hb d_M_apply_124 rfl hl (by decide) rfl (fun ls hl => ?_)
                        refine lv_iinc (v := nI (j + 1)) (lv' := [(3, .int (nI (j + 1))), (1, .long (lf2 - (dam j))), (0, .ref (q 0))]) hx hb d_M_apply_125 hl (k := 1) rfl (nI_add j 1) (by decide) rfl (fun ls hl => ?_)
                        refine lv_goto (tgt := 93) hx hb d_M_apply_128 (by decide) ?_
                        exact ih_93 (j + 1) (lf2 - (dam j)) _ _ _ (by omega) (by omega) (by rw [← hres, f_less_go (by omega) c_109]) hP hD hS (lv_sub hl [0, 1, 2] rfl)
                      · have c_109 := mt (lg_cmp_le _ _).mpr c_109
                        refine lv_ldc2 (v := -2) hx hb hown (hT _ k_439) d_M_apply_112 ?_
                        exact ob_lretW (v := (-2 : Int64)) hx hb hr hlocks hQ hS hP rfl rfl d_M_apply_115
                exact key_93 _ 0 left _ _ _ (Nat.lt_succ_self _) (Nat.zero_le _) (by rw [hlf, show i = sp by omega]; rfl) hP hD hS (lv_sub hl [0, 1, 2] rfl)
              · have t_68 := mt (cv_le (nI_toInt (by omega)) (nI_toInt (by omega))).mpr c_68
                refine lv_lload_n hx hb d_M_apply_71 rfl (lv_at hl 1 rfl) ?_
                refine lv_aload_n hx hb d_M_apply_72 rfl (lv_at hl 2 rfl) ?_
                refine va_get (D := (dC, dI)) (ci := 4) (v := .ref (q 2)) (C := R_M) (T := T_M) (N := 24) hx hb hT in_M hown hK hP 0 rfl rfl 4 (by decide) (hT _ k_329) (fun _ h9 => h9) rfl d_M_apply_73 ?_
                refine lv_aload_n hx hb d_M_apply_76 rfl (lv_at hl 2 rfl) ?_
                refine va_get (D := (dC, dI)) (ci := 4) (v := .ref (q 9)) (C := R_M) (T := T_M) (N := 24) hx hb hT in_M hown hK hP 0 rfl rfl 17 (by decide) (hT _ k_342) (fun _ h9 => h9) rfl d_M_apply_77 ?_
                refine lv_iload_n hx hb d_M_apply_80 rfl (lv_at hl 0 rfl) ?_
                refine ob_iald hx hb hK hP 9 0 rfl rfl (j := i) (nI_clamp (by omega)) (cv_in (nI_toInt (by omega)) (by omega)) d_M_apply_81 ?_
                refine ob_lald hx hb hK hP 2 1 rfl rfl (j := (dsp i).toNatClampNeg) rfl (cv_in rfl (by have := hdr i (by omega); omega)) d_M_apply_82 ?_
                refine lv_ladd hx hb d_M_apply_83 ?_
                refine lv_lstore_n (lv' := [(1, .long (left + (amt ((dsp i).toNatClampNeg)))), (3, .int (nI i)), (0, .ref (q 0))]) hx hb d_M_apply_84 rfl hl (by decide) rfl (fun ls hl => ?_)
                refine lv_iinc (v := nI (i + 1)) (lv' := [(3, .int (nI (i + 1))), (1, .long (left + (amt ((dsp i).toNatClampNeg)))), (0, .ref (q 0))]) hx hb d_M_apply_85 hl (k := 1) rfl (nI_add i 1) (by decide) rfl (fun ls hl => ?_)
                refine lv_goto (tgt := 63) hx hb d_M_apply_88 (by decide) ?_
                exact ih_63 (i + 1) (left + (amt ((dsp i).toNatClampNeg))) _ _ _ (by omega) (by omega) (by rw [hlf, f_gain, f_amt, if_pos (hdr i (by omega))]) hP hD hS (lv_sub hl [0, 1, 2] rfl)
          exact key_63 _ 0 mint _ _ _ (Nat.lt_succ_self _) (Nat.zero_le _) rfl hP hD hS (lv_sub hl [0, 1, 2] rfl)
        · have c_49 := mt (lg_cmp_ge _ _).mpr c_49
          refine lv_ldc2 (v := -2) hx hb hown (hT _ k_439) d_M_apply_52 ?_
          exact ob_lretW (v := (-2 : Int64)) hx hb hr hlocks hQ hS hP rfl rfl d_M_apply_55
    · have t_16 := (cv_eq (nI_toInt (by omega)) (by decide : (0 : Int32).toInt = 0)).mp c_16
      exact absurd h1 (by omega)
abbrev rm_M_apply_r : Room := { frames := 0, cells := 0, slots := 0, locals := 0 }
set_option maxHeartbeats 4000000 in
set_option maxRecDepth 100000 in
theorem c_M_apply_r (l : Launch) (dC : Nat → ClassId) (dI : Nat → Nat → Nat) (q : Nat → Nat) (cI cL : ClassId) (own : Nat → Int32) (amt : Nat → Int64) (tag : Nat → Int64) (mad : Nat → Int32) (spt : Nat → Int32) (made : Nat) (dsp : Nat → Int32) (dow : Nat → Int32) (dam : Nat → Int64) (dtg : Nat → Int64) (sp : Nat) (mk : Nat) (mint : Int64) (dep : Nat) (hgt : Nat) (und : Nat) (supply : Int64) (pot : Int64) (apl : Int32) (fes : Nat → Int64) (mns : Nat → Int64) (tms : Nat → Int32) (pic : Nat → Int32)  (hm : made ≤ 2048) (hsp : sp ≤ 16) (hmk : mk ≤ 16) (hhg : hgt ≤ 1000) (hdr : ∀ i, i < sp → p_has made (dsp i)) (h1 : ¬ (sp = 0 ∧ mk = 0)) (h2 : 0 ≤ f_fee supply mint amt made dsp sp dam mk) (h3 : 2048 < made + mk) : Met l y_M_apply w_M_apply rm_M_apply_r (va_Pc [.ref (q 0)] (ob_BW (dC, dI) vwCl (wM q cI cL own amt tag mad spt made dsp dow dam dtg sp mk mint dep hgt und supply pot apl fes mns tms pic) [(cI, .int), (cL, .long)] [])) (va_Ql (fun (r : Int64) (_ : Unit) => r = (-3 : Int64)) (fun _ t => va_P (dC, dI) vwCl (wM q cI cL own amt tag mad spt made dsp dow dam dtg sp mk mint dep hgt und supply pot apl fes mns tms pic) t.heap) (ob_A (wM q cI cL own amt tag mad spt made dsp dow dam dtg sp mk mint dep hgt und supply pot apl fes mns tms pic))) 0 0 (ob_A (wM q cI cL own amt tag mad spt made dsp dow dam dtg sp mk mint dep hgt und supply pot apl fes mns tms pic)) := by
  refine ob_ofW (cc := b_M_apply) (maxL := 4) (ret := (some .long)) (own := R_M) (by decide) rfl rfl (Nat.le_of_ble_eq_true rfl) ?_
  intro p e s m args below meth c Q hQ hx hb hr hml hT hown hlocks hv ls hl
  obtain ⟨⟨hP, hK, hN⟩, hD0⟩ := hv
  have hD := ob_D_self hD0
  generalize hAe : ob_A (wM q cI cL own amt tag mad spt made dsp dow dam dtg sp mk mint dep hgt und supply pot apl fes mns tms pic) = A at hQ hD
  have hS : va_S A s.heap s.heap [] := va_S.rf
  have hl : lv_has ls 4 [(0, .ref (q 0))] := hl
  refine lv_aload_n hx hb d_M_apply_0 rfl (lv_at hl 0 rfl) ?_
  refine lv_iconst (v := nI 0) hx hb d_M_apply_1 (by decide) ?_
  refine va_put (D := (dC, dI)) (ci := 4) (v := .int (nI 0)) (ty := .int) (C := R_M) (T := T_M) (N := 24) hx hb hT in_M t_M t_M_ok n_M hown hK hP hD hS 0 rfl rfl 0 (by decide) (hT _ k_325) (fun _ h9 => h9) rfl (by decide +kernel) rfl rfl (Nat.le_of_ble_eq_true rfl) d_M_apply_2 (fun H locs hP hD hS => ?_)
  have hP : va_P (dC, dI) vwCl (wM q cI cL own amt tag mad spt made dsp dow dam dtg sp mk mint dep hgt und supply pot apl fes mns tms pic) H := hP
  have hD : va_D A (wM q cI cL own amt tag mad spt made dsp dow dam dtg sp mk mint dep hgt und supply pot apl fes mns tms pic) := hD
  refine lv_aload_n hx hb d_M_apply_5 rfl (lv_at hl 0 rfl) ?_
  refine va_get (D := (dC, dI)) (ci := 4) (v := .int (nI sp)) (C := R_M) (T := T_M) (N := 24) hx hb hT in_M hown hK hP 0 rfl rfl 16 (by decide) (hT _ k_341) (fun _ h9 => h9) rfl d_M_apply_6 ?_
  refine lv_if_ne (tgt := 23) hx hb d_M_apply_9 (by decide) (fun c_9 => ?_) (fun c_9 => ?_)
  · have t_9 := mt (cv_eq (nI_toInt (by omega)) (by decide : (0 : Int32).toInt = 0)).mpr c_9
    refine lv_aload_n hx hb d_M_apply_23 rfl (lv_at hl 0 rfl) ?_
    refine va_get (D := (dC, dI)) (ci := 4) (v := .long mint) (C := R_M) (T := T_M) (N := 24) hx hb hT in_M hown hK hP 0 rfl rfl 22 (by decide) (hT _ k_347) (fun _ h9 => h9) rfl d_M_apply_24 ?_
    refine lv_ldc2 (v := 4611686018427387904) hx hb hown (hT _ k_438) d_M_apply_27 ?_
    refine lv_aload_n hx hb d_M_apply_30 rfl (lv_at hl 0 rfl) ?_
    refine va_get (D := (dC, dI)) (ci := 4) (v := .long supply) (C := R_M) (T := T_M) (N := 24) hx hb hT in_M hown hK hP 0 rfl rfl 11 (by decide) (hT _ k_336) (fun _ h9 => h9) rfl d_M_apply_31 ?_
    refine lv_lsub hx hb d_M_apply_34 ?_
    refine W.lcmp hx hb d_M_apply_35 ?_
    refine lv_if_gt (tgt := 52) hx hb d_M_apply_36 (by decide) (fun c_36 => ?_) (fun c_36 => ?_)
    · have c_36 := (lg_cmp_gt _ _).mp c_36
      exact absurd h2 (by first | (rw [f_fee_no (Or.inr (Int64.not_le.mpr c_36))]; decide) | (rw [f_fee_no (Or.inl (Int64.not_le.mp c_49))]; decide))
    · have c_36 := mt (lg_cmp_gt _ _).mpr c_36
      refine lv_aload_n hx hb d_M_apply_39 rfl (lv_at hl 0 rfl) ?_
      refine va_get (D := (dC, dI)) (ci := 4) (v := .long mint) (C := R_M) (T := T_M) (N := 24) hx hb hT in_M hown hK hP 0 rfl rfl 22 (by decide) (hT _ k_347) (fun _ h9 => h9) rfl d_M_apply_40 ?_
      refine lv_aload_n hx hb d_M_apply_43 rfl (lv_at hl 0 rfl) ?_
      refine va_get (D := (dC, dI)) (ci := 4) (v := .long supply) (C := R_M) (T := T_M) (N := 24) hx hb hT in_M hown hK hP 0 rfl rfl 11 (by decide) (hT _ k_336) (fun _ h9 => h9) rfl d_M_apply_44 ?_
      refine lv_lneg hx hb d_M_apply_47 ?_
      refine W.lcmp hx hb d_M_apply_48 ?_
      refine lv_if_ge (tgt := 56) hx hb d_M_apply_49 (by decide) (fun c_49 => ?_) (fun c_49 => ?_)
      · have c_49 := (lg_cmp_ge _ _).mp c_49
        refine lv_aload_n hx hb d_M_apply_56 rfl (lv_at hl 0 rfl) ?_
        refine va_get (D := (dC, dI)) (ci := 4) (v := .long mint) (C := R_M) (T := T_M) (N := 24) hx hb hT in_M hown hK hP 0 rfl rfl 22 (by decide) (hT _ k_347) (fun _ h9 => h9) rfl d_M_apply_57 ?_
        refine lv_lstore_n (lv' := [(1, .long mint), (0, .ref (q 0))]) hx hb d_M_apply_60 rfl hl (by decide) rfl (fun ls hl => ?_)
        refine lv_iconst (v := nI 0) hx hb d_M_apply_61 (by decide) ?_
        refine lv_istore_n (lv' := [(3, .int (nI 0)), (1, .long mint), (0, .ref (q 0))]) hx hb d_M_apply_62 rfl hl (by decide) rfl (fun ls hl => ?_)
        have key_63 : ∀ (n : Nat) (i : Nat) (left : Int64) (H : Heap) (locs : List Loc) (ls : Array Slot), sp - i < n → (i ≤ sp) → (left = f_gain amt made dsp mint i) → va_P (dC, dI) vwCl (wM q cI cL own amt tag mad spt made dsp dow dam dtg sp mk mint dep hgt und supply pot apl fes mns tms pic) H → va_D A (wM q cI cL own amt tag mad spt made dsp dow dam dtg sp mk mint dep hgt und supply pot apl fes mns tms pic) → va_S A s.heap H locs → lv_has ls 4 [(3, .int (nI i)), (1, .long left), (0, .ref (q 0))] → W p l e rm_M_apply_r s m args below meth c H locs 0 0 Q (F0 m 63 ls []) := by
          intro n_63
          induction n_63 with
          | zero => intro i left H locs ls h; exact absurd h (Nat.not_lt_zero _)
          | succ n_63 ih_63 =>
            intro i left H locs ls hn_63 hi hlf hP hD hS hl
            refine lv_iload_n hx hb d_M_apply_63 rfl (lv_at hl 0 rfl) ?_
            refine lv_aload_n hx hb d_M_apply_64 rfl (lv_at hl 2 rfl) ?_
            refine va_get (D := (dC, dI)) (ci := 4) (v := .int (nI sp)) (C := R_M) (T := T_M) (N := 24) hx hb hT in_M hown hK hP 0 rfl rfl 16 (by decide) (hT _ k_341) (fun _ h9 => h9) rfl d_M_apply_65 ?_
            refine lv_icmp_ge (tgt := 91) hx hb d_M_apply_68 (by decide) (fun c_68 => ?_) (fun c_68 => ?_)
            · have t_68 := (cv_le (nI_toInt (by omega)) (nI_toInt (by omega))).mp c_68
              refine lv_iconst (v := nI 0) hx hb d_M_apply_91 (by decide) ?_
              refine lv_istore_n (lv' := [(3, .int (nI 0)), (1, .long left), (0, .ref (q 0))]) hx hb d_M_apply_92 rfl hl (by decide) rfl (fun ls hl => ?_)
              have key_93 : ∀ (n : Nat) (j : Nat) (lf2 : Int64) (H : Heap) (locs : List Loc) (ls : Array Slot), mk - j < n → (j ≤ mk) → (f_less dam (mk - j) j lf2 = f_less dam mk 0 (f_gain amt made dsp mint sp)) → va_P (dC, dI) vwCl (wM q cI cL own amt tag mad spt made dsp dow dam dtg sp mk mint dep hgt und supply pot apl fes mns tms pic) H → va_D A (wM q cI cL own amt tag mad spt made dsp dow dam dtg sp mk mint dep hgt und supply pot apl fes mns tms pic) → va_S A s.heap H locs → lv_has ls 4 [(3, .int (nI j)), (1, .long lf2), (0, .ref (q 0))] → W p l e rm_M_apply_r s m args below meth c H locs 0 0 Q (F0 m 93 ls []) := by
                intro n_93
                induction n_93 with
                | zero => intro j lf2 H locs ls h; exact absurd h (Nat.not_lt_zero _)
                | succ n_93 ih_93 =>
                  intro j lf2 H locs ls hn_93 hj hres hP hD hS hl
                  refine lv_iload_n hx hb d_M_apply_93 rfl (lv_at hl 0 rfl) ?_
                  refine lv_aload_n hx hb d_M_apply_94 rfl (lv_at hl 2 rfl) ?_
                  refine va_get (D := (dC, dI)) (ci := 4) (v := .int (nI mk)) (C := R_M) (T := T_M) (N := 24) hx hb hT in_M hown hK hP 0 rfl rfl 18 (by decide) (hT _ k_343) (fun _ h9 => h9) rfl d_M_apply_95 ?_
                  refine lv_icmp_ge (tgt := 131) hx hb d_M_apply_98 (by decide) (fun c_98 => ?_) (fun c_98 => ?_)
                  · have t_98 := (cv_le (nI_toInt (by omega)) (nI_toInt (by omega))).mp c_98
                    have hfee : f_fee supply mint amt made dsp sp dam mk = lf2 := by rw [f_fee_go (fun h => h.elim (fun z => Int64.not_lt.mpr c_49 z) (fun z => z (Int64.not_lt.mp c_36))), ← hres, show mk - j = 0 by omega]; rfl
                    refine lv_lload_n hx hb d_M_apply_131 rfl (lv_at hl 1 rfl) ?_
                    refine lv_lconst (v := 0) hx hb d_M_apply_132 (by decide) ?_
                    refine W.lcmp hx hb d_M_apply_133 ?_
                    refine lv_if_ge (tgt := 141) hx hb d_M_apply_134 (by decide) (fun c_134 => ?_) (fun c_134 => ?_)
                    · have c_134 := (lg_cmp_ge _ _).mp c_134
                      refine lv_aload_n hx hb d_M_apply_141 rfl (lv_at hl 2 rfl) ?_
                      refine va_get (D := (dC, dI)) (ci := 4) (v := .int (nI made)) (C := R_M) (T := T_M) (N := 24) hx hb hT in_M hown hK hP 0 rfl rfl 2 (by decide) (hT _ k_327) (fun _ h9 => h9) rfl d_M_apply_142 ?_
                      refine lv_aload_n hx hb d_M_apply_145 rfl (lv_at hl 2 rfl) ?_
                      refine va_get (D := (dC, dI)) (ci := 4) (v := .int (nI mk)) (C := R_M) (T := T_M) (N := 24) hx hb hT in_M hown hK hP 0 rfl rfl 18 (by decide) (hT _ k_343) (fun _ h9 => h9) rfl d_M_apply_146 ?_
                      refine lv_iadd hx hb d_M_apply_149 ?_
                      refine ob_eqi (nI_add made mk) ?_
                      refine lv_sipush (v := nI 2048) hx hb d_M_apply_150 (by decide) ?_
                      refine lv_icmp_le (tgt := 160) hx hb d_M_apply_153 (by decide) (fun c_153 => ?_) (fun c_153 => ?_)
                      · have t_153 := (cv_le (nI_toInt (by omega)) (nI_toInt (by omega))).mp c_153
                        exact absurd t_153 (by omega)
                      · have t_153 := mt (cv_le (nI_toInt (by omega)) (nI_toInt (by omega))).mpr c_153
                        refine lv_ldc2 (v := -3) hx hb hown (hT _ k_440) d_M_apply_156 ?_
                        exact ob_lretW (v := (-3 : Int64)) hx hb hr hlocks hQ hS hP rfl rfl d_M_apply_159
                    · have c_134 := mt (lg_cmp_ge _ _).mpr c_134
                      exact absurd (by rw [← hfee]; exact h2) c_134
                  · have t_98 := mt (cv_le (nI_toInt (by omega)) (nI_toInt (by omega))).mpr c_98
                    refine lv_aload_n hx hb d_M_apply_101 rfl (lv_at hl 2 rfl) ?_
                    refine va_get (D := (dC, dI)) (ci := 4) (v := .ref (q 11)) (C := R_M) (T := T_M) (N := 24) hx hb hT in_M hown hK hP 0 rfl rfl 20 (by decide) (hT _ k_345) (fun _ h9 => h9) rfl d_M_apply_102 ?_
                    refine lv_iload_n hx hb d_M_apply_105 rfl (lv_at hl 0 rfl) ?_
                    refine ob_lald hx hb hK hP 11 1 rfl rfl (j := j) (nI_clamp (by omega)) (cv_in (nI_toInt (by omega)) (by omega)) d_M_apply_106 ?_
                    refine lv_lload_n hx hb d_M_apply_107 rfl (lv_at hl 1 rfl) ?_
                    refine W.lcmp hx hb d_M_apply_108 ?_
                    refine lv_if_le (tgt := 116) hx hb d_M_apply_109 (by decide) (fun c_109 => ?_) (fun c_109 => ?_)
                    · have c_109 := (lg_cmp_le _ _).mp c_109
                      refine lv_lload_n hx hb d_M_apply_116 rfl (lv_at hl 1 rfl) ?_
                      refine lv_aload_n hx hb d_M_apply_117 rfl (lv_at hl 2 rfl) ?_
                      refine va_get (D := (dC, dI)) (ci := 4) (v := .ref (q 11)) (C := R_M) (T := T_M) (N := 24) hx hb hT in_M hown hK hP 0 rfl rfl 20 (by decide) (hT _ k_345) (fun _ h9 => h9) rfl d_M_apply_118 ?_
                      refine lv_iload_n hx hb d_M_apply_121 rfl (lv_at hl 0 rfl) ?_
                      refine ob_lald hx hb hK hP 11 1 rfl rfl (j := j) (nI_clamp (by omega)) (cv_in (nI_toInt (by omega)) (by omega)) d_M_apply_122 ?_
                      refine lv_lsub hx hb d_M_apply_123 ?_
                      refine lv_lstore_n (lv' := [(1, .long (lf2 - (dam j))), (3, .int (nI j)), (0, .ref (q 0))]) hx hb d_M_apply_124 rfl hl (by decide) rfl (fun ls hl => ?_)
                      refine lv_iinc (v := nI (j + 1)) (lv' := [(3, .int (nI (j + 1))), (1, .long (lf2 - (dam j))), (0, .ref (q 0))]) hx hb d_M_apply_125 hl (k := 1) rfl (nI_add j 1) (by decide) rfl (fun ls hl => ?_)
                      refine lv_goto (tgt := 93) hx hb d_M_apply_128 (by decide) ?_
                      exact ih_93 (j + 1) (lf2 - (dam j)) _ _ _ (by omega) (by omega) (by rw [← hres, f_less_go (by omega) c_109]) hP hD hS (lv_sub hl [0, 1, 2] rfl)
                    · have c_109 := mt (lg_cmp_le _ _).mpr c_109
                      exact absurd h2 (by rw [f_fee_go (fun h => h.elim (fun z => Int64.not_lt.mpr c_49 z) (fun z => z (Int64.not_lt.mp c_36))), ← hres, f_less_no (by omega) c_109]; decide)
              exact key_93 _ 0 left _ _ _ (Nat.lt_succ_self _) (Nat.zero_le _) (by rw [hlf, show i = sp by omega]; rfl) hP hD hS (lv_sub hl [0, 1, 2] rfl)
            · have t_68 := mt (cv_le (nI_toInt (by omega)) (nI_toInt (by omega))).mpr c_68
              refine lv_lload_n hx hb d_M_apply_71 rfl (lv_at hl 1 rfl) ?_
              refine lv_aload_n hx hb d_M_apply_72 rfl (lv_at hl 2 rfl) ?_
              refine va_get (D := (dC, dI)) (ci := 4) (v := .ref (q 2)) (C := R_M) (T := T_M) (N := 24) hx hb hT in_M hown hK hP 0 rfl rfl 4 (by decide) (hT _ k_329) (fun _ h9 => h9) rfl d_M_apply_73 ?_
              refine lv_aload_n hx hb d_M_apply_76 rfl (lv_at hl 2 rfl) ?_
              refine va_get (D := (dC, dI)) (ci := 4) (v := .ref (q 9)) (C := R_M) (T := T_M) (N := 24) hx hb hT in_M hown hK hP 0 rfl rfl 17 (by decide) (hT _ k_342) (fun _ h9 => h9) rfl d_M_apply_77 ?_
              refine lv_iload_n hx hb d_M_apply_80 rfl (lv_at hl 0 rfl) ?_
              refine ob_iald hx hb hK hP 9 0 rfl rfl (j := i) (nI_clamp (by omega)) (cv_in (nI_toInt (by omega)) (by omega)) d_M_apply_81 ?_
              refine ob_lald hx hb hK hP 2 1 rfl rfl (j := (dsp i).toNatClampNeg) rfl (cv_in rfl (by have := hdr i (by omega); omega)) d_M_apply_82 ?_
              refine lv_ladd hx hb d_M_apply_83 ?_
              refine lv_lstore_n (lv' := [(1, .long (left + (amt ((dsp i).toNatClampNeg)))), (3, .int (nI i)), (0, .ref (q 0))]) hx hb d_M_apply_84 rfl hl (by decide) rfl (fun ls hl => ?_)
              refine lv_iinc (v := nI (i + 1)) (lv' := [(3, .int (nI (i + 1))), (1, .long (left + (amt ((dsp i).toNatClampNeg)))), (0, .ref (q 0))]) hx hb d_M_apply_85 hl (k := 1) rfl (nI_add i 1) (by decide) rfl (fun ls hl => ?_)
              refine lv_goto (tgt := 63) hx hb d_M_apply_88 (by decide) ?_
              exact ih_63 (i + 1) (left + (amt ((dsp i).toNatClampNeg))) _ _ _ (by omega) (by omega) (by rw [hlf, f_gain, f_amt, if_pos (hdr i (by omega))]) hP hD hS (lv_sub hl [0, 1, 2] rfl)
        exact key_63 _ 0 mint _ _ _ (Nat.lt_succ_self _) (Nat.zero_le _) rfl hP hD hS (lv_sub hl [0, 1, 2] rfl)
      · have c_49 := mt (lg_cmp_ge _ _).mpr c_49
        exact absurd h2 (by first | (rw [f_fee_no (Or.inr (Int64.not_le.mpr c_36))]; decide) | (rw [f_fee_no (Or.inl (Int64.not_le.mp c_49))]; decide))
  · have t_9 := (cv_eq (nI_toInt (by omega)) (by decide : (0 : Int32).toInt = 0)).mp c_9
    refine lv_aload_n hx hb d_M_apply_12 rfl (lv_at hl 0 rfl) ?_
    refine va_get (D := (dC, dI)) (ci := 4) (v := .int (nI mk)) (C := R_M) (T := T_M) (N := 24) hx hb hT in_M hown hK hP 0 rfl rfl 18 (by decide) (hT _ k_343) (fun _ h9 => h9) rfl d_M_apply_13 ?_
    refine lv_if_ne (tgt := 23) hx hb d_M_apply_16 (by decide) (fun c_16 => ?_) (fun c_16 => ?_)
    · have t_16 := mt (cv_eq (nI_toInt (by omega)) (by decide : (0 : Int32).toInt = 0)).mpr c_16
      refine lv_aload_n hx hb d_M_apply_23 rfl (lv_at hl 0 rfl) ?_
      refine va_get (D := (dC, dI)) (ci := 4) (v := .long mint) (C := R_M) (T := T_M) (N := 24) hx hb hT in_M hown hK hP 0 rfl rfl 22 (by decide) (hT _ k_347) (fun _ h9 => h9) rfl d_M_apply_24 ?_
      refine lv_ldc2 (v := 4611686018427387904) hx hb hown (hT _ k_438) d_M_apply_27 ?_
      refine lv_aload_n hx hb d_M_apply_30 rfl (lv_at hl 0 rfl) ?_
      refine va_get (D := (dC, dI)) (ci := 4) (v := .long supply) (C := R_M) (T := T_M) (N := 24) hx hb hT in_M hown hK hP 0 rfl rfl 11 (by decide) (hT _ k_336) (fun _ h9 => h9) rfl d_M_apply_31 ?_
      refine lv_lsub hx hb d_M_apply_34 ?_
      refine W.lcmp hx hb d_M_apply_35 ?_
      refine lv_if_gt (tgt := 52) hx hb d_M_apply_36 (by decide) (fun c_36 => ?_) (fun c_36 => ?_)
      · have c_36 := (lg_cmp_gt _ _).mp c_36
        exact absurd h2 (by first | (rw [f_fee_no (Or.inr (Int64.not_le.mpr c_36))]; decide) | (rw [f_fee_no (Or.inl (Int64.not_le.mp c_49))]; decide))
      · have c_36 := mt (lg_cmp_gt _ _).mpr c_36
        refine lv_aload_n hx hb d_M_apply_39 rfl (lv_at hl 0 rfl) ?_
        refine va_get (D := (dC, dI)) (ci := 4) (v := .long mint) (C := R_M) (T := T_M) (N := 24) hx hb hT in_M hown hK hP 0 rfl rfl 22 (by decide) (hT _ k_347) (fun _ h9 => h9) rfl d_M_apply_40 ?_
        refine lv_aload_n hx hb d_M_apply_43 rfl (lv_at hl 0 rfl) ?_
        refine va_get (D := (dC, dI)) (ci := 4) (v := .long supply) (C := R_M) (T := T_M) (N := 24) hx hb hT in_M hown hK hP 0 rfl rfl 11 (by decide) (hT _ k_336) (fun _ h9 => h9) rfl d_M_apply_44 ?_
        refine lv_lneg hx hb d_M_apply_47 ?_
        refine W.lcmp hx hb d_M_apply_48 ?_
        refine lv_if_ge (tgt := 56) hx hb d_M_apply_49 (by decide) (fun c_49 => ?_) (fun c_49 => ?_)
        · have c_49 := (lg_cmp_ge _ _).mp c_49
          refine lv_aload_n hx hb d_M_apply_56 rfl (lv_at hl 0 rfl) ?_
          refine va_get (D := (dC, dI)) (ci := 4) (v := .long mint) (C := R_M) (T := T_M) (N := 24) hx hb hT in_M hown hK hP 0 rfl rfl 22 (by decide) (hT _ k_347) (fun _ h9 => h9) rfl d_M_apply_57 ?_
          refine lv_lstore_n (lv' := [(1, .long mint), (0, .ref (q 0))]) hx hb d_M_apply_60 rfl hl (by decide) rfl (fun ls hl => ?_)
          refine lv_iconst (v := nI 0) hx hb d_M_apply_61 (by decide) ?_
          refine lv_istore_n (lv' := [(3, .int (nI 0)), (1, .long mint), (0, .ref (q 0))]) hx hb d_M_apply_62 rfl hl (by decide) rfl (fun ls hl => ?_)
          have key_63 : ∀ (n : Nat) (i : Nat) (left : Int64) (H : Heap) (locs : List Loc) (ls : Array Slot), sp - i < n → (i ≤ sp) → (left = f_gain amt made dsp mint i) → va_P (dC, dI) vwCl (wM q cI cL own amt tag mad spt made dsp dow dam dtg sp mk mint dep hgt und supply pot apl fes mns tms pic) H → va_D A (wM q cI cL own amt tag mad spt made dsp dow dam dtg sp mk mint dep hgt und supply pot apl fes mns tms pic) → va_S A s.heap H locs → lv_has ls 4 [(3, .int (nI i)), (1, .long left), (0, .ref (q 0))] → W p l e rm_M_apply_r s m args below meth c H locs 0 0 Q (F0 m 63 ls []) := by
            intro n_63
            induction n_63 with
            | zero => intro i left H locs ls h; exact absurd h (Nat.not_lt_zero _)
            | succ n_63 ih_63 =>
              intro i left H locs ls hn_63 hi hlf hP hD hS hl
              refine lv_iload_n hx hb d_M_apply_63 rfl (lv_at hl 0 rfl) ?_
              refine lv_aload_n hx hb d_M_apply_64 rfl (lv_at hl 2 rfl) ?_
              refine va_get (D := (dC, dI)) (ci := 4) (v := .int (nI sp)) (C := R_M) (T := T_M) (N := 24) hx hb hT in_M hown hK hP 0 rfl rfl 16 (by decide) (hT _ k_341) (fun _ h9 => h9) rfl d_M_apply_65 ?_
              refine lv_icmp_ge (tgt := 91) hx hb d_M_apply_68 (by decide) (fun c_68 => ?_) (fun c_68 => ?_)
              · have t_68 := (cv_le (nI_toInt (by omega)) (nI_toInt (by omega))).mp c_68
                refine lv_iconst (v := nI 0) hx hb d_M_apply_91 (by decide) ?_
                refine lv_istore_n (lv' := [(3, .int (nI 0)), (1, .long left), (0, .ref (q 0))]) hx hb d_M_apply_92 rfl hl (by decide) rfl (fun ls hl => ?_)
                have key_93 : ∀ (n : Nat) (j : Nat) (lf2 : Int64) (H : Heap) (locs : List Loc) (ls : Array Slot), mk - j < n → (j ≤ mk) → (f_less dam (mk - j) j lf2 = f_less dam mk 0 (f_gain amt made dsp mint sp)) → va_P (dC, dI) vwCl (wM q cI cL own amt tag mad spt made dsp dow dam dtg sp mk mint dep hgt und supply pot apl fes mns tms pic) H → va_D A (wM q cI cL own amt tag mad spt made dsp dow dam dtg sp mk mint dep hgt und supply pot apl fes mns tms pic) → va_S A s.heap H locs → lv_has ls 4 [(3, .int (nI j)), (1, .long lf2), (0, .ref (q 0))] → W p l e rm_M_apply_r s m args below meth c H locs 0 0 Q (F0 m 93 ls []) := by
                  intro n_93
                  induction n_93 with
                  | zero => intro j lf2 H locs ls h; exact absurd h (Nat.not_lt_zero _)
                  | succ n_93 ih_93 =>
                    intro j lf2 H locs ls hn_93 hj hres hP hD hS hl
                    refine lv_iload_n hx hb d_M_apply_93 rfl (lv_at hl 0 rfl) ?_
                    refine lv_aload_n hx hb d_M_apply_94 rfl (lv_at hl 2 rfl) ?_
                    refine va_get (D := (dC, dI)) (ci := 4) (v := .int (nI mk)) (C := R_M) (T := T_M) (N := 24) hx hb hT in_M hown hK hP 0 rfl rfl 18 (by decide) (hT _ k_343) (fun _ h9 => h9) rfl d_M_apply_95 ?_
                    refine lv_icmp_ge (tgt := 131) hx hb d_M_apply_98 (by decide) (fun c_98 => ?_) (fun c_98 => ?_)
                    · have t_98 := (cv_le (nI_toInt (by omega)) (nI_toInt (by omega))).mp c_98
                      have hfee : f_fee supply mint amt made dsp sp dam mk = lf2 := by rw [f_fee_go (fun h => h.elim (fun z => Int64.not_lt.mpr c_49 z) (fun z => z (Int64.not_lt.mp c_36))), ← hres, show mk - j = 0 by omega]; rfl
                      refine lv_lload_n hx hb d_M_apply_131 rfl (lv_at hl 1 rfl) ?_
                      refine lv_lconst (v := 0) hx hb d_M_apply_132 (by decide) ?_
                      refine W.lcmp hx hb d_M_apply_133 ?_
                      refine lv_if_ge (tgt := 141) hx hb d_M_apply_134 (by decide) (fun c_134 => ?_) (fun c_134 => ?_)
                      · have c_134 := (lg_cmp_ge _ _).mp c_134
                        refine lv_aload_n hx hb d_M_apply_141 rfl (lv_at hl 2 rfl) ?_
                        refine va_get (D := (dC, dI)) (ci := 4) (v := .int (nI made)) (C := R_M) (T := T_M) (N := 24) hx hb hT in_M hown hK hP 0 rfl rfl 2 (by decide) (hT _ k_327) (fun _ h9 => h9) rfl d_M_apply_142 ?_
                        refine lv_aload_n hx hb d_M_apply_145 rfl (lv_at hl 2 rfl) ?_
                        refine va_get (D := (dC, dI)) (ci := 4) (v := .int (nI mk)) (C := R_M) (T := T_M) (N := 24) hx hb hT in_M hown hK hP 0 rfl rfl 18 (by decide) (hT _ k_343) (fun _ h9 => h9) rfl d_M_apply_146 ?_
                        refine lv_iadd hx hb d_M_apply_149 ?_
                        refine ob_eqi (nI_add made mk) ?_
                        refine lv_sipush (v := nI 2048) hx hb d_M_apply_150 (by decide) ?_
                        refine lv_icmp_le (tgt := 160) hx hb d_M_apply_153 (by decide) (fun c_153 => ?_) (fun c_153 => ?_)
                        · have t_153 := (cv_le (nI_toInt (by omega)) (nI_toInt (by omega))).mp c_153
                          exact absurd t_153 (by omega)
                        · have t_153 := mt (cv_le (nI_toInt (by omega)) (nI_toInt (by omega))).mpr c_153
                          refine lv_ldc2 (v := -3) hx hb hown (hT _ k_440) d_M_apply_156 ?_
                          exact ob_lretW (v := (-3 : Int64)) hx hb hr hlocks hQ hS hP rfl rfl d_M_apply_159
                      · have c_134 := mt (lg_cmp_ge _ _).mpr c_134
                        exact absurd (by rw [← hfee]; exact h2) c_134
                    · have t_98 := mt (cv_le (nI_toInt (by omega)) (nI_toInt (by omega))).mpr c_98
                      refine lv_aload_n hx hb d_M_apply_101 rfl (lv_at hl 2 rfl) ?_
                      refine va_get (D := (dC, dI)) (ci := 4) (v := .ref (q 11)) (C := R_M) (T := T_M) (N := 24) hx hb hT in_M hown hK hP 0 rfl rfl 20 (by decide) (hT _ k_345) (fun _ h9 => h9) rfl d_M_apply_102 ?_
                      refine lv_iload_n hx hb d_M_apply_105 rfl (lv_at hl 0 rfl) ?_
                      refine ob_lald hx hb hK hP 11 1 rfl rfl (j := j) (nI_clamp (by omega)) (cv_in (nI_toInt (by omega)) (by omega)) d_M_apply_106 ?_
                      refine lv_lload_n hx hb d_M_apply_107 rfl (lv_at hl 1 rfl) ?_
                      refine W.lcmp hx hb d_M_apply_108 ?_
                      refine lv_if_le (tgt := 116) hx hb d_M_apply_109 (by decide) (fun c_109 => ?_) (fun c_109 => ?_)
                      · have c_109 := (lg_cmp_le _ _).mp c_109
                        refine lv_lload_n hx hb d_M_apply_116 rfl (lv_at hl 1 rfl) ?_
                        refine lv_aload_n hx hb d_M_apply_117 rfl (lv_at hl 2 rfl) ?_
                        refine va_get (D := (dC, dI)) (ci := 4) (v := .ref (q 11)) (C := R_M) (T := T_M) (N := 24) hx hb hT in_M hown hK hP 0 rfl rfl 20 (by decide) (hT _ k_345) (fun _ h9 => h9) rfl d_M_apply_118 ?_
                        refine lv_iload_n hx hb d_M_apply_121 rfl (lv_at hl 0 rfl) ?_
                        refine ob_lald hx hb hK hP 11 1 rfl rfl (j := j) (nI_clamp (by omega)) (cv_in (nI_toInt (by omega)) (by omega)) d_M_apply_122 ?_
                        refine lv_lsub hx hb d_M_apply_123 ?_
                        refine lv_lstore_n (lv' := [(1, .long (lf2 - (dam j))), (3, .int (nI j)), (0, .ref (q 0))]) hx hb d_M_apply_124 rfl hl (by decide) rfl (fun ls hl => ?_)
                        refine lv_iinc (v := nI (j + 1)) (lv' := [(3, .int (nI (j + 1))), (1, .long (lf2 - (dam j))), (0, .ref (q 0))]) hx hb d_M_apply_125 hl (k := 1) rfl (nI_add j 1) (by decide) rfl (fun ls hl => ?_)
                        refine lv_goto (tgt := 93) hx hb d_M_apply_128 (by decide) ?_
                        exact ih_93 (j + 1) (lf2 - (dam j)) _ _ _ (by omega) (by omega) (by rw [← hres, f_less_go (by omega) c_109]) hP hD hS (lv_sub hl [0, 1, 2] rfl)
                      · have c_109 := mt (lg_cmp_le _ _).mpr c_109
                        exact absurd h2 (by rw [f_fee_go (fun h => h.elim (fun z => Int64.not_lt.mpr c_49 z) (fun z => z (Int64.not_lt.mp c_36))), ← hres, f_less_no (by omega) c_109]; decide)
                exact key_93 _ 0 left _ _ _ (Nat.lt_succ_self _) (Nat.zero_le _) (by rw [hlf, show i = sp by omega]; rfl) hP hD hS (lv_sub hl [0, 1, 2] rfl)
              · have t_68 := mt (cv_le (nI_toInt (by omega)) (nI_toInt (by omega))).mpr c_68
                refine lv_lload_n hx hb d_M_apply_71 rfl (lv_at hl 1 rfl) ?_
                refine lv_aload_n hx hb d_M_apply_72 rfl (lv_at hl 2 rfl) ?_
                refine va_get (D := (dC, dI)) (ci := 4) (v := .ref (q 2)) (C := R_M) (T := T_M) (N := 24) hx hb hT in_M hown hK hP 0 rfl rfl 4 (by decide) (hT _ k_329) (fun _ h9 => h9) rfl d_M_apply_73 ?_
                refine lv_aload_n hx hb d_M_apply_76 rfl (lv_at hl 2 rfl) ?_
                refine va_get (D := (dC, dI)) (ci := 4) (v := .ref (q 9)) (C := R_M) (T := T_M) (N := 24) hx hb hT in_M hown hK hP 0 rfl rfl 17 (by decide) (hT _ k_342) (fun _ h9 => h9) rfl d_M_apply_77 ?_
                refine lv_iload_n hx hb d_M_apply_80 rfl (lv_at hl 0 rfl) ?_
                refine ob_iald hx hb hK hP 9 0 rfl rfl (j := i) (nI_clamp (by omega)) (cv_in (nI_toInt (by omega)) (by omega)) d_M_apply_81 ?_
                refine ob_lald hx hb hK hP 2 1 rfl rfl (j := (dsp i).toNatClampNeg) rfl (cv_in rfl (by have := hdr i (by omega); omega)) d_M_apply_82 ?_
                refine lv_ladd hx hb d_M_apply_83 ?_
                refine lv_lstore_n (lv' := [(1, .long (left + (amt ((dsp i).toNatClampNeg)))), (3, .int (nI i)), (0, .ref (q 0))]) hx hb d_M_apply_84 rfl hl (by decide) rfl (fun ls hl => ?_)
                refine lv_iinc (v := nI (i + 1)) (lv' := [(3, .int (nI (i + 1))), (1, .long (left + (amt ((dsp i).toNatClampNeg)))), (0, .ref (q 0))]) hx hb d_M_apply_85 hl (k := 1) rfl (nI_add i 1) (by decide) rfl (fun ls hl => ?_)
                refine lv_goto (tgt := 63) hx hb d_M_apply_88 (by decide) ?_
                exact ih_63 (i + 1) (left + (amt ((dsp i).toNatClampNeg))) _ _ _ (by omega) (by omega) (by rw [hlf, f_gain, f_amt, if_pos (hdr i (by omega))]) hP hD hS (lv_sub hl [0, 1, 2] rfl)
          exact key_63 _ 0 mint _ _ _ (Nat.lt_succ_self _) (Nat.zero_le _) rfl hP hD hS (lv_sub hl [0, 1, 2] rfl)
        · have c_49 := mt (lg_cmp_ge _ _).mpr c_49
          exact absurd h2 (by first | (rw [f_fee_no (Or.inr (Int64.not_le.mpr c_36))]; decide) | (rw [f_fee_no (Or.inl (Int64.not_le.mp c_49))]; decide))
    · have t_16 := (cv_eq (nI_toInt (by omega)) (by decide : (0 : Int32).toInt = 0)).mp c_16
      exact absurd h1 (by omega)
abbrev rm_M_apply_t : Room := { frames := 1, cells := 0, slots := 0, locals := 20 }
set_option maxHeartbeats 4000000 in
set_option maxRecDepth 100000 in
theorem c_M_apply_t (l : Launch) (dC : Nat → ClassId) (dI : Nat → Nat → Nat) (q : Nat → Nat) (cI cL : ClassId) (own : Nat → Int32) (amt : Nat → Int64) (tag : Nat → Int64) (mad : Nat → Int32) (spt : Nat → Int32) (made : Nat) (dsp : Nat → Int32) (dow : Nat → Int32) (dam : Nat → Int64) (dtg : Nat → Int64) (sp : Nat) (mk : Nat) (mint : Int64) (dep : Nat) (hgt : Nat) (und : Nat) (supply : Int64) (pot : Int64) (apl : Int32) (fes : Nat → Int64) (mns : Nat → Int64) (tms : Nat → Int32) (pic : Nat → Int32)  (hm : made ≤ 2048) (hsp : sp ≤ 16) (hmk : mk ≤ 16) (hhg : hgt ≤ 1000) (hdr : ∀ i, i < sp → p_has made (dsp i)) (h1 : ¬ (sp = 0 ∧ mk = 0)) (h2 : 0 ≤ f_fee supply mint amt made dsp sp dam mk) (h3 : made + mk ≤ 2048) : Met l y_M_apply w_M_apply rm_M_apply_t (va_Pc [.ref (q 0)] (ob_BW (dC, dI) vwCl (wM q cI cL own amt tag mad spt made dsp dow dam dtg sp mk mint dep hgt und supply pot apl fes mns tms pic) [(cI, .int), (cL, .long)] [])) (va_Ql (fun (r : Int64) (_ : Unit) => r = f_fee supply mint amt made dsp sp dam mk) (fun _ t => va_P (dC, dI) vwCl (wM q cI cL (f_app own made dow mk) (f_appL amt made dam mk) (f_appL tag made dtg mk) (f_app mad made (fun _ => nI hgt) mk) (f_app (f_sets spt dsp (nI hgt) sp) made (fun _ => -1) mk) (made + mk) dsp dow dam dtg 0 0 (0 : Int64) dep hgt und (supply + mint) (pot + f_fee supply mint amt made dsp sp dam mk) (apl + nI 1) (vp_updL fes hgt (fes hgt + f_fee supply mint amt made dsp sp dam mk)) (vp_updL mns hgt (mns hgt + mint)) (upd tms hgt (tms hgt + nI 1)) pic) t.heap) (ob_A (wM q cI cL own amt tag mad spt made dsp dow dam dtg sp mk mint dep hgt und supply pot apl fes mns tms pic))) 0 0 (ob_A (wM q cI cL own amt tag mad spt made dsp dow dam dtg sp mk mint dep hgt und supply pot apl fes mns tms pic)) := by
  refine ob_ofW (cc := b_M_apply) (maxL := 4) (ret := (some .long)) (own := R_M) (by decide) rfl rfl (Nat.le_of_ble_eq_true rfl) ?_
  intro p e s m args below meth c Q hQ hx hb hr hml hT hown hlocks hv ls hl
  obtain ⟨⟨hP, hK, hN⟩, hD0⟩ := hv
  have hD := ob_D_self hD0
  generalize hAe : ob_A (wM q cI cL own amt tag mad spt made dsp dow dam dtg sp mk mint dep hgt und supply pot apl fes mns tms pic) = A at hQ hD
  have hS : va_S A s.heap s.heap [] := va_S.rf
  have hl : lv_has ls 4 [(0, .ref (q 0))] := hl
  refine lv_aload_n hx hb d_M_apply_0 rfl (lv_at hl 0 rfl) ?_
  refine lv_iconst (v := nI 0) hx hb d_M_apply_1 (by decide) ?_
  refine va_put (D := (dC, dI)) (ci := 4) (v := .int (nI 0)) (ty := .int) (C := R_M) (T := T_M) (N := 24) hx hb hT in_M t_M t_M_ok n_M hown hK hP hD hS 0 rfl rfl 0 (by decide) (hT _ k_325) (fun _ h9 => h9) rfl (by decide +kernel) rfl rfl (Nat.le_of_ble_eq_true rfl) d_M_apply_2 (fun H locs hP hD hS => ?_)
  have hP : va_P (dC, dI) vwCl (wM q cI cL own amt tag mad spt made dsp dow dam dtg sp mk mint dep hgt und supply pot apl fes mns tms pic) H := hP
  have hD : va_D A (wM q cI cL own amt tag mad spt made dsp dow dam dtg sp mk mint dep hgt und supply pot apl fes mns tms pic) := hD
  refine lv_aload_n hx hb d_M_apply_5 rfl (lv_at hl 0 rfl) ?_
  refine va_get (D := (dC, dI)) (ci := 4) (v := .int (nI sp)) (C := R_M) (T := T_M) (N := 24) hx hb hT in_M hown hK hP 0 rfl rfl 16 (by decide) (hT _ k_341) (fun _ h9 => h9) rfl d_M_apply_6 ?_
  refine lv_if_ne (tgt := 23) hx hb d_M_apply_9 (by decide) (fun c_9 => ?_) (fun c_9 => ?_)
  · have t_9 := mt (cv_eq (nI_toInt (by omega)) (by decide : (0 : Int32).toInt = 0)).mpr c_9
    refine lv_aload_n hx hb d_M_apply_23 rfl (lv_at hl 0 rfl) ?_
    refine va_get (D := (dC, dI)) (ci := 4) (v := .long mint) (C := R_M) (T := T_M) (N := 24) hx hb hT in_M hown hK hP 0 rfl rfl 22 (by decide) (hT _ k_347) (fun _ h9 => h9) rfl d_M_apply_24 ?_
    refine lv_ldc2 (v := 4611686018427387904) hx hb hown (hT _ k_438) d_M_apply_27 ?_
    refine lv_aload_n hx hb d_M_apply_30 rfl (lv_at hl 0 rfl) ?_
    refine va_get (D := (dC, dI)) (ci := 4) (v := .long supply) (C := R_M) (T := T_M) (N := 24) hx hb hT in_M hown hK hP 0 rfl rfl 11 (by decide) (hT _ k_336) (fun _ h9 => h9) rfl d_M_apply_31 ?_
    refine lv_lsub hx hb d_M_apply_34 ?_
    refine W.lcmp hx hb d_M_apply_35 ?_
    refine lv_if_gt (tgt := 52) hx hb d_M_apply_36 (by decide) (fun c_36 => ?_) (fun c_36 => ?_)
    · have c_36 := (lg_cmp_gt _ _).mp c_36
      exact absurd h2 (by first | (rw [f_fee_no (Or.inr (Int64.not_le.mpr c_36))]; decide) | (rw [f_fee_no (Or.inl (Int64.not_le.mp c_49))]; decide))
    · have c_36 := mt (lg_cmp_gt _ _).mpr c_36
      refine lv_aload_n hx hb d_M_apply_39 rfl (lv_at hl 0 rfl) ?_
      refine va_get (D := (dC, dI)) (ci := 4) (v := .long mint) (C := R_M) (T := T_M) (N := 24) hx hb hT in_M hown hK hP 0 rfl rfl 22 (by decide) (hT _ k_347) (fun _ h9 => h9) rfl d_M_apply_40 ?_
      refine lv_aload_n hx hb d_M_apply_43 rfl (lv_at hl 0 rfl) ?_
      refine va_get (D := (dC, dI)) (ci := 4) (v := .long supply) (C := R_M) (T := T_M) (N := 24) hx hb hT in_M hown hK hP 0 rfl rfl 11 (by decide) (hT _ k_336) (fun _ h9 => h9) rfl d_M_apply_44 ?_
      refine lv_lneg hx hb d_M_apply_47 ?_
      refine W.lcmp hx hb d_M_apply_48 ?_
      refine lv_if_ge (tgt := 56) hx hb d_M_apply_49 (by decide) (fun c_49 => ?_) (fun c_49 => ?_)
      · have c_49 := (lg_cmp_ge _ _).mp c_49
        refine lv_aload_n hx hb d_M_apply_56 rfl (lv_at hl 0 rfl) ?_
        refine va_get (D := (dC, dI)) (ci := 4) (v := .long mint) (C := R_M) (T := T_M) (N := 24) hx hb hT in_M hown hK hP 0 rfl rfl 22 (by decide) (hT _ k_347) (fun _ h9 => h9) rfl d_M_apply_57 ?_
        refine lv_lstore_n (lv' := [(1, .long mint), (0, .ref (q 0))]) hx hb d_M_apply_60 rfl hl (by decide) rfl (fun ls hl => ?_)
        refine lv_iconst (v := nI 0) hx hb d_M_apply_61 (by decide) ?_
        refine lv_istore_n (lv' := [(3, .int (nI 0)), (1, .long mint), (0, .ref (q 0))]) hx hb d_M_apply_62 rfl hl (by decide) rfl (fun ls hl => ?_)
        have key_63 : ∀ (n : Nat) (i : Nat) (left : Int64) (H : Heap) (locs : List Loc) (ls : Array Slot), sp - i < n → (i ≤ sp) → (left = f_gain amt made dsp mint i) → va_P (dC, dI) vwCl (wM q cI cL own amt tag mad spt made dsp dow dam dtg sp mk mint dep hgt und supply pot apl fes mns tms pic) H → va_D A (wM q cI cL own amt tag mad spt made dsp dow dam dtg sp mk mint dep hgt und supply pot apl fes mns tms pic) → va_S A s.heap H locs → lv_has ls 4 [(3, .int (nI i)), (1, .long left), (0, .ref (q 0))] → W p l e rm_M_apply_t s m args below meth c H locs 0 0 Q (F0 m 63 ls []) := by
          intro n_63
          induction n_63 with
          | zero => intro i left H locs ls h; exact absurd h (Nat.not_lt_zero _)
          | succ n_63 ih_63 =>
            intro i left H locs ls hn_63 hi hlf hP hD hS hl
            refine lv_iload_n hx hb d_M_apply_63 rfl (lv_at hl 0 rfl) ?_
            refine lv_aload_n hx hb d_M_apply_64 rfl (lv_at hl 2 rfl) ?_
            refine va_get (D := (dC, dI)) (ci := 4) (v := .int (nI sp)) (C := R_M) (T := T_M) (N := 24) hx hb hT in_M hown hK hP 0 rfl rfl 16 (by decide) (hT _ k_341) (fun _ h9 => h9) rfl d_M_apply_65 ?_
            refine lv_icmp_ge (tgt := 91) hx hb d_M_apply_68 (by decide) (fun c_68 => ?_) (fun c_68 => ?_)
            · have t_68 := (cv_le (nI_toInt (by omega)) (nI_toInt (by omega))).mp c_68
              refine lv_iconst (v := nI 0) hx hb d_M_apply_91 (by decide) ?_
              refine lv_istore_n (lv' := [(3, .int (nI 0)), (1, .long left), (0, .ref (q 0))]) hx hb d_M_apply_92 rfl hl (by decide) rfl (fun ls hl => ?_)
              have key_93 : ∀ (n : Nat) (j : Nat) (lf2 : Int64) (H : Heap) (locs : List Loc) (ls : Array Slot), mk - j < n → (j ≤ mk) → (f_less dam (mk - j) j lf2 = f_less dam mk 0 (f_gain amt made dsp mint sp)) → va_P (dC, dI) vwCl (wM q cI cL own amt tag mad spt made dsp dow dam dtg sp mk mint dep hgt und supply pot apl fes mns tms pic) H → va_D A (wM q cI cL own amt tag mad spt made dsp dow dam dtg sp mk mint dep hgt und supply pot apl fes mns tms pic) → va_S A s.heap H locs → lv_has ls 4 [(3, .int (nI j)), (1, .long lf2), (0, .ref (q 0))] → W p l e rm_M_apply_t s m args below meth c H locs 0 0 Q (F0 m 93 ls []) := by
                intro n_93
                induction n_93 with
                | zero => intro j lf2 H locs ls h; exact absurd h (Nat.not_lt_zero _)
                | succ n_93 ih_93 =>
                  intro j lf2 H locs ls hn_93 hj hres hP hD hS hl
                  refine lv_iload_n hx hb d_M_apply_93 rfl (lv_at hl 0 rfl) ?_
                  refine lv_aload_n hx hb d_M_apply_94 rfl (lv_at hl 2 rfl) ?_
                  refine va_get (D := (dC, dI)) (ci := 4) (v := .int (nI mk)) (C := R_M) (T := T_M) (N := 24) hx hb hT in_M hown hK hP 0 rfl rfl 18 (by decide) (hT _ k_343) (fun _ h9 => h9) rfl d_M_apply_95 ?_
                  refine lv_icmp_ge (tgt := 131) hx hb d_M_apply_98 (by decide) (fun c_98 => ?_) (fun c_98 => ?_)
                  · have t_98 := (cv_le (nI_toInt (by omega)) (nI_toInt (by omega))).mp c_98
                    have hfee : f_fee supply mint amt made dsp sp dam mk = lf2 := by rw [f_fee_go (fun h => h.elim (fun z => Int64.not_lt.mpr c_49 z) (fun z => z (Int64.not_lt.mp c_36))), ← hres, show mk - j = 0 by omega]; rfl
                    refine lv_lload_n hx hb d_M_apply_131 rfl (lv_at hl 1 rfl) ?_
                    refine lv_lconst (v := 0) hx hb d_M_apply_132 (by decide) ?_
                    refine W.lcmp hx hb d_M_apply_133 ?_
                    refine lv_if_ge (tgt := 141) hx hb d_M_apply_134 (by decide) (fun c_134 => ?_) (fun c_134 => ?_)
                    · have c_134 := (lg_cmp_ge _ _).mp c_134
                      refine lv_aload_n hx hb d_M_apply_141 rfl (lv_at hl 2 rfl) ?_
                      refine va_get (D := (dC, dI)) (ci := 4) (v := .int (nI made)) (C := R_M) (T := T_M) (N := 24) hx hb hT in_M hown hK hP 0 rfl rfl 2 (by decide) (hT _ k_327) (fun _ h9 => h9) rfl d_M_apply_142 ?_
                      refine lv_aload_n hx hb d_M_apply_145 rfl (lv_at hl 2 rfl) ?_
                      refine va_get (D := (dC, dI)) (ci := 4) (v := .int (nI mk)) (C := R_M) (T := T_M) (N := 24) hx hb hT in_M hown hK hP 0 rfl rfl 18 (by decide) (hT _ k_343) (fun _ h9 => h9) rfl d_M_apply_146 ?_
                      refine lv_iadd hx hb d_M_apply_149 ?_
                      refine ob_eqi (nI_add made mk) ?_
                      refine lv_sipush (v := nI 2048) hx hb d_M_apply_150 (by decide) ?_
                      refine lv_icmp_le (tgt := 160) hx hb d_M_apply_153 (by decide) (fun c_153 => ?_) (fun c_153 => ?_)
                      · have t_153 := (cv_le (nI_toInt (by omega)) (nI_toInt (by omega))).mp c_153
                        refine lv_iconst (v := nI 0) hx hb d_M_apply_160 (by decide) ?_
                        refine lv_istore_n (lv' := [(3, .int (nI 0)), (1, .long lf2), (0, .ref (q 0))]) hx hb d_M_apply_161 rfl hl (by decide) rfl (fun ls hl => ?_)
                        have key_162 : ∀ (n : Nat) (k : Nat) (s1 : Nat → Int32) (H : Heap) (locs : List Loc) (ls : Array Slot), sp - k < n → (k ≤ sp) → (s1 = f_sets spt dsp (nI hgt) k) → va_P (dC, dI) vwCl (wM q cI cL own amt tag mad s1 made dsp dow dam dtg sp mk mint dep hgt und supply pot apl fes mns tms pic) H → va_D A (wM q cI cL own amt tag mad s1 made dsp dow dam dtg sp mk mint dep hgt und supply pot apl fes mns tms pic) → va_S A s.heap H locs → lv_has ls 4 [(3, .int (nI k)), (1, .long lf2), (0, .ref (q 0))] → W p l e rm_M_apply_t s m args below meth c H locs 0 0 Q (F0 m 162 ls []) := by
                          intro n_162
                          induction n_162 with
                          | zero => intro k s1 H locs ls h; exact absurd h (Nat.not_lt_zero _)
                          | succ n_162 ih_162 =>
                            intro k s1 H locs ls hn_162 hk hs1 hP hD hS hl
                            refine lv_iload_n hx hb d_M_apply_162 rfl (lv_at hl 0 rfl) ?_
                            refine lv_aload_n hx hb d_M_apply_163 rfl (lv_at hl 2 rfl) ?_
                            refine va_get (D := (dC, dI)) (ci := 4) (v := .int (nI sp)) (C := R_M) (T := T_M) (N := 24) hx hb hT in_M hown hK hP 0 rfl rfl 16 (by decide) (hT _ k_341) (fun _ h9 => h9) rfl d_M_apply_164 ?_
                            refine lv_icmp_ge (tgt := 191) hx hb d_M_apply_167 (by decide) (fun c_167 => ?_) (fun c_167 => ?_)
                            · have t_167 := (cv_le (nI_toInt (by omega)) (nI_toInt (by omega))).mp c_167
                              refine lv_iconst (v := nI 0) hx hb d_M_apply_191 (by decide) ?_
                              refine lv_istore_n (lv' := [(3, .int (nI 0)), (1, .long lf2), (0, .ref (q 0))]) hx hb d_M_apply_192 rfl hl (by decide) rfl (fun ls hl => ?_)
                              have key_193 : ∀ (n : Nat) (i2 : Nat) (o9 : Nat → Int32) (a9 : Nat → Int64) (g9 : Nat → Int64) (m9 : Nat → Int32) (s9 : Nat → Int32) (n9 : Nat) (H : Heap) (locs : List Loc) (ls : Array Slot), mk - i2 < n → (i2 ≤ mk) → (n9 = made + i2) → (o9 = f_app own made dow i2) → (a9 = f_appL amt made dam i2) → (g9 = f_appL tag made dtg i2) → (m9 = f_app mad made (fun _ => nI hgt) i2) → (s9 = f_app s1 made (fun _ => -1) i2) → va_P (dC, dI) vwCl (wM q cI cL o9 a9 g9 m9 s9 n9 dsp dow dam dtg sp mk mint dep hgt und supply pot apl fes mns tms pic) H → va_D A (wM q cI cL o9 a9 g9 m9 s9 n9 dsp dow dam dtg sp mk mint dep hgt und supply pot apl fes mns tms pic) → va_S A s.heap H locs → lv_has ls 4 [(3, .int (nI i2)), (1, .long lf2), (0, .ref (q 0))] → W p l e rm_M_apply_t s m args below meth c H locs 0 0 Q (F0 m 193 ls []) := by
                                intro n_193
                                induction n_193 with
                                | zero => intro i2 o9 a9 g9 m9 s9 n9 H locs ls h; exact absurd h (Nat.not_lt_zero _)
                                | succ n_193 ih_193 =>
                                  intro i2 o9 a9 g9 m9 s9 n9 H locs ls hn_193 hi2 hn9 ho9 ha9 hg9 hm9 hs9 hP hD hS hl
                                  refine lv_iload_n hx hb d_M_apply_193 rfl (lv_at hl 0 rfl) ?_
                                  refine lv_aload_n hx hb d_M_apply_194 rfl (lv_at hl 2 rfl) ?_
                                  refine va_get (D := (dC, dI)) (ci := 4) (v := .int (nI mk)) (C := R_M) (T := T_M) (N := 24) hx hb hT in_M hown hK hP 0 rfl rfl 18 (by decide) (hT _ k_343) (fun _ h9 => h9) rfl d_M_apply_195 ?_
                                  refine lv_icmp_ge (tgt := 285) hx hb d_M_apply_198 (by decide) (fun c_198 => ?_) (fun c_198 => ?_)
                                  · have t_198 := (cv_le (nI_toInt (by omega)) (nI_toInt (by omega))).mp c_198
                                    refine lv_aload_n hx hb d_M_apply_285 rfl (lv_at hl 2 rfl) ?_
                                    refine lv_dup hx hb d_M_apply_286 rfl ?_
                                    refine va_get (D := (dC, dI)) (ci := 4) (v := .long pot) (C := R_M) (T := T_M) (N := 24) hx hb hT in_M hown hK hP 0 rfl rfl 10 (by decide) (hT _ k_335) (fun _ h9 => h9) rfl d_M_apply_287 ?_
                                    refine lv_lload_n hx hb d_M_apply_290 rfl (lv_at hl 1 rfl) ?_
                                    refine lv_ladd hx hb d_M_apply_291 ?_
                                    refine va_put (D := (dC, dI)) (ci := 4) (v := .long (pot + lf2)) (ty := .long) (C := R_M) (T := T_M) (N := 24) hx hb hT in_M t_M t_M_ok n_M hown hK hP hD hS 0 rfl rfl 10 (by decide) (hT _ k_335) (fun _ h9 => h9) rfl (by decide +kernel) rfl rfl (Nat.le_of_ble_eq_true rfl) d_M_apply_292 (fun H locs hP hD hS => ?_)
                                    have hP : va_P (dC, dI) vwCl (wM q cI cL o9 a9 g9 m9 s9 n9 dsp dow dam dtg sp mk mint dep hgt und supply (pot + lf2) apl fes mns tms pic) H := hP
                                    have hD : va_D A (wM q cI cL o9 a9 g9 m9 s9 n9 dsp dow dam dtg sp mk mint dep hgt und supply (pot + lf2) apl fes mns tms pic) := hD
                                    refine lv_aload_n hx hb d_M_apply_295 rfl (lv_at hl 2 rfl) ?_
                                    refine lv_dup hx hb d_M_apply_296 rfl ?_
                                    refine va_get (D := (dC, dI)) (ci := 4) (v := .long supply) (C := R_M) (T := T_M) (N := 24) hx hb hT in_M hown hK hP 0 rfl rfl 11 (by decide) (hT _ k_336) (fun _ h9 => h9) rfl d_M_apply_297 ?_
                                    refine lv_aload_n hx hb d_M_apply_300 rfl (lv_at hl 2 rfl) ?_
                                    refine va_get (D := (dC, dI)) (ci := 4) (v := .long mint) (C := R_M) (T := T_M) (N := 24) hx hb hT in_M hown hK hP 0 rfl rfl 22 (by decide) (hT _ k_347) (fun _ h9 => h9) rfl d_M_apply_301 ?_
                                    refine lv_ladd hx hb d_M_apply_304 ?_
                                    refine va_put (D := (dC, dI)) (ci := 4) (v := .long (supply + mint)) (ty := .long) (C := R_M) (T := T_M) (N := 24) hx hb hT in_M t_M t_M_ok n_M hown hK hP hD hS 0 rfl rfl 11 (by decide) (hT _ k_336) (fun _ h9 => h9) rfl (by decide +kernel) rfl rfl (Nat.le_of_ble_eq_true rfl) d_M_apply_305 (fun H locs hP hD hS => ?_)
                                    have hP : va_P (dC, dI) vwCl (wM q cI cL o9 a9 g9 m9 s9 n9 dsp dow dam dtg sp mk mint dep hgt und (supply + mint) (pot + lf2) apl fes mns tms pic) H := hP
                                    have hD : va_D A (wM q cI cL o9 a9 g9 m9 s9 n9 dsp dow dam dtg sp mk mint dep hgt und (supply + mint) (pot + lf2) apl fes mns tms pic) := hD
                                    refine lv_aload_n hx hb d_M_apply_308 rfl (lv_at hl 2 rfl) ?_
                                    refine lv_dup hx hb d_M_apply_309 rfl ?_
                                    refine va_get (D := (dC, dI)) (ci := 4) (v := .int apl) (C := R_M) (T := T_M) (N := 24) hx hb hT in_M hown hK hP 0 rfl rfl 12 (by decide) (hT _ k_337) (fun _ h9 => h9) rfl d_M_apply_310 ?_
                                    refine lv_iconst (v := nI 1) hx hb d_M_apply_313 (by decide) ?_
                                    refine lv_iadd hx hb d_M_apply_314 ?_
                                    refine va_put (D := (dC, dI)) (ci := 4) (v := .int (apl + (nI 1))) (ty := .int) (C := R_M) (T := T_M) (N := 24) hx hb hT in_M t_M t_M_ok n_M hown hK hP hD hS 0 rfl rfl 12 (by decide) (hT _ k_337) (fun _ h9 => h9) rfl (by decide +kernel) rfl rfl (Nat.le_of_ble_eq_true rfl) d_M_apply_315 (fun H locs hP hD hS => ?_)
                                    have hP : va_P (dC, dI) vwCl (wM q cI cL o9 a9 g9 m9 s9 n9 dsp dow dam dtg sp mk mint dep hgt und (supply + mint) (pot + lf2) (apl + (nI 1)) fes mns tms pic) H := hP
                                    have hD : va_D A (wM q cI cL o9 a9 g9 m9 s9 n9 dsp dow dam dtg sp mk mint dep hgt und (supply + mint) (pot + lf2) (apl + (nI 1)) fes mns tms pic) := hD
                                    refine lv_aload_n hx hb d_M_apply_318 rfl (lv_at hl 2 rfl) ?_
                                    refine va_get (D := (dC, dI)) (ci := 4) (v := .ref (q 6)) (C := R_M) (T := T_M) (N := 24) hx hb hT in_M hown hK hP 0 rfl rfl 13 (by decide) (hT _ k_338) (fun _ h9 => h9) rfl d_M_apply_319 ?_
                                    refine lv_aload_n hx hb d_M_apply_322 rfl (lv_at hl 2 rfl) ?_
                                    refine va_get (D := (dC, dI)) (ci := 4) (v := .int (nI hgt)) (C := R_M) (T := T_M) (N := 24) hx hb hT in_M hown hK hP 0 rfl rfl 8 (by decide) (hT _ k_333) (fun _ h9 => h9) rfl d_M_apply_323 ?_
                                    refine lv_dup2_11 hx hb d_M_apply_326 rfl rfl ?_
                                    refine ob_lald hx hb hK hP 6 1 rfl rfl (j := hgt) (nI_clamp (by omega)) (cv_in (nI_toInt (by omega)) (by omega)) d_M_apply_327 ?_
                                    refine lv_lload_n hx hb d_M_apply_328 rfl (lv_at hl 1 rfl) ?_
                                    refine lv_ladd hx hb d_M_apply_329 ?_
                                    refine ob_last hx hb hK hP hD hS 6 1 rfl rfl (j := hgt) (nI_clamp (by omega)) (cv_in (nI_toInt (by omega)) (by omega)) d_M_apply_330 (fun H locs hP hD hS => ?_)
                                    have hP : va_P (dC, dI) vwCl (wM q cI cL o9 a9 g9 m9 s9 n9 dsp dow dam dtg sp mk mint dep hgt und (supply + mint) (pot + lf2) (apl + (nI 1)) (vp_updL fes hgt ((fes hgt) + lf2)) mns tms pic) H := hP
                                    have hD : va_D A (wM q cI cL o9 a9 g9 m9 s9 n9 dsp dow dam dtg sp mk mint dep hgt und (supply + mint) (pot + lf2) (apl + (nI 1)) (vp_updL fes hgt ((fes hgt) + lf2)) mns tms pic) := hD
                                    refine lv_aload_n hx hb d_M_apply_331 rfl (lv_at hl 2 rfl) ?_
                                    refine va_get (D := (dC, dI)) (ci := 4) (v := .ref (q 7)) (C := R_M) (T := T_M) (N := 24) hx hb hT in_M hown hK hP 0 rfl rfl 14 (by decide) (hT _ k_339) (fun _ h9 => h9) rfl d_M_apply_332 ?_
                                    refine lv_aload_n hx hb d_M_apply_335 rfl (lv_at hl 2 rfl) ?_
                                    refine va_get (D := (dC, dI)) (ci := 4) (v := .int (nI hgt)) (C := R_M) (T := T_M) (N := 24) hx hb hT in_M hown hK hP 0 rfl rfl 8 (by decide) (hT _ k_333) (fun _ h9 => h9) rfl d_M_apply_336 ?_
                                    refine lv_dup2_11 hx hb d_M_apply_339 rfl rfl ?_
                                    refine ob_lald hx hb hK hP 7 1 rfl rfl (j := hgt) (nI_clamp (by omega)) (cv_in (nI_toInt (by omega)) (by omega)) d_M_apply_340 ?_
                                    refine lv_aload_n hx hb d_M_apply_341 rfl (lv_at hl 2 rfl) ?_
                                    refine va_get (D := (dC, dI)) (ci := 4) (v := .long mint) (C := R_M) (T := T_M) (N := 24) hx hb hT in_M hown hK hP 0 rfl rfl 22 (by decide) (hT _ k_347) (fun _ h9 => h9) rfl d_M_apply_342 ?_
                                    refine lv_ladd hx hb d_M_apply_345 ?_
                                    refine ob_last hx hb hK hP hD hS 7 1 rfl rfl (j := hgt) (nI_clamp (by omega)) (cv_in (nI_toInt (by omega)) (by omega)) d_M_apply_346 (fun H locs hP hD hS => ?_)
                                    have hP : va_P (dC, dI) vwCl (wM q cI cL o9 a9 g9 m9 s9 n9 dsp dow dam dtg sp mk mint dep hgt und (supply + mint) (pot + lf2) (apl + (nI 1)) (vp_updL fes hgt ((fes hgt) + lf2)) (vp_updL mns hgt ((mns hgt) + mint)) tms pic) H := hP
                                    have hD : va_D A (wM q cI cL o9 a9 g9 m9 s9 n9 dsp dow dam dtg sp mk mint dep hgt und (supply + mint) (pot + lf2) (apl + (nI 1)) (vp_updL fes hgt ((fes hgt) + lf2)) (vp_updL mns hgt ((mns hgt) + mint)) tms pic) := hD
                                    refine lv_aload_n hx hb d_M_apply_347 rfl (lv_at hl 2 rfl) ?_
                                    refine va_get (D := (dC, dI)) (ci := 4) (v := .ref (q 8)) (C := R_M) (T := T_M) (N := 24) hx hb hT in_M hown hK hP 0 rfl rfl 15 (by decide) (hT _ k_340) (fun _ h9 => h9) rfl d_M_apply_348 ?_
                                    refine lv_aload_n hx hb d_M_apply_351 rfl (lv_at hl 2 rfl) ?_
                                    refine va_get (D := (dC, dI)) (ci := 4) (v := .int (nI hgt)) (C := R_M) (T := T_M) (N := 24) hx hb hT in_M hown hK hP 0 rfl rfl 8 (by decide) (hT _ k_333) (fun _ h9 => h9) rfl d_M_apply_352 ?_
                                    refine lv_dup2_11 hx hb d_M_apply_355 rfl rfl ?_
                                    refine ob_iald hx hb hK hP 8 0 rfl rfl (j := hgt) (nI_clamp (by omega)) (cv_in (nI_toInt (by omega)) (by omega)) d_M_apply_356 ?_
                                    refine lv_iconst (v := nI 1) hx hb d_M_apply_357 (by decide) ?_
                                    refine lv_iadd hx hb d_M_apply_358 ?_
                                    refine ob_iast hx hb hK hP hD hS 8 0 rfl rfl (j := hgt) (nI_clamp (by omega)) (cv_in (nI_toInt (by omega)) (by omega)) d_M_apply_359 (fun H locs hP hD hS => ?_)
                                    have hP : va_P (dC, dI) vwCl (wM q cI cL o9 a9 g9 m9 s9 n9 dsp dow dam dtg sp mk mint dep hgt und (supply + mint) (pot + lf2) (apl + (nI 1)) (vp_updL fes hgt ((fes hgt) + lf2)) (vp_updL mns hgt ((mns hgt) + mint)) (upd tms hgt ((tms hgt) + (nI 1))) pic) H := hP
                                    have hD : va_D A (wM q cI cL o9 a9 g9 m9 s9 n9 dsp dow dam dtg sp mk mint dep hgt und (supply + mint) (pot + lf2) (apl + (nI 1)) (vp_updL fes hgt ((fes hgt) + lf2)) (vp_updL mns hgt ((mns hgt) + mint)) (upd tms hgt ((tms hgt) + (nI 1))) pic) := hD
                                    refine lv_aload_n hx hb d_M_apply_360 rfl (lv_at hl 2 rfl) ?_
                                    refine ob_callWv (va_runV (As := []) (rest := []) ⟨hx, hb, hml, hown, hT⟩ (c_M_empty l dC dI q cI cL o9 a9 g9 m9 s9 n9 dsp dow dam dtg sp mk mint dep hgt und (supply + mint) (pot + lf2) (apl + (nI 1)) (vp_updL fes hgt ((fes hgt) + lf2)) (vp_updL mns hgt ((mns hgt) + mint)) (upd tms hgt ((tms hgt) + (nI 1))) pic ) (cwV 0 hT (ob_goodV k_429 k_431 k_6 k_14 k_432) rfl rfl rfl (by decide +kernel) ⟨Nat.le_of_ble_eq_true rfl, Nat.le_of_ble_eq_true rfl⟩) (ob_preVW (wc := wM q cI cL o9 a9 g9 m9 s9 n9 dsp dow dam dtg sp mk mint dep hgt und (supply + mint) (pot + lf2) (apl + (nI 1)) (vp_updL fes hgt ((fes hgt) + lf2)) (vp_updL mns hgt ((mns hgt) + mint)) (upd tms hgt ((tms hgt) + (nI 1))) pic) (q0 := 0) rfl hK hP hD (fun _ h => absurd h List.not_mem_nil) rfl [0, 1, 2, 3, 4, 5, 6, 7, 8, 9, 10, 11, 12, 13] rfl rfl rfl rfl) rfl rfl hl.1 rfl (lv_room (Nat.le_of_ble_eq_true rfl)) d_M_apply_361 ⟨Nat.zero_le _, Nat.zero_le _⟩) hS hP hD [0, 1, 2, 3, 4, 5, 6, 7, 8, 9, 10, 11, 12, 13] rfl rfl (fun H locs hP hD hS => ?_)
                                    have hP : va_P (dC, dI) vwCl (wM q cI cL o9 a9 g9 m9 s9 n9 dsp dow dam dtg 0 0 (0 : Int64) dep hgt und (supply + mint) (pot + lf2) (apl + (nI 1)) (vp_updL fes hgt ((fes hgt) + lf2)) (vp_updL mns hgt ((mns hgt) + mint)) (upd tms hgt ((tms hgt) + (nI 1))) pic) H := hP
                                    have hD : va_D A (wM q cI cL o9 a9 g9 m9 s9 n9 dsp dow dam dtg 0 0 (0 : Int64) dep hgt und (supply + mint) (pot + lf2) (apl + (nI 1)) (vp_updL fes hgt ((fes hgt) + lf2)) (vp_updL mns hgt ((mns hgt) + mint)) (upd tms hgt ((tms hgt) + (nI 1))) pic) := hD
                                    refine lv_lload_n hx hb d_M_apply_364 rfl (lv_at hl 1 rfl) ?_
                                    exact ob_lretW (v := lf2) hx hb hr hlocks hQ hS hP (by rw [ho9, ha9, hg9, hm9, hs9, hs1, hn9, hfee, show i2 = mk by omega, show k = sp by omega]) hfee.symm d_M_apply_365
                                  · have t_198 := mt (cv_le (nI_toInt (by omega)) (nI_toInt (by omega))).mpr c_198
                                    refine lv_aload_n hx hb d_M_apply_201 rfl (lv_at hl 2 rfl) ?_
                                    refine va_get (D := (dC, dI)) (ci := 4) (v := .ref (q 1)) (C := R_M) (T := T_M) (N := 24) hx hb hT in_M hown hK hP 0 rfl rfl 3 (by decide) (hT _ k_328) (fun _ h9 => h9) rfl d_M_apply_202 ?_
                                    refine lv_aload_n hx hb d_M_apply_205 rfl (lv_at hl 2 rfl) ?_
                                    refine va_get (D := (dC, dI)) (ci := 4) (v := .int (nI n9)) (C := R_M) (T := T_M) (N := 24) hx hb hT in_M hown hK hP 0 rfl rfl 2 (by decide) (hT _ k_327) (fun _ h9 => h9) rfl d_M_apply_206 ?_
                                    refine lv_aload_n hx hb d_M_apply_209 rfl (lv_at hl 2 rfl) ?_
                                    refine va_get (D := (dC, dI)) (ci := 4) (v := .ref (q 10)) (C := R_M) (T := T_M) (N := 24) hx hb hT in_M hown hK hP 0 rfl rfl 19 (by decide) (hT _ k_344) (fun _ h9 => h9) rfl d_M_apply_210 ?_
                                    refine lv_iload_n hx hb d_M_apply_213 rfl (lv_at hl 0 rfl) ?_
                                    refine ob_iald hx hb hK hP 10 0 rfl rfl (j := i2) (nI_clamp (by omega)) (cv_in (nI_toInt (by omega)) (by omega)) d_M_apply_214 ?_
                                    refine ob_iast hx hb hK hP hD hS 1 0 rfl rfl (j := n9) (nI_clamp (by omega)) (cv_in (nI_toInt (by omega)) (by omega)) d_M_apply_215 (fun H locs hP hD hS => ?_)
                                    have hP : va_P (dC, dI) vwCl (wM q cI cL (upd o9 n9 (dow i2)) a9 g9 m9 s9 n9 dsp dow dam dtg sp mk mint dep hgt und supply pot apl fes mns tms pic) H := hP
                                    have hD : va_D A (wM q cI cL (upd o9 n9 (dow i2)) a9 g9 m9 s9 n9 dsp dow dam dtg sp mk mint dep hgt und supply pot apl fes mns tms pic) := hD
                                    refine lv_aload_n hx hb d_M_apply_216 rfl (lv_at hl 2 rfl) ?_
                                    refine va_get (D := (dC, dI)) (ci := 4) (v := .ref (q 2)) (C := R_M) (T := T_M) (N := 24) hx hb hT in_M hown hK hP 0 rfl rfl 4 (by decide) (hT _ k_329) (fun _ h9 => h9) rfl d_M_apply_217 ?_
                                    refine lv_aload_n hx hb d_M_apply_220 rfl (lv_at hl 2 rfl) ?_
                                    refine va_get (D := (dC, dI)) (ci := 4) (v := .int (nI n9)) (C := R_M) (T := T_M) (N := 24) hx hb hT in_M hown hK hP 0 rfl rfl 2 (by decide) (hT _ k_327) (fun _ h9 => h9) rfl d_M_apply_221 ?_
                                    refine lv_aload_n hx hb d_M_apply_224 rfl (lv_at hl 2 rfl) ?_
                                    refine va_get (D := (dC, dI)) (ci := 4) (v := .ref (q 11)) (C := R_M) (T := T_M) (N := 24) hx hb hT in_M hown hK hP 0 rfl rfl 20 (by decide) (hT _ k_345) (fun _ h9 => h9) rfl d_M_apply_225 ?_
                                    refine lv_iload_n hx hb d_M_apply_228 rfl (lv_at hl 0 rfl) ?_
                                    refine ob_lald hx hb hK hP 11 1 rfl rfl (j := i2) (nI_clamp (by omega)) (cv_in (nI_toInt (by omega)) (by omega)) d_M_apply_229 ?_
                                    refine ob_last hx hb hK hP hD hS 2 1 rfl rfl (j := n9) (nI_clamp (by omega)) (cv_in (nI_toInt (by omega)) (by omega)) d_M_apply_230 (fun H locs hP hD hS => ?_)
                                    have hP : va_P (dC, dI) vwCl (wM q cI cL (upd o9 n9 (dow i2)) (vp_updL a9 n9 (dam i2)) g9 m9 s9 n9 dsp dow dam dtg sp mk mint dep hgt und supply pot apl fes mns tms pic) H := hP
                                    have hD : va_D A (wM q cI cL (upd o9 n9 (dow i2)) (vp_updL a9 n9 (dam i2)) g9 m9 s9 n9 dsp dow dam dtg sp mk mint dep hgt und supply pot apl fes mns tms pic) := hD
                                    refine lv_aload_n hx hb d_M_apply_231 rfl (lv_at hl 2 rfl) ?_
                                    refine va_get (D := (dC, dI)) (ci := 4) (v := .ref (q 3)) (C := R_M) (T := T_M) (N := 24) hx hb hT in_M hown hK hP 0 rfl rfl 5 (by decide) (hT _ k_330) (fun _ h9 => h9) rfl d_M_apply_232 ?_
                                    refine lv_aload_n hx hb d_M_apply_235 rfl (lv_at hl 2 rfl) ?_
                                    refine va_get (D := (dC, dI)) (ci := 4) (v := .int (nI n9)) (C := R_M) (T := T_M) (N := 24) hx hb hT in_M hown hK hP 0 rfl rfl 2 (by decide) (hT _ k_327) (fun _ h9 => h9) rfl d_M_apply_236 ?_
                                    refine lv_aload_n hx hb d_M_apply_239 rfl (lv_at hl 2 rfl) ?_
                                    refine va_get (D := (dC, dI)) (ci := 4) (v := .ref (q 12)) (C := R_M) (T := T_M) (N := 24) hx hb hT in_M hown hK hP 0 rfl rfl 21 (by decide) (hT _ k_346) (fun _ h9 => h9) rfl d_M_apply_240 ?_
                                    refine lv_iload_n hx hb d_M_apply_243 rfl (lv_at hl 0 rfl) ?_
                                    refine ob_lald hx hb hK hP 12 1 rfl rfl (j := i2) (nI_clamp (by omega)) (cv_in (nI_toInt (by omega)) (by omega)) d_M_apply_244 ?_
                                    refine ob_last hx hb hK hP hD hS 3 1 rfl rfl (j := n9) (nI_clamp (by omega)) (cv_in (nI_toInt (by omega)) (by omega)) d_M_apply_245 (fun H locs hP hD hS => ?_)
                                    have hP : va_P (dC, dI) vwCl (wM q cI cL (upd o9 n9 (dow i2)) (vp_updL a9 n9 (dam i2)) (vp_updL g9 n9 (dtg i2)) m9 s9 n9 dsp dow dam dtg sp mk mint dep hgt und supply pot apl fes mns tms pic) H := hP
                                    have hD : va_D A (wM q cI cL (upd o9 n9 (dow i2)) (vp_updL a9 n9 (dam i2)) (vp_updL g9 n9 (dtg i2)) m9 s9 n9 dsp dow dam dtg sp mk mint dep hgt und supply pot apl fes mns tms pic) := hD
                                    refine lv_aload_n hx hb d_M_apply_246 rfl (lv_at hl 2 rfl) ?_
                                    refine va_get (D := (dC, dI)) (ci := 4) (v := .ref (q 4)) (C := R_M) (T := T_M) (N := 24) hx hb hT in_M hown hK hP 0 rfl rfl 6 (by decide) (hT _ k_331) (fun _ h9 => h9) rfl d_M_apply_247 ?_
                                    refine lv_aload_n hx hb d_M_apply_250 rfl (lv_at hl 2 rfl) ?_
                                    refine va_get (D := (dC, dI)) (ci := 4) (v := .int (nI n9)) (C := R_M) (T := T_M) (N := 24) hx hb hT in_M hown hK hP 0 rfl rfl 2 (by decide) (hT _ k_327) (fun _ h9 => h9) rfl d_M_apply_251 ?_
                                    refine lv_aload_n hx hb d_M_apply_254 rfl (lv_at hl 2 rfl) ?_
                                    refine va_get (D := (dC, dI)) (ci := 4) (v := .int (nI hgt)) (C := R_M) (T := T_M) (N := 24) hx hb hT in_M hown hK hP 0 rfl rfl 8 (by decide) (hT _ k_333) (fun _ h9 => h9) rfl d_M_apply_255 ?_
                                    refine ob_iast hx hb hK hP hD hS 4 0 rfl rfl (j := n9) (nI_clamp (by omega)) (cv_in (nI_toInt (by omega)) (by omega)) d_M_apply_258 (fun H locs hP hD hS => ?_)
                                    have hP : va_P (dC, dI) vwCl (wM q cI cL (upd o9 n9 (dow i2)) (vp_updL a9 n9 (dam i2)) (vp_updL g9 n9 (dtg i2)) (upd m9 n9 (nI hgt)) s9 n9 dsp dow dam dtg sp mk mint dep hgt und supply pot apl fes mns tms pic) H := hP
                                    have hD : va_D A (wM q cI cL (upd o9 n9 (dow i2)) (vp_updL a9 n9 (dam i2)) (vp_updL g9 n9 (dtg i2)) (upd m9 n9 (nI hgt)) s9 n9 dsp dow dam dtg sp mk mint dep hgt und supply pot apl fes mns tms pic) := hD
                                    refine lv_aload_n hx hb d_M_apply_259 rfl (lv_at hl 2 rfl) ?_
                                    refine va_get (D := (dC, dI)) (ci := 4) (v := .ref (q 5)) (C := R_M) (T := T_M) (N := 24) hx hb hT in_M hown hK hP 0 rfl rfl 7 (by decide) (hT _ k_332) (fun _ h9 => h9) rfl d_M_apply_260 ?_
                                    refine lv_aload_n hx hb d_M_apply_263 rfl (lv_at hl 2 rfl) ?_
                                    refine va_get (D := (dC, dI)) (ci := 4) (v := .int (nI n9)) (C := R_M) (T := T_M) (N := 24) hx hb hT in_M hown hK hP 0 rfl rfl 2 (by decide) (hT _ k_327) (fun _ h9 => h9) rfl d_M_apply_264 ?_
                                    refine lv_iconst (v := (-1 : Int32)) hx hb d_M_apply_267 (by decide) ?_
                                    refine ob_iast hx hb hK hP hD hS 5 0 rfl rfl (j := n9) (nI_clamp (by omega)) (cv_in (nI_toInt (by omega)) (by omega)) d_M_apply_268 (fun H locs hP hD hS => ?_)
                                    have hP : va_P (dC, dI) vwCl (wM q cI cL (upd o9 n9 (dow i2)) (vp_updL a9 n9 (dam i2)) (vp_updL g9 n9 (dtg i2)) (upd m9 n9 (nI hgt)) (upd s9 n9 (-1 : Int32)) n9 dsp dow dam dtg sp mk mint dep hgt und supply pot apl fes mns tms pic) H := hP
                                    have hD : va_D A (wM q cI cL (upd o9 n9 (dow i2)) (vp_updL a9 n9 (dam i2)) (vp_updL g9 n9 (dtg i2)) (upd m9 n9 (nI hgt)) (upd s9 n9 (-1 : Int32)) n9 dsp dow dam dtg sp mk mint dep hgt und supply pot apl fes mns tms pic) := hD
                                    refine lv_aload_n hx hb d_M_apply_269 rfl (lv_at hl 2 rfl) ?_
                                    refine lv_dup hx hb d_M_apply_270 rfl ?_
                                    refine va_get (D := (dC, dI)) (ci := 4) (v := .int (nI n9)) (C := R_M) (T := T_M) (N := 24) hx hb hT in_M hown hK hP 0 rfl rfl 2 (by decide) (hT _ k_327) (fun _ h9 => h9) rfl d_M_apply_271 ?_
                                    refine lv_iconst (v := nI 1) hx hb d_M_apply_274 (by decide) ?_
                                    refine lv_iadd hx hb d_M_apply_275 ?_
                                    refine ob_eqi (nI_add n9 1) ?_
                                    refine va_put (D := (dC, dI)) (ci := 4) (v := .int (nI (n9 + 1))) (ty := .int) (C := R_M) (T := T_M) (N := 24) hx hb hT in_M t_M t_M_ok n_M hown hK hP hD hS 0 rfl rfl 2 (by decide) (hT _ k_327) (fun _ h9 => h9) rfl (by decide +kernel) rfl rfl (Nat.le_of_ble_eq_true rfl) d_M_apply_276 (fun H locs hP hD hS => ?_)
                                    have hP : va_P (dC, dI) vwCl (wM q cI cL (upd o9 n9 (dow i2)) (vp_updL a9 n9 (dam i2)) (vp_updL g9 n9 (dtg i2)) (upd m9 n9 (nI hgt)) (upd s9 n9 (-1 : Int32)) (n9 + 1) dsp dow dam dtg sp mk mint dep hgt und supply pot apl fes mns tms pic) H := hP
                                    have hD : va_D A (wM q cI cL (upd o9 n9 (dow i2)) (vp_updL a9 n9 (dam i2)) (vp_updL g9 n9 (dtg i2)) (upd m9 n9 (nI hgt)) (upd s9 n9 (-1 : Int32)) (n9 + 1) dsp dow dam dtg sp mk mint dep hgt und supply pot apl fes mns tms pic) := hD
                                    refine lv_iinc (v := nI (i2 + 1)) (lv' := [(3, .int (nI (i2 + 1))), (1, .long lf2), (0, .ref (q 0))]) hx hb d_M_apply_279 hl (k := 0) rfl (nI_add i2 1) (by decide) rfl (fun ls hl => ?_)
                                    refine lv_goto (tgt := 193) hx hb d_M_apply_282 (by decide) ?_
                                    exact ih_193 (i2 + 1) (upd o9 n9 (dow i2)) (vp_updL a9 n9 (dam i2)) (vp_updL g9 n9 (dtg i2)) (upd m9 n9 (nI hgt)) (upd s9 n9 (-1 : Int32)) (n9 + 1) _ _ _ (by omega) (by omega) (by omega) (by rw [ho9, hn9]; rfl) (by rw [ha9, hn9]; rfl) (by rw [hg9, hn9]; rfl) (by rw [hm9, hn9]; rfl) (by rw [hs9, hn9]; rfl) hP hD hS (lv_sub hl [0, 1, 2] rfl)
                              exact key_193 _ 0 own amt tag mad s1 made _ _ _ (Nat.lt_succ_self _) (Nat.zero_le _) rfl rfl rfl rfl rfl rfl hP hD hS (lv_sub hl [0, 1, 2] rfl)
                            · have t_167 := mt (cv_le (nI_toInt (by omega)) (nI_toInt (by omega))).mpr c_167
                              refine lv_aload_n hx hb d_M_apply_170 rfl (lv_at hl 2 rfl) ?_
                              refine va_get (D := (dC, dI)) (ci := 4) (v := .ref (q 5)) (C := R_M) (T := T_M) (N := 24) hx hb hT in_M hown hK hP 0 rfl rfl 7 (by decide) (hT _ k_332) (fun _ h9 => h9) rfl d_M_apply_171 ?_
                              refine lv_aload_n hx hb d_M_apply_174 rfl (lv_at hl 2 rfl) ?_
                              refine va_get (D := (dC, dI)) (ci := 4) (v := .ref (q 9)) (C := R_M) (T := T_M) (N := 24) hx hb hT in_M hown hK hP 0 rfl rfl 17 (by decide) (hT _ k_342) (fun _ h9 => h9) rfl d_M_apply_175 ?_
                              refine lv_iload_n hx hb d_M_apply_178 rfl (lv_at hl 0 rfl) ?_
                              refine ob_iald hx hb hK hP 9 0 rfl rfl (j := k) (nI_clamp (by omega)) (cv_in (nI_toInt (by omega)) (by omega)) d_M_apply_179 ?_
                              refine lv_aload_n hx hb d_M_apply_180 rfl (lv_at hl 2 rfl) ?_
                              refine va_get (D := (dC, dI)) (ci := 4) (v := .int (nI hgt)) (C := R_M) (T := T_M) (N := 24) hx hb hT in_M hown hK hP 0 rfl rfl 8 (by decide) (hT _ k_333) (fun _ h9 => h9) rfl d_M_apply_181 ?_
                              refine ob_iast hx hb hK hP hD hS 5 0 rfl rfl (j := (dsp k).toNatClampNeg) rfl (cv_in rfl (by have := hdr k (by omega); omega)) d_M_apply_184 (fun H locs hP hD hS => ?_)
                              have hP : va_P (dC, dI) vwCl (wM q cI cL own amt tag mad (upd s1 ((dsp k).toNatClampNeg) (nI hgt)) made dsp dow dam dtg sp mk mint dep hgt und supply pot apl fes mns tms pic) H := hP
                              have hD : va_D A (wM q cI cL own amt tag mad (upd s1 ((dsp k).toNatClampNeg) (nI hgt)) made dsp dow dam dtg sp mk mint dep hgt und supply pot apl fes mns tms pic) := hD
                              refine lv_iinc (v := nI (k + 1)) (lv' := [(3, .int (nI (k + 1))), (1, .long lf2), (0, .ref (q 0))]) hx hb d_M_apply_185 hl (k := 0) rfl (nI_add k 1) (by decide) rfl (fun ls hl => ?_)
                              refine lv_goto (tgt := 162) hx hb d_M_apply_188 (by decide) ?_
                              exact ih_162 (k + 1) (upd s1 ((dsp k).toNatClampNeg) (nI hgt)) _ _ _ (by omega) (by omega) (by rw [hs1]; rfl) hP hD hS (lv_sub hl [0, 1, 2] rfl)
                        exact key_162 _ 0 spt _ _ _ (Nat.lt_succ_self _) (Nat.zero_le _) rfl hP hD hS (lv_sub hl [0, 1, 2] rfl)
                      · have t_153 := mt (cv_le (nI_toInt (by omega)) (nI_toInt (by omega))).mpr c_153
                        exact absurd t_153 (by omega)
                    · have c_134 := mt (lg_cmp_ge _ _).mpr c_134
                      exact absurd (by rw [← hfee]; exact h2) c_134
                  · have t_98 := mt (cv_le (nI_toInt (by omega)) (nI_toInt (by omega))).mpr c_98
                    refine lv_aload_n hx hb d_M_apply_101 rfl (lv_at hl 2 rfl) ?_
                    refine va_get (D := (dC, dI)) (ci := 4) (v := .ref (q 11)) (C := R_M) (T := T_M) (N := 24) hx hb hT in_M hown hK hP 0 rfl rfl 20 (by decide) (hT _ k_345) (fun _ h9 => h9) rfl d_M_apply_102 ?_
                    refine lv_iload_n hx hb d_M_apply_105 rfl (lv_at hl 0 rfl) ?_
                    refine ob_lald hx hb hK hP 11 1 rfl rfl (j := j) (nI_clamp (by omega)) (cv_in (nI_toInt (by omega)) (by omega)) d_M_apply_106 ?_
                    refine lv_lload_n hx hb d_M_apply_107 rfl (lv_at hl 1 rfl) ?_
                    refine W.lcmp hx hb d_M_apply_108 ?_
                    refine lv_if_le (tgt := 116) hx hb d_M_apply_109 (by decide) (fun c_109 => ?_) (fun c_109 => ?_)
                    · have c_109 := (lg_cmp_le _ _).mp c_109
                      refine lv_lload_n hx hb d_M_apply_116 rfl (lv_at hl 1 rfl) ?_
                      refine lv_aload_n hx hb d_M_apply_117 rfl (lv_at hl 2 rfl) ?_
                      refine va_get (D := (dC, dI)) (ci := 4) (v := .ref (q 11)) (C := R_M) (T := T_M) (N := 24) hx hb hT in_M hown hK hP 0 rfl rfl 20 (by decide) (hT _ k_345) (fun _ h9 => h9) rfl d_M_apply_118 ?_
                      refine lv_iload_n hx hb d_M_apply_121 rfl (lv_at hl 0 rfl) ?_
                      refine ob_lald hx hb hK hP 11 1 rfl rfl (j := j) (nI_clamp (by omega)) (cv_in (nI_toInt (by omega)) (by omega)) d_M_apply_122 ?_
                      refine lv_lsub hx hb d_M_apply_123 ?_
                      refine lv_lstore_n (lv' := [(1, .long (lf2 - (dam j))), (3, .int (nI j)), (0, .ref (q 0))]) hx hb d_M_apply_124 rfl hl (by decide) rfl (fun ls hl => ?_)
                      refine lv_iinc (v := nI (j + 1)) (lv' := [(3, .int (nI (j + 1))), (1, .long (lf2 - (dam j))), (0, .ref (q 0))]) hx hb d_M_apply_125 hl (k := 1) rfl (nI_add j 1) (by decide) rfl (fun ls hl => ?_)
                      refine lv_goto (tgt := 93) hx hb d_M_apply_128 (by decide) ?_
                      exact ih_93 (j + 1) (lf2 - (dam j)) _ _ _ (by omega) (by omega) (by rw [← hres, f_less_go (by omega) c_109]) hP hD hS (lv_sub hl [0, 1, 2] rfl)
                    · have c_109 := mt (lg_cmp_le _ _).mpr c_109
                      exact absurd h2 (by rw [f_fee_go (fun h => h.elim (fun z => Int64.not_lt.mpr c_49 z) (fun z => z (Int64.not_lt.mp c_36))), ← hres, f_less_no (by omega) c_109]; decide)
              exact key_93 _ 0 left _ _ _ (Nat.lt_succ_self _) (Nat.zero_le _) (by rw [hlf, show i = sp by omega]; rfl) hP hD hS (lv_sub hl [0, 1, 2] rfl)
            · have t_68 := mt (cv_le (nI_toInt (by omega)) (nI_toInt (by omega))).mpr c_68
              refine lv_lload_n hx hb d_M_apply_71 rfl (lv_at hl 1 rfl) ?_
              refine lv_aload_n hx hb d_M_apply_72 rfl (lv_at hl 2 rfl) ?_
              refine va_get (D := (dC, dI)) (ci := 4) (v := .ref (q 2)) (C := R_M) (T := T_M) (N := 24) hx hb hT in_M hown hK hP 0 rfl rfl 4 (by decide) (hT _ k_329) (fun _ h9 => h9) rfl d_M_apply_73 ?_
              refine lv_aload_n hx hb d_M_apply_76 rfl (lv_at hl 2 rfl) ?_
              refine va_get (D := (dC, dI)) (ci := 4) (v := .ref (q 9)) (C := R_M) (T := T_M) (N := 24) hx hb hT in_M hown hK hP 0 rfl rfl 17 (by decide) (hT _ k_342) (fun _ h9 => h9) rfl d_M_apply_77 ?_
              refine lv_iload_n hx hb d_M_apply_80 rfl (lv_at hl 0 rfl) ?_
              refine ob_iald hx hb hK hP 9 0 rfl rfl (j := i) (nI_clamp (by omega)) (cv_in (nI_toInt (by omega)) (by omega)) d_M_apply_81 ?_
              refine ob_lald hx hb hK hP 2 1 rfl rfl (j := (dsp i).toNatClampNeg) rfl (cv_in rfl (by have := hdr i (by omega); omega)) d_M_apply_82 ?_
              refine lv_ladd hx hb d_M_apply_83 ?_
              refine lv_lstore_n (lv' := [(1, .long (left + (amt ((dsp i).toNatClampNeg)))), (3, .int (nI i)), (0, .ref (q 0))]) hx hb d_M_apply_84 rfl hl (by decide) rfl (fun ls hl => ?_)
              refine lv_iinc (v := nI (i + 1)) (lv' := [(3, .int (nI (i + 1))), (1, .long (left + (amt ((dsp i).toNatClampNeg)))), (0, .ref (q 0))]) hx hb d_M_apply_85 hl (k := 1) rfl (nI_add i 1) (by decide) rfl (fun ls hl => ?_)
              refine lv_goto (tgt := 63) hx hb d_M_apply_88 (by decide) ?_
              exact ih_63 (i + 1) (left + (amt ((dsp i).toNatClampNeg))) _ _ _ (by omega) (by omega) (by rw [hlf, f_gain, f_amt, if_pos (hdr i (by omega))]) hP hD hS (lv_sub hl [0, 1, 2] rfl)
        exact key_63 _ 0 mint _ _ _ (Nat.lt_succ_self _) (Nat.zero_le _) rfl hP hD hS (lv_sub hl [0, 1, 2] rfl)
      · have c_49 := mt (lg_cmp_ge _ _).mpr c_49
        exact absurd h2 (by first | (rw [f_fee_no (Or.inr (Int64.not_le.mpr c_36))]; decide) | (rw [f_fee_no (Or.inl (Int64.not_le.mp c_49))]; decide))
  · have t_9 := (cv_eq (nI_toInt (by omega)) (by decide : (0 : Int32).toInt = 0)).mp c_9
    refine lv_aload_n hx hb d_M_apply_12 rfl (lv_at hl 0 rfl) ?_
    refine va_get (D := (dC, dI)) (ci := 4) (v := .int (nI mk)) (C := R_M) (T := T_M) (N := 24) hx hb hT in_M hown hK hP 0 rfl rfl 18 (by decide) (hT _ k_343) (fun _ h9 => h9) rfl d_M_apply_13 ?_
    refine lv_if_ne (tgt := 23) hx hb d_M_apply_16 (by decide) (fun c_16 => ?_) (fun c_16 => ?_)
    · have t_16 := mt (cv_eq (nI_toInt (by omega)) (by decide : (0 : Int32).toInt = 0)).mpr c_16
      refine lv_aload_n hx hb d_M_apply_23 rfl (lv_at hl 0 rfl) ?_
      refine va_get (D := (dC, dI)) (ci := 4) (v := .long mint) (C := R_M) (T := T_M) (N := 24) hx hb hT in_M hown hK hP 0 rfl rfl 22 (by decide) (hT _ k_347) (fun _ h9 => h9) rfl d_M_apply_24 ?_
      refine lv_ldc2 (v := 4611686018427387904) hx hb hown (hT _ k_438) d_M_apply_27 ?_
      refine lv_aload_n hx hb d_M_apply_30 rfl (lv_at hl 0 rfl) ?_
      refine va_get (D := (dC, dI)) (ci := 4) (v := .long supply) (C := R_M) (T := T_M) (N := 24) hx hb hT in_M hown hK hP 0 rfl rfl 11 (by decide) (hT _ k_336) (fun _ h9 => h9) rfl d_M_apply_31 ?_
      refine lv_lsub hx hb d_M_apply_34 ?_
      refine W.lcmp hx hb d_M_apply_35 ?_
      refine lv_if_gt (tgt := 52) hx hb d_M_apply_36 (by decide) (fun c_36 => ?_) (fun c_36 => ?_)
      · have c_36 := (lg_cmp_gt _ _).mp c_36
        exact absurd h2 (by first | (rw [f_fee_no (Or.inr (Int64.not_le.mpr c_36))]; decide) | (rw [f_fee_no (Or.inl (Int64.not_le.mp c_49))]; decide))
      · have c_36 := mt (lg_cmp_gt _ _).mpr c_36
        refine lv_aload_n hx hb d_M_apply_39 rfl (lv_at hl 0 rfl) ?_
        refine va_get (D := (dC, dI)) (ci := 4) (v := .long mint) (C := R_M) (T := T_M) (N := 24) hx hb hT in_M hown hK hP 0 rfl rfl 22 (by decide) (hT _ k_347) (fun _ h9 => h9) rfl d_M_apply_40 ?_
        refine lv_aload_n hx hb d_M_apply_43 rfl (lv_at hl 0 rfl) ?_
        refine va_get (D := (dC, dI)) (ci := 4) (v := .long supply) (C := R_M) (T := T_M) (N := 24) hx hb hT in_M hown hK hP 0 rfl rfl 11 (by decide) (hT _ k_336) (fun _ h9 => h9) rfl d_M_apply_44 ?_
        refine lv_lneg hx hb d_M_apply_47 ?_
        refine W.lcmp hx hb d_M_apply_48 ?_
        refine lv_if_ge (tgt := 56) hx hb d_M_apply_49 (by decide) (fun c_49 => ?_) (fun c_49 => ?_)
        · have c_49 := (lg_cmp_ge _ _).mp c_49
          refine lv_aload_n hx hb d_M_apply_56 rfl (lv_at hl 0 rfl) ?_
          refine va_get (D := (dC, dI)) (ci := 4) (v := .long mint) (C := R_M) (T := T_M) (N := 24) hx hb hT in_M hown hK hP 0 rfl rfl 22 (by decide) (hT _ k_347) (fun _ h9 => h9) rfl d_M_apply_57 ?_
          refine lv_lstore_n (lv' := [(1, .long mint), (0, .ref (q 0))]) hx hb d_M_apply_60 rfl hl (by decide) rfl (fun ls hl => ?_)
          refine lv_iconst (v := nI 0) hx hb d_M_apply_61 (by decide) ?_
          refine lv_istore_n (lv' := [(3, .int (nI 0)), (1, .long mint), (0, .ref (q 0))]) hx hb d_M_apply_62 rfl hl (by decide) rfl (fun ls hl => ?_)
          have key_63 : ∀ (n : Nat) (i : Nat) (left : Int64) (H : Heap) (locs : List Loc) (ls : Array Slot), sp - i < n → (i ≤ sp) → (left = f_gain amt made dsp mint i) → va_P (dC, dI) vwCl (wM q cI cL own amt tag mad spt made dsp dow dam dtg sp mk mint dep hgt und supply pot apl fes mns tms pic) H → va_D A (wM q cI cL own amt tag mad spt made dsp dow dam dtg sp mk mint dep hgt und supply pot apl fes mns tms pic) → va_S A s.heap H locs → lv_has ls 4 [(3, .int (nI i)), (1, .long left), (0, .ref (q 0))] → W p l e rm_M_apply_t s m args below meth c H locs 0 0 Q (F0 m 63 ls []) := by
            intro n_63
            induction n_63 with
            | zero => intro i left H locs ls h; exact absurd h (Nat.not_lt_zero _)
            | succ n_63 ih_63 =>
              intro i left H locs ls hn_63 hi hlf hP hD hS hl
              refine lv_iload_n hx hb d_M_apply_63 rfl (lv_at hl 0 rfl) ?_
              refine lv_aload_n hx hb d_M_apply_64 rfl (lv_at hl 2 rfl) ?_
              refine va_get (D := (dC, dI)) (ci := 4) (v := .int (nI sp)) (C := R_M) (T := T_M) (N := 24) hx hb hT in_M hown hK hP 0 rfl rfl 16 (by decide) (hT _ k_341) (fun _ h9 => h9) rfl d_M_apply_65 ?_
              refine lv_icmp_ge (tgt := 91) hx hb d_M_apply_68 (by decide) (fun c_68 => ?_) (fun c_68 => ?_)
              · have t_68 := (cv_le (nI_toInt (by omega)) (nI_toInt (by omega))).mp c_68
                refine lv_iconst (v := nI 0) hx hb d_M_apply_91 (by decide) ?_
                refine lv_istore_n (lv' := [(3, .int (nI 0)), (1, .long left), (0, .ref (q 0))]) hx hb d_M_apply_92 rfl hl (by decide) rfl (fun ls hl => ?_)
                have key_93 : ∀ (n : Nat) (j : Nat) (lf2 : Int64) (H : Heap) (locs : List Loc) (ls : Array Slot), mk - j < n → (j ≤ mk) → (f_less dam (mk - j) j lf2 = f_less dam mk 0 (f_gain amt made dsp mint sp)) → va_P (dC, dI) vwCl (wM q cI cL own amt tag mad spt made dsp dow dam dtg sp mk mint dep hgt und supply pot apl fes mns tms pic) H → va_D A (wM q cI cL own amt tag mad spt made dsp dow dam dtg sp mk mint dep hgt und supply pot apl fes mns tms pic) → va_S A s.heap H locs → lv_has ls 4 [(3, .int (nI j)), (1, .long lf2), (0, .ref (q 0))] → W p l e rm_M_apply_t s m args below meth c H locs 0 0 Q (F0 m 93 ls []) := by
                  intro n_93
                  induction n_93 with
                  | zero => intro j lf2 H locs ls h; exact absurd h (Nat.not_lt_zero _)
                  | succ n_93 ih_93 =>
                    intro j lf2 H locs ls hn_93 hj hres hP hD hS hl
                    refine lv_iload_n hx hb d_M_apply_93 rfl (lv_at hl 0 rfl) ?_
                    refine lv_aload_n hx hb d_M_apply_94 rfl (lv_at hl 2 rfl) ?_
                    refine va_get (D := (dC, dI)) (ci := 4) (v := .int (nI mk)) (C := R_M) (T := T_M) (N := 24) hx hb hT in_M hown hK hP 0 rfl rfl 18 (by decide) (hT _ k_343) (fun _ h9 => h9) rfl d_M_apply_95 ?_
                    refine lv_icmp_ge (tgt := 131) hx hb d_M_apply_98 (by decide) (fun c_98 => ?_) (fun c_98 => ?_)
                    · have t_98 := (cv_le (nI_toInt (by omega)) (nI_toInt (by omega))).mp c_98
                      have hfee : f_fee supply mint amt made dsp sp dam mk = lf2 := by rw [f_fee_go (fun h => h.elim (fun z => Int64.not_lt.mpr c_49 z) (fun z => z (Int64.not_lt.mp c_36))), ← hres, show mk - j = 0 by omega]; rfl
                      refine lv_lload_n hx hb d_M_apply_131 rfl (lv_at hl 1 rfl) ?_
                      refine lv_lconst (v := 0) hx hb d_M_apply_132 (by decide) ?_
                      refine W.lcmp hx hb d_M_apply_133 ?_
                      refine lv_if_ge (tgt := 141) hx hb d_M_apply_134 (by decide) (fun c_134 => ?_) (fun c_134 => ?_)
                      · have c_134 := (lg_cmp_ge _ _).mp c_134
                        refine lv_aload_n hx hb d_M_apply_141 rfl (lv_at hl 2 rfl) ?_
                        refine va_get (D := (dC, dI)) (ci := 4) (v := .int (nI made)) (C := R_M) (T := T_M) (N := 24) hx hb hT in_M hown hK hP 0 rfl rfl 2 (by decide) (hT _ k_327) (fun _ h9 => h9) rfl d_M_apply_142 ?_
                        refine lv_aload_n hx hb d_M_apply_145 rfl (lv_at hl 2 rfl) ?_
                        refine va_get (D := (dC, dI)) (ci := 4) (v := .int (nI mk)) (C := R_M) (T := T_M) (N := 24) hx hb hT in_M hown hK hP 0 rfl rfl 18 (by decide) (hT _ k_343) (fun _ h9 => h9) rfl d_M_apply_146 ?_
                        refine lv_iadd hx hb d_M_apply_149 ?_
                        refine ob_eqi (nI_add made mk) ?_
                        refine lv_sipush (v := nI 2048) hx hb d_M_apply_150 (by decide) ?_
                        refine lv_icmp_le (tgt := 160) hx hb d_M_apply_153 (by decide) (fun c_153 => ?_) (fun c_153 => ?_)
                        · have t_153 := (cv_le (nI_toInt (by omega)) (nI_toInt (by omega))).mp c_153
                          refine lv_iconst (v := nI 0) hx hb d_M_apply_160 (by decide) ?_
                          refine lv_istore_n (lv' := [(3, .int (nI 0)), (1, .long lf2), (0, .ref (q 0))]) hx hb d_M_apply_161 rfl hl (by decide) rfl (fun ls hl => ?_)
                          have key_162 : ∀ (n : Nat) (k : Nat) (s1 : Nat → Int32) (H : Heap) (locs : List Loc) (ls : Array Slot), sp - k < n → (k ≤ sp) → (s1 = f_sets spt dsp (nI hgt) k) → va_P (dC, dI) vwCl (wM q cI cL own amt tag mad s1 made dsp dow dam dtg sp mk mint dep hgt und supply pot apl fes mns tms pic) H → va_D A (wM q cI cL own amt tag mad s1 made dsp dow dam dtg sp mk mint dep hgt und supply pot apl fes mns tms pic) → va_S A s.heap H locs → lv_has ls 4 [(3, .int (nI k)), (1, .long lf2), (0, .ref (q 0))] → W p l e rm_M_apply_t s m args below meth c H locs 0 0 Q (F0 m 162 ls []) := by
                            intro n_162
                            induction n_162 with
                            | zero => intro k s1 H locs ls h; exact absurd h (Nat.not_lt_zero _)
                            | succ n_162 ih_162 =>
                              intro k s1 H locs ls hn_162 hk hs1 hP hD hS hl
                              refine lv_iload_n hx hb d_M_apply_162 rfl (lv_at hl 0 rfl) ?_
                              refine lv_aload_n hx hb d_M_apply_163 rfl (lv_at hl 2 rfl) ?_
                              refine va_get (D := (dC, dI)) (ci := 4) (v := .int (nI sp)) (C := R_M) (T := T_M) (N := 24) hx hb hT in_M hown hK hP 0 rfl rfl 16 (by decide) (hT _ k_341) (fun _ h9 => h9) rfl d_M_apply_164 ?_
                              refine lv_icmp_ge (tgt := 191) hx hb d_M_apply_167 (by decide) (fun c_167 => ?_) (fun c_167 => ?_)
                              · have t_167 := (cv_le (nI_toInt (by omega)) (nI_toInt (by omega))).mp c_167
                                refine lv_iconst (v := nI 0) hx hb d_M_apply_191 (by decide) ?_
                                refine lv_istore_n (lv' := [(3, .int (nI 0)), (1, .long lf2), (0, .ref (q 0))]) hx hb d_M_apply_192 rfl hl (by decide) rfl (fun ls hl => ?_)
                                have key_193 : ∀ (n : Nat) (i2 : Nat) (o9 : Nat → Int32) (a9 : Nat → Int64) (g9 : Nat → Int64) (m9 : Nat → Int32) (s9 : Nat → Int32) (n9 : Nat) (H : Heap) (locs : List Loc) (ls : Array Slot), mk - i2 < n → (i2 ≤ mk) → (n9 = made + i2) → (o9 = f_app own made dow i2) → (a9 = f_appL amt made dam i2) → (g9 = f_appL tag made dtg i2) → (m9 = f_app mad made (fun _ => nI hgt) i2) → (s9 = f_app s1 made (fun _ => -1) i2) → va_P (dC, dI) vwCl (wM q cI cL o9 a9 g9 m9 s9 n9 dsp dow dam dtg sp mk mint dep hgt und supply pot apl fes mns tms pic) H → va_D A (wM q cI cL o9 a9 g9 m9 s9 n9 dsp dow dam dtg sp mk mint dep hgt und supply pot apl fes mns tms pic) → va_S A s.heap H locs → lv_has ls 4 [(3, .int (nI i2)), (1, .long lf2), (0, .ref (q 0))] → W p l e rm_M_apply_t s m args below meth c H locs 0 0 Q (F0 m 193 ls []) := by
                                  intro n_193
                                  induction n_193 with
                                  | zero => intro i2 o9 a9 g9 m9 s9 n9 H locs ls h; exact absurd h (Nat.not_lt_zero _)
                                  | succ n_193 ih_193 =>
                                    intro i2 o9 a9 g9 m9 s9 n9 H locs ls hn_193 hi2 hn9 ho9 ha9 hg9 hm9 hs9 hP hD hS hl
                                    refine lv_iload_n hx hb d_M_apply_193 rfl (lv_at hl 0 rfl) ?_
                                    refine lv_aload_n hx hb d_M_apply_194 rfl (lv_at hl 2 rfl) ?_
                                    refine va_get (D := (dC, dI)) (ci := 4) (v := .int (nI mk)) (C := R_M) (T := T_M) (N := 24) hx hb hT in_M hown hK hP 0 rfl rfl 18 (by decide) (hT _ k_343) (fun _ h9 => h9) rfl d_M_apply_195 ?_
                                    refine lv_icmp_ge (tgt := 285) hx hb d_M_apply_198 (by decide) (fun c_198 => ?_) (fun c_198 => ?_)
                                    · have t_198 := (cv_le (nI_toInt (by omega)) (nI_toInt (by omega))).mp c_198
                                      refine lv_aload_n hx hb d_M_apply_285 rfl (lv_at hl 2 rfl) ?_
                                      refine lv_dup hx hb d_M_apply_286 rfl ?_
                                      refine va_get (D := (dC, dI)) (ci := 4) (v := .long pot) (C := R_M) (T := T_M) (N := 24) hx hb hT in_M hown hK hP 0 rfl rfl 10 (by decide) (hT _ k_335) (fun _ h9 => h9) rfl d_M_apply_287 ?_
                                      refine lv_lload_n hx hb d_M_apply_290 rfl (lv_at hl 1 rfl) ?_
                                      refine lv_ladd hx hb d_M_apply_291 ?_
                                      refine va_put (D := (dC, dI)) (ci := 4) (v := .long (pot + lf2)) (ty := .long) (C := R_M) (T := T_M) (N := 24) hx hb hT in_M t_M t_M_ok n_M hown hK hP hD hS 0 rfl rfl 10 (by decide) (hT _ k_335) (fun _ h9 => h9) rfl (by decide +kernel) rfl rfl (Nat.le_of_ble_eq_true rfl) d_M_apply_292 (fun H locs hP hD hS => ?_)
                                      have hP : va_P (dC, dI) vwCl (wM q cI cL o9 a9 g9 m9 s9 n9 dsp dow dam dtg sp mk mint dep hgt und supply (pot + lf2) apl fes mns tms pic) H := hP
                                      have hD : va_D A (wM q cI cL o9 a9 g9 m9 s9 n9 dsp dow dam dtg sp mk mint dep hgt und supply (pot + lf2) apl fes mns tms pic) := hD
                                      refine lv_aload_n hx hb d_M_apply_295 rfl (lv_at hl 2 rfl) ?_
                                      refine lv_dup hx hb d_M_apply_296 rfl ?_
                                      refine va_get (D := (dC, dI)) (ci := 4) (v := .long supply) (C := R_M) (T := T_M) (N := 24) hx hb hT in_M hown hK hP 0 rfl rfl 11 (by decide) (hT _ k_336) (fun _ h9 => h9) rfl d_M_apply_297 ?_
                                      refine lv_aload_n hx hb d_M_apply_300 rfl (lv_at hl 2 rfl) ?_
                                      refine va_get (D := (dC, dI)) (ci := 4) (v := .long mint) (C := R_M) (T := T_M) (N := 24) hx hb hT in_M hown hK hP 0 rfl rfl 22 (by decide) (hT _ k_347) (fun _ h9 => h9) rfl d_M_apply_301 ?_
                                      refine lv_ladd hx hb d_M_apply_304 ?_
                                      refine va_put (D := (dC, dI)) (ci := 4) (v := .long (supply + mint)) (ty := .long) (C := R_M) (T := T_M) (N := 24) hx hb hT in_M t_M t_M_ok n_M hown hK hP hD hS 0 rfl rfl 11 (by decide) (hT _ k_336) (fun _ h9 => h9) rfl (by decide +kernel) rfl rfl (Nat.le_of_ble_eq_true rfl) d_M_apply_305 (fun H locs hP hD hS => ?_)
                                      have hP : va_P (dC, dI) vwCl (wM q cI cL o9 a9 g9 m9 s9 n9 dsp dow dam dtg sp mk mint dep hgt und (supply + mint) (pot + lf2) apl fes mns tms pic) H := hP
                                      have hD : va_D A (wM q cI cL o9 a9 g9 m9 s9 n9 dsp dow dam dtg sp mk mint dep hgt und (supply + mint) (pot + lf2) apl fes mns tms pic) := hD
                                      refine lv_aload_n hx hb d_M_apply_308 rfl (lv_at hl 2 rfl) ?_
                                      refine lv_dup hx hb d_M_apply_309 rfl ?_
                                      refine va_get (D := (dC, dI)) (ci := 4) (v := .int apl) (C := R_M) (T := T_M) (N := 24) hx hb hT in_M hown hK hP 0 rfl rfl 12 (by decide) (hT _ k_337) (fun _ h9 => h9) rfl d_M_apply_310 ?_
                                      refine lv_iconst (v := nI 1) hx hb d_M_apply_313 (by decide) ?_
                                      refine lv_iadd hx hb d_M_apply_314 ?_
                                      refine va_put (D := (dC, dI)) (ci := 4) (v := .int (apl + (nI 1))) (ty := .int) (C := R_M) (T := T_M) (N := 24) hx hb hT in_M t_M t_M_ok n_M hown hK hP hD hS 0 rfl rfl 12 (by decide) (hT _ k_337) (fun _ h9 => h9) rfl (by decide +kernel) rfl rfl (Nat.le_of_ble_eq_true rfl) d_M_apply_315 (fun H locs hP hD hS => ?_)
                                      have hP : va_P (dC, dI) vwCl (wM q cI cL o9 a9 g9 m9 s9 n9 dsp dow dam dtg sp mk mint dep hgt und (supply + mint) (pot + lf2) (apl + (nI 1)) fes mns tms pic) H := hP
                                      have hD : va_D A (wM q cI cL o9 a9 g9 m9 s9 n9 dsp dow dam dtg sp mk mint dep hgt und (supply + mint) (pot + lf2) (apl + (nI 1)) fes mns tms pic) := hD
                                      refine lv_aload_n hx hb d_M_apply_318 rfl (lv_at hl 2 rfl) ?_
                                      refine va_get (D := (dC, dI)) (ci := 4) (v := .ref (q 6)) (C := R_M) (T := T_M) (N := 24) hx hb hT in_M hown hK hP 0 rfl rfl 13 (by decide) (hT _ k_338) (fun _ h9 => h9) rfl d_M_apply_319 ?_
                                      refine lv_aload_n hx hb d_M_apply_322 rfl (lv_at hl 2 rfl) ?_
                                      refine va_get (D := (dC, dI)) (ci := 4) (v := .int (nI hgt)) (C := R_M) (T := T_M) (N := 24) hx hb hT in_M hown hK hP 0 rfl rfl 8 (by decide) (hT _ k_333) (fun _ h9 => h9) rfl d_M_apply_323 ?_
                                      refine lv_dup2_11 hx hb d_M_apply_326 rfl rfl ?_
                                      refine ob_lald hx hb hK hP 6 1 rfl rfl (j := hgt) (nI_clamp (by omega)) (cv_in (nI_toInt (by omega)) (by omega)) d_M_apply_327 ?_
                                      refine lv_lload_n hx hb d_M_apply_328 rfl (lv_at hl 1 rfl) ?_
                                      refine lv_ladd hx hb d_M_apply_329 ?_
                                      refine ob_last hx hb hK hP hD hS 6 1 rfl rfl (j := hgt) (nI_clamp (by omega)) (cv_in (nI_toInt (by omega)) (by omega)) d_M_apply_330 (fun H locs hP hD hS => ?_)
                                      have hP : va_P (dC, dI) vwCl (wM q cI cL o9 a9 g9 m9 s9 n9 dsp dow dam dtg sp mk mint dep hgt und (supply + mint) (pot + lf2) (apl + (nI 1)) (vp_updL fes hgt ((fes hgt) + lf2)) mns tms pic) H := hP
                                      have hD : va_D A (wM q cI cL o9 a9 g9 m9 s9 n9 dsp dow dam dtg sp mk mint dep hgt und (supply + mint) (pot + lf2) (apl + (nI 1)) (vp_updL fes hgt ((fes hgt) + lf2)) mns tms pic) := hD
                                      refine lv_aload_n hx hb d_M_apply_331 rfl (lv_at hl 2 rfl) ?_
                                      refine va_get (D := (dC, dI)) (ci := 4) (v := .ref (q 7)) (C := R_M) (T := T_M) (N := 24) hx hb hT in_M hown hK hP 0 rfl rfl 14 (by decide) (hT _ k_339) (fun _ h9 => h9) rfl d_M_apply_332 ?_
                                      refine lv_aload_n hx hb d_M_apply_335 rfl (lv_at hl 2 rfl) ?_
                                      refine va_get (D := (dC, dI)) (ci := 4) (v := .int (nI hgt)) (C := R_M) (T := T_M) (N := 24) hx hb hT in_M hown hK hP 0 rfl rfl 8 (by decide) (hT _ k_333) (fun _ h9 => h9) rfl d_M_apply_336 ?_
                                      refine lv_dup2_11 hx hb d_M_apply_339 rfl rfl ?_
                                      refine ob_lald hx hb hK hP 7 1 rfl rfl (j := hgt) (nI_clamp (by omega)) (cv_in (nI_toInt (by omega)) (by omega)) d_M_apply_340 ?_
                                      refine lv_aload_n hx hb d_M_apply_341 rfl (lv_at hl 2 rfl) ?_
                                      refine va_get (D := (dC, dI)) (ci := 4) (v := .long mint) (C := R_M) (T := T_M) (N := 24) hx hb hT in_M hown hK hP 0 rfl rfl 22 (by decide) (hT _ k_347) (fun _ h9 => h9) rfl d_M_apply_342 ?_
                                      refine lv_ladd hx hb d_M_apply_345 ?_
                                      refine ob_last hx hb hK hP hD hS 7 1 rfl rfl (j := hgt) (nI_clamp (by omega)) (cv_in (nI_toInt (by omega)) (by omega)) d_M_apply_346 (fun H locs hP hD hS => ?_)
                                      have hP : va_P (dC, dI) vwCl (wM q cI cL o9 a9 g9 m9 s9 n9 dsp dow dam dtg sp mk mint dep hgt und (supply + mint) (pot + lf2) (apl + (nI 1)) (vp_updL fes hgt ((fes hgt) + lf2)) (vp_updL mns hgt ((mns hgt) + mint)) tms pic) H := hP
                                      have hD : va_D A (wM q cI cL o9 a9 g9 m9 s9 n9 dsp dow dam dtg sp mk mint dep hgt und (supply + mint) (pot + lf2) (apl + (nI 1)) (vp_updL fes hgt ((fes hgt) + lf2)) (vp_updL mns hgt ((mns hgt) + mint)) tms pic) := hD
                                      refine lv_aload_n hx hb d_M_apply_347 rfl (lv_at hl 2 rfl) ?_
                                      refine va_get (D := (dC, dI)) (ci := 4) (v := .ref (q 8)) (C := R_M) (T := T_M) (N := 24) hx hb hT in_M hown hK hP 0 rfl rfl 15 (by decide) (hT _ k_340) (fun _ h9 => h9) rfl d_M_apply_348 ?_
                                      refine lv_aload_n hx hb d_M_apply_351 rfl (lv_at hl 2 rfl) ?_
                                      refine va_get (D := (dC, dI)) (ci := 4) (v := .int (nI hgt)) (C := R_M) (T := T_M) (N := 24) hx hb hT in_M hown hK hP 0 rfl rfl 8 (by decide) (hT _ k_333) (fun _ h9 => h9) rfl d_M_apply_352 ?_
                                      refine lv_dup2_11 hx hb d_M_apply_355 rfl rfl ?_
                                      refine ob_iald hx hb hK hP 8 0 rfl rfl (j := hgt) (nI_clamp (by omega)) (cv_in (nI_toInt (by omega)) (by omega)) d_M_apply_356 ?_
                                      refine lv_iconst (v := nI 1) hx hb d_M_apply_357 (by decide) ?_
                                      refine lv_iadd hx hb d_M_apply_358 ?_
                                      refine ob_iast hx hb hK hP hD hS 8 0 rfl rfl (j := hgt) (nI_clamp (by omega)) (cv_in (nI_toInt (by omega)) (by omega)) d_M_apply_359 (fun H locs hP hD hS => ?_)
                                      have hP : va_P (dC, dI) vwCl (wM q cI cL o9 a9 g9 m9 s9 n9 dsp dow dam dtg sp mk mint dep hgt und (supply + mint) (pot + lf2) (apl + (nI 1)) (vp_updL fes hgt ((fes hgt) + lf2)) (vp_updL mns hgt ((mns hgt) + mint)) (upd tms hgt ((tms hgt) + (nI 1))) pic) H := hP
                                      have hD : va_D A (wM q cI cL o9 a9 g9 m9 s9 n9 dsp dow dam dtg sp mk mint dep hgt und (supply + mint) (pot + lf2) (apl + (nI 1)) (vp_updL fes hgt ((fes hgt) + lf2)) (vp_updL mns hgt ((mns hgt) + mint)) (upd tms hgt ((tms hgt) + (nI 1))) pic) := hD
                                      refine lv_aload_n hx hb d_M_apply_360 rfl (lv_at hl 2 rfl) ?_
                                      refine ob_callWv (va_runV (As := []) (rest := []) ⟨hx, hb, hml, hown, hT⟩ (c_M_empty l dC dI q cI cL o9 a9 g9 m9 s9 n9 dsp dow dam dtg sp mk mint dep hgt und (supply + mint) (pot + lf2) (apl + (nI 1)) (vp_updL fes hgt ((fes hgt) + lf2)) (vp_updL mns hgt ((mns hgt) + mint)) (upd tms hgt ((tms hgt) + (nI 1))) pic ) (cwV 0 hT (ob_goodV k_429 k_431 k_6 k_14 k_432) rfl rfl rfl (by decide +kernel) ⟨Nat.le_of_ble_eq_true rfl, Nat.le_of_ble_eq_true rfl⟩) (ob_preVW (wc := wM q cI cL o9 a9 g9 m9 s9 n9 dsp dow dam dtg sp mk mint dep hgt und (supply + mint) (pot + lf2) (apl + (nI 1)) (vp_updL fes hgt ((fes hgt) + lf2)) (vp_updL mns hgt ((mns hgt) + mint)) (upd tms hgt ((tms hgt) + (nI 1))) pic) (q0 := 0) rfl hK hP hD (fun _ h => absurd h List.not_mem_nil) rfl [0, 1, 2, 3, 4, 5, 6, 7, 8, 9, 10, 11, 12, 13] rfl rfl rfl rfl) rfl rfl hl.1 rfl (lv_room (Nat.le_of_ble_eq_true rfl)) d_M_apply_361 ⟨Nat.zero_le _, Nat.zero_le _⟩) hS hP hD [0, 1, 2, 3, 4, 5, 6, 7, 8, 9, 10, 11, 12, 13] rfl rfl (fun H locs hP hD hS => ?_)
                                      have hP : va_P (dC, dI) vwCl (wM q cI cL o9 a9 g9 m9 s9 n9 dsp dow dam dtg 0 0 (0 : Int64) dep hgt und (supply + mint) (pot + lf2) (apl + (nI 1)) (vp_updL fes hgt ((fes hgt) + lf2)) (vp_updL mns hgt ((mns hgt) + mint)) (upd tms hgt ((tms hgt) + (nI 1))) pic) H := hP
                                      have hD : va_D A (wM q cI cL o9 a9 g9 m9 s9 n9 dsp dow dam dtg 0 0 (0 : Int64) dep hgt und (supply + mint) (pot + lf2) (apl + (nI 1)) (vp_updL fes hgt ((fes hgt) + lf2)) (vp_updL mns hgt ((mns hgt) + mint)) (upd tms hgt ((tms hgt) + (nI 1))) pic) := hD
                                      refine lv_lload_n hx hb d_M_apply_364 rfl (lv_at hl 1 rfl) ?_
                                      exact ob_lretW (v := lf2) hx hb hr hlocks hQ hS hP (by rw [ho9, ha9, hg9, hm9, hs9, hs1, hn9, hfee, show i2 = mk by omega, show k = sp by omega]) hfee.symm d_M_apply_365
                                    · have t_198 := mt (cv_le (nI_toInt (by omega)) (nI_toInt (by omega))).mpr c_198
                                      refine lv_aload_n hx hb d_M_apply_201 rfl (lv_at hl 2 rfl) ?_
                                      refine va_get (D := (dC, dI)) (ci := 4) (v := .ref (q 1)) (C := R_M) (T := T_M) (N := 24) hx hb hT in_M hown hK hP 0 rfl rfl 3 (by decide) (hT _ k_328) (fun _ h9 => h9) rfl d_M_apply_202 ?_
                                      refine lv_aload_n hx hb d_M_apply_205 rfl (lv_at hl 2 rfl) ?_
                                      refine va_get (D := (dC, dI)) (ci := 4) (v := .int (nI n9)) (C := R_M) (T := T_M) (N := 24) hx hb hT in_M hown hK hP 0 rfl rfl 2 (by decide) (hT _ k_327) (fun _ h9 => h9) rfl d_M_apply_206 ?_
                                      refine lv_aload_n hx hb d_M_apply_209 rfl (lv_at hl 2 rfl) ?_
                                      refine va_get (D := (dC, dI)) (ci := 4) (v := .ref (q 10)) (C := R_M) (T := T_M) (N := 24) hx hb hT in_M hown hK hP 0 rfl rfl 19 (by decide) (hT _ k_344) (fun _ h9 => h9) rfl d_M_apply_210 ?_
                                      refine lv_iload_n hx hb d_M_apply_213 rfl (lv_at hl 0 rfl) ?_
                                      refine ob_iald hx hb hK hP 10 0 rfl rfl (j := i2) (nI_clamp (by omega)) (cv_in (nI_toInt (by omega)) (by omega)) d_M_apply_214 ?_
                                      refine ob_iast hx hb hK hP hD hS 1 0 rfl rfl (j := n9) (nI_clamp (by omega)) (cv_in (nI_toInt (by omega)) (by omega)) d_M_apply_215 (fun H locs hP hD hS => ?_)
                                      have hP : va_P (dC, dI) vwCl (wM q cI cL (upd o9 n9 (dow i2)) a9 g9 m9 s9 n9 dsp dow dam dtg sp mk mint dep hgt und supply pot apl fes mns tms pic) H := hP
                                      have hD : va_D A (wM q cI cL (upd o9 n9 (dow i2)) a9 g9 m9 s9 n9 dsp dow dam dtg sp mk mint dep hgt und supply pot apl fes mns tms pic) := hD
                                      refine lv_aload_n hx hb d_M_apply_216 rfl (lv_at hl 2 rfl) ?_
                                      refine va_get (D := (dC, dI)) (ci := 4) (v := .ref (q 2)) (C := R_M) (T := T_M) (N := 24) hx hb hT in_M hown hK hP 0 rfl rfl 4 (by decide) (hT _ k_329) (fun _ h9 => h9) rfl d_M_apply_217 ?_
                                      refine lv_aload_n hx hb d_M_apply_220 rfl (lv_at hl 2 rfl) ?_
                                      refine va_get (D := (dC, dI)) (ci := 4) (v := .int (nI n9)) (C := R_M) (T := T_M) (N := 24) hx hb hT in_M hown hK hP 0 rfl rfl 2 (by decide) (hT _ k_327) (fun _ h9 => h9) rfl d_M_apply_221 ?_
                                      refine lv_aload_n hx hb d_M_apply_224 rfl (lv_at hl 2 rfl) ?_
                                      refine va_get (D := (dC, dI)) (ci := 4) (v := .ref (q 11)) (C := R_M) (T := T_M) (N := 24) hx hb hT in_M hown hK hP 0 rfl rfl 20 (by decide) (hT _ k_345) (fun _ h9 => h9) rfl d_M_apply_225 ?_
                                      refine lv_iload_n hx hb d_M_apply_228 rfl (lv_at hl 0 rfl) ?_
                                      refine ob_lald hx hb hK hP 11 1 rfl rfl (j := i2) (nI_clamp (by omega)) (cv_in (nI_toInt (by omega)) (by omega)) d_M_apply_229 ?_
                                      refine ob_last hx hb hK hP hD hS 2 1 rfl rfl (j := n9) (nI_clamp (by omega)) (cv_in (nI_toInt (by omega)) (by omega)) d_M_apply_230 (fun H locs hP hD hS => ?_)
                                      have hP : va_P (dC, dI) vwCl (wM q cI cL (upd o9 n9 (dow i2)) (vp_updL a9 n9 (dam i2)) g9 m9 s9 n9 dsp dow dam dtg sp mk mint dep hgt und supply pot apl fes mns tms pic) H := hP
                                      have hD : va_D A (wM q cI cL (upd o9 n9 (dow i2)) (vp_updL a9 n9 (dam i2)) g9 m9 s9 n9 dsp dow dam dtg sp mk mint dep hgt und supply pot apl fes mns tms pic) := hD
                                      refine lv_aload_n hx hb d_M_apply_231 rfl (lv_at hl 2 rfl) ?_
                                      refine va_get (D := (dC, dI)) (ci := 4) (v := .ref (q 3)) (C := R_M) (T := T_M) (N := 24) hx hb hT in_M hown hK hP 0 rfl rfl 5 (by decide) (hT _ k_330) (fun _ h9 => h9) rfl d_M_apply_232 ?_
                                      refine lv_aload_n hx hb d_M_apply_235 rfl (lv_at hl 2 rfl) ?_
                                      refine va_get (D := (dC, dI)) (ci := 4) (v := .int (nI n9)) (C := R_M) (T := T_M) (N := 24) hx hb hT in_M hown hK hP 0 rfl rfl 2 (by decide) (hT _ k_327) (fun _ h9 => h9) rfl d_M_apply_236 ?_
                                      refine lv_aload_n hx hb d_M_apply_239 rfl (lv_at hl 2 rfl) ?_
                                      refine va_get (D := (dC, dI)) (ci := 4) (v := .ref (q 12)) (C := R_M) (T := T_M) (N := 24) hx hb hT in_M hown hK hP 0 rfl rfl 21 (by decide) (hT _ k_346) (fun _ h9 => h9) rfl d_M_apply_240 ?_
                                      refine lv_iload_n hx hb d_M_apply_243 rfl (lv_at hl 0 rfl) ?_
                                      refine ob_lald hx hb hK hP 12 1 rfl rfl (j := i2) (nI_clamp (by omega)) (cv_in (nI_toInt (by omega)) (by omega)) d_M_apply_244 ?_
                                      refine ob_last hx hb hK hP hD hS 3 1 rfl rfl (j := n9) (nI_clamp (by omega)) (cv_in (nI_toInt (by omega)) (by omega)) d_M_apply_245 (fun H locs hP hD hS => ?_)
                                      have hP : va_P (dC, dI) vwCl (wM q cI cL (upd o9 n9 (dow i2)) (vp_updL a9 n9 (dam i2)) (vp_updL g9 n9 (dtg i2)) m9 s9 n9 dsp dow dam dtg sp mk mint dep hgt und supply pot apl fes mns tms pic) H := hP
                                      have hD : va_D A (wM q cI cL (upd o9 n9 (dow i2)) (vp_updL a9 n9 (dam i2)) (vp_updL g9 n9 (dtg i2)) m9 s9 n9 dsp dow dam dtg sp mk mint dep hgt und supply pot apl fes mns tms pic) := hD
                                      refine lv_aload_n hx hb d_M_apply_246 rfl (lv_at hl 2 rfl) ?_
                                      refine va_get (D := (dC, dI)) (ci := 4) (v := .ref (q 4)) (C := R_M) (T := T_M) (N := 24) hx hb hT in_M hown hK hP 0 rfl rfl 6 (by decide) (hT _ k_331) (fun _ h9 => h9) rfl d_M_apply_247 ?_
                                      refine lv_aload_n hx hb d_M_apply_250 rfl (lv_at hl 2 rfl) ?_
                                      refine va_get (D := (dC, dI)) (ci := 4) (v := .int (nI n9)) (C := R_M) (T := T_M) (N := 24) hx hb hT in_M hown hK hP 0 rfl rfl 2 (by decide) (hT _ k_327) (fun _ h9 => h9) rfl d_M_apply_251 ?_
                                      refine lv_aload_n hx hb d_M_apply_254 rfl (lv_at hl 2 rfl) ?_
                                      refine va_get (D := (dC, dI)) (ci := 4) (v := .int (nI hgt)) (C := R_M) (T := T_M) (N := 24) hx hb hT in_M hown hK hP 0 rfl rfl 8 (by decide) (hT _ k_333) (fun _ h9 => h9) rfl d_M_apply_255 ?_
                                      refine ob_iast hx hb hK hP hD hS 4 0 rfl rfl (j := n9) (nI_clamp (by omega)) (cv_in (nI_toInt (by omega)) (by omega)) d_M_apply_258 (fun H locs hP hD hS => ?_)
                                      have hP : va_P (dC, dI) vwCl (wM q cI cL (upd o9 n9 (dow i2)) (vp_updL a9 n9 (dam i2)) (vp_updL g9 n9 (dtg i2)) (upd m9 n9 (nI hgt)) s9 n9 dsp dow dam dtg sp mk mint dep hgt und supply pot apl fes mns tms pic) H := hP
                                      have hD : va_D A (wM q cI cL (upd o9 n9 (dow i2)) (vp_updL a9 n9 (dam i2)) (vp_updL g9 n9 (dtg i2)) (upd m9 n9 (nI hgt)) s9 n9 dsp dow dam dtg sp mk mint dep hgt und supply pot apl fes mns tms pic) := hD
                                      refine lv_aload_n hx hb d_M_apply_259 rfl (lv_at hl 2 rfl) ?_
                                      refine va_get (D := (dC, dI)) (ci := 4) (v := .ref (q 5)) (C := R_M) (T := T_M) (N := 24) hx hb hT in_M hown hK hP 0 rfl rfl 7 (by decide) (hT _ k_332) (fun _ h9 => h9) rfl d_M_apply_260 ?_
                                      refine lv_aload_n hx hb d_M_apply_263 rfl (lv_at hl 2 rfl) ?_
                                      refine va_get (D := (dC, dI)) (ci := 4) (v := .int (nI n9)) (C := R_M) (T := T_M) (N := 24) hx hb hT in_M hown hK hP 0 rfl rfl 2 (by decide) (hT _ k_327) (fun _ h9 => h9) rfl d_M_apply_264 ?_
                                      refine lv_iconst (v := (-1 : Int32)) hx hb d_M_apply_267 (by decide) ?_
                                      refine ob_iast hx hb hK hP hD hS 5 0 rfl rfl (j := n9) (nI_clamp (by omega)) (cv_in (nI_toInt (by omega)) (by omega)) d_M_apply_268 (fun H locs hP hD hS => ?_)
                                      have hP : va_P (dC, dI) vwCl (wM q cI cL (upd o9 n9 (dow i2)) (vp_updL a9 n9 (dam i2)) (vp_updL g9 n9 (dtg i2)) (upd m9 n9 (nI hgt)) (upd s9 n9 (-1 : Int32)) n9 dsp dow dam dtg sp mk mint dep hgt und supply pot apl fes mns tms pic) H := hP
                                      have hD : va_D A (wM q cI cL (upd o9 n9 (dow i2)) (vp_updL a9 n9 (dam i2)) (vp_updL g9 n9 (dtg i2)) (upd m9 n9 (nI hgt)) (upd s9 n9 (-1 : Int32)) n9 dsp dow dam dtg sp mk mint dep hgt und supply pot apl fes mns tms pic) := hD
                                      refine lv_aload_n hx hb d_M_apply_269 rfl (lv_at hl 2 rfl) ?_
                                      refine lv_dup hx hb d_M_apply_270 rfl ?_
                                      refine va_get (D := (dC, dI)) (ci := 4) (v := .int (nI n9)) (C := R_M) (T := T_M) (N := 24) hx hb hT in_M hown hK hP 0 rfl rfl 2 (by decide) (hT _ k_327) (fun _ h9 => h9) rfl d_M_apply_271 ?_
                                      refine lv_iconst (v := nI 1) hx hb d_M_apply_274 (by decide) ?_
                                      refine lv_iadd hx hb d_M_apply_275 ?_
                                      refine ob_eqi (nI_add n9 1) ?_
                                      refine va_put (D := (dC, dI)) (ci := 4) (v := .int (nI (n9 + 1))) (ty := .int) (C := R_M) (T := T_M) (N := 24) hx hb hT in_M t_M t_M_ok n_M hown hK hP hD hS 0 rfl rfl 2 (by decide) (hT _ k_327) (fun _ h9 => h9) rfl (by decide +kernel) rfl rfl (Nat.le_of_ble_eq_true rfl) d_M_apply_276 (fun H locs hP hD hS => ?_)
                                      have hP : va_P (dC, dI) vwCl (wM q cI cL (upd o9 n9 (dow i2)) (vp_updL a9 n9 (dam i2)) (vp_updL g9 n9 (dtg i2)) (upd m9 n9 (nI hgt)) (upd s9 n9 (-1 : Int32)) (n9 + 1) dsp dow dam dtg sp mk mint dep hgt und supply pot apl fes mns tms pic) H := hP
                                      have hD : va_D A (wM q cI cL (upd o9 n9 (dow i2)) (vp_updL a9 n9 (dam i2)) (vp_updL g9 n9 (dtg i2)) (upd m9 n9 (nI hgt)) (upd s9 n9 (-1 : Int32)) (n9 + 1) dsp dow dam dtg sp mk mint dep hgt und supply pot apl fes mns tms pic) := hD
                                      refine lv_iinc (v := nI (i2 + 1)) (lv' := [(3, .int (nI (i2 + 1))), (1, .long lf2), (0, .ref (q 0))]) hx hb d_M_apply_279 hl (k := 0) rfl (nI_add i2 1) (by decide) rfl (fun ls hl => ?_)
                                      refine lv_goto (tgt := 193) hx hb d_M_apply_282 (by decide) ?_
                                      exact ih_193 (i2 + 1) (upd o9 n9 (dow i2)) (vp_updL a9 n9 (dam i2)) (vp_updL g9 n9 (dtg i2)) (upd m9 n9 (nI hgt)) (upd s9 n9 (-1 : Int32)) (n9 + 1) _ _ _ (by omega) (by omega) (by omega) (by rw [ho9, hn9]; rfl) (by rw [ha9, hn9]; rfl) (by rw [hg9, hn9]; rfl) (by rw [hm9, hn9]; rfl) (by rw [hs9, hn9]; rfl) hP hD hS (lv_sub hl [0, 1, 2] rfl)
                                exact key_193 _ 0 own amt tag mad s1 made _ _ _ (Nat.lt_succ_self _) (Nat.zero_le _) rfl rfl rfl rfl rfl rfl hP hD hS (lv_sub hl [0, 1, 2] rfl)
                              · have t_167 := mt (cv_le (nI_toInt (by omega)) (nI_toInt (by omega))).mpr c_167
                                refine lv_aload_n hx hb d_M_apply_170 rfl (lv_at hl 2 rfl) ?_
                                refine va_get (D := (dC, dI)) (ci := 4) (v := .ref (q 5)) (C := R_M) (T := T_M) (N := 24) hx hb hT in_M hown hK hP 0 rfl rfl 7 (by decide) (hT _ k_332) (fun _ h9 => h9) rfl d_M_apply_171 ?_
                                refine lv_aload_n hx hb d_M_apply_174 rfl (lv_at hl 2 rfl) ?_
                                refine va_get (D := (dC, dI)) (ci := 4) (v := .ref (q 9)) (C := R_M) (T := T_M) (N := 24) hx hb hT in_M hown hK hP 0 rfl rfl 17 (by decide) (hT _ k_342) (fun _ h9 => h9) rfl d_M_apply_175 ?_
                                refine lv_iload_n hx hb d_M_apply_178 rfl (lv_at hl 0 rfl) ?_
                                refine ob_iald hx hb hK hP 9 0 rfl rfl (j := k) (nI_clamp (by omega)) (cv_in (nI_toInt (by omega)) (by omega)) d_M_apply_179 ?_
                                refine lv_aload_n hx hb d_M_apply_180 rfl (lv_at hl 2 rfl) ?_
                                refine va_get (D := (dC, dI)) (ci := 4) (v := .int (nI hgt)) (C := R_M) (T := T_M) (N := 24) hx hb hT in_M hown hK hP 0 rfl rfl 8 (by decide) (hT _ k_333) (fun _ h9 => h9) rfl d_M_apply_181 ?_
                                refine ob_iast hx hb hK hP hD hS 5 0 rfl rfl (j := (dsp k).toNatClampNeg) rfl (cv_in rfl (by have := hdr k (by omega); omega)) d_M_apply_184 (fun H locs hP hD hS => ?_)
                                have hP : va_P (dC, dI) vwCl (wM q cI cL own amt tag mad (upd s1 ((dsp k).toNatClampNeg) (nI hgt)) made dsp dow dam dtg sp mk mint dep hgt und supply pot apl fes mns tms pic) H := hP
                                have hD : va_D A (wM q cI cL own amt tag mad (upd s1 ((dsp k).toNatClampNeg) (nI hgt)) made dsp dow dam dtg sp mk mint dep hgt und supply pot apl fes mns tms pic) := hD
                                refine lv_iinc (v := nI (k + 1)) (lv' := [(3, .int (nI (k + 1))), (1, .long lf2), (0, .ref (q 0))]) hx hb d_M_apply_185 hl (k := 0) rfl (nI_add k 1) (by decide) rfl (fun ls hl => ?_)
                                refine lv_goto (tgt := 162) hx hb d_M_apply_188 (by decide) ?_
                                exact ih_162 (k + 1) (upd s1 ((dsp k).toNatClampNeg) (nI hgt)) _ _ _ (by omega) (by omega) (by rw [hs1]; rfl) hP hD hS (lv_sub hl [0, 1, 2] rfl)
                          exact key_162 _ 0 spt _ _ _ (Nat.lt_succ_self _) (Nat.zero_le _) rfl hP hD hS (lv_sub hl [0, 1, 2] rfl)
                        · have t_153 := mt (cv_le (nI_toInt (by omega)) (nI_toInt (by omega))).mpr c_153
                          exact absurd t_153 (by omega)
                      · have c_134 := mt (lg_cmp_ge _ _).mpr c_134
                        exact absurd (by rw [← hfee]; exact h2) c_134
                    · have t_98 := mt (cv_le (nI_toInt (by omega)) (nI_toInt (by omega))).mpr c_98
                      refine lv_aload_n hx hb d_M_apply_101 rfl (lv_at hl 2 rfl) ?_
                      refine va_get (D := (dC, dI)) (ci := 4) (v := .ref (q 11)) (C := R_M) (T := T_M) (N := 24) hx hb hT in_M hown hK hP 0 rfl rfl 20 (by decide) (hT _ k_345) (fun _ h9 => h9) rfl d_M_apply_102 ?_
                      refine lv_iload_n hx hb d_M_apply_105 rfl (lv_at hl 0 rfl) ?_
                      refine ob_lald hx hb hK hP 11 1 rfl rfl (j := j) (nI_clamp (by omega)) (cv_in (nI_toInt (by omega)) (by omega)) d_M_apply_106 ?_
                      refine lv_lload_n hx hb d_M_apply_107 rfl (lv_at hl 1 rfl) ?_
                      refine W.lcmp hx hb d_M_apply_108 ?_
                      refine lv_if_le (tgt := 116) hx hb d_M_apply_109 (by decide) (fun c_109 => ?_) (fun c_109 => ?_)
                      · have c_109 := (lg_cmp_le _ _).mp c_109
                        refine lv_lload_n hx hb d_M_apply_116 rfl (lv_at hl 1 rfl) ?_
                        refine lv_aload_n hx hb d_M_apply_117 rfl (lv_at hl 2 rfl) ?_
                        refine va_get (D := (dC, dI)) (ci := 4) (v := .ref (q 11)) (C := R_M) (T := T_M) (N := 24) hx hb hT in_M hown hK hP 0 rfl rfl 20 (by decide) (hT _ k_345) (fun _ h9 => h9) rfl d_M_apply_118 ?_
                        refine lv_iload_n hx hb d_M_apply_121 rfl (lv_at hl 0 rfl) ?_
                        refine ob_lald hx hb hK hP 11 1 rfl rfl (j := j) (nI_clamp (by omega)) (cv_in (nI_toInt (by omega)) (by omega)) d_M_apply_122 ?_
                        refine lv_lsub hx hb d_M_apply_123 ?_
                        refine lv_lstore_n (lv' := [(1, .long (lf2 - (dam j))), (3, .int (nI j)), (0, .ref (q 0))]) hx hb d_M_apply_124 rfl hl (by decide) rfl (fun ls hl => ?_)
                        refine lv_iinc (v := nI (j + 1)) (lv' := [(3, .int (nI (j + 1))), (1, .long (lf2 - (dam j))), (0, .ref (q 0))]) hx hb d_M_apply_125 hl (k := 1) rfl (nI_add j 1) (by decide) rfl (fun ls hl => ?_)
                        refine lv_goto (tgt := 93) hx hb d_M_apply_128 (by decide) ?_
                        exact ih_93 (j + 1) (lf2 - (dam j)) _ _ _ (by omega) (by omega) (by rw [← hres, f_less_go (by omega) c_109]) hP hD hS (lv_sub hl [0, 1, 2] rfl)
                      · have c_109 := mt (lg_cmp_le _ _).mpr c_109
                        exact absurd h2 (by rw [f_fee_go (fun h => h.elim (fun z => Int64.not_lt.mpr c_49 z) (fun z => z (Int64.not_lt.mp c_36))), ← hres, f_less_no (by omega) c_109]; decide)
                exact key_93 _ 0 left _ _ _ (Nat.lt_succ_self _) (Nat.zero_le _) (by rw [hlf, show i = sp by omega]; rfl) hP hD hS (lv_sub hl [0, 1, 2] rfl)
              · have t_68 := mt (cv_le (nI_toInt (by omega)) (nI_toInt (by omega))).mpr c_68
                refine lv_lload_n hx hb d_M_apply_71 rfl (lv_at hl 1 rfl) ?_
                refine lv_aload_n hx hb d_M_apply_72 rfl (lv_at hl 2 rfl) ?_
                refine va_get (D := (dC, dI)) (ci := 4) (v := .ref (q 2)) (C := R_M) (T := T_M) (N := 24) hx hb hT in_M hown hK hP 0 rfl rfl 4 (by decide) (hT _ k_329) (fun _ h9 => h9) rfl d_M_apply_73 ?_
                refine lv_aload_n hx hb d_M_apply_76 rfl (lv_at hl 2 rfl) ?_
                refine va_get (D := (dC, dI)) (ci := 4) (v := .ref (q 9)) (C := R_M) (T := T_M) (N := 24) hx hb hT in_M hown hK hP 0 rfl rfl 17 (by decide) (hT _ k_342) (fun _ h9 => h9) rfl d_M_apply_77 ?_
                refine lv_iload_n hx hb d_M_apply_80 rfl (lv_at hl 0 rfl) ?_
                refine ob_iald hx hb hK hP 9 0 rfl rfl (j := i) (nI_clamp (by omega)) (cv_in (nI_toInt (by omega)) (by omega)) d_M_apply_81 ?_
                refine ob_lald hx hb hK hP 2 1 rfl rfl (j := (dsp i).toNatClampNeg) rfl (cv_in rfl (by have := hdr i (by omega); omega)) d_M_apply_82 ?_
                refine lv_ladd hx hb d_M_apply_83 ?_
                refine lv_lstore_n (lv' := [(1, .long (left + (amt ((dsp i).toNatClampNeg)))), (3, .int (nI i)), (0, .ref (q 0))]) hx hb d_M_apply_84 rfl hl (by decide) rfl (fun ls hl => ?_)
                refine lv_iinc (v := nI (i + 1)) (lv' := [(3, .int (nI (i + 1))), (1, .long (left + (amt ((dsp i).toNatClampNeg)))), (0, .ref (q 0))]) hx hb d_M_apply_85 hl (k := 1) rfl (nI_add i 1) (by decide) rfl (fun ls hl => ?_)
                refine lv_goto (tgt := 63) hx hb d_M_apply_88 (by decide) ?_
                exact ih_63 (i + 1) (left + (amt ((dsp i).toNatClampNeg))) _ _ _ (by omega) (by omega) (by rw [hlf, f_gain, f_amt, if_pos (hdr i (by omega))]) hP hD hS (lv_sub hl [0, 1, 2] rfl)
          exact key_63 _ 0 mint _ _ _ (Nat.lt_succ_self _) (Nat.zero_le _) rfl hP hD hS (lv_sub hl [0, 1, 2] rfl)
        · have c_49 := mt (lg_cmp_ge _ _).mpr c_49
          exact absurd h2 (by first | (rw [f_fee_no (Or.inr (Int64.not_le.mpr c_36))]; decide) | (rw [f_fee_no (Or.inl (Int64.not_le.mp c_49))]; decide))
    · have t_16 := (cv_eq (nI_toInt (by omega)) (by decide : (0 : Int32).toInt = 0)).mp c_16
      exact absurd h1 (by omega)
abbrev rm_M_undo_f : Room := { frames := 0, cells := 0, slots := 0, locals := 0 }
set_option maxHeartbeats 4000000 in
set_option maxRecDepth 100000 in
theorem c_M_undo_f (l : Launch) (dC : Nat → ClassId) (dI : Nat → Nat → Nat) (q : Nat → Nat) (cI cL : ClassId) (own : Nat → Int32) (amt : Nat → Int64) (tag : Nat → Int64) (mad : Nat → Int32) (spt : Nat → Int32) (made : Nat) (dsp : Nat → Int32) (dow : Nat → Int32) (dam : Nat → Int64) (dtg : Nat → Int64) (sp : Nat) (mk : Nat) (mint : Int64) (dep : Nat) (hgt : Nat) (und : Nat) (supply : Int64) (pot : Int64) (apl : Int32) (fes : Nat → Int64) (mns : Nat → Int64) (tms : Nat → Int32) (pic : Nat → Int32) (x : Int32) (hud : und ≤ 64) (hno : ¬ (0 ≤ x.toInt ∧ x.toInt ≤ und)) : Met l y_M_undo w_M_undo rm_M_undo_f (va_Pc [.ref (q 0), .int x] (ob_BW (dC, dI) vwCl (wM q cI cL own amt tag mad spt made dsp dow dam dtg sp mk mint dep hgt und supply pot apl fes mns tms pic) [(cI, .int), (cL, .long)] [])) (va_Qi (fun (r : Int32) (_ : Unit) => r = (-1 : Int32)) (fun _ t => va_P (dC, dI) vwCl (wM q cI cL own amt tag mad spt made dsp dow dam dtg sp mk mint dep hgt und supply pot apl fes mns tms pic) t.heap) (ob_A (wM q cI cL own amt tag mad spt made dsp dow dam dtg sp mk mint dep hgt und supply pot apl fes mns tms pic))) 0 0 (ob_A (wM q cI cL own amt tag mad spt made dsp dow dam dtg sp mk mint dep hgt und supply pot apl fes mns tms pic)) := by
  refine ob_ofW (cc := b_M_undo) (maxL := 4) (ret := (some .int)) (own := R_M) (by decide) rfl rfl (Nat.le_of_ble_eq_true rfl) ?_
  intro p e s m args below meth c Q hQ hx hb hr hml hT hown hlocks hv ls hl
  obtain ⟨⟨hP, hK, hN⟩, hD0⟩ := hv
  have hD := ob_D_self hD0
  generalize hAe : ob_A (wM q cI cL own amt tag mad spt made dsp dow dam dtg sp mk mint dep hgt und supply pot apl fes mns tms pic) = A at hQ hD
  have hS : va_S A s.heap s.heap [] := va_S.rf
  have hl : lv_has ls 4 [(0, .ref (q 0)), (1, .int x)] := hl
  refine lv_aload_n hx hb d_M_undo_0 rfl (lv_at hl 0 rfl) ?_
  refine lv_iconst (v := nI 0) hx hb d_M_undo_1 (by decide) ?_
  refine va_put (D := (dC, dI)) (ci := 4) (v := .int (nI 0)) (ty := .int) (C := R_M) (T := T_M) (N := 24) hx hb hT in_M t_M t_M_ok n_M hown hK hP hD hS 0 rfl rfl 0 (by decide) (hT _ k_325) (fun _ h9 => h9) rfl (by decide +kernel) rfl rfl (Nat.le_of_ble_eq_true rfl) d_M_undo_2 (fun H locs hP hD hS => ?_)
  have hP : va_P (dC, dI) vwCl (wM q cI cL own amt tag mad spt made dsp dow dam dtg sp mk mint dep hgt und supply pot apl fes mns tms pic) H := hP
  have hD : va_D A (wM q cI cL own amt tag mad spt made dsp dow dam dtg sp mk mint dep hgt und supply pot apl fes mns tms pic) := hD
  refine lv_iload_n hx hb d_M_undo_5 rfl (lv_at hl 1 rfl) ?_
  refine lv_if_lt (tgt := 17) hx hb d_M_undo_6 (by decide) (fun c_6 => ?_) (fun c_6 => ?_)
  · have t_6 := (cv_lt rfl (by decide : (0 : Int32).toInt = 0)).mp c_6
    refine lv_iconst (v := (-1 : Int32)) hx hb d_M_undo_17 (by decide) ?_
    exact ob_iretW (v := (-1 : Int32)) hx hb hr hlocks hQ hS hP rfl rfl d_M_undo_18
  · have t_6 := mt (cv_lt rfl (by decide : (0 : Int32).toInt = 0)).mpr c_6
    refine lv_iload_n hx hb d_M_undo_9 rfl (lv_at hl 1 rfl) ?_
    refine lv_aload_n hx hb d_M_undo_10 rfl (lv_at hl 0 rfl) ?_
    refine va_get (D := (dC, dI)) (ci := 4) (v := .int (nI und)) (C := R_M) (T := T_M) (N := 24) hx hb hT in_M hown hK hP 0 rfl rfl 9 (by decide) (hT _ k_334) (fun _ h9 => h9) rfl d_M_undo_11 ?_
    refine lv_icmp_le (tgt := 19) hx hb d_M_undo_14 (by decide) (fun c_14 => ?_) (fun c_14 => ?_)
    · have t_14 := (cv_le rfl (nI_toInt (by omega))).mp c_14
      exact absurd hno (by omega)
    · have t_14 := mt (cv_le rfl (nI_toInt (by omega))).mpr c_14
      refine lv_iconst (v := (-1 : Int32)) hx hb d_M_undo_17 (by decide) ?_
      exact ob_iretW (v := (-1 : Int32)) hx hb hr hlocks hQ hS hP rfl rfl d_M_undo_18
abbrev rm_M_undo_t : Room := { frames := 1, cells := 0, slots := 0, locals := 20 }
set_option maxHeartbeats 4000000 in
set_option maxRecDepth 100000 in
theorem c_M_undo_t (l : Launch) (dC : Nat → ClassId) (dI : Nat → Nat → Nat) (q : Nat → Nat) (cI cL : ClassId) (own : Nat → Int32) (amt : Nat → Int64) (tag : Nat → Int64) (mad : Nat → Int32) (spt : Nat → Int32) (made : Nat) (dsp : Nat → Int32) (dow : Nat → Int32) (dam : Nat → Int64) (dtg : Nat → Int64) (sp : Nat) (mk : Nat) (mint : Int64) (dep : Nat) (hgt : Nat) (und : Nat) (supply : Int64) (pot : Int64) (apl : Int32) (fes : Nat → Int64) (mns : Nat → Int64) (tms : Nat → Int32) (pic : Nat → Int32) (x : Int32) (hm : made ≤ 2048) (hdep : dep ≤ 64) (hhg : hgt ≤ 1000) (hud : und ≤ dep) (huh : und ≤ hgt) (h0 : 0 ≤ x.toInt) (h1 : x.toInt ≤ und) : Met l y_M_undo w_M_undo rm_M_undo_t (va_Pc [.ref (q 0), .int x] (ob_BW (dC, dI) vwCl (wM q cI cL own amt tag mad spt made dsp dow dam dtg sp mk mint dep hgt und supply pot apl fes mns tms pic) [(cI, .int), (cL, .long)] [])) (va_Qi (fun (r : Int32) (_ : Unit) => r = nI (hgt - x.toNatClampNeg)) (fun _ t => va_P (dC, dI) vwCl (wM q cI cL own amt tag mad (f_unsp spt (nI (hgt - x.toNatClampNeg)) (f_back mad (nI (hgt - x.toNatClampNeg)) made)) (f_back mad (nI (hgt - x.toNatClampNeg)) made) dsp dow dam dtg 0 0 (0 : Int64) dep (hgt - x.toNatClampNeg) (und - x.toNatClampNeg) (f_dn supply mns (hgt - x.toNatClampNeg) (x.toNatClampNeg + 1)) (f_dn pot fes (hgt - x.toNatClampNeg) (x.toNatClampNeg + 1)) (f_dnI apl tms (hgt - x.toNatClampNeg) (x.toNatClampNeg + 1)) (f_appL fes (hgt - x.toNatClampNeg) (fun _ => 0) (x.toNatClampNeg + 1)) (f_appL mns (hgt - x.toNatClampNeg) (fun _ => 0) (x.toNatClampNeg + 1)) (f_app tms (hgt - x.toNatClampNeg) (fun _ => nI 0) (x.toNatClampNeg + 1)) pic) t.heap) (ob_A (wM q cI cL own amt tag mad spt made dsp dow dam dtg sp mk mint dep hgt und supply pot apl fes mns tms pic))) 0 0 (ob_A (wM q cI cL own amt tag mad spt made dsp dow dam dtg sp mk mint dep hgt und supply pot apl fes mns tms pic)) := by
  refine ob_ofW (cc := b_M_undo) (maxL := 4) (ret := (some .int)) (own := R_M) (by decide) rfl rfl (Nat.le_of_ble_eq_true rfl) ?_
  intro p e s m args below meth c Q hQ hx hb hr hml hT hown hlocks hv ls hl
  obtain ⟨⟨hP, hK, hN⟩, hD0⟩ := hv
  have hD := ob_D_self hD0
  generalize hAe : ob_A (wM q cI cL own amt tag mad spt made dsp dow dam dtg sp mk mint dep hgt und supply pot apl fes mns tms pic) = A at hQ hD
  have hS : va_S A s.heap s.heap [] := va_S.rf
  have hl : lv_has ls 4 [(0, .ref (q 0)), (1, .int x)] := hl
  have hxn := cl_toInt h0
  refine lv_aload_n hx hb d_M_undo_0 rfl (lv_at hl 0 rfl) ?_
  refine lv_iconst (v := nI 0) hx hb d_M_undo_1 (by decide) ?_
  refine va_put (D := (dC, dI)) (ci := 4) (v := .int (nI 0)) (ty := .int) (C := R_M) (T := T_M) (N := 24) hx hb hT in_M t_M t_M_ok n_M hown hK hP hD hS 0 rfl rfl 0 (by decide) (hT _ k_325) (fun _ h9 => h9) rfl (by decide +kernel) rfl rfl (Nat.le_of_ble_eq_true rfl) d_M_undo_2 (fun H locs hP hD hS => ?_)
  have hP : va_P (dC, dI) vwCl (wM q cI cL own amt tag mad spt made dsp dow dam dtg sp mk mint dep hgt und supply pot apl fes mns tms pic) H := hP
  have hD : va_D A (wM q cI cL own amt tag mad spt made dsp dow dam dtg sp mk mint dep hgt und supply pot apl fes mns tms pic) := hD
  refine lv_iload_n hx hb d_M_undo_5 rfl (lv_at hl 1 rfl) ?_
  refine lv_if_lt (tgt := 17) hx hb d_M_undo_6 (by decide) (fun c_6 => ?_) (fun c_6 => ?_)
  · have t_6 := (cv_lt rfl (by decide : (0 : Int32).toInt = 0)).mp c_6
    exact absurd t_6 (by omega)
  · have t_6 := mt (cv_lt rfl (by decide : (0 : Int32).toInt = 0)).mpr c_6
    refine lv_iload_n hx hb d_M_undo_9 rfl (lv_at hl 1 rfl) ?_
    refine lv_aload_n hx hb d_M_undo_10 rfl (lv_at hl 0 rfl) ?_
    refine va_get (D := (dC, dI)) (ci := 4) (v := .int (nI und)) (C := R_M) (T := T_M) (N := 24) hx hb hT in_M hown hK hP 0 rfl rfl 9 (by decide) (hT _ k_334) (fun _ h9 => h9) rfl d_M_undo_11 ?_
    refine lv_icmp_le (tgt := 19) hx hb d_M_undo_14 (by decide) (fun c_14 => ?_) (fun c_14 => ?_)
    · have t_14 := (cv_le rfl (nI_toInt (by omega))).mp c_14
      refine lv_aload_n hx hb d_M_undo_19 rfl (lv_at hl 0 rfl) ?_
      refine va_get (D := (dC, dI)) (ci := 4) (v := .int (nI hgt)) (C := R_M) (T := T_M) (N := 24) hx hb hT in_M hown hK hP 0 rfl rfl 8 (by decide) (hT _ k_333) (fun _ h9 => h9) rfl d_M_undo_20 ?_
      refine lv_iload_n hx hb d_M_undo_23 rfl (lv_at hl 1 rfl) ?_
      refine lv_isub hx hb d_M_undo_24 ?_
      refine ob_eqi (y := nI (hgt - x.toNatClampNeg)) (nI_subx h0 (by omega)) ?_
      refine lv_istore_n (lv' := [(2, .int (nI (hgt - x.toNatClampNeg))), (0, .ref (q 0)), (1, .int x)]) hx hb d_M_undo_25 rfl hl (by decide) rfl (fun ls hl => ?_)
      refine lv_iload_n hx hb d_M_undo_26 rfl (lv_at hl 0 rfl) ?_
      refine lv_istore_n (lv' := [(3, .int (nI (hgt - x.toNatClampNeg))), (2, .int (nI (hgt - x.toNatClampNeg))), (0, .ref (q 0)), (1, .int x)]) hx hb d_M_undo_27 rfl hl (by decide) rfl (fun ls hl => ?_)
      have key_28 : ∀ (n : Nat) (i : Nat) (hh : Nat) (p9 : Int64) (s9 : Int64) (a9 : Int32) (f9 : Nat → Int64) (n9 : Nat → Int64) (t9 : Nat → Int32) (H : Heap) (locs : List Loc) (ls : Array Slot), hgt + 1 - hh < n → (hh = hgt - x.toNatClampNeg + i) → (i ≤ x.toNatClampNeg + 1) → (p9 = f_dn pot fes (hgt - x.toNatClampNeg) i) → (s9 = f_dn supply mns (hgt - x.toNatClampNeg) i) → (a9 = f_dnI apl tms (hgt - x.toNatClampNeg) i) → (f9 = f_appL fes (hgt - x.toNatClampNeg) (fun _ => 0) i) → (n9 = f_appL mns (hgt - x.toNatClampNeg) (fun _ => 0) i) → (t9 = f_app tms (hgt - x.toNatClampNeg) (fun _ => nI 0) i) → va_P (dC, dI) vwCl (wM q cI cL own amt tag mad spt made dsp dow dam dtg sp mk mint dep hgt und s9 p9 a9 f9 n9 t9 pic) H → va_D A (wM q cI cL own amt tag mad spt made dsp dow dam dtg sp mk mint dep hgt und s9 p9 a9 f9 n9 t9 pic) → va_S A s.heap H locs → lv_has ls 4 [(3, .int (nI hh)), (2, .int (nI (hgt - x.toNatClampNeg))), (0, .ref (q 0)), (1, .int x)] → W p l e rm_M_undo_t s m args below meth c H locs 0 0 Q (F0 m 28 ls []) := by
        intro n_28
        induction n_28 with
        | zero => intro i hh p9 s9 a9 f9 n9 t9 H locs ls h; exact absurd h (Nat.not_lt_zero _)
        | succ n_28 ih_28 =>
          intro i hh p9 s9 a9 f9 n9 t9 H locs ls hn_28 hhi hhl hp9 hs9 ha9 hf9 hn9 ht9 hP hD hS hl
          refine lv_iload_n hx hb d_M_undo_28 rfl (lv_at hl 0 rfl) ?_
          refine lv_aload_n hx hb d_M_undo_29 rfl (lv_at hl 2 rfl) ?_
          refine va_get (D := (dC, dI)) (ci := 4) (v := .int (nI hgt)) (C := R_M) (T := T_M) (N := 24) hx hb hT in_M hown hK hP 0 rfl rfl 8 (by decide) (hT _ k_333) (fun _ h9 => h9) rfl d_M_undo_30 ?_
          refine lv_icmp_gt (tgt := 108) hx hb d_M_undo_33 (by decide) (fun c_33 => ?_) (fun c_33 => ?_)
          · have t_33 := (cv_lt (nI_toInt (by omega)) (nI_toInt (by omega))).mp c_33
            have key_108 : ∀ (n : Nat) (mm : Nat) (H : Heap) (locs : List Loc) (ls : Array Slot), mm < n → (mm ≤ made) → (f_back mad (nI (hgt - x.toNatClampNeg)) mm = f_back mad (nI (hgt - x.toNatClampNeg)) made) → va_P (dC, dI) vwCl (wM q cI cL own amt tag mad spt mm dsp dow dam dtg sp mk mint dep hgt und s9 p9 a9 f9 n9 t9 pic) H → va_D A (wM q cI cL own amt tag mad spt mm dsp dow dam dtg sp mk mint dep hgt und s9 p9 a9 f9 n9 t9 pic) → va_S A s.heap H locs → lv_has ls 4 [(3, .int (nI hh)), (2, .int (nI (hgt - x.toNatClampNeg))), (0, .ref (q 0)), (1, .int x)] → W p l e rm_M_undo_t s m args below meth c H locs 0 0 Q (F0 m 108 ls []) := by
              intro n_108
              induction n_108 with
              | zero => intro mm H locs ls h; exact absurd h (Nat.not_lt_zero _)
              | succ n_108 ih_108 =>
                intro mm H locs ls hn_108 hmm hb2 hP hD hS hl
                refine lv_aload_n hx hb d_M_undo_108 rfl (lv_at hl 2 rfl) ?_
                refine va_get (D := (dC, dI)) (ci := 4) (v := .int (nI mm)) (C := R_M) (T := T_M) (N := 24) hx hb hT in_M hown hK hP 0 rfl rfl 2 (by decide) (hT _ k_327) (fun _ h9 => h9) rfl d_M_undo_109 ?_
                refine lv_if_le (tgt := 143) hx hb d_M_undo_112 (by decide) (fun c_112 => ?_) (fun c_112 => ?_)
                · have t_112 := (cv_le (nI_toInt (by omega)) (by decide : (0 : Int32).toInt = 0)).mp c_112
                  have hfin : mm = f_back mad (nI (hgt - x.toNatClampNeg)) made := by rw [← hb2, f_back_end (by first | exact Or.inl (by omega) | exact Or.inr c_127)]
                  refine lv_iconst (v := nI 0) hx hb d_M_undo_143 (by decide) ?_
                  refine lv_istore_n (lv' := [(3, .int (nI 0)), (2, .int (nI (hgt - x.toNatClampNeg))), (0, .ref (q 0)), (1, .int x)]) hx hb d_M_undo_144 rfl hl (by decide) rfl (fun ls hl => ?_)
                  have key_145 : ∀ (n : Nat) (k : Nat) (g : Nat → Int32) (H : Heap) (locs : List Loc) (ls : Array Slot), mm - k < n → (k ≤ mm) → (g = f_unsp spt (nI (hgt - x.toNatClampNeg)) k) → va_P (dC, dI) vwCl (wM q cI cL own amt tag mad g mm dsp dow dam dtg sp mk mint dep hgt und s9 p9 a9 f9 n9 t9 pic) H → va_D A (wM q cI cL own amt tag mad g mm dsp dow dam dtg sp mk mint dep hgt und s9 p9 a9 f9 n9 t9 pic) → va_S A s.heap H locs → lv_has ls 4 [(3, .int (nI k)), (2, .int (nI (hgt - x.toNatClampNeg))), (0, .ref (q 0)), (1, .int x)] → W p l e rm_M_undo_t s m args below meth c H locs 0 0 Q (F0 m 145 ls []) := by
                    intro n_145
                    induction n_145 with
                    | zero => intro k g H locs ls h; exact absurd h (Nat.not_lt_zero _)
                    | succ n_145 ih_145 =>
                      intro k g H locs ls hn_145 hk hg hP hD hS hl
                      refine lv_iload_n hx hb d_M_undo_145 rfl (lv_at hl 0 rfl) ?_
                      refine lv_aload_n hx hb d_M_undo_146 rfl (lv_at hl 2 rfl) ?_
                      refine va_get (D := (dC, dI)) (ci := 4) (v := .int (nI mm)) (C := R_M) (T := T_M) (N := 24) hx hb hT in_M hown hK hP 0 rfl rfl 2 (by decide) (hT _ k_327) (fun _ h9 => h9) rfl d_M_undo_147 ?_
                      refine lv_icmp_ge (tgt := 185) hx hb d_M_undo_150 (by decide) (fun c_150 => ?_) (fun c_150 => ?_)
                      · have t_150 := (cv_le (nI_toInt (by omega)) (nI_toInt (by omega))).mp c_150
                        refine lv_aload_n hx hb d_M_undo_185 rfl (lv_at hl 2 rfl) ?_
                        refine lv_iload_n hx hb d_M_undo_186 rfl (lv_at hl 1 rfl) ?_
                        refine va_put (D := (dC, dI)) (ci := 4) (v := .int (nI (hgt - x.toNatClampNeg))) (ty := .int) (C := R_M) (T := T_M) (N := 24) hx hb hT in_M t_M t_M_ok n_M hown hK hP hD hS 0 rfl rfl 8 (by decide) (hT _ k_333) (fun _ h9 => h9) rfl (by decide +kernel) rfl rfl (Nat.le_of_ble_eq_true rfl) d_M_undo_187 (fun H locs hP hD hS => ?_)
                        have hP : va_P (dC, dI) vwCl (wM q cI cL own amt tag mad g mm dsp dow dam dtg sp mk mint dep (hgt - x.toNatClampNeg) und s9 p9 a9 f9 n9 t9 pic) H := hP
                        have hD : va_D A (wM q cI cL own amt tag mad g mm dsp dow dam dtg sp mk mint dep (hgt - x.toNatClampNeg) und s9 p9 a9 f9 n9 t9 pic) := hD
                        refine lv_aload_n hx hb d_M_undo_190 rfl (lv_at hl 2 rfl) ?_
                        refine lv_dup hx hb d_M_undo_191 rfl ?_
                        refine va_get (D := (dC, dI)) (ci := 4) (v := .int (nI und)) (C := R_M) (T := T_M) (N := 24) hx hb hT in_M hown hK hP 0 rfl rfl 9 (by decide) (hT _ k_334) (fun _ h9 => h9) rfl d_M_undo_192 ?_
                        refine lv_iload_n hx hb d_M_undo_195 rfl (lv_at hl 3 rfl) ?_
                        refine lv_isub hx hb d_M_undo_196 ?_
                        refine ob_eqi (y := nI (und - x.toNatClampNeg)) (nI_subx h0 (by omega)) ?_
                        refine va_put (D := (dC, dI)) (ci := 4) (v := .int (nI (und - x.toNatClampNeg))) (ty := .int) (C := R_M) (T := T_M) (N := 24) hx hb hT in_M t_M t_M_ok n_M hown hK hP hD hS 0 rfl rfl 9 (by decide) (hT _ k_334) (fun _ h9 => h9) rfl (by decide +kernel) rfl rfl (Nat.le_of_ble_eq_true rfl) d_M_undo_197 (fun H locs hP hD hS => ?_)
                        have hP : va_P (dC, dI) vwCl (wM q cI cL own amt tag mad g mm dsp dow dam dtg sp mk mint dep (hgt - x.toNatClampNeg) (und - x.toNatClampNeg) s9 p9 a9 f9 n9 t9 pic) H := hP
                        have hD : va_D A (wM q cI cL own amt tag mad g mm dsp dow dam dtg sp mk mint dep (hgt - x.toNatClampNeg) (und - x.toNatClampNeg) s9 p9 a9 f9 n9 t9 pic) := hD
                        refine lv_aload_n hx hb d_M_undo_200 rfl (lv_at hl 2 rfl) ?_
                        refine ob_callWv (va_runV (As := []) (rest := []) ⟨hx, hb, hml, hown, hT⟩ (c_M_empty l dC dI q cI cL own amt tag mad g mm dsp dow dam dtg sp mk mint dep (hgt - x.toNatClampNeg) (und - x.toNatClampNeg) s9 p9 a9 f9 n9 t9 pic ) (cwV 0 hT (ob_goodV k_429 k_431 k_6 k_14 k_432) rfl rfl rfl (by decide +kernel) ⟨Nat.le_of_ble_eq_true rfl, Nat.le_of_ble_eq_true rfl⟩) (ob_preVW (wc := wM q cI cL own amt tag mad g mm dsp dow dam dtg sp mk mint dep (hgt - x.toNatClampNeg) (und - x.toNatClampNeg) s9 p9 a9 f9 n9 t9 pic) (q0 := 0) rfl hK hP hD (fun _ h => absurd h List.not_mem_nil) rfl [0, 1, 2, 3, 4, 5, 6, 7, 8, 9, 10, 11, 12, 13] rfl rfl rfl rfl) rfl rfl hl.1 rfl (lv_room (Nat.le_of_ble_eq_true rfl)) d_M_undo_201 ⟨Nat.zero_le _, Nat.zero_le _⟩) hS hP hD [0, 1, 2, 3, 4, 5, 6, 7, 8, 9, 10, 11, 12, 13] rfl rfl (fun H locs hP hD hS => ?_)
                        have hP : va_P (dC, dI) vwCl (wM q cI cL own amt tag mad g mm dsp dow dam dtg 0 0 (0 : Int64) dep (hgt - x.toNatClampNeg) (und - x.toNatClampNeg) s9 p9 a9 f9 n9 t9 pic) H := hP
                        have hD : va_D A (wM q cI cL own amt tag mad g mm dsp dow dam dtg 0 0 (0 : Int64) dep (hgt - x.toNatClampNeg) (und - x.toNatClampNeg) s9 p9 a9 f9 n9 t9 pic) := hD
                        refine lv_aload_n hx hb d_M_undo_204 rfl (lv_at hl 2 rfl) ?_
                        refine va_get (D := (dC, dI)) (ci := 4) (v := .int (nI (hgt - x.toNatClampNeg))) (C := R_M) (T := T_M) (N := 24) hx hb hT in_M hown hK hP 0 rfl rfl 8 (by decide) (hT _ k_333) (fun _ h9 => h9) rfl d_M_undo_205 ?_
                        exact ob_iretW (v := nI (hgt - x.toNatClampNeg)) hx hb hr hlocks hQ hS hP (by rw [hg, show k = mm by omega, hfin, hp9, hs9, ha9, hf9, hn9, ht9, show i = x.toNatClampNeg + 1 by omega]) rfl d_M_undo_208
                      · have t_150 := mt (cv_le (nI_toInt (by omega)) (nI_toInt (by omega))).mpr c_150
                        refine lv_aload_n hx hb d_M_undo_153 rfl (lv_at hl 2 rfl) ?_
                        refine va_get (D := (dC, dI)) (ci := 4) (v := .ref (q 5)) (C := R_M) (T := T_M) (N := 24) hx hb hT in_M hown hK hP 0 rfl rfl 7 (by decide) (hT _ k_332) (fun _ h9 => h9) rfl d_M_undo_154 ?_
                        refine lv_iload_n hx hb d_M_undo_157 rfl (lv_at hl 0 rfl) ?_
                        refine lv_aload_n hx hb d_M_undo_158 rfl (lv_at hl 2 rfl) ?_
                        refine va_get (D := (dC, dI)) (ci := 4) (v := .ref (q 5)) (C := R_M) (T := T_M) (N := 24) hx hb hT in_M hown hK hP 0 rfl rfl 7 (by decide) (hT _ k_332) (fun _ h9 => h9) rfl d_M_undo_159 ?_
                        refine lv_iload_n hx hb d_M_undo_162 rfl (lv_at hl 0 rfl) ?_
                        refine ob_iald hx hb hK hP 5 0 rfl rfl (j := k) (nI_clamp (by omega)) (cv_in (nI_toInt (by omega)) (by omega)) d_M_undo_163 ?_
                        refine lv_iload_n hx hb d_M_undo_164 rfl (lv_at hl 1 rfl) ?_
                        refine lv_icmp_lt (tgt := 172) hx hb d_M_undo_165 (by decide) (fun c_165 => ?_) (fun c_165 => ?_)
                        · have t_165 := (cv_lt rfl (nI_toInt (by omega))).mp c_165
                          refine lv_aload_n hx hb d_M_undo_172 rfl (lv_at hl 2 rfl) ?_
                          refine va_get (D := (dC, dI)) (ci := 4) (v := .ref (q 5)) (C := R_M) (T := T_M) (N := 24) hx hb hT in_M hown hK hP 0 rfl rfl 7 (by decide) (hT _ k_332) (fun _ h9 => h9) rfl d_M_undo_173 ?_
                          refine lv_iload_n hx hb d_M_undo_176 rfl (lv_at hl 0 rfl) ?_
                          refine ob_iald hx hb hK hP 5 0 rfl rfl (j := k) (nI_clamp (by omega)) (cv_in (nI_toInt (by omega)) (by omega)) d_M_undo_177 ?_
                          refine ob_iast hx hb hK hP hD hS 5 0 rfl rfl (j := k) (nI_clamp (by omega)) (cv_in (nI_toInt (by omega)) (by omega)) d_M_undo_178 (fun H locs hP hD hS => ?_)
                          have hP : va_P (dC, dI) vwCl (wM q cI cL own amt tag mad (upd g k (g k)) mm dsp dow dam dtg sp mk mint dep hgt und s9 p9 a9 f9 n9 t9 pic) H := hP
                          have hD : va_D A (wM q cI cL own amt tag mad (upd g k (g k)) mm dsp dow dam dtg sp mk mint dep hgt und s9 p9 a9 f9 n9 t9 pic) := hD
                          refine lv_iinc (v := nI (k + 1)) (lv' := [(3, .int (nI (k + 1))), (2, .int (nI (hgt - x.toNatClampNeg))), (0, .ref (q 0)), (1, .int x)]) hx hb d_M_undo_179 hl (k := 0) rfl (nI_add k 1) (by decide) rfl (fun ls hl => ?_)
                          refine lv_goto (tgt := 145) hx hb d_M_undo_182 (by decide) ?_
                          exact ih_145 (k + 1) (upd g k (g k)) _ _ _ (by omega) (by omega) (by first | exact f_unsp_lt' hg c_165 | exact f_unsp_ge hg c_165) hP hD hS (lv_sub hl [0, 1, 2, 3] rfl)
                        · have t_165 := mt (cv_lt rfl (nI_toInt (by omega))).mpr c_165
                          refine lv_iconst (v := (-1 : Int32)) hx hb d_M_undo_168 (by decide) ?_
                          refine lv_goto (tgt := 178) hx hb d_M_undo_169 (by decide) ?_
                          refine ob_iast hx hb hK hP hD hS 5 0 rfl rfl (j := k) (nI_clamp (by omega)) (cv_in (nI_toInt (by omega)) (by omega)) d_M_undo_178 (fun H locs hP hD hS => ?_)
                          have hP : va_P (dC, dI) vwCl (wM q cI cL own amt tag mad (upd g k (-1 : Int32)) mm dsp dow dam dtg sp mk mint dep hgt und s9 p9 a9 f9 n9 t9 pic) H := hP
                          have hD : va_D A (wM q cI cL own amt tag mad (upd g k (-1 : Int32)) mm dsp dow dam dtg sp mk mint dep hgt und s9 p9 a9 f9 n9 t9 pic) := hD
                          refine lv_iinc (v := nI (k + 1)) (lv' := [(3, .int (nI (k + 1))), (2, .int (nI (hgt - x.toNatClampNeg))), (0, .ref (q 0)), (1, .int x)]) hx hb d_M_undo_179 hl (k := 0) rfl (nI_add k 1) (by decide) rfl (fun ls hl => ?_)
                          refine lv_goto (tgt := 145) hx hb d_M_undo_182 (by decide) ?_
                          exact ih_145 (k + 1) (upd g k (-1 : Int32)) _ _ _ (by omega) (by omega) (by first | exact f_unsp_lt' hg c_165 | exact f_unsp_ge hg c_165) hP hD hS (lv_sub hl [0, 1, 2, 3] rfl)
                  exact key_145 _ 0 spt _ _ _ (Nat.lt_succ_self _) (Nat.zero_le _) f_unsp_0 hP hD hS (lv_sub hl [0, 1, 2, 3] rfl)
                · have t_112 := mt (cv_le (nI_toInt (by omega)) (by decide : (0 : Int32).toInt = 0)).mpr c_112
                  refine lv_aload_n hx hb d_M_undo_115 rfl (lv_at hl 2 rfl) ?_
                  refine va_get (D := (dC, dI)) (ci := 4) (v := .ref (q 4)) (C := R_M) (T := T_M) (N := 24) hx hb hT in_M hown hK hP 0 rfl rfl 6 (by decide) (hT _ k_331) (fun _ h9 => h9) rfl d_M_undo_116 ?_
                  refine lv_aload_n hx hb d_M_undo_119 rfl (lv_at hl 2 rfl) ?_
                  refine va_get (D := (dC, dI)) (ci := 4) (v := .int (nI mm)) (C := R_M) (T := T_M) (N := 24) hx hb hT in_M hown hK hP 0 rfl rfl 2 (by decide) (hT _ k_327) (fun _ h9 => h9) rfl d_M_undo_120 ?_
                  refine lv_iconst (v := nI 1) hx hb d_M_undo_123 (by decide) ?_
                  refine lv_isub hx hb d_M_undo_124 ?_
                  refine ob_eqi (pk_sub (a := mm) (b := 1) (by omega)) ?_
                  refine ob_iald hx hb hK hP 4 0 rfl rfl (j := mm - 1) (nI_clamp (by omega)) (cv_in (nI_toInt (by omega)) (by omega)) d_M_undo_125 ?_
                  refine lv_iload_n hx hb d_M_undo_126 rfl (lv_at hl 1 rfl) ?_
                  refine lv_icmp_lt (tgt := 143) hx hb d_M_undo_127 (by decide) (fun c_127 => ?_) (fun c_127 => ?_)
                  · have t_127 := (cv_lt rfl (nI_toInt (by omega))).mp c_127
                    have hfin : mm = f_back mad (nI (hgt - x.toNatClampNeg)) made := by rw [← hb2, f_back_end (by first | exact Or.inl (by omega) | exact Or.inr c_127)]
                    refine lv_iconst (v := nI 0) hx hb d_M_undo_143 (by decide) ?_
                    refine lv_istore_n (lv' := [(3, .int (nI 0)), (2, .int (nI (hgt - x.toNatClampNeg))), (0, .ref (q 0)), (1, .int x)]) hx hb d_M_undo_144 rfl hl (by decide) rfl (fun ls hl => ?_)
                    have key_145 : ∀ (n : Nat) (k : Nat) (g : Nat → Int32) (H : Heap) (locs : List Loc) (ls : Array Slot), mm - k < n → (k ≤ mm) → (g = f_unsp spt (nI (hgt - x.toNatClampNeg)) k) → va_P (dC, dI) vwCl (wM q cI cL own amt tag mad g mm dsp dow dam dtg sp mk mint dep hgt und s9 p9 a9 f9 n9 t9 pic) H → va_D A (wM q cI cL own amt tag mad g mm dsp dow dam dtg sp mk mint dep hgt und s9 p9 a9 f9 n9 t9 pic) → va_S A s.heap H locs → lv_has ls 4 [(3, .int (nI k)), (2, .int (nI (hgt - x.toNatClampNeg))), (0, .ref (q 0)), (1, .int x)] → W p l e rm_M_undo_t s m args below meth c H locs 0 0 Q (F0 m 145 ls []) := by
                      intro n_145
                      induction n_145 with
                      | zero => intro k g H locs ls h; exact absurd h (Nat.not_lt_zero _)
                      | succ n_145 ih_145 =>
                        intro k g H locs ls hn_145 hk hg hP hD hS hl
                        refine lv_iload_n hx hb d_M_undo_145 rfl (lv_at hl 0 rfl) ?_
                        refine lv_aload_n hx hb d_M_undo_146 rfl (lv_at hl 2 rfl) ?_
                        refine va_get (D := (dC, dI)) (ci := 4) (v := .int (nI mm)) (C := R_M) (T := T_M) (N := 24) hx hb hT in_M hown hK hP 0 rfl rfl 2 (by decide) (hT _ k_327) (fun _ h9 => h9) rfl d_M_undo_147 ?_
                        refine lv_icmp_ge (tgt := 185) hx hb d_M_undo_150 (by decide) (fun c_150 => ?_) (fun c_150 => ?_)
                        · have t_150 := (cv_le (nI_toInt (by omega)) (nI_toInt (by omega))).mp c_150
                          refine lv_aload_n hx hb d_M_undo_185 rfl (lv_at hl 2 rfl) ?_
                          refine lv_iload_n hx hb d_M_undo_186 rfl (lv_at hl 1 rfl) ?_
                          refine va_put (D := (dC, dI)) (ci := 4) (v := .int (nI (hgt - x.toNatClampNeg))) (ty := .int) (C := R_M) (T := T_M) (N := 24) hx hb hT in_M t_M t_M_ok n_M hown hK hP hD hS 0 rfl rfl 8 (by decide) (hT _ k_333) (fun _ h9 => h9) rfl (by decide +kernel) rfl rfl (Nat.le_of_ble_eq_true rfl) d_M_undo_187 (fun H locs hP hD hS => ?_)
                          have hP : va_P (dC, dI) vwCl (wM q cI cL own amt tag mad g mm dsp dow dam dtg sp mk mint dep (hgt - x.toNatClampNeg) und s9 p9 a9 f9 n9 t9 pic) H := hP
                          have hD : va_D A (wM q cI cL own amt tag mad g mm dsp dow dam dtg sp mk mint dep (hgt - x.toNatClampNeg) und s9 p9 a9 f9 n9 t9 pic) := hD
                          refine lv_aload_n hx hb d_M_undo_190 rfl (lv_at hl 2 rfl) ?_
                          refine lv_dup hx hb d_M_undo_191 rfl ?_
                          refine va_get (D := (dC, dI)) (ci := 4) (v := .int (nI und)) (C := R_M) (T := T_M) (N := 24) hx hb hT in_M hown hK hP 0 rfl rfl 9 (by decide) (hT _ k_334) (fun _ h9 => h9) rfl d_M_undo_192 ?_
                          refine lv_iload_n hx hb d_M_undo_195 rfl (lv_at hl 3 rfl) ?_
                          refine lv_isub hx hb d_M_undo_196 ?_
                          refine ob_eqi (y := nI (und - x.toNatClampNeg)) (nI_subx h0 (by omega)) ?_
                          refine va_put (D := (dC, dI)) (ci := 4) (v := .int (nI (und - x.toNatClampNeg))) (ty := .int) (C := R_M) (T := T_M) (N := 24) hx hb hT in_M t_M t_M_ok n_M hown hK hP hD hS 0 rfl rfl 9 (by decide) (hT _ k_334) (fun _ h9 => h9) rfl (by decide +kernel) rfl rfl (Nat.le_of_ble_eq_true rfl) d_M_undo_197 (fun H locs hP hD hS => ?_)
                          have hP : va_P (dC, dI) vwCl (wM q cI cL own amt tag mad g mm dsp dow dam dtg sp mk mint dep (hgt - x.toNatClampNeg) (und - x.toNatClampNeg) s9 p9 a9 f9 n9 t9 pic) H := hP
                          have hD : va_D A (wM q cI cL own amt tag mad g mm dsp dow dam dtg sp mk mint dep (hgt - x.toNatClampNeg) (und - x.toNatClampNeg) s9 p9 a9 f9 n9 t9 pic) := hD
                          refine lv_aload_n hx hb d_M_undo_200 rfl (lv_at hl 2 rfl) ?_
                          refine ob_callWv (va_runV (As := []) (rest := []) ⟨hx, hb, hml, hown, hT⟩ (c_M_empty l dC dI q cI cL own amt tag mad g mm dsp dow dam dtg sp mk mint dep (hgt - x.toNatClampNeg) (und - x.toNatClampNeg) s9 p9 a9 f9 n9 t9 pic ) (cwV 0 hT (ob_goodV k_429 k_431 k_6 k_14 k_432) rfl rfl rfl (by decide +kernel) ⟨Nat.le_of_ble_eq_true rfl, Nat.le_of_ble_eq_true rfl⟩) (ob_preVW (wc := wM q cI cL own amt tag mad g mm dsp dow dam dtg sp mk mint dep (hgt - x.toNatClampNeg) (und - x.toNatClampNeg) s9 p9 a9 f9 n9 t9 pic) (q0 := 0) rfl hK hP hD (fun _ h => absurd h List.not_mem_nil) rfl [0, 1, 2, 3, 4, 5, 6, 7, 8, 9, 10, 11, 12, 13] rfl rfl rfl rfl) rfl rfl hl.1 rfl (lv_room (Nat.le_of_ble_eq_true rfl)) d_M_undo_201 ⟨Nat.zero_le _, Nat.zero_le _⟩) hS hP hD [0, 1, 2, 3, 4, 5, 6, 7, 8, 9, 10, 11, 12, 13] rfl rfl (fun H locs hP hD hS => ?_)
                          have hP : va_P (dC, dI) vwCl (wM q cI cL own amt tag mad g mm dsp dow dam dtg 0 0 (0 : Int64) dep (hgt - x.toNatClampNeg) (und - x.toNatClampNeg) s9 p9 a9 f9 n9 t9 pic) H := hP
                          have hD : va_D A (wM q cI cL own amt tag mad g mm dsp dow dam dtg 0 0 (0 : Int64) dep (hgt - x.toNatClampNeg) (und - x.toNatClampNeg) s9 p9 a9 f9 n9 t9 pic) := hD
                          refine lv_aload_n hx hb d_M_undo_204 rfl (lv_at hl 2 rfl) ?_
                          refine va_get (D := (dC, dI)) (ci := 4) (v := .int (nI (hgt - x.toNatClampNeg))) (C := R_M) (T := T_M) (N := 24) hx hb hT in_M hown hK hP 0 rfl rfl 8 (by decide) (hT _ k_333) (fun _ h9 => h9) rfl d_M_undo_205 ?_
                          exact ob_iretW (v := nI (hgt - x.toNatClampNeg)) hx hb hr hlocks hQ hS hP (by rw [hg, show k = mm by omega, hfin, hp9, hs9, ha9, hf9, hn9, ht9, show i = x.toNatClampNeg + 1 by omega]) rfl d_M_undo_208
                        · have t_150 := mt (cv_le (nI_toInt (by omega)) (nI_toInt (by omega))).mpr c_150
                          refine lv_aload_n hx hb d_M_undo_153 rfl (lv_at hl 2 rfl) ?_
                          refine va_get (D := (dC, dI)) (ci := 4) (v := .ref (q 5)) (C := R_M) (T := T_M) (N := 24) hx hb hT in_M hown hK hP 0 rfl rfl 7 (by decide) (hT _ k_332) (fun _ h9 => h9) rfl d_M_undo_154 ?_
                          refine lv_iload_n hx hb d_M_undo_157 rfl (lv_at hl 0 rfl) ?_
                          refine lv_aload_n hx hb d_M_undo_158 rfl (lv_at hl 2 rfl) ?_
                          refine va_get (D := (dC, dI)) (ci := 4) (v := .ref (q 5)) (C := R_M) (T := T_M) (N := 24) hx hb hT in_M hown hK hP 0 rfl rfl 7 (by decide) (hT _ k_332) (fun _ h9 => h9) rfl d_M_undo_159 ?_
                          refine lv_iload_n hx hb d_M_undo_162 rfl (lv_at hl 0 rfl) ?_
                          refine ob_iald hx hb hK hP 5 0 rfl rfl (j := k) (nI_clamp (by omega)) (cv_in (nI_toInt (by omega)) (by omega)) d_M_undo_163 ?_
                          refine lv_iload_n hx hb d_M_undo_164 rfl (lv_at hl 1 rfl) ?_
                          refine lv_icmp_lt (tgt := 172) hx hb d_M_undo_165 (by decide) (fun c_165 => ?_) (fun c_165 => ?_)
                          · have t_165 := (cv_lt rfl (nI_toInt (by omega))).mp c_165
                            refine lv_aload_n hx hb d_M_undo_172 rfl (lv_at hl 2 rfl) ?_
                            refine va_get (D := (dC, dI)) (ci := 4) (v := .ref (q 5)) (C := R_M) (T := T_M) (N := 24) hx hb hT in_M hown hK hP 0 rfl rfl 7 (by decide) (hT _ k_332) (fun _ h9 => h9) rfl d_M_undo_173 ?_
                            refine lv_iload_n hx hb d_M_undo_176 rfl (lv_at hl 0 rfl) ?_
                            refine ob_iald hx hb hK hP 5 0 rfl rfl (j := k) (nI_clamp (by omega)) (cv_in (nI_toInt (by omega)) (by omega)) d_M_undo_177 ?_
                            refine ob_iast hx hb hK hP hD hS 5 0 rfl rfl (j := k) (nI_clamp (by omega)) (cv_in (nI_toInt (by omega)) (by omega)) d_M_undo_178 (fun H locs hP hD hS => ?_)
                            have hP : va_P (dC, dI) vwCl (wM q cI cL own amt tag mad (upd g k (g k)) mm dsp dow dam dtg sp mk mint dep hgt und s9 p9 a9 f9 n9 t9 pic) H := hP
                            have hD : va_D A (wM q cI cL own amt tag mad (upd g k (g k)) mm dsp dow dam dtg sp mk mint dep hgt und s9 p9 a9 f9 n9 t9 pic) := hD
                            refine lv_iinc (v := nI (k + 1)) (lv' := [(3, .int (nI (k + 1))), (2, .int (nI (hgt - x.toNatClampNeg))), (0, .ref (q 0)), (1, .int x)]) hx hb d_M_undo_179 hl (k := 0) rfl (nI_add k 1) (by decide) rfl (fun ls hl => ?_)
                            refine lv_goto (tgt := 145) hx hb d_M_undo_182 (by decide) ?_
                            exact ih_145 (k + 1) (upd g k (g k)) _ _ _ (by omega) (by omega) (by first | exact f_unsp_lt' hg c_165 | exact f_unsp_ge hg c_165) hP hD hS (lv_sub hl [0, 1, 2, 3] rfl)
                          · have t_165 := mt (cv_lt rfl (nI_toInt (by omega))).mpr c_165
                            refine lv_iconst (v := (-1 : Int32)) hx hb d_M_undo_168 (by decide) ?_
                            refine lv_goto (tgt := 178) hx hb d_M_undo_169 (by decide) ?_
                            refine ob_iast hx hb hK hP hD hS 5 0 rfl rfl (j := k) (nI_clamp (by omega)) (cv_in (nI_toInt (by omega)) (by omega)) d_M_undo_178 (fun H locs hP hD hS => ?_)
                            have hP : va_P (dC, dI) vwCl (wM q cI cL own amt tag mad (upd g k (-1 : Int32)) mm dsp dow dam dtg sp mk mint dep hgt und s9 p9 a9 f9 n9 t9 pic) H := hP
                            have hD : va_D A (wM q cI cL own amt tag mad (upd g k (-1 : Int32)) mm dsp dow dam dtg sp mk mint dep hgt und s9 p9 a9 f9 n9 t9 pic) := hD
                            refine lv_iinc (v := nI (k + 1)) (lv' := [(3, .int (nI (k + 1))), (2, .int (nI (hgt - x.toNatClampNeg))), (0, .ref (q 0)), (1, .int x)]) hx hb d_M_undo_179 hl (k := 0) rfl (nI_add k 1) (by decide) rfl (fun ls hl => ?_)
                            refine lv_goto (tgt := 145) hx hb d_M_undo_182 (by decide) ?_
                            exact ih_145 (k + 1) (upd g k (-1 : Int32)) _ _ _ (by omega) (by omega) (by first | exact f_unsp_lt' hg c_165 | exact f_unsp_ge hg c_165) hP hD hS (lv_sub hl [0, 1, 2, 3] rfl)
                    exact key_145 _ 0 spt _ _ _ (Nat.lt_succ_self _) (Nat.zero_le _) f_unsp_0 hP hD hS (lv_sub hl [0, 1, 2, 3] rfl)
                  · have t_127 := mt (cv_lt rfl (nI_toInt (by omega))).mpr c_127
                    refine lv_aload_n hx hb d_M_undo_130 rfl (lv_at hl 2 rfl) ?_
                    refine lv_dup hx hb d_M_undo_131 rfl ?_
                    refine va_get (D := (dC, dI)) (ci := 4) (v := .int (nI mm)) (C := R_M) (T := T_M) (N := 24) hx hb hT in_M hown hK hP 0 rfl rfl 2 (by decide) (hT _ k_327) (fun _ h9 => h9) rfl d_M_undo_132 ?_
                    refine lv_iconst (v := nI 1) hx hb d_M_undo_135 (by decide) ?_
                    refine lv_isub hx hb d_M_undo_136 ?_
                    refine ob_eqi (pk_sub (a := mm) (b := 1) (by omega)) ?_
                    refine va_put (D := (dC, dI)) (ci := 4) (v := .int (nI (mm - 1))) (ty := .int) (C := R_M) (T := T_M) (N := 24) hx hb hT in_M t_M t_M_ok n_M hown hK hP hD hS 0 rfl rfl 2 (by decide) (hT _ k_327) (fun _ h9 => h9) rfl (by decide +kernel) rfl rfl (Nat.le_of_ble_eq_true rfl) d_M_undo_137 (fun H locs hP hD hS => ?_)
                    have hP : va_P (dC, dI) vwCl (wM q cI cL own amt tag mad spt (mm - 1) dsp dow dam dtg sp mk mint dep hgt und s9 p9 a9 f9 n9 t9 pic) H := hP
                    have hD : va_D A (wM q cI cL own amt tag mad spt (mm - 1) dsp dow dam dtg sp mk mint dep hgt und s9 p9 a9 f9 n9 t9 pic) := hD
                    refine lv_goto (tgt := 108) hx hb d_M_undo_140 (by decide) ?_
                    exact ih_108 (mm - 1) _ _ _ (by omega) (by omega) (by rw [← hb2, f_back_go (by omega) c_127]) hP hD hS (lv_sub hl [0, 1, 2, 3] rfl)
            exact key_108 _ made _ _ _ (Nat.lt_succ_self _) (Nat.le_refl _) rfl hP hD hS (lv_sub hl [0, 1, 2, 3] rfl)
          · have t_33 := mt (cv_lt (nI_toInt (by omega)) (nI_toInt (by omega))).mpr c_33
            refine lv_aload_n hx hb d_M_undo_36 rfl (lv_at hl 2 rfl) ?_
            refine lv_dup hx hb d_M_undo_37 rfl ?_
            refine va_get (D := (dC, dI)) (ci := 4) (v := .long p9) (C := R_M) (T := T_M) (N := 24) hx hb hT in_M hown hK hP 0 rfl rfl 10 (by decide) (hT _ k_335) (fun _ h9 => h9) rfl d_M_undo_38 ?_
            refine lv_aload_n hx hb d_M_undo_41 rfl (lv_at hl 2 rfl) ?_
            refine va_get (D := (dC, dI)) (ci := 4) (v := .ref (q 6)) (C := R_M) (T := T_M) (N := 24) hx hb hT in_M hown hK hP 0 rfl rfl 13 (by decide) (hT _ k_338) (fun _ h9 => h9) rfl d_M_undo_42 ?_
            refine lv_iload_n hx hb d_M_undo_45 rfl (lv_at hl 0 rfl) ?_
            refine ob_lald hx hb hK hP 6 1 rfl rfl (j := hh) (nI_clamp (by omega)) (cv_in (nI_toInt (by omega)) (by omega)) d_M_undo_46 ?_
            refine lv_lsub hx hb d_M_undo_47 ?_
            refine va_put (D := (dC, dI)) (ci := 4) (v := .long (p9 - (f9 hh))) (ty := .long) (C := R_M) (T := T_M) (N := 24) hx hb hT in_M t_M t_M_ok n_M hown hK hP hD hS 0 rfl rfl 10 (by decide) (hT _ k_335) (fun _ h9 => h9) rfl (by decide +kernel) rfl rfl (Nat.le_of_ble_eq_true rfl) d_M_undo_48 (fun H locs hP hD hS => ?_)
            have hP : va_P (dC, dI) vwCl (wM q cI cL own amt tag mad spt made dsp dow dam dtg sp mk mint dep hgt und s9 (p9 - (f9 hh)) a9 f9 n9 t9 pic) H := hP
            have hD : va_D A (wM q cI cL own amt tag mad spt made dsp dow dam dtg sp mk mint dep hgt und s9 (p9 - (f9 hh)) a9 f9 n9 t9 pic) := hD
            refine lv_aload_n hx hb d_M_undo_51 rfl (lv_at hl 2 rfl) ?_
            refine lv_dup hx hb d_M_undo_52 rfl ?_
            refine va_get (D := (dC, dI)) (ci := 4) (v := .long s9) (C := R_M) (T := T_M) (N := 24) hx hb hT in_M hown hK hP 0 rfl rfl 11 (by decide) (hT _ k_336) (fun _ h9 => h9) rfl d_M_undo_53 ?_
            refine lv_aload_n hx hb d_M_undo_56 rfl (lv_at hl 2 rfl) ?_
            refine va_get (D := (dC, dI)) (ci := 4) (v := .ref (q 7)) (C := R_M) (T := T_M) (N := 24) hx hb hT in_M hown hK hP 0 rfl rfl 14 (by decide) (hT _ k_339) (fun _ h9 => h9) rfl d_M_undo_57 ?_
            refine lv_iload_n hx hb d_M_undo_60 rfl (lv_at hl 0 rfl) ?_
            refine ob_lald hx hb hK hP 7 1 rfl rfl (j := hh) (nI_clamp (by omega)) (cv_in (nI_toInt (by omega)) (by omega)) d_M_undo_61 ?_
            refine lv_lsub hx hb d_M_undo_62 ?_
            refine va_put (D := (dC, dI)) (ci := 4) (v := .long (s9 - (n9 hh))) (ty := .long) (C := R_M) (T := T_M) (N := 24) hx hb hT in_M t_M t_M_ok n_M hown hK hP hD hS 0 rfl rfl 11 (by decide) (hT _ k_336) (fun _ h9 => h9) rfl (by decide +kernel) rfl rfl (Nat.le_of_ble_eq_true rfl) d_M_undo_63 (fun H locs hP hD hS => ?_)
            have hP : va_P (dC, dI) vwCl (wM q cI cL own amt tag mad spt made dsp dow dam dtg sp mk mint dep hgt und (s9 - (n9 hh)) (p9 - (f9 hh)) a9 f9 n9 t9 pic) H := hP
            have hD : va_D A (wM q cI cL own amt tag mad spt made dsp dow dam dtg sp mk mint dep hgt und (s9 - (n9 hh)) (p9 - (f9 hh)) a9 f9 n9 t9 pic) := hD
            refine lv_aload_n hx hb d_M_undo_66 rfl (lv_at hl 2 rfl) ?_
            refine lv_dup hx hb d_M_undo_67 rfl ?_
            refine va_get (D := (dC, dI)) (ci := 4) (v := .int a9) (C := R_M) (T := T_M) (N := 24) hx hb hT in_M hown hK hP 0 rfl rfl 12 (by decide) (hT _ k_337) (fun _ h9 => h9) rfl d_M_undo_68 ?_
            refine lv_aload_n hx hb d_M_undo_71 rfl (lv_at hl 2 rfl) ?_
            refine va_get (D := (dC, dI)) (ci := 4) (v := .ref (q 8)) (C := R_M) (T := T_M) (N := 24) hx hb hT in_M hown hK hP 0 rfl rfl 15 (by decide) (hT _ k_340) (fun _ h9 => h9) rfl d_M_undo_72 ?_
            refine lv_iload_n hx hb d_M_undo_75 rfl (lv_at hl 0 rfl) ?_
            refine ob_iald hx hb hK hP 8 0 rfl rfl (j := hh) (nI_clamp (by omega)) (cv_in (nI_toInt (by omega)) (by omega)) d_M_undo_76 ?_
            refine lv_isub hx hb d_M_undo_77 ?_
            refine va_put (D := (dC, dI)) (ci := 4) (v := .int (a9 - (t9 hh))) (ty := .int) (C := R_M) (T := T_M) (N := 24) hx hb hT in_M t_M t_M_ok n_M hown hK hP hD hS 0 rfl rfl 12 (by decide) (hT _ k_337) (fun _ h9 => h9) rfl (by decide +kernel) rfl rfl (Nat.le_of_ble_eq_true rfl) d_M_undo_78 (fun H locs hP hD hS => ?_)
            have hP : va_P (dC, dI) vwCl (wM q cI cL own amt tag mad spt made dsp dow dam dtg sp mk mint dep hgt und (s9 - (n9 hh)) (p9 - (f9 hh)) (a9 - (t9 hh)) f9 n9 t9 pic) H := hP
            have hD : va_D A (wM q cI cL own amt tag mad spt made dsp dow dam dtg sp mk mint dep hgt und (s9 - (n9 hh)) (p9 - (f9 hh)) (a9 - (t9 hh)) f9 n9 t9 pic) := hD
            refine lv_aload_n hx hb d_M_undo_81 rfl (lv_at hl 2 rfl) ?_
            refine va_get (D := (dC, dI)) (ci := 4) (v := .ref (q 6)) (C := R_M) (T := T_M) (N := 24) hx hb hT in_M hown hK hP 0 rfl rfl 13 (by decide) (hT _ k_338) (fun _ h9 => h9) rfl d_M_undo_82 ?_
            refine lv_iload_n hx hb d_M_undo_85 rfl (lv_at hl 0 rfl) ?_
            refine lv_lconst (v := 0) hx hb d_M_undo_86 (by decide) ?_
            refine ob_last hx hb hK hP hD hS 6 1 rfl rfl (j := hh) (nI_clamp (by omega)) (cv_in (nI_toInt (by omega)) (by omega)) d_M_undo_87 (fun H locs hP hD hS => ?_)
            have hP : va_P (dC, dI) vwCl (wM q cI cL own amt tag mad spt made dsp dow dam dtg sp mk mint dep hgt und (s9 - (n9 hh)) (p9 - (f9 hh)) (a9 - (t9 hh)) (vp_updL f9 hh (0 : Int64)) n9 t9 pic) H := hP
            have hD : va_D A (wM q cI cL own amt tag mad spt made dsp dow dam dtg sp mk mint dep hgt und (s9 - (n9 hh)) (p9 - (f9 hh)) (a9 - (t9 hh)) (vp_updL f9 hh (0 : Int64)) n9 t9 pic) := hD
            refine lv_aload_n hx hb d_M_undo_88 rfl (lv_at hl 2 rfl) ?_
            refine va_get (D := (dC, dI)) (ci := 4) (v := .ref (q 7)) (C := R_M) (T := T_M) (N := 24) hx hb hT in_M hown hK hP 0 rfl rfl 14 (by decide) (hT _ k_339) (fun _ h9 => h9) rfl d_M_undo_89 ?_
            refine lv_iload_n hx hb d_M_undo_92 rfl (lv_at hl 0 rfl) ?_
            refine lv_lconst (v := 0) hx hb d_M_undo_93 (by decide) ?_
            refine ob_last hx hb hK hP hD hS 7 1 rfl rfl (j := hh) (nI_clamp (by omega)) (cv_in (nI_toInt (by omega)) (by omega)) d_M_undo_94 (fun H locs hP hD hS => ?_)
            have hP : va_P (dC, dI) vwCl (wM q cI cL own amt tag mad spt made dsp dow dam dtg sp mk mint dep hgt und (s9 - (n9 hh)) (p9 - (f9 hh)) (a9 - (t9 hh)) (vp_updL f9 hh (0 : Int64)) (vp_updL n9 hh (0 : Int64)) t9 pic) H := hP
            have hD : va_D A (wM q cI cL own amt tag mad spt made dsp dow dam dtg sp mk mint dep hgt und (s9 - (n9 hh)) (p9 - (f9 hh)) (a9 - (t9 hh)) (vp_updL f9 hh (0 : Int64)) (vp_updL n9 hh (0 : Int64)) t9 pic) := hD
            refine lv_aload_n hx hb d_M_undo_95 rfl (lv_at hl 2 rfl) ?_
            refine va_get (D := (dC, dI)) (ci := 4) (v := .ref (q 8)) (C := R_M) (T := T_M) (N := 24) hx hb hT in_M hown hK hP 0 rfl rfl 15 (by decide) (hT _ k_340) (fun _ h9 => h9) rfl d_M_undo_96 ?_
            refine lv_iload_n hx hb d_M_undo_99 rfl (lv_at hl 0 rfl) ?_
            refine lv_iconst (v := nI 0) hx hb d_M_undo_100 (by decide) ?_
            refine ob_iast hx hb hK hP hD hS 8 0 rfl rfl (j := hh) (nI_clamp (by omega)) (cv_in (nI_toInt (by omega)) (by omega)) d_M_undo_101 (fun H locs hP hD hS => ?_)
            have hP : va_P (dC, dI) vwCl (wM q cI cL own amt tag mad spt made dsp dow dam dtg sp mk mint dep hgt und (s9 - (n9 hh)) (p9 - (f9 hh)) (a9 - (t9 hh)) (vp_updL f9 hh (0 : Int64)) (vp_updL n9 hh (0 : Int64)) (upd t9 hh (nI 0)) pic) H := hP
            have hD : va_D A (wM q cI cL own amt tag mad spt made dsp dow dam dtg sp mk mint dep hgt und (s9 - (n9 hh)) (p9 - (f9 hh)) (a9 - (t9 hh)) (vp_updL f9 hh (0 : Int64)) (vp_updL n9 hh (0 : Int64)) (upd t9 hh (nI 0)) pic) := hD
            refine lv_iinc (v := nI (hh + 1)) (lv' := [(3, .int (nI (hh + 1))), (2, .int (nI (hgt - x.toNatClampNeg))), (0, .ref (q 0)), (1, .int x)]) hx hb d_M_undo_102 hl (k := 0) rfl (nI_add hh 1) (by decide) rfl (fun ls hl => ?_)
            refine lv_goto (tgt := 28) hx hb d_M_undo_105 (by decide) ?_
            exact ih_28 (i + 1) (hh + 1) (p9 - (f9 hh)) (s9 - (n9 hh)) (a9 - (t9 hh)) (vp_updL f9 hh (0 : Int64)) (vp_updL n9 hh (0 : Int64)) (upd t9 hh (nI 0)) _ _ _ (by omega) (by omega) (by omega) (by rw [hp9, hf9, f_appL_hi (by omega), hhi]; rfl) (by rw [hs9, hn9, f_appL_hi (by omega), hhi]; rfl) (by rw [ha9, ht9, f_app_hi (by omega), hhi]; rfl) (by rw [hf9, hhi]; rfl) (by rw [hn9, hhi]; rfl) (by rw [ht9, hhi]; rfl) hP hD hS (lv_sub hl [0, 1, 2, 3] rfl)
      exact key_28 _ 0 (hgt - x.toNatClampNeg) pot supply apl fes mns tms _ _ _ (Nat.lt_succ_self _) rfl (Nat.zero_le _) rfl rfl rfl rfl rfl rfl hP hD hS (lv_sub hl [0, 1, 2, 3] rfl)
    · have t_14 := mt (cv_le rfl (nI_toInt (by omega))).mpr c_14
      exact absurd t_14 (by omega)
