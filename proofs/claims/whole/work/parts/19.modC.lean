abbrev rm_M_best : Room := { frames := 2, cells := 0, slots := 0, locals := 42 }
set_option maxHeartbeats 4000000 in
set_option maxRecDepth 100000 in
theorem c_M_best (l : Launch) (dC : Nat → ClassId) (dI : Nat → Nat → Nat) (q : Nat → Nat) (cI cL : ClassId) (own : Nat → Int32) (amt : Nat → Int64) (tag : Nat → Int64) (mad : Nat → Int32) (spt : Nat → Int32) (made : Nat) (dsp : Nat → Int32) (dow : Nat → Int32) (dam : Nat → Int64) (dtg : Nat → Int64) (sp : Nat) (mk : Nat) (mint : Int64) (dep : Nat) (hgt : Nat) (und : Nat) (supply : Int64) (pot : Int64) (apl : Int32) (fes : Nat → Int64) (mns : Nat → Int64) (tms : Nat → Int32) (pic : Nat → Int32) (o : Int32) (m9 : Nat) (hm : made ≤ 2048) (hv : ∀ j, spt j = -1 ∨ 0 ≤ (spt j).toInt) (h16 : m9 ≤ 16) : Met l y_M_best w_M_best rm_M_best (va_Pc [.ref (q 0), .int o, .int (nI m9)] (ob_B (dC, dI) vwCl (wM q cI cL own amt tag mad spt made dsp dow dam dtg sp mk mint dep hgt und supply pot apl fes mns tms pic) [(cI, .int), (cL, .long)] [])) (QcRead (f_best own amt spt pic o m9 made)) 0 0 (fun _ => False) := by
  refine ob_ofW (cc := b_M_best) (maxL := 7) (ret := (some .int)) (own := R_M) (by decide) rfl rfl (Nat.le_of_ble_eq_true rfl) ?_
  intro p e s m args below meth c Q hQ hx hb hr hml hT hown hlocks hv ls hl
  obtain ⟨hP, hK, hN⟩ := hv
  have hl : lv_has ls 7 [(0, .ref (q 0)), (1, .int o), (2, .int (nI m9))] := hl
  refine lv_iconst (v := (-1 : Int32)) hx hb d_M_best_0 (by decide) ?_
  refine lv_istore_n (lv' := [(3, .int (-1 : Int32)), (0, .ref (q 0)), (1, .int o), (2, .int (nI m9))]) hx hb d_M_best_1 rfl hl (by decide) rfl (fun ls hl => ?_)
  refine lv_iconst (v := nI 0) hx hb d_M_best_2 (by decide) ?_
  refine lv_istore (lv' := [(4, .int (nI 0)), (3, .int (-1 : Int32)), (0, .ref (q 0)), (1, .int o), (2, .int (nI m9))]) hx hb d_M_best_3 hl (by decide) rfl (fun ls hl => ?_)
  have key_5 : ∀ (n : Nat) (k : Nat) (best : Int32) (ls : Array Slot), made - k < n → (k ≤ made) → (best.toInt < 2048) → (best = f_best own amt spt pic o m9 k) → lv_has ls 7 [(4, .int (nI k)), (3, .int best), (0, .ref (q 0)), (1, .int o), (2, .int (nI m9))] → W p l e rm_M_best s m args below meth c s.heap [] 0 0 Q (F0 m 5 ls []) := by
    intro n_5
    induction n_5 with
    | zero => intro k best ls h; exact absurd h (Nat.not_lt_zero _)
    | succ n_5 ih_5 =>
      intro k best ls hn_5 hk hbr hbest hl
      refine lv_iload hx hb d_M_best_5 (lv_at hl 0 rfl) ?_
      refine lv_aload_n hx hb d_M_best_7 rfl (lv_at hl 2 rfl) ?_
      refine va_get (D := (dC, dI)) (ci := 4) (v := .int (nI made)) (C := R_M) (T := T_M) (N := 24) hx hb hT in_M hown hK hP 0 rfl rfl 2 (by decide) (hT _ k_327) (fun _ h9 => h9) rfl d_M_best_8 ?_
      refine lv_icmp_ge (tgt := 127) hx hb d_M_best_11 (by decide) (fun c_11 => ?_) (fun c_11 => ?_)
      · have t_11 := (cv_le (nI_toInt (by omega)) (nI_toInt (by omega))).mp c_11
        refine lv_iload_n hx hb d_M_best_127 rfl (lv_at hl 1 rfl) ?_
        exact ob_iret (v := best) hx hb hr hlocks hQ (by rw [hbest, show k = made by omega]) d_M_best_128
      · have t_11 := mt (cv_le (nI_toInt (by omega)) (nI_toInt (by omega))).mpr c_11
        refine lv_aload_n hx hb d_M_best_14 rfl (lv_at hl 2 rfl) ?_
        refine lv_iload hx hb d_M_best_15 (lv_at hl 0 rfl) ?_
        refine ob_callR (W.runV (As := [.int (nI k)]) (rest := []) ⟨hx, hb, hml, hown, hT⟩ (c_M_isLive l dC dI q cI cL own amt tag mad spt made dsp dow dam dtg sp mk mint dep hgt und supply pot apl fes mns tms pic (nI k) hm hv) (cwV 1 hT (ob_goodV k_402 k_404 k_3 k_14 k_405) rfl rfl rfl (by decide +kernel) ⟨Nat.le_of_ble_eq_true rfl, Nat.le_of_ble_eq_true rfl⟩) (ob_preV (wc := wM q cI cL own amt tag mad spt made dsp dow dam dtg sp mk mint dep hgt und supply pot apl fes mns tms pic) (q0 := 0) rfl hK hP (fun _ h => absurd h List.not_mem_nil) rfl [0, 1, 2, 3, 4, 5, 6, 7, 8, 9, 10, 11, 12, 13] rfl rfl) rfl rfl hl.1 rfl (lv_room (Nat.le_of_ble_eq_true rfl)) d_M_best_17 ⟨Nat.zero_le _, Nat.zero_le _⟩) ?_
        refine ob_split (P := p_live spt made (nI k)) (fun b_17 => ?_) (fun b_17 => ?_)
        · refine lv_if_eq (tgt := 38) hx hb d_M_best_20 (by decide) (fun c => absurd c (by decide)) (fun _ => ?_)
          refine lv_aload_n hx hb d_M_best_23 rfl (lv_at hl 2 rfl) ?_
          refine va_get (D := (dC, dI)) (ci := 4) (v := .ref (q 1)) (C := R_M) (T := T_M) (N := 24) hx hb hT in_M hown hK hP 0 rfl rfl 3 (by decide) (hT _ k_328) (fun _ h9 => h9) rfl d_M_best_24 ?_
          refine lv_iload hx hb d_M_best_27 (lv_at hl 0 rfl) ?_
          refine ob_iald hx hb hK hP 1 0 rfl rfl (j := k) (nI_clamp (by omega)) (cv_in (nI_toInt (by omega)) (by omega)) d_M_best_29 ?_
          refine lv_iload_n hx hb d_M_best_30 rfl (lv_at hl 3 rfl) ?_
          refine lv_icmp_ne (tgt := 38) hx hb d_M_best_31 (by decide) (fun c_31 => ?_) (fun c_31 => ?_)
          · have t_31 := mt (cv_eq rfl rfl).mpr c_31
            refine lv_iconst (v := nI 0) hx hb d_M_best_38 (by decide) ?_
            refine lv_istore (lv' := [(5, .int (nI 0)), (4, .int (nI k)), (3, .int best), (0, .ref (q 0)), (1, .int o), (2, .int (nI m9))]) hx hb d_M_best_39 hl (by decide) rfl (fun ls hl => ?_)
            refine lv_iconst (v := nI 0) hx hb d_M_best_41 (by decide) ?_
            refine lv_istore (lv' := [(6, .int (nI 0)), (5, .int (nI 0)), (4, .int (nI k)), (3, .int best), (0, .ref (q 0)), (1, .int o), (2, .int (nI m9))]) hx hb d_M_best_42 hl (by decide) rfl (fun ls hl => ?_)
            have key_44 : ∀ (n : Nat) (i : Nat) (fr : Int32) (ls : Array Slot), m9 - i < n → (i ≤ m9) → (fr = if f_lv own spt o k = true ∧ ¬ f_any (fun i => decide (pic i = nI k)) i = true then nI 1 else nI 0) → lv_has ls 7 [(6, .int (nI i)), (5, .int fr), (4, .int (nI k)), (3, .int best), (0, .ref (q 0)), (1, .int o), (2, .int (nI m9))] → W p l e rm_M_best s m args below meth c s.heap [] 0 0 Q (F0 m 44 ls []) := by
              intro n_44
              induction n_44 with
              | zero => intro i fr ls h; exact absurd h (Nat.not_lt_zero _)
              | succ n_44 ih_44 =>
                intro i fr ls hn_44 hi hfr hl
                refine lv_iload hx hb d_M_best_44 (lv_at hl 0 rfl) ?_
                refine lv_iload_n hx hb d_M_best_46 rfl (lv_at hl 6 rfl) ?_
                refine lv_icmp_ge (tgt := 80) hx hb d_M_best_47 (by decide) (fun c_47 => ?_) (fun c_47 => ?_)
                · have t_47 := (cv_le (nI_toInt (by omega)) (nI_toInt (by omega))).mp c_47
                  have hfm : fr = if p_free own spt pic o m9 k then nI 1 else nI 0 := by rw [hfr, show i = m9 by omega]
                  refine lv_iload hx hb d_M_best_80 (lv_at hl 1 rfl) ?_
                  refine lv_if_eq (tgt := 119) hx hb d_M_best_82 (by decide) (fun c_82 => ?_) (fun c_82 => ?_)
                  · have t_82 := (cv_eq rfl (by decide : (0 : Int32).toInt = 0)).mp c_82
                    refine lv_iload_n hx hb d_M_best_119 rfl (lv_at hl 3 rfl) ?_
                    refine lv_istore_n (lv' := [(3, .int best), (6, .int (nI i)), (5, .int fr), (4, .int (nI k)), (0, .ref (q 0)), (1, .int o), (2, .int (nI m9))]) hx hb d_M_best_120 rfl hl (by decide) rfl (fun ls hl => ?_)
                    refine lv_iinc (v := nI (k + 1)) (lv' := [(4, .int (nI (k + 1))), (3, .int best), (6, .int (nI i)), (5, .int fr), (0, .ref (q 0)), (1, .int o), (2, .int (nI m9))]) hx hb d_M_best_121 hl (k := 3) rfl (nI_add k 1) (by decide) rfl (fun ls hl => ?_)
                    refine lv_goto (tgt := 5) hx hb d_M_best_124 (by decide) ?_
                    exact ih_5 (k + 1) best _ (by omega) (by omega) (by first | exact hbr | (rw [nI_toInt (by omega)]; omega)) (by first | exact f_best_t hbest ⟨(b2_nev hfm c_82), Or.inl t_86⟩ | exact f_best_t hbest ⟨(b2_nev hfm c_82), Or.inr (Int64.not_le.mp c_111)⟩ | exact f_best_f hbest (fun h => b2_eqv hfm c_82 h.1) | exact f_best_f hbest (fun h => h.2.elim (fun z => absurd z t_86) (fun z => absurd c_111 (Int64.not_le.mpr z)))) (lv_sub hl [0, 1, 4, 5, 6] rfl)
                  · have t_82 := mt (cv_eq rfl (by decide : (0 : Int32).toInt = 0)).mpr c_82
                    refine lv_iload_n hx hb d_M_best_85 rfl (lv_at hl 3 rfl) ?_
                    refine lv_if_lt (tgt := 114) hx hb d_M_best_86 (by decide) (fun c_86 => ?_) (fun c_86 => ?_)
                    · have t_86 := (cv_lt rfl (by decide : (0 : Int32).toInt = 0)).mp c_86
                      refine lv_iload hx hb d_M_best_114 (lv_at hl 2 rfl) ?_
                      refine lv_goto (tgt := 120) hx hb d_M_best_116 (by decide) ?_
                      refine lv_istore_n (lv' := [(3, .int (nI k)), (6, .int (nI i)), (5, .int fr), (4, .int (nI k)), (0, .ref (q 0)), (1, .int o), (2, .int (nI m9))]) hx hb d_M_best_120 rfl hl (by decide) rfl (fun ls hl => ?_)
                      refine lv_iinc (v := nI (k + 1)) (lv' := [(4, .int (nI (k + 1))), (3, .int (nI k)), (6, .int (nI i)), (5, .int fr), (0, .ref (q 0)), (1, .int o), (2, .int (nI m9))]) hx hb d_M_best_121 hl (k := 3) rfl (nI_add k 1) (by decide) rfl (fun ls hl => ?_)
                      refine lv_goto (tgt := 5) hx hb d_M_best_124 (by decide) ?_
                      exact ih_5 (k + 1) (nI k) _ (by omega) (by omega) (by first | exact hbr | (rw [nI_toInt (by omega)]; omega)) (by first | exact f_best_t hbest ⟨(b2_nev hfm c_82), Or.inl t_86⟩ | exact f_best_t hbest ⟨(b2_nev hfm c_82), Or.inr (Int64.not_le.mp c_111)⟩ | exact f_best_f hbest (fun h => b2_eqv hfm c_82 h.1) | exact f_best_f hbest (fun h => h.2.elim (fun z => absurd z t_86) (fun z => absurd c_111 (Int64.not_le.mpr z)))) (lv_sub hl [0, 1, 4, 5, 6] rfl)
                    · have t_86 := mt (cv_lt rfl (by decide : (0 : Int32).toInt = 0)).mpr c_86
                      refine lv_aload_n hx hb d_M_best_89 rfl (lv_at hl 4 rfl) ?_
                      refine va_get (D := (dC, dI)) (ci := 4) (v := .ref (q 2)) (C := R_M) (T := T_M) (N := 24) hx hb hT in_M hown hK hP 0 rfl rfl 4 (by decide) (hT _ k_329) (fun _ h9 => h9) rfl d_M_best_90 ?_
                      refine lv_iload hx hb d_M_best_93 (lv_at hl 2 rfl) ?_
                      refine ob_lald hx hb hK hP 2 1 rfl rfl (j := k) (nI_clamp (by omega)) (cv_in (nI_toInt (by omega)) (by omega)) d_M_best_95 ?_
                      refine lv_aload_n hx hb d_M_best_96 rfl (lv_at hl 4 rfl) ?_
                      refine va_get (D := (dC, dI)) (ci := 4) (v := .ref (q 2)) (C := R_M) (T := T_M) (N := 24) hx hb hT in_M hown hK hP 0 rfl rfl 4 (by decide) (hT _ k_329) (fun _ h9 => h9) rfl d_M_best_97 ?_
                      refine lv_iload_n hx hb d_M_best_100 rfl (lv_at hl 3 rfl) ?_
                      refine lv_if_ge (tgt := 108) hx hb d_M_best_101 (by decide) (fun c_101 => ?_) (fun c_101 => ?_)
                      · have t_101 := (cv_le (by decide : (0 : Int32).toInt = 0) rfl).mp c_101
                        refine lv_iload_n hx hb d_M_best_108 rfl (lv_at hl 3 rfl) ?_
                        refine ob_lald hx hb hK hP 2 1 rfl rfl (j := best.toNatClampNeg) rfl (cv_in rfl (by omega)) d_M_best_109 ?_
                        refine W.lcmp hx hb d_M_best_110 ?_
                        refine lv_if_le (tgt := 119) hx hb d_M_best_111 (by decide) (fun c_111 => ?_) (fun c_111 => ?_)
                        · have c_111 := (lg_cmp_le _ _).mp c_111
                          refine lv_iload_n hx hb d_M_best_119 rfl (lv_at hl 3 rfl) ?_
                          refine lv_istore_n (lv' := [(3, .int best), (6, .int (nI i)), (5, .int fr), (4, .int (nI k)), (0, .ref (q 0)), (1, .int o), (2, .int (nI m9))]) hx hb d_M_best_120 rfl hl (by decide) rfl (fun ls hl => ?_)
                          refine lv_iinc (v := nI (k + 1)) (lv' := [(4, .int (nI (k + 1))), (3, .int best), (6, .int (nI i)), (5, .int fr), (0, .ref (q 0)), (1, .int o), (2, .int (nI m9))]) hx hb d_M_best_121 hl (k := 3) rfl (nI_add k 1) (by decide) rfl (fun ls hl => ?_)
                          refine lv_goto (tgt := 5) hx hb d_M_best_124 (by decide) ?_
                          exact ih_5 (k + 1) best _ (by omega) (by omega) (by first | exact hbr | (rw [nI_toInt (by omega)]; omega)) (by first | exact f_best_t hbest ⟨(b2_nev hfm c_82), Or.inl t_86⟩ | exact f_best_t hbest ⟨(b2_nev hfm c_82), Or.inr (Int64.not_le.mp c_111)⟩ | exact f_best_f hbest (fun h => b2_eqv hfm c_82 h.1) | exact f_best_f hbest (fun h => h.2.elim (fun z => absurd z t_86) (fun z => absurd c_111 (Int64.not_le.mpr z)))) (lv_sub hl [0, 1, 4, 5, 6] rfl)
                        · have c_111 := mt (lg_cmp_le _ _).mpr c_111
                          refine lv_iload hx hb d_M_best_114 (lv_at hl 2 rfl) ?_
                          refine lv_goto (tgt := 120) hx hb d_M_best_116 (by decide) ?_
                          refine lv_istore_n (lv' := [(3, .int (nI k)), (6, .int (nI i)), (5, .int fr), (4, .int (nI k)), (0, .ref (q 0)), (1, .int o), (2, .int (nI m9))]) hx hb d_M_best_120 rfl hl (by decide) rfl (fun ls hl => ?_)
                          refine lv_iinc (v := nI (k + 1)) (lv' := [(4, .int (nI (k + 1))), (3, .int (nI k)), (6, .int (nI i)), (5, .int fr), (0, .ref (q 0)), (1, .int o), (2, .int (nI m9))]) hx hb d_M_best_121 hl (k := 3) rfl (nI_add k 1) (by decide) rfl (fun ls hl => ?_)
                          refine lv_goto (tgt := 5) hx hb d_M_best_124 (by decide) ?_
                          exact ih_5 (k + 1) (nI k) _ (by omega) (by omega) (by first | exact hbr | (rw [nI_toInt (by omega)]; omega)) (by first | exact f_best_t hbest ⟨(b2_nev hfm c_82), Or.inl t_86⟩ | exact f_best_t hbest ⟨(b2_nev hfm c_82), Or.inr (Int64.not_le.mp c_111)⟩ | exact f_best_f hbest (fun h => b2_eqv hfm c_82 h.1) | exact f_best_f hbest (fun h => h.2.elim (fun z => absurd z t_86) (fun z => absurd c_111 (Int64.not_le.mpr z)))) (lv_sub hl [0, 1, 4, 5, 6] rfl)
                      · have t_101 := mt (cv_le (by decide : (0 : Int32).toInt = 0) rfl).mpr c_101
                        exact absurd t_101 (by omega)
                · have t_47 := mt (cv_le (nI_toInt (by omega)) (nI_toInt (by omega))).mpr c_47
                  refine lv_iload hx hb d_M_best_50 (lv_at hl 1 rfl) ?_
                  refine lv_if_eq (tgt := 71) hx hb d_M_best_52 (by decide) (fun c_52 => ?_) (fun c_52 => ?_)
                  · have t_52 := (cv_eq rfl (by decide : (0 : Int32).toInt = 0)).mp c_52
                    refine lv_iconst (v := nI 0) hx hb d_M_best_71 (by decide) ?_
                    refine lv_istore (lv' := [(5, .int (nI 0)), (6, .int (nI i)), (4, .int (nI k)), (3, .int best), (0, .ref (q 0)), (1, .int o), (2, .int (nI m9))]) hx hb d_M_best_72 hl (by decide) rfl (fun ls hl => ?_)
                    refine lv_iinc (v := nI (i + 1)) (lv' := [(6, .int (nI (i + 1))), (5, .int (nI 0)), (4, .int (nI k)), (3, .int best), (0, .ref (q 0)), (1, .int o), (2, .int (nI m9))]) hx hb d_M_best_74 hl (k := 1) rfl (nI_add i 1) (by decide) rfl (fun ls hl => ?_)
                    refine lv_goto (tgt := 44) hx hb d_M_best_77 (by decide) ?_
                    exact ih_44 (i + 1) (nI 0) _ (by omega) (by omega) (by first | exact (if_neg (fun h => b2_eqv hfr c_52 ⟨h.1, fun z => h.2 (any_s.mpr (Or.inl z))⟩)).symm | exact (if_neg (fun h => h.2 (any_s.mpr (Or.inr (by simpa using c_64))))).symm | exact (if_pos ⟨(b2_nev hfr c_52).1, fun z => (any_s.mp z).elim (b2_nev hfr c_52).2 (fun y => c_64 (by simpa using y))⟩).symm) (lv_sub hl [0, 1, 2, 3, 4, 5, 6] rfl)
                  · have t_52 := mt (cv_eq rfl (by decide : (0 : Int32).toInt = 0)).mpr c_52
                    refine lv_aload_n hx hb d_M_best_55 rfl (lv_at hl 4 rfl) ?_
                    refine va_get (D := (dC, dI)) (ci := 4) (v := .ref (q 13)) (C := R_M) (T := T_M) (N := 24) hx hb hT in_M hown hK hP 0 rfl rfl 23 (by decide) (hT _ k_348) (fun _ h9 => h9) rfl d_M_best_56 ?_
                    refine lv_iload hx hb d_M_best_59 (lv_at hl 0 rfl) ?_
                    refine ob_iald hx hb hK hP 13 0 rfl rfl (j := i) (nI_clamp (by omega)) (cv_in (nI_toInt (by omega)) (by omega)) d_M_best_61 ?_
                    refine lv_iload hx hb d_M_best_62 (lv_at hl 2 rfl) ?_
                    refine lv_icmp_eq (tgt := 71) hx hb d_M_best_64 (by decide) (fun c_64 => ?_) (fun c_64 => ?_)
                    · have t_64 := (cv_eq rfl (nI_toInt (by omega))).mp c_64
                      refine lv_iconst (v := nI 0) hx hb d_M_best_71 (by decide) ?_
                      refine lv_istore (lv' := [(5, .int (nI 0)), (6, .int (nI i)), (4, .int (nI k)), (3, .int best), (0, .ref (q 0)), (1, .int o), (2, .int (nI m9))]) hx hb d_M_best_72 hl (by decide) rfl (fun ls hl => ?_)
                      refine lv_iinc (v := nI (i + 1)) (lv' := [(6, .int (nI (i + 1))), (5, .int (nI 0)), (4, .int (nI k)), (3, .int best), (0, .ref (q 0)), (1, .int o), (2, .int (nI m9))]) hx hb d_M_best_74 hl (k := 1) rfl (nI_add i 1) (by decide) rfl (fun ls hl => ?_)
                      refine lv_goto (tgt := 44) hx hb d_M_best_77 (by decide) ?_
                      exact ih_44 (i + 1) (nI 0) _ (by omega) (by omega) (by first | exact (if_neg (fun h => b2_eqv hfr c_52 ⟨h.1, fun z => h.2 (any_s.mpr (Or.inl z))⟩)).symm | exact (if_neg (fun h => h.2 (any_s.mpr (Or.inr (by simpa using c_64))))).symm | exact (if_pos ⟨(b2_nev hfr c_52).1, fun z => (any_s.mp z).elim (b2_nev hfr c_52).2 (fun y => c_64 (by simpa using y))⟩).symm) (lv_sub hl [0, 1, 2, 3, 4, 5, 6] rfl)
                    · have t_64 := mt (cv_eq rfl (nI_toInt (by omega))).mpr c_64
                      refine lv_iconst (v := nI 1) hx hb d_M_best_67 (by decide) ?_
                      refine lv_goto (tgt := 72) hx hb d_M_best_68 (by decide) ?_
                      refine lv_istore (lv' := [(5, .int (nI 1)), (6, .int (nI i)), (4, .int (nI k)), (3, .int best), (0, .ref (q 0)), (1, .int o), (2, .int (nI m9))]) hx hb d_M_best_72 hl (by decide) rfl (fun ls hl => ?_)
                      refine lv_iinc (v := nI (i + 1)) (lv' := [(6, .int (nI (i + 1))), (5, .int (nI 1)), (4, .int (nI k)), (3, .int best), (0, .ref (q 0)), (1, .int o), (2, .int (nI m9))]) hx hb d_M_best_74 hl (k := 1) rfl (nI_add i 1) (by decide) rfl (fun ls hl => ?_)
                      refine lv_goto (tgt := 44) hx hb d_M_best_77 (by decide) ?_
                      exact ih_44 (i + 1) (nI 1) _ (by omega) (by omega) (by first | exact (if_neg (fun h => b2_eqv hfr c_52 ⟨h.1, fun z => h.2 (any_s.mpr (Or.inl z))⟩)).symm | exact (if_neg (fun h => h.2 (any_s.mpr (Or.inr (by simpa using c_64))))).symm | exact (if_pos ⟨(b2_nev hfr c_52).1, fun z => (any_s.mp z).elim (b2_nev hfr c_52).2 (fun y => c_64 (by simpa using y))⟩).symm) (lv_sub hl [0, 1, 2, 3, 4, 5, 6] rfl)
            exact key_44 _ 0 (nI 0) _ (Nat.lt_succ_self _) (Nat.zero_le _) (by first | exact (if_pos ⟨(f_lv_iff.mpr ⟨(p_live_nI (by omega) hm).mp b_17, c_31⟩), by simp [f_any]⟩).symm | exact (if_neg (fun h => (fun h => b_17 ((p_live_nI (by omega) hm).mpr (f_lv_iff.mp h).1)) h.1)).symm | exact (if_neg (fun h => (fun h => c_31 (f_lv_iff.mp h).2) h.1)).symm) (lv_sub hl [0, 1, 2, 3, 4, 5, 6] rfl)
          · have t_31 := (cv_eq rfl rfl).mp c_31
            refine lv_iconst (v := nI 1) hx hb d_M_best_34 (by decide) ?_
            refine lv_goto (tgt := 39) hx hb d_M_best_35 (by decide) ?_
            refine lv_istore (lv' := [(5, .int (nI 1)), (4, .int (nI k)), (3, .int best), (0, .ref (q 0)), (1, .int o), (2, .int (nI m9))]) hx hb d_M_best_39 hl (by decide) rfl (fun ls hl => ?_)
            refine lv_iconst (v := nI 0) hx hb d_M_best_41 (by decide) ?_
            refine lv_istore (lv' := [(6, .int (nI 0)), (5, .int (nI 1)), (4, .int (nI k)), (3, .int best), (0, .ref (q 0)), (1, .int o), (2, .int (nI m9))]) hx hb d_M_best_42 hl (by decide) rfl (fun ls hl => ?_)
            have key_44 : ∀ (n : Nat) (i : Nat) (fr : Int32) (ls : Array Slot), m9 - i < n → (i ≤ m9) → (fr = if f_lv own spt o k = true ∧ ¬ f_any (fun i => decide (pic i = nI k)) i = true then nI 1 else nI 0) → lv_has ls 7 [(6, .int (nI i)), (5, .int fr), (4, .int (nI k)), (3, .int best), (0, .ref (q 0)), (1, .int o), (2, .int (nI m9))] → W p l e rm_M_best s m args below meth c s.heap [] 0 0 Q (F0 m 44 ls []) := by
              intro n_44
              induction n_44 with
              | zero => intro i fr ls h; exact absurd h (Nat.not_lt_zero _)
              | succ n_44 ih_44 =>
                intro i fr ls hn_44 hi hfr hl
                refine lv_iload hx hb d_M_best_44 (lv_at hl 0 rfl) ?_
                refine lv_iload_n hx hb d_M_best_46 rfl (lv_at hl 6 rfl) ?_
                refine lv_icmp_ge (tgt := 80) hx hb d_M_best_47 (by decide) (fun c_47 => ?_) (fun c_47 => ?_)
                · have t_47 := (cv_le (nI_toInt (by omega)) (nI_toInt (by omega))).mp c_47
                  have hfm : fr = if p_free own spt pic o m9 k then nI 1 else nI 0 := by rw [hfr, show i = m9 by omega]
                  refine lv_iload hx hb d_M_best_80 (lv_at hl 1 rfl) ?_
                  refine lv_if_eq (tgt := 119) hx hb d_M_best_82 (by decide) (fun c_82 => ?_) (fun c_82 => ?_)
                  · have t_82 := (cv_eq rfl (by decide : (0 : Int32).toInt = 0)).mp c_82
                    refine lv_iload_n hx hb d_M_best_119 rfl (lv_at hl 3 rfl) ?_
                    refine lv_istore_n (lv' := [(3, .int best), (6, .int (nI i)), (5, .int fr), (4, .int (nI k)), (0, .ref (q 0)), (1, .int o), (2, .int (nI m9))]) hx hb d_M_best_120 rfl hl (by decide) rfl (fun ls hl => ?_)
                    refine lv_iinc (v := nI (k + 1)) (lv' := [(4, .int (nI (k + 1))), (3, .int best), (6, .int (nI i)), (5, .int fr), (0, .ref (q 0)), (1, .int o), (2, .int (nI m9))]) hx hb d_M_best_121 hl (k := 3) rfl (nI_add k 1) (by decide) rfl (fun ls hl => ?_)
                    refine lv_goto (tgt := 5) hx hb d_M_best_124 (by decide) ?_
                    exact ih_5 (k + 1) best _ (by omega) (by omega) (by first | exact hbr | (rw [nI_toInt (by omega)]; omega)) (by first | exact f_best_t hbest ⟨(b2_nev hfm c_82), Or.inl t_86⟩ | exact f_best_t hbest ⟨(b2_nev hfm c_82), Or.inr (Int64.not_le.mp c_111)⟩ | exact f_best_f hbest (fun h => b2_eqv hfm c_82 h.1) | exact f_best_f hbest (fun h => h.2.elim (fun z => absurd z t_86) (fun z => absurd c_111 (Int64.not_le.mpr z)))) (lv_sub hl [0, 1, 4, 5, 6] rfl)
                  · have t_82 := mt (cv_eq rfl (by decide : (0 : Int32).toInt = 0)).mpr c_82
                    refine lv_iload_n hx hb d_M_best_85 rfl (lv_at hl 3 rfl) ?_
                    refine lv_if_lt (tgt := 114) hx hb d_M_best_86 (by decide) (fun c_86 => ?_) (fun c_86 => ?_)
                    · have t_86 := (cv_lt rfl (by decide : (0 : Int32).toInt = 0)).mp c_86
                      refine lv_iload hx hb d_M_best_114 (lv_at hl 2 rfl) ?_
                      refine lv_goto (tgt := 120) hx hb d_M_best_116 (by decide) ?_
                      refine lv_istore_n (lv' := [(3, .int (nI k)), (6, .int (nI i)), (5, .int fr), (4, .int (nI k)), (0, .ref (q 0)), (1, .int o), (2, .int (nI m9))]) hx hb d_M_best_120 rfl hl (by decide) rfl (fun ls hl => ?_)
                      refine lv_iinc (v := nI (k + 1)) (lv' := [(4, .int (nI (k + 1))), (3, .int (nI k)), (6, .int (nI i)), (5, .int fr), (0, .ref (q 0)), (1, .int o), (2, .int (nI m9))]) hx hb d_M_best_121 hl (k := 3) rfl (nI_add k 1) (by decide) rfl (fun ls hl => ?_)
                      refine lv_goto (tgt := 5) hx hb d_M_best_124 (by decide) ?_
                      exact ih_5 (k + 1) (nI k) _ (by omega) (by omega) (by first | exact hbr | (rw [nI_toInt (by omega)]; omega)) (by first | exact f_best_t hbest ⟨(b2_nev hfm c_82), Or.inl t_86⟩ | exact f_best_t hbest ⟨(b2_nev hfm c_82), Or.inr (Int64.not_le.mp c_111)⟩ | exact f_best_f hbest (fun h => b2_eqv hfm c_82 h.1) | exact f_best_f hbest (fun h => h.2.elim (fun z => absurd z t_86) (fun z => absurd c_111 (Int64.not_le.mpr z)))) (lv_sub hl [0, 1, 4, 5, 6] rfl)
                    · have t_86 := mt (cv_lt rfl (by decide : (0 : Int32).toInt = 0)).mpr c_86
                      refine lv_aload_n hx hb d_M_best_89 rfl (lv_at hl 4 rfl) ?_
                      refine va_get (D := (dC, dI)) (ci := 4) (v := .ref (q 2)) (C := R_M) (T := T_M) (N := 24) hx hb hT in_M hown hK hP 0 rfl rfl 4 (by decide) (hT _ k_329) (fun _ h9 => h9) rfl d_M_best_90 ?_
                      refine lv_iload hx hb d_M_best_93 (lv_at hl 2 rfl) ?_
                      refine ob_lald hx hb hK hP 2 1 rfl rfl (j := k) (nI_clamp (by omega)) (cv_in (nI_toInt (by omega)) (by omega)) d_M_best_95 ?_
                      refine lv_aload_n hx hb d_M_best_96 rfl (lv_at hl 4 rfl) ?_
                      refine va_get (D := (dC, dI)) (ci := 4) (v := .ref (q 2)) (C := R_M) (T := T_M) (N := 24) hx hb hT in_M hown hK hP 0 rfl rfl 4 (by decide) (hT _ k_329) (fun _ h9 => h9) rfl d_M_best_97 ?_
                      refine lv_iload_n hx hb d_M_best_100 rfl (lv_at hl 3 rfl) ?_
                      refine lv_if_ge (tgt := 108) hx hb d_M_best_101 (by decide) (fun c_101 => ?_) (fun c_101 => ?_)
                      · have t_101 := (cv_le (by decide : (0 : Int32).toInt = 0) rfl).mp c_101
                        refine lv_iload_n hx hb d_M_best_108 rfl (lv_at hl 3 rfl) ?_
                        refine ob_lald hx hb hK hP 2 1 rfl rfl (j := best.toNatClampNeg) rfl (cv_in rfl (by omega)) d_M_best_109 ?_
                        refine W.lcmp hx hb d_M_best_110 ?_
                        refine lv_if_le (tgt := 119) hx hb d_M_best_111 (by decide) (fun c_111 => ?_) (fun c_111 => ?_)
                        · have c_111 := (lg_cmp_le _ _).mp c_111
                          refine lv_iload_n hx hb d_M_best_119 rfl (lv_at hl 3 rfl) ?_
                          refine lv_istore_n (lv' := [(3, .int best), (6, .int (nI i)), (5, .int fr), (4, .int (nI k)), (0, .ref (q 0)), (1, .int o), (2, .int (nI m9))]) hx hb d_M_best_120 rfl hl (by decide) rfl (fun ls hl => ?_)
                          refine lv_iinc (v := nI (k + 1)) (lv' := [(4, .int (nI (k + 1))), (3, .int best), (6, .int (nI i)), (5, .int fr), (0, .ref (q 0)), (1, .int o), (2, .int (nI m9))]) hx hb d_M_best_121 hl (k := 3) rfl (nI_add k 1) (by decide) rfl (fun ls hl => ?_)
                          refine lv_goto (tgt := 5) hx hb d_M_best_124 (by decide) ?_
                          exact ih_5 (k + 1) best _ (by omega) (by omega) (by first | exact hbr | (rw [nI_toInt (by omega)]; omega)) (by first | exact f_best_t hbest ⟨(b2_nev hfm c_82), Or.inl t_86⟩ | exact f_best_t hbest ⟨(b2_nev hfm c_82), Or.inr (Int64.not_le.mp c_111)⟩ | exact f_best_f hbest (fun h => b2_eqv hfm c_82 h.1) | exact f_best_f hbest (fun h => h.2.elim (fun z => absurd z t_86) (fun z => absurd c_111 (Int64.not_le.mpr z)))) (lv_sub hl [0, 1, 4, 5, 6] rfl)
                        · have c_111 := mt (lg_cmp_le _ _).mpr c_111
                          refine lv_iload hx hb d_M_best_114 (lv_at hl 2 rfl) ?_
                          refine lv_goto (tgt := 120) hx hb d_M_best_116 (by decide) ?_
                          refine lv_istore_n (lv' := [(3, .int (nI k)), (6, .int (nI i)), (5, .int fr), (4, .int (nI k)), (0, .ref (q 0)), (1, .int o), (2, .int (nI m9))]) hx hb d_M_best_120 rfl hl (by decide) rfl (fun ls hl => ?_)
                          refine lv_iinc (v := nI (k + 1)) (lv' := [(4, .int (nI (k + 1))), (3, .int (nI k)), (6, .int (nI i)), (5, .int fr), (0, .ref (q 0)), (1, .int o), (2, .int (nI m9))]) hx hb d_M_best_121 hl (k := 3) rfl (nI_add k 1) (by decide) rfl (fun ls hl => ?_)
                          refine lv_goto (tgt := 5) hx hb d_M_best_124 (by decide) ?_
                          exact ih_5 (k + 1) (nI k) _ (by omega) (by omega) (by first | exact hbr | (rw [nI_toInt (by omega)]; omega)) (by first | exact f_best_t hbest ⟨(b2_nev hfm c_82), Or.inl t_86⟩ | exact f_best_t hbest ⟨(b2_nev hfm c_82), Or.inr (Int64.not_le.mp c_111)⟩ | exact f_best_f hbest (fun h => b2_eqv hfm c_82 h.1) | exact f_best_f hbest (fun h => h.2.elim (fun z => absurd z t_86) (fun z => absurd c_111 (Int64.not_le.mpr z)))) (lv_sub hl [0, 1, 4, 5, 6] rfl)
                      · have t_101 := mt (cv_le (by decide : (0 : Int32).toInt = 0) rfl).mpr c_101
                        exact absurd t_101 (by omega)
                · have t_47 := mt (cv_le (nI_toInt (by omega)) (nI_toInt (by omega))).mpr c_47
                  refine lv_iload hx hb d_M_best_50 (lv_at hl 1 rfl) ?_
                  refine lv_if_eq (tgt := 71) hx hb d_M_best_52 (by decide) (fun c_52 => ?_) (fun c_52 => ?_)
                  · have t_52 := (cv_eq rfl (by decide : (0 : Int32).toInt = 0)).mp c_52
                    refine lv_iconst (v := nI 0) hx hb d_M_best_71 (by decide) ?_
                    refine lv_istore (lv' := [(5, .int (nI 0)), (6, .int (nI i)), (4, .int (nI k)), (3, .int best), (0, .ref (q 0)), (1, .int o), (2, .int (nI m9))]) hx hb d_M_best_72 hl (by decide) rfl (fun ls hl => ?_)
                    refine lv_iinc (v := nI (i + 1)) (lv' := [(6, .int (nI (i + 1))), (5, .int (nI 0)), (4, .int (nI k)), (3, .int best), (0, .ref (q 0)), (1, .int o), (2, .int (nI m9))]) hx hb d_M_best_74 hl (k := 1) rfl (nI_add i 1) (by decide) rfl (fun ls hl => ?_)
                    refine lv_goto (tgt := 44) hx hb d_M_best_77 (by decide) ?_
                    exact ih_44 (i + 1) (nI 0) _ (by omega) (by omega) (by first | exact (if_neg (fun h => b2_eqv hfr c_52 ⟨h.1, fun z => h.2 (any_s.mpr (Or.inl z))⟩)).symm | exact (if_neg (fun h => h.2 (any_s.mpr (Or.inr (by simpa using c_64))))).symm | exact (if_pos ⟨(b2_nev hfr c_52).1, fun z => (any_s.mp z).elim (b2_nev hfr c_52).2 (fun y => c_64 (by simpa using y))⟩).symm) (lv_sub hl [0, 1, 2, 3, 4, 5, 6] rfl)
                  · have t_52 := mt (cv_eq rfl (by decide : (0 : Int32).toInt = 0)).mpr c_52
                    refine lv_aload_n hx hb d_M_best_55 rfl (lv_at hl 4 rfl) ?_
                    refine va_get (D := (dC, dI)) (ci := 4) (v := .ref (q 13)) (C := R_M) (T := T_M) (N := 24) hx hb hT in_M hown hK hP 0 rfl rfl 23 (by decide) (hT _ k_348) (fun _ h9 => h9) rfl d_M_best_56 ?_
                    refine lv_iload hx hb d_M_best_59 (lv_at hl 0 rfl) ?_
                    refine ob_iald hx hb hK hP 13 0 rfl rfl (j := i) (nI_clamp (by omega)) (cv_in (nI_toInt (by omega)) (by omega)) d_M_best_61 ?_
                    refine lv_iload hx hb d_M_best_62 (lv_at hl 2 rfl) ?_
                    refine lv_icmp_eq (tgt := 71) hx hb d_M_best_64 (by decide) (fun c_64 => ?_) (fun c_64 => ?_)
                    · have t_64 := (cv_eq rfl (nI_toInt (by omega))).mp c_64
                      refine lv_iconst (v := nI 0) hx hb d_M_best_71 (by decide) ?_
                      refine lv_istore (lv' := [(5, .int (nI 0)), (6, .int (nI i)), (4, .int (nI k)), (3, .int best), (0, .ref (q 0)), (1, .int o), (2, .int (nI m9))]) hx hb d_M_best_72 hl (by decide) rfl (fun ls hl => ?_)
                      refine lv_iinc (v := nI (i + 1)) (lv' := [(6, .int (nI (i + 1))), (5, .int (nI 0)), (4, .int (nI k)), (3, .int best), (0, .ref (q 0)), (1, .int o), (2, .int (nI m9))]) hx hb d_M_best_74 hl (k := 1) rfl (nI_add i 1) (by decide) rfl (fun ls hl => ?_)
                      refine lv_goto (tgt := 44) hx hb d_M_best_77 (by decide) ?_
                      exact ih_44 (i + 1) (nI 0) _ (by omega) (by omega) (by first | exact (if_neg (fun h => b2_eqv hfr c_52 ⟨h.1, fun z => h.2 (any_s.mpr (Or.inl z))⟩)).symm | exact (if_neg (fun h => h.2 (any_s.mpr (Or.inr (by simpa using c_64))))).symm | exact (if_pos ⟨(b2_nev hfr c_52).1, fun z => (any_s.mp z).elim (b2_nev hfr c_52).2 (fun y => c_64 (by simpa using y))⟩).symm) (lv_sub hl [0, 1, 2, 3, 4, 5, 6] rfl)
                    · have t_64 := mt (cv_eq rfl (nI_toInt (by omega))).mpr c_64
                      refine lv_iconst (v := nI 1) hx hb d_M_best_67 (by decide) ?_
                      refine lv_goto (tgt := 72) hx hb d_M_best_68 (by decide) ?_
                      refine lv_istore (lv' := [(5, .int (nI 1)), (6, .int (nI i)), (4, .int (nI k)), (3, .int best), (0, .ref (q 0)), (1, .int o), (2, .int (nI m9))]) hx hb d_M_best_72 hl (by decide) rfl (fun ls hl => ?_)
                      refine lv_iinc (v := nI (i + 1)) (lv' := [(6, .int (nI (i + 1))), (5, .int (nI 1)), (4, .int (nI k)), (3, .int best), (0, .ref (q 0)), (1, .int o), (2, .int (nI m9))]) hx hb d_M_best_74 hl (k := 1) rfl (nI_add i 1) (by decide) rfl (fun ls hl => ?_)
                      refine lv_goto (tgt := 44) hx hb d_M_best_77 (by decide) ?_
                      exact ih_44 (i + 1) (nI 1) _ (by omega) (by omega) (by first | exact (if_neg (fun h => b2_eqv hfr c_52 ⟨h.1, fun z => h.2 (any_s.mpr (Or.inl z))⟩)).symm | exact (if_neg (fun h => h.2 (any_s.mpr (Or.inr (by simpa using c_64))))).symm | exact (if_pos ⟨(b2_nev hfr c_52).1, fun z => (any_s.mp z).elim (b2_nev hfr c_52).2 (fun y => c_64 (by simpa using y))⟩).symm) (lv_sub hl [0, 1, 2, 3, 4, 5, 6] rfl)
            exact key_44 _ 0 (nI 1) _ (Nat.lt_succ_self _) (Nat.zero_le _) (by first | exact (if_pos ⟨(f_lv_iff.mpr ⟨(p_live_nI (by omega) hm).mp b_17, c_31⟩), by simp [f_any]⟩).symm | exact (if_neg (fun h => (fun h => b_17 ((p_live_nI (by omega) hm).mpr (f_lv_iff.mp h).1)) h.1)).symm | exact (if_neg (fun h => (fun h => c_31 (f_lv_iff.mp h).2) h.1)).symm) (lv_sub hl [0, 1, 2, 3, 4, 5, 6] rfl)
        · refine lv_if_eq (tgt := 38) hx hb d_M_best_20 (by decide) (fun _ => ?_) (fun c => absurd c (by decide))
          refine lv_iconst (v := nI 0) hx hb d_M_best_38 (by decide) ?_
          refine lv_istore (lv' := [(5, .int (nI 0)), (4, .int (nI k)), (3, .int best), (0, .ref (q 0)), (1, .int o), (2, .int (nI m9))]) hx hb d_M_best_39 hl (by decide) rfl (fun ls hl => ?_)
          refine lv_iconst (v := nI 0) hx hb d_M_best_41 (by decide) ?_
          refine lv_istore (lv' := [(6, .int (nI 0)), (5, .int (nI 0)), (4, .int (nI k)), (3, .int best), (0, .ref (q 0)), (1, .int o), (2, .int (nI m9))]) hx hb d_M_best_42 hl (by decide) rfl (fun ls hl => ?_)
          have key_44 : ∀ (n : Nat) (i : Nat) (fr : Int32) (ls : Array Slot), m9 - i < n → (i ≤ m9) → (fr = if f_lv own spt o k = true ∧ ¬ f_any (fun i => decide (pic i = nI k)) i = true then nI 1 else nI 0) → lv_has ls 7 [(6, .int (nI i)), (5, .int fr), (4, .int (nI k)), (3, .int best), (0, .ref (q 0)), (1, .int o), (2, .int (nI m9))] → W p l e rm_M_best s m args below meth c s.heap [] 0 0 Q (F0 m 44 ls []) := by
            intro n_44
            induction n_44 with
            | zero => intro i fr ls h; exact absurd h (Nat.not_lt_zero _)
            | succ n_44 ih_44 =>
              intro i fr ls hn_44 hi hfr hl
              refine lv_iload hx hb d_M_best_44 (lv_at hl 0 rfl) ?_
              refine lv_iload_n hx hb d_M_best_46 rfl (lv_at hl 6 rfl) ?_
              refine lv_icmp_ge (tgt := 80) hx hb d_M_best_47 (by decide) (fun c_47 => ?_) (fun c_47 => ?_)
              · have t_47 := (cv_le (nI_toInt (by omega)) (nI_toInt (by omega))).mp c_47
                have hfm : fr = if p_free own spt pic o m9 k then nI 1 else nI 0 := by rw [hfr, show i = m9 by omega]
                refine lv_iload hx hb d_M_best_80 (lv_at hl 1 rfl) ?_
                refine lv_if_eq (tgt := 119) hx hb d_M_best_82 (by decide) (fun c_82 => ?_) (fun c_82 => ?_)
                · have t_82 := (cv_eq rfl (by decide : (0 : Int32).toInt = 0)).mp c_82
                  refine lv_iload_n hx hb d_M_best_119 rfl (lv_at hl 3 rfl) ?_
                  refine lv_istore_n (lv' := [(3, .int best), (6, .int (nI i)), (5, .int fr), (4, .int (nI k)), (0, .ref (q 0)), (1, .int o), (2, .int (nI m9))]) hx hb d_M_best_120 rfl hl (by decide) rfl (fun ls hl => ?_)
                  refine lv_iinc (v := nI (k + 1)) (lv' := [(4, .int (nI (k + 1))), (3, .int best), (6, .int (nI i)), (5, .int fr), (0, .ref (q 0)), (1, .int o), (2, .int (nI m9))]) hx hb d_M_best_121 hl (k := 3) rfl (nI_add k 1) (by decide) rfl (fun ls hl => ?_)
                  refine lv_goto (tgt := 5) hx hb d_M_best_124 (by decide) ?_
                  exact ih_5 (k + 1) best _ (by omega) (by omega) (by first | exact hbr | (rw [nI_toInt (by omega)]; omega)) (by first | exact f_best_t hbest ⟨(b2_nev hfm c_82), Or.inl t_86⟩ | exact f_best_t hbest ⟨(b2_nev hfm c_82), Or.inr (Int64.not_le.mp c_111)⟩ | exact f_best_f hbest (fun h => b2_eqv hfm c_82 h.1) | exact f_best_f hbest (fun h => h.2.elim (fun z => absurd z t_86) (fun z => absurd c_111 (Int64.not_le.mpr z)))) (lv_sub hl [0, 1, 4, 5, 6] rfl)
                · have t_82 := mt (cv_eq rfl (by decide : (0 : Int32).toInt = 0)).mpr c_82
                  refine lv_iload_n hx hb d_M_best_85 rfl (lv_at hl 3 rfl) ?_
                  refine lv_if_lt (tgt := 114) hx hb d_M_best_86 (by decide) (fun c_86 => ?_) (fun c_86 => ?_)
                  · have t_86 := (cv_lt rfl (by decide : (0 : Int32).toInt = 0)).mp c_86
                    refine lv_iload hx hb d_M_best_114 (lv_at hl 2 rfl) ?_
                    refine lv_goto (tgt := 120) hx hb d_M_best_116 (by decide) ?_
                    refine lv_istore_n (lv' := [(3, .int (nI k)), (6, .int (nI i)), (5, .int fr), (4, .int (nI k)), (0, .ref (q 0)), (1, .int o), (2, .int (nI m9))]) hx hb d_M_best_120 rfl hl (by decide) rfl (fun ls hl => ?_)
                    refine lv_iinc (v := nI (k + 1)) (lv' := [(4, .int (nI (k + 1))), (3, .int (nI k)), (6, .int (nI i)), (5, .int fr), (0, .ref (q 0)), (1, .int o), (2, .int (nI m9))]) hx hb d_M_best_121 hl (k := 3) rfl (nI_add k 1) (by decide) rfl (fun ls hl => ?_)
                    refine lv_goto (tgt := 5) hx hb d_M_best_124 (by decide) ?_
                    exact ih_5 (k + 1) (nI k) _ (by omega) (by omega) (by first | exact hbr | (rw [nI_toInt (by omega)]; omega)) (by first | exact f_best_t hbest ⟨(b2_nev hfm c_82), Or.inl t_86⟩ | exact f_best_t hbest ⟨(b2_nev hfm c_82), Or.inr (Int64.not_le.mp c_111)⟩ | exact f_best_f hbest (fun h => b2_eqv hfm c_82 h.1) | exact f_best_f hbest (fun h => h.2.elim (fun z => absurd z t_86) (fun z => absurd c_111 (Int64.not_le.mpr z)))) (lv_sub hl [0, 1, 4, 5, 6] rfl)
                  · have t_86 := mt (cv_lt rfl (by decide : (0 : Int32).toInt = 0)).mpr c_86
                    refine lv_aload_n hx hb d_M_best_89 rfl (lv_at hl 4 rfl) ?_
                    refine va_get (D := (dC, dI)) (ci := 4) (v := .ref (q 2)) (C := R_M) (T := T_M) (N := 24) hx hb hT in_M hown hK hP 0 rfl rfl 4 (by decide) (hT _ k_329) (fun _ h9 => h9) rfl d_M_best_90 ?_
                    refine lv_iload hx hb d_M_best_93 (lv_at hl 2 rfl) ?_
                    refine ob_lald hx hb hK hP 2 1 rfl rfl (j := k) (nI_clamp (by omega)) (cv_in (nI_toInt (by omega)) (by omega)) d_M_best_95 ?_
                    refine lv_aload_n hx hb d_M_best_96 rfl (lv_at hl 4 rfl) ?_
                    refine va_get (D := (dC, dI)) (ci := 4) (v := .ref (q 2)) (C := R_M) (T := T_M) (N := 24) hx hb hT in_M hown hK hP 0 rfl rfl 4 (by decide) (hT _ k_329) (fun _ h9 => h9) rfl d_M_best_97 ?_
                    refine lv_iload_n hx hb d_M_best_100 rfl (lv_at hl 3 rfl) ?_
                    refine lv_if_ge (tgt := 108) hx hb d_M_best_101 (by decide) (fun c_101 => ?_) (fun c_101 => ?_)
                    · have t_101 := (cv_le (by decide : (0 : Int32).toInt = 0) rfl).mp c_101
                      refine lv_iload_n hx hb d_M_best_108 rfl (lv_at hl 3 rfl) ?_
                      refine ob_lald hx hb hK hP 2 1 rfl rfl (j := best.toNatClampNeg) rfl (cv_in rfl (by omega)) d_M_best_109 ?_
                      refine W.lcmp hx hb d_M_best_110 ?_
                      refine lv_if_le (tgt := 119) hx hb d_M_best_111 (by decide) (fun c_111 => ?_) (fun c_111 => ?_)
                      · have c_111 := (lg_cmp_le _ _).mp c_111
                        refine lv_iload_n hx hb d_M_best_119 rfl (lv_at hl 3 rfl) ?_
                        refine lv_istore_n (lv' := [(3, .int best), (6, .int (nI i)), (5, .int fr), (4, .int (nI k)), (0, .ref (q 0)), (1, .int o), (2, .int (nI m9))]) hx hb d_M_best_120 rfl hl (by decide) rfl (fun ls hl => ?_)
                        refine lv_iinc (v := nI (k + 1)) (lv' := [(4, .int (nI (k + 1))), (3, .int best), (6, .int (nI i)), (5, .int fr), (0, .ref (q 0)), (1, .int o), (2, .int (nI m9))]) hx hb d_M_best_121 hl (k := 3) rfl (nI_add k 1) (by decide) rfl (fun ls hl => ?_)
                        refine lv_goto (tgt := 5) hx hb d_M_best_124 (by decide) ?_
                        exact ih_5 (k + 1) best _ (by omega) (by omega) (by first | exact hbr | (rw [nI_toInt (by omega)]; omega)) (by first | exact f_best_t hbest ⟨(b2_nev hfm c_82), Or.inl t_86⟩ | exact f_best_t hbest ⟨(b2_nev hfm c_82), Or.inr (Int64.not_le.mp c_111)⟩ | exact f_best_f hbest (fun h => b2_eqv hfm c_82 h.1) | exact f_best_f hbest (fun h => h.2.elim (fun z => absurd z t_86) (fun z => absurd c_111 (Int64.not_le.mpr z)))) (lv_sub hl [0, 1, 4, 5, 6] rfl)
                      · have c_111 := mt (lg_cmp_le _ _).mpr c_111
                        refine lv_iload hx hb d_M_best_114 (lv_at hl 2 rfl) ?_
                        refine lv_goto (tgt := 120) hx hb d_M_best_116 (by decide) ?_
                        refine lv_istore_n (lv' := [(3, .int (nI k)), (6, .int (nI i)), (5, .int fr), (4, .int (nI k)), (0, .ref (q 0)), (1, .int o), (2, .int (nI m9))]) hx hb d_M_best_120 rfl hl (by decide) rfl (fun ls hl => ?_)
                        refine lv_iinc (v := nI (k + 1)) (lv' := [(4, .int (nI (k + 1))), (3, .int (nI k)), (6, .int (nI i)), (5, .int fr), (0, .ref (q 0)), (1, .int o), (2, .int (nI m9))]) hx hb d_M_best_121 hl (k := 3) rfl (nI_add k 1) (by decide) rfl (fun ls hl => ?_)
                        refine lv_goto (tgt := 5) hx hb d_M_best_124 (by decide) ?_
                        exact ih_5 (k + 1) (nI k) _ (by omega) (by omega) (by first | exact hbr | (rw [nI_toInt (by omega)]; omega)) (by first | exact f_best_t hbest ⟨(b2_nev hfm c_82), Or.inl t_86⟩ | exact f_best_t hbest ⟨(b2_nev hfm c_82), Or.inr (Int64.not_le.mp c_111)⟩ | exact f_best_f hbest (fun h => b2_eqv hfm c_82 h.1) | exact f_best_f hbest (fun h => h.2.elim (fun z => absurd z t_86) (fun z => absurd c_111 (Int64.not_le.mpr z)))) (lv_sub hl [0, 1, 4, 5, 6] rfl)
                    · have t_101 := mt (cv_le (by decide : (0 : Int32).toInt = 0) rfl).mpr c_101
                      exact absurd t_101 (by omega)
              · have t_47 := mt (cv_le (nI_toInt (by omega)) (nI_toInt (by omega))).mpr c_47
                refine lv_iload hx hb d_M_best_50 (lv_at hl 1 rfl) ?_
                refine lv_if_eq (tgt := 71) hx hb d_M_best_52 (by decide) (fun c_52 => ?_) (fun c_52 => ?_)
                · have t_52 := (cv_eq rfl (by decide : (0 : Int32).toInt = 0)).mp c_52
                  refine lv_iconst (v := nI 0) hx hb d_M_best_71 (by decide) ?_
                  refine lv_istore (lv' := [(5, .int (nI 0)), (6, .int (nI i)), (4, .int (nI k)), (3, .int best), (0, .ref (q 0)), (1, .int o), (2, .int (nI m9))]) hx hb d_M_best_72 hl (by decide) rfl (fun ls hl => ?_)
                  refine lv_iinc (v := nI (i + 1)) (lv' := [(6, .int (nI (i + 1))), (5, .int (nI 0)), (4, .int (nI k)), (3, .int best), (0, .ref (q 0)), (1, .int o), (2, .int (nI m9))]) hx hb d_M_best_74 hl (k := 1) rfl (nI_add i 1) (by decide) rfl (fun ls hl => ?_)
                  refine lv_goto (tgt := 44) hx hb d_M_best_77 (by decide) ?_
                  exact ih_44 (i + 1) (nI 0) _ (by omega) (by omega) (by first | exact (if_neg (fun h => b2_eqv hfr c_52 ⟨h.1, fun z => h.2 (any_s.mpr (Or.inl z))⟩)).symm | exact (if_neg (fun h => h.2 (any_s.mpr (Or.inr (by simpa using c_64))))).symm | exact (if_pos ⟨(b2_nev hfr c_52).1, fun z => (any_s.mp z).elim (b2_nev hfr c_52).2 (fun y => c_64 (by simpa using y))⟩).symm) (lv_sub hl [0, 1, 2, 3, 4, 5, 6] rfl)
                · have t_52 := mt (cv_eq rfl (by decide : (0 : Int32).toInt = 0)).mpr c_52
                  refine lv_aload_n hx hb d_M_best_55 rfl (lv_at hl 4 rfl) ?_
                  refine va_get (D := (dC, dI)) (ci := 4) (v := .ref (q 13)) (C := R_M) (T := T_M) (N := 24) hx hb hT in_M hown hK hP 0 rfl rfl 23 (by decide) (hT _ k_348) (fun _ h9 => h9) rfl d_M_best_56 ?_
                  refine lv_iload hx hb d_M_best_59 (lv_at hl 0 rfl) ?_
                  refine ob_iald hx hb hK hP 13 0 rfl rfl (j := i) (nI_clamp (by omega)) (cv_in (nI_toInt (by omega)) (by omega)) d_M_best_61 ?_
                  refine lv_iload hx hb d_M_best_62 (lv_at hl 2 rfl) ?_
                  refine lv_icmp_eq (tgt := 71) hx hb d_M_best_64 (by decide) (fun c_64 => ?_) (fun c_64 => ?_)
                  · have t_64 := (cv_eq rfl (nI_toInt (by omega))).mp c_64
                    refine lv_iconst (v := nI 0) hx hb d_M_best_71 (by decide) ?_
                    refine lv_istore (lv' := [(5, .int (nI 0)), (6, .int (nI i)), (4, .int (nI k)), (3, .int best), (0, .ref (q 0)), (1, .int o), (2, .int (nI m9))]) hx hb d_M_best_72 hl (by decide) rfl (fun ls hl => ?_)
                    refine lv_iinc (v := nI (i + 1)) (lv' := [(6, .int (nI (i + 1))), (5, .int (nI 0)), (4, .int (nI k)), (3, .int best), (0, .ref (q 0)), (1, .int o), (2, .int (nI m9))]) hx hb d_M_best_74 hl (k := 1) rfl (nI_add i 1) (by decide) rfl (fun ls hl => ?_)
                    refine lv_goto (tgt := 44) hx hb d_M_best_77 (by decide) ?_
                    exact ih_44 (i + 1) (nI 0) _ (by omega) (by omega) (by first | exact (if_neg (fun h => b2_eqv hfr c_52 ⟨h.1, fun z => h.2 (any_s.mpr (Or.inl z))⟩)).symm | exact (if_neg (fun h => h.2 (any_s.mpr (Or.inr (by simpa using c_64))))).symm | exact (if_pos ⟨(b2_nev hfr c_52).1, fun z => (any_s.mp z).elim (b2_nev hfr c_52).2 (fun y => c_64 (by simpa using y))⟩).symm) (lv_sub hl [0, 1, 2, 3, 4, 5, 6] rfl)
                  · have t_64 := mt (cv_eq rfl (nI_toInt (by omega))).mpr c_64
                    refine lv_iconst (v := nI 1) hx hb d_M_best_67 (by decide) ?_
                    refine lv_goto (tgt := 72) hx hb d_M_best_68 (by decide) ?_
                    refine lv_istore (lv' := [(5, .int (nI 1)), (6, .int (nI i)), (4, .int (nI k)), (3, .int best), (0, .ref (q 0)), (1, .int o), (2, .int (nI m9))]) hx hb d_M_best_72 hl (by decide) rfl (fun ls hl => ?_)
                    refine lv_iinc (v := nI (i + 1)) (lv' := [(6, .int (nI (i + 1))), (5, .int (nI 1)), (4, .int (nI k)), (3, .int best), (0, .ref (q 0)), (1, .int o), (2, .int (nI m9))]) hx hb d_M_best_74 hl (k := 1) rfl (nI_add i 1) (by decide) rfl (fun ls hl => ?_)
                    refine lv_goto (tgt := 44) hx hb d_M_best_77 (by decide) ?_
                    exact ih_44 (i + 1) (nI 1) _ (by omega) (by omega) (by first | exact (if_neg (fun h => b2_eqv hfr c_52 ⟨h.1, fun z => h.2 (any_s.mpr (Or.inl z))⟩)).symm | exact (if_neg (fun h => h.2 (any_s.mpr (Or.inr (by simpa using c_64))))).symm | exact (if_pos ⟨(b2_nev hfr c_52).1, fun z => (any_s.mp z).elim (b2_nev hfr c_52).2 (fun y => c_64 (by simpa using y))⟩).symm) (lv_sub hl [0, 1, 2, 3, 4, 5, 6] rfl)
          exact key_44 _ 0 (nI 0) _ (Nat.lt_succ_self _) (Nat.zero_le _) (by first | exact (if_pos ⟨(f_lv_iff.mpr ⟨(p_live_nI (by omega) hm).mp b_17, c_31⟩), by simp [f_any]⟩).symm | exact (if_neg (fun h => (fun h => b_17 ((p_live_nI (by omega) hm).mpr (f_lv_iff.mp h).1)) h.1)).symm | exact (if_neg (fun h => (fun h => c_31 (f_lv_iff.mp h).2) h.1)).symm) (lv_sub hl [0, 1, 2, 3, 4, 5, 6] rfl)
  exact key_5 _ 0 (-1 : Int32) _ (Nat.lt_succ_self _) (Nat.zero_le _) (by decide) rfl (lv_sub hl [0, 1, 2, 3, 4] rfl)
abbrev rm_M_gather_l : Room := { frames := 0, cells := 0, slots := 0, locals := 0 }
set_option maxHeartbeats 4000000 in
set_option maxRecDepth 100000 in
theorem c_M_gather_l (l : Launch) (dC : Nat → ClassId) (dI : Nat → Nat → Nat) (q : Nat → Nat) (cI cL : ClassId) (own : Nat → Int32) (amt : Nat → Int64) (tag : Nat → Int64) (mad : Nat → Int32) (spt : Nat → Int32) (made : Nat) (dsp : Nat → Int32) (dow : Nat → Int32) (dam : Nat → Int64) (dtg : Nat → Int64) (sp : Nat) (mk : Nat) (mint : Int64) (dep : Nat) (hgt : Nat) (und : Nat) (supply : Int64) (pot : Int64) (apl : Int32) (fes : Nat → Int64) (mns : Nat → Int64) (tms : Nat → Int32) (pic : Nat → Int32) (o : Int32) (a : Int64) (h1 : ¬ 1 ≤ a) : Met l y_M_gather w_M_gather rm_M_gather_l (va_Pc [.ref (q 0), .int o, .long a] (ob_BW (dC, dI) vwCl (wM q cI cL own amt tag mad spt made dsp dow dam dtg sp mk mint dep hgt und supply pot apl fes mns tms pic) [(cI, .int), (cL, .long)] [])) (va_Qi (fun (r : Int32) (_ : Unit) => r = (-1 : Int32)) (fun _ t => va_P (dC, dI) vwCl (wM q cI cL own amt tag mad spt made dsp dow dam dtg sp mk mint dep hgt und supply pot apl fes mns tms pic) t.heap) (ob_A (wM q cI cL own amt tag mad spt made dsp dow dam dtg sp mk mint dep hgt und supply pot apl fes mns tms pic))) 0 0 (ob_A (wM q cI cL own amt tag mad spt made dsp dow dam dtg sp mk mint dep hgt und supply pot apl fes mns tms pic)) := by
  refine ob_ofW (cc := b_M_gather) (maxL := 8) (ret := (some .int)) (own := R_M) (by decide) rfl rfl (Nat.le_of_ble_eq_true rfl) ?_
  intro p e s m args below meth c Q hQ hx hb hr hml hT hown hlocks hv ls hl
  obtain ⟨⟨hP, hK, hN⟩, hD0⟩ := hv
  have hD := ob_D_self hD0
  generalize hAe : ob_A (wM q cI cL own amt tag mad spt made dsp dow dam dtg sp mk mint dep hgt und supply pot apl fes mns tms pic) = A at hQ hD
  have hS : va_S A s.heap s.heap [] := va_S.rf
  have hl : lv_has ls 8 [(0, .ref (q 0)), (1, .int o), (2, .long a)] := hl
  refine lv_aload_n hx hb d_M_gather_0 rfl (lv_at hl 0 rfl) ?_
  refine lv_iconst (v := nI 0) hx hb d_M_gather_1 (by decide) ?_
  refine va_put (D := (dC, dI)) (ci := 4) (v := .int (nI 0)) (ty := .int) (C := R_M) (T := T_M) (N := 24) hx hb hT in_M t_M t_M_ok n_M hown hK hP hD hS 0 rfl rfl 0 (by decide) (hT _ k_325) (fun _ h9 => h9) rfl (by decide +kernel) rfl rfl (Nat.le_of_ble_eq_true rfl) d_M_gather_2 (fun H locs hP hD hS => ?_)
  have hP : va_P (dC, dI) vwCl (wM q cI cL own amt tag mad spt made dsp dow dam dtg sp mk mint dep hgt und supply pot apl fes mns tms pic) H := hP
  have hD : va_D A (wM q cI cL own amt tag mad spt made dsp dow dam dtg sp mk mint dep hgt und supply pot apl fes mns tms pic) := hD
  refine lv_lload_n hx hb d_M_gather_5 rfl (lv_at hl 2 rfl) ?_
  refine lv_lconst (v := 1) hx hb d_M_gather_6 (by decide) ?_
  refine W.lcmp hx hb d_M_gather_7 ?_
  refine lv_if_ge (tgt := 13) hx hb d_M_gather_8 (by decide) (fun c_8 => ?_) (fun c_8 => ?_)
  · have c_8 := (lg_cmp_ge _ _).mp c_8
    exact absurd c_8 h1
  · have c_8 := mt (lg_cmp_ge _ _).mpr c_8
    refine lv_iconst (v := (-1 : Int32)) hx hb d_M_gather_11 (by decide) ?_
    exact ob_iretW (v := (-1 : Int32)) hx hb hr hlocks hQ hS hP rfl rfl d_M_gather_12
abbrev rm_M_gather_t : Room := { frames := 3, cells := 0, slots := 0, locals := 68 }
set_option maxHeartbeats 4000000 in
set_option maxRecDepth 100000 in
theorem c_M_gather_t (l : Launch) (dC : Nat → ClassId) (dI : Nat → Nat → Nat) (q : Nat → Nat) (cI cL : ClassId) (own : Nat → Int32) (amt : Nat → Int64) (tag : Nat → Int64) (mad : Nat → Int32) (spt : Nat → Int32) (made : Nat) (dsp : Nat → Int32) (dow : Nat → Int32) (dam : Nat → Int64) (dtg : Nat → Int64) (sp : Nat) (mk : Nat) (mint : Int64) (dep : Nat) (hgt : Nat) (und : Nat) (supply : Int64) (pot : Int64) (apl : Int32) (fes : Nat → Int64) (mns : Nat → Int64) (tms : Nat → Int32) (pic : Nat → Int32) (o : Int32) (a : Int64) (hm : made ≤ 2048) (hv : ∀ j, spt j = -1 ∨ 0 ≤ (spt j).toInt) (hsp : sp ≤ 16) (h1 : 1 ≤ a) : Met l y_M_gather w_M_gather rm_M_gather_t (va_Pc [.ref (q 0), .int o, .long a] (ob_BW (dC, dI) vwCl (wM q cI cL own amt tag mad spt made dsp dow dam dtg sp mk mint dep hgt und supply pot apl fes mns tms pic) [(cI, .int), (cL, .long)] [])) (va_Qi (fun (r : Int32) (_ : Unit) => r = f_gans (f_gs amt made (f_pk own amt spt made o) dsp sp a (16 - sp) 0)) (fun _ t => va_P (dC, dI) vwCl (wM q cI cL own amt tag mad spt made (f_app dsp sp (fun i => f_pk own amt spt made o (i + 1)) (f_gs amt made (f_pk own amt spt made o) dsp sp a (16 - sp) 0)) dow dam dtg (sp + f_gs amt made (f_pk own amt spt made o) dsp sp a (16 - sp) 0) mk mint dep hgt und supply pot apl fes mns tms (f_app pic 0 (fun i => f_pk own amt spt made o (i + 1)) (f_gw amt made (f_pk own amt spt made o) dsp sp a (16 - sp) 0))) t.heap) (ob_A (wM q cI cL own amt tag mad spt made dsp dow dam dtg sp mk mint dep hgt und supply pot apl fes mns tms pic))) 0 0 (ob_A (wM q cI cL own amt tag mad spt made dsp dow dam dtg sp mk mint dep hgt und supply pot apl fes mns tms pic)) := by
  refine ob_ofW (cc := b_M_gather) (maxL := 8) (ret := (some .int)) (own := R_M) (by decide) rfl rfl (Nat.le_of_ble_eq_true rfl) ?_
  intro p e s m args below meth c Q hQ hx hb hr hml hT hown hlocks hv ls hl
  obtain ⟨⟨hP, hK, hN⟩, hD0⟩ := hv
  have hD := ob_D_self hD0
  generalize hAe : ob_A (wM q cI cL own amt tag mad spt made dsp dow dam dtg sp mk mint dep hgt und supply pot apl fes mns tms pic) = A at hQ hD
  have hS : va_S A s.heap s.heap [] := va_S.rf
  have hl : lv_has ls 8 [(0, .ref (q 0)), (1, .int o), (2, .long a)] := hl
  refine lv_aload_n hx hb d_M_gather_0 rfl (lv_at hl 0 rfl) ?_
  refine lv_iconst (v := nI 0) hx hb d_M_gather_1 (by decide) ?_
  refine va_put (D := (dC, dI)) (ci := 4) (v := .int (nI 0)) (ty := .int) (C := R_M) (T := T_M) (N := 24) hx hb hT in_M t_M t_M_ok n_M hown hK hP hD hS 0 rfl rfl 0 (by decide) (hT _ k_325) (fun _ h9 => h9) rfl (by decide +kernel) rfl rfl (Nat.le_of_ble_eq_true rfl) d_M_gather_2 (fun H locs hP hD hS => ?_)
  have hP : va_P (dC, dI) vwCl (wM q cI cL own amt tag mad spt made dsp dow dam dtg sp mk mint dep hgt und supply pot apl fes mns tms pic) H := hP
  have hD : va_D A (wM q cI cL own amt tag mad spt made dsp dow dam dtg sp mk mint dep hgt und supply pot apl fes mns tms pic) := hD
  refine lv_lload_n hx hb d_M_gather_5 rfl (lv_at hl 2 rfl) ?_
  refine lv_lconst (v := 1) hx hb d_M_gather_6 (by decide) ?_
  refine W.lcmp hx hb d_M_gather_7 ?_
  refine lv_if_ge (tgt := 13) hx hb d_M_gather_8 (by decide) (fun c_8 => ?_) (fun c_8 => ?_)
  · have c_8 := (lg_cmp_ge _ _).mp c_8
    refine lv_lload_n hx hb d_M_gather_13 rfl (lv_at hl 2 rfl) ?_
    refine lv_lstore (lv' := [(4, .long a), (0, .ref (q 0)), (1, .int o), (2, .long a)]) hx hb d_M_gather_14 hl (by decide) rfl (fun ls hl => ?_)
    refine lv_iconst (v := nI 0) hx hb d_M_gather_16 (by decide) ?_
    refine lv_istore (lv' := [(6, .int (nI 0)), (4, .long a), (0, .ref (q 0)), (1, .int o), (2, .long a)]) hx hb d_M_gather_17 hl (by decide) rfl (fun ls hl => ?_)
    have key_19 : ∀ (n : Nat) (j : Nat) (lf : Int64) (c9 : Nat → Int32) (H : Heap) (locs : List Loc) (ls : Array Slot), 17 - sp - j < n → (sp + j ≤ 16) → (lf = f_lack amt made (f_pk own amt spt made o) a j) → (c9 = f_app pic 0 (fun i => f_pk own amt spt made o (i + 1)) j) → (∀ i, i < j → f_pk own amt spt made o (i + 1) ≠ -1) → ((0 < lf → f_gs amt made (f_pk own amt spt made o) dsp sp a (16 - sp - j) j = f_gs amt made (f_pk own amt spt made o) dsp sp a (16 - sp) 0 ∧ f_gw amt made (f_pk own amt spt made o) dsp sp a (16 - sp - j) j = f_gw amt made (f_pk own amt spt made o) dsp sp a (16 - sp) 0) ∧ (¬ 0 < lf → f_gs amt made (f_pk own amt spt made o) dsp sp a (16 - sp) 0 = j ∧ f_gw amt made (f_pk own amt spt made o) dsp sp a (16 - sp) 0 = j)) → va_P (dC, dI) vwCl (wM q cI cL own amt tag mad spt made dsp dow dam dtg sp mk mint dep hgt und supply pot apl fes mns tms c9) H → va_D A (wM q cI cL own amt tag mad spt made dsp dow dam dtg sp mk mint dep hgt und supply pot apl fes mns tms c9) → va_S A s.heap H locs → lv_has ls 8 [(6, .int (nI j)), (4, .long lf), (0, .ref (q 0)), (1, .int o), (2, .long a)] → W p l e rm_M_gather_t s m args below meth c H locs 0 0 Q (F0 m 19 ls []) := by
      intro n_19
      induction n_19 with
      | zero => intro j lf c9 H locs ls h; exact absurd h (Nat.not_lt_zero _)
      | succ n_19 ih_19 =>
        intro j lf c9 H locs ls hn_19 hj hlf hc9 hok hG hP hD hS hl
        refine lv_lload hx hb d_M_gather_19 (lv_at hl 1 rfl) ?_
        refine lv_lconst (v := 0) hx hb d_M_gather_21 (by decide) ?_
        refine W.lcmp hx hb d_M_gather_22 ?_
        refine lv_if_le (tgt := 94) hx hb d_M_gather_23 (by decide) (fun c_23 => ?_) (fun c_23 => ?_)
        · have c_23 := (lg_cmp_le _ _).mp c_23
          have hG2 := hG.2 (fun z => absurd c_23 (Int64.not_le.mpr z))
          refine lv_iconst (v := nI 0) hx hb d_M_gather_94 (by decide) ?_
          refine lv_istore (lv' := [(7, .int (nI 0)), (6, .int (nI j)), (4, .long lf), (0, .ref (q 0)), (1, .int o), (2, .long a)]) hx hb d_M_gather_95 hl (by decide) rfl (fun ls hl => ?_)
          have key_97 : ∀ (n : Nat) (k2 : Nat) (d9 : Nat → Int32) (sp9 : Nat) (H : Heap) (locs : List Loc) (ls : Array Slot), j - k2 < n → (k2 ≤ j) → (sp9 = sp + k2) → (d9 = f_app dsp sp (fun i => f_pk own amt spt made o (i + 1)) k2) → va_P (dC, dI) vwCl (wM q cI cL own amt tag mad spt made d9 dow dam dtg sp9 mk mint dep hgt und supply pot apl fes mns tms c9) H → va_D A (wM q cI cL own amt tag mad spt made d9 dow dam dtg sp9 mk mint dep hgt und supply pot apl fes mns tms c9) → va_S A s.heap H locs → lv_has ls 8 [(7, .int (nI k2)), (6, .int (nI j)), (4, .long lf), (0, .ref (q 0)), (1, .int o), (2, .long a)] → W p l e rm_M_gather_t s m args below meth c H locs 0 0 Q (F0 m 97 ls []) := by
            intro n_97
            induction n_97 with
            | zero => intro k2 d9 sp9 H locs ls h; exact absurd h (Nat.not_lt_zero _)
            | succ n_97 ih_97 =>
              intro k2 d9 sp9 H locs ls hn_97 hk2 hsp9 hd9 hP hD hS hl
              refine lv_iload hx hb d_M_gather_97 (lv_at hl 0 rfl) ?_
              refine lv_iload hx hb d_M_gather_99 (lv_at hl 1 rfl) ?_
              refine lv_icmp_ge (tgt := 136) hx hb d_M_gather_101 (by decide) (fun c_101 => ?_) (fun c_101 => ?_)
              · have t_101 := (cv_le (nI_toInt (by omega)) (nI_toInt (by omega))).mp c_101
                refine lv_iload hx hb d_M_gather_136 (lv_at hl 1 rfl) ?_
                exact ob_iretW (v := nI j) hx hb hr hlocks hQ hS hP (by rw [hG2.1, hG2.2, hc9, hd9, hsp9, show k2 = j by omega]) (by rw [hG2.1, f_gans, if_neg (fun z => by subst z; exact absurd c_23 (by rw [hlf]; exact Int64.not_le.mpr (lt1 h1)))]) d_M_gather_138
              · have t_101 := mt (cv_le (nI_toInt (by omega)) (nI_toInt (by omega))).mpr c_101
                refine lv_aload_n hx hb d_M_gather_104 rfl (lv_at hl 3 rfl) ?_
                refine va_get (D := (dC, dI)) (ci := 4) (v := .ref (q 9)) (C := R_M) (T := T_M) (N := 24) hx hb hT in_M hown hK hP 0 rfl rfl 17 (by decide) (hT _ k_342) (fun _ h9 => h9) rfl d_M_gather_105 ?_
                refine lv_aload_n hx hb d_M_gather_108 rfl (lv_at hl 3 rfl) ?_
                refine va_get (D := (dC, dI)) (ci := 4) (v := .int (nI sp9)) (C := R_M) (T := T_M) (N := 24) hx hb hT in_M hown hK hP 0 rfl rfl 16 (by decide) (hT _ k_341) (fun _ h9 => h9) rfl d_M_gather_109 ?_
                refine lv_aload_n hx hb d_M_gather_112 rfl (lv_at hl 3 rfl) ?_
                refine va_get (D := (dC, dI)) (ci := 4) (v := .ref (q 13)) (C := R_M) (T := T_M) (N := 24) hx hb hT in_M hown hK hP 0 rfl rfl 23 (by decide) (hT _ k_348) (fun _ h9 => h9) rfl d_M_gather_113 ?_
                refine lv_iload hx hb d_M_gather_116 (lv_at hl 0 rfl) ?_
                refine ob_iald hx hb hK hP 13 0 rfl rfl (j := k2) (nI_clamp (by omega)) (cv_in (nI_toInt (by omega)) (by omega)) d_M_gather_118 ?_
                refine ob_iast hx hb hK hP hD hS 9 0 rfl rfl (j := sp9) (nI_clamp (by omega)) (cv_in (nI_toInt (by omega)) (by omega)) d_M_gather_119 (fun H locs hP hD hS => ?_)
                have hP : va_P (dC, dI) vwCl (wM q cI cL own amt tag mad spt made (upd d9 sp9 (c9 k2)) dow dam dtg sp9 mk mint dep hgt und supply pot apl fes mns tms c9) H := hP
                have hD : va_D A (wM q cI cL own amt tag mad spt made (upd d9 sp9 (c9 k2)) dow dam dtg sp9 mk mint dep hgt und supply pot apl fes mns tms c9) := hD
                refine lv_aload_n hx hb d_M_gather_120 rfl (lv_at hl 3 rfl) ?_
                refine lv_dup hx hb d_M_gather_121 rfl ?_
                refine va_get (D := (dC, dI)) (ci := 4) (v := .int (nI sp9)) (C := R_M) (T := T_M) (N := 24) hx hb hT in_M hown hK hP 0 rfl rfl 16 (by decide) (hT _ k_341) (fun _ h9 => h9) rfl d_M_gather_122 ?_
                refine lv_iconst (v := nI 1) hx hb d_M_gather_125 (by decide) ?_
                refine lv_iadd hx hb d_M_gather_126 ?_
                refine ob_eqi (nI_add sp9 1) ?_
                refine va_put (D := (dC, dI)) (ci := 4) (v := .int (nI (sp9 + 1))) (ty := .int) (C := R_M) (T := T_M) (N := 24) hx hb hT in_M t_M t_M_ok n_M hown hK hP hD hS 0 rfl rfl 16 (by decide) (hT _ k_341) (fun _ h9 => h9) rfl (by decide +kernel) rfl rfl (Nat.le_of_ble_eq_true rfl) d_M_gather_127 (fun H locs hP hD hS => ?_)
                have hP : va_P (dC, dI) vwCl (wM q cI cL own amt tag mad spt made (upd d9 sp9 (c9 k2)) dow dam dtg (sp9 + 1) mk mint dep hgt und supply pot apl fes mns tms c9) H := hP
                have hD : va_D A (wM q cI cL own amt tag mad spt made (upd d9 sp9 (c9 k2)) dow dam dtg (sp9 + 1) mk mint dep hgt und supply pot apl fes mns tms c9) := hD
                refine lv_iinc (v := nI (k2 + 1)) (lv' := [(7, .int (nI (k2 + 1))), (6, .int (nI j)), (4, .long lf), (0, .ref (q 0)), (1, .int o), (2, .long a)]) hx hb d_M_gather_130 hl (k := 0) rfl (nI_add k2 1) (by decide) rfl (fun ls hl => ?_)
                refine lv_goto (tgt := 97) hx hb d_M_gather_133 (by decide) ?_
                exact ih_97 (k2 + 1) (upd d9 sp9 (c9 k2)) (sp9 + 1) _ _ _ (by omega) (by omega) (by omega) (by rw [hd9, hsp9, hc9, f_app_at (Nat.zero_le _) (by omega), Nat.sub_zero]; rfl) hP hD hS (lv_sub hl [0, 1, 2, 3, 4, 5] rfl)
          exact key_97 _ 0 dsp sp _ _ _ (Nat.lt_succ_self _) (Nat.zero_le _) rfl rfl hP hD hS (lv_sub hl [0, 1, 2, 3, 4, 5] rfl)
        · have c_23 := mt (lg_cmp_le _ _).mpr c_23
          have hG1 := hG.1 (Int64.not_le.mp c_23)
          have hpk : f_best own amt spt c9 o j made = f_pk own amt spt made o (j + 1) := f_best_pk' hm hok (fun i hi => by rw [hc9, f_app_at (Nat.zero_le i) (by omega), Nat.sub_zero])
          refine lv_iload hx hb d_M_gather_26 (lv_at hl 0 rfl) ?_
          refine lv_aload_n hx hb d_M_gather_28 rfl (lv_at hl 2 rfl) ?_
          refine va_get (D := (dC, dI)) (ci := 4) (v := .int (nI sp)) (C := R_M) (T := T_M) (N := 24) hx hb hT in_M hown hK hP 0 rfl rfl 16 (by decide) (hT _ k_341) (fun _ h9 => h9) rfl d_M_gather_29 ?_
          refine lv_iadd hx hb d_M_gather_32 ?_
          refine ob_eqi (nI_add j sp) ?_
          refine lv_bipush (v := nI 16) hx hb d_M_gather_33 (by decide) ?_
          refine lv_icmp_ge (tgt := 48) hx hb d_M_gather_35 (by decide) (fun c_35 => ?_) (fun c_35 => ?_)
          · have t_35 := (cv_le (nI_toInt (by omega)) (nI_toInt (by omega))).mp c_35
            refine lv_iconst (v := (-1 : Int32)) hx hb d_M_gather_48 (by decide) ?_
            refine lv_istore (lv' := [(7, .int (-1 : Int32)), (6, .int (nI j)), (4, .long lf), (0, .ref (q 0)), (1, .int o), (2, .long a)]) hx hb d_M_gather_49 hl (by decide) rfl (fun ls hl => ?_)
            refine lv_iload hx hb d_M_gather_51 (lv_at hl 0 rfl) ?_
            refine lv_if_lt (tgt := 65) hx hb d_M_gather_53 (by decide) (fun _ => ?_) (fun c => absurd c (by decide))
            have hz : f_gs amt made (f_pk own amt spt made o) dsp sp a (16 - sp) 0 = 0 ∧ f_gw amt made (f_pk own amt spt made o) dsp sp a (16 - sp) 0 = j := by first | exact (by rw [← hG1.1, ← hG1.2, show 16 - sp - j = 0 by omega]; exact ⟨rfl, rfl⟩) | exact (by rw [← hG1.1, ← hG1.2]; exact f_gs_bad (by omega) (Or.inl (by rw [← hpk]; exact bst_neg t_53))) | exact (by rw [← hG1.1, ← hG1.2]; exact f_gs_bad (by omega) (Or.inr (by rw [← hpk]; exact b_59)))
            refine lv_iconst (v := (-1 : Int32)) hx hb d_M_gather_65 (by decide) ?_
            exact ob_iretW (v := (-1 : Int32)) hx hb hr hlocks hQ hS hP (by rw [hz.1, hz.2, hc9]; rfl) (by rw [hz.1]; rfl) d_M_gather_66
          · have t_35 := mt (cv_le (nI_toInt (by omega)) (nI_toInt (by omega))).mpr c_35
            refine lv_aload_n hx hb d_M_gather_38 rfl (lv_at hl 2 rfl) ?_
            refine lv_iload_n hx hb d_M_gather_39 rfl (lv_at hl 3 rfl) ?_
            refine lv_iload hx hb d_M_gather_40 (lv_at hl 0 rfl) ?_
            refine ob_callR (W.runV (As := [.int o, .int (nI j)]) (rest := []) ⟨hx, hb, hml, hown, hT⟩ (c_M_best l dC dI q cI cL own amt tag mad spt made dsp dow dam dtg sp mk mint dep hgt und supply pot apl fes mns tms c9 o j hm hv (by omega)) (cwV 2 hT (ob_goodV k_477 k_479 k_7 k_14 k_480) rfl rfl rfl (by decide +kernel) ⟨Nat.le_of_ble_eq_true rfl, Nat.le_of_ble_eq_true rfl⟩) (ob_preV (wc := wM q cI cL own amt tag mad spt made dsp dow dam dtg sp mk mint dep hgt und supply pot apl fes mns tms c9) (q0 := 0) rfl hK hP (fun _ h => absurd h List.not_mem_nil) rfl [0, 1, 2, 3, 4, 5, 6, 7, 8, 9, 10, 11, 12, 13] rfl rfl) rfl rfl hl.1 rfl (lv_room (Nat.le_of_ble_eq_true rfl)) d_M_gather_42 ⟨Nat.zero_le _, Nat.zero_le _⟩) ?_
            refine lv_goto (tgt := 49) hx hb d_M_gather_45 (by decide) ?_
            refine lv_istore (lv' := [(7, .int (f_best own amt spt c9 o j made)), (6, .int (nI j)), (4, .long lf), (0, .ref (q 0)), (1, .int o), (2, .long a)]) hx hb d_M_gather_49 hl (by decide) rfl (fun ls hl => ?_)
            refine lv_iload hx hb d_M_gather_51 (lv_at hl 0 rfl) ?_
            refine lv_if_lt (tgt := 65) hx hb d_M_gather_53 (by decide) (fun c_53 => ?_) (fun c_53 => ?_)
            · have t_53 := (cv_lt rfl (by decide : (0 : Int32).toInt = 0)).mp c_53
              have hz : f_gs amt made (f_pk own amt spt made o) dsp sp a (16 - sp) 0 = 0 ∧ f_gw amt made (f_pk own amt spt made o) dsp sp a (16 - sp) 0 = j := by first | exact (by rw [← hG1.1, ← hG1.2, show 16 - sp - j = 0 by omega]; exact ⟨rfl, rfl⟩) | exact (by rw [← hG1.1, ← hG1.2]; exact f_gs_bad (by omega) (Or.inl (by rw [← hpk]; exact bst_neg t_53))) | exact (by rw [← hG1.1, ← hG1.2]; exact f_gs_bad (by omega) (Or.inr (by rw [← hpk]; exact b_59)))
              refine lv_iconst (v := (-1 : Int32)) hx hb d_M_gather_65 (by decide) ?_
              exact ob_iretW (v := (-1 : Int32)) hx hb hr hlocks hQ hS hP (by rw [hz.1, hz.2, hc9]; rfl) (by rw [hz.1]; rfl) d_M_gather_66
            · have t_53 := mt (cv_lt rfl (by decide : (0 : Int32).toInt = 0)).mpr c_53
              refine lv_aload_n hx hb d_M_gather_56 rfl (lv_at hl 3 rfl) ?_
              refine lv_iload hx hb d_M_gather_57 (lv_at hl 0 rfl) ?_
              refine ob_callR (W.runV (As := [.int (f_best own amt spt c9 o j made)]) (rest := []) ⟨hx, hb, hml, hown, hT⟩ (c_M_isDrafted l dC dI q cI cL own amt tag mad spt made dsp dow dam dtg sp mk mint dep hgt und supply pot apl fes mns tms c9 (f_best own amt spt c9 o j made) hsp) (cwV 1 hT (ob_goodV k_410 k_412 k_5 k_14 k_413) rfl rfl rfl (by decide +kernel) ⟨Nat.le_of_ble_eq_true rfl, Nat.le_of_ble_eq_true rfl⟩) (ob_preV (wc := wM q cI cL own amt tag mad spt made dsp dow dam dtg sp mk mint dep hgt und supply pot apl fes mns tms c9) (q0 := 0) rfl hK hP (fun _ h => absurd h List.not_mem_nil) rfl [0, 1, 2, 3, 4, 5, 6, 7, 8, 9, 10, 11, 12, 13] rfl rfl) rfl rfl hl.1 rfl (lv_room (Nat.le_of_ble_eq_true rfl)) d_M_gather_59 ⟨Nat.zero_le _, Nat.zero_le _⟩) ?_
              refine ob_split (P := f_any (fun z9 => decide (dsp z9 = (f_best own amt spt c9 o j made))) sp = true) (fun b_59 => ?_) (fun b_59 => ?_)
              · refine lv_if_eq (tgt := 67) hx hb d_M_gather_62 (by decide) (fun c => absurd c (by decide)) (fun _ => ?_)
                have hz : f_gs amt made (f_pk own amt spt made o) dsp sp a (16 - sp) 0 = 0 ∧ f_gw amt made (f_pk own amt spt made o) dsp sp a (16 - sp) 0 = j := by first | exact (by rw [← hG1.1, ← hG1.2, show 16 - sp - j = 0 by omega]; exact ⟨rfl, rfl⟩) | exact (by rw [← hG1.1, ← hG1.2]; exact f_gs_bad (by omega) (Or.inl (by rw [← hpk]; exact bst_neg t_53))) | exact (by rw [← hG1.1, ← hG1.2]; exact f_gs_bad (by omega) (Or.inr (by rw [← hpk]; exact b_59)))
                refine lv_iconst (v := (-1 : Int32)) hx hb d_M_gather_65 (by decide) ?_
                exact ob_iretW (v := (-1 : Int32)) hx hb hr hlocks hQ hS hP (by rw [hz.1, hz.2, hc9]; rfl) (by rw [hz.1]; rfl) d_M_gather_66
              · refine lv_if_eq (tgt := 67) hx hb d_M_gather_62 (by decide) (fun _ => ?_) (fun c => absurd c (by decide))
                obtain ⟨b, hb1, hb2⟩ := bst_pos t_53
                have hnt : (f_best own amt spt c9 o j made).toInt = b := by rw [hb2]; exact nI_toInt (by omega)
                have hnb : ¬ p_bad (f_pk own amt spt made o) dsp sp j := fun h => h.elim (fun z => absurd (congrArg Int32.toInt (hpk.trans z)) (by rw [hnt, show ((-1 : Int32)).toInt = -1 by decide]; omega)) (fun z => b_59 (by rw [hpk]; exact z))
                have hlk : lf - amt (f_best own amt spt c9 o j made).toNatClampNeg = f_lack amt made (f_pk own amt spt made o) a (j + 1) := by rw [f_lack, ← hlf, ← hpk, f_amt, if_pos (show p_has made (f_best own amt spt c9 o j made) from ⟨by omega, by omega⟩)]
                refine lv_aload_n hx hb d_M_gather_67 rfl (lv_at hl 3 rfl) ?_
                refine va_get (D := (dC, dI)) (ci := 4) (v := .ref (q 13)) (C := R_M) (T := T_M) (N := 24) hx hb hT in_M hown hK hP 0 rfl rfl 23 (by decide) (hT _ k_348) (fun _ h9 => h9) rfl d_M_gather_68 ?_
                refine lv_iload hx hb d_M_gather_71 (lv_at hl 1 rfl) ?_
                refine lv_iload hx hb d_M_gather_73 (lv_at hl 0 rfl) ?_
                refine ob_iast hx hb hK hP hD hS 13 0 rfl rfl (j := j) (nI_clamp (by omega)) (cv_in (nI_toInt (by omega)) (by omega)) d_M_gather_75 (fun H locs hP hD hS => ?_)
                have hP : va_P (dC, dI) vwCl (wM q cI cL own amt tag mad spt made dsp dow dam dtg sp mk mint dep hgt und supply pot apl fes mns tms (upd c9 j (f_best own amt spt c9 o j made))) H := hP
                have hD : va_D A (wM q cI cL own amt tag mad spt made dsp dow dam dtg sp mk mint dep hgt und supply pot apl fes mns tms (upd c9 j (f_best own amt spt c9 o j made))) := hD
                refine lv_iinc (v := nI (j + 1)) (lv' := [(6, .int (nI (j + 1))), (7, .int (f_best own amt spt c9 o j made)), (4, .long lf), (0, .ref (q 0)), (1, .int o), (2, .long a)]) hx hb d_M_gather_76 hl (k := 1) rfl (nI_add j 1) (by decide) rfl (fun ls hl => ?_)
                refine lv_lload hx hb d_M_gather_79 (lv_at hl 2 rfl) ?_
                refine lv_aload_n hx hb d_M_gather_81 rfl (lv_at hl 3 rfl) ?_
                refine va_get (D := (dC, dI)) (ci := 4) (v := .ref (q 2)) (C := R_M) (T := T_M) (N := 24) hx hb hT in_M hown hK hP 0 rfl rfl 4 (by decide) (hT _ k_329) (fun _ h9 => h9) rfl d_M_gather_82 ?_
                refine lv_iload hx hb d_M_gather_85 (lv_at hl 1 rfl) ?_
                refine ob_lald hx hb hK hP 2 1 rfl rfl (j := (f_best own amt spt c9 o j made).toNatClampNeg) rfl (cv_in hnt (by omega)) d_M_gather_87 ?_
                refine lv_lsub hx hb d_M_gather_88 ?_
                refine lv_lstore (lv' := [(4, .long (lf - (amt ((f_best own amt spt c9 o j made).toNatClampNeg)))), (6, .int (nI (j + 1))), (7, .int (f_best own amt spt c9 o j made)), (0, .ref (q 0)), (1, .int o), (2, .long a)]) hx hb d_M_gather_89 hl (by decide) rfl (fun ls hl => ?_)
                refine lv_goto (tgt := 19) hx hb d_M_gather_91 (by decide) ?_
                exact ih_19 (j + 1) (lf - (amt ((f_best own amt spt c9 o j made).toNatClampNeg))) (upd c9 j (f_best own amt spt c9 o j made)) _ _ _ (by omega) (by omega) hlk (by rw [hpk, hc9, f_app, Nat.zero_add]) (fun i hi => by
          by_cases e9 : i = j
          · rw [e9]; exact fun z => hnb (Or.inl z)
          · exact hok i (by omega)) (⟨fun h => by rw [← hG1.1, ← hG1.2]; exact ⟨(f_gs_go (by omega) hnb (by rw [← hlk]; exact Int64.not_le.mpr h)).1.symm, (f_gs_go (by omega) hnb (by rw [← hlk]; exact Int64.not_le.mpr h)).2.symm⟩, fun h => by rw [← hG1.1, ← hG1.2]; exact f_gs_end (by omega) hnb (by rw [← hlk]; exact Int64.not_lt.mp h)⟩) hP hD hS (lv_sub hl [1, 0, 3, 4, 5] rfl)
    exact key_19 _ 0 a pic _ _ _ (Nat.lt_succ_self _) (by omega) rfl rfl (fun i h => absurd h (Nat.not_lt_zero i)) (⟨fun _ => ⟨rfl, rfl⟩, fun h => absurd (lt1 h1) h⟩) hP hD hS (lv_sub hl [0, 1, 2, 3, 4] rfl)
  · have c_8 := mt (lg_cmp_ge _ _).mpr c_8
    exact absurd h1 c_8
