theorem ob_join2 {A0 : Nat → Prop} {D : va_G} {cl : List vw_C} {wa wb w1 : va_W} {H H1 : Heap} (hP : va_P D cl (wa ++ wb) H) (hD : va_D A0 (wa ++ wb)) (hk : ∀ q : Nat, q < H.size → ¬ va_A wb H.size q → H1[q]? = H[q]?) (hF : ∀ q, va_A wb H.size q → A0 q) (hP1 : va_P D cl w1 H1) (hD1 : va_D (va_A wb H.size) w1) : va_P D cl (wa ++ w1) H1 ∧ va_D A0 (wa ++ w1) := by
  have apart : ∀ (k : Nat) (q : Nat × va_E), wa[k]? = some q → q.1 < H.size ∧ ¬ va_A wb H.size q.1 := by
    intro k q hq
    have hl := (ob_P1 hP k q hq).lt
    refine ⟨hl, fun h => ?_⟩
    rcases h with ⟨k2, e, h⟩ | h
    · exact ob_Dne hD hq h rfl
    · omega
  refine ⟨va_P.app (fun k q hq => (ob_P1 hP k q hq).kept (hk q.1 (apart k q hq).1 (apart k q hq).2)) hP1, va_D.app (ob_D1 hD) (hD1.weaken (fun k q _ h => hF q.1 h)) (fun i j x y hx hy hxy => ?_)⟩
  exact (apart i x hx).2 (by rw [hxy]; exact hD1.2 j y hy)
theorem ob_free3 {A0 : Nat → Prop} {wa wb : va_W} {H0 H : Heap} {locs : List Loc} (hD : va_D A0 (wa ++ wb)) (hS : va_S A0 H0 H locs) (hA : ∀ q, H0.size ≤ q → A0 q) : ∀ q, va_A wb H.size q → A0 q := by
  intro q h
  rcases h with ⟨k, e, h⟩ | h
  · exact (ob_D2 hD).2 k _ h
  · exact hA q (Nat.le_trans hS.1 h)
theorem ob_preI2 {D : va_G} {wb : va_W} {A : Nat → Prop} {tys : List (ClassId × FieldType)} {s : State} {H : Heap} {b : Nat} {As : List Value} (hK : va_K D vwCl tys s) (hP : va_P D vwCl wb H) (hD : va_D A wb) : PreS s H (va_Pc (.ref b :: As) (ob_I D wb H.size)) (.ref b :: As) :=
  ⟨fun a U g mk q => ⟨q.1, q.2.1, q.2.2.1, va_K.moved (u := U) (U := U.calling g mk a) (Vm.Alike.refl U.vm) q.2.2.2.1, q.2.2.2.2⟩, fun U hU hW => ⟨rfl, by rw [hU], by rw [hU]; exact hP, va_K.moved hW.alike (hK.sub [] rfl), hD.weaken (fun _ _ _ _ => trivial)⟩⟩
theorem ob_preIN2 {D : va_G} {wb : va_W} {A : Nat → Prop} {tys : List (ClassId × FieldType)} {s : State} {H : Heap} {b : Nat} {As : List Value} (hK : va_K D vwCl tys s) (hP : va_P D vwCl wb H) (hD : va_D A wb) (hN : ∀ w ∈ ob_N, va_Nw w s) : PreS s H (va_Pc (.ref b :: As) (ob_IN D wb H.size)) (.ref b :: As) :=
  ⟨fun a U g mk q => ⟨q.1, ⟨q.2.1.1, q.2.1.2.1, va_K.moved (u := U) (U := U.calling g mk a) (Vm.Alike.refl U.vm) q.2.1.2.2.1, q.2.1.2.2.2⟩, fun w hw => va_Nw.same (ob_onT (List.all_eq_true.mp ob_N_nest w hw)) (rfl : U.vm = (U.calling g mk a).vm) (q.2.2 w hw)⟩, fun U hU hW => ⟨rfl, ⟨by rw [hU], by rw [hU]; exact hP, va_K.moved hW.alike (hK.sub [] rfl), hD.weaken (fun _ _ _ _ => trivial)⟩, fun w hw => ob_warm (List.all_eq_true.mp ob_N_nest w hw) hW (hN w hw)⟩⟩
theorem ob_preC {s : State} {H H0 : Heap} {b L : Nat} {xs : Nat → Int32} (hX : va_X b L xs s H0) (hbl : b < H0.size) (hle : H0.size ≤ H.size) (hb2 : H[b]? = H0[b]?) : PreS s H (va_Pc [.ref b, .int (nI 0)] (fun U => va_X b L xs U U.heap ∧ b < U.heap.size)) [.ref b, .int (nI 0)] :=
  ⟨fun a U g mk q => ⟨q.1, va_X.moved (u := U) (U := U.calling g mk a) (Vm.Alike.refl U.vm) q.2.1, q.2.2⟩, fun U hU hW => ⟨rfl, by rw [hU]; exact va_X.moved hW.alike (hX.kept hb2), by rw [hU]; omega⟩⟩
abbrev rm_L_cell : Room := { frames := 0, cells := 0, slots := 0, locals := 0 }
set_option maxHeartbeats 4000000 in
set_option maxRecDepth 100000 in
theorem c_L_cell (l : Launch) (b L : Nat) (xs : Nat → Int32) (hL : L ≤ 3073) : Met l y_L_cell w_L_cell rm_L_cell (va_Pc [.ref b, .int (nI 0)] (fun U => va_X b L xs U U.heap ∧ b < U.heap.size)) (QcRead (if 0 < L then xs 0 else nI 0)) 0 0 (fun _ => False) := by
  refine ob_ofW (cc := b_L_cell) (maxL := 2) (ret := (some .int)) (own := "OutputBookLaw") (by decide) rfl rfl (Nat.le_of_ble_eq_true rfl) ?_
  intro p e s m args below meth c Q hQ hx hb hr hml hT hown hlocks hv ls hl
  obtain ⟨hX, hbl⟩ := hv
  have hl : lv_has ls 2 [(0, .ref b), (1, .int (nI 0))] := hl
  have hbA : ¬ (fun _ : Nat => False) b := fun h => h
  have hS : va_S (fun _ : Nat => False) s.heap s.heap [] := va_S.rf
  refine lv_iload_n hx hb d_L_cell_0 rfl (lv_at hl 1 rfl) ?_
  refine lv_aload_n hx hb d_L_cell_1 rfl (lv_at hl 0 rfl) ?_
  refine va_slen hx hb hX hbl hbA hS d_L_cell_2 ?_
  refine ob_eqi (y := nI L) rfl ?_
  refine lv_icmp_ge (tgt := 12) hx hb d_L_cell_3 (by decide) (fun c_3 => ?_) (fun c_3 => ?_)
  · have t_3 := (cv_le (nI_toInt (by omega)) (nI_toInt (by omega))).mp c_3
    refine lv_iconst (v := nI 0) hx hb d_L_cell_12 (by decide) ?_
    exact ob_iret hx hb hr hlocks hQ (if_neg (by omega)).symm d_L_cell_13
  · have t_3 := mt (cv_le (nI_toInt (by omega)) (nI_toInt (by omega))).mpr c_3
    refine lv_aload_n hx hb d_L_cell_6 rfl (lv_at hl 0 rfl) ?_
    refine lv_iload_n hx hb d_L_cell_7 rfl (lv_at hl 1 rfl) ?_
    refine ob_sld hx hb hX hbl hbA hS (j := 0) (nI_clamp (by omega)) (vp_in_nI (by omega) (by omega)) d_L_cell_8 ?_
    refine lv_goto (tgt := 13) hx hb d_L_cell_9 (by decide) ?_
    exact ob_iret hx hb hr hlocks hQ (if_pos (by omega)).symm d_L_cell_13
theorem li_St_up {dC : Nat → ClassId} {dI : Nat → Nat → Nat} {s : State} {q r : Nat → Nat} {cI cL : ClassId} {t : Nat} {H : Heap} {locs : List Loc} (h : li_St dC dI s q r cI cL t H locs) : li_St dC dI s q r cI cL (t + 1) H locs := by
  obtain ⟨supply, pot, apl, own, amt, tag, mad, spt, made, dsp, dow, dam, dtg, sp, mk, mint, dep, sups, pots, apps, row, hgt, und, ds2, fes, mns, tms, pic, ⟨⟨hm, hsp, hmk, hrow, hdp1, hdep, hud, huh, hht⟩, hv, hd, hs⟩, hP, hD, hS⟩ := h
  exact ⟨supply, pot, apl, own, amt, tag, mad, spt, made, dsp, dow, dam, dtg, sp, mk, mint, dep, sups, pots, apps, row, hgt, und, ds2, fes, mns, tms, pic, ⟨⟨hm, hsp, hmk, hrow, hdp1, hdep, hud, huh, by omega⟩, hv, hd, hs⟩, hP, hD, hS⟩
set_option maxHeartbeats 4000000 in
set_option maxRecDepth 100000 in
theorem law_loop {p : Program} {e : Env} {s : State} {m : MethodId} {below : List Frame} {meth : Method} {c : Code} (l : Launch) {b L : Nat} {xs : Nat → Int32} (hL : L ≤ 3073) (C0 : lw_At p s m meth c b L xs) {dC : Nat → ClassId} {dI : Nat → Nat → Nat} {q r : Nat → Nat} {cI cL : ClassId} (hK : va_K (dC, dI) vwCl [(cI, .int), (cL, .long)] s) : ∀ (n t : Nat) (H : Heap) (locs : List Loc) (ls : Array Slot), L + 7 - (1 + 6 * t) < n → 1 + 6 * t ≤ L + 6 → li_St dC dI s q r cI cL t H locs → lv_has ls 4 [(3, .int (nI (1 + 6 * t))), (0, .ref b), (1, .ref (q 0)), (2, .ref (r 0))] → W p l e room_1 s m #[Value.ref b] below meth c H locs 30 95869 (lw_Z below #[Value.ref b] s) (F0 m 28 ls []) := by
  have C1 := C0
  obtain ⟨hx, hb, hr, hml, hown, hts, hX, hbl, hlocks, hgv⟩ := C0
  have hT : ∀ w ∈ ob_T, w.before #[Value.ref b] s = true := fun w h => hts w (ob_T_in w h)
  have hN : ∀ w ∈ ob_N, va_Nw w s := fun w h => va_Nw.of (ob_onT (List.all_eq_true.mp ob_N_nest w h)) (hts w (ob_N_in w h))
  have hbA : ¬ (fun q : Nat => s.heap.size ≤ q) b := Nat.not_le.mpr hbl
  intro n
  induction n with
  | zero => intro t H locs ls h; exact absurd h (Nat.not_lt_zero _)
  | succ n ih =>
    intro t H locs ls hn hti hSt hl
    have hS : va_S (fun q : Nat => s.heap.size ≤ q) s.heap H locs := by obtain ⟨_, _, _, _, _, _, _, _, _, _, _, _, _, _, _, _, _, _, _, _, _, _, _, _, _, _, _, _, h1, h2, h3, h4⟩ := hSt; exact h4
    refine lv_iload_n hx hb d_L_law_28 rfl (lv_at hl 0 rfl) ?_
    refine lv_aload_n hx hb d_L_law_29 rfl (lv_at hl 1 rfl) ?_
    refine va_slen hx hb hX hbl hbA hS d_L_law_30 ?_
    refine ob_eqi (y := nI L) rfl ?_
    refine lv_bipush (v := nI 6) hx hb d_L_law_31 (by decide) ?_
    refine lv_isub hx hb d_L_law_33 ?_
    refine lv_icmp_gt (tgt := 608) hx hb d_L_law_34 (by decide) (fun c_34 => ?_) (fun c_34 => ?_)
    · refine lv_iconst (v := 1) hx hb d_L_law_608 (by decide) ?_
      refine va_forget (fun q hq => hS.2.2 q hq) ?_
      refine W.widen (k := 600000) (n := 7302250) (Nat.le_of_ble_eq_true rfl) (Nat.le_of_ble_eq_true rfl) ?_
      exact lw_ret hx hb hr hlocks d_L_law_609
    · have t_34 := mt (cv_lt (pk_sub_toInt (by omega) (by omega)) (nI_toInt (by omega))).mpr c_34
      have hi : 1 + 6 * t + 6 ≤ L := by omega
      have hk : ∀ (H : Heap) (locs : List Loc), li_St dC dI s q r cI cL (t + 1) H locs → W p l e room_1 s m #[Value.ref b] below meth c H locs 30 95869 (lw_Z below #[Value.ref b] s) (F0 m 602 ls []) := by
        intro H locs h
        refine lv_iinc (v := nI (1 + 6 * (t + 1))) (lv' := [(3, .int (nI (1 + 6 * (t + 1)))), (0, .ref b), (1, .ref (q 0)), (2, .ref (r 0))]) hx hb d_L_law_602 hl (k := 0) rfl (by rw [show 1 + 6 * (t + 1) = 1 + 6 * t + 6 by omega]; exact nI_add _ 6) (by decide) rfl (fun ls hl => ?_)
        refine lv_goto (tgt := 28) hx hb d_L_law_605 (by decide) ?_
        exact ih (t + 1) H locs ls (by omega) (by omega) h hl
      refine lv_aload_n hx hb d_L_law_37 rfl (lv_at hl 1 rfl) ?_
      refine lv_iload_n hx hb d_L_law_38 rfl (lv_at hl 0 rfl) ?_
      refine ob_sld hx hb hX hbl hbA hS (j := 1 + 6 * t) (nI_clamp (by omega)) (vp_in_nI (by omega) (by omega)) d_L_law_39 ?_
      refine lv_bipush (v := nI 15) hx hb d_L_law_40 (by decide) ?_
      refine lv_iand hx hb d_L_law_42 ?_
      generalize xs (1 + 6 * t) &&& nI 15 = v9
      by_cases s_0 : v9.toInt = 0
      · refine lv_tableIn (off := 73) (tgt := 116) hx hb d_L_law_43 (by omega) (by omega) (by rw [s_0]; rfl) (by decide) ?_
        exact law_c0 l hL C1 hK hi rfl hl hSt hk
      by_cases s_1 : v9.toInt = 1
      · refine lv_tableIn (off := 96) (tgt := 139) hx hb d_L_law_43 (by omega) (by omega) (by rw [s_1]; rfl) (by decide) ?_
        exact law_c1 l hL C1 hK hi rfl hl hSt hk
      by_cases s_2 : v9.toInt = 2
      · refine lv_tableIn (off := 199) (tgt := 242) hx hb d_L_law_43 (by omega) (by omega) (by rw [s_2]; rfl) (by decide) ?_
        exact law_c2 l hL C1 hK hi rfl hl hSt hk
      by_cases s_3 : v9.toInt = 3
      · refine lv_tableIn (off := 250) (tgt := 293) hx hb d_L_law_43 (by omega) (by omega) (by rw [s_3]; rfl) (by decide) ?_
        exact law_c3 l hL C1 hK hi rfl hl hSt hk
      by_cases s_4 : v9.toInt = 4
      · refine lv_tableIn (off := 261) (tgt := 304) hx hb d_L_law_43 (by omega) (by omega) (by rw [s_4]; rfl) (by decide) ?_
        exact law_c4 l hL C1 hK hi rfl hl hSt hk
      by_cases s_5 : v9.toInt = 5
      · refine lv_tableIn (off := 275) (tgt := 318) hx hb d_L_law_43 (by omega) (by omega) (by rw [s_5]; rfl) (by decide) ?_
        exact law_c5 l hL C1 hK hi rfl hl hSt hk
      by_cases s_6 : v9.toInt = 6
      · refine lv_tableIn (off := 288) (tgt := 331) hx hb d_L_law_43 (by omega) (by omega) (by rw [s_6]; rfl) (by decide) ?_
        exact law_c6 l hL C1 hK hi rfl hl hSt hk
      by_cases s_7 : v9.toInt = 7
      · refine lv_tableIn (off := 311) (tgt := 354) hx hb d_L_law_43 (by omega) (by omega) (by rw [s_7]; rfl) (by decide) ?_
        exact law_c7 l hL C1 hK hi rfl hl hSt hk
      by_cases s_8 : v9.toInt = 8
      · refine lv_tableIn (off := 344) (tgt := 387) hx hb d_L_law_43 (by omega) (by omega) (by rw [s_8]; rfl) (by decide) ?_
        exact law_c8 l hL C1 hK hi rfl hl hSt hk
      by_cases s_9 : v9.toInt = 9
      · refine lv_tableIn (off := 368) (tgt := 411) hx hb d_L_law_43 (by omega) (by omega) (by rw [s_9]; rfl) (by decide) ?_
        exact law_c9 l hL C1 hK hi rfl hl hSt hk
      by_cases s_10 : v9.toInt = 10
      · refine lv_tableIn (off := 392) (tgt := 435) hx hb d_L_law_43 (by omega) (by omega) (by rw [s_10]; rfl) (by decide) ?_
        exact law_c10 l hL C1 hK hi rfl hl hSt hk
      by_cases s_11 : v9.toInt = 11
      · refine lv_tableIn (off := 416) (tgt := 459) hx hb d_L_law_43 (by omega) (by omega) (by rw [s_11]; rfl) (by decide) ?_
        exact law_c11 l hL C1 hK hi rfl hl hSt hk
      by_cases s_12 : v9.toInt = 12
      · refine lv_tableIn (off := 439) (tgt := 482) hx hb d_L_law_43 (by omega) (by omega) (by rw [s_12]; rfl) (by decide) ?_
        exact law_c12 l hL C1 hK hi rfl hl hSt hk
      by_cases s_13 : v9.toInt = 13
      · refine lv_tableIn (off := 472) (tgt := 515) hx hb d_L_law_43 (by omega) (by omega) (by rw [s_13]; rfl) (by decide) ?_
        exact law_c13 l hL C1 hK hi rfl hl hSt hk
      by_cases s_14 : v9.toInt = 14
      · refine lv_tableIn (off := 535) (tgt := 578) hx hb d_L_law_43 (by omega) (by omega) (by rw [s_14]; rfl) (by decide) ?_
        exact law_c14 l hL C1 hK hi rfl hl hSt hk
      refine lv_tableOut (tgt := 602) hx hb d_L_law_43 (by omega) (by decide) ?_
      exact hk H locs (li_St_up hSt)
