def ob_IN (D : va_G) (w : va_W) (sz : Nat) (U : State) : Prop := ob_I D w sz U ∧ ∀ w ∈ ob_N, va_Nw w U
abbrev rm_K_init : Room := { frames := 2, cells := 15, slots := 10519, locals := 33 }
set_option maxHeartbeats 4000000 in
set_option maxRecDepth 100000 in
theorem c_K_init (l : Launch) (dC : Nat → ClassId) (dI : Nat → Nat → Nat) (h0 sz : Nat) (x : Int32) : Met l y_K_init w_K_init rm_K_init (va_Pc [.ref h0, .int x] (ob_IN (dC, dI) [(h0, .inr (3, [.null, .null, .null, .long 0, .long 0, .int 0]))] sz)) (va_Qv (fun _ : (Nat → Nat) × ClassId × ClassId => True) (ob_E (dC, dI) (va_A [(h0, .inr (3, [.null, .null, .null, .long 0, .long 0, .int 0]))] sz) (fun q cI cL => wK q cI cL 0 0 0 (fun _ => 0) (fun _ => 0) (fun _ => 0) (fun _ => 0) (fun _ => 0) 0 (fun _ => 0) (fun _ => 0) (fun _ => 0) (fun _ => 0) 0 0 0 (f_dep x) (fun _ => 0) (fun _ => 0) (fun _ => 0) 0 0 0) 0 h0) (va_A [(h0, .inr (3, [.null, .null, .null, .long 0, .long 0, .int 0]))] sz)) 15 10519 (va_A [(h0, .inr (3, [.null, .null, .null, .long 0, .long 0, .int 0]))] sz) := by
  refine ob_ofI (cc := b_K_init) (maxL := 2) (ret := none) (own := R_K) (by decide) rfl rfl (Nat.le_of_ble_eq_true rfl) ?_
  intro p e s m args below meth c Q hQ hx hb hr hml hT hown hlocks hin hv ls hl
  obtain ⟨⟨hsz, hP, hK, hD0⟩, hN⟩ := hv
  subst hsz
  have hD := hD0.self (sz := s.heap.size)
  generalize hAe : va_A [(h0, .inr (3, [.null, .null, .null, .long 0, .long 0, .int 0]))] s.heap.size = A at hD hQ
  have hA : ∀ q : Nat, s.heap.size ≤ q → A q := fun q h => by rw [← hAe]; exact Or.inr h
  have hS : va_S A s.heap s.heap [] := va_S.rf
  have hl : lv_has ls 2 [(0, .ref h0), (1, .int x)] := hl
  refine lv_aload_n hx hb d_K_init_0 rfl (lv_at hl 0 rfl) ?_
  refine W.objInit hx hb hown (hT _ k_20) (hT _ k_21) (hT _ k_22) rfl (by rw [hml]; exact hl.1) rfl d_K_init_1 (Nat.le_of_ble_eq_true rfl) (Nat.le_of_ble_eq_true rfl) ?_
  refine W.eq (g2 := F0 m 4 ls []) rfl ?_
  refine lv_aload_n hx hb d_K_init_4 rfl (lv_at hl 0 rfl) ?_
  refine va_new (ci := 2) (fs := [.null, .null, .null, .null, .null, .int 0]) (C := R_O) (T := T_O) (N := 6) hx hb hT in_O t_O t_O_ok hown (hT _ k_23) (hT _ k_24) (hT _ k_10) hK hP hD hS hA rfl (fun j hj => by rcases (show j = 0 ∨ j = 1 ∨ j = 2 ∨ j = 3 ∨ j = 4 ∨ j = 5 by omega) with rfl | rfl | rfl | rfl | rfl | rfl <;> rfl) (Nat.le_of_ble_eq_true rfl) (Nat.le_of_ble_eq_true rfl) d_K_init_5 (fun n5 H hP hD hS => ?_)
  have hP : va_P (dC, dI) vwCl (([(h0, .inr (3, [.null, .null, .null, .long 0, .long 0, .int 0]))]) ++ [(n5, .inr (2, [.null, .null, .null, .null, .null, .int 0]))]) H := hP
  have hD : va_D A (([(h0, .inr (3, [.null, .null, .null, .long 0, .long 0, .int 0]))]) ++ [(n5, .inr (2, [.null, .null, .null, .null, .null, .int 0]))]) := hD
  refine lv_dup hx hb d_K_init_8 rfl ?_
  have hFc := va_free (wc := [(n5, .inr (2, [.null, .null, .null, .null, .null, .int 0]))]) hD hS hA [1] rfl
  refine va_callv (va_runIN (As := []) (rest := [.ref n5, .ref h0]) ⟨hx, hb, hml, hown, hT⟩ (c_O_init l dC dI n5 H.size) ⟨va_cnB 0 hT (ob_good k_27) rfl rfl rfl (hN _ (List.mem_of_getElem? (i := 0) rfl)) (hT _ k_10) (by decide +kernel) ⟨Nat.le_of_ble_eq_true rfl, Nat.le_of_ble_eq_true rfl⟩, rfl, hT _ k_26⟩ (ob_preI (w := [(n5, .inr (2, [.null, .null, .null, .null, .null, .int 0]))]) hK hP hD [1] rfl (by decide) rfl) rfl rfl hl.1 rfl (lv_room (Nat.le_of_ble_eq_true rfl)) d_K_init_9 ⟨Nat.le_of_ble_eq_true rfl, Nat.le_of_ble_eq_true rfl⟩) hS (fun q _ h => hFc q h) hFc (fun u t H1 locs ht hvm hw hB hz1 hk1 hS => ?_)
  obtain ⟨q1, cI1, cL1⟩ := u
  obtain ⟨hP1, hK1, hD1, hq1⟩ := hB
  rw [ht] at hP1
  have hK1 := va_K.moved hvm.symm hK1
  dsimp only at hP1 hK1 hD1 hq1
  obtain ⟨hPn, hDn⟩ := va_join (wr := [(h0, .inr (3, [.null, .null, .null, .long 0, .long 0, .int 0]))]) (w1 := wO q1 cI1 cL1 (fun _ => 0) (fun _ => 0) (fun _ => 0) (fun _ => 0) (fun _ => 0) 0) hP hD [1] [0] rfl rfl (by decide) (by decide) hk1 hFc hP1 hD1
  have hKn := hK.app hK1
  generalize H1 = H at hPn hS ⊢
  subst hq1
  have hP : va_P (dC, dI) vwCl ([(h0, .inr (3, [.null, .null, .null, .long 0, .long 0, .int 0]))] ++ wO q1 cI1 cL1 (fun _ => 0) (fun _ => 0) (fun _ => 0) (fun _ => 0) (fun _ => 0) 0) H := hPn
  have hD : va_D A ([(h0, .inr (3, [.null, .null, .null, .long 0, .long 0, .int 0]))] ++ wO q1 cI1 cL1 (fun _ => 0) (fun _ => 0) (fun _ => 0) (fun _ => 0) (fun _ => 0) 0) := hDn
  have hK : va_K (dC, dI) vwCl [(cI1, .int), (cL1, .long)] s := hKn
  refine va_putF (D := (dC, dI)) (ci := 3) (v := .ref (q1 1)) (ty := .object "OutputBook$Outputs") (C := R_K) (T := T_K) (N := 6) hx hb hT in_K t_K t_K_ok n_K hown hK hP hD hS 0 rfl rfl 0 (by decide) (hT _ k_126) (fun _ h9 => h9) rfl hin rfl (by decide +kernel) rfl rfl (Nat.le_of_ble_eq_true rfl) d_K_init_12 (fun H locs hP hD hS => ?_)
  have hP : va_P (dC, dI) vwCl ([(h0, .inr (3, [.ref (q1 1), .null, .null, .long 0, .long 0, .int 0]))] ++ wO q1 cI1 cL1 (fun _ => 0) (fun _ => 0) (fun _ => 0) (fun _ => 0) (fun _ => 0) 0) H := hP
  have hD : va_D A ([(h0, .inr (3, [.ref (q1 1), .null, .null, .long 0, .long 0, .int 0]))] ++ wO q1 cI1 cL1 (fun _ => 0) (fun _ => 0) (fun _ => 0) (fun _ => 0) (fun _ => 0) 0) := hD
  refine lv_aload_n hx hb d_K_init_15 rfl (lv_at hl 0 rfl) ?_
  refine va_new (ci := 1) (fs := [.null, .null, .null, .null, .int 0, .int 0, .long 0]) (C := R_D) (T := T_D) (N := 7) hx hb hT in_D t_D t_D_ok hown (hT _ k_55) (hT _ k_56) (hT _ k_11) hK hP hD hS hA rfl (fun j hj => by rcases (show j = 0 ∨ j = 1 ∨ j = 2 ∨ j = 3 ∨ j = 4 ∨ j = 5 ∨ j = 6 by omega) with rfl | rfl | rfl | rfl | rfl | rfl | rfl <;> rfl) (Nat.le_of_ble_eq_true rfl) (Nat.le_of_ble_eq_true rfl) d_K_init_16 (fun n16 H hP hD hS => ?_)
  have hP : va_P (dC, dI) vwCl (([(h0, .inr (3, [.ref (q1 1), .null, .null, .long 0, .long 0, .int 0]))] ++ wO q1 cI1 cL1 (fun _ => 0) (fun _ => 0) (fun _ => 0) (fun _ => 0) (fun _ => 0) 0) ++ [(n16, .inr (1, [.null, .null, .null, .null, .int 0, .int 0, .long 0]))]) H := hP
  have hD : va_D A (([(h0, .inr (3, [.ref (q1 1), .null, .null, .long 0, .long 0, .int 0]))] ++ wO q1 cI1 cL1 (fun _ => 0) (fun _ => 0) (fun _ => 0) (fun _ => 0) (fun _ => 0) 0) ++ [(n16, .inr (1, [.null, .null, .null, .null, .int 0, .int 0, .long 0]))]) := hD
  refine lv_dup hx hb d_K_init_19 rfl ?_
  have hFc := va_free (wc := [(n16, .inr (1, [.null, .null, .null, .null, .int 0, .int 0, .long 0]))]) hD hS hA [7] rfl
  refine va_callv (va_runIN (As := []) (rest := [.ref n16, .ref h0]) ⟨hx, hb, hml, hown, hT⟩ (c_D_init l dC dI n16 H.size) ⟨va_cnB 0 hT (ob_good k_59) rfl rfl rfl (hN _ (List.mem_of_getElem? (i := 6) rfl)) (hT _ k_11) (by decide +kernel) ⟨Nat.le_of_ble_eq_true rfl, Nat.le_of_ble_eq_true rfl⟩, rfl, hT _ k_58⟩ (ob_preI (w := [(n16, .inr (1, [.null, .null, .null, .null, .int 0, .int 0, .long 0]))]) hK hP hD [7] rfl (by decide) rfl) rfl rfl hl.1 rfl (lv_room (Nat.le_of_ble_eq_true rfl)) d_K_init_20 ⟨Nat.le_of_ble_eq_true rfl, Nat.le_of_ble_eq_true rfl⟩) hS (fun q _ h => hFc q h) hFc (fun u t H1 locs ht hvm hw hB hz1 hk1 hS => ?_)
  obtain ⟨q2, cI2, cL2⟩ := u
  obtain ⟨hP1, hK1, hD1, hq1⟩ := hB
  rw [ht] at hP1
  have hK1 := va_K.moved hvm.symm hK1
  dsimp only at hP1 hK1 hD1 hq1
  obtain ⟨hPn, hDn⟩ := va_join (wr := [(h0, .inr (3, [.ref (q1 1), .null, .null, .long 0, .long 0, .int 0]))] ++ wO q1 cI1 cL1 (fun _ => 0) (fun _ => 0) (fun _ => 0) (fun _ => 0) (fun _ => 0) 0) (w1 := wD q2 cI2 cL2 (fun _ => 0) (fun _ => 0) (fun _ => 0) (fun _ => 0) 0 0 0) hP hD [7] [0, 1, 2, 3, 4, 5, 6] rfl rfl (by decide) (by decide) hk1 hFc hP1 hD1
  have hKn := hK.app hK1
  generalize H1 = H at hPn hS ⊢
  subst hq1
  have hP : va_P (dC, dI) vwCl (([(h0, .inr (3, [.ref (q1 1), .null, .null, .long 0, .long 0, .int 0]))] ++ wO q1 cI1 cL1 (fun _ => 0) (fun _ => 0) (fun _ => 0) (fun _ => 0) (fun _ => 0) 0) ++ wD q2 cI2 cL2 (fun _ => 0) (fun _ => 0) (fun _ => 0) (fun _ => 0) 0 0 0) H := hPn
  have hD : va_D A (([(h0, .inr (3, [.ref (q1 1), .null, .null, .long 0, .long 0, .int 0]))] ++ wO q1 cI1 cL1 (fun _ => 0) (fun _ => 0) (fun _ => 0) (fun _ => 0) (fun _ => 0) 0) ++ wD q2 cI2 cL2 (fun _ => 0) (fun _ => 0) (fun _ => 0) (fun _ => 0) 0 0 0) := hDn
  have hK : va_K (dC, dI) vwCl [(cI1, .int), (cL1, .long), (cI2, .int), (cL2, .long)] s := hKn
  refine va_putF (D := (dC, dI)) (ci := 3) (v := .ref (q2 7)) (ty := .object "OutputBook$Draft") (C := R_K) (T := T_K) (N := 6) hx hb hT in_K t_K t_K_ok n_K hown hK hP hD hS 0 rfl rfl 1 (by decide) (hT _ k_127) (fun _ h9 => h9) rfl hin rfl (by decide +kernel) rfl rfl (Nat.le_of_ble_eq_true rfl) d_K_init_23 (fun H locs hP hD hS => ?_)
  have hP : va_P (dC, dI) vwCl (([(h0, .inr (3, [.ref (q1 1), .ref (q2 7), .null, .long 0, .long 0, .int 0]))] ++ wO q1 cI1 cL1 (fun _ => 0) (fun _ => 0) (fun _ => 0) (fun _ => 0) (fun _ => 0) 0) ++ wD q2 cI2 cL2 (fun _ => 0) (fun _ => 0) (fun _ => 0) (fun _ => 0) 0 0 0) H := hP
  have hD : va_D A (([(h0, .inr (3, [.ref (q1 1), .ref (q2 7), .null, .long 0, .long 0, .int 0]))] ++ wO q1 cI1 cL1 (fun _ => 0) (fun _ => 0) (fun _ => 0) (fun _ => 0) (fun _ => 0) 0) ++ wD q2 cI2 cL2 (fun _ => 0) (fun _ => 0) (fun _ => 0) (fun _ => 0) 0 0 0) := hD
  refine lv_aload_n hx hb d_K_init_26 rfl (lv_at hl 0 rfl) ?_
  refine va_new (ci := 0) (fs := [.int 0, .null, .null, .null, .int 0, .int 0, .int 0]) (C := R_B) (T := T_B) (N := 7) hx hb hT in_B t_B t_B_ok hown (hT _ k_90) (hT _ k_91) (hT _ k_12) hK hP hD hS hA rfl (fun j hj => by rcases (show j = 0 ∨ j = 1 ∨ j = 2 ∨ j = 3 ∨ j = 4 ∨ j = 5 ∨ j = 6 by omega) with rfl | rfl | rfl | rfl | rfl | rfl | rfl <;> rfl) (Nat.le_of_ble_eq_true rfl) (Nat.le_of_ble_eq_true rfl) d_K_init_27 (fun n27 H hP hD hS => ?_)
  have hP : va_P (dC, dI) vwCl ((([(h0, .inr (3, [.ref (q1 1), .ref (q2 7), .null, .long 0, .long 0, .int 0]))] ++ wO q1 cI1 cL1 (fun _ => 0) (fun _ => 0) (fun _ => 0) (fun _ => 0) (fun _ => 0) 0) ++ wD q2 cI2 cL2 (fun _ => 0) (fun _ => 0) (fun _ => 0) (fun _ => 0) 0 0 0) ++ [(n27, .inr (0, [.int 0, .null, .null, .null, .int 0, .int 0, .int 0]))]) H := hP
  have hD : va_D A ((([(h0, .inr (3, [.ref (q1 1), .ref (q2 7), .null, .long 0, .long 0, .int 0]))] ++ wO q1 cI1 cL1 (fun _ => 0) (fun _ => 0) (fun _ => 0) (fun _ => 0) (fun _ => 0) 0) ++ wD q2 cI2 cL2 (fun _ => 0) (fun _ => 0) (fun _ => 0) (fun _ => 0) 0 0 0) ++ [(n27, .inr (0, [.int 0, .null, .null, .null, .int 0, .int 0, .int 0]))]) := hD
  refine lv_dup hx hb d_K_init_30 rfl ?_
  refine lv_iconst (v := nI 1) hx hb d_K_init_31 (by decide) ?_
  refine lv_bipush (v := nI 64) hx hb d_K_init_32 (by decide) ?_
  refine lv_iload_n hx hb d_K_init_34 rfl (lv_at hl 1 rfl) ?_
  refine va_mmin hx hb (by rw [hml]; exact hl.1.symm) hown (hT _ k_92) (hT _ k_93) (hT _ k_13) (hT _ k_94) (Nat.le_of_ble_eq_true rfl) (Nat.le_of_ble_eq_true rfl) (Nat.le_of_ble_eq_true rfl) (Nat.le_of_ble_eq_true rfl) d_K_init_35 ?_
  refine va_mmax hx hb (by rw [hml]; exact hl.1.symm) hown (hT _ k_95) (hT _ k_96) (hT _ k_13) (hT _ k_97) (Nat.le_of_ble_eq_true rfl) (Nat.le_of_ble_eq_true rfl) (Nat.le_of_ble_eq_true rfl) (Nat.le_of_ble_eq_true rfl) d_K_init_38 ?_
  refine ob_eqi (y := nI (f_dep x)) f_dep_max ?_
  have hFc := va_free (wc := [(n27, .inr (0, [.int 0, .null, .null, .null, .int 0, .int 0, .int 0]))]) hD hS hA [12] rfl
  refine va_callv (va_runI (As := [.int (nI (f_dep x))]) (rest := [.ref n27, .ref h0]) ⟨hx, hb, hml, hown, hT⟩ (c_B_init l dC dI n27 H.size (f_dep x) f_dep_in.2) (cwI 1 hT (ob_good k_100) rfl rfl rfl (hT _ k_12) (hT _ k_98) (hT _ k_99) rfl (by decide +kernel) ⟨Nat.le_of_ble_eq_true rfl, Nat.le_of_ble_eq_true rfl⟩) (ob_preI (w := [(n27, .inr (0, [.int 0, .null, .null, .null, .int 0, .int 0, .int 0]))]) hK hP hD [12] rfl (by decide) rfl) rfl rfl hl.1 rfl (lv_room (Nat.le_of_ble_eq_true rfl)) d_K_init_41 ⟨Nat.le_of_ble_eq_true rfl, Nat.le_of_ble_eq_true rfl⟩) hS (fun q _ h => hFc q h) hFc (fun u t H1 locs ht hvm hw hB hz1 hk1 hS => ?_)
  obtain ⟨q3, cI3, cL3⟩ := u
  obtain ⟨hP1, hK1, hD1, hq1⟩ := hB
  rw [ht] at hP1
  have hK1 := va_K.moved hvm.symm hK1
  dsimp only at hP1 hK1 hD1 hq1
  obtain ⟨hPn, hDn⟩ := va_join (wr := ([(h0, .inr (3, [.ref (q1 1), .ref (q2 7), .null, .long 0, .long 0, .int 0]))] ++ wO q1 cI1 cL1 (fun _ => 0) (fun _ => 0) (fun _ => 0) (fun _ => 0) (fun _ => 0) 0) ++ wD q2 cI2 cL2 (fun _ => 0) (fun _ => 0) (fun _ => 0) (fun _ => 0) 0 0 0) (w1 := wB q3 cI3 cL3 (f_dep x) (fun _ => 0) (fun _ => 0) (fun _ => 0) 0 0 0) hP hD [12] [0, 1, 2, 3, 4, 5, 6, 7, 8, 9, 10, 11] rfl rfl (by decide) (by decide) hk1 hFc hP1 hD1
  have hKn := hK.app hK1
  generalize H1 = H at hPn hS ⊢
  subst hq1
  have hP : va_P (dC, dI) vwCl ((([(h0, .inr (3, [.ref (q1 1), .ref (q2 7), .null, .long 0, .long 0, .int 0]))] ++ wO q1 cI1 cL1 (fun _ => 0) (fun _ => 0) (fun _ => 0) (fun _ => 0) (fun _ => 0) 0) ++ wD q2 cI2 cL2 (fun _ => 0) (fun _ => 0) (fun _ => 0) (fun _ => 0) 0 0 0) ++ wB q3 cI3 cL3 (f_dep x) (fun _ => 0) (fun _ => 0) (fun _ => 0) 0 0 0) H := hPn
  have hD : va_D A ((([(h0, .inr (3, [.ref (q1 1), .ref (q2 7), .null, .long 0, .long 0, .int 0]))] ++ wO q1 cI1 cL1 (fun _ => 0) (fun _ => 0) (fun _ => 0) (fun _ => 0) (fun _ => 0) 0) ++ wD q2 cI2 cL2 (fun _ => 0) (fun _ => 0) (fun _ => 0) (fun _ => 0) 0 0 0) ++ wB q3 cI3 cL3 (f_dep x) (fun _ => 0) (fun _ => 0) (fun _ => 0) 0 0 0) := hDn
  have hK : va_K (dC, dI) vwCl [(cI1, .int), (cL1, .long), (cI2, .int), (cL2, .long), (cI3, .int), (cL3, .long)] s := hKn
  refine va_putF (D := (dC, dI)) (ci := 3) (v := .ref (q3 12)) (ty := .object "OutputBook$Blocks") (C := R_K) (T := T_K) (N := 6) hx hb hT in_K t_K t_K_ok n_K hown hK hP hD hS 0 rfl rfl 2 (by decide) (hT _ k_128) (fun _ h9 => h9) rfl hin rfl (by decide +kernel) rfl rfl (Nat.le_of_ble_eq_true rfl) d_K_init_44 (fun H locs hP hD hS => ?_)
  have hP : va_P (dC, dI) vwCl ((([(h0, .inr (3, [.ref (q1 1), .ref (q2 7), .ref (q3 12), .long 0, .long 0, .int 0]))] ++ wO q1 cI1 cL1 (fun _ => 0) (fun _ => 0) (fun _ => 0) (fun _ => 0) (fun _ => 0) 0) ++ wD q2 cI2 cL2 (fun _ => 0) (fun _ => 0) (fun _ => 0) (fun _ => 0) 0 0 0) ++ wB q3 cI3 cL3 (f_dep x) (fun _ => 0) (fun _ => 0) (fun _ => 0) 0 0 0) H := hP
  have hD : va_D A ((([(h0, .inr (3, [.ref (q1 1), .ref (q2 7), .ref (q3 12), .long 0, .long 0, .int 0]))] ++ wO q1 cI1 cL1 (fun _ => 0) (fun _ => 0) (fun _ => 0) (fun _ => 0) (fun _ => 0) 0) ++ wD q2 cI2 cL2 (fun _ => 0) (fun _ => 0) (fun _ => 0) (fun _ => 0) 0 0 0) ++ wB q3 cI3 cL3 (f_dep x) (fun _ => 0) (fun _ => 0) (fun _ => 0) 0 0 0) := hD
  obtain rfl := ob_sameI hK 0 2 rfl rfl
  obtain rfl := ob_sameI hK 0 4 rfl rfl
  obtain rfl := ob_sameL hK 1 3 rfl rfl
  obtain rfl := ob_sameL hK 1 5 rfl rfl
  refine W.widen (k := 15) (n := 10519) (Nat.le_of_ble_eq_true rfl) (Nat.le_of_ble_eq_true rfl) ?_
  subst hQ
  exact W.vret hx hb hr (fun t ht hW => ⟨⟨((fun k => ([h0, q1 1, q1 2, q1 3, q1 4, q1 5, q1 6, q2 7, q2 8, q2 9, q2 10, q2 11, q3 12, q3 13, q3 14, q3 15] : List Nat).getD k 0), cI1, cL1), rfl, trivial, (by rw [ht]; exact hP.sub [0, 1, 2, 3, 4, 5, 6, 7, 8, 9, 10, 11, 12, 13, 14, 15] rfl), va_K.moved hW.alike (hK.sub [0, 1] rfl), hD.sub [0, 1, 2, 3, 4, 5, 6, 7, 8, 9, 10, 11, 12, 13, 14, 15] (by decide) rfl, rfl⟩, hS.F ht⟩) hS.2.2 d_K_init_47
