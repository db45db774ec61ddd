set_option maxHeartbeats 4000000 in
set_option maxRecDepth 100000 in
theorem whole_start {p : Program} {e : Env} {s : State} {m : MethodId} {below : List Frame} {meth : Method} {c : Code} (l : Launch) {b L : Nat} {xs : Nat → Int32} (hL : L ≤ 3073) (C0 : lw_At p s m meth c b L xs) : W p l e room_1 s m #[Value.ref b] below meth c s.heap [] 0 0 (lw_Z below #[Value.ref b] s) (entryFrame m ([Value.ref b] : List Value).toArray 4) := by
  have C1 := C0
  obtain ⟨hx, hb, hr, hml, hown, hts, hX, hbl, hlocks, hgv⟩ := C0
  have hT : ∀ w ∈ ob_T, w.before #[Value.ref b] s = true := fun w h => hts w (ob_T_in w h)
  have hN : ∀ w ∈ ob_N, va_Nw w s := fun w h => va_Nw.of (ob_onT (List.all_eq_true.mp ob_N_nest w h)) (hts w (ob_N_in w h))
  have hbA : ¬ (fun q : Nat => s.heap.size ≤ q) b := Nat.not_le.mpr hbl
  have hA : ∀ q : Nat, s.heap.size ≤ q → (fun q : Nat => s.heap.size ≤ q) q := fun _ h => h
  obtain ⟨c0, iS0, hKn0⟩ := u_known (C := R_B) (T := T_B) (N := 7) (n := 7) hT in_B (hT _ k_91)
  obtain ⟨c1, iS1, hKn1⟩ := u_known (C := R_D) (T := T_D) (N := 7) (n := 7) hT in_D (hT _ k_56)
  obtain ⟨c2, iS2, hKn2⟩ := u_known (C := R_O) (T := T_O) (N := 6) (n := 6) hT in_O (hT _ k_24)
  obtain ⟨c3, iS3, hKn3⟩ := u_known (C := R_K) (T := T_K) (N := 6) (n := 6) hT in_K (hT _ k_16)
  obtain ⟨c4, iS4, hKn4⟩ := u_known (C := R_M) (T := T_M) (N := 24) (n := 24) hT in_M (hT _ k_320)
  obtain ⟨dC, dI, hKc⟩ : ∃ (dC : Nat → ClassId) (dI : Nat → Nat → Nat), ∀ (k : Nat) (q : vw_C), vwCl[k]? = some q → u_Kn s q.1 q.2.1 q.2.2 (dC k) (dI k) := by
    refine ⟨fun k => if k = 0 then c0 else if k = 1 then c1 else if k = 2 then c2 else if k = 3 then c3 else c4, fun k => if k = 0 then iS0 else if k = 1 then iS1 else if k = 2 then iS2 else if k = 3 then iS3 else iS4, ?_⟩
    intro k q hq
    match k, hq with
    | 0, hq => cases hq; exact hKn0
    | 1, hq => cases hq; exact hKn1
    | 2, hq => cases hq; exact hKn2
    | 3, hq => cases hq; exact hKn3
    | 4, hq => cases hq; exact hKn4
    | k + 5, hq => simp [vwCl] at hq
  have hS : va_S (fun q : Nat => s.heap.size ≤ q) s.heap s.heap [] := va_S.rf
  have hK : va_K (dC, dI) vwCl [] s := ⟨hKc, fun k q h => by simp at h⟩
  have hP : va_P (dC, dI) vwCl [] s.heap := fun k q h => by simp at h
  have hD : va_D (fun q : Nat => s.heap.size ≤ q) [] := ⟨fun i j p q h => by simp at h, fun k q h => by simp at h⟩
  have hl := lv_entry ([.ref b]) (n := 4) (Nat.le_of_ble_eq_true rfl)
  rw [lg_entry_eq]
  generalize (lg_sl ([.ref b]) ++ List.replicate (4 - (lg_sl ([.ref b])).length) Slot.unset).toArray = ls at hl ⊢
  have hl : lv_has ls 4 [(0, .ref b)] := hl
  refine va_new (ci := 3) (fs := [.null, .null, .null, .long 0, .long 0, .int 0]) (C := R_K) (T := T_K) (N := 6) hx hb hT in_K t_K t_K_ok hown (hT _ k_15) (hT _ k_16) (hT _ k_9) hK hP hD hS hA rfl (fun j hj => by rcases (show j = 0 ∨ j = 1 ∨ j = 2 ∨ j = 3 ∨ j = 4 ∨ j = 5 by omega) with rfl | rfl | rfl | rfl | rfl | rfl <;> rfl) (Nat.le_of_ble_eq_true rfl) (Nat.le_of_ble_eq_true rfl) d_L_law_0 (fun n0 H hP hD hS => ?_)
  refine lv_dup hx hb d_L_law_3 rfl ?_
  refine lv_aload_n hx hb d_L_law_4 rfl (lv_at hl 0 rfl) ?_
  refine lv_iconst (v := nI 0) hx hb d_L_law_5 (by decide) ?_
  refine ob_callR (W.runS (As := [.ref b, .int (nI 0)]) (rest := [.ref n0, .ref n0]) ⟨hx, hb, hml, hown, hT⟩ (c_L_cell l b L xs hL) (cwS 2 hT (ob_goodS k_316 k_317 k_8 k_318) rfl rfl rfl (by decide +kernel) ⟨Nat.le_of_ble_eq_true rfl, Nat.le_of_ble_eq_true rfl⟩) (ob_preC hX hbl hS.1 (hS.2.1 b hbl hbA)) rfl rfl hl.1 rfl (lv_room (Nat.le_of_ble_eq_true rfl)) d_L_law_6 ⟨Nat.le_of_ble_eq_true rfl, Nat.le_of_ble_eq_true rfl⟩) ?_
  have hP : va_P (dC, dI) vwCl (([] : va_W) ++ [(n0, .inr (3, [.null, .null, .null, .long 0, .long 0, .int 0]))]) H := hP
  have hD : va_D (fun q : Nat => s.heap.size ≤ q) (([] : va_W) ++ [(n0, .inr (3, [.null, .null, .null, .long 0, .long 0, .int 0]))]) := hD
  have hFc := ob_free3 hD hS hA
  refine va_callv (va_runI (As := [.int (if 0 < L then xs 0 else nI 0)]) (rest := [.ref n0]) ⟨hx, hb, hml, hown, hT⟩ (c_K_init l dC dI n0 H.size (if 0 < L then xs 0 else nI 0)) (cwI 1 hT (ob_good k_19) rfl rfl rfl (hT _ k_9) (hT _ k_17) (hT _ k_18) rfl (by decide +kernel) ⟨Nat.le_of_ble_eq_true rfl, Nat.le_of_ble_eq_true rfl⟩) (ob_preIN2 hK (ob_P2 hP) (ob_D2 hD) hN) rfl rfl hl.1 rfl (lv_room (Nat.le_of_ble_eq_true rfl)) d_L_law_9 ⟨Nat.le_of_ble_eq_true rfl, Nat.le_of_ble_eq_true rfl⟩) hS (fun q _ h => hFc q h) hFc (fun u t H1 locs ht hvm hw hB hz1 hk1 hS => ?_)
  obtain ⟨q, cI, cL⟩ := u
  obtain ⟨hP1, hK1, hD1, hq1⟩ := hB
  rw [ht] at hP1
  have hK1 := va_K.moved hvm.symm hK1
  dsimp only at hP1 hK1 hD1 hq1
  obtain ⟨hPn, hDn⟩ := ob_join2 hP hD hk1 hFc hP1 hD1
  have hKn := hK.app hK1
  generalize H1 = H at hPn hS ⊢
  subst hq1
  have hP : va_P (dC, dI) vwCl (wK q cI cL 0 0 0 (fun _ => 0) (fun _ => 0) (fun _ => 0) (fun _ => 0) (fun _ => 0) 0 (fun _ => 0) (fun _ => 0) (fun _ => 0) (fun _ => 0) 0 0 0 (f_dep (if 0 < L then xs 0 else nI 0)) (fun _ => 0) (fun _ => 0) (fun _ => 0) 0 0 0) H := hPn
  have hD : va_D (fun q : Nat => s.heap.size ≤ q) (wK q cI cL 0 0 0 (fun _ => 0) (fun _ => 0) (fun _ => 0) (fun _ => 0) (fun _ => 0) 0 (fun _ => 0) (fun _ => 0) (fun _ => 0) (fun _ => 0) 0 0 0 (f_dep (if 0 < L then xs 0 else nI 0)) (fun _ => 0) (fun _ => 0) (fun _ => 0) 0 0 0) := hDn
  have hK : va_K (dC, dI) vwCl [(cI, .int), (cL, .long)] s := hKn
  refine lv_astore_n (lv' := [(1, .ref (q 0)), (0, .ref b)]) hx hb d_L_law_12 rfl hl (by decide) rfl (fun ls hl => ?_)
  refine va_new (ci := 4) (fs := [.int 0, .int 0, .int 0, .null, .null, .null, .null, .null, .int 0, .int 0, .long 0, .long 0, .int 0, .null, .null, .null, .int 0, .null, .int 0, .null, .null, .null, .long 0, .null]) (C := R_M) (T := T_M) (N := 24) hx hb hT in_M t_M t_M_ok hown (hT _ k_319) (hT _ k_320) (hT _ k_14) hK hP hD hS hA rfl (fun j hj => by rcases (show j = 0 ∨ j = 1 ∨ j = 2 ∨ j = 3 ∨ j = 4 ∨ j = 5 ∨ j = 6 ∨ j = 7 ∨ j = 8 ∨ j = 9 ∨ j = 10 ∨ j = 11 ∨ j = 12 ∨ j = 13 ∨ j = 14 ∨ j = 15 ∨ j = 16 ∨ j = 17 ∨ j = 18 ∨ j = 19 ∨ j = 20 ∨ j = 21 ∨ j = 22 ∨ j = 23 by omega) with rfl | rfl | rfl | rfl | rfl | rfl | rfl | rfl | rfl | rfl | rfl | rfl | rfl | rfl | rfl | rfl | rfl | rfl | rfl | rfl | rfl | rfl | rfl | rfl <;> rfl) (Nat.le_of_ble_eq_true rfl) (Nat.le_of_ble_eq_true rfl) d_L_law_13 (fun n13 H hP hD hS => ?_)
  refine lv_dup hx hb d_L_law_16 rfl ?_
  refine lv_aload_n hx hb d_L_law_17 rfl (lv_at hl 1 rfl) ?_
  refine lv_iconst (v := nI 0) hx hb d_L_law_18 (by decide) ?_
  refine ob_callR (W.runS (As := [.ref b, .int (nI 0)]) (rest := [.ref n13, .ref n13]) ⟨hx, hb, hml, hown, hT⟩ (c_L_cell l b L xs hL) (cwS 2 hT (ob_goodS k_316 k_317 k_8 k_318) rfl rfl rfl (by decide +kernel) ⟨Nat.le_of_ble_eq_true rfl, Nat.le_of_ble_eq_true rfl⟩) (ob_preC hX hbl hS.1 (hS.2.1 b hbl hbA)) rfl rfl hl.1 rfl (lv_room (Nat.le_of_ble_eq_true rfl)) d_L_law_19 ⟨Nat.le_of_ble_eq_true rfl, Nat.le_of_ble_eq_true rfl⟩) ?_
  have hP : va_P (dC, dI) vwCl ((wK q cI cL 0 0 0 (fun _ => 0) (fun _ => 0) (fun _ => 0) (fun _ => 0) (fun _ => 0) 0 (fun _ => 0) (fun _ => 0) (fun _ => 0) (fun _ => 0) 0 0 0 (f_dep (if 0 < L then xs 0 else nI 0)) (fun _ => 0) (fun _ => 0) (fun _ => 0) 0 0 0) ++ [(n13, .inr (4, [.int 0, .int 0, .int 0, .null, .null, .null, .null, .null, .int 0, .int 0, .long 0, .long 0, .int 0, .null, .null, .null, .int 0, .null, .int 0, .null, .null, .null, .long 0, .null]))]) H := hP
  have hD : va_D (fun q : Nat => s.heap.size ≤ q) ((wK q cI cL 0 0 0 (fun _ => 0) (fun _ => 0) (fun _ => 0) (fun _ => 0) (fun _ => 0) 0 (fun _ => 0) (fun _ => 0) (fun _ => 0) (fun _ => 0) 0 0 0 (f_dep (if 0 < L then xs 0 else nI 0)) (fun _ => 0) (fun _ => 0) (fun _ => 0) 0 0 0) ++ [(n13, .inr (4, [.int 0, .int 0, .int 0, .null, .null, .null, .null, .null, .int 0, .int 0, .long 0, .long 0, .int 0, .null, .null, .null, .int 0, .null, .int 0, .null, .null, .null, .long 0, .null]))]) := hD
  have hFc := ob_free3 hD hS hA
  refine va_callv (va_runI (As := [.int (if 0 < L then xs 0 else nI 0)]) (rest := [.ref n13]) ⟨hx, hb, hml, hown, hT⟩ (c_M_init l dC dI n13 H.size (if 0 < L then xs 0 else nI 0)) (cwI 1 hT (ob_good k_323) rfl rfl rfl (hT _ k_14) (hT _ k_321) (hT _ k_322) rfl (by decide +kernel) ⟨Nat.le_of_ble_eq_true rfl, Nat.le_of_ble_eq_true rfl⟩) (ob_preI2 hK (ob_P2 hP) (ob_D2 hD)) rfl rfl hl.1 rfl (lv_room (Nat.le_of_ble_eq_true rfl)) d_L_law_22 ⟨Nat.le_of_ble_eq_true rfl, Nat.le_of_ble_eq_true rfl⟩) hS (fun q _ h => hFc q h) hFc (fun u t H1 locs ht hvm hw hB hz1 hk1 hS => ?_)
  obtain ⟨r, cI2, cL2⟩ := u
  obtain ⟨hP1, hK1, hD1, hq1⟩ := hB
  rw [ht] at hP1
  have hK1 := va_K.moved hvm.symm hK1
  dsimp only at hP1 hK1 hD1 hq1
  obtain ⟨hPn, hDn⟩ := ob_join2 hP hD hk1 hFc hP1 hD1
  have hKn := hK.app hK1
  generalize H1 = H at hPn hS ⊢
  subst hq1
  have hP : va_P (dC, dI) vwCl (wK q cI cL 0 0 0 (fun _ => 0) (fun _ => 0) (fun _ => 0) (fun _ => 0) (fun _ => 0) 0 (fun _ => 0) (fun _ => 0) (fun _ => 0) (fun _ => 0) 0 0 0 (f_dep (if 0 < L then xs 0 else nI 0)) (fun _ => 0) (fun _ => 0) (fun _ => 0) 0 0 0 ++ wM r cI2 cL2 (fun _ => 0) (fun _ => 0) (fun _ => 0) (fun _ => 0) (fun _ => 0) 0 (fun _ => 0) (fun _ => 0) (fun _ => 0) (fun _ => 0) 0 0 0 (f_dep (if 0 < L then xs 0 else nI 0)) 0 0 0 0 0 (fun _ => 0) (fun _ => 0) (fun _ => 0) (fun _ => 0)) H := hPn
  have hD : va_D (fun q : Nat => s.heap.size ≤ q) (wK q cI cL 0 0 0 (fun _ => 0) (fun _ => 0) (fun _ => 0) (fun _ => 0) (fun _ => 0) 0 (fun _ => 0) (fun _ => 0) (fun _ => 0) (fun _ => 0) 0 0 0 (f_dep (if 0 < L then xs 0 else nI 0)) (fun _ => 0) (fun _ => 0) (fun _ => 0) 0 0 0 ++ wM r cI2 cL2 (fun _ => 0) (fun _ => 0) (fun _ => 0) (fun _ => 0) (fun _ => 0) 0 (fun _ => 0) (fun _ => 0) (fun _ => 0) (fun _ => 0) 0 0 0 (f_dep (if 0 < L then xs 0 else nI 0)) 0 0 0 0 0 (fun _ => 0) (fun _ => 0) (fun _ => 0) (fun _ => 0)) := hDn
  have hK : va_K (dC, dI) vwCl [(cI, .int), (cL, .long), (cI2, .int), (cL2, .long)] s := hKn
  obtain rfl := ob_sameI hK 0 2 rfl rfl
  obtain rfl := ob_sameL hK 1 3 rfl rfl
  refine lv_astore_n (lv' := [(2, .ref (r 0)), (1, .ref (q 0)), (0, .ref b)]) hx hb d_L_law_25 rfl hl (by decide) rfl (fun ls hl => ?_)
  refine lv_iconst (v := nI 1) hx hb d_L_law_26 (by decide) ?_
  refine lv_istore_n (lv' := [(3, .int (nI 1)), (2, .ref (r 0)), (1, .ref (q 0)), (0, .ref b)]) hx hb d_L_law_27 rfl hl (by decide) rfl (fun ls hl => ?_)
  refine W.widen (k := 30) (n := 95869) (Nat.le_of_ble_eq_true rfl) (Nat.le_of_ble_eq_true rfl) ?_
  refine law_loop l hL C1 (hK.sub [0, 1] rfl) (L + 7) 0 _ _ ls (by omega) (by omega) ⟨_, _, _, _, _, _, _, _, _, _, _, _, _, _, _, _, _, _, _, _, _, _, _, _, _, _, _, _, (by exact ⟨⟨by omega, by omega, by omega, by omega, f_dep_in.1, f_dep_in.2, by omega, by omega, by omega⟩, fun _ => Or.inr (show 0 ≤ ((0 : Int32)).toInt by decide), li_D_0, li_S_new (fes := fun _ => 0) (mns := fun _ => 0)⟩), hP, hD, hS⟩ (lv_sub hl [0, 3, 2, 1] rfl)
