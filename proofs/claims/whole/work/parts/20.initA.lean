-- CONSTRUCTORS: rows
theorem ob_ofI {l : Launch} {y : MethodName} {own : String} {ws : List Cond} {rm : Room} {av : List Value} {B : State → Prop} {Qc : Array Value → State → Outcome → State → Prop} {mc ms : Nat} {free : Addr → Prop} {cc : ByteArray} {maxL : Nat} {ret : Option FieldType}
    (hy : plainName y.cls = true) (hw : ws = Cond.code y cc maxL ret :: ob_T) (ho : y.cls = own) (hle : (lg_sl av).length ≤ maxL)
    (body : ∀ (p : Program) (e : Env) (s : State) (m : MethodId) (args : Array Value) (below : List Frame) (meth : Method) (c : Code) (Q : State → Prop), Q = MQ below Qc args s mc ms free → p.tables.exec = Jvm.exec → c.code = cc → meth.sig.returnType = ret → c.maxLocals = maxL → (∀ w ∈ ob_T, w.before args s = true) → s.vm.findClass own = some m.cls → meth.locks = false → meth.name = y.name → B s →
      ∀ ls : Array Slot, lv_has ls maxL (lv_args 0 av) → W p l e rm s m args below meth c s.heap [] 0 0 Q (F0 m 0 ls [])) : Met l y ws rm (va_Pc av B) Qc mc ms free := by
  refine Met.ofW (cc := cc) (maxL := maxL) (ret := ret) hy hw ?_
  intro p e s m args below meth c s₁ BL hml hv
  have hts : ∀ w ∈ ws, w.before args s = true := atoms_spec (ws := ws) BL.pre
  have hown : s.vm.findClass y.cls = some m.cls := findClass_of_methodNamed BL.named
  have hnm : meth.name = y.name := (name_of_methodNamed BL.named BL.method).1
  obtain ⟨ha, hB⟩ := hv
  have h := body p e s m args below meth c _ rfl BL.exec BL.bytes BL.returns hml (fun w h => hts w (by rw [hw]; exact List.mem_cons_of_mem _ h)) (by rw [← ho]; exact hown) BL.notSynchronized hnm hB _ (lv_entry av hle)
  rw [← lg_entry_eq, ← ha] at h
  exact h
theorem ob_sameI {D : va_G} {cl : List vw_C} {tys : List (ClassId × FieldType)} {U : State} (hK : va_K D cl tys U) (i j : Nat) {c c' : ClassId} (hi : tys[i]? = some (c, .int)) (hj : tys[j]? = some (c', .int)) : c = c' := by
  have h1 : U.vm.findClass ("[" ++ (FieldType.int).toString) = some c := (hK.2 i _ hi).2
  have h2 : U.vm.findClass ("[" ++ (FieldType.int).toString) = some c' := (hK.2 j _ hj).2
  exact Option.some.inj (h1.symm.trans h2)
theorem ob_sameL {D : va_G} {cl : List vw_C} {tys : List (ClassId × FieldType)} {U : State} (hK : va_K D cl tys U) (i j : Nat) {c c' : ClassId} (hi : tys[i]? = some (c, .long)) (hj : tys[j]? = some (c', .long)) : c = c' := by
  have h1 : U.vm.findClass ("[" ++ (FieldType.long).toString) = some c := (hK.2 i _ hi).2
  have h2 : U.vm.findClass ("[" ++ (FieldType.long).toString) = some c' := (hK.2 j _ hj).2
  exact Option.some.inj (h1.symm.trans h2)
/-- a constructor's start: its object, fresh -/
def ob_I (D : va_G) (w : va_W) (sz : Nat) (U : State) : Prop := U.heap.size = sz ∧ va_P D vwCl w U.heap ∧ va_K D vwCl [] U ∧ va_D (fun _ => True) w
/-- a constructor's end: a world of a shape over new addresses -/
def ob_E (D : va_G) (A : Nat → Prop) (f : (Nat → Nat) → ClassId → ClassId → va_W) (k h0 : Nat) (u : (Nat → Nat) × ClassId × ClassId) (t : State) : Prop := va_P D vwCl (f u.1 u.2.1 u.2.2) t.heap ∧ va_K D vwCl [(u.2.1, .int), (u.2.2, .long)] t ∧ va_D A (f u.1 u.2.1 u.2.2) ∧ u.1 k = h0
theorem ob_preI {D : va_G} {w : va_W} {ws : va_W} {A : Nat → Prop} {tys : List (ClassId × FieldType)} {s : State} {H : Heap} {b : Nat} {As : List Value} (hK : va_K D vwCl tys s) (hP : va_P D vwCl ws H) (hD : va_D A ws) (is : List Nat) (hs : is.filterMap (fun i => ws[i]?) = w) (hi : va_nd is = true) (hm : is.map (fun i => ws[i]?) = w.map some) : PreS s H (va_Pc (.ref b :: As) (ob_I D w H.size)) (.ref b :: As) :=
  ⟨fun a U g mk q => ⟨q.1, q.2.1, q.2.2.1, va_K.moved (u := U) (U := U.calling g mk a) (Vm.Alike.refl U.vm) q.2.2.2.1, q.2.2.2.2⟩, fun U hU hW => ⟨rfl, by rw [hU], by rw [hU]; exact hP.sub is hs, va_K.moved hW.alike (hK.sub [] rfl), (hD.sub is hi hm).weaken (fun _ _ _ _ => trivial)⟩⟩

abbrev rm_O_init : Room := { frames := 1, cells := 5, slots := 10240, locals := 12 }
set_option maxHeartbeats 4000000 in
set_option maxRecDepth 100000 in
theorem c_O_init (l : Launch) (dC : Nat → ClassId) (dI : Nat → Nat → Nat) (h0 sz : Nat) : Met l y_O_init w_O_init rm_O_init (va_Pc [.ref h0] (ob_I (dC, dI) [(h0, .inr (2, [.null, .null, .null, .null, .null, .int 0]))] sz)) (va_Qv (fun _ : (Nat → Nat) × ClassId × ClassId => True) (ob_E (dC, dI) (va_A [(h0, .inr (2, [.null, .null, .null, .null, .null, .int 0]))] sz) (fun q cI cL => wO q cI cL (fun _ => 0) (fun _ => 0) (fun _ => 0) (fun _ => 0) (fun _ => 0) 0) 1 h0) (va_A [(h0, .inr (2, [.null, .null, .null, .null, .null, .int 0]))] sz)) 5 10240 (va_A [(h0, .inr (2, [.null, .null, .null, .null, .null, .int 0]))] sz) := by
  refine ob_ofI (cc := b_O_init) (maxL := 1) (ret := none) (own := R_O) (by decide) rfl rfl (Nat.le_of_ble_eq_true rfl) ?_
  intro p e s m args below meth c Q hQ hx hb hr hml hT hown hlocks hin hv ls hl
  obtain ⟨hsz, hP, hK, hD0⟩ := hv
  subst hsz
  have hD := hD0.self (sz := s.heap.size)
  generalize hAe : va_A [(h0, .inr (2, [.null, .null, .null, .null, .null, .int 0]))] s.heap.size = A at hD hQ
  have hA : ∀ q : Nat, s.heap.size ≤ q → A q := fun q h => by rw [← hAe]; exact Or.inr h
  have hS : va_S A s.heap s.heap [] := va_S.rf
  have hl : lv_has ls 1 [(0, .ref h0)] := hl
  refine lv_aload_n hx hb d_O_init_0 rfl (lv_at hl 0 rfl) ?_
  refine W.objInit hx hb hown (hT _ k_28) (hT _ k_21) (hT _ k_22) rfl (by rw [hml]; exact hl.1) rfl d_O_init_1 (Nat.le_of_ble_eq_true rfl) (Nat.le_of_ble_eq_true rfl) ?_
  refine W.eq (g2 := F0 m 4 ls []) rfl ?_
  refine lv_aload_n hx hb d_O_init_4 rfl (lv_at hl 0 rfl) ?_
  refine lv_sipush (v := nI 2048) hx hb d_O_init_5 (by decide) ?_
  refine va_newa (atype := .int) (N' := 2048) (a0 := (2048, .inl (fun _ => 0))) (ty := .int) (n := nI 2048) hx hb (hT _ k_53) rfl hK hP hD hS hA (fun _ => rfl) (nI_pos (by omega)) (nI_clamp (by omega)) (Nat.le_of_ble_eq_true rfl) (Nat.le_of_ble_eq_true rfl) (Nat.le_of_ble_eq_true rfl) d_O_init_8 (fun a1 z1 H hK hP hD hS => ?_)
  have hP : va_P (dC, dI) vwCl [(h0, .inr (2, [.null, .null, .null, .null, .null, .int 0])), (a1, .inl (z1, 2048, .inl (fun _ => 0)))] H := hP
  have hD : va_D A [(h0, .inr (2, [.null, .null, .null, .null, .null, .int 0])), (a1, .inl (z1, 2048, .inl (fun _ => 0)))] := hD
  have hK : va_K (dC, dI) vwCl [(z1, .int)] s := hK
  refine va_putF (D := (dC, dI)) (ci := 2) (v := .ref a1) (ty := .array .int) (C := R_O) (T := T_O) (N := 6) hx hb hT in_O t_O t_O_ok n_O hown hK hP hD hS 0 rfl rfl 0 (by decide) (hT _ k_29) (fun _ h9 => h9) rfl hin rfl (by decide +kernel) rfl rfl (Nat.le_of_ble_eq_true rfl) d_O_init_10 (fun H locs hP hD hS => ?_)
  have hP : va_P (dC, dI) vwCl [(h0, .inr (2, [.ref a1, .null, .null, .null, .null, .int 0])), (a1, .inl (z1, 2048, .inl (fun _ => 0)))] H := hP
  have hD : va_D A [(h0, .inr (2, [.ref a1, .null, .null, .null, .null, .int 0])), (a1, .inl (z1, 2048, .inl (fun _ => 0)))] := hD
  refine lv_aload_n hx hb d_O_init_13 rfl (lv_at hl 0 rfl) ?_
  refine lv_sipush (v := nI 2048) hx hb d_O_init_14 (by decide) ?_
  refine va_newa (atype := .long) (N' := 2048) (a0 := (2048, .inr (.inl (fun _ => 0)))) (ty := .long) (n := nI 2048) hx hb (hT _ k_54) rfl hK hP hD hS hA (fun _ => rfl) (nI_pos (by omega)) (nI_clamp (by omega)) (Nat.le_of_ble_eq_true rfl) (Nat.le_of_ble_eq_true rfl) (Nat.le_of_ble_eq_true rfl) d_O_init_17 (fun a2 z2 H hK hP hD hS => ?_)
  have hP : va_P (dC, dI) vwCl [(h0, .inr (2, [.ref a1, .null, .null, .null, .null, .int 0])), (a1, .inl (z1, 2048, .inl (fun _ => 0))), (a2, .inl (z2, 2048, .inr (.inl (fun _ => 0))))] H := hP
  have hD : va_D A [(h0, .inr (2, [.ref a1, .null, .null, .null, .null, .int 0])), (a1, .inl (z1, 2048, .inl (fun _ => 0))), (a2, .inl (z2, 2048, .inr (.inl (fun _ => 0))))] := hD
  have hK : va_K (dC, dI) vwCl [(z1, .int), (z2, .long)] s := hK
  refine va_putF (D := (dC, dI)) (ci := 2) (v := .ref a2) (ty := .array .long) (C := R_O) (T := T_O) (N := 6) hx hb hT in_O t_O t_O_ok n_O hown hK hP hD hS 0 rfl rfl 1 (by decide) (hT _ k_31) (fun _ h9 => h9) rfl hin rfl (by decide +kernel) rfl rfl (Nat.le_of_ble_eq_true rfl) d_O_init_19 (fun H locs hP hD hS => ?_)
  have hP : va_P (dC, dI) vwCl [(h0, .inr (2, [.ref a1, .ref a2, .null, .null, .null, .int 0])), (a1, .inl (z1, 2048, .inl (fun _ => 0))), (a2, .inl (z2, 2048, .inr (.inl (fun _ => 0))))] H := hP
  have hD : va_D A [(h0, .inr (2, [.ref a1, .ref a2, .null, .null, .null, .int 0])), (a1, .inl (z1, 2048, .inl (fun _ => 0))), (a2, .inl (z2, 2048, .inr (.inl (fun _ => 0))))] := hD
  refine lv_aload_n hx hb d_O_init_22 rfl (lv_at hl 0 rfl) ?_
  refine lv_sipush (v := nI 2048) hx hb d_O_init_23 (by decide) ?_
  refine va_newa (atype := .long) (N' := 2048) (a0 := (2048, .inr (.inl (fun _ => 0)))) (ty := .long) (n := nI 2048) hx hb (hT _ k_54) rfl hK hP hD hS hA (fun _ => rfl) (nI_pos (by omega)) (nI_clamp (by omega)) (Nat.le_of_ble_eq_true rfl) (Nat.le_of_ble_eq_true rfl) (Nat.le_of_ble_eq_true rfl) d_O_init_26 (fun a3 z3 H hK hP hD hS => ?_)
  have hP : va_P (dC, dI) vwCl [(h0, .inr (2, [.ref a1, .ref a2, .null, .null, .null, .int 0])), (a1, .inl (z1, 2048, .inl (fun _ => 0))), (a2, .inl (z2, 2048, .inr (.inl (fun _ => 0)))), (a3, .inl (z3, 2048, .inr (.inl (fun _ => 0))))] H := hP
  have hD : va_D A [(h0, .inr (2, [.ref a1, .ref a2, .null, .null, .null, .int 0])), (a1, .inl (z1, 2048, .inl (fun _ => 0))), (a2, .inl (z2, 2048, .inr (.inl (fun _ => 0)))), (a3, .inl (z3, 2048, .inr (.inl (fun _ => 0))))] := hD
  have hK : va_K (dC, dI) vwCl [(z1, .int), (z2, .long), (z3, .long)] s := hK
  refine va_putF (D := (dC, dI)) (ci := 2) (v := .ref a3) (ty := .array .long) (C := R_O) (T := T_O) (N := 6) hx hb hT in_O t_O t_O_ok n_O hown hK hP hD hS 0 rfl rfl 2 (by decide) (hT _ k_32) (fun _ h9 => h9) rfl hin rfl (by decide +kernel) rfl rfl (Nat.le_of_ble_eq_true rfl) d_O_init_28 (fun H locs hP hD hS => ?_)
  have hP : va_P (dC, dI) vwCl [(h0, .inr (2, [.ref a1, .ref a2, .ref a3, .null, .null, .int 0])), (a1, .inl (z1, 2048, .inl (fun _ => 0))), (a2, .inl (z2, 2048, .inr (.inl (fun _ => 0)))), (a3, .inl (z3, 2048, .inr (.inl (fun _ => 0))))] H := hP
  have hD : va_D A [(h0, .inr (2, [.ref a1, .ref a2, .ref a3, .null, .null, .int 0])), (a1, .inl (z1, 2048, .inl (fun _ => 0))), (a2, .inl (z2, 2048, .inr (.inl (fun _ => 0)))), (a3, .inl (z3, 2048, .inr (.inl (fun _ => 0))))] := hD
  refine lv_aload_n hx hb d_O_init_31 rfl (lv_at hl 0 rfl) ?_
  refine lv_sipush (v := nI 2048) hx hb d_O_init_32 (by decide) ?_
  refine va_newa (atype := .int) (N' := 2048) (a0 := (2048, .inl (fun _ => 0))) (ty := .int) (n := nI 2048) hx hb (hT _ k_53) rfl hK hP hD hS hA (fun _ => rfl) (nI_pos (by omega)) (nI_clamp (by omega)) (Nat.le_of_ble_eq_true rfl) (Nat.le_of_ble_eq_true rfl) (Nat.le_of_ble_eq_true rfl) d_O_init_35 (fun a4 z4 H hK hP hD hS => ?_)
  have hP : va_P (dC, dI) vwCl [(h0, .inr (2, [.ref a1, .ref a2, .ref a3, .null, .null, .int 0])), (a1, .inl (z1, 2048, .inl (fun _ => 0))), (a2, .inl (z2, 2048, .inr (.inl (fun _ => 0)))), (a3, .inl (z3, 2048, .inr (.inl (fun _ => 0)))), (a4, .inl (z4, 2048, .inl (fun _ => 0)))] H := hP
  have hD : va_D A [(h0, .inr (2, [.ref a1, .ref a2, .ref a3, .null, .null, .int 0])), (a1, .inl (z1, 2048, .inl (fun _ => 0))), (a2, .inl (z2, 2048, .inr (.inl (fun _ => 0)))), (a3, .inl (z3, 2048, .inr (.inl (fun _ => 0)))), (a4, .inl (z4, 2048, .inl (fun _ => 0)))] := hD
  have hK : va_K (dC, dI) vwCl [(z1, .int), (z2, .long), (z3, .long), (z4, .int)] s := hK
  refine va_putF (D := (dC, dI)) (ci := 2) (v := .ref a4) (ty := .array .int) (C := R_O) (T := T_O) (N := 6) hx hb hT in_O t_O t_O_ok n_O hown hK hP hD hS 0 rfl rfl 3 (by decide) (hT _ k_34) (fun _ h9 => h9) rfl hin rfl (by decide +kernel) rfl rfl (Nat.le_of_ble_eq_true rfl) d_O_init_37 (fun H locs hP hD hS => ?_)
  have hP : va_P (dC, dI) vwCl [(h0, .inr (2, [.ref a1, .ref a2, .ref a3, .ref a4, .null, .int 0])), (a1, .inl (z1, 2048, .inl (fun _ => 0))), (a2, .inl (z2, 2048, .inr (.inl (fun _ => 0)))), (a3, .inl (z3, 2048, .inr (.inl (fun _ => 0)))), (a4, .inl (z4, 2048, .inl (fun _ => 0)))] H := hP
  have hD : va_D A [(h0, .inr (2, [.ref a1, .ref a2, .ref a3, .ref a4, .null, .int 0])), (a1, .inl (z1, 2048, .inl (fun _ => 0))), (a2, .inl (z2, 2048, .inr (.inl (fun _ => 0)))), (a3, .inl (z3, 2048, .inr (.inl (fun _ => 0)))), (a4, .inl (z4, 2048, .inl (fun _ => 0)))] := hD
  refine lv_aload_n hx hb d_O_init_40 rfl (lv_at hl 0 rfl) ?_
  refine lv_sipush (v := nI 2048) hx hb d_O_init_41 (by decide) ?_
  refine va_newa (atype := .int) (N' := 2048) (a0 := (2048, .inl (fun _ => 0))) (ty := .int) (n := nI 2048) hx hb (hT _ k_53) rfl hK hP hD hS hA (fun _ => rfl) (nI_pos (by omega)) (nI_clamp (by omega)) (Nat.le_of_ble_eq_true rfl) (Nat.le_of_ble_eq_true rfl) (Nat.le_of_ble_eq_true rfl) d_O_init_44 (fun a5 z5 H hK hP hD hS => ?_)
  have hP : va_P (dC, dI) vwCl [(h0, .inr (2, [.ref a1, .ref a2, .ref a3, .ref a4, .null, .int 0])), (a1, .inl (z1, 2048, .inl (fun _ => 0))), (a2, .inl (z2, 2048, .inr (.inl (fun _ => 0)))), (a3, .inl (z3, 2048, .inr (.inl (fun _ => 0)))), (a4, .inl (z4, 2048, .inl (fun _ => 0))), (a5, .inl (z5, 2048, .inl (fun _ => 0)))] H := hP
  have hD : va_D A [(h0, .inr (2, [.ref a1, .ref a2, .ref a3, .ref a4, .null, .int 0])), (a1, .inl (z1, 2048, .inl (fun _ => 0))), (a2, .inl (z2, 2048, .inr (.inl (fun _ => 0)))), (a3, .inl (z3, 2048, .inr (.inl (fun _ => 0)))), (a4, .inl (z4, 2048, .inl (fun _ => 0))), (a5, .inl (z5, 2048, .inl (fun _ => 0)))] := hD
  have hK : va_K (dC, dI) vwCl [(z1, .int), (z2, .long), (z3, .long), (z4, .int), (z5, .int)] s := hK
  refine va_putF (D := (dC, dI)) (ci := 2) (v := .ref a5) (ty := .array .int) (C := R_O) (T := T_O) (N := 6) hx hb hT in_O t_O t_O_ok n_O hown hK hP hD hS 0 rfl rfl 4 (by decide) (hT _ k_36) (fun _ h9 => h9) rfl hin rfl (by decide +kernel) rfl rfl (Nat.le_of_ble_eq_true rfl) d_O_init_46 (fun H locs hP hD hS => ?_)
  have hP : va_P (dC, dI) vwCl [(h0, .inr (2, [.ref a1, .ref a2, .ref a3, .ref a4, .ref a5, .int 0])), (a1, .inl (z1, 2048, .inl (fun _ => 0))), (a2, .inl (z2, 2048, .inr (.inl (fun _ => 0)))), (a3, .inl (z3, 2048, .inr (.inl (fun _ => 0)))), (a4, .inl (z4, 2048, .inl (fun _ => 0))), (a5, .inl (z5, 2048, .inl (fun _ => 0)))] H := hP
  have hD : va_D A [(h0, .inr (2, [.ref a1, .ref a2, .ref a3, .ref a4, .ref a5, .int 0])), (a1, .inl (z1, 2048, .inl (fun _ => 0))), (a2, .inl (z2, 2048, .inr (.inl (fun _ => 0)))), (a3, .inl (z3, 2048, .inr (.inl (fun _ => 0)))), (a4, .inl (z4, 2048, .inl (fun _ => 0))), (a5, .inl (z5, 2048, .inl (fun _ => 0)))] := hD
  obtain rfl := ob_sameI hK 0 3 rfl rfl
  obtain rfl := ob_sameI hK 0 4 rfl rfl
  obtain rfl := ob_sameL hK 1 2 rfl rfl
  refine W.widen (k := 5) (n := 10240) (Nat.le_of_ble_eq_true rfl) (Nat.le_of_ble_eq_true rfl) ?_
  subst hQ
  exact W.vret hx hb hr (fun t ht hW => ⟨⟨((fun k => ([0, h0, a1, a2, a3, a4, a5] : List Nat).getD k 0), z1, z2), rfl, trivial, (by rw [ht]; exact hP.sub [0, 1, 2, 3, 4, 5] rfl), va_K.moved hW.alike (hK.sub [0, 1] rfl), hD.sub [0, 1, 2, 3, 4, 5] (by decide) rfl, rfl⟩, hS.F ht⟩) hS.2.2 d_O_init_49
abbrev rm_D_init : Room := { frames := 1, cells := 4, slots := 64, locals := 12 }
set_option maxHeartbeats 4000000 in
set_option maxRecDepth 100000 in
theorem c_D_init (l : Launch) (dC : Nat → ClassId) (dI : Nat → Nat → Nat) (h0 sz : Nat) : Met l y_D_init w_D_init rm_D_init (va_Pc [.ref h0] (ob_I (dC, dI) [(h0, .inr (1, [.null, .null, .null, .null, .int 0, .int 0, .long 0]))] sz)) (va_Qv (fun _ : (Nat → Nat) × ClassId × ClassId => True) (ob_E (dC, dI) (va_A [(h0, .inr (1, [.null, .null, .null, .null, .int 0, .int 0, .long 0]))] sz) (fun q cI cL => wD q cI cL (fun _ => 0) (fun _ => 0) (fun _ => 0) (fun _ => 0) 0 0 0) 7 h0) (va_A [(h0, .inr (1, [.null, .null, .null, .null, .int 0, .int 0, .long 0]))] sz)) 4 64 (va_A [(h0, .inr (1, [.null, .null, .null, .null, .int 0, .int 0, .long 0]))] sz) := by
  refine ob_ofI (cc := b_D_init) (maxL := 1) (ret := none) (own := R_D) (by decide) rfl rfl (Nat.le_of_ble_eq_true rfl) ?_
  intro p e s m args below meth c Q hQ hx hb hr hml hT hown hlocks hin hv ls hl
  obtain ⟨hsz, hP, hK, hD0⟩ := hv
  subst hsz
  have hD := hD0.self (sz := s.heap.size)
  generalize hAe : va_A [(h0, .inr (1, [.null, .null, .null, .null, .int 0, .int 0, .long 0]))] s.heap.size = A at hD hQ
  have hA : ∀ q : Nat, s.heap.size ≤ q → A q := fun q h => by rw [← hAe]; exact Or.inr h
  have hS : va_S A s.heap s.heap [] := va_S.rf
  have hl : lv_has ls 1 [(0, .ref h0)] := hl
  refine lv_aload_n hx hb d_D_init_0 rfl (lv_at hl 0 rfl) ?_
  refine W.objInit hx hb hown (hT _ k_60) (hT _ k_21) (hT _ k_22) rfl (by rw [hml]; exact hl.1) rfl d_D_init_1 (Nat.le_of_ble_eq_true rfl) (Nat.le_of_ble_eq_true rfl) ?_
  refine W.eq (g2 := F0 m 4 ls []) rfl ?_
  refine lv_aload_n hx hb d_D_init_4 rfl (lv_at hl 0 rfl) ?_
  refine lv_bipush (v := nI 16) hx hb d_D_init_5 (by decide) ?_
  refine va_newa (atype := .int) (N' := 16) (a0 := (16, .inl (fun _ => 0))) (ty := .int) (n := nI 16) hx hb (hT _ k_53) rfl hK hP hD hS hA (fun _ => rfl) (nI_pos (by omega)) (nI_clamp (by omega)) (Nat.le_of_ble_eq_true rfl) (Nat.le_of_ble_eq_true rfl) (Nat.le_of_ble_eq_true rfl) d_D_init_7 (fun a1 z1 H hK hP hD hS => ?_)
  have hP : va_P (dC, dI) vwCl [(h0, .inr (1, [.null, .null, .null, .null, .int 0, .int 0, .long 0])), (a1, .inl (z1, 16, .inl (fun _ => 0)))] H := hP
  have hD : va_D A [(h0, .inr (1, [.null, .null, .null, .null, .int 0, .int 0, .long 0])), (a1, .inl (z1, 16, .inl (fun _ => 0)))] := hD
  have hK : va_K (dC, dI) vwCl [(z1, .int)] s := hK
  refine va_putF (D := (dC, dI)) (ci := 1) (v := .ref a1) (ty := .array .int) (C := R_D) (T := T_D) (N := 7) hx hb hT in_D t_D t_D_ok n_D hown hK hP hD hS 0 rfl rfl 0 (by decide) (hT _ k_61) (fun _ h9 => h9) rfl hin rfl (by decide +kernel) rfl rfl (Nat.le_of_ble_eq_true rfl) d_D_init_9 (fun H locs hP hD hS => ?_)
  have hP : va_P (dC, dI) vwCl [(h0, .inr (1, [.ref a1, .null, .null, .null, .int 0, .int 0, .long 0])), (a1, .inl (z1, 16, .inl (fun _ => 0)))] H := hP
  have hD : va_D A [(h0, .inr (1, [.ref a1, .null, .null, .null, .int 0, .int 0, .long 0])), (a1, .inl (z1, 16, .inl (fun _ => 0)))] := hD
  refine lv_aload_n hx hb d_D_init_12 rfl (lv_at hl 0 rfl) ?_
  refine lv_bipush (v := nI 16) hx hb d_D_init_13 (by decide) ?_
  refine va_newa (atype := .int) (N' := 16) (a0 := (16, .inl (fun _ => 0))) (ty := .int) (n := nI 16) hx hb (hT _ k_53) rfl hK hP hD hS hA (fun _ => rfl) (nI_pos (by omega)) (nI_clamp (by omega)) (Nat.le_of_ble_eq_true rfl) (Nat.le_of_ble_eq_true rfl) (Nat.le_of_ble_eq_true rfl) d_D_init_15 (fun a2 z2 H hK hP hD hS => ?_)
  have hP : va_P (dC, dI) vwCl [(h0, .inr (1, [.ref a1, .null, .null, .null, .int 0, .int 0, .long 0])), (a1, .inl (z1, 16, .inl (fun _ => 0))), (a2, .inl (z2, 16, .inl (fun _ => 0)))] H := hP
  have hD : va_D A [(h0, .inr (1, [.ref a1, .null, .null, .null, .int 0, .int 0, .long 0])), (a1, .inl (z1, 16, .inl (fun _ => 0))), (a2, .inl (z2, 16, .inl (fun _ => 0)))] := hD
  have hK : va_K (dC, dI) vwCl [(z1, .int), (z2, .int)] s := hK
  refine va_putF (D := (dC, dI)) (ci := 1) (v := .ref a2) (ty := .array .int) (C := R_D) (T := T_D) (N := 7) hx hb hT in_D t_D t_D_ok n_D hown hK hP hD hS 0 rfl rfl 1 (by decide) (hT _ k_63) (fun _ h9 => h9) rfl hin rfl (by decide +kernel) rfl rfl (Nat.le_of_ble_eq_true rfl) d_D_init_17 (fun H locs hP hD hS => ?_)
  have hP : va_P (dC, dI) vwCl [(h0, .inr (1, [.ref a1, .ref a2, .null, .null, .int 0, .int 0, .long 0])), (a1, .inl (z1, 16, .inl (fun _ => 0))), (a2, .inl (z2, 16, .inl (fun _ => 0)))] H := hP
  have hD : va_D A [(h0, .inr (1, [.ref a1, .ref a2, .null, .null, .int 0, .int 0, .long 0])), (a1, .inl (z1, 16, .inl (fun _ => 0))), (a2, .inl (z2, 16, .inl (fun _ => 0)))] := hD
  refine lv_aload_n hx hb d_D_init_20 rfl (lv_at hl 0 rfl) ?_
  refine lv_bipush (v := nI 16) hx hb d_D_init_21 (by decide) ?_
  refine va_newa (atype := .long) (N' := 16) (a0 := (16, .inr (.inl (fun _ => 0)))) (ty := .long) (n := nI 16) hx hb (hT _ k_54) rfl hK hP hD hS hA (fun _ => rfl) (nI_pos (by omega)) (nI_clamp (by omega)) (Nat.le_of_ble_eq_true rfl) (Nat.le_of_ble_eq_true rfl) (Nat.le_of_ble_eq_true rfl) d_D_init_23 (fun a3 z3 H hK hP hD hS => ?_)
  have hP : va_P (dC, dI) vwCl [(h0, .inr (1, [.ref a1, .ref a2, .null, .null, .int 0, .int 0, .long 0])), (a1, .inl (z1, 16, .inl (fun _ => 0))), (a2, .inl (z2, 16, .inl (fun _ => 0))), (a3, .inl (z3, 16, .inr (.inl (fun _ => 0))))] H := hP
  have hD : va_D A [(h0, .inr (1, [.ref a1, .ref a2, .null, .null, .int 0, .int 0, .long 0])), (a1, .inl (z1, 16, .inl (fun _ => 0))), (a2, .inl (z2, 16, .inl (fun _ => 0))), (a3, .inl (z3, 16, .inr (.inl (fun _ => 0))))] := hD
  have hK : va_K (dC, dI) vwCl [(z1, .int), (z2, .int), (z3, .long)] s := hK
  refine va_putF (D := (dC, dI)) (ci := 1) (v := .ref a3) (ty := .array .long) (C := R_D) (T := T_D) (N := 7) hx hb hT in_D t_D t_D_ok n_D hown hK hP hD hS 0 rfl rfl 2 (by decide) (hT _ k_65) (fun _ h9 => h9) rfl hin rfl (by decide +kernel) rfl rfl (Nat.le_of_ble_eq_true rfl) d_D_init_25 (fun H locs hP hD hS => ?_)
  have hP : va_P (dC, dI) vwCl [(h0, .inr (1, [.ref a1, .ref a2, .ref a3, .null, .int 0, .int 0, .long 0])), (a1, .inl (z1, 16, .inl (fun _ => 0))), (a2, .inl (z2, 16, .inl (fun _ => 0))), (a3, .inl (z3, 16, .inr (.inl (fun _ => 0))))] H := hP
  have hD : va_D A [(h0, .inr (1, [.ref a1, .ref a2, .ref a3, .null, .int 0, .int 0, .long 0])), (a1, .inl (z1, 16, .inl (fun _ => 0))), (a2, .inl (z2, 16, .inl (fun _ => 0))), (a3, .inl (z3, 16, .inr (.inl (fun _ => 0))))] := hD
  refine lv_aload_n hx hb d_D_init_28 rfl (lv_at hl 0 rfl) ?_
  refine lv_bipush (v := nI 16) hx hb d_D_init_29 (by decide) ?_
  refine va_newa (atype := .long) (N' := 16) (a0 := (16, .inr (.inl (fun _ => 0)))) (ty := .long) (n := nI 16) hx hb (hT _ k_54) rfl hK hP hD hS hA (fun _ => rfl) (nI_pos (by omega)) (nI_clamp (by omega)) (Nat.le_of_ble_eq_true rfl) (Nat.le_of_ble_eq_true rfl) (Nat.le_of_ble_eq_true rfl) d_D_init_31 (fun a4 z4 H hK hP hD hS => ?_)
  have hP : va_P (dC, dI) vwCl [(h0, .inr (1, [.ref a1, .ref a2, .ref a3, .null, .int 0, .int 0, .long 0])), (a1, .inl (z1, 16, .inl (fun _ => 0))), (a2, .inl (z2, 16, .inl (fun _ => 0))), (a3, .inl (z3, 16, .inr (.inl (fun _ => 0)))), (a4, .inl (z4, 16, .inr (.inl (fun _ => 0))))] H := hP
  have hD : va_D A [(h0, .inr (1, [.ref a1, .ref a2, .ref a3, .null, .int 0, .int 0, .long 0])), (a1, .inl (z1, 16, .inl (fun _ => 0))), (a2, .inl (z2, 16, .inl (fun _ => 0))), (a3, .inl (z3, 16, .inr (.inl (fun _ => 0)))), (a4, .inl (z4, 16, .inr (.inl (fun _ => 0))))] := hD
  have hK : va_K (dC, dI) vwCl [(z1, .int), (z2, .int), (z3, .long), (z4, .long)] s := hK
  refine va_putF (D := (dC, dI)) (ci := 1) (v := .ref a4) (ty := .array .long) (C := R_D) (T := T_D) (N := 7) hx hb hT in_D t_D t_D_ok n_D hown hK hP hD hS 0 rfl rfl 3 (by decide) (hT _ k_67) (fun _ h9 => h9) rfl hin rfl (by decide +kernel) rfl rfl (Nat.le_of_ble_eq_true rfl) d_D_init_33 (fun H locs hP hD hS => ?_)
  have hP : va_P (dC, dI) vwCl [(h0, .inr (1, [.ref a1, .ref a2, .ref a3, .ref a4, .int 0, .int 0, .long 0])), (a1, .inl (z1, 16, .inl (fun _ => 0))), (a2, .inl (z2, 16, .inl (fun _ => 0))), (a3, .inl (z3, 16, .inr (.inl (fun _ => 0)))), (a4, .inl (z4, 16, .inr (.inl (fun _ => 0))))] H := hP
  have hD : va_D A [(h0, .inr (1, [.ref a1, .ref a2, .ref a3, .ref a4, .int 0, .int 0, .long 0])), (a1, .inl (z1, 16, .inl (fun _ => 0))), (a2, .inl (z2, 16, .inl (fun _ => 0))), (a3, .inl (z3, 16, .inr (.inl (fun _ => 0)))), (a4, .inl (z4, 16, .inr (.inl (fun _ => 0))))] := hD
  obtain rfl := ob_sameI hK 0 1 rfl rfl
  obtain rfl := ob_sameL hK 2 3 rfl rfl
  refine W.widen (k := 4) (n := 64) (Nat.le_of_ble_eq_true rfl) (Nat.le_of_ble_eq_true rfl) ?_
  subst hQ
  exact W.vret hx hb hr (fun t ht hW => ⟨⟨((fun k => ([0, 0, 0, 0, 0, 0, 0, h0, a1, a2, a3, a4] : List Nat).getD k 0), z1, z3), rfl, trivial, (by rw [ht]; exact hP.sub [0, 1, 2, 3, 4] rfl), va_K.moved hW.alike (hK.sub [0, 2] rfl), hD.sub [0, 1, 2, 3, 4] (by decide) rfl, rfl⟩, hS.F ht⟩) hS.2.2 d_D_init_36
abbrev rm_B_init : Room := { frames := 1, cells := 3, slots := 195, locals := 12 }
set_option maxHeartbeats 4000000 in
set_option maxRecDepth 100000 in
theorem c_B_init (l : Launch) (dC : Nat → ClassId) (dI : Nat → Nat → Nat) (h0 sz : Nat) (d : Nat) (hd : d ≤ 64) : Met l y_B_init w_B_init rm_B_init (va_Pc [.ref h0, .int (nI d)] (ob_I (dC, dI) [(h0, .inr (0, [.int 0, .null, .null, .null, .int 0, .int 0, .int 0]))] sz)) (va_Qv (fun _ : (Nat → Nat) × ClassId × ClassId => True) (ob_E (dC, dI) (va_A [(h0, .inr (0, [.int 0, .null, .null, .null, .int 0, .int 0, .int 0]))] sz) (fun q cI cL => wB q cI cL d (fun _ => 0) (fun _ => 0) (fun _ => 0) 0 0 0) 12 h0) (va_A [(h0, .inr (0, [.int 0, .null, .null, .null, .int 0, .int 0, .int 0]))] sz)) 3 195 (va_A [(h0, .inr (0, [.int 0, .null, .null, .null, .int 0, .int 0, .int 0]))] sz) := by
  refine ob_ofI (cc := b_B_init) (maxL := 2) (ret := none) (own := R_B) (by decide) rfl rfl (Nat.le_of_ble_eq_true rfl) ?_
  intro p e s m args below meth c Q hQ hx hb hr hml hT hown hlocks hin hv ls hl
  obtain ⟨hsz, hP, hK, hD0⟩ := hv
  subst hsz
  have hD := hD0.self (sz := s.heap.size)
  generalize hAe : va_A [(h0, .inr (0, [.int 0, .null, .null, .null, .int 0, .int 0, .int 0]))] s.heap.size = A at hD hQ
  have hA : ∀ q : Nat, s.heap.size ≤ q → A q := fun q h => by rw [← hAe]; exact Or.inr h
  have hS : va_S A s.heap s.heap [] := va_S.rf
  have hl : lv_has ls 2 [(0, .ref h0), (1, .int (nI d))] := hl
  refine lv_aload_n hx hb d_B_init_0 rfl (lv_at hl 0 rfl) ?_
  refine W.objInit hx hb hown (hT _ k_101) (hT _ k_21) (hT _ k_22) rfl (by rw [hml]; exact hl.1) rfl d_B_init_1 (Nat.le_of_ble_eq_true rfl) (Nat.le_of_ble_eq_true rfl) ?_
  refine W.eq (g2 := F0 m 4 ls []) rfl ?_
  refine lv_aload_n hx hb d_B_init_4 rfl (lv_at hl 0 rfl) ?_
  refine lv_iload_n hx hb d_B_init_5 rfl (lv_at hl 1 rfl) ?_
  refine va_putF (D := (dC, dI)) (ci := 0) (v := .int (nI d)) (ty := .int) (C := R_B) (T := T_B) (N := 7) hx hb hT in_B t_B t_B_ok n_B hown hK hP hD hS 0 rfl rfl 0 (by decide) (hT _ k_102) (fun _ h9 => h9) rfl hin rfl (by decide +kernel) rfl rfl (Nat.le_of_ble_eq_true rfl) d_B_init_6 (fun H locs hP hD hS => ?_)
  have hP : va_P (dC, dI) vwCl [(h0, .inr (0, [.int (nI d), .null, .null, .null, .int 0, .int 0, .int 0]))] H := hP
  have hD : va_D A [(h0, .inr (0, [.int (nI d), .null, .null, .null, .int 0, .int 0, .int 0]))] := hD
  refine lv_aload_n hx hb d_B_init_9 rfl (lv_at hl 0 rfl) ?_
  refine lv_iload_n hx hb d_B_init_10 rfl (lv_at hl 1 rfl) ?_
  refine lv_iconst (v := nI 1) hx hb d_B_init_11 (by decide) ?_
  refine lv_iadd hx hb d_B_init_12 ?_
  refine ob_eqi (nI_add d 1) ?_
  refine va_newa (atype := .long) (N' := d + 1) (a0 := (d + 1, .inr (.inl (fun _ => 0)))) (ty := .long) (n := nI (d + 1)) hx hb (hT _ k_54) rfl hK hP hD hS hA (fun _ => rfl) (nI_pos (by omega)) (nI_clamp (by omega)) (by show (d + 1) * 8 ≤ 536870912; omega) (Nat.le_of_ble_eq_true rfl) (by show 0 + (d + 1) ≤ 195; omega) d_B_init_13 (fun a1 z1 H hK hP hD hS => ?_)
  have hP : va_P (dC, dI) vwCl [(h0, .inr (0, [.int (nI d), .null, .null, .null, .int 0, .int 0, .int 0])), (a1, .inl (z1, d + 1, .inr (.inl (fun _ => 0))))] H := hP
  have hD : va_D A [(h0, .inr (0, [.int (nI d), .null, .null, .null, .int 0, .int 0, .int 0])), (a1, .inl (z1, d + 1, .inr (.inl (fun _ => 0))))] := hD
  have hK : va_K (dC, dI) vwCl [(z1, .long)] s := hK
  refine va_putF (D := (dC, dI)) (ci := 0) (v := .ref a1) (ty := .array .long) (C := R_B) (T := T_B) (N := 7) hx hb hT in_B t_B t_B_ok n_B hown hK hP hD hS 0 rfl rfl 1 (by decide) (hT _ k_103) (fun _ h9 => h9) rfl hin rfl (by decide +kernel) rfl rfl (Nat.le_of_ble_eq_true rfl) d_B_init_15 (fun H locs hP hD hS => ?_)
  have hP : va_P (dC, dI) vwCl [(h0, .inr (0, [.int (nI d), .ref a1, .null, .null, .int 0, .int 0, .int 0])), (a1, .inl (z1, d + 1, .inr (.inl (fun _ => 0))))] H := hP
  have hD : va_D A [(h0, .inr (0, [.int (nI d), .ref a1, .null, .null, .int 0, .int 0, .int 0])), (a1, .inl (z1, d + 1, .inr (.inl (fun _ => 0))))] := hD
  refine lv_aload_n hx hb d_B_init_18 rfl (lv_at hl 0 rfl) ?_
  refine lv_iload_n hx hb d_B_init_19 rfl (lv_at hl 1 rfl) ?_
  refine lv_iconst (v := nI 1) hx hb d_B_init_20 (by decide) ?_
  refine lv_iadd hx hb d_B_init_21 ?_
  refine ob_eqi (nI_add d 1) ?_
  refine va_newa (atype := .long) (N' := d + 1) (a0 := (d + 1, .inr (.inl (fun _ => 0)))) (ty := .long) (n := nI (d + 1)) hx hb (hT _ k_54) rfl hK hP hD hS hA (fun _ => rfl) (nI_pos (by omega)) (nI_clamp (by omega)) (by show (d + 1) * 8 ≤ 536870912; omega) (Nat.le_of_ble_eq_true rfl) (by show 0 + (d + 1) + (d + 1) ≤ 195; omega) d_B_init_22 (fun a2 z2 H hK hP hD hS => ?_)
  have hP : va_P (dC, dI) vwCl [(h0, .inr (0, [.int (nI d), .ref a1, .null, .null, .int 0, .int 0, .int 0])), (a1, .inl (z1, d + 1, .inr (.inl (fun _ => 0)))), (a2, .inl (z2, d + 1, .inr (.inl (fun _ => 0))))] H := hP
  have hD : va_D A [(h0, .inr (0, [.int (nI d), .ref a1, .null, .null, .int 0, .int 0, .int 0])), (a1, .inl (z1, d + 1, .inr (.inl (fun _ => 0)))), (a2, .inl (z2, d + 1, .inr (.inl (fun _ => 0))))] := hD
  have hK : va_K (dC, dI) vwCl [(z1, .long), (z2, .long)] s := hK
  refine va_putF (D := (dC, dI)) (ci := 0) (v := .ref a2) (ty := .array .long) (C := R_B) (T := T_B) (N := 7) hx hb hT in_B t_B t_B_ok n_B hown hK hP hD hS 0 rfl rfl 2 (by decide) (hT _ k_104) (fun _ h9 => h9) rfl hin rfl (by decide +kernel) rfl rfl (Nat.le_of_ble_eq_true rfl) d_B_init_24 (fun H locs hP hD hS => ?_)
  have hP : va_P (dC, dI) vwCl [(h0, .inr (0, [.int (nI d), .ref a1, .ref a2, .null, .int 0, .int 0, .int 0])), (a1, .inl (z1, d + 1, .inr (.inl (fun _ => 0)))), (a2, .inl (z2, d + 1, .inr (.inl (fun _ => 0))))] H := hP
  have hD : va_D A [(h0, .inr (0, [.int (nI d), .ref a1, .ref a2, .null, .int 0, .int 0, .int 0])), (a1, .inl (z1, d + 1, .inr (.inl (fun _ => 0)))), (a2, .inl (z2, d + 1, .inr (.inl (fun _ => 0))))] := hD
  refine lv_aload_n hx hb d_B_init_27 rfl (lv_at hl 0 rfl) ?_
  refine lv_iload_n hx hb d_B_init_28 rfl (lv_at hl 1 rfl) ?_
  refine lv_iconst (v := nI 1) hx hb d_B_init_29 (by decide) ?_
  refine lv_iadd hx hb d_B_init_30 ?_
  refine ob_eqi (nI_add d 1) ?_
  refine va_newa (atype := .int) (N' := d + 1) (a0 := (d + 1, .inl (fun _ => 0))) (ty := .int) (n := nI (d + 1)) hx hb (hT _ k_53) rfl hK hP hD hS hA (fun _ => rfl) (nI_pos (by omega)) (nI_clamp (by omega)) (by show (d + 1) * 4 ≤ 536870912; omega) (Nat.le_of_ble_eq_true rfl) (by show 0 + (d + 1) + (d + 1) + (d + 1) ≤ 195; omega) d_B_init_31 (fun a3 z3 H hK hP hD hS => ?_)
  have hP : va_P (dC, dI) vwCl [(h0, .inr (0, [.int (nI d), .ref a1, .ref a2, .null, .int 0, .int 0, .int 0])), (a1, .inl (z1, d + 1, .inr (.inl (fun _ => 0)))), (a2, .inl (z2, d + 1, .inr (.inl (fun _ => 0)))), (a3, .inl (z3, d + 1, .inl (fun _ => 0)))] H := hP
  have hD : va_D A [(h0, .inr (0, [.int (nI d), .ref a1, .ref a2, .null, .int 0, .int 0, .int 0])), (a1, .inl (z1, d + 1, .inr (.inl (fun _ => 0)))), (a2, .inl (z2, d + 1, .inr (.inl (fun _ => 0)))), (a3, .inl (z3, d + 1, .inl (fun _ => 0)))] := hD
  have hK : va_K (dC, dI) vwCl [(z1, .long), (z2, .long), (z3, .int)] s := hK
  refine va_putF (D := (dC, dI)) (ci := 0) (v := .ref a3) (ty := .array .int) (C := R_B) (T := T_B) (N := 7) hx hb hT in_B t_B t_B_ok n_B hown hK hP hD hS 0 rfl rfl 3 (by decide) (hT _ k_105) (fun _ h9 => h9) rfl hin rfl (by decide +kernel) rfl rfl (Nat.le_of_ble_eq_true rfl) d_B_init_33 (fun H locs hP hD hS => ?_)
  have hP : va_P (dC, dI) vwCl [(h0, .inr (0, [.int (nI d), .ref a1, .ref a2, .ref a3, .int 0, .int 0, .int 0])), (a1, .inl (z1, d + 1, .inr (.inl (fun _ => 0)))), (a2, .inl (z2, d + 1, .inr (.inl (fun _ => 0)))), (a3, .inl (z3, d + 1, .inl (fun _ => 0)))] H := hP
  have hD : va_D A [(h0, .inr (0, [.int (nI d), .ref a1, .ref a2, .ref a3, .int 0, .int 0, .int 0])), (a1, .inl (z1, d + 1, .inr (.inl (fun _ => 0)))), (a2, .inl (z2, d + 1, .inr (.inl (fun _ => 0)))), (a3, .inl (z3, d + 1, .inl (fun _ => 0)))] := hD
  obtain rfl := ob_sameL hK 0 1 rfl rfl
  refine W.widen (k := 3) (n := 195) (Nat.le_of_ble_eq_true rfl) (by show 0 + (d + 1) + (d + 1) + (d + 1) ≤ 195; omega) ?_
  subst hQ
  exact W.vret hx hb hr (fun t ht hW => ⟨⟨((fun k => ([0, 0, 0, 0, 0, 0, 0, 0, 0, 0, 0, 0, h0, a1, a2, a3] : List Nat).getD k 0), z3, z1), rfl, trivial, (by rw [ht]; exact hP.sub [0, 1, 2, 3] rfl), va_K.moved hW.alike (hK.sub [2, 0] rfl), hD.sub [0, 1, 2, 3] (by decide) rfl, rfl⟩, hS.F ht⟩) hS.2.2 d_B_init_36
