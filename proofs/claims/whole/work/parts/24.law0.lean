/-! THE CLAIM OUT OF ONE WALK OF THE LAW'S BODY. Your part is whole_start (and what it stands on); all else here is the same for every law, but numbers. -/
def R_law : String := "OutputBookLaw"
def lw_P (b : Addr) (xs : List Int32) (args : Array Value) (s : State) : Prop := args = #[.ref b] ∧ s.IntsAt b xs ∧ xs.length ≤ 3073 ∧ (Jvm.Cond.and given_1 narrow_1).before args s = true
def lw_Q (_ : Array Value) (s : State) (o : Outcome) (t : State) : Prop := o = .returned (some (.int 1)) ∧ Framed s o t [] 600000 7302250
def lw_Z (below : List Frame) (a : Array Value) (s : State) : State → Prop := fun t => ∃ o, t.status = .running ∧ Ended t below o ∧ lw_Q a s o t
/-- the law's own end, with 1 on the stack, nothing written that was there before, its room as the claim has it -/
theorem lw_ret {p : Program} {l : Launch} {e : Env} {s : State} {m : MethodId} {below : List Frame} {meth : Method} {c : Code} {b : Nat} (hx : p.tables.exec = Jvm.exec) (hb : c.code = code) (hr : meth.sig.returnType = ret) (hlocks : meth.locks = false) {pc : Nat} {H : Heap} {ls : Array Slot} (hdg : decode code pc = .ok (.ireturn, 1)) : W p l e room_1 s m #[Value.ref b] below meth c H [] 600000 7302250 (lw_Z below #[Value.ref b] s) (F0 m pc ls [.int 1]) := by
  intro T hT X
  obtain ⟨fs, hret, hrun, hended, hW, hframe⟩ := X.leave (v := some (.int 1)) (hlocks := hlocks) (fun h => by rw [hr] at h; cases h)
  have hmeth' : T.vm.method? m = some meth := X.method'
  refine ⟨T.setFrames fs, ?_, .returned (some (.int 1)), hrun, hended, rfl, ⟨_, rfl⟩, hW, hframe⟩
  jvm_step X.here [X.here.top, hx, hb, hdg, hmeth', hr, ret, narrow_b1]
  (try refine ⟨rfl, ?_⟩); (try refine ⟨rfl, ?_⟩)
  first | (intro acts; rw [hret _ acts rfl rfl rfl]) | rw [hret _ _ rfl rfl rfl]
  exact Steps.refl _
/-- what holds at the law's entry: the machine, the code, the tables' words (any of lw_tbl by 'hts w (by decide +kernel)'), the script of L ints xs at the cell b, what the Statement gives of the start (any of its parts by flat_of_before) -/
def lw_At (p : Program) (s : State) (m : MethodId) (meth : Method) (c : Code) (b L : Nat) (xs : Nat → Int32) : Prop :=
  p.tables.exec = Jvm.exec ∧ c.code = code ∧ meth.sig.returnType = ret ∧ c.maxLocals = 4 ∧ s.vm.findClass R_law = some m.cls ∧ (∀ w ∈ lw_tbl, w.before #[Value.ref b] s = true) ∧ va_X b L xs s s.heap ∧ b < s.heap.size ∧ meth.locks = false ∧ (Jvm.Cond.and given_1 narrow_1).before #[Value.ref b] s = true
theorem ob_N_nest : ob_N.all ob_nest = true := by decide +kernel
theorem ob_N_in : ∀ w ∈ ob_N, w ∈ lw_tbl := by
  intro w h
  simp only [ob_N, List.mem_cons, List.not_mem_nil, or_false] at h
  rcases h with rfl | rfl | rfl | rfl | rfl | rfl | rfl | rfl | rfl | rfl | rfl | rfl | rfl | rfl | rfl | rfl
  · exact List.mem_of_getElem? (i := 25) (by decide +kernel)
  · exact List.mem_of_getElem? (i := 30) (by decide +kernel)
  · exact List.mem_of_getElem? (i := 33) (by decide +kernel)
  · exact List.mem_of_getElem? (i := 35) (by decide +kernel)
  · exact List.mem_of_getElem? (i := 37) (by decide +kernel)
  · exact List.mem_of_getElem? (i := 39) (by decide +kernel)
  · exact List.mem_of_getElem? (i := 57) (by decide +kernel)
  · exact List.mem_of_getElem? (i := 62) (by decide +kernel)
  · exact List.mem_of_getElem? (i := 64) (by decide +kernel)
  · exact List.mem_of_getElem? (i := 66) (by decide +kernel)
  · exact List.mem_of_getElem? (i := 68) (by decide +kernel)
  · exact List.mem_of_getElem? (i := 70) (by decide +kernel)
  · exact List.mem_of_getElem? (i := 72) (by decide +kernel)
  · exact List.mem_of_getElem? (i := 73) (by decide +kernel)
  · exact List.mem_of_getElem? (i := 108) (by decide +kernel)
  · exact List.mem_of_getElem? (i := 110) (by decide +kernel)
abbrev lk_L (a b : Int32) : Int64 := (a.toInt64 <<< ((nI 32).toInt64 &&& 63)) ||| (b.toInt64 &&& 4294967295)
section OB9
variable {p : Program} {l : Launch} {e : Env} {R : Room} {s : State} {m : MethodId} {args : Array Value} {below : List Frame} {meth : Method} {c : Code} {H : Heap} {locs : List Loc} {cells slots : Nat} {Q : State → Prop} {cc : ByteArray} {pc : Nat} {ls : Array Slot} {rest : List Value} {A : Nat → Prop} {H0 : Heap}
theorem ob_sld (hexec : p.tables.exec = Jvm.exec) (hb : c.code = cc) {b L : Nat} {xs : Nat → Int32} (hX : va_X b L xs s H0) (hbl : b < H0.size) (hbA : ¬ A b) (hS : va_S A H0 H locs) {i : Int32} {j : Nat} (hj : i.toNatClampNeg = j) (hin : vp_in i L) (hdg : decode cc pc = .ok (.iaload, 1))
    (kk : W p l e R s m args below meth c H locs cells slots Q (F0 m (pc + 1) ls (.int (xs j) :: rest))) : W p l e R s m args below meth c H locs cells slots Q (F0 m pc ls (.int i :: .ref b :: rest)) := by
  subst hj
  exact va_sld hexec hb hX hbl hbA hS hin hdg kk
end OB9
/-- two worlds side by side -/
theorem ob_P1 {D : va_G} {cl : List vw_C} {wa wb : va_W} {H : Heap} (h : va_P D cl (wa ++ wb) H) : va_P D cl wa H := fun k q hk => h k q (by rw [List.getElem?_append_left (List.getElem?_eq_some_iff.mp hk).1]; exact hk)
theorem ob_P2 {D : va_G} {cl : List vw_C} {wa wb : va_W} {H : Heap} (h : va_P D cl (wa ++ wb) H) : va_P D cl wb H := fun k q hk => h (wa.length + k) q (by rw [List.getElem?_append_right (Nat.le_add_right _ _), Nat.add_sub_cancel_left]; exact hk)
theorem ob_D1 {A : Nat → Prop} {wa wb : va_W} (h : va_D A (wa ++ wb)) : va_D A wa := by
  have at1 : ∀ (k : Nat) (q : Nat × va_E), wa[k]? = some q → (wa ++ wb)[k]? = some q := fun k q hk => by rw [List.getElem?_append_left (List.getElem?_eq_some_iff.mp hk).1]; exact hk
  exact ⟨fun i j p q hi hj e => h.1 i j p q (at1 i p hi) (at1 j q hj) e, fun k q hk => h.2 k q (at1 k q hk)⟩
theorem ob_D2 {A : Nat → Prop} {wa wb : va_W} (h : va_D A (wa ++ wb)) : va_D A wb := by
  have at2 : ∀ (k : Nat) (q : Nat × va_E), wb[k]? = some q → (wa ++ wb)[wa.length + k]? = some q := fun k q hk => by rw [List.getElem?_append_right (Nat.le_add_right _ _), Nat.add_sub_cancel_left]; exact hk
  exact ⟨fun i j p q hi hj e => by have := h.1 _ _ p q (at2 i p hi) (at2 j q hj) e; omega, fun k q hk => h.2 _ q (at2 k q hk)⟩
theorem ob_Dne {A : Nat → Prop} {wa wb : va_W} (h : va_D A (wa ++ wb)) {i j : Nat} {p q : Nat × va_E} (hi : wa[i]? = some p) (hj : wb[j]? = some q) : p.1 ≠ q.1 := fun e => by
  have l1 := (List.getElem?_eq_some_iff.mp hi).1
  have := h.1 i (wa.length + j) p q (by rw [List.getElem?_append_left l1]; exact hi) (by rw [List.getElem?_append_right (Nat.le_add_right _ _), Nat.add_sub_cancel_left]; exact hj) e
  omega
theorem ob_Dcong {A : Nat → Prop} {w w' : va_W} (h : va_D A w) (e : w'.map Prod.fst = w.map Prod.fst) : va_D A w' := by
  have key : ∀ (k : Nat) (q : Nat × va_E), w'[k]? = some q → ∃ q0, w[k]? = some q0 ∧ q0.1 = q.1 := fun k q hk => by
    have h1 : (w'.map Prod.fst)[k]? = some q.1 := by rw [List.getElem?_map, hk]; rfl
    rw [e, List.getElem?_map] at h1
    cases hw : w[k]? with
    | none => rw [hw] at h1; cases h1
    | some q0 => rw [hw] at h1; exact ⟨q0, rfl, Option.some.inj h1⟩
  refine ⟨fun i j x y hi hj hxy => ?_, fun k q hk => ?_⟩
  · obtain ⟨x0, h1, h2⟩ := key i x hi
    obtain ⟨y0, h3, h4⟩ := key j y hj
    exact h.1 i j x0 y0 h1 h3 (h2.trans (hxy.trans h4.symm))
  · obtain ⟨q0, h1, h2⟩ := key k q hk
    rw [← h2]
    exact h.2 k q0 h1
theorem ob_preX {D : va_G} {cl : List vw_C} {wc : va_W} {tys : List (ClassId × FieldType)} {nw : List Cond} (hn : nw.all ob_nest = true) {s : State} {H : Heap} (hK : va_K D cl tys s) (hP : va_P D cl wc H) (hN : ∀ w ∈ nw, va_Nw w s) {b ci : Nat} {q : vw_C} {fs : List Value} {As : List Value} (hc : cl[ci]? = some q) (he : wc[0]? = some (b, .inr (ci, fs))) : PreV s H q.1 b (va_Pc (.ref b :: As) (ob_B D cl wc tys nw)) As :=
  ⟨fun _ _ _ _ h => ⟨h.1, ob_B_calling hn h.2⟩, va_recv hK hP hc he, fun _ hU hW => ⟨rfl, ob_B_warm hn hU hW hP hK hN⟩⟩
theorem ob_preXW {D : va_G} {cl : List vw_C} {wc : va_W} {tys : List (ClassId × FieldType)} {nw : List Cond} {A : Nat → Prop} (hn : nw.all ob_nest = true) {s : State} {H : Heap} (hK : va_K D cl tys s) (hP : va_P D cl wc H) (hD : va_D A wc) (hN : ∀ w ∈ nw, va_Nw w s) {b ci : Nat} {q : vw_C} {fs : List Value} {As : List Value} (hc : cl[ci]? = some q) (he : wc[0]? = some (b, .inr (ci, fs))) : PreV s H q.1 b (va_Pc (.ref b :: As) (ob_BW D cl wc tys nw)) As :=
  ⟨fun _ _ _ _ h => ⟨h.1, ob_B_calling hn h.2.1, h.2.2⟩, va_recv hK hP hc he, fun _ hU hW => ⟨rfl, ob_B_warm hn hU hW hP hK hN, hD.weaken (fun _ _ _ _ => trivial)⟩⟩
theorem ob_back1 {A0 : Nat → Prop} {D : va_G} {cl : List vw_C} {wa wb w1 : va_W} {H H1 : Heap} (hP : va_P D cl (wa ++ wb) H) (hD : va_D A0 (wa ++ wb)) (ha : w1.map Prod.fst = wa.map Prod.fst) (hk : ∀ q : Nat, q < H.size → ¬ ob_A wa q → H1[q]? = H[q]?) (hP1 : va_P D cl w1 H1) : va_P D cl (w1 ++ wb) H1 ∧ va_D A0 (w1 ++ wb) := by
  refine ⟨va_P.app hP1 (fun k q h => (ob_P2 hP k q h).kept (hk q.1 (ob_P2 hP k q h).lt ?_)), ob_Dcong hD (by rw [List.map_append, List.map_append, ha])⟩
  rintro ⟨j, e, h3⟩
  exact ob_Dne hD h3 h rfl
theorem ob_back2 {A0 : Nat → Prop} {D : va_G} {cl : List vw_C} {wa wb w1 : va_W} {H H1 : Heap} (hP : va_P D cl (wa ++ wb) H) (hD : va_D A0 (wa ++ wb)) (ha : w1.map Prod.fst = wb.map Prod.fst) (hk : ∀ q : Nat, q < H.size → ¬ ob_A wb q → H1[q]? = H[q]?) (hP1 : va_P D cl w1 H1) : va_P D cl (wa ++ w1) H1 ∧ va_D A0 (wa ++ w1) := by
  refine ⟨va_P.app (fun k q h => (ob_P1 hP k q h).kept (hk q.1 (ob_P1 hP k q h).lt ?_)) hP1, ob_Dcong hD (by rw [List.map_append, List.map_append, ha])⟩
  rintro ⟨j, e, h3⟩
  exact ob_Dne hD h h3 rfl
theorem ob_free1 {A0 : Nat → Prop} {wa wb : va_W} (hD : va_D A0 (wa ++ wb)) : ∀ q, ob_A wa q → A0 q := by
  rintro q ⟨k, e, h⟩; exact (ob_D1 hD).2 k _ h
theorem ob_free2 {A0 : Nat → Prop} {wa wb : va_W} (hD : va_D A0 (wa ++ wb)) : ∀ q, ob_A wb q → A0 q := by
  rintro q ⟨k, e, h⟩; exact (ob_D2 hD).2 k _ h
section OB10
variable {p : Program} {l : Launch} {e : Env} {R : Room} {s : State} {m : MethodId} {args : Array Value} {below : List Frame} {meth : Method} {c : Code} {H : Heap} {locs : List Loc} {cells slots : Nat} {Q : State → Prop}
variable {pc : Nat} {ls : Array Slot} {rest st0 : List Value} {a : Array Value} {A0 : Nat → Prop} {H0 : Heap} {D : va_G} {cl : List vw_C} {wa wb w1 : va_W}
theorem ob_callP1i {F : Int32} (hr : va_Run p l e R s m args below meth c H locs cells slots 0 0 (F0 m pc ls st0) rest (va_Qi (fun (r : Int32) (_ : Unit) => r = F) (fun _ t => va_P D cl w1 t.heap) (ob_A wa) a) (ob_A wa)) (hS : va_S A0 H0 H locs) (hP : va_P D cl (wa ++ wb) H) (hD : va_D A0 (wa ++ wb)) (ha : w1.map Prod.fst = wa.map Prod.fst)
    (kk : ∀ (H1 : Heap) (locs1 : List Loc), va_P D cl (w1 ++ wb) H1 → va_D A0 (w1 ++ wb) → va_S A0 H0 H1 locs1 → W p l e R s m args below meth c H1 locs1 cells slots Q (F0 m (pc + 3) ls (.int F :: rest))) : W p l e R s m args below meth c H locs cells slots Q (F0 m pc ls st0) := by
  refine va_calli hr hS (fun q _ h => ob_free1 hD q h) (ob_free1 hD) (fun r u t H1 locs1 ht hvm hw hB hz hk hS1 => ?_)
  rw [ht] at hB
  obtain ⟨h1, h2⟩ := ob_back1 hP hD ha hk hB
  subst hw
  exact kk H1 locs1 h1 h2 hS1
theorem ob_callP1l {F : Int64} (hr : va_Run p l e R s m args below meth c H locs cells slots 0 0 (F0 m pc ls st0) rest (va_Ql (fun (r : Int64) (_ : Unit) => r = F) (fun _ t => va_P D cl w1 t.heap) (ob_A wa) a) (ob_A wa)) (hS : va_S A0 H0 H locs) (hP : va_P D cl (wa ++ wb) H) (hD : va_D A0 (wa ++ wb)) (ha : w1.map Prod.fst = wa.map Prod.fst)
    (kk : ∀ (H1 : Heap) (locs1 : List Loc), va_P D cl (w1 ++ wb) H1 → va_D A0 (w1 ++ wb) → va_S A0 H0 H1 locs1 → W p l e R s m args below meth c H1 locs1 cells slots Q (F0 m (pc + 3) ls (.long F :: rest))) : W p l e R s m args below meth c H locs cells slots Q (F0 m pc ls st0) := by
  refine va_calll hr hS (fun q _ h => ob_free1 hD q h) (ob_free1 hD) (fun r u t H1 locs1 ht hvm hw hB hz hk hS1 => ?_)
  rw [ht] at hB
  obtain ⟨h1, h2⟩ := ob_back1 hP hD ha hk hB
  subst hw
  exact kk H1 locs1 h1 h2 hS1
theorem ob_callP1v (hr : va_Run p l e R s m args below meth c H locs cells slots 0 0 (F0 m pc ls st0) rest (va_Qv (fun (_ : Unit) => True) (fun _ t => va_P D cl w1 t.heap) (ob_A wa) a) (ob_A wa)) (hS : va_S A0 H0 H locs) (hP : va_P D cl (wa ++ wb) H) (hD : va_D A0 (wa ++ wb)) (ha : w1.map Prod.fst = wa.map Prod.fst)
    (kk : ∀ (H1 : Heap) (locs1 : List Loc), va_P D cl (w1 ++ wb) H1 → va_D A0 (w1 ++ wb) → va_S A0 H0 H1 locs1 → W p l e R s m args below meth c H1 locs1 cells slots Q (F0 m (pc + 3) ls (rest))) : W p l e R s m args below meth c H locs cells slots Q (F0 m pc ls st0) := by
  refine va_callv hr hS (fun q _ h => ob_free1 hD q h) (ob_free1 hD) (fun u t H1 locs1 ht hvm hw hB hz hk hS1 => ?_)
  rw [ht] at hB
  obtain ⟨h1, h2⟩ := ob_back1 hP hD ha hk hB
  exact kk H1 locs1 h1 h2 hS1
theorem ob_callP2i {F : Int32} (hr : va_Run p l e R s m args below meth c H locs cells slots 0 0 (F0 m pc ls st0) rest (va_Qi (fun (r : Int32) (_ : Unit) => r = F) (fun _ t => va_P D cl w1 t.heap) (ob_A wb) a) (ob_A wb)) (hS : va_S A0 H0 H locs) (hP : va_P D cl (wa ++ wb) H) (hD : va_D A0 (wa ++ wb)) (ha : w1.map Prod.fst = wb.map Prod.fst)
    (kk : ∀ (H1 : Heap) (locs1 : List Loc), va_P D cl (wa ++ w1) H1 → va_D A0 (wa ++ w1) → va_S A0 H0 H1 locs1 → W p l e R s m args below meth c H1 locs1 cells slots Q (F0 m (pc + 3) ls (.int F :: rest))) : W p l e R s m args below meth c H locs cells slots Q (F0 m pc ls st0) := by
  refine va_calli hr hS (fun q _ h => ob_free2 hD q h) (ob_free2 hD) (fun r u t H1 locs1 ht hvm hw hB hz hk hS1 => ?_)
  rw [ht] at hB
  obtain ⟨h1, h2⟩ := ob_back2 hP hD ha hk hB
  subst hw
  exact kk H1 locs1 h1 h2 hS1
theorem ob_callP2l {F : Int64} (hr : va_Run p l e R s m args below meth c H locs cells slots 0 0 (F0 m pc ls st0) rest (va_Ql (fun (r : Int64) (_ : Unit) => r = F) (fun _ t => va_P D cl w1 t.heap) (ob_A wb) a) (ob_A wb)) (hS : va_S A0 H0 H locs) (hP : va_P D cl (wa ++ wb) H) (hD : va_D A0 (wa ++ wb)) (ha : w1.map Prod.fst = wb.map Prod.fst)
    (kk : ∀ (H1 : Heap) (locs1 : List Loc), va_P D cl (wa ++ w1) H1 → va_D A0 (wa ++ w1) → va_S A0 H0 H1 locs1 → W p l e R s m args below meth c H1 locs1 cells slots Q (F0 m (pc + 3) ls (.long F :: rest))) : W p l e R s m args below meth c H locs cells slots Q (F0 m pc ls st0) := by
  refine va_calll hr hS (fun q _ h => ob_free2 hD q h) (ob_free2 hD) (fun r u t H1 locs1 ht hvm hw hB hz hk hS1 => ?_)
  rw [ht] at hB
  obtain ⟨h1, h2⟩ := ob_back2 hP hD ha hk hB
  subst hw
  exact kk H1 locs1 h1 h2 hS1
theorem ob_callP2v (hr : va_Run p l e R s m args below meth c H locs cells slots 0 0 (F0 m pc ls st0) rest (va_Qv (fun (_ : Unit) => True) (fun _ t => va_P D cl w1 t.heap) (ob_A wb) a) (ob_A wb)) (hS : va_S A0 H0 H locs) (hP : va_P D cl (wa ++ wb) H) (hD : va_D A0 (wa ++ wb)) (ha : w1.map Prod.fst = wb.map Prod.fst)
    (kk : ∀ (H1 : Heap) (locs1 : List Loc), va_P D cl (wa ++ w1) H1 → va_D A0 (wa ++ w1) → va_S A0 H0 H1 locs1 → W p l e R s m args below meth c H1 locs1 cells slots Q (F0 m (pc + 3) ls (rest))) : W p l e R s m args below meth c H locs cells slots Q (F0 m pc ls st0) := by
  refine va_callv hr hS (fun q _ h => ob_free2 hD q h) (ob_free2 hD) (fun u t H1 locs1 ht hvm hw hB hz hk hS1 => ?_)
  rw [ht] at hB
  obtain ⟨h1, h2⟩ := ob_back2 hP hD ha hk hB
  exact kk H1 locs1 h1 h2 hS1
end OB10

def li_I (t : Nat) (supply : Int64) (pot : Int64) (apl : Int32) (spt : Nat → Int32) (made : Nat) (dsp : Nat → Int32) (ds2 : Nat → Int32) (sp : Nat) (mk : Nat) (dep : Nat) (sups : Nat → Int64) (pots : Nat → Int64) (apps : Nat → Int32) (row : Nat) (hgt : Nat) (und : Nat) (fes : Nat → Int64) (mns : Nat → Int64) (tms : Nat → Int32) : Prop := (made ≤ 2048 ∧ sp ≤ 16 ∧ mk ≤ 16 ∧ row ≤ dep ∧ 1 ≤ dep ∧ dep ≤ 64 ∧ und ≤ dep ∧ und ≤ hgt ∧ hgt ≤ t) ∧ li_V spt ∧ li_D spt made dsp ds2 sp ∧ li_S supply pot apl dep sups pots apps row hgt und fes mns tms
def li_St (dC : Nat → ClassId) (dI : Nat → Nat → Nat) (s : State) (q r : Nat → Nat) (cI cL : ClassId) (t : Nat) (H : Heap) (locs : List Loc) : Prop := ∃ (supply : Int64) (pot : Int64) (apl : Int32) (own : Nat → Int32) (amt : Nat → Int64) (tag : Nat → Int64) (mad : Nat → Int32) (spt : Nat → Int32) (made : Nat) (dsp : Nat → Int32) (dow : Nat → Int32) (dam : Nat → Int64) (dtg : Nat → Int64) (sp : Nat) (mk : Nat) (mint : Int64) (dep : Nat) (sups : Nat → Int64) (pots : Nat → Int64) (apps : Nat → Int32) (row : Nat) (hgt : Nat) (und : Nat) (ds2 : Nat → Int32) (fes : Nat → Int64) (mns : Nat → Int64) (tms : Nat → Int32) (pic : Nat → Int32), li_I t supply pot apl spt made dsp ds2 sp mk dep sups pots apps row hgt und fes mns tms ∧ va_P (dC, dI) vwCl (wK q cI cL supply pot apl own amt tag mad spt made dsp dow dam dtg sp mk mint dep sups pots apps row hgt und ++ wM r cI cL own amt tag mad spt made ds2 dow dam dtg sp mk mint dep hgt und supply pot apl fes mns tms pic) H ∧ va_D (fun q : Nat => s.heap.size ≤ q) (wK q cI cL supply pot apl own amt tag mad spt made dsp dow dam dtg sp mk mint dep sups pots apps row hgt und ++ wM r cI cL own amt tag mad spt made ds2 dow dam dtg sp mk mint dep hgt und supply pot apl fes mns tms pic) ∧ va_S (fun q : Nat => s.heap.size ≤ q) s.heap H locs
