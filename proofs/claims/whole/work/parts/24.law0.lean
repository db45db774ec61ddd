/-! THE CLAIM OUT OF ONE WALK OF THE LAW'S BODY. Your part is whole_start (and what it stands on); all else here is the same for every law, but numbers. -/
def R_law : String := "OutputBookLaw"
def lw_P (b : Addr) (xs : List Int32) (args : Array Value) (s : State) : Prop := args = #[.ref b] ∧ s.IntsAt b xs ∧ xs.length ≤ 3073 ∧ (Jvm.Cond.and given_1 narrow_1).before args s = true
def lw_Q (_ : Array Value) (s : State) (o : Outcome) (t : State) : Prop := o = .returned (some (.int 1)) ∧ Framed s o t [] 600000 7302250
def lw_Z (below : List Frame) (a : Array Value) (s : State) : State → Prop := fun t => ∃ o, t.status = .running ∧ Ended t below o ∧ lw_Q a s o t
/-- the law's own end, with 1 on the stack, nothing written that was there before, its room as the claim has it -/
theorem lw_ret {p : Program} {l : Launch} {e : Env} {s : State} {m : MethodId} {below : List Frame} {meth : Method} {c : Code} {b : Nat} (hx : p.tables.exec = Jvm.exec) (hb : c.code = code) (hr : meth.sig.returnType = ret) (hlocks : meth.locks = false) {pc : Nat} {H : Heap} {ls : Array Slot} (hdg : decode code pc = .ok (.ireturn, 1)) : W p l e room_1 s m #[Value.ref b] below meth c H [] 600000 7302250 (lw_Z below #[Value.ref b] s) (F0 m pc ls [.int 1]) := by
  intro T hT X
  obtain ⟨fs, hret, hrun, hended, hW, hframe⟩ := X.leave (v := some (.int 1)) (hlocks := hlocks) (fun h => by rw [hr] at h; cases h)
  have hmeth' : T.vm.method? m = some meth := X.method'
  refine ⟨T.setFrames fs, ?_, .returned (some (.int 1)), hrun, hended, rfl, ⟨_, rfl⟩, hW, hframe⟩
  jvm_step X.here [X.here.top, hx, hb, hdg, hmeth', hr, ret, narrow_b1]
  (try refine ⟨rfl, ?_⟩); (try refine ⟨rfl, ?_⟩)
  first | (intro acts; rw [hret _ acts rfl rfl rfl]) | rw [hret _ _ rfl rfl rfl]
  exact Steps.refl _
/-- what holds at the law's entry: the machine, the code, the tables' words (any of lw_tbl by 'hts w (by decide +kernel)'), the script of L ints xs at the cell b, what the Statement gives of the start (any of its parts by flat_of_before) -/
def lw_At (p : Program) (s : State) (m : MethodId) (meth : Method) (c : Code) (b L : Nat) (xs : Nat → Int32) : Prop :=
  p.tables.exec = Jvm.exec ∧ c.code = code ∧ meth.sig.returnType = ret ∧ c.maxLocals = 4 ∧ s.vm.findClass R_law = some m.cls ∧ (∀ w ∈ lw_tbl, w.before #[Value.ref b] s = true) ∧ va_X b L xs s s.heap ∧ b < s.heap.size ∧ meth.locks = false ∧ (Jvm.Cond.and given_1 narrow_1).before #[Value.ref b] s = true
theorem ob_N_nest : ob_N.all ob_nest = true := by decide +kernel
theorem ob_N_in : ∀ w ∈ ob_N, w ∈ lw_tbl := by
  intro w h
  simp only [ob_N, List.mem_cons, List.not_mem_nil, or_false] at h
  rcases h with rfl | rfl | rfl | rfl | rfl | rfl | rfl | rfl | rfl | rfl | rfl | rfl | rfl | rfl | rfl | rfl
  · exact List.mem_of_getElem? (i := 25) (by decide +kernel)
  · exact List.mem_of_getElem? (i := 30) (by decide +kernel)
  · exact List.mem_of_getElem? (i := 33) (by decide +kernel)
  · exact List.mem_of_getElem? (i := 35) (by decide +kernel)
  · exact List.mem_of_getElem? (i := 37) (by decide +kernel)
  · exact List.mem_of_getElem? (i := 39) (by decide +kernel)
  · exact List.mem_of_getElem? (i := 57) (by decide +kernel)
  · exact List.mem_of_getElem? (i := 62) (by decide +kernel)
  · exact List.mem_of_getElem? (i := 64) (by decide +kernel)
  · exact List.mem_of_getElem? (i := 66) (by decide +kernel)
  · exact List.mem_of_getElem? (i := 68) (by decide +kernel)
  · exact List.mem_of_getElem? (i := 70) (by decide +kernel)
  · exact List.mem_of_getElem? (i := 72) (by decide +kernel)
  · exact List.mem_of_getElem? (i := 73) (by decide +kernel)
  · exact List.mem_of_getElem? (i := 108) (by decide +kernel)
  · exact List.mem_of_getElem? (i := 110) (by decide +kernel)
abbrev lk_L (a b : Int32) : Int64 := (a.toInt64 <<< ((nI 32).toInt64 &&& 63)) ||| (b.toInt64 &&& 4294967295)
section OB9
variable {p : Program} {l : Launch} {e : Env} {R : Room} {s : State} {m : MethodId} {args : Array Value} {below : List Frame} {meth : Method} {c : Code} {H : Heap} {locs : List Loc} {cells slots : Nat} {Q : State → Prop} {cc : ByteArray} {pc : Nat} {ls : Array Slot} {rest : List Value} {A : Nat → Prop} {H0 : Heap}
theorem ob_sld (hexec : p.tables.exec = Jvm.exec) (hb : c.code = cc) {b L : Nat} {xs : Nat → Int32} (hX : va_X b L xs s H0) (hbl : b < H0.size) (hbA : ¬ A b) (hS : va_S A H0 H locs) {i : Int32} {j : Nat} (hj : i.toNatClampNeg = j) (hin : vp_in i L) (hdg : decode cc pc = .ok (.iaload, 1))
    (kk : W p l e R s m args below meth c H locs cells slots Q (F0 m (pc + 1) ls (.int (xs j) :: rest))) : W p l e R s m args below meth c H locs cells slots Q (F0 m pc ls (.int i :: .ref b :: rest)) := by
  subst hj
  exact va_sld hexec hb hX hbl hbA hS hin hdg kk
end OB9
def li_I (t : Nat) (supply : Int64) (pot : Int64) (apl : Int32) (spt : Nat → Int32) (made : Nat) (dsp : Nat → Int32) (ds2 : Nat → Int32) (sp : Nat) (mk : Nat) (dep : Nat) (sups : Nat → Int64) (pots : Nat → Int64) (apps : Nat → Int32) (row : Nat) (hgt : Nat) (und : Nat) (fes : Nat → Int64) (mns : Nat → Int64) (tms : Nat → Int32) : Prop := (made ≤ 2048 ∧ sp ≤ 16 ∧ mk ≤ 16 ∧ row ≤ dep ∧ 1 ≤ dep ∧ dep ≤ 64 ∧ und ≤ dep ∧ und ≤ hgt ∧ hgt ≤ t) ∧ li_V spt ∧ li_D spt made dsp ds2 sp ∧ li_S supply pot apl dep sups pots apps row hgt und fes mns tms
def li_St (dC : Nat → ClassId) (dI : Nat → Nat → Nat) (s : State) (q r : Nat → Nat) (cI cL : ClassId) (t : Nat) (H : Heap) (locs : List Loc) : Prop := ∃ (supply : Int64) (pot : Int64) (apl : Int32) (own : Nat → Int32) (amt : Nat → Int64) (tag : Nat → Int64) (mad : Nat → Int32) (spt : Nat → Int32) (made : Nat) (dsp : Nat → Int32) (dow : Nat → Int32) (dam : Nat → Int64) (dtg : Nat → Int64) (sp : Nat) (mk : Nat) (mint : Int64) (dep : Nat) (sups : Nat → Int64) (pots : Nat → Int64) (apps : Nat → Int32) (row : Nat) (hgt : Nat) (und : Nat) (ds2 : Nat → Int32) (fes : Nat → Int64) (mns : Nat → Int64) (tms : Nat → Int32) (pic : Nat → Int32), li_I t supply pot apl spt made dsp ds2 sp mk dep sups pots apps row hgt und fes mns tms ∧ va_P (dC, dI) vwCl (wK q cI cL supply pot apl own amt tag mad spt made dsp dow dam dtg sp mk mint dep sups pots apps row hgt und ++ wM r cI cL own amt tag mad spt made ds2 dow dam dtg sp mk mint dep hgt und supply pot apl fes mns tms pic) H ∧ va_D (fun q : Nat => s.heap.size ≤ q) (wK q cI cL supply pot apl own amt tag mad spt made dsp dow dam dtg sp mk mint dep sups pots apps row hgt und ++ wM r cI cL own amt tag mad spt made ds2 dow dam dtg sp mk mint dep hgt und supply pot apl fes mns tms pic) ∧ va_S (fun q : Nat => s.heap.size ≤ q) s.heap H locs
