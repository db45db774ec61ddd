-- THE BOOK'S METHODS AS PURE WORDS
def f_gain (amt : Nat → Int64) (made : Nat) (dsp : Nat → Int32) (x : Int64) : Nat → Int64
  | 0 => x
  | k + 1 => f_gain amt made dsp x k + f_amt amt made (dsp k)
def f_less (dam : Nat → Int64) : Nat → Nat → Int64 → Int64
  | 0, _, x => x
  | n + 1, i, x => if dam i ≤ x then f_less dam n (i + 1) (x - dam i) else -2
theorem f_less_go {dam : Nat → Int64} {mk j : Nat} {x : Int64} (h : j < mk) (c : dam j ≤ x) : f_less dam (mk - j) j x = f_less dam (mk - (j + 1)) (j + 1) (x - dam j) := by
  rw [show mk - j = (mk - (j + 1)) + 1 by omega, f_less, if_pos c]
theorem f_less_no {dam : Nat → Int64} {mk j : Nat} {x : Int64} (h : j < mk) (c : ¬ dam j ≤ x) : f_less dam (mk - j) j x = -2 := by
  rw [show mk - j = (mk - (j + 1)) + 1 by omega, f_less, if_neg c]
def f_fee (supply mint : Int64) (amt : Nat → Int64) (made : Nat) (dsp : Nat → Int32) (sp : Nat) (dam : Nat → Int64) (mk : Nat) : Int64 := if mint < -supply ∨ ¬ mint ≤ 4611686018427387904 - supply then -2 else f_less dam mk 0 (f_gain amt made dsp mint sp)
theorem f_fee_no {supply mint : Int64} {amt : Nat → Int64} {made : Nat} {dsp : Nat → Int32} {sp : Nat} {dam : Nat → Int64} {mk : Nat} (h : mint < -supply ∨ ¬ mint ≤ 4611686018427387904 - supply) : f_fee supply mint amt made dsp sp dam mk = -2 := if_pos h
theorem f_fee_go {supply mint : Int64} {amt : Nat → Int64} {made : Nat} {dsp : Nat → Int32} {sp : Nat} {dam : Nat → Int64} {mk : Nat} (h : ¬ (mint < -supply ∨ ¬ mint ≤ 4611686018427387904 - supply)) : f_fee supply mint amt made dsp sp dam mk = f_less dam mk 0 (f_gain amt made dsp mint sp) := if_neg h
def f_offs (spt : Nat → Int32) (made : Nat) (dsp : Nat → Int32) (h : Int32) : Nat → Nat → Int32
  | 0 => spt
  | k + 1 => f_off (f_offs spt made dsp h k) made (dsp k) h
def f_app (f : Nat → Int32) (b : Nat) (g : Nat → Int32) : Nat → Nat → Int32
  | 0 => f
  | i + 1 => upd (f_app f b g i) (b + i) (g i)
def f_appL (f : Nat → Int64) (b : Nat) (g : Nat → Int64) : Nat → Nat → Int64
  | 0 => f
  | i + 1 => vp_updL (f_appL f b g i) (b + i) (g i)
theorem f_app_lo {f : Nat → Int32} {b : Nat} {g : Nat → Int32} {i j : Nat} (h : j < b) : f_app f b g i j = f j := by
  induction i with
  | zero => rfl
  | succ i ih => rw [f_app, upd, if_neg (by omega), ih]
theorem nI_self {x : Int32} (h : 0 ≤ x.toInt) : x = nI x.toNatClampNeg := by
  apply Int32.toInt_inj.mp
  have h2 : x.toInt < 2 ^ 31 := x.toInt_lt
  rw [nI_toInt (by unfold Int32.toNatClampNeg; omega)]
  unfold Int32.toNatClampNeg; omega
theorem cl_toInt {x : Int32} (h : 0 ≤ x.toInt) : (x.toNatClampNeg : Int) = x.toInt := by unfold Int32.toNatClampNeg; omega
def f_out (own mad spt : Nat → Int32) (made : Nat) (x w : Int32) : Int32 := if p_has made x then (if w.toInt = 0 then own x.toNatClampNeg else if w.toInt = 1 then (if spt x.toNatClampNeg = -1 then nI 1 else nI 0) else if w.toInt = 2 then mad x.toNatClampNeg else if w.toInt = 3 then spt x.toNatClampNeg else -1) else -1
def f_bal (f : Nat → Bool) (amt : Nat → Int64) : Nat → Int64
  | 0 => 0
  | k + 1 => if f k then f_bal f amt k + amt k else f_bal f amt k
def f_nth (f : Nat → Bool) (i : Int32) : Nat → Nat → Int32
  | 0, _ => -1
  | n + 1, k => if f k = true ∧ nI (f_cnt f k) = i then nI k else f_nth f i n (k + 1)
theorem f_nth_no {f : Nat → Bool} {i : Int32} {made k : Nat} (h : k < made) (c : ¬ (f k = true ∧ nI (f_cnt f k) = i)) : f_nth f i (made - k) k = f_nth f i (made - (k + 1)) (k + 1) := by
  rw [show made - k = (made - (k + 1)) + 1 by omega, f_nth, if_neg c]
theorem f_nth_go {f : Nat → Bool} {i : Int32} {made k : Nat} (h : k < made) (c : f k = true ∧ nI (f_cnt f k) = i) : f_nth f i (made - k) k = nI k := by
  rw [show made - k = (made - (k + 1)) + 1 by omega, f_nth, if_pos c]
/-- gathering: the number behind i picks, what is lacking behind them, how many are picked (0: it fails), how many are written -/
def f_pk (own : Nat → Int32) (amt : Nat → Int64) (spt : Nat → Int32) (made : Nat) (o : Int32) : Nat → Int32
  | 0 => -1
  | i + 1 => f_next own amt spt made o (f_pk own amt spt made o i) made
def f_lack (amt : Nat → Int64) (made : Nat) (pk : Nat → Int32) (a : Int64) : Nat → Int64
  | 0 => a
  | j + 1 => f_lack amt made pk a j - f_amt amt made (pk (j + 1))
abbrev p_bad (pk dsp : Nat → Int32) (sp j : Nat) : Prop := pk (j + 1) = -1 ∨ f_any (fun i => decide (dsp i = pk (j + 1))) sp = true
def f_gs (amt : Nat → Int64) (made : Nat) (pk dsp : Nat → Int32) (sp : Nat) (a : Int64) : Nat → Nat → Nat
  | 0, _ => 0
  | n + 1, j => if p_bad pk dsp sp j then 0 else if f_lack amt made pk a (j + 1) ≤ 0 then j + 1 else f_gs amt made pk dsp sp a n (j + 1)
def f_gw (amt : Nat → Int64) (made : Nat) (pk dsp : Nat → Int32) (sp : Nat) (a : Int64) : Nat → Nat → Nat
  | 0, j => j
  | n + 1, j => if p_bad pk dsp sp j then j else if f_lack amt made pk a (j + 1) ≤ 0 then j + 1 else f_gw amt made pk dsp sp a n (j + 1)
theorem f_gs_bad {amt : Nat → Int64} {made : Nat} {pk dsp : Nat → Int32} {sp j : Nat} {a : Int64} (h : j < 16 - sp) (c : p_bad pk dsp sp j) : f_gs amt made pk dsp sp a (16 - sp - j) j = 0 ∧ f_gw amt made pk dsp sp a (16 - sp - j) j = j := by
  rw [show 16 - sp - j = (16 - sp - (j + 1)) + 1 by omega, f_gs, f_gw, if_pos c, if_pos c]; exact ⟨rfl, rfl⟩
theorem f_gs_end {amt : Nat → Int64} {made : Nat} {pk dsp : Nat → Int32} {sp j : Nat} {a : Int64} (h : j < 16 - sp) (c : ¬ p_bad pk dsp sp j) (c2 : f_lack amt made pk a (j + 1) ≤ 0) : f_gs amt made pk dsp sp a (16 - sp - j) j = j + 1 ∧ f_gw amt made pk dsp sp a (16 - sp - j) j = j + 1 := by
  rw [show 16 - sp - j = (16 - sp - (j + 1)) + 1 by omega, f_gs, f_gw, if_neg c, if_neg c, if_pos c2, if_pos c2]; exact ⟨rfl, rfl⟩
theorem f_gs_go {amt : Nat → Int64} {made : Nat} {pk dsp : Nat → Int32} {sp j : Nat} {a : Int64} (h : j < 16 - sp) (c : ¬ p_bad pk dsp sp j) (c2 : ¬ f_lack amt made pk a (j + 1) ≤ 0) : f_gs amt made pk dsp sp a (16 - sp - j) j = f_gs amt made pk dsp sp a (16 - sp - (j + 1)) (j + 1) ∧ f_gw amt made pk dsp sp a (16 - sp - j) j = f_gw amt made pk dsp sp a (16 - sp - (j + 1)) (j + 1) := by
  rw [show 16 - sp - j = (16 - sp - (j + 1)) + 1 by omega, f_gs, f_gw, if_neg c, if_neg c, if_neg c2, if_neg c2]; exact ⟨rfl, rfl⟩
theorem f_any_app {f : Nat → Int32} {b : Nat} {g : Nat → Int32} {i : Nat} {x : Int32} : f_any (fun j => decide (f_app f b g i j = x)) b = true ↔ f_any (fun j => decide (f j = x)) b = true := by
  rw [f_any_iff, f_any_iff]
  constructor
  · rintro ⟨j, h1, h2⟩; rw [f_app_lo h1] at h2; exact ⟨j, h1, h2⟩
  · rintro ⟨j, h1, h2⟩; exact ⟨j, h1, by rw [f_app_lo h1]; exact h2⟩
abbrev f_gans (n : Nat) : Int32 := if n = 0 then -1 else nI n
def f_look (supply pot : Int64) (apl : Int32) (spt : Nat → Int32) (made sp mk : Nat) (mint : Int64) (hgt und : Nat) (w : Int32) : Int64 :=
  if w.toInt = 0 then supply else if w.toInt = 1 then pot else if w.toInt = 2 then (nI hgt).toInt64 else if w.toInt = 3 then (nI made).toInt64 else if w.toInt = 4 then (nI (f_cnt (fun j => decide (spt j = -1)) made)).toInt64 else if w.toInt = 5 then (nI und).toInt64 else if w.toInt = 6 then (nI sp).toInt64 else if w.toInt = 7 then (nI mk).toInt64 else if w.toInt = 8 then mint else if w.toInt = 9 then apl.toInt64 else -1
