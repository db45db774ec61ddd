abbrev wO (q : Nat → Nat) (cI cL : ClassId) (own : Nat → Int32) (amt : Nat → Int64) (tag : Nat → Int64) (mad : Nat → Int32) (spt : Nat → Int32) (made : Nat) : va_W := [(q 1, .inr (2, [.ref (q 2), .ref (q 3), .ref (q 4), .ref (q 5), .ref (q 6), .int (nI made)])), (q 2, .inl (cI, 2048, .inl own)), (q 3, .inl (cL, 2048, .inr (.inl amt))), (q 4, .inl (cL, 2048, .inr (.inl tag))), (q 5, .inl (cI, 2048, .inl mad)), (q 6, .inl (cI, 2048, .inl spt))]
abbrev wD (q : Nat → Nat) (cI cL : ClassId) (dsp : Nat → Int32) (dow : Nat → Int32) (dam : Nat → Int64) (dtg : Nat → Int64) (sp : Nat) (mk : Nat) (mint : Int64) : va_W := [(q 7, .inr (1, [.ref (q 8), .ref (q 9), .ref (q 10), .ref (q 11), .int (nI sp), .int (nI mk), .long mint])), (q 8, .inl (cI, 16, .inl dsp)), (q 9, .inl (cI, 16, .inl dow)), (q 10, .inl (cL, 16, .inr (.inl dam))), (q 11, .inl (cL, 16, .inr (.inl dtg)))]
abbrev wB (q : Nat → Nat) (cI cL : ClassId) (dep : Nat) (sups : Nat → Int64) (pots : Nat → Int64) (apps : Nat → Int32) (row : Nat) (hgt : Nat) (und : Nat) : va_W := [(q 12, .inr (0, [.int (nI dep), .ref (q 13), .ref (q 14), .ref (q 15), .int (nI row), .int (nI hgt), .int (nI und)])), (q 13, .inl (cL, dep + 1, .inr (.inl sups))), (q 14, .inl (cL, dep + 1, .inr (.inl pots))), (q 15, .inl (cI, dep + 1, .inl apps))]
abbrev wK (q : Nat → Nat) (cI cL : ClassId) (supply : Int64) (pot : Int64) (apl : Int32) (own : Nat → Int32) (amt : Nat → Int64) (tag : Nat → Int64) (mad : Nat → Int32) (spt : Nat → Int32) (made : Nat) (dsp : Nat → Int32) (dow : Nat → Int32) (dam : Nat → Int64) (dtg : Nat → Int64) (sp : Nat) (mk : Nat) (mint : Int64) (dep : Nat) (sups : Nat → Int64) (pots : Nat → Int64) (apps : Nat → Int32) (row : Nat) (hgt : Nat) (und : Nat) : va_W := [(q 0, .inr (3, [.ref (q 1), .ref (q 7), .ref (q 12), .long supply, .long pot, .int apl])), (q 1, .inr (2, [.ref (q 2), .ref (q 3), .ref (q 4), .ref (q 5), .ref (q 6), .int (nI made)])), (q 2, .inl (cI, 2048, .inl own)), (q 3, .inl (cL, 2048, .inr (.inl amt))), (q 4, .inl (cL, 2048, .inr (.inl tag))), (q 5, .inl (cI, 2048, .inl mad)), (q 6, .inl (cI, 2048, .inl spt)), (q 7, .inr (1, [.ref (q 8), .ref (q 9), .ref (q 10), .ref (q 11), .int (nI sp), .int (nI mk), .long mint])), (q 8, .inl (cI, 16, .inl dsp)), (q 9, .inl (cI, 16, .inl dow)), (q 10, .inl (cL, 16, .inr (.inl dam))), (q 11, .inl (cL, 16, .inr (.inl dtg))), (q 12, .inr (0, [.int (nI dep), .ref (q 13), .ref (q 14), .ref (q 15), .int (nI row), .int (nI hgt), .int (nI und)])), (q 13, .inl (cL, dep + 1, .inr (.inl sups))), (q 14, .inl (cL, dep + 1, .inr (.inl pots))), (q 15, .inl (cI, dep + 1, .inl apps))]
-- THE CLASS'S METHODS AS PURE WORDS
abbrev p_has (made : Nat) (x : Int32) : Prop := 0 ≤ x.toInt ∧ x.toInt < (made : Int)
abbrev p_live (spt : Nat → Int32) (made : Nat) (x : Int32) : Prop := p_has made x ∧ spt x.toNatClampNeg = -1
abbrev p_liveOf (own spt : Nat → Int32) (made : Nat) (o x : Int32) : Prop := p_live spt made x ∧ own x.toNatClampNeg = o
abbrev f_amt (amt : Nat → Int64) (made : Nat) (x : Int32) : Int64 := if p_has made x then amt x.toNatClampNeg else 0
/-- how many places below k have a property, as a sum of marks -/
def f_cnt (f : Nat → Bool) : Nat → Nat
  | 0 => 0
  | k + 1 => f_cnt f k + (if f k then 1 else 0)
theorem f_cnt_le (f : Nat → Bool) (k : Nat) : f_cnt f k ≤ k := by
  induction k with
  | zero => exact Nat.le_refl 0
  | succ k ih => unfold f_cnt; split <;> omega
def f_any (f : Nat → Bool) : Nat → Bool
  | 0 => false
  | k + 1 => f_any f k || f k
theorem f_any_iff (f : Nat → Bool) (k : Nat) : f_any f k = true ↔ ∃ j, j < k ∧ f j = true := by
  induction k with
  | zero => simp [f_any]
  | succ k ih =>
    simp only [f_any, Bool.or_eq_true, ih]
    constructor
    · rintro (⟨j, h1, h2⟩ | h)
      · exact ⟨j, by omega, h2⟩
      · exact ⟨k, by omega, h⟩
    · rintro ⟨j, h1, h2⟩
      by_cases h : j = k
      · subst h; exact Or.inr h2
      · exact Or.inl ⟨j, by omega, h2⟩
def f_sum (f : Nat → Int64) : Nat → Int64
  | 0 => 0
  | k + 1 => f_sum f k + f k
abbrev f_lv (own spt : Nat → Int32) (o : Int32) (k : Nat) : Bool := decide (spt k = -1) && decide (own k = o)
/-- the places of a counter are there -/
theorem p_has_nI {made k : Nat} (h : k < made) (hm : made ≤ 2048) : p_has made (nI k) := by
  rw [p_has, nI_toInt (by omega)]; omega
theorem p_live_nI {spt : Nat → Int32} {made k : Nat} (h : k < made) (hm : made ≤ 2048) : p_live spt made (nI k) ↔ spt k = -1 := by
  rw [p_live, nI_clamp (by omega)]
  exact ⟨fun z => z.2, fun z => ⟨p_has_nI h hm, z⟩⟩
theorem p_liveOf_nI {own spt : Nat → Int32} {made k : Nat} {o : Int32} (h : k < made) (hm : made ≤ 2048) : p_liveOf own spt made o (nI k) ↔ f_lv own spt o k = true := by
  rw [p_liveOf, p_live_nI h hm, nI_clamp (by omega)]
  simp [f_lv]
theorem f_amt_nI {amt : Nat → Int64} {made k : Nat} (h : k < made) (hm : made ≤ 2048) : f_amt amt made (nI k) = amt k := by
  rw [f_amt, if_pos (p_has_nI h hm), nI_clamp (by omega)]
theorem f_cnt_t {f : Nat → Bool} {k : Nat} (h : f k = true) : f_cnt f (k + 1) = f_cnt f k + 1 := by rw [f_cnt, if_pos h]
theorem f_cnt_f {f : Nat → Bool} {k : Nat} (h : ¬ f k = true) : f_cnt f (k + 1) = f_cnt f k := by rw [f_cnt, if_neg h]; rfl
theorem p_has_le {made n : Nat} {x : Int32} (h : p_has made x) (hm : made ≤ n) : p_has n x := ⟨h.1, by have := h.2; omega⟩
def f_off (spt : Nat → Int32) (made : Nat) (x h : Int32) : Nat → Int32 := if p_live spt made x then upd spt x.toNatClampNeg h else spt
theorem f_off_t {spt : Nat → Int32} {made : Nat} {x h : Int32} (c : p_live spt made x) : f_off spt made x h = upd spt x.toNatClampNeg h := if_pos c
theorem f_off_f {spt : Nat → Int32} {made : Nat} {x h : Int32} (c : ¬ p_live spt made x) : f_off spt made x h = spt := if_neg c
def f_back (mad : Nat → Int32) (h : Int32) : Nat → Nat
  | 0 => 0
  | k + 1 => if mad k < h then k + 1 else f_back mad h k
theorem f_back_go {mad : Nat → Int32} {h : Int32} {m : Nat} (h0 : 0 < m) (c : ¬ mad (m - 1) < h) : f_back mad h m = f_back mad h (m - 1) := by
  cases m with
  | zero => omega
  | succ k => exact if_neg c
theorem f_back_end {mad : Nat → Int32} {h : Int32} {m : Nat} (c : m = 0 ∨ mad (m - 1) < h) : f_back mad h m = m := by
  cases m with
  | zero => rfl
  | succ k =>
    rcases c with c | c
    · omega
    · exact if_pos c
theorem f_back_le {mad : Nat → Int32} {h : Int32} {m : Nat} : f_back mad h m ≤ m := by
  induction m with
  | zero => exact Nat.le_refl 0
  | succ k ih => rw [f_back]; split <;> omega
def f_unsp (spt : Nat → Int32) (h : Int32) (n : Nat) : Nat → Int32 := fun j => if j < n ∧ ¬ spt j < h then -1 else spt j
theorem f_unsp_0 {spt : Nat → Int32} {h : Int32} : spt = f_unsp spt h 0 := by
  funext j; rw [f_unsp, if_neg (by omega)]
theorem f_unsp_at {spt : Nat → Int32} {h : Int32} {k : Nat} : f_unsp spt h k k = spt k := by rw [f_unsp, if_neg (by omega)]
theorem f_unsp_lt {spt g : Nat → Int32} {h : Int32} {k : Nat} (e : g = f_unsp spt h k) (c : g k < h) : g = f_unsp spt h (k + 1) := by
  subst e
  rw [f_unsp_at] at c
  funext j
  by_cases hj : j = k
  · subst hj; rw [f_unsp_at, f_unsp, if_neg (fun z => z.2 c)]
  · simp only [f_unsp, show (j < k + 1) = (j < k) from by simp; omega]
theorem f_unsp_ge {spt g : Nat → Int32} {h : Int32} {k : Nat} (e : g = f_unsp spt h k) (c : ¬ g k < h) : upd g k (-1) = f_unsp spt h (k + 1) := by
  subst e
  rw [f_unsp_at] at c
  funext j
  by_cases hj : j = k
  · subst hj; rw [upd, if_pos rfl, f_unsp, if_pos ⟨Nat.lt_succ_self _, c⟩]
  · rw [upd, if_neg hj]; simp only [f_unsp, show (j < k + 1) = (j < k) from by simp; omega]
abbrev p_ahead (amt : Nat → Int64) (x y : Int32) : Prop := amt y.toNatClampNeg < amt x.toNatClampNeg ∨ (amt x.toNatClampNeg = amt y.toNatClampNeg ∧ x.toInt < y.toInt)
abbrev p_next (own : Nat → Int32) (amt : Nat → Int64) (spt : Nat → Int32) (made : Nat) (o bh best x : Int32) : Prop := p_liveOf own spt made o x ∧ (¬ p_has made bh ∨ p_ahead amt bh x) ∧ (¬ p_has made best ∨ p_ahead amt x best)
def f_next (own : Nat → Int32) (amt : Nat → Int64) (spt : Nat → Int32) (made : Nat) (o bh : Int32) : Nat → Int32
  | 0 => -1
  | k + 1 => if p_next own amt spt made o bh (f_next own amt spt made o bh k) (nI k) then nI k else f_next own amt spt made o bh k
theorem f_next_t {own : Nat → Int32} {amt : Nat → Int64} {spt : Nat → Int32} {made : Nat} {o bh best : Int32} {k : Nat} (e : best = f_next own amt spt made o bh k) (c : p_next own amt spt made o bh best (nI k)) : nI k = f_next own amt spt made o bh (k + 1) := by
  subst e; rw [f_next, if_pos c]
theorem f_next_f {own : Nat → Int32} {amt : Nat → Int64} {spt : Nat → Int32} {made : Nat} {o bh best : Int32} {k : Nat} (e : best = f_next own amt spt made o bh k) (c : ¬ p_next own amt spt made o bh best (nI k)) : best = f_next own amt spt made o bh (k + 1) := by
  subst e; rw [f_next, if_neg c]
theorem min_nI {a b : Nat} (ha : a < 2 ^ 31) (hb : b < 2 ^ 31) : (if nI b < nI a then nI b else nI a) = nI (min a b) := by
  by_cases h : b < a
  · rw [if_pos ((nI_ltI hb ha).mpr h), Nat.min_eq_right (by omega)]
  · rw [if_neg (fun z => h ((nI_ltI hb ha).mp z)), Nat.min_eq_left (by omega)]
def f_row (row dep : Nat) : Nat := if row < dep then row + 1 else 0
theorem f_row_le {row dep : Nat} : f_row row dep ≤ dep := by unfold f_row; split <;> omega
def f_rowb (row dep n : Nat) : Nat := if n ≤ row then row - n else row + dep + 1 - n
theorem f_rowb_le {row dep n : Nat} (h : row ≤ dep) (hn : n ≤ dep) : f_rowb row dep n ≤ dep := by unfold f_rowb; split <;> omega
theorem f_rowb_eq {row dep n : Nat} (h : n ≤ row + dep + 1) : nI row - nI n + nI dep + nI 1 = nI (row + dep + 1 - n) := by
  rw [← pk_sub h, ← nI_add, ← nI_add, Int32.sub_eq_add_neg, Int32.sub_eq_add_neg]
  generalize nI row = a; generalize nI dep = b; generalize -nI n = d; generalize nI 1 = e
  simp only [Int32.add_assoc, Int32.add_comm d]
