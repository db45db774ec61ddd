abbrev wM (q : Nat → Nat) (cI cL : ClassId) (own : Nat → Int32) (amt : Nat → Int64) (tag : Nat → Int64) (mad : Nat → Int32) (spt : Nat → Int32) (made : Nat) (dsp : Nat → Int32) (dow : Nat → Int32) (dam : Nat → Int64) (dtg : Nat → Int64) (sp : Nat) (mk : Nat) (mint : Int64) (dep : Nat) (hgt : Nat) (und : Nat) (supply : Int64) (pot : Int64) (apl : Int32) (fes : Nat → Int64) (mns : Nat → Int64) (tms : Nat → Int32) (pic : Nat → Int32) : va_W := [(q 0, .inr (4, [.int (nI 0), .int (nI dep), .int (nI made), .ref (q 1), .ref (q 2), .ref (q 3), .ref (q 4), .ref (q 5), .int (nI hgt), .int (nI und), .long pot, .long supply, .int apl, .ref (q 6), .ref (q 7), .ref (q 8), .int (nI sp), .ref (q 9), .int (nI mk), .ref (q 10), .ref (q 11), .ref (q 12), .long mint, .ref (q 13)])), (q 1, .inl (cI, 2048, .inl own)), (q 2, .inl (cL, 2048, .inr (.inl amt))), (q 3, .inl (cL, 2048, .inr (.inl tag))), (q 4, .inl (cI, 2048, .inl mad)), (q 5, .inl (cI, 2048, .inl spt)), (q 6, .inl (cL, 25000, .inr (.inl fes))), (q 7, .inl (cL, 25000, .inr (.inl mns))), (q 8, .inl (cI, 25000, .inl tms)), (q 9, .inl (cI, 16, .inl dsp)), (q 10, .inl (cI, 16, .inl dow)), (q 11, .inl (cL, 16, .inr (.inl dam))), (q 12, .inl (cL, 16, .inr (.inl dtg))), (q 13, .inl (cI, 16, .inl pic))]
theorem ob_goodS {c : Cond} {own : String} {idx : Nat} {y : MethodName} (h1 : Cond.methodLink own idx y ∈ ob_T) (h2 : Cond.static y ∈ ob_T) (h4 : Cond.initialized own ∈ ob_T) (hc : c ∈ ob_T) : GoodIn ob_T (wsS own idx y (c :: ob_T)) := fun w hw => by
  have h : w ∈ ob_T := by
    simp only [wsS, List.mem_append, List.mem_cons, List.not_mem_nil, or_false] at hw
    rcases hw with (h | h | h) | h | h
    · rw [h]; exact h1
    · rw [h]; exact h2
    · rw [h]; exact h4
    · rw [h]; exact hc
    · exact h
  exact ⟨h, good_of_word (ob_T_good w h)⟩
theorem ob_preS {s : State} {H : Heap} {As : List Value} : PreS s H (va_Pc As (fun _ => True)) As := ⟨fun _ _ _ _ h => ⟨h.1, trivial⟩, fun _ _ _ => ⟨rfl, trivial⟩⟩
-- THE REFERENCE'S METHODS AS PURE WORDS
theorem any_s {f : Nat → Bool} {k : Nat} : f_any f (k + 1) = true ↔ f_any f k = true ∨ f k = true := by rw [f_any, Bool.or_eq_true]
theorem b2_ne {P : Prop} [Decidable P] (h : ¬ (if P then nI 1 else nI 0) = (0 : Int32)) : P := by
  by_cases c : P
  · exact c
  · exact absurd (by rw [if_neg c]; decide) h
theorem b2_eq {P : Prop} [Decidable P] (h : (if P then nI 1 else nI 0) = (0 : Int32)) : ¬ P := by
  intro c
  rw [if_pos c] at h
  exact absurd h (by decide)
theorem b2_z {P : Prop} [Decidable P] : narrow .boolean (.int (if P then nI 1 else nI 0)) = .int (if P then nI 1 else nI 0) := by
  by_cases c : P
  · rw [if_pos c]; decide
  · rw [if_neg c]; decide
def f_sets (spt dsp : Nat → Int32) (h : Int32) : Nat → Nat → Int32
  | 0 => spt
  | k + 1 => upd (f_sets spt dsp h k) (dsp k).toNatClampNeg h
theorem nI_subx {x : Int32} {a : Nat} (h0 : 0 ≤ x.toInt) (h : x.toNatClampNeg ≤ a) : nI a - x = nI (a - x.toNatClampNeg) := by
  conv => lhs; rw [nI_self h0]
  exact pk_sub h
def f_dn (x : Int64) (f : Nat → Int64) (b : Nat) : Nat → Int64
  | 0 => x
  | i + 1 => f_dn x f b i - f (b + i)
def f_dnI (x : Int32) (f : Nat → Int32) (b : Nat) : Nat → Int32
  | 0 => x
  | i + 1 => f_dnI x f b i - f (b + i)
theorem f_app_hi {f : Nat → Int32} {b : Nat} {g : Nat → Int32} {i j : Nat} (h : b + i ≤ j) : f_app f b g i j = f j := by
  induction i with
  | zero => rfl
  | succ i ih => rw [f_app, upd, if_neg (by omega), ih (by omega)]
theorem f_appL_hi {f : Nat → Int64} {b : Nat} {g : Nat → Int64} {i j : Nat} (h : b + i ≤ j) : f_appL f b g i j = f j := by
  induction i with
  | zero => rfl
  | succ i ih => rw [f_appL, vp_updL, if_neg (by omega), ih (by omega)]
theorem f_appL_lo {f : Nat → Int64} {b : Nat} {g : Nat → Int64} {i j : Nat} (h : j < b) : f_appL f b g i j = f j := by
  induction i with
  | zero => rfl
  | succ i ih => rw [f_appL, vp_updL, if_neg (by omega), ih]
theorem upd_self {g : Nat → Int32} {k : Nat} : upd g k (g k) = g := by
  funext j
  by_cases h : j = k
  · subst h; exact if_pos rfl
  · exact if_neg h
theorem f_unsp_lt' {spt g : Nat → Int32} {h : Int32} {k : Nat} (e : g = f_unsp spt h k) (c : g k < h) : upd g k (g k) = f_unsp spt h (k + 1) := by
  rw [upd_self]; exact f_unsp_lt e c
theorem f_lv_iff {own spt : Nat → Int32} {o : Int32} {k : Nat} : f_lv own spt o k = true ↔ spt k = -1 ∧ own k = o := by simp [f_lv]
theorem f_bal_t {f : Nat → Bool} {amt : Nat → Int64} {k : Nat} {s : Int64} (e : s = f_bal f amt k) (h : f k = true) : s + amt k = f_bal f amt (k + 1) := by rw [f_bal, if_pos h, e]
theorem f_bal_f {f : Nat → Bool} {amt : Nat → Int64} {k : Nat} {s : Int64} (e : s = f_bal f amt k) (h : ¬ f k = true) : s + 0 = f_bal f amt (k + 1) := by rw [f_bal, if_neg h, e, Int64.add_zero]
theorem f_nth_neg {f : Nat → Bool} {i : Int32} (h : i.toInt < 0) : ∀ n k : Nat, n + k < 2 ^ 31 → f_nth f i n k = -1
  | 0, _, _ => rfl
  | n + 1, k, hk => by
    rw [f_nth, if_neg, f_nth_neg h n (k + 1) (by omega)]
    rintro ⟨-, h2⟩
    have := f_cnt_le f k
    rw [← h2, nI_toInt (by omega)] at h
    omega
theorem i_dec {x : Int32} (h : 0 < x.toInt) : (x + (-1)).toInt = x.toInt - 1 := by
  have h2 := x.toInt_lt
  rw [Int32.toInt_add, show ((-1 : Int32)).toInt = -1 by decide]
  rw [Int.bmod_eq_of_le] <;> omega
abbrev p_free (own spt pic : Nat → Int32) (o : Int32) (m k : Nat) : Prop := f_lv own spt o k = true ∧ ¬ f_any (fun i => decide (pic i = nI k)) m = true
abbrev p_best (own : Nat → Int32) (amt : Nat → Int64) (spt pic : Nat → Int32) (o : Int32) (m : Nat) (best : Int32) (k : Nat) : Prop := p_free own spt pic o m k ∧ (best.toInt < 0 ∨ amt best.toNatClampNeg < amt k)
def f_best (own : Nat → Int32) (amt : Nat → Int64) (spt pic : Nat → Int32) (o : Int32) (m : Nat) : Nat → Int32
  | 0 => -1
  | k + 1 => if p_best own amt spt pic o m (f_best own amt spt pic o m k) k then nI k else f_best own amt spt pic o m k
theorem f_best_t {own : Nat → Int32} {amt : Nat → Int64} {spt pic : Nat → Int32} {o : Int32} {m : Nat} {best : Int32} {k : Nat} (e : best = f_best own amt spt pic o m k) (c : p_best own amt spt pic o m best k) : nI k = f_best own amt spt pic o m (k + 1) := by
  subst e; rw [f_best, if_pos c]
theorem f_best_f {own : Nat → Int32} {amt : Nat → Int64} {spt pic : Nat → Int32} {o : Int32} {m : Nat} {best : Int32} {k : Nat} (e : best = f_best own amt spt pic o m k) (c : ¬ p_best own amt spt pic o m best k) : best = f_best own amt spt pic o m (k + 1) := by
  subst e; rw [f_best, if_neg c]
theorem f_best_in (own : Nat → Int32) (amt : Nat → Int64) (spt pic : Nat → Int32) (o : Int32) (m k : Nat) : f_best own amt spt pic o m k = -1 ∨ ∃ b, b < k ∧ f_best own amt spt pic o m k = nI b ∧ p_free own spt pic o m b := by
  induction k with
  | zero => exact Or.inl rfl
  | succ k ih =>
    rw [f_best]
    split
    · rename_i h; exact Or.inr ⟨k, Nat.lt_succ_self _, rfl, h.1⟩
    · rcases ih with h | ⟨b, h1, h2, h3⟩
      · exact Or.inl h
      · exact Or.inr ⟨b, by omega, h2, h3⟩
theorem cnt_1 {c : Nat} (h : c < 2 ^ 31 - 1) : (nI c).toInt64 + 1 = (nI (c + 1)).toInt64 := by
  rw [nI_l (by omega), nI_l (by omega), lN_1]
