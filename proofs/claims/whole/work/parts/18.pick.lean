-- PICKING: the book's next and the reference's best are the same
abbrev p_beh (amt : Nat → Int64) (made : Nat) (bh : Int32) (y : Nat) : Prop := ¬ p_has made bh ∨ p_ahead amt bh (nI y)
theorem p_ahead_tr {amt : Nat → Int64} {x y z : Int32} (h1 : p_ahead amt x y) (h2 : p_ahead amt y z) : p_ahead amt x z := by
  rcases h1 with a | ⟨a, a'⟩ <;> rcases h2 with b | ⟨b, b'⟩
  · exact Or.inl (Int64.lt_trans b a)
  · exact Or.inl (by rw [← b]; exact a)
  · exact Or.inl (by rw [a]; exact b)
  · exact Or.inr ⟨a.trans b, by omega⟩
theorem p_ahead_nI {amt : Nat → Int64} {x y : Nat} (hx : x < 2048) (hy : y < 2048) : p_ahead amt (nI x) (nI y) ↔ amt y < amt x ∨ (amt x = amt y ∧ x < y) := by
  rw [p_ahead, nI_clamp (by omega), nI_clamp (by omega), nI_toInt (by omega), nI_toInt (by omega)]
  constructor
  · rintro (h | ⟨h1, h2⟩)
    · exact Or.inl h
    · exact Or.inr ⟨h1, by omega⟩
  · rintro (h | ⟨h1, h2⟩)
    · exact Or.inl h
    · exact Or.inr ⟨h1, by omega⟩
theorem p_ahead_tot {amt : Nat → Int64} {x y : Nat} (hx : x < 2048) (hy : y < 2048) (h : x ≠ y) (hn : ¬ p_ahead amt (nI x) (nI y)) : p_ahead amt (nI y) (nI x) := by
  rw [p_ahead_nI hx hy] at hn
  rw [p_ahead_nI hy hx]
  have h1 : amt x ≤ amt y := Int64.not_lt.mp (fun z => hn (Or.inl z))
  by_cases e : amt x = amt y
  · exact Or.inr ⟨e.symm, by
      rcases Nat.lt_or_ge x y with z | z
      · exact absurd (Or.inr ⟨e, z⟩) hn
      · omega⟩
  · exact Or.inl (Int64.lt_of_le_of_ne h1 e)
theorem p_ahead_irr {amt : Nat → Int64} {x : Int32} : ¬ p_ahead amt x x := by
  rintro (h | ⟨-, h⟩)
  · exact Int64.lt_irrefl h
  · omega
theorem not_has_m1 {made : Nat} : ¬ p_has made (-1) := by
  rintro ⟨h, -⟩; exact absurd h (by decide)
theorem f_next_spec (own : Nat → Int32) (amt : Nat → Int64) (spt : Nat → Int32) {made : Nat} (hm : made ≤ 2048) (o bh : Int32) : ∀ k, k ≤ made →
    (f_next own amt spt made o bh k = -1 ∧ ∀ y, y < k → f_lv own spt o y = true → ¬ p_beh amt made bh y) ∨
    (∃ b, b < k ∧ f_next own amt spt made o bh k = nI b ∧ f_lv own spt o b = true ∧ p_beh amt made bh b ∧ ∀ y, y < k → f_lv own spt o y = true → p_beh amt made bh y → y = b ∨ p_ahead amt (nI b) (nI y)) := by
  intro k
  induction k with
  | zero => exact fun _ => Or.inl ⟨rfl, fun y h => absurd h (Nat.not_lt_zero y)⟩
  | succ k ih =>
    intro hk
    have hL : p_liveOf own spt made o (nI k) ↔ f_lv own spt o k = true := p_liveOf_nI (by omega) hm
    rw [f_next]
    rcases ih (by omega) with ⟨e, h⟩ | ⟨b, hb, e, hLb, hBb, hmax⟩
    · by_cases c : p_next own amt spt made o bh (f_next own amt spt made o bh k) (nI k)
      · rw [if_pos c]
        refine Or.inr ⟨k, Nat.lt_succ_self k, rfl, hL.mp c.1, c.2.1, fun y hy h1 h2 => ?_⟩
        by_cases e2 : y = k
        · exact Or.inl e2
        · exact absurd h2 (h y (by omega) h1)
      · rw [if_neg c]
        refine Or.inl ⟨e, fun y hy h1 h2 => ?_⟩
        by_cases e2 : y = k
        · subst e2
          exact c ⟨hL.mpr h1, h2, Or.inl (by rw [e]; exact not_has_m1)⟩
        · exact h y (by omega) h1 h2
    · by_cases c : p_next own amt spt made o bh (f_next own amt spt made o bh k) (nI k)
      · rw [if_pos c]
        have hab : p_ahead amt (nI k) (nI b) := by
          rcases c.2.2 with z | z
          · exact absurd (by rw [e]; exact p_has_nI (by omega) hm) z
          · rw [e] at z; exact z
        refine Or.inr ⟨k, Nat.lt_succ_self k, rfl, hL.mp c.1, c.2.1, fun y hy h1 h2 => ?_⟩
        by_cases e2 : y = k
        · exact Or.inl e2
        · rcases hmax y (by omega) h1 h2 with e3 | z
          · exact Or.inr (by rw [e3]; exact hab)
          · exact Or.inr (p_ahead_tr hab z)
      · rw [if_neg c]
        refine Or.inr ⟨b, by omega, e, hLb, hBb, fun y hy h1 h2 => ?_⟩
        by_cases e2 : y = k
        · subst e2
          exact Or.inr (p_ahead_tot (by omega) (by omega) (by omega) (fun z => c ⟨hL.mpr h1, h2, Or.inr (by rw [e]; exact z)⟩))
        · exact hmax y (by omega) h1 h2
theorem nI_inj {a b : Nat} (ha : a < 2 ^ 31) (hb : b < 2 ^ 31) (h : nI a = nI b) : a = b := (nI_eq ha hb).mp h
theorem f_pk_beh (own : Nat → Int32) (amt : Nat → Int64) (spt : Nat → Int32) {made : Nat} (hm : made ≤ 2048) (o : Int32) : ∀ j, (∀ i, i < j → f_pk own amt spt made o (i + 1) ≠ -1) → ∀ y, y < made → f_lv own spt o y = true →
    (p_beh amt made (f_pk own amt spt made o j) y ↔ ∀ i, i < j → f_pk own amt spt made o (i + 1) ≠ nI y) := by
  intro j
  induction j with
  | zero => exact fun _ y _ _ => ⟨fun _ i h => absurd h (Nat.not_lt_zero i), fun _ => Or.inl not_has_m1⟩
  | succ j ih =>
    intro hv y hy hL
    have ih := ih (fun i h => hv i (by omega)) y hy hL
    rcases f_next_spec own amt spt hm o (f_pk own amt spt made o j) made (Nat.le_refl _) with ⟨e, -⟩ | ⟨b, hb, e, hLb, hBb, hmax⟩
    · exact absurd e (hv j (Nat.lt_succ_self j))
    · have e : f_pk own amt spt made o (j + 1) = nI b := e
      rw [e]
      constructor
      · intro h i hi
        have hab : p_ahead amt (nI b) (nI y) := h.resolve_left (fun z => z (p_has_nI (by omega) hm))
        by_cases e2 : i = j
        · subst e2
          rw [e]
          intro z
          rw [z] at hab
          exact p_ahead_irr hab
        · exact ih.mp (by
            rcases hBb with z | z
            · exact Or.inl z
            · exact Or.inr (p_ahead_tr z hab)) i (by omega)
      · intro h
        have h1 := ih.mpr (fun i hi => h i (by omega))
        rcases hmax y hy hL h1 with z | z
        · exact absurd (by rw [e, z]) (h j (Nat.lt_succ_self j))
        · exact Or.inr z
theorem f_best_pk (own : Nat → Int32) (amt : Nat → Int64) (spt : Nat → Int32) {made : Nat} (hm : made ≤ 2048) (o : Int32) {j : Nat} {c9 : Nat → Int32} (hv : ∀ i, i < j → f_pk own amt spt made o (i + 1) ≠ -1) (hc : ∀ i, i < j → c9 i = f_pk own amt spt made o (i + 1)) : ∀ k, k ≤ made →
    f_best own amt spt c9 o j k = f_next own amt spt made o (f_pk own amt spt made o j) k := by
  intro k
  induction k with
  | zero => exact fun _ => rfl
  | succ k ih =>
    intro hk
    have ih := ih (by omega)
    have hfree : p_free own spt c9 o j k ↔ p_liveOf own spt made o (nI k) ∧ p_beh amt made (f_pk own amt spt made o j) k := by
      rw [p_liveOf_nI (by omega) hm]
      constructor
      · rintro ⟨h1, h2⟩
        refine ⟨h1, (f_pk_beh own amt spt hm o j hv k (by omega) h1).mpr (fun i hi z => h2 ?_)⟩
        exact (f_any_iff _ _).mpr ⟨i, hi, by simpa using (hc i hi).trans z⟩
      · rintro ⟨h1, h2⟩
        refine ⟨h1, fun z => ?_⟩
        obtain ⟨i, hi, h3⟩ := (f_any_iff _ _).mp z
        exact (f_pk_beh own amt spt hm o j hv k (by omega) h1).mp h2 i hi ((hc i hi).symm.trans (by simpa using h3))
    have hlast : ((f_best own amt spt c9 o j k).toInt < 0 ∨ amt (f_best own amt spt c9 o j k).toNatClampNeg < amt k) ↔ (¬ p_has made (f_best own amt spt c9 o j k) ∨ p_ahead amt (nI k) (f_best own amt spt c9 o j k)) := by
      rcases f_best_in own amt spt c9 o j k with e | ⟨b, hb, e, -⟩
      · rw [e]
        exact ⟨fun _ => Or.inl not_has_m1, fun _ => Or.inl (by decide)⟩
      · rw [e, p_ahead_nI (by omega) (by omega), nI_toInt (by omega), nI_clamp (by omega)]
        constructor
        · rintro (h | h)
          · omega
          · exact Or.inr (Or.inl h)
        · rintro (h | h | ⟨-, h⟩)
          · exact absurd (p_has_nI (by omega) hm) h
          · exact Or.inr h
          · omega
    have hc2 : p_best own amt spt c9 o j (f_best own amt spt c9 o j k) k ↔ p_next own amt spt made o (f_pk own amt spt made o j) (f_best own amt spt c9 o j k) (nI k) := by
      rw [p_best, hfree, hlast, p_next, and_assoc]
    rw [f_best, f_next, ← ih]
    by_cases c : p_best own amt spt c9 o j (f_best own amt spt c9 o j k) k
    · rw [if_pos c, if_pos (hc2.mp c)]
    · rw [if_neg c, if_neg (fun z => c (hc2.mpr z))]
theorem f_best_pk' {own : Nat → Int32} {amt : Nat → Int64} {spt : Nat → Int32} {made : Nat} (hm : made ≤ 2048) {o : Int32} {j : Nat} {c9 : Nat → Int32} (hv : ∀ i, i < j → f_pk own amt spt made o (i + 1) ≠ -1) (hc : ∀ i, i < j → c9 i = f_pk own amt spt made o (i + 1)) : f_best own amt spt c9 o j made = f_pk own amt spt made o (j + 1) := f_best_pk own amt spt hm o hv hc made (Nat.le_refl _)
theorem f_app_at {f : Nat → Int32} {b : Nat} {g : Nat → Int32} {i x : Nat} (h : b ≤ x) (h2 : x < b + i) : f_app f b g i x = g (x - b) := by
  induction i with
  | zero => omega
  | succ i ih =>
    rw [f_app, upd]
    by_cases e : x = b + i
    · rw [if_pos e, e, show b + i - b = i by omega]
    · rw [if_neg e, ih (by omega)]
theorem f_appL_at {f : Nat → Int64} {b : Nat} {g : Nat → Int64} {i x : Nat} (h : b ≤ x) (h2 : x < b + i) : f_appL f b g i x = g (x - b) := by
  induction i with
  | zero => omega
  | succ i ih =>
    rw [f_appL, vp_updL]
    by_cases e : x = b + i
    · rw [if_pos e, e, show b + i - b = i by omega]
    · rw [if_neg e, ih (by omega)]
theorem lt1 {a : Int64} (h : 1 ≤ a) : 0 < a := by
  rw [Int64.le_iff_toInt_le] at h
  rw [Int64.lt_iff_toInt_lt]
  have h1 : (1 : Int64).toInt = 1 := by decide
  have h0 : (0 : Int64).toInt = 0 := by decide
  omega
theorem bst_neg {own : Nat → Int32} {amt : Nat → Int64} {spt pic : Nat → Int32} {o : Int32} {m k : Nat} (h : (f_best own amt spt pic o m k).toInt < 0) (hk : k ≤ 2048 := by omega) : f_best own amt spt pic o m k = -1 := by
  rcases f_best_in own amt spt pic o m k with e | ⟨b, hb, e, -⟩
  · exact e
  · rw [e, nI_toInt (by omega)] at h; omega
theorem bst_pos {own : Nat → Int32} {amt : Nat → Int64} {spt pic : Nat → Int32} {o : Int32} {m k : Nat} (h : ¬ (f_best own amt spt pic o m k).toInt < 0) : ∃ b, b < k ∧ f_best own amt spt pic o m k = nI b := by
  rcases f_best_in own amt spt pic o m k with e | ⟨b, hb, e, -⟩
  · rw [e] at h; exact absurd (by decide) h
  · exact ⟨b, hb, e⟩
theorem b2_eqv {P : Prop} [Decidable P] {x : Int32} (h : x = if P then nI 1 else nI 0) (c : x = 0) : ¬ P := b2_eq (h.symm.trans c)
theorem b2_nev {P : Prop} [Decidable P] {x : Int32} (h : x = if P then nI 1 else nI 0) (c : ¬ x = 0) : P := b2_ne (fun z => c (h.trans z))
