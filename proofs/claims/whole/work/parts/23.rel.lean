theorem f_dn_sub {x d : Int64} {f : Nat → Int64} {b : Nat} : ∀ {i : Nat}, f_dn (x - d) f b i = f_dn x f b i - d
  | 0 => rfl
  | i + 1 => by
    rw [f_dn, f_dn, f_dn_sub]
    generalize f_dn x f b i = a; generalize f (b + i) = c
    grind
theorem f_dn_sp1 {x : Int64} {f : Nat → Int64} {b : Nat} : ∀ {k : Nat}, f_dn x f b (k + 1) = f_dn x f (b + 1) k - f b
  | 0 => rfl
  | k + 1 => by
    rw [f_dn, f_dn_sp1, f_dn, show b + 1 + k = b + (k + 1) by omega]
    generalize f_dn x f (b + 1) k = a; generalize f (b + (k + 1)) = c; generalize f b = d
    grind
theorem f_dn_congr {x : Int64} {f g : Nat → Int64} {b : Nat} : ∀ {i : Nat}, (∀ j, b ≤ j → j < b + i → f j = g j) → f_dn x f b i = f_dn x g b i
  | 0, _ => rfl
  | i + 1, h => by rw [f_dn, f_dn, f_dn_congr (fun j h1 h2 => h j h1 (by omega)), h (b + i) (by omega) (by omega)]
theorem f_dn_add {x d : Int64} {f : Nat → Int64} {b : Nat} : ∀ {i : Nat}, f_dn (x + d) f b i = f_dn x f b i + d
  | 0 => rfl
  | i + 1 => by
    rw [f_dn, f_dn, f_dn_add]
    generalize f_dn x f b i = a; generalize f (b + i) = c
    grind
theorem f_dn_split {x : Int64} {f : Nat → Int64} {b k : Nat} : ∀ {i : Nat}, f_dn x f b (i + k) = f_dn (f_dn x f (b + i) k) f b i
  | 0 => by rw [Nat.zero_add, Nat.add_zero]; rfl
  | i + 1 => by
    have h1 : f_dn x f b (i + 1 + k) = f_dn x f b (i + (k + 1)) := by rw [show i + 1 + k = i + (k + 1) by omega]
    rw [h1, f_dn_split (i := i) (k := k + 1)]
    have h2 : f_dn x f (b + i) (k + 1) = f_dn x f (b + (i + 1)) k - f (b + i) := by
      have h3 := f_dn_sp1 (x := x) (f := f) (b := b + i) (k := k)
      rw [h3, show b + i + 1 = b + (i + 1) by omega]
    rw [h2, f_dn_sub]
    rfl
theorem f_dn_apply {x d : Int64} {f : Nat → Int64} {h n : Nat} (hn : n ≤ h) : f_dn (x + d) (vp_updL f h (f h + d)) (h - n) (n + 1) = f_dn x f (h - n) (n + 1) := by
  rw [f_dn, f_dn, f_dn_congr (f := vp_updL f h (f h + d)) (g := f) (fun j h1 h2 => if_neg (by omega)), f_dn_add, show h - n + n = h by omega, show vp_updL f h (f h + d) h = f h + d from if_pos rfl]
  generalize f_dn x f (h - n) n = a; generalize f h = c
  grind
theorem f_dn_close {x : Int64} {f : Nat → Int64} {h n : Nat} (hn : n ≤ h) : f_dn x (vp_updL f (h + 1) 0) (h + 1 - (n + 1)) (n + 1 + 1) = f_dn x f (h - n) (n + 1) := by
  rw [show h + 1 - (n + 1) = h - n by omega, f_dn, show h - n + (n + 1) = h + 1 by omega, show vp_updL f (h + 1) 0 (h + 1) = 0 from if_pos rfl, f_dn_congr (f := vp_updL f (h + 1) 0) (g := f) (fun j h1 h2 => if_neg (by omega))]
  generalize f_dn x f (h - n) (n + 1) = a
  grind
theorem f_dn_close0 {x : Int64} {f : Nat → Int64} {h : Nat} : f_dn x (vp_updL f (h + 1) 0) (h + 1 - 0) (0 + 1) = x := by
  show f_dn x (vp_updL f (h + 1) 0) (h + 1) 1 = x
  rw [f_dn, show vp_updL f (h + 1) 0 (h + 1 + 0) = 0 from if_pos rfl, f_dn]
  grind
theorem f_dn_undo {x : Int64} {f : Nat → Int64} {h n m : Nat} (hn : n + m ≤ h) : f_dn (f_dn x f (h - n) (n + 1)) (f_appL f (h - n) (fun _ => 0) (n + 1)) (h - n - m) (m + 1) = f_dn x f (h - (n + m)) (n + m + 1) := by
  rw [f_dn, f_dn_congr (g := f) (fun j h1 h2 => f_appL_lo (by omega)), show h - n - m + m = h - n by omega, f_appL_at (Nat.le_refl _) (by omega), show n + m + 1 = m + (n + 1) by omega, f_dn_split (i := m) (k := n + 1), show h - (n + m) + m = h - n by omega, show h - (n + m) = h - n - m by omega]
  generalize f_dn (f_dn x f (h - n) (n + 1)) f (h - n - m) m = a
  grind
theorem f_dnI_sub {x d : Int32} {f : Nat → Int32} {b : Nat} : ∀ {i : Nat}, f_dnI (x - d) f b i = f_dnI x f b i - d
  | 0 => rfl
  | i + 1 => by
    rw [f_dnI, f_dnI, f_dnI_sub]
    generalize f_dnI x f b i = a; generalize f (b + i) = c
    grind
theorem f_dnI_sp1 {x : Int32} {f : Nat → Int32} {b : Nat} : ∀ {k : Nat}, f_dnI x f b (k + 1) = f_dnI x f (b + 1) k - f b
  | 0 => rfl
  | k + 1 => by
    rw [f_dnI, f_dnI_sp1, f_dnI, show b + 1 + k = b + (k + 1) by omega]
    generalize f_dnI x f (b + 1) k = a; generalize f (b + (k + 1)) = c; generalize f b = d
    grind
theorem f_dnI_congr {x : Int32} {f g : Nat → Int32} {b : Nat} : ∀ {i : Nat}, (∀ j, b ≤ j → j < b + i → f j = g j) → f_dnI x f b i = f_dnI x g b i
  | 0, _ => rfl
  | i + 1, h => by rw [f_dnI, f_dnI, f_dnI_congr (fun j h1 h2 => h j h1 (by omega)), h (b + i) (by omega) (by omega)]
theorem f_dnI_add {x d : Int32} {f : Nat → Int32} {b : Nat} : ∀ {i : Nat}, f_dnI (x + d) f b i = f_dnI x f b i + d
  | 0 => rfl
  | i + 1 => by
    rw [f_dnI, f_dnI, f_dnI_add]
    generalize f_dnI x f b i = a; generalize f (b + i) = c
    grind
theorem f_dnI_split {x : Int32} {f : Nat → Int32} {b k : Nat} : ∀ {i : Nat}, f_dnI x f b (i + k) = f_dnI (f_dnI x f (b + i) k) f b i
  | 0 => by rw [Nat.zero_add, Nat.add_zero]; rfl
  | i + 1 => by
    have h1 : f_dnI x f b (i + 1 + k) = f_dnI x f b (i + (k + 1)) := by rw [show i + 1 + k = i + (k + 1) by omega]
    rw [h1, f_dnI_split (i := i) (k := k + 1)]
    have h2 : f_dnI x f (b + i) (k + 1) = f_dnI x f (b + (i + 1)) k - f (b + i) := by
      have h3 := f_dnI_sp1 (x := x) (f := f) (b := b + i) (k := k)
      rw [h3, show b + i + 1 = b + (i + 1) by omega]
    rw [h2, f_dnI_sub]
    rfl
theorem f_dnI_apply {x d : Int32} {f : Nat → Int32} {h n : Nat} (hn : n ≤ h) : f_dnI (x + d) (upd f h (f h + d)) (h - n) (n + 1) = f_dnI x f (h - n) (n + 1) := by
  rw [f_dnI, f_dnI, f_dnI_congr (f := upd f h (f h + d)) (g := f) (fun j h1 h2 => if_neg (by omega)), f_dnI_add, show h - n + n = h by omega, show upd f h (f h + d) h = f h + d from if_pos rfl]
  generalize f_dnI x f (h - n) n = a; generalize f h = c
  grind
theorem f_dnI_close {x : Int32} {f : Nat → Int32} {h n : Nat} (hn : n ≤ h) : f_dnI x (upd f (h + 1) 0) (h + 1 - (n + 1)) (n + 1 + 1) = f_dnI x f (h - n) (n + 1) := by
  rw [show h + 1 - (n + 1) = h - n by omega, f_dnI, show h - n + (n + 1) = h + 1 by omega, show upd f (h + 1) 0 (h + 1) = 0 from if_pos rfl, f_dnI_congr (f := upd f (h + 1) 0) (g := f) (fun j h1 h2 => if_neg (by omega))]
  generalize f_dnI x f (h - n) (n + 1) = a
  grind
theorem f_dnI_close0 {x : Int32} {f : Nat → Int32} {h : Nat} : f_dnI x (upd f (h + 1) 0) (h + 1 - 0) (0 + 1) = x := by
  show f_dnI x (upd f (h + 1) 0) (h + 1) 1 = x
  rw [f_dnI, show upd f (h + 1) 0 (h + 1 + 0) = 0 from if_pos rfl, f_dnI]
  grind
theorem f_dnI_undo {x : Int32} {f : Nat → Int32} {h n m : Nat} (hn : n + m ≤ h) : f_dnI (f_dnI x f (h - n) (n + 1)) (f_app f (h - n) (fun _ => 0) (n + 1)) (h - n - m) (m + 1) = f_dnI x f (h - (n + m)) (n + m + 1) := by
  rw [f_dnI, f_dnI_congr (g := f) (fun j h1 h2 => f_app_lo (by omega)), show h - n - m + m = h - n by omega, f_app_at (Nat.le_refl _) (by omega), show n + m + 1 = m + (n + 1) by omega, f_dnI_split (i := m) (k := n + 1), show h - (n + m) + m = h - n by omega, show h - (n + m) = h - n - m by omega]
  generalize f_dnI (f_dnI x f (h - n) (n + 1)) f (h - n - m) m = a
  grind
theorem f_rowb_0 {row dep : Nat} : f_rowb row dep 0 = row := by rw [f_rowb, if_pos (Nat.zero_le _)]; rfl
theorem f_rowb_row {row dep k : Nat} (h : row ≤ dep) (hk : k + 1 ≤ dep) : f_rowb (f_row row dep) dep (k + 1) = f_rowb row dep k := by
  unfold f_rowb f_row; split <;> split <;> (try split) <;> omega
theorem f_rowb_ne {row dep k : Nat} (h : row ≤ dep) (hk : k + 1 ≤ dep) : f_rowb row dep k ≠ f_row row dep := by
  unfold f_rowb f_row; split <;> split <;> omega
theorem f_rowb_add {row dep n m : Nat} (h : row ≤ dep) (hk : n + m ≤ dep) : f_rowb (f_rowb row dep n) dep m = f_rowb row dep (n + m) := by
  unfold f_rowb; split <;> split <;> (try split) <;> omega
/-- THE SIMULATION: what the book's object and the model's hold of each other, beyond the values that are the same -/
def li_D (spt : Nat → Int32) (made : Nat) (dsp ds2 : Nat → Int32) (sp : Nat) : Prop := (∀ i, i < sp → dsp i = ds2 i) ∧ (∀ i, i < sp → p_live spt made (dsp i)) ∧ (∀ i j, i < sp → j < sp → dsp i = dsp j → i = j)
def li_S (supply pot : Int64) (apl : Int32) (dep : Nat) (sups pots : Nat → Int64) (apps : Nat → Int32) (row hgt und : Nat) (fes mns : Nat → Int64) (tms : Nat → Int32) : Prop := ∀ n, n ≤ und →
  sups (f_rowb row dep n) = f_dn supply mns (hgt - n) (n + 1) ∧ pots (f_rowb row dep n) = f_dn pot fes (hgt - n) (n + 1) ∧ apps (f_rowb row dep n) = f_dnI apl tms (hgt - n) (n + 1)
def li_V (spt : Nat → Int32) : Prop := ∀ j, spt j = -1 ∨ 0 ≤ (spt j).toInt
theorem li_D_0 {spt : Nat → Int32} {made : Nat} {dsp ds2 : Nat → Int32} : li_D spt made dsp ds2 0 := ⟨fun i h => absurd h (Nat.not_lt_zero i), fun i h => absurd h (Nat.not_lt_zero i), fun i _ h => absurd h (Nat.not_lt_zero i)⟩
theorem li_D_any {spt : Nat → Int32} {made : Nat} {dsp ds2 : Nat → Int32} {sp : Nat} (h : li_D spt made dsp ds2 sp) {x : Int32} : f_any (fun j => decide (ds2 j = x)) sp = true ↔ f_any (fun j => decide (dsp j = x)) sp = true := by
  rw [f_any_iff, f_any_iff]
  exact ⟨fun ⟨j, h1, h2⟩ => ⟨j, h1, by rw [h.1 j h1]; exact h2⟩, fun ⟨j, h1, h2⟩ => ⟨j, h1, by rw [← h.1 j h1]; exact h2⟩⟩
theorem li_D_spend {spt : Nat → Int32} {made : Nat} {dsp ds2 : Nat → Int32} {sp : Nat} (h : li_D spt made dsp ds2 sp) {x : Int32} (h1 : p_live spt made x) (h2 : ¬ f_any (fun j => decide (dsp j = x)) sp = true) : li_D spt made (upd dsp (sp + 0) x) (upd ds2 sp x) (sp + 1) := by
  have hno : ∀ j, j < sp → dsp j ≠ x := fun j hj e => h2 ((f_any_iff _ _).mpr ⟨j, hj, by simpa using e⟩)
  have ea : ∀ j, j < sp → upd dsp (sp + 0) x j = dsp j := fun j hj => if_neg (by omega)
  have eb : upd dsp (sp + 0) x sp = x := if_pos rfl
  refine ⟨fun i hi => ?_, fun i hi => ?_, fun i j hi hj e => ?_⟩
  · by_cases e : i = sp
    · subst e; rw [eb]; exact (if_pos rfl).symm
    · rw [ea i (by omega), h.1 i (by omega)]; exact (if_neg e).symm
  · by_cases e : i = sp
    · subst e; rw [eb]; exact h1
    · rw [ea i (by omega)]; exact h.2.1 i (by omega)
  · by_cases e1 : i = sp <;> by_cases e2 : j = sp
    · omega
    · subst e1; rw [eb, ea j (by omega)] at e; exact absurd e.symm (hno j (by omega))
    · subst e2; rw [eb, ea i (by omega)] at e; exact absurd e (hno i (by omega))
    · rw [ea i (by omega), ea j (by omega)] at e; exact h.2.2 i j (by omega) (by omega) e
theorem f_gain_congr {amt : Nat → Int64} {made : Nat} {dsp ds2 : Nat → Int32} {x : Int64} : ∀ {k : Nat}, (∀ i, i < k → dsp i = ds2 i) → f_gain amt made ds2 x k = f_gain amt made dsp x k
  | 0, _ => rfl
  | k + 1, h => by rw [f_gain, f_gain, f_gain_congr (fun i hi => h i (by omega)), h k (by omega)]
theorem li_D_fee {spt : Nat → Int32} {made : Nat} {dsp ds2 : Nat → Int32} {sp : Nat} (h : li_D spt made dsp ds2 sp) {supply mint : Int64} {amt dam : Nat → Int64} {mk : Nat} : f_fee supply mint amt made ds2 sp dam mk = f_fee supply mint amt made dsp sp dam mk := by
  unfold f_fee; rw [f_gain_congr h.1]
theorem li_D_dr {spt : Nat → Int32} {made : Nat} {dsp ds2 : Nat → Int32} {sp : Nat} (h : li_D spt made dsp ds2 sp) : ∀ i, i < sp → p_has made (ds2 i) := fun i hi => by rw [← h.1 i hi]; exact (h.2.1 i hi).1
theorem cl_inj {x y : Int32} (hx : 0 ≤ x.toInt) (hy : 0 ≤ y.toInt) (h : x.toNatClampNeg = y.toNatClampNeg) : x = y := by rw [nI_self hx, nI_self hy, h]
theorem li_D_offs {spt : Nat → Int32} {made : Nat} {dsp ds2 : Nat → Int32} {sp : Nat} (h : li_D spt made dsp ds2 sp) {g : Int32} : f_offs spt made dsp g sp = f_sets spt ds2 g sp := by
  have key : ∀ k, k ≤ sp → f_offs spt made dsp g k = f_sets spt ds2 g k ∧ ∀ i, k ≤ i → i < sp → p_live (f_offs spt made dsp g k) made (dsp i) := by
    intro k
    induction k with
    | zero => exact fun _ => ⟨rfl, fun i _ hi => h.2.1 i hi⟩
    | succ k ih =>
      intro hk
      obtain ⟨e, hl⟩ := ih (by omega)
      have e1 : f_offs spt made dsp g (k + 1) = upd (f_offs spt made dsp g k) (dsp k).toNatClampNeg g := f_off_t (hl k (Nat.le_refl k) (by omega))
      refine ⟨by rw [e1, e, f_sets, h.1 k (by omega)], fun i h1 h2 => ?_⟩
      have hi := hl i (by omega) h2
      refine ⟨hi.1, ?_⟩
      rw [e1]
      show (if _ then _ else _) = _
      rw [if_neg]
      · exact hi.2
      · intro z
        have := h.2.2 i k h2 (by omega) (cl_inj hi.1.1 (hl k (Nat.le_refl k) (by omega)).1.1 z)
        omega
  exact (key sp (Nat.le_refl sp)).1
theorem li_V_upd {spt : Nat → Int32} (h : li_V spt) {k : Nat} {x : Int32} (hx : x = -1 ∨ 0 ≤ x.toInt) : li_V (upd spt k x) := fun j => by
  show (if _ then _ else _) = _ ∨ 0 ≤ (if _ then _ else _ : Int32).toInt
  split
  · exact hx
  · exact h j
theorem li_V_sets {spt dsp : Nat → Int32} (h : li_V spt) {g : Int32} (hg : 0 ≤ g.toInt) : ∀ k, li_V (f_sets spt dsp g k)
  | 0 => h
  | k + 1 => li_V_upd (li_V_sets h hg k) (Or.inr hg)
theorem li_V_app {spt : Nat → Int32} (h : li_V spt) {b : Nat} : ∀ k, li_V (f_app spt b (fun _ => -1) k)
  | 0 => h
  | k + 1 => li_V_upd (li_V_app h k) (Or.inl rfl)
theorem li_V_unsp {spt : Nat → Int32} (h : li_V spt) {g : Int32} {n : Nat} : li_V (f_unsp spt g n) := fun j => by
  unfold f_unsp
  split
  · exact Or.inl rfl
  · exact h j
theorem li_S_apply {supply pot : Int64} {apl : Int32} {dep : Nat} {sups pots : Nat → Int64} {apps : Nat → Int32} {row hgt und : Nat} {fes mns : Nat → Int64} {tms : Nat → Int32} (h : li_S supply pot apl dep sups pots apps row hgt und fes mns tms) (hu : und ≤ hgt) {d f : Int64} {a : Int32} :
    li_S (supply + d) (pot + f) (apl + a) dep sups pots apps row hgt und (vp_updL fes hgt (fes hgt + f)) (vp_updL mns hgt (mns hgt + d)) (upd tms hgt (tms hgt + a)) := fun n hn => by
  rw [f_dn_apply (by omega), f_dn_apply (by omega), f_dnI_apply (by omega)]
  exact h n hn
theorem li_S_close {supply pot : Int64} {apl : Int32} {dep : Nat} {sups pots : Nat → Int64} {apps : Nat → Int32} {row hgt und : Nat} {fes mns : Nat → Int64} {tms : Nat → Int32} (h : li_S supply pot apl dep sups pots apps row hgt und fes mns tms) (hu : und ≤ hgt) (hr : row ≤ dep) :
    li_S supply pot apl dep (vp_updL sups (f_row row dep) supply) (vp_updL pots (f_row row dep) pot) (upd apps (f_row row dep) apl) (f_row row dep) (hgt + 1) (min dep (und + 1)) (vp_updL fes (hgt + 1) 0) (vp_updL mns (hgt + 1) 0) (upd tms (hgt + 1) (nI 0)) := fun n hn => by
  cases n with
  | zero =>
    rw [f_rowb_0, f_dn_close0, f_dn_close0, show nI 0 = (0 : Int32) from rfl, f_dnI_close0]
    exact ⟨if_pos rfl, if_pos rfl, if_pos rfl⟩
  | succ k =>
    rw [f_rowb_row hr (by omega), f_dn_close (by omega), f_dn_close (by omega), show nI 0 = (0 : Int32) from rfl, f_dnI_close (by omega)]
    have hne := f_rowb_ne hr (k := k) (dep := dep) (by omega)
    have := h k (by omega)
    exact ⟨(if_neg hne).trans this.1, (if_neg hne).trans this.2.1, (if_neg hne).trans this.2.2⟩
theorem li_S_undo {supply pot : Int64} {apl : Int32} {dep : Nat} {sups pots : Nat → Int64} {apps : Nat → Int32} {row hgt und : Nat} {fes mns : Nat → Int64} {tms : Nat → Int32} (h : li_S supply pot apl dep sups pots apps row hgt und fes mns tms) (hu : und ≤ hgt) (hr : row ≤ dep) (hd : und ≤ dep) {n : Nat} (hn : n ≤ und) :
    li_S (f_dn supply mns (hgt - n) (n + 1)) (f_dn pot fes (hgt - n) (n + 1)) (f_dnI apl tms (hgt - n) (n + 1)) dep sups pots apps (f_rowb row dep n) (hgt - n) (und - n) (f_appL fes (hgt - n) (fun _ => 0) (n + 1)) (f_appL mns (hgt - n) (fun _ => 0) (n + 1)) (f_app tms (hgt - n) (fun _ => nI 0) (n + 1)) := fun m hm => by
  rw [f_rowb_add hr (by omega), f_dn_undo (by omega), f_dn_undo (by omega), show (fun _ : Nat => nI 0) = (fun _ => (0 : Int32)) from rfl, f_dnI_undo (by omega)]
  exact h (n + m) (by omega)
theorem li_S_new {dep : Nat} {fes mns : Nat → Int64} : li_S 0 0 0 dep (fun _ => 0) (fun _ => 0) (fun _ => 0) 0 0 0 (fun _ => 0) (fun _ => 0) (fun _ => 0) := fun n hn => by
  have : n = 0 := by omega
  subst this
  refine ⟨rfl, rfl, rfl⟩
/-- gathering -/
theorem f_gs_congr {amt : Nat → Int64} {made : Nat} {pk dsp ds2 : Nat → Int32} {sp : Nat} {a : Int64} (h : ∀ x, f_any (fun j => decide (ds2 j = x)) sp = true ↔ f_any (fun j => decide (dsp j = x)) sp = true) : ∀ n j, f_gs amt made pk ds2 sp a n j = f_gs amt made pk dsp sp a n j
  | 0, _ => rfl
  | n + 1, j => by
    have hb : p_bad pk ds2 sp j ↔ p_bad pk dsp sp j := or_congr Iff.rfl (h _)
    rw [f_gs, f_gs, f_gs_congr h n (j + 1)]
    by_cases c : p_bad pk dsp sp j
    · rw [if_pos c, if_pos (hb.mpr c)]
    · rw [if_neg c, if_neg (fun z => c (hb.mp z))]
theorem f_gs_in {amt : Nat → Int64} {made : Nat} {pk dsp : Nat → Int32} {sp : Nat} {a : Int64} : ∀ n j, f_gs amt made pk dsp sp a n j = 0 ∨ (j < f_gs amt made pk dsp sp a n j ∧ f_gs amt made pk dsp sp a n j ≤ j + n ∧ f_gw amt made pk dsp sp a n j = f_gs amt made pk dsp sp a n j ∧ ∀ i, j ≤ i → i < f_gs amt made pk dsp sp a n j → ¬ p_bad pk dsp sp i)
  | 0, _ => Or.inl rfl
  | n + 1, j => by
    rw [f_gs, f_gw]
    by_cases c : p_bad pk dsp sp j
    · rw [if_pos c, if_pos c]; exact Or.inl rfl
    · rw [if_neg c, if_neg c]
      by_cases c2 : f_lack amt made pk a (j + 1) ≤ 0
      · rw [if_pos c2, if_pos c2]
        refine Or.inr ⟨by omega, by omega, rfl, fun i h1 h2 => ?_⟩
        have : i = j := by omega
        subst this; exact c
      · rw [if_neg c2, if_neg c2]
        rcases f_gs_in n (j + 1) with e | ⟨h1, h2, h3, h4⟩
        · exact Or.inl e
        · refine Or.inr ⟨by omega, by omega, h3, fun i g1 g2 => ?_⟩
          by_cases e : i = j
          · subst e; exact c
          · exact h4 i (by omega) g2
theorem f_pk_live {own : Nat → Int32} {amt : Nat → Int64} {spt : Nat → Int32} {made : Nat} (hm : made ≤ 2048) {o : Int32} {j : Nat} (h : f_pk own amt spt made o (j + 1) ≠ -1) : ∃ b, b < made ∧ f_pk own amt spt made o (j + 1) = nI b ∧ f_lv own spt o b = true ∧ p_beh amt made (f_pk own amt spt made o j) b := by
  rcases f_next_spec own amt spt hm o (f_pk own amt spt made o j) made (Nat.le_refl _) with ⟨e, -⟩ | ⟨b, hb, e, hLb, hBb, -⟩
  · exact absurd e h
  · exact ⟨b, hb, e, hLb, hBb⟩
theorem li_D_gather {own : Nat → Int32} {amt : Nat → Int64} {spt : Nat → Int32} {made : Nat} (hm : made ≤ 2048) {dsp ds2 : Nat → Int32} {sp : Nat} (h : li_D spt made dsp ds2 sp) (hs : sp ≤ 16) {o : Int32} {a : Int64} :
    f_gs amt made (f_pk own amt spt made o) ds2 sp a (16 - sp) 0 = f_gs amt made (f_pk own amt spt made o) dsp sp a (16 - sp) 0 ∧ sp + f_gs amt made (f_pk own amt spt made o) dsp sp a (16 - sp) 0 ≤ 16 ∧
    li_D spt made (f_app dsp sp (fun i => f_pk own amt spt made o (i + 1)) (f_gw amt made (f_pk own amt spt made o) dsp sp a (16 - sp) 0)) (f_app ds2 sp (fun i => f_pk own amt spt made o (i + 1)) (f_gs amt made (f_pk own amt spt made o) dsp sp a (16 - sp) 0)) (sp + f_gs amt made (f_pk own amt spt made o) dsp sp a (16 - sp) 0) := by
  refine ⟨f_gs_congr (fun x => li_D_any h) _ _, ?_⟩
  rcases f_gs_in (amt := amt) (made := made) (pk := f_pk own amt spt made o) (dsp := dsp) (sp := sp) (a := a) (16 - sp) 0 with e | ⟨h1, h2, h3, h4⟩
  · rw [e]
    refine ⟨by omega, fun i hi => ?_, fun i hi => ?_, fun i j hi hj => ?_⟩
    · rw [f_app_lo (by omega)]; exact h.1 i (by omega)
    · rw [f_app_lo (by omega)]; exact h.2.1 i (by omega)
    · rw [f_app_lo (by omega), f_app_lo (by omega)]; exact h.2.2 i j (by omega) (by omega)
  · rw [h3]
    generalize hG : f_gs amt made (f_pk own amt spt made o) dsp sp a (16 - sp) 0 = G at h1 h2 h4
    have hv : ∀ i, i < G → f_pk own amt spt made o (i + 1) ≠ -1 := fun i hi z => h4 i (Nat.zero_le i) hi (Or.inl z)
    have hlive : ∀ i, i < G → p_live spt made (f_pk own amt spt made o (i + 1)) := fun i hi => by
      obtain ⟨b, hb, e, hL, -⟩ := f_pk_live hm (hv i hi)
      rw [e]; exact (p_live_nI hb hm).mpr (f_lv_iff.mp hL).1
    have hdif : ∀ i j, i < j → j < G → f_pk own amt spt made o (i + 1) ≠ f_pk own amt spt made o (j + 1) := fun i j hij hj => by
      obtain ⟨b, hb, e, hL, hB⟩ := f_pk_live hm (hv j hj)
      rw [e]
      exact (f_pk_beh own amt spt hm o j (fun i hi => hv i (by omega)) b hb hL).mp hB i hij
    have hout : ∀ i j, i < sp → j < G → dsp i ≠ f_pk own amt spt made o (j + 1) := fun i j hi hj z => h4 j (Nat.zero_le j) hj (Or.inr ((f_any_iff _ _).mpr ⟨i, hi, by simpa using z⟩))
    have hat : ∀ (f : Nat → Int32) i, sp ≤ i → i < sp + G → f_app f sp (fun i => f_pk own amt spt made o (i + 1)) G i = f_pk own amt spt made o (i - sp + 1) := fun f i g1 g2 => f_app_at g1 g2
    refine ⟨by omega, fun i hi => ?_, fun i hi => ?_, fun i j hi hj e => ?_⟩
    · by_cases c : i < sp
      · rw [f_app_lo c, f_app_lo c]; exact h.1 i c
      · rw [hat _ i (by omega) hi, hat _ i (by omega) hi]
    · by_cases c : i < sp
      · rw [f_app_lo c]; exact h.2.1 i c
      · rw [hat _ i (by omega) hi]; exact hlive _ (by omega)
    · by_cases c : i < sp <;> by_cases c2 : j < sp
      · rw [f_app_lo c, f_app_lo c2] at e; exact h.2.2 i j c c2 e
      · rw [f_app_lo c, hat _ j (by omega) hj] at e; exact absurd e (hout i _ c (by omega))
      · rw [f_app_lo c2, hat _ i (by omega) hi] at e; exact absurd e.symm (hout j _ c2 (by omega))
      · rw [hat _ i (by omega) hi, hat _ j (by omega) hj] at e
        rcases Nat.lt_trichotomy i j with z | z | z
        · exact absurd e (hdif (i - sp) (j - sp) (by omega) (by omega))
        · exact z
        · exact absurd e.symm (hdif (j - sp) (i - sp) (by omega) (by omega))
