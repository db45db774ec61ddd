-- ===== PART A: goes FIRST, ahead of the names: the tables' words, and 'selects' of own methods out of them =====
/-- a method by its rows of tables_1 -/
def lw_okq (q : MethodName × Nat) : Prop := (q.1.cls ≠ "java/lang/invoke/MethodHandle" ∧ q.1.cls ≠ "java/lang/invoke/VarHandle") ∧ Cond.instantiable q.1.cls q.2 ∈ tables_1 ∧ Cond.privateMethod q.1 ∈ tables_1 ∧ Cond.instanceMethod q.1 ∈ tables_1
theorem lw_p0 : lw_okq (⟨"OutputBook", "feeOfDraft", "()J"⟩, 6) := ⟨⟨by decide +kernel, by decide +kernel⟩, List.mem_of_getElem? (i := 8) (by decide +kernel), List.mem_of_getElem? (i := 197) (by decide +kernel), List.mem_of_getElem? (i := 198) (by decide +kernel)⟩
theorem lw_p1 : lw_okq (⟨"OutputBook", "bookDraft", "()V"⟩, 6) := ⟨⟨by decide +kernel, by decide +kernel⟩, List.mem_of_getElem? (i := 8) (by decide +kernel), List.mem_of_getElem? (i := 212) (by decide +kernel), List.mem_of_getElem? (i := 213) (by decide +kernel)⟩
theorem lw_p2 : lw_okq (⟨"OutputBook$Outputs", "standsAhead", "(II)Z"⟩, 6) := ⟨⟨by decide +kernel, by decide +kernel⟩, List.mem_of_getElem? (i := 16) (by decide +kernel), List.mem_of_getElem? (i := 297) (by decide +kernel), List.mem_of_getElem? (i := 298) (by decide +kernel)⟩
theorem lw_p3 : lw_okq (⟨"OutputBookModel", "isLive", "(I)Z"⟩, 24) := ⟨⟨by decide +kernel, by decide +kernel⟩, List.mem_of_getElem? (i := 312) (by decide +kernel), List.mem_of_getElem? (i := 395) (by decide +kernel), List.mem_of_getElem? (i := 396) (by decide +kernel)⟩
theorem lw_p4 : lw_okq (⟨"OutputBookModel", "isMade", "(I)Z"⟩, 24) := ⟨⟨by decide +kernel, by decide +kernel⟩, List.mem_of_getElem? (i := 312) (by decide +kernel), List.mem_of_getElem? (i := 399) (by decide +kernel), List.mem_of_getElem? (i := 400) (by decide +kernel)⟩
theorem lw_p5 : lw_okq (⟨"OutputBookModel", "isDrafted", "(I)Z"⟩, 24) := ⟨⟨by decide +kernel, by decide +kernel⟩, List.mem_of_getElem? (i := 312) (by decide +kernel), List.mem_of_getElem? (i := 403) (by decide +kernel), List.mem_of_getElem? (i := 404) (by decide +kernel)⟩
theorem lw_p6 : lw_okq (⟨"OutputBookModel", "empty", "()V"⟩, 24) := ⟨⟨by decide +kernel, by decide +kernel⟩, List.mem_of_getElem? (i := 312) (by decide +kernel), List.mem_of_getElem? (i := 422) (by decide +kernel), List.mem_of_getElem? (i := 423) (by decide +kernel)⟩
theorem lw_p7 : lw_okq (⟨"OutputBookModel", "best", "(II)I"⟩, 24) := ⟨⟨by decide +kernel, by decide +kernel⟩, List.mem_of_getElem? (i := 312) (by decide +kernel), List.mem_of_getElem? (i := 470) (by decide +kernel), List.mem_of_getElem? (i := 471) (by decide +kernel)⟩
def lw_privs_1 : List (MethodName × Nat) := [(⟨"OutputBook", "feeOfDraft", "()J"⟩, 6), (⟨"OutputBook", "bookDraft", "()V"⟩, 6), (⟨"OutputBook$Outputs", "standsAhead", "(II)Z"⟩, 6), (⟨"OutputBookModel", "isLive", "(I)Z"⟩, 24), (⟨"OutputBookModel", "isMade", "(I)Z"⟩, 24), (⟨"OutputBookModel", "isDrafted", "(I)Z"⟩, 24), (⟨"OutputBookModel", "empty", "()V"⟩, 24), (⟨"OutputBookModel", "best", "(II)I"⟩, 24)]
theorem lw_r1 : ∀ q ∈ lw_privs_1, lw_okq q := List.forall_mem_cons.mpr ⟨lw_p0, List.forall_mem_cons.mpr ⟨lw_p1, List.forall_mem_cons.mpr ⟨lw_p2, List.forall_mem_cons.mpr ⟨lw_p3, List.forall_mem_cons.mpr ⟨lw_p4, List.forall_mem_cons.mpr ⟨lw_p5, List.forall_mem_cons.mpr ⟨lw_p6, List.forall_mem_cons.mpr ⟨lw_p7, fun _ h => absurd h List.not_mem_nil⟩⟩⟩⟩⟩⟩⟩⟩
def lw_privs : List (MethodName × Nat) := lw_privs_1
def lw_tbl : List Cond := k2_sels lw_privs ++ tables_1
theorem lw_privs_ok : ∀ q ∈ lw_privs, lw_okq q := lw_r1
def R_B : String := "OutputBook$Blocks"
def T_B : u_T := fun k => match k with
  | 0 => ("OutputBook$Blocks", "depth", "I", true)
  | 1 => ("OutputBook$Blocks", "supplies", "[J", true)
  | 2 => ("OutputBook$Blocks", "pots", "[J", true)
  | 3 => ("OutputBook$Blocks", "applieds", "[I", true)
  | 4 => ("OutputBook$Blocks", "row", "I", false)
  | 5 => ("OutputBook$Blocks", "height", "I", false)
  | _ => ("OutputBook$Blocks", "undoable", "I", false)
def t_B : Nat → FieldType := fun k => match k with
  | 0 => .int
  | 1 => .array .long
  | 2 => .array .long
  | 3 => .array .int
  | 4 => .int
  | 5 => .int
  | _ => .int
theorem n_B : ∀ a, a < 7 → ∀ b, b < 7 → a ≠ b → (T_B a).2.1 ≠ (T_B b).2.1 := by decide +kernel
theorem t_B_ok : ∀ k, k < 7 → parseFieldDescriptor (T_B k).2.2.1 = some (t_B k) := by decide +kernel
def R_D : String := "OutputBook$Draft"
def T_D : u_T := fun k => match k with
  | 0 => ("OutputBook$Draft", "toSpend", "[I", true)
  | 1 => ("OutputBook$Draft", "owners", "[I", true)
  | 2 => ("OutputBook$Draft", "amounts", "[J", true)
  | 3 => ("OutputBook$Draft", "tags", "[J", true)
  | 4 => ("OutputBook$Draft", "spends", "I", false)
  | 5 => ("OutputBook$Draft", "makes", "I", false)
  | _ => ("OutputBook$Draft", "mint", "J", false)
def t_D : Nat → FieldType := fun k => match k with
  | 0 => .array .int
  | 1 => .array .int
  | 2 => .array .long
  | 3 => .array .long
  | 4 => .int
  | 5 => .int
  | _ => .long
theorem n_D : ∀ a, a < 7 → ∀ b, b < 7 → a ≠ b → (T_D a).2.1 ≠ (T_D b).2.1 := by decide +kernel
theorem t_D_ok : ∀ k, k < 7 → parseFieldDescriptor (T_D k).2.2.1 = some (t_D k) := by decide +kernel
def R_O : String := "OutputBook$Outputs"
def T_O : u_T := fun k => match k with
  | 0 => ("OutputBook$Outputs", "owners", "[I", true)
  | 1 => ("OutputBook$Outputs", "amounts", "[J", true)
  | 2 => ("OutputBook$Outputs", "tags", "[J", true)
  | 3 => ("OutputBook$Outputs", "madeAt", "[I", true)
  | 4 => ("OutputBook$Outputs", "spentAt", "[I", true)
  | _ => ("OutputBook$Outputs", "made", "I", false)
def t_O : Nat → FieldType := fun k => match k with
  | 0 => .array .int
  | 1 => .array .long
  | 2 => .array .long
  | 3 => .array .int
  | 4 => .array .int
  | _ => .int
theorem n_O : ∀ a, a < 6 → ∀ b, b < 6 → a ≠ b → (T_O a).2.1 ≠ (T_O b).2.1 := by decide +kernel
theorem t_O_ok : ∀ k, k < 6 → parseFieldDescriptor (T_O k).2.2.1 = some (t_O k) := by decide +kernel
def R_K : String := "OutputBook"
def T_K : u_T := fun k => match k with
  | 0 => ("OutputBook", "outputs", "LOutputBook$Outputs;", true)
  | 1 => ("OutputBook", "draft", "LOutputBook$Draft;", true)
  | 2 => ("OutputBook", "blocks", "LOutputBook$Blocks;", true)
  | 3 => ("OutputBook", "supply", "J", false)
  | 4 => ("OutputBook", "pot", "J", false)
  | _ => ("OutputBook", "applied", "I", false)
def t_K : Nat → FieldType := fun k => match k with
  | 0 => .object "OutputBook$Outputs"
  | 1 => .object "OutputBook$Draft"
  | 2 => .object "OutputBook$Blocks"
  | 3 => .long
  | 4 => .long
  | _ => .int
theorem n_K : ∀ a, a < 6 → ∀ b, b < 6 → a ≠ b → (T_K a).2.1 ≠ (T_K b).2.1 := by decide +kernel
theorem t_K_ok : ∀ k, k < 6 → parseFieldDescriptor (T_K k).2.2.1 = some (t_K k) := by decide +kernel
def R_M : String := "OutputBookModel"
def T_M : u_T := fun k => match k with
  | 0 => ("OutputBookModel", "thrown", "I", false)
  | 1 => ("OutputBookModel", "most", "I", true)
  | 2 => ("OutputBookModel", "made", "I", false)
  | 3 => ("OutputBookModel", "owners", "[I", true)
  | 4 => ("OutputBookModel", "amounts", "[J", true)
  | 5 => ("OutputBookModel", "tags", "[J", true)
  | 6 => ("OutputBookModel", "madeAt", "[I", true)
  | 7 => ("OutputBookModel", "spentAt", "[I", true)
  | 8 => ("OutputBookModel", "height", "I", false)
  | 9 => ("OutputBookModel", "undoable", "I", false)
  | 10 => ("OutputBookModel", "pot", "J", false)
  | 11 => ("OutputBookModel", "supply", "J", false)
  | 12 => ("OutputBookModel", "applied", "I", false)
  | 13 => ("OutputBookModel", "fees", "[J", true)
  | 14 => ("OutputBookModel", "mints", "[J", true)
  | 15 => ("OutputBookModel", "times", "[I", true)
  | 16 => ("OutputBookModel", "spends", "I", false)
  | 17 => ("OutputBookModel", "spend", "[I", true)
  | 18 => ("OutputBookModel", "makes", "I", false)
  | 19 => ("OutputBookModel", "makeOwner", "[I", true)
  | 20 => ("OutputBookModel", "makeAmount", "[J", true)
  | 21 => ("OutputBookModel", "makeTag", "[J", true)
  | 22 => ("OutputBookModel", "mint", "J", false)
  | _ => ("OutputBookModel", "picked", "[I", true)
def t_M : Nat → FieldType := fun k => match k with
  | 0 => .int
  | 1 => .int
  | 2 => .int
  | 3 => .array .int
  | 4 => .array .long
  | 5 => .array .long
  | 6 => .array .int
  | 7 => .array .int
  | 8 => .int
  | 9 => .int
  | 10 => .long
  | 11 => .long
  | 12 => .int
  | 13 => .array .long
  | 14 => .array .long
  | 15 => .array .int
  | 16 => .int
  | 17 => .array .int
  | 18 => .int
  | 19 => .array .int
  | 20 => .array .long
  | 21 => .array .long
  | 22 => .long
  | _ => .array .int
theorem n_M : ∀ a, a < 24 → ∀ b, b < 24 → a ≠ b → (T_M a).2.1 ≠ (T_M b).2.1 := by decide +kernel
theorem t_M_ok : ∀ k, k < 24 → parseFieldDescriptor (T_M k).2.2.1 = some (t_M k) := by decide +kernel
abbrev vwCl : List vw_C := [(R_B, T_B, 7), (R_D, T_D, 7), (R_O, T_O, 6), (R_K, T_K, 6), (R_M, T_M, 24)]
/-- the words that last: every method's words are these -/
def ob_T : List Cond := lw_tbl.filter goodWord
theorem ob_T_of {w : Cond} (n : Nat) (h : lw_tbl[n]? = some w) (hg : goodWord w = true) : w ∈ ob_T := List.mem_filter.mpr ⟨List.mem_of_getElem? h, hg⟩
theorem ob_T_in : ∀ w ∈ ob_T, w ∈ lw_tbl := fun w h => (List.mem_filter.mp h).1
theorem ob_T_good : ∀ w ∈ ob_T, goodWord w = true := fun w h => (List.mem_filter.mp h).2
theorem k_0 : (Jvm.Cond.selects "OutputBook" ({ cls := "OutputBook", name := "feeOfDraft", desc := "()J" } : Jvm.MethodName) ({ cls := "OutputBook", name := "feeOfDraft", desc := "()J" } : Jvm.MethodName)) ∈ ob_T := ob_T_of 0 (by decide +kernel) (by decide +kernel)
theorem k_1 : (Jvm.Cond.selects "OutputBook" ({ cls := "OutputBook", name := "bookDraft", desc := "()V" } : Jvm.MethodName) ({ cls := "OutputBook", name := "bookDraft", desc := "()V" } : Jvm.MethodName)) ∈ ob_T := ob_T_of 1 (by decide +kernel) (by decide +kernel)
theorem k_2 : (Jvm.Cond.selects "OutputBook$Outputs" ({ cls := "OutputBook$Outputs", name := "standsAhead", desc := "(II)Z" } : Jvm.MethodName) ({ cls := "OutputBook$Outputs", name := "standsAhead", desc := "(II)Z" } : Jvm.MethodName)) ∈ ob_T := ob_T_of 2 (by decide +kernel) (by decide +kernel)
theorem k_3 : (Jvm.Cond.selects "OutputBookModel" ({ cls := "OutputBookModel", name := "isLive", desc := "(I)Z" } : Jvm.MethodName) ({ cls := "OutputBookModel", name := "isLive", desc := "(I)Z" } : Jvm.MethodName)) ∈ ob_T := ob_T_of 3 (by decide +kernel) (by decide +kernel)
theorem k_4 : (Jvm.Cond.selects "OutputBookModel" ({ cls := "OutputBookModel", name := "isMade", desc := "(I)Z" } : Jvm.MethodName) ({ cls := "OutputBookModel", name := "isMade", desc := "(I)Z" } : Jvm.MethodName)) ∈ ob_T := ob_T_of 4 (by decide +kernel) (by decide +kernel)
theorem k_5 : (Jvm.Cond.selects "OutputBookModel" ({ cls := "OutputBookModel", name := "isDrafted", desc := "(I)Z" } : Jvm.MethodName) ({ cls := "OutputBookModel", name := "isDrafted", desc := "(I)Z" } : Jvm.MethodName)) ∈ ob_T := ob_T_of 5 (by decide +kernel) (by decide +kernel)
theorem k_6 : (Jvm.Cond.selects "OutputBookModel" ({ cls := "OutputBookModel", name := "empty", desc := "()V" } : Jvm.MethodName) ({ cls := "OutputBookModel", name := "empty", desc := "()V" } : Jvm.MethodName)) ∈ ob_T := ob_T_of 6 (by decide +kernel) (by decide +kernel)
theorem k_7 : (Jvm.Cond.selects "OutputBookModel" ({ cls := "OutputBookModel", name := "best", desc := "(II)I" } : Jvm.MethodName) ({ cls := "OutputBookModel", name := "best", desc := "(II)I" } : Jvm.MethodName)) ∈ ob_T := ob_T_of 7 (by decide +kernel) (by decide +kernel)
theorem k_8 : (Jvm.Cond.initialized "OutputBookLaw") ∈ ob_T := ob_T_of 8 (by decide +kernel) (by decide +kernel)
theorem k_9 : (Jvm.Cond.initialized "OutputBook") ∈ ob_T := ob_T_of 9 (by decide +kernel) (by decide +kernel)
theorem k_10 : (Jvm.Cond.initialized "OutputBook$Outputs") ∈ ob_T := ob_T_of 10 (by decide +kernel) (by decide +kernel)
theorem k_11 : (Jvm.Cond.initialized "OutputBook$Draft") ∈ ob_T := ob_T_of 11 (by decide +kernel) (by decide +kernel)
theorem k_12 : (Jvm.Cond.initialized "OutputBook$Blocks") ∈ ob_T := ob_T_of 12 (by decide +kernel) (by decide +kernel)
theorem k_13 : (Jvm.Cond.initialized "java/lang/Math") ∈ ob_T := ob_T_of 13 (by decide +kernel) (by decide +kernel)
theorem k_14 : (Jvm.Cond.initialized "OutputBookModel") ∈ ob_T := ob_T_of 14 (by decide +kernel) (by decide +kernel)
theorem k_15 : (Jvm.Cond.classLink "OutputBookLaw" (7 : Nat) "OutputBook") ∈ ob_T := ob_T_of 15 (by decide +kernel) (by decide +kernel)
theorem k_16 : (Jvm.Cond.instantiable "OutputBook" (6 : Nat)) ∈ ob_T := ob_T_of 16 (by decide +kernel) (by decide +kernel)
theorem k_17 : (Jvm.Cond.methodLink "OutputBookLaw" (15 : Nat) ({ cls := "OutputBook", name := "<init>", desc := "(I)V" } : Jvm.MethodName)) ∈ ob_T := ob_T_of 17 (by decide +kernel) (by decide +kernel)
theorem k_18 : (Jvm.Cond.instanceMethod ({ cls := "OutputBook", name := "<init>", desc := "(I)V" } : Jvm.MethodName)) ∈ ob_T := ob_T_of 18 (by decide +kernel) (by decide +kernel)
theorem k_19 : (Jvm.Cond.code ({ cls := "OutputBook", name := "<init>", desc := "(I)V" } : Jvm.MethodName) prog_1_method_1_code (2 : Nat) (Option.none : Option Jvm.ClassFile.FieldType)) ∈ ob_T := ob_T_of 19 (rfl) (by decide +kernel)
theorem k_20 : (Jvm.Cond.methodLink "OutputBook" (1 : Nat) ({ cls := "java/lang/Object", name := "<init>", desc := "()V" } : Jvm.MethodName)) ∈ ob_T := ob_T_of 20 (by decide +kernel) (by decide +kernel)
theorem k_21 : (Jvm.Cond.instanceMethod ({ cls := "java/lang/Object", name := "<init>", desc := "()V" } : Jvm.MethodName)) ∈ ob_T := ob_T_of 21 (by decide +kernel) (by decide +kernel)
theorem k_22 : (Jvm.Cond.code ({ cls := "java/lang/Object", name := "<init>", desc := "()V" } : Jvm.MethodName) object_method_1_code (1 : Nat) (Option.none : Option Jvm.ClassFile.FieldType)) ∈ ob_T := ob_T_of 22 (rfl) (by decide +kernel)
theorem k_23 : (Jvm.Cond.classLink "OutputBook" (7 : Nat) "OutputBook$Outputs") ∈ ob_T := ob_T_of 23 (by decide +kernel) (by decide +kernel)
theorem k_24 : (Jvm.Cond.instantiable "OutputBook$Outputs" (6 : Nat)) ∈ ob_T := ob_T_of 24 (by decide +kernel) (by decide +kernel)
theorem k_26 : (Jvm.Cond.instanceMethod ({ cls := "OutputBook$Outputs", name := "<init>", desc := "()V" } : Jvm.MethodName)) ∈ ob_T := ob_T_of 26 (by decide +kernel) (by decide +kernel)
theorem k_27 : (Jvm.Cond.code ({ cls := "OutputBook$Outputs", name := "<init>", desc := "()V" } : Jvm.MethodName) prog_4_method_1_code (1 : Nat) (Option.none : Option Jvm.ClassFile.FieldType)) ∈ ob_T := ob_T_of 27 (rfl) (by decide +kernel)
theorem k_28 : (Jvm.Cond.methodLink "OutputBook$Outputs" (3 : Nat) ({ cls := "java/lang/Object", name := "<init>", desc := "()V" } : Jvm.MethodName)) ∈ ob_T := ob_T_of 28 (by decide +kernel) (by decide +kernel)
theorem k_29 : (Jvm.Cond.fieldLink "OutputBook$Outputs" (9 : Nat) "OutputBook$Outputs" "owners" "[I") ∈ ob_T := ob_T_of 29 (by decide +kernel) (by decide +kernel)
theorem k_31 : (Jvm.Cond.fieldLink "OutputBook$Outputs" (15 : Nat) "OutputBook$Outputs" "amounts" "[J") ∈ ob_T := ob_T_of 31 (by decide +kernel) (by decide +kernel)
theorem k_32 : (Jvm.Cond.fieldLink "OutputBook$Outputs" (19 : Nat) "OutputBook$Outputs" "tags" "[J") ∈ ob_T := ob_T_of 32 (by decide +kernel) (by decide +kernel)
theorem k_34 : (Jvm.Cond.fieldLink "OutputBook$Outputs" (22 : Nat) "OutputBook$Outputs" "madeAt" "[I") ∈ ob_T := ob_T_of 34 (by decide +kernel) (by decide +kernel)
theorem k_36 : (Jvm.Cond.fieldLink "OutputBook$Outputs" (25 : Nat) "OutputBook$Outputs" "spentAt" "[I") ∈ ob_T := ob_T_of 36 (by decide +kernel) (by decide +kernel)
theorem k_38 : (Jvm.Cond.fieldLink "OutputBook$Outputs" (28 : Nat) "OutputBook$Outputs" "made" "I") ∈ ob_T := ob_T_of 38 (by decide +kernel) (by decide +kernel)
theorem k_40 : (Jvm.Cond.laysFinal "OutputBook$Outputs" "OutputBook$Outputs" "owners" "[I") ∈ ob_T := ob_T_of 40 (by decide +kernel) (by decide +kernel)
theorem k_42 : (Jvm.Cond.laysFinal "OutputBook$Outputs" "OutputBook$Outputs" "amounts" "[J") ∈ ob_T := ob_T_of 42 (by decide +kernel) (by decide +kernel)
theorem k_44 : (Jvm.Cond.laysFinal "OutputBook$Outputs" "OutputBook$Outputs" "tags" "[J") ∈ ob_T := ob_T_of 44 (by decide +kernel) (by decide +kernel)
theorem k_46 : (Jvm.Cond.laysFinal "OutputBook$Outputs" "OutputBook$Outputs" "madeAt" "[I") ∈ ob_T := ob_T_of 46 (by decide +kernel) (by decide +kernel)
theorem k_48 : (Jvm.Cond.laysFinal "OutputBook$Outputs" "OutputBook$Outputs" "spentAt" "[I") ∈ ob_T := ob_T_of 48 (by decide +kernel) (by decide +kernel)
theorem k_50 : (Jvm.Cond.lays "OutputBook$Outputs" "OutputBook$Outputs" "made" "I") ∈ ob_T := ob_T_of 50 (by decide +kernel) (by decide +kernel)
theorem k_53 : (Jvm.Cond.arrayClass Jvm.ClassFile.FieldType.int) ∈ ob_T := ob_T_of 53 (by decide +kernel) (by decide +kernel)
theorem k_54 : (Jvm.Cond.arrayClass Jvm.ClassFile.FieldType.long) ∈ ob_T := ob_T_of 54 (by decide +kernel) (by decide +kernel)
theorem k_55 : (Jvm.Cond.classLink "OutputBook" (16 : Nat) "OutputBook$Draft") ∈ ob_T := ob_T_of 55 (by decide +kernel) (by decide +kernel)
theorem k_56 : (Jvm.Cond.instantiable "OutputBook$Draft" (7 : Nat)) ∈ ob_T := ob_T_of 56 (by decide +kernel) (by decide +kernel)
theorem k_58 : (Jvm.Cond.instanceMethod ({ cls := "OutputBook$Draft", name := "<init>", desc := "()V" } : Jvm.MethodName)) ∈ ob_T := ob_T_of 58 (by decide +kernel) (by decide +kernel)
theorem k_59 : (Jvm.Cond.code ({ cls := "OutputBook$Draft", name := "<init>", desc := "()V" } : Jvm.MethodName) prog_3_method_1_code (1 : Nat) (Option.none : Option Jvm.ClassFile.FieldType)) ∈ ob_T := ob_T_of 59 (rfl) (by decide +kernel)
theorem k_60 : (Jvm.Cond.methodLink "OutputBook$Draft" (3 : Nat) ({ cls := "java/lang/Object", name := "<init>", desc := "()V" } : Jvm.MethodName)) ∈ ob_T := ob_T_of 60 (by decide +kernel) (by decide +kernel)
theorem k_61 : (Jvm.Cond.fieldLink "OutputBook$Draft" (9 : Nat) "OutputBook$Draft" "toSpend" "[I") ∈ ob_T := ob_T_of 61 (by decide +kernel) (by decide +kernel)
theorem k_63 : (Jvm.Cond.fieldLink "OutputBook$Draft" (15 : Nat) "OutputBook$Draft" "owners" "[I") ∈ ob_T := ob_T_of 63 (by decide +kernel) (by decide +kernel)
theorem k_65 : (Jvm.Cond.fieldLink "OutputBook$Draft" (18 : Nat) "OutputBook$Draft" "amounts" "[J") ∈ ob_T := ob_T_of 65 (by decide +kernel) (by decide +kernel)
theorem k_67 : (Jvm.Cond.fieldLink "OutputBook$Draft" (22 : Nat) "OutputBook$Draft" "tags" "[J") ∈ ob_T := ob_T_of 67 (by decide +kernel) (by decide +kernel)
theorem k_69 : (Jvm.Cond.fieldLink "OutputBook$Draft" (25 : Nat) "OutputBook$Draft" "spends" "I") ∈ ob_T := ob_T_of 69 (by decide +kernel) (by decide +kernel)
theorem k_71 : (Jvm.Cond.fieldLink "OutputBook$Draft" (29 : Nat) "OutputBook$Draft" "makes" "I") ∈ ob_T := ob_T_of 71 (by decide +kernel) (by decide +kernel)
theorem k_74 : (Jvm.Cond.fieldLink "OutputBook$Draft" (39 : Nat) "OutputBook$Draft" "mint" "J") ∈ ob_T := ob_T_of 74 (by decide +kernel) (by decide +kernel)
theorem k_75 : (Jvm.Cond.laysFinal "OutputBook$Draft" "OutputBook$Draft" "toSpend" "[I") ∈ ob_T := ob_T_of 75 (by decide +kernel) (by decide +kernel)
theorem k_77 : (Jvm.Cond.laysFinal "OutputBook$Draft" "OutputBook$Draft" "owners" "[I") ∈ ob_T := ob_T_of 77 (by decide +kernel) (by decide +kernel)
theorem k_79 : (Jvm.Cond.laysFinal "OutputBook$Draft" "OutputBook$Draft" "amounts" "[J") ∈ ob_T := ob_T_of 79 (by decide +kernel) (by decide +kernel)
theorem k_81 : (Jvm.Cond.laysFinal "OutputBook$Draft" "OutputBook$Draft" "tags" "[J") ∈ ob_T := ob_T_of 81 (by decide +kernel) (by decide +kernel)
theorem k_83 : (Jvm.Cond.lays "OutputBook$Draft" "OutputBook$Draft" "spends" "I") ∈ ob_T := ob_T_of 83 (by decide +kernel) (by decide +kernel)
theorem k_85 : (Jvm.Cond.lays "OutputBook$Draft" "OutputBook$Draft" "makes" "I") ∈ ob_T := ob_T_of 85 (by decide +kernel) (by decide +kernel)
theorem k_87 : (Jvm.Cond.lays "OutputBook$Draft" "OutputBook$Draft" "mint" "J") ∈ ob_T := ob_T_of 87 (by decide +kernel) (by decide +kernel)
theorem k_90 : (Jvm.Cond.classLink "OutputBook" (23 : Nat) "OutputBook$Blocks") ∈ ob_T := ob_T_of 90 (by decide +kernel) (by decide +kernel)
theorem k_91 : (Jvm.Cond.instantiable "OutputBook$Blocks" (7 : Nat)) ∈ ob_T := ob_T_of 91 (by decide +kernel) (by decide +kernel)
theorem k_92 : (Jvm.Cond.methodLink "OutputBook" (25 : Nat) ({ cls := "java/lang/Math", name := "min", desc := "(II)I" } : Jvm.MethodName)) ∈ ob_T := ob_T_of 92 (by decide +kernel) (by decide +kernel)
theorem k_93 : (Jvm.Cond.static ({ cls := "java/lang/Math", name := "min", desc := "(II)I" } : Jvm.MethodName)) ∈ ob_T := ob_T_of 93 (by decide +kernel) (by decide +kernel)
theorem k_94 : (Jvm.Cond.code ({ cls := "java/lang/Math", name := "min", desc := "(II)I" } : Jvm.MethodName) prog_7_method_69_code (2 : Nat) (Option.some Jvm.ClassFile.FieldType.int)) ∈ ob_T := ob_T_of 94 (rfl) (by decide +kernel)
theorem k_95 : (Jvm.Cond.methodLink "OutputBook" (31 : Nat) ({ cls := "java/lang/Math", name := "max", desc := "(II)I" } : Jvm.MethodName)) ∈ ob_T := ob_T_of 95 (by decide +kernel) (by decide +kernel)
theorem k_96 : (Jvm.Cond.static ({ cls := "java/lang/Math", name := "max", desc := "(II)I" } : Jvm.MethodName)) ∈ ob_T := ob_T_of 96 (by decide +kernel) (by decide +kernel)
theorem k_97 : (Jvm.Cond.code ({ cls := "java/lang/Math", name := "max", desc := "(II)I" } : Jvm.MethodName) prog_7_method_65_code (2 : Nat) (Option.some Jvm.ClassFile.FieldType.int)) ∈ ob_T := ob_T_of 97 (rfl) (by decide +kernel)
theorem k_98 : (Jvm.Cond.methodLink "OutputBook" (34 : Nat) ({ cls := "OutputBook$Blocks", name := "<init>", desc := "(I)V" } : Jvm.MethodName)) ∈ ob_T := ob_T_of 98 (by decide +kernel) (by decide +kernel)
theorem k_99 : (Jvm.Cond.instanceMethod ({ cls := "OutputBook$Blocks", name := "<init>", desc := "(I)V" } : Jvm.MethodName)) ∈ ob_T := ob_T_of 99 (by decide +kernel) (by decide +kernel)
theorem k_100 : (Jvm.Cond.code ({ cls := "OutputBook$Blocks", name := "<init>", desc := "(I)V" } : Jvm.MethodName) prog_2_method_1_code (2 : Nat) (Option.none : Option Jvm.ClassFile.FieldType)) ∈ ob_T := ob_T_of 100 (rfl) (by decide +kernel)
theorem k_101 : (Jvm.Cond.methodLink "OutputBook$Blocks" (1 : Nat) ({ cls := "java/lang/Object", name := "<init>", desc := "()V" } : Jvm.MethodName)) ∈ ob_T := ob_T_of 101 (by decide +kernel) (by decide +kernel)
theorem k_102 : (Jvm.Cond.fieldLink "OutputBook$Blocks" (7 : Nat) "OutputBook$Blocks" "depth" "I") ∈ ob_T := ob_T_of 102 (by decide +kernel) (by decide +kernel)
theorem k_103 : (Jvm.Cond.fieldLink "OutputBook$Blocks" (13 : Nat) "OutputBook$Blocks" "supplies" "[J") ∈ ob_T := ob_T_of 103 (by decide +kernel) (by decide +kernel)
theorem k_104 : (Jvm.Cond.fieldLink "OutputBook$Blocks" (17 : Nat) "OutputBook$Blocks" "pots" "[J") ∈ ob_T := ob_T_of 104 (by decide +kernel) (by decide +kernel)
theorem k_105 : (Jvm.Cond.fieldLink "OutputBook$Blocks" (20 : Nat) "OutputBook$Blocks" "applieds" "[I") ∈ ob_T := ob_T_of 105 (by decide +kernel) (by decide +kernel)
theorem k_106 : (Jvm.Cond.fieldLink "OutputBook$Blocks" (24 : Nat) "OutputBook$Blocks" "row" "I") ∈ ob_T := ob_T_of 106 (by decide +kernel) (by decide +kernel)
theorem k_107 : (Jvm.Cond.fieldLink "OutputBook$Blocks" (27 : Nat) "OutputBook$Blocks" "height" "I") ∈ ob_T := ob_T_of 107 (by decide +kernel) (by decide +kernel)
theorem k_109 : (Jvm.Cond.fieldLink "OutputBook$Blocks" (30 : Nat) "OutputBook$Blocks" "undoable" "I") ∈ ob_T := ob_T_of 109 (by decide +kernel) (by decide +kernel)
theorem k_111 : (Jvm.Cond.laysFinal "OutputBook$Blocks" "OutputBook$Blocks" "depth" "I") ∈ ob_T := ob_T_of 111 (by decide +kernel) (by decide +kernel)
theorem k_113 : (Jvm.Cond.laysFinal "OutputBook$Blocks" "OutputBook$Blocks" "supplies" "[J") ∈ ob_T := ob_T_of 113 (by decide +kernel) (by decide +kernel)
theorem k_115 : (Jvm.Cond.laysFinal "OutputBook$Blocks" "OutputBook$Blocks" "pots" "[J") ∈ ob_T := ob_T_of 115 (by decide +kernel) (by decide +kernel)
theorem k_117 : (Jvm.Cond.laysFinal "OutputBook$Blocks" "OutputBook$Blocks" "applieds" "[I") ∈ ob_T := ob_T_of 117 (by decide +kernel) (by decide +kernel)
theorem k_119 : (Jvm.Cond.lays "OutputBook$Blocks" "OutputBook$Blocks" "row" "I") ∈ ob_T := ob_T_of 119 (by decide +kernel) (by decide +kernel)
theorem k_121 : (Jvm.Cond.lays "OutputBook$Blocks" "OutputBook$Blocks" "height" "I") ∈ ob_T := ob_T_of 121 (by decide +kernel) (by decide +kernel)
theorem k_123 : (Jvm.Cond.lays "OutputBook$Blocks" "OutputBook$Blocks" "undoable" "I") ∈ ob_T := ob_T_of 123 (by decide +kernel) (by decide +kernel)
theorem k_126 : (Jvm.Cond.fieldLink "OutputBook" (10 : Nat) "OutputBook" "outputs" "LOutputBook$Outputs;") ∈ ob_T := ob_T_of 126 (by decide +kernel) (by decide +kernel)
theorem k_127 : (Jvm.Cond.fieldLink "OutputBook" (19 : Nat) "OutputBook" "draft" "LOutputBook$Draft;") ∈ ob_T := ob_T_of 127 (by decide +kernel) (by decide +kernel)
theorem k_128 : (Jvm.Cond.fieldLink "OutputBook" (37 : Nat) "OutputBook" "blocks" "LOutputBook$Blocks;") ∈ ob_T := ob_T_of 128 (by decide +kernel) (by decide +kernel)
theorem k_129 : (Jvm.Cond.fieldLink "OutputBook" (93 : Nat) "OutputBook" "supply" "J") ∈ ob_T := ob_T_of 129 (by decide +kernel) (by decide +kernel)
theorem k_130 : (Jvm.Cond.fieldLink "OutputBook" (96 : Nat) "OutputBook" "pot" "J") ∈ ob_T := ob_T_of 130 (by decide +kernel) (by decide +kernel)
theorem k_131 : (Jvm.Cond.fieldLink "OutputBook" (99 : Nat) "OutputBook" "applied" "I") ∈ ob_T := ob_T_of 131 (by decide +kernel) (by decide +kernel)
theorem k_132 : (Jvm.Cond.laysFinal "OutputBook" "OutputBook" "outputs" "LOutputBook$Outputs;") ∈ ob_T := ob_T_of 132 (by decide +kernel) (by decide +kernel)
theorem k_134 : (Jvm.Cond.laysFinal "OutputBook" "OutputBook" "draft" "LOutputBook$Draft;") ∈ ob_T := ob_T_of 134 (by decide +kernel) (by decide +kernel)
theorem k_136 : (Jvm.Cond.laysFinal "OutputBook" "OutputBook" "blocks" "LOutputBook$Blocks;") ∈ ob_T := ob_T_of 136 (by decide +kernel) (by decide +kernel)
theorem k_138 : (Jvm.Cond.lays "OutputBook" "OutputBook" "supply" "J") ∈ ob_T := ob_T_of 138 (by decide +kernel) (by decide +kernel)
theorem k_140 : (Jvm.Cond.lays "OutputBook" "OutputBook" "pot" "J") ∈ ob_T := ob_T_of 140 (by decide +kernel) (by decide +kernel)
theorem k_142 : (Jvm.Cond.lays "OutputBook" "OutputBook" "applied" "I") ∈ ob_T := ob_T_of 142 (by decide +kernel) (by decide +kernel)
theorem k_145 : (Jvm.Cond.methodLink "OutputBookLaw" (21 : Nat) ({ cls := "OutputBook", name := "spend", desc := "(I)Z" } : Jvm.MethodName)) ∈ ob_T := ob_T_of 145 (by decide +kernel) (by decide +kernel)
theorem k_146 : (Jvm.Cond.instanceMethod ({ cls := "OutputBook", name := "spend", desc := "(I)Z" } : Jvm.MethodName)) ∈ ob_T := ob_T_of 146 (by decide +kernel) (by decide +kernel)
theorem k_147 : (Jvm.Cond.selects "OutputBook" ({ cls := "OutputBook", name := "spend", desc := "(I)Z" } : Jvm.MethodName) ({ cls := "OutputBook", name := "spend", desc := "(I)Z" } : Jvm.MethodName)) ∈ ob_T := ob_T_of 147 (by decide +kernel) (by decide +kernel)
theorem k_148 : (Jvm.Cond.code ({ cls := "OutputBook", name := "spend", desc := "(I)Z" } : Jvm.MethodName) prog_1_method_2_code (2 : Nat) (Option.some Jvm.ClassFile.FieldType.boolean)) ∈ ob_T := ob_T_of 148 (rfl) (by decide +kernel)
theorem k_149 : (Jvm.Cond.methodLink "OutputBook" (41 : Nat) ({ cls := "OutputBook$Outputs", name := "isLive", desc := "(I)Z" } : Jvm.MethodName)) ∈ ob_T := ob_T_of 149 (by decide +kernel) (by decide +kernel)
theorem k_150 : (Jvm.Cond.instanceMethod ({ cls := "OutputBook$Outputs", name := "isLive", desc := "(I)Z" } : Jvm.MethodName)) ∈ ob_T := ob_T_of 150 (by decide +kernel) (by decide +kernel)
theorem k_151 : (Jvm.Cond.selects "OutputBook$Outputs" ({ cls := "OutputBook$Outputs", name := "isLive", desc := "(I)Z" } : Jvm.MethodName) ({ cls := "OutputBook$Outputs", name := "isLive", desc := "(I)Z" } : Jvm.MethodName)) ∈ ob_T := ob_T_of 151 (by decide +kernel) (by decide +kernel)
theorem k_152 : (Jvm.Cond.code ({ cls := "OutputBook$Outputs", name := "isLive", desc := "(I)Z" } : Jvm.MethodName) prog_4_method_4_code (2 : Nat) (Option.some Jvm.ClassFile.FieldType.boolean)) ∈ ob_T := ob_T_of 152 (rfl) (by decide +kernel)
theorem k_153 : (Jvm.Cond.methodLink "OutputBook$Outputs" (32 : Nat) ({ cls := "OutputBook$Outputs", name := "has", desc := "(I)Z" } : Jvm.MethodName)) ∈ ob_T := ob_T_of 153 (by decide +kernel) (by decide +kernel)
theorem k_154 : (Jvm.Cond.instanceMethod ({ cls := "OutputBook$Outputs", name := "has", desc := "(I)Z" } : Jvm.MethodName)) ∈ ob_T := ob_T_of 154 (by decide +kernel) (by decide +kernel)
theorem k_155 : (Jvm.Cond.selects "OutputBook$Outputs" ({ cls := "OutputBook$Outputs", name := "has", desc := "(I)Z" } : Jvm.MethodName) ({ cls := "OutputBook$Outputs", name := "has", desc := "(I)Z" } : Jvm.MethodName)) ∈ ob_T := ob_T_of 155 (by decide +kernel) (by decide +kernel)
theorem k_156 : (Jvm.Cond.code ({ cls := "OutputBook$Outputs", name := "has", desc := "(I)Z" } : Jvm.MethodName) prog_4_method_3_code (2 : Nat) (Option.some Jvm.ClassFile.FieldType.boolean)) ∈ ob_T := ob_T_of 156 (rfl) (by decide +kernel)
theorem k_157 : (Jvm.Cond.methodLink "OutputBook" (45 : Nat) ({ cls := "OutputBook$Draft", name := "hasToSpend", desc := "(I)Z" } : Jvm.MethodName)) ∈ ob_T := ob_T_of 157 (by decide +kernel) (by decide +kernel)
theorem k_158 : (Jvm.Cond.instanceMethod ({ cls := "OutputBook$Draft", name := "hasToSpend", desc := "(I)Z" } : Jvm.MethodName)) ∈ ob_T := ob_T_of 158 (by decide +kernel) (by decide +kernel)
theorem k_159 : (Jvm.Cond.selects "OutputBook$Draft" ({ cls := "OutputBook$Draft", name := "hasToSpend", desc := "(I)Z" } : Jvm.MethodName) ({ cls := "OutputBook$Draft", name := "hasToSpend", desc := "(I)Z" } : Jvm.MethodName)) ∈ ob_T := ob_T_of 159 (by decide +kernel) (by decide +kernel)
theorem k_160 : (Jvm.Cond.code ({ cls := "OutputBook$Draft", name := "hasToSpend", desc := "(I)Z" } : Jvm.MethodName) prog_3_method_4_code (3 : Nat) (Option.some Jvm.ClassFile.FieldType.boolean)) ∈ ob_T := ob_T_of 160 (rfl) (by decide +kernel)
theorem k_161 : (Jvm.Cond.methodLink "OutputBook" (48 : Nat) ({ cls := "OutputBook$Draft", name := "roomToSpend", desc := "()I" } : Jvm.MethodName)) ∈ ob_T := ob_T_of 161 (by decide +kernel) (by decide +kernel)
theorem k_162 : (Jvm.Cond.instanceMethod ({ cls := "OutputBook$Draft", name := "roomToSpend", desc := "()I" } : Jvm.MethodName)) ∈ ob_T := ob_T_of 162 (by decide +kernel) (by decide +kernel)
theorem k_163 : (Jvm.Cond.selects "OutputBook$Draft" ({ cls := "OutputBook$Draft", name := "roomToSpend", desc := "()I" } : Jvm.MethodName) ({ cls := "OutputBook$Draft", name := "roomToSpend", desc := "()I" } : Jvm.MethodName)) ∈ ob_T := ob_T_of 163 (by decide +kernel) (by decide +kernel)
theorem k_164 : (Jvm.Cond.code ({ cls := "OutputBook$Draft", name := "roomToSpend", desc := "()I" } : Jvm.MethodName) prog_3_method_2_code (1 : Nat) (Option.some Jvm.ClassFile.FieldType.int)) ∈ ob_T := ob_T_of 164 (rfl) (by decide +kernel)
theorem k_165 : (Jvm.Cond.methodLink "OutputBook" (52 : Nat) ({ cls := "OutputBook$Draft", name := "writeToSpend", desc := "(II)V" } : Jvm.MethodName)) ∈ ob_T := ob_T_of 165 (by decide +kernel) (by decide +kernel)
theorem k_166 : (Jvm.Cond.instanceMethod ({ cls := "OutputBook$Draft", name := "writeToSpend", desc := "(II)V" } : Jvm.MethodName)) ∈ ob_T := ob_T_of 166 (by decide +kernel) (by decide +kernel)
theorem k_167 : (Jvm.Cond.selects "OutputBook$Draft" ({ cls := "OutputBook$Draft", name := "writeToSpend", desc := "(II)V" } : Jvm.MethodName) ({ cls := "OutputBook$Draft", name := "writeToSpend", desc := "(II)V" } : Jvm.MethodName)) ∈ ob_T := ob_T_of 167 (by decide +kernel) (by decide +kernel)
theorem k_168 : (Jvm.Cond.code ({ cls := "OutputBook$Draft", name := "writeToSpend", desc := "(II)V" } : Jvm.MethodName) prog_3_method_5_code (3 : Nat) (Option.none : Option Jvm.ClassFile.FieldType)) ∈ ob_T := ob_T_of 168 (rfl) (by decide +kernel)
theorem k_169 : (Jvm.Cond.methodLink "OutputBook$Draft" (32 : Nat) ({ cls := "OutputBook$Draft", name := "roomToSpend", desc := "()I" } : Jvm.MethodName)) ∈ ob_T := ob_T_of 169 (by decide +kernel) (by decide +kernel)
theorem k_170 : (Jvm.Cond.methodLink "OutputBook" (56 : Nat) ({ cls := "OutputBook$Draft", name := "keepToSpend", desc := "(I)V" } : Jvm.MethodName)) ∈ ob_T := ob_T_of 170 (by decide +kernel) (by decide +kernel)
theorem k_171 : (Jvm.Cond.instanceMethod ({ cls := "OutputBook$Draft", name := "keepToSpend", desc := "(I)V" } : Jvm.MethodName)) ∈ ob_T := ob_T_of 171 (by decide +kernel) (by decide +kernel)
theorem k_172 : (Jvm.Cond.selects "OutputBook$Draft" ({ cls := "OutputBook$Draft", name := "keepToSpend", desc := "(I)V" } : Jvm.MethodName) ({ cls := "OutputBook$Draft", name := "keepToSpend", desc := "(I)V" } : Jvm.MethodName)) ∈ ob_T := ob_T_of 172 (by decide +kernel) (by decide +kernel)
theorem k_173 : (Jvm.Cond.code ({ cls := "OutputBook$Draft", name := "keepToSpend", desc := "(I)V" } : Jvm.MethodName) prog_3_method_6_code (2 : Nat) (Option.none : Option Jvm.ClassFile.FieldType)) ∈ ob_T := ob_T_of 173 (rfl) (by decide +kernel)
theorem k_174 : (Jvm.Cond.methodLink "OutputBookLaw" (28 : Nat) ({ cls := "OutputBook", name := "make", desc := "(IJJ)Z" } : Jvm.MethodName)) ∈ ob_T := ob_T_of 174 (by decide +kernel) (by decide +kernel)
theorem k_175 : (Jvm.Cond.instanceMethod ({ cls := "OutputBook", name := "make", desc := "(IJJ)Z" } : Jvm.MethodName)) ∈ ob_T := ob_T_of 175 (by decide +kernel) (by decide +kernel)
theorem k_176 : (Jvm.Cond.selects "OutputBook" ({ cls := "OutputBook", name := "make", desc := "(IJJ)Z" } : Jvm.MethodName) ({ cls := "OutputBook", name := "make", desc := "(IJJ)Z" } : Jvm.MethodName)) ∈ ob_T := ob_T_of 176 (by decide +kernel) (by decide +kernel)
theorem k_177 : (Jvm.Cond.code ({ cls := "OutputBook", name := "make", desc := "(IJJ)Z" } : Jvm.MethodName) prog_1_method_3_code (6 : Nat) (Option.some Jvm.ClassFile.FieldType.boolean)) ∈ ob_T := ob_T_of 177 (rfl) (by decide +kernel)
theorem k_178 : (Jvm.Cond.methodLink "OutputBook" (59 : Nat) ({ cls := "OutputBook$Draft", name := "roomToMake", desc := "()I" } : Jvm.MethodName)) ∈ ob_T := ob_T_of 178 (by decide +kernel) (by decide +kernel)
theorem k_179 : (Jvm.Cond.instanceMethod ({ cls := "OutputBook$Draft", name := "roomToMake", desc := "()I" } : Jvm.MethodName)) ∈ ob_T := ob_T_of 179 (by decide +kernel) (by decide +kernel)
theorem k_180 : (Jvm.Cond.selects "OutputBook$Draft" ({ cls := "OutputBook$Draft", name := "roomToMake", desc := "()I" } : Jvm.MethodName) ({ cls := "OutputBook$Draft", name := "roomToMake", desc := "()I" } : Jvm.MethodName)) ∈ ob_T := ob_T_of 180 (by decide +kernel) (by decide +kernel)
theorem k_181 : (Jvm.Cond.code ({ cls := "OutputBook$Draft", name := "roomToMake", desc := "()I" } : Jvm.MethodName) prog_3_method_3_code (1 : Nat) (Option.some Jvm.ClassFile.FieldType.int)) ∈ ob_T := ob_T_of 181 (rfl) (by decide +kernel)
theorem k_182 : (Jvm.Cond.methodLink "OutputBook" (62 : Nat) ({ cls := "OutputBook$Draft", name := "addToMake", desc := "(IJJ)V" } : Jvm.MethodName)) ∈ ob_T := ob_T_of 182 (by decide +kernel) (by decide +kernel)
theorem k_183 : (Jvm.Cond.instanceMethod ({ cls := "OutputBook$Draft", name := "addToMake", desc := "(IJJ)V" } : Jvm.MethodName)) ∈ ob_T := ob_T_of 183 (by decide +kernel) (by decide +kernel)
theorem k_184 : (Jvm.Cond.selects "OutputBook$Draft" ({ cls := "OutputBook$Draft", name := "addToMake", desc := "(IJJ)V" } : Jvm.MethodName) ({ cls := "OutputBook$Draft", name := "addToMake", desc := "(IJJ)V" } : Jvm.MethodName)) ∈ ob_T := ob_T_of 184 (by decide +kernel) (by decide +kernel)
theorem k_185 : (Jvm.Cond.code ({ cls := "OutputBook$Draft", name := "addToMake", desc := "(IJJ)V" } : Jvm.MethodName) prog_3_method_7_code (6 : Nat) (Option.none : Option Jvm.ClassFile.FieldType)) ∈ ob_T := ob_T_of 185 (rfl) (by decide +kernel)
theorem k_186 : (Jvm.Cond.methodLink "OutputBook$Draft" (36 : Nat) ({ cls := "OutputBook$Draft", name := "roomToMake", desc := "()I" } : Jvm.MethodName)) ∈ ob_T := ob_T_of 186 (by decide +kernel) (by decide +kernel)
theorem k_187 : (Jvm.Cond.methodLink "OutputBookLaw" (33 : Nat) ({ cls := "OutputBook", name := "mint", desc := "(J)V" } : Jvm.MethodName)) ∈ ob_T := ob_T_of 187 (by decide +kernel) (by decide +kernel)
theorem k_188 : (Jvm.Cond.instanceMethod ({ cls := "OutputBook", name := "mint", desc := "(J)V" } : Jvm.MethodName)) ∈ ob_T := ob_T_of 188 (by decide +kernel) (by decide +kernel)
theorem k_189 : (Jvm.Cond.selects "OutputBook" ({ cls := "OutputBook", name := "mint", desc := "(J)V" } : Jvm.MethodName) ({ cls := "OutputBook", name := "mint", desc := "(J)V" } : Jvm.MethodName)) ∈ ob_T := ob_T_of 189 (by decide +kernel) (by decide +kernel)
theorem k_190 : (Jvm.Cond.code ({ cls := "OutputBook", name := "mint", desc := "(J)V" } : Jvm.MethodName) prog_1_method_4_code (3 : Nat) (Option.none : Option Jvm.ClassFile.FieldType)) ∈ ob_T := ob_T_of 190 (rfl) (by decide +kernel)
theorem k_191 : (Jvm.Cond.methodLink "OutputBookLaw" (38 : Nat) ({ cls := "OutputBook", name := "drop", desc := "()V" } : Jvm.MethodName)) ∈ ob_T := ob_T_of 191 (by decide +kernel) (by decide +kernel)
theorem k_192 : (Jvm.Cond.instanceMethod ({ cls := "OutputBook", name := "drop", desc := "()V" } : Jvm.MethodName)) ∈ ob_T := ob_T_of 192 (by decide +kernel) (by decide +kernel)
theorem k_193 : (Jvm.Cond.selects "OutputBook" ({ cls := "OutputBook", name := "drop", desc := "()V" } : Jvm.MethodName) ({ cls := "OutputBook", name := "drop", desc := "()V" } : Jvm.MethodName)) ∈ ob_T := ob_T_of 193 (by decide +kernel) (by decide +kernel)
theorem k_194 : (Jvm.Cond.code ({ cls := "OutputBook", name := "drop", desc := "()V" } : Jvm.MethodName) prog_1_method_5_code (1 : Nat) (Option.none : Option Jvm.ClassFile.FieldType)) ∈ ob_T := ob_T_of 194 (rfl) (by decide +kernel)
theorem k_195 : (Jvm.Cond.methodLink "OutputBook" (70 : Nat) ({ cls := "OutputBook$Draft", name := "clear", desc := "()V" } : Jvm.MethodName)) ∈ ob_T := ob_T_of 195 (by decide +kernel) (by decide +kernel)
theorem k_196 : (Jvm.Cond.instanceMethod ({ cls := "OutputBook$Draft", name := "clear", desc := "()V" } : Jvm.MethodName)) ∈ ob_T := ob_T_of 196 (by decide +kernel) (by decide +kernel)
theorem k_197 : (Jvm.Cond.selects "OutputBook$Draft" ({ cls := "OutputBook$Draft", name := "clear", desc := "()V" } : Jvm.MethodName) ({ cls := "OutputBook$Draft", name := "clear", desc := "()V" } : Jvm.MethodName)) ∈ ob_T := ob_T_of 197 (by decide +kernel) (by decide +kernel)
theorem k_198 : (Jvm.Cond.code ({ cls := "OutputBook$Draft", name := "clear", desc := "()V" } : Jvm.MethodName) prog_3_method_8_code (1 : Nat) (Option.none : Option Jvm.ClassFile.FieldType)) ∈ ob_T := ob_T_of 198 (rfl) (by decide +kernel)
theorem k_199 : (Jvm.Cond.methodLink "OutputBookLaw" (42 : Nat) ({ cls := "OutputBook", name := "apply", desc := "()J" } : Jvm.MethodName)) ∈ ob_T := ob_T_of 199 (by decide +kernel) (by decide +kernel)
theorem k_200 : (Jvm.Cond.instanceMethod ({ cls := "OutputBook", name := "apply", desc := "()J" } : Jvm.MethodName)) ∈ ob_T := ob_T_of 200 (by decide +kernel) (by decide +kernel)
theorem k_201 : (Jvm.Cond.selects "OutputBook" ({ cls := "OutputBook", name := "apply", desc := "()J" } : Jvm.MethodName) ({ cls := "OutputBook", name := "apply", desc := "()J" } : Jvm.MethodName)) ∈ ob_T := ob_T_of 201 (by decide +kernel) (by decide +kernel)
theorem k_202 : (Jvm.Cond.code ({ cls := "OutputBook", name := "apply", desc := "()J" } : Jvm.MethodName) prog_1_method_6_code (3 : Nat) (Option.some Jvm.ClassFile.FieldType.long)) ∈ ob_T := ob_T_of 202 (rfl) (by decide +kernel)
theorem k_203 : (Jvm.Cond.constantLong "OutputBook" (80 : Nat) (-1 : Int64)) ∈ ob_T := ob_T_of 203 (by decide +kernel) (by decide +kernel)
theorem k_204 : (Jvm.Cond.methodLink "OutputBook" (82 : Nat) ({ cls := "OutputBook", name := "feeOfDraft", desc := "()J" } : Jvm.MethodName)) ∈ ob_T := ob_T_of 204 (by decide +kernel) (by decide +kernel)
theorem k_206 : (Jvm.Cond.instanceMethod ({ cls := "OutputBook", name := "feeOfDraft", desc := "()J" } : Jvm.MethodName)) ∈ ob_T := ob_T_of 206 (by decide +kernel) (by decide +kernel)
theorem k_207 : (Jvm.Cond.code ({ cls := "OutputBook", name := "feeOfDraft", desc := "()J" } : Jvm.MethodName) prog_1_method_17_code (4 : Nat) (Option.some Jvm.ClassFile.FieldType.long)) ∈ ob_T := ob_T_of 207 (rfl) (by decide +kernel)
theorem k_208 : (Jvm.Cond.constantLong "OutputBook" (164 : Nat) (4611686018427387904 : Int64)) ∈ ob_T := ob_T_of 208 (by decide +kernel) (by decide +kernel)
theorem k_209 : (Jvm.Cond.constantLong "OutputBook" (86 : Nat) (-2 : Int64)) ∈ ob_T := ob_T_of 209 (by decide +kernel) (by decide +kernel)
theorem k_210 : (Jvm.Cond.methodLink "OutputBook" (143 : Nat) ({ cls := "OutputBook$Outputs", name := "amountOf", desc := "(I)J" } : Jvm.MethodName)) ∈ ob_T := ob_T_of 210 (by decide +kernel) (by decide +kernel)
theorem k_211 : (Jvm.Cond.instanceMethod ({ cls := "OutputBook$Outputs", name := "amountOf", desc := "(I)J" } : Jvm.MethodName)) ∈ ob_T := ob_T_of 211 (by decide +kernel) (by decide +kernel)
theorem k_212 : (Jvm.Cond.selects "OutputBook$Outputs" ({ cls := "OutputBook$Outputs", name := "amountOf", desc := "(I)J" } : Jvm.MethodName) ({ cls := "OutputBook$Outputs", name := "amountOf", desc := "(I)J" } : Jvm.MethodName)) ∈ ob_T := ob_T_of 212 (by decide +kernel) (by decide +kernel)
theorem k_213 : (Jvm.Cond.code ({ cls := "OutputBook$Outputs", name := "amountOf", desc := "(I)J" } : Jvm.MethodName) prog_4_method_6_code (2 : Nat) (Option.some Jvm.ClassFile.FieldType.long)) ∈ ob_T := ob_T_of 213 (rfl) (by decide +kernel)
theorem k_214 : (Jvm.Cond.methodLink "OutputBook" (88 : Nat) ({ cls := "OutputBook$Outputs", name := "room", desc := "()I" } : Jvm.MethodName)) ∈ ob_T := ob_T_of 214 (by decide +kernel) (by decide +kernel)
theorem k_215 : (Jvm.Cond.instanceMethod ({ cls := "OutputBook$Outputs", name := "room", desc := "()I" } : Jvm.MethodName)) ∈ ob_T := ob_T_of 215 (by decide +kernel) (by decide +kernel)
theorem k_216 : (Jvm.Cond.selects "OutputBook$Outputs" ({ cls := "OutputBook$Outputs", name := "room", desc := "()I" } : Jvm.MethodName) ({ cls := "OutputBook$Outputs", name := "room", desc := "()I" } : Jvm.MethodName)) ∈ ob_T := ob_T_of 216 (by decide +kernel) (by decide +kernel)
theorem k_217 : (Jvm.Cond.code ({ cls := "OutputBook$Outputs", name := "room", desc := "()I" } : Jvm.MethodName) prog_4_method_2_code (1 : Nat) (Option.some Jvm.ClassFile.FieldType.int)) ∈ ob_T := ob_T_of 217 (rfl) (by decide +kernel)
theorem k_218 : (Jvm.Cond.constantLong "OutputBook" (91 : Nat) (-3 : Int64)) ∈ ob_T := ob_T_of 218 (by decide +kernel) (by decide +kernel)
theorem k_219 : (Jvm.Cond.methodLink "OutputBook" (102 : Nat) ({ cls := "OutputBook", name := "bookDraft", desc := "()V" } : Jvm.MethodName)) ∈ ob_T := ob_T_of 219 (by decide +kernel) (by decide +kernel)
theorem k_221 : (Jvm.Cond.instanceMethod ({ cls := "OutputBook", name := "bookDraft", desc := "()V" } : Jvm.MethodName)) ∈ ob_T := ob_T_of 221 (by decide +kernel) (by decide +kernel)
theorem k_222 : (Jvm.Cond.code ({ cls := "OutputBook", name := "bookDraft", desc := "()V" } : Jvm.MethodName) prog_1_method_18_code (2 : Nat) (Option.none : Option Jvm.ClassFile.FieldType)) ∈ ob_T := ob_T_of 222 (rfl) (by decide +kernel)
theorem k_223 : (Jvm.Cond.methodLink "OutputBook" (172 : Nat) ({ cls := "OutputBook$Outputs", name := "takeOff", desc := "(II)V" } : Jvm.MethodName)) ∈ ob_T := ob_T_of 223 (by decide +kernel) (by decide +kernel)
theorem k_224 : (Jvm.Cond.instanceMethod ({ cls := "OutputBook$Outputs", name := "takeOff", desc := "(II)V" } : Jvm.MethodName)) ∈ ob_T := ob_T_of 224 (by decide +kernel) (by decide +kernel)
theorem k_225 : (Jvm.Cond.selects "OutputBook$Outputs" ({ cls := "OutputBook$Outputs", name := "takeOff", desc := "(II)V" } : Jvm.MethodName) ({ cls := "OutputBook$Outputs", name := "takeOff", desc := "(II)V" } : Jvm.MethodName)) ∈ ob_T := ob_T_of 225 (by decide +kernel) (by decide +kernel)
theorem k_226 : (Jvm.Cond.code ({ cls := "OutputBook$Outputs", name := "takeOff", desc := "(II)V" } : Jvm.MethodName) prog_4_method_9_code (3 : Nat) (Option.none : Option Jvm.ClassFile.FieldType)) ∈ ob_T := ob_T_of 226 (rfl) (by decide +kernel)
theorem k_227 : (Jvm.Cond.methodLink "OutputBook$Outputs" (36 : Nat) ({ cls := "OutputBook$Outputs", name := "isLive", desc := "(I)Z" } : Jvm.MethodName)) ∈ ob_T := ob_T_of 227 (by decide +kernel) (by decide +kernel)
theorem k_228 : (Jvm.Cond.methodLink "OutputBook" (177 : Nat) ({ cls := "OutputBook$Outputs", name := "add", desc := "(IJJI)V" } : Jvm.MethodName)) ∈ ob_T := ob_T_of 228 (by decide +kernel) (by decide +kernel)
theorem k_229 : (Jvm.Cond.instanceMethod ({ cls := "OutputBook$Outputs", name := "add", desc := "(IJJI)V" } : Jvm.MethodName)) ∈ ob_T := ob_T_of 229 (by decide +kernel) (by decide +kernel)
theorem k_230 : (Jvm.Cond.selects "OutputBook$Outputs" ({ cls := "OutputBook$Outputs", name := "add", desc := "(IJJI)V" } : Jvm.MethodName) ({ cls := "OutputBook$Outputs", name := "add", desc := "(IJJI)V" } : Jvm.MethodName)) ∈ ob_T := ob_T_of 230 (by decide +kernel) (by decide +kernel)
theorem k_231 : (Jvm.Cond.code ({ cls := "OutputBook$Outputs", name := "add", desc := "(IJJI)V" } : Jvm.MethodName) prog_4_method_8_code (7 : Nat) (Option.none : Option Jvm.ClassFile.FieldType)) ∈ ob_T := ob_T_of 231 (rfl) (by decide +kernel)
theorem k_232 : (Jvm.Cond.methodLink "OutputBook$Outputs" (39 : Nat) ({ cls := "OutputBook$Outputs", name := "room", desc := "()I" } : Jvm.MethodName)) ∈ ob_T := ob_T_of 232 (by decide +kernel) (by decide +kernel)
theorem k_233 : (Jvm.Cond.methodLink "OutputBookLaw" (47 : Nat) ({ cls := "OutputBook", name := "close", desc := "()I" } : Jvm.MethodName)) ∈ ob_T := ob_T_of 233 (by decide +kernel) (by decide +kernel)
theorem k_234 : (Jvm.Cond.instanceMethod ({ cls := "OutputBook", name := "close", desc := "()I" } : Jvm.MethodName)) ∈ ob_T := ob_T_of 234 (by decide +kernel) (by decide +kernel)
theorem k_235 : (Jvm.Cond.selects "OutputBook" ({ cls := "OutputBook", name := "close", desc := "()I" } : Jvm.MethodName) ({ cls := "OutputBook", name := "close", desc := "()I" } : Jvm.MethodName)) ∈ ob_T := ob_T_of 235 (by decide +kernel) (by decide +kernel)
theorem k_236 : (Jvm.Cond.code ({ cls := "OutputBook", name := "close", desc := "()I" } : Jvm.MethodName) prog_1_method_7_code (1 : Nat) (Option.some Jvm.ClassFile.FieldType.int)) ∈ ob_T := ob_T_of 236 (rfl) (by decide +kernel)
theorem k_237 : (Jvm.Cond.methodLink "OutputBook" (105 : Nat) ({ cls := "OutputBook$Blocks", name := "openNext", desc := "(JJI)V" } : Jvm.MethodName)) ∈ ob_T := ob_T_of 237 (by decide +kernel) (by decide +kernel)
theorem k_238 : (Jvm.Cond.instanceMethod ({ cls := "OutputBook$Blocks", name := "openNext", desc := "(JJI)V" } : Jvm.MethodName)) ∈ ob_T := ob_T_of 238 (by decide +kernel) (by decide +kernel)
theorem k_239 : (Jvm.Cond.selects "OutputBook$Blocks" ({ cls := "OutputBook$Blocks", name := "openNext", desc := "(JJI)V" } : Jvm.MethodName) ({ cls := "OutputBook$Blocks", name := "openNext", desc := "(JJI)V" } : Jvm.MethodName)) ∈ ob_T := ob_T_of 239 (by decide +kernel) (by decide +kernel)
theorem k_240 : (Jvm.Cond.code ({ cls := "OutputBook$Blocks", name := "openNext", desc := "(JJI)V" } : Jvm.MethodName) prog_2_method_2_code (6 : Nat) (Option.none : Option Jvm.ClassFile.FieldType)) ∈ ob_T := ob_T_of 240 (rfl) (by decide +kernel)
theorem k_241 : (Jvm.Cond.methodLink "OutputBook$Blocks" (33 : Nat) ({ cls := "java/lang/Math", name := "min", desc := "(II)I" } : Jvm.MethodName)) ∈ ob_T := ob_T_of 241 (by decide +kernel) (by decide +kernel)
theorem k_242 : (Jvm.Cond.methodLink "OutputBookLaw" (52 : Nat) ({ cls := "OutputBook", name := "undo", desc := "(I)I" } : Jvm.MethodName)) ∈ ob_T := ob_T_of 242 (by decide +kernel) (by decide +kernel)
theorem k_243 : (Jvm.Cond.instanceMethod ({ cls := "OutputBook", name := "undo", desc := "(I)I" } : Jvm.MethodName)) ∈ ob_T := ob_T_of 243 (by decide +kernel) (by decide +kernel)
theorem k_244 : (Jvm.Cond.selects "OutputBook" ({ cls := "OutputBook", name := "undo", desc := "(I)I" } : Jvm.MethodName) ({ cls := "OutputBook", name := "undo", desc := "(I)I" } : Jvm.MethodName)) ∈ ob_T := ob_T_of 244 (by decide +kernel) (by decide +kernel)
theorem k_245 : (Jvm.Cond.code ({ cls := "OutputBook", name := "undo", desc := "(I)I" } : Jvm.MethodName) prog_1_method_8_code (2 : Nat) (Option.some Jvm.ClassFile.FieldType.int)) ∈ ob_T := ob_T_of 245 (rfl) (by decide +kernel)
theorem k_246 : (Jvm.Cond.methodLink "OutputBook" (115 : Nat) ({ cls := "OutputBook$Blocks", name := "goBack", desc := "(I)V" } : Jvm.MethodName)) ∈ ob_T := ob_T_of 246 (by decide +kernel) (by decide +kernel)
theorem k_247 : (Jvm.Cond.instanceMethod ({ cls := "OutputBook$Blocks", name := "goBack", desc := "(I)V" } : Jvm.MethodName)) ∈ ob_T := ob_T_of 247 (by decide +kernel) (by decide +kernel)
theorem k_248 : (Jvm.Cond.selects "OutputBook$Blocks" ({ cls := "OutputBook$Blocks", name := "goBack", desc := "(I)V" } : Jvm.MethodName) ({ cls := "OutputBook$Blocks", name := "goBack", desc := "(I)V" } : Jvm.MethodName)) ∈ ob_T := ob_T_of 248 (by decide +kernel) (by decide +kernel)
theorem k_249 : (Jvm.Cond.code ({ cls := "OutputBook$Blocks", name := "goBack", desc := "(I)V" } : Jvm.MethodName) prog_2_method_3_code (2 : Nat) (Option.none : Option Jvm.ClassFile.FieldType)) ∈ ob_T := ob_T_of 249 (rfl) (by decide +kernel)
theorem k_250 : (Jvm.Cond.methodLink "OutputBook" (118 : Nat) ({ cls := "OutputBook$Blocks", name := "supplyAtOpening", desc := "()J" } : Jvm.MethodName)) ∈ ob_T := ob_T_of 250 (by decide +kernel) (by decide +kernel)
theorem k_251 : (Jvm.Cond.instanceMethod ({ cls := "OutputBook$Blocks", name := "supplyAtOpening", desc := "()J" } : Jvm.MethodName)) ∈ ob_T := ob_T_of 251 (by decide +kernel) (by decide +kernel)
theorem k_252 : (Jvm.Cond.selects "OutputBook$Blocks" ({ cls := "OutputBook$Blocks", name := "supplyAtOpening", desc := "()J" } : Jvm.MethodName) ({ cls := "OutputBook$Blocks", name := "supplyAtOpening", desc := "()J" } : Jvm.MethodName)) ∈ ob_T := ob_T_of 252 (by decide +kernel) (by decide +kernel)
theorem k_253 : (Jvm.Cond.code ({ cls := "OutputBook$Blocks", name := "supplyAtOpening", desc := "()J" } : Jvm.MethodName) prog_2_method_4_code (1 : Nat) (Option.some Jvm.ClassFile.FieldType.long)) ∈ ob_T := ob_T_of 253 (rfl) (by decide +kernel)
theorem k_254 : (Jvm.Cond.methodLink "OutputBook" (121 : Nat) ({ cls := "OutputBook$Blocks", name := "potAtOpening", desc := "()J" } : Jvm.MethodName)) ∈ ob_T := ob_T_of 254 (by decide +kernel) (by decide +kernel)
theorem k_255 : (Jvm.Cond.instanceMethod ({ cls := "OutputBook$Blocks", name := "potAtOpening", desc := "()J" } : Jvm.MethodName)) ∈ ob_T := ob_T_of 255 (by decide +kernel) (by decide +kernel)
theorem k_256 : (Jvm.Cond.selects "OutputBook$Blocks" ({ cls := "OutputBook$Blocks", name := "potAtOpening", desc := "()J" } : Jvm.MethodName) ({ cls := "OutputBook$Blocks", name := "potAtOpening", desc := "()J" } : Jvm.MethodName)) ∈ ob_T := ob_T_of 256 (by decide +kernel) (by decide +kernel)
theorem k_257 : (Jvm.Cond.code ({ cls := "OutputBook$Blocks", name := "potAtOpening", desc := "()J" } : Jvm.MethodName) prog_2_method_5_code (1 : Nat) (Option.some Jvm.ClassFile.FieldType.long)) ∈ ob_T := ob_T_of 257 (rfl) (by decide +kernel)
theorem k_258 : (Jvm.Cond.methodLink "OutputBook" (124 : Nat) ({ cls := "OutputBook$Blocks", name := "appliedAtOpening", desc := "()I" } : Jvm.MethodName)) ∈ ob_T := ob_T_of 258 (by decide +kernel) (by decide +kernel)
theorem k_259 : (Jvm.Cond.instanceMethod ({ cls := "OutputBook$Blocks", name := "appliedAtOpening", desc := "()I" } : Jvm.MethodName)) ∈ ob_T := ob_T_of 259 (by decide +kernel) (by decide +kernel)
theorem k_260 : (Jvm.Cond.selects "OutputBook$Blocks" ({ cls := "OutputBook$Blocks", name := "appliedAtOpening", desc := "()I" } : Jvm.MethodName) ({ cls := "OutputBook$Blocks", name := "appliedAtOpening", desc := "()I" } : Jvm.MethodName)) ∈ ob_T := ob_T_of 260 (by decide +kernel) (by decide +kernel)
theorem k_261 : (Jvm.Cond.code ({ cls := "OutputBook$Blocks", name := "appliedAtOpening", desc := "()I" } : Jvm.MethodName) prog_2_method_6_code (1 : Nat) (Option.some Jvm.ClassFile.FieldType.int)) ∈ ob_T := ob_T_of 261 (rfl) (by decide +kernel)
theorem k_262 : (Jvm.Cond.methodLink "OutputBook" (127 : Nat) ({ cls := "OutputBook$Outputs", name := "takeBackFrom", desc := "(I)V" } : Jvm.MethodName)) ∈ ob_T := ob_T_of 262 (by decide +kernel) (by decide +kernel)
theorem k_263 : (Jvm.Cond.instanceMethod ({ cls := "OutputBook$Outputs", name := "takeBackFrom", desc := "(I)V" } : Jvm.MethodName)) ∈ ob_T := ob_T_of 263 (by decide +kernel) (by decide +kernel)
theorem k_264 : (Jvm.Cond.selects "OutputBook$Outputs" ({ cls := "OutputBook$Outputs", name := "takeBackFrom", desc := "(I)V" } : Jvm.MethodName) ({ cls := "OutputBook$Outputs", name := "takeBackFrom", desc := "(I)V" } : Jvm.MethodName)) ∈ ob_T := ob_T_of 264 (by decide +kernel) (by decide +kernel)
theorem k_265 : (Jvm.Cond.code ({ cls := "OutputBook$Outputs", name := "takeBackFrom", desc := "(I)V" } : Jvm.MethodName) prog_4_method_10_code (3 : Nat) (Option.none : Option Jvm.ClassFile.FieldType)) ∈ ob_T := ob_T_of 265 (rfl) (by decide +kernel)
theorem k_266 : (Jvm.Cond.methodLink "OutputBookLaw" (57 : Nat) ({ cls := "OutputBook", name := "output", desc := "(II)I" } : Jvm.MethodName)) ∈ ob_T := ob_T_of 266 (by decide +kernel) (by decide +kernel)
theorem k_267 : (Jvm.Cond.instanceMethod ({ cls := "OutputBook", name := "output", desc := "(II)I" } : Jvm.MethodName)) ∈ ob_T := ob_T_of 267 (by decide +kernel) (by decide +kernel)
theorem k_268 : (Jvm.Cond.selects "OutputBook" ({ cls := "OutputBook", name := "output", desc := "(II)I" } : Jvm.MethodName) ({ cls := "OutputBook", name := "output", desc := "(II)I" } : Jvm.MethodName)) ∈ ob_T := ob_T_of 268 (by decide +kernel) (by decide +kernel)
theorem k_269 : (Jvm.Cond.code ({ cls := "OutputBook", name := "output", desc := "(II)I" } : Jvm.MethodName) prog_1_method_9_code (3 : Nat) (Option.some Jvm.ClassFile.FieldType.int)) ∈ ob_T := ob_T_of 269 (rfl) (by decide +kernel)
theorem k_270 : (Jvm.Cond.methodLink "OutputBook" (130 : Nat) ({ cls := "OutputBook$Outputs", name := "has", desc := "(I)Z" } : Jvm.MethodName)) ∈ ob_T := ob_T_of 270 (by decide +kernel) (by decide +kernel)
theorem k_271 : (Jvm.Cond.methodLink "OutputBookLaw" (62 : Nat) ({ cls := "OutputBook", name := "amount", desc := "(I)J" } : Jvm.MethodName)) ∈ ob_T := ob_T_of 271 (by decide +kernel) (by decide +kernel)
theorem k_272 : (Jvm.Cond.instanceMethod ({ cls := "OutputBook", name := "amount", desc := "(I)J" } : Jvm.MethodName)) ∈ ob_T := ob_T_of 272 (by decide +kernel) (by decide +kernel)
theorem k_273 : (Jvm.Cond.selects "OutputBook" ({ cls := "OutputBook", name := "amount", desc := "(I)J" } : Jvm.MethodName) ({ cls := "OutputBook", name := "amount", desc := "(I)J" } : Jvm.MethodName)) ∈ ob_T := ob_T_of 273 (by decide +kernel) (by decide +kernel)
theorem k_274 : (Jvm.Cond.code ({ cls := "OutputBook", name := "amount", desc := "(I)J" } : Jvm.MethodName) prog_1_method_10_code (2 : Nat) (Option.some Jvm.ClassFile.FieldType.long)) ∈ ob_T := ob_T_of 274 (rfl) (by decide +kernel)
theorem k_275 : (Jvm.Cond.methodLink "OutputBookLaw" (67 : Nat) ({ cls := "OutputBook", name := "tag", desc := "(I)J" } : Jvm.MethodName)) ∈ ob_T := ob_T_of 275 (by decide +kernel) (by decide +kernel)
theorem k_276 : (Jvm.Cond.instanceMethod ({ cls := "OutputBook", name := "tag", desc := "(I)J" } : Jvm.MethodName)) ∈ ob_T := ob_T_of 276 (by decide +kernel) (by decide +kernel)
theorem k_277 : (Jvm.Cond.selects "OutputBook" ({ cls := "OutputBook", name := "tag", desc := "(I)J" } : Jvm.MethodName) ({ cls := "OutputBook", name := "tag", desc := "(I)J" } : Jvm.MethodName)) ∈ ob_T := ob_T_of 277 (by decide +kernel) (by decide +kernel)
theorem k_278 : (Jvm.Cond.code ({ cls := "OutputBook", name := "tag", desc := "(I)J" } : Jvm.MethodName) prog_1_method_11_code (2 : Nat) (Option.some Jvm.ClassFile.FieldType.long)) ∈ ob_T := ob_T_of 278 (rfl) (by decide +kernel)
theorem k_279 : (Jvm.Cond.methodLink "OutputBookLaw" (71 : Nat) ({ cls := "OutputBook", name := "balance", desc := "(I)J" } : Jvm.MethodName)) ∈ ob_T := ob_T_of 279 (by decide +kernel) (by decide +kernel)
theorem k_280 : (Jvm.Cond.instanceMethod ({ cls := "OutputBook", name := "balance", desc := "(I)J" } : Jvm.MethodName)) ∈ ob_T := ob_T_of 280 (by decide +kernel) (by decide +kernel)
theorem k_281 : (Jvm.Cond.selects "OutputBook" ({ cls := "OutputBook", name := "balance", desc := "(I)J" } : Jvm.MethodName) ({ cls := "OutputBook", name := "balance", desc := "(I)J" } : Jvm.MethodName)) ∈ ob_T := ob_T_of 281 (by decide +kernel) (by decide +kernel)
theorem k_282 : (Jvm.Cond.code ({ cls := "OutputBook", name := "balance", desc := "(I)J" } : Jvm.MethodName) prog_1_method_12_code (5 : Nat) (Option.some Jvm.ClassFile.FieldType.long)) ∈ ob_T := ob_T_of 282 (rfl) (by decide +kernel)
theorem k_283 : (Jvm.Cond.methodLink "OutputBook" (154 : Nat) ({ cls := "OutputBook$Outputs", name := "isLiveOf", desc := "(II)Z" } : Jvm.MethodName)) ∈ ob_T := ob_T_of 283 (by decide +kernel) (by decide +kernel)
theorem k_284 : (Jvm.Cond.instanceMethod ({ cls := "OutputBook$Outputs", name := "isLiveOf", desc := "(II)Z" } : Jvm.MethodName)) ∈ ob_T := ob_T_of 284 (by decide +kernel) (by decide +kernel)
theorem k_285 : (Jvm.Cond.selects "OutputBook$Outputs" ({ cls := "OutputBook$Outputs", name := "isLiveOf", desc := "(II)Z" } : Jvm.MethodName) ({ cls := "OutputBook$Outputs", name := "isLiveOf", desc := "(II)Z" } : Jvm.MethodName)) ∈ ob_T := ob_T_of 285 (by decide +kernel) (by decide +kernel)
theorem k_286 : (Jvm.Cond.code ({ cls := "OutputBook$Outputs", name := "isLiveOf", desc := "(II)Z" } : Jvm.MethodName) prog_4_method_5_code (3 : Nat) (Option.some Jvm.ClassFile.FieldType.boolean)) ∈ ob_T := ob_T_of 286 (rfl) (by decide +kernel)
theorem k_287 : (Jvm.Cond.methodLink "OutputBookLaw" (75 : Nat) ({ cls := "OutputBook", name := "count", desc := "(I)I" } : Jvm.MethodName)) ∈ ob_T := ob_T_of 287 (by decide +kernel) (by decide +kernel)
theorem k_288 : (Jvm.Cond.instanceMethod ({ cls := "OutputBook", name := "count", desc := "(I)I" } : Jvm.MethodName)) ∈ ob_T := ob_T_of 288 (by decide +kernel) (by decide +kernel)
theorem k_289 : (Jvm.Cond.selects "OutputBook" ({ cls := "OutputBook", name := "count", desc := "(I)I" } : Jvm.MethodName) ({ cls := "OutputBook", name := "count", desc := "(I)I" } : Jvm.MethodName)) ∈ ob_T := ob_T_of 289 (by decide +kernel) (by decide +kernel)
theorem k_290 : (Jvm.Cond.code ({ cls := "OutputBook", name := "count", desc := "(I)I" } : Jvm.MethodName) prog_1_method_13_code (4 : Nat) (Option.some Jvm.ClassFile.FieldType.int)) ∈ ob_T := ob_T_of 290 (rfl) (by decide +kernel)
theorem k_291 : (Jvm.Cond.methodLink "OutputBookLaw" (79 : Nat) ({ cls := "OutputBook", name := "nth", desc := "(II)I" } : Jvm.MethodName)) ∈ ob_T := ob_T_of 291 (by decide +kernel) (by decide +kernel)
theorem k_292 : (Jvm.Cond.instanceMethod ({ cls := "OutputBook", name := "nth", desc := "(II)I" } : Jvm.MethodName)) ∈ ob_T := ob_T_of 292 (by decide +kernel) (by decide +kernel)
theorem k_293 : (Jvm.Cond.selects "OutputBook" ({ cls := "OutputBook", name := "nth", desc := "(II)I" } : Jvm.MethodName) ({ cls := "OutputBook", name := "nth", desc := "(II)I" } : Jvm.MethodName)) ∈ ob_T := ob_T_of 293 (by decide +kernel) (by decide +kernel)
theorem k_294 : (Jvm.Cond.code ({ cls := "OutputBook", name := "nth", desc := "(II)I" } : Jvm.MethodName) prog_1_method_14_code (5 : Nat) (Option.some Jvm.ClassFile.FieldType.int)) ∈ ob_T := ob_T_of 294 (rfl) (by decide +kernel)
theorem k_295 : (Jvm.Cond.methodLink "OutputBookLaw" (83 : Nat) ({ cls := "OutputBook", name := "gather", desc := "(IJ)I" } : Jvm.MethodName)) ∈ ob_T := ob_T_of 295 (by decide +kernel) (by decide +kernel)
theorem k_296 : (Jvm.Cond.instanceMethod ({ cls := "OutputBook", name := "gather", desc := "(IJ)I" } : Jvm.MethodName)) ∈ ob_T := ob_T_of 296 (by decide +kernel) (by decide +kernel)
theorem k_297 : (Jvm.Cond.selects "OutputBook" ({ cls := "OutputBook", name := "gather", desc := "(IJ)I" } : Jvm.MethodName) ({ cls := "OutputBook", name := "gather", desc := "(IJ)I" } : Jvm.MethodName)) ∈ ob_T := ob_T_of 297 (by decide +kernel) (by decide +kernel)
theorem k_298 : (Jvm.Cond.code ({ cls := "OutputBook", name := "gather", desc := "(IJ)I" } : Jvm.MethodName) prog_1_method_15_code (9 : Nat) (Option.some Jvm.ClassFile.FieldType.int)) ∈ ob_T := ob_T_of 298 (rfl) (by decide +kernel)
theorem k_299 : (Jvm.Cond.methodLink "OutputBook" (158 : Nat) ({ cls := "OutputBook$Outputs", name := "nextByAmount", desc := "(II)I" } : Jvm.MethodName)) ∈ ob_T := ob_T_of 299 (by decide +kernel) (by decide +kernel)
theorem k_300 : (Jvm.Cond.instanceMethod ({ cls := "OutputBook$Outputs", name := "nextByAmount", desc := "(II)I" } : Jvm.MethodName)) ∈ ob_T := ob_T_of 300 (by decide +kernel) (by decide +kernel)
theorem k_301 : (Jvm.Cond.selects "OutputBook$Outputs" ({ cls := "OutputBook$Outputs", name := "nextByAmount", desc := "(II)I" } : Jvm.MethodName) ({ cls := "OutputBook$Outputs", name := "nextByAmount", desc := "(II)I" } : Jvm.MethodName)) ∈ ob_T := ob_T_of 301 (by decide +kernel) (by decide +kernel)
theorem k_302 : (Jvm.Cond.code ({ cls := "OutputBook$Outputs", name := "nextByAmount", desc := "(II)I" } : Jvm.MethodName) prog_4_method_11_code (5 : Nat) (Option.some Jvm.ClassFile.FieldType.int)) ∈ ob_T := ob_T_of 302 (rfl) (by decide +kernel)
theorem k_303 : (Jvm.Cond.methodLink "OutputBook$Outputs" (43 : Nat) ({ cls := "OutputBook$Outputs", name := "isLiveOf", desc := "(II)Z" } : Jvm.MethodName)) ∈ ob_T := ob_T_of 303 (by decide +kernel) (by decide +kernel)
theorem k_304 : (Jvm.Cond.methodLink "OutputBook$Outputs" (47 : Nat) ({ cls := "OutputBook$Outputs", name := "standsAhead", desc := "(II)Z" } : Jvm.MethodName)) ∈ ob_T := ob_T_of 304 (by decide +kernel) (by decide +kernel)
theorem k_306 : (Jvm.Cond.instanceMethod ({ cls := "OutputBook$Outputs", name := "standsAhead", desc := "(II)Z" } : Jvm.MethodName)) ∈ ob_T := ob_T_of 306 (by decide +kernel) (by decide +kernel)
theorem k_307 : (Jvm.Cond.code ({ cls := "OutputBook$Outputs", name := "standsAhead", desc := "(II)Z" } : Jvm.MethodName) prog_4_method_12_code (3 : Nat) (Option.some Jvm.ClassFile.FieldType.boolean)) ∈ ob_T := ob_T_of 307 (rfl) (by decide +kernel)
theorem k_308 : (Jvm.Cond.methodLink "OutputBookLaw" (88 : Nat) ({ cls := "OutputBook", name := "look", desc := "(I)J" } : Jvm.MethodName)) ∈ ob_T := ob_T_of 308 (by decide +kernel) (by decide +kernel)
theorem k_309 : (Jvm.Cond.instanceMethod ({ cls := "OutputBook", name := "look", desc := "(I)J" } : Jvm.MethodName)) ∈ ob_T := ob_T_of 309 (by decide +kernel) (by decide +kernel)
theorem k_310 : (Jvm.Cond.selects "OutputBook" ({ cls := "OutputBook", name := "look", desc := "(I)J" } : Jvm.MethodName) ({ cls := "OutputBook", name := "look", desc := "(I)J" } : Jvm.MethodName)) ∈ ob_T := ob_T_of 310 (by decide +kernel) (by decide +kernel)
theorem k_311 : (Jvm.Cond.code ({ cls := "OutputBook", name := "look", desc := "(I)J" } : Jvm.MethodName) prog_1_method_16_code (2 : Nat) (Option.some Jvm.ClassFile.FieldType.long)) ∈ ob_T := ob_T_of 311 (rfl) (by decide +kernel)
theorem k_312 : (Jvm.Cond.methodLink "OutputBook" (161 : Nat) ({ cls := "OutputBook$Outputs", name := "liveOnes", desc := "()I" } : Jvm.MethodName)) ∈ ob_T := ob_T_of 312 (by decide +kernel) (by decide +kernel)
theorem k_313 : (Jvm.Cond.instanceMethod ({ cls := "OutputBook$Outputs", name := "liveOnes", desc := "()I" } : Jvm.MethodName)) ∈ ob_T := ob_T_of 313 (by decide +kernel) (by decide +kernel)
theorem k_314 : (Jvm.Cond.selects "OutputBook$Outputs" ({ cls := "OutputBook$Outputs", name := "liveOnes", desc := "()I" } : Jvm.MethodName) ({ cls := "OutputBook$Outputs", name := "liveOnes", desc := "()I" } : Jvm.MethodName)) ∈ ob_T := ob_T_of 314 (by decide +kernel) (by decide +kernel)
theorem k_315 : (Jvm.Cond.code ({ cls := "OutputBook$Outputs", name := "liveOnes", desc := "()I" } : Jvm.MethodName) prog_4_method_7_code (3 : Nat) (Option.some Jvm.ClassFile.FieldType.int)) ∈ ob_T := ob_T_of 315 (rfl) (by decide +kernel)
theorem k_316 : (Jvm.Cond.methodLink "OutputBookLaw" (9 : Nat) ({ cls := "OutputBookLaw", name := "cell", desc := "([II)I" } : Jvm.MethodName)) ∈ ob_T := ob_T_of 316 (by decide +kernel) (by decide +kernel)
theorem k_317 : (Jvm.Cond.static ({ cls := "OutputBookLaw", name := "cell", desc := "([II)I" } : Jvm.MethodName)) ∈ ob_T := ob_T_of 317 (by decide +kernel) (by decide +kernel)
theorem k_318 : (Jvm.Cond.code ({ cls := "OutputBookLaw", name := "cell", desc := "([II)I" } : Jvm.MethodName) method_2_code (2 : Nat) (Option.some Jvm.ClassFile.FieldType.int)) ∈ ob_T := ob_T_of 318 (rfl) (by decide +kernel)
theorem k_319 : (Jvm.Cond.classLink "OutputBookLaw" (18 : Nat) "OutputBookModel") ∈ ob_T := ob_T_of 319 (by decide +kernel) (by decide +kernel)
theorem k_320 : (Jvm.Cond.instantiable "OutputBookModel" (24 : Nat)) ∈ ob_T := ob_T_of 320 (by decide +kernel) (by decide +kernel)
theorem k_321 : (Jvm.Cond.methodLink "OutputBookLaw" (20 : Nat) ({ cls := "OutputBookModel", name := "<init>", desc := "(I)V" } : Jvm.MethodName)) ∈ ob_T := ob_T_of 321 (by decide +kernel) (by decide +kernel)
theorem k_322 : (Jvm.Cond.instanceMethod ({ cls := "OutputBookModel", name := "<init>", desc := "(I)V" } : Jvm.MethodName)) ∈ ob_T := ob_T_of 322 (by decide +kernel) (by decide +kernel)
theorem k_323 : (Jvm.Cond.code ({ cls := "OutputBookModel", name := "<init>", desc := "(I)V" } : Jvm.MethodName) prog_6_method_1_code (2 : Nat) (Option.none : Option Jvm.ClassFile.FieldType)) ∈ ob_T := ob_T_of 323 (rfl) (by decide +kernel)
theorem k_324 : (Jvm.Cond.methodLink "OutputBookModel" (1 : Nat) ({ cls := "java/lang/Object", name := "<init>", desc := "()V" } : Jvm.MethodName)) ∈ ob_T := ob_T_of 324 (by decide +kernel) (by decide +kernel)
theorem k_325 : (Jvm.Cond.fieldLink "OutputBookModel" (54 : Nat) "OutputBookModel" "thrown" "I") ∈ ob_T := ob_T_of 325 (by decide +kernel) (by decide +kernel)
theorem k_326 : (Jvm.Cond.fieldLink "OutputBookModel" (50 : Nat) "OutputBookModel" "most" "I") ∈ ob_T := ob_T_of 326 (by decide +kernel) (by decide +kernel)
theorem k_327 : (Jvm.Cond.fieldLink "OutputBookModel" (57 : Nat) "OutputBookModel" "made" "I") ∈ ob_T := ob_T_of 327 (by decide +kernel) (by decide +kernel)
theorem k_328 : (Jvm.Cond.fieldLink "OutputBookModel" (7 : Nat) "OutputBookModel" "owners" "[I") ∈ ob_T := ob_T_of 328 (by decide +kernel) (by decide +kernel)
theorem k_329 : (Jvm.Cond.fieldLink "OutputBookModel" (13 : Nat) "OutputBookModel" "amounts" "[J") ∈ ob_T := ob_T_of 329 (by decide +kernel) (by decide +kernel)
theorem k_330 : (Jvm.Cond.fieldLink "OutputBookModel" (17 : Nat) "OutputBookModel" "tags" "[J") ∈ ob_T := ob_T_of 330 (by decide +kernel) (by decide +kernel)
theorem k_331 : (Jvm.Cond.fieldLink "OutputBookModel" (20 : Nat) "OutputBookModel" "madeAt" "[I") ∈ ob_T := ob_T_of 331 (by decide +kernel) (by decide +kernel)
theorem k_332 : (Jvm.Cond.fieldLink "OutputBookModel" (23 : Nat) "OutputBookModel" "spentAt" "[I") ∈ ob_T := ob_T_of 332 (by decide +kernel) (by decide +kernel)
theorem k_333 : (Jvm.Cond.fieldLink "OutputBookModel" (97 : Nat) "OutputBookModel" "height" "I") ∈ ob_T := ob_T_of 333 (by decide +kernel) (by decide +kernel)
theorem k_334 : (Jvm.Cond.fieldLink "OutputBookModel" (106 : Nat) "OutputBookModel" "undoable" "I") ∈ ob_T := ob_T_of 334 (by decide +kernel) (by decide +kernel)
theorem k_335 : (Jvm.Cond.fieldLink "OutputBookModel" (100 : Nat) "OutputBookModel" "pot" "J") ∈ ob_T := ob_T_of 335 (by decide +kernel) (by decide +kernel)
theorem k_336 : (Jvm.Cond.fieldLink "OutputBookModel" (90 : Nat) "OutputBookModel" "supply" "J") ∈ ob_T := ob_T_of 336 (by decide +kernel) (by decide +kernel)
theorem k_337 : (Jvm.Cond.fieldLink "OutputBookModel" (103 : Nat) "OutputBookModel" "applied" "I") ∈ ob_T := ob_T_of 337 (by decide +kernel) (by decide +kernel)
theorem k_338 : (Jvm.Cond.fieldLink "OutputBookModel" (26 : Nat) "OutputBookModel" "fees" "[J") ∈ ob_T := ob_T_of 338 (by decide +kernel) (by decide +kernel)
theorem k_339 : (Jvm.Cond.fieldLink "OutputBookModel" (29 : Nat) "OutputBookModel" "mints" "[J") ∈ ob_T := ob_T_of 339 (by decide +kernel) (by decide +kernel)
theorem k_340 : (Jvm.Cond.fieldLink "OutputBookModel" (32 : Nat) "OutputBookModel" "times" "[I") ∈ ob_T := ob_T_of 340 (by decide +kernel) (by decide +kernel)
theorem k_341 : (Jvm.Cond.fieldLink "OutputBookModel" (64 : Nat) "OutputBookModel" "spends" "I") ∈ ob_T := ob_T_of 341 (by decide +kernel) (by decide +kernel)
theorem k_342 : (Jvm.Cond.fieldLink "OutputBookModel" (35 : Nat) "OutputBookModel" "spend" "[I") ∈ ob_T := ob_T_of 342 (by decide +kernel) (by decide +kernel)
theorem k_343 : (Jvm.Cond.fieldLink "OutputBookModel" (67 : Nat) "OutputBookModel" "makes" "I") ∈ ob_T := ob_T_of 343 (by decide +kernel) (by decide +kernel)
theorem k_344 : (Jvm.Cond.fieldLink "OutputBookModel" (38 : Nat) "OutputBookModel" "makeOwner" "[I") ∈ ob_T := ob_T_of 344 (by decide +kernel) (by decide +kernel)
theorem k_345 : (Jvm.Cond.fieldLink "OutputBookModel" (41 : Nat) "OutputBookModel" "makeAmount" "[J") ∈ ob_T := ob_T_of 345 (by decide +kernel) (by decide +kernel)
theorem k_346 : (Jvm.Cond.fieldLink "OutputBookModel" (44 : Nat) "OutputBookModel" "makeTag" "[J") ∈ ob_T := ob_T_of 346 (by decide +kernel) (by decide +kernel)
theorem k_347 : (Jvm.Cond.fieldLink "OutputBookModel" (70 : Nat) "OutputBookModel" "mint" "J") ∈ ob_T := ob_T_of 347 (by decide +kernel) (by decide +kernel)
theorem k_348 : (Jvm.Cond.fieldLink "OutputBookModel" (47 : Nat) "OutputBookModel" "picked" "[I") ∈ ob_T := ob_T_of 348 (by decide +kernel) (by decide +kernel)
theorem k_349 : (Jvm.Cond.lays "OutputBookModel" "OutputBookModel" "thrown" "I") ∈ ob_T := ob_T_of 349 (by decide +kernel) (by decide +kernel)
theorem k_351 : (Jvm.Cond.laysFinal "OutputBookModel" "OutputBookModel" "most" "I") ∈ ob_T := ob_T_of 351 (by decide +kernel) (by decide +kernel)
theorem k_353 : (Jvm.Cond.lays "OutputBookModel" "OutputBookModel" "made" "I") ∈ ob_T := ob_T_of 353 (by decide +kernel) (by decide +kernel)
theorem k_355 : (Jvm.Cond.laysFinal "OutputBookModel" "OutputBookModel" "owners" "[I") ∈ ob_T := ob_T_of 355 (by decide +kernel) (by decide +kernel)
theorem k_357 : (Jvm.Cond.laysFinal "OutputBookModel" "OutputBookModel" "amounts" "[J") ∈ ob_T := ob_T_of 357 (by decide +kernel) (by decide +kernel)
theorem k_359 : (Jvm.Cond.laysFinal "OutputBookModel" "OutputBookModel" "tags" "[J") ∈ ob_T := ob_T_of 359 (by decide +kernel) (by decide +kernel)
theorem k_361 : (Jvm.Cond.laysFinal "OutputBookModel" "OutputBookModel" "madeAt" "[I") ∈ ob_T := ob_T_of 361 (by decide +kernel) (by decide +kernel)
theorem k_363 : (Jvm.Cond.laysFinal "OutputBookModel" "OutputBookModel" "spentAt" "[I") ∈ ob_T := ob_T_of 363 (by decide +kernel) (by decide +kernel)
theorem k_365 : (Jvm.Cond.lays "OutputBookModel" "OutputBookModel" "height" "I") ∈ ob_T := ob_T_of 365 (by decide +kernel) (by decide +kernel)
theorem k_367 : (Jvm.Cond.lays "OutputBookModel" "OutputBookModel" "undoable" "I") ∈ ob_T := ob_T_of 367 (by decide +kernel) (by decide +kernel)
theorem k_369 : (Jvm.Cond.lays "OutputBookModel" "OutputBookModel" "pot" "J") ∈ ob_T := ob_T_of 369 (by decide +kernel) (by decide +kernel)
theorem k_371 : (Jvm.Cond.lays "OutputBookModel" "OutputBookModel" "supply" "J") ∈ ob_T := ob_T_of 371 (by decide +kernel) (by decide +kernel)
theorem k_373 : (Jvm.Cond.lays "OutputBookModel" "OutputBookModel" "applied" "I") ∈ ob_T := ob_T_of 373 (by decide +kernel) (by decide +kernel)
theorem k_375 : (Jvm.Cond.laysFinal "OutputBookModel" "OutputBookModel" "fees" "[J") ∈ ob_T := ob_T_of 375 (by decide +kernel) (by decide +kernel)
theorem k_377 : (Jvm.Cond.laysFinal "OutputBookModel" "OutputBookModel" "mints" "[J") ∈ ob_T := ob_T_of 377 (by decide +kernel) (by decide +kernel)
theorem k_379 : (Jvm.Cond.laysFinal "OutputBookModel" "OutputBookModel" "times" "[I") ∈ ob_T := ob_T_of 379 (by decide +kernel) (by decide +kernel)
theorem k_381 : (Jvm.Cond.lays "OutputBookModel" "OutputBookModel" "spends" "I") ∈ ob_T := ob_T_of 381 (by decide +kernel) (by decide +kernel)
theorem k_383 : (Jvm.Cond.laysFinal "OutputBookModel" "OutputBookModel" "spend" "[I") ∈ ob_T := ob_T_of 383 (by decide +kernel) (by decide +kernel)
theorem k_385 : (Jvm.Cond.lays "OutputBookModel" "OutputBookModel" "makes" "I") ∈ ob_T := ob_T_of 385 (by decide +kernel) (by decide +kernel)
theorem k_387 : (Jvm.Cond.laysFinal "OutputBookModel" "OutputBookModel" "makeOwner" "[I") ∈ ob_T := ob_T_of 387 (by decide +kernel) (by decide +kernel)
theorem k_389 : (Jvm.Cond.laysFinal "OutputBookModel" "OutputBookModel" "makeAmount" "[J") ∈ ob_T := ob_T_of 389 (by decide +kernel) (by decide +kernel)
theorem k_391 : (Jvm.Cond.laysFinal "OutputBookModel" "OutputBookModel" "makeTag" "[J") ∈ ob_T := ob_T_of 391 (by decide +kernel) (by decide +kernel)
theorem k_393 : (Jvm.Cond.lays "OutputBookModel" "OutputBookModel" "mint" "J") ∈ ob_T := ob_T_of 393 (by decide +kernel) (by decide +kernel)
theorem k_395 : (Jvm.Cond.laysFinal "OutputBookModel" "OutputBookModel" "picked" "[I") ∈ ob_T := ob_T_of 395 (by decide +kernel) (by decide +kernel)
theorem k_398 : (Jvm.Cond.methodLink "OutputBookLaw" (25 : Nat) ({ cls := "OutputBookModel", name := "spend", desc := "(I)Z" } : Jvm.MethodName)) ∈ ob_T := ob_T_of 398 (by decide +kernel) (by decide +kernel)
theorem k_399 : (Jvm.Cond.instanceMethod ({ cls := "OutputBookModel", name := "spend", desc := "(I)Z" } : Jvm.MethodName)) ∈ ob_T := ob_T_of 399 (by decide +kernel) (by decide +kernel)
theorem k_400 : (Jvm.Cond.selects "OutputBookModel" ({ cls := "OutputBookModel", name := "spend", desc := "(I)Z" } : Jvm.MethodName) ({ cls := "OutputBookModel", name := "spend", desc := "(I)Z" } : Jvm.MethodName)) ∈ ob_T := ob_T_of 400 (by decide +kernel) (by decide +kernel)
theorem k_401 : (Jvm.Cond.code ({ cls := "OutputBookModel", name := "spend", desc := "(I)Z" } : Jvm.MethodName) prog_6_method_8_code (2 : Nat) (Option.some Jvm.ClassFile.FieldType.boolean)) ∈ ob_T := ob_T_of 401 (rfl) (by decide +kernel)
theorem k_402 : (Jvm.Cond.methodLink "OutputBookModel" (74 : Nat) ({ cls := "OutputBookModel", name := "isLive", desc := "(I)Z" } : Jvm.MethodName)) ∈ ob_T := ob_T_of 402 (by decide +kernel) (by decide +kernel)
theorem k_404 : (Jvm.Cond.instanceMethod ({ cls := "OutputBookModel", name := "isLive", desc := "(I)Z" } : Jvm.MethodName)) ∈ ob_T := ob_T_of 404 (by decide +kernel) (by decide +kernel)
theorem k_405 : (Jvm.Cond.code ({ cls := "OutputBookModel", name := "isLive", desc := "(I)Z" } : Jvm.MethodName) prog_6_method_4_code (2 : Nat) (Option.some Jvm.ClassFile.FieldType.boolean)) ∈ ob_T := ob_T_of 405 (rfl) (by decide +kernel)
theorem k_406 : (Jvm.Cond.methodLink "OutputBookModel" (60 : Nat) ({ cls := "OutputBookModel", name := "isMade", desc := "(I)Z" } : Jvm.MethodName)) ∈ ob_T := ob_T_of 406 (by decide +kernel) (by decide +kernel)
theorem k_408 : (Jvm.Cond.instanceMethod ({ cls := "OutputBookModel", name := "isMade", desc := "(I)Z" } : Jvm.MethodName)) ∈ ob_T := ob_T_of 408 (by decide +kernel) (by decide +kernel)
theorem k_409 : (Jvm.Cond.code ({ cls := "OutputBookModel", name := "isMade", desc := "(I)Z" } : Jvm.MethodName) prog_6_method_3_code (2 : Nat) (Option.some Jvm.ClassFile.FieldType.boolean)) ∈ ob_T := ob_T_of 409 (rfl) (by decide +kernel)
theorem k_410 : (Jvm.Cond.methodLink "OutputBookModel" (77 : Nat) ({ cls := "OutputBookModel", name := "isDrafted", desc := "(I)Z" } : Jvm.MethodName)) ∈ ob_T := ob_T_of 410 (by decide +kernel) (by decide +kernel)
theorem k_412 : (Jvm.Cond.instanceMethod ({ cls := "OutputBookModel", name := "isDrafted", desc := "(I)Z" } : Jvm.MethodName)) ∈ ob_T := ob_T_of 412 (by decide +kernel) (by decide +kernel)
theorem k_413 : (Jvm.Cond.code ({ cls := "OutputBookModel", name := "isDrafted", desc := "(I)Z" } : Jvm.MethodName) prog_6_method_5_code (4 : Nat) (Option.some Jvm.ClassFile.FieldType.boolean)) ∈ ob_T := ob_T_of 413 (rfl) (by decide +kernel)
theorem k_414 : (Jvm.Cond.methodLink "OutputBookLaw" (32 : Nat) ({ cls := "OutputBookModel", name := "make", desc := "(IJJ)Z" } : Jvm.MethodName)) ∈ ob_T := ob_T_of 414 (by decide +kernel) (by decide +kernel)
theorem k_415 : (Jvm.Cond.instanceMethod ({ cls := "OutputBookModel", name := "make", desc := "(IJJ)Z" } : Jvm.MethodName)) ∈ ob_T := ob_T_of 415 (by decide +kernel) (by decide +kernel)
theorem k_416 : (Jvm.Cond.selects "OutputBookModel" ({ cls := "OutputBookModel", name := "make", desc := "(IJJ)Z" } : Jvm.MethodName) ({ cls := "OutputBookModel", name := "make", desc := "(IJJ)Z" } : Jvm.MethodName)) ∈ ob_T := ob_T_of 416 (by decide +kernel) (by decide +kernel)
theorem k_417 : (Jvm.Cond.code ({ cls := "OutputBookModel", name := "make", desc := "(IJJ)Z" } : Jvm.MethodName) prog_6_method_9_code (6 : Nat) (Option.some Jvm.ClassFile.FieldType.boolean)) ∈ ob_T := ob_T_of 417 (rfl) (by decide +kernel)
theorem k_418 : (Jvm.Cond.methodLink "OutputBookModel" (80 : Nat) ({ cls := "OutputBookModel", name := "isOwner", desc := "(I)Z" } : Jvm.MethodName)) ∈ ob_T := ob_T_of 418 (by decide +kernel) (by decide +kernel)
theorem k_419 : (Jvm.Cond.static ({ cls := "OutputBookModel", name := "isOwner", desc := "(I)Z" } : Jvm.MethodName)) ∈ ob_T := ob_T_of 419 (by decide +kernel) (by decide +kernel)
theorem k_420 : (Jvm.Cond.code ({ cls := "OutputBookModel", name := "isOwner", desc := "(I)Z" } : Jvm.MethodName) prog_6_method_6_code (1 : Nat) (Option.some Jvm.ClassFile.FieldType.boolean)) ∈ ob_T := ob_T_of 420 (rfl) (by decide +kernel)
theorem k_421 : (Jvm.Cond.methodLink "OutputBookLaw" (37 : Nat) ({ cls := "OutputBookModel", name := "mint", desc := "(J)V" } : Jvm.MethodName)) ∈ ob_T := ob_T_of 421 (by decide +kernel) (by decide +kernel)
theorem k_422 : (Jvm.Cond.instanceMethod ({ cls := "OutputBookModel", name := "mint", desc := "(J)V" } : Jvm.MethodName)) ∈ ob_T := ob_T_of 422 (by decide +kernel) (by decide +kernel)
theorem k_423 : (Jvm.Cond.selects "OutputBookModel" ({ cls := "OutputBookModel", name := "mint", desc := "(J)V" } : Jvm.MethodName) ({ cls := "OutputBookModel", name := "mint", desc := "(J)V" } : Jvm.MethodName)) ∈ ob_T := ob_T_of 423 (by decide +kernel) (by decide +kernel)
theorem k_424 : (Jvm.Cond.code ({ cls := "OutputBookModel", name := "mint", desc := "(J)V" } : Jvm.MethodName) prog_6_method_10_code (3 : Nat) (Option.none : Option Jvm.ClassFile.FieldType)) ∈ ob_T := ob_T_of 424 (rfl) (by decide +kernel)
theorem k_425 : (Jvm.Cond.methodLink "OutputBookLaw" (41 : Nat) ({ cls := "OutputBookModel", name := "drop", desc := "()V" } : Jvm.MethodName)) ∈ ob_T := ob_T_of 425 (by decide +kernel) (by decide +kernel)
theorem k_426 : (Jvm.Cond.instanceMethod ({ cls := "OutputBookModel", name := "drop", desc := "()V" } : Jvm.MethodName)) ∈ ob_T := ob_T_of 426 (by decide +kernel) (by decide +kernel)
theorem k_427 : (Jvm.Cond.selects "OutputBookModel" ({ cls := "OutputBookModel", name := "drop", desc := "()V" } : Jvm.MethodName) ({ cls := "OutputBookModel", name := "drop", desc := "()V" } : Jvm.MethodName)) ∈ ob_T := ob_T_of 427 (by decide +kernel) (by decide +kernel)
theorem k_428 : (Jvm.Cond.code ({ cls := "OutputBookModel", name := "drop", desc := "()V" } : Jvm.MethodName) prog_6_method_11_code (1 : Nat) (Option.none : Option Jvm.ClassFile.FieldType)) ∈ ob_T := ob_T_of 428 (rfl) (by decide +kernel)
theorem k_429 : (Jvm.Cond.methodLink "OutputBookModel" (83 : Nat) ({ cls := "OutputBookModel", name := "empty", desc := "()V" } : Jvm.MethodName)) ∈ ob_T := ob_T_of 429 (by decide +kernel) (by decide +kernel)
theorem k_431 : (Jvm.Cond.instanceMethod ({ cls := "OutputBookModel", name := "empty", desc := "()V" } : Jvm.MethodName)) ∈ ob_T := ob_T_of 431 (by decide +kernel) (by decide +kernel)
theorem k_432 : (Jvm.Cond.code ({ cls := "OutputBookModel", name := "empty", desc := "()V" } : Jvm.MethodName) prog_6_method_7_code (1 : Nat) (Option.none : Option Jvm.ClassFile.FieldType)) ∈ ob_T := ob_T_of 432 (rfl) (by decide +kernel)
theorem k_433 : (Jvm.Cond.methodLink "OutputBookLaw" (46 : Nat) ({ cls := "OutputBookModel", name := "apply", desc := "()J" } : Jvm.MethodName)) ∈ ob_T := ob_T_of 433 (by decide +kernel) (by decide +kernel)
theorem k_434 : (Jvm.Cond.instanceMethod ({ cls := "OutputBookModel", name := "apply", desc := "()J" } : Jvm.MethodName)) ∈ ob_T := ob_T_of 434 (by decide +kernel) (by decide +kernel)
theorem k_435 : (Jvm.Cond.selects "OutputBookModel" ({ cls := "OutputBookModel", name := "apply", desc := "()J" } : Jvm.MethodName) ({ cls := "OutputBookModel", name := "apply", desc := "()J" } : Jvm.MethodName)) ∈ ob_T := ob_T_of 435 (by decide +kernel) (by decide +kernel)
theorem k_436 : (Jvm.Cond.code ({ cls := "OutputBookModel", name := "apply", desc := "()J" } : Jvm.MethodName) prog_6_method_12_code (4 : Nat) (Option.some Jvm.ClassFile.FieldType.long)) ∈ ob_T := ob_T_of 436 (rfl) (by decide +kernel)
theorem k_437 : (Jvm.Cond.constantLong "OutputBookModel" (86 : Nat) (-1 : Int64)) ∈ ob_T := ob_T_of 437 (by decide +kernel) (by decide +kernel)
theorem k_438 : (Jvm.Cond.constantLong "OutputBookModel" (88 : Nat) (4611686018427387904 : Int64)) ∈ ob_T := ob_T_of 438 (by decide +kernel) (by decide +kernel)
theorem k_439 : (Jvm.Cond.constantLong "OutputBookModel" (93 : Nat) (-2 : Int64)) ∈ ob_T := ob_T_of 439 (by decide +kernel) (by decide +kernel)
theorem k_440 : (Jvm.Cond.constantLong "OutputBookModel" (95 : Nat) (-3 : Int64)) ∈ ob_T := ob_T_of 440 (by decide +kernel) (by decide +kernel)
theorem k_441 : (Jvm.Cond.methodLink "OutputBookLaw" (51 : Nat) ({ cls := "OutputBookModel", name := "close", desc := "()I" } : Jvm.MethodName)) ∈ ob_T := ob_T_of 441 (by decide +kernel) (by decide +kernel)
theorem k_442 : (Jvm.Cond.instanceMethod ({ cls := "OutputBookModel", name := "close", desc := "()I" } : Jvm.MethodName)) ∈ ob_T := ob_T_of 442 (by decide +kernel) (by decide +kernel)
theorem k_443 : (Jvm.Cond.selects "OutputBookModel" ({ cls := "OutputBookModel", name := "close", desc := "()I" } : Jvm.MethodName) ({ cls := "OutputBookModel", name := "close", desc := "()I" } : Jvm.MethodName)) ∈ ob_T := ob_T_of 443 (by decide +kernel) (by decide +kernel)
theorem k_444 : (Jvm.Cond.code ({ cls := "OutputBookModel", name := "close", desc := "()I" } : Jvm.MethodName) prog_6_method_13_code (1 : Nat) (Option.some Jvm.ClassFile.FieldType.int)) ∈ ob_T := ob_T_of 444 (rfl) (by decide +kernel)
theorem k_445 : (Jvm.Cond.methodLink "OutputBookLaw" (56 : Nat) ({ cls := "OutputBookModel", name := "undo", desc := "(I)I" } : Jvm.MethodName)) ∈ ob_T := ob_T_of 445 (by decide +kernel) (by decide +kernel)
theorem k_446 : (Jvm.Cond.instanceMethod ({ cls := "OutputBookModel", name := "undo", desc := "(I)I" } : Jvm.MethodName)) ∈ ob_T := ob_T_of 446 (by decide +kernel) (by decide +kernel)
theorem k_447 : (Jvm.Cond.selects "OutputBookModel" ({ cls := "OutputBookModel", name := "undo", desc := "(I)I" } : Jvm.MethodName) ({ cls := "OutputBookModel", name := "undo", desc := "(I)I" } : Jvm.MethodName)) ∈ ob_T := ob_T_of 447 (by decide +kernel) (by decide +kernel)
theorem k_448 : (Jvm.Cond.code ({ cls := "OutputBookModel", name := "undo", desc := "(I)I" } : Jvm.MethodName) prog_6_method_14_code (4 : Nat) (Option.some Jvm.ClassFile.FieldType.int)) ∈ ob_T := ob_T_of 448 (rfl) (by decide +kernel)
theorem k_449 : (Jvm.Cond.methodLink "OutputBookLaw" (61 : Nat) ({ cls := "OutputBookModel", name := "output", desc := "(II)I" } : Jvm.MethodName)) ∈ ob_T := ob_T_of 449 (by decide +kernel) (by decide +kernel)
theorem k_450 : (Jvm.Cond.instanceMethod ({ cls := "OutputBookModel", name := "output", desc := "(II)I" } : Jvm.MethodName)) ∈ ob_T := ob_T_of 450 (by decide +kernel) (by decide +kernel)
theorem k_451 : (Jvm.Cond.selects "OutputBookModel" ({ cls := "OutputBookModel", name := "output", desc := "(II)I" } : Jvm.MethodName) ({ cls := "OutputBookModel", name := "output", desc := "(II)I" } : Jvm.MethodName)) ∈ ob_T := ob_T_of 451 (by decide +kernel) (by decide +kernel)
theorem k_452 : (Jvm.Cond.code ({ cls := "OutputBookModel", name := "output", desc := "(II)I" } : Jvm.MethodName) prog_6_method_15_code (3 : Nat) (Option.some Jvm.ClassFile.FieldType.int)) ∈ ob_T := ob_T_of 452 (rfl) (by decide +kernel)
theorem k_453 : (Jvm.Cond.methodLink "OutputBookLaw" (66 : Nat) ({ cls := "OutputBookModel", name := "amount", desc := "(I)J" } : Jvm.MethodName)) ∈ ob_T := ob_T_of 453 (by decide +kernel) (by decide +kernel)
theorem k_454 : (Jvm.Cond.instanceMethod ({ cls := "OutputBookModel", name := "amount", desc := "(I)J" } : Jvm.MethodName)) ∈ ob_T := ob_T_of 454 (by decide +kernel) (by decide +kernel)
theorem k_455 : (Jvm.Cond.selects "OutputBookModel" ({ cls := "OutputBookModel", name := "amount", desc := "(I)J" } : Jvm.MethodName) ({ cls := "OutputBookModel", name := "amount", desc := "(I)J" } : Jvm.MethodName)) ∈ ob_T := ob_T_of 455 (by decide +kernel) (by decide +kernel)
theorem k_456 : (Jvm.Cond.code ({ cls := "OutputBookModel", name := "amount", desc := "(I)J" } : Jvm.MethodName) prog_6_method_16_code (2 : Nat) (Option.some Jvm.ClassFile.FieldType.long)) ∈ ob_T := ob_T_of 456 (rfl) (by decide +kernel)
theorem k_457 : (Jvm.Cond.methodLink "OutputBookLaw" (70 : Nat) ({ cls := "OutputBookModel", name := "tag", desc := "(I)J" } : Jvm.MethodName)) ∈ ob_T := ob_T_of 457 (by decide +kernel) (by decide +kernel)
theorem k_458 : (Jvm.Cond.instanceMethod ({ cls := "OutputBookModel", name := "tag", desc := "(I)J" } : Jvm.MethodName)) ∈ ob_T := ob_T_of 458 (by decide +kernel) (by decide +kernel)
theorem k_459 : (Jvm.Cond.selects "OutputBookModel" ({ cls := "OutputBookModel", name := "tag", desc := "(I)J" } : Jvm.MethodName) ({ cls := "OutputBookModel", name := "tag", desc := "(I)J" } : Jvm.MethodName)) ∈ ob_T := ob_T_of 459 (by decide +kernel) (by decide +kernel)
theorem k_460 : (Jvm.Cond.code ({ cls := "OutputBookModel", name := "tag", desc := "(I)J" } : Jvm.MethodName) prog_6_method_17_code (2 : Nat) (Option.some Jvm.ClassFile.FieldType.long)) ∈ ob_T := ob_T_of 460 (rfl) (by decide +kernel)
theorem k_461 : (Jvm.Cond.methodLink "OutputBookLaw" (74 : Nat) ({ cls := "OutputBookModel", name := "balance", desc := "(I)J" } : Jvm.MethodName)) ∈ ob_T := ob_T_of 461 (by decide +kernel) (by decide +kernel)
theorem k_462 : (Jvm.Cond.instanceMethod ({ cls := "OutputBookModel", name := "balance", desc := "(I)J" } : Jvm.MethodName)) ∈ ob_T := ob_T_of 462 (by decide +kernel) (by decide +kernel)
theorem k_463 : (Jvm.Cond.selects "OutputBookModel" ({ cls := "OutputBookModel", name := "balance", desc := "(I)J" } : Jvm.MethodName) ({ cls := "OutputBookModel", name := "balance", desc := "(I)J" } : Jvm.MethodName)) ∈ ob_T := ob_T_of 463 (by decide +kernel) (by decide +kernel)
theorem k_464 : (Jvm.Cond.code ({ cls := "OutputBookModel", name := "balance", desc := "(I)J" } : Jvm.MethodName) prog_6_method_18_code (5 : Nat) (Option.some Jvm.ClassFile.FieldType.long)) ∈ ob_T := ob_T_of 464 (rfl) (by decide +kernel)
theorem k_465 : (Jvm.Cond.methodLink "OutputBookLaw" (78 : Nat) ({ cls := "OutputBookModel", name := "count", desc := "(I)I" } : Jvm.MethodName)) ∈ ob_T := ob_T_of 465 (by decide +kernel) (by decide +kernel)
theorem k_466 : (Jvm.Cond.instanceMethod ({ cls := "OutputBookModel", name := "count", desc := "(I)I" } : Jvm.MethodName)) ∈ ob_T := ob_T_of 466 (by decide +kernel) (by decide +kernel)
theorem k_467 : (Jvm.Cond.selects "OutputBookModel" ({ cls := "OutputBookModel", name := "count", desc := "(I)I" } : Jvm.MethodName) ({ cls := "OutputBookModel", name := "count", desc := "(I)I" } : Jvm.MethodName)) ∈ ob_T := ob_T_of 467 (by decide +kernel) (by decide +kernel)
theorem k_468 : (Jvm.Cond.code ({ cls := "OutputBookModel", name := "count", desc := "(I)I" } : Jvm.MethodName) prog_6_method_19_code (4 : Nat) (Option.some Jvm.ClassFile.FieldType.int)) ∈ ob_T := ob_T_of 468 (rfl) (by decide +kernel)
theorem k_469 : (Jvm.Cond.methodLink "OutputBookLaw" (82 : Nat) ({ cls := "OutputBookModel", name := "nth", desc := "(II)I" } : Jvm.MethodName)) ∈ ob_T := ob_T_of 469 (by decide +kernel) (by decide +kernel)
theorem k_470 : (Jvm.Cond.instanceMethod ({ cls := "OutputBookModel", name := "nth", desc := "(II)I" } : Jvm.MethodName)) ∈ ob_T := ob_T_of 470 (by decide +kernel) (by decide +kernel)
theorem k_471 : (Jvm.Cond.selects "OutputBookModel" ({ cls := "OutputBookModel", name := "nth", desc := "(II)I" } : Jvm.MethodName) ({ cls := "OutputBookModel", name := "nth", desc := "(II)I" } : Jvm.MethodName)) ∈ ob_T := ob_T_of 471 (by decide +kernel) (by decide +kernel)
theorem k_472 : (Jvm.Cond.code ({ cls := "OutputBookModel", name := "nth", desc := "(II)I" } : Jvm.MethodName) prog_6_method_20_code (5 : Nat) (Option.some Jvm.ClassFile.FieldType.int)) ∈ ob_T := ob_T_of 472 (rfl) (by decide +kernel)
theorem k_473 : (Jvm.Cond.methodLink "OutputBookLaw" (87 : Nat) ({ cls := "OutputBookModel", name := "gather", desc := "(IJ)I" } : Jvm.MethodName)) ∈ ob_T := ob_T_of 473 (by decide +kernel) (by decide +kernel)
theorem k_474 : (Jvm.Cond.instanceMethod ({ cls := "OutputBookModel", name := "gather", desc := "(IJ)I" } : Jvm.MethodName)) ∈ ob_T := ob_T_of 474 (by decide +kernel) (by decide +kernel)
theorem k_475 : (Jvm.Cond.selects "OutputBookModel" ({ cls := "OutputBookModel", name := "gather", desc := "(IJ)I" } : Jvm.MethodName) ({ cls := "OutputBookModel", name := "gather", desc := "(IJ)I" } : Jvm.MethodName)) ∈ ob_T := ob_T_of 475 (by decide +kernel) (by decide +kernel)
theorem k_476 : (Jvm.Cond.code ({ cls := "OutputBookModel", name := "gather", desc := "(IJ)I" } : Jvm.MethodName) prog_6_method_22_code (8 : Nat) (Option.some Jvm.ClassFile.FieldType.int)) ∈ ob_T := ob_T_of 476 (rfl) (by decide +kernel)
theorem k_477 : (Jvm.Cond.methodLink "OutputBookModel" (109 : Nat) ({ cls := "OutputBookModel", name := "best", desc := "(II)I" } : Jvm.MethodName)) ∈ ob_T := ob_T_of 477 (by decide +kernel) (by decide +kernel)
theorem k_479 : (Jvm.Cond.instanceMethod ({ cls := "OutputBookModel", name := "best", desc := "(II)I" } : Jvm.MethodName)) ∈ ob_T := ob_T_of 479 (by decide +kernel) (by decide +kernel)
theorem k_480 : (Jvm.Cond.code ({ cls := "OutputBookModel", name := "best", desc := "(II)I" } : Jvm.MethodName) prog_6_method_21_code (7 : Nat) (Option.some Jvm.ClassFile.FieldType.int)) ∈ ob_T := ob_T_of 480 (rfl) (by decide +kernel)
theorem k_481 : (Jvm.Cond.methodLink "OutputBookLaw" (91 : Nat) ({ cls := "OutputBookModel", name := "look", desc := "(I)J" } : Jvm.MethodName)) ∈ ob_T := ob_T_of 481 (by decide +kernel) (by decide +kernel)
theorem k_482 : (Jvm.Cond.instanceMethod ({ cls := "OutputBookModel", name := "look", desc := "(I)J" } : Jvm.MethodName)) ∈ ob_T := ob_T_of 482 (by decide +kernel) (by decide +kernel)
theorem k_483 : (Jvm.Cond.selects "OutputBookModel" ({ cls := "OutputBookModel", name := "look", desc := "(I)J" } : Jvm.MethodName) ({ cls := "OutputBookModel", name := "look", desc := "(I)J" } : Jvm.MethodName)) ∈ ob_T := ob_T_of 483 (by decide +kernel) (by decide +kernel)
theorem k_484 : (Jvm.Cond.code ({ cls := "OutputBookModel", name := "look", desc := "(I)J" } : Jvm.MethodName) prog_6_method_23_code (5 : Nat) (Option.some Jvm.ClassFile.FieldType.long)) ∈ ob_T := ob_T_of 484 (rfl) (by decide +kernel)
theorem k_485 : (Jvm.Cond.constantLong "OutputBookLaw" (26 : Nat) (4294967295 : Int64)) ∈ ob_T := ob_T_of 485 (by decide +kernel) (by decide +kernel)
theorem in_B : ∀ w ∈ u_ws R_B T_B 7, w ∈ ob_T := by
  intro w h
  obtain ⟨k, hk, rfl⟩ := List.mem_map.mp h
  have hk := List.mem_range.mp hk
  rcases (show k = 0 ∨ k = 1 ∨ k = 2 ∨ k = 3 ∨ k = 4 ∨ k = 5 ∨ k = 6 by omega) with rfl | rfl | rfl | rfl | rfl | rfl | rfl
  · exact k_111
  · exact k_113
  · exact k_115
  · exact k_117
  · exact k_119
  · exact k_121
  · exact k_123
theorem in_D : ∀ w ∈ u_ws R_D T_D 7, w ∈ ob_T := by
  intro w h
  obtain ⟨k, hk, rfl⟩ := List.mem_map.mp h
  have hk := List.mem_range.mp hk
  rcases (show k = 0 ∨ k = 1 ∨ k = 2 ∨ k = 3 ∨ k = 4 ∨ k = 5 ∨ k = 6 by omega) with rfl | rfl | rfl | rfl | rfl | rfl | rfl
  · exact k_75
  · exact k_77
  · exact k_79
  · exact k_81
  · exact k_83
  · exact k_85
  · exact k_87
theorem in_O : ∀ w ∈ u_ws R_O T_O 6, w ∈ ob_T := by
  intro w h
  obtain ⟨k, hk, rfl⟩ := List.mem_map.mp h
  have hk := List.mem_range.mp hk
  rcases (show k = 0 ∨ k = 1 ∨ k = 2 ∨ k = 3 ∨ k = 4 ∨ k = 5 by omega) with rfl | rfl | rfl | rfl | rfl | rfl
  · exact k_40
  · exact k_42
  · exact k_44
  · exact k_46
  · exact k_48
  · exact k_50
theorem in_K : ∀ w ∈ u_ws R_K T_K 6, w ∈ ob_T := by
  intro w h
  obtain ⟨k, hk, rfl⟩ := List.mem_map.mp h
  have hk := List.mem_range.mp hk
  rcases (show k = 0 ∨ k = 1 ∨ k = 2 ∨ k = 3 ∨ k = 4 ∨ k = 5 by omega) with rfl | rfl | rfl | rfl | rfl | rfl
  · exact k_132
  · exact k_134
  · exact k_136
  · exact k_138
  · exact k_140
  · exact k_142
theorem in_M : ∀ w ∈ u_ws R_M T_M 24, w ∈ ob_T := by
  intro w h
  obtain ⟨k, hk, rfl⟩ := List.mem_map.mp h
  have hk := List.mem_range.mp hk
  rcases (show k = 0 ∨ k = 1 ∨ k = 2 ∨ k = 3 ∨ k = 4 ∨ k = 5 ∨ k = 6 ∨ k = 7 ∨ k = 8 ∨ k = 9 ∨ k = 10 ∨ k = 11 ∨ k = 12 ∨ k = 13 ∨ k = 14 ∨ k = 15 ∨ k = 16 ∨ k = 17 ∨ k = 18 ∨ k = 19 ∨ k = 20 ∨ k = 21 ∨ k = 22 ∨ k = 23 by omega) with rfl | rfl | rfl | rfl | rfl | rfl | rfl | rfl | rfl | rfl | rfl | rfl | rfl | rfl | rfl | rfl | rfl | rfl | rfl | rfl | rfl | rfl | rfl | rfl
  · exact k_349
  · exact k_351
  · exact k_353
  · exact k_355
  · exact k_357
  · exact k_359
  · exact k_361
  · exact k_363
  · exact k_365
  · exact k_367
  · exact k_369
  · exact k_371
  · exact k_373
  · exact k_375
  · exact k_377
  · exact k_379
  · exact k_381
  · exact k_383
  · exact k_385
  · exact k_387
  · exact k_389
  · exact k_391
  · exact k_393
  · exact k_395
def ob_N : List Cond := [(Jvm.Cond.methodLinkNest "OutputBook" (9 : Nat) ({ cls := "OutputBook$Outputs", name := "<init>", desc := "()V" } : Jvm.MethodName) "OutputBook"), (Jvm.Cond.fieldLinkNest "OutputBook" (133 : Nat) "OutputBook$Outputs" "owners" "[I" "OutputBook"), (Jvm.Cond.fieldLinkNest "OutputBook" (147 : Nat) "OutputBook$Outputs" "tags" "[J" "OutputBook"), (Jvm.Cond.fieldLinkNest "OutputBook" (137 : Nat) "OutputBook$Outputs" "madeAt" "[I" "OutputBook"), (Jvm.Cond.fieldLinkNest "OutputBook" (140 : Nat) "OutputBook$Outputs" "spentAt" "[I" "OutputBook"), (Jvm.Cond.fieldLinkNest "OutputBook" (151 : Nat) "OutputBook$Outputs" "made" "I" "OutputBook"), (Jvm.Cond.methodLinkNest "OutputBook" (18 : Nat) ({ cls := "OutputBook$Draft", name := "<init>", desc := "()V" } : Jvm.MethodName) "OutputBook"), (Jvm.Cond.fieldLinkNest "OutputBook" (166 : Nat) "OutputBook$Draft" "toSpend" "[I" "OutputBook"), (Jvm.Cond.fieldLinkNest "OutputBook" (175 : Nat) "OutputBook$Draft" "owners" "[I" "OutputBook"), (Jvm.Cond.fieldLinkNest "OutputBook" (169 : Nat) "OutputBook$Draft" "amounts" "[J" "OutputBook"), (Jvm.Cond.fieldLinkNest "OutputBook" (176 : Nat) "OutputBook$Draft" "tags" "[J" "OutputBook"), (Jvm.Cond.fieldLinkNest "OutputBook" (73 : Nat) "OutputBook$Draft" "spends" "I" "OutputBook"), (Jvm.Cond.fieldLinkNest "OutputBook" (77 : Nat) "OutputBook$Draft" "makes" "I" "OutputBook"), (Jvm.Cond.fieldLinkNest "OutputBook" (66 : Nat) "OutputBook$Draft" "mint" "J" "OutputBook"), (Jvm.Cond.fieldLinkNest "OutputBook" (109 : Nat) "OutputBook$Blocks" "height" "I" "OutputBook"), (Jvm.Cond.fieldLinkNest "OutputBook" (112 : Nat) "OutputBook$Blocks" "undoable" "I" "OutputBook")]
abbrev b_B_init : ByteArray := prog_2_method_1_code
def y_B_init : MethodName := ⟨"OutputBook$Blocks", "<init>", "(I)V"⟩
def w_B_init : List Cond := .code y_B_init b_B_init 2 none :: ob_T
abbrev b_B_openNext : ByteArray := prog_2_method_2_code
def y_B_openNext : MethodName := ⟨"OutputBook$Blocks", "openNext", "(JJI)V"⟩
def w_B_openNext : List Cond := .code y_B_openNext b_B_openNext 6 none :: ob_T
abbrev b_B_goBack : ByteArray := prog_2_method_3_code
def y_B_goBack : MethodName := ⟨"OutputBook$Blocks", "goBack", "(I)V"⟩
def w_B_goBack : List Cond := .code y_B_goBack b_B_goBack 2 none :: ob_T
abbrev b_B_supplyAtOpening : ByteArray := prog_2_method_4_code
def y_B_supplyAtOpening : MethodName := ⟨"OutputBook$Blocks", "supplyAtOpening", "()J"⟩
def w_B_supplyAtOpening : List Cond := .code y_B_supplyAtOpening b_B_supplyAtOpening 1 (some .long) :: ob_T
abbrev b_B_potAtOpening : ByteArray := prog_2_method_5_code
def y_B_potAtOpening : MethodName := ⟨"OutputBook$Blocks", "potAtOpening", "()J"⟩
def w_B_potAtOpening : List Cond := .code y_B_potAtOpening b_B_potAtOpening 1 (some .long) :: ob_T
abbrev b_B_appliedAtOpening : ByteArray := prog_2_method_6_code
def y_B_appliedAtOpening : MethodName := ⟨"OutputBook$Blocks", "appliedAtOpening", "()I"⟩
def w_B_appliedAtOpening : List Cond := .code y_B_appliedAtOpening b_B_appliedAtOpening 1 (some .int) :: ob_T
abbrev b_D_init : ByteArray := prog_3_method_1_code
def y_D_init : MethodName := ⟨"OutputBook$Draft", "<init>", "()V"⟩
def w_D_init : List Cond := .code y_D_init b_D_init 1 none :: ob_T
abbrev b_D_roomToSpend : ByteArray := prog_3_method_2_code
def y_D_roomToSpend : MethodName := ⟨"OutputBook$Draft", "roomToSpend", "()I"⟩
def w_D_roomToSpend : List Cond := .code y_D_roomToSpend b_D_roomToSpend 1 (some .int) :: ob_T
abbrev b_D_roomToMake : ByteArray := prog_3_method_3_code
def y_D_roomToMake : MethodName := ⟨"OutputBook$Draft", "roomToMake", "()I"⟩
def w_D_roomToMake : List Cond := .code y_D_roomToMake b_D_roomToMake 1 (some .int) :: ob_T
abbrev b_D_hasToSpend : ByteArray := prog_3_method_4_code
def y_D_hasToSpend : MethodName := ⟨"OutputBook$Draft", "hasToSpend", "(I)Z"⟩
def w_D_hasToSpend : List Cond := .code y_D_hasToSpend b_D_hasToSpend 3 (some .boolean) :: ob_T
abbrev b_D_writeToSpend : ByteArray := prog_3_method_5_code
def y_D_writeToSpend : MethodName := ⟨"OutputBook$Draft", "writeToSpend", "(II)V"⟩
def w_D_writeToSpend : List Cond := .code y_D_writeToSpend b_D_writeToSpend 3 none :: ob_T
abbrev b_D_keepToSpend : ByteArray := prog_3_method_6_code
def y_D_keepToSpend : MethodName := ⟨"OutputBook$Draft", "keepToSpend", "(I)V"⟩
def w_D_keepToSpend : List Cond := .code y_D_keepToSpend b_D_keepToSpend 2 none :: ob_T
abbrev b_D_addToMake : ByteArray := prog_3_method_7_code
def y_D_addToMake : MethodName := ⟨"OutputBook$Draft", "addToMake", "(IJJ)V"⟩
def w_D_addToMake : List Cond := .code y_D_addToMake b_D_addToMake 6 none :: ob_T
abbrev b_D_clear : ByteArray := prog_3_method_8_code
def y_D_clear : MethodName := ⟨"OutputBook$Draft", "clear", "()V"⟩
def w_D_clear : List Cond := .code y_D_clear b_D_clear 1 none :: ob_T
abbrev b_O_init : ByteArray := prog_4_method_1_code
def y_O_init : MethodName := ⟨"OutputBook$Outputs", "<init>", "()V"⟩
def w_O_init : List Cond := .code y_O_init b_O_init 1 none :: ob_T
abbrev b_O_room : ByteArray := prog_4_method_2_code
def y_O_room : MethodName := ⟨"OutputBook$Outputs", "room", "()I"⟩
def w_O_room : List Cond := .code y_O_room b_O_room 1 (some .int) :: ob_T
abbrev b_O_has : ByteArray := prog_4_method_3_code
def y_O_has : MethodName := ⟨"OutputBook$Outputs", "has", "(I)Z"⟩
def w_O_has : List Cond := .code y_O_has b_O_has 2 (some .boolean) :: ob_T
abbrev b_O_isLive : ByteArray := prog_4_method_4_code
def y_O_isLive : MethodName := ⟨"OutputBook$Outputs", "isLive", "(I)Z"⟩
def w_O_isLive : List Cond := .code y_O_isLive b_O_isLive 2 (some .boolean) :: ob_T
abbrev b_O_isLiveOf : ByteArray := prog_4_method_5_code
def y_O_isLiveOf : MethodName := ⟨"OutputBook$Outputs", "isLiveOf", "(II)Z"⟩
def w_O_isLiveOf : List Cond := .code y_O_isLiveOf b_O_isLiveOf 3 (some .boolean) :: ob_T
abbrev b_O_amountOf : ByteArray := prog_4_method_6_code
def y_O_amountOf : MethodName := ⟨"OutputBook$Outputs", "amountOf", "(I)J"⟩
def w_O_amountOf : List Cond := .code y_O_amountOf b_O_amountOf 2 (some .long) :: ob_T
abbrev b_O_liveOnes : ByteArray := prog_4_method_7_code
def y_O_liveOnes : MethodName := ⟨"OutputBook$Outputs", "liveOnes", "()I"⟩
def w_O_liveOnes : List Cond := .code y_O_liveOnes b_O_liveOnes 3 (some .int) :: ob_T
abbrev b_O_add : ByteArray := prog_4_method_8_code
def y_O_add : MethodName := ⟨"OutputBook$Outputs", "add", "(IJJI)V"⟩
def w_O_add : List Cond := .code y_O_add b_O_add 7 none :: ob_T
abbrev b_O_takeOff : ByteArray := prog_4_method_9_code
def y_O_takeOff : MethodName := ⟨"OutputBook$Outputs", "takeOff", "(II)V"⟩
def w_O_takeOff : List Cond := .code y_O_takeOff b_O_takeOff 3 none :: ob_T
abbrev b_O_takeBackFrom : ByteArray := prog_4_method_10_code
def y_O_takeBackFrom : MethodName := ⟨"OutputBook$Outputs", "takeBackFrom", "(I)V"⟩
def w_O_takeBackFrom : List Cond := .code y_O_takeBackFrom b_O_takeBackFrom 3 none :: ob_T
abbrev b_O_nextByAmount : ByteArray := prog_4_method_11_code
def y_O_nextByAmount : MethodName := ⟨"OutputBook$Outputs", "nextByAmount", "(II)I"⟩
def w_O_nextByAmount : List Cond := .code y_O_nextByAmount b_O_nextByAmount 5 (some .int) :: ob_T
abbrev b_O_standsAhead : ByteArray := prog_4_method_12_code
def y_O_standsAhead : MethodName := ⟨"OutputBook$Outputs", "standsAhead", "(II)Z"⟩
def w_O_standsAhead : List Cond := .code y_O_standsAhead b_O_standsAhead 3 (some .boolean) :: ob_T
abbrev b_K_init : ByteArray := prog_1_method_1_code
def y_K_init : MethodName := ⟨"OutputBook", "<init>", "(I)V"⟩
def w_K_init : List Cond := .code y_K_init b_K_init 2 none :: ob_T
abbrev b_K_spend : ByteArray := prog_1_method_2_code
def y_K_spend : MethodName := ⟨"OutputBook", "spend", "(I)Z"⟩
def w_K_spend : List Cond := .code y_K_spend b_K_spend 2 (some .boolean) :: ob_T
abbrev b_K_make : ByteArray := prog_1_method_3_code
def y_K_make : MethodName := ⟨"OutputBook", "make", "(IJJ)Z"⟩
def w_K_make : List Cond := .code y_K_make b_K_make 6 (some .boolean) :: ob_T
abbrev b_K_mint : ByteArray := prog_1_method_4_code
def y_K_mint : MethodName := ⟨"OutputBook", "mint", "(J)V"⟩
def w_K_mint : List Cond := .code y_K_mint b_K_mint 3 none :: ob_T
abbrev b_K_drop : ByteArray := prog_1_method_5_code
def y_K_drop : MethodName := ⟨"OutputBook", "drop", "()V"⟩
def w_K_drop : List Cond := .code y_K_drop b_K_drop 1 none :: ob_T
abbrev b_K_apply : ByteArray := prog_1_method_6_code
def y_K_apply : MethodName := ⟨"OutputBook", "apply", "()J"⟩
def w_K_apply : List Cond := .code y_K_apply b_K_apply 3 (some .long) :: ob_T
abbrev b_K_close : ByteArray := prog_1_method_7_code
def y_K_close : MethodName := ⟨"OutputBook", "close", "()I"⟩
def w_K_close : List Cond := .code y_K_close b_K_close 1 (some .int) :: ob_T
abbrev b_K_undo : ByteArray := prog_1_method_8_code
def y_K_undo : MethodName := ⟨"OutputBook", "undo", "(I)I"⟩
def w_K_undo : List Cond := .code y_K_undo b_K_undo 2 (some .int) :: ob_T
abbrev b_K_output : ByteArray := prog_1_method_9_code
def y_K_output : MethodName := ⟨"OutputBook", "output", "(II)I"⟩
def w_K_output : List Cond := .code y_K_output b_K_output 3 (some .int) :: ob_T
abbrev b_K_amount : ByteArray := prog_1_method_10_code
def y_K_amount : MethodName := ⟨"OutputBook", "amount", "(I)J"⟩
def w_K_amount : List Cond := .code y_K_amount b_K_amount 2 (some .long) :: ob_T
abbrev b_K_tag : ByteArray := prog_1_method_11_code
def y_K_tag : MethodName := ⟨"OutputBook", "tag", "(I)J"⟩
def w_K_tag : List Cond := .code y_K_tag b_K_tag 2 (some .long) :: ob_T
abbrev b_K_balance : ByteArray := prog_1_method_12_code
def y_K_balance : MethodName := ⟨"OutputBook", "balance", "(I)J"⟩
def w_K_balance : List Cond := .code y_K_balance b_K_balance 5 (some .long) :: ob_T
abbrev b_K_count : ByteArray := prog_1_method_13_code
def y_K_count : MethodName := ⟨"OutputBook", "count", "(I)I"⟩
def w_K_count : List Cond := .code y_K_count b_K_count 4 (some .int) :: ob_T
abbrev b_K_nth : ByteArray := prog_1_method_14_code
def y_K_nth : MethodName := ⟨"OutputBook", "nth", "(II)I"⟩
def w_K_nth : List Cond := .code y_K_nth b_K_nth 5 (some .int) :: ob_T
abbrev b_K_gather : ByteArray := prog_1_method_15_code
def y_K_gather : MethodName := ⟨"OutputBook", "gather", "(IJ)I"⟩
def w_K_gather : List Cond := .code y_K_gather b_K_gather 9 (some .int) :: ob_T
abbrev b_K_look : ByteArray := prog_1_method_16_code
def y_K_look : MethodName := ⟨"OutputBook", "look", "(I)J"⟩
def w_K_look : List Cond := .code y_K_look b_K_look 2 (some .long) :: ob_T
abbrev b_K_feeOfDraft : ByteArray := prog_1_method_17_code
def y_K_feeOfDraft : MethodName := ⟨"OutputBook", "feeOfDraft", "()J"⟩
def w_K_feeOfDraft : List Cond := .code y_K_feeOfDraft b_K_feeOfDraft 4 (some .long) :: ob_T
abbrev b_K_bookDraft : ByteArray := prog_1_method_18_code
def y_K_bookDraft : MethodName := ⟨"OutputBook", "bookDraft", "()V"⟩
def w_K_bookDraft : List Cond := .code y_K_bookDraft b_K_bookDraft 2 none :: ob_T
abbrev b_M_init : ByteArray := prog_6_method_1_code
def y_M_init : MethodName := ⟨"OutputBookModel", "<init>", "(I)V"⟩
def w_M_init : List Cond := .code y_M_init b_M_init 2 none :: ob_T
abbrev b_M_isMade : ByteArray := prog_6_method_3_code
def y_M_isMade : MethodName := ⟨"OutputBookModel", "isMade", "(I)Z"⟩
def w_M_isMade : List Cond := .code y_M_isMade b_M_isMade 2 (some .boolean) :: ob_T
abbrev b_M_isLive : ByteArray := prog_6_method_4_code
def y_M_isLive : MethodName := ⟨"OutputBookModel", "isLive", "(I)Z"⟩
def w_M_isLive : List Cond := .code y_M_isLive b_M_isLive 2 (some .boolean) :: ob_T
abbrev b_M_isDrafted : ByteArray := prog_6_method_5_code
def y_M_isDrafted : MethodName := ⟨"OutputBookModel", "isDrafted", "(I)Z"⟩
def w_M_isDrafted : List Cond := .code y_M_isDrafted b_M_isDrafted 4 (some .boolean) :: ob_T
abbrev b_M_isOwner : ByteArray := prog_6_method_6_code
def y_M_isOwner : MethodName := ⟨"OutputBookModel", "isOwner", "(I)Z"⟩
def w_M_isOwner : List Cond := .code y_M_isOwner b_M_isOwner 1 (some .boolean) :: ob_T
abbrev b_M_empty : ByteArray := prog_6_method_7_code
def y_M_empty : MethodName := ⟨"OutputBookModel", "empty", "()V"⟩
def w_M_empty : List Cond := .code y_M_empty b_M_empty 1 none :: ob_T
abbrev b_M_spend : ByteArray := prog_6_method_8_code
def y_M_spend : MethodName := ⟨"OutputBookModel", "spend", "(I)Z"⟩
def w_M_spend : List Cond := .code y_M_spend b_M_spend 2 (some .boolean) :: ob_T
abbrev b_M_make : ByteArray := prog_6_method_9_code
def y_M_make : MethodName := ⟨"OutputBookModel", "make", "(IJJ)Z"⟩
def w_M_make : List Cond := .code y_M_make b_M_make 6 (some .boolean) :: ob_T
abbrev b_M_mint : ByteArray := prog_6_method_10_code
def y_M_mint : MethodName := ⟨"OutputBookModel", "mint", "(J)V"⟩
def w_M_mint : List Cond := .code y_M_mint b_M_mint 3 none :: ob_T
abbrev b_M_drop : ByteArray := prog_6_method_11_code
def y_M_drop : MethodName := ⟨"OutputBookModel", "drop", "()V"⟩
def w_M_drop : List Cond := .code y_M_drop b_M_drop 1 none :: ob_T
abbrev b_M_apply : ByteArray := prog_6_method_12_code
def y_M_apply : MethodName := ⟨"OutputBookModel", "apply", "()J"⟩
def w_M_apply : List Cond := .code y_M_apply b_M_apply 4 (some .long) :: ob_T
abbrev b_M_close : ByteArray := prog_6_method_13_code
def y_M_close : MethodName := ⟨"OutputBookModel", "close", "()I"⟩
def w_M_close : List Cond := .code y_M_close b_M_close 1 (some .int) :: ob_T
abbrev b_M_undo : ByteArray := prog_6_method_14_code
def y_M_undo : MethodName := ⟨"OutputBookModel", "undo", "(I)I"⟩
def w_M_undo : List Cond := .code y_M_undo b_M_undo 4 (some .int) :: ob_T
abbrev b_M_output : ByteArray := prog_6_method_15_code
def y_M_output : MethodName := ⟨"OutputBookModel", "output", "(II)I"⟩
def w_M_output : List Cond := .code y_M_output b_M_output 3 (some .int) :: ob_T
abbrev b_M_amount : ByteArray := prog_6_method_16_code
def y_M_amount : MethodName := ⟨"OutputBookModel", "amount", "(I)J"⟩
def w_M_amount : List Cond := .code y_M_amount b_M_amount 2 (some .long) :: ob_T
abbrev b_M_tag : ByteArray := prog_6_method_17_code
def y_M_tag : MethodName := ⟨"OutputBookModel", "tag", "(I)J"⟩
def w_M_tag : List Cond := .code y_M_tag b_M_tag 2 (some .long) :: ob_T
abbrev b_M_balance : ByteArray := prog_6_method_18_code
def y_M_balance : MethodName := ⟨"OutputBookModel", "balance", "(I)J"⟩
def w_M_balance : List Cond := .code y_M_balance b_M_balance 5 (some .long) :: ob_T
abbrev b_M_count : ByteArray := prog_6_method_19_code
def y_M_count : MethodName := ⟨"OutputBookModel", "count", "(I)I"⟩
def w_M_count : List Cond := .code y_M_count b_M_count 4 (some .int) :: ob_T
abbrev b_M_nth : ByteArray := prog_6_method_20_code
def y_M_nth : MethodName := ⟨"OutputBookModel", "nth", "(II)I"⟩
def w_M_nth : List Cond := .code y_M_nth b_M_nth 5 (some .int) :: ob_T
abbrev b_M_best : ByteArray := prog_6_method_21_code
def y_M_best : MethodName := ⟨"OutputBookModel", "best", "(II)I"⟩
def w_M_best : List Cond := .code y_M_best b_M_best 7 (some .int) :: ob_T
abbrev b_M_gather : ByteArray := prog_6_method_22_code
def y_M_gather : MethodName := ⟨"OutputBookModel", "gather", "(IJ)I"⟩
def w_M_gather : List Cond := .code y_M_gather b_M_gather 8 (some .int) :: ob_T
abbrev b_M_look : ByteArray := prog_6_method_23_code
def y_M_look : MethodName := ⟨"OutputBookModel", "look", "(I)J"⟩
def w_M_look : List Cond := .code y_M_look b_M_look 5 (some .long) :: ob_T
abbrev b_L_cell : ByteArray := method_2_code
def y_L_cell : MethodName := ⟨"OutputBookLaw", "cell", "([II)I"⟩
def w_L_cell : List Cond := .code y_L_cell b_L_cell 2 (some .int) :: ob_T
abbrev b_L_law : ByteArray := code
def y_L_law : MethodName := ⟨"OutputBookLaw", "law", "([I)Z"⟩
def w_L_law : List Cond := .code y_L_law b_L_law 4 (some .boolean) :: ob_T
