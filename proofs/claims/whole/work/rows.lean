section
-- ===== PART A: goes FIRST, ahead of the names: the tables' words, and 'selects' of the private methods out of them =====
/-- a private method of a class that the tables say can be made, by its rows of tables_1 -/
def lw_okq (q : MethodName × Nat) : Prop := (q.1.cls ≠ "java/lang/invoke/MethodHandle" ∧ q.1.cls ≠ "java/lang/invoke/VarHandle") ∧ Cond.instantiable q.1.cls q.2 ∈ tables_1 ∧ Cond.privateMethod q.1 ∈ tables_1 ∧ Cond.instanceMethod q.1 ∈ tables_1
theorem lw_p0 : lw_okq (⟨"OutputBook", "feeOfDraft", "()J"⟩, 6) := ⟨⟨by decide +kernel, by decide +kernel⟩, List.mem_of_getElem? (i := 8) (by decide +kernel), List.mem_of_getElem? (i := 197) (by decide +kernel), List.mem_of_getElem? (i := 198) (by decide +kernel)⟩
theorem lw_p1 : lw_okq (⟨"OutputBook", "bookDraft", "()V"⟩, 6) := ⟨⟨by decide +kernel, by decide +kernel⟩, List.mem_of_getElem? (i := 8) (by decide +kernel), List.mem_of_getElem? (i := 212) (by decide +kernel), List.mem_of_getElem? (i := 213) (by decide +kernel)⟩
theorem lw_p2 : lw_okq (⟨"OutputBook$Outputs", "standsAhead", "(II)Z"⟩, 6) := ⟨⟨by decide +kernel, by decide +kernel⟩, List.mem_of_getElem? (i := 16) (by decide +kernel), List.mem_of_getElem? (i := 297) (by decide +kernel), List.mem_of_getElem? (i := 298) (by decide +kernel)⟩
theorem lw_p3 : lw_okq (⟨"OutputBookModel", "isLive", "(I)Z"⟩, 24) := ⟨⟨by decide +kernel, by decide +kernel⟩, List.mem_of_getElem? (i := 312) (by decide +kernel), List.mem_of_getElem? (i := 395) (by decide +kernel), List.mem_of_getElem? (i := 396) (by decide +kernel)⟩
theorem lw_p4 : lw_okq (⟨"OutputBookModel", "isMade", "(I)Z"⟩, 24) := ⟨⟨by decide +kernel, by decide +kernel⟩, List.mem_of_getElem? (i := 312) (by decide +kernel), List.mem_of_getElem? (i := 399) (by decide +kernel), List.mem_of_getElem? (i := 400) (by decide +kernel)⟩
theorem lw_p5 : lw_okq (⟨"OutputBookModel", "isDrafted", "(I)Z"⟩, 24) := ⟨⟨by decide +kernel, by decide +kernel⟩, List.mem_of_getElem? (i := 312) (by decide +kernel), List.mem_of_getElem? (i := 403) (by decide +kernel), List.mem_of_getElem? (i := 404) (by decide +kernel)⟩
theorem lw_p6 : lw_okq (⟨"OutputBookModel", "empty", "()V"⟩, 24) := ⟨⟨by decide +kernel, by decide +kernel⟩, List.mem_of_getElem? (i := 312) (by decide +kernel), List.mem_of_getElem? (i := 422) (by decide +kernel), List.mem_of_getElem? (i := 423) (by decide +kernel)⟩
theorem lw_p7 : lw_okq (⟨"OutputBookModel", "best", "(II)I"⟩, 24) := ⟨⟨by decide +kernel, by decide +kernel⟩, List.mem_of_getElem? (i := 312) (by decide +kernel), List.mem_of_getElem? (i := 470) (by decide +kernel), List.mem_of_getElem? (i := 471) (by decide +kernel)⟩
def lw_privs_1 : List (MethodName × Nat) := [(⟨"OutputBook", "feeOfDraft", "()J"⟩, 6), (⟨"OutputBook", "bookDraft", "()V"⟩, 6), (⟨"OutputBook$Outputs", "standsAhead", "(II)Z"⟩, 6), (⟨"OutputBookModel", "isLive", "(I)Z"⟩, 24), (⟨"OutputBookModel", "isMade", "(I)Z"⟩, 24), (⟨"OutputBookModel", "isDrafted", "(I)Z"⟩, 24), (⟨"OutputBookModel", "empty", "()V"⟩, 24), (⟨"OutputBookModel", "best", "(II)I"⟩, 24)]
theorem lw_r1 : ∀ q ∈ lw_privs_1, lw_okq q := List.forall_mem_cons.mpr ⟨lw_p0, List.forall_mem_cons.mpr ⟨lw_p1, List.forall_mem_cons.mpr ⟨lw_p2, List.forall_mem_cons.mpr ⟨lw_p3, List.forall_mem_cons.mpr ⟨lw_p4, List.forall_mem_cons.mpr ⟨lw_p5, List.forall_mem_cons.mpr ⟨lw_p6, List.forall_mem_cons.mpr ⟨lw_p7, fun _ h => absurd h List.not_mem_nil⟩⟩⟩⟩⟩⟩⟩⟩
def lw_privs : List (MethodName × Nat) := lw_privs_1
def lw_tbl : List Cond := k2_sels lw_privs ++ tables_1
theorem lw_privs_ok : ∀ q ∈ lw_privs, lw_okq q := lw_r1
def R_B : String := "OutputBook$Blocks"
def T_B : u_T := fun k => match k with
  | 0 => ("OutputBook$Blocks", "depth", "I", true)
  | 1 => ("OutputBook$Blocks", "supplies", "[J", true)
  | 2 => ("OutputBook$Blocks", "pots", "[J", true)
  | 3 => ("OutputBook$Blocks", "applieds", "[I", true)
  | 4 => ("OutputBook$Blocks", "row", "I", false)
  | 5 => ("OutputBook$Blocks", "height", "I", false)
  | _ => ("OutputBook$Blocks", "undoable", "I", false)
def t_B : Nat → FieldType := fun k => match k with
  | 0 => .int
  | 1 => .array .long
  | 2 => .array .long
  | 3 => .array .int
  | 4 => .int
  | 5 => .int
  | _ => .int
theorem n_B : ∀ a, a < 7 → ∀ b, b < 7 → a ≠ b → (T_B a).2.1 ≠ (T_B b).2.1 := by decide +kernel
theorem t_B_ok : ∀ k, k < 7 → parseFieldDescriptor (T_B k).2.2.1 = some (t_B k) := by decide +kernel
def R_D : String := "OutputBook$Draft"
def T_D : u_T := fun k => match k with
  | 0 => ("OutputBook$Draft", "toSpend", "[I", true)
  | 1 => ("OutputBook$Draft", "owners", "[I", true)
  | 2 => ("OutputBook$Draft", "amounts", "[J", true)
  | 3 => ("OutputBook$Draft", "tags", "[J", true)
  | 4 => ("OutputBook$Draft", "spends", "I", false)
  | 5 => ("OutputBook$Draft", "makes", "I", false)
  | _ => ("OutputBook$Draft", "mint", "J", false)
def t_D : Nat → FieldType := fun k => match k with
  | 0 => .array .int
  | 1 => .array .int
  | 2 => .array .long
  | 3 => .array .long
  | 4 => .int
  | 5 => .int
  | _ => .long
theorem n_D : ∀ a, a < 7 → ∀ b, b < 7 → a ≠ b → (T_D a).2.1 ≠ (T_D b).2.1 := by decide +kernel
theorem t_D_ok : ∀ k, k < 7 → parseFieldDescriptor (T_D k).2.2.1 = some (t_D k) := by decide +kernel
def R_O : String := "OutputBook$Outputs"
def T_O : u_T := fun k => match k with
  | 0 => ("OutputBook$Outputs", "owners", "[I", true)
  | 1 => ("OutputBook$Outputs", "amounts", "[J", true)
  | 2 => ("OutputBook$Outputs", "tags", "[J", true)
  | 3 => ("OutputBook$Outputs", "madeAt", "[I", true)
  | 4 => ("OutputBook$Outputs", "spentAt", "[I", true)
  | _ => ("OutputBook$Outputs", "made", "I", false)
def t_O : Nat → FieldType := fun k => match k with
  | 0 => .array .int
  | 1 => .array .long
  | 2 => .array .long
  | 3 => .array .int
  | 4 => .array .int
  | _ => .int
theorem n_O : ∀ a, a < 6 → ∀ b, b < 6 → a ≠ b → (T_O a).2.1 ≠ (T_O b).2.1 := by decide +kernel
theorem t_O_ok : ∀ k, k < 6 → parseFieldDescriptor (T_O k).2.2.1 = some (t_O k) := by decide +kernel
def R_K : String := "OutputBook"
def T_K : u_T := fun k => match k with
  | 0 => ("OutputBook", "outputs", "LOutputBook$Outputs;", true)
  | 1 => ("OutputBook", "draft", "LOutputBook$Draft;", true)
  | 2 => ("OutputBook", "blocks", "LOutputBook$Blocks;", true)
  | 3 => ("OutputBook", "supply", "J", false)
  | 4 => ("OutputBook", "pot", "J", false)
  | _ => ("OutputBook", "applied", "I", false)
def t_K : Nat → FieldType := fun k => match k with
  | 0 => .object "OutputBook$Outputs"
  | 1 => .object "OutputBook$Draft"
  | 2 => .object "OutputBook$Blocks"
  | 3 => .long
  | 4 => .long
  | _ => .int
theorem n_K : ∀ a, a < 6 → ∀ b, b < 6 → a ≠ b → (T_K a).2.1 ≠ (T_K b).2.1 := by decide +kernel
theorem t_K_ok : ∀ k, k < 6 → parseFieldDescriptor (T_K k).2.2.1 = some (t_K k) := by decide +kernel
def R_M : String := "OutputBookModel"
def T_M : u_T := fun k => match k with
  | 0 => ("OutputBookModel", "thrown", "I", false)
  | 1 => ("OutputBookModel", "most", "I", true)
  | 2 => ("OutputBookModel", "made", "I", false)
  | 3 => ("OutputBookModel", "owners", "[I", true)
  | 4 => ("OutputBookModel", "amounts", "[J", true)
  | 5 => ("OutputBookModel", "tags", "[J", true)
  | 6 => ("OutputBookModel", "madeAt", "[I", true)
  | 7 => ("OutputBookModel", "spentAt", "[I", true)
  | 8 => ("OutputBookModel", "height", "I", false)
  | 9 => ("OutputBookModel", "undoable", "I", false)
  | 10 => ("OutputBookModel", "pot", "J", false)
  | 11 => ("OutputBookModel", "supply", "J", false)
  | 12 => ("OutputBookModel", "applied", "I", false)
  | 13 => ("OutputBookModel", "fees", "[J", true)
  | 14 => ("OutputBookModel", "mints", "[J", true)
  | 15 => ("OutputBookModel", "times", "[I", true)
  | 16 => ("OutputBookModel", "spends", "I", false)
  | 17 => ("OutputBookModel", "spend", "[I", true)
  | 18 => ("OutputBookModel", "makes", "I", false)
  | 19 => ("OutputBookModel", "makeOwner", "[I", true)
  | 20 => ("OutputBookModel", "makeAmount", "[J", true)
  | 21 => ("OutputBookModel", "makeTag", "[J", true)
  | 22 => ("OutputBookModel", "mint", "J", false)
  | _ => ("OutputBookModel", "picked", "[I", true)
def t_M : Nat → FieldType := fun k => match k with
  | 0 => .int
  | 1 => .int
  | 2 => .int
  | 3 => .array .int
  | 4 => .array .long
  | 5 => .array .long
  | 6 => .array .int
  | 7 => .array .int
  | 8 => .int
  | 9 => .int
  | 10 => .long
  | 11 => .long
  | 12 => .int
  | 13 => .array .long
  | 14 => .array .long
  | 15 => .array .int
  | 16 => .int
  | 17 => .array .int
  | 18 => .int
  | 19 => .array .int
  | 20 => .array .long
  | 21 => .array .long
  | 22 => .long
  | _ => .array .int
theorem n_M : ∀ a, a < 24 → ∀ b, b < 24 → a ≠ b → (T_M a).2.1 ≠ (T_M b).2.1 := by decide +kernel
theorem t_M_ok : ∀ k, k < 24 → parseFieldDescriptor (T_M k).2.2.1 = some (t_M k) := by decide +kernel
abbrev vwCl : List vw_C := [(R_B, T_B, 7), (R_D, T_D, 7), (R_O, T_O, 6), (R_K, T_K, 6), (R_M, T_M, 24)]
/-- the words that last: every method's words are these -/
def ob_T : List Cond := lw_tbl.filter goodWord
theorem ob_T_of {w : Cond} (n : Nat) (h : lw_tbl[n]? = some w) (hg : goodWord w = true) : w ∈ ob_T := List.mem_filter.mpr ⟨List.mem_of_getElem? h, hg⟩
theorem ob_T_in : ∀ w ∈ ob_T, w ∈ lw_tbl := fun w h => (List.mem_filter.mp h).1
theorem ob_T_good : ∀ w ∈ ob_T, goodWord w = true := fun w h => (List.mem_filter.mp h).2
theorem k_0 : (Jvm.Cond.selects "OutputBook" ({ cls := "OutputBook", name := "feeOfDraft", desc := "()J" } : Jvm.MethodName) ({ cls := "OutputBook", name := "feeOfDraft", desc := "()J" } : Jvm.MethodName)) ∈ ob_T := ob_T_of 0 (by decide +kernel) (by decide +kernel)
theorem k_1 : (Jvm.Cond.selects "OutputBook" ({ cls := "OutputBook", name := "bookDraft", desc := "()V" } : Jvm.MethodName) ({ cls := "OutputBook", name := "bookDraft", desc := "()V" } : Jvm.MethodName)) ∈ ob_T := ob_T_of 1 (by decide +kernel) (by decide +kernel)
theorem k_2 : (Jvm.Cond.selects "OutputBook$Outputs" ({ cls := "OutputBook$Outputs", name := "standsAhead", desc := "(II)Z" } : Jvm.MethodName) ({ cls := "OutputBook$Outputs", name := "standsAhead", desc := "(II)Z" } : Jvm.MethodName)) ∈ ob_T := ob_T_of 2 (by decide +kernel) (by decide +kernel)
theorem k_3 : (Jvm.Cond.selects "OutputBookModel" ({ cls := "OutputBookModel", name := "isLive", desc := "(I)Z" } : Jvm.MethodName) ({ cls := "OutputBookModel", name := "isLive", desc := "(I)Z" } : Jvm.MethodName)) ∈ ob_T := ob_T_of 3 (by decide +kernel) (by decide +kernel)
theorem k_4 : (Jvm.Cond.selects "OutputBookModel" ({ cls := "OutputBookModel", name := "isMade", desc := "(I)Z" } : Jvm.MethodName) ({ cls := "OutputBookModel", name := "isMade", desc := "(I)Z" } : Jvm.MethodName)) ∈ ob_T := ob_T_of 4 (by decide +kernel) (by decide +kernel)
theorem k_5 : (Jvm.Cond.selects "OutputBookModel" ({ cls := "OutputBookModel", name := "isDrafted", desc := "(I)Z" } : Jvm.MethodName) ({ cls := "OutputBookModel", name := "isDrafted", desc := "(I)Z" } : Jvm.MethodName)) ∈ ob_T := ob_T_of 5 (by decide +kernel) (by decide +kernel)
theorem k_6 : (Jvm.Cond.selects "OutputBookModel" ({ cls := "OutputBookModel", name := "empty", desc := "()V" } : Jvm.MethodName) ({ cls := "OutputBookModel", name := "empty", desc := "()V" } : Jvm.MethodName)) ∈ ob_T := ob_T_of 6 (by decide +kernel) (by decide +kernel)
theorem k_7 : (Jvm.Cond.selects "OutputBookModel" ({ cls := "OutputBookModel", name := "best", desc := "(II)I" } : Jvm.MethodName) ({ cls := "OutputBookModel", name := "best", desc := "(II)I" } : Jvm.MethodName)) ∈ ob_T := ob_T_of 7 (by decide +kernel) (by decide +kernel)
theorem k_8 : (Jvm.Cond.initialized "OutputBookLaw") ∈ ob_T := ob_T_of 8 (by decide +kernel) (by decide +kernel)
theorem k_9 : (Jvm.Cond.initialized "OutputBook") ∈ ob_T := ob_T_of 9 (by decide +kernel) (by decide +kernel)
theorem k_10 : (Jvm.Cond.initialized "OutputBook$Outputs") ∈ ob_T := ob_T_of 10 (by decide +kernel) (by decide +kernel)
theorem k_11 : (Jvm.Cond.initialized "OutputBook$Draft") ∈ ob_T := ob_T_of 11 (by decide +kernel) (by decide +kernel)
theorem k_12 : (Jvm.Cond.initialized "OutputBook$Blocks") ∈ ob_T := ob_T_of 12 (by decide +kernel) (by decide +kernel)
theorem k_13 : (Jvm.Cond.initialized "java/lang/Math") ∈ ob_T := ob_T_of 13 (by decide +kernel) (by decide +kernel)
theorem k_14 : (Jvm.Cond.initialized "OutputBookModel") ∈ ob_T := ob_T_of 14 (by decide +kernel) (by decide +kernel)
theorem k_15 : (Jvm.Cond.classLink "OutputBookLaw" (7 : Nat) "OutputBook") ∈ ob_T := ob_T_of 15 (by decide +kernel) (by decide +kernel)
theorem k_16 : (Jvm.Cond.instantiable "OutputBook" (6 : Nat)) ∈ ob_T := ob_T_of 16 (by decide +kernel) (by decide +kernel)
theorem k_17 : (Jvm.Cond.methodLink "OutputBookLaw" (15 : Nat) ({ cls := "OutputBook", name := "<init>", desc := "(I)V" } : Jvm.MethodName)) ∈ ob_T := ob_T_of 17 (by decide +kernel) (by decide +kernel)
theorem k_18 : (Jvm.Cond.instanceMethod ({ cls := "OutputBook", name := "<init>", desc := "(I)V" } : Jvm.MethodName)) ∈ ob_T := ob_T_of 18 (by decide +kernel) (by decide +kernel)
theorem k_19 : (Jvm.Cond.code ({ cls := "OutputBook", name := "<init>", desc := "(I)V" } : Jvm.MethodName) prog_1_method_1_code (2 : Nat) (Option.none : Option Jvm.ClassFile.FieldType)) ∈ ob_T := ob_T_of 19 (rfl) (by decide +kernel)
theorem k_20 : (Jvm.Cond.methodLink "OutputBook" (1 : Nat) ({ cls := "java/lang/Object", name := "<init>", desc := "()V" } : Jvm.MethodName)) ∈ ob_T := ob_T_of 20 (by decide +kernel) (by decide +kernel)
theorem k_21 : (Jvm.Cond.instanceMethod ({ cls := "java/lang/Object", name := "<init>", desc := "()V" } : Jvm.MethodName)) ∈ ob_T := ob_T_of 21 (by decide +kernel) (by decide +kernel)
theorem k_22 : (Jvm.Cond.code ({ cls := "java/lang/Object", name := "<init>", desc := "()V" } : Jvm.MethodName) object_method_1_code (1 : Nat) (Option.none : Option Jvm.ClassFile.FieldType)) ∈ ob_T := ob_T_of 22 (rfl) (by decide +kernel)
theorem k_23 : (Jvm.Cond.classLink "OutputBook" (7 : Nat) "OutputBook$Outputs") ∈ ob_T := ob_T_of 23 (by decide +kernel) (by decide +kernel)
theorem k_24 : (Jvm.Cond.instantiable "OutputBook$Outputs" (6 : Nat)) ∈ ob_T := ob_T_of 24 (by decide +kernel) (by decide +kernel)
theorem k_26 : (Jvm.Cond.instanceMethod ({ cls := "OutputBook$Outputs", name := "<init>", desc := "()V" } : Jvm.MethodName)) ∈ ob_T := ob_T_of 26 (by decide +kernel) (by decide +kernel)
theorem k_27 : (Jvm.Cond.code ({ cls := "OutputBook$Outputs", name := "<init>", desc := "()V" } : Jvm.MethodName) prog_4_method_1_code (1 : Nat) (Option.none : Option Jvm.ClassFile.FieldType)) ∈ ob_T := ob_T_of 27 (rfl) (by decide +kernel)
theorem k_28 : (Jvm.Cond.methodLink "OutputBook$Outputs" (3 : Nat) ({ cls := "java/lang/Object", name := "<init>", desc := "()V" } : Jvm.MethodName)) ∈ ob_T := ob_T_of 28 (by decide +kernel) (by decide +kernel)
theorem k_29 : (Jvm.Cond.fieldLink "OutputBook$Outputs" (9 : Nat) "OutputBook$Outputs" "owners" "[I") ∈ ob_T := ob_T_of 29 (by decide +kernel) (by decide +kernel)
theorem k_31 : (Jvm.Cond.fieldLink "OutputBook$Outputs" (15 : Nat) "OutputBook$Outputs" "amounts" "[J") ∈ ob_T := ob_T_of 31 (by decide +kernel) (by decide +kernel)
theorem k_32 : (Jvm.Cond.fieldLink "OutputBook$Outputs" (19 : Nat) "OutputBook$Outputs" "tags" "[J") ∈ ob_T := ob_T_of 32 (by decide +kernel) (by decide +kernel)
theorem k_34 : (Jvm.Cond.fieldLink "OutputBook$Outputs" (22 : Nat) "OutputBook$Outputs" "madeAt" "[I") ∈ ob_T := ob_T_of 34 (by decide +kernel) (by decide +kernel)
theorem k_36 : (Jvm.Cond.fieldLink "OutputBook$Outputs" (25 : Nat) "OutputBook$Outputs" "spentAt" "[I") ∈ ob_T := ob_T_of 36 (by decide +kernel) (by decide +kernel)
theorem k_38 : (Jvm.Cond.fieldLink "OutputBook$Outputs" (28 : Nat) "OutputBook$Outputs" "made" "I") ∈ ob_T := ob_T_of 38 (by decide +kernel) (by decide +kernel)
theorem k_40 : (Jvm.Cond.laysFinal "OutputBook$Outputs" "OutputBook$Outputs" "owners" "[I") ∈ ob_T := ob_T_of 40 (by decide +kernel) (by decide +kernel)
theorem k_42 : (Jvm.Cond.laysFinal "OutputBook$Outputs" "OutputBook$Outputs" "amounts" "[J") ∈ ob_T := ob_T_of 42 (by decide +kernel) (by decide +kernel)
theorem k_44 : (Jvm.Cond.laysFinal "OutputBook$Outputs" "OutputBook$Outputs" "tags" "[J") ∈ ob_T := ob_T_of 44 (by decide +kernel) (by decide +kernel)
theorem k_46 : (Jvm.Cond.laysFinal "OutputBook$Outputs" "OutputBook$Outputs" "madeAt" "[I") ∈ ob_T := ob_T_of 46 (by decide +kernel) (by decide +kernel)
theorem k_48 : (Jvm.Cond.laysFinal "OutputBook$Outputs" "OutputBook$Outputs" "spentAt" "[I") ∈ ob_T := ob_T_of 48 (by decide +kernel) (by decide +kernel)
theorem k_50 : (Jvm.Cond.lays "OutputBook$Outputs" "OutputBook$Outputs" "made" "I") ∈ ob_T := ob_T_of 50 (by decide +kernel) (by decide +kernel)
theorem k_53 : (Jvm.Cond.arrayClass Jvm.ClassFile.FieldType.int) ∈ ob_T := ob_T_of 53 (by decide +kernel) (by decide +kernel)
theorem k_54 : (Jvm.Cond.arrayClass Jvm.ClassFile.FieldType.long) ∈ ob_T := ob_T_of 54 (by decide +kernel) (by decide +kernel)
theorem k_55 : (Jvm.Cond.classLink "OutputBook" (16 : Nat) "OutputBook$Draft") ∈ ob_T := ob_T_of 55 (by decide +kernel) (by decide +kernel)
theorem k_56 : (Jvm.Cond.instantiable "OutputBook$Draft" (7 : Nat)) ∈ ob_T := ob_T_of 56 (by decide +kernel) (by decide +kernel)
theorem k_58 : (Jvm.Cond.instanceMethod ({ cls := "OutputBook$Draft", name := "<init>", desc := "()V" } : Jvm.MethodName)) ∈ ob_T := ob_T_of 58 (by decide +kernel) (by decide +kernel)
theorem k_59 : (Jvm.Cond.code ({ cls := "OutputBook$Draft", name := "<init>", desc := "()V" } : Jvm.MethodName) prog_3_method_1_code (1 : Nat) (Option.none : Option Jvm.ClassFile.FieldType)) ∈ ob_T := ob_T_of 59 (rfl) (by decide +kernel)
theorem k_60 : (Jvm.Cond.methodLink "OutputBook$Draft" (3 : Nat) ({ cls := "java/lang/Object", name := "<init>", desc := "()V" } : Jvm.MethodName)) ∈ ob_T := ob_T_of 60 (by decide +kernel) (by decide +kernel)
theorem k_61 : (Jvm.Cond.fieldLink "OutputBook$Draft" (9 : Nat) "OutputBook$Draft" "toSpend" "[I") ∈ ob_T := ob_T_of 61 (by decide +kernel) (by decide +kernel)
theorem k_63 : (Jvm.Cond.fieldLink "OutputBook$Draft" (15 : Nat) "OutputBook$Draft" "owners" "[I") ∈ ob_T := ob_T_of 63 (by decide +kernel) (by decide +kernel)
theorem k_65 : (Jvm.Cond.fieldLink "OutputBook$Draft" (18 : Nat) "OutputBook$Draft" "amounts" "[J") ∈ ob_T := ob_T_of 65 (by decide +kernel) (by decide +kernel)
theorem k_67 : (Jvm.Cond.fieldLink "OutputBook$Draft" (22 : Nat) "OutputBook$Draft" "tags" "[J") ∈ ob_T := ob_T_of 67 (by decide +kernel) (by decide +kernel)
theorem k_69 : (Jvm.Cond.fieldLink "OutputBook$Draft" (25 : Nat) "OutputBook$Draft" "spends" "I") ∈ ob_T := ob_T_of 69 (by decide +kernel) (by decide +kernel)
theorem k_71 : (Jvm.Cond.fieldLink "OutputBook$Draft" (29 : Nat) "OutputBook$Draft" "makes" "I") ∈ ob_T := ob_T_of 71 (by decide +kernel) (by decide +kernel)
theorem k_74 : (Jvm.Cond.fieldLink "OutputBook$Draft" (39 : Nat) "OutputBook$Draft" "mint" "J") ∈ ob_T := ob_T_of 74 (by decide +kernel) (by decide +kernel)
theorem k_75 : (Jvm.Cond.laysFinal "OutputBook$Draft" "OutputBook$Draft" "toSpend" "[I") ∈ ob_T := ob_T_of 75 (by decide +kernel) (by decide +kernel)
theorem k_77 : (Jvm.Cond.laysFinal "OutputBook$Draft" "OutputBook$Draft" "owners" "[I") ∈ ob_T := ob_T_of 77 (by decide +kernel) (by decide +kernel)
theorem k_79 : (Jvm.Cond.laysFinal "OutputBook$Draft" "OutputBook$Draft" "amounts" "[J") ∈ ob_T := ob_T_of 79 (by decide +kernel) (by decide +kernel)
theorem k_81 : (Jvm.Cond.laysFinal "OutputBook$Draft" "OutputBook$Draft" "tags" "[J") ∈ ob_T := ob_T_of 81 (by decide +kernel) (by decide +kernel)
theorem k_83 : (Jvm.Cond.lays "OutputBook$Draft" "OutputBook$Draft" "spends" "I") ∈ ob_T := ob_T_of 83 (by decide +kernel) (by decide +kernel)
theorem k_85 : (Jvm.Cond.lays "OutputBook$Draft" "OutputBook$Draft" "makes" "I") ∈ ob_T := ob_T_of 85 (by decide +kernel) (by decide +kernel)
theorem k_87 : (Jvm.Cond.lays "OutputBook$Draft" "OutputBook$Draft" "mint" "J") ∈ ob_T := ob_T_of 87 (by decide +kernel) (by decide +kernel)
theorem k_90 : (Jvm.Cond.classLink "OutputBook" (23 : Nat) "OutputBook$Blocks") ∈ ob_T := ob_T_of 90 (by decide +kernel) (by decide +kernel)
theorem k_91 : (Jvm.Cond.instantiable "OutputBook$Blocks" (7 : Nat)) ∈ ob_T := ob_T_of 91 (by decide +kernel) (by decide +kernel)
theorem k_92 : (Jvm.Cond.methodLink "OutputBook" (25 : Nat) ({ cls := "java/lang/Math", name := "min", desc := "(II)I" } : Jvm.MethodName)) ∈ ob_T := ob_T_of 92 (by decide +kernel) (by decide +kernel)
theorem k_93 : (Jvm.Cond.static ({ cls := "java/lang/Math", name := "min", desc := "(II)I" } : Jvm.MethodName)) ∈ ob_T := ob_T_of 93 (by decide +kernel) (by decide +kernel)
theorem k_94 : (Jvm.Cond.code ({ cls := "java/lang/Math", name := "min", desc := "(II)I" } : Jvm.MethodName) prog_7_method_69_code (2 : Nat) (Option.some Jvm.ClassFile.FieldType.int)) ∈ ob_T := ob_T_of 94 (rfl) (by decide +kernel)
theorem k_95 : (Jvm.Cond.methodLink "OutputBook" (31 : Nat) ({ cls := "java/lang/Math", name := "max", desc := "(II)I" } : Jvm.MethodName)) ∈ ob_T := ob_T_of 95 (by decide +kernel) (by decide +kernel)
theorem k_96 : (Jvm.Cond.static ({ cls := "java/lang/Math", name := "max", desc := "(II)I" } : Jvm.MethodName)) ∈ ob_T := ob_T_of 96 (by decide +kernel) (by decide +kernel)
theorem k_97 : (Jvm.Cond.code ({ cls := "java/lang/Math", name := "max", desc := "(II)I" } : Jvm.MethodName) prog_7_method_65_code (2 : Nat) (Option.some Jvm.ClassFile.FieldType.int)) ∈ ob_T := ob_T_of 97 (rfl) (by decide +kernel)
theorem k_98 : (Jvm.Cond.methodLink "OutputBook" (34 : Nat) ({ cls := "OutputBook$Blocks", name := "<init>", desc := "(I)V" } : Jvm.MethodName)) ∈ ob_T := ob_T_of 98 (by decide +kernel) (by decide +kernel)
theorem k_99 : (Jvm.Cond.instanceMethod ({ cls := "OutputBook$Blocks", name := "<init>", desc := "(I)V" } : Jvm.MethodName)) ∈ ob_T := ob_T_of 99 (by decide +kernel) (by decide +kernel)
theorem k_100 : (Jvm.Cond.code ({ cls := "OutputBook$Blocks", name := "<init>", desc := "(I)V" } : Jvm.MethodName) prog_2_method_1_code (2 : Nat) (Option.none : Option Jvm.ClassFile.FieldType)) ∈ ob_T := ob_T_of 100 (rfl) (by decide +kernel)
theorem k_101 : (Jvm.Cond.methodLink "OutputBook$Blocks" (1 : Nat) ({ cls := "java/lang/Object", name := "<init>", desc := "()V" } : Jvm.MethodName)) ∈ ob_T := ob_T_of 101 (by decide +kernel) (by decide +kernel)
theorem k_102 : (Jvm.Cond.fieldLink "OutputBook$Blocks" (7 : Nat) "OutputBook$Blocks" "depth" "I") ∈ ob_T := ob_T_of 102 (by decide +kernel) (by decide +kernel)
theorem k_103 : (Jvm.Cond.fieldLink "OutputBook$Blocks" (13 : Nat) "OutputBook$Blocks" "supplies" "[J") ∈ ob_T := ob_T_of 103 (by decide +kernel) (by decide +kernel)
theorem k_104 : (Jvm.Cond.fieldLink "OutputBook$Blocks" (17 : Nat) "OutputBook$Blocks" "pots" "[J") ∈ ob_T := ob_T_of 104 (by decide +kernel) (by decide +kernel)
theorem k_105 : (Jvm.Cond.fieldLink "OutputBook$Blocks" (20 : Nat) "OutputBook$Blocks" "applieds" "[I") ∈ ob_T := ob_T_of 105 (by decide +kernel) (by decide +kernel)
theorem k_106 : (Jvm.Cond.fieldLink "OutputBook$Blocks" (24 : Nat) "OutputBook$Blocks" "row" "I") ∈ ob_T := ob_T_of 106 (by decide +kernel) (by decide +kernel)
theorem k_107 : (Jvm.Cond.fieldLink "OutputBook$Blocks" (27 : Nat) "OutputBook$Blocks" "height" "I") ∈ ob_T := ob_T_of 107 (by decide +kernel) (by decide +kernel)
theorem k_109 : (Jvm.Cond.fieldLink "OutputBook$Blocks" (30 : Nat) "OutputBook$Blocks" "undoable" "I") ∈ ob_T := ob_T_of 109 (by decide +kernel) (by decide +kernel)
theorem k_111 : (Jvm.Cond.laysFinal "OutputBook$Blocks" "OutputBook$Blocks" "depth" "I") ∈ ob_T := ob_T_of 111 (by decide +kernel) (by decide +kernel)
theorem k_113 : (Jvm.Cond.laysFinal "OutputBook$Blocks" "OutputBook$Blocks" "supplies" "[J") ∈ ob_T := ob_T_of 113 (by decide +kernel) (by decide +kernel)
theorem k_115 : (Jvm.Cond.laysFinal "OutputBook$Blocks" "OutputBook$Blocks" "pots" "[J") ∈ ob_T := ob_T_of 115 (by decide +kernel) (by decide +kernel)
theorem k_117 : (Jvm.Cond.laysFinal "OutputBook$Blocks" "OutputBook$Blocks" "applieds" "[I") ∈ ob_T := ob_T_of 117 (by decide +kernel) (by decide +kernel)
theorem k_119 : (Jvm.Cond.lays "OutputBook$Blocks" "OutputBook$Blocks" "row" "I") ∈ ob_T := ob_T_of 119 (by decide +kernel) (by decide +kernel)
theorem k_121 : (Jvm.Cond.lays "OutputBook$Blocks" "OutputBook$Blocks" "height" "I") ∈ ob_T := ob_T_of 121 (by decide +kernel) (by decide +kernel)
theorem k_123 : (Jvm.Cond.lays "OutputBook$Blocks" "OutputBook$Blocks" "undoable" "I") ∈ ob_T := ob_T_of 123 (by decide +kernel) (by decide +kernel)
theorem k_126 : (Jvm.Cond.fieldLink "OutputBook" (10 : Nat) "OutputBook" "outputs" "LOutputBook$Outputs;") ∈ ob_T := ob_T_of 126 (by decide +kernel) (by decide +kernel)
theorem k_127 : (Jvm.Cond.fieldLink "OutputBook" (19 : Nat) "OutputBook" "draft" "LOutputBook$Draft;") ∈ ob_T := ob_T_of 127 (by decide +kernel) (by decide +kernel)
theorem k_128 : (Jvm.Cond.fieldLink "OutputBook" (37 : Nat) "OutputBook" "blocks" "LOutputBook$Blocks;") ∈ ob_T := ob_T_of 128 (by decide +kernel) (by decide +kernel)
theorem k_129 : (Jvm.Cond.fieldLink "OutputBook" (93 : Nat) "OutputBook" "supply" "J") ∈ ob_T := ob_T_of 129 (by decide +kernel) (by decide +kernel)
theorem k_130 : (Jvm.Cond.fieldLink "OutputBook" (96 : Nat) "OutputBook" "pot" "J") ∈ ob_T := ob_T_of 130 (by decide +kernel) (by decide +kernel)
theorem k_131 : (Jvm.Cond.fieldLink "OutputBook" (99 : Nat) "OutputBook" "applied" "I") ∈ ob_T := ob_T_of 131 (by decide +kernel) (by decide +kernel)
theorem k_132 : (Jvm.Cond.laysFinal "OutputBook" "OutputBook" "outputs" "LOutputBook$Outputs;") ∈ ob_T := ob_T_of 132 (by decide +kernel) (by decide +kernel)
theorem k_134 : (Jvm.Cond.laysFinal "OutputBook" "OutputBook" "draft" "LOutputBook$Draft;") ∈ ob_T := ob_T_of 134 (by decide +kernel) (by decide +kernel)
theorem k_136 : (Jvm.Cond.laysFinal "OutputBook" "OutputBook" "blocks" "LOutputBook$Blocks;") ∈ ob_T := ob_T_of 136 (by decide +kernel) (by decide +kernel)
theorem k_138 : (Jvm.Cond.lays "OutputBook" "OutputBook" "supply" "J") ∈ ob_T := ob_T_of 138 (by decide +kernel) (by decide +kernel)
theorem k_140 : (Jvm.Cond.lays "OutputBook" "OutputBook" "pot" "J") ∈ ob_T := ob_T_of 140 (by decide +kernel) (by decide +kernel)
theorem k_142 : (Jvm.Cond.lays "OutputBook" "OutputBook" "applied" "I") ∈ ob_T := ob_T_of 142 (by decide +kernel) (by decide +kernel)
theorem k_145 : (Jvm.Cond.methodLink "OutputBookLaw" (21 : Nat) ({ cls := "OutputBook", name := "spend", desc := "(I)Z" } : Jvm.MethodName)) ∈ ob_T := ob_T_of 145 (by decide +kernel) (by decide +kernel)
theorem k_146 : (Jvm.Cond.instanceMethod ({ cls := "OutputBook", name := "spend", desc := "(I)Z" } : Jvm.MethodName)) ∈ ob_T := ob_T_of 146 (by decide +kernel) (by decide +kernel)
theorem k_147 : (Jvm.Cond.selects "OutputBook" ({ cls := "OutputBook", name := "spend", desc := "(I)Z" } : Jvm.MethodName) ({ cls := "OutputBook", name := "spend", desc := "(I)Z" } : Jvm.MethodName)) ∈ ob_T := ob_T_of 147 (by decide +kernel) (by decide +kernel)
theorem k_148 : (Jvm.Cond.code ({ cls := "OutputBook", name := "spend", desc := "(I)Z" } : Jvm.MethodName) prog_1_method_2_code (2 : Nat) (Option.some Jvm.ClassFile.FieldType.boolean)) ∈ ob_T := ob_T_of 148 (rfl) (by decide +kernel)
theorem k_149 : (Jvm.Cond.methodLink "OutputBook" (41 : Nat) ({ cls := "OutputBook$Outputs", name := "isLive", desc := "(I)Z" } : Jvm.MethodName)) ∈ ob_T := ob_T_of 149 (by decide +kernel) (by decide +kernel)
theorem k_150 : (Jvm.Cond.instanceMethod ({ cls := "OutputBook$Outputs", name := "isLive", desc := "(I)Z" } : Jvm.MethodName)) ∈ ob_T := ob_T_of 150 (by decide +kernel) (by decide +kernel)
theorem k_151 : (Jvm.Cond.selects "OutputBook$Outputs" ({ cls := "OutputBook$Outputs", name := "isLive", desc := "(I)Z" } : Jvm.MethodName) ({ cls := "OutputBook$Outputs", name := "isLive", desc := "(I)Z" } : Jvm.MethodName)) ∈ ob_T := ob_T_of 151 (by decide +kernel) (by decide +kernel)
theorem k_152 : (Jvm.Cond.code ({ cls := "OutputBook$Outputs", name := "isLive", desc := "(I)Z" } : Jvm.MethodName) prog_4_method_4_code (2 : Nat) (Option.some Jvm.ClassFile.FieldType.boolean)) ∈ ob_T := ob_T_of 152 (rfl) (by decide +kernel)
theorem k_153 : (Jvm.Cond.methodLink "OutputBook$Outputs" (32 : Nat) ({ cls := "OutputBook$Outputs", name := "has", desc := "(I)Z" } : Jvm.MethodName)) ∈ ob_T := ob_T_of 153 (by decide +kernel) (by decide +kernel)
theorem k_154 : (Jvm.Cond.instanceMethod ({ cls := "OutputBook$Outputs", name := "has", desc := "(I)Z" } : Jvm.MethodName)) ∈ ob_T := ob_T_of 154 (by decide +kernel) (by decide +kernel)
theorem k_155 : (Jvm.Cond.selects "OutputBook$Outputs" ({ cls := "OutputBook$Outputs", name := "has", desc := "(I)Z" } : Jvm.MethodName) ({ cls := "OutputBook$Outputs", name := "has", desc := "(I)Z" } : Jvm.MethodName)) ∈ ob_T := ob_T_of 155 (by decide +kernel) (by decide +kernel)
theorem k_156 : (Jvm.Cond.code ({ cls := "OutputBook$Outputs", name := "has", desc := "(I)Z" } : Jvm.MethodName) prog_4_method_3_code (2 : Nat) (Option.some Jvm.ClassFile.FieldType.boolean)) ∈ ob_T := ob_T_of 156 (rfl) (by decide +kernel)
theorem k_157 : (Jvm.Cond.methodLink "OutputBook" (45 : Nat) ({ cls := "OutputBook$Draft", name := "hasToSpend", desc := "(I)Z" } : Jvm.MethodName)) ∈ ob_T := ob_T_of 157 (by decide +kernel) (by decide +kernel)
theorem k_158 : (Jvm.Cond.instanceMethod ({ cls := "OutputBook$Draft", name := "hasToSpend", desc := "(I)Z" } : Jvm.MethodName)) ∈ ob_T := ob_T_of 158 (by decide +kernel) (by decide +kernel)
theorem k_159 : (Jvm.Cond.selects "OutputBook$Draft" ({ cls := "OutputBook$Draft", name := "hasToSpend", desc := "(I)Z" } : Jvm.MethodName) ({ cls := "OutputBook$Draft", name := "hasToSpend", desc := "(I)Z" } : Jvm.MethodName)) ∈ ob_T := ob_T_of 159 (by decide +kernel) (by decide +kernel)
theorem k_160 : (Jvm.Cond.code ({ cls := "OutputBook$Draft", name := "hasToSpend", desc := "(I)Z" } : Jvm.MethodName) prog_3_method_4_code (3 : Nat) (Option.some Jvm.ClassFile.FieldType.boolean)) ∈ ob_T := ob_T_of 160 (rfl) (by decide +kernel)
theorem k_161 : (Jvm.Cond.methodLink "OutputBook" (48 : Nat) ({ cls := "OutputBook$Draft", name := "roomToSpend", desc := "()I" } : Jvm.MethodName)) ∈ ob_T := ob_T_of 161 (by decide +kernel) (by decide +kernel)
theorem k_162 : (Jvm.Cond.instanceMethod ({ cls := "OutputBook$Draft", name := "roomToSpend", desc := "()I" } : Jvm.MethodName)) ∈ ob_T := ob_T_of 162 (by decide +kernel) (by decide +kernel)
theorem k_163 : (Jvm.Cond.selects "OutputBook$Draft" ({ cls := "OutputBook$Draft", name := "roomToSpend", desc := "()I" } : Jvm.MethodName) ({ cls := "OutputBook$Draft", name := "roomToSpend", desc := "()I" } : Jvm.MethodName)) ∈ ob_T := ob_T_of 163 (by decide +kernel) (by decide +kernel)
theorem k_164 : (Jvm.Cond.code ({ cls := "OutputBook$Draft", name := "roomToSpend", desc := "()I" } : Jvm.MethodName) prog_3_method_2_code (1 : Nat) (Option.some Jvm.ClassFile.FieldType.int)) ∈ ob_T := ob_T_of 164 (rfl) (by decide +kernel)
theorem k_165 : (Jvm.Cond.methodLink "OutputBook" (52 : Nat) ({ cls := "OutputBook$Draft", name := "writeToSpend", desc := "(II)V" } : Jvm.MethodName)) ∈ ob_T := ob_T_of 165 (by decide +kernel) (by decide +kernel)
theorem k_166 : (Jvm.Cond.instanceMethod ({ cls := "OutputBook$Draft", name := "writeToSpend", desc := "(II)V" } : Jvm.MethodName)) ∈ ob_T := ob_T_of 166 (by decide +kernel) (by decide +kernel)
theorem k_167 : (Jvm.Cond.selects "OutputBook$Draft" ({ cls := "OutputBook$Draft", name := "writeToSpend", desc := "(II)V" } : Jvm.MethodName) ({ cls := "OutputBook$Draft", name := "writeToSpend", desc := "(II)V" } : Jvm.MethodName)) ∈ ob_T := ob_T_of 167 (by decide +kernel) (by decide +kernel)
theorem k_168 : (Jvm.Cond.code ({ cls := "OutputBook$Draft", name := "writeToSpend", desc := "(II)V" } : Jvm.MethodName) prog_3_method_5_code (3 : Nat) (Option.none : Option Jvm.ClassFile.FieldType)) ∈ ob_T := ob_T_of 168 (rfl) (by decide +kernel)
theorem k_169 : (Jvm.Cond.methodLink "OutputBook$Draft" (32 : Nat) ({ cls := "OutputBook$Draft", name := "roomToSpend", desc := "()I" } : Jvm.MethodName)) ∈ ob_T := ob_T_of 169 (by decide +kernel) (by decide +kernel)
theorem k_170 : (Jvm.Cond.methodLink "OutputBook" (56 : Nat) ({ cls := "OutputBook$Draft", name := "keepToSpend", desc := "(I)V" } : Jvm.MethodName)) ∈ ob_T := ob_T_of 170 (by decide +kernel) (by decide +kernel)
theorem k_171 : (Jvm.Cond.instanceMethod ({ cls := "OutputBook$Draft", name := "keepToSpend", desc := "(I)V" } : Jvm.MethodName)) ∈ ob_T := ob_T_of 171 (by decide +kernel) (by decide +kernel)
theorem k_172 : (Jvm.Cond.selects "OutputBook$Draft" ({ cls := "OutputBook$Draft", name := "keepToSpend", desc := "(I)V" } : Jvm.MethodName) ({ cls := "OutputBook$Draft", name := "keepToSpend", desc := "(I)V" } : Jvm.MethodName)) ∈ ob_T := ob_T_of 172 (by decide +kernel) (by decide +kernel)
theorem k_173 : (Jvm.Cond.code ({ cls := "OutputBook$Draft", name := "keepToSpend", desc := "(I)V" } : Jvm.MethodName) prog_3_method_6_code (2 : Nat) (Option.none : Option Jvm.ClassFile.FieldType)) ∈ ob_T := ob_T_of 173 (rfl) (by decide +kernel)
theorem k_174 : (Jvm.Cond.methodLink "OutputBookLaw" (28 : Nat) ({ cls := "OutputBook", name := "make", desc := "(IJJ)Z" } : Jvm.MethodName)) ∈ ob_T := ob_T_of 174 (by decide +kernel) (by decide +kernel)
theorem k_175 : (Jvm.Cond.instanceMethod ({ cls := "OutputBook", name := "make", desc := "(IJJ)Z" } : Jvm.MethodName)) ∈ ob_T := ob_T_of 175 (by decide +kernel) (by decide +kernel)
theorem k_176 : (Jvm.Cond.selects "OutputBook" ({ cls := "OutputBook", name := "make", desc := "(IJJ)Z" } : Jvm.MethodName) ({ cls := "OutputBook", name := "make", desc := "(IJJ)Z" } : Jvm.MethodName)) ∈ ob_T := ob_T_of 176 (by decide +kernel) (by decide +kernel)
theorem k_177 : (Jvm.Cond.code ({ cls := "OutputBook", name := "make", desc := "(IJJ)Z" } : Jvm.MethodName) prog_1_method_3_code (6 : Nat) (Option.some Jvm.ClassFile.FieldType.boolean)) ∈ ob_T := ob_T_of 177 (rfl) (by decide +kernel)
theorem k_178 : (Jvm.Cond.methodLink "OutputBook" (59 : Nat) ({ cls := "OutputBook$Draft", name := "roomToMake", desc := "()I" } : Jvm.MethodName)) ∈ ob_T := ob_T_of 178 (by decide +kernel) (by decide +kernel)
theorem k_179 : (Jvm.Cond.instanceMethod ({ cls := "OutputBook$Draft", name := "roomToMake", desc := "()I" } : Jvm.MethodName)) ∈ ob_T := ob_T_of 179 (by decide +kernel) (by decide +kernel)
theorem k_180 : (Jvm.Cond.selects "OutputBook$Draft" ({ cls := "OutputBook$Draft", name := "roomToMake", desc := "()I" } : Jvm.MethodName) ({ cls := "OutputBook$Draft", name := "roomToMake", desc := "()I" } : Jvm.MethodName)) ∈ ob_T := ob_T_of 180 (by decide +kernel) (by decide +kernel)
theorem k_181 : (Jvm.Cond.code ({ cls := "OutputBook$Draft", name := "roomToMake", desc := "()I" } : Jvm.MethodName) prog_3_method_3_code (1 : Nat) (Option.some Jvm.ClassFile.FieldType.int)) ∈ ob_T := ob_T_of 181 (rfl) (by decide +kernel)
theorem k_182 : (Jvm.Cond.methodLink "OutputBook" (62 : Nat) ({ cls := "OutputBook$Draft", name := "addToMake", desc := "(IJJ)V" } : Jvm.MethodName)) ∈ ob_T := ob_T_of 182 (by decide +kernel) (by decide +kernel)
theorem k_183 : (Jvm.Cond.instanceMethod ({ cls := "OutputBook$Draft", name := "addToMake", desc := "(IJJ)V" } : Jvm.MethodName)) ∈ ob_T := ob_T_of 183 (by decide +kernel) (by decide +kernel)
theorem k_184 : (Jvm.Cond.selects "OutputBook$Draft" ({ cls := "OutputBook$Draft", name := "addToMake", desc := "(IJJ)V" } : Jvm.MethodName) ({ cls := "OutputBook$Draft", name := "addToMake", desc := "(IJJ)V" } : Jvm.MethodName)) ∈ ob_T := ob_T_of 184 (by decide +kernel) (by decide +kernel)
theorem k_185 : (Jvm.Cond.code ({ cls := "OutputBook$Draft", name := "addToMake", desc := "(IJJ)V" } : Jvm.MethodName) prog_3_method_7_code (6 : Nat) (Option.none : Option Jvm.ClassFile.FieldType)) ∈ ob_T := ob_T_of 185 (rfl) (by decide +kernel)
theorem k_186 : (Jvm.Cond.methodLink "OutputBook$Draft" (36 : Nat) ({ cls := "OutputBook$Draft", name := "roomToMake", desc := "()I" } : Jvm.MethodName)) ∈ ob_T := ob_T_of 186 (by decide +kernel) (by decide +kernel)
theorem k_187 : (Jvm.Cond.methodLink "OutputBookLaw" (33 : Nat) ({ cls := "OutputBook", name := "mint", desc := "(J)V" } : Jvm.MethodName)) ∈ ob_T := ob_T_of 187 (by decide +kernel) (by decide +kernel)
theorem k_188 : (Jvm.Cond.instanceMethod ({ cls := "OutputBook", name := "mint", desc := "(J)V" } : Jvm.MethodName)) ∈ ob_T := ob_T_of 188 (by decide +kernel) (by decide +kernel)
theorem k_189 : (Jvm.Cond.selects "OutputBook" ({ cls := "OutputBook", name := "mint", desc := "(J)V" } : Jvm.MethodName) ({ cls := "OutputBook", name := "mint", desc := "(J)V" } : Jvm.MethodName)) ∈ ob_T := ob_T_of 189 (by decide +kernel) (by decide +kernel)
theorem k_190 : (Jvm.Cond.code ({ cls := "OutputBook", name := "mint", desc := "(J)V" } : Jvm.MethodName) prog_1_method_4_code (3 : Nat) (Option.none : Option Jvm.ClassFile.FieldType)) ∈ ob_T := ob_T_of 190 (rfl) (by decide +kernel)
theorem k_191 : (Jvm.Cond.methodLink "OutputBookLaw" (38 : Nat) ({ cls := "OutputBook", name := "drop", desc := "()V" } : Jvm.MethodName)) ∈ ob_T := ob_T_of 191 (by decide +kernel) (by decide +kernel)
theorem k_192 : (Jvm.Cond.instanceMethod ({ cls := "OutputBook", name := "drop", desc := "()V" } : Jvm.MethodName)) ∈ ob_T := ob_T_of 192 (by decide +kernel) (by decide +kernel)
theorem k_193 : (Jvm.Cond.selects "OutputBook" ({ cls := "OutputBook", name := "drop", desc := "()V" } : Jvm.MethodName) ({ cls := "OutputBook", name := "drop", desc := "()V" } : Jvm.MethodName)) ∈ ob_T := ob_T_of 193 (by decide +kernel) (by decide +kernel)
theorem k_194 : (Jvm.Cond.code ({ cls := "OutputBook", name := "drop", desc := "()V" } : Jvm.MethodName) prog_1_method_5_code (1 : Nat) (Option.none : Option Jvm.ClassFile.FieldType)) ∈ ob_T := ob_T_of 194 (rfl) (by decide +kernel)
theorem k_195 : (Jvm.Cond.methodLink "OutputBook" (70 : Nat) ({ cls := "OutputBook$Draft", name := "clear", desc := "()V" } : Jvm.MethodName)) ∈ ob_T := ob_T_of 195 (by decide +kernel) (by decide +kernel)
theorem k_196 : (Jvm.Cond.instanceMethod ({ cls := "OutputBook$Draft", name := "clear", desc := "()V" } : Jvm.MethodName)) ∈ ob_T := ob_T_of 196 (by decide +kernel) (by decide +kernel)
theorem k_197 : (Jvm.Cond.selects "OutputBook$Draft" ({ cls := "OutputBook$Draft", name := "clear", desc := "()V" } : Jvm.MethodName) ({ cls := "OutputBook$Draft", name := "clear", desc := "()V" } : Jvm.MethodName)) ∈ ob_T := ob_T_of 197 (by decide +kernel) (by decide +kernel)
theorem k_198 : (Jvm.Cond.code ({ cls := "OutputBook$Draft", name := "clear", desc := "()V" } : Jvm.MethodName) prog_3_method_8_code (1 : Nat) (Option.none : Option Jvm.ClassFile.FieldType)) ∈ ob_T := ob_T_of 198 (rfl) (by decide +kernel)
theorem k_199 : (Jvm.Cond.methodLink "OutputBookLaw" (42 : Nat) ({ cls := "OutputBook", name := "apply", desc := "()J" } : Jvm.MethodName)) ∈ ob_T := ob_T_of 199 (by decide +kernel) (by decide +kernel)
theorem k_200 : (Jvm.Cond.instanceMethod ({ cls := "OutputBook", name := "apply", desc := "()J" } : Jvm.MethodName)) ∈ ob_T := ob_T_of 200 (by decide +kernel) (by decide +kernel)
theorem k_201 : (Jvm.Cond.selects "OutputBook" ({ cls := "OutputBook", name := "apply", desc := "()J" } : Jvm.MethodName) ({ cls := "OutputBook", name := "apply", desc := "()J" } : Jvm.MethodName)) ∈ ob_T := ob_T_of 201 (by decide +kernel) (by decide +kernel)
theorem k_202 : (Jvm.Cond.code ({ cls := "OutputBook", name := "apply", desc := "()J" } : Jvm.MethodName) prog_1_method_6_code (3 : Nat) (Option.some Jvm.ClassFile.FieldType.long)) ∈ ob_T := ob_T_of 202 (rfl) (by decide +kernel)
theorem k_203 : (Jvm.Cond.constantLong "OutputBook" (80 : Nat) (-1 : Int64)) ∈ ob_T := ob_T_of 203 (by decide +kernel) (by decide +kernel)
theorem k_204 : (Jvm.Cond.methodLink "OutputBook" (82 : Nat) ({ cls := "OutputBook", name := "feeOfDraft", desc := "()J" } : Jvm.MethodName)) ∈ ob_T := ob_T_of 204 (by decide +kernel) (by decide +kernel)
theorem k_206 : (Jvm.Cond.instanceMethod ({ cls := "OutputBook", name := "feeOfDraft", desc := "()J" } : Jvm.MethodName)) ∈ ob_T := ob_T_of 206 (by decide +kernel) (by decide +kernel)
theorem k_207 : (Jvm.Cond.code ({ cls := "OutputBook", name := "feeOfDraft", desc := "()J" } : Jvm.MethodName) prog_1_method_17_code (4 : Nat) (Option.some Jvm.ClassFile.FieldType.long)) ∈ ob_T := ob_T_of 207 (rfl) (by decide +kernel)
theorem k_208 : (Jvm.Cond.constantLong "OutputBook" (164 : Nat) (4611686018427387904 : Int64)) ∈ ob_T := ob_T_of 208 (by decide +kernel) (by decide +kernel)
theorem k_209 : (Jvm.Cond.constantLong "OutputBook" (86 : Nat) (-2 : Int64)) ∈ ob_T := ob_T_of 209 (by decide +kernel) (by decide +kernel)
theorem k_210 : (Jvm.Cond.methodLink "OutputBook" (143 : Nat) ({ cls := "OutputBook$Outputs", name := "amountOf", desc := "(I)J" } : Jvm.MethodName)) ∈ ob_T := ob_T_of 210 (by decide +kernel) (by decide +kernel)
theorem k_211 : (Jvm.Cond.instanceMethod ({ cls := "OutputBook$Outputs", name := "amountOf", desc := "(I)J" } : Jvm.MethodName)) ∈ ob_T := ob_T_of 211 (by decide +kernel) (by decide +kernel)
theorem k_212 : (Jvm.Cond.selects "OutputBook$Outputs" ({ cls := "OutputBook$Outputs", name := "amountOf", desc := "(I)J" } : Jvm.MethodName) ({ cls := "OutputBook$Outputs", name := "amountOf", desc := "(I)J" } : Jvm.MethodName)) ∈ ob_T := ob_T_of 212 (by decide +kernel) (by decide +kernel)
theorem k_213 : (Jvm.Cond.code ({ cls := "OutputBook$Outputs", name := "amountOf", desc := "(I)J" } : Jvm.MethodName) prog_4_method_6_code (2 : Nat) (Option.some Jvm.ClassFile.FieldType.long)) ∈ ob_T := ob_T_of 213 (rfl) (by decide +kernel)
theorem k_214 : (Jvm.Cond.methodLink "OutputBook" (88 : Nat) ({ cls := "OutputBook$Outputs", name := "room", desc := "()I" } : Jvm.MethodName)) ∈ ob_T := ob_T_of 214 (by decide +kernel) (by decide +kernel)
theorem k_215 : (Jvm.Cond.instanceMethod ({ cls := "OutputBook$Outputs", name := "room", desc := "()I" } : Jvm.MethodName)) ∈ ob_T := ob_T_of 215 (by decide +kernel) (by decide +kernel)
theorem k_216 : (Jvm.Cond.selects "OutputBook$Outputs" ({ cls := "OutputBook$Outputs", name := "room", desc := "()I" } : Jvm.MethodName) ({ cls := "OutputBook$Outputs", name := "room", desc := "()I" } : Jvm.MethodName)) ∈ ob_T := ob_T_of 216 (by decide +kernel) (by decide +kernel)
theorem k_217 : (Jvm.Cond.code ({ cls := "OutputBook$Outputs", name := "room", desc := "()I" } : Jvm.MethodName) prog_4_method_2_code (1 : Nat) (Option.some Jvm.ClassFile.FieldType.int)) ∈ ob_T := ob_T_of 217 (rfl) (by decide +kernel)
theorem k_218 : (Jvm.Cond.constantLong "OutputBook" (91 : Nat) (-3 : Int64)) ∈ ob_T := ob_T_of 218 (by decide +kernel) (by decide +kernel)
theorem k_219 : (Jvm.Cond.methodLink "OutputBook" (102 : Nat) ({ cls := "OutputBook", name := "bookDraft", desc := "()V" } : Jvm.MethodName)) ∈ ob_T := ob_T_of 219 (by decide +kernel) (by decide +kernel)
theorem k_221 : (Jvm.Cond.instanceMethod ({ cls := "OutputBook", name := "bookDraft", desc := "()V" } : Jvm.MethodName)) ∈ ob_T := ob_T_of 221 (by decide +kernel) (by decide +kernel)
theorem k_222 : (Jvm.Cond.code ({ cls := "OutputBook", name := "bookDraft", desc := "()V" } : Jvm.MethodName) prog_1_method_18_code (2 : Nat) (Option.none : Option Jvm.ClassFile.FieldType)) ∈ ob_T := ob_T_of 222 (rfl) (by decide +kernel)
theorem k_223 : (Jvm.Cond.methodLink "OutputBook" (172 : Nat) ({ cls := "OutputBook$Outputs", name := "takeOff", desc := "(II)V" } : Jvm.MethodName)) ∈ ob_T := ob_T_of 223 (by decide +kernel) (by decide +kernel)
theorem k_224 : (Jvm.Cond.instanceMethod ({ cls := "OutputBook$Outputs", name := "takeOff", desc := "(II)V" } : Jvm.MethodName)) ∈ ob_T := ob_T_of 224 (by decide +kernel) (by decide +kernel)
theorem k_225 : (Jvm.Cond.selects "OutputBook$Outputs" ({ cls := "OutputBook$Outputs", name := "takeOff", desc := "(II)V" } : Jvm.MethodName) ({ cls := "OutputBook$Outputs", name := "takeOff", desc := "(II)V" } : Jvm.MethodName)) ∈ ob_T := ob_T_of 225 (by decide +kernel) (by decide +kernel)
theorem k_226 : (Jvm.Cond.code ({ cls := "OutputBook$Outputs", name := "takeOff", desc := "(II)V" } : Jvm.MethodName) prog_4_method_9_code (3 : Nat) (Option.none : Option Jvm.ClassFile.FieldType)) ∈ ob_T := ob_T_of 226 (rfl) (by decide +kernel)
theorem k_227 : (Jvm.Cond.methodLink "OutputBook$Outputs" (36 : Nat) ({ cls := "OutputBook$Outputs", name := "isLive", desc := "(I)Z" } : Jvm.MethodName)) ∈ ob_T := ob_T_of 227 (by decide +kernel) (by decide +kernel)
theorem k_228 : (Jvm.Cond.methodLink "OutputBook" (177 : Nat) ({ cls := "OutputBook$Outputs", name := "add", desc := "(IJJI)V" } : Jvm.MethodName)) ∈ ob_T := ob_T_of 228 (by decide +kernel) (by decide +kernel)
theorem k_229 : (Jvm.Cond.instanceMethod ({ cls := "OutputBook$Outputs", name := "add", desc := "(IJJI)V" } : Jvm.MethodName)) ∈ ob_T := ob_T_of 229 (by decide +kernel) (by decide +kernel)
theorem k_230 : (Jvm.Cond.selects "OutputBook$Outputs" ({ cls := "OutputBook$Outputs", name := "add", desc := "(IJJI)V" } : Jvm.MethodName) ({ cls := "OutputBook$Outputs", name := "add", desc := "(IJJI)V" } : Jvm.MethodName)) ∈ ob_T := ob_T_of 230 (by decide +kernel) (by decide +kernel)
theorem k_231 : (Jvm.Cond.code ({ cls := "OutputBook$Outputs", name := "add", desc := "(IJJI)V" } : Jvm.MethodName) prog_4_method_8_code (7 : Nat) (Option.none : Option Jvm.ClassFile.FieldType)) ∈ ob_T := ob_T_of 231 (rfl) (by decide +kernel)
theorem k_232 : (Jvm.Cond.methodLink "OutputBook$Outputs" (39 : Nat) ({ cls := "OutputBook$Outputs", name := "room", desc := "()I" } : Jvm.MethodName)) ∈ ob_T := ob_T_of 232 (by decide +kernel) (by decide +kernel)
theorem k_233 : (Jvm.Cond.methodLink "OutputBookLaw" (47 : Nat) ({ cls := "OutputBook", name := "close", desc := "()I" } : Jvm.MethodName)) ∈ ob_T := ob_T_of 233 (by decide +kernel) (by decide +kernel)
theorem k_234 : (Jvm.Cond.instanceMethod ({ cls := "OutputBook", name := "close", desc := "()I" } : Jvm.MethodName)) ∈ ob_T := ob_T_of 234 (by decide +kernel) (by decide +kernel)
theorem k_235 : (Jvm.Cond.selects "OutputBook" ({ cls := "OutputBook", name := "close", desc := "()I" } : Jvm.MethodName) ({ cls := "OutputBook", name := "close", desc := "()I" } : Jvm.MethodName)) ∈ ob_T := ob_T_of 235 (by decide +kernel) (by decide +kernel)
theorem k_236 : (Jvm.Cond.code ({ cls := "OutputBook", name := "close", desc := "()I" } : Jvm.MethodName) prog_1_method_7_code (1 : Nat) (Option.some Jvm.ClassFile.FieldType.int)) ∈ ob_T := ob_T_of 236 (rfl) (by decide +kernel)
theorem k_237 : (Jvm.Cond.methodLink "OutputBook" (105 : Nat) ({ cls := "OutputBook$Blocks", name := "openNext", desc := "(JJI)V" } : Jvm.MethodName)) ∈ ob_T := ob_T_of 237 (by decide +kernel) (by decide +kernel)
theorem k_238 : (Jvm.Cond.instanceMethod ({ cls := "OutputBook$Blocks", name := "openNext", desc := "(JJI)V" } : Jvm.MethodName)) ∈ ob_T := ob_T_of 238 (by decide +kernel) (by decide +kernel)
theorem k_239 : (Jvm.Cond.selects "OutputBook$Blocks" ({ cls := "OutputBook$Blocks", name := "openNext", desc := "(JJI)V" } : Jvm.MethodName) ({ cls := "OutputBook$Blocks", name := "openNext", desc := "(JJI)V" } : Jvm.MethodName)) ∈ ob_T := ob_T_of 239 (by decide +kernel) (by decide +kernel)
theorem k_240 : (Jvm.Cond.code ({ cls := "OutputBook$Blocks", name := "openNext", desc := "(JJI)V" } : Jvm.MethodName) prog_2_method_2_code (6 : Nat) (Option.none : Option Jvm.ClassFile.FieldType)) ∈ ob_T := ob_T_of 240 (rfl) (by decide +kernel)
theorem k_241 : (Jvm.Cond.methodLink "OutputBook$Blocks" (33 : Nat) ({ cls := "java/lang/Math", name := "min", desc := "(II)I" } : Jvm.MethodName)) ∈ ob_T := ob_T_of 241 (by decide +kernel) (by decide +kernel)
theorem k_242 : (Jvm.Cond.methodLink "OutputBookLaw" (52 : Nat) ({ cls := "OutputBook", name := "undo", desc := "(I)I" } : Jvm.MethodName)) ∈ ob_T := ob_T_of 242 (by decide +kernel) (by decide +kernel)
theorem k_243 : (Jvm.Cond.instanceMethod ({ cls := "OutputBook", name := "undo", desc := "(I)I" } : Jvm.MethodName)) ∈ ob_T := ob_T_of 243 (by decide +kernel) (by decide +kernel)
theorem k_244 : (Jvm.Cond.selects "OutputBook" ({ cls := "OutputBook", name := "undo", desc := "(I)I" } : Jvm.MethodName) ({ cls := "OutputBook", name := "undo", desc := "(I)I" } : Jvm.MethodName)) ∈ ob_T := ob_T_of 244 (by decide +kernel) (by decide +kernel)
theorem k_245 : (Jvm.Cond.code ({ cls := "OutputBook", name := "undo", desc := "(I)I" } : Jvm.MethodName) prog_1_method_8_code (2 : Nat) (Option.some Jvm.ClassFile.FieldType.int)) ∈ ob_T := ob_T_of 245 (rfl) (by decide +kernel)
theorem k_246 : (Jvm.Cond.methodLink "OutputBook" (115 : Nat) ({ cls := "OutputBook$Blocks", name := "goBack", desc := "(I)V" } : Jvm.MethodName)) ∈ ob_T := ob_T_of 246 (by decide +kernel) (by decide +kernel)
theorem k_247 : (Jvm.Cond.instanceMethod ({ cls := "OutputBook$Blocks", name := "goBack", desc := "(I)V" } : Jvm.MethodName)) ∈ ob_T := ob_T_of 247 (by decide +kernel) (by decide +kernel)
theorem k_248 : (Jvm.Cond.selects "OutputBook$Blocks" ({ cls := "OutputBook$Blocks", name := "goBack", desc := "(I)V" } : Jvm.MethodName) ({ cls := "OutputBook$Blocks", name := "goBack", desc := "(I)V" } : Jvm.MethodName)) ∈ ob_T := ob_T_of 248 (by decide +kernel) (by decide +kernel)
theorem k_249 : (Jvm.Cond.code ({ cls := "OutputBook$Blocks", name := "goBack", desc := "(I)V" } : Jvm.MethodName) prog_2_method_3_code (2 : Nat) (Option.none : Option Jvm.ClassFile.FieldType)) ∈ ob_T := ob_T_of 249 (rfl) (by decide +kernel)
theorem k_250 : (Jvm.Cond.methodLink "OutputBook" (118 : Nat) ({ cls := "OutputBook$Blocks", name := "supplyAtOpening", desc := "()J" } : Jvm.MethodName)) ∈ ob_T := ob_T_of 250 (by decide +kernel) (by decide +kernel)
theorem k_251 : (Jvm.Cond.instanceMethod ({ cls := "OutputBook$Blocks", name := "supplyAtOpening", desc := "()J" } : Jvm.MethodName)) ∈ ob_T := ob_T_of 251 (by decide +kernel) (by decide +kernel)
theorem k_252 : (Jvm.Cond.selects "OutputBook$Blocks" ({ cls := "OutputBook$Blocks", name := "supplyAtOpening", desc := "()J" } : Jvm.MethodName) ({ cls := "OutputBook$Blocks", name := "supplyAtOpening", desc := "()J" } : Jvm.MethodName)) ∈ ob_T := ob_T_of 252 (by decide +kernel) (by decide +kernel)
theorem k_253 : (Jvm.Cond.code ({ cls := "OutputBook$Blocks", name := "supplyAtOpening", desc := "()J" } : Jvm.MethodName) prog_2_method_4_code (1 : Nat) (Option.some Jvm.ClassFile.FieldType.long)) ∈ ob_T := ob_T_of 253 (rfl) (by decide +kernel)
theorem k_254 : (Jvm.Cond.methodLink "OutputBook" (121 : Nat) ({ cls := "OutputBook$Blocks", name := "potAtOpening", desc := "()J" } : Jvm.MethodName)) ∈ ob_T := ob_T_of 254 (by decide +kernel) (by decide +kernel)
theorem k_255 : (Jvm.Cond.instanceMethod ({ cls := "OutputBook$Blocks", name := "potAtOpening", desc := "()J" } : Jvm.MethodName)) ∈ ob_T := ob_T_of 255 (by decide +kernel) (by decide +kernel)
theorem k_256 : (Jvm.Cond.selects "OutputBook$Blocks" ({ cls := "OutputBook$Blocks", name := "potAtOpening", desc := "()J" } : Jvm.MethodName) ({ cls := "OutputBook$Blocks", name := "potAtOpening", desc := "()J" } : Jvm.MethodName)) ∈ ob_T := ob_T_of 256 (by decide +kernel) (by decide +kernel)
theorem k_257 : (Jvm.Cond.code ({ cls := "OutputBook$Blocks", name := "potAtOpening", desc := "()J" } : Jvm.MethodName) prog_2_method_5_code (1 : Nat) (Option.some Jvm.ClassFile.FieldType.long)) ∈ ob_T := ob_T_of 257 (rfl) (by decide +kernel)
theorem k_258 : (Jvm.Cond.methodLink "OutputBook" (124 : Nat) ({ cls := "OutputBook$Blocks", name := "appliedAtOpening", desc := "()I" } : Jvm.MethodName)) ∈ ob_T := ob_T_of 258 (by decide +kernel) (by decide +kernel)
theorem k_259 : (Jvm.Cond.instanceMethod ({ cls := "OutputBook$Blocks", name := "appliedAtOpening", desc := "()I" } : Jvm.MethodName)) ∈ ob_T := ob_T_of 259 (by decide +kernel) (by decide +kernel)
theorem k_260 : (Jvm.Cond.selects "OutputBook$Blocks" ({ cls := "OutputBook$Blocks", name := "appliedAtOpening", desc := "()I" } : Jvm.MethodName) ({ cls := "OutputBook$Blocks", name := "appliedAtOpening", desc := "()I" } : Jvm.MethodName)) ∈ ob_T := ob_T_of 260 (by decide +kernel) (by decide +kernel)
theorem k_261 : (Jvm.Cond.code ({ cls := "OutputBook$Blocks", name := "appliedAtOpening", desc := "()I" } : Jvm.MethodName) prog_2_method_6_code (1 : Nat) (Option.some Jvm.ClassFile.FieldType.int)) ∈ ob_T := ob_T_of 261 (rfl) (by decide +kernel)
theorem k_262 : (Jvm.Cond.methodLink "OutputBook" (127 : Nat) ({ cls := "OutputBook$Outputs", name := "takeBackFrom", desc := "(I)V" } : Jvm.MethodName)) ∈ ob_T := ob_T_of 262 (by decide +kernel) (by decide +kernel)
theorem k_263 : (Jvm.Cond.instanceMethod ({ cls := "OutputBook$Outputs", name := "takeBackFrom", desc := "(I)V" } : Jvm.MethodName)) ∈ ob_T := ob_T_of 263 (by decide +kernel) (by decide +kernel)
theorem k_264 : (Jvm.Cond.selects "OutputBook$Outputs" ({ cls := "OutputBook$Outputs", name := "takeBackFrom", desc := "(I)V" } : Jvm.MethodName) ({ cls := "OutputBook$Outputs", name := "takeBackFrom", desc := "(I)V" } : Jvm.MethodName)) ∈ ob_T := ob_T_of 264 (by decide +kernel) (by decide +kernel)
theorem k_265 : (Jvm.Cond.code ({ cls := "OutputBook$Outputs", name := "takeBackFrom", desc := "(I)V" } : Jvm.MethodName) prog_4_method_10_code (3 : Nat) (Option.none : Option Jvm.ClassFile.FieldType)) ∈ ob_T := ob_T_of 265 (rfl) (by decide +kernel)
theorem k_266 : (Jvm.Cond.methodLink "OutputBookLaw" (57 : Nat) ({ cls := "OutputBook", name := "output", desc := "(II)I" } : Jvm.MethodName)) ∈ ob_T := ob_T_of 266 (by decide +kernel) (by decide +kernel)
theorem k_267 : (Jvm.Cond.instanceMethod ({ cls := "OutputBook", name := "output", desc := "(II)I" } : Jvm.MethodName)) ∈ ob_T := ob_T_of 267 (by decide +kernel) (by decide +kernel)
theorem k_268 : (Jvm.Cond.selects "OutputBook" ({ cls := "OutputBook", name := "output", desc := "(II)I" } : Jvm.MethodName) ({ cls := "OutputBook", name := "output", desc := "(II)I" } : Jvm.MethodName)) ∈ ob_T := ob_T_of 268 (by decide +kernel) (by decide +kernel)
theorem k_269 : (Jvm.Cond.code ({ cls := "OutputBook", name := "output", desc := "(II)I" } : Jvm.MethodName) prog_1_method_9_code (3 : Nat) (Option.some Jvm.ClassFile.FieldType.int)) ∈ ob_T := ob_T_of 269 (rfl) (by decide +kernel)
theorem k_270 : (Jvm.Cond.methodLink "OutputBook" (130 : Nat) ({ cls := "OutputBook$Outputs", name := "has", desc := "(I)Z" } : Jvm.MethodName)) ∈ ob_T := ob_T_of 270 (by decide +kernel) (by decide +kernel)
theorem k_271 : (Jvm.Cond.methodLink "OutputBookLaw" (62 : Nat) ({ cls := "OutputBook", name := "amount", desc := "(I)J" } : Jvm.MethodName)) ∈ ob_T := ob_T_of 271 (by decide +kernel) (by decide +kernel)
theorem k_272 : (Jvm.Cond.instanceMethod ({ cls := "OutputBook", name := "amount", desc := "(I)J" } : Jvm.MethodName)) ∈ ob_T := ob_T_of 272 (by decide +kernel) (by decide +kernel)
theorem k_273 : (Jvm.Cond.selects "OutputBook" ({ cls := "OutputBook", name := "amount", desc := "(I)J" } : Jvm.MethodName) ({ cls := "OutputBook", name := "amount", desc := "(I)J" } : Jvm.MethodName)) ∈ ob_T := ob_T_of 273 (by decide +kernel) (by decide +kernel)
theorem k_274 : (Jvm.Cond.code ({ cls := "OutputBook", name := "amount", desc := "(I)J" } : Jvm.MethodName) prog_1_method_10_code (2 : Nat) (Option.some Jvm.ClassFile.FieldType.long)) ∈ ob_T := ob_T_of 274 (rfl) (by decide +kernel)
theorem k_275 : (Jvm.Cond.methodLink "OutputBookLaw" (67 : Nat) ({ cls := "OutputBook", name := "tag", desc := "(I)J" } : Jvm.MethodName)) ∈ ob_T := ob_T_of 275 (by decide +kernel) (by decide +kernel)
theorem k_276 : (Jvm.Cond.instanceMethod ({ cls := "OutputBook", name := "tag", desc := "(I)J" } : Jvm.MethodName)) ∈ ob_T := ob_T_of 276 (by decide +kernel) (by decide +kernel)
theorem k_277 : (Jvm.Cond.selects "OutputBook" ({ cls := "OutputBook", name := "tag", desc := "(I)J" } : Jvm.MethodName) ({ cls := "OutputBook", name := "tag", desc := "(I)J" } : Jvm.MethodName)) ∈ ob_T := ob_T_of 277 (by decide +kernel) (by decide +kernel)
theorem k_278 : (Jvm.Cond.code ({ cls := "OutputBook", name := "tag", desc := "(I)J" } : Jvm.MethodName) prog_1_method_11_code (2 : Nat) (Option.some Jvm.ClassFile.FieldType.long)) ∈ ob_T := ob_T_of 278 (rfl) (by decide +kernel)
theorem k_279 : (Jvm.Cond.methodLink "OutputBookLaw" (71 : Nat) ({ cls := "OutputBook", name := "balance", desc := "(I)J" } : Jvm.MethodName)) ∈ ob_T := ob_T_of 279 (by decide +kernel) (by decide +kernel)
theorem k_280 : (Jvm.Cond.instanceMethod ({ cls := "OutputBook", name := "balance", desc := "(I)J" } : Jvm.MethodName)) ∈ ob_T := ob_T_of 280 (by decide +kernel) (by decide +kernel)
theorem k_281 : (Jvm.Cond.selects "OutputBook" ({ cls := "OutputBook", name := "balance", desc := "(I)J" } : Jvm.MethodName) ({ cls := "OutputBook", name := "balance", desc := "(I)J" } : Jvm.MethodName)) ∈ ob_T := ob_T_of 281 (by decide +kernel) (by decide +kernel)
theorem k_282 : (Jvm.Cond.code ({ cls := "OutputBook", name := "balance", desc := "(I)J" } : Jvm.MethodName) prog_1_method_12_code (5 : Nat) (Option.some Jvm.ClassFile.FieldType.long)) ∈ ob_T := ob_T_of 282 (rfl) (by decide +kernel)
theorem k_283 : (Jvm.Cond.methodLink "OutputBook" (154 : Nat) ({ cls := "OutputBook$Outputs", name := "isLiveOf", desc := "(II)Z" } : Jvm.MethodName)) ∈ ob_T := ob_T_of 283 (by decide +kernel) (by decide +kernel)
theorem k_284 : (Jvm.Cond.instanceMethod ({ cls := "OutputBook$Outputs", name := "isLiveOf", desc := "(II)Z" } : Jvm.MethodName)) ∈ ob_T := ob_T_of 284 (by decide +kernel) (by decide +kernel)
theorem k_285 : (Jvm.Cond.selects "OutputBook$Outputs" ({ cls := "OutputBook$Outputs", name := "isLiveOf", desc := "(II)Z" } : Jvm.MethodName) ({ cls := "OutputBook$Outputs", name := "isLiveOf", desc := "(II)Z" } : Jvm.MethodName)) ∈ ob_T := ob_T_of 285 (by decide +kernel) (by decide +kernel)
theorem k_286 : (Jvm.Cond.code ({ cls := "OutputBook$Outputs", name := "isLiveOf", desc := "(II)Z" } : Jvm.MethodName) prog_4_method_5_code (3 : Nat) (Option.some Jvm.ClassFile.FieldType.boolean)) ∈ ob_T := ob_T_of 286 (rfl) (by decide +kernel)
theorem k_287 : (Jvm.Cond.methodLink "OutputBookLaw" (75 : Nat) ({ cls := "OutputBook", name := "count", desc := "(I)I" } : Jvm.MethodName)) ∈ ob_T := ob_T_of 287 (by decide +kernel) (by decide +kernel)
theorem k_288 : (Jvm.Cond.instanceMethod ({ cls := "OutputBook", name := "count", desc := "(I)I" } : Jvm.MethodName)) ∈ ob_T := ob_T_of 288 (by decide +kernel) (by decide +kernel)
theorem k_289 : (Jvm.Cond.selects "OutputBook" ({ cls := "OutputBook", name := "count", desc := "(I)I" } : Jvm.MethodName) ({ cls := "OutputBook", name := "count", desc := "(I)I" } : Jvm.MethodName)) ∈ ob_T := ob_T_of 289 (by decide +kernel) (by decide +kernel)
theorem k_290 : (Jvm.Cond.code ({ cls := "OutputBook", name := "count", desc := "(I)I" } : Jvm.MethodName) prog_1_method_13_code (4 : Nat) (Option.some Jvm.ClassFile.FieldType.int)) ∈ ob_T := ob_T_of 290 (rfl) (by decide +kernel)
theorem k_291 : (Jvm.Cond.methodLink "OutputBookLaw" (79 : Nat) ({ cls := "OutputBook", name := "nth", desc := "(II)I" } : Jvm.MethodName)) ∈ ob_T := ob_T_of 291 (by decide +kernel) (by decide +kernel)
theorem k_292 : (Jvm.Cond.instanceMethod ({ cls := "OutputBook", name := "nth", desc := "(II)I" } : Jvm.MethodName)) ∈ ob_T := ob_T_of 292 (by decide +kernel) (by decide +kernel)
theorem k_293 : (Jvm.Cond.selects "OutputBook" ({ cls := "OutputBook", name := "nth", desc := "(II)I" } : Jvm.MethodName) ({ cls := "OutputBook", name := "nth", desc := "(II)I" } : Jvm.MethodName)) ∈ ob_T := ob_T_of 293 (by decide +kernel) (by decide +kernel)
theorem k_294 : (Jvm.Cond.code ({ cls := "OutputBook", name := "nth", desc := "(II)I" } : Jvm.MethodName) prog_1_method_14_code (5 : Nat) (Option.some Jvm.ClassFile.FieldType.int)) ∈ ob_T := ob_T_of 294 (rfl) (by decide +kernel)
theorem k_295 : (Jvm.Cond.methodLink "OutputBookLaw" (83 : Nat) ({ cls := "OutputBook", name := "gather", desc := "(IJ)I" } : Jvm.MethodName)) ∈ ob_T := ob_T_of 295 (by decide +kernel) (by decide +kernel)
theorem k_296 : (Jvm.Cond.instanceMethod ({ cls := "OutputBook", name := "gather", desc := "(IJ)I" } : Jvm.MethodName)) ∈ ob_T := ob_T_of 296 (by decide +kernel) (by decide +kernel)
theorem k_297 : (Jvm.Cond.selects "OutputBook" ({ cls := "OutputBook", name := "gather", desc := "(IJ)I" } : Jvm.MethodName) ({ cls := "OutputBook", name := "gather", desc := "(IJ)I" } : Jvm.MethodName)) ∈ ob_T := ob_T_of 297 (by decide +kernel) (by decide +kernel)
theorem k_298 : (Jvm.Cond.code ({ cls := "OutputBook", name := "gather", desc := "(IJ)I" } : Jvm.MethodName) prog_1_method_15_code (9 : Nat) (Option.some Jvm.ClassFile.FieldType.int)) ∈ ob_T := ob_T_of 298 (rfl) (by decide +kernel)
theorem k_299 : (Jvm.Cond.methodLink "OutputBook" (158 : Nat) ({ cls := "OutputBook$Outputs", name := "nextByAmount", desc := "(II)I" } : Jvm.MethodName)) ∈ ob_T := ob_T_of 299 (by decide +kernel) (by decide +kernel)
theorem k_300 : (Jvm.Cond.instanceMethod ({ cls := "OutputBook$Outputs", name := "nextByAmount", desc := "(II)I" } : Jvm.MethodName)) ∈ ob_T := ob_T_of 300 (by decide +kernel) (by decide +kernel)
theorem k_301 : (Jvm.Cond.selects "OutputBook$Outputs" ({ cls := "OutputBook$Outputs", name := "nextByAmount", desc := "(II)I" } : Jvm.MethodName) ({ cls := "OutputBook$Outputs", name := "nextByAmount", desc := "(II)I" } : Jvm.MethodName)) ∈ ob_T := ob_T_of 301 (by decide +kernel) (by decide +kernel)
theorem k_302 : (Jvm.Cond.code ({ cls := "OutputBook$Outputs", name := "nextByAmount", desc := "(II)I" } : Jvm.MethodName) prog_4_method_11_code (5 : Nat) (Option.some Jvm.ClassFile.FieldType.int)) ∈ ob_T := ob_T_of 302 (rfl) (by decide +kernel)
theorem k_303 : (Jvm.Cond.methodLink "OutputBook$Outputs" (43 : Nat) ({ cls := "OutputBook$Outputs", name := "isLiveOf", desc := "(II)Z" } : Jvm.MethodName)) ∈ ob_T := ob_T_of 303 (by decide +kernel) (by decide +kernel)
theorem k_304 : (Jvm.Cond.methodLink "OutputBook$Outputs" (47 : Nat) ({ cls := "OutputBook$Outputs", name := "standsAhead", desc := "(II)Z" } : Jvm.MethodName)) ∈ ob_T := ob_T_of 304 (by decide +kernel) (by decide +kernel)
theorem k_306 : (Jvm.Cond.instanceMethod ({ cls := "OutputBook$Outputs", name := "standsAhead", desc := "(II)Z" } : Jvm.MethodName)) ∈ ob_T := ob_T_of 306 (by decide +kernel) (by decide +kernel)
theorem k_307 : (Jvm.Cond.code ({ cls := "OutputBook$Outputs", name := "standsAhead", desc := "(II)Z" } : Jvm.MethodName) prog_4_method_12_code (3 : Nat) (Option.some Jvm.ClassFile.FieldType.boolean)) ∈ ob_T := ob_T_of 307 (rfl) (by decide +kernel)
theorem k_308 : (Jvm.Cond.methodLink "OutputBookLaw" (88 : Nat) ({ cls := "OutputBook", name := "look", desc := "(I)J" } : Jvm.MethodName)) ∈ ob_T := ob_T_of 308 (by decide +kernel) (by decide +kernel)
theorem k_309 : (Jvm.Cond.instanceMethod ({ cls := "OutputBook", name := "look", desc := "(I)J" } : Jvm.MethodName)) ∈ ob_T := ob_T_of 309 (by decide +kernel) (by decide +kernel)
theorem k_310 : (Jvm.Cond.selects "OutputBook" ({ cls := "OutputBook", name := "look", desc := "(I)J" } : Jvm.MethodName) ({ cls := "OutputBook", name := "look", desc := "(I)J" } : Jvm.MethodName)) ∈ ob_T := ob_T_of 310 (by decide +kernel) (by decide +kernel)
theorem k_311 : (Jvm.Cond.code ({ cls := "OutputBook", name := "look", desc := "(I)J" } : Jvm.MethodName) prog_1_method_16_code (2 : Nat) (Option.some Jvm.ClassFile.FieldType.long)) ∈ ob_T := ob_T_of 311 (rfl) (by decide +kernel)
theorem k_312 : (Jvm.Cond.methodLink "OutputBook" (161 : Nat) ({ cls := "OutputBook$Outputs", name := "liveOnes", desc := "()I" } : Jvm.MethodName)) ∈ ob_T := ob_T_of 312 (by decide +kernel) (by decide +kernel)
theorem k_313 : (Jvm.Cond.instanceMethod ({ cls := "OutputBook$Outputs", name := "liveOnes", desc := "()I" } : Jvm.MethodName)) ∈ ob_T := ob_T_of 313 (by decide +kernel) (by decide +kernel)
theorem k_314 : (Jvm.Cond.selects "OutputBook$Outputs" ({ cls := "OutputBook$Outputs", name := "liveOnes", desc := "()I" } : Jvm.MethodName) ({ cls := "OutputBook$Outputs", name := "liveOnes", desc := "()I" } : Jvm.MethodName)) ∈ ob_T := ob_T_of 314 (by decide +kernel) (by decide +kernel)
theorem k_315 : (Jvm.Cond.code ({ cls := "OutputBook$Outputs", name := "liveOnes", desc := "()I" } : Jvm.MethodName) prog_4_method_7_code (3 : Nat) (Option.some Jvm.ClassFile.FieldType.int)) ∈ ob_T := ob_T_of 315 (rfl) (by decide +kernel)
theorem k_316 : (Jvm.Cond.methodLink "OutputBookLaw" (9 : Nat) ({ cls := "OutputBookLaw", name := "cell", desc := "([II)I" } : Jvm.MethodName)) ∈ ob_T := ob_T_of 316 (by decide +kernel) (by decide +kernel)
theorem k_317 : (Jvm.Cond.static ({ cls := "OutputBookLaw", name := "cell", desc := "([II)I" } : Jvm.MethodName)) ∈ ob_T := ob_T_of 317 (by decide +kernel) (by decide +kernel)
theorem k_318 : (Jvm.Cond.code ({ cls := "OutputBookLaw", name := "cell", desc := "([II)I" } : Jvm.MethodName) method_2_code (2 : Nat) (Option.some Jvm.ClassFile.FieldType.int)) ∈ ob_T := ob_T_of 318 (rfl) (by decide +kernel)
theorem k_319 : (Jvm.Cond.classLink "OutputBookLaw" (18 : Nat) "OutputBookModel") ∈ ob_T := ob_T_of 319 (by decide +kernel) (by decide +kernel)
theorem k_320 : (Jvm.Cond.instantiable "OutputBookModel" (24 : Nat)) ∈ ob_T := ob_T_of 320 (by decide +kernel) (by decide +kernel)
theorem k_321 : (Jvm.Cond.methodLink "OutputBookLaw" (20 : Nat) ({ cls := "OutputBookModel", name := "<init>", desc := "(I)V" } : Jvm.MethodName)) ∈ ob_T := ob_T_of 321 (by decide +kernel) (by decide +kernel)
theorem k_322 : (Jvm.Cond.instanceMethod ({ cls := "OutputBookModel", name := "<init>", desc := "(I)V" } : Jvm.MethodName)) ∈ ob_T := ob_T_of 322 (by decide +kernel) (by decide +kernel)
theorem k_323 : (Jvm.Cond.code ({ cls := "OutputBookModel", name := "<init>", desc := "(I)V" } : Jvm.MethodName) prog_6_method_1_code (2 : Nat) (Option.none : Option Jvm.ClassFile.FieldType)) ∈ ob_T := ob_T_of 323 (rfl) (by decide +kernel)
theorem k_324 : (Jvm.Cond.methodLink "OutputBookModel" (1 : Nat) ({ cls := "java/lang/Object", name := "<init>", desc := "()V" } : Jvm.MethodName)) ∈ ob_T := ob_T_of 324 (by decide +kernel) (by decide +kernel)
theorem k_325 : (Jvm.Cond.fieldLink "OutputBookModel" (54 : Nat) "OutputBookModel" "thrown" "I") ∈ ob_T := ob_T_of 325 (by decide +kernel) (by decide +kernel)
theorem k_326 : (Jvm.Cond.fieldLink "OutputBookModel" (50 : Nat) "OutputBookModel" "most" "I") ∈ ob_T := ob_T_of 326 (by decide +kernel) (by decide +kernel)
theorem k_327 : (Jvm.Cond.fieldLink "OutputBookModel" (57 : Nat) "OutputBookModel" "made" "I") ∈ ob_T := ob_T_of 327 (by decide +kernel) (by decide +kernel)
theorem k_328 : (Jvm.Cond.fieldLink "OutputBookModel" (7 : Nat) "OutputBookModel" "owners" "[I") ∈ ob_T := ob_T_of 328 (by decide +kernel) (by decide +kernel)
theorem k_329 : (Jvm.Cond.fieldLink "OutputBookModel" (13 : Nat) "OutputBookModel" "amounts" "[J") ∈ ob_T := ob_T_of 329 (by decide +kernel) (by decide +kernel)
theorem k_330 : (Jvm.Cond.fieldLink "OutputBookModel" (17 : Nat) "OutputBookModel" "tags" "[J") ∈ ob_T := ob_T_of 330 (by decide +kernel) (by decide +kernel)
theorem k_331 : (Jvm.Cond.fieldLink "OutputBookModel" (20 : Nat) "OutputBookModel" "madeAt" "[I") ∈ ob_T := ob_T_of 331 (by decide +kernel) (by decide +kernel)
theorem k_332 : (Jvm.Cond.fieldLink "OutputBookModel" (23 : Nat) "OutputBookModel" "spentAt" "[I") ∈ ob_T := ob_T_of 332 (by decide +kernel) (by decide +kernel)
theorem k_333 : (Jvm.Cond.fieldLink "OutputBookModel" (97 : Nat) "OutputBookModel" "height" "I") ∈ ob_T := ob_T_of 333 (by decide +kernel) (by decide +kernel)
theorem k_334 : (Jvm.Cond.fieldLink "OutputBookModel" (106 : Nat) "OutputBookModel" "undoable" "I") ∈ ob_T := ob_T_of 334 (by decide +kernel) (by decide +kernel)
theorem k_335 : (Jvm.Cond.fieldLink "OutputBookModel" (100 : Nat) "OutputBookModel" "pot" "J") ∈ ob_T := ob_T_of 335 (by decide +kernel) (by decide +kernel)
theorem k_336 : (Jvm.Cond.fieldLink "OutputBookModel" (90 : Nat) "OutputBookModel" "supply" "J") ∈ ob_T := ob_T_of 336 (by decide +kernel) (by decide +kernel)
theorem k_337 : (Jvm.Cond.fieldLink "OutputBookModel" (103 : Nat) "OutputBookModel" "applied" "I") ∈ ob_T := ob_T_of 337 (by decide +kernel) (by decide +kernel)
theorem k_338 : (Jvm.Cond.fieldLink "OutputBookModel" (26 : Nat) "OutputBookModel" "fees" "[J") ∈ ob_T := ob_T_of 338 (by decide +kernel) (by decide +kernel)
theorem k_339 : (Jvm.Cond.fieldLink "OutputBookModel" (29 : Nat) "OutputBookModel" "mints" "[J") ∈ ob_T := ob_T_of 339 (by decide +kernel) (by decide +kernel)
theorem k_340 : (Jvm.Cond.fieldLink "OutputBookModel" (32 : Nat) "OutputBookModel" "times" "[I") ∈ ob_T := ob_T_of 340 (by decide +kernel) (by decide +kernel)
theorem k_341 : (Jvm.Cond.fieldLink "OutputBookModel" (64 : Nat) "OutputBookModel" "spends" "I") ∈ ob_T := ob_T_of 341 (by decide +kernel) (by decide +kernel)
theorem k_342 : (Jvm.Cond.fieldLink "OutputBookModel" (35 : Nat) "OutputBookModel" "spend" "[I") ∈ ob_T := ob_T_of 342 (by decide +kernel) (by decide +kernel)
theorem k_343 : (Jvm.Cond.fieldLink "OutputBookModel" (67 : Nat) "OutputBookModel" "makes" "I") ∈ ob_T := ob_T_of 343 (by decide +kernel) (by decide +kernel)
theorem k_344 : (Jvm.Cond.fieldLink "OutputBookModel" (38 : Nat) "OutputBookModel" "makeOwner" "[I") ∈ ob_T := ob_T_of 344 (by decide +kernel) (by decide +kernel)
theorem k_345 : (Jvm.Cond.fieldLink "OutputBookModel" (41 : Nat) "OutputBookModel" "makeAmount" "[J") ∈ ob_T := ob_T_of 345 (by decide +kernel) (by decide +kernel)
theorem k_346 : (Jvm.Cond.fieldLink "OutputBookModel" (44 : Nat) "OutputBookModel" "makeTag" "[J") ∈ ob_T := ob_T_of 346 (by decide +kernel) (by decide +kernel)
theorem k_347 : (Jvm.Cond.fieldLink "OutputBookModel" (70 : Nat) "OutputBookModel" "mint" "J") ∈ ob_T := ob_T_of 347 (by decide +kernel) (by decide +kernel)
theorem k_348 : (Jvm.Cond.fieldLink "OutputBookModel" (47 : Nat) "OutputBookModel" "picked" "[I") ∈ ob_T := ob_T_of 348 (by decide +kernel) (by decide +kernel)
theorem k_349 : (Jvm.Cond.lays "OutputBookModel" "OutputBookModel" "thrown" "I") ∈ ob_T := ob_T_of 349 (by decide +kernel) (by decide +kernel)
theorem k_351 : (Jvm.Cond.laysFinal "OutputBookModel" "OutputBookModel" "most" "I") ∈ ob_T := ob_T_of 351 (by decide +kernel) (by decide +kernel)
theorem k_353 : (Jvm.Cond.lays "OutputBookModel" "OutputBookModel" "made" "I") ∈ ob_T := ob_T_of 353 (by decide +kernel) (by decide +kernel)
theorem k_355 : (Jvm.Cond.laysFinal "OutputBookModel" "OutputBookModel" "owners" "[I") ∈ ob_T := ob_T_of 355 (by decide +kernel) (by decide +kernel)
theorem k_357 : (Jvm.Cond.laysFinal "OutputBookModel" "OutputBookModel" "amounts" "[J") ∈ ob_T := ob_T_of 357 (by decide +kernel) (by decide +kernel)
theorem k_359 : (Jvm.Cond.laysFinal "OutputBookModel" "OutputBookModel" "tags" "[J") ∈ ob_T := ob_T_of 359 (by decide +kernel) (by decide +kernel)
theorem k_361 : (Jvm.Cond.laysFinal "OutputBookModel" "OutputBookModel" "madeAt" "[I") ∈ ob_T := ob_T_of 361 (by decide +kernel) (by decide +kernel)
theorem k_363 : (Jvm.Cond.laysFinal "OutputBookModel" "OutputBookModel" "spentAt" "[I") ∈ ob_T := ob_T_of 363 (by decide +kernel) (by decide +kernel)
theorem k_365 : (Jvm.Cond.lays "OutputBookModel" "OutputBookModel" "height" "I") ∈ ob_T := ob_T_of 365 (by decide +kernel) (by decide +kernel)
theorem k_367 : (Jvm.Cond.lays "OutputBookModel" "OutputBookModel" "undoable" "I") ∈ ob_T := ob_T_of 367 (by decide +kernel) (by decide +kernel)
theorem k_369 : (Jvm.Cond.lays "OutputBookModel" "OutputBookModel" "pot" "J") ∈ ob_T := ob_T_of 369 (by decide +kernel) (by decide +kernel)
theorem k_371 : (Jvm.Cond.lays "OutputBookModel" "OutputBookModel" "supply" "J") ∈ ob_T := ob_T_of 371 (by decide +kernel) (by decide +kernel)
theorem k_373 : (Jvm.Cond.lays "OutputBookModel" "OutputBookModel" "applied" "I") ∈ ob_T := ob_T_of 373 (by decide +kernel) (by decide +kernel)
theorem k_375 : (Jvm.Cond.laysFinal "OutputBookModel" "OutputBookModel" "fees" "[J") ∈ ob_T := ob_T_of 375 (by decide +kernel) (by decide +kernel)
theorem k_377 : (Jvm.Cond.laysFinal "OutputBookModel" "OutputBookModel" "mints" "[J") ∈ ob_T := ob_T_of 377 (by decide +kernel) (by decide +kernel)
theorem k_379 : (Jvm.Cond.laysFinal "OutputBookModel" "OutputBookModel" "times" "[I") ∈ ob_T := ob_T_of 379 (by decide +kernel) (by decide +kernel)
theorem k_381 : (Jvm.Cond.lays "OutputBookModel" "OutputBookModel" "spends" "I") ∈ ob_T := ob_T_of 381 (by decide +kernel) (by decide +kernel)
theorem k_383 : (Jvm.Cond.laysFinal "OutputBookModel" "OutputBookModel" "spend" "[I") ∈ ob_T := ob_T_of 383 (by decide +kernel) (by decide +kernel)
theorem k_385 : (Jvm.Cond.lays "OutputBookModel" "OutputBookModel" "makes" "I") ∈ ob_T := ob_T_of 385 (by decide +kernel) (by decide +kernel)
theorem k_387 : (Jvm.Cond.laysFinal "OutputBookModel" "OutputBookModel" "makeOwner" "[I") ∈ ob_T := ob_T_of 387 (by decide +kernel) (by decide +kernel)
theorem k_389 : (Jvm.Cond.laysFinal "OutputBookModel" "OutputBookModel" "makeAmount" "[J") ∈ ob_T := ob_T_of 389 (by decide +kernel) (by decide +kernel)
theorem k_391 : (Jvm.Cond.laysFinal "OutputBookModel" "OutputBookModel" "makeTag" "[J") ∈ ob_T := ob_T_of 391 (by decide +kernel) (by decide +kernel)
theorem k_393 : (Jvm.Cond.lays "OutputBookModel" "OutputBookModel" "mint" "J") ∈ ob_T := ob_T_of 393 (by decide +kernel) (by decide +kernel)
theorem k_395 : (Jvm.Cond.laysFinal "OutputBookModel" "OutputBookModel" "picked" "[I") ∈ ob_T := ob_T_of 395 (by decide +kernel) (by decide +kernel)
theorem k_398 : (Jvm.Cond.methodLink "OutputBookLaw" (25 : Nat) ({ cls := "OutputBookModel", name := "spend", desc := "(I)Z" } : Jvm.MethodName)) ∈ ob_T := ob_T_of 398 (by decide +kernel) (by decide +kernel)
theorem k_399 : (Jvm.Cond.instanceMethod ({ cls := "OutputBookModel", name := "spend", desc := "(I)Z" } : Jvm.MethodName)) ∈ ob_T := ob_T_of 399 (by decide +kernel) (by decide +kernel)
theorem k_400 : (Jvm.Cond.selects "OutputBookModel" ({ cls := "OutputBookModel", name := "spend", desc := "(I)Z" } : Jvm.MethodName) ({ cls := "OutputBookModel", name := "spend", desc := "(I)Z" } : Jvm.MethodName)) ∈ ob_T := ob_T_of 400 (by decide +kernel) (by decide +kernel)
theorem k_401 : (Jvm.Cond.code ({ cls := "OutputBookModel", name := "spend", desc := "(I)Z" } : Jvm.MethodName) prog_6_method_8_code (2 : Nat) (Option.some Jvm.ClassFile.FieldType.boolean)) ∈ ob_T := ob_T_of 401 (rfl) (by decide +kernel)
theorem k_402 : (Jvm.Cond.methodLink "OutputBookModel" (74 : Nat) ({ cls := "OutputBookModel", name := "isLive", desc := "(I)Z" } : Jvm.MethodName)) ∈ ob_T := ob_T_of 402 (by decide +kernel) (by decide +kernel)
theorem k_404 : (Jvm.Cond.instanceMethod ({ cls := "OutputBookModel", name := "isLive", desc := "(I)Z" } : Jvm.MethodName)) ∈ ob_T := ob_T_of 404 (by decide +kernel) (by decide +kernel)
theorem k_405 : (Jvm.Cond.code ({ cls := "OutputBookModel", name := "isLive", desc := "(I)Z" } : Jvm.MethodName) prog_6_method_4_code (2 : Nat) (Option.some Jvm.ClassFile.FieldType.boolean)) ∈ ob_T := ob_T_of 405 (rfl) (by decide +kernel)
theorem k_406 : (Jvm.Cond.methodLink "OutputBookModel" (60 : Nat) ({ cls := "OutputBookModel", name := "isMade", desc := "(I)Z" } : Jvm.MethodName)) ∈ ob_T := ob_T_of 406 (by decide +kernel) (by decide +kernel)
theorem k_408 : (Jvm.Cond.instanceMethod ({ cls := "OutputBookModel", name := "isMade", desc := "(I)Z" } : Jvm.MethodName)) ∈ ob_T := ob_T_of 408 (by decide +kernel) (by decide +kernel)
theorem k_409 : (Jvm.Cond.code ({ cls := "OutputBookModel", name := "isMade", desc := "(I)Z" } : Jvm.MethodName) prog_6_method_3_code (2 : Nat) (Option.some Jvm.ClassFile.FieldType.boolean)) ∈ ob_T := ob_T_of 409 (rfl) (by decide +kernel)
theorem k_410 : (Jvm.Cond.methodLink "OutputBookModel" (77 : Nat) ({ cls := "OutputBookModel", name := "isDrafted", desc := "(I)Z" } : Jvm.MethodName)) ∈ ob_T := ob_T_of 410 (by decide +kernel) (by decide +kernel)
theorem k_412 : (Jvm.Cond.instanceMethod ({ cls := "OutputBookModel", name := "isDrafted", desc := "(I)Z" } : Jvm.MethodName)) ∈ ob_T := ob_T_of 412 (by decide +kernel) (by decide +kernel)
theorem k_413 : (Jvm.Cond.code ({ cls := "OutputBookModel", name := "isDrafted", desc := "(I)Z" } : Jvm.MethodName) prog_6_method_5_code (4 : Nat) (Option.some Jvm.ClassFile.FieldType.boolean)) ∈ ob_T := ob_T_of 413 (rfl) (by decide +kernel)
theorem k_414 : (Jvm.Cond.methodLink "OutputBookLaw" (32 : Nat) ({ cls := "OutputBookModel", name := "make", desc := "(IJJ)Z" } : Jvm.MethodName)) ∈ ob_T := ob_T_of 414 (by decide +kernel) (by decide +kernel)
theorem k_415 : (Jvm.Cond.instanceMethod ({ cls := "OutputBookModel", name := "make", desc := "(IJJ)Z" } : Jvm.MethodName)) ∈ ob_T := ob_T_of 415 (by decide +kernel) (by decide +kernel)
theorem k_416 : (Jvm.Cond.selects "OutputBookModel" ({ cls := "OutputBookModel", name := "make", desc := "(IJJ)Z" } : Jvm.MethodName) ({ cls := "OutputBookModel", name := "make", desc := "(IJJ)Z" } : Jvm.MethodName)) ∈ ob_T := ob_T_of 416 (by decide +kernel) (by decide +kernel)
theorem k_417 : (Jvm.Cond.code ({ cls := "OutputBookModel", name := "make", desc := "(IJJ)Z" } : Jvm.MethodName) prog_6_method_9_code (6 : Nat) (Option.some Jvm.ClassFile.FieldType.boolean)) ∈ ob_T := ob_T_of 417 (rfl) (by decide +kernel)
theorem k_418 : (Jvm.Cond.methodLink "OutputBookModel" (80 : Nat) ({ cls := "OutputBookModel", name := "isOwner", desc := "(I)Z" } : Jvm.MethodName)) ∈ ob_T := ob_T_of 418 (by decide +kernel) (by decide +kernel)
theorem k_419 : (Jvm.Cond.static ({ cls := "OutputBookModel", name := "isOwner", desc := "(I)Z" } : Jvm.MethodName)) ∈ ob_T := ob_T_of 419 (by decide +kernel) (by decide +kernel)
theorem k_420 : (Jvm.Cond.code ({ cls := "OutputBookModel", name := "isOwner", desc := "(I)Z" } : Jvm.MethodName) prog_6_method_6_code (1 : Nat) (Option.some Jvm.ClassFile.FieldType.boolean)) ∈ ob_T := ob_T_of 420 (rfl) (by decide +kernel)
theorem k_421 : (Jvm.Cond.methodLink "OutputBookLaw" (37 : Nat) ({ cls := "OutputBookModel", name := "mint", desc := "(J)V" } : Jvm.MethodName)) ∈ ob_T := ob_T_of 421 (by decide +kernel) (by decide +kernel)
theorem k_422 : (Jvm.Cond.instanceMethod ({ cls := "OutputBookModel", name := "mint", desc := "(J)V" } : Jvm.MethodName)) ∈ ob_T := ob_T_of 422 (by decide +kernel) (by decide +kernel)
theorem k_423 : (Jvm.Cond.selects "OutputBookModel" ({ cls := "OutputBookModel", name := "mint", desc := "(J)V" } : Jvm.MethodName) ({ cls := "OutputBookModel", name := "mint", desc := "(J)V" } : Jvm.MethodName)) ∈ ob_T := ob_T_of 423 (by decide +kernel) (by decide +kernel)
theorem k_424 : (Jvm.Cond.code ({ cls := "OutputBookModel", name := "mint", desc := "(J)V" } : Jvm.MethodName) prog_6_method_10_code (3 : Nat) (Option.none : Option Jvm.ClassFile.FieldType)) ∈ ob_T := ob_T_of 424 (rfl) (by decide +kernel)
theorem k_425 : (Jvm.Cond.methodLink "OutputBookLaw" (41 : Nat) ({ cls := "OutputBookModel", name := "drop", desc := "()V" } : Jvm.MethodName)) ∈ ob_T := ob_T_of 425 (by decide +kernel) (by decide +kernel)
theorem k_426 : (Jvm.Cond.instanceMethod ({ cls := "OutputBookModel", name := "drop", desc := "()V" } : Jvm.MethodName)) ∈ ob_T := ob_T_of 426 (by decide +kernel) (by decide +kernel)
theorem k_427 : (Jvm.Cond.selects "OutputBookModel" ({ cls := "OutputBookModel", name := "drop", desc := "()V" } : Jvm.MethodName) ({ cls := "OutputBookModel", name := "drop", desc := "()V" } : Jvm.MethodName)) ∈ ob_T := ob_T_of 427 (by decide +kernel) (by decide +kernel)
theorem k_428 : (Jvm.Cond.code ({ cls := "OutputBookModel", name := "drop", desc := "()V" } : Jvm.MethodName) prog_6_method_11_code (1 : Nat) (Option.none : Option Jvm.ClassFile.FieldType)) ∈ ob_T := ob_T_of 428 (rfl) (by decide +kernel)
theorem k_429 : (Jvm.Cond.methodLink "OutputBookModel" (83 : Nat) ({ cls := "OutputBookModel", name := "empty", desc := "()V" } : Jvm.MethodName)) ∈ ob_T := ob_T_of 429 (by decide +kernel) (by decide +kernel)
theorem k_431 : (Jvm.Cond.instanceMethod ({ cls := "OutputBookModel", name := "empty", desc := "()V" } : Jvm.MethodName)) ∈ ob_T := ob_T_of 431 (by decide +kernel) (by decide +kernel)
theorem k_432 : (Jvm.Cond.code ({ cls := "OutputBookModel", name := "empty", desc := "()V" } : Jvm.MethodName) prog_6_method_7_code (1 : Nat) (Option.none : Option Jvm.ClassFile.FieldType)) ∈ ob_T := ob_T_of 432 (rfl) (by decide +kernel)
theorem k_433 : (Jvm.Cond.methodLink "OutputBookLaw" (46 : Nat) ({ cls := "OutputBookModel", name := "apply", desc := "()J" } : Jvm.MethodName)) ∈ ob_T := ob_T_of 433 (by decide +kernel) (by decide +kernel)
theorem k_434 : (Jvm.Cond.instanceMethod ({ cls := "OutputBookModel", name := "apply", desc := "()J" } : Jvm.MethodName)) ∈ ob_T := ob_T_of 434 (by decide +kernel) (by decide +kernel)
theorem k_435 : (Jvm.Cond.selects "OutputBookModel" ({ cls := "OutputBookModel", name := "apply", desc := "()J" } : Jvm.MethodName) ({ cls := "OutputBookModel", name := "apply", desc := "()J" } : Jvm.MethodName)) ∈ ob_T := ob_T_of 435 (by decide +kernel) (by decide +kernel)
theorem k_436 : (Jvm.Cond.code ({ cls := "OutputBookModel", name := "apply", desc := "()J" } : Jvm.MethodName) prog_6_method_12_code (4 : Nat) (Option.some Jvm.ClassFile.FieldType.long)) ∈ ob_T := ob_T_of 436 (rfl) (by decide +kernel)
theorem k_437 : (Jvm.Cond.constantLong "OutputBookModel" (86 : Nat) (-1 : Int64)) ∈ ob_T := ob_T_of 437 (by decide +kernel) (by decide +kernel)
theorem k_438 : (Jvm.Cond.constantLong "OutputBookModel" (88 : Nat) (4611686018427387904 : Int64)) ∈ ob_T := ob_T_of 438 (by decide +kernel) (by decide +kernel)
theorem k_439 : (Jvm.Cond.constantLong "OutputBookModel" (93 : Nat) (-2 : Int64)) ∈ ob_T := ob_T_of 439 (by decide +kernel) (by decide +kernel)
theorem k_440 : (Jvm.Cond.constantLong "OutputBookModel" (95 : Nat) (-3 : Int64)) ∈ ob_T := ob_T_of 440 (by decide +kernel) (by decide +kernel)
theorem k_441 : (Jvm.Cond.methodLink "OutputBookLaw" (51 : Nat) ({ cls := "OutputBookModel", name := "close", desc := "()I" } : Jvm.MethodName)) ∈ ob_T := ob_T_of 441 (by decide +kernel) (by decide +kernel)
theorem k_442 : (Jvm.Cond.instanceMethod ({ cls := "OutputBookModel", name := "close", desc := "()I" } : Jvm.MethodName)) ∈ ob_T := ob_T_of 442 (by decide +kernel) (by decide +kernel)
theorem k_443 : (Jvm.Cond.selects "OutputBookModel" ({ cls := "OutputBookModel", name := "close", desc := "()I" } : Jvm.MethodName) ({ cls := "OutputBookModel", name := "close", desc := "()I" } : Jvm.MethodName)) ∈ ob_T := ob_T_of 443 (by decide +kernel) (by decide +kernel)
theorem k_444 : (Jvm.Cond.code ({ cls := "OutputBookModel", name := "close", desc := "()I" } : Jvm.MethodName) prog_6_method_13_code (1 : Nat) (Option.some Jvm.ClassFile.FieldType.int)) ∈ ob_T := ob_T_of 444 (rfl) (by decide +kernel)
theorem k_445 : (Jvm.Cond.methodLink "OutputBookLaw" (56 : Nat) ({ cls := "OutputBookModel", name := "undo", desc := "(I)I" } : Jvm.MethodName)) ∈ ob_T := ob_T_of 445 (by decide +kernel) (by decide +kernel)
theorem k_446 : (Jvm.Cond.instanceMethod ({ cls := "OutputBookModel", name := "undo", desc := "(I)I" } : Jvm.MethodName)) ∈ ob_T := ob_T_of 446 (by decide +kernel) (by decide +kernel)
theorem k_447 : (Jvm.Cond.selects "OutputBookModel" ({ cls := "OutputBookModel", name := "undo", desc := "(I)I" } : Jvm.MethodName) ({ cls := "OutputBookModel", name := "undo", desc := "(I)I" } : Jvm.MethodName)) ∈ ob_T := ob_T_of 447 (by decide +kernel) (by decide +kernel)
theorem k_448 : (Jvm.Cond.code ({ cls := "OutputBookModel", name := "undo", desc := "(I)I" } : Jvm.MethodName) prog_6_method_14_code (4 : Nat) (Option.some Jvm.ClassFile.FieldType.int)) ∈ ob_T := ob_T_of 448 (rfl) (by decide +kernel)
theorem k_449 : (Jvm.Cond.methodLink "OutputBookLaw" (61 : Nat) ({ cls := "OutputBookModel", name := "output", desc := "(II)I" } : Jvm.MethodName)) ∈ ob_T := ob_T_of 449 (by decide +kernel) (by decide +kernel)
theorem k_450 : (Jvm.Cond.instanceMethod ({ cls := "OutputBookModel", name := "output", desc := "(II)I" } : Jvm.MethodName)) ∈ ob_T := ob_T_of 450 (by decide +kernel) (by decide +kernel)
theorem k_451 : (Jvm.Cond.selects "OutputBookModel" ({ cls := "OutputBookModel", name := "output", desc := "(II)I" } : Jvm.MethodName) ({ cls := "OutputBookModel", name := "output", desc := "(II)I" } : Jvm.MethodName)) ∈ ob_T := ob_T_of 451 (by decide +kernel) (by decide +kernel)
theorem k_452 : (Jvm.Cond.code ({ cls := "OutputBookModel", name := "output", desc := "(II)I" } : Jvm.MethodName) prog_6_method_15_code (3 : Nat) (Option.some Jvm.ClassFile.FieldType.int)) ∈ ob_T := ob_T_of 452 (rfl) (by decide +kernel)
theorem k_453 : (Jvm.Cond.methodLink "OutputBookLaw" (66 : Nat) ({ cls := "OutputBookModel", name := "amount", desc := "(I)J" } : Jvm.MethodName)) ∈ ob_T := ob_T_of 453 (by decide +kernel) (by decide +kernel)
theorem k_454 : (Jvm.Cond.instanceMethod ({ cls := "OutputBookModel", name := "amount", desc := "(I)J" } : Jvm.MethodName)) ∈ ob_T := ob_T_of 454 (by decide +kernel) (by decide +kernel)
theorem k_455 : (Jvm.Cond.selects "OutputBookModel" ({ cls := "OutputBookModel", name := "amount", desc := "(I)J" } : Jvm.MethodName) ({ cls := "OutputBookModel", name := "amount", desc := "(I)J" } : Jvm.MethodName)) ∈ ob_T := ob_T_of 455 (by decide +kernel) (by decide +kernel)
theorem k_456 : (Jvm.Cond.code ({ cls := "OutputBookModel", name := "amount", desc := "(I)J" } : Jvm.MethodName) prog_6_method_16_code (2 : Nat) (Option.some Jvm.ClassFile.FieldType.long)) ∈ ob_T := ob_T_of 456 (rfl) (by decide +kernel)
theorem k_457 : (Jvm.Cond.methodLink "OutputBookLaw" (70 : Nat) ({ cls := "OutputBookModel", name := "tag", desc := "(I)J" } : Jvm.MethodName)) ∈ ob_T := ob_T_of 457 (by decide +kernel) (by decide +kernel)
theorem k_458 : (Jvm.Cond.instanceMethod ({ cls := "OutputBookModel", name := "tag", desc := "(I)J" } : Jvm.MethodName)) ∈ ob_T := ob_T_of 458 (by decide +kernel) (by decide +kernel)
theorem k_459 : (Jvm.Cond.selects "OutputBookModel" ({ cls := "OutputBookModel", name := "tag", desc := "(I)J" } : Jvm.MethodName) ({ cls := "OutputBookModel", name := "tag", desc := "(I)J" } : Jvm.MethodName)) ∈ ob_T := ob_T_of 459 (by decide +kernel) (by decide +kernel)
theorem k_460 : (Jvm.Cond.code ({ cls := "OutputBookModel", name := "tag", desc := "(I)J" } : Jvm.MethodName) prog_6_method_17_code (2 : Nat) (Option.some Jvm.ClassFile.FieldType.long)) ∈ ob_T := ob_T_of 460 (rfl) (by decide +kernel)
theorem k_461 : (Jvm.Cond.methodLink "OutputBookLaw" (74 : Nat) ({ cls := "OutputBookModel", name := "balance", desc := "(I)J" } : Jvm.MethodName)) ∈ ob_T := ob_T_of 461 (by decide +kernel) (by decide +kernel)
theorem k_462 : (Jvm.Cond.instanceMethod ({ cls := "OutputBookModel", name := "balance", desc := "(I)J" } : Jvm.MethodName)) ∈ ob_T := ob_T_of 462 (by decide +kernel) (by decide +kernel)
theorem k_463 : (Jvm.Cond.selects "OutputBookModel" ({ cls := "OutputBookModel", name := "balance", desc := "(I)J" } : Jvm.MethodName) ({ cls := "OutputBookModel", name := "balance", desc := "(I)J" } : Jvm.MethodName)) ∈ ob_T := ob_T_of 463 (by decide +kernel) (by decide +kernel)
theorem k_464 : (Jvm.Cond.code ({ cls := "OutputBookModel", name := "balance", desc := "(I)J" } : Jvm.MethodName) prog_6_method_18_code (5 : Nat) (Option.some Jvm.ClassFile.FieldType.long)) ∈ ob_T := ob_T_of 464 (rfl) (by decide +kernel)
theorem k_465 : (Jvm.Cond.methodLink "OutputBookLaw" (78 : Nat) ({ cls := "OutputBookModel", name := "count", desc := "(I)I" } : Jvm.MethodName)) ∈ ob_T := ob_T_of 465 (by decide +kernel) (by decide +kernel)
theorem k_466 : (Jvm.Cond.instanceMethod ({ cls := "OutputBookModel", name := "count", desc := "(I)I" } : Jvm.MethodName)) ∈ ob_T := ob_T_of 466 (by decide +kernel) (by decide +kernel)
theorem k_467 : (Jvm.Cond.selects "OutputBookModel" ({ cls := "OutputBookModel", name := "count", desc := "(I)I" } : Jvm.MethodName) ({ cls := "OutputBookModel", name := "count", desc := "(I)I" } : Jvm.MethodName)) ∈ ob_T := ob_T_of 467 (by decide +kernel) (by decide +kernel)
theorem k_468 : (Jvm.Cond.code ({ cls := "OutputBookModel", name := "count", desc := "(I)I" } : Jvm.MethodName) prog_6_method_19_code (4 : Nat) (Option.some Jvm.ClassFile.FieldType.int)) ∈ ob_T := ob_T_of 468 (rfl) (by decide +kernel)
theorem k_469 : (Jvm.Cond.methodLink "OutputBookLaw" (82 : Nat) ({ cls := "OutputBookModel", name := "nth", desc := "(II)I" } : Jvm.MethodName)) ∈ ob_T := ob_T_of 469 (by decide +kernel) (by decide +kernel)
theorem k_470 : (Jvm.Cond.instanceMethod ({ cls := "OutputBookModel", name := "nth", desc := "(II)I" } : Jvm.MethodName)) ∈ ob_T := ob_T_of 470 (by decide +kernel) (by decide +kernel)
theorem k_471 : (Jvm.Cond.selects "OutputBookModel" ({ cls := "OutputBookModel", name := "nth", desc := "(II)I" } : Jvm.MethodName) ({ cls := "OutputBookModel", name := "nth", desc := "(II)I" } : Jvm.MethodName)) ∈ ob_T := ob_T_of 471 (by decide +kernel) (by decide +kernel)
theorem k_472 : (Jvm.Cond.code ({ cls := "OutputBookModel", name := "nth", desc := "(II)I" } : Jvm.MethodName) prog_6_method_20_code (5 : Nat) (Option.some Jvm.ClassFile.FieldType.int)) ∈ ob_T := ob_T_of 472 (rfl) (by decide +kernel)
theorem k_473 : (Jvm.Cond.methodLink "OutputBookLaw" (87 : Nat) ({ cls := "OutputBookModel", name := "gather", desc := "(IJ)I" } : Jvm.MethodName)) ∈ ob_T := ob_T_of 473 (by decide +kernel) (by decide +kernel)
theorem k_474 : (Jvm.Cond.instanceMethod ({ cls := "OutputBookModel", name := "gather", desc := "(IJ)I" } : Jvm.MethodName)) ∈ ob_T := ob_T_of 474 (by decide +kernel) (by decide +kernel)
theorem k_475 : (Jvm.Cond.selects "OutputBookModel" ({ cls := "OutputBookModel", name := "gather", desc := "(IJ)I" } : Jvm.MethodName) ({ cls := "OutputBookModel", name := "gather", desc := "(IJ)I" } : Jvm.MethodName)) ∈ ob_T := ob_T_of 475 (by decide +kernel) (by decide +kernel)
theorem k_476 : (Jvm.Cond.code ({ cls := "OutputBookModel", name := "gather", desc := "(IJ)I" } : Jvm.MethodName) prog_6_method_22_code (8 : Nat) (Option.some Jvm.ClassFile.FieldType.int)) ∈ ob_T := ob_T_of 476 (rfl) (by decide +kernel)
theorem k_477 : (Jvm.Cond.methodLink "OutputBookModel" (109 : Nat) ({ cls := "OutputBookModel", name := "best", desc := "(II)I" } : Jvm.MethodName)) ∈ ob_T := ob_T_of 477 (by decide +kernel) (by decide +kernel)
theorem k_479 : (Jvm.Cond.instanceMethod ({ cls := "OutputBookModel", name := "best", desc := "(II)I" } : Jvm.MethodName)) ∈ ob_T := ob_T_of 479 (by decide +kernel) (by decide +kernel)
theorem k_480 : (Jvm.Cond.code ({ cls := "OutputBookModel", name := "best", desc := "(II)I" } : Jvm.MethodName) prog_6_method_21_code (7 : Nat) (Option.some Jvm.ClassFile.FieldType.int)) ∈ ob_T := ob_T_of 480 (rfl) (by decide +kernel)
theorem k_481 : (Jvm.Cond.methodLink "OutputBookLaw" (91 : Nat) ({ cls := "OutputBookModel", name := "look", desc := "(I)J" } : Jvm.MethodName)) ∈ ob_T := ob_T_of 481 (by decide +kernel) (by decide +kernel)
theorem k_482 : (Jvm.Cond.instanceMethod ({ cls := "OutputBookModel", name := "look", desc := "(I)J" } : Jvm.MethodName)) ∈ ob_T := ob_T_of 482 (by decide +kernel) (by decide +kernel)
theorem k_483 : (Jvm.Cond.selects "OutputBookModel" ({ cls := "OutputBookModel", name := "look", desc := "(I)J" } : Jvm.MethodName) ({ cls := "OutputBookModel", name := "look", desc := "(I)J" } : Jvm.MethodName)) ∈ ob_T := ob_T_of 483 (by decide +kernel) (by decide +kernel)
theorem k_484 : (Jvm.Cond.code ({ cls := "OutputBookModel", name := "look", desc := "(I)J" } : Jvm.MethodName) prog_6_method_23_code (5 : Nat) (Option.some Jvm.ClassFile.FieldType.long)) ∈ ob_T := ob_T_of 484 (rfl) (by decide +kernel)
theorem k_485 : (Jvm.Cond.constantLong "OutputBookLaw" (26 : Nat) (4294967295 : Int64)) ∈ ob_T := ob_T_of 485 (by decide +kernel) (by decide +kernel)
theorem in_B : ∀ w ∈ u_ws R_B T_B 7, w ∈ ob_T := by
  intro w h
  obtain ⟨k, hk, rfl⟩ := List.mem_map.mp h
  have hk := List.mem_range.mp hk
  rcases (show k = 0 ∨ k = 1 ∨ k = 2 ∨ k = 3 ∨ k = 4 ∨ k = 5 ∨ k = 6 by omega) with rfl | rfl | rfl | rfl | rfl | rfl | rfl
  · exact k_111
  · exact k_113
  · exact k_115
  · exact k_117
  · exact k_119
  · exact k_121
  · exact k_123
theorem in_D : ∀ w ∈ u_ws R_D T_D 7, w ∈ ob_T := by
  intro w h
  obtain ⟨k, hk, rfl⟩ := List.mem_map.mp h
  have hk := List.mem_range.mp hk
  rcases (show k = 0 ∨ k = 1 ∨ k = 2 ∨ k = 3 ∨ k = 4 ∨ k = 5 ∨ k = 6 by omega) with rfl | rfl | rfl | rfl | rfl | rfl | rfl
  · exact k_75
  · exact k_77
  · exact k_79
  · exact k_81
  · exact k_83
  · exact k_85
  · exact k_87
theorem in_O : ∀ w ∈ u_ws R_O T_O 6, w ∈ ob_T := by
  intro w h
  obtain ⟨k, hk, rfl⟩ := List.mem_map.mp h
  have hk := List.mem_range.mp hk
  rcases (show k = 0 ∨ k = 1 ∨ k = 2 ∨ k = 3 ∨ k = 4 ∨ k = 5 by omega) with rfl | rfl | rfl | rfl | rfl | rfl
  · exact k_40
  · exact k_42
  · exact k_44
  · exact k_46
  · exact k_48
  · exact k_50
theorem in_K : ∀ w ∈ u_ws R_K T_K 6, w ∈ ob_T := by
  intro w h
  obtain ⟨k, hk, rfl⟩ := List.mem_map.mp h
  have hk := List.mem_range.mp hk
  rcases (show k = 0 ∨ k = 1 ∨ k = 2 ∨ k = 3 ∨ k = 4 ∨ k = 5 by omega) with rfl | rfl | rfl | rfl | rfl | rfl
  · exact k_132
  · exact k_134
  · exact k_136
  · exact k_138
  · exact k_140
  · exact k_142
theorem in_M : ∀ w ∈ u_ws R_M T_M 24, w ∈ ob_T := by
  intro w h
  obtain ⟨k, hk, rfl⟩ := List.mem_map.mp h
  have hk := List.mem_range.mp hk
  rcases (show k = 0 ∨ k = 1 ∨ k = 2 ∨ k = 3 ∨ k = 4 ∨ k = 5 ∨ k = 6 ∨ k = 7 ∨ k = 8 ∨ k = 9 ∨ k = 10 ∨ k = 11 ∨ k = 12 ∨ k = 13 ∨ k = 14 ∨ k = 15 ∨ k = 16 ∨ k = 17 ∨ k = 18 ∨ k = 19 ∨ k = 20 ∨ k = 21 ∨ k = 22 ∨ k = 23 by omega) with rfl | rfl | rfl | rfl | rfl | rfl | rfl | rfl | rfl | rfl | rfl | rfl | rfl | rfl | rfl | rfl | rfl | rfl | rfl | rfl | rfl | rfl | rfl | rfl
  · exact k_349
  · exact k_351
  · exact k_353
  · exact k_355
  · exact k_357
  · exact k_359
  · exact k_361
  · exact k_363
  · exact k_365
  · exact k_367
  · exact k_369
  · exact k_371
  · exact k_373
  · exact k_375
  · exact k_377
  · exact k_379
  · exact k_381
  · exact k_383
  · exact k_385
  · exact k_387
  · exact k_389
  · exact k_391
  · exact k_393
  · exact k_395
def ob_N : List Cond := [(Jvm.Cond.methodLinkNest "OutputBook" (9 : Nat) ({ cls := "OutputBook$Outputs", name := "<init>", desc := "()V" } : Jvm.MethodName) "OutputBook"), (Jvm.Cond.fieldLinkNest "OutputBook" (133 : Nat) "OutputBook$Outputs" "owners" "[I" "OutputBook"), (Jvm.Cond.fieldLinkNest "OutputBook" (147 : Nat) "OutputBook$Outputs" "tags" "[J" "OutputBook"), (Jvm.Cond.fieldLinkNest "OutputBook" (137 : Nat) "OutputBook$Outputs" "madeAt" "[I" "OutputBook"), (Jvm.Cond.fieldLinkNest "OutputBook" (140 : Nat) "OutputBook$Outputs" "spentAt" "[I" "OutputBook"), (Jvm.Cond.fieldLinkNest "OutputBook" (151 : Nat) "OutputBook$Outputs" "made" "I" "OutputBook"), (Jvm.Cond.methodLinkNest "OutputBook" (18 : Nat) ({ cls := "OutputBook$Draft", name := "<init>", desc := "()V" } : Jvm.MethodName) "OutputBook"), (Jvm.Cond.fieldLinkNest "OutputBook" (166 : Nat) "OutputBook$Draft" "toSpend" "[I" "OutputBook"), (Jvm.Cond.fieldLinkNest "OutputBook" (175 : Nat) "OutputBook$Draft" "owners" "[I" "OutputBook"), (Jvm.Cond.fieldLinkNest "OutputBook" (169 : Nat) "OutputBook$Draft" "amounts" "[J" "OutputBook"), (Jvm.Cond.fieldLinkNest "OutputBook" (176 : Nat) "OutputBook$Draft" "tags" "[J" "OutputBook"), (Jvm.Cond.fieldLinkNest "OutputBook" (73 : Nat) "OutputBook$Draft" "spends" "I" "OutputBook"), (Jvm.Cond.fieldLinkNest "OutputBook" (77 : Nat) "OutputBook$Draft" "makes" "I" "OutputBook"), (Jvm.Cond.fieldLinkNest "OutputBook" (66 : Nat) "OutputBook$Draft" "mint" "J" "OutputBook"), (Jvm.Cond.fieldLinkNest "OutputBook" (109 : Nat) "OutputBook$Blocks" "height" "I" "OutputBook"), (Jvm.Cond.fieldLinkNest "OutputBook" (112 : Nat) "OutputBook$Blocks" "undoable" "I" "OutputBook")]
abbrev b_B_init : ByteArray := prog_2_method_1_code
def y_B_init : MethodName := ⟨"OutputBook$Blocks", "<init>", "(I)V"⟩
def w_B_init : List Cond := .code y_B_init b_B_init 2 none :: ob_T
abbrev b_B_openNext : ByteArray := prog_2_method_2_code
def y_B_openNext : MethodName := ⟨"OutputBook$Blocks", "openNext", "(JJI)V"⟩
def w_B_openNext : List Cond := .code y_B_openNext b_B_openNext 6 none :: ob_T
abbrev b_B_goBack : ByteArray := prog_2_method_3_code
def y_B_goBack : MethodName := ⟨"OutputBook$Blocks", "goBack", "(I)V"⟩
def w_B_goBack : List Cond := .code y_B_goBack b_B_goBack 2 none :: ob_T
abbrev b_B_supplyAtOpening : ByteArray := prog_2_method_4_code
def y_B_supplyAtOpening : MethodName := ⟨"OutputBook$Blocks", "supplyAtOpening", "()J"⟩
def w_B_supplyAtOpening : List Cond := .code y_B_supplyAtOpening b_B_supplyAtOpening 1 (some .long) :: ob_T
abbrev b_B_potAtOpening : ByteArray := prog_2_method_5_code
def y_B_potAtOpening : MethodName := ⟨"OutputBook$Blocks", "potAtOpening", "()J"⟩
def w_B_potAtOpening : List Cond := .code y_B_potAtOpening b_B_potAtOpening 1 (some .long) :: ob_T
abbrev b_B_appliedAtOpening : ByteArray := prog_2_method_6_code
def y_B_appliedAtOpening : MethodName := ⟨"OutputBook$Blocks", "appliedAtOpening", "()I"⟩
def w_B_appliedAtOpening : List Cond := .code y_B_appliedAtOpening b_B_appliedAtOpening 1 (some .int) :: ob_T
abbrev b_D_init : ByteArray := prog_3_method_1_code
def y_D_init : MethodName := ⟨"OutputBook$Draft", "<init>", "()V"⟩
def w_D_init : List Cond := .code y_D_init b_D_init 1 none :: ob_T
abbrev b_D_roomToSpend : ByteArray := prog_3_method_2_code
def y_D_roomToSpend : MethodName := ⟨"OutputBook$Draft", "roomToSpend", "()I"⟩
def w_D_roomToSpend : List Cond := .code y_D_roomToSpend b_D_roomToSpend 1 (some .int) :: ob_T
abbrev b_D_roomToMake : ByteArray := prog_3_method_3_code
def y_D_roomToMake : MethodName := ⟨"OutputBook$Draft", "roomToMake", "()I"⟩
def w_D_roomToMake : List Cond := .code y_D_roomToMake b_D_roomToMake 1 (some .int) :: ob_T
abbrev b_D_hasToSpend : ByteArray := prog_3_method_4_code
def y_D_hasToSpend : MethodName := ⟨"OutputBook$Draft", "hasToSpend", "(I)Z"⟩
def w_D_hasToSpend : List Cond := .code y_D_hasToSpend b_D_hasToSpend 3 (some .boolean) :: ob_T
abbrev b_D_writeToSpend : ByteArray := prog_3_method_5_code
def y_D_writeToSpend : MethodName := ⟨"OutputBook$Draft", "writeToSpend", "(II)V"⟩
def w_D_writeToSpend : List Cond := .code y_D_writeToSpend b_D_writeToSpend 3 none :: ob_T
abbrev b_D_keepToSpend : ByteArray := prog_3_method_6_code
def y_D_keepToSpend : MethodName := ⟨"OutputBook$Draft", "keepToSpend", "(I)V"⟩
def w_D_keepToSpend : List Cond := .code y_D_keepToSpend b_D_keepToSpend 2 none :: ob_T
abbrev b_D_addToMake : ByteArray := prog_3_method_7_code
def y_D_addToMake : MethodName := ⟨"OutputBook$Draft", "addToMake", "(IJJ)V"⟩
def w_D_addToMake : List Cond := .code y_D_addToMake b_D_addToMake 6 none :: ob_T
abbrev b_D_clear : ByteArray := prog_3_method_8_code
def y_D_clear : MethodName := ⟨"OutputBook$Draft", "clear", "()V"⟩
def w_D_clear : List Cond := .code y_D_clear b_D_clear 1 none :: ob_T
abbrev b_O_init : ByteArray := prog_4_method_1_code
def y_O_init : MethodName := ⟨"OutputBook$Outputs", "<init>", "()V"⟩
def w_O_init : List Cond := .code y_O_init b_O_init 1 none :: ob_T
abbrev b_O_room : ByteArray := prog_4_method_2_code
def y_O_room : MethodName := ⟨"OutputBook$Outputs", "room", "()I"⟩
def w_O_room : List Cond := .code y_O_room b_O_room 1 (some .int) :: ob_T
abbrev b_O_has : ByteArray := prog_4_method_3_code
def y_O_has : MethodName := ⟨"OutputBook$Outputs", "has", "(I)Z"⟩
def w_O_has : List Cond := .code y_O_has b_O_has 2 (some .boolean) :: ob_T
abbrev b_O_isLive : ByteArray := prog_4_method_4_code
def y_O_isLive : MethodName := ⟨"OutputBook$Outputs", "isLive", "(I)Z"⟩
def w_O_isLive : List Cond := .code y_O_isLive b_O_isLive 2 (some .boolean) :: ob_T
abbrev b_O_isLiveOf : ByteArray := prog_4_method_5_code
def y_O_isLiveOf : MethodName := ⟨"OutputBook$Outputs", "isLiveOf", "(II)Z"⟩
def w_O_isLiveOf : List Cond := .code y_O_isLiveOf b_O_isLiveOf 3 (some .boolean) :: ob_T
abbrev b_O_amountOf : ByteArray := prog_4_method_6_code
def y_O_amountOf : MethodName := ⟨"OutputBook$Outputs", "amountOf", "(I)J"⟩
def w_O_amountOf : List Cond := .code y_O_amountOf b_O_amountOf 2 (some .long) :: ob_T
abbrev b_O_liveOnes : ByteArray := prog_4_method_7_code
def y_O_liveOnes : MethodName := ⟨"OutputBook$Outputs", "liveOnes", "()I"⟩
def w_O_liveOnes : List Cond := .code y_O_liveOnes b_O_liveOnes 3 (some .int) :: ob_T
abbrev b_O_add : ByteArray := prog_4_method_8_code
def y_O_add : MethodName := ⟨"OutputBook$Outputs", "add", "(IJJI)V"⟩
def w_O_add : List Cond := .code y_O_add b_O_add 7 none :: ob_T
abbrev b_O_takeOff : ByteArray := prog_4_method_9_code
def y_O_takeOff : MethodName := ⟨"OutputBook$Outputs", "takeOff", "(II)V"⟩
def w_O_takeOff : List Cond := .code y_O_takeOff b_O_takeOff 3 none :: ob_T
abbrev b_O_takeBackFrom : ByteArray := prog_4_method_10_code
def y_O_takeBackFrom : MethodName := ⟨"OutputBook$Outputs", "takeBackFrom", "(I)V"⟩
def w_O_takeBackFrom : List Cond := .code y_O_takeBackFrom b_O_takeBackFrom 3 none :: ob_T
abbrev b_O_nextByAmount : ByteArray := prog_4_method_11_code
def y_O_nextByAmount : MethodName := ⟨"OutputBook$Outputs", "nextByAmount", "(II)I"⟩
def w_O_nextByAmount : List Cond := .code y_O_nextByAmount b_O_nextByAmount 5 (some .int) :: ob_T
abbrev b_O_standsAhead : ByteArray := prog_4_method_12_code
def y_O_standsAhead : MethodName := ⟨"OutputBook$Outputs", "standsAhead", "(II)Z"⟩
def w_O_standsAhead : List Cond := .code y_O_standsAhead b_O_standsAhead 3 (some .boolean) :: ob_T
abbrev b_K_init : ByteArray := prog_1_method_1_code
def y_K_init : MethodName := ⟨"OutputBook", "<init>", "(I)V"⟩
def w_K_init : List Cond := .code y_K_init b_K_init 2 none :: ob_T
abbrev b_K_spend : ByteArray := prog_1_method_2_code
def y_K_spend : MethodName := ⟨"OutputBook", "spend", "(I)Z"⟩
def w_K_spend : List Cond := .code y_K_spend b_K_spend 2 (some .boolean) :: ob_T
abbrev b_K_make : ByteArray := prog_1_method_3_code
def y_K_make : MethodName := ⟨"OutputBook", "make", "(IJJ)Z"⟩
def w_K_make : List Cond := .code y_K_make b_K_make 6 (some .boolean) :: ob_T
abbrev b_K_mint : ByteArray := prog_1_method_4_code
def y_K_mint : MethodName := ⟨"OutputBook", "mint", "(J)V"⟩
def w_K_mint : List Cond := .code y_K_mint b_K_mint 3 none :: ob_T
abbrev b_K_drop : ByteArray := prog_1_method_5_code
def y_K_drop : MethodName := ⟨"OutputBook", "drop", "()V"⟩
def w_K_drop : List Cond := .code y_K_drop b_K_drop 1 none :: ob_T
abbrev b_K_apply : ByteArray := prog_1_method_6_code
def y_K_apply : MethodName := ⟨"OutputBook", "apply", "()J"⟩
def w_K_apply : List Cond := .code y_K_apply b_K_apply 3 (some .long) :: ob_T
abbrev b_K_close : ByteArray := prog_1_method_7_code
def y_K_close : MethodName := ⟨"OutputBook", "close", "()I"⟩
def w_K_close : List Cond := .code y_K_close b_K_close 1 (some .int) :: ob_T
abbrev b_K_undo : ByteArray := prog_1_method_8_code
def y_K_undo : MethodName := ⟨"OutputBook", "undo", "(I)I"⟩
def w_K_undo : List Cond := .code y_K_undo b_K_undo 2 (some .int) :: ob_T
abbrev b_K_output : ByteArray := prog_1_method_9_code
def y_K_output : MethodName := ⟨"OutputBook", "output", "(II)I"⟩
def w_K_output : List Cond := .code y_K_output b_K_output 3 (some .int) :: ob_T
abbrev b_K_amount : ByteArray := prog_1_method_10_code
def y_K_amount : MethodName := ⟨"OutputBook", "amount", "(I)J"⟩
def w_K_amount : List Cond := .code y_K_amount b_K_amount 2 (some .long) :: ob_T
abbrev b_K_tag : ByteArray := prog_1_method_11_code
def y_K_tag : MethodName := ⟨"OutputBook", "tag", "(I)J"⟩
def w_K_tag : List Cond := .code y_K_tag b_K_tag 2 (some .long) :: ob_T
abbrev b_K_balance : ByteArray := prog_1_method_12_code
def y_K_balance : MethodName := ⟨"OutputBook", "balance", "(I)J"⟩
def w_K_balance : List Cond := .code y_K_balance b_K_balance 5 (some .long) :: ob_T
abbrev b_K_count : ByteArray := prog_1_method_13_code
def y_K_count : MethodName := ⟨"OutputBook", "count", "(I)I"⟩
def w_K_count : List Cond := .code y_K_count b_K_count 4 (some .int) :: ob_T
abbrev b_K_nth : ByteArray := prog_1_method_14_code
def y_K_nth : MethodName := ⟨"OutputBook", "nth", "(II)I"⟩
def w_K_nth : List Cond := .code y_K_nth b_K_nth 5 (some .int) :: ob_T
abbrev b_K_gather : ByteArray := prog_1_method_15_code
def y_K_gather : MethodName := ⟨"OutputBook", "gather", "(IJ)I"⟩
def w_K_gather : List Cond := .code y_K_gather b_K_gather 9 (some .int) :: ob_T
abbrev b_K_look : ByteArray := prog_1_method_16_code
def y_K_look : MethodName := ⟨"OutputBook", "look", "(I)J"⟩
def w_K_look : List Cond := .code y_K_look b_K_look 2 (some .long) :: ob_T
abbrev b_K_feeOfDraft : ByteArray := prog_1_method_17_code
def y_K_feeOfDraft : MethodName := ⟨"OutputBook", "feeOfDraft", "()J"⟩
def w_K_feeOfDraft : List Cond := .code y_K_feeOfDraft b_K_feeOfDraft 4 (some .long) :: ob_T
abbrev b_K_bookDraft : ByteArray := prog_1_method_18_code
def y_K_bookDraft : MethodName := ⟨"OutputBook", "bookDraft", "()V"⟩
def w_K_bookDraft : List Cond := .code y_K_bookDraft b_K_bookDraft 2 none :: ob_T
abbrev b_M_init : ByteArray := prog_6_method_1_code
def y_M_init : MethodName := ⟨"OutputBookModel", "<init>", "(I)V"⟩
def w_M_init : List Cond := .code y_M_init b_M_init 2 none :: ob_T
abbrev b_M_isMade : ByteArray := prog_6_method_3_code
def y_M_isMade : MethodName := ⟨"OutputBookModel", "isMade", "(I)Z"⟩
def w_M_isMade : List Cond := .code y_M_isMade b_M_isMade 2 (some .boolean) :: ob_T
abbrev b_M_isLive : ByteArray := prog_6_method_4_code
def y_M_isLive : MethodName := ⟨"OutputBookModel", "isLive", "(I)Z"⟩
def w_M_isLive : List Cond := .code y_M_isLive b_M_isLive 2 (some .boolean) :: ob_T
abbrev b_M_isDrafted : ByteArray := prog_6_method_5_code
def y_M_isDrafted : MethodName := ⟨"OutputBookModel", "isDrafted", "(I)Z"⟩
def w_M_isDrafted : List Cond := .code y_M_isDrafted b_M_isDrafted 4 (some .boolean) :: ob_T
abbrev b_M_isOwner : ByteArray := prog_6_method_6_code
def y_M_isOwner : MethodName := ⟨"OutputBookModel", "isOwner", "(I)Z"⟩
def w_M_isOwner : List Cond := .code y_M_isOwner b_M_isOwner 1 (some .boolean) :: ob_T
abbrev b_M_empty : ByteArray := prog_6_method_7_code
def y_M_empty : MethodName := ⟨"OutputBookModel", "empty", "()V"⟩
def w_M_empty : List Cond := .code y_M_empty b_M_empty 1 none :: ob_T
abbrev b_M_spend : ByteArray := prog_6_method_8_code
def y_M_spend : MethodName := ⟨"OutputBookModel", "spend", "(I)Z"⟩
def w_M_spend : List Cond := .code y_M_spend b_M_spend 2 (some .boolean) :: ob_T
abbrev b_M_make : ByteArray := prog_6_method_9_code
def y_M_make : MethodName := ⟨"OutputBookModel", "make", "(IJJ)Z"⟩
def w_M_make : List Cond := .code y_M_make b_M_make 6 (some .boolean) :: ob_T
abbrev b_M_mint : ByteArray := prog_6_method_10_code
def y_M_mint : MethodName := ⟨"OutputBookModel", "mint", "(J)V"⟩
def w_M_mint : List Cond := .code y_M_mint b_M_mint 3 none :: ob_T
abbrev b_M_drop : ByteArray := prog_6_method_11_code
def y_M_drop : MethodName := ⟨"OutputBookModel", "drop", "()V"⟩
def w_M_drop : List Cond := .code y_M_drop b_M_drop 1 none :: ob_T
abbrev b_M_apply : ByteArray := prog_6_method_12_code
def y_M_apply : MethodName := ⟨"OutputBookModel", "apply", "()J"⟩
def w_M_apply : List Cond := .code y_M_apply b_M_apply 4 (some .long) :: ob_T
abbrev b_M_close : ByteArray := prog_6_method_13_code
def y_M_close : MethodName := ⟨"OutputBookModel", "close", "()I"⟩
def w_M_close : List Cond := .code y_M_close b_M_close 1 (some .int) :: ob_T
abbrev b_M_undo : ByteArray := prog_6_method_14_code
def y_M_undo : MethodName := ⟨"OutputBookModel", "undo", "(I)I"⟩
def w_M_undo : List Cond := .code y_M_undo b_M_undo 4 (some .int) :: ob_T
abbrev b_M_output : ByteArray := prog_6_method_15_code
def y_M_output : MethodName := ⟨"OutputBookModel", "output", "(II)I"⟩
def w_M_output : List Cond := .code y_M_output b_M_output 3 (some .int) :: ob_T
abbrev b_M_amount : ByteArray := prog_6_method_16_code
def y_M_amount : MethodName := ⟨"OutputBookModel", "amount", "(I)J"⟩
def w_M_amount : List Cond := .code y_M_amount b_M_amount 2 (some .long) :: ob_T
abbrev b_M_tag : ByteArray := prog_6_method_17_code
def y_M_tag : MethodName := ⟨"OutputBookModel", "tag", "(I)J"⟩
def w_M_tag : List Cond := .code y_M_tag b_M_tag 2 (some .long) :: ob_T
abbrev b_M_balance : ByteArray := prog_6_method_18_code
def y_M_balance : MethodName := ⟨"OutputBookModel", "balance", "(I)J"⟩
def w_M_balance : List Cond := .code y_M_balance b_M_balance 5 (some .long) :: ob_T
abbrev b_M_count : ByteArray := prog_6_method_19_code
def y_M_count : MethodName := ⟨"OutputBookModel", "count", "(I)I"⟩
def w_M_count : List Cond := .code y_M_count b_M_count 4 (some .int) :: ob_T
abbrev b_M_nth : ByteArray := prog_6_method_20_code
def y_M_nth : MethodName := ⟨"OutputBookModel", "nth", "(II)I"⟩
def w_M_nth : List Cond := .code y_M_nth b_M_nth 5 (some .int) :: ob_T
abbrev b_M_best : ByteArray := prog_6_method_21_code
def y_M_best : MethodName := ⟨"OutputBookModel", "best", "(II)I"⟩
def w_M_best : List Cond := .code y_M_best b_M_best 7 (some .int) :: ob_T
abbrev b_M_gather : ByteArray := prog_6_method_22_code
def y_M_gather : MethodName := ⟨"OutputBookModel", "gather", "(IJ)I"⟩
def w_M_gather : List Cond := .code y_M_gather b_M_gather 8 (some .int) :: ob_T
abbrev b_M_look : ByteArray := prog_6_method_23_code
def y_M_look : MethodName := ⟨"OutputBookModel", "look", "(I)J"⟩
def w_M_look : List Cond := .code y_M_look b_M_look 5 (some .long) :: ob_T
abbrev b_L_cell : ByteArray := method_2_code
def y_L_cell : MethodName := ⟨"OutputBookLaw", "cell", "([II)I"⟩
def w_L_cell : List Cond := .code y_L_cell b_L_cell 2 (some .int) :: ob_T
abbrev b_L_law : ByteArray := code
def y_L_law : MethodName := ⟨"OutputBookLaw", "law", "([I)Z"⟩
def w_L_law : List Cond := .code y_L_law b_L_law 4 (some .boolean) :: ob_T
end
section
theorem d_B_init_0 : decode b_B_init 0 = .ok (.aload_n 0, 1) := by decide +kernel
theorem d_B_init_1 : decode b_B_init 1 = .ok (.invokespecial 1, 3) := by decide +kernel
theorem d_B_init_4 : decode b_B_init 4 = .ok (.aload_n 0, 1) := by decide +kernel
theorem d_B_init_5 : decode b_B_init 5 = .ok (.iload_n 1, 1) := by decide +kernel
theorem d_B_init_6 : decode b_B_init 6 = .ok (.putfield 7, 3) := by decide +kernel
theorem d_B_init_9 : decode b_B_init 9 = .ok (.aload_n 0, 1) := by decide +kernel
theorem d_B_init_10 : decode b_B_init 10 = .ok (.iload_n 1, 1) := by decide +kernel
theorem d_B_init_11 : decode b_B_init 11 = .ok (.iconst 1, 1) := by decide +kernel
theorem d_B_init_12 : decode b_B_init 12 = .ok (.iadd, 1) := by decide +kernel
theorem d_B_init_13 : decode b_B_init 13 = .ok (.newarray .long, 2) := by decide +kernel
theorem d_B_init_15 : decode b_B_init 15 = .ok (.putfield 13, 3) := by decide +kernel
theorem d_B_init_18 : decode b_B_init 18 = .ok (.aload_n 0, 1) := by decide +kernel
theorem d_B_init_19 : decode b_B_init 19 = .ok (.iload_n 1, 1) := by decide +kernel
theorem d_B_init_20 : decode b_B_init 20 = .ok (.iconst 1, 1) := by decide +kernel
theorem d_B_init_21 : decode b_B_init 21 = .ok (.iadd, 1) := by decide +kernel
theorem d_B_init_22 : decode b_B_init 22 = .ok (.newarray .long, 2) := by decide +kernel
theorem d_B_init_24 : decode b_B_init 24 = .ok (.putfield 17, 3) := by decide +kernel
theorem d_B_init_27 : decode b_B_init 27 = .ok (.aload_n 0, 1) := by decide +kernel
theorem d_B_init_28 : decode b_B_init 28 = .ok (.iload_n 1, 1) := by decide +kernel
theorem d_B_init_29 : decode b_B_init 29 = .ok (.iconst 1, 1) := by decide +kernel
theorem d_B_init_30 : decode b_B_init 30 = .ok (.iadd, 1) := by decide +kernel
theorem d_B_init_31 : decode b_B_init 31 = .ok (.newarray .int, 2) := by decide +kernel
theorem d_B_init_33 : decode b_B_init 33 = .ok (.putfield 20, 3) := by decide +kernel
theorem d_B_init_36 : decode b_B_init 36 = .ok (.return_, 1) := by decide +kernel
theorem d_B_openNext_0 : decode b_B_openNext 0 = .ok (.aload_n 0, 1) := by decide +kernel
theorem d_B_openNext_1 : decode b_B_openNext 1 = .ok (.aload_n 0, 1) := by decide +kernel
theorem d_B_openNext_2 : decode b_B_openNext 2 = .ok (.getfield 24, 3) := by decide +kernel
theorem d_B_openNext_5 : decode b_B_openNext 5 = .ok (.aload_n 0, 1) := by decide +kernel
theorem d_B_openNext_6 : decode b_B_openNext 6 = .ok (.getfield 7, 3) := by decide +kernel
theorem d_B_openNext_9 : decode b_B_openNext 9 = .ok (.if_icmp .ge 12, 3) := by decide +kernel
theorem d_B_openNext_12 : decode b_B_openNext 12 = .ok (.aload_n 0, 1) := by decide +kernel
theorem d_B_openNext_13 : decode b_B_openNext 13 = .ok (.getfield 24, 3) := by decide +kernel
theorem d_B_openNext_16 : decode b_B_openNext 16 = .ok (.iconst 1, 1) := by decide +kernel
theorem d_B_openNext_17 : decode b_B_openNext 17 = .ok (.iadd, 1) := by decide +kernel
theorem d_B_openNext_18 : decode b_B_openNext 18 = .ok (.goto 4, 3) := by decide +kernel
theorem d_B_openNext_21 : decode b_B_openNext 21 = .ok (.iconst 0, 1) := by decide +kernel
theorem d_B_openNext_22 : decode b_B_openNext 22 = .ok (.putfield 24, 3) := by decide +kernel
theorem d_B_openNext_25 : decode b_B_openNext 25 = .ok (.aload_n 0, 1) := by decide +kernel
theorem d_B_openNext_26 : decode b_B_openNext 26 = .ok (.getfield 13, 3) := by decide +kernel
theorem d_B_openNext_29 : decode b_B_openNext 29 = .ok (.aload_n 0, 1) := by decide +kernel
theorem d_B_openNext_30 : decode b_B_openNext 30 = .ok (.getfield 24, 3) := by decide +kernel
theorem d_B_openNext_33 : decode b_B_openNext 33 = .ok (.lload_n 1, 1) := by decide +kernel
theorem d_B_openNext_34 : decode b_B_openNext 34 = .ok (.lastore, 1) := by decide +kernel
theorem d_B_openNext_35 : decode b_B_openNext 35 = .ok (.aload_n 0, 1) := by decide +kernel
theorem d_B_openNext_36 : decode b_B_openNext 36 = .ok (.getfield 17, 3) := by decide +kernel
theorem d_B_openNext_39 : decode b_B_openNext 39 = .ok (.aload_n 0, 1) := by decide +kernel
theorem d_B_openNext_40 : decode b_B_openNext 40 = .ok (.getfield 24, 3) := by decide +kernel
theorem d_B_openNext_43 : decode b_B_openNext 43 = .ok (.lload_n 3, 1) := by decide +kernel
theorem d_B_openNext_44 : decode b_B_openNext 44 = .ok (.lastore, 1) := by decide +kernel
theorem d_B_openNext_45 : decode b_B_openNext 45 = .ok (.aload_n 0, 1) := by decide +kernel
theorem d_B_openNext_46 : decode b_B_openNext 46 = .ok (.getfield 20, 3) := by decide +kernel
theorem d_B_openNext_49 : decode b_B_openNext 49 = .ok (.aload_n 0, 1) := by decide +kernel
theorem d_B_openNext_50 : decode b_B_openNext 50 = .ok (.getfield 24, 3) := by decide +kernel
theorem d_B_openNext_53 : decode b_B_openNext 53 = .ok (.iload 5, 2) := by decide +kernel
theorem d_B_openNext_55 : decode b_B_openNext 55 = .ok (.iastore, 1) := by decide +kernel
theorem d_B_openNext_56 : decode b_B_openNext 56 = .ok (.aload_n 0, 1) := by decide +kernel
theorem d_B_openNext_57 : decode b_B_openNext 57 = .ok (.dup, 1) := by decide +kernel
theorem d_B_openNext_58 : decode b_B_openNext 58 = .ok (.getfield 27, 3) := by decide +kernel
theorem d_B_openNext_61 : decode b_B_openNext 61 = .ok (.iconst 1, 1) := by decide +kernel
theorem d_B_openNext_62 : decode b_B_openNext 62 = .ok (.iadd, 1) := by decide +kernel
theorem d_B_openNext_63 : decode b_B_openNext 63 = .ok (.putfield 27, 3) := by decide +kernel
theorem d_B_openNext_66 : decode b_B_openNext 66 = .ok (.aload_n 0, 1) := by decide +kernel
theorem d_B_openNext_67 : decode b_B_openNext 67 = .ok (.aload_n 0, 1) := by decide +kernel
theorem d_B_openNext_68 : decode b_B_openNext 68 = .ok (.getfield 7, 3) := by decide +kernel
theorem d_B_openNext_71 : decode b_B_openNext 71 = .ok (.aload_n 0, 1) := by decide +kernel
theorem d_B_openNext_72 : decode b_B_openNext 72 = .ok (.getfield 30, 3) := by decide +kernel
theorem d_B_openNext_75 : decode b_B_openNext 75 = .ok (.iconst 1, 1) := by decide +kernel
theorem d_B_openNext_76 : decode b_B_openNext 76 = .ok (.iadd, 1) := by decide +kernel
theorem d_B_openNext_77 : decode b_B_openNext 77 = .ok (.invokestatic 33, 3) := by decide +kernel
theorem d_B_openNext_80 : decode b_B_openNext 80 = .ok (.putfield 30, 3) := by decide +kernel
theorem d_B_openNext_83 : decode b_B_openNext 83 = .ok (.return_, 1) := by decide +kernel
theorem d_B_goBack_0 : decode b_B_goBack 0 = .ok (.iload_n 1, 1) := by decide +kernel
theorem d_B_goBack_1 : decode b_B_goBack 1 = .ok (.ifCond .lt 11, 3) := by decide +kernel
theorem d_B_goBack_4 : decode b_B_goBack 4 = .ok (.iload_n 1, 1) := by decide +kernel
theorem d_B_goBack_5 : decode b_B_goBack 5 = .ok (.aload_n 0, 1) := by decide +kernel
theorem d_B_goBack_6 : decode b_B_goBack 6 = .ok (.getfield 30, 3) := by decide +kernel
theorem d_B_goBack_9 : decode b_B_goBack 9 = .ok (.if_icmp .le 4, 3) := by decide +kernel
theorem d_B_goBack_12 : decode b_B_goBack 12 = .ok (.return_, 1) := by decide +kernel
theorem d_B_goBack_13 : decode b_B_goBack 13 = .ok (.aload_n 0, 1) := by decide +kernel
theorem d_B_goBack_14 : decode b_B_goBack 14 = .ok (.aload_n 0, 1) := by decide +kernel
theorem d_B_goBack_15 : decode b_B_goBack 15 = .ok (.getfield 24, 3) := by decide +kernel
theorem d_B_goBack_18 : decode b_B_goBack 18 = .ok (.iload_n 1, 1) := by decide +kernel
theorem d_B_goBack_19 : decode b_B_goBack 19 = .ok (.if_icmp .lt 12, 3) := by decide +kernel
theorem d_B_goBack_22 : decode b_B_goBack 22 = .ok (.aload_n 0, 1) := by decide +kernel
theorem d_B_goBack_23 : decode b_B_goBack 23 = .ok (.getfield 24, 3) := by decide +kernel
theorem d_B_goBack_26 : decode b_B_goBack 26 = .ok (.iload_n 1, 1) := by decide +kernel
theorem d_B_goBack_27 : decode b_B_goBack 27 = .ok (.isub, 1) := by decide +kernel
theorem d_B_goBack_28 : decode b_B_goBack 28 = .ok (.goto 16, 3) := by decide +kernel
theorem d_B_goBack_31 : decode b_B_goBack 31 = .ok (.aload_n 0, 1) := by decide +kernel
theorem d_B_goBack_32 : decode b_B_goBack 32 = .ok (.getfield 24, 3) := by decide +kernel
theorem d_B_goBack_35 : decode b_B_goBack 35 = .ok (.iload_n 1, 1) := by decide +kernel
theorem d_B_goBack_36 : decode b_B_goBack 36 = .ok (.isub, 1) := by decide +kernel
theorem d_B_goBack_37 : decode b_B_goBack 37 = .ok (.aload_n 0, 1) := by decide +kernel
theorem d_B_goBack_38 : decode b_B_goBack 38 = .ok (.getfield 7, 3) := by decide +kernel
theorem d_B_goBack_41 : decode b_B_goBack 41 = .ok (.iadd, 1) := by decide +kernel
theorem d_B_goBack_42 : decode b_B_goBack 42 = .ok (.iconst 1, 1) := by decide +kernel
theorem d_B_goBack_43 : decode b_B_goBack 43 = .ok (.iadd, 1) := by decide +kernel
theorem d_B_goBack_44 : decode b_B_goBack 44 = .ok (.putfield 24, 3) := by decide +kernel
theorem d_B_goBack_47 : decode b_B_goBack 47 = .ok (.aload_n 0, 1) := by decide +kernel
theorem d_B_goBack_48 : decode b_B_goBack 48 = .ok (.dup, 1) := by decide +kernel
theorem d_B_goBack_49 : decode b_B_goBack 49 = .ok (.getfield 27, 3) := by decide +kernel
theorem d_B_goBack_52 : decode b_B_goBack 52 = .ok (.iload_n 1, 1) := by decide +kernel
theorem d_B_goBack_53 : decode b_B_goBack 53 = .ok (.isub, 1) := by decide +kernel
theorem d_B_goBack_54 : decode b_B_goBack 54 = .ok (.putfield 27, 3) := by decide +kernel
theorem d_B_goBack_57 : decode b_B_goBack 57 = .ok (.aload_n 0, 1) := by decide +kernel
theorem d_B_goBack_58 : decode b_B_goBack 58 = .ok (.dup, 1) := by decide +kernel
theorem d_B_goBack_59 : decode b_B_goBack 59 = .ok (.getfield 30, 3) := by decide +kernel
theorem d_B_goBack_62 : decode b_B_goBack 62 = .ok (.iload_n 1, 1) := by decide +kernel
theorem d_B_goBack_63 : decode b_B_goBack 63 = .ok (.isub, 1) := by decide +kernel
theorem d_B_goBack_64 : decode b_B_goBack 64 = .ok (.putfield 30, 3) := by decide +kernel
theorem d_B_goBack_67 : decode b_B_goBack 67 = .ok (.return_, 1) := by decide +kernel
theorem d_B_supplyAtOpening_0 : decode b_B_supplyAtOpening 0 = .ok (.aload_n 0, 1) := by decide +kernel
theorem d_B_supplyAtOpening_1 : decode b_B_supplyAtOpening 1 = .ok (.getfield 13, 3) := by decide +kernel
theorem d_B_supplyAtOpening_4 : decode b_B_supplyAtOpening 4 = .ok (.aload_n 0, 1) := by decide +kernel
theorem d_B_supplyAtOpening_5 : decode b_B_supplyAtOpening 5 = .ok (.getfield 24, 3) := by decide +kernel
theorem d_B_supplyAtOpening_8 : decode b_B_supplyAtOpening 8 = .ok (.laload, 1) := by decide +kernel
theorem d_B_supplyAtOpening_9 : decode b_B_supplyAtOpening 9 = .ok (.lreturn, 1) := by decide +kernel
theorem d_B_potAtOpening_0 : decode b_B_potAtOpening 0 = .ok (.aload_n 0, 1) := by decide +kernel
theorem d_B_potAtOpening_1 : decode b_B_potAtOpening 1 = .ok (.getfield 17, 3) := by decide +kernel
theorem d_B_potAtOpening_4 : decode b_B_potAtOpening 4 = .ok (.aload_n 0, 1) := by decide +kernel
theorem d_B_potAtOpening_5 : decode b_B_potAtOpening 5 = .ok (.getfield 24, 3) := by decide +kernel
theorem d_B_potAtOpening_8 : decode b_B_potAtOpening 8 = .ok (.laload, 1) := by decide +kernel
theorem d_B_potAtOpening_9 : decode b_B_potAtOpening 9 = .ok (.lreturn, 1) := by decide +kernel
theorem d_B_appliedAtOpening_0 : decode b_B_appliedAtOpening 0 = .ok (.aload_n 0, 1) := by decide +kernel
theorem d_B_appliedAtOpening_1 : decode b_B_appliedAtOpening 1 = .ok (.getfield 20, 3) := by decide +kernel
theorem d_B_appliedAtOpening_4 : decode b_B_appliedAtOpening 4 = .ok (.aload_n 0, 1) := by decide +kernel
theorem d_B_appliedAtOpening_5 : decode b_B_appliedAtOpening 5 = .ok (.getfield 24, 3) := by decide +kernel
theorem d_B_appliedAtOpening_8 : decode b_B_appliedAtOpening 8 = .ok (.iaload, 1) := by decide +kernel
theorem d_B_appliedAtOpening_9 : decode b_B_appliedAtOpening 9 = .ok (.ireturn, 1) := by decide +kernel
theorem d_D_init_0 : decode b_D_init 0 = .ok (.aload_n 0, 1) := by decide +kernel
theorem d_D_init_1 : decode b_D_init 1 = .ok (.invokespecial 3, 3) := by decide +kernel
theorem d_D_init_4 : decode b_D_init 4 = .ok (.aload_n 0, 1) := by decide +kernel
theorem d_D_init_5 : decode b_D_init 5 = .ok (.bipush 16, 2) := by decide +kernel
theorem d_D_init_7 : decode b_D_init 7 = .ok (.newarray .int, 2) := by decide +kernel
theorem d_D_init_9 : decode b_D_init 9 = .ok (.putfield 9, 3) := by decide +kernel
theorem d_D_init_12 : decode b_D_init 12 = .ok (.aload_n 0, 1) := by decide +kernel
theorem d_D_init_13 : decode b_D_init 13 = .ok (.bipush 16, 2) := by decide +kernel
theorem d_D_init_15 : decode b_D_init 15 = .ok (.newarray .int, 2) := by decide +kernel
theorem d_D_init_17 : decode b_D_init 17 = .ok (.putfield 15, 3) := by decide +kernel
theorem d_D_init_20 : decode b_D_init 20 = .ok (.aload_n 0, 1) := by decide +kernel
theorem d_D_init_21 : decode b_D_init 21 = .ok (.bipush 16, 2) := by decide +kernel
theorem d_D_init_23 : decode b_D_init 23 = .ok (.newarray .long, 2) := by decide +kernel
theorem d_D_init_25 : decode b_D_init 25 = .ok (.putfield 18, 3) := by decide +kernel
theorem d_D_init_28 : decode b_D_init 28 = .ok (.aload_n 0, 1) := by decide +kernel
theorem d_D_init_29 : decode b_D_init 29 = .ok (.bipush 16, 2) := by decide +kernel
theorem d_D_init_31 : decode b_D_init 31 = .ok (.newarray .long, 2) := by decide +kernel
theorem d_D_init_33 : decode b_D_init 33 = .ok (.putfield 22, 3) := by decide +kernel
theorem d_D_init_36 : decode b_D_init 36 = .ok (.return_, 1) := by decide +kernel
theorem d_D_roomToSpend_0 : decode b_D_roomToSpend 0 = .ok (.bipush 16, 2) := by decide +kernel
theorem d_D_roomToSpend_2 : decode b_D_roomToSpend 2 = .ok (.aload_n 0, 1) := by decide +kernel
theorem d_D_roomToSpend_3 : decode b_D_roomToSpend 3 = .ok (.getfield 25, 3) := by decide +kernel
theorem d_D_roomToSpend_6 : decode b_D_roomToSpend 6 = .ok (.isub, 1) := by decide +kernel
theorem d_D_roomToSpend_7 : decode b_D_roomToSpend 7 = .ok (.ireturn, 1) := by decide +kernel
theorem d_D_roomToMake_0 : decode b_D_roomToMake 0 = .ok (.bipush 16, 2) := by decide +kernel
theorem d_D_roomToMake_2 : decode b_D_roomToMake 2 = .ok (.aload_n 0, 1) := by decide +kernel
theorem d_D_roomToMake_3 : decode b_D_roomToMake 3 = .ok (.getfield 29, 3) := by decide +kernel
theorem d_D_roomToMake_6 : decode b_D_roomToMake 6 = .ok (.isub, 1) := by decide +kernel
theorem d_D_roomToMake_7 : decode b_D_roomToMake 7 = .ok (.ireturn, 1) := by decide +kernel
theorem d_D_hasToSpend_0 : decode b_D_hasToSpend 0 = .ok (.iconst 0, 1) := by decide +kernel
theorem d_D_hasToSpend_1 : decode b_D_hasToSpend 1 = .ok (.istore_n 2, 1) := by decide +kernel
theorem d_D_hasToSpend_2 : decode b_D_hasToSpend 2 = .ok (.iload_n 2, 1) := by decide +kernel
theorem d_D_hasToSpend_3 : decode b_D_hasToSpend 3 = .ok (.aload_n 0, 1) := by decide +kernel
theorem d_D_hasToSpend_4 : decode b_D_hasToSpend 4 = .ok (.getfield 25, 3) := by decide +kernel
theorem d_D_hasToSpend_7 : decode b_D_hasToSpend 7 = .ok (.if_icmp .ge 21, 3) := by decide +kernel
theorem d_D_hasToSpend_10 : decode b_D_hasToSpend 10 = .ok (.aload_n 0, 1) := by decide +kernel
theorem d_D_hasToSpend_11 : decode b_D_hasToSpend 11 = .ok (.getfield 9, 3) := by decide +kernel
theorem d_D_hasToSpend_14 : decode b_D_hasToSpend 14 = .ok (.iload_n 2, 1) := by decide +kernel
theorem d_D_hasToSpend_15 : decode b_D_hasToSpend 15 = .ok (.iaload, 1) := by decide +kernel
theorem d_D_hasToSpend_16 : decode b_D_hasToSpend 16 = .ok (.iload_n 1, 1) := by decide +kernel
theorem d_D_hasToSpend_17 : decode b_D_hasToSpend 17 = .ok (.if_icmp .ne 5, 3) := by decide +kernel
theorem d_D_hasToSpend_20 : decode b_D_hasToSpend 20 = .ok (.iconst 1, 1) := by decide +kernel
theorem d_D_hasToSpend_21 : decode b_D_hasToSpend 21 = .ok (.ireturn, 1) := by decide +kernel
theorem d_D_hasToSpend_22 : decode b_D_hasToSpend 22 = .ok (.iinc 2 1, 3) := by decide +kernel
theorem d_D_hasToSpend_25 : decode b_D_hasToSpend 25 = .ok (.goto (-23), 3) := by decide +kernel
theorem d_D_hasToSpend_28 : decode b_D_hasToSpend 28 = .ok (.iconst 0, 1) := by decide +kernel
theorem d_D_hasToSpend_29 : decode b_D_hasToSpend 29 = .ok (.ireturn, 1) := by decide +kernel
theorem d_D_writeToSpend_0 : decode b_D_writeToSpend 0 = .ok (.iload_n 1, 1) := by decide +kernel
theorem d_D_writeToSpend_1 : decode b_D_writeToSpend 1 = .ok (.ifCond .lt 23, 3) := by decide +kernel
theorem d_D_writeToSpend_4 : decode b_D_writeToSpend 4 = .ok (.iload_n 1, 1) := by decide +kernel
theorem d_D_writeToSpend_5 : decode b_D_writeToSpend 5 = .ok (.aload_n 0, 1) := by decide +kernel
theorem d_D_writeToSpend_6 : decode b_D_writeToSpend 6 = .ok (.invokevirtual 32, 3) := by decide +kernel
theorem d_D_writeToSpend_9 : decode b_D_writeToSpend 9 = .ok (.if_icmp .ge 15, 3) := by decide +kernel
theorem d_D_writeToSpend_12 : decode b_D_writeToSpend 12 = .ok (.aload_n 0, 1) := by decide +kernel
theorem d_D_writeToSpend_13 : decode b_D_writeToSpend 13 = .ok (.getfield 9, 3) := by decide +kernel
theorem d_D_writeToSpend_16 : decode b_D_writeToSpend 16 = .ok (.aload_n 0, 1) := by decide +kernel
theorem d_D_writeToSpend_17 : decode b_D_writeToSpend 17 = .ok (.getfield 25, 3) := by decide +kernel
theorem d_D_writeToSpend_20 : decode b_D_writeToSpend 20 = .ok (.iload_n 1, 1) := by decide +kernel
theorem d_D_writeToSpend_21 : decode b_D_writeToSpend 21 = .ok (.iadd, 1) := by decide +kernel
theorem d_D_writeToSpend_22 : decode b_D_writeToSpend 22 = .ok (.iload_n 2, 1) := by decide +kernel
theorem d_D_writeToSpend_23 : decode b_D_writeToSpend 23 = .ok (.iastore, 1) := by decide +kernel
theorem d_D_writeToSpend_24 : decode b_D_writeToSpend 24 = .ok (.return_, 1) := by decide +kernel
theorem d_D_keepToSpend_0 : decode b_D_keepToSpend 0 = .ok (.iload_n 1, 1) := by decide +kernel
theorem d_D_keepToSpend_1 : decode b_D_keepToSpend 1 = .ok (.ifCond .lt 21, 3) := by decide +kernel
theorem d_D_keepToSpend_4 : decode b_D_keepToSpend 4 = .ok (.iload_n 1, 1) := by decide +kernel
theorem d_D_keepToSpend_5 : decode b_D_keepToSpend 5 = .ok (.aload_n 0, 1) := by decide +kernel
theorem d_D_keepToSpend_6 : decode b_D_keepToSpend 6 = .ok (.invokevirtual 32, 3) := by decide +kernel
theorem d_D_keepToSpend_9 : decode b_D_keepToSpend 9 = .ok (.if_icmp .gt 13, 3) := by decide +kernel
theorem d_D_keepToSpend_12 : decode b_D_keepToSpend 12 = .ok (.aload_n 0, 1) := by decide +kernel
theorem d_D_keepToSpend_13 : decode b_D_keepToSpend 13 = .ok (.dup, 1) := by decide +kernel
theorem d_D_keepToSpend_14 : decode b_D_keepToSpend 14 = .ok (.getfield 25, 3) := by decide +kernel
theorem d_D_keepToSpend_17 : decode b_D_keepToSpend 17 = .ok (.iload_n 1, 1) := by decide +kernel
theorem d_D_keepToSpend_18 : decode b_D_keepToSpend 18 = .ok (.iadd, 1) := by decide +kernel
theorem d_D_keepToSpend_19 : decode b_D_keepToSpend 19 = .ok (.putfield 25, 3) := by decide +kernel
theorem d_D_keepToSpend_22 : decode b_D_keepToSpend 22 = .ok (.return_, 1) := by decide +kernel
theorem d_D_addToMake_0 : decode b_D_addToMake 0 = .ok (.aload_n 0, 1) := by decide +kernel
theorem d_D_addToMake_1 : decode b_D_addToMake 1 = .ok (.invokevirtual 36, 3) := by decide +kernel
theorem d_D_addToMake_4 : decode b_D_addToMake 4 = .ok (.iconst 1, 1) := by decide +kernel
theorem d_D_addToMake_5 : decode b_D_addToMake 5 = .ok (.if_icmp .ge 4, 3) := by decide +kernel
theorem d_D_addToMake_8 : decode b_D_addToMake 8 = .ok (.return_, 1) := by decide +kernel
theorem d_D_addToMake_9 : decode b_D_addToMake 9 = .ok (.aload_n 0, 1) := by decide +kernel
theorem d_D_addToMake_10 : decode b_D_addToMake 10 = .ok (.getfield 15, 3) := by decide +kernel
theorem d_D_addToMake_13 : decode b_D_addToMake 13 = .ok (.aload_n 0, 1) := by decide +kernel
theorem d_D_addToMake_14 : decode b_D_addToMake 14 = .ok (.getfield 29, 3) := by decide +kernel
theorem d_D_addToMake_17 : decode b_D_addToMake 17 = .ok (.iload_n 1, 1) := by decide +kernel
theorem d_D_addToMake_18 : decode b_D_addToMake 18 = .ok (.iastore, 1) := by decide +kernel
theorem d_D_addToMake_19 : decode b_D_addToMake 19 = .ok (.aload_n 0, 1) := by decide +kernel
theorem d_D_addToMake_20 : decode b_D_addToMake 20 = .ok (.getfield 18, 3) := by decide +kernel
theorem d_D_addToMake_23 : decode b_D_addToMake 23 = .ok (.aload_n 0, 1) := by decide +kernel
theorem d_D_addToMake_24 : decode b_D_addToMake 24 = .ok (.getfield 29, 3) := by decide +kernel
theorem d_D_addToMake_27 : decode b_D_addToMake 27 = .ok (.lload_n 2, 1) := by decide +kernel
theorem d_D_addToMake_28 : decode b_D_addToMake 28 = .ok (.lastore, 1) := by decide +kernel
theorem d_D_addToMake_29 : decode b_D_addToMake 29 = .ok (.aload_n 0, 1) := by decide +kernel
theorem d_D_addToMake_30 : decode b_D_addToMake 30 = .ok (.getfield 22, 3) := by decide +kernel
theorem d_D_addToMake_33 : decode b_D_addToMake 33 = .ok (.aload_n 0, 1) := by decide +kernel
theorem d_D_addToMake_34 : decode b_D_addToMake 34 = .ok (.getfield 29, 3) := by decide +kernel
theorem d_D_addToMake_37 : decode b_D_addToMake 37 = .ok (.lload 4, 2) := by decide +kernel
theorem d_D_addToMake_39 : decode b_D_addToMake 39 = .ok (.lastore, 1) := by decide +kernel
theorem d_D_addToMake_40 : decode b_D_addToMake 40 = .ok (.aload_n 0, 1) := by decide +kernel
theorem d_D_addToMake_41 : decode b_D_addToMake 41 = .ok (.dup, 1) := by decide +kernel
theorem d_D_addToMake_42 : decode b_D_addToMake 42 = .ok (.getfield 29, 3) := by decide +kernel
theorem d_D_addToMake_45 : decode b_D_addToMake 45 = .ok (.iconst 1, 1) := by decide +kernel
theorem d_D_addToMake_46 : decode b_D_addToMake 46 = .ok (.iadd, 1) := by decide +kernel
theorem d_D_addToMake_47 : decode b_D_addToMake 47 = .ok (.putfield 29, 3) := by decide +kernel
theorem d_D_addToMake_50 : decode b_D_addToMake 50 = .ok (.return_, 1) := by decide +kernel
theorem d_D_clear_0 : decode b_D_clear 0 = .ok (.aload_n 0, 1) := by decide +kernel
theorem d_D_clear_1 : decode b_D_clear 1 = .ok (.iconst 0, 1) := by decide +kernel
theorem d_D_clear_2 : decode b_D_clear 2 = .ok (.putfield 25, 3) := by decide +kernel
theorem d_D_clear_5 : decode b_D_clear 5 = .ok (.aload_n 0, 1) := by decide +kernel
theorem d_D_clear_6 : decode b_D_clear 6 = .ok (.iconst 0, 1) := by decide +kernel
theorem d_D_clear_7 : decode b_D_clear 7 = .ok (.putfield 29, 3) := by decide +kernel
theorem d_D_clear_10 : decode b_D_clear 10 = .ok (.aload_n 0, 1) := by decide +kernel
theorem d_D_clear_11 : decode b_D_clear 11 = .ok (.lconst 0, 1) := by decide +kernel
theorem d_D_clear_12 : decode b_D_clear 12 = .ok (.putfield 39, 3) := by decide +kernel
theorem d_D_clear_15 : decode b_D_clear 15 = .ok (.return_, 1) := by decide +kernel
theorem d_O_init_0 : decode b_O_init 0 = .ok (.aload_n 0, 1) := by decide +kernel
theorem d_O_init_1 : decode b_O_init 1 = .ok (.invokespecial 3, 3) := by decide +kernel
theorem d_O_init_4 : decode b_O_init 4 = .ok (.aload_n 0, 1) := by decide +kernel
theorem d_O_init_5 : decode b_O_init 5 = .ok (.sipush 2048, 3) := by decide +kernel
theorem d_O_init_8 : decode b_O_init 8 = .ok (.newarray .int, 2) := by decide +kernel
theorem d_O_init_10 : decode b_O_init 10 = .ok (.putfield 9, 3) := by decide +kernel
theorem d_O_init_13 : decode b_O_init 13 = .ok (.aload_n 0, 1) := by decide +kernel
theorem d_O_init_14 : decode b_O_init 14 = .ok (.sipush 2048, 3) := by decide +kernel
theorem d_O_init_17 : decode b_O_init 17 = .ok (.newarray .long, 2) := by decide +kernel
theorem d_O_init_19 : decode b_O_init 19 = .ok (.putfield 15, 3) := by decide +kernel
theorem d_O_init_22 : decode b_O_init 22 = .ok (.aload_n 0, 1) := by decide +kernel
theorem d_O_init_23 : decode b_O_init 23 = .ok (.sipush 2048, 3) := by decide +kernel
theorem d_O_init_26 : decode b_O_init 26 = .ok (.newarray .long, 2) := by decide +kernel
theorem d_O_init_28 : decode b_O_init 28 = .ok (.putfield 19, 3) := by decide +kernel
theorem d_O_init_31 : decode b_O_init 31 = .ok (.aload_n 0, 1) := by decide +kernel
theorem d_O_init_32 : decode b_O_init 32 = .ok (.sipush 2048, 3) := by decide +kernel
theorem d_O_init_35 : decode b_O_init 35 = .ok (.newarray .int, 2) := by decide +kernel
theorem d_O_init_37 : decode b_O_init 37 = .ok (.putfield 22, 3) := by decide +kernel
theorem d_O_init_40 : decode b_O_init 40 = .ok (.aload_n 0, 1) := by decide +kernel
theorem d_O_init_41 : decode b_O_init 41 = .ok (.sipush 2048, 3) := by decide +kernel
theorem d_O_init_44 : decode b_O_init 44 = .ok (.newarray .int, 2) := by decide +kernel
theorem d_O_init_46 : decode b_O_init 46 = .ok (.putfield 25, 3) := by decide +kernel
theorem d_O_init_49 : decode b_O_init 49 = .ok (.return_, 1) := by decide +kernel
theorem d_O_room_0 : decode b_O_room 0 = .ok (.sipush 2048, 3) := by decide +kernel
theorem d_O_room_3 : decode b_O_room 3 = .ok (.aload_n 0, 1) := by decide +kernel
theorem d_O_room_4 : decode b_O_room 4 = .ok (.getfield 28, 3) := by decide +kernel
theorem d_O_room_7 : decode b_O_room 7 = .ok (.isub, 1) := by decide +kernel
theorem d_O_room_8 : decode b_O_room 8 = .ok (.ireturn, 1) := by decide +kernel
theorem d_O_has_0 : decode b_O_has 0 = .ok (.iload_n 1, 1) := by decide +kernel
theorem d_O_has_1 : decode b_O_has 1 = .ok (.ifCond .lt 15, 3) := by decide +kernel
theorem d_O_has_4 : decode b_O_has 4 = .ok (.iload_n 1, 1) := by decide +kernel
theorem d_O_has_5 : decode b_O_has 5 = .ok (.aload_n 0, 1) := by decide +kernel
theorem d_O_has_6 : decode b_O_has 6 = .ok (.getfield 28, 3) := by decide +kernel
theorem d_O_has_9 : decode b_O_has 9 = .ok (.if_icmp .ge 7, 3) := by decide +kernel
theorem d_O_has_12 : decode b_O_has 12 = .ok (.iconst 1, 1) := by decide +kernel
theorem d_O_has_13 : decode b_O_has 13 = .ok (.goto 4, 3) := by decide +kernel
theorem d_O_has_16 : decode b_O_has 16 = .ok (.iconst 0, 1) := by decide +kernel
theorem d_O_has_17 : decode b_O_has 17 = .ok (.ireturn, 1) := by decide +kernel
theorem d_O_isLive_0 : decode b_O_isLive 0 = .ok (.aload_n 0, 1) := by decide +kernel
theorem d_O_isLive_1 : decode b_O_isLive 1 = .ok (.iload_n 1, 1) := by decide +kernel
theorem d_O_isLive_2 : decode b_O_isLive 2 = .ok (.invokevirtual 32, 3) := by decide +kernel
theorem d_O_isLive_5 : decode b_O_isLive 5 = .ok (.ifCond .eq 17, 3) := by decide +kernel
theorem d_O_isLive_8 : decode b_O_isLive 8 = .ok (.aload_n 0, 1) := by decide +kernel
theorem d_O_isLive_9 : decode b_O_isLive 9 = .ok (.getfield 25, 3) := by decide +kernel
theorem d_O_isLive_12 : decode b_O_isLive 12 = .ok (.iload_n 1, 1) := by decide +kernel
theorem d_O_isLive_13 : decode b_O_isLive 13 = .ok (.iaload, 1) := by decide +kernel
theorem d_O_isLive_14 : decode b_O_isLive 14 = .ok (.iconst (-1), 1) := by decide +kernel
theorem d_O_isLive_15 : decode b_O_isLive 15 = .ok (.if_icmp .ne 7, 3) := by decide +kernel
theorem d_O_isLive_18 : decode b_O_isLive 18 = .ok (.iconst 1, 1) := by decide +kernel
theorem d_O_isLive_19 : decode b_O_isLive 19 = .ok (.goto 4, 3) := by decide +kernel
theorem d_O_isLive_22 : decode b_O_isLive 22 = .ok (.iconst 0, 1) := by decide +kernel
theorem d_O_isLive_23 : decode b_O_isLive 23 = .ok (.ireturn, 1) := by decide +kernel
theorem d_O_isLiveOf_0 : decode b_O_isLiveOf 0 = .ok (.aload_n 0, 1) := by decide +kernel
theorem d_O_isLiveOf_1 : decode b_O_isLiveOf 1 = .ok (.iload_n 2, 1) := by decide +kernel
theorem d_O_isLiveOf_2 : decode b_O_isLiveOf 2 = .ok (.invokevirtual 36, 3) := by decide +kernel
theorem d_O_isLiveOf_5 : decode b_O_isLiveOf 5 = .ok (.ifCond .eq 17, 3) := by decide +kernel
theorem d_O_isLiveOf_8 : decode b_O_isLiveOf 8 = .ok (.aload_n 0, 1) := by decide +kernel
theorem d_O_isLiveOf_9 : decode b_O_isLiveOf 9 = .ok (.getfield 9, 3) := by decide +kernel
theorem d_O_isLiveOf_12 : decode b_O_isLiveOf 12 = .ok (.iload_n 2, 1) := by decide +kernel
theorem d_O_isLiveOf_13 : decode b_O_isLiveOf 13 = .ok (.iaload, 1) := by decide +kernel
theorem d_O_isLiveOf_14 : decode b_O_isLiveOf 14 = .ok (.iload_n 1, 1) := by decide +kernel
theorem d_O_isLiveOf_15 : decode b_O_isLiveOf 15 = .ok (.if_icmp .ne 7, 3) := by decide +kernel
theorem d_O_isLiveOf_18 : decode b_O_isLiveOf 18 = .ok (.iconst 1, 1) := by decide +kernel
theorem d_O_isLiveOf_19 : decode b_O_isLiveOf 19 = .ok (.goto 4, 3) := by decide +kernel
theorem d_O_isLiveOf_22 : decode b_O_isLiveOf 22 = .ok (.iconst 0, 1) := by decide +kernel
theorem d_O_isLiveOf_23 : decode b_O_isLiveOf 23 = .ok (.ireturn, 1) := by decide +kernel
theorem d_O_amountOf_0 : decode b_O_amountOf 0 = .ok (.aload_n 0, 1) := by decide +kernel
theorem d_O_amountOf_1 : decode b_O_amountOf 1 = .ok (.iload_n 1, 1) := by decide +kernel
theorem d_O_amountOf_2 : decode b_O_amountOf 2 = .ok (.invokevirtual 32, 3) := by decide +kernel
theorem d_O_amountOf_5 : decode b_O_amountOf 5 = .ok (.ifCond .eq 12, 3) := by decide +kernel
theorem d_O_amountOf_8 : decode b_O_amountOf 8 = .ok (.aload_n 0, 1) := by decide +kernel
theorem d_O_amountOf_9 : decode b_O_amountOf 9 = .ok (.getfield 15, 3) := by decide +kernel
theorem d_O_amountOf_12 : decode b_O_amountOf 12 = .ok (.iload_n 1, 1) := by decide +kernel
theorem d_O_amountOf_13 : decode b_O_amountOf 13 = .ok (.laload, 1) := by decide +kernel
theorem d_O_amountOf_14 : decode b_O_amountOf 14 = .ok (.goto 4, 3) := by decide +kernel
theorem d_O_amountOf_17 : decode b_O_amountOf 17 = .ok (.lconst 0, 1) := by decide +kernel
theorem d_O_amountOf_18 : decode b_O_amountOf 18 = .ok (.lreturn, 1) := by decide +kernel
theorem d_O_liveOnes_0 : decode b_O_liveOnes 0 = .ok (.iconst 0, 1) := by decide +kernel
theorem d_O_liveOnes_1 : decode b_O_liveOnes 1 = .ok (.istore_n 1, 1) := by decide +kernel
theorem d_O_liveOnes_2 : decode b_O_liveOnes 2 = .ok (.iconst 0, 1) := by decide +kernel
theorem d_O_liveOnes_3 : decode b_O_liveOnes 3 = .ok (.istore_n 2, 1) := by decide +kernel
theorem d_O_liveOnes_4 : decode b_O_liveOnes 4 = .ok (.iload_n 2, 1) := by decide +kernel
theorem d_O_liveOnes_5 : decode b_O_liveOnes 5 = .ok (.aload_n 0, 1) := by decide +kernel
theorem d_O_liveOnes_6 : decode b_O_liveOnes 6 = .ok (.getfield 28, 3) := by decide +kernel
theorem d_O_liveOnes_9 : decode b_O_liveOnes 9 = .ok (.if_icmp .ge 20, 3) := by decide +kernel
theorem d_O_liveOnes_12 : decode b_O_liveOnes 12 = .ok (.aload_n 0, 1) := by decide +kernel
theorem d_O_liveOnes_13 : decode b_O_liveOnes 13 = .ok (.iload_n 2, 1) := by decide +kernel
theorem d_O_liveOnes_14 : decode b_O_liveOnes 14 = .ok (.invokevirtual 36, 3) := by decide +kernel
theorem d_O_liveOnes_17 : decode b_O_liveOnes 17 = .ok (.ifCond .eq 6, 3) := by decide +kernel
theorem d_O_liveOnes_20 : decode b_O_liveOnes 20 = .ok (.iinc 1 1, 3) := by decide +kernel
theorem d_O_liveOnes_23 : decode b_O_liveOnes 23 = .ok (.iinc 2 1, 3) := by decide +kernel
theorem d_O_liveOnes_26 : decode b_O_liveOnes 26 = .ok (.goto (-22), 3) := by decide +kernel
theorem d_O_liveOnes_29 : decode b_O_liveOnes 29 = .ok (.iload_n 1, 1) := by decide +kernel
theorem d_O_liveOnes_30 : decode b_O_liveOnes 30 = .ok (.ireturn, 1) := by decide +kernel
theorem d_O_add_0 : decode b_O_add 0 = .ok (.aload_n 0, 1) := by decide +kernel
theorem d_O_add_1 : decode b_O_add 1 = .ok (.invokevirtual 39, 3) := by decide +kernel
theorem d_O_add_4 : decode b_O_add 4 = .ok (.iconst 1, 1) := by decide +kernel
theorem d_O_add_5 : decode b_O_add 5 = .ok (.if_icmp .ge 4, 3) := by decide +kernel
theorem d_O_add_8 : decode b_O_add 8 = .ok (.return_, 1) := by decide +kernel
theorem d_O_add_9 : decode b_O_add 9 = .ok (.aload_n 0, 1) := by decide +kernel
theorem d_O_add_10 : decode b_O_add 10 = .ok (.getfield 9, 3) := by decide +kernel
theorem d_O_add_13 : decode b_O_add 13 = .ok (.aload_n 0, 1) := by decide +kernel
theorem d_O_add_14 : decode b_O_add 14 = .ok (.getfield 28, 3) := by decide +kernel
theorem d_O_add_17 : decode b_O_add 17 = .ok (.iload_n 1, 1) := by decide +kernel
theorem d_O_add_18 : decode b_O_add 18 = .ok (.iastore, 1) := by decide +kernel
theorem d_O_add_19 : decode b_O_add 19 = .ok (.aload_n 0, 1) := by decide +kernel
theorem d_O_add_20 : decode b_O_add 20 = .ok (.getfield 15, 3) := by decide +kernel
theorem d_O_add_23 : decode b_O_add 23 = .ok (.aload_n 0, 1) := by decide +kernel
theorem d_O_add_24 : decode b_O_add 24 = .ok (.getfield 28, 3) := by decide +kernel
theorem d_O_add_27 : decode b_O_add 27 = .ok (.lload_n 2, 1) := by decide +kernel
theorem d_O_add_28 : decode b_O_add 28 = .ok (.lastore, 1) := by decide +kernel
theorem d_O_add_29 : decode b_O_add 29 = .ok (.aload_n 0, 1) := by decide +kernel
theorem d_O_add_30 : decode b_O_add 30 = .ok (.getfield 19, 3) := by decide +kernel
theorem d_O_add_33 : decode b_O_add 33 = .ok (.aload_n 0, 1) := by decide +kernel
theorem d_O_add_34 : decode b_O_add 34 = .ok (.getfield 28, 3) := by decide +kernel
theorem d_O_add_37 : decode b_O_add 37 = .ok (.lload 4, 2) := by decide +kernel
theorem d_O_add_39 : decode b_O_add 39 = .ok (.lastore, 1) := by decide +kernel
theorem d_O_add_40 : decode b_O_add 40 = .ok (.aload_n 0, 1) := by decide +kernel
theorem d_O_add_41 : decode b_O_add 41 = .ok (.getfield 22, 3) := by decide +kernel
theorem d_O_add_44 : decode b_O_add 44 = .ok (.aload_n 0, 1) := by decide +kernel
theorem d_O_add_45 : decode b_O_add 45 = .ok (.getfield 28, 3) := by decide +kernel
theorem d_O_add_48 : decode b_O_add 48 = .ok (.iload 6, 2) := by decide +kernel
theorem d_O_add_50 : decode b_O_add 50 = .ok (.iastore, 1) := by decide +kernel
theorem d_O_add_51 : decode b_O_add 51 = .ok (.aload_n 0, 1) := by decide +kernel
theorem d_O_add_52 : decode b_O_add 52 = .ok (.getfield 25, 3) := by decide +kernel
theorem d_O_add_55 : decode b_O_add 55 = .ok (.aload_n 0, 1) := by decide +kernel
theorem d_O_add_56 : decode b_O_add 56 = .ok (.getfield 28, 3) := by decide +kernel
theorem d_O_add_59 : decode b_O_add 59 = .ok (.iconst (-1), 1) := by decide +kernel
theorem d_O_add_60 : decode b_O_add 60 = .ok (.iastore, 1) := by decide +kernel
theorem d_O_add_61 : decode b_O_add 61 = .ok (.aload_n 0, 1) := by decide +kernel
theorem d_O_add_62 : decode b_O_add 62 = .ok (.dup, 1) := by decide +kernel
theorem d_O_add_63 : decode b_O_add 63 = .ok (.getfield 28, 3) := by decide +kernel
theorem d_O_add_66 : decode b_O_add 66 = .ok (.iconst 1, 1) := by decide +kernel
theorem d_O_add_67 : decode b_O_add 67 = .ok (.iadd, 1) := by decide +kernel
theorem d_O_add_68 : decode b_O_add 68 = .ok (.putfield 28, 3) := by decide +kernel
theorem d_O_add_71 : decode b_O_add 71 = .ok (.return_, 1) := by decide +kernel
theorem d_O_takeOff_0 : decode b_O_takeOff 0 = .ok (.aload_n 0, 1) := by decide +kernel
theorem d_O_takeOff_1 : decode b_O_takeOff 1 = .ok (.iload_n 1, 1) := by decide +kernel
theorem d_O_takeOff_2 : decode b_O_takeOff 2 = .ok (.invokevirtual 36, 3) := by decide +kernel
theorem d_O_takeOff_5 : decode b_O_takeOff 5 = .ok (.ifCond .eq 10, 3) := by decide +kernel
theorem d_O_takeOff_8 : decode b_O_takeOff 8 = .ok (.aload_n 0, 1) := by decide +kernel
theorem d_O_takeOff_9 : decode b_O_takeOff 9 = .ok (.getfield 25, 3) := by decide +kernel
theorem d_O_takeOff_12 : decode b_O_takeOff 12 = .ok (.iload_n 1, 1) := by decide +kernel
theorem d_O_takeOff_13 : decode b_O_takeOff 13 = .ok (.iload_n 2, 1) := by decide +kernel
theorem d_O_takeOff_14 : decode b_O_takeOff 14 = .ok (.iastore, 1) := by decide +kernel
theorem d_O_takeOff_15 : decode b_O_takeOff 15 = .ok (.return_, 1) := by decide +kernel
theorem d_O_takeBackFrom_0 : decode b_O_takeBackFrom 0 = .ok (.aload_n 0, 1) := by decide +kernel
theorem d_O_takeBackFrom_1 : decode b_O_takeBackFrom 1 = .ok (.getfield 28, 3) := by decide +kernel
theorem d_O_takeBackFrom_4 : decode b_O_takeBackFrom 4 = .ok (.ifCond .le 31, 3) := by decide +kernel
theorem d_O_takeBackFrom_7 : decode b_O_takeBackFrom 7 = .ok (.aload_n 0, 1) := by decide +kernel
theorem d_O_takeBackFrom_8 : decode b_O_takeBackFrom 8 = .ok (.getfield 22, 3) := by decide +kernel
theorem d_O_takeBackFrom_11 : decode b_O_takeBackFrom 11 = .ok (.aload_n 0, 1) := by decide +kernel
theorem d_O_takeBackFrom_12 : decode b_O_takeBackFrom 12 = .ok (.getfield 28, 3) := by decide +kernel
theorem d_O_takeBackFrom_15 : decode b_O_takeBackFrom 15 = .ok (.iconst 1, 1) := by decide +kernel
theorem d_O_takeBackFrom_16 : decode b_O_takeBackFrom 16 = .ok (.isub, 1) := by decide +kernel
theorem d_O_takeBackFrom_17 : decode b_O_takeBackFrom 17 = .ok (.iaload, 1) := by decide +kernel
theorem d_O_takeBackFrom_18 : decode b_O_takeBackFrom 18 = .ok (.iload_n 1, 1) := by decide +kernel
theorem d_O_takeBackFrom_19 : decode b_O_takeBackFrom 19 = .ok (.if_icmp .lt 16, 3) := by decide +kernel
theorem d_O_takeBackFrom_22 : decode b_O_takeBackFrom 22 = .ok (.aload_n 0, 1) := by decide +kernel
theorem d_O_takeBackFrom_23 : decode b_O_takeBackFrom 23 = .ok (.dup, 1) := by decide +kernel
theorem d_O_takeBackFrom_24 : decode b_O_takeBackFrom 24 = .ok (.getfield 28, 3) := by decide +kernel
theorem d_O_takeBackFrom_27 : decode b_O_takeBackFrom 27 = .ok (.iconst 1, 1) := by decide +kernel
theorem d_O_takeBackFrom_28 : decode b_O_takeBackFrom 28 = .ok (.isub, 1) := by decide +kernel
theorem d_O_takeBackFrom_29 : decode b_O_takeBackFrom 29 = .ok (.putfield 28, 3) := by decide +kernel
theorem d_O_takeBackFrom_32 : decode b_O_takeBackFrom 32 = .ok (.goto (-32), 3) := by decide +kernel
theorem d_O_takeBackFrom_35 : decode b_O_takeBackFrom 35 = .ok (.iconst 0, 1) := by decide +kernel
theorem d_O_takeBackFrom_36 : decode b_O_takeBackFrom 36 = .ok (.istore_n 2, 1) := by decide +kernel
theorem d_O_takeBackFrom_37 : decode b_O_takeBackFrom 37 = .ok (.iload_n 2, 1) := by decide +kernel
theorem d_O_takeBackFrom_38 : decode b_O_takeBackFrom 38 = .ok (.aload_n 0, 1) := by decide +kernel
theorem d_O_takeBackFrom_39 : decode b_O_takeBackFrom 39 = .ok (.getfield 28, 3) := by decide +kernel
theorem d_O_takeBackFrom_42 : decode b_O_takeBackFrom 42 = .ok (.if_icmp .ge 26, 3) := by decide +kernel
theorem d_O_takeBackFrom_45 : decode b_O_takeBackFrom 45 = .ok (.aload_n 0, 1) := by decide +kernel
theorem d_O_takeBackFrom_46 : decode b_O_takeBackFrom 46 = .ok (.getfield 25, 3) := by decide +kernel
theorem d_O_takeBackFrom_49 : decode b_O_takeBackFrom 49 = .ok (.iload_n 2, 1) := by decide +kernel
theorem d_O_takeBackFrom_50 : decode b_O_takeBackFrom 50 = .ok (.iaload, 1) := by decide +kernel
theorem d_O_takeBackFrom_51 : decode b_O_takeBackFrom 51 = .ok (.iload_n 1, 1) := by decide +kernel
theorem d_O_takeBackFrom_52 : decode b_O_takeBackFrom 52 = .ok (.if_icmp .lt 10, 3) := by decide +kernel
theorem d_O_takeBackFrom_55 : decode b_O_takeBackFrom 55 = .ok (.aload_n 0, 1) := by decide +kernel
theorem d_O_takeBackFrom_56 : decode b_O_takeBackFrom 56 = .ok (.getfield 25, 3) := by decide +kernel
theorem d_O_takeBackFrom_59 : decode b_O_takeBackFrom 59 = .ok (.iload_n 2, 1) := by decide +kernel
theorem d_O_takeBackFrom_60 : decode b_O_takeBackFrom 60 = .ok (.iconst (-1), 1) := by decide +kernel
theorem d_O_takeBackFrom_61 : decode b_O_takeBackFrom 61 = .ok (.iastore, 1) := by decide +kernel
theorem d_O_takeBackFrom_62 : decode b_O_takeBackFrom 62 = .ok (.iinc 2 1, 3) := by decide +kernel
theorem d_O_takeBackFrom_65 : decode b_O_takeBackFrom 65 = .ok (.goto (-28), 3) := by decide +kernel
theorem d_O_takeBackFrom_68 : decode b_O_takeBackFrom 68 = .ok (.return_, 1) := by decide +kernel
theorem d_O_nextByAmount_0 : decode b_O_nextByAmount 0 = .ok (.iconst (-1), 1) := by decide +kernel
theorem d_O_nextByAmount_1 : decode b_O_nextByAmount 1 = .ok (.istore_n 3, 1) := by decide +kernel
theorem d_O_nextByAmount_2 : decode b_O_nextByAmount 2 = .ok (.iconst 0, 1) := by decide +kernel
theorem d_O_nextByAmount_3 : decode b_O_nextByAmount 3 = .ok (.istore 4, 2) := by decide +kernel
theorem d_O_nextByAmount_5 : decode b_O_nextByAmount 5 = .ok (.iload 4, 2) := by decide +kernel
theorem d_O_nextByAmount_7 : decode b_O_nextByAmount 7 = .ok (.aload_n 0, 1) := by decide +kernel
theorem d_O_nextByAmount_8 : decode b_O_nextByAmount 8 = .ok (.getfield 28, 3) := by decide +kernel
theorem d_O_nextByAmount_11 : decode b_O_nextByAmount 11 = .ok (.if_icmp .ge 58, 3) := by decide +kernel
theorem d_O_nextByAmount_14 : decode b_O_nextByAmount 14 = .ok (.aload_n 0, 1) := by decide +kernel
theorem d_O_nextByAmount_15 : decode b_O_nextByAmount 15 = .ok (.iload_n 1, 1) := by decide +kernel
theorem d_O_nextByAmount_16 : decode b_O_nextByAmount 16 = .ok (.iload 4, 2) := by decide +kernel
theorem d_O_nextByAmount_18 : decode b_O_nextByAmount 18 = .ok (.invokevirtual 43, 3) := by decide +kernel
theorem d_O_nextByAmount_21 : decode b_O_nextByAmount 21 = .ok (.ifCond .eq 42, 3) := by decide +kernel
theorem d_O_nextByAmount_24 : decode b_O_nextByAmount 24 = .ok (.aload_n 0, 1) := by decide +kernel
theorem d_O_nextByAmount_25 : decode b_O_nextByAmount 25 = .ok (.iload_n 2, 1) := by decide +kernel
theorem d_O_nextByAmount_26 : decode b_O_nextByAmount 26 = .ok (.invokevirtual 32, 3) := by decide +kernel
theorem d_O_nextByAmount_29 : decode b_O_nextByAmount 29 = .ok (.ifCond .eq 13, 3) := by decide +kernel
theorem d_O_nextByAmount_32 : decode b_O_nextByAmount 32 = .ok (.aload_n 0, 1) := by decide +kernel
theorem d_O_nextByAmount_33 : decode b_O_nextByAmount 33 = .ok (.iload_n 2, 1) := by decide +kernel
theorem d_O_nextByAmount_34 : decode b_O_nextByAmount 34 = .ok (.iload 4, 2) := by decide +kernel
theorem d_O_nextByAmount_36 : decode b_O_nextByAmount 36 = .ok (.invokevirtual 47, 3) := by decide +kernel
theorem d_O_nextByAmount_39 : decode b_O_nextByAmount 39 = .ok (.ifCond .eq 24, 3) := by decide +kernel
theorem d_O_nextByAmount_42 : decode b_O_nextByAmount 42 = .ok (.aload_n 0, 1) := by decide +kernel
theorem d_O_nextByAmount_43 : decode b_O_nextByAmount 43 = .ok (.iload_n 3, 1) := by decide +kernel
theorem d_O_nextByAmount_44 : decode b_O_nextByAmount 44 = .ok (.invokevirtual 32, 3) := by decide +kernel
theorem d_O_nextByAmount_47 : decode b_O_nextByAmount 47 = .ok (.ifCond .eq 13, 3) := by decide +kernel
theorem d_O_nextByAmount_50 : decode b_O_nextByAmount 50 = .ok (.aload_n 0, 1) := by decide +kernel
theorem d_O_nextByAmount_51 : decode b_O_nextByAmount 51 = .ok (.iload 4, 2) := by decide +kernel
theorem d_O_nextByAmount_53 : decode b_O_nextByAmount 53 = .ok (.iload_n 3, 1) := by decide +kernel
theorem d_O_nextByAmount_54 : decode b_O_nextByAmount 54 = .ok (.invokevirtual 47, 3) := by decide +kernel
theorem d_O_nextByAmount_57 : decode b_O_nextByAmount 57 = .ok (.ifCond .eq 6, 3) := by decide +kernel
theorem d_O_nextByAmount_60 : decode b_O_nextByAmount 60 = .ok (.iload 4, 2) := by decide +kernel
theorem d_O_nextByAmount_62 : decode b_O_nextByAmount 62 = .ok (.istore_n 3, 1) := by decide +kernel
theorem d_O_nextByAmount_63 : decode b_O_nextByAmount 63 = .ok (.iinc 4 1, 3) := by decide +kernel
theorem d_O_nextByAmount_66 : decode b_O_nextByAmount 66 = .ok (.goto (-61), 3) := by decide +kernel
theorem d_O_nextByAmount_69 : decode b_O_nextByAmount 69 = .ok (.iload_n 3, 1) := by decide +kernel
theorem d_O_nextByAmount_70 : decode b_O_nextByAmount 70 = .ok (.ireturn, 1) := by decide +kernel
theorem d_O_standsAhead_0 : decode b_O_standsAhead 0 = .ok (.aload_n 0, 1) := by decide +kernel
theorem d_O_standsAhead_1 : decode b_O_standsAhead 1 = .ok (.getfield 15, 3) := by decide +kernel
theorem d_O_standsAhead_4 : decode b_O_standsAhead 4 = .ok (.iload_n 1, 1) := by decide +kernel
theorem d_O_standsAhead_5 : decode b_O_standsAhead 5 = .ok (.laload, 1) := by decide +kernel
theorem d_O_standsAhead_6 : decode b_O_standsAhead 6 = .ok (.aload_n 0, 1) := by decide +kernel
theorem d_O_standsAhead_7 : decode b_O_standsAhead 7 = .ok (.getfield 15, 3) := by decide +kernel
theorem d_O_standsAhead_10 : decode b_O_standsAhead 10 = .ok (.iload_n 2, 1) := by decide +kernel
theorem d_O_standsAhead_11 : decode b_O_standsAhead 11 = .ok (.laload, 1) := by decide +kernel
theorem d_O_standsAhead_12 : decode b_O_standsAhead 12 = .ok (.lcmp, 1) := by decide +kernel
theorem d_O_standsAhead_13 : decode b_O_standsAhead 13 = .ok (.ifCond .gt 24, 3) := by decide +kernel
theorem d_O_standsAhead_16 : decode b_O_standsAhead 16 = .ok (.aload_n 0, 1) := by decide +kernel
theorem d_O_standsAhead_17 : decode b_O_standsAhead 17 = .ok (.getfield 15, 3) := by decide +kernel
theorem d_O_standsAhead_20 : decode b_O_standsAhead 20 = .ok (.iload_n 1, 1) := by decide +kernel
theorem d_O_standsAhead_21 : decode b_O_standsAhead 21 = .ok (.laload, 1) := by decide +kernel
theorem d_O_standsAhead_22 : decode b_O_standsAhead 22 = .ok (.aload_n 0, 1) := by decide +kernel
theorem d_O_standsAhead_23 : decode b_O_standsAhead 23 = .ok (.getfield 15, 3) := by decide +kernel
theorem d_O_standsAhead_26 : decode b_O_standsAhead 26 = .ok (.iload_n 2, 1) := by decide +kernel
theorem d_O_standsAhead_27 : decode b_O_standsAhead 27 = .ok (.laload, 1) := by decide +kernel
theorem d_O_standsAhead_28 : decode b_O_standsAhead 28 = .ok (.lcmp, 1) := by decide +kernel
theorem d_O_standsAhead_29 : decode b_O_standsAhead 29 = .ok (.ifCond .ne 12, 3) := by decide +kernel
theorem d_O_standsAhead_32 : decode b_O_standsAhead 32 = .ok (.iload_n 1, 1) := by decide +kernel
theorem d_O_standsAhead_33 : decode b_O_standsAhead 33 = .ok (.iload_n 2, 1) := by decide +kernel
theorem d_O_standsAhead_34 : decode b_O_standsAhead 34 = .ok (.if_icmp .ge 7, 3) := by decide +kernel
theorem d_O_standsAhead_37 : decode b_O_standsAhead 37 = .ok (.iconst 1, 1) := by decide +kernel
theorem d_O_standsAhead_38 : decode b_O_standsAhead 38 = .ok (.goto 4, 3) := by decide +kernel
theorem d_O_standsAhead_41 : decode b_O_standsAhead 41 = .ok (.iconst 0, 1) := by decide +kernel
theorem d_O_standsAhead_42 : decode b_O_standsAhead 42 = .ok (.ireturn, 1) := by decide +kernel
end
section
theorem d_K_init_0 : decode b_K_init 0 = .ok (.aload_n 0, 1) := by decide +kernel
theorem d_K_init_1 : decode b_K_init 1 = .ok (.invokespecial 1, 3) := by decide +kernel
theorem d_K_init_4 : decode b_K_init 4 = .ok (.aload_n 0, 1) := by decide +kernel
theorem d_K_init_5 : decode b_K_init 5 = .ok (.new 7, 3) := by decide +kernel
theorem d_K_init_8 : decode b_K_init 8 = .ok (.dup, 1) := by decide +kernel
theorem d_K_init_9 : decode b_K_init 9 = .ok (.invokespecial 9, 3) := by decide +kernel
theorem d_K_init_12 : decode b_K_init 12 = .ok (.putfield 10, 3) := by decide +kernel
theorem d_K_init_15 : decode b_K_init 15 = .ok (.aload_n 0, 1) := by decide +kernel
theorem d_K_init_16 : decode b_K_init 16 = .ok (.new 16, 3) := by decide +kernel
theorem d_K_init_19 : decode b_K_init 19 = .ok (.dup, 1) := by decide +kernel
theorem d_K_init_20 : decode b_K_init 20 = .ok (.invokespecial 18, 3) := by decide +kernel
theorem d_K_init_23 : decode b_K_init 23 = .ok (.putfield 19, 3) := by decide +kernel
theorem d_K_init_26 : decode b_K_init 26 = .ok (.aload_n 0, 1) := by decide +kernel
theorem d_K_init_27 : decode b_K_init 27 = .ok (.new 23, 3) := by decide +kernel
theorem d_K_init_30 : decode b_K_init 30 = .ok (.dup, 1) := by decide +kernel
theorem d_K_init_31 : decode b_K_init 31 = .ok (.iconst 1, 1) := by decide +kernel
theorem d_K_init_32 : decode b_K_init 32 = .ok (.bipush 64, 2) := by decide +kernel
theorem d_K_init_34 : decode b_K_init 34 = .ok (.iload_n 1, 1) := by decide +kernel
theorem d_K_init_35 : decode b_K_init 35 = .ok (.invokestatic 25, 3) := by decide +kernel
theorem d_K_init_38 : decode b_K_init 38 = .ok (.invokestatic 31, 3) := by decide +kernel
theorem d_K_init_41 : decode b_K_init 41 = .ok (.invokespecial 34, 3) := by decide +kernel
theorem d_K_init_44 : decode b_K_init 44 = .ok (.putfield 37, 3) := by decide +kernel
theorem d_K_init_47 : decode b_K_init 47 = .ok (.return_, 1) := by decide +kernel
theorem d_K_spend_0 : decode b_K_spend 0 = .ok (.aload_n 0, 1) := by decide +kernel
theorem d_K_spend_1 : decode b_K_spend 1 = .ok (.getfield 10, 3) := by decide +kernel
theorem d_K_spend_4 : decode b_K_spend 4 = .ok (.iload_n 1, 1) := by decide +kernel
theorem d_K_spend_5 : decode b_K_spend 5 = .ok (.invokevirtual 41, 3) := by decide +kernel
theorem d_K_spend_8 : decode b_K_spend 8 = .ok (.ifCond .eq 25, 3) := by decide +kernel
theorem d_K_spend_11 : decode b_K_spend 11 = .ok (.aload_n 0, 1) := by decide +kernel
theorem d_K_spend_12 : decode b_K_spend 12 = .ok (.getfield 19, 3) := by decide +kernel
theorem d_K_spend_15 : decode b_K_spend 15 = .ok (.iload_n 1, 1) := by decide +kernel
theorem d_K_spend_16 : decode b_K_spend 16 = .ok (.invokevirtual 45, 3) := by decide +kernel
theorem d_K_spend_19 : decode b_K_spend 19 = .ok (.ifCond .ne 14, 3) := by decide +kernel
theorem d_K_spend_22 : decode b_K_spend 22 = .ok (.aload_n 0, 1) := by decide +kernel
theorem d_K_spend_23 : decode b_K_spend 23 = .ok (.getfield 19, 3) := by decide +kernel
theorem d_K_spend_26 : decode b_K_spend 26 = .ok (.invokevirtual 48, 3) := by decide +kernel
theorem d_K_spend_29 : decode b_K_spend 29 = .ok (.iconst 1, 1) := by decide +kernel
theorem d_K_spend_30 : decode b_K_spend 30 = .ok (.if_icmp .ge 5, 3) := by decide +kernel
theorem d_K_spend_33 : decode b_K_spend 33 = .ok (.iconst 0, 1) := by decide +kernel
theorem d_K_spend_34 : decode b_K_spend 34 = .ok (.ireturn, 1) := by decide +kernel
theorem d_K_spend_35 : decode b_K_spend 35 = .ok (.aload_n 0, 1) := by decide +kernel
theorem d_K_spend_36 : decode b_K_spend 36 = .ok (.getfield 19, 3) := by decide +kernel
theorem d_K_spend_39 : decode b_K_spend 39 = .ok (.iconst 0, 1) := by decide +kernel
theorem d_K_spend_40 : decode b_K_spend 40 = .ok (.iload_n 1, 1) := by decide +kernel
theorem d_K_spend_41 : decode b_K_spend 41 = .ok (.invokevirtual 52, 3) := by decide +kernel
theorem d_K_spend_44 : decode b_K_spend 44 = .ok (.aload_n 0, 1) := by decide +kernel
theorem d_K_spend_45 : decode b_K_spend 45 = .ok (.getfield 19, 3) := by decide +kernel
theorem d_K_spend_48 : decode b_K_spend 48 = .ok (.iconst 1, 1) := by decide +kernel
theorem d_K_spend_49 : decode b_K_spend 49 = .ok (.invokevirtual 56, 3) := by decide +kernel
theorem d_K_spend_52 : decode b_K_spend 52 = .ok (.iconst 1, 1) := by decide +kernel
theorem d_K_spend_53 : decode b_K_spend 53 = .ok (.ireturn, 1) := by decide +kernel
theorem d_K_make_0 : decode b_K_make 0 = .ok (.iload_n 1, 1) := by decide +kernel
theorem d_K_make_1 : decode b_K_make 1 = .ok (.ifCond .lt 27, 3) := by decide +kernel
theorem d_K_make_4 : decode b_K_make 4 = .ok (.iload_n 1, 1) := by decide +kernel
theorem d_K_make_5 : decode b_K_make 5 = .ok (.sipush 256, 3) := by decide +kernel
theorem d_K_make_8 : decode b_K_make 8 = .ok (.if_icmp .ge 20, 3) := by decide +kernel
theorem d_K_make_11 : decode b_K_make 11 = .ok (.lload_n 2, 1) := by decide +kernel
theorem d_K_make_12 : decode b_K_make 12 = .ok (.lconst 1, 1) := by decide +kernel
theorem d_K_make_13 : decode b_K_make 13 = .ok (.lcmp, 1) := by decide +kernel
theorem d_K_make_14 : decode b_K_make 14 = .ok (.ifCond .lt 14, 3) := by decide +kernel
theorem d_K_make_17 : decode b_K_make 17 = .ok (.aload_n 0, 1) := by decide +kernel
theorem d_K_make_18 : decode b_K_make 18 = .ok (.getfield 19, 3) := by decide +kernel
theorem d_K_make_21 : decode b_K_make 21 = .ok (.invokevirtual 59, 3) := by decide +kernel
theorem d_K_make_24 : decode b_K_make 24 = .ok (.iconst 1, 1) := by decide +kernel
theorem d_K_make_25 : decode b_K_make 25 = .ok (.if_icmp .ge 5, 3) := by decide +kernel
theorem d_K_make_28 : decode b_K_make 28 = .ok (.iconst 0, 1) := by decide +kernel
theorem d_K_make_29 : decode b_K_make 29 = .ok (.ireturn, 1) := by decide +kernel
theorem d_K_make_30 : decode b_K_make 30 = .ok (.aload_n 0, 1) := by decide +kernel
theorem d_K_make_31 : decode b_K_make 31 = .ok (.getfield 19, 3) := by decide +kernel
theorem d_K_make_34 : decode b_K_make 34 = .ok (.iload_n 1, 1) := by decide +kernel
theorem d_K_make_35 : decode b_K_make 35 = .ok (.lload_n 2, 1) := by decide +kernel
theorem d_K_make_36 : decode b_K_make 36 = .ok (.lload 4, 2) := by decide +kernel
theorem d_K_make_38 : decode b_K_make 38 = .ok (.invokevirtual 62, 3) := by decide +kernel
theorem d_K_make_41 : decode b_K_make 41 = .ok (.iconst 1, 1) := by decide +kernel
theorem d_K_make_42 : decode b_K_make 42 = .ok (.ireturn, 1) := by decide +kernel
theorem d_K_mint_0 : decode b_K_mint 0 = .ok (.aload_n 0, 1) := by decide +kernel
theorem d_K_mint_1 : decode b_K_mint 1 = .ok (.getfield 19, 3) := by decide +kernel
theorem d_K_mint_4 : decode b_K_mint 4 = .ok (.lload_n 1, 1) := by decide +kernel
theorem d_K_mint_5 : decode b_K_mint 5 = .ok (.putfield 66, 3) := by decide +kernel
theorem d_K_mint_8 : decode b_K_mint 8 = .ok (.return_, 1) := by decide +kernel
theorem d_K_drop_0 : decode b_K_drop 0 = .ok (.aload_n 0, 1) := by decide +kernel
theorem d_K_drop_1 : decode b_K_drop 1 = .ok (.getfield 19, 3) := by decide +kernel
theorem d_K_drop_4 : decode b_K_drop 4 = .ok (.invokevirtual 70, 3) := by decide +kernel
theorem d_K_drop_7 : decode b_K_drop 7 = .ok (.return_, 1) := by decide +kernel
theorem d_K_apply_0 : decode b_K_apply 0 = .ok (.aload_n 0, 1) := by decide +kernel
theorem d_K_apply_1 : decode b_K_apply 1 = .ok (.getfield 19, 3) := by decide +kernel
theorem d_K_apply_4 : decode b_K_apply 4 = .ok (.getfield 73, 3) := by decide +kernel
theorem d_K_apply_7 : decode b_K_apply 7 = .ok (.ifCond .ne 17, 3) := by decide +kernel
theorem d_K_apply_10 : decode b_K_apply 10 = .ok (.aload_n 0, 1) := by decide +kernel
theorem d_K_apply_11 : decode b_K_apply 11 = .ok (.getfield 19, 3) := by decide +kernel
theorem d_K_apply_14 : decode b_K_apply 14 = .ok (.getfield 77, 3) := by decide +kernel
theorem d_K_apply_17 : decode b_K_apply 17 = .ok (.ifCond .ne 7, 3) := by decide +kernel
theorem d_K_apply_20 : decode b_K_apply 20 = .ok (.ldc2_w 80, 3) := by decide +kernel
theorem d_K_apply_23 : decode b_K_apply 23 = .ok (.lreturn, 1) := by decide +kernel
theorem d_K_apply_24 : decode b_K_apply 24 = .ok (.aload_n 0, 1) := by decide +kernel
theorem d_K_apply_25 : decode b_K_apply 25 = .ok (.invokevirtual 82, 3) := by decide +kernel
theorem d_K_apply_28 : decode b_K_apply 28 = .ok (.lstore_n 1, 1) := by decide +kernel
theorem d_K_apply_29 : decode b_K_apply 29 = .ok (.lload_n 1, 1) := by decide +kernel
theorem d_K_apply_30 : decode b_K_apply 30 = .ok (.lconst 0, 1) := by decide +kernel
theorem d_K_apply_31 : decode b_K_apply 31 = .ok (.lcmp, 1) := by decide +kernel
theorem d_K_apply_32 : decode b_K_apply 32 = .ok (.ifCond .ge 7, 3) := by decide +kernel
theorem d_K_apply_35 : decode b_K_apply 35 = .ok (.ldc2_w 86, 3) := by decide +kernel
theorem d_K_apply_38 : decode b_K_apply 38 = .ok (.lreturn, 1) := by decide +kernel
theorem d_K_apply_39 : decode b_K_apply 39 = .ok (.aload_n 0, 1) := by decide +kernel
theorem d_K_apply_40 : decode b_K_apply 40 = .ok (.getfield 19, 3) := by decide +kernel
theorem d_K_apply_43 : decode b_K_apply 43 = .ok (.getfield 77, 3) := by decide +kernel
theorem d_K_apply_46 : decode b_K_apply 46 = .ok (.aload_n 0, 1) := by decide +kernel
theorem d_K_apply_47 : decode b_K_apply 47 = .ok (.getfield 10, 3) := by decide +kernel
theorem d_K_apply_50 : decode b_K_apply 50 = .ok (.invokevirtual 88, 3) := by decide +kernel
theorem d_K_apply_53 : decode b_K_apply 53 = .ok (.if_icmp .le 7, 3) := by decide +kernel
theorem d_K_apply_56 : decode b_K_apply 56 = .ok (.ldc2_w 91, 3) := by decide +kernel
theorem d_K_apply_59 : decode b_K_apply 59 = .ok (.lreturn, 1) := by decide +kernel
theorem d_K_apply_60 : decode b_K_apply 60 = .ok (.aload_n 0, 1) := by decide +kernel
theorem d_K_apply_61 : decode b_K_apply 61 = .ok (.dup, 1) := by decide +kernel
theorem d_K_apply_62 : decode b_K_apply 62 = .ok (.getfield 93, 3) := by decide +kernel
theorem d_K_apply_65 : decode b_K_apply 65 = .ok (.aload_n 0, 1) := by decide +kernel
theorem d_K_apply_66 : decode b_K_apply 66 = .ok (.getfield 19, 3) := by decide +kernel
theorem d_K_apply_69 : decode b_K_apply 69 = .ok (.getfield 66, 3) := by decide +kernel
theorem d_K_apply_72 : decode b_K_apply 72 = .ok (.ladd, 1) := by decide +kernel
theorem d_K_apply_73 : decode b_K_apply 73 = .ok (.putfield 93, 3) := by decide +kernel
theorem d_K_apply_76 : decode b_K_apply 76 = .ok (.aload_n 0, 1) := by decide +kernel
theorem d_K_apply_77 : decode b_K_apply 77 = .ok (.dup, 1) := by decide +kernel
theorem d_K_apply_78 : decode b_K_apply 78 = .ok (.getfield 96, 3) := by decide +kernel
theorem d_K_apply_81 : decode b_K_apply 81 = .ok (.lload_n 1, 1) := by decide +kernel
theorem d_K_apply_82 : decode b_K_apply 82 = .ok (.ladd, 1) := by decide +kernel
theorem d_K_apply_83 : decode b_K_apply 83 = .ok (.putfield 96, 3) := by decide +kernel
theorem d_K_apply_86 : decode b_K_apply 86 = .ok (.aload_n 0, 1) := by decide +kernel
theorem d_K_apply_87 : decode b_K_apply 87 = .ok (.dup, 1) := by decide +kernel
theorem d_K_apply_88 : decode b_K_apply 88 = .ok (.getfield 99, 3) := by decide +kernel
theorem d_K_apply_91 : decode b_K_apply 91 = .ok (.iconst 1, 1) := by decide +kernel
theorem d_K_apply_92 : decode b_K_apply 92 = .ok (.iadd, 1) := by decide +kernel
theorem d_K_apply_93 : decode b_K_apply 93 = .ok (.putfield 99, 3) := by decide +kernel
theorem d_K_apply_96 : decode b_K_apply 96 = .ok (.aload_n 0, 1) := by decide +kernel
theorem d_K_apply_97 : decode b_K_apply 97 = .ok (.invokevirtual 102, 3) := by decide +kernel
theorem d_K_apply_100 : decode b_K_apply 100 = .ok (.aload_n 0, 1) := by decide +kernel
theorem d_K_apply_101 : decode b_K_apply 101 = .ok (.getfield 19, 3) := by decide +kernel
theorem d_K_apply_104 : decode b_K_apply 104 = .ok (.invokevirtual 70, 3) := by decide +kernel
theorem d_K_apply_107 : decode b_K_apply 107 = .ok (.lload_n 1, 1) := by decide +kernel
theorem d_K_apply_108 : decode b_K_apply 108 = .ok (.lreturn, 1) := by decide +kernel
theorem d_K_close_0 : decode b_K_close 0 = .ok (.aload_n 0, 1) := by decide +kernel
theorem d_K_close_1 : decode b_K_close 1 = .ok (.getfield 37, 3) := by decide +kernel
theorem d_K_close_4 : decode b_K_close 4 = .ok (.aload_n 0, 1) := by decide +kernel
theorem d_K_close_5 : decode b_K_close 5 = .ok (.getfield 93, 3) := by decide +kernel
theorem d_K_close_8 : decode b_K_close 8 = .ok (.aload_n 0, 1) := by decide +kernel
theorem d_K_close_9 : decode b_K_close 9 = .ok (.getfield 96, 3) := by decide +kernel
theorem d_K_close_12 : decode b_K_close 12 = .ok (.aload_n 0, 1) := by decide +kernel
theorem d_K_close_13 : decode b_K_close 13 = .ok (.getfield 99, 3) := by decide +kernel
theorem d_K_close_16 : decode b_K_close 16 = .ok (.invokevirtual 105, 3) := by decide +kernel
theorem d_K_close_19 : decode b_K_close 19 = .ok (.aload_n 0, 1) := by decide +kernel
theorem d_K_close_20 : decode b_K_close 20 = .ok (.getfield 37, 3) := by decide +kernel
theorem d_K_close_23 : decode b_K_close 23 = .ok (.getfield 109, 3) := by decide +kernel
theorem d_K_close_26 : decode b_K_close 26 = .ok (.ireturn, 1) := by decide +kernel
theorem d_K_undo_0 : decode b_K_undo 0 = .ok (.iload_n 1, 1) := by decide +kernel
theorem d_K_undo_1 : decode b_K_undo 1 = .ok (.ifCond .lt 14, 3) := by decide +kernel
theorem d_K_undo_4 : decode b_K_undo 4 = .ok (.iload_n 1, 1) := by decide +kernel
theorem d_K_undo_5 : decode b_K_undo 5 = .ok (.aload_n 0, 1) := by decide +kernel
theorem d_K_undo_6 : decode b_K_undo 6 = .ok (.getfield 37, 3) := by decide +kernel
theorem d_K_undo_9 : decode b_K_undo 9 = .ok (.getfield 112, 3) := by decide +kernel
theorem d_K_undo_12 : decode b_K_undo 12 = .ok (.if_icmp .le 5, 3) := by decide +kernel
theorem d_K_undo_15 : decode b_K_undo 15 = .ok (.iconst (-1), 1) := by decide +kernel
theorem d_K_undo_16 : decode b_K_undo 16 = .ok (.ireturn, 1) := by decide +kernel
theorem d_K_undo_17 : decode b_K_undo 17 = .ok (.aload_n 0, 1) := by decide +kernel
theorem d_K_undo_18 : decode b_K_undo 18 = .ok (.getfield 37, 3) := by decide +kernel
theorem d_K_undo_21 : decode b_K_undo 21 = .ok (.iload_n 1, 1) := by decide +kernel
theorem d_K_undo_22 : decode b_K_undo 22 = .ok (.invokevirtual 115, 3) := by decide +kernel
theorem d_K_undo_25 : decode b_K_undo 25 = .ok (.aload_n 0, 1) := by decide +kernel
theorem d_K_undo_26 : decode b_K_undo 26 = .ok (.aload_n 0, 1) := by decide +kernel
theorem d_K_undo_27 : decode b_K_undo 27 = .ok (.getfield 37, 3) := by decide +kernel
theorem d_K_undo_30 : decode b_K_undo 30 = .ok (.invokevirtual 118, 3) := by decide +kernel
theorem d_K_undo_33 : decode b_K_undo 33 = .ok (.putfield 93, 3) := by decide +kernel
theorem d_K_undo_36 : decode b_K_undo 36 = .ok (.aload_n 0, 1) := by decide +kernel
theorem d_K_undo_37 : decode b_K_undo 37 = .ok (.aload_n 0, 1) := by decide +kernel
theorem d_K_undo_38 : decode b_K_undo 38 = .ok (.getfield 37, 3) := by decide +kernel
theorem d_K_undo_41 : decode b_K_undo 41 = .ok (.invokevirtual 121, 3) := by decide +kernel
theorem d_K_undo_44 : decode b_K_undo 44 = .ok (.putfield 96, 3) := by decide +kernel
theorem d_K_undo_47 : decode b_K_undo 47 = .ok (.aload_n 0, 1) := by decide +kernel
theorem d_K_undo_48 : decode b_K_undo 48 = .ok (.aload_n 0, 1) := by decide +kernel
theorem d_K_undo_49 : decode b_K_undo 49 = .ok (.getfield 37, 3) := by decide +kernel
theorem d_K_undo_52 : decode b_K_undo 52 = .ok (.invokevirtual 124, 3) := by decide +kernel
theorem d_K_undo_55 : decode b_K_undo 55 = .ok (.putfield 99, 3) := by decide +kernel
theorem d_K_undo_58 : decode b_K_undo 58 = .ok (.aload_n 0, 1) := by decide +kernel
theorem d_K_undo_59 : decode b_K_undo 59 = .ok (.getfield 10, 3) := by decide +kernel
theorem d_K_undo_62 : decode b_K_undo 62 = .ok (.aload_n 0, 1) := by decide +kernel
theorem d_K_undo_63 : decode b_K_undo 63 = .ok (.getfield 37, 3) := by decide +kernel
theorem d_K_undo_66 : decode b_K_undo 66 = .ok (.getfield 109, 3) := by decide +kernel
theorem d_K_undo_69 : decode b_K_undo 69 = .ok (.invokevirtual 127, 3) := by decide +kernel
theorem d_K_undo_72 : decode b_K_undo 72 = .ok (.aload_n 0, 1) := by decide +kernel
theorem d_K_undo_73 : decode b_K_undo 73 = .ok (.getfield 19, 3) := by decide +kernel
theorem d_K_undo_76 : decode b_K_undo 76 = .ok (.invokevirtual 70, 3) := by decide +kernel
theorem d_K_undo_79 : decode b_K_undo 79 = .ok (.aload_n 0, 1) := by decide +kernel
theorem d_K_undo_80 : decode b_K_undo 80 = .ok (.getfield 37, 3) := by decide +kernel
theorem d_K_undo_83 : decode b_K_undo 83 = .ok (.getfield 109, 3) := by decide +kernel
theorem d_K_undo_86 : decode b_K_undo 86 = .ok (.ireturn, 1) := by decide +kernel
theorem d_K_output_0 : decode b_K_output 0 = .ok (.aload_n 0, 1) := by decide +kernel
theorem d_K_output_1 : decode b_K_output 1 = .ok (.getfield 10, 3) := by decide +kernel
theorem d_K_output_4 : decode b_K_output 4 = .ok (.iload_n 1, 1) := by decide +kernel
theorem d_K_output_5 : decode b_K_output 5 = .ok (.invokevirtual 130, 3) := by decide +kernel
theorem d_K_output_8 : decode b_K_output 8 = .ok (.ifCond .ne 5, 3) := by decide +kernel
theorem d_K_output_11 : decode b_K_output 11 = .ok (.iconst (-1), 1) := by decide +kernel
theorem d_K_output_12 : decode b_K_output 12 = .ok (.ireturn, 1) := by decide +kernel
theorem d_K_output_13 : decode b_K_output 13 = .ok (.iload_n 2, 1) := by decide +kernel
theorem d_K_output_14 : decode b_K_output 14 = .ok (.tableswitch 77 0 3 #[30, 40, 57, 67], 30) := by decide +kernel
theorem d_K_output_44 : decode b_K_output 44 = .ok (.aload_n 0, 1) := by decide +kernel
theorem d_K_output_45 : decode b_K_output 45 = .ok (.getfield 10, 3) := by decide +kernel
theorem d_K_output_48 : decode b_K_output 48 = .ok (.getfield 133, 3) := by decide +kernel
theorem d_K_output_51 : decode b_K_output 51 = .ok (.iload_n 1, 1) := by decide +kernel
theorem d_K_output_52 : decode b_K_output 52 = .ok (.iaload, 1) := by decide +kernel
theorem d_K_output_53 : decode b_K_output 53 = .ok (.ireturn, 1) := by decide +kernel
theorem d_K_output_54 : decode b_K_output 54 = .ok (.aload_n 0, 1) := by decide +kernel
theorem d_K_output_55 : decode b_K_output 55 = .ok (.getfield 10, 3) := by decide +kernel
theorem d_K_output_58 : decode b_K_output 58 = .ok (.iload_n 1, 1) := by decide +kernel
theorem d_K_output_59 : decode b_K_output 59 = .ok (.invokevirtual 41, 3) := by decide +kernel
theorem d_K_output_62 : decode b_K_output 62 = .ok (.ifCond .eq 7, 3) := by decide +kernel
theorem d_K_output_65 : decode b_K_output 65 = .ok (.iconst 1, 1) := by decide +kernel
theorem d_K_output_66 : decode b_K_output 66 = .ok (.goto 4, 3) := by decide +kernel
theorem d_K_output_69 : decode b_K_output 69 = .ok (.iconst 0, 1) := by decide +kernel
theorem d_K_output_70 : decode b_K_output 70 = .ok (.ireturn, 1) := by decide +kernel
theorem d_K_output_71 : decode b_K_output 71 = .ok (.aload_n 0, 1) := by decide +kernel
theorem d_K_output_72 : decode b_K_output 72 = .ok (.getfield 10, 3) := by decide +kernel
theorem d_K_output_75 : decode b_K_output 75 = .ok (.getfield 137, 3) := by decide +kernel
theorem d_K_output_78 : decode b_K_output 78 = .ok (.iload_n 1, 1) := by decide +kernel
theorem d_K_output_79 : decode b_K_output 79 = .ok (.iaload, 1) := by decide +kernel
theorem d_K_output_80 : decode b_K_output 80 = .ok (.ireturn, 1) := by decide +kernel
theorem d_K_output_81 : decode b_K_output 81 = .ok (.aload_n 0, 1) := by decide +kernel
theorem d_K_output_82 : decode b_K_output 82 = .ok (.getfield 10, 3) := by decide +kernel
theorem d_K_output_85 : decode b_K_output 85 = .ok (.getfield 140, 3) := by decide +kernel
theorem d_K_output_88 : decode b_K_output 88 = .ok (.iload_n 1, 1) := by decide +kernel
theorem d_K_output_89 : decode b_K_output 89 = .ok (.iaload, 1) := by decide +kernel
theorem d_K_output_90 : decode b_K_output 90 = .ok (.ireturn, 1) := by decide +kernel
theorem d_K_output_91 : decode b_K_output 91 = .ok (.iconst (-1), 1) := by decide +kernel
theorem d_K_output_92 : decode b_K_output 92 = .ok (.ireturn, 1) := by decide +kernel
theorem d_K_amount_0 : decode b_K_amount 0 = .ok (.aload_n 0, 1) := by decide +kernel
theorem d_K_amount_1 : decode b_K_amount 1 = .ok (.getfield 10, 3) := by decide +kernel
theorem d_K_amount_4 : decode b_K_amount 4 = .ok (.iload_n 1, 1) := by decide +kernel
theorem d_K_amount_5 : decode b_K_amount 5 = .ok (.invokevirtual 143, 3) := by decide +kernel
theorem d_K_amount_8 : decode b_K_amount 8 = .ok (.lreturn, 1) := by decide +kernel
theorem d_K_tag_0 : decode b_K_tag 0 = .ok (.aload_n 0, 1) := by decide +kernel
theorem d_K_tag_1 : decode b_K_tag 1 = .ok (.getfield 10, 3) := by decide +kernel
theorem d_K_tag_4 : decode b_K_tag 4 = .ok (.iload_n 1, 1) := by decide +kernel
theorem d_K_tag_5 : decode b_K_tag 5 = .ok (.invokevirtual 130, 3) := by decide +kernel
theorem d_K_tag_8 : decode b_K_tag 8 = .ok (.ifCond .eq 15, 3) := by decide +kernel
theorem d_K_tag_11 : decode b_K_tag 11 = .ok (.aload_n 0, 1) := by decide +kernel
theorem d_K_tag_12 : decode b_K_tag 12 = .ok (.getfield 10, 3) := by decide +kernel
theorem d_K_tag_15 : decode b_K_tag 15 = .ok (.getfield 147, 3) := by decide +kernel
theorem d_K_tag_18 : decode b_K_tag 18 = .ok (.iload_n 1, 1) := by decide +kernel
theorem d_K_tag_19 : decode b_K_tag 19 = .ok (.laload, 1) := by decide +kernel
theorem d_K_tag_20 : decode b_K_tag 20 = .ok (.goto 4, 3) := by decide +kernel
theorem d_K_tag_23 : decode b_K_tag 23 = .ok (.lconst 0, 1) := by decide +kernel
theorem d_K_tag_24 : decode b_K_tag 24 = .ok (.lreturn, 1) := by decide +kernel
theorem d_K_balance_0 : decode b_K_balance 0 = .ok (.lconst 0, 1) := by decide +kernel
theorem d_K_balance_1 : decode b_K_balance 1 = .ok (.lstore_n 2, 1) := by decide +kernel
theorem d_K_balance_2 : decode b_K_balance 2 = .ok (.iconst 0, 1) := by decide +kernel
theorem d_K_balance_3 : decode b_K_balance 3 = .ok (.istore 4, 2) := by decide +kernel
theorem d_K_balance_5 : decode b_K_balance 5 = .ok (.iload 4, 2) := by decide +kernel
theorem d_K_balance_7 : decode b_K_balance 7 = .ok (.aload_n 0, 1) := by decide +kernel
theorem d_K_balance_8 : decode b_K_balance 8 = .ok (.getfield 10, 3) := by decide +kernel
theorem d_K_balance_11 : decode b_K_balance 11 = .ok (.getfield 151, 3) := by decide +kernel
theorem d_K_balance_14 : decode b_K_balance 14 = .ok (.if_icmp .ge 34, 3) := by decide +kernel
theorem d_K_balance_17 : decode b_K_balance 17 = .ok (.aload_n 0, 1) := by decide +kernel
theorem d_K_balance_18 : decode b_K_balance 18 = .ok (.getfield 10, 3) := by decide +kernel
theorem d_K_balance_21 : decode b_K_balance 21 = .ok (.iload_n 1, 1) := by decide +kernel
theorem d_K_balance_22 : decode b_K_balance 22 = .ok (.iload 4, 2) := by decide +kernel
theorem d_K_balance_24 : decode b_K_balance 24 = .ok (.invokevirtual 154, 3) := by decide +kernel
theorem d_K_balance_27 : decode b_K_balance 27 = .ok (.ifCond .eq 15, 3) := by decide +kernel
theorem d_K_balance_30 : decode b_K_balance 30 = .ok (.lload_n 2, 1) := by decide +kernel
theorem d_K_balance_31 : decode b_K_balance 31 = .ok (.aload_n 0, 1) := by decide +kernel
theorem d_K_balance_32 : decode b_K_balance 32 = .ok (.getfield 10, 3) := by decide +kernel
theorem d_K_balance_35 : decode b_K_balance 35 = .ok (.iload 4, 2) := by decide +kernel
theorem d_K_balance_37 : decode b_K_balance 37 = .ok (.invokevirtual 143, 3) := by decide +kernel
theorem d_K_balance_40 : decode b_K_balance 40 = .ok (.ladd, 1) := by decide +kernel
theorem d_K_balance_41 : decode b_K_balance 41 = .ok (.lstore_n 2, 1) := by decide +kernel
theorem d_K_balance_42 : decode b_K_balance 42 = .ok (.iinc 4 1, 3) := by decide +kernel
theorem d_K_balance_45 : decode b_K_balance 45 = .ok (.goto (-40), 3) := by decide +kernel
theorem d_K_balance_48 : decode b_K_balance 48 = .ok (.lload_n 2, 1) := by decide +kernel
theorem d_K_balance_49 : decode b_K_balance 49 = .ok (.lreturn, 1) := by decide +kernel
theorem d_K_count_0 : decode b_K_count 0 = .ok (.iconst 0, 1) := by decide +kernel
theorem d_K_count_1 : decode b_K_count 1 = .ok (.istore_n 2, 1) := by decide +kernel
theorem d_K_count_2 : decode b_K_count 2 = .ok (.iconst 0, 1) := by decide +kernel
theorem d_K_count_3 : decode b_K_count 3 = .ok (.istore_n 3, 1) := by decide +kernel
theorem d_K_count_4 : decode b_K_count 4 = .ok (.iload_n 3, 1) := by decide +kernel
theorem d_K_count_5 : decode b_K_count 5 = .ok (.aload_n 0, 1) := by decide +kernel
theorem d_K_count_6 : decode b_K_count 6 = .ok (.getfield 10, 3) := by decide +kernel
theorem d_K_count_9 : decode b_K_count 9 = .ok (.getfield 151, 3) := by decide +kernel
theorem d_K_count_12 : decode b_K_count 12 = .ok (.if_icmp .ge 24, 3) := by decide +kernel
theorem d_K_count_15 : decode b_K_count 15 = .ok (.aload_n 0, 1) := by decide +kernel
theorem d_K_count_16 : decode b_K_count 16 = .ok (.getfield 10, 3) := by decide +kernel
theorem d_K_count_19 : decode b_K_count 19 = .ok (.iload_n 1, 1) := by decide +kernel
theorem d_K_count_20 : decode b_K_count 20 = .ok (.iload_n 3, 1) := by decide +kernel
theorem d_K_count_21 : decode b_K_count 21 = .ok (.invokevirtual 154, 3) := by decide +kernel
theorem d_K_count_24 : decode b_K_count 24 = .ok (.ifCond .eq 6, 3) := by decide +kernel
theorem d_K_count_27 : decode b_K_count 27 = .ok (.iinc 2 1, 3) := by decide +kernel
theorem d_K_count_30 : decode b_K_count 30 = .ok (.iinc 3 1, 3) := by decide +kernel
theorem d_K_count_33 : decode b_K_count 33 = .ok (.goto (-29), 3) := by decide +kernel
theorem d_K_count_36 : decode b_K_count 36 = .ok (.iload_n 2, 1) := by decide +kernel
theorem d_K_count_37 : decode b_K_count 37 = .ok (.ireturn, 1) := by decide +kernel
theorem d_K_nth_0 : decode b_K_nth 0 = .ok (.iconst 0, 1) := by decide +kernel
theorem d_K_nth_1 : decode b_K_nth 1 = .ok (.istore_n 3, 1) := by decide +kernel
theorem d_K_nth_2 : decode b_K_nth 2 = .ok (.iconst 0, 1) := by decide +kernel
theorem d_K_nth_3 : decode b_K_nth 3 = .ok (.istore 4, 2) := by decide +kernel
theorem d_K_nth_5 : decode b_K_nth 5 = .ok (.iload 4, 2) := by decide +kernel
theorem d_K_nth_7 : decode b_K_nth 7 = .ok (.aload_n 0, 1) := by decide +kernel
theorem d_K_nth_8 : decode b_K_nth 8 = .ok (.getfield 10, 3) := by decide +kernel
theorem d_K_nth_11 : decode b_K_nth 11 = .ok (.getfield 151, 3) := by decide +kernel
theorem d_K_nth_14 : decode b_K_nth 14 = .ok (.if_icmp .ge 33, 3) := by decide +kernel
theorem d_K_nth_17 : decode b_K_nth 17 = .ok (.aload_n 0, 1) := by decide +kernel
theorem d_K_nth_18 : decode b_K_nth 18 = .ok (.getfield 10, 3) := by decide +kernel
theorem d_K_nth_21 : decode b_K_nth 21 = .ok (.iload_n 1, 1) := by decide +kernel
theorem d_K_nth_22 : decode b_K_nth 22 = .ok (.iload 4, 2) := by decide +kernel
theorem d_K_nth_24 : decode b_K_nth 24 = .ok (.invokevirtual 154, 3) := by decide +kernel
theorem d_K_nth_27 : decode b_K_nth 27 = .ok (.ifCond .eq 14, 3) := by decide +kernel
theorem d_K_nth_30 : decode b_K_nth 30 = .ok (.iload_n 3, 1) := by decide +kernel
theorem d_K_nth_31 : decode b_K_nth 31 = .ok (.iload_n 2, 1) := by decide +kernel
theorem d_K_nth_32 : decode b_K_nth 32 = .ok (.if_icmp .ne 6, 3) := by decide +kernel
theorem d_K_nth_35 : decode b_K_nth 35 = .ok (.iload 4, 2) := by decide +kernel
theorem d_K_nth_37 : decode b_K_nth 37 = .ok (.ireturn, 1) := by decide +kernel
theorem d_K_nth_38 : decode b_K_nth 38 = .ok (.iinc 3 1, 3) := by decide +kernel
theorem d_K_nth_41 : decode b_K_nth 41 = .ok (.iinc 4 1, 3) := by decide +kernel
theorem d_K_nth_44 : decode b_K_nth 44 = .ok (.goto (-39), 3) := by decide +kernel
theorem d_K_nth_47 : decode b_K_nth 47 = .ok (.iconst (-1), 1) := by decide +kernel
theorem d_K_nth_48 : decode b_K_nth 48 = .ok (.ireturn, 1) := by decide +kernel
theorem d_K_gather_0 : decode b_K_gather 0 = .ok (.lload_n 2, 1) := by decide +kernel
theorem d_K_gather_1 : decode b_K_gather 1 = .ok (.lconst 1, 1) := by decide +kernel
theorem d_K_gather_2 : decode b_K_gather 2 = .ok (.lcmp, 1) := by decide +kernel
theorem d_K_gather_3 : decode b_K_gather 3 = .ok (.ifCond .ge 5, 3) := by decide +kernel
theorem d_K_gather_6 : decode b_K_gather 6 = .ok (.iconst (-1), 1) := by decide +kernel
theorem d_K_gather_7 : decode b_K_gather 7 = .ok (.ireturn, 1) := by decide +kernel
theorem d_K_gather_8 : decode b_K_gather 8 = .ok (.lload_n 2, 1) := by decide +kernel
theorem d_K_gather_9 : decode b_K_gather 9 = .ok (.lstore 4, 2) := by decide +kernel
theorem d_K_gather_11 : decode b_K_gather 11 = .ok (.iconst (-1), 1) := by decide +kernel
theorem d_K_gather_12 : decode b_K_gather 12 = .ok (.istore 6, 2) := by decide +kernel
theorem d_K_gather_14 : decode b_K_gather 14 = .ok (.aload_n 0, 1) := by decide +kernel
theorem d_K_gather_15 : decode b_K_gather 15 = .ok (.getfield 19, 3) := by decide +kernel
theorem d_K_gather_18 : decode b_K_gather 18 = .ok (.invokevirtual 48, 3) := by decide +kernel
theorem d_K_gather_21 : decode b_K_gather 21 = .ok (.istore 7, 2) := by decide +kernel
theorem d_K_gather_23 : decode b_K_gather 23 = .ok (.iconst 0, 1) := by decide +kernel
theorem d_K_gather_24 : decode b_K_gather 24 = .ok (.istore 8, 2) := by decide +kernel
theorem d_K_gather_26 : decode b_K_gather 26 = .ok (.iload 8, 2) := by decide +kernel
theorem d_K_gather_28 : decode b_K_gather 28 = .ok (.iload 7, 2) := by decide +kernel
theorem d_K_gather_30 : decode b_K_gather 30 = .ok (.if_icmp .ge 89, 3) := by decide +kernel
theorem d_K_gather_33 : decode b_K_gather 33 = .ok (.aload_n 0, 1) := by decide +kernel
theorem d_K_gather_34 : decode b_K_gather 34 = .ok (.getfield 10, 3) := by decide +kernel
theorem d_K_gather_37 : decode b_K_gather 37 = .ok (.iload_n 1, 1) := by decide +kernel
theorem d_K_gather_38 : decode b_K_gather 38 = .ok (.iload 6, 2) := by decide +kernel
theorem d_K_gather_40 : decode b_K_gather 40 = .ok (.invokevirtual 158, 3) := by decide +kernel
theorem d_K_gather_43 : decode b_K_gather 43 = .ok (.istore 6, 2) := by decide +kernel
theorem d_K_gather_45 : decode b_K_gather 45 = .ok (.iload 6, 2) := by decide +kernel
theorem d_K_gather_47 : decode b_K_gather 47 = .ok (.iconst (-1), 1) := by decide +kernel
theorem d_K_gather_48 : decode b_K_gather 48 = .ok (.if_icmp .eq 15, 3) := by decide +kernel
theorem d_K_gather_51 : decode b_K_gather 51 = .ok (.aload_n 0, 1) := by decide +kernel
theorem d_K_gather_52 : decode b_K_gather 52 = .ok (.getfield 19, 3) := by decide +kernel
theorem d_K_gather_55 : decode b_K_gather 55 = .ok (.iload 6, 2) := by decide +kernel
theorem d_K_gather_57 : decode b_K_gather 57 = .ok (.invokevirtual 45, 3) := by decide +kernel
theorem d_K_gather_60 : decode b_K_gather 60 = .ok (.ifCond .eq 5, 3) := by decide +kernel
theorem d_K_gather_63 : decode b_K_gather 63 = .ok (.iconst (-1), 1) := by decide +kernel
theorem d_K_gather_64 : decode b_K_gather 64 = .ok (.ireturn, 1) := by decide +kernel
theorem d_K_gather_65 : decode b_K_gather 65 = .ok (.aload_n 0, 1) := by decide +kernel
theorem d_K_gather_66 : decode b_K_gather 66 = .ok (.getfield 19, 3) := by decide +kernel
theorem d_K_gather_69 : decode b_K_gather 69 = .ok (.iload 8, 2) := by decide +kernel
theorem d_K_gather_71 : decode b_K_gather 71 = .ok (.iload 6, 2) := by decide +kernel
theorem d_K_gather_73 : decode b_K_gather 73 = .ok (.invokevirtual 52, 3) := by decide +kernel
theorem d_K_gather_76 : decode b_K_gather 76 = .ok (.lload 4, 2) := by decide +kernel
theorem d_K_gather_78 : decode b_K_gather 78 = .ok (.aload_n 0, 1) := by decide +kernel
theorem d_K_gather_79 : decode b_K_gather 79 = .ok (.getfield 10, 3) := by decide +kernel
theorem d_K_gather_82 : decode b_K_gather 82 = .ok (.iload 6, 2) := by decide +kernel
theorem d_K_gather_84 : decode b_K_gather 84 = .ok (.invokevirtual 143, 3) := by decide +kernel
theorem d_K_gather_87 : decode b_K_gather 87 = .ok (.lsub, 1) := by decide +kernel
theorem d_K_gather_88 : decode b_K_gather 88 = .ok (.lstore 4, 2) := by decide +kernel
theorem d_K_gather_90 : decode b_K_gather 90 = .ok (.lload 4, 2) := by decide +kernel
theorem d_K_gather_92 : decode b_K_gather 92 = .ok (.lconst 0, 1) := by decide +kernel
theorem d_K_gather_93 : decode b_K_gather 93 = .ok (.lcmp, 1) := by decide +kernel
theorem d_K_gather_94 : decode b_K_gather 94 = .ok (.ifCond .gt 19, 3) := by decide +kernel
theorem d_K_gather_97 : decode b_K_gather 97 = .ok (.aload_n 0, 1) := by decide +kernel
theorem d_K_gather_98 : decode b_K_gather 98 = .ok (.getfield 19, 3) := by decide +kernel
theorem d_K_gather_101 : decode b_K_gather 101 = .ok (.iload 8, 2) := by decide +kernel
theorem d_K_gather_103 : decode b_K_gather 103 = .ok (.iconst 1, 1) := by decide +kernel
theorem d_K_gather_104 : decode b_K_gather 104 = .ok (.iadd, 1) := by decide +kernel
theorem d_K_gather_105 : decode b_K_gather 105 = .ok (.invokevirtual 56, 3) := by decide +kernel
theorem d_K_gather_108 : decode b_K_gather 108 = .ok (.iload 8, 2) := by decide +kernel
theorem d_K_gather_110 : decode b_K_gather 110 = .ok (.iconst 1, 1) := by decide +kernel
theorem d_K_gather_111 : decode b_K_gather 111 = .ok (.iadd, 1) := by decide +kernel
theorem d_K_gather_112 : decode b_K_gather 112 = .ok (.ireturn, 1) := by decide +kernel
theorem d_K_gather_113 : decode b_K_gather 113 = .ok (.iinc 8 1, 3) := by decide +kernel
theorem d_K_gather_116 : decode b_K_gather 116 = .ok (.goto (-90), 3) := by decide +kernel
theorem d_K_gather_119 : decode b_K_gather 119 = .ok (.iconst (-1), 1) := by decide +kernel
theorem d_K_gather_120 : decode b_K_gather 120 = .ok (.ireturn, 1) := by decide +kernel
theorem d_K_look_0 : decode b_K_look 0 = .ok (.iload_n 1, 1) := by decide +kernel
theorem d_K_look_1 : decode b_K_look 1 = .ok (.tableswitch 133 0 9 #[55, 60, 65, 74, 83, 92, 101, 110, 119, 127], 55) := by decide +kernel
theorem d_K_look_56 : decode b_K_look 56 = .ok (.aload_n 0, 1) := by decide +kernel
theorem d_K_look_57 : decode b_K_look 57 = .ok (.getfield 93, 3) := by decide +kernel
theorem d_K_look_60 : decode b_K_look 60 = .ok (.lreturn, 1) := by decide +kernel
theorem d_K_look_61 : decode b_K_look 61 = .ok (.aload_n 0, 1) := by decide +kernel
theorem d_K_look_62 : decode b_K_look 62 = .ok (.getfield 96, 3) := by decide +kernel
theorem d_K_look_65 : decode b_K_look 65 = .ok (.lreturn, 1) := by decide +kernel
theorem d_K_look_66 : decode b_K_look 66 = .ok (.aload_n 0, 1) := by decide +kernel
theorem d_K_look_67 : decode b_K_look 67 = .ok (.getfield 37, 3) := by decide +kernel
theorem d_K_look_70 : decode b_K_look 70 = .ok (.getfield 109, 3) := by decide +kernel
theorem d_K_look_73 : decode b_K_look 73 = .ok (.i2l, 1) := by decide +kernel
theorem d_K_look_74 : decode b_K_look 74 = .ok (.lreturn, 1) := by decide +kernel
theorem d_K_look_75 : decode b_K_look 75 = .ok (.aload_n 0, 1) := by decide +kernel
theorem d_K_look_76 : decode b_K_look 76 = .ok (.getfield 10, 3) := by decide +kernel
theorem d_K_look_79 : decode b_K_look 79 = .ok (.getfield 151, 3) := by decide +kernel
theorem d_K_look_82 : decode b_K_look 82 = .ok (.i2l, 1) := by decide +kernel
theorem d_K_look_83 : decode b_K_look 83 = .ok (.lreturn, 1) := by decide +kernel
theorem d_K_look_84 : decode b_K_look 84 = .ok (.aload_n 0, 1) := by decide +kernel
theorem d_K_look_85 : decode b_K_look 85 = .ok (.getfield 10, 3) := by decide +kernel
theorem d_K_look_88 : decode b_K_look 88 = .ok (.invokevirtual 161, 3) := by decide +kernel
theorem d_K_look_91 : decode b_K_look 91 = .ok (.i2l, 1) := by decide +kernel
theorem d_K_look_92 : decode b_K_look 92 = .ok (.lreturn, 1) := by decide +kernel
theorem d_K_look_93 : decode b_K_look 93 = .ok (.aload_n 0, 1) := by decide +kernel
theorem d_K_look_94 : decode b_K_look 94 = .ok (.getfield 37, 3) := by decide +kernel
theorem d_K_look_97 : decode b_K_look 97 = .ok (.getfield 112, 3) := by decide +kernel
theorem d_K_look_100 : decode b_K_look 100 = .ok (.i2l, 1) := by decide +kernel
theorem d_K_look_101 : decode b_K_look 101 = .ok (.lreturn, 1) := by decide +kernel
theorem d_K_look_102 : decode b_K_look 102 = .ok (.aload_n 0, 1) := by decide +kernel
theorem d_K_look_103 : decode b_K_look 103 = .ok (.getfield 19, 3) := by decide +kernel
theorem d_K_look_106 : decode b_K_look 106 = .ok (.getfield 73, 3) := by decide +kernel
theorem d_K_look_109 : decode b_K_look 109 = .ok (.i2l, 1) := by decide +kernel
theorem d_K_look_110 : decode b_K_look 110 = .ok (.lreturn, 1) := by decide +kernel
theorem d_K_look_111 : decode b_K_look 111 = .ok (.aload_n 0, 1) := by decide +kernel
theorem d_K_look_112 : decode b_K_look 112 = .ok (.getfield 19, 3) := by decide +kernel
theorem d_K_look_115 : decode b_K_look 115 = .ok (.getfield 77, 3) := by decide +kernel
theorem d_K_look_118 : decode b_K_look 118 = .ok (.i2l, 1) := by decide +kernel
theorem d_K_look_119 : decode b_K_look 119 = .ok (.lreturn, 1) := by decide +kernel
theorem d_K_look_120 : decode b_K_look 120 = .ok (.aload_n 0, 1) := by decide +kernel
theorem d_K_look_121 : decode b_K_look 121 = .ok (.getfield 19, 3) := by decide +kernel
theorem d_K_look_124 : decode b_K_look 124 = .ok (.getfield 66, 3) := by decide +kernel
theorem d_K_look_127 : decode b_K_look 127 = .ok (.lreturn, 1) := by decide +kernel
theorem d_K_look_128 : decode b_K_look 128 = .ok (.aload_n 0, 1) := by decide +kernel
theorem d_K_look_129 : decode b_K_look 129 = .ok (.getfield 99, 3) := by decide +kernel
theorem d_K_look_132 : decode b_K_look 132 = .ok (.i2l, 1) := by decide +kernel
theorem d_K_look_133 : decode b_K_look 133 = .ok (.lreturn, 1) := by decide +kernel
theorem d_K_look_134 : decode b_K_look 134 = .ok (.ldc2_w 80, 3) := by decide +kernel
theorem d_K_look_137 : decode b_K_look 137 = .ok (.lreturn, 1) := by decide +kernel
theorem d_K_feeOfDraft_0 : decode b_K_feeOfDraft 0 = .ok (.aload_n 0, 1) := by decide +kernel
theorem d_K_feeOfDraft_1 : decode b_K_feeOfDraft 1 = .ok (.getfield 19, 3) := by decide +kernel
theorem d_K_feeOfDraft_4 : decode b_K_feeOfDraft 4 = .ok (.getfield 66, 3) := by decide +kernel
theorem d_K_feeOfDraft_7 : decode b_K_feeOfDraft 7 = .ok (.aload_n 0, 1) := by decide +kernel
theorem d_K_feeOfDraft_8 : decode b_K_feeOfDraft 8 = .ok (.getfield 93, 3) := by decide +kernel
theorem d_K_feeOfDraft_11 : decode b_K_feeOfDraft 11 = .ok (.lneg, 1) := by decide +kernel
theorem d_K_feeOfDraft_12 : decode b_K_feeOfDraft 12 = .ok (.lcmp, 1) := by decide +kernel
theorem d_K_feeOfDraft_13 : decode b_K_feeOfDraft 13 = .ok (.ifCond .lt 22, 3) := by decide +kernel
theorem d_K_feeOfDraft_16 : decode b_K_feeOfDraft 16 = .ok (.aload_n 0, 1) := by decide +kernel
theorem d_K_feeOfDraft_17 : decode b_K_feeOfDraft 17 = .ok (.getfield 19, 3) := by decide +kernel
theorem d_K_feeOfDraft_20 : decode b_K_feeOfDraft 20 = .ok (.getfield 66, 3) := by decide +kernel
theorem d_K_feeOfDraft_23 : decode b_K_feeOfDraft 23 = .ok (.ldc2_w 164, 3) := by decide +kernel
theorem d_K_feeOfDraft_26 : decode b_K_feeOfDraft 26 = .ok (.aload_n 0, 1) := by decide +kernel
theorem d_K_feeOfDraft_27 : decode b_K_feeOfDraft 27 = .ok (.getfield 93, 3) := by decide +kernel
theorem d_K_feeOfDraft_30 : decode b_K_feeOfDraft 30 = .ok (.lsub, 1) := by decide +kernel
theorem d_K_feeOfDraft_31 : decode b_K_feeOfDraft 31 = .ok (.lcmp, 1) := by decide +kernel
theorem d_K_feeOfDraft_32 : decode b_K_feeOfDraft 32 = .ok (.ifCond .le 7, 3) := by decide +kernel
theorem d_K_feeOfDraft_35 : decode b_K_feeOfDraft 35 = .ok (.ldc2_w 86, 3) := by decide +kernel
theorem d_K_feeOfDraft_38 : decode b_K_feeOfDraft 38 = .ok (.lreturn, 1) := by decide +kernel
theorem d_K_feeOfDraft_39 : decode b_K_feeOfDraft 39 = .ok (.aload_n 0, 1) := by decide +kernel
theorem d_K_feeOfDraft_40 : decode b_K_feeOfDraft 40 = .ok (.getfield 19, 3) := by decide +kernel
theorem d_K_feeOfDraft_43 : decode b_K_feeOfDraft 43 = .ok (.getfield 66, 3) := by decide +kernel
theorem d_K_feeOfDraft_46 : decode b_K_feeOfDraft 46 = .ok (.lstore_n 1, 1) := by decide +kernel
theorem d_K_feeOfDraft_47 : decode b_K_feeOfDraft 47 = .ok (.iconst 0, 1) := by decide +kernel
theorem d_K_feeOfDraft_48 : decode b_K_feeOfDraft 48 = .ok (.istore_n 3, 1) := by decide +kernel
theorem d_K_feeOfDraft_49 : decode b_K_feeOfDraft 49 = .ok (.iload_n 3, 1) := by decide +kernel
theorem d_K_feeOfDraft_50 : decode b_K_feeOfDraft 50 = .ok (.aload_n 0, 1) := by decide +kernel
theorem d_K_feeOfDraft_51 : decode b_K_feeOfDraft 51 = .ok (.getfield 19, 3) := by decide +kernel
theorem d_K_feeOfDraft_54 : decode b_K_feeOfDraft 54 = .ok (.getfield 73, 3) := by decide +kernel
theorem d_K_feeOfDraft_57 : decode b_K_feeOfDraft 57 = .ok (.if_icmp .ge 28, 3) := by decide +kernel
theorem d_K_feeOfDraft_60 : decode b_K_feeOfDraft 60 = .ok (.lload_n 1, 1) := by decide +kernel
theorem d_K_feeOfDraft_61 : decode b_K_feeOfDraft 61 = .ok (.aload_n 0, 1) := by decide +kernel
theorem d_K_feeOfDraft_62 : decode b_K_feeOfDraft 62 = .ok (.getfield 10, 3) := by decide +kernel
theorem d_K_feeOfDraft_65 : decode b_K_feeOfDraft 65 = .ok (.aload_n 0, 1) := by decide +kernel
theorem d_K_feeOfDraft_66 : decode b_K_feeOfDraft 66 = .ok (.getfield 19, 3) := by decide +kernel
theorem d_K_feeOfDraft_69 : decode b_K_feeOfDraft 69 = .ok (.getfield 166, 3) := by decide +kernel
theorem d_K_feeOfDraft_72 : decode b_K_feeOfDraft 72 = .ok (.iload_n 3, 1) := by decide +kernel
theorem d_K_feeOfDraft_73 : decode b_K_feeOfDraft 73 = .ok (.iaload, 1) := by decide +kernel
theorem d_K_feeOfDraft_74 : decode b_K_feeOfDraft 74 = .ok (.invokevirtual 143, 3) := by decide +kernel
theorem d_K_feeOfDraft_77 : decode b_K_feeOfDraft 77 = .ok (.ladd, 1) := by decide +kernel
theorem d_K_feeOfDraft_78 : decode b_K_feeOfDraft 78 = .ok (.lstore_n 1, 1) := by decide +kernel
theorem d_K_feeOfDraft_79 : decode b_K_feeOfDraft 79 = .ok (.iinc 3 1, 3) := by decide +kernel
theorem d_K_feeOfDraft_82 : decode b_K_feeOfDraft 82 = .ok (.goto (-33), 3) := by decide +kernel
theorem d_K_feeOfDraft_85 : decode b_K_feeOfDraft 85 = .ok (.iconst 0, 1) := by decide +kernel
theorem d_K_feeOfDraft_86 : decode b_K_feeOfDraft 86 = .ok (.istore_n 3, 1) := by decide +kernel
theorem d_K_feeOfDraft_87 : decode b_K_feeOfDraft 87 = .ok (.iload_n 3, 1) := by decide +kernel
theorem d_K_feeOfDraft_88 : decode b_K_feeOfDraft 88 = .ok (.aload_n 0, 1) := by decide +kernel
theorem d_K_feeOfDraft_89 : decode b_K_feeOfDraft 89 = .ok (.getfield 19, 3) := by decide +kernel
theorem d_K_feeOfDraft_92 : decode b_K_feeOfDraft 92 = .ok (.getfield 77, 3) := by decide +kernel
theorem d_K_feeOfDraft_95 : decode b_K_feeOfDraft 95 = .ok (.if_icmp .ge 39, 3) := by decide +kernel
theorem d_K_feeOfDraft_98 : decode b_K_feeOfDraft 98 = .ok (.aload_n 0, 1) := by decide +kernel
theorem d_K_feeOfDraft_99 : decode b_K_feeOfDraft 99 = .ok (.getfield 19, 3) := by decide +kernel
theorem d_K_feeOfDraft_102 : decode b_K_feeOfDraft 102 = .ok (.getfield 169, 3) := by decide +kernel
theorem d_K_feeOfDraft_105 : decode b_K_feeOfDraft 105 = .ok (.iload_n 3, 1) := by decide +kernel
theorem d_K_feeOfDraft_106 : decode b_K_feeOfDraft 106 = .ok (.laload, 1) := by decide +kernel
theorem d_K_feeOfDraft_107 : decode b_K_feeOfDraft 107 = .ok (.lload_n 1, 1) := by decide +kernel
theorem d_K_feeOfDraft_108 : decode b_K_feeOfDraft 108 = .ok (.lcmp, 1) := by decide +kernel
theorem d_K_feeOfDraft_109 : decode b_K_feeOfDraft 109 = .ok (.ifCond .le 7, 3) := by decide +kernel
theorem d_K_feeOfDraft_112 : decode b_K_feeOfDraft 112 = .ok (.ldc2_w 86, 3) := by decide +kernel
theorem d_K_feeOfDraft_115 : decode b_K_feeOfDraft 115 = .ok (.lreturn, 1) := by decide +kernel
theorem d_K_feeOfDraft_116 : decode b_K_feeOfDraft 116 = .ok (.lload_n 1, 1) := by decide +kernel
theorem d_K_feeOfDraft_117 : decode b_K_feeOfDraft 117 = .ok (.aload_n 0, 1) := by decide +kernel
theorem d_K_feeOfDraft_118 : decode b_K_feeOfDraft 118 = .ok (.getfield 19, 3) := by decide +kernel
theorem d_K_feeOfDraft_121 : decode b_K_feeOfDraft 121 = .ok (.getfield 169, 3) := by decide +kernel
theorem d_K_feeOfDraft_124 : decode b_K_feeOfDraft 124 = .ok (.iload_n 3, 1) := by decide +kernel
theorem d_K_feeOfDraft_125 : decode b_K_feeOfDraft 125 = .ok (.laload, 1) := by decide +kernel
theorem d_K_feeOfDraft_126 : decode b_K_feeOfDraft 126 = .ok (.lsub, 1) := by decide +kernel
theorem d_K_feeOfDraft_127 : decode b_K_feeOfDraft 127 = .ok (.lstore_n 1, 1) := by decide +kernel
theorem d_K_feeOfDraft_128 : decode b_K_feeOfDraft 128 = .ok (.iinc 3 1, 3) := by decide +kernel
theorem d_K_feeOfDraft_131 : decode b_K_feeOfDraft 131 = .ok (.goto (-44), 3) := by decide +kernel
theorem d_K_feeOfDraft_134 : decode b_K_feeOfDraft 134 = .ok (.lload_n 1, 1) := by decide +kernel
theorem d_K_feeOfDraft_135 : decode b_K_feeOfDraft 135 = .ok (.lreturn, 1) := by decide +kernel
theorem d_K_bookDraft_0 : decode b_K_bookDraft 0 = .ok (.iconst 0, 1) := by decide +kernel
theorem d_K_bookDraft_1 : decode b_K_bookDraft 1 = .ok (.istore_n 1, 1) := by decide +kernel
theorem d_K_bookDraft_2 : decode b_K_bookDraft 2 = .ok (.iload_n 1, 1) := by decide +kernel
theorem d_K_bookDraft_3 : decode b_K_bookDraft 3 = .ok (.aload_n 0, 1) := by decide +kernel
theorem d_K_bookDraft_4 : decode b_K_bookDraft 4 = .ok (.getfield 19, 3) := by decide +kernel
theorem d_K_bookDraft_7 : decode b_K_bookDraft 7 = .ok (.getfield 73, 3) := by decide +kernel
theorem d_K_bookDraft_10 : decode b_K_bookDraft 10 = .ok (.if_icmp .ge 32, 3) := by decide +kernel
theorem d_K_bookDraft_13 : decode b_K_bookDraft 13 = .ok (.aload_n 0, 1) := by decide +kernel
theorem d_K_bookDraft_14 : decode b_K_bookDraft 14 = .ok (.getfield 10, 3) := by decide +kernel
theorem d_K_bookDraft_17 : decode b_K_bookDraft 17 = .ok (.aload_n 0, 1) := by decide +kernel
theorem d_K_bookDraft_18 : decode b_K_bookDraft 18 = .ok (.getfield 19, 3) := by decide +kernel
theorem d_K_bookDraft_21 : decode b_K_bookDraft 21 = .ok (.getfield 166, 3) := by decide +kernel
theorem d_K_bookDraft_24 : decode b_K_bookDraft 24 = .ok (.iload_n 1, 1) := by decide +kernel
theorem d_K_bookDraft_25 : decode b_K_bookDraft 25 = .ok (.iaload, 1) := by decide +kernel
theorem d_K_bookDraft_26 : decode b_K_bookDraft 26 = .ok (.aload_n 0, 1) := by decide +kernel
theorem d_K_bookDraft_27 : decode b_K_bookDraft 27 = .ok (.getfield 37, 3) := by decide +kernel
theorem d_K_bookDraft_30 : decode b_K_bookDraft 30 = .ok (.getfield 109, 3) := by decide +kernel
theorem d_K_bookDraft_33 : decode b_K_bookDraft 33 = .ok (.invokevirtual 172, 3) := by decide +kernel
theorem d_K_bookDraft_36 : decode b_K_bookDraft 36 = .ok (.iinc 1 1, 3) := by decide +kernel
theorem d_K_bookDraft_39 : decode b_K_bookDraft 39 = .ok (.goto (-37), 3) := by decide +kernel
theorem d_K_bookDraft_42 : decode b_K_bookDraft 42 = .ok (.iconst 0, 1) := by decide +kernel
theorem d_K_bookDraft_43 : decode b_K_bookDraft 43 = .ok (.istore_n 1, 1) := by decide +kernel
theorem d_K_bookDraft_44 : decode b_K_bookDraft 44 = .ok (.iload_n 1, 1) := by decide +kernel
theorem d_K_bookDraft_45 : decode b_K_bookDraft 45 = .ok (.aload_n 0, 1) := by decide +kernel
theorem d_K_bookDraft_46 : decode b_K_bookDraft 46 = .ok (.getfield 19, 3) := by decide +kernel
theorem d_K_bookDraft_49 : decode b_K_bookDraft 49 = .ok (.getfield 77, 3) := by decide +kernel
theorem d_K_bookDraft_52 : decode b_K_bookDraft 52 = .ok (.if_icmp .ge 50, 3) := by decide +kernel
theorem d_K_bookDraft_55 : decode b_K_bookDraft 55 = .ok (.aload_n 0, 1) := by decide +kernel
theorem d_K_bookDraft_56 : decode b_K_bookDraft 56 = .ok (.getfield 10, 3) := by decide +kernel
theorem d_K_bookDraft_59 : decode b_K_bookDraft 59 = .ok (.aload_n 0, 1) := by decide +kernel
theorem d_K_bookDraft_60 : decode b_K_bookDraft 60 = .ok (.getfield 19, 3) := by decide +kernel
theorem d_K_bookDraft_63 : decode b_K_bookDraft 63 = .ok (.getfield 175, 3) := by decide +kernel
theorem d_K_bookDraft_66 : decode b_K_bookDraft 66 = .ok (.iload_n 1, 1) := by decide +kernel
theorem d_K_bookDraft_67 : decode b_K_bookDraft 67 = .ok (.iaload, 1) := by decide +kernel
theorem d_K_bookDraft_68 : decode b_K_bookDraft 68 = .ok (.aload_n 0, 1) := by decide +kernel
theorem d_K_bookDraft_69 : decode b_K_bookDraft 69 = .ok (.getfield 19, 3) := by decide +kernel
theorem d_K_bookDraft_72 : decode b_K_bookDraft 72 = .ok (.getfield 169, 3) := by decide +kernel
theorem d_K_bookDraft_75 : decode b_K_bookDraft 75 = .ok (.iload_n 1, 1) := by decide +kernel
theorem d_K_bookDraft_76 : decode b_K_bookDraft 76 = .ok (.laload, 1) := by decide +kernel
theorem d_K_bookDraft_77 : decode b_K_bookDraft 77 = .ok (.aload_n 0, 1) := by decide +kernel
theorem d_K_bookDraft_78 : decode b_K_bookDraft 78 = .ok (.getfield 19, 3) := by decide +kernel
theorem d_K_bookDraft_81 : decode b_K_bookDraft 81 = .ok (.getfield 176, 3) := by decide +kernel
theorem d_K_bookDraft_84 : decode b_K_bookDraft 84 = .ok (.iload_n 1, 1) := by decide +kernel
theorem d_K_bookDraft_85 : decode b_K_bookDraft 85 = .ok (.laload, 1) := by decide +kernel
theorem d_K_bookDraft_86 : decode b_K_bookDraft 86 = .ok (.aload_n 0, 1) := by decide +kernel
theorem d_K_bookDraft_87 : decode b_K_bookDraft 87 = .ok (.getfield 37, 3) := by decide +kernel
theorem d_K_bookDraft_90 : decode b_K_bookDraft 90 = .ok (.getfield 109, 3) := by decide +kernel
theorem d_K_bookDraft_93 : decode b_K_bookDraft 93 = .ok (.invokevirtual 177, 3) := by decide +kernel
theorem d_K_bookDraft_96 : decode b_K_bookDraft 96 = .ok (.iinc 1 1, 3) := by decide +kernel
theorem d_K_bookDraft_99 : decode b_K_bookDraft 99 = .ok (.goto (-55), 3) := by decide +kernel
theorem d_K_bookDraft_102 : decode b_K_bookDraft 102 = .ok (.return_, 1) := by decide +kernel
end
section
theorem d_M_init_0 : decode b_M_init 0 = .ok (.aload_n 0, 1) := by decide +kernel
theorem d_M_init_1 : decode b_M_init 1 = .ok (.invokespecial 1, 3) := by decide +kernel
theorem d_M_init_4 : decode b_M_init 4 = .ok (.aload_n 0, 1) := by decide +kernel
theorem d_M_init_5 : decode b_M_init 5 = .ok (.sipush 2048, 3) := by decide +kernel
theorem d_M_init_8 : decode b_M_init 8 = .ok (.newarray .int, 2) := by decide +kernel
theorem d_M_init_10 : decode b_M_init 10 = .ok (.putfield 7, 3) := by decide +kernel
theorem d_M_init_13 : decode b_M_init 13 = .ok (.aload_n 0, 1) := by decide +kernel
theorem d_M_init_14 : decode b_M_init 14 = .ok (.sipush 2048, 3) := by decide +kernel
theorem d_M_init_17 : decode b_M_init 17 = .ok (.newarray .long, 2) := by decide +kernel
theorem d_M_init_19 : decode b_M_init 19 = .ok (.putfield 13, 3) := by decide +kernel
theorem d_M_init_22 : decode b_M_init 22 = .ok (.aload_n 0, 1) := by decide +kernel
theorem d_M_init_23 : decode b_M_init 23 = .ok (.sipush 2048, 3) := by decide +kernel
theorem d_M_init_26 : decode b_M_init 26 = .ok (.newarray .long, 2) := by decide +kernel
theorem d_M_init_28 : decode b_M_init 28 = .ok (.putfield 17, 3) := by decide +kernel
theorem d_M_init_31 : decode b_M_init 31 = .ok (.aload_n 0, 1) := by decide +kernel
theorem d_M_init_32 : decode b_M_init 32 = .ok (.sipush 2048, 3) := by decide +kernel
theorem d_M_init_35 : decode b_M_init 35 = .ok (.newarray .int, 2) := by decide +kernel
theorem d_M_init_37 : decode b_M_init 37 = .ok (.putfield 20, 3) := by decide +kernel
theorem d_M_init_40 : decode b_M_init 40 = .ok (.aload_n 0, 1) := by decide +kernel
theorem d_M_init_41 : decode b_M_init 41 = .ok (.sipush 2048, 3) := by decide +kernel
theorem d_M_init_44 : decode b_M_init 44 = .ok (.newarray .int, 2) := by decide +kernel
theorem d_M_init_46 : decode b_M_init 46 = .ok (.putfield 23, 3) := by decide +kernel
theorem d_M_init_49 : decode b_M_init 49 = .ok (.aload_n 0, 1) := by decide +kernel
theorem d_M_init_50 : decode b_M_init 50 = .ok (.sipush 25000, 3) := by decide +kernel
theorem d_M_init_53 : decode b_M_init 53 = .ok (.newarray .long, 2) := by decide +kernel
theorem d_M_init_55 : decode b_M_init 55 = .ok (.putfield 26, 3) := by decide +kernel
theorem d_M_init_58 : decode b_M_init 58 = .ok (.aload_n 0, 1) := by decide +kernel
theorem d_M_init_59 : decode b_M_init 59 = .ok (.sipush 25000, 3) := by decide +kernel
theorem d_M_init_62 : decode b_M_init 62 = .ok (.newarray .long, 2) := by decide +kernel
theorem d_M_init_64 : decode b_M_init 64 = .ok (.putfield 29, 3) := by decide +kernel
theorem d_M_init_67 : decode b_M_init 67 = .ok (.aload_n 0, 1) := by decide +kernel
theorem d_M_init_68 : decode b_M_init 68 = .ok (.sipush 25000, 3) := by decide +kernel
theorem d_M_init_71 : decode b_M_init 71 = .ok (.newarray .int, 2) := by decide +kernel
theorem d_M_init_73 : decode b_M_init 73 = .ok (.putfield 32, 3) := by decide +kernel
theorem d_M_init_76 : decode b_M_init 76 = .ok (.aload_n 0, 1) := by decide +kernel
theorem d_M_init_77 : decode b_M_init 77 = .ok (.bipush 16, 2) := by decide +kernel
theorem d_M_init_79 : decode b_M_init 79 = .ok (.newarray .int, 2) := by decide +kernel
theorem d_M_init_81 : decode b_M_init 81 = .ok (.putfield 35, 3) := by decide +kernel
theorem d_M_init_84 : decode b_M_init 84 = .ok (.aload_n 0, 1) := by decide +kernel
theorem d_M_init_85 : decode b_M_init 85 = .ok (.bipush 16, 2) := by decide +kernel
theorem d_M_init_87 : decode b_M_init 87 = .ok (.newarray .int, 2) := by decide +kernel
theorem d_M_init_89 : decode b_M_init 89 = .ok (.putfield 38, 3) := by decide +kernel
theorem d_M_init_92 : decode b_M_init 92 = .ok (.aload_n 0, 1) := by decide +kernel
theorem d_M_init_93 : decode b_M_init 93 = .ok (.bipush 16, 2) := by decide +kernel
theorem d_M_init_95 : decode b_M_init 95 = .ok (.newarray .long, 2) := by decide +kernel
theorem d_M_init_97 : decode b_M_init 97 = .ok (.putfield 41, 3) := by decide +kernel
theorem d_M_init_100 : decode b_M_init 100 = .ok (.aload_n 0, 1) := by decide +kernel
theorem d_M_init_101 : decode b_M_init 101 = .ok (.bipush 16, 2) := by decide +kernel
theorem d_M_init_103 : decode b_M_init 103 = .ok (.newarray .long, 2) := by decide +kernel
theorem d_M_init_105 : decode b_M_init 105 = .ok (.putfield 44, 3) := by decide +kernel
theorem d_M_init_108 : decode b_M_init 108 = .ok (.aload_n 0, 1) := by decide +kernel
theorem d_M_init_109 : decode b_M_init 109 = .ok (.bipush 16, 2) := by decide +kernel
theorem d_M_init_111 : decode b_M_init 111 = .ok (.newarray .int, 2) := by decide +kernel
theorem d_M_init_113 : decode b_M_init 113 = .ok (.putfield 47, 3) := by decide +kernel
theorem d_M_init_116 : decode b_M_init 116 = .ok (.aload_n 0, 1) := by decide +kernel
theorem d_M_init_117 : decode b_M_init 117 = .ok (.iload_n 1, 1) := by decide +kernel
theorem d_M_init_118 : decode b_M_init 118 = .ok (.iconst 1, 1) := by decide +kernel
theorem d_M_init_119 : decode b_M_init 119 = .ok (.if_icmp .ge 7, 3) := by decide +kernel
theorem d_M_init_122 : decode b_M_init 122 = .ok (.iconst 1, 1) := by decide +kernel
theorem d_M_init_123 : decode b_M_init 123 = .ok (.goto 15, 3) := by decide +kernel
theorem d_M_init_126 : decode b_M_init 126 = .ok (.iload_n 1, 1) := by decide +kernel
theorem d_M_init_127 : decode b_M_init 127 = .ok (.bipush 64, 2) := by decide +kernel
theorem d_M_init_129 : decode b_M_init 129 = .ok (.if_icmp .le 8, 3) := by decide +kernel
theorem d_M_init_132 : decode b_M_init 132 = .ok (.bipush 64, 2) := by decide +kernel
theorem d_M_init_134 : decode b_M_init 134 = .ok (.goto 4, 3) := by decide +kernel
theorem d_M_init_137 : decode b_M_init 137 = .ok (.iload_n 1, 1) := by decide +kernel
theorem d_M_init_138 : decode b_M_init 138 = .ok (.putfield 50, 3) := by decide +kernel
theorem d_M_init_141 : decode b_M_init 141 = .ok (.return_, 1) := by decide +kernel
theorem d_M_isMade_0 : decode b_M_isMade 0 = .ok (.iload_n 1, 1) := by decide +kernel
theorem d_M_isMade_1 : decode b_M_isMade 1 = .ok (.ifCond .lt 15, 3) := by decide +kernel
theorem d_M_isMade_4 : decode b_M_isMade 4 = .ok (.iload_n 1, 1) := by decide +kernel
theorem d_M_isMade_5 : decode b_M_isMade 5 = .ok (.aload_n 0, 1) := by decide +kernel
theorem d_M_isMade_6 : decode b_M_isMade 6 = .ok (.getfield 57, 3) := by decide +kernel
theorem d_M_isMade_9 : decode b_M_isMade 9 = .ok (.if_icmp .ge 7, 3) := by decide +kernel
theorem d_M_isMade_12 : decode b_M_isMade 12 = .ok (.iconst 1, 1) := by decide +kernel
theorem d_M_isMade_13 : decode b_M_isMade 13 = .ok (.goto 4, 3) := by decide +kernel
theorem d_M_isMade_16 : decode b_M_isMade 16 = .ok (.iconst 0, 1) := by decide +kernel
theorem d_M_isMade_17 : decode b_M_isMade 17 = .ok (.ireturn, 1) := by decide +kernel
theorem d_M_isLive_0 : decode b_M_isLive 0 = .ok (.aload_n 0, 1) := by decide +kernel
theorem d_M_isLive_1 : decode b_M_isLive 1 = .ok (.iload_n 1, 1) := by decide +kernel
theorem d_M_isLive_2 : decode b_M_isLive 2 = .ok (.invokevirtual 60, 3) := by decide +kernel
theorem d_M_isLive_5 : decode b_M_isLive 5 = .ok (.ifCond .eq 16, 3) := by decide +kernel
theorem d_M_isLive_8 : decode b_M_isLive 8 = .ok (.aload_n 0, 1) := by decide +kernel
theorem d_M_isLive_9 : decode b_M_isLive 9 = .ok (.getfield 23, 3) := by decide +kernel
theorem d_M_isLive_12 : decode b_M_isLive 12 = .ok (.iload_n 1, 1) := by decide +kernel
theorem d_M_isLive_13 : decode b_M_isLive 13 = .ok (.iaload, 1) := by decide +kernel
theorem d_M_isLive_14 : decode b_M_isLive 14 = .ok (.ifCond .ge 7, 3) := by decide +kernel
theorem d_M_isLive_17 : decode b_M_isLive 17 = .ok (.iconst 1, 1) := by decide +kernel
theorem d_M_isLive_18 : decode b_M_isLive 18 = .ok (.goto 4, 3) := by decide +kernel
theorem d_M_isLive_21 : decode b_M_isLive 21 = .ok (.iconst 0, 1) := by decide +kernel
theorem d_M_isLive_22 : decode b_M_isLive 22 = .ok (.ireturn, 1) := by decide +kernel
theorem d_M_isDrafted_0 : decode b_M_isDrafted 0 = .ok (.iconst 0, 1) := by decide +kernel
theorem d_M_isDrafted_1 : decode b_M_isDrafted 1 = .ok (.istore_n 2, 1) := by decide +kernel
theorem d_M_isDrafted_2 : decode b_M_isDrafted 2 = .ok (.iconst 0, 1) := by decide +kernel
theorem d_M_isDrafted_3 : decode b_M_isDrafted 3 = .ok (.istore_n 3, 1) := by decide +kernel
theorem d_M_isDrafted_4 : decode b_M_isDrafted 4 = .ok (.iload_n 3, 1) := by decide +kernel
theorem d_M_isDrafted_5 : decode b_M_isDrafted 5 = .ok (.aload_n 0, 1) := by decide +kernel
theorem d_M_isDrafted_6 : decode b_M_isDrafted 6 = .ok (.getfield 64, 3) := by decide +kernel
theorem d_M_isDrafted_9 : decode b_M_isDrafted 9 = .ok (.if_icmp .ge 29, 3) := by decide +kernel
theorem d_M_isDrafted_12 : decode b_M_isDrafted 12 = .ok (.iload_n 2, 1) := by decide +kernel
theorem d_M_isDrafted_13 : decode b_M_isDrafted 13 = .ok (.ifCond .ne 13, 3) := by decide +kernel
theorem d_M_isDrafted_16 : decode b_M_isDrafted 16 = .ok (.aload_n 0, 1) := by decide +kernel
theorem d_M_isDrafted_17 : decode b_M_isDrafted 17 = .ok (.getfield 35, 3) := by decide +kernel
theorem d_M_isDrafted_20 : decode b_M_isDrafted 20 = .ok (.iload_n 3, 1) := by decide +kernel
theorem d_M_isDrafted_21 : decode b_M_isDrafted 21 = .ok (.iaload, 1) := by decide +kernel
theorem d_M_isDrafted_22 : decode b_M_isDrafted 22 = .ok (.iload_n 1, 1) := by decide +kernel
theorem d_M_isDrafted_23 : decode b_M_isDrafted 23 = .ok (.if_icmp .ne 7, 3) := by decide +kernel
theorem d_M_isDrafted_26 : decode b_M_isDrafted 26 = .ok (.iconst 1, 1) := by decide +kernel
theorem d_M_isDrafted_27 : decode b_M_isDrafted 27 = .ok (.goto 4, 3) := by decide +kernel
theorem d_M_isDrafted_30 : decode b_M_isDrafted 30 = .ok (.iconst 0, 1) := by decide +kernel
theorem d_M_isDrafted_31 : decode b_M_isDrafted 31 = .ok (.istore_n 2, 1) := by decide +kernel
theorem d_M_isDrafted_32 : decode b_M_isDrafted 32 = .ok (.iinc 3 1, 3) := by decide +kernel
theorem d_M_isDrafted_35 : decode b_M_isDrafted 35 = .ok (.goto (-31), 3) := by decide +kernel
theorem d_M_isDrafted_38 : decode b_M_isDrafted 38 = .ok (.iload_n 2, 1) := by decide +kernel
theorem d_M_isDrafted_39 : decode b_M_isDrafted 39 = .ok (.ireturn, 1) := by decide +kernel
theorem d_M_isOwner_0 : decode b_M_isOwner 0 = .ok (.iload_n 0, 1) := by decide +kernel
theorem d_M_isOwner_1 : decode b_M_isOwner 1 = .ok (.ifCond .lt 14, 3) := by decide +kernel
theorem d_M_isOwner_4 : decode b_M_isOwner 4 = .ok (.iload_n 0, 1) := by decide +kernel
theorem d_M_isOwner_5 : decode b_M_isOwner 5 = .ok (.sipush 256, 3) := by decide +kernel
theorem d_M_isOwner_8 : decode b_M_isOwner 8 = .ok (.if_icmp .ge 7, 3) := by decide +kernel
theorem d_M_isOwner_11 : decode b_M_isOwner 11 = .ok (.iconst 1, 1) := by decide +kernel
theorem d_M_isOwner_12 : decode b_M_isOwner 12 = .ok (.goto 4, 3) := by decide +kernel
theorem d_M_isOwner_15 : decode b_M_isOwner 15 = .ok (.iconst 0, 1) := by decide +kernel
theorem d_M_isOwner_16 : decode b_M_isOwner 16 = .ok (.ireturn, 1) := by decide +kernel
theorem d_M_empty_0 : decode b_M_empty 0 = .ok (.aload_n 0, 1) := by decide +kernel
theorem d_M_empty_1 : decode b_M_empty 1 = .ok (.iconst 0, 1) := by decide +kernel
theorem d_M_empty_2 : decode b_M_empty 2 = .ok (.putfield 64, 3) := by decide +kernel
theorem d_M_empty_5 : decode b_M_empty 5 = .ok (.aload_n 0, 1) := by decide +kernel
theorem d_M_empty_6 : decode b_M_empty 6 = .ok (.iconst 0, 1) := by decide +kernel
theorem d_M_empty_7 : decode b_M_empty 7 = .ok (.putfield 67, 3) := by decide +kernel
theorem d_M_empty_10 : decode b_M_empty 10 = .ok (.aload_n 0, 1) := by decide +kernel
theorem d_M_empty_11 : decode b_M_empty 11 = .ok (.lconst 0, 1) := by decide +kernel
theorem d_M_empty_12 : decode b_M_empty 12 = .ok (.putfield 70, 3) := by decide +kernel
theorem d_M_empty_15 : decode b_M_empty 15 = .ok (.return_, 1) := by decide +kernel
theorem d_M_spend_0 : decode b_M_spend 0 = .ok (.aload_n 0, 1) := by decide +kernel
theorem d_M_spend_1 : decode b_M_spend 1 = .ok (.iconst 0, 1) := by decide +kernel
theorem d_M_spend_2 : decode b_M_spend 2 = .ok (.putfield 54, 3) := by decide +kernel
theorem d_M_spend_5 : decode b_M_spend 5 = .ok (.aload_n 0, 1) := by decide +kernel
theorem d_M_spend_6 : decode b_M_spend 6 = .ok (.iload_n 1, 1) := by decide +kernel
theorem d_M_spend_7 : decode b_M_spend 7 = .ok (.invokevirtual 74, 3) := by decide +kernel
theorem d_M_spend_10 : decode b_M_spend 10 = .ok (.ifCond .eq 20, 3) := by decide +kernel
theorem d_M_spend_13 : decode b_M_spend 13 = .ok (.aload_n 0, 1) := by decide +kernel
theorem d_M_spend_14 : decode b_M_spend 14 = .ok (.iload_n 1, 1) := by decide +kernel
theorem d_M_spend_15 : decode b_M_spend 15 = .ok (.invokevirtual 77, 3) := by decide +kernel
theorem d_M_spend_18 : decode b_M_spend 18 = .ok (.ifCond .ne 12, 3) := by decide +kernel
theorem d_M_spend_21 : decode b_M_spend 21 = .ok (.aload_n 0, 1) := by decide +kernel
theorem d_M_spend_22 : decode b_M_spend 22 = .ok (.getfield 64, 3) := by decide +kernel
theorem d_M_spend_25 : decode b_M_spend 25 = .ok (.bipush 16, 2) := by decide +kernel
theorem d_M_spend_27 : decode b_M_spend 27 = .ok (.if_icmp .ne 5, 3) := by decide +kernel
theorem d_M_spend_30 : decode b_M_spend 30 = .ok (.iconst 0, 1) := by decide +kernel
theorem d_M_spend_31 : decode b_M_spend 31 = .ok (.ireturn, 1) := by decide +kernel
theorem d_M_spend_32 : decode b_M_spend 32 = .ok (.aload_n 0, 1) := by decide +kernel
theorem d_M_spend_33 : decode b_M_spend 33 = .ok (.getfield 35, 3) := by decide +kernel
theorem d_M_spend_36 : decode b_M_spend 36 = .ok (.aload_n 0, 1) := by decide +kernel
theorem d_M_spend_37 : decode b_M_spend 37 = .ok (.getfield 64, 3) := by decide +kernel
theorem d_M_spend_40 : decode b_M_spend 40 = .ok (.iload_n 1, 1) := by decide +kernel
theorem d_M_spend_41 : decode b_M_spend 41 = .ok (.iastore, 1) := by decide +kernel
theorem d_M_spend_42 : decode b_M_spend 42 = .ok (.aload_n 0, 1) := by decide +kernel
theorem d_M_spend_43 : decode b_M_spend 43 = .ok (.dup, 1) := by decide +kernel
theorem d_M_spend_44 : decode b_M_spend 44 = .ok (.getfield 64, 3) := by decide +kernel
theorem d_M_spend_47 : decode b_M_spend 47 = .ok (.iconst 1, 1) := by decide +kernel
theorem d_M_spend_48 : decode b_M_spend 48 = .ok (.iadd, 1) := by decide +kernel
theorem d_M_spend_49 : decode b_M_spend 49 = .ok (.putfield 64, 3) := by decide +kernel
theorem d_M_spend_52 : decode b_M_spend 52 = .ok (.iconst 1, 1) := by decide +kernel
theorem d_M_spend_53 : decode b_M_spend 53 = .ok (.ireturn, 1) := by decide +kernel
theorem d_M_make_0 : decode b_M_make 0 = .ok (.aload_n 0, 1) := by decide +kernel
theorem d_M_make_1 : decode b_M_make 1 = .ok (.iconst 0, 1) := by decide +kernel
theorem d_M_make_2 : decode b_M_make 2 = .ok (.putfield 54, 3) := by decide +kernel
theorem d_M_make_5 : decode b_M_make 5 = .ok (.iload_n 1, 1) := by decide +kernel
theorem d_M_make_6 : decode b_M_make 6 = .ok (.invokestatic 80, 3) := by decide +kernel
theorem d_M_make_9 : decode b_M_make 9 = .ok (.ifCond .eq 18, 3) := by decide +kernel
theorem d_M_make_12 : decode b_M_make 12 = .ok (.lload_n 2, 1) := by decide +kernel
theorem d_M_make_13 : decode b_M_make 13 = .ok (.lconst 1, 1) := by decide +kernel
theorem d_M_make_14 : decode b_M_make 14 = .ok (.lcmp, 1) := by decide +kernel
theorem d_M_make_15 : decode b_M_make 15 = .ok (.ifCond .lt 12, 3) := by decide +kernel
theorem d_M_make_18 : decode b_M_make 18 = .ok (.aload_n 0, 1) := by decide +kernel
theorem d_M_make_19 : decode b_M_make 19 = .ok (.getfield 67, 3) := by decide +kernel
theorem d_M_make_22 : decode b_M_make 22 = .ok (.bipush 16, 2) := by decide +kernel
theorem d_M_make_24 : decode b_M_make 24 = .ok (.if_icmp .ne 5, 3) := by decide +kernel
theorem d_M_make_27 : decode b_M_make 27 = .ok (.iconst 0, 1) := by decide +kernel
theorem d_M_make_28 : decode b_M_make 28 = .ok (.ireturn, 1) := by decide +kernel
theorem d_M_make_29 : decode b_M_make 29 = .ok (.aload_n 0, 1) := by decide +kernel
theorem d_M_make_30 : decode b_M_make 30 = .ok (.getfield 38, 3) := by decide +kernel
theorem d_M_make_33 : decode b_M_make 33 = .ok (.aload_n 0, 1) := by decide +kernel
theorem d_M_make_34 : decode b_M_make 34 = .ok (.getfield 67, 3) := by decide +kernel
theorem d_M_make_37 : decode b_M_make 37 = .ok (.iload_n 1, 1) := by decide +kernel
theorem d_M_make_38 : decode b_M_make 38 = .ok (.iastore, 1) := by decide +kernel
theorem d_M_make_39 : decode b_M_make 39 = .ok (.aload_n 0, 1) := by decide +kernel
theorem d_M_make_40 : decode b_M_make 40 = .ok (.getfield 41, 3) := by decide +kernel
theorem d_M_make_43 : decode b_M_make 43 = .ok (.aload_n 0, 1) := by decide +kernel
theorem d_M_make_44 : decode b_M_make 44 = .ok (.getfield 67, 3) := by decide +kernel
theorem d_M_make_47 : decode b_M_make 47 = .ok (.lload_n 2, 1) := by decide +kernel
theorem d_M_make_48 : decode b_M_make 48 = .ok (.lastore, 1) := by decide +kernel
theorem d_M_make_49 : decode b_M_make 49 = .ok (.aload_n 0, 1) := by decide +kernel
theorem d_M_make_50 : decode b_M_make 50 = .ok (.getfield 44, 3) := by decide +kernel
theorem d_M_make_53 : decode b_M_make 53 = .ok (.aload_n 0, 1) := by decide +kernel
theorem d_M_make_54 : decode b_M_make 54 = .ok (.getfield 67, 3) := by decide +kernel
theorem d_M_make_57 : decode b_M_make 57 = .ok (.lload 4, 2) := by decide +kernel
theorem d_M_make_59 : decode b_M_make 59 = .ok (.lastore, 1) := by decide +kernel
theorem d_M_make_60 : decode b_M_make 60 = .ok (.aload_n 0, 1) := by decide +kernel
theorem d_M_make_61 : decode b_M_make 61 = .ok (.dup, 1) := by decide +kernel
theorem d_M_make_62 : decode b_M_make 62 = .ok (.getfield 67, 3) := by decide +kernel
theorem d_M_make_65 : decode b_M_make 65 = .ok (.iconst 1, 1) := by decide +kernel
theorem d_M_make_66 : decode b_M_make 66 = .ok (.iadd, 1) := by decide +kernel
theorem d_M_make_67 : decode b_M_make 67 = .ok (.putfield 67, 3) := by decide +kernel
theorem d_M_make_70 : decode b_M_make 70 = .ok (.iconst 1, 1) := by decide +kernel
theorem d_M_make_71 : decode b_M_make 71 = .ok (.ireturn, 1) := by decide +kernel
theorem d_M_mint_0 : decode b_M_mint 0 = .ok (.aload_n 0, 1) := by decide +kernel
theorem d_M_mint_1 : decode b_M_mint 1 = .ok (.iconst 0, 1) := by decide +kernel
theorem d_M_mint_2 : decode b_M_mint 2 = .ok (.putfield 54, 3) := by decide +kernel
theorem d_M_mint_5 : decode b_M_mint 5 = .ok (.aload_n 0, 1) := by decide +kernel
theorem d_M_mint_6 : decode b_M_mint 6 = .ok (.lload_n 1, 1) := by decide +kernel
theorem d_M_mint_7 : decode b_M_mint 7 = .ok (.putfield 70, 3) := by decide +kernel
theorem d_M_mint_10 : decode b_M_mint 10 = .ok (.return_, 1) := by decide +kernel
theorem d_M_drop_0 : decode b_M_drop 0 = .ok (.aload_n 0, 1) := by decide +kernel
theorem d_M_drop_1 : decode b_M_drop 1 = .ok (.iconst 0, 1) := by decide +kernel
theorem d_M_drop_2 : decode b_M_drop 2 = .ok (.putfield 54, 3) := by decide +kernel
theorem d_M_drop_5 : decode b_M_drop 5 = .ok (.aload_n 0, 1) := by decide +kernel
theorem d_M_drop_6 : decode b_M_drop 6 = .ok (.invokevirtual 83, 3) := by decide +kernel
theorem d_M_drop_9 : decode b_M_drop 9 = .ok (.return_, 1) := by decide +kernel
theorem d_M_apply_0 : decode b_M_apply 0 = .ok (.aload_n 0, 1) := by decide +kernel
theorem d_M_apply_1 : decode b_M_apply 1 = .ok (.iconst 0, 1) := by decide +kernel
theorem d_M_apply_2 : decode b_M_apply 2 = .ok (.putfield 54, 3) := by decide +kernel
theorem d_M_apply_5 : decode b_M_apply 5 = .ok (.aload_n 0, 1) := by decide +kernel
theorem d_M_apply_6 : decode b_M_apply 6 = .ok (.getfield 64, 3) := by decide +kernel
theorem d_M_apply_9 : decode b_M_apply 9 = .ok (.ifCond .ne 14, 3) := by decide +kernel
theorem d_M_apply_12 : decode b_M_apply 12 = .ok (.aload_n 0, 1) := by decide +kernel
theorem d_M_apply_13 : decode b_M_apply 13 = .ok (.getfield 67, 3) := by decide +kernel
theorem d_M_apply_16 : decode b_M_apply 16 = .ok (.ifCond .ne 7, 3) := by decide +kernel
theorem d_M_apply_19 : decode b_M_apply 19 = .ok (.ldc2_w 86, 3) := by decide +kernel
theorem d_M_apply_22 : decode b_M_apply 22 = .ok (.lreturn, 1) := by decide +kernel
theorem d_M_apply_23 : decode b_M_apply 23 = .ok (.aload_n 0, 1) := by decide +kernel
theorem d_M_apply_24 : decode b_M_apply 24 = .ok (.getfield 70, 3) := by decide +kernel
theorem d_M_apply_27 : decode b_M_apply 27 = .ok (.ldc2_w 88, 3) := by decide +kernel
theorem d_M_apply_30 : decode b_M_apply 30 = .ok (.aload_n 0, 1) := by decide +kernel
theorem d_M_apply_31 : decode b_M_apply 31 = .ok (.getfield 90, 3) := by decide +kernel
theorem d_M_apply_34 : decode b_M_apply 34 = .ok (.lsub, 1) := by decide +kernel
theorem d_M_apply_35 : decode b_M_apply 35 = .ok (.lcmp, 1) := by decide +kernel
theorem d_M_apply_36 : decode b_M_apply 36 = .ok (.ifCond .gt 16, 3) := by decide +kernel
theorem d_M_apply_39 : decode b_M_apply 39 = .ok (.aload_n 0, 1) := by decide +kernel
theorem d_M_apply_40 : decode b_M_apply 40 = .ok (.getfield 70, 3) := by decide +kernel
theorem d_M_apply_43 : decode b_M_apply 43 = .ok (.aload_n 0, 1) := by decide +kernel
theorem d_M_apply_44 : decode b_M_apply 44 = .ok (.getfield 90, 3) := by decide +kernel
theorem d_M_apply_47 : decode b_M_apply 47 = .ok (.lneg, 1) := by decide +kernel
theorem d_M_apply_48 : decode b_M_apply 48 = .ok (.lcmp, 1) := by decide +kernel
theorem d_M_apply_49 : decode b_M_apply 49 = .ok (.ifCond .ge 7, 3) := by decide +kernel
theorem d_M_apply_52 : decode b_M_apply 52 = .ok (.ldc2_w 93, 3) := by decide +kernel
theorem d_M_apply_55 : decode b_M_apply 55 = .ok (.lreturn, 1) := by decide +kernel
theorem d_M_apply_56 : decode b_M_apply 56 = .ok (.aload_n 0, 1) := by decide +kernel
theorem d_M_apply_57 : decode b_M_apply 57 = .ok (.getfield 70, 3) := by decide +kernel
theorem d_M_apply_60 : decode b_M_apply 60 = .ok (.lstore_n 1, 1) := by decide +kernel
theorem d_M_apply_61 : decode b_M_apply 61 = .ok (.iconst 0, 1) := by decide +kernel
theorem d_M_apply_62 : decode b_M_apply 62 = .ok (.istore_n 3, 1) := by decide +kernel
theorem d_M_apply_63 : decode b_M_apply 63 = .ok (.iload_n 3, 1) := by decide +kernel
theorem d_M_apply_64 : decode b_M_apply 64 = .ok (.aload_n 0, 1) := by decide +kernel
theorem d_M_apply_65 : decode b_M_apply 65 = .ok (.getfield 64, 3) := by decide +kernel
theorem d_M_apply_68 : decode b_M_apply 68 = .ok (.if_icmp .ge 23, 3) := by decide +kernel
theorem d_M_apply_71 : decode b_M_apply 71 = .ok (.lload_n 1, 1) := by decide +kernel
theorem d_M_apply_72 : decode b_M_apply 72 = .ok (.aload_n 0, 1) := by decide +kernel
theorem d_M_apply_73 : decode b_M_apply 73 = .ok (.getfield 13, 3) := by decide +kernel
theorem d_M_apply_76 : decode b_M_apply 76 = .ok (.aload_n 0, 1) := by decide +kernel
theorem d_M_apply_77 : decode b_M_apply 77 = .ok (.getfield 35, 3) := by decide +kernel
theorem d_M_apply_80 : decode b_M_apply 80 = .ok (.iload_n 3, 1) := by decide +kernel
theorem d_M_apply_81 : decode b_M_apply 81 = .ok (.iaload, 1) := by decide +kernel
theorem d_M_apply_82 : decode b_M_apply 82 = .ok (.laload, 1) := by decide +kernel
theorem d_M_apply_83 : decode b_M_apply 83 = .ok (.ladd, 1) := by decide +kernel
theorem d_M_apply_84 : decode b_M_apply 84 = .ok (.lstore_n 1, 1) := by decide +kernel
theorem d_M_apply_85 : decode b_M_apply 85 = .ok (.iinc 3 1, 3) := by decide +kernel
theorem d_M_apply_88 : decode b_M_apply 88 = .ok (.goto (-25), 3) := by decide +kernel
theorem d_M_apply_91 : decode b_M_apply 91 = .ok (.iconst 0, 1) := by decide +kernel
theorem d_M_apply_92 : decode b_M_apply 92 = .ok (.istore_n 3, 1) := by decide +kernel
theorem d_M_apply_93 : decode b_M_apply 93 = .ok (.iload_n 3, 1) := by decide +kernel
theorem d_M_apply_94 : decode b_M_apply 94 = .ok (.aload_n 0, 1) := by decide +kernel
theorem d_M_apply_95 : decode b_M_apply 95 = .ok (.getfield 67, 3) := by decide +kernel
theorem d_M_apply_98 : decode b_M_apply 98 = .ok (.if_icmp .ge 33, 3) := by decide +kernel
theorem d_M_apply_101 : decode b_M_apply 101 = .ok (.aload_n 0, 1) := by decide +kernel
theorem d_M_apply_102 : decode b_M_apply 102 = .ok (.getfield 41, 3) := by decide +kernel
theorem d_M_apply_105 : decode b_M_apply 105 = .ok (.iload_n 3, 1) := by decide +kernel
theorem d_M_apply_106 : decode b_M_apply 106 = .ok (.laload, 1) := by decide +kernel
theorem d_M_apply_107 : decode b_M_apply 107 = .ok (.lload_n 1, 1) := by decide +kernel
theorem d_M_apply_108 : decode b_M_apply 108 = .ok (.lcmp, 1) := by decide +kernel
theorem d_M_apply_109 : decode b_M_apply 109 = .ok (.ifCond .le 7, 3) := by decide +kernel
theorem d_M_apply_112 : decode b_M_apply 112 = .ok (.ldc2_w 93, 3) := by decide +kernel
theorem d_M_apply_115 : decode b_M_apply 115 = .ok (.lreturn, 1) := by decide +kernel
theorem d_M_apply_116 : decode b_M_apply 116 = .ok (.lload_n 1, 1) := by decide +kernel
theorem d_M_apply_117 : decode b_M_apply 117 = .ok (.aload_n 0, 1) := by decide +kernel
theorem d_M_apply_118 : decode b_M_apply 118 = .ok (.getfield 41, 3) := by decide +kernel
theorem d_M_apply_121 : decode b_M_apply 121 = .ok (.iload_n 3, 1) := by decide +kernel
theorem d_M_apply_122 : decode b_M_apply 122 = .ok (.laload, 1) := by decide +kernel
theorem d_M_apply_123 : decode b_M_apply 123 = .ok (.lsub, 1) := by decide +kernel
theorem d_M_apply_124 : decode b_M_apply 124 = .ok (.lstore_n 1, 1) := by decide +kernel
theorem d_M_apply_125 : decode b_M_apply 125 = .ok (.iinc 3 1, 3) := by decide +kernel
theorem d_M_apply_128 : decode b_M_apply 128 = .ok (.goto (-35), 3) := by decide +kernel
theorem d_M_apply_131 : decode b_M_apply 131 = .ok (.lload_n 1, 1) := by decide +kernel
theorem d_M_apply_132 : decode b_M_apply 132 = .ok (.lconst 0, 1) := by decide +kernel
theorem d_M_apply_133 : decode b_M_apply 133 = .ok (.lcmp, 1) := by decide +kernel
theorem d_M_apply_134 : decode b_M_apply 134 = .ok (.ifCond .ge 7, 3) := by decide +kernel
theorem d_M_apply_137 : decode b_M_apply 137 = .ok (.ldc2_w 93, 3) := by decide +kernel
theorem d_M_apply_140 : decode b_M_apply 140 = .ok (.lreturn, 1) := by decide +kernel
theorem d_M_apply_141 : decode b_M_apply 141 = .ok (.aload_n 0, 1) := by decide +kernel
theorem d_M_apply_142 : decode b_M_apply 142 = .ok (.getfield 57, 3) := by decide +kernel
theorem d_M_apply_145 : decode b_M_apply 145 = .ok (.aload_n 0, 1) := by decide +kernel
theorem d_M_apply_146 : decode b_M_apply 146 = .ok (.getfield 67, 3) := by decide +kernel
theorem d_M_apply_149 : decode b_M_apply 149 = .ok (.iadd, 1) := by decide +kernel
theorem d_M_apply_150 : decode b_M_apply 150 = .ok (.sipush 2048, 3) := by decide +kernel
theorem d_M_apply_153 : decode b_M_apply 153 = .ok (.if_icmp .le 7, 3) := by decide +kernel
theorem d_M_apply_156 : decode b_M_apply 156 = .ok (.ldc2_w 95, 3) := by decide +kernel
theorem d_M_apply_159 : decode b_M_apply 159 = .ok (.lreturn, 1) := by decide +kernel
theorem d_M_apply_160 : decode b_M_apply 160 = .ok (.iconst 0, 1) := by decide +kernel
theorem d_M_apply_161 : decode b_M_apply 161 = .ok (.istore_n 3, 1) := by decide +kernel
theorem d_M_apply_162 : decode b_M_apply 162 = .ok (.iload_n 3, 1) := by decide +kernel
theorem d_M_apply_163 : decode b_M_apply 163 = .ok (.aload_n 0, 1) := by decide +kernel
theorem d_M_apply_164 : decode b_M_apply 164 = .ok (.getfield 64, 3) := by decide +kernel
theorem d_M_apply_167 : decode b_M_apply 167 = .ok (.if_icmp .ge 24, 3) := by decide +kernel
theorem d_M_apply_170 : decode b_M_apply 170 = .ok (.aload_n 0, 1) := by decide +kernel
theorem d_M_apply_171 : decode b_M_apply 171 = .ok (.getfield 23, 3) := by decide +kernel
theorem d_M_apply_174 : decode b_M_apply 174 = .ok (.aload_n 0, 1) := by decide +kernel
theorem d_M_apply_175 : decode b_M_apply 175 = .ok (.getfield 35, 3) := by decide +kernel
theorem d_M_apply_178 : decode b_M_apply 178 = .ok (.iload_n 3, 1) := by decide +kernel
theorem d_M_apply_179 : decode b_M_apply 179 = .ok (.iaload, 1) := by decide +kernel
theorem d_M_apply_180 : decode b_M_apply 180 = .ok (.aload_n 0, 1) := by decide +kernel
theorem d_M_apply_181 : decode b_M_apply 181 = .ok (.getfield 97, 3) := by decide +kernel
theorem d_M_apply_184 : decode b_M_apply 184 = .ok (.iastore, 1) := by decide +kernel
theorem d_M_apply_185 : decode b_M_apply 185 = .ok (.iinc 3 1, 3) := by decide +kernel
theorem d_M_apply_188 : decode b_M_apply 188 = .ok (.goto (-26), 3) := by decide +kernel
theorem d_M_apply_191 : decode b_M_apply 191 = .ok (.iconst 0, 1) := by decide +kernel
theorem d_M_apply_192 : decode b_M_apply 192 = .ok (.istore_n 3, 1) := by decide +kernel
theorem d_M_apply_193 : decode b_M_apply 193 = .ok (.iload_n 3, 1) := by decide +kernel
theorem d_M_apply_194 : decode b_M_apply 194 = .ok (.aload_n 0, 1) := by decide +kernel
theorem d_M_apply_195 : decode b_M_apply 195 = .ok (.getfield 67, 3) := by decide +kernel
theorem d_M_apply_198 : decode b_M_apply 198 = .ok (.if_icmp .ge 87, 3) := by decide +kernel
theorem d_M_apply_201 : decode b_M_apply 201 = .ok (.aload_n 0, 1) := by decide +kernel
theorem d_M_apply_202 : decode b_M_apply 202 = .ok (.getfield 7, 3) := by decide +kernel
theorem d_M_apply_205 : decode b_M_apply 205 = .ok (.aload_n 0, 1) := by decide +kernel
theorem d_M_apply_206 : decode b_M_apply 206 = .ok (.getfield 57, 3) := by decide +kernel
theorem d_M_apply_209 : decode b_M_apply 209 = .ok (.aload_n 0, 1) := by decide +kernel
theorem d_M_apply_210 : decode b_M_apply 210 = .ok (.getfield 38, 3) := by decide +kernel
theorem d_M_apply_213 : decode b_M_apply 213 = .ok (.iload_n 3, 1) := by decide +kernel
theorem d_M_apply_214 : decode b_M_apply 214 = .ok (.iaload, 1) := by decide +kernel
theorem d_M_apply_215 : decode b_M_apply 215 = .ok (.iastore, 1) := by decide +kernel
theorem d_M_apply_216 : decode b_M_apply 216 = .ok (.aload_n 0, 1) := by decide +kernel
theorem d_M_apply_217 : decode b_M_apply 217 = .ok (.getfield 13, 3) := by decide +kernel
theorem d_M_apply_220 : decode b_M_apply 220 = .ok (.aload_n 0, 1) := by decide +kernel
theorem d_M_apply_221 : decode b_M_apply 221 = .ok (.getfield 57, 3) := by decide +kernel
theorem d_M_apply_224 : decode b_M_apply 224 = .ok (.aload_n 0, 1) := by decide +kernel
theorem d_M_apply_225 : decode b_M_apply 225 = .ok (.getfield 41, 3) := by decide +kernel
theorem d_M_apply_228 : decode b_M_apply 228 = .ok (.iload_n 3, 1) := by decide +kernel
theorem d_M_apply_229 : decode b_M_apply 229 = .ok (.laload, 1) := by decide +kernel
theorem d_M_apply_230 : decode b_M_apply 230 = .ok (.lastore, 1) := by decide +kernel
theorem d_M_apply_231 : decode b_M_apply 231 = .ok (.aload_n 0, 1) := by decide +kernel
theorem d_M_apply_232 : decode b_M_apply 232 = .ok (.getfield 17, 3) := by decide +kernel
theorem d_M_apply_235 : decode b_M_apply 235 = .ok (.aload_n 0, 1) := by decide +kernel
theorem d_M_apply_236 : decode b_M_apply 236 = .ok (.getfield 57, 3) := by decide +kernel
theorem d_M_apply_239 : decode b_M_apply 239 = .ok (.aload_n 0, 1) := by decide +kernel
theorem d_M_apply_240 : decode b_M_apply 240 = .ok (.getfield 44, 3) := by decide +kernel
theorem d_M_apply_243 : decode b_M_apply 243 = .ok (.iload_n 3, 1) := by decide +kernel
theorem d_M_apply_244 : decode b_M_apply 244 = .ok (.laload, 1) := by decide +kernel
theorem d_M_apply_245 : decode b_M_apply 245 = .ok (.lastore, 1) := by decide +kernel
theorem d_M_apply_246 : decode b_M_apply 246 = .ok (.aload_n 0, 1) := by decide +kernel
theorem d_M_apply_247 : decode b_M_apply 247 = .ok (.getfield 20, 3) := by decide +kernel
theorem d_M_apply_250 : decode b_M_apply 250 = .ok (.aload_n 0, 1) := by decide +kernel
theorem d_M_apply_251 : decode b_M_apply 251 = .ok (.getfield 57, 3) := by decide +kernel
theorem d_M_apply_254 : decode b_M_apply 254 = .ok (.aload_n 0, 1) := by decide +kernel
theorem d_M_apply_255 : decode b_M_apply 255 = .ok (.getfield 97, 3) := by decide +kernel
theorem d_M_apply_258 : decode b_M_apply 258 = .ok (.iastore, 1) := by decide +kernel
theorem d_M_apply_259 : decode b_M_apply 259 = .ok (.aload_n 0, 1) := by decide +kernel
theorem d_M_apply_260 : decode b_M_apply 260 = .ok (.getfield 23, 3) := by decide +kernel
theorem d_M_apply_263 : decode b_M_apply 263 = .ok (.aload_n 0, 1) := by decide +kernel
theorem d_M_apply_264 : decode b_M_apply 264 = .ok (.getfield 57, 3) := by decide +kernel
theorem d_M_apply_267 : decode b_M_apply 267 = .ok (.iconst (-1), 1) := by decide +kernel
theorem d_M_apply_268 : decode b_M_apply 268 = .ok (.iastore, 1) := by decide +kernel
theorem d_M_apply_269 : decode b_M_apply 269 = .ok (.aload_n 0, 1) := by decide +kernel
theorem d_M_apply_270 : decode b_M_apply 270 = .ok (.dup, 1) := by decide +kernel
theorem d_M_apply_271 : decode b_M_apply 271 = .ok (.getfield 57, 3) := by decide +kernel
theorem d_M_apply_274 : decode b_M_apply 274 = .ok (.iconst 1, 1) := by decide +kernel
theorem d_M_apply_275 : decode b_M_apply 275 = .ok (.iadd, 1) := by decide +kernel
theorem d_M_apply_276 : decode b_M_apply 276 = .ok (.putfield 57, 3) := by decide +kernel
theorem d_M_apply_279 : decode b_M_apply 279 = .ok (.iinc 3 1, 3) := by decide +kernel
theorem d_M_apply_282 : decode b_M_apply 282 = .ok (.goto (-89), 3) := by decide +kernel
theorem d_M_apply_285 : decode b_M_apply 285 = .ok (.aload_n 0, 1) := by decide +kernel
theorem d_M_apply_286 : decode b_M_apply 286 = .ok (.dup, 1) := by decide +kernel
theorem d_M_apply_287 : decode b_M_apply 287 = .ok (.getfield 100, 3) := by decide +kernel
theorem d_M_apply_290 : decode b_M_apply 290 = .ok (.lload_n 1, 1) := by decide +kernel
theorem d_M_apply_291 : decode b_M_apply 291 = .ok (.ladd, 1) := by decide +kernel
theorem d_M_apply_292 : decode b_M_apply 292 = .ok (.putfield 100, 3) := by decide +kernel
theorem d_M_apply_295 : decode b_M_apply 295 = .ok (.aload_n 0, 1) := by decide +kernel
theorem d_M_apply_296 : decode b_M_apply 296 = .ok (.dup, 1) := by decide +kernel
theorem d_M_apply_297 : decode b_M_apply 297 = .ok (.getfield 90, 3) := by decide +kernel
theorem d_M_apply_300 : decode b_M_apply 300 = .ok (.aload_n 0, 1) := by decide +kernel
theorem d_M_apply_301 : decode b_M_apply 301 = .ok (.getfield 70, 3) := by decide +kernel
theorem d_M_apply_304 : decode b_M_apply 304 = .ok (.ladd, 1) := by decide +kernel
theorem d_M_apply_305 : decode b_M_apply 305 = .ok (.putfield 90, 3) := by decide +kernel
theorem d_M_apply_308 : decode b_M_apply 308 = .ok (.aload_n 0, 1) := by decide +kernel
theorem d_M_apply_309 : decode b_M_apply 309 = .ok (.dup, 1) := by decide +kernel
theorem d_M_apply_310 : decode b_M_apply 310 = .ok (.getfield 103, 3) := by decide +kernel
theorem d_M_apply_313 : decode b_M_apply 313 = .ok (.iconst 1, 1) := by decide +kernel
theorem d_M_apply_314 : decode b_M_apply 314 = .ok (.iadd, 1) := by decide +kernel
theorem d_M_apply_315 : decode b_M_apply 315 = .ok (.putfield 103, 3) := by decide +kernel
theorem d_M_apply_318 : decode b_M_apply 318 = .ok (.aload_n 0, 1) := by decide +kernel
theorem d_M_apply_319 : decode b_M_apply 319 = .ok (.getfield 26, 3) := by decide +kernel
theorem d_M_apply_322 : decode b_M_apply 322 = .ok (.aload_n 0, 1) := by decide +kernel
theorem d_M_apply_323 : decode b_M_apply 323 = .ok (.getfield 97, 3) := by decide +kernel
theorem d_M_apply_326 : decode b_M_apply 326 = .ok (.dup2, 1) := by decide +kernel
theorem d_M_apply_327 : decode b_M_apply 327 = .ok (.laload, 1) := by decide +kernel
theorem d_M_apply_328 : decode b_M_apply 328 = .ok (.lload_n 1, 1) := by decide +kernel
theorem d_M_apply_329 : decode b_M_apply 329 = .ok (.ladd, 1) := by decide +kernel
theorem d_M_apply_330 : decode b_M_apply 330 = .ok (.lastore, 1) := by decide +kernel
theorem d_M_apply_331 : decode b_M_apply 331 = .ok (.aload_n 0, 1) := by decide +kernel
theorem d_M_apply_332 : decode b_M_apply 332 = .ok (.getfield 29, 3) := by decide +kernel
theorem d_M_apply_335 : decode b_M_apply 335 = .ok (.aload_n 0, 1) := by decide +kernel
theorem d_M_apply_336 : decode b_M_apply 336 = .ok (.getfield 97, 3) := by decide +kernel
theorem d_M_apply_339 : decode b_M_apply 339 = .ok (.dup2, 1) := by decide +kernel
theorem d_M_apply_340 : decode b_M_apply 340 = .ok (.laload, 1) := by decide +kernel
theorem d_M_apply_341 : decode b_M_apply 341 = .ok (.aload_n 0, 1) := by decide +kernel
theorem d_M_apply_342 : decode b_M_apply 342 = .ok (.getfield 70, 3) := by decide +kernel
theorem d_M_apply_345 : decode b_M_apply 345 = .ok (.ladd, 1) := by decide +kernel
theorem d_M_apply_346 : decode b_M_apply 346 = .ok (.lastore, 1) := by decide +kernel
theorem d_M_apply_347 : decode b_M_apply 347 = .ok (.aload_n 0, 1) := by decide +kernel
theorem d_M_apply_348 : decode b_M_apply 348 = .ok (.getfield 32, 3) := by decide +kernel
theorem d_M_apply_351 : decode b_M_apply 351 = .ok (.aload_n 0, 1) := by decide +kernel
theorem d_M_apply_352 : decode b_M_apply 352 = .ok (.getfield 97, 3) := by decide +kernel
theorem d_M_apply_355 : decode b_M_apply 355 = .ok (.dup2, 1) := by decide +kernel
theorem d_M_apply_356 : decode b_M_apply 356 = .ok (.iaload, 1) := by decide +kernel
theorem d_M_apply_357 : decode b_M_apply 357 = .ok (.iconst 1, 1) := by decide +kernel
theorem d_M_apply_358 : decode b_M_apply 358 = .ok (.iadd, 1) := by decide +kernel
theorem d_M_apply_359 : decode b_M_apply 359 = .ok (.iastore, 1) := by decide +kernel
theorem d_M_apply_360 : decode b_M_apply 360 = .ok (.aload_n 0, 1) := by decide +kernel
theorem d_M_apply_361 : decode b_M_apply 361 = .ok (.invokevirtual 83, 3) := by decide +kernel
theorem d_M_apply_364 : decode b_M_apply 364 = .ok (.lload_n 1, 1) := by decide +kernel
theorem d_M_apply_365 : decode b_M_apply 365 = .ok (.lreturn, 1) := by decide +kernel
theorem d_M_close_0 : decode b_M_close 0 = .ok (.aload_n 0, 1) := by decide +kernel
theorem d_M_close_1 : decode b_M_close 1 = .ok (.iconst 0, 1) := by decide +kernel
theorem d_M_close_2 : decode b_M_close 2 = .ok (.putfield 54, 3) := by decide +kernel
theorem d_M_close_5 : decode b_M_close 5 = .ok (.aload_n 0, 1) := by decide +kernel
theorem d_M_close_6 : decode b_M_close 6 = .ok (.dup, 1) := by decide +kernel
theorem d_M_close_7 : decode b_M_close 7 = .ok (.getfield 97, 3) := by decide +kernel
theorem d_M_close_10 : decode b_M_close 10 = .ok (.iconst 1, 1) := by decide +kernel
theorem d_M_close_11 : decode b_M_close 11 = .ok (.iadd, 1) := by decide +kernel
theorem d_M_close_12 : decode b_M_close 12 = .ok (.putfield 97, 3) := by decide +kernel
theorem d_M_close_15 : decode b_M_close 15 = .ok (.aload_n 0, 1) := by decide +kernel
theorem d_M_close_16 : decode b_M_close 16 = .ok (.getfield 26, 3) := by decide +kernel
theorem d_M_close_19 : decode b_M_close 19 = .ok (.aload_n 0, 1) := by decide +kernel
theorem d_M_close_20 : decode b_M_close 20 = .ok (.getfield 97, 3) := by decide +kernel
theorem d_M_close_23 : decode b_M_close 23 = .ok (.lconst 0, 1) := by decide +kernel
theorem d_M_close_24 : decode b_M_close 24 = .ok (.lastore, 1) := by decide +kernel
theorem d_M_close_25 : decode b_M_close 25 = .ok (.aload_n 0, 1) := by decide +kernel
theorem d_M_close_26 : decode b_M_close 26 = .ok (.getfield 29, 3) := by decide +kernel
theorem d_M_close_29 : decode b_M_close 29 = .ok (.aload_n 0, 1) := by decide +kernel
theorem d_M_close_30 : decode b_M_close 30 = .ok (.getfield 97, 3) := by decide +kernel
theorem d_M_close_33 : decode b_M_close 33 = .ok (.lconst 0, 1) := by decide +kernel
theorem d_M_close_34 : decode b_M_close 34 = .ok (.lastore, 1) := by decide +kernel
theorem d_M_close_35 : decode b_M_close 35 = .ok (.aload_n 0, 1) := by decide +kernel
theorem d_M_close_36 : decode b_M_close 36 = .ok (.getfield 32, 3) := by decide +kernel
theorem d_M_close_39 : decode b_M_close 39 = .ok (.aload_n 0, 1) := by decide +kernel
theorem d_M_close_40 : decode b_M_close 40 = .ok (.getfield 97, 3) := by decide +kernel
theorem d_M_close_43 : decode b_M_close 43 = .ok (.iconst 0, 1) := by decide +kernel
theorem d_M_close_44 : decode b_M_close 44 = .ok (.iastore, 1) := by decide +kernel
theorem d_M_close_45 : decode b_M_close 45 = .ok (.aload_n 0, 1) := by decide +kernel
theorem d_M_close_46 : decode b_M_close 46 = .ok (.aload_n 0, 1) := by decide +kernel
theorem d_M_close_47 : decode b_M_close 47 = .ok (.getfield 106, 3) := by decide +kernel
theorem d_M_close_50 : decode b_M_close 50 = .ok (.aload_n 0, 1) := by decide +kernel
theorem d_M_close_51 : decode b_M_close 51 = .ok (.getfield 50, 3) := by decide +kernel
theorem d_M_close_54 : decode b_M_close 54 = .ok (.if_icmp .ne 10, 3) := by decide +kernel
theorem d_M_close_57 : decode b_M_close 57 = .ok (.aload_n 0, 1) := by decide +kernel
theorem d_M_close_58 : decode b_M_close 58 = .ok (.getfield 50, 3) := by decide +kernel
theorem d_M_close_61 : decode b_M_close 61 = .ok (.goto 9, 3) := by decide +kernel
theorem d_M_close_64 : decode b_M_close 64 = .ok (.aload_n 0, 1) := by decide +kernel
theorem d_M_close_65 : decode b_M_close 65 = .ok (.getfield 106, 3) := by decide +kernel
theorem d_M_close_68 : decode b_M_close 68 = .ok (.iconst 1, 1) := by decide +kernel
theorem d_M_close_69 : decode b_M_close 69 = .ok (.iadd, 1) := by decide +kernel
theorem d_M_close_70 : decode b_M_close 70 = .ok (.putfield 106, 3) := by decide +kernel
theorem d_M_close_73 : decode b_M_close 73 = .ok (.aload_n 0, 1) := by decide +kernel
theorem d_M_close_74 : decode b_M_close 74 = .ok (.getfield 97, 3) := by decide +kernel
theorem d_M_close_77 : decode b_M_close 77 = .ok (.ireturn, 1) := by decide +kernel
theorem d_M_undo_0 : decode b_M_undo 0 = .ok (.aload_n 0, 1) := by decide +kernel
theorem d_M_undo_1 : decode b_M_undo 1 = .ok (.iconst 0, 1) := by decide +kernel
theorem d_M_undo_2 : decode b_M_undo 2 = .ok (.putfield 54, 3) := by decide +kernel
theorem d_M_undo_5 : decode b_M_undo 5 = .ok (.iload_n 1, 1) := by decide +kernel
theorem d_M_undo_6 : decode b_M_undo 6 = .ok (.ifCond .lt 11, 3) := by decide +kernel
theorem d_M_undo_9 : decode b_M_undo 9 = .ok (.iload_n 1, 1) := by decide +kernel
theorem d_M_undo_10 : decode b_M_undo 10 = .ok (.aload_n 0, 1) := by decide +kernel
theorem d_M_undo_11 : decode b_M_undo 11 = .ok (.getfield 106, 3) := by decide +kernel
theorem d_M_undo_14 : decode b_M_undo 14 = .ok (.if_icmp .le 5, 3) := by decide +kernel
theorem d_M_undo_17 : decode b_M_undo 17 = .ok (.iconst (-1), 1) := by decide +kernel
theorem d_M_undo_18 : decode b_M_undo 18 = .ok (.ireturn, 1) := by decide +kernel
theorem d_M_undo_19 : decode b_M_undo 19 = .ok (.aload_n 0, 1) := by decide +kernel
theorem d_M_undo_20 : decode b_M_undo 20 = .ok (.getfield 97, 3) := by decide +kernel
theorem d_M_undo_23 : decode b_M_undo 23 = .ok (.iload_n 1, 1) := by decide +kernel
theorem d_M_undo_24 : decode b_M_undo 24 = .ok (.isub, 1) := by decide +kernel
theorem d_M_undo_25 : decode b_M_undo 25 = .ok (.istore_n 2, 1) := by decide +kernel
theorem d_M_undo_26 : decode b_M_undo 26 = .ok (.iload_n 2, 1) := by decide +kernel
theorem d_M_undo_27 : decode b_M_undo 27 = .ok (.istore_n 3, 1) := by decide +kernel
theorem d_M_undo_28 : decode b_M_undo 28 = .ok (.iload_n 3, 1) := by decide +kernel
theorem d_M_undo_29 : decode b_M_undo 29 = .ok (.aload_n 0, 1) := by decide +kernel
theorem d_M_undo_30 : decode b_M_undo 30 = .ok (.getfield 97, 3) := by decide +kernel
theorem d_M_undo_33 : decode b_M_undo 33 = .ok (.if_icmp .gt 75, 3) := by decide +kernel
theorem d_M_undo_36 : decode b_M_undo 36 = .ok (.aload_n 0, 1) := by decide +kernel
theorem d_M_undo_37 : decode b_M_undo 37 = .ok (.dup, 1) := by decide +kernel
theorem d_M_undo_38 : decode b_M_undo 38 = .ok (.getfield 100, 3) := by decide +kernel
theorem d_M_undo_41 : decode b_M_undo 41 = .ok (.aload_n 0, 1) := by decide +kernel
theorem d_M_undo_42 : decode b_M_undo 42 = .ok (.getfield 26, 3) := by decide +kernel
theorem d_M_undo_45 : decode b_M_undo 45 = .ok (.iload_n 3, 1) := by decide +kernel
theorem d_M_undo_46 : decode b_M_undo 46 = .ok (.laload, 1) := by decide +kernel
theorem d_M_undo_47 : decode b_M_undo 47 = .ok (.lsub, 1) := by decide +kernel
theorem d_M_undo_48 : decode b_M_undo 48 = .ok (.putfield 100, 3) := by decide +kernel
theorem d_M_undo_51 : decode b_M_undo 51 = .ok (.aload_n 0, 1) := by decide +kernel
theorem d_M_undo_52 : decode b_M_undo 52 = .ok (.dup, 1) := by decide +kernel
theorem d_M_undo_53 : decode b_M_undo 53 = .ok (.getfield 90, 3) := by decide +kernel
theorem d_M_undo_56 : decode b_M_undo 56 = .ok (.aload_n 0, 1) := by decide +kernel
theorem d_M_undo_57 : decode b_M_undo 57 = .ok (.getfield 29, 3) := by decide +kernel
theorem d_M_undo_60 : decode b_M_undo 60 = .ok (.iload_n 3, 1) := by decide +kernel
theorem d_M_undo_61 : decode b_M_undo 61 = .ok (.laload, 1) := by decide +kernel
theorem d_M_undo_62 : decode b_M_undo 62 = .ok (.lsub, 1) := by decide +kernel
theorem d_M_undo_63 : decode b_M_undo 63 = .ok (.putfield 90, 3) := by decide +kernel
theorem d_M_undo_66 : decode b_M_undo 66 = .ok (.aload_n 0, 1) := by decide +kernel
theorem d_M_undo_67 : decode b_M_undo 67 = .ok (.dup, 1) := by decide +kernel
theorem d_M_undo_68 : decode b_M_undo 68 = .ok (.getfield 103, 3) := by decide +kernel
theorem d_M_undo_71 : decode b_M_undo 71 = .ok (.aload_n 0, 1) := by decide +kernel
theorem d_M_undo_72 : decode b_M_undo 72 = .ok (.getfield 32, 3) := by decide +kernel
theorem d_M_undo_75 : decode b_M_undo 75 = .ok (.iload_n 3, 1) := by decide +kernel
theorem d_M_undo_76 : decode b_M_undo 76 = .ok (.iaload, 1) := by decide +kernel
theorem d_M_undo_77 : decode b_M_undo 77 = .ok (.isub, 1) := by decide +kernel
theorem d_M_undo_78 : decode b_M_undo 78 = .ok (.putfield 103, 3) := by decide +kernel
theorem d_M_undo_81 : decode b_M_undo 81 = .ok (.aload_n 0, 1) := by decide +kernel
theorem d_M_undo_82 : decode b_M_undo 82 = .ok (.getfield 26, 3) := by decide +kernel
theorem d_M_undo_85 : decode b_M_undo 85 = .ok (.iload_n 3, 1) := by decide +kernel
theorem d_M_undo_86 : decode b_M_undo 86 = .ok (.lconst 0, 1) := by decide +kernel
theorem d_M_undo_87 : decode b_M_undo 87 = .ok (.lastore, 1) := by decide +kernel
theorem d_M_undo_88 : decode b_M_undo 88 = .ok (.aload_n 0, 1) := by decide +kernel
theorem d_M_undo_89 : decode b_M_undo 89 = .ok (.getfield 29, 3) := by decide +kernel
theorem d_M_undo_92 : decode b_M_undo 92 = .ok (.iload_n 3, 1) := by decide +kernel
theorem d_M_undo_93 : decode b_M_undo 93 = .ok (.lconst 0, 1) := by decide +kernel
theorem d_M_undo_94 : decode b_M_undo 94 = .ok (.lastore, 1) := by decide +kernel
theorem d_M_undo_95 : decode b_M_undo 95 = .ok (.aload_n 0, 1) := by decide +kernel
theorem d_M_undo_96 : decode b_M_undo 96 = .ok (.getfield 32, 3) := by decide +kernel
theorem d_M_undo_99 : decode b_M_undo 99 = .ok (.iload_n 3, 1) := by decide +kernel
theorem d_M_undo_100 : decode b_M_undo 100 = .ok (.iconst 0, 1) := by decide +kernel
theorem d_M_undo_101 : decode b_M_undo 101 = .ok (.iastore, 1) := by decide +kernel
theorem d_M_undo_102 : decode b_M_undo 102 = .ok (.iinc 3 1, 3) := by decide +kernel
theorem d_M_undo_105 : decode b_M_undo 105 = .ok (.goto (-77), 3) := by decide +kernel
theorem d_M_undo_108 : decode b_M_undo 108 = .ok (.aload_n 0, 1) := by decide +kernel
theorem d_M_undo_109 : decode b_M_undo 109 = .ok (.getfield 57, 3) := by decide +kernel
theorem d_M_undo_112 : decode b_M_undo 112 = .ok (.ifCond .le 31, 3) := by decide +kernel
theorem d_M_undo_115 : decode b_M_undo 115 = .ok (.aload_n 0, 1) := by decide +kernel
theorem d_M_undo_116 : decode b_M_undo 116 = .ok (.getfield 20, 3) := by decide +kernel
theorem d_M_undo_119 : decode b_M_undo 119 = .ok (.aload_n 0, 1) := by decide +kernel
theorem d_M_undo_120 : decode b_M_undo 120 = .ok (.getfield 57, 3) := by decide +kernel
theorem d_M_undo_123 : decode b_M_undo 123 = .ok (.iconst 1, 1) := by decide +kernel
theorem d_M_undo_124 : decode b_M_undo 124 = .ok (.isub, 1) := by decide +kernel
theorem d_M_undo_125 : decode b_M_undo 125 = .ok (.iaload, 1) := by decide +kernel
theorem d_M_undo_126 : decode b_M_undo 126 = .ok (.iload_n 2, 1) := by decide +kernel
theorem d_M_undo_127 : decode b_M_undo 127 = .ok (.if_icmp .lt 16, 3) := by decide +kernel
theorem d_M_undo_130 : decode b_M_undo 130 = .ok (.aload_n 0, 1) := by decide +kernel
theorem d_M_undo_131 : decode b_M_undo 131 = .ok (.dup, 1) := by decide +kernel
theorem d_M_undo_132 : decode b_M_undo 132 = .ok (.getfield 57, 3) := by decide +kernel
theorem d_M_undo_135 : decode b_M_undo 135 = .ok (.iconst 1, 1) := by decide +kernel
theorem d_M_undo_136 : decode b_M_undo 136 = .ok (.isub, 1) := by decide +kernel
theorem d_M_undo_137 : decode b_M_undo 137 = .ok (.putfield 57, 3) := by decide +kernel
theorem d_M_undo_140 : decode b_M_undo 140 = .ok (.goto (-32), 3) := by decide +kernel
theorem d_M_undo_143 : decode b_M_undo 143 = .ok (.iconst 0, 1) := by decide +kernel
theorem d_M_undo_144 : decode b_M_undo 144 = .ok (.istore_n 3, 1) := by decide +kernel
theorem d_M_undo_145 : decode b_M_undo 145 = .ok (.iload_n 3, 1) := by decide +kernel
theorem d_M_undo_146 : decode b_M_undo 146 = .ok (.aload_n 0, 1) := by decide +kernel
theorem d_M_undo_147 : decode b_M_undo 147 = .ok (.getfield 57, 3) := by decide +kernel
theorem d_M_undo_150 : decode b_M_undo 150 = .ok (.if_icmp .ge 35, 3) := by decide +kernel
theorem d_M_undo_153 : decode b_M_undo 153 = .ok (.aload_n 0, 1) := by decide +kernel
theorem d_M_undo_154 : decode b_M_undo 154 = .ok (.getfield 23, 3) := by decide +kernel
theorem d_M_undo_157 : decode b_M_undo 157 = .ok (.iload_n 3, 1) := by decide +kernel
theorem d_M_undo_158 : decode b_M_undo 158 = .ok (.aload_n 0, 1) := by decide +kernel
theorem d_M_undo_159 : decode b_M_undo 159 = .ok (.getfield 23, 3) := by decide +kernel
theorem d_M_undo_162 : decode b_M_undo 162 = .ok (.iload_n 3, 1) := by decide +kernel
theorem d_M_undo_163 : decode b_M_undo 163 = .ok (.iaload, 1) := by decide +kernel
theorem d_M_undo_164 : decode b_M_undo 164 = .ok (.iload_n 2, 1) := by decide +kernel
theorem d_M_undo_165 : decode b_M_undo 165 = .ok (.if_icmp .lt 7, 3) := by decide +kernel
theorem d_M_undo_168 : decode b_M_undo 168 = .ok (.iconst (-1), 1) := by decide +kernel
theorem d_M_undo_169 : decode b_M_undo 169 = .ok (.goto 9, 3) := by decide +kernel
theorem d_M_undo_172 : decode b_M_undo 172 = .ok (.aload_n 0, 1) := by decide +kernel
theorem d_M_undo_173 : decode b_M_undo 173 = .ok (.getfield 23, 3) := by decide +kernel
theorem d_M_undo_176 : decode b_M_undo 176 = .ok (.iload_n 3, 1) := by decide +kernel
theorem d_M_undo_177 : decode b_M_undo 177 = .ok (.iaload, 1) := by decide +kernel
theorem d_M_undo_178 : decode b_M_undo 178 = .ok (.iastore, 1) := by decide +kernel
theorem d_M_undo_179 : decode b_M_undo 179 = .ok (.iinc 3 1, 3) := by decide +kernel
theorem d_M_undo_182 : decode b_M_undo 182 = .ok (.goto (-37), 3) := by decide +kernel
theorem d_M_undo_185 : decode b_M_undo 185 = .ok (.aload_n 0, 1) := by decide +kernel
theorem d_M_undo_186 : decode b_M_undo 186 = .ok (.iload_n 2, 1) := by decide +kernel
theorem d_M_undo_187 : decode b_M_undo 187 = .ok (.putfield 97, 3) := by decide +kernel
theorem d_M_undo_190 : decode b_M_undo 190 = .ok (.aload_n 0, 1) := by decide +kernel
theorem d_M_undo_191 : decode b_M_undo 191 = .ok (.dup, 1) := by decide +kernel
theorem d_M_undo_192 : decode b_M_undo 192 = .ok (.getfield 106, 3) := by decide +kernel
theorem d_M_undo_195 : decode b_M_undo 195 = .ok (.iload_n 1, 1) := by decide +kernel
theorem d_M_undo_196 : decode b_M_undo 196 = .ok (.isub, 1) := by decide +kernel
theorem d_M_undo_197 : decode b_M_undo 197 = .ok (.putfield 106, 3) := by decide +kernel
theorem d_M_undo_200 : decode b_M_undo 200 = .ok (.aload_n 0, 1) := by decide +kernel
theorem d_M_undo_201 : decode b_M_undo 201 = .ok (.invokevirtual 83, 3) := by decide +kernel
theorem d_M_undo_204 : decode b_M_undo 204 = .ok (.aload_n 0, 1) := by decide +kernel
theorem d_M_undo_205 : decode b_M_undo 205 = .ok (.getfield 97, 3) := by decide +kernel
theorem d_M_undo_208 : decode b_M_undo 208 = .ok (.ireturn, 1) := by decide +kernel
theorem d_M_output_0 : decode b_M_output 0 = .ok (.aload_n 0, 1) := by decide +kernel
theorem d_M_output_1 : decode b_M_output 1 = .ok (.iconst 0, 1) := by decide +kernel
theorem d_M_output_2 : decode b_M_output 2 = .ok (.putfield 54, 3) := by decide +kernel
theorem d_M_output_5 : decode b_M_output 5 = .ok (.aload_n 0, 1) := by decide +kernel
theorem d_M_output_6 : decode b_M_output 6 = .ok (.iload_n 1, 1) := by decide +kernel
theorem d_M_output_7 : decode b_M_output 7 = .ok (.invokevirtual 60, 3) := by decide +kernel
theorem d_M_output_10 : decode b_M_output 10 = .ok (.ifCond .ne 5, 3) := by decide +kernel
theorem d_M_output_13 : decode b_M_output 13 = .ok (.iconst (-1), 1) := by decide +kernel
theorem d_M_output_14 : decode b_M_output 14 = .ok (.ireturn, 1) := by decide +kernel
theorem d_M_output_15 : decode b_M_output 15 = .ok (.iload_n 2, 1) := by decide +kernel
theorem d_M_output_16 : decode b_M_output 16 = .ok (.ifCond .ne 12, 3) := by decide +kernel
theorem d_M_output_19 : decode b_M_output 19 = .ok (.aload_n 0, 1) := by decide +kernel
theorem d_M_output_20 : decode b_M_output 20 = .ok (.getfield 7, 3) := by decide +kernel
theorem d_M_output_23 : decode b_M_output 23 = .ok (.iload_n 1, 1) := by decide +kernel
theorem d_M_output_24 : decode b_M_output 24 = .ok (.iaload, 1) := by decide +kernel
theorem d_M_output_25 : decode b_M_output 25 = .ok (.goto 53, 3) := by decide +kernel
theorem d_M_output_28 : decode b_M_output 28 = .ok (.iload_n 2, 1) := by decide +kernel
theorem d_M_output_29 : decode b_M_output 29 = .ok (.iconst 1, 1) := by decide +kernel
theorem d_M_output_30 : decode b_M_output 30 = .ok (.if_icmp .ne 19, 3) := by decide +kernel
theorem d_M_output_33 : decode b_M_output 33 = .ok (.aload_n 0, 1) := by decide +kernel
theorem d_M_output_34 : decode b_M_output 34 = .ok (.iload_n 1, 1) := by decide +kernel
theorem d_M_output_35 : decode b_M_output 35 = .ok (.invokevirtual 74, 3) := by decide +kernel
theorem d_M_output_38 : decode b_M_output 38 = .ok (.ifCond .eq 7, 3) := by decide +kernel
theorem d_M_output_41 : decode b_M_output 41 = .ok (.iconst 1, 1) := by decide +kernel
theorem d_M_output_42 : decode b_M_output 42 = .ok (.goto 36, 3) := by decide +kernel
theorem d_M_output_45 : decode b_M_output 45 = .ok (.iconst 0, 1) := by decide +kernel
theorem d_M_output_46 : decode b_M_output 46 = .ok (.goto 32, 3) := by decide +kernel
theorem d_M_output_49 : decode b_M_output 49 = .ok (.iload_n 2, 1) := by decide +kernel
theorem d_M_output_50 : decode b_M_output 50 = .ok (.iconst 2, 1) := by decide +kernel
theorem d_M_output_51 : decode b_M_output 51 = .ok (.if_icmp .ne 12, 3) := by decide +kernel
theorem d_M_output_54 : decode b_M_output 54 = .ok (.aload_n 0, 1) := by decide +kernel
theorem d_M_output_55 : decode b_M_output 55 = .ok (.getfield 20, 3) := by decide +kernel
theorem d_M_output_58 : decode b_M_output 58 = .ok (.iload_n 1, 1) := by decide +kernel
theorem d_M_output_59 : decode b_M_output 59 = .ok (.iaload, 1) := by decide +kernel
theorem d_M_output_60 : decode b_M_output 60 = .ok (.goto 18, 3) := by decide +kernel
theorem d_M_output_63 : decode b_M_output 63 = .ok (.iload_n 2, 1) := by decide +kernel
theorem d_M_output_64 : decode b_M_output 64 = .ok (.iconst 3, 1) := by decide +kernel
theorem d_M_output_65 : decode b_M_output 65 = .ok (.if_icmp .ne 12, 3) := by decide +kernel
theorem d_M_output_68 : decode b_M_output 68 = .ok (.aload_n 0, 1) := by decide +kernel
theorem d_M_output_69 : decode b_M_output 69 = .ok (.getfield 23, 3) := by decide +kernel
theorem d_M_output_72 : decode b_M_output 72 = .ok (.iload_n 1, 1) := by decide +kernel
theorem d_M_output_73 : decode b_M_output 73 = .ok (.iaload, 1) := by decide +kernel
theorem d_M_output_74 : decode b_M_output 74 = .ok (.goto 4, 3) := by decide +kernel
theorem d_M_output_77 : decode b_M_output 77 = .ok (.iconst (-1), 1) := by decide +kernel
theorem d_M_output_78 : decode b_M_output 78 = .ok (.ireturn, 1) := by decide +kernel
theorem d_M_amount_0 : decode b_M_amount 0 = .ok (.aload_n 0, 1) := by decide +kernel
theorem d_M_amount_1 : decode b_M_amount 1 = .ok (.iconst 0, 1) := by decide +kernel
theorem d_M_amount_2 : decode b_M_amount 2 = .ok (.putfield 54, 3) := by decide +kernel
theorem d_M_amount_5 : decode b_M_amount 5 = .ok (.aload_n 0, 1) := by decide +kernel
theorem d_M_amount_6 : decode b_M_amount 6 = .ok (.iload_n 1, 1) := by decide +kernel
theorem d_M_amount_7 : decode b_M_amount 7 = .ok (.invokevirtual 60, 3) := by decide +kernel
theorem d_M_amount_10 : decode b_M_amount 10 = .ok (.ifCond .eq 12, 3) := by decide +kernel
theorem d_M_amount_13 : decode b_M_amount 13 = .ok (.aload_n 0, 1) := by decide +kernel
theorem d_M_amount_14 : decode b_M_amount 14 = .ok (.getfield 13, 3) := by decide +kernel
theorem d_M_amount_17 : decode b_M_amount 17 = .ok (.iload_n 1, 1) := by decide +kernel
theorem d_M_amount_18 : decode b_M_amount 18 = .ok (.laload, 1) := by decide +kernel
theorem d_M_amount_19 : decode b_M_amount 19 = .ok (.goto 4, 3) := by decide +kernel
theorem d_M_amount_22 : decode b_M_amount 22 = .ok (.lconst 0, 1) := by decide +kernel
theorem d_M_amount_23 : decode b_M_amount 23 = .ok (.lreturn, 1) := by decide +kernel
theorem d_M_tag_0 : decode b_M_tag 0 = .ok (.aload_n 0, 1) := by decide +kernel
theorem d_M_tag_1 : decode b_M_tag 1 = .ok (.iconst 0, 1) := by decide +kernel
theorem d_M_tag_2 : decode b_M_tag 2 = .ok (.putfield 54, 3) := by decide +kernel
theorem d_M_tag_5 : decode b_M_tag 5 = .ok (.aload_n 0, 1) := by decide +kernel
theorem d_M_tag_6 : decode b_M_tag 6 = .ok (.iload_n 1, 1) := by decide +kernel
theorem d_M_tag_7 : decode b_M_tag 7 = .ok (.invokevirtual 60, 3) := by decide +kernel
theorem d_M_tag_10 : decode b_M_tag 10 = .ok (.ifCond .eq 12, 3) := by decide +kernel
theorem d_M_tag_13 : decode b_M_tag 13 = .ok (.aload_n 0, 1) := by decide +kernel
theorem d_M_tag_14 : decode b_M_tag 14 = .ok (.getfield 17, 3) := by decide +kernel
theorem d_M_tag_17 : decode b_M_tag 17 = .ok (.iload_n 1, 1) := by decide +kernel
theorem d_M_tag_18 : decode b_M_tag 18 = .ok (.laload, 1) := by decide +kernel
theorem d_M_tag_19 : decode b_M_tag 19 = .ok (.goto 4, 3) := by decide +kernel
theorem d_M_tag_22 : decode b_M_tag 22 = .ok (.lconst 0, 1) := by decide +kernel
theorem d_M_tag_23 : decode b_M_tag 23 = .ok (.lreturn, 1) := by decide +kernel
theorem d_M_balance_0 : decode b_M_balance 0 = .ok (.aload_n 0, 1) := by decide +kernel
theorem d_M_balance_1 : decode b_M_balance 1 = .ok (.iconst 0, 1) := by decide +kernel
theorem d_M_balance_2 : decode b_M_balance 2 = .ok (.putfield 54, 3) := by decide +kernel
theorem d_M_balance_5 : decode b_M_balance 5 = .ok (.lconst 0, 1) := by decide +kernel
theorem d_M_balance_6 : decode b_M_balance 6 = .ok (.lstore_n 2, 1) := by decide +kernel
theorem d_M_balance_7 : decode b_M_balance 7 = .ok (.iconst 0, 1) := by decide +kernel
theorem d_M_balance_8 : decode b_M_balance 8 = .ok (.istore 4, 2) := by decide +kernel
theorem d_M_balance_10 : decode b_M_balance 10 = .ok (.iload 4, 2) := by decide +kernel
theorem d_M_balance_12 : decode b_M_balance 12 = .ok (.aload_n 0, 1) := by decide +kernel
theorem d_M_balance_13 : decode b_M_balance 13 = .ok (.getfield 57, 3) := by decide +kernel
theorem d_M_balance_16 : decode b_M_balance 16 = .ok (.if_icmp .ge 43, 3) := by decide +kernel
theorem d_M_balance_19 : decode b_M_balance 19 = .ok (.lload_n 2, 1) := by decide +kernel
theorem d_M_balance_20 : decode b_M_balance 20 = .ok (.aload_n 0, 1) := by decide +kernel
theorem d_M_balance_21 : decode b_M_balance 21 = .ok (.iload 4, 2) := by decide +kernel
theorem d_M_balance_23 : decode b_M_balance 23 = .ok (.invokevirtual 74, 3) := by decide +kernel
theorem d_M_balance_26 : decode b_M_balance 26 = .ok (.ifCond .eq 24, 3) := by decide +kernel
theorem d_M_balance_29 : decode b_M_balance 29 = .ok (.aload_n 0, 1) := by decide +kernel
theorem d_M_balance_30 : decode b_M_balance 30 = .ok (.getfield 7, 3) := by decide +kernel
theorem d_M_balance_33 : decode b_M_balance 33 = .ok (.iload 4, 2) := by decide +kernel
theorem d_M_balance_35 : decode b_M_balance 35 = .ok (.iaload, 1) := by decide +kernel
theorem d_M_balance_36 : decode b_M_balance 36 = .ok (.iload_n 1, 1) := by decide +kernel
theorem d_M_balance_37 : decode b_M_balance 37 = .ok (.if_icmp .ne 13, 3) := by decide +kernel
theorem d_M_balance_40 : decode b_M_balance 40 = .ok (.aload_n 0, 1) := by decide +kernel
theorem d_M_balance_41 : decode b_M_balance 41 = .ok (.getfield 13, 3) := by decide +kernel
theorem d_M_balance_44 : decode b_M_balance 44 = .ok (.iload 4, 2) := by decide +kernel
theorem d_M_balance_46 : decode b_M_balance 46 = .ok (.laload, 1) := by decide +kernel
theorem d_M_balance_47 : decode b_M_balance 47 = .ok (.goto 4, 3) := by decide +kernel
theorem d_M_balance_50 : decode b_M_balance 50 = .ok (.lconst 0, 1) := by decide +kernel
theorem d_M_balance_51 : decode b_M_balance 51 = .ok (.ladd, 1) := by decide +kernel
theorem d_M_balance_52 : decode b_M_balance 52 = .ok (.lstore_n 2, 1) := by decide +kernel
theorem d_M_balance_53 : decode b_M_balance 53 = .ok (.iinc 4 1, 3) := by decide +kernel
theorem d_M_balance_56 : decode b_M_balance 56 = .ok (.goto (-46), 3) := by decide +kernel
theorem d_M_balance_59 : decode b_M_balance 59 = .ok (.lload_n 2, 1) := by decide +kernel
theorem d_M_balance_60 : decode b_M_balance 60 = .ok (.lreturn, 1) := by decide +kernel
theorem d_M_count_0 : decode b_M_count 0 = .ok (.aload_n 0, 1) := by decide +kernel
theorem d_M_count_1 : decode b_M_count 1 = .ok (.iconst 0, 1) := by decide +kernel
theorem d_M_count_2 : decode b_M_count 2 = .ok (.putfield 54, 3) := by decide +kernel
theorem d_M_count_5 : decode b_M_count 5 = .ok (.iconst 0, 1) := by decide +kernel
theorem d_M_count_6 : decode b_M_count 6 = .ok (.istore_n 2, 1) := by decide +kernel
theorem d_M_count_7 : decode b_M_count 7 = .ok (.iconst 0, 1) := by decide +kernel
theorem d_M_count_8 : decode b_M_count 8 = .ok (.istore_n 3, 1) := by decide +kernel
theorem d_M_count_9 : decode b_M_count 9 = .ok (.iload_n 3, 1) := by decide +kernel
theorem d_M_count_10 : decode b_M_count 10 = .ok (.aload_n 0, 1) := by decide +kernel
theorem d_M_count_11 : decode b_M_count 11 = .ok (.getfield 57, 3) := by decide +kernel
theorem d_M_count_14 : decode b_M_count 14 = .ok (.if_icmp .ge 35, 3) := by decide +kernel
theorem d_M_count_17 : decode b_M_count 17 = .ok (.iload_n 2, 1) := by decide +kernel
theorem d_M_count_18 : decode b_M_count 18 = .ok (.aload_n 0, 1) := by decide +kernel
theorem d_M_count_19 : decode b_M_count 19 = .ok (.iload_n 3, 1) := by decide +kernel
theorem d_M_count_20 : decode b_M_count 20 = .ok (.invokevirtual 74, 3) := by decide +kernel
theorem d_M_count_23 : decode b_M_count 23 = .ok (.ifCond .eq 17, 3) := by decide +kernel
theorem d_M_count_26 : decode b_M_count 26 = .ok (.aload_n 0, 1) := by decide +kernel
theorem d_M_count_27 : decode b_M_count 27 = .ok (.getfield 7, 3) := by decide +kernel
theorem d_M_count_30 : decode b_M_count 30 = .ok (.iload_n 3, 1) := by decide +kernel
theorem d_M_count_31 : decode b_M_count 31 = .ok (.iaload, 1) := by decide +kernel
theorem d_M_count_32 : decode b_M_count 32 = .ok (.iload_n 1, 1) := by decide +kernel
theorem d_M_count_33 : decode b_M_count 33 = .ok (.if_icmp .ne 7, 3) := by decide +kernel
theorem d_M_count_36 : decode b_M_count 36 = .ok (.iconst 1, 1) := by decide +kernel
theorem d_M_count_37 : decode b_M_count 37 = .ok (.goto 4, 3) := by decide +kernel
theorem d_M_count_40 : decode b_M_count 40 = .ok (.iconst 0, 1) := by decide +kernel
theorem d_M_count_41 : decode b_M_count 41 = .ok (.iadd, 1) := by decide +kernel
theorem d_M_count_42 : decode b_M_count 42 = .ok (.istore_n 2, 1) := by decide +kernel
theorem d_M_count_43 : decode b_M_count 43 = .ok (.iinc 3 1, 3) := by decide +kernel
theorem d_M_count_46 : decode b_M_count 46 = .ok (.goto (-37), 3) := by decide +kernel
theorem d_M_count_49 : decode b_M_count 49 = .ok (.iload_n 2, 1) := by decide +kernel
theorem d_M_count_50 : decode b_M_count 50 = .ok (.ireturn, 1) := by decide +kernel
theorem d_M_nth_0 : decode b_M_nth 0 = .ok (.aload_n 0, 1) := by decide +kernel
theorem d_M_nth_1 : decode b_M_nth 1 = .ok (.iconst 0, 1) := by decide +kernel
theorem d_M_nth_2 : decode b_M_nth 2 = .ok (.putfield 54, 3) := by decide +kernel
theorem d_M_nth_5 : decode b_M_nth 5 = .ok (.iload_n 2, 1) := by decide +kernel
theorem d_M_nth_6 : decode b_M_nth 6 = .ok (.istore_n 3, 1) := by decide +kernel
theorem d_M_nth_7 : decode b_M_nth 7 = .ok (.iconst 0, 1) := by decide +kernel
theorem d_M_nth_8 : decode b_M_nth 8 = .ok (.istore 4, 2) := by decide +kernel
theorem d_M_nth_10 : decode b_M_nth 10 = .ok (.iload 4, 2) := by decide +kernel
theorem d_M_nth_12 : decode b_M_nth 12 = .ok (.aload_n 0, 1) := by decide +kernel
theorem d_M_nth_13 : decode b_M_nth 13 = .ok (.getfield 57, 3) := by decide +kernel
theorem d_M_nth_16 : decode b_M_nth 16 = .ok (.if_icmp .ge 43, 3) := by decide +kernel
theorem d_M_nth_19 : decode b_M_nth 19 = .ok (.iload_n 3, 1) := by decide +kernel
theorem d_M_nth_20 : decode b_M_nth 20 = .ok (.ifCond .lt 39, 3) := by decide +kernel
theorem d_M_nth_23 : decode b_M_nth 23 = .ok (.aload_n 0, 1) := by decide +kernel
theorem d_M_nth_24 : decode b_M_nth 24 = .ok (.iload 4, 2) := by decide +kernel
theorem d_M_nth_26 : decode b_M_nth 26 = .ok (.invokevirtual 74, 3) := by decide +kernel
theorem d_M_nth_29 : decode b_M_nth 29 = .ok (.ifCond .eq 24, 3) := by decide +kernel
theorem d_M_nth_32 : decode b_M_nth 32 = .ok (.aload_n 0, 1) := by decide +kernel
theorem d_M_nth_33 : decode b_M_nth 33 = .ok (.getfield 7, 3) := by decide +kernel
theorem d_M_nth_36 : decode b_M_nth 36 = .ok (.iload 4, 2) := by decide +kernel
theorem d_M_nth_38 : decode b_M_nth 38 = .ok (.iaload, 1) := by decide +kernel
theorem d_M_nth_39 : decode b_M_nth 39 = .ok (.iload_n 1, 1) := by decide +kernel
theorem d_M_nth_40 : decode b_M_nth 40 = .ok (.if_icmp .ne 13, 3) := by decide +kernel
theorem d_M_nth_43 : decode b_M_nth 43 = .ok (.iload_n 3, 1) := by decide +kernel
theorem d_M_nth_44 : decode b_M_nth 44 = .ok (.ifCond .ne 6, 3) := by decide +kernel
theorem d_M_nth_47 : decode b_M_nth 47 = .ok (.iload 4, 2) := by decide +kernel
theorem d_M_nth_49 : decode b_M_nth 49 = .ok (.ireturn, 1) := by decide +kernel
theorem d_M_nth_50 : decode b_M_nth 50 = .ok (.iinc 3 (-1), 3) := by decide +kernel
theorem d_M_nth_53 : decode b_M_nth 53 = .ok (.iinc 4 1, 3) := by decide +kernel
theorem d_M_nth_56 : decode b_M_nth 56 = .ok (.goto (-46), 3) := by decide +kernel
theorem d_M_nth_59 : decode b_M_nth 59 = .ok (.iconst (-1), 1) := by decide +kernel
theorem d_M_nth_60 : decode b_M_nth 60 = .ok (.ireturn, 1) := by decide +kernel
theorem d_M_best_0 : decode b_M_best 0 = .ok (.iconst (-1), 1) := by decide +kernel
theorem d_M_best_1 : decode b_M_best 1 = .ok (.istore_n 3, 1) := by decide +kernel
theorem d_M_best_2 : decode b_M_best 2 = .ok (.iconst 0, 1) := by decide +kernel
theorem d_M_best_3 : decode b_M_best 3 = .ok (.istore 4, 2) := by decide +kernel
theorem d_M_best_5 : decode b_M_best 5 = .ok (.iload 4, 2) := by decide +kernel
theorem d_M_best_7 : decode b_M_best 7 = .ok (.aload_n 0, 1) := by decide +kernel
theorem d_M_best_8 : decode b_M_best 8 = .ok (.getfield 57, 3) := by decide +kernel
theorem d_M_best_11 : decode b_M_best 11 = .ok (.if_icmp .ge 116, 3) := by decide +kernel
theorem d_M_best_14 : decode b_M_best 14 = .ok (.aload_n 0, 1) := by decide +kernel
theorem d_M_best_15 : decode b_M_best 15 = .ok (.iload 4, 2) := by decide +kernel
theorem d_M_best_17 : decode b_M_best 17 = .ok (.invokevirtual 74, 3) := by decide +kernel
theorem d_M_best_20 : decode b_M_best 20 = .ok (.ifCond .eq 18, 3) := by decide +kernel
theorem d_M_best_23 : decode b_M_best 23 = .ok (.aload_n 0, 1) := by decide +kernel
theorem d_M_best_24 : decode b_M_best 24 = .ok (.getfield 7, 3) := by decide +kernel
theorem d_M_best_27 : decode b_M_best 27 = .ok (.iload 4, 2) := by decide +kernel
theorem d_M_best_29 : decode b_M_best 29 = .ok (.iaload, 1) := by decide +kernel
theorem d_M_best_30 : decode b_M_best 30 = .ok (.iload_n 1, 1) := by decide +kernel
theorem d_M_best_31 : decode b_M_best 31 = .ok (.if_icmp .ne 7, 3) := by decide +kernel
theorem d_M_best_34 : decode b_M_best 34 = .ok (.iconst 1, 1) := by decide +kernel
theorem d_M_best_35 : decode b_M_best 35 = .ok (.goto 4, 3) := by decide +kernel
theorem d_M_best_38 : decode b_M_best 38 = .ok (.iconst 0, 1) := by decide +kernel
theorem d_M_best_39 : decode b_M_best 39 = .ok (.istore 5, 2) := by decide +kernel
theorem d_M_best_41 : decode b_M_best 41 = .ok (.iconst 0, 1) := by decide +kernel
theorem d_M_best_42 : decode b_M_best 42 = .ok (.istore 6, 2) := by decide +kernel
theorem d_M_best_44 : decode b_M_best 44 = .ok (.iload 6, 2) := by decide +kernel
theorem d_M_best_46 : decode b_M_best 46 = .ok (.iload_n 2, 1) := by decide +kernel
theorem d_M_best_47 : decode b_M_best 47 = .ok (.if_icmp .ge 33, 3) := by decide +kernel
theorem d_M_best_50 : decode b_M_best 50 = .ok (.iload 5, 2) := by decide +kernel
theorem d_M_best_52 : decode b_M_best 52 = .ok (.ifCond .eq 19, 3) := by decide +kernel
theorem d_M_best_55 : decode b_M_best 55 = .ok (.aload_n 0, 1) := by decide +kernel
theorem d_M_best_56 : decode b_M_best 56 = .ok (.getfield 47, 3) := by decide +kernel
theorem d_M_best_59 : decode b_M_best 59 = .ok (.iload 6, 2) := by decide +kernel
theorem d_M_best_61 : decode b_M_best 61 = .ok (.iaload, 1) := by decide +kernel
theorem d_M_best_62 : decode b_M_best 62 = .ok (.iload 4, 2) := by decide +kernel
theorem d_M_best_64 : decode b_M_best 64 = .ok (.if_icmp .eq 7, 3) := by decide +kernel
theorem d_M_best_67 : decode b_M_best 67 = .ok (.iconst 1, 1) := by decide +kernel
theorem d_M_best_68 : decode b_M_best 68 = .ok (.goto 4, 3) := by decide +kernel
theorem d_M_best_71 : decode b_M_best 71 = .ok (.iconst 0, 1) := by decide +kernel
theorem d_M_best_72 : decode b_M_best 72 = .ok (.istore 5, 2) := by decide +kernel
theorem d_M_best_74 : decode b_M_best 74 = .ok (.iinc 6 1, 3) := by decide +kernel
theorem d_M_best_77 : decode b_M_best 77 = .ok (.goto (-33), 3) := by decide +kernel
theorem d_M_best_80 : decode b_M_best 80 = .ok (.iload 5, 2) := by decide +kernel
theorem d_M_best_82 : decode b_M_best 82 = .ok (.ifCond .eq 37, 3) := by decide +kernel
theorem d_M_best_85 : decode b_M_best 85 = .ok (.iload_n 3, 1) := by decide +kernel
theorem d_M_best_86 : decode b_M_best 86 = .ok (.ifCond .lt 28, 3) := by decide +kernel
theorem d_M_best_89 : decode b_M_best 89 = .ok (.aload_n 0, 1) := by decide +kernel
theorem d_M_best_90 : decode b_M_best 90 = .ok (.getfield 13, 3) := by decide +kernel
theorem d_M_best_93 : decode b_M_best 93 = .ok (.iload 4, 2) := by decide +kernel
theorem d_M_best_95 : decode b_M_best 95 = .ok (.laload, 1) := by decide +kernel
theorem d_M_best_96 : decode b_M_best 96 = .ok (.aload_n 0, 1) := by decide +kernel
theorem d_M_best_97 : decode b_M_best 97 = .ok (.getfield 13, 3) := by decide +kernel
theorem d_M_best_100 : decode b_M_best 100 = .ok (.iload_n 3, 1) := by decide +kernel
theorem d_M_best_101 : decode b_M_best 101 = .ok (.ifCond .ge 7, 3) := by decide +kernel
theorem d_M_best_104 : decode b_M_best 104 = .ok (.iconst 0, 1) := by decide +kernel
theorem d_M_best_105 : decode b_M_best 105 = .ok (.goto 4, 3) := by decide +kernel
theorem d_M_best_108 : decode b_M_best 108 = .ok (.iload_n 3, 1) := by decide +kernel
theorem d_M_best_109 : decode b_M_best 109 = .ok (.laload, 1) := by decide +kernel
theorem d_M_best_110 : decode b_M_best 110 = .ok (.lcmp, 1) := by decide +kernel
theorem d_M_best_111 : decode b_M_best 111 = .ok (.ifCond .le 8, 3) := by decide +kernel
theorem d_M_best_114 : decode b_M_best 114 = .ok (.iload 4, 2) := by decide +kernel
theorem d_M_best_116 : decode b_M_best 116 = .ok (.goto 4, 3) := by decide +kernel
theorem d_M_best_119 : decode b_M_best 119 = .ok (.iload_n 3, 1) := by decide +kernel
theorem d_M_best_120 : decode b_M_best 120 = .ok (.istore_n 3, 1) := by decide +kernel
theorem d_M_best_121 : decode b_M_best 121 = .ok (.iinc 4 1, 3) := by decide +kernel
theorem d_M_best_124 : decode b_M_best 124 = .ok (.goto (-119), 3) := by decide +kernel
theorem d_M_best_127 : decode b_M_best 127 = .ok (.iload_n 3, 1) := by decide +kernel
theorem d_M_best_128 : decode b_M_best 128 = .ok (.ireturn, 1) := by decide +kernel
theorem d_M_gather_0 : decode b_M_gather 0 = .ok (.aload_n 0, 1) := by decide +kernel
theorem d_M_gather_1 : decode b_M_gather 1 = .ok (.iconst 0, 1) := by decide +kernel
theorem d_M_gather_2 : decode b_M_gather 2 = .ok (.putfield 54, 3) := by decide +kernel
theorem d_M_gather_5 : decode b_M_gather 5 = .ok (.lload_n 2, 1) := by decide +kernel
theorem d_M_gather_6 : decode b_M_gather 6 = .ok (.lconst 1, 1) := by decide +kernel
theorem d_M_gather_7 : decode b_M_gather 7 = .ok (.lcmp, 1) := by decide +kernel
theorem d_M_gather_8 : decode b_M_gather 8 = .ok (.ifCond .ge 5, 3) := by decide +kernel
theorem d_M_gather_11 : decode b_M_gather 11 = .ok (.iconst (-1), 1) := by decide +kernel
theorem d_M_gather_12 : decode b_M_gather 12 = .ok (.ireturn, 1) := by decide +kernel
theorem d_M_gather_13 : decode b_M_gather 13 = .ok (.lload_n 2, 1) := by decide +kernel
theorem d_M_gather_14 : decode b_M_gather 14 = .ok (.lstore 4, 2) := by decide +kernel
theorem d_M_gather_16 : decode b_M_gather 16 = .ok (.iconst 0, 1) := by decide +kernel
theorem d_M_gather_17 : decode b_M_gather 17 = .ok (.istore 6, 2) := by decide +kernel
theorem d_M_gather_19 : decode b_M_gather 19 = .ok (.lload 4, 2) := by decide +kernel
theorem d_M_gather_21 : decode b_M_gather 21 = .ok (.lconst 0, 1) := by decide +kernel
theorem d_M_gather_22 : decode b_M_gather 22 = .ok (.lcmp, 1) := by decide +kernel
theorem d_M_gather_23 : decode b_M_gather 23 = .ok (.ifCond .le 71, 3) := by decide +kernel
theorem d_M_gather_26 : decode b_M_gather 26 = .ok (.iload 6, 2) := by decide +kernel
theorem d_M_gather_28 : decode b_M_gather 28 = .ok (.aload_n 0, 1) := by decide +kernel
theorem d_M_gather_29 : decode b_M_gather 29 = .ok (.getfield 64, 3) := by decide +kernel
theorem d_M_gather_32 : decode b_M_gather 32 = .ok (.iadd, 1) := by decide +kernel
theorem d_M_gather_33 : decode b_M_gather 33 = .ok (.bipush 16, 2) := by decide +kernel
theorem d_M_gather_35 : decode b_M_gather 35 = .ok (.if_icmp .ge 13, 3) := by decide +kernel
theorem d_M_gather_38 : decode b_M_gather 38 = .ok (.aload_n 0, 1) := by decide +kernel
theorem d_M_gather_39 : decode b_M_gather 39 = .ok (.iload_n 1, 1) := by decide +kernel
theorem d_M_gather_40 : decode b_M_gather 40 = .ok (.iload 6, 2) := by decide +kernel
theorem d_M_gather_42 : decode b_M_gather 42 = .ok (.invokevirtual 109, 3) := by decide +kernel
theorem d_M_gather_45 : decode b_M_gather 45 = .ok (.goto 4, 3) := by decide +kernel
theorem d_M_gather_48 : decode b_M_gather 48 = .ok (.iconst (-1), 1) := by decide +kernel
theorem d_M_gather_49 : decode b_M_gather 49 = .ok (.istore 7, 2) := by decide +kernel
theorem d_M_gather_51 : decode b_M_gather 51 = .ok (.iload 7, 2) := by decide +kernel
theorem d_M_gather_53 : decode b_M_gather 53 = .ok (.ifCond .lt 12, 3) := by decide +kernel
theorem d_M_gather_56 : decode b_M_gather 56 = .ok (.aload_n 0, 1) := by decide +kernel
theorem d_M_gather_57 : decode b_M_gather 57 = .ok (.iload 7, 2) := by decide +kernel
theorem d_M_gather_59 : decode b_M_gather 59 = .ok (.invokevirtual 77, 3) := by decide +kernel
theorem d_M_gather_62 : decode b_M_gather 62 = .ok (.ifCond .eq 5, 3) := by decide +kernel
theorem d_M_gather_65 : decode b_M_gather 65 = .ok (.iconst (-1), 1) := by decide +kernel
theorem d_M_gather_66 : decode b_M_gather 66 = .ok (.ireturn, 1) := by decide +kernel
theorem d_M_gather_67 : decode b_M_gather 67 = .ok (.aload_n 0, 1) := by decide +kernel
theorem d_M_gather_68 : decode b_M_gather 68 = .ok (.getfield 47, 3) := by decide +kernel
theorem d_M_gather_71 : decode b_M_gather 71 = .ok (.iload 6, 2) := by decide +kernel
theorem d_M_gather_73 : decode b_M_gather 73 = .ok (.iload 7, 2) := by decide +kernel
theorem d_M_gather_75 : decode b_M_gather 75 = .ok (.iastore, 1) := by decide +kernel
theorem d_M_gather_76 : decode b_M_gather 76 = .ok (.iinc 6 1, 3) := by decide +kernel
theorem d_M_gather_79 : decode b_M_gather 79 = .ok (.lload 4, 2) := by decide +kernel
theorem d_M_gather_81 : decode b_M_gather 81 = .ok (.aload_n 0, 1) := by decide +kernel
theorem d_M_gather_82 : decode b_M_gather 82 = .ok (.getfield 13, 3) := by decide +kernel
theorem d_M_gather_85 : decode b_M_gather 85 = .ok (.iload 7, 2) := by decide +kernel
theorem d_M_gather_87 : decode b_M_gather 87 = .ok (.laload, 1) := by decide +kernel
theorem d_M_gather_88 : decode b_M_gather 88 = .ok (.lsub, 1) := by decide +kernel
theorem d_M_gather_89 : decode b_M_gather 89 = .ok (.lstore 4, 2) := by decide +kernel
theorem d_M_gather_91 : decode b_M_gather 91 = .ok (.goto (-72), 3) := by decide +kernel
theorem d_M_gather_94 : decode b_M_gather 94 = .ok (.iconst 0, 1) := by decide +kernel
theorem d_M_gather_95 : decode b_M_gather 95 = .ok (.istore 7, 2) := by decide +kernel
theorem d_M_gather_97 : decode b_M_gather 97 = .ok (.iload 7, 2) := by decide +kernel
theorem d_M_gather_99 : decode b_M_gather 99 = .ok (.iload 6, 2) := by decide +kernel
theorem d_M_gather_101 : decode b_M_gather 101 = .ok (.if_icmp .ge 35, 3) := by decide +kernel
theorem d_M_gather_104 : decode b_M_gather 104 = .ok (.aload_n 0, 1) := by decide +kernel
theorem d_M_gather_105 : decode b_M_gather 105 = .ok (.getfield 35, 3) := by decide +kernel
theorem d_M_gather_108 : decode b_M_gather 108 = .ok (.aload_n 0, 1) := by decide +kernel
theorem d_M_gather_109 : decode b_M_gather 109 = .ok (.getfield 64, 3) := by decide +kernel
theorem d_M_gather_112 : decode b_M_gather 112 = .ok (.aload_n 0, 1) := by decide +kernel
theorem d_M_gather_113 : decode b_M_gather 113 = .ok (.getfield 47, 3) := by decide +kernel
theorem d_M_gather_116 : decode b_M_gather 116 = .ok (.iload 7, 2) := by decide +kernel
theorem d_M_gather_118 : decode b_M_gather 118 = .ok (.iaload, 1) := by decide +kernel
theorem d_M_gather_119 : decode b_M_gather 119 = .ok (.iastore, 1) := by decide +kernel
theorem d_M_gather_120 : decode b_M_gather 120 = .ok (.aload_n 0, 1) := by decide +kernel
theorem d_M_gather_121 : decode b_M_gather 121 = .ok (.dup, 1) := by decide +kernel
theorem d_M_gather_122 : decode b_M_gather 122 = .ok (.getfield 64, 3) := by decide +kernel
theorem d_M_gather_125 : decode b_M_gather 125 = .ok (.iconst 1, 1) := by decide +kernel
theorem d_M_gather_126 : decode b_M_gather 126 = .ok (.iadd, 1) := by decide +kernel
theorem d_M_gather_127 : decode b_M_gather 127 = .ok (.putfield 64, 3) := by decide +kernel
theorem d_M_gather_130 : decode b_M_gather 130 = .ok (.iinc 7 1, 3) := by decide +kernel
theorem d_M_gather_133 : decode b_M_gather 133 = .ok (.goto (-36), 3) := by decide +kernel
theorem d_M_gather_136 : decode b_M_gather 136 = .ok (.iload 6, 2) := by decide +kernel
theorem d_M_gather_138 : decode b_M_gather 138 = .ok (.ireturn, 1) := by decide +kernel
theorem d_M_look_0 : decode b_M_look 0 = .ok (.aload_n 0, 1) := by decide +kernel
theorem d_M_look_1 : decode b_M_look 1 = .ok (.iconst 0, 1) := by decide +kernel
theorem d_M_look_2 : decode b_M_look 2 = .ok (.putfield 54, 3) := by decide +kernel
theorem d_M_look_5 : decode b_M_look 5 = .ok (.lconst 0, 1) := by decide +kernel
theorem d_M_look_6 : decode b_M_look 6 = .ok (.lstore_n 2, 1) := by decide +kernel
theorem d_M_look_7 : decode b_M_look 7 = .ok (.iconst 0, 1) := by decide +kernel
theorem d_M_look_8 : decode b_M_look 8 = .ok (.istore 4, 2) := by decide +kernel
theorem d_M_look_10 : decode b_M_look 10 = .ok (.iload 4, 2) := by decide +kernel
theorem d_M_look_12 : decode b_M_look 12 = .ok (.aload_n 0, 1) := by decide +kernel
theorem d_M_look_13 : decode b_M_look 13 = .ok (.getfield 57, 3) := by decide +kernel
theorem d_M_look_16 : decode b_M_look 16 = .ok (.if_icmp .ge 26, 3) := by decide +kernel
theorem d_M_look_19 : decode b_M_look 19 = .ok (.lload_n 2, 1) := by decide +kernel
theorem d_M_look_20 : decode b_M_look 20 = .ok (.aload_n 0, 1) := by decide +kernel
theorem d_M_look_21 : decode b_M_look 21 = .ok (.iload 4, 2) := by decide +kernel
theorem d_M_look_23 : decode b_M_look 23 = .ok (.invokevirtual 74, 3) := by decide +kernel
theorem d_M_look_26 : decode b_M_look 26 = .ok (.ifCond .eq 7, 3) := by decide +kernel
theorem d_M_look_29 : decode b_M_look 29 = .ok (.lconst 1, 1) := by decide +kernel
theorem d_M_look_30 : decode b_M_look 30 = .ok (.goto 4, 3) := by decide +kernel
theorem d_M_look_33 : decode b_M_look 33 = .ok (.lconst 0, 1) := by decide +kernel
theorem d_M_look_34 : decode b_M_look 34 = .ok (.ladd, 1) := by decide +kernel
theorem d_M_look_35 : decode b_M_look 35 = .ok (.lstore_n 2, 1) := by decide +kernel
theorem d_M_look_36 : decode b_M_look 36 = .ok (.iinc 4 1, 3) := by decide +kernel
theorem d_M_look_39 : decode b_M_look 39 = .ok (.goto (-29), 3) := by decide +kernel
theorem d_M_look_42 : decode b_M_look 42 = .ok (.iload_n 1, 1) := by decide +kernel
theorem d_M_look_43 : decode b_M_look 43 = .ok (.tableswitch 106 0 9 #[53, 58, 63, 69, 75, 77, 83, 89, 95, 100], 53) := by decide +kernel
theorem d_M_look_96 : decode b_M_look 96 = .ok (.aload_n 0, 1) := by decide +kernel
theorem d_M_look_97 : decode b_M_look 97 = .ok (.getfield 90, 3) := by decide +kernel
theorem d_M_look_100 : decode b_M_look 100 = .ok (.lreturn, 1) := by decide +kernel
theorem d_M_look_101 : decode b_M_look 101 = .ok (.aload_n 0, 1) := by decide +kernel
theorem d_M_look_102 : decode b_M_look 102 = .ok (.getfield 100, 3) := by decide +kernel
theorem d_M_look_105 : decode b_M_look 105 = .ok (.lreturn, 1) := by decide +kernel
theorem d_M_look_106 : decode b_M_look 106 = .ok (.aload_n 0, 1) := by decide +kernel
theorem d_M_look_107 : decode b_M_look 107 = .ok (.getfield 97, 3) := by decide +kernel
theorem d_M_look_110 : decode b_M_look 110 = .ok (.i2l, 1) := by decide +kernel
theorem d_M_look_111 : decode b_M_look 111 = .ok (.lreturn, 1) := by decide +kernel
theorem d_M_look_112 : decode b_M_look 112 = .ok (.aload_n 0, 1) := by decide +kernel
theorem d_M_look_113 : decode b_M_look 113 = .ok (.getfield 57, 3) := by decide +kernel
theorem d_M_look_116 : decode b_M_look 116 = .ok (.i2l, 1) := by decide +kernel
theorem d_M_look_117 : decode b_M_look 117 = .ok (.lreturn, 1) := by decide +kernel
theorem d_M_look_118 : decode b_M_look 118 = .ok (.lload_n 2, 1) := by decide +kernel
theorem d_M_look_119 : decode b_M_look 119 = .ok (.lreturn, 1) := by decide +kernel
theorem d_M_look_120 : decode b_M_look 120 = .ok (.aload_n 0, 1) := by decide +kernel
theorem d_M_look_121 : decode b_M_look 121 = .ok (.getfield 106, 3) := by decide +kernel
theorem d_M_look_124 : decode b_M_look 124 = .ok (.i2l, 1) := by decide +kernel
theorem d_M_look_125 : decode b_M_look 125 = .ok (.lreturn, 1) := by decide +kernel
theorem d_M_look_126 : decode b_M_look 126 = .ok (.aload_n 0, 1) := by decide +kernel
theorem d_M_look_127 : decode b_M_look 127 = .ok (.getfield 64, 3) := by decide +kernel
theorem d_M_look_130 : decode b_M_look 130 = .ok (.i2l, 1) := by decide +kernel
theorem d_M_look_131 : decode b_M_look 131 = .ok (.lreturn, 1) := by decide +kernel
theorem d_M_look_132 : decode b_M_look 132 = .ok (.aload_n 0, 1) := by decide +kernel
theorem d_M_look_133 : decode b_M_look 133 = .ok (.getfield 67, 3) := by decide +kernel
theorem d_M_look_136 : decode b_M_look 136 = .ok (.i2l, 1) := by decide +kernel
theorem d_M_look_137 : decode b_M_look 137 = .ok (.lreturn, 1) := by decide +kernel
theorem d_M_look_138 : decode b_M_look 138 = .ok (.aload_n 0, 1) := by decide +kernel
theorem d_M_look_139 : decode b_M_look 139 = .ok (.getfield 70, 3) := by decide +kernel
theorem d_M_look_142 : decode b_M_look 142 = .ok (.lreturn, 1) := by decide +kernel
theorem d_M_look_143 : decode b_M_look 143 = .ok (.aload_n 0, 1) := by decide +kernel
theorem d_M_look_144 : decode b_M_look 144 = .ok (.getfield 103, 3) := by decide +kernel
theorem d_M_look_147 : decode b_M_look 147 = .ok (.i2l, 1) := by decide +kernel
theorem d_M_look_148 : decode b_M_look 148 = .ok (.lreturn, 1) := by decide +kernel
theorem d_M_look_149 : decode b_M_look 149 = .ok (.ldc2_w 86, 3) := by decide +kernel
theorem d_M_look_152 : decode b_M_look 152 = .ok (.lreturn, 1) := by decide +kernel
end
section
theorem d_L_cell_0 : decode b_L_cell 0 = .ok (.iload_n 1, 1) := by decide +kernel
theorem d_L_cell_1 : decode b_L_cell 1 = .ok (.aload_n 0, 1) := by decide +kernel
theorem d_L_cell_2 : decode b_L_cell 2 = .ok (.arraylength, 1) := by decide +kernel
theorem d_L_cell_3 : decode b_L_cell 3 = .ok (.if_icmp .ge 9, 3) := by decide +kernel
theorem d_L_cell_6 : decode b_L_cell 6 = .ok (.aload_n 0, 1) := by decide +kernel
theorem d_L_cell_7 : decode b_L_cell 7 = .ok (.iload_n 1, 1) := by decide +kernel
theorem d_L_cell_8 : decode b_L_cell 8 = .ok (.iaload, 1) := by decide +kernel
theorem d_L_cell_9 : decode b_L_cell 9 = .ok (.goto 4, 3) := by decide +kernel
theorem d_L_cell_12 : decode b_L_cell 12 = .ok (.iconst 0, 1) := by decide +kernel
theorem d_L_cell_13 : decode b_L_cell 13 = .ok (.ireturn, 1) := by decide +kernel
theorem d_L_law_0 : decode b_L_law 0 = .ok (.new 7, 3) := by decide +kernel
theorem d_L_law_3 : decode b_L_law 3 = .ok (.dup, 1) := by decide +kernel
theorem d_L_law_4 : decode b_L_law 4 = .ok (.aload_n 0, 1) := by decide +kernel
theorem d_L_law_5 : decode b_L_law 5 = .ok (.iconst 0, 1) := by decide +kernel
theorem d_L_law_6 : decode b_L_law 6 = .ok (.invokestatic 9, 3) := by decide +kernel
theorem d_L_law_9 : decode b_L_law 9 = .ok (.invokespecial 15, 3) := by decide +kernel
theorem d_L_law_12 : decode b_L_law 12 = .ok (.astore_n 1, 1) := by decide +kernel
theorem d_L_law_13 : decode b_L_law 13 = .ok (.new 18, 3) := by decide +kernel
theorem d_L_law_16 : decode b_L_law 16 = .ok (.dup, 1) := by decide +kernel
theorem d_L_law_17 : decode b_L_law 17 = .ok (.aload_n 0, 1) := by decide +kernel
theorem d_L_law_18 : decode b_L_law 18 = .ok (.iconst 0, 1) := by decide +kernel
theorem d_L_law_19 : decode b_L_law 19 = .ok (.invokestatic 9, 3) := by decide +kernel
theorem d_L_law_22 : decode b_L_law 22 = .ok (.invokespecial 20, 3) := by decide +kernel
theorem d_L_law_25 : decode b_L_law 25 = .ok (.astore_n 2, 1) := by decide +kernel
theorem d_L_law_26 : decode b_L_law 26 = .ok (.iconst 1, 1) := by decide +kernel
theorem d_L_law_27 : decode b_L_law 27 = .ok (.istore_n 3, 1) := by decide +kernel
theorem d_L_law_28 : decode b_L_law 28 = .ok (.iload_n 3, 1) := by decide +kernel
theorem d_L_law_29 : decode b_L_law 29 = .ok (.aload_n 0, 1) := by decide +kernel
theorem d_L_law_30 : decode b_L_law 30 = .ok (.arraylength, 1) := by decide +kernel
theorem d_L_law_31 : decode b_L_law 31 = .ok (.bipush 6, 2) := by decide +kernel
theorem d_L_law_33 : decode b_L_law 33 = .ok (.isub, 1) := by decide +kernel
theorem d_L_law_34 : decode b_L_law 34 = .ok (.if_icmp .gt 574, 3) := by decide +kernel
theorem d_L_law_37 : decode b_L_law 37 = .ok (.aload_n 0, 1) := by decide +kernel
theorem d_L_law_38 : decode b_L_law 38 = .ok (.iload_n 3, 1) := by decide +kernel
theorem d_L_law_39 : decode b_L_law 39 = .ok (.iaload, 1) := by decide +kernel
theorem d_L_law_40 : decode b_L_law 40 = .ok (.bipush 15, 2) := by decide +kernel
theorem d_L_law_42 : decode b_L_law 42 = .ok (.iand, 1) := by decide +kernel
theorem d_L_law_43 : decode b_L_law 43 = .ok (.tableswitch 559 0 14 #[73, 96, 199, 250, 261, 275, 288, 311, 344, 368, 392, 416, 439, 472, 535], 73) := by decide +kernel
theorem d_L_law_116 : decode b_L_law 116 = .ok (.aload_n 1, 1) := by decide +kernel
theorem d_L_law_117 : decode b_L_law 117 = .ok (.aload_n 0, 1) := by decide +kernel
theorem d_L_law_118 : decode b_L_law 118 = .ok (.iload_n 3, 1) := by decide +kernel
theorem d_L_law_119 : decode b_L_law 119 = .ok (.iconst 1, 1) := by decide +kernel
theorem d_L_law_120 : decode b_L_law 120 = .ok (.iadd, 1) := by decide +kernel
theorem d_L_law_121 : decode b_L_law 121 = .ok (.iaload, 1) := by decide +kernel
theorem d_L_law_122 : decode b_L_law 122 = .ok (.invokevirtual 21, 3) := by decide +kernel
theorem d_L_law_125 : decode b_L_law 125 = .ok (.aload_n 2, 1) := by decide +kernel
theorem d_L_law_126 : decode b_L_law 126 = .ok (.aload_n 0, 1) := by decide +kernel
theorem d_L_law_127 : decode b_L_law 127 = .ok (.iload_n 3, 1) := by decide +kernel
theorem d_L_law_128 : decode b_L_law 128 = .ok (.iconst 1, 1) := by decide +kernel
theorem d_L_law_129 : decode b_L_law 129 = .ok (.iadd, 1) := by decide +kernel
theorem d_L_law_130 : decode b_L_law 130 = .ok (.iaload, 1) := by decide +kernel
theorem d_L_law_131 : decode b_L_law 131 = .ok (.invokevirtual 25, 3) := by decide +kernel
theorem d_L_law_134 : decode b_L_law 134 = .ok (.if_icmp .eq 468, 3) := by decide +kernel
theorem d_L_law_137 : decode b_L_law 137 = .ok (.iconst 0, 1) := by decide +kernel
theorem d_L_law_138 : decode b_L_law 138 = .ok (.ireturn, 1) := by decide +kernel
theorem d_L_law_139 : decode b_L_law 139 = .ok (.aload_n 1, 1) := by decide +kernel
theorem d_L_law_140 : decode b_L_law 140 = .ok (.aload_n 0, 1) := by decide +kernel
theorem d_L_law_141 : decode b_L_law 141 = .ok (.iload_n 3, 1) := by decide +kernel
theorem d_L_law_142 : decode b_L_law 142 = .ok (.iconst 1, 1) := by decide +kernel
theorem d_L_law_143 : decode b_L_law 143 = .ok (.iadd, 1) := by decide +kernel
theorem d_L_law_144 : decode b_L_law 144 = .ok (.iaload, 1) := by decide +kernel
theorem d_L_law_145 : decode b_L_law 145 = .ok (.aload_n 0, 1) := by decide +kernel
theorem d_L_law_146 : decode b_L_law 146 = .ok (.iload_n 3, 1) := by decide +kernel
theorem d_L_law_147 : decode b_L_law 147 = .ok (.iconst 2, 1) := by decide +kernel
theorem d_L_law_148 : decode b_L_law 148 = .ok (.iadd, 1) := by decide +kernel
theorem d_L_law_149 : decode b_L_law 149 = .ok (.iaload, 1) := by decide +kernel
theorem d_L_law_150 : decode b_L_law 150 = .ok (.i2l, 1) := by decide +kernel
theorem d_L_law_151 : decode b_L_law 151 = .ok (.bipush 32, 2) := by decide +kernel
theorem d_L_law_153 : decode b_L_law 153 = .ok (.lshl, 1) := by decide +kernel
theorem d_L_law_154 : decode b_L_law 154 = .ok (.aload_n 0, 1) := by decide +kernel
theorem d_L_law_155 : decode b_L_law 155 = .ok (.iload_n 3, 1) := by decide +kernel
theorem d_L_law_156 : decode b_L_law 156 = .ok (.iconst 3, 1) := by decide +kernel
theorem d_L_law_157 : decode b_L_law 157 = .ok (.iadd, 1) := by decide +kernel
theorem d_L_law_158 : decode b_L_law 158 = .ok (.iaload, 1) := by decide +kernel
theorem d_L_law_159 : decode b_L_law 159 = .ok (.i2l, 1) := by decide +kernel
theorem d_L_law_160 : decode b_L_law 160 = .ok (.ldc2_w 26, 3) := by decide +kernel
theorem d_L_law_163 : decode b_L_law 163 = .ok (.land, 1) := by decide +kernel
theorem d_L_law_164 : decode b_L_law 164 = .ok (.lor, 1) := by decide +kernel
theorem d_L_law_165 : decode b_L_law 165 = .ok (.aload_n 0, 1) := by decide +kernel
theorem d_L_law_166 : decode b_L_law 166 = .ok (.iload_n 3, 1) := by decide +kernel
theorem d_L_law_167 : decode b_L_law 167 = .ok (.iconst 4, 1) := by decide +kernel
theorem d_L_law_168 : decode b_L_law 168 = .ok (.iadd, 1) := by decide +kernel
theorem d_L_law_169 : decode b_L_law 169 = .ok (.iaload, 1) := by decide +kernel
theorem d_L_law_170 : decode b_L_law 170 = .ok (.i2l, 1) := by decide +kernel
theorem d_L_law_171 : decode b_L_law 171 = .ok (.bipush 32, 2) := by decide +kernel
theorem d_L_law_173 : decode b_L_law 173 = .ok (.lshl, 1) := by decide +kernel
theorem d_L_law_174 : decode b_L_law 174 = .ok (.aload_n 0, 1) := by decide +kernel
theorem d_L_law_175 : decode b_L_law 175 = .ok (.iload_n 3, 1) := by decide +kernel
theorem d_L_law_176 : decode b_L_law 176 = .ok (.iconst 5, 1) := by decide +kernel
theorem d_L_law_177 : decode b_L_law 177 = .ok (.iadd, 1) := by decide +kernel
theorem d_L_law_178 : decode b_L_law 178 = .ok (.iaload, 1) := by decide +kernel
theorem d_L_law_179 : decode b_L_law 179 = .ok (.i2l, 1) := by decide +kernel
theorem d_L_law_180 : decode b_L_law 180 = .ok (.ldc2_w 26, 3) := by decide +kernel
theorem d_L_law_183 : decode b_L_law 183 = .ok (.land, 1) := by decide +kernel
theorem d_L_law_184 : decode b_L_law 184 = .ok (.lor, 1) := by decide +kernel
theorem d_L_law_185 : decode b_L_law 185 = .ok (.invokevirtual 28, 3) := by decide +kernel
theorem d_L_law_188 : decode b_L_law 188 = .ok (.aload_n 2, 1) := by decide +kernel
theorem d_L_law_189 : decode b_L_law 189 = .ok (.aload_n 0, 1) := by decide +kernel
theorem d_L_law_190 : decode b_L_law 190 = .ok (.iload_n 3, 1) := by decide +kernel
theorem d_L_law_191 : decode b_L_law 191 = .ok (.iconst 1, 1) := by decide +kernel
theorem d_L_law_192 : decode b_L_law 192 = .ok (.iadd, 1) := by decide +kernel
theorem d_L_law_193 : decode b_L_law 193 = .ok (.iaload, 1) := by decide +kernel
theorem d_L_law_194 : decode b_L_law 194 = .ok (.aload_n 0, 1) := by decide +kernel
theorem d_L_law_195 : decode b_L_law 195 = .ok (.iload_n 3, 1) := by decide +kernel
theorem d_L_law_196 : decode b_L_law 196 = .ok (.iconst 2, 1) := by decide +kernel
theorem d_L_law_197 : decode b_L_law 197 = .ok (.iadd, 1) := by decide +kernel
theorem d_L_law_198 : decode b_L_law 198 = .ok (.iaload, 1) := by decide +kernel
theorem d_L_law_199 : decode b_L_law 199 = .ok (.i2l, 1) := by decide +kernel
theorem d_L_law_200 : decode b_L_law 200 = .ok (.bipush 32, 2) := by decide +kernel
theorem d_L_law_202 : decode b_L_law 202 = .ok (.lshl, 1) := by decide +kernel
theorem d_L_law_203 : decode b_L_law 203 = .ok (.aload_n 0, 1) := by decide +kernel
theorem d_L_law_204 : decode b_L_law 204 = .ok (.iload_n 3, 1) := by decide +kernel
theorem d_L_law_205 : decode b_L_law 205 = .ok (.iconst 3, 1) := by decide +kernel
theorem d_L_law_206 : decode b_L_law 206 = .ok (.iadd, 1) := by decide +kernel
theorem d_L_law_207 : decode b_L_law 207 = .ok (.iaload, 1) := by decide +kernel
theorem d_L_law_208 : decode b_L_law 208 = .ok (.i2l, 1) := by decide +kernel
theorem d_L_law_209 : decode b_L_law 209 = .ok (.ldc2_w 26, 3) := by decide +kernel
theorem d_L_law_212 : decode b_L_law 212 = .ok (.land, 1) := by decide +kernel
theorem d_L_law_213 : decode b_L_law 213 = .ok (.lor, 1) := by decide +kernel
theorem d_L_law_214 : decode b_L_law 214 = .ok (.aload_n 0, 1) := by decide +kernel
theorem d_L_law_215 : decode b_L_law 215 = .ok (.iload_n 3, 1) := by decide +kernel
theorem d_L_law_216 : decode b_L_law 216 = .ok (.iconst 4, 1) := by decide +kernel
theorem d_L_law_217 : decode b_L_law 217 = .ok (.iadd, 1) := by decide +kernel
theorem d_L_law_218 : decode b_L_law 218 = .ok (.iaload, 1) := by decide +kernel
theorem d_L_law_219 : decode b_L_law 219 = .ok (.i2l, 1) := by decide +kernel
theorem d_L_law_220 : decode b_L_law 220 = .ok (.bipush 32, 2) := by decide +kernel
theorem d_L_law_222 : decode b_L_law 222 = .ok (.lshl, 1) := by decide +kernel
theorem d_L_law_223 : decode b_L_law 223 = .ok (.aload_n 0, 1) := by decide +kernel
theorem d_L_law_224 : decode b_L_law 224 = .ok (.iload_n 3, 1) := by decide +kernel
theorem d_L_law_225 : decode b_L_law 225 = .ok (.iconst 5, 1) := by decide +kernel
theorem d_L_law_226 : decode b_L_law 226 = .ok (.iadd, 1) := by decide +kernel
theorem d_L_law_227 : decode b_L_law 227 = .ok (.iaload, 1) := by decide +kernel
theorem d_L_law_228 : decode b_L_law 228 = .ok (.i2l, 1) := by decide +kernel
theorem d_L_law_229 : decode b_L_law 229 = .ok (.ldc2_w 26, 3) := by decide +kernel
theorem d_L_law_232 : decode b_L_law 232 = .ok (.land, 1) := by decide +kernel
theorem d_L_law_233 : decode b_L_law 233 = .ok (.lor, 1) := by decide +kernel
theorem d_L_law_234 : decode b_L_law 234 = .ok (.invokevirtual 32, 3) := by decide +kernel
theorem d_L_law_237 : decode b_L_law 237 = .ok (.if_icmp .eq 365, 3) := by decide +kernel
theorem d_L_law_240 : decode b_L_law 240 = .ok (.iconst 0, 1) := by decide +kernel
theorem d_L_law_241 : decode b_L_law 241 = .ok (.ireturn, 1) := by decide +kernel
theorem d_L_law_242 : decode b_L_law 242 = .ok (.aload_n 1, 1) := by decide +kernel
theorem d_L_law_243 : decode b_L_law 243 = .ok (.aload_n 0, 1) := by decide +kernel
theorem d_L_law_244 : decode b_L_law 244 = .ok (.iload_n 3, 1) := by decide +kernel
theorem d_L_law_245 : decode b_L_law 245 = .ok (.iconst 1, 1) := by decide +kernel
theorem d_L_law_246 : decode b_L_law 246 = .ok (.iadd, 1) := by decide +kernel
theorem d_L_law_247 : decode b_L_law 247 = .ok (.iaload, 1) := by decide +kernel
theorem d_L_law_248 : decode b_L_law 248 = .ok (.i2l, 1) := by decide +kernel
theorem d_L_law_249 : decode b_L_law 249 = .ok (.bipush 32, 2) := by decide +kernel
theorem d_L_law_251 : decode b_L_law 251 = .ok (.lshl, 1) := by decide +kernel
theorem d_L_law_252 : decode b_L_law 252 = .ok (.aload_n 0, 1) := by decide +kernel
theorem d_L_law_253 : decode b_L_law 253 = .ok (.iload_n 3, 1) := by decide +kernel
theorem d_L_law_254 : decode b_L_law 254 = .ok (.iconst 2, 1) := by decide +kernel
theorem d_L_law_255 : decode b_L_law 255 = .ok (.iadd, 1) := by decide +kernel
theorem d_L_law_256 : decode b_L_law 256 = .ok (.iaload, 1) := by decide +kernel
theorem d_L_law_257 : decode b_L_law 257 = .ok (.i2l, 1) := by decide +kernel
theorem d_L_law_258 : decode b_L_law 258 = .ok (.ldc2_w 26, 3) := by decide +kernel
theorem d_L_law_261 : decode b_L_law 261 = .ok (.land, 1) := by decide +kernel
theorem d_L_law_262 : decode b_L_law 262 = .ok (.lor, 1) := by decide +kernel
theorem d_L_law_263 : decode b_L_law 263 = .ok (.invokevirtual 33, 3) := by decide +kernel
theorem d_L_law_266 : decode b_L_law 266 = .ok (.aload_n 2, 1) := by decide +kernel
theorem d_L_law_267 : decode b_L_law 267 = .ok (.aload_n 0, 1) := by decide +kernel
theorem d_L_law_268 : decode b_L_law 268 = .ok (.iload_n 3, 1) := by decide +kernel
theorem d_L_law_269 : decode b_L_law 269 = .ok (.iconst 1, 1) := by decide +kernel
theorem d_L_law_270 : decode b_L_law 270 = .ok (.iadd, 1) := by decide +kernel
theorem d_L_law_271 : decode b_L_law 271 = .ok (.iaload, 1) := by decide +kernel
theorem d_L_law_272 : decode b_L_law 272 = .ok (.i2l, 1) := by decide +kernel
theorem d_L_law_273 : decode b_L_law 273 = .ok (.bipush 32, 2) := by decide +kernel
theorem d_L_law_275 : decode b_L_law 275 = .ok (.lshl, 1) := by decide +kernel
theorem d_L_law_276 : decode b_L_law 276 = .ok (.aload_n 0, 1) := by decide +kernel
theorem d_L_law_277 : decode b_L_law 277 = .ok (.iload_n 3, 1) := by decide +kernel
theorem d_L_law_278 : decode b_L_law 278 = .ok (.iconst 2, 1) := by decide +kernel
theorem d_L_law_279 : decode b_L_law 279 = .ok (.iadd, 1) := by decide +kernel
theorem d_L_law_280 : decode b_L_law 280 = .ok (.iaload, 1) := by decide +kernel
theorem d_L_law_281 : decode b_L_law 281 = .ok (.i2l, 1) := by decide +kernel
theorem d_L_law_282 : decode b_L_law 282 = .ok (.ldc2_w 26, 3) := by decide +kernel
theorem d_L_law_285 : decode b_L_law 285 = .ok (.land, 1) := by decide +kernel
theorem d_L_law_286 : decode b_L_law 286 = .ok (.lor, 1) := by decide +kernel
theorem d_L_law_287 : decode b_L_law 287 = .ok (.invokevirtual 37, 3) := by decide +kernel
theorem d_L_law_290 : decode b_L_law 290 = .ok (.goto 312, 3) := by decide +kernel
theorem d_L_law_293 : decode b_L_law 293 = .ok (.aload_n 1, 1) := by decide +kernel
theorem d_L_law_294 : decode b_L_law 294 = .ok (.invokevirtual 38, 3) := by decide +kernel
theorem d_L_law_297 : decode b_L_law 297 = .ok (.aload_n 2, 1) := by decide +kernel
theorem d_L_law_298 : decode b_L_law 298 = .ok (.invokevirtual 41, 3) := by decide +kernel
theorem d_L_law_301 : decode b_L_law 301 = .ok (.goto 301, 3) := by decide +kernel
theorem d_L_law_304 : decode b_L_law 304 = .ok (.aload_n 1, 1) := by decide +kernel
theorem d_L_law_305 : decode b_L_law 305 = .ok (.invokevirtual 42, 3) := by decide +kernel
theorem d_L_law_308 : decode b_L_law 308 = .ok (.aload_n 2, 1) := by decide +kernel
theorem d_L_law_309 : decode b_L_law 309 = .ok (.invokevirtual 46, 3) := by decide +kernel
theorem d_L_law_312 : decode b_L_law 312 = .ok (.lcmp, 1) := by decide +kernel
theorem d_L_law_313 : decode b_L_law 313 = .ok (.ifCond .eq 289, 3) := by decide +kernel
theorem d_L_law_316 : decode b_L_law 316 = .ok (.iconst 0, 1) := by decide +kernel
theorem d_L_law_317 : decode b_L_law 317 = .ok (.ireturn, 1) := by decide +kernel
theorem d_L_law_318 : decode b_L_law 318 = .ok (.aload_n 1, 1) := by decide +kernel
theorem d_L_law_319 : decode b_L_law 319 = .ok (.invokevirtual 47, 3) := by decide +kernel
theorem d_L_law_322 : decode b_L_law 322 = .ok (.aload_n 2, 1) := by decide +kernel
theorem d_L_law_323 : decode b_L_law 323 = .ok (.invokevirtual 51, 3) := by decide +kernel
theorem d_L_law_326 : decode b_L_law 326 = .ok (.if_icmp .eq 276, 3) := by decide +kernel
theorem d_L_law_329 : decode b_L_law 329 = .ok (.iconst 0, 1) := by decide +kernel
theorem d_L_law_330 : decode b_L_law 330 = .ok (.ireturn, 1) := by decide +kernel
theorem d_L_law_331 : decode b_L_law 331 = .ok (.aload_n 1, 1) := by decide +kernel
theorem d_L_law_332 : decode b_L_law 332 = .ok (.aload_n 0, 1) := by decide +kernel
theorem d_L_law_333 : decode b_L_law 333 = .ok (.iload_n 3, 1) := by decide +kernel
theorem d_L_law_334 : decode b_L_law 334 = .ok (.iconst 1, 1) := by decide +kernel
theorem d_L_law_335 : decode b_L_law 335 = .ok (.iadd, 1) := by decide +kernel
theorem d_L_law_336 : decode b_L_law 336 = .ok (.iaload, 1) := by decide +kernel
theorem d_L_law_337 : decode b_L_law 337 = .ok (.invokevirtual 52, 3) := by decide +kernel
theorem d_L_law_340 : decode b_L_law 340 = .ok (.aload_n 2, 1) := by decide +kernel
theorem d_L_law_341 : decode b_L_law 341 = .ok (.aload_n 0, 1) := by decide +kernel
theorem d_L_law_342 : decode b_L_law 342 = .ok (.iload_n 3, 1) := by decide +kernel
theorem d_L_law_343 : decode b_L_law 343 = .ok (.iconst 1, 1) := by decide +kernel
theorem d_L_law_344 : decode b_L_law 344 = .ok (.iadd, 1) := by decide +kernel
theorem d_L_law_345 : decode b_L_law 345 = .ok (.iaload, 1) := by decide +kernel
theorem d_L_law_346 : decode b_L_law 346 = .ok (.invokevirtual 56, 3) := by decide +kernel
theorem d_L_law_349 : decode b_L_law 349 = .ok (.if_icmp .eq 253, 3) := by decide +kernel
theorem d_L_law_352 : decode b_L_law 352 = .ok (.iconst 0, 1) := by decide +kernel
theorem d_L_law_353 : decode b_L_law 353 = .ok (.ireturn, 1) := by decide +kernel
theorem d_L_law_354 : decode b_L_law 354 = .ok (.aload_n 1, 1) := by decide +kernel
theorem d_L_law_355 : decode b_L_law 355 = .ok (.aload_n 0, 1) := by decide +kernel
theorem d_L_law_356 : decode b_L_law 356 = .ok (.iload_n 3, 1) := by decide +kernel
theorem d_L_law_357 : decode b_L_law 357 = .ok (.iconst 1, 1) := by decide +kernel
theorem d_L_law_358 : decode b_L_law 358 = .ok (.iadd, 1) := by decide +kernel
theorem d_L_law_359 : decode b_L_law 359 = .ok (.iaload, 1) := by decide +kernel
theorem d_L_law_360 : decode b_L_law 360 = .ok (.aload_n 0, 1) := by decide +kernel
theorem d_L_law_361 : decode b_L_law 361 = .ok (.iload_n 3, 1) := by decide +kernel
theorem d_L_law_362 : decode b_L_law 362 = .ok (.iconst 2, 1) := by decide +kernel
theorem d_L_law_363 : decode b_L_law 363 = .ok (.iadd, 1) := by decide +kernel
theorem d_L_law_364 : decode b_L_law 364 = .ok (.iaload, 1) := by decide +kernel
theorem d_L_law_365 : decode b_L_law 365 = .ok (.invokevirtual 57, 3) := by decide +kernel
theorem d_L_law_368 : decode b_L_law 368 = .ok (.aload_n 2, 1) := by decide +kernel
theorem d_L_law_369 : decode b_L_law 369 = .ok (.aload_n 0, 1) := by decide +kernel
theorem d_L_law_370 : decode b_L_law 370 = .ok (.iload_n 3, 1) := by decide +kernel
theorem d_L_law_371 : decode b_L_law 371 = .ok (.iconst 1, 1) := by decide +kernel
theorem d_L_law_372 : decode b_L_law 372 = .ok (.iadd, 1) := by decide +kernel
theorem d_L_law_373 : decode b_L_law 373 = .ok (.iaload, 1) := by decide +kernel
theorem d_L_law_374 : decode b_L_law 374 = .ok (.aload_n 0, 1) := by decide +kernel
theorem d_L_law_375 : decode b_L_law 375 = .ok (.iload_n 3, 1) := by decide +kernel
theorem d_L_law_376 : decode b_L_law 376 = .ok (.iconst 2, 1) := by decide +kernel
theorem d_L_law_377 : decode b_L_law 377 = .ok (.iadd, 1) := by decide +kernel
theorem d_L_law_378 : decode b_L_law 378 = .ok (.iaload, 1) := by decide +kernel
theorem d_L_law_379 : decode b_L_law 379 = .ok (.invokevirtual 61, 3) := by decide +kernel
theorem d_L_law_382 : decode b_L_law 382 = .ok (.if_icmp .eq 220, 3) := by decide +kernel
theorem d_L_law_385 : decode b_L_law 385 = .ok (.iconst 0, 1) := by decide +kernel
theorem d_L_law_386 : decode b_L_law 386 = .ok (.ireturn, 1) := by decide +kernel
theorem d_L_law_387 : decode b_L_law 387 = .ok (.aload_n 1, 1) := by decide +kernel
theorem d_L_law_388 : decode b_L_law 388 = .ok (.aload_n 0, 1) := by decide +kernel
theorem d_L_law_389 : decode b_L_law 389 = .ok (.iload_n 3, 1) := by decide +kernel
theorem d_L_law_390 : decode b_L_law 390 = .ok (.iconst 1, 1) := by decide +kernel
theorem d_L_law_391 : decode b_L_law 391 = .ok (.iadd, 1) := by decide +kernel
theorem d_L_law_392 : decode b_L_law 392 = .ok (.iaload, 1) := by decide +kernel
theorem d_L_law_393 : decode b_L_law 393 = .ok (.invokevirtual 62, 3) := by decide +kernel
theorem d_L_law_396 : decode b_L_law 396 = .ok (.aload_n 2, 1) := by decide +kernel
theorem d_L_law_397 : decode b_L_law 397 = .ok (.aload_n 0, 1) := by decide +kernel
theorem d_L_law_398 : decode b_L_law 398 = .ok (.iload_n 3, 1) := by decide +kernel
theorem d_L_law_399 : decode b_L_law 399 = .ok (.iconst 1, 1) := by decide +kernel
theorem d_L_law_400 : decode b_L_law 400 = .ok (.iadd, 1) := by decide +kernel
theorem d_L_law_401 : decode b_L_law 401 = .ok (.iaload, 1) := by decide +kernel
theorem d_L_law_402 : decode b_L_law 402 = .ok (.invokevirtual 66, 3) := by decide +kernel
theorem d_L_law_405 : decode b_L_law 405 = .ok (.lcmp, 1) := by decide +kernel
theorem d_L_law_406 : decode b_L_law 406 = .ok (.ifCond .eq 196, 3) := by decide +kernel
theorem d_L_law_409 : decode b_L_law 409 = .ok (.iconst 0, 1) := by decide +kernel
theorem d_L_law_410 : decode b_L_law 410 = .ok (.ireturn, 1) := by decide +kernel
theorem d_L_law_411 : decode b_L_law 411 = .ok (.aload_n 1, 1) := by decide +kernel
theorem d_L_law_412 : decode b_L_law 412 = .ok (.aload_n 0, 1) := by decide +kernel
theorem d_L_law_413 : decode b_L_law 413 = .ok (.iload_n 3, 1) := by decide +kernel
theorem d_L_law_414 : decode b_L_law 414 = .ok (.iconst 1, 1) := by decide +kernel
theorem d_L_law_415 : decode b_L_law 415 = .ok (.iadd, 1) := by decide +kernel
theorem d_L_law_416 : decode b_L_law 416 = .ok (.iaload, 1) := by decide +kernel
theorem d_L_law_417 : decode b_L_law 417 = .ok (.invokevirtual 67, 3) := by decide +kernel
theorem d_L_law_420 : decode b_L_law 420 = .ok (.aload_n 2, 1) := by decide +kernel
theorem d_L_law_421 : decode b_L_law 421 = .ok (.aload_n 0, 1) := by decide +kernel
theorem d_L_law_422 : decode b_L_law 422 = .ok (.iload_n 3, 1) := by decide +kernel
theorem d_L_law_423 : decode b_L_law 423 = .ok (.iconst 1, 1) := by decide +kernel
theorem d_L_law_424 : decode b_L_law 424 = .ok (.iadd, 1) := by decide +kernel
theorem d_L_law_425 : decode b_L_law 425 = .ok (.iaload, 1) := by decide +kernel
theorem d_L_law_426 : decode b_L_law 426 = .ok (.invokevirtual 70, 3) := by decide +kernel
theorem d_L_law_429 : decode b_L_law 429 = .ok (.lcmp, 1) := by decide +kernel
theorem d_L_law_430 : decode b_L_law 430 = .ok (.ifCond .eq 172, 3) := by decide +kernel
theorem d_L_law_433 : decode b_L_law 433 = .ok (.iconst 0, 1) := by decide +kernel
theorem d_L_law_434 : decode b_L_law 434 = .ok (.ireturn, 1) := by decide +kernel
theorem d_L_law_435 : decode b_L_law 435 = .ok (.aload_n 1, 1) := by decide +kernel
theorem d_L_law_436 : decode b_L_law 436 = .ok (.aload_n 0, 1) := by decide +kernel
theorem d_L_law_437 : decode b_L_law 437 = .ok (.iload_n 3, 1) := by decide +kernel
theorem d_L_law_438 : decode b_L_law 438 = .ok (.iconst 1, 1) := by decide +kernel
theorem d_L_law_439 : decode b_L_law 439 = .ok (.iadd, 1) := by decide +kernel
theorem d_L_law_440 : decode b_L_law 440 = .ok (.iaload, 1) := by decide +kernel
theorem d_L_law_441 : decode b_L_law 441 = .ok (.invokevirtual 71, 3) := by decide +kernel
theorem d_L_law_444 : decode b_L_law 444 = .ok (.aload_n 2, 1) := by decide +kernel
theorem d_L_law_445 : decode b_L_law 445 = .ok (.aload_n 0, 1) := by decide +kernel
theorem d_L_law_446 : decode b_L_law 446 = .ok (.iload_n 3, 1) := by decide +kernel
theorem d_L_law_447 : decode b_L_law 447 = .ok (.iconst 1, 1) := by decide +kernel
theorem d_L_law_448 : decode b_L_law 448 = .ok (.iadd, 1) := by decide +kernel
theorem d_L_law_449 : decode b_L_law 449 = .ok (.iaload, 1) := by decide +kernel
theorem d_L_law_450 : decode b_L_law 450 = .ok (.invokevirtual 74, 3) := by decide +kernel
theorem d_L_law_453 : decode b_L_law 453 = .ok (.lcmp, 1) := by decide +kernel
theorem d_L_law_454 : decode b_L_law 454 = .ok (.ifCond .eq 148, 3) := by decide +kernel
theorem d_L_law_457 : decode b_L_law 457 = .ok (.iconst 0, 1) := by decide +kernel
theorem d_L_law_458 : decode b_L_law 458 = .ok (.ireturn, 1) := by decide +kernel
theorem d_L_law_459 : decode b_L_law 459 = .ok (.aload_n 1, 1) := by decide +kernel
theorem d_L_law_460 : decode b_L_law 460 = .ok (.aload_n 0, 1) := by decide +kernel
theorem d_L_law_461 : decode b_L_law 461 = .ok (.iload_n 3, 1) := by decide +kernel
theorem d_L_law_462 : decode b_L_law 462 = .ok (.iconst 1, 1) := by decide +kernel
theorem d_L_law_463 : decode b_L_law 463 = .ok (.iadd, 1) := by decide +kernel
theorem d_L_law_464 : decode b_L_law 464 = .ok (.iaload, 1) := by decide +kernel
theorem d_L_law_465 : decode b_L_law 465 = .ok (.invokevirtual 75, 3) := by decide +kernel
theorem d_L_law_468 : decode b_L_law 468 = .ok (.aload_n 2, 1) := by decide +kernel
theorem d_L_law_469 : decode b_L_law 469 = .ok (.aload_n 0, 1) := by decide +kernel
theorem d_L_law_470 : decode b_L_law 470 = .ok (.iload_n 3, 1) := by decide +kernel
theorem d_L_law_471 : decode b_L_law 471 = .ok (.iconst 1, 1) := by decide +kernel
theorem d_L_law_472 : decode b_L_law 472 = .ok (.iadd, 1) := by decide +kernel
theorem d_L_law_473 : decode b_L_law 473 = .ok (.iaload, 1) := by decide +kernel
theorem d_L_law_474 : decode b_L_law 474 = .ok (.invokevirtual 78, 3) := by decide +kernel
theorem d_L_law_477 : decode b_L_law 477 = .ok (.if_icmp .eq 125, 3) := by decide +kernel
theorem d_L_law_480 : decode b_L_law 480 = .ok (.iconst 0, 1) := by decide +kernel
theorem d_L_law_481 : decode b_L_law 481 = .ok (.ireturn, 1) := by decide +kernel
theorem d_L_law_482 : decode b_L_law 482 = .ok (.aload_n 1, 1) := by decide +kernel
theorem d_L_law_483 : decode b_L_law 483 = .ok (.aload_n 0, 1) := by decide +kernel
theorem d_L_law_484 : decode b_L_law 484 = .ok (.iload_n 3, 1) := by decide +kernel
theorem d_L_law_485 : decode b_L_law 485 = .ok (.iconst 1, 1) := by decide +kernel
theorem d_L_law_486 : decode b_L_law 486 = .ok (.iadd, 1) := by decide +kernel
theorem d_L_law_487 : decode b_L_law 487 = .ok (.iaload, 1) := by decide +kernel
theorem d_L_law_488 : decode b_L_law 488 = .ok (.aload_n 0, 1) := by decide +kernel
theorem d_L_law_489 : decode b_L_law 489 = .ok (.iload_n 3, 1) := by decide +kernel
theorem d_L_law_490 : decode b_L_law 490 = .ok (.iconst 2, 1) := by decide +kernel
theorem d_L_law_491 : decode b_L_law 491 = .ok (.iadd, 1) := by decide +kernel
theorem d_L_law_492 : decode b_L_law 492 = .ok (.iaload, 1) := by decide +kernel
theorem d_L_law_493 : decode b_L_law 493 = .ok (.invokevirtual 79, 3) := by decide +kernel
theorem d_L_law_496 : decode b_L_law 496 = .ok (.aload_n 2, 1) := by decide +kernel
theorem d_L_law_497 : decode b_L_law 497 = .ok (.aload_n 0, 1) := by decide +kernel
theorem d_L_law_498 : decode b_L_law 498 = .ok (.iload_n 3, 1) := by decide +kernel
theorem d_L_law_499 : decode b_L_law 499 = .ok (.iconst 1, 1) := by decide +kernel
theorem d_L_law_500 : decode b_L_law 500 = .ok (.iadd, 1) := by decide +kernel
theorem d_L_law_501 : decode b_L_law 501 = .ok (.iaload, 1) := by decide +kernel
theorem d_L_law_502 : decode b_L_law 502 = .ok (.aload_n 0, 1) := by decide +kernel
theorem d_L_law_503 : decode b_L_law 503 = .ok (.iload_n 3, 1) := by decide +kernel
theorem d_L_law_504 : decode b_L_law 504 = .ok (.iconst 2, 1) := by decide +kernel
theorem d_L_law_505 : decode b_L_law 505 = .ok (.iadd, 1) := by decide +kernel
theorem d_L_law_506 : decode b_L_law 506 = .ok (.iaload, 1) := by decide +kernel
theorem d_L_law_507 : decode b_L_law 507 = .ok (.invokevirtual 82, 3) := by decide +kernel
theorem d_L_law_510 : decode b_L_law 510 = .ok (.if_icmp .eq 92, 3) := by decide +kernel
theorem d_L_law_513 : decode b_L_law 513 = .ok (.iconst 0, 1) := by decide +kernel
theorem d_L_law_514 : decode b_L_law 514 = .ok (.ireturn, 1) := by decide +kernel
theorem d_L_law_515 : decode b_L_law 515 = .ok (.aload_n 1, 1) := by decide +kernel
theorem d_L_law_516 : decode b_L_law 516 = .ok (.aload_n 0, 1) := by decide +kernel
theorem d_L_law_517 : decode b_L_law 517 = .ok (.iload_n 3, 1) := by decide +kernel
theorem d_L_law_518 : decode b_L_law 518 = .ok (.iconst 1, 1) := by decide +kernel
theorem d_L_law_519 : decode b_L_law 519 = .ok (.iadd, 1) := by decide +kernel
theorem d_L_law_520 : decode b_L_law 520 = .ok (.iaload, 1) := by decide +kernel
theorem d_L_law_521 : decode b_L_law 521 = .ok (.aload_n 0, 1) := by decide +kernel
theorem d_L_law_522 : decode b_L_law 522 = .ok (.iload_n 3, 1) := by decide +kernel
theorem d_L_law_523 : decode b_L_law 523 = .ok (.iconst 2, 1) := by decide +kernel
theorem d_L_law_524 : decode b_L_law 524 = .ok (.iadd, 1) := by decide +kernel
theorem d_L_law_525 : decode b_L_law 525 = .ok (.iaload, 1) := by decide +kernel
theorem d_L_law_526 : decode b_L_law 526 = .ok (.i2l, 1) := by decide +kernel
theorem d_L_law_527 : decode b_L_law 527 = .ok (.bipush 32, 2) := by decide +kernel
theorem d_L_law_529 : decode b_L_law 529 = .ok (.lshl, 1) := by decide +kernel
theorem d_L_law_530 : decode b_L_law 530 = .ok (.aload_n 0, 1) := by decide +kernel
theorem d_L_law_531 : decode b_L_law 531 = .ok (.iload_n 3, 1) := by decide +kernel
theorem d_L_law_532 : decode b_L_law 532 = .ok (.iconst 3, 1) := by decide +kernel
theorem d_L_law_533 : decode b_L_law 533 = .ok (.iadd, 1) := by decide +kernel
theorem d_L_law_534 : decode b_L_law 534 = .ok (.iaload, 1) := by decide +kernel
theorem d_L_law_535 : decode b_L_law 535 = .ok (.i2l, 1) := by decide +kernel
theorem d_L_law_536 : decode b_L_law 536 = .ok (.ldc2_w 26, 3) := by decide +kernel
theorem d_L_law_539 : decode b_L_law 539 = .ok (.land, 1) := by decide +kernel
theorem d_L_law_540 : decode b_L_law 540 = .ok (.lor, 1) := by decide +kernel
theorem d_L_law_541 : decode b_L_law 541 = .ok (.invokevirtual 83, 3) := by decide +kernel
theorem d_L_law_544 : decode b_L_law 544 = .ok (.aload_n 2, 1) := by decide +kernel
theorem d_L_law_545 : decode b_L_law 545 = .ok (.aload_n 0, 1) := by decide +kernel
theorem d_L_law_546 : decode b_L_law 546 = .ok (.iload_n 3, 1) := by decide +kernel
theorem d_L_law_547 : decode b_L_law 547 = .ok (.iconst 1, 1) := by decide +kernel
theorem d_L_law_548 : decode b_L_law 548 = .ok (.iadd, 1) := by decide +kernel
theorem d_L_law_549 : decode b_L_law 549 = .ok (.iaload, 1) := by decide +kernel
theorem d_L_law_550 : decode b_L_law 550 = .ok (.aload_n 0, 1) := by decide +kernel
theorem d_L_law_551 : decode b_L_law 551 = .ok (.iload_n 3, 1) := by decide +kernel
theorem d_L_law_552 : decode b_L_law 552 = .ok (.iconst 2, 1) := by decide +kernel
theorem d_L_law_553 : decode b_L_law 553 = .ok (.iadd, 1) := by decide +kernel
theorem d_L_law_554 : decode b_L_law 554 = .ok (.iaload, 1) := by decide +kernel
theorem d_L_law_555 : decode b_L_law 555 = .ok (.i2l, 1) := by decide +kernel
theorem d_L_law_556 : decode b_L_law 556 = .ok (.bipush 32, 2) := by decide +kernel
theorem d_L_law_558 : decode b_L_law 558 = .ok (.lshl, 1) := by decide +kernel
theorem d_L_law_559 : decode b_L_law 559 = .ok (.aload_n 0, 1) := by decide +kernel
theorem d_L_law_560 : decode b_L_law 560 = .ok (.iload_n 3, 1) := by decide +kernel
theorem d_L_law_561 : decode b_L_law 561 = .ok (.iconst 3, 1) := by decide +kernel
theorem d_L_law_562 : decode b_L_law 562 = .ok (.iadd, 1) := by decide +kernel
theorem d_L_law_563 : decode b_L_law 563 = .ok (.iaload, 1) := by decide +kernel
theorem d_L_law_564 : decode b_L_law 564 = .ok (.i2l, 1) := by decide +kernel
theorem d_L_law_565 : decode b_L_law 565 = .ok (.ldc2_w 26, 3) := by decide +kernel
theorem d_L_law_568 : decode b_L_law 568 = .ok (.land, 1) := by decide +kernel
theorem d_L_law_569 : decode b_L_law 569 = .ok (.lor, 1) := by decide +kernel
theorem d_L_law_570 : decode b_L_law 570 = .ok (.invokevirtual 87, 3) := by decide +kernel
theorem d_L_law_573 : decode b_L_law 573 = .ok (.if_icmp .eq 29, 3) := by decide +kernel
theorem d_L_law_576 : decode b_L_law 576 = .ok (.iconst 0, 1) := by decide +kernel
theorem d_L_law_577 : decode b_L_law 577 = .ok (.ireturn, 1) := by decide +kernel
theorem d_L_law_578 : decode b_L_law 578 = .ok (.aload_n 1, 1) := by decide +kernel
theorem d_L_law_579 : decode b_L_law 579 = .ok (.aload_n 0, 1) := by decide +kernel
theorem d_L_law_580 : decode b_L_law 580 = .ok (.iload_n 3, 1) := by decide +kernel
theorem d_L_law_581 : decode b_L_law 581 = .ok (.iconst 1, 1) := by decide +kernel
theorem d_L_law_582 : decode b_L_law 582 = .ok (.iadd, 1) := by decide +kernel
theorem d_L_law_583 : decode b_L_law 583 = .ok (.iaload, 1) := by decide +kernel
theorem d_L_law_584 : decode b_L_law 584 = .ok (.invokevirtual 88, 3) := by decide +kernel
theorem d_L_law_587 : decode b_L_law 587 = .ok (.aload_n 2, 1) := by decide +kernel
theorem d_L_law_588 : decode b_L_law 588 = .ok (.aload_n 0, 1) := by decide +kernel
theorem d_L_law_589 : decode b_L_law 589 = .ok (.iload_n 3, 1) := by decide +kernel
theorem d_L_law_590 : decode b_L_law 590 = .ok (.iconst 1, 1) := by decide +kernel
theorem d_L_law_591 : decode b_L_law 591 = .ok (.iadd, 1) := by decide +kernel
theorem d_L_law_592 : decode b_L_law 592 = .ok (.iaload, 1) := by decide +kernel
theorem d_L_law_593 : decode b_L_law 593 = .ok (.invokevirtual 91, 3) := by decide +kernel
theorem d_L_law_596 : decode b_L_law 596 = .ok (.lcmp, 1) := by decide +kernel
theorem d_L_law_597 : decode b_L_law 597 = .ok (.ifCond .eq 5, 3) := by decide +kernel
theorem d_L_law_600 : decode b_L_law 600 = .ok (.iconst 0, 1) := by decide +kernel
theorem d_L_law_601 : decode b_L_law 601 = .ok (.ireturn, 1) := by decide +kernel
theorem d_L_law_602 : decode b_L_law 602 = .ok (.iinc 3 6, 3) := by decide +kernel
theorem d_L_law_605 : decode b_L_law 605 = .ok (.goto (-577), 3) := by decide +kernel
theorem d_L_law_608 : decode b_L_law 608 = .ok (.iconst 1, 1) := by decide +kernel
theorem d_L_law_609 : decode b_L_law 609 = .ok (.ireturn, 1) := by decide +kernel
end
section
-- ROWS OF MY OWN (ob_): read-only calls keep the heap, writing calls put their cells back in place
section OB1
variable {p : Program} {l : Launch} {e : Env} {R : Room} {s : State} {m : MethodId} {args : Array Value} {below : List Frame} {meth : Method} {c : Code} {H : Heap} {locs : List Loc} {cells slots : Nat} {Q : State → Prop}
variable {cc : ByteArray} {pc : Nat} {ls : Array Slot} {rest : List Value}
theorem ob_eqi {x y : Int32} (h : x = y) (k : W p l e R s m args below meth c H locs cells slots Q (F0 m pc ls (.int y :: rest))) : W p l e R s m args below meth c H locs cells slots Q (F0 m pc ls (.int x :: rest)) := by
  rw [h]; exact k
theorem ob_eql {x y : Int64} (h : x = y) (k : W p l e R s m args below meth c H locs cells slots Q (F0 m pc ls (.long y :: rest))) : W p l e R s m args below meth c H locs cells slots Q (F0 m pc ls (.long x :: rest)) := by
  rw [h]; exact k
/-- a truth value on top: both ways -/
theorem ob_split {P : Prop} [Decidable P] (kt : P → W p l e R s m args below meth c H locs cells slots Q (F0 m pc ls (.int (nI 1) :: rest))) (kf : ¬ P → W p l e R s m args below meth c H locs cells slots Q (F0 m pc ls (.int (nI 0) :: rest))) : W p l e R s m args below meth c H locs cells slots Q (F0 m pc ls (.int (if P then nI 1 else nI 0) :: rest)) := by
  by_cases h : P
  · rw [if_pos h]; exact kt h
  · rw [if_neg h]; exact kf h
def QcReadL (r : Int64) : Array Value → State → Outcome → State → Prop := fun _ st o t => o = .returned (some (.long r)) ∧ t.heap = st.heap
theorem ob_callRl {r : Int64} {g : JFrame} {a : Array Value} (hr : CallRun p l e R s m args below meth c H locs cells slots 0 0 g rest (QcReadL r a) (fun _ => False)) (kk : W p l e R s m args below meth c H locs cells slots Q { g with pc := g.pc + 3, stack := .long r :: rest }) : W p l e R s m args below meth c H locs cells slots Q g := by
  intro T hT X
  obtain ⟨v, st₀, t, T', L, h0, X', hL, e1, ⟨hv, hh⟩, st⟩ := hr T hT X
  cases hv
  obtain ⟨t2, a1, b1⟩ := kk T' (by rw [e1, hh, h0]) (Stand.forget X' (fun q h => (hL q h).elim))
  exact ⟨t2, st t2 a1, b1⟩
theorem ob_callR {r : Int32} {st0 : List Value} {a : Array Value} (hr : CallRun p l e R s m args below meth c H locs cells slots 0 0 (F0 m pc ls st0) rest (QcRead r a) (fun _ => False)) (kk : W p l e R s m args below meth c H locs cells slots Q (F0 m (pc + 3) ls (.int r :: rest))) : W p l e R s m args below meth c H locs cells slots Q (F0 m pc ls st0) := W.callR hr kk
theorem ob_callL {r : Int64} {st0 : List Value} {a : Array Value} (hr : CallRun p l e R s m args below meth c H locs cells slots 0 0 (F0 m pc ls st0) rest (QcReadL r a) (fun _ => False)) (kk : W p l e R s m args below meth c H locs cells slots Q (F0 m (pc + 3) ls (.long r :: rest))) : W p l e R s m args below meth c H locs cells slots Q (F0 m pc ls st0) := ob_callRl hr kk
/-- a run of the worlds' kit is a run -/
theorem ob_run {mc ms : Nat} {g : JFrame} {Qa : State → Outcome → State → Prop} {free : Addr → Prop} (h : va_Run p l e R s m args below meth c H locs cells slots mc ms g rest Qa free) : CallRun p l e R s m args below meth c H locs cells slots mc ms g rest Qa free := by
  intro T hT X
  obtain ⟨v, st₀, t, T', L, h0, X', hL, e1, e2, hq, st⟩ := h T hT X
  exact ⟨v, st₀, t, T', L, h0, X', hL, e1, hq, st⟩
end OB1
/-- what a method needs of its world: its cells, the tables' numbers, the nest's links -/
def ob_nest (w : Cond) : Bool := match w with
  | .fieldLinkNest .. => true
  | .methodLinkNest .. => true
  | _ => false
theorem ob_warm {w : Cond} {s U : State} (h : ob_nest w = true) (hW : s.WarmedH U.vm) (hZ : va_Nw w s) : va_Nw w U := by
  cases w with
  | fieldLinkNest => exact va_Nw.warmF hW hZ
  | methodLinkNest => exact va_Nw.warmM hW hZ
  | _ => cases h
theorem ob_onT {w : Cond} (h : ob_nest w = true) : w.onTables = true := by
  cases w with
  | fieldLinkNest => rfl
  | methodLinkNest => rfl
  | _ => cases h
def ob_B (D : va_G) (cl : List vw_C) (ws : va_W) (tys : List (ClassId × FieldType)) (nw : List Cond) (U : State) : Prop := va_P D cl ws U.heap ∧ va_K D cl tys U ∧ ∀ w ∈ nw, va_Nw w U
def ob_BW (D : va_G) (cl : List vw_C) (ws : va_W) (tys : List (ClassId × FieldType)) (nw : List Cond) (U : State) : Prop := ob_B D cl ws tys nw U ∧ va_D (fun _ => True) ws
theorem ob_B_calling {D : va_G} {cl : List vw_C} {ws : va_W} {tys : List (ClassId × FieldType)} {nw : List Cond} (hn : nw.all ob_nest = true) {U : State} {g : JFrame} {mk : MethodId} {a : Array Value} (h : ob_B D cl ws tys nw U) : ob_B D cl ws tys nw (U.calling g mk a) :=
  ⟨h.1, va_K.moved (u := U) (U := U.calling g mk a) (Vm.Alike.refl U.vm) h.2.1, fun w hw => va_Nw.same (ob_onT (List.all_eq_true.mp hn w hw)) (rfl : U.vm = (U.calling g mk a).vm) (h.2.2 w hw)⟩
theorem ob_B_warm {D : va_G} {cl : List vw_C} {wc : va_W} {tys : List (ClassId × FieldType)} {nw : List Cond} (hn : nw.all ob_nest = true) {s U : State} {H : Heap} (hU : U.heap = H) (hW : s.WarmedH U.vm) (hP : va_P D cl wc H) (hK : va_K D cl tys s) (hN : ∀ w ∈ nw, va_Nw w s) : ob_B D cl wc tys nw U :=
  ⟨by rw [hU]; exact hP, va_K.moved hW.alike hK, fun w hw => ob_warm (List.all_eq_true.mp hn w hw) hW (hN w hw)⟩
theorem ob_preV {D : va_G} {cl : List vw_C} {ws wc : va_W} {tys : List (ClassId × FieldType)} {nw : List Cond} (hn : nw.all ob_nest = true) {s : State} {H : Heap} (hK : va_K D cl tys s) (hP : va_P D cl ws H) (hN : ∀ w ∈ nw, va_Nw w s) {b ci q0 : Nat} {q : vw_C} {fs : List Value} {As : List Value} (hc : cl[ci]? = some q) (is : List Nat) (hs : is.filterMap (fun i => ws[i]?) = wc) (he : wc[q0]? = some (b, .inr (ci, fs))) : PreV s H q.1 b (va_Pc (.ref b :: As) (ob_B D cl wc tys nw)) As :=
  ⟨fun _ _ _ _ h => ⟨h.1, ob_B_calling hn h.2⟩, va_recv hK (hP.sub is hs) hc he, fun _ hU hW => ⟨rfl, ob_B_warm hn hU hW (hP.sub is hs) hK hN⟩⟩
theorem ob_preVW {D : va_G} {cl : List vw_C} {ws wc : va_W} {tys : List (ClassId × FieldType)} {nw : List Cond} {A : Nat → Prop} (hn : nw.all ob_nest = true) {s : State} {H : Heap} (hK : va_K D cl tys s) (hP : va_P D cl ws H) (hD : va_D A ws) (hN : ∀ w ∈ nw, va_Nw w s) {b ci q0 : Nat} {q : vw_C} {fs : List Value} {As : List Value} (hc : cl[ci]? = some q) (is : List Nat) (hs : is.filterMap (fun i => ws[i]?) = wc) (hi : va_nd is = true) (hm : is.map (fun i => ws[i]?) = wc.map some) (he : wc[q0]? = some (b, .inr (ci, fs))) : PreV s H q.1 b (va_Pc (.ref b :: As) (ob_BW D cl wc tys nw)) As :=
  ⟨fun _ _ _ _ h => ⟨h.1, ob_B_calling hn h.2.1, h.2.2⟩, va_recv hK (hP.sub is hs) hc he, fun _ hU hW => ⟨rfl, ob_B_warm hn hU hW (hP.sub is hs) hK hN, (hD.sub is hi hm).weaken (fun _ _ _ _ => trivial)⟩⟩
/-- cells put back in their places -/
def ob_put (ws : va_W) : List Nat → va_W → va_W
  | i :: is, q :: qs => ob_put (ws.set i q) is qs
  | _, _ => ws
theorem ob_put_get : ∀ (is : List Nat) (ws w1 : va_W), is.length = w1.length → ∀ (k : Nat) (q : Nat × va_E), (ob_put ws is w1)[k]? = some q → (∃ j : Nat, is[j]? = some k ∧ w1[j]? = some q) ∨ (ws[k]? = some q ∧ k ∉ is)
  | [], ws, w1, _, k, q, h => Or.inr ⟨by simpa [ob_put] using h, List.not_mem_nil⟩
  | i :: is, ws, [], h0, k, q, h => by simp at h0
  | i :: is, ws, c :: w1, h0, k, q, h => by
    have h0 : is.length = w1.length := by simpa using h0
    rcases ob_put_get is (ws.set i c) w1 h0 k q h with ⟨j, h1, h2⟩ | ⟨h1, h2⟩
    · exact Or.inl ⟨j + 1, by simpa using h1, by simpa using h2⟩
    · by_cases hk : k = i
      · subst hk
        have hl : k < ws.length := by
          have := (List.getElem?_eq_some_iff.mp h1).1
          simpa using this
        rw [List.getElem?_set_self hl] at h1
        exact Or.inl ⟨0, rfl, by simpa using h1⟩
      · rw [List.getElem?_set_ne (Ne.symm hk)] at h1
        exact Or.inr ⟨h1, fun hm => by
          rcases List.mem_cons.mp hm with h | h
          · exact hk h
          · exact h2 h⟩
def ob_A (ws : va_W) : Nat → Prop := fun q => ∃ (k : Nat) (e : va_E), ws[k]? = some (q, e)
theorem ob_at' {ws w : va_W} {is : List Nat} (hs : is.map (fun i => ws[i]?) = w.map some) (k : Nat) (q : Nat × va_E) (hq : w[k]? = some q) : ∃ i, is[k]? = some i ∧ ws[i]? = some q := by
  have h1 : (is.map (fun i => ws[i]?))[k]? = some (some q) := by rw [hs, List.getElem?_map, hq]; rfl
  rw [List.getElem?_map] at h1
  cases hi : is[k]? with
  | none => rw [hi] at h1; cases h1
  | some i => rw [hi] at h1; exact ⟨i, rfl, Option.some.inj h1⟩
theorem ob_at2 {ws w : va_W} {is : List Nat} (hs : is.map (fun i => ws[i]?) = w.map some) (k i : Nat) (hi : is[k]? = some i) : ∃ q, w[k]? = some q ∧ ws[i]? = some q := by
  have h1 : (w.map some)[k]? = some (ws[i]?) := by rw [← hs, List.getElem?_map, hi]; rfl
  rw [List.getElem?_map] at h1
  cases hw : w[k]? with
  | none => rw [hw] at h1; cases h1
  | some q => rw [hw] at h1; exact ⟨q, rfl, (Option.some.inj h1).symm⟩
theorem ob_free {A0 : Nat → Prop} {ws wc : va_W} (hD : va_D A0 ws) {is : List Nat} (hC : is.map (fun i => ws[i]?) = wc.map some) : ∀ q, ob_A wc q → A0 q := by
  rintro q ⟨k, e, h⟩
  obtain ⟨i, -, h2⟩ := ob_at' hC k _ h
  exact hD.2 i _ h2
theorem ob_back {A0 : Nat → Prop} {D : va_G} {cl : List vw_C} {ws wc w1 : va_W} {H H1 : Heap} (hP : va_P D cl ws H) (hD : va_D A0 ws) {is : List Nat} (hC : is.map (fun i => ws[i]?) = wc.map some) (ha : w1.map Prod.fst = wc.map Prod.fst) (hk : ∀ q : Nat, q < H.size → ¬ ob_A wc q → H1[q]? = H[q]?) (hP1 : va_P D cl w1 H1) : va_P D cl (ob_put ws is w1) H1 ∧ va_D A0 (ob_put ws is w1) := by
  have hlen : is.length = w1.length := by
    have h1 := congrArg List.length hC
    have h2 := congrArg List.length ha
    simp at h1 h2
    omega
  have hadr : ∀ (k : Nat) (q : Nat × va_E), (ob_put ws is w1)[k]? = some q → ∃ q0, ws[k]? = some q0 ∧ q0.1 = q.1 := by
    intro k q h
    rcases ob_put_get is ws w1 hlen k q h with ⟨j, h1, h2⟩ | ⟨h1, h2⟩
    · obtain ⟨q0, h3, h4⟩ := ob_at2 hC j k h1
      refine ⟨q0, h4, ?_⟩
      have h5 : (w1.map Prod.fst)[j]? = some q.1 := by rw [List.getElem?_map, h2]; rfl
      have h6 : (wc.map Prod.fst)[j]? = some q0.1 := by rw [List.getElem?_map, h3]; rfl
      rw [ha, h6] at h5
      exact Option.some.inj h5
    · exact ⟨q, h1, rfl⟩
  refine ⟨fun k q h => ?_, fun i j x y hi hj hxy => ?_, fun k q h => ?_⟩
  · rcases ob_put_get is ws w1 hlen k q h with ⟨j, h1, h2⟩ | ⟨h1, h2⟩
    · exact hP1 j q h2
    · refine (hP k q h1).kept (hk q.1 (hP k q h1).lt ?_)
      rintro ⟨j, e, h3⟩
      obtain ⟨i, h4, h5⟩ := ob_at' hC j _ h3
      have := hD.1 k i q (q.1, e) h1 h5 rfl
      subst this
      exact h2 (List.mem_of_getElem? h4)
  · obtain ⟨x0, h1, h2⟩ := hadr i x hi
    obtain ⟨y0, h3, h4⟩ := hadr j y hj
    exact hD.1 i j x0 y0 h1 h3 (h2.trans (hxy.trans h4.symm))
  · obtain ⟨q0, h1, h2⟩ := hadr k q h
    rw [← h2]
    exact hD.2 k q0 h1
theorem ob_D_self {A : Nat → Prop} {ws : va_W} (h : va_D A ws) : va_D (ob_A ws) ws := ⟨h.1, fun k q hk => ⟨k, q.2, hk⟩⟩
section OB2
variable {p : Program} {l : Launch} {e : Env} {R : Room} {s : State} {m : MethodId} {args : Array Value} {below : List Frame} {meth : Method} {c : Code} {H : Heap} {locs : List Loc} {cells slots : Nat} {Q : State → Prop}
variable {pc : Nat} {ls : Array Slot} {rest st0 : List Value} {a : Array Value} {A0 : Nat → Prop} {H0 : Heap} {D : va_G} {cl : List vw_C} {ws wc w1 : va_W}
theorem ob_callWi {F : Int32} (hr : va_Run p l e R s m args below meth c H locs cells slots 0 0 (F0 m pc ls st0) rest (va_Qi (fun (r : Int32) (_ : Unit) => r = F) (fun _ t => va_P D cl w1 t.heap) (ob_A wc) a) (ob_A wc)) (hS : va_S A0 H0 H locs) (hP : va_P D cl ws H) (hD : va_D A0 ws) (is : List Nat) (hC : is.map (fun i => ws[i]?) = wc.map some) (ha : w1.map Prod.fst = wc.map Prod.fst)
    (kk : ∀ (H1 : Heap) (locs1 : List Loc), va_P D cl (ob_put ws is w1) H1 → va_D A0 (ob_put ws is w1) → va_S A0 H0 H1 locs1 → W p l e R s m args below meth c H1 locs1 cells slots Q (F0 m (pc + 3) ls (.int F :: rest))) : W p l e R s m args below meth c H locs cells slots Q (F0 m pc ls st0) := by
  refine va_calli hr hS (fun q _ h => ob_free hD hC q h) (ob_free hD hC) (fun r u t H1 locs1 ht hvm hw hB hz hk hS1 => ?_)
  rw [ht] at hB
  obtain ⟨h1, h2⟩ := ob_back hP hD hC ha hk hB
  subst hw
  exact kk H1 locs1 h1 h2 hS1
theorem ob_callWl {F : Int64} (hr : va_Run p l e R s m args below meth c H locs cells slots 0 0 (F0 m pc ls st0) rest (va_Ql (fun (r : Int64) (_ : Unit) => r = F) (fun _ t => va_P D cl w1 t.heap) (ob_A wc) a) (ob_A wc)) (hS : va_S A0 H0 H locs) (hP : va_P D cl ws H) (hD : va_D A0 ws) (is : List Nat) (hC : is.map (fun i => ws[i]?) = wc.map some) (ha : w1.map Prod.fst = wc.map Prod.fst)
    (kk : ∀ (H1 : Heap) (locs1 : List Loc), va_P D cl (ob_put ws is w1) H1 → va_D A0 (ob_put ws is w1) → va_S A0 H0 H1 locs1 → W p l e R s m args below meth c H1 locs1 cells slots Q (F0 m (pc + 3) ls (.long F :: rest))) : W p l e R s m args below meth c H locs cells slots Q (F0 m pc ls st0) := by
  refine va_calll hr hS (fun q _ h => ob_free hD hC q h) (ob_free hD hC) (fun r u t H1 locs1 ht hvm hw hB hz hk hS1 => ?_)
  rw [ht] at hB
  obtain ⟨h1, h2⟩ := ob_back hP hD hC ha hk hB
  subst hw
  exact kk H1 locs1 h1 h2 hS1
theorem ob_callWv (hr : va_Run p l e R s m args below meth c H locs cells slots 0 0 (F0 m pc ls st0) rest (va_Qv (fun (_ : Unit) => True) (fun _ t => va_P D cl w1 t.heap) (ob_A wc) a) (ob_A wc)) (hS : va_S A0 H0 H locs) (hP : va_P D cl ws H) (hD : va_D A0 ws) (is : List Nat) (hC : is.map (fun i => ws[i]?) = wc.map some) (ha : w1.map Prod.fst = wc.map Prod.fst)
    (kk : ∀ (H1 : Heap) (locs1 : List Loc), va_P D cl (ob_put ws is w1) H1 → va_D A0 (ob_put ws is w1) → va_S A0 H0 H1 locs1 → W p l e R s m args below meth c H1 locs1 cells slots Q (F0 m (pc + 3) ls rest)) : W p l e R s m args below meth c H locs cells slots Q (F0 m pc ls st0) := by
  refine va_callv hr hS (fun q _ h => ob_free hD hC q h) (ob_free hD hC) (fun u t H1 locs1 ht hvm hw hB hz hk hS1 => ?_)
  rw [ht] at hB
  obtain ⟨h1, h2⟩ := ob_back hP hD hC ha hk hB
  exact kk H1 locs1 h1 h2 hS1
/-- ends of read-only methods -/
theorem ob_iret {cc : ByteArray} {v r : Int32} (hexec : p.tables.exec = Jvm.exec) (hb : c.code = cc) (hr : meth.sig.returnType = some .int) (hlocks : meth.locks = false) (hQ : Q = MQ below (QcRead r) args s 0 0 (fun _ => False)) (hv : v = r) (hdg : decode cc pc = .ok (.ireturn, 1)) : W p l e R s m args below meth c s.heap [] 0 0 Q (F0 m pc ls [.int v]) := by
  subst hQ; subst hv
  exact W.iret hexec hb hr (fun t ht _ => ⟨rfl, ht⟩) (fun _ h => by cases h) hdg
theorem ob_zret {cc : ByteArray} {v r : Int32} (hexec : p.tables.exec = Jvm.exec) (hb : c.code = cc) (hr : meth.sig.returnType = some .boolean) (hlocks : meth.locks = false) (hQ : Q = MQ below (QcRead r) args s 0 0 (fun _ => False)) (hn : narrow .boolean (.int v) = .int v) (hv : v = r) (hdg : decode cc pc = .ok (.ireturn, 1)) : W p l e R s m args below meth c s.heap [] 0 0 Q (F0 m pc ls [.int v]) := by
  subst hQ; subst hv
  exact W.zret hexec hb hr hn (fun t ht _ => ⟨rfl, ht⟩) (fun _ h => by cases h) hdg
theorem ob_lret {cc : ByteArray} {v r : Int64} (hexec : p.tables.exec = Jvm.exec) (hb : c.code = cc) (hr : meth.sig.returnType = some .long) (hlocks : meth.locks = false) (hQ : Q = MQ below (QcReadL r) args s 0 0 (fun _ => False)) (hv : v = r) (hdg : decode cc pc = .ok (.lreturn, 1)) : W p l e R s m args below meth c s.heap [] 0 0 Q (F0 m pc ls [.long v]) := by
  subst hQ; subst hv
  exact W.lret hexec hb hr (fun t ht _ => ⟨rfl, ht⟩) (fun _ h => by cases h) hdg
/-- ends of writing methods -/
theorem ob_iretW {cc : ByteArray} {v F : Int32} {A : Nat → Prop} {w2 : va_W} (hexec : p.tables.exec = Jvm.exec) (hb : c.code = cc) (hr : meth.sig.returnType = some .int) (hlocks : meth.locks = false) (hQ : Q = MQ below (va_Qi (fun (r : Int32) (_ : Unit) => r = F) (fun _ t => va_P D cl w2 t.heap) A) args s 0 0 A) (hS : va_S A s.heap H locs) (hP : va_P D cl w1 H) (hw : w1 = w2) (hv : v = F) (hdg : decode cc pc = .ok (.ireturn, 1)) : W p l e R s m args below meth c H locs 0 0 Q (F0 m pc ls [.int v]) := by
  subst hQ; subst hv; subst hw
  exact W.iret hexec hb hr (fun t ht _ => ⟨⟨_, (), rfl, rfl, by show va_P D cl _ t.heap; rw [ht]; exact hP⟩, hS.F ht⟩) hS.2.2 hdg
theorem ob_zretW {cc : ByteArray} {v F : Int32} {A : Nat → Prop} {w2 : va_W} (hexec : p.tables.exec = Jvm.exec) (hb : c.code = cc) (hr : meth.sig.returnType = some .boolean) (hlocks : meth.locks = false) (hQ : Q = MQ below (va_Qi (fun (r : Int32) (_ : Unit) => r = F) (fun _ t => va_P D cl w2 t.heap) A) args s 0 0 A) (hS : va_S A s.heap H locs) (hP : va_P D cl w1 H) (hw : w1 = w2) (hn : narrow .boolean (.int v) = .int v) (hv : v = F) (hdg : decode cc pc = .ok (.ireturn, 1)) : W p l e R s m args below meth c H locs 0 0 Q (F0 m pc ls [.int v]) := by
  subst hQ; subst hv; subst hw
  exact W.zret hexec hb hr hn (fun t ht _ => ⟨⟨_, (), rfl, rfl, by show va_P D cl _ t.heap; rw [ht]; exact hP⟩, hS.F ht⟩) hS.2.2 hdg
theorem ob_lretW {cc : ByteArray} {v F : Int64} {A : Nat → Prop} {w2 : va_W} (hexec : p.tables.exec = Jvm.exec) (hb : c.code = cc) (hr : meth.sig.returnType = some .long) (hlocks : meth.locks = false) (hQ : Q = MQ below (va_Ql (fun (r : Int64) (_ : Unit) => r = F) (fun _ t => va_P D cl w2 t.heap) A) args s 0 0 A) (hS : va_S A s.heap H locs) (hP : va_P D cl w1 H) (hw : w1 = w2) (hv : v = F) (hdg : decode cc pc = .ok (.lreturn, 1)) : W p l e R s m args below meth c H locs 0 0 Q (F0 m pc ls [.long v]) := by
  subst hQ; subst hv; subst hw
  exact W.lret hexec hb hr (fun t ht _ => ⟨⟨_, (), rfl, rfl, by show va_P D cl _ t.heap; rw [ht]; exact hP⟩, hS.F ht⟩) hS.2.2 hdg
theorem ob_vretW {cc : ByteArray} {A : Nat → Prop} {w2 : va_W} (hexec : p.tables.exec = Jvm.exec) (hb : c.code = cc) (hr : meth.sig.returnType = none) (hlocks : meth.locks = false) (hQ : Q = MQ below (va_Qv (fun (_ : Unit) => True) (fun _ t => va_P D cl w2 t.heap) A) args s 0 0 A) (hS : va_S A s.heap H locs) (hP : va_P D cl w1 H) (hw : w1 = w2) (hdg : decode cc pc = .ok (.return_, 1)) : W p l e R s m args below meth c H locs 0 0 Q (F0 m pc ls []) := by
  subst hQ; subst hw
  exact W.vret hexec hb hr (fun t ht _ => ⟨⟨(), rfl, trivial, by show va_P D cl _ t.heap; rw [ht]; exact hP⟩, hS.F ht⟩) hS.2.2 hdg
end OB2
/-- a contract's start, its end named -/
theorem ob_ofW {l : Launch} {y : MethodName} {own : String} {ws : List Cond} {rm : Room} {av : List Value} {B : State → Prop} {Qc : Array Value → State → Outcome → State → Prop} {mc ms : Nat} {free : Addr → Prop} {cc : ByteArray} {maxL : Nat} {ret : Option FieldType}
    (hy : plainName y.cls = true) (hw : ws = Cond.code y cc maxL ret :: ob_T) (ho : y.cls = own) (hle : (lg_sl av).length ≤ maxL)
    (body : ∀ (p : Program) (e : Env) (s : State) (m : MethodId) (args : Array Value) (below : List Frame) (meth : Method) (c : Code) (Q : State → Prop), Q = MQ below Qc args s mc ms free → p.tables.exec = Jvm.exec → c.code = cc → meth.sig.returnType = ret → c.maxLocals = maxL → (∀ w ∈ ob_T, w.before args s = true) → s.vm.findClass own = some m.cls → meth.locks = false → B s →
      ∀ ls : Array Slot, lv_has ls maxL (lv_args 0 av) → W p l e rm s m args below meth c s.heap [] 0 0 Q (F0 m 0 ls [])) : Met l y ws rm (va_Pc av B) Qc mc ms free := by
  refine Met.ofW (cc := cc) (maxL := maxL) (ret := ret) hy hw ?_
  intro p e s m args below meth c s₁ BL hml hv
  have hts : ∀ w ∈ ws, w.before args s = true := atoms_spec (ws := ws) BL.pre
  have hown : s.vm.findClass y.cls = some m.cls := findClass_of_methodNamed BL.named
  obtain ⟨ha, hB⟩ := hv
  have h := body p e s m args below meth c _ rfl BL.exec BL.bytes BL.returns hml (fun w h => hts w (by rw [hw]; exact List.mem_cons_of_mem _ h)) (by rw [← ho]; exact hown) BL.notSynchronized hB _ (lv_entry av hle)
  rw [← lg_entry_eq, ← ha] at h
  exact h
/-- numbers: a comparison of two ints as one of integers -/
theorem cv_lt {x y : Int32} {a b : Int} (hx : x.toInt = a) (hy : y.toInt = b) : x < y ↔ a < b := by rw [← hx, ← hy]; exact Int32.lt_iff_toInt_lt
theorem cv_le {x y : Int32} {a b : Int} (hx : x.toInt = a) (hy : y.toInt = b) : x ≤ y ↔ a ≤ b := by rw [← hx, ← hy]; exact Int32.le_iff_toInt_le
theorem cv_eq {x y : Int32} {a b : Int} (hx : x.toInt = a) (hy : y.toInt = b) : x = y ↔ a = b := by rw [← hx, ← hy]; exact Int32.toInt_inj.symm
theorem cv_in {x : Int32} {a : Int} {n : Nat} (hx : x.toInt = a) (h : 0 ≤ a ∧ a < n) : vp_in x n := vp_in_iff.mpr (by rw [hx]; exact h)
theorem cv_cl {x : Int32} {a : Int} (hx : x.toInt = a) (h : 0 ≤ a) : x.toNatClampNeg = a.toNat := by
  rw [← hx] at h ⊢; rfl
section OB3
variable {p : Program} {l : Launch} {e : Env} {R : Room} {s : State} {m : MethodId} {args : Array Value} {below : List Frame} {meth : Method} {c : Code} {H : Heap} {locs : List Loc} {cells slots : Nat} {Q : State → Prop}
variable {cc : ByteArray} {pc : Nat} {ls : Array Slot} {rest : List Value} {D : va_G} {cl : List vw_C} {A : Nat → Prop} {a : Nat} {tys : List (ClassId × FieldType)} {ws : va_W} {H0 : Heap}
/-- arrays, the place by a number -/
theorem ob_iald (hexec : p.tables.exec = Jvm.exec) (hb : c.code = cc) (hK : va_K D cl tys s) (hP : va_P D cl ws H) (q0 t0 : Nat) {cA : ClassId} {n : Nat} {f : Nat → Int32} (ha : ws[q0]? = some (a, .inl (cA, n, .inl f))) (ht : tys[t0]? = some (cA, .int)) {i : Int32} {j : Nat} (hj : i.toNatClampNeg = j) (hin : vp_in i n) (hdg : decode cc pc = .ok (.iaload, 1))
    (kk : W p l e R s m args below meth c H locs cells slots Q (F0 m (pc + 1) ls (.int (f j) :: rest))) : W p l e R s m args below meth c H locs cells slots Q (F0 m pc ls (.int i :: .ref a :: rest)) := by
  subst hj
  exact va_iald hexec hb hK hP q0 t0 ha ht hin hdg kk
theorem ob_lald (hexec : p.tables.exec = Jvm.exec) (hb : c.code = cc) (hK : va_K D cl tys s) (hP : va_P D cl ws H) (q0 t0 : Nat) {cA : ClassId} {n : Nat} {f : Nat → Int64} (ha : ws[q0]? = some (a, .inl (cA, n, .inr (.inl f)))) (ht : tys[t0]? = some (cA, .long)) {i : Int32} {j : Nat} (hj : i.toNatClampNeg = j) (hin : vp_in i n) (hdg : decode cc pc = .ok (.laload, 1))
    (kk : W p l e R s m args below meth c H locs cells slots Q (F0 m (pc + 1) ls (.long (f j) :: rest))) : W p l e R s m args below meth c H locs cells slots Q (F0 m pc ls (.int i :: .ref a :: rest)) := by
  subst hj
  exact va_lald hexec hb hK hP q0 t0 ha ht hin hdg kk
theorem ob_iast (hexec : p.tables.exec = Jvm.exec) (hb : c.code = cc) (hK : va_K D cl tys s) (hP : va_P D cl ws H) (hD : va_D A ws) (hS : va_S A H0 H locs) (q0 t0 : Nat) {cA : ClassId} {n : Nat} {f : Nat → Int32} (ha : ws[q0]? = some (a, .inl (cA, n, .inl f))) (ht : tys[t0]? = some (cA, .int)) {i : Int32} {x : Int32} {j : Nat} (hj : i.toNatClampNeg = j) (hin : vp_in i n) (hdg : decode cc pc = .ok (.iastore, 1))
    (kk : ∀ (H1 : Heap) (locs1 : List Loc), va_P D cl (ws.set q0 (a, .inl (cA, n, .inl (upd f j x)))) H1 → va_D A (ws.set q0 (a, .inl (cA, n, .inl (upd f j x)))) → va_S A H0 H1 locs1 → W p l e R s m args below meth c H1 locs1 cells slots Q (F0 m (pc + 1) ls rest)) : W p l e R s m args below meth c H locs cells slots Q (F0 m pc ls (.int x :: .int i :: .ref a :: rest)) := by
  subst hj
  exact va_iast hexec hb hK hP hD hS q0 t0 ha ht hin hdg kk
theorem ob_last (hexec : p.tables.exec = Jvm.exec) (hb : c.code = cc) (hK : va_K D cl tys s) (hP : va_P D cl ws H) (hD : va_D A ws) (hS : va_S A H0 H locs) (q0 t0 : Nat) {cA : ClassId} {n : Nat} {f : Nat → Int64} (ha : ws[q0]? = some (a, .inl (cA, n, .inr (.inl f)))) (ht : tys[t0]? = some (cA, .long)) {i : Int32} {x : Int64} {j : Nat} (hj : i.toNatClampNeg = j) (hin : vp_in i n) (hdg : decode cc pc = .ok (.lastore, 1))
    (kk : ∀ (H1 : Heap) (locs1 : List Loc), va_P D cl (ws.set q0 (a, .inl (cA, n, .inr (.inl (vp_updL f j x))))) H1 → va_D A (ws.set q0 (a, .inl (cA, n, .inr (.inl (vp_updL f j x))))) → va_S A H0 H1 locs1 → W p l e R s m args below meth c H1 locs1 cells slots Q (F0 m (pc + 1) ls rest)) : W p l e R s m args below meth c H locs cells slots Q (F0 m pc ls (.long x :: .int i :: .ref a :: rest)) := by
  subst hj
  exact va_last hexec hb hK hP hD hS q0 t0 ha ht hin hdg kk
end OB3
/-- every method's words are among every other's -/
theorem ob_good {c : Cond} (hc : c ∈ ob_T) : GoodIn ob_T (c :: ob_T) := fun w hw => by
  have h : w ∈ ob_T := by
    rcases List.mem_cons.mp hw with h | h
    · rw [h]; exact hc
    · exact h
  exact ⟨h, good_of_word (ob_T_good w h)⟩
theorem ob_goodV {c : Cond} {own : String} {idx : Nat} {C : String} {y : MethodName} (h1 : Cond.methodLink own idx y ∈ ob_T) (h2 : Cond.instanceMethod y ∈ ob_T) (h3 : Cond.selects C y y ∈ ob_T) (h4 : Cond.initialized C ∈ ob_T) (hc : c ∈ ob_T) : GoodIn ob_T (wsV own idx C y (c :: ob_T)) := fun w hw => by
  have h : w ∈ ob_T := by
    simp only [wsV, List.mem_append, List.mem_cons, List.not_mem_nil, or_false] at hw
    rcases hw with (h | h | h | h) | h | h
    · rw [h]; exact h1
    · rw [h]; exact h2
    · rw [h]; exact h3
    · rw [h]; exact h4
    · rw [h]; exact hc
    · exact h
  exact ⟨h, good_of_word (ob_T_good w h)⟩
end
section
abbrev wO (q : Nat → Nat) (cI cL : ClassId) (own : Nat → Int32) (amt : Nat → Int64) (tag : Nat → Int64) (mad : Nat → Int32) (spt : Nat → Int32) (made : Nat) : va_W := [(q 1, .inr (2, [.ref (q 2), .ref (q 3), .ref (q 4), .ref (q 5), .ref (q 6), .int (nI made)])), (q 2, .inl (cI, 2048, .inl own)), (q 3, .inl (cL, 2048, .inr (.inl amt))), (q 4, .inl (cL, 2048, .inr (.inl tag))), (q 5, .inl (cI, 2048, .inl mad)), (q 6, .inl (cI, 2048, .inl spt))]
abbrev wD (q : Nat → Nat) (cI cL : ClassId) (dsp : Nat → Int32) (dow : Nat → Int32) (dam : Nat → Int64) (dtg : Nat → Int64) (sp : Nat) (mk : Nat) (mint : Int64) : va_W := [(q 7, .inr (1, [.ref (q 8), .ref (q 9), .ref (q 10), .ref (q 11), .int (nI sp), .int (nI mk), .long mint])), (q 8, .inl (cI, 16, .inl dsp)), (q 9, .inl (cI, 16, .inl dow)), (q 10, .inl (cL, 16, .inr (.inl dam))), (q 11, .inl (cL, 16, .inr (.inl dtg)))]
abbrev wB (q : Nat → Nat) (cI cL : ClassId) (dep : Nat) (sups : Nat → Int64) (pots : Nat → Int64) (apps : Nat → Int32) (row : Nat) (hgt : Nat) (und : Nat) : va_W := [(q 12, .inr (0, [.int (nI dep), .ref (q 13), .ref (q 14), .ref (q 15), .int (nI row), .int (nI hgt), .int (nI und)])), (q 13, .inl (cL, dep + 1, .inr (.inl sups))), (q 14, .inl (cL, dep + 1, .inr (.inl pots))), (q 15, .inl (cI, dep + 1, .inl apps))]
abbrev wK (q : Nat → Nat) (cI cL : ClassId) (supply : Int64) (pot : Int64) (apl : Int32) (own : Nat → Int32) (amt : Nat → Int64) (tag : Nat → Int64) (mad : Nat → Int32) (spt : Nat → Int32) (made : Nat) (dsp : Nat → Int32) (dow : Nat → Int32) (dam : Nat → Int64) (dtg : Nat → Int64) (sp : Nat) (mk : Nat) (mint : Int64) (dep : Nat) (sups : Nat → Int64) (pots : Nat → Int64) (apps : Nat → Int32) (row : Nat) (hgt : Nat) (und : Nat) : va_W := [(q 0, .inr (3, [.ref (q 1), .ref (q 7), .ref (q 12), .long supply, .long pot, .int apl])), (q 1, .inr (2, [.ref (q 2), .ref (q 3), .ref (q 4), .ref (q 5), .ref (q 6), .int (nI made)])), (q 2, .inl (cI, 2048, .inl own)), (q 3, .inl (cL, 2048, .inr (.inl amt))), (q 4, .inl (cL, 2048, .inr (.inl tag))), (q 5, .inl (cI, 2048, .inl mad)), (q 6, .inl (cI, 2048, .inl spt)), (q 7, .inr (1, [.ref (q 8), .ref (q 9), .ref (q 10), .ref (q 11), .int (nI sp), .int (nI mk), .long mint])), (q 8, .inl (cI, 16, .inl dsp)), (q 9, .inl (cI, 16, .inl dow)), (q 10, .inl (cL, 16, .inr (.inl dam))), (q 11, .inl (cL, 16, .inr (.inl dtg))), (q 12, .inr (0, [.int (nI dep), .ref (q 13), .ref (q 14), .ref (q 15), .int (nI row), .int (nI hgt), .int (nI und)])), (q 13, .inl (cL, dep + 1, .inr (.inl sups))), (q 14, .inl (cL, dep + 1, .inr (.inl pots))), (q 15, .inl (cI, dep + 1, .inl apps))]
-- THE CLASS'S METHODS AS PURE WORDS
abbrev p_has (made : Nat) (x : Int32) : Prop := 0 ≤ x.toInt ∧ x.toInt < (made : Int)
abbrev p_live (spt : Nat → Int32) (made : Nat) (x : Int32) : Prop := p_has made x ∧ spt x.toNatClampNeg = -1
abbrev p_liveOf (own spt : Nat → Int32) (made : Nat) (o x : Int32) : Prop := p_live spt made x ∧ own x.toNatClampNeg = o
abbrev f_amt (amt : Nat → Int64) (made : Nat) (x : Int32) : Int64 := if p_has made x then amt x.toNatClampNeg else 0
/-- how many places below k have a property, as a sum of marks -/
def f_cnt (f : Nat → Bool) : Nat → Nat
  | 0 => 0
  | k + 1 => f_cnt f k + (if f k then 1 else 0)
theorem f_cnt_le (f : Nat → Bool) (k : Nat) : f_cnt f k ≤ k := by
  induction k with
  | zero => exact Nat.le_refl 0
  | succ k ih => unfold f_cnt; split <;> omega
def f_any (f : Nat → Bool) : Nat → Bool
  | 0 => false
  | k + 1 => f_any f k || f k
theorem f_any_iff (f : Nat → Bool) (k : Nat) : f_any f k = true ↔ ∃ j, j < k ∧ f j = true := by
  induction k with
  | zero => simp [f_any]
  | succ k ih =>
    simp only [f_any, Bool.or_eq_true, ih]
    constructor
    · rintro (⟨j, h1, h2⟩ | h)
      · exact ⟨j, by omega, h2⟩
      · exact ⟨k, by omega, h⟩
    · rintro ⟨j, h1, h2⟩
      by_cases h : j = k
      · subst h; exact Or.inr h2
      · exact Or.inl ⟨j, by omega, h2⟩
def f_sum (f : Nat → Int64) : Nat → Int64
  | 0 => 0
  | k + 1 => f_sum f k + f k
abbrev f_lv (own spt : Nat → Int32) (o : Int32) (k : Nat) : Bool := decide (spt k = -1) && decide (own k = o)
/-- the places of a counter are there -/
theorem p_has_nI {made k : Nat} (h : k < made) (hm : made ≤ 2048) : p_has made (nI k) := by
  rw [p_has, nI_toInt (by omega)]; omega
theorem p_live_nI {spt : Nat → Int32} {made k : Nat} (h : k < made) (hm : made ≤ 2048) : p_live spt made (nI k) ↔ spt k = -1 := by
  rw [p_live, nI_clamp (by omega)]
  exact ⟨fun z => z.2, fun z => ⟨p_has_nI h hm, z⟩⟩
theorem p_liveOf_nI {own spt : Nat → Int32} {made k : Nat} {o : Int32} (h : k < made) (hm : made ≤ 2048) : p_liveOf own spt made o (nI k) ↔ f_lv own spt o k = true := by
  rw [p_liveOf, p_live_nI h hm, nI_clamp (by omega)]
  simp [f_lv]
theorem f_amt_nI {amt : Nat → Int64} {made k : Nat} (h : k < made) (hm : made ≤ 2048) : f_amt amt made (nI k) = amt k := by
  rw [f_amt, if_pos (p_has_nI h hm), nI_clamp (by omega)]
theorem f_cnt_t {f : Nat → Bool} {k : Nat} (h : f k = true) : f_cnt f (k + 1) = f_cnt f k + 1 := by rw [f_cnt, if_pos h]
theorem f_cnt_f {f : Nat → Bool} {k : Nat} (h : ¬ f k = true) : f_cnt f (k + 1) = f_cnt f k := by rw [f_cnt, if_neg h]; rfl
theorem p_has_le {made n : Nat} {x : Int32} (h : p_has made x) (hm : made ≤ n) : p_has n x := ⟨h.1, by have := h.2; omega⟩
def f_off (spt : Nat → Int32) (made : Nat) (x h : Int32) : Nat → Int32 := if p_live spt made x then upd spt x.toNatClampNeg h else spt
theorem f_off_t {spt : Nat → Int32} {made : Nat} {x h : Int32} (c : p_live spt made x) : f_off spt made x h = upd spt x.toNatClampNeg h := if_pos c
theorem f_off_f {spt : Nat → Int32} {made : Nat} {x h : Int32} (c : ¬ p_live spt made x) : f_off spt made x h = spt := if_neg c
def f_back (mad : Nat → Int32) (h : Int32) : Nat → Nat
  | 0 => 0
  | k + 1 => if mad k < h then k + 1 else f_back mad h k
theorem f_back_go {mad : Nat → Int32} {h : Int32} {m : Nat} (h0 : 0 < m) (c : ¬ mad (m - 1) < h) : f_back mad h m = f_back mad h (m - 1) := by
  cases m with
  | zero => omega
  | succ k => exact if_neg c
theorem f_back_end {mad : Nat → Int32} {h : Int32} {m : Nat} (c : m = 0 ∨ mad (m - 1) < h) : f_back mad h m = m := by
  cases m with
  | zero => rfl
  | succ k =>
    rcases c with c | c
    · omega
    · exact if_pos c
theorem f_back_le {mad : Nat → Int32} {h : Int32} {m : Nat} : f_back mad h m ≤ m := by
  induction m with
  | zero => exact Nat.le_refl 0
  | succ k ih => rw [f_back]; split <;> omega
def f_unsp (spt : Nat → Int32) (h : Int32) (n : Nat) : Nat → Int32 := fun j => if j < n ∧ ¬ spt j < h then -1 else spt j
theorem f_unsp_0 {spt : Nat → Int32} {h : Int32} : spt = f_unsp spt h 0 := by
  funext j; rw [f_unsp, if_neg (by omega)]
theorem f_unsp_at {spt : Nat → Int32} {h : Int32} {k : Nat} : f_unsp spt h k k = spt k := by rw [f_unsp, if_neg (by omega)]
theorem f_unsp_lt {spt g : Nat → Int32} {h : Int32} {k : Nat} (e : g = f_unsp spt h k) (c : g k < h) : g = f_unsp spt h (k + 1) := by
  subst e
  rw [f_unsp_at] at c
  funext j
  by_cases hj : j = k
  · subst hj; rw [f_unsp_at, f_unsp, if_neg (fun z => z.2 c)]
  · simp only [f_unsp, show (j < k + 1) = (j < k) from by simp; omega]
theorem f_unsp_ge {spt g : Nat → Int32} {h : Int32} {k : Nat} (e : g = f_unsp spt h k) (c : ¬ g k < h) : upd g k (-1) = f_unsp spt h (k + 1) := by
  subst e
  rw [f_unsp_at] at c
  funext j
  by_cases hj : j = k
  · subst hj; rw [upd, if_pos rfl, f_unsp, if_pos ⟨Nat.lt_succ_self _, c⟩]
  · rw [upd, if_neg hj]; simp only [f_unsp, show (j < k + 1) = (j < k) from by simp; omega]
abbrev p_ahead (amt : Nat → Int64) (x y : Int32) : Prop := amt y.toNatClampNeg < amt x.toNatClampNeg ∨ (amt x.toNatClampNeg = amt y.toNatClampNeg ∧ x.toInt < y.toInt)
abbrev p_next (own : Nat → Int32) (amt : Nat → Int64) (spt : Nat → Int32) (made : Nat) (o bh best x : Int32) : Prop := p_liveOf own spt made o x ∧ (¬ p_has made bh ∨ p_ahead amt bh x) ∧ (¬ p_has made best ∨ p_ahead amt x best)
def f_next (own : Nat → Int32) (amt : Nat → Int64) (spt : Nat → Int32) (made : Nat) (o bh : Int32) : Nat → Int32
  | 0 => -1
  | k + 1 => if p_next own amt spt made o bh (f_next own amt spt made o bh k) (nI k) then nI k else f_next own amt spt made o bh k
theorem f_next_t {own : Nat → Int32} {amt : Nat → Int64} {spt : Nat → Int32} {made : Nat} {o bh best : Int32} {k : Nat} (e : best = f_next own amt spt made o bh k) (c : p_next own amt spt made o bh best (nI k)) : nI k = f_next own amt spt made o bh (k + 1) := by
  subst e; rw [f_next, if_pos c]
theorem f_next_f {own : Nat → Int32} {amt : Nat → Int64} {spt : Nat → Int32} {made : Nat} {o bh best : Int32} {k : Nat} (e : best = f_next own amt spt made o bh k) (c : ¬ p_next own amt spt made o bh best (nI k)) : best = f_next own amt spt made o bh (k + 1) := by
  subst e; rw [f_next, if_neg c]
theorem min_nI {a b : Nat} (ha : a < 2 ^ 31) (hb : b < 2 ^ 31) : (if nI b < nI a then nI b else nI a) = nI (min a b) := by
  by_cases h : b < a
  · rw [if_pos ((nI_ltI hb ha).mpr h), Nat.min_eq_right (by omega)]
  · rw [if_neg (fun z => h ((nI_ltI hb ha).mp z)), Nat.min_eq_left (by omega)]
def f_row (row dep : Nat) : Nat := if row < dep then row + 1 else 0
theorem f_row_le {row dep : Nat} : f_row row dep ≤ dep := by unfold f_row; split <;> omega
def f_rowb (row dep n : Nat) : Nat := if n ≤ row then row - n else row + dep + 1 - n
theorem f_rowb_le {row dep n : Nat} (h : row ≤ dep) (hn : n ≤ dep) : f_rowb row dep n ≤ dep := by unfold f_rowb; split <;> omega
theorem f_rowb_eq {row dep n : Nat} (h : n ≤ row + dep + 1) : nI row - nI n + nI dep + nI 1 = nI (row + dep + 1 - n) := by
  rw [← pk_sub h, ← nI_add, ← nI_add, Int32.sub_eq_add_neg, Int32.sub_eq_add_neg]
  generalize nI row = a; generalize nI dep = b; generalize -nI n = d; generalize nI 1 = e
  simp only [Int32.add_assoc, Int32.add_comm d]
end
section
abbrev rm_O_room : Room := { frames := 0, cells := 0, slots := 0, locals := 0 }
set_option maxHeartbeats 4000000 in
set_option maxRecDepth 100000 in
theorem c_O_room (l : Launch) (dC : Nat → ClassId) (dI : Nat → Nat → Nat) (q : Nat → Nat) (cI cL : ClassId) (own : Nat → Int32) (amt : Nat → Int64) (tag : Nat → Int64) (mad : Nat → Int32) (spt : Nat → Int32) (made : Nat)  (hm : made ≤ 2048) : Met l y_O_room w_O_room rm_O_room (va_Pc [.ref (q 1)] (ob_B (dC, dI) vwCl (wO q cI cL own amt tag mad spt made) [(cI, .int), (cL, .long)] [])) (QcRead (nI (2048 - made))) 0 0 (fun _ => False) := by
  refine ob_ofW (cc := b_O_room) (maxL := 1) (ret := (some .int)) (own := R_O) (by decide) rfl rfl (Nat.le_of_ble_eq_true rfl) ?_
  intro p e s m args below meth c Q hQ hx hb hr hml hT hown hlocks hv ls hl
  obtain ⟨hP, hK, hN⟩ := hv
  have hl : lv_has ls 1 [(0, .ref (q 1))] := hl
  refine lv_sipush (v := nI 2048) hx hb d_O_room_0 (by decide) ?_
  refine lv_aload_n hx hb d_O_room_3 rfl (lv_at hl 0 rfl) ?_
  refine va_get (D := (dC, dI)) (ci := 2) (v := .int (nI made)) (C := R_O) (T := T_O) (N := 6) hx hb hT in_O hown hK hP 0 rfl rfl 5 (by decide) (hT _ k_38) (fun _ h9 => h9) rfl d_O_room_4 ?_
  refine lv_isub hx hb d_O_room_7 ?_
  refine ob_eqi (pk_sub (a := 2048) (b := made) (by omega)) ?_
  exact ob_iret (v := nI (2048 - made)) hx hb hr hlocks hQ rfl d_O_room_8
abbrev rm_O_has : Room := { frames := 0, cells := 0, slots := 0, locals := 0 }
set_option maxHeartbeats 4000000 in
set_option maxRecDepth 100000 in
theorem c_O_has (l : Launch) (dC : Nat → ClassId) (dI : Nat → Nat → Nat) (q : Nat → Nat) (cI cL : ClassId) (own : Nat → Int32) (amt : Nat → Int64) (tag : Nat → Int64) (mad : Nat → Int32) (spt : Nat → Int32) (made : Nat) (x : Int32) (hm : made ≤ 2048) : Met l y_O_has w_O_has rm_O_has (va_Pc [.ref (q 1), .int x] (ob_B (dC, dI) vwCl (wO q cI cL own amt tag mad spt made) [(cI, .int), (cL, .long)] [])) (QcRead (if p_has made x then nI 1 else nI 0)) 0 0 (fun _ => False) := by
  refine ob_ofW (cc := b_O_has) (maxL := 2) (ret := (some .boolean)) (own := R_O) (by decide) rfl rfl (Nat.le_of_ble_eq_true rfl) ?_
  intro p e s m args below meth c Q hQ hx hb hr hml hT hown hlocks hv ls hl
  obtain ⟨hP, hK, hN⟩ := hv
  have hl : lv_has ls 2 [(0, .ref (q 1)), (1, .int x)] := hl
  refine lv_iload_n hx hb d_O_has_0 rfl (lv_at hl 1 rfl) ?_
  refine lv_if_lt (tgt := 16) hx hb d_O_has_1 (by decide) (fun c_1 => ?_) (fun c_1 => ?_)
  · have t_1 := (cv_lt rfl (by decide : (0 : Int32).toInt = 0)).mp c_1
    refine lv_iconst (v := nI 0) hx hb d_O_has_16 (by decide) ?_
    exact ob_zret (v := nI 0) hx hb hr hlocks hQ (by decide) (by first | exact (if_pos (by omega)).symm | exact (if_neg (by omega)).symm) d_O_has_17
  · have t_1 := mt (cv_lt rfl (by decide : (0 : Int32).toInt = 0)).mpr c_1
    refine lv_iload_n hx hb d_O_has_4 rfl (lv_at hl 1 rfl) ?_
    refine lv_aload_n hx hb d_O_has_5 rfl (lv_at hl 0 rfl) ?_
    refine va_get (D := (dC, dI)) (ci := 2) (v := .int (nI made)) (C := R_O) (T := T_O) (N := 6) hx hb hT in_O hown hK hP 0 rfl rfl 5 (by decide) (hT _ k_38) (fun _ h9 => h9) rfl d_O_has_6 ?_
    refine lv_icmp_ge (tgt := 16) hx hb d_O_has_9 (by decide) (fun c_9 => ?_) (fun c_9 => ?_)
    · have t_9 := (cv_le (nI_toInt (by omega)) rfl).mp c_9
      refine lv_iconst (v := nI 0) hx hb d_O_has_16 (by decide) ?_
      exact ob_zret (v := nI 0) hx hb hr hlocks hQ (by decide) (by first | exact (if_pos (by omega)).symm | exact (if_neg (by omega)).symm) d_O_has_17
    · have t_9 := mt (cv_le (nI_toInt (by omega)) rfl).mpr c_9
      refine lv_iconst (v := nI 1) hx hb d_O_has_12 (by decide) ?_
      refine lv_goto (tgt := 17) hx hb d_O_has_13 (by decide) ?_
      exact ob_zret (v := nI 1) hx hb hr hlocks hQ (by decide) (by first | exact (if_pos (by omega)).symm | exact (if_neg (by omega)).symm) d_O_has_17
abbrev rm_O_isLive : Room := { frames := 1, cells := 0, slots := 0, locals := 21 }
set_option maxHeartbeats 4000000 in
set_option maxRecDepth 100000 in
theorem c_O_isLive (l : Launch) (dC : Nat → ClassId) (dI : Nat → Nat → Nat) (q : Nat → Nat) (cI cL : ClassId) (own : Nat → Int32) (amt : Nat → Int64) (tag : Nat → Int64) (mad : Nat → Int32) (spt : Nat → Int32) (made : Nat) (x : Int32) (hm : made ≤ 2048) : Met l y_O_isLive w_O_isLive rm_O_isLive (va_Pc [.ref (q 1), .int x] (ob_B (dC, dI) vwCl (wO q cI cL own amt tag mad spt made) [(cI, .int), (cL, .long)] [])) (QcRead (if p_live spt made x then nI 1 else nI 0)) 0 0 (fun _ => False) := by
  refine ob_ofW (cc := b_O_isLive) (maxL := 2) (ret := (some .boolean)) (own := R_O) (by decide) rfl rfl (Nat.le_of_ble_eq_true rfl) ?_
  intro p e s m args below meth c Q hQ hx hb hr hml hT hown hlocks hv ls hl
  obtain ⟨hP, hK, hN⟩ := hv
  have hl : lv_has ls 2 [(0, .ref (q 1)), (1, .int x)] := hl
  refine lv_aload_n hx hb d_O_isLive_0 rfl (lv_at hl 0 rfl) ?_
  refine lv_iload_n hx hb d_O_isLive_1 rfl (lv_at hl 1 rfl) ?_
  refine ob_callR (W.runV (As := [.int x]) (rest := []) ⟨hx, hb, hml, hown, hT⟩ (c_O_has l dC dI q cI cL own amt tag mad spt made x hm) (cwV 1 hT (ob_goodV k_153 k_154 k_155 k_10 k_156) rfl rfl rfl (by decide +kernel) ⟨Nat.le_of_ble_eq_true rfl, Nat.le_of_ble_eq_true rfl⟩) (ob_preV (wc := wO q cI cL own amt tag mad spt made) (q0 := 0) rfl hK hP (fun _ h => absurd h List.not_mem_nil) rfl [0, 1, 2, 3, 4, 5] rfl rfl) rfl rfl hl.1 rfl (lv_room (Nat.le_of_ble_eq_true rfl)) d_O_isLive_2 ⟨Nat.zero_le _, Nat.zero_le _⟩) ?_
  refine ob_split (P := p_has made x) (fun b_2 => ?_) (fun b_2 => ?_)
  · refine lv_if_eq (tgt := 22) hx hb d_O_isLive_5 (by decide) (fun c => absurd c (by decide)) (fun _ => ?_)
    refine lv_aload_n hx hb d_O_isLive_8 rfl (lv_at hl 0 rfl) ?_
    refine va_get (D := (dC, dI)) (ci := 2) (v := .ref (q 6)) (C := R_O) (T := T_O) (N := 6) hx hb hT in_O hown hK hP 0 rfl rfl 4 (by decide) (hT _ k_36) (fun _ h9 => h9) rfl d_O_isLive_9 ?_
    refine lv_iload_n hx hb d_O_isLive_12 rfl (lv_at hl 1 rfl) ?_
    refine ob_iald hx hb hK hP 5 0 rfl rfl (j := x.toNatClampNeg) rfl (cv_in rfl (by omega)) d_O_isLive_13 ?_
    refine lv_iconst (v := (-1 : Int32)) hx hb d_O_isLive_14 (by decide) ?_
    refine lv_icmp_ne (tgt := 22) hx hb d_O_isLive_15 (by decide) (fun c_15 => ?_) (fun c_15 => ?_)
    · have t_15 := mt (cv_eq rfl (by decide : (-1 : Int32).toInt = -1)).mpr c_15
      refine lv_iconst (v := nI 0) hx hb d_O_isLive_22 (by decide) ?_
      exact ob_zret (v := nI 0) hx hb hr hlocks hQ (by decide) (by first | exact (if_pos ⟨b_2, c_15⟩).symm | exact (if_neg (fun h => c_15 h.2)).symm | exact (if_neg (fun h => b_2 h.1)).symm) d_O_isLive_23
    · have t_15 := (cv_eq rfl (by decide : (-1 : Int32).toInt = -1)).mp c_15
      refine lv_iconst (v := nI 1) hx hb d_O_isLive_18 (by decide) ?_
      refine lv_goto (tgt := 23) hx hb d_O_isLive_19 (by decide) ?_
      exact ob_zret (v := nI 1) hx hb hr hlocks hQ (by decide) (by first | exact (if_pos ⟨b_2, c_15⟩).symm | exact (if_neg (fun h => c_15 h.2)).symm | exact (if_neg (fun h => b_2 h.1)).symm) d_O_isLive_23
  · refine lv_if_eq (tgt := 22) hx hb d_O_isLive_5 (by decide) (fun _ => ?_) (fun c => absurd c (by decide))
    refine lv_iconst (v := nI 0) hx hb d_O_isLive_22 (by decide) ?_
    exact ob_zret (v := nI 0) hx hb hr hlocks hQ (by decide) (by first | exact (if_pos ⟨b_2, c_15⟩).symm | exact (if_neg (fun h => c_15 h.2)).symm | exact (if_neg (fun h => b_2 h.1)).symm) d_O_isLive_23
abbrev rm_O_isLiveOf : Room := { frames := 2, cells := 0, slots := 0, locals := 42 }
set_option maxHeartbeats 4000000 in
set_option maxRecDepth 100000 in
theorem c_O_isLiveOf (l : Launch) (dC : Nat → ClassId) (dI : Nat → Nat → Nat) (q : Nat → Nat) (cI cL : ClassId) (own : Nat → Int32) (amt : Nat → Int64) (tag : Nat → Int64) (mad : Nat → Int32) (spt : Nat → Int32) (made : Nat) (o : Int32) (x : Int32) (hm : made ≤ 2048) : Met l y_O_isLiveOf w_O_isLiveOf rm_O_isLiveOf (va_Pc [.ref (q 1), .int o, .int x] (ob_B (dC, dI) vwCl (wO q cI cL own amt tag mad spt made) [(cI, .int), (cL, .long)] [])) (QcRead (if p_liveOf own spt made o x then nI 1 else nI 0)) 0 0 (fun _ => False) := by
  refine ob_ofW (cc := b_O_isLiveOf) (maxL := 3) (ret := (some .boolean)) (own := R_O) (by decide) rfl rfl (Nat.le_of_ble_eq_true rfl) ?_
  intro p e s m args below meth c Q hQ hx hb hr hml hT hown hlocks hv ls hl
  obtain ⟨hP, hK, hN⟩ := hv
  have hl : lv_has ls 3 [(0, .ref (q 1)), (1, .int o), (2, .int x)] := hl
  refine lv_aload_n hx hb d_O_isLiveOf_0 rfl (lv_at hl 0 rfl) ?_
  refine lv_iload_n hx hb d_O_isLiveOf_1 rfl (lv_at hl 2 rfl) ?_
  refine ob_callR (W.runV (As := [.int x]) (rest := []) ⟨hx, hb, hml, hown, hT⟩ (c_O_isLive l dC dI q cI cL own amt tag mad spt made x hm) (cwV 1 hT (ob_goodV k_227 k_150 k_151 k_10 k_152) rfl rfl rfl (by decide +kernel) ⟨Nat.le_of_ble_eq_true rfl, Nat.le_of_ble_eq_true rfl⟩) (ob_preV (wc := wO q cI cL own amt tag mad spt made) (q0 := 0) rfl hK hP (fun _ h => absurd h List.not_mem_nil) rfl [0, 1, 2, 3, 4, 5] rfl rfl) rfl rfl hl.1 rfl (lv_room (Nat.le_of_ble_eq_true rfl)) d_O_isLiveOf_2 ⟨Nat.zero_le _, Nat.zero_le _⟩) ?_
  refine ob_split (P := p_live spt made x) (fun b_2 => ?_) (fun b_2 => ?_)
  · refine lv_if_eq (tgt := 22) hx hb d_O_isLiveOf_5 (by decide) (fun c => absurd c (by decide)) (fun _ => ?_)
    refine lv_aload_n hx hb d_O_isLiveOf_8 rfl (lv_at hl 0 rfl) ?_
    refine va_get (D := (dC, dI)) (ci := 2) (v := .ref (q 2)) (C := R_O) (T := T_O) (N := 6) hx hb hT in_O hown hK hP 0 rfl rfl 0 (by decide) (hT _ k_29) (fun _ h9 => h9) rfl d_O_isLiveOf_9 ?_
    refine lv_iload_n hx hb d_O_isLiveOf_12 rfl (lv_at hl 2 rfl) ?_
    refine ob_iald hx hb hK hP 1 0 rfl rfl (j := x.toNatClampNeg) rfl (cv_in rfl (by omega)) d_O_isLiveOf_13 ?_
    refine lv_iload_n hx hb d_O_isLiveOf_14 rfl (lv_at hl 1 rfl) ?_
    refine lv_icmp_ne (tgt := 22) hx hb d_O_isLiveOf_15 (by decide) (fun c_15 => ?_) (fun c_15 => ?_)
    · have t_15 := mt (cv_eq rfl rfl).mpr c_15
      refine lv_iconst (v := nI 0) hx hb d_O_isLiveOf_22 (by decide) ?_
      exact ob_zret (v := nI 0) hx hb hr hlocks hQ (by decide) (by first | exact (if_pos ⟨b_2, c_15⟩).symm | exact (if_neg (fun h => c_15 h.2)).symm | exact (if_neg (fun h => b_2 h.1)).symm) d_O_isLiveOf_23
    · have t_15 := (cv_eq rfl rfl).mp c_15
      refine lv_iconst (v := nI 1) hx hb d_O_isLiveOf_18 (by decide) ?_
      refine lv_goto (tgt := 23) hx hb d_O_isLiveOf_19 (by decide) ?_
      exact ob_zret (v := nI 1) hx hb hr hlocks hQ (by decide) (by first | exact (if_pos ⟨b_2, c_15⟩).symm | exact (if_neg (fun h => c_15 h.2)).symm | exact (if_neg (fun h => b_2 h.1)).symm) d_O_isLiveOf_23
  · refine lv_if_eq (tgt := 22) hx hb d_O_isLiveOf_5 (by decide) (fun _ => ?_) (fun c => absurd c (by decide))
    refine lv_iconst (v := nI 0) hx hb d_O_isLiveOf_22 (by decide) ?_
    exact ob_zret (v := nI 0) hx hb hr hlocks hQ (by decide) (by first | exact (if_pos ⟨b_2, c_15⟩).symm | exact (if_neg (fun h => c_15 h.2)).symm | exact (if_neg (fun h => b_2 h.1)).symm) d_O_isLiveOf_23
abbrev rm_O_amountOf : Room := { frames := 1, cells := 0, slots := 0, locals := 21 }
set_option maxHeartbeats 4000000 in
set_option maxRecDepth 100000 in
theorem c_O_amountOf (l : Launch) (dC : Nat → ClassId) (dI : Nat → Nat → Nat) (q : Nat → Nat) (cI cL : ClassId) (own : Nat → Int32) (amt : Nat → Int64) (tag : Nat → Int64) (mad : Nat → Int32) (spt : Nat → Int32) (made : Nat) (x : Int32) (hm : made ≤ 2048) : Met l y_O_amountOf w_O_amountOf rm_O_amountOf (va_Pc [.ref (q 1), .int x] (ob_B (dC, dI) vwCl (wO q cI cL own amt tag mad spt made) [(cI, .int), (cL, .long)] [])) (QcReadL (f_amt amt made x)) 0 0 (fun _ => False) := by
  refine ob_ofW (cc := b_O_amountOf) (maxL := 2) (ret := (some .long)) (own := R_O) (by decide) rfl rfl (Nat.le_of_ble_eq_true rfl) ?_
  intro p e s m args below meth c Q hQ hx hb hr hml hT hown hlocks hv ls hl
  obtain ⟨hP, hK, hN⟩ := hv
  have hl : lv_has ls 2 [(0, .ref (q 1)), (1, .int x)] := hl
  refine lv_aload_n hx hb d_O_amountOf_0 rfl (lv_at hl 0 rfl) ?_
  refine lv_iload_n hx hb d_O_amountOf_1 rfl (lv_at hl 1 rfl) ?_
  refine ob_callR (W.runV (As := [.int x]) (rest := []) ⟨hx, hb, hml, hown, hT⟩ (c_O_has l dC dI q cI cL own amt tag mad spt made x hm) (cwV 1 hT (ob_goodV k_153 k_154 k_155 k_10 k_156) rfl rfl rfl (by decide +kernel) ⟨Nat.le_of_ble_eq_true rfl, Nat.le_of_ble_eq_true rfl⟩) (ob_preV (wc := wO q cI cL own amt tag mad spt made) (q0 := 0) rfl hK hP (fun _ h => absurd h List.not_mem_nil) rfl [0, 1, 2, 3, 4, 5] rfl rfl) rfl rfl hl.1 rfl (lv_room (Nat.le_of_ble_eq_true rfl)) d_O_amountOf_2 ⟨Nat.zero_le _, Nat.zero_le _⟩) ?_
  refine ob_split (P := p_has made x) (fun b_2 => ?_) (fun b_2 => ?_)
  · refine lv_if_eq (tgt := 17) hx hb d_O_amountOf_5 (by decide) (fun c => absurd c (by decide)) (fun _ => ?_)
    refine lv_aload_n hx hb d_O_amountOf_8 rfl (lv_at hl 0 rfl) ?_
    refine va_get (D := (dC, dI)) (ci := 2) (v := .ref (q 3)) (C := R_O) (T := T_O) (N := 6) hx hb hT in_O hown hK hP 0 rfl rfl 1 (by decide) (hT _ k_31) (fun _ h9 => h9) rfl d_O_amountOf_9 ?_
    refine lv_iload_n hx hb d_O_amountOf_12 rfl (lv_at hl 1 rfl) ?_
    refine ob_lald hx hb hK hP 2 1 rfl rfl (j := x.toNatClampNeg) rfl (cv_in rfl (by omega)) d_O_amountOf_13 ?_
    refine lv_goto (tgt := 18) hx hb d_O_amountOf_14 (by decide) ?_
    exact ob_lret (v := amt x.toNatClampNeg) hx hb hr hlocks hQ (by first | exact (if_pos b_2).symm | exact (if_neg b_2).symm) d_O_amountOf_18
  · refine lv_if_eq (tgt := 17) hx hb d_O_amountOf_5 (by decide) (fun _ => ?_) (fun c => absurd c (by decide))
    refine lv_lconst (v := 0) hx hb d_O_amountOf_17 (by decide) ?_
    exact ob_lret (v := (0 : Int64)) hx hb hr hlocks hQ (by first | exact (if_pos b_2).symm | exact (if_neg b_2).symm) d_O_amountOf_18
abbrev rm_O_liveOnes : Room := { frames := 2, cells := 0, slots := 0, locals := 42 }
set_option maxHeartbeats 4000000 in
set_option maxRecDepth 100000 in
theorem c_O_liveOnes (l : Launch) (dC : Nat → ClassId) (dI : Nat → Nat → Nat) (q : Nat → Nat) (cI cL : ClassId) (own : Nat → Int32) (amt : Nat → Int64) (tag : Nat → Int64) (mad : Nat → Int32) (spt : Nat → Int32) (made : Nat)  (hm : made ≤ 2048) : Met l y_O_liveOnes w_O_liveOnes rm_O_liveOnes (va_Pc [.ref (q 1)] (ob_B (dC, dI) vwCl (wO q cI cL own amt tag mad spt made) [(cI, .int), (cL, .long)] [])) (QcRead (nI (f_cnt (fun j => decide (spt j = -1)) made))) 0 0 (fun _ => False) := by
  refine ob_ofW (cc := b_O_liveOnes) (maxL := 3) (ret := (some .int)) (own := R_O) (by decide) rfl rfl (Nat.le_of_ble_eq_true rfl) ?_
  intro p e s m args below meth c Q hQ hx hb hr hml hT hown hlocks hv ls hl
  obtain ⟨hP, hK, hN⟩ := hv
  have hl : lv_has ls 3 [(0, .ref (q 1))] := hl
  refine lv_iconst (v := nI 0) hx hb d_O_liveOnes_0 (by decide) ?_
  refine lv_istore_n (lv' := [(1, .int (nI 0)), (0, .ref (q 1))]) hx hb d_O_liveOnes_1 rfl hl (by decide) rfl (fun ls hl => ?_)
  refine lv_iconst (v := nI 0) hx hb d_O_liveOnes_2 (by decide) ?_
  refine lv_istore_n (lv' := [(2, .int (nI 0)), (1, .int (nI 0)), (0, .ref (q 1))]) hx hb d_O_liveOnes_3 rfl hl (by decide) rfl (fun ls hl => ?_)
  have key_4 : ∀ (n : Nat) (k : Nat) (c9 : Nat) (ls : Array Slot), made - k < n → (k ≤ made) → (c9 = f_cnt (fun j => decide (spt j = -1)) k) → lv_has ls 3 [(2, .int (nI k)), (1, .int (nI c9)), (0, .ref (q 1))] → W p l e rm_O_liveOnes s m args below meth c s.heap [] 0 0 Q (F0 m 4 ls []) := by
    intro n_4
    induction n_4 with
    | zero => intro k c9 ls h; exact absurd h (Nat.not_lt_zero _)
    | succ n_4 ih_4 =>
      intro k c9 ls hn_4 hk hc hl
      refine lv_iload_n hx hb d_O_liveOnes_4 rfl (lv_at hl 0 rfl) ?_
      refine lv_aload_n hx hb d_O_liveOnes_5 rfl (lv_at hl 2 rfl) ?_
      refine va_get (D := (dC, dI)) (ci := 2) (v := .int (nI made)) (C := R_O) (T := T_O) (N := 6) hx hb hT in_O hown hK hP 0 rfl rfl 5 (by decide) (hT _ k_38) (fun _ h9 => h9) rfl d_O_liveOnes_6 ?_
      refine lv_icmp_ge (tgt := 29) hx hb d_O_liveOnes_9 (by decide) (fun c_9 => ?_) (fun c_9 => ?_)
      · have t_9 := (cv_le (nI_toInt (by omega)) (nI_toInt (by omega))).mp c_9
        refine lv_iload_n hx hb d_O_liveOnes_29 rfl (lv_at hl 1 rfl) ?_
        exact ob_iret (v := nI c9) hx hb hr hlocks hQ (by rw [hc, show k = made by omega]) d_O_liveOnes_30
      · have t_9 := mt (cv_le (nI_toInt (by omega)) (nI_toInt (by omega))).mpr c_9
        refine lv_aload_n hx hb d_O_liveOnes_12 rfl (lv_at hl 2 rfl) ?_
        refine lv_iload_n hx hb d_O_liveOnes_13 rfl (lv_at hl 0 rfl) ?_
        refine ob_callR (W.runV (As := [.int (nI k)]) (rest := []) ⟨hx, hb, hml, hown, hT⟩ (c_O_isLive l dC dI q cI cL own amt tag mad spt made (nI k) hm) (cwV 1 hT (ob_goodV k_227 k_150 k_151 k_10 k_152) rfl rfl rfl (by decide +kernel) ⟨Nat.le_of_ble_eq_true rfl, Nat.le_of_ble_eq_true rfl⟩) (ob_preV (wc := wO q cI cL own amt tag mad spt made) (q0 := 0) rfl hK hP (fun _ h => absurd h List.not_mem_nil) rfl [0, 1, 2, 3, 4, 5] rfl rfl) rfl rfl hl.1 rfl (lv_room (Nat.le_of_ble_eq_true rfl)) d_O_liveOnes_14 ⟨Nat.zero_le _, Nat.zero_le _⟩) ?_
        refine ob_split (P := p_live spt made (nI k)) (fun b_14 => ?_) (fun b_14 => ?_)
        · refine lv_if_eq (tgt := 23) hx hb d_O_liveOnes_17 (by decide) (fun c => absurd c (by decide)) (fun _ => ?_)
          refine lv_iinc (v := nI (c9 + 1)) (lv' := [(1, .int (nI (c9 + 1))), (2, .int (nI k)), (0, .ref (q 1))]) hx hb d_O_liveOnes_20 hl (k := 1) rfl (nI_add c9 1) (by decide) rfl (fun ls hl => ?_)
          refine lv_iinc (v := nI (k + 1)) (lv' := [(2, .int (nI (k + 1))), (1, .int (nI (c9 + 1))), (0, .ref (q 1))]) hx hb d_O_liveOnes_23 hl (k := 1) rfl (nI_add k 1) (by decide) rfl (fun ls hl => ?_)
          refine lv_goto (tgt := 4) hx hb d_O_liveOnes_26 (by decide) ?_
          exact ih_4 (k + 1) (c9 + 1) _ (by omega) (by omega) (by first | exact (by rw [hc, f_cnt_t (by simpa using (p_live_nI (by omega) hm).mp b_14)]) | exact (by rw [hc, f_cnt_f (fun h => b_14 ((p_live_nI (by omega) hm).mpr (by simpa using h)))])) (lv_sub hl [0, 1, 2] rfl)
        · refine lv_if_eq (tgt := 23) hx hb d_O_liveOnes_17 (by decide) (fun _ => ?_) (fun c => absurd c (by decide))
          refine lv_iinc (v := nI (k + 1)) (lv' := [(2, .int (nI (k + 1))), (1, .int (nI c9)), (0, .ref (q 1))]) hx hb d_O_liveOnes_23 hl (k := 0) rfl (nI_add k 1) (by decide) rfl (fun ls hl => ?_)
          refine lv_goto (tgt := 4) hx hb d_O_liveOnes_26 (by decide) ?_
          exact ih_4 (k + 1) c9 _ (by omega) (by omega) (by first | exact (by rw [hc, f_cnt_t (by simpa using (p_live_nI (by omega) hm).mp b_14)]) | exact (by rw [hc, f_cnt_f (fun h => b_14 ((p_live_nI (by omega) hm).mpr (by simpa using h)))])) (lv_sub hl [0, 1, 2] rfl)
  exact key_4 _ 0 0 _ (Nat.lt_succ_self _) (Nat.zero_le _) rfl (lv_sub hl [0, 1, 2] rfl)
abbrev rm_O_add : Room := { frames := 1, cells := 0, slots := 0, locals := 20 }
set_option maxHeartbeats 4000000 in
set_option maxRecDepth 100000 in
theorem c_O_add (l : Launch) (dC : Nat → ClassId) (dI : Nat → Nat → Nat) (q : Nat → Nat) (cI cL : ClassId) (own : Nat → Int32) (amt : Nat → Int64) (tag : Nat → Int64) (mad : Nat → Int32) (spt : Nat → Int32) (made : Nat) (o : Int32) (a : Int64) (g : Int64) (h : Int32) (hlt : made < 2048) : Met l y_O_add w_O_add rm_O_add (va_Pc [.ref (q 1), .int o, .long a, .long g, .int h] (ob_BW (dC, dI) vwCl (wO q cI cL own amt tag mad spt made) [(cI, .int), (cL, .long)] [])) (va_Qv (fun (_ : Unit) => True) (fun _ t => va_P (dC, dI) vwCl (wO q cI cL (upd own made o) (vp_updL amt made a) (vp_updL tag made g) (upd mad made h) (upd spt made (-1 : Int32)) (made + 1)) t.heap) (ob_A (wO q cI cL own amt tag mad spt made))) 0 0 (ob_A (wO q cI cL own amt tag mad spt made)) := by
  refine ob_ofW (cc := b_O_add) (maxL := 7) (ret := none) (own := R_O) (by decide) rfl rfl (Nat.le_of_ble_eq_true rfl) ?_
  intro p e s m args below meth c Q hQ hx hb hr hml hT hown hlocks hv ls hl
  obtain ⟨⟨hP, hK, hN⟩, hD0⟩ := hv
  have hD := ob_D_self hD0
  generalize hAe : ob_A (wO q cI cL own amt tag mad spt made) = A at hQ hD
  have hS : va_S A s.heap s.heap [] := va_S.rf
  have hl : lv_has ls 7 [(0, .ref (q 1)), (1, .int o), (2, .long a), (4, .long g), (6, .int h)] := hl
  refine lv_aload_n hx hb d_O_add_0 rfl (lv_at hl 0 rfl) ?_
  refine ob_callR (W.runV (As := []) (rest := []) ⟨hx, hb, hml, hown, hT⟩ (c_O_room l dC dI q cI cL own amt tag mad spt made (by omega)) (cwV 0 hT (ob_goodV k_232 k_215 k_216 k_10 k_217) rfl rfl rfl (by decide +kernel) ⟨Nat.le_of_ble_eq_true rfl, Nat.le_of_ble_eq_true rfl⟩) (ob_preV (wc := wO q cI cL own amt tag mad spt made) (q0 := 0) rfl hK hP (fun _ h => absurd h List.not_mem_nil) rfl [0, 1, 2, 3, 4, 5] rfl rfl) rfl rfl hl.1 rfl (lv_room (Nat.le_of_ble_eq_true rfl)) d_O_add_1 ⟨Nat.zero_le _, Nat.zero_le _⟩) ?_
  refine lv_iconst (v := nI 1) hx hb d_O_add_4 (by decide) ?_
  refine lv_icmp_ge (tgt := 9) hx hb d_O_add_5 (by decide) (fun c_5 => ?_) (fun c_5 => ?_)
  · have t_5 := (cv_le (nI_toInt (by omega)) (nI_toInt (by omega))).mp c_5
    refine lv_aload_n hx hb d_O_add_9 rfl (lv_at hl 0 rfl) ?_
    refine va_get (D := (dC, dI)) (ci := 2) (v := .ref (q 2)) (C := R_O) (T := T_O) (N := 6) hx hb hT in_O hown hK hP 0 rfl rfl 0 (by decide) (hT _ k_29) (fun _ h9 => h9) rfl d_O_add_10 ?_
    refine lv_aload_n hx hb d_O_add_13 rfl (lv_at hl 0 rfl) ?_
    refine va_get (D := (dC, dI)) (ci := 2) (v := .int (nI made)) (C := R_O) (T := T_O) (N := 6) hx hb hT in_O hown hK hP 0 rfl rfl 5 (by decide) (hT _ k_38) (fun _ h9 => h9) rfl d_O_add_14 ?_
    refine lv_iload_n hx hb d_O_add_17 rfl (lv_at hl 1 rfl) ?_
    refine ob_iast hx hb hK hP hD hS 1 0 rfl rfl (j := made) (nI_clamp (by omega)) (cv_in (nI_toInt (by omega)) (by omega)) d_O_add_18 (fun H locs hP hD hS => ?_)
    have hP : va_P (dC, dI) vwCl (wO q cI cL (upd own made o) amt tag mad spt made) H := hP
    have hD : va_D A (wO q cI cL (upd own made o) amt tag mad spt made) := hD
    refine lv_aload_n hx hb d_O_add_19 rfl (lv_at hl 0 rfl) ?_
    refine va_get (D := (dC, dI)) (ci := 2) (v := .ref (q 3)) (C := R_O) (T := T_O) (N := 6) hx hb hT in_O hown hK hP 0 rfl rfl 1 (by decide) (hT _ k_31) (fun _ h9 => h9) rfl d_O_add_20 ?_
    refine lv_aload_n hx hb d_O_add_23 rfl (lv_at hl 0 rfl) ?_
    refine va_get (D := (dC, dI)) (ci := 2) (v := .int (nI made)) (C := R_O) (T := T_O) (N := 6) hx hb hT in_O hown hK hP 0 rfl rfl 5 (by decide) (hT _ k_38) (fun _ h9 => h9) rfl d_O_add_24 ?_
    refine lv_lload_n hx hb d_O_add_27 rfl (lv_at hl 2 rfl) ?_
    refine ob_last hx hb hK hP hD hS 2 1 rfl rfl (j := made) (nI_clamp (by omega)) (cv_in (nI_toInt (by omega)) (by omega)) d_O_add_28 (fun H locs hP hD hS => ?_)
    have hP : va_P (dC, dI) vwCl (wO q cI cL (upd own made o) (vp_updL amt made a) tag mad spt made) H := hP
    have hD : va_D A (wO q cI cL (upd own made o) (vp_updL amt made a) tag mad spt made) := hD
    refine lv_aload_n hx hb d_O_add_29 rfl (lv_at hl 0 rfl) ?_
    refine va_get (D := (dC, dI)) (ci := 2) (v := .ref (q 4)) (C := R_O) (T := T_O) (N := 6) hx hb hT in_O hown hK hP 0 rfl rfl 2 (by decide) (hT _ k_32) (fun _ h9 => h9) rfl d_O_add_30 ?_
    refine lv_aload_n hx hb d_O_add_33 rfl (lv_at hl 0 rfl) ?_
    refine va_get (D := (dC, dI)) (ci := 2) (v := .int (nI made)) (C := R_O) (T := T_O) (N := 6) hx hb hT in_O hown hK hP 0 rfl rfl 5 (by decide) (hT _ k_38) (fun _ h9 => h9) rfl d_O_add_34 ?_
    refine lv_lload hx hb d_O_add_37 (lv_at hl 3 rfl) ?_
    refine ob_last hx hb hK hP hD hS 3 1 rfl rfl (j := made) (nI_clamp (by omega)) (cv_in (nI_toInt (by omega)) (by omega)) d_O_add_39 (fun H locs hP hD hS => ?_)
    have hP : va_P (dC, dI) vwCl (wO q cI cL (upd own made o) (vp_updL amt made a) (vp_updL tag made g) mad spt made) H := hP
    have hD : va_D A (wO q cI cL (upd own made o) (vp_updL amt made a) (vp_updL tag made g) mad spt made) := hD
    refine lv_aload_n hx hb d_O_add_40 rfl (lv_at hl 0 rfl) ?_
    refine va_get (D := (dC, dI)) (ci := 2) (v := .ref (q 5)) (C := R_O) (T := T_O) (N := 6) hx hb hT in_O hown hK hP 0 rfl rfl 3 (by decide) (hT _ k_34) (fun _ h9 => h9) rfl d_O_add_41 ?_
    refine lv_aload_n hx hb d_O_add_44 rfl (lv_at hl 0 rfl) ?_
    refine va_get (D := (dC, dI)) (ci := 2) (v := .int (nI made)) (C := R_O) (T := T_O) (N := 6) hx hb hT in_O hown hK hP 0 rfl rfl 5 (by decide) (hT _ k_38) (fun _ h9 => h9) rfl d_O_add_45 ?_
    refine lv_iload hx hb d_O_add_48 (lv_at hl 4 rfl) ?_
    refine ob_iast hx hb hK hP hD hS 4 0 rfl rfl (j := made) (nI_clamp (by omega)) (cv_in (nI_toInt (by omega)) (by omega)) d_O_add_50 (fun H locs hP hD hS => ?_)
    have hP : va_P (dC, dI) vwCl (wO q cI cL (upd own made o) (vp_updL amt made a) (vp_updL tag made g) (upd mad made h) spt made) H := hP
    have hD : va_D A (wO q cI cL (upd own made o) (vp_updL amt made a) (vp_updL tag made g) (upd mad made h) spt made) := hD
    refine lv_aload_n hx hb d_O_add_51 rfl (lv_at hl 0 rfl) ?_
    refine va_get (D := (dC, dI)) (ci := 2) (v := .ref (q 6)) (C := R_O) (T := T_O) (N := 6) hx hb hT in_O hown hK hP 0 rfl rfl 4 (by decide) (hT _ k_36) (fun _ h9 => h9) rfl d_O_add_52 ?_
    refine lv_aload_n hx hb d_O_add_55 rfl (lv_at hl 0 rfl) ?_
    refine va_get (D := (dC, dI)) (ci := 2) (v := .int (nI made)) (C := R_O) (T := T_O) (N := 6) hx hb hT in_O hown hK hP 0 rfl rfl 5 (by decide) (hT _ k_38) (fun _ h9 => h9) rfl d_O_add_56 ?_
    refine lv_iconst (v := (-1 : Int32)) hx hb d_O_add_59 (by decide) ?_
    refine ob_iast hx hb hK hP hD hS 5 0 rfl rfl (j := made) (nI_clamp (by omega)) (cv_in (nI_toInt (by omega)) (by omega)) d_O_add_60 (fun H locs hP hD hS => ?_)
    have hP : va_P (dC, dI) vwCl (wO q cI cL (upd own made o) (vp_updL amt made a) (vp_updL tag made g) (upd mad made h) (upd spt made (-1 : Int32)) made) H := hP
    have hD : va_D A (wO q cI cL (upd own made o) (vp_updL amt made a) (vp_updL tag made g) (upd mad made h) (upd spt made (-1 : Int32)) made) := hD
    refine lv_aload_n hx hb d_O_add_61 rfl (lv_at hl 0 rfl) ?_
    refine lv_dup hx hb d_O_add_62 rfl ?_
    refine va_get (D := (dC, dI)) (ci := 2) (v := .int (nI made)) (C := R_O) (T := T_O) (N := 6) hx hb hT in_O hown hK hP 0 rfl rfl 5 (by decide) (hT _ k_38) (fun _ h9 => h9) rfl d_O_add_63 ?_
    refine lv_iconst (v := nI 1) hx hb d_O_add_66 (by decide) ?_
    refine lv_iadd hx hb d_O_add_67 ?_
    refine ob_eqi (nI_add made 1) ?_
    refine va_put (D := (dC, dI)) (ci := 2) (v := .int (nI (made + 1))) (ty := .int) (C := R_O) (T := T_O) (N := 6) hx hb hT in_O t_O t_O_ok n_O hown hK hP hD hS 0 rfl rfl 5 (by decide) (hT _ k_38) (fun _ h9 => h9) rfl (by decide +kernel) rfl rfl (Nat.le_of_ble_eq_true rfl) d_O_add_68 (fun H locs hP hD hS => ?_)
    have hP : va_P (dC, dI) vwCl (wO q cI cL (upd own made o) (vp_updL amt made a) (vp_updL tag made g) (upd mad made h) (upd spt made (-1 : Int32)) (made + 1)) H := hP
    have hD : va_D A (wO q cI cL (upd own made o) (vp_updL amt made a) (vp_updL tag made g) (upd mad made h) (upd spt made (-1 : Int32)) (made + 1)) := hD
    exact ob_vretW hx hb hr hlocks hQ hS hP rfl d_O_add_71
  · have t_5 := mt (cv_le (nI_toInt (by omega)) (nI_toInt (by omega))).mpr c_5
    exact absurd t_5 (by omega)
abbrev rm_O_takeOff : Room := { frames := 2, cells := 0, slots := 0, locals := 42 }
set_option maxHeartbeats 4000000 in
set_option maxRecDepth 100000 in
theorem c_O_takeOff (l : Launch) (dC : Nat → ClassId) (dI : Nat → Nat → Nat) (q : Nat → Nat) (cI cL : ClassId) (own : Nat → Int32) (amt : Nat → Int64) (tag : Nat → Int64) (mad : Nat → Int32) (spt : Nat → Int32) (made : Nat) (x : Int32) (h : Int32) (hm : made ≤ 2048) : Met l y_O_takeOff w_O_takeOff rm_O_takeOff (va_Pc [.ref (q 1), .int x, .int h] (ob_BW (dC, dI) vwCl (wO q cI cL own amt tag mad spt made) [(cI, .int), (cL, .long)] [])) (va_Qv (fun (_ : Unit) => True) (fun _ t => va_P (dC, dI) vwCl (wO q cI cL own amt tag mad (f_off spt made x h) made) t.heap) (ob_A (wO q cI cL own amt tag mad spt made))) 0 0 (ob_A (wO q cI cL own amt tag mad spt made)) := by
  refine ob_ofW (cc := b_O_takeOff) (maxL := 3) (ret := none) (own := R_O) (by decide) rfl rfl (Nat.le_of_ble_eq_true rfl) ?_
  intro p e s m args below meth c Q hQ hx hb hr hml hT hown hlocks hv ls hl
  obtain ⟨⟨hP, hK, hN⟩, hD0⟩ := hv
  have hD := ob_D_self hD0
  generalize hAe : ob_A (wO q cI cL own amt tag mad spt made) = A at hQ hD
  have hS : va_S A s.heap s.heap [] := va_S.rf
  have hl : lv_has ls 3 [(0, .ref (q 1)), (1, .int x), (2, .int h)] := hl
  refine lv_aload_n hx hb d_O_takeOff_0 rfl (lv_at hl 0 rfl) ?_
  refine lv_iload_n hx hb d_O_takeOff_1 rfl (lv_at hl 1 rfl) ?_
  refine ob_callR (W.runV (As := [.int x]) (rest := []) ⟨hx, hb, hml, hown, hT⟩ (c_O_isLive l dC dI q cI cL own amt tag mad spt made x hm) (cwV 1 hT (ob_goodV k_227 k_150 k_151 k_10 k_152) rfl rfl rfl (by decide +kernel) ⟨Nat.le_of_ble_eq_true rfl, Nat.le_of_ble_eq_true rfl⟩) (ob_preV (wc := wO q cI cL own amt tag mad spt made) (q0 := 0) rfl hK hP (fun _ h => absurd h List.not_mem_nil) rfl [0, 1, 2, 3, 4, 5] rfl rfl) rfl rfl hl.1 rfl (lv_room (Nat.le_of_ble_eq_true rfl)) d_O_takeOff_2 ⟨Nat.zero_le _, Nat.zero_le _⟩) ?_
  refine ob_split (P := p_live spt made x) (fun b_2 => ?_) (fun b_2 => ?_)
  · refine lv_if_eq (tgt := 15) hx hb d_O_takeOff_5 (by decide) (fun c => absurd c (by decide)) (fun _ => ?_)
    refine lv_aload_n hx hb d_O_takeOff_8 rfl (lv_at hl 0 rfl) ?_
    refine va_get (D := (dC, dI)) (ci := 2) (v := .ref (q 6)) (C := R_O) (T := T_O) (N := 6) hx hb hT in_O hown hK hP 0 rfl rfl 4 (by decide) (hT _ k_36) (fun _ h9 => h9) rfl d_O_takeOff_9 ?_
    refine lv_iload_n hx hb d_O_takeOff_12 rfl (lv_at hl 1 rfl) ?_
    refine lv_iload_n hx hb d_O_takeOff_13 rfl (lv_at hl 2 rfl) ?_
    refine ob_iast hx hb hK hP hD hS 5 0 rfl rfl (j := x.toNatClampNeg) rfl (cv_in rfl (by omega)) d_O_takeOff_14 (fun H locs hP hD hS => ?_)
    have hP : va_P (dC, dI) vwCl (wO q cI cL own amt tag mad (upd spt x.toNatClampNeg h) made) H := hP
    have hD : va_D A (wO q cI cL own amt tag mad (upd spt x.toNatClampNeg h) made) := hD
    exact ob_vretW hx hb hr hlocks hQ hS hP (by first | rw [f_off_t b_2] | rw [f_off_f b_2]) d_O_takeOff_15
  · refine lv_if_eq (tgt := 15) hx hb d_O_takeOff_5 (by decide) (fun _ => ?_) (fun c => absurd c (by decide))
    exact ob_vretW hx hb hr hlocks hQ hS hP (by first | rw [f_off_t b_2] | rw [f_off_f b_2]) d_O_takeOff_15
abbrev rm_O_takeBackFrom : Room := { frames := 0, cells := 0, slots := 0, locals := 0 }
set_option maxHeartbeats 4000000 in
set_option maxRecDepth 100000 in
theorem c_O_takeBackFrom (l : Launch) (dC : Nat → ClassId) (dI : Nat → Nat → Nat) (q : Nat → Nat) (cI cL : ClassId) (own : Nat → Int32) (amt : Nat → Int64) (tag : Nat → Int64) (mad : Nat → Int32) (spt : Nat → Int32) (made : Nat) (h : Int32) (hm : made ≤ 2048) : Met l y_O_takeBackFrom w_O_takeBackFrom rm_O_takeBackFrom (va_Pc [.ref (q 1), .int h] (ob_BW (dC, dI) vwCl (wO q cI cL own amt tag mad spt made) [(cI, .int), (cL, .long)] [])) (va_Qv (fun (_ : Unit) => True) (fun _ t => va_P (dC, dI) vwCl (wO q cI cL own amt tag mad (f_unsp spt h (f_back mad h made)) (f_back mad h made)) t.heap) (ob_A (wO q cI cL own amt tag mad spt made))) 0 0 (ob_A (wO q cI cL own amt tag mad spt made)) := by
  refine ob_ofW (cc := b_O_takeBackFrom) (maxL := 3) (ret := none) (own := R_O) (by decide) rfl rfl (Nat.le_of_ble_eq_true rfl) ?_
  intro p e s m args below meth c Q hQ hx hb hr hml hT hown hlocks hv ls hl
  obtain ⟨⟨hP, hK, hN⟩, hD0⟩ := hv
  have hD := ob_D_self hD0
  generalize hAe : ob_A (wO q cI cL own amt tag mad spt made) = A at hQ hD
  have hS : va_S A s.heap s.heap [] := va_S.rf
  have hl : lv_has ls 3 [(0, .ref (q 1)), (1, .int h)] := hl
  have key_0 : ∀ (n : Nat) (mm : Nat) (H : Heap) (locs : List Loc) (ls : Array Slot), mm < n → (mm ≤ made) → (f_back mad h mm = f_back mad h made) → va_P (dC, dI) vwCl (wO q cI cL own amt tag mad spt mm) H → va_D A (wO q cI cL own amt tag mad spt mm) → va_S A s.heap H locs → lv_has ls 3 [(0, .ref (q 1)), (1, .int h)] → W p l e rm_O_takeBackFrom s m args below meth c H locs 0 0 Q (F0 m 0 ls []) := by
    intro n_0
    induction n_0 with
    | zero => intro mm H locs ls h; exact absurd h (Nat.not_lt_zero _)
    | succ n_0 ih_0 =>
      intro mm H locs ls hn_0 hmm hb2 hP hD hS hl
      refine lv_aload_n hx hb d_O_takeBackFrom_0 rfl (lv_at hl 0 rfl) ?_
      refine va_get (D := (dC, dI)) (ci := 2) (v := .int (nI mm)) (C := R_O) (T := T_O) (N := 6) hx hb hT in_O hown hK hP 0 rfl rfl 5 (by decide) (hT _ k_38) (fun _ h9 => h9) rfl d_O_takeBackFrom_1 ?_
      refine lv_if_le (tgt := 35) hx hb d_O_takeBackFrom_4 (by decide) (fun c_4 => ?_) (fun c_4 => ?_)
      · have t_4 := (cv_le (nI_toInt (by omega)) (by decide : (0 : Int32).toInt = 0)).mp c_4
        have hfin : mm = f_back mad h made := by rw [← hb2, f_back_end (by first | exact Or.inl (by omega) | exact Or.inr c_19)]
        refine lv_iconst (v := nI 0) hx hb d_O_takeBackFrom_35 (by decide) ?_
        refine lv_istore_n (lv' := [(2, .int (nI 0)), (0, .ref (q 1)), (1, .int h)]) hx hb d_O_takeBackFrom_36 rfl hl (by decide) rfl (fun ls hl => ?_)
        have key_37 : ∀ (n : Nat) (k : Nat) (g : Nat → Int32) (H : Heap) (locs : List Loc) (ls : Array Slot), mm - k < n → (k ≤ mm) → (g = f_unsp spt h k) → va_P (dC, dI) vwCl (wO q cI cL own amt tag mad g mm) H → va_D A (wO q cI cL own amt tag mad g mm) → va_S A s.heap H locs → lv_has ls 3 [(2, .int (nI k)), (0, .ref (q 1)), (1, .int h)] → W p l e rm_O_takeBackFrom s m args below meth c H locs 0 0 Q (F0 m 37 ls []) := by
          intro n_37
          induction n_37 with
          | zero => intro k g H locs ls h; exact absurd h (Nat.not_lt_zero _)
          | succ n_37 ih_37 =>
            intro k g H locs ls hn_37 hk hg hP hD hS hl
            refine lv_iload_n hx hb d_O_takeBackFrom_37 rfl (lv_at hl 0 rfl) ?_
            refine lv_aload_n hx hb d_O_takeBackFrom_38 rfl (lv_at hl 1 rfl) ?_
            refine va_get (D := (dC, dI)) (ci := 2) (v := .int (nI mm)) (C := R_O) (T := T_O) (N := 6) hx hb hT in_O hown hK hP 0 rfl rfl 5 (by decide) (hT _ k_38) (fun _ h9 => h9) rfl d_O_takeBackFrom_39 ?_
            refine lv_icmp_ge (tgt := 68) hx hb d_O_takeBackFrom_42 (by decide) (fun c_42 => ?_) (fun c_42 => ?_)
            · have t_42 := (cv_le (nI_toInt (by omega)) (nI_toInt (by omega))).mp c_42
              exact ob_vretW hx hb hr hlocks hQ hS hP (by rw [hg, show k = mm by omega, hfin]) d_O_takeBackFrom_68
            · have t_42 := mt (cv_le (nI_toInt (by omega)) (nI_toInt (by omega))).mpr c_42
              refine lv_aload_n hx hb d_O_takeBackFrom_45 rfl (lv_at hl 1 rfl) ?_
              refine va_get (D := (dC, dI)) (ci := 2) (v := .ref (q 6)) (C := R_O) (T := T_O) (N := 6) hx hb hT in_O hown hK hP 0 rfl rfl 4 (by decide) (hT _ k_36) (fun _ h9 => h9) rfl d_O_takeBackFrom_46 ?_
              refine lv_iload_n hx hb d_O_takeBackFrom_49 rfl (lv_at hl 0 rfl) ?_
              refine ob_iald hx hb hK hP 5 0 rfl rfl (j := k) (nI_clamp (by omega)) (cv_in (nI_toInt (by omega)) (by omega)) d_O_takeBackFrom_50 ?_
              refine lv_iload_n hx hb d_O_takeBackFrom_51 rfl (lv_at hl 2 rfl) ?_
              refine lv_icmp_lt (tgt := 62) hx hb d_O_takeBackFrom_52 (by decide) (fun c_52 => ?_) (fun c_52 => ?_)
              · have t_52 := (cv_lt rfl rfl).mp c_52
                refine lv_iinc (v := nI (k + 1)) (lv' := [(2, .int (nI (k + 1))), (0, .ref (q 1)), (1, .int h)]) hx hb d_O_takeBackFrom_62 hl (k := 0) rfl (nI_add k 1) (by decide) rfl (fun ls hl => ?_)
                refine lv_goto (tgt := 37) hx hb d_O_takeBackFrom_65 (by decide) ?_
                exact ih_37 (k + 1) g _ _ _ (by omega) (by omega) (by first | exact f_unsp_lt hg c_52 | exact f_unsp_ge hg c_52) hP hD hS (lv_sub hl [0, 1, 2] rfl)
              · have t_52 := mt (cv_lt rfl rfl).mpr c_52
                refine lv_aload_n hx hb d_O_takeBackFrom_55 rfl (lv_at hl 1 rfl) ?_
                refine va_get (D := (dC, dI)) (ci := 2) (v := .ref (q 6)) (C := R_O) (T := T_O) (N := 6) hx hb hT in_O hown hK hP 0 rfl rfl 4 (by decide) (hT _ k_36) (fun _ h9 => h9) rfl d_O_takeBackFrom_56 ?_
                refine lv_iload_n hx hb d_O_takeBackFrom_59 rfl (lv_at hl 0 rfl) ?_
                refine lv_iconst (v := (-1 : Int32)) hx hb d_O_takeBackFrom_60 (by decide) ?_
                refine ob_iast hx hb hK hP hD hS 5 0 rfl rfl (j := k) (nI_clamp (by omega)) (cv_in (nI_toInt (by omega)) (by omega)) d_O_takeBackFrom_61 (fun H locs hP hD hS => ?_)
                have hP : va_P (dC, dI) vwCl (wO q cI cL own amt tag mad (upd g k (-1 : Int32)) mm) H := hP
                have hD : va_D A (wO q cI cL own amt tag mad (upd g k (-1 : Int32)) mm) := hD
                refine lv_iinc (v := nI (k + 1)) (lv' := [(2, .int (nI (k + 1))), (0, .ref (q 1)), (1, .int h)]) hx hb d_O_takeBackFrom_62 hl (k := 0) rfl (nI_add k 1) (by decide) rfl (fun ls hl => ?_)
                refine lv_goto (tgt := 37) hx hb d_O_takeBackFrom_65 (by decide) ?_
                exact ih_37 (k + 1) (upd g k (-1 : Int32)) _ _ _ (by omega) (by omega) (by first | exact f_unsp_lt hg c_52 | exact f_unsp_ge hg c_52) hP hD hS (lv_sub hl [0, 1, 2] rfl)
        exact key_37 _ 0 spt _ _ _ (Nat.lt_succ_self _) (Nat.zero_le _) f_unsp_0 hP hD hS (lv_sub hl [0, 1, 2] rfl)
      · have t_4 := mt (cv_le (nI_toInt (by omega)) (by decide : (0 : Int32).toInt = 0)).mpr c_4
        refine lv_aload_n hx hb d_O_takeBackFrom_7 rfl (lv_at hl 0 rfl) ?_
        refine va_get (D := (dC, dI)) (ci := 2) (v := .ref (q 5)) (C := R_O) (T := T_O) (N := 6) hx hb hT in_O hown hK hP 0 rfl rfl 3 (by decide) (hT _ k_34) (fun _ h9 => h9) rfl d_O_takeBackFrom_8 ?_
        refine lv_aload_n hx hb d_O_takeBackFrom_11 rfl (lv_at hl 0 rfl) ?_
        refine va_get (D := (dC, dI)) (ci := 2) (v := .int (nI mm)) (C := R_O) (T := T_O) (N := 6) hx hb hT in_O hown hK hP 0 rfl rfl 5 (by decide) (hT _ k_38) (fun _ h9 => h9) rfl d_O_takeBackFrom_12 ?_
        refine lv_iconst (v := nI 1) hx hb d_O_takeBackFrom_15 (by decide) ?_
        refine lv_isub hx hb d_O_takeBackFrom_16 ?_
        refine ob_eqi (pk_sub (a := mm) (b := 1) (by omega)) ?_
        refine ob_iald hx hb hK hP 4 0 rfl rfl (j := mm - 1) (nI_clamp (by omega)) (cv_in (nI_toInt (by omega)) (by omega)) d_O_takeBackFrom_17 ?_
        refine lv_iload_n hx hb d_O_takeBackFrom_18 rfl (lv_at hl 1 rfl) ?_
        refine lv_icmp_lt (tgt := 35) hx hb d_O_takeBackFrom_19 (by decide) (fun c_19 => ?_) (fun c_19 => ?_)
        · have t_19 := (cv_lt rfl rfl).mp c_19
          have hfin : mm = f_back mad h made := by rw [← hb2, f_back_end (by first | exact Or.inl (by omega) | exact Or.inr c_19)]
          refine lv_iconst (v := nI 0) hx hb d_O_takeBackFrom_35 (by decide) ?_
          refine lv_istore_n (lv' := [(2, .int (nI 0)), (0, .ref (q 1)), (1, .int h)]) hx hb d_O_takeBackFrom_36 rfl hl (by decide) rfl (fun ls hl => ?_)
          have key_37 : ∀ (n : Nat) (k : Nat) (g : Nat → Int32) (H : Heap) (locs : List Loc) (ls : Array Slot), mm - k < n → (k ≤ mm) → (g = f_unsp spt h k) → va_P (dC, dI) vwCl (wO q cI cL own amt tag mad g mm) H → va_D A (wO q cI cL own amt tag mad g mm) → va_S A s.heap H locs → lv_has ls 3 [(2, .int (nI k)), (0, .ref (q 1)), (1, .int h)] → W p l e rm_O_takeBackFrom s m args below meth c H locs 0 0 Q (F0 m 37 ls []) := by
            intro n_37
            induction n_37 with
            | zero => intro k g H locs ls h; exact absurd h (Nat.not_lt_zero _)
            | succ n_37 ih_37 =>
              intro k g H locs ls hn_37 hk hg hP hD hS hl
              refine lv_iload_n hx hb d_O_takeBackFrom_37 rfl (lv_at hl 0 rfl) ?_
              refine lv_aload_n hx hb d_O_takeBackFrom_38 rfl (lv_at hl 1 rfl) ?_
              refine va_get (D := (dC, dI)) (ci := 2) (v := .int (nI mm)) (C := R_O) (T := T_O) (N := 6) hx hb hT in_O hown hK hP 0 rfl rfl 5 (by decide) (hT _ k_38) (fun _ h9 => h9) rfl d_O_takeBackFrom_39 ?_
              refine lv_icmp_ge (tgt := 68) hx hb d_O_takeBackFrom_42 (by decide) (fun c_42 => ?_) (fun c_42 => ?_)
              · have t_42 := (cv_le (nI_toInt (by omega)) (nI_toInt (by omega))).mp c_42
                exact ob_vretW hx hb hr hlocks hQ hS hP (by rw [hg, show k = mm by omega, hfin]) d_O_takeBackFrom_68
              · have t_42 := mt (cv_le (nI_toInt (by omega)) (nI_toInt (by omega))).mpr c_42
                refine lv_aload_n hx hb d_O_takeBackFrom_45 rfl (lv_at hl 1 rfl) ?_
                refine va_get (D := (dC, dI)) (ci := 2) (v := .ref (q 6)) (C := R_O) (T := T_O) (N := 6) hx hb hT in_O hown hK hP 0 rfl rfl 4 (by decide) (hT _ k_36) (fun _ h9 => h9) rfl d_O_takeBackFrom_46 ?_
                refine lv_iload_n hx hb d_O_takeBackFrom_49 rfl (lv_at hl 0 rfl) ?_
                refine ob_iald hx hb hK hP 5 0 rfl rfl (j := k) (nI_clamp (by omega)) (cv_in (nI_toInt (by omega)) (by omega)) d_O_takeBackFrom_50 ?_
                refine lv_iload_n hx hb d_O_takeBackFrom_51 rfl (lv_at hl 2 rfl) ?_
                refine lv_icmp_lt (tgt := 62) hx hb d_O_takeBackFrom_52 (by decide) (fun c_52 => ?_) (fun c_52 => ?_)
                · have t_52 := (cv_lt rfl rfl).mp c_52
                  refine lv_iinc (v := nI (k + 1)) (lv' := [(2, .int (nI (k + 1))), (0, .ref (q 1)), (1, .int h)]) hx hb d_O_takeBackFrom_62 hl (k := 0) rfl (nI_add k 1) (by decide) rfl (fun ls hl => ?_)
                  refine lv_goto (tgt := 37) hx hb d_O_takeBackFrom_65 (by decide) ?_
                  exact ih_37 (k + 1) g _ _ _ (by omega) (by omega) (by first | exact f_unsp_lt hg c_52 | exact f_unsp_ge hg c_52) hP hD hS (lv_sub hl [0, 1, 2] rfl)
                · have t_52 := mt (cv_lt rfl rfl).mpr c_52
                  refine lv_aload_n hx hb d_O_takeBackFrom_55 rfl (lv_at hl 1 rfl) ?_
                  refine va_get (D := (dC, dI)) (ci := 2) (v := .ref (q 6)) (C := R_O) (T := T_O) (N := 6) hx hb hT in_O hown hK hP 0 rfl rfl 4 (by decide) (hT _ k_36) (fun _ h9 => h9) rfl d_O_takeBackFrom_56 ?_
                  refine lv_iload_n hx hb d_O_takeBackFrom_59 rfl (lv_at hl 0 rfl) ?_
                  refine lv_iconst (v := (-1 : Int32)) hx hb d_O_takeBackFrom_60 (by decide) ?_
                  refine ob_iast hx hb hK hP hD hS 5 0 rfl rfl (j := k) (nI_clamp (by omega)) (cv_in (nI_toInt (by omega)) (by omega)) d_O_takeBackFrom_61 (fun H locs hP hD hS => ?_)
                  have hP : va_P (dC, dI) vwCl (wO q cI cL own amt tag mad (upd g k (-1 : Int32)) mm) H := hP
                  have hD : va_D A (wO q cI cL own amt tag mad (upd g k (-1 : Int32)) mm) := hD
                  refine lv_iinc (v := nI (k + 1)) (lv' := [(2, .int (nI (k + 1))), (0, .ref (q 1)), (1, .int h)]) hx hb d_O_takeBackFrom_62 hl (k := 0) rfl (nI_add k 1) (by decide) rfl (fun ls hl => ?_)
                  refine lv_goto (tgt := 37) hx hb d_O_takeBackFrom_65 (by decide) ?_
                  exact ih_37 (k + 1) (upd g k (-1 : Int32)) _ _ _ (by omega) (by omega) (by first | exact f_unsp_lt hg c_52 | exact f_unsp_ge hg c_52) hP hD hS (lv_sub hl [0, 1, 2] rfl)
          exact key_37 _ 0 spt _ _ _ (Nat.lt_succ_self _) (Nat.zero_le _) f_unsp_0 hP hD hS (lv_sub hl [0, 1, 2] rfl)
        · have t_19 := mt (cv_lt rfl rfl).mpr c_19
          refine lv_aload_n hx hb d_O_takeBackFrom_22 rfl (lv_at hl 0 rfl) ?_
          refine lv_dup hx hb d_O_takeBackFrom_23 rfl ?_
          refine va_get (D := (dC, dI)) (ci := 2) (v := .int (nI mm)) (C := R_O) (T := T_O) (N := 6) hx hb hT in_O hown hK hP 0 rfl rfl 5 (by decide) (hT _ k_38) (fun _ h9 => h9) rfl d_O_takeBackFrom_24 ?_
          refine lv_iconst (v := nI 1) hx hb d_O_takeBackFrom_27 (by decide) ?_
          refine lv_isub hx hb d_O_takeBackFrom_28 ?_
          refine ob_eqi (pk_sub (a := mm) (b := 1) (by omega)) ?_
          refine va_put (D := (dC, dI)) (ci := 2) (v := .int (nI (mm - 1))) (ty := .int) (C := R_O) (T := T_O) (N := 6) hx hb hT in_O t_O t_O_ok n_O hown hK hP hD hS 0 rfl rfl 5 (by decide) (hT _ k_38) (fun _ h9 => h9) rfl (by decide +kernel) rfl rfl (Nat.le_of_ble_eq_true rfl) d_O_takeBackFrom_29 (fun H locs hP hD hS => ?_)
          have hP : va_P (dC, dI) vwCl (wO q cI cL own amt tag mad spt (mm - 1)) H := hP
          have hD : va_D A (wO q cI cL own amt tag mad spt (mm - 1)) := hD
          refine lv_goto (tgt := 0) hx hb d_O_takeBackFrom_32 (by decide) ?_
          exact ih_0 (mm - 1) _ _ _ (by omega) (by omega) (by rw [← hb2, f_back_go (by omega) c_19]) hP hD hS (lv_sub hl [0, 1] rfl)
  exact key_0 _ made _ _ _ (Nat.lt_succ_self _) (Nat.le_refl _) rfl hP hD hS (lv_sub hl [0, 1] rfl)
abbrev rm_O_standsAhead : Room := { frames := 0, cells := 0, slots := 0, locals := 0 }
set_option maxHeartbeats 4000000 in
set_option maxRecDepth 100000 in
theorem c_O_standsAhead (l : Launch) (dC : Nat → ClassId) (dI : Nat → Nat → Nat) (q : Nat → Nat) (cI cL : ClassId) (own : Nat → Int32) (amt : Nat → Int64) (tag : Nat → Int64) (mad : Nat → Int32) (spt : Nat → Int32) (made : Nat) (x : Int32) (y : Int32) (h1 : p_has 2048 x) (h2 : p_has 2048 y) : Met l y_O_standsAhead w_O_standsAhead rm_O_standsAhead (va_Pc [.ref (q 1), .int x, .int y] (ob_B (dC, dI) vwCl (wO q cI cL own amt tag mad spt made) [(cI, .int), (cL, .long)] [])) (QcRead (if p_ahead amt x y then nI 1 else nI 0)) 0 0 (fun _ => False) := by
  refine ob_ofW (cc := b_O_standsAhead) (maxL := 3) (ret := (some .boolean)) (own := R_O) (by decide) rfl rfl (Nat.le_of_ble_eq_true rfl) ?_
  intro p e s m args below meth c Q hQ hx hb hr hml hT hown hlocks hv ls hl
  obtain ⟨hP, hK, hN⟩ := hv
  have hl : lv_has ls 3 [(0, .ref (q 1)), (1, .int x), (2, .int y)] := hl
  refine lv_aload_n hx hb d_O_standsAhead_0 rfl (lv_at hl 0 rfl) ?_
  refine va_get (D := (dC, dI)) (ci := 2) (v := .ref (q 3)) (C := R_O) (T := T_O) (N := 6) hx hb hT in_O hown hK hP 0 rfl rfl 1 (by decide) (hT _ k_31) (fun _ h9 => h9) rfl d_O_standsAhead_1 ?_
  refine lv_iload_n hx hb d_O_standsAhead_4 rfl (lv_at hl 1 rfl) ?_
  refine ob_lald hx hb hK hP 2 1 rfl rfl (j := x.toNatClampNeg) rfl (cv_in rfl (by omega)) d_O_standsAhead_5 ?_
  refine lv_aload_n hx hb d_O_standsAhead_6 rfl (lv_at hl 0 rfl) ?_
  refine va_get (D := (dC, dI)) (ci := 2) (v := .ref (q 3)) (C := R_O) (T := T_O) (N := 6) hx hb hT in_O hown hK hP 0 rfl rfl 1 (by decide) (hT _ k_31) (fun _ h9 => h9) rfl d_O_standsAhead_7 ?_
  refine lv_iload_n hx hb d_O_standsAhead_10 rfl (lv_at hl 2 rfl) ?_
  refine ob_lald hx hb hK hP 2 1 rfl rfl (j := y.toNatClampNeg) rfl (cv_in rfl (by omega)) d_O_standsAhead_11 ?_
  refine W.lcmp hx hb d_O_standsAhead_12 ?_
  refine lv_if_gt (tgt := 37) hx hb d_O_standsAhead_13 (by decide) (fun c_13 => ?_) (fun c_13 => ?_)
  · have c_13 := (lg_cmp_gt _ _).mp c_13
    refine lv_iconst (v := nI 1) hx hb d_O_standsAhead_37 (by decide) ?_
    refine lv_goto (tgt := 42) hx hb d_O_standsAhead_38 (by decide) ?_
    exact ob_zret (v := nI 1) hx hb hr hlocks hQ (by decide) (by first | exact (if_pos (Or.inl c_13)).symm | exact (if_pos (Or.inr ⟨c_29, by omega⟩)).symm | exact (if_neg (fun h => h.elim c_13 (fun z => absurd z.2 (by omega)))).symm | exact (if_neg (fun h => h.elim c_13 (fun z => absurd z.1 c_29))).symm) d_O_standsAhead_42
  · have c_13 := mt (lg_cmp_gt _ _).mpr c_13
    refine lv_aload_n hx hb d_O_standsAhead_16 rfl (lv_at hl 0 rfl) ?_
    refine va_get (D := (dC, dI)) (ci := 2) (v := .ref (q 3)) (C := R_O) (T := T_O) (N := 6) hx hb hT in_O hown hK hP 0 rfl rfl 1 (by decide) (hT _ k_31) (fun _ h9 => h9) rfl d_O_standsAhead_17 ?_
    refine lv_iload_n hx hb d_O_standsAhead_20 rfl (lv_at hl 1 rfl) ?_
    refine ob_lald hx hb hK hP 2 1 rfl rfl (j := x.toNatClampNeg) rfl (cv_in rfl (by omega)) d_O_standsAhead_21 ?_
    refine lv_aload_n hx hb d_O_standsAhead_22 rfl (lv_at hl 0 rfl) ?_
    refine va_get (D := (dC, dI)) (ci := 2) (v := .ref (q 3)) (C := R_O) (T := T_O) (N := 6) hx hb hT in_O hown hK hP 0 rfl rfl 1 (by decide) (hT _ k_31) (fun _ h9 => h9) rfl d_O_standsAhead_23 ?_
    refine lv_iload_n hx hb d_O_standsAhead_26 rfl (lv_at hl 2 rfl) ?_
    refine ob_lald hx hb hK hP 2 1 rfl rfl (j := y.toNatClampNeg) rfl (cv_in rfl (by omega)) d_O_standsAhead_27 ?_
    refine W.lcmp hx hb d_O_standsAhead_28 ?_
    refine lv_if_ne (tgt := 41) hx hb d_O_standsAhead_29 (by decide) (fun c_29 => ?_) (fun c_29 => ?_)
    · have c_29 := mt (lg_cmp_eq _ _).mpr c_29
      refine lv_iconst (v := nI 0) hx hb d_O_standsAhead_41 (by decide) ?_
      exact ob_zret (v := nI 0) hx hb hr hlocks hQ (by decide) (by first | exact (if_pos (Or.inl c_13)).symm | exact (if_pos (Or.inr ⟨c_29, by omega⟩)).symm | exact (if_neg (fun h => h.elim c_13 (fun z => absurd z.2 (by omega)))).symm | exact (if_neg (fun h => h.elim c_13 (fun z => absurd z.1 c_29))).symm) d_O_standsAhead_42
    · have c_29 := (lg_cmp_eq _ _).mp c_29
      refine lv_iload_n hx hb d_O_standsAhead_32 rfl (lv_at hl 1 rfl) ?_
      refine lv_iload_n hx hb d_O_standsAhead_33 rfl (lv_at hl 2 rfl) ?_
      refine lv_icmp_ge (tgt := 41) hx hb d_O_standsAhead_34 (by decide) (fun c_34 => ?_) (fun c_34 => ?_)
      · have t_34 := (cv_le rfl rfl).mp c_34
        refine lv_iconst (v := nI 0) hx hb d_O_standsAhead_41 (by decide) ?_
        exact ob_zret (v := nI 0) hx hb hr hlocks hQ (by decide) (by first | exact (if_pos (Or.inl c_13)).symm | exact (if_pos (Or.inr ⟨c_29, by omega⟩)).symm | exact (if_neg (fun h => h.elim c_13 (fun z => absurd z.2 (by omega)))).symm | exact (if_neg (fun h => h.elim c_13 (fun z => absurd z.1 c_29))).symm) d_O_standsAhead_42
      · have t_34 := mt (cv_le rfl rfl).mpr c_34
        refine lv_iconst (v := nI 1) hx hb d_O_standsAhead_37 (by decide) ?_
        refine lv_goto (tgt := 42) hx hb d_O_standsAhead_38 (by decide) ?_
        exact ob_zret (v := nI 1) hx hb hr hlocks hQ (by decide) (by first | exact (if_pos (Or.inl c_13)).symm | exact (if_pos (Or.inr ⟨c_29, by omega⟩)).symm | exact (if_neg (fun h => h.elim c_13 (fun z => absurd z.2 (by omega)))).symm | exact (if_neg (fun h => h.elim c_13 (fun z => absurd z.1 c_29))).symm) d_O_standsAhead_42
abbrev rm_O_nextByAmount : Room := { frames := 3, cells := 0, slots := 0, locals := 64 }
set_option maxHeartbeats 4000000 in
set_option maxRecDepth 100000 in
theorem c_O_nextByAmount (l : Launch) (dC : Nat → ClassId) (dI : Nat → Nat → Nat) (q : Nat → Nat) (cI cL : ClassId) (own : Nat → Int32) (amt : Nat → Int64) (tag : Nat → Int64) (mad : Nat → Int32) (spt : Nat → Int32) (made : Nat) (o : Int32) (bh : Int32) (hm : made ≤ 2048) : Met l y_O_nextByAmount w_O_nextByAmount rm_O_nextByAmount (va_Pc [.ref (q 1), .int o, .int bh] (ob_B (dC, dI) vwCl (wO q cI cL own amt tag mad spt made) [(cI, .int), (cL, .long)] [])) (QcRead (f_next own amt spt made o bh made)) 0 0 (fun _ => False) := by
  refine ob_ofW (cc := b_O_nextByAmount) (maxL := 5) (ret := (some .int)) (own := R_O) (by decide) rfl rfl (Nat.le_of_ble_eq_true rfl) ?_
  intro p e s m args below meth c Q hQ hx hb hr hml hT hown hlocks hv ls hl
  obtain ⟨hP, hK, hN⟩ := hv
  have hl : lv_has ls 5 [(0, .ref (q 1)), (1, .int o), (2, .int bh)] := hl
  refine lv_iconst (v := (-1 : Int32)) hx hb d_O_nextByAmount_0 (by decide) ?_
  refine lv_istore_n (lv' := [(3, .int (-1 : Int32)), (0, .ref (q 1)), (1, .int o), (2, .int bh)]) hx hb d_O_nextByAmount_1 rfl hl (by decide) rfl (fun ls hl => ?_)
  refine lv_iconst (v := nI 0) hx hb d_O_nextByAmount_2 (by decide) ?_
  refine lv_istore (lv' := [(4, .int (nI 0)), (3, .int (-1 : Int32)), (0, .ref (q 1)), (1, .int o), (2, .int bh)]) hx hb d_O_nextByAmount_3 hl (by decide) rfl (fun ls hl => ?_)
  have key_5 : ∀ (n : Nat) (k : Nat) (best : Int32) (ls : Array Slot), made - k < n → (k ≤ made) → (best = f_next own amt spt made o bh k) → lv_has ls 5 [(4, .int (nI k)), (3, .int best), (0, .ref (q 1)), (1, .int o), (2, .int bh)] → W p l e rm_O_nextByAmount s m args below meth c s.heap [] 0 0 Q (F0 m 5 ls []) := by
    intro n_5
    induction n_5 with
    | zero => intro k best ls h; exact absurd h (Nat.not_lt_zero _)
    | succ n_5 ih_5 =>
      intro k best ls hn_5 hk hbest hl
      refine lv_iload hx hb d_O_nextByAmount_5 (lv_at hl 0 rfl) ?_
      refine lv_aload_n hx hb d_O_nextByAmount_7 rfl (lv_at hl 2 rfl) ?_
      refine va_get (D := (dC, dI)) (ci := 2) (v := .int (nI made)) (C := R_O) (T := T_O) (N := 6) hx hb hT in_O hown hK hP 0 rfl rfl 5 (by decide) (hT _ k_38) (fun _ h9 => h9) rfl d_O_nextByAmount_8 ?_
      refine lv_icmp_ge (tgt := 69) hx hb d_O_nextByAmount_11 (by decide) (fun c_11 => ?_) (fun c_11 => ?_)
      · have t_11 := (cv_le (nI_toInt (by omega)) (nI_toInt (by omega))).mp c_11
        refine lv_iload_n hx hb d_O_nextByAmount_69 rfl (lv_at hl 1 rfl) ?_
        exact ob_iret (v := best) hx hb hr hlocks hQ (by rw [hbest, show k = made by omega]) d_O_nextByAmount_70
      · have t_11 := mt (cv_le (nI_toInt (by omega)) (nI_toInt (by omega))).mpr c_11
        refine lv_aload_n hx hb d_O_nextByAmount_14 rfl (lv_at hl 2 rfl) ?_
        refine lv_iload_n hx hb d_O_nextByAmount_15 rfl (lv_at hl 3 rfl) ?_
        refine lv_iload hx hb d_O_nextByAmount_16 (lv_at hl 0 rfl) ?_
        refine ob_callR (W.runV (As := [.int o, .int (nI k)]) (rest := []) ⟨hx, hb, hml, hown, hT⟩ (c_O_isLiveOf l dC dI q cI cL own amt tag mad spt made o (nI k) hm) (cwV 2 hT (ob_goodV k_303 k_284 k_285 k_10 k_286) rfl rfl rfl (by decide +kernel) ⟨Nat.le_of_ble_eq_true rfl, Nat.le_of_ble_eq_true rfl⟩) (ob_preV (wc := wO q cI cL own amt tag mad spt made) (q0 := 0) rfl hK hP (fun _ h => absurd h List.not_mem_nil) rfl [0, 1, 2, 3, 4, 5] rfl rfl) rfl rfl hl.1 rfl (lv_room (Nat.le_of_ble_eq_true rfl)) d_O_nextByAmount_18 ⟨Nat.zero_le _, Nat.zero_le _⟩) ?_
        refine ob_split (P := p_liveOf own spt made o (nI k)) (fun b_18 => ?_) (fun b_18 => ?_)
        · refine lv_if_eq (tgt := 63) hx hb d_O_nextByAmount_21 (by decide) (fun c => absurd c (by decide)) (fun _ => ?_)
          refine lv_aload_n hx hb d_O_nextByAmount_24 rfl (lv_at hl 2 rfl) ?_
          refine lv_iload_n hx hb d_O_nextByAmount_25 rfl (lv_at hl 4 rfl) ?_
          refine ob_callR (W.runV (As := [.int bh]) (rest := []) ⟨hx, hb, hml, hown, hT⟩ (c_O_has l dC dI q cI cL own amt tag mad spt made bh hm) (cwV 1 hT (ob_goodV k_153 k_154 k_155 k_10 k_156) rfl rfl rfl (by decide +kernel) ⟨Nat.le_of_ble_eq_true rfl, Nat.le_of_ble_eq_true rfl⟩) (ob_preV (wc := wO q cI cL own amt tag mad spt made) (q0 := 0) rfl hK hP (fun _ h => absurd h List.not_mem_nil) rfl [0, 1, 2, 3, 4, 5] rfl rfl) rfl rfl hl.1 rfl (lv_room (Nat.le_of_ble_eq_true rfl)) d_O_nextByAmount_26 ⟨Nat.zero_le _, Nat.zero_le _⟩) ?_
          refine ob_split (P := p_has made bh) (fun b_26 => ?_) (fun b_26 => ?_)
          · refine lv_if_eq (tgt := 42) hx hb d_O_nextByAmount_29 (by decide) (fun c => absurd c (by decide)) (fun _ => ?_)
            refine lv_aload_n hx hb d_O_nextByAmount_32 rfl (lv_at hl 2 rfl) ?_
            refine lv_iload_n hx hb d_O_nextByAmount_33 rfl (lv_at hl 4 rfl) ?_
            refine lv_iload hx hb d_O_nextByAmount_34 (lv_at hl 0 rfl) ?_
            refine ob_callR (W.runV (As := [.int bh, .int (nI k)]) (rest := []) ⟨hx, hb, hml, hown, hT⟩ (c_O_standsAhead l dC dI q cI cL own amt tag mad spt made bh (nI k) (p_has_le b_26 hm) (p_has_nI (by omega) (by omega))) (cwV 2 hT (ob_goodV k_304 k_306 k_2 k_10 k_307) rfl rfl rfl (by decide +kernel) ⟨Nat.le_of_ble_eq_true rfl, Nat.le_of_ble_eq_true rfl⟩) (ob_preV (wc := wO q cI cL own amt tag mad spt made) (q0 := 0) rfl hK hP (fun _ h => absurd h List.not_mem_nil) rfl [0, 1, 2, 3, 4, 5] rfl rfl) rfl rfl hl.1 rfl (lv_room (Nat.le_of_ble_eq_true rfl)) d_O_nextByAmount_36 ⟨Nat.zero_le _, Nat.zero_le _⟩) ?_
            refine ob_split (P := p_ahead amt bh (nI k)) (fun b_36 => ?_) (fun b_36 => ?_)
            · refine lv_if_eq (tgt := 63) hx hb d_O_nextByAmount_39 (by decide) (fun c => absurd c (by decide)) (fun _ => ?_)
              refine lv_aload_n hx hb d_O_nextByAmount_42 rfl (lv_at hl 2 rfl) ?_
              refine lv_iload_n hx hb d_O_nextByAmount_43 rfl (lv_at hl 1 rfl) ?_
              refine ob_callR (W.runV (As := [.int best]) (rest := []) ⟨hx, hb, hml, hown, hT⟩ (c_O_has l dC dI q cI cL own amt tag mad spt made best hm) (cwV 1 hT (ob_goodV k_153 k_154 k_155 k_10 k_156) rfl rfl rfl (by decide +kernel) ⟨Nat.le_of_ble_eq_true rfl, Nat.le_of_ble_eq_true rfl⟩) (ob_preV (wc := wO q cI cL own amt tag mad spt made) (q0 := 0) rfl hK hP (fun _ h => absurd h List.not_mem_nil) rfl [0, 1, 2, 3, 4, 5] rfl rfl) rfl rfl hl.1 rfl (lv_room (Nat.le_of_ble_eq_true rfl)) d_O_nextByAmount_44 ⟨Nat.zero_le _, Nat.zero_le _⟩) ?_
              refine ob_split (P := p_has made best) (fun b_44 => ?_) (fun b_44 => ?_)
              · refine lv_if_eq (tgt := 60) hx hb d_O_nextByAmount_47 (by decide) (fun c => absurd c (by decide)) (fun _ => ?_)
                refine lv_aload_n hx hb d_O_nextByAmount_50 rfl (lv_at hl 2 rfl) ?_
                refine lv_iload hx hb d_O_nextByAmount_51 (lv_at hl 0 rfl) ?_
                refine lv_iload_n hx hb d_O_nextByAmount_53 rfl (lv_at hl 1 rfl) ?_
                refine ob_callR (W.runV (As := [.int (nI k), .int best]) (rest := []) ⟨hx, hb, hml, hown, hT⟩ (c_O_standsAhead l dC dI q cI cL own amt tag mad spt made (nI k) best (p_has_nI (by omega) (by omega)) (p_has_le b_44 hm)) (cwV 2 hT (ob_goodV k_304 k_306 k_2 k_10 k_307) rfl rfl rfl (by decide +kernel) ⟨Nat.le_of_ble_eq_true rfl, Nat.le_of_ble_eq_true rfl⟩) (ob_preV (wc := wO q cI cL own amt tag mad spt made) (q0 := 0) rfl hK hP (fun _ h => absurd h List.not_mem_nil) rfl [0, 1, 2, 3, 4, 5] rfl rfl) rfl rfl hl.1 rfl (lv_room (Nat.le_of_ble_eq_true rfl)) d_O_nextByAmount_54 ⟨Nat.zero_le _, Nat.zero_le _⟩) ?_
                refine ob_split (P := p_ahead amt (nI k) best) (fun b_54 => ?_) (fun b_54 => ?_)
                · refine lv_if_eq (tgt := 63) hx hb d_O_nextByAmount_57 (by decide) (fun c => absurd c (by decide)) (fun _ => ?_)
                  refine lv_iload hx hb d_O_nextByAmount_60 (lv_at hl 0 rfl) ?_
                  refine lv_istore_n (lv' := [(3, .int (nI k)), (4, .int (nI k)), (0, .ref (q 1)), (1, .int o), (2, .int bh)]) hx hb d_O_nextByAmount_62 rfl hl (by decide) rfl (fun ls hl => ?_)
                  refine lv_iinc (v := nI (k + 1)) (lv' := [(4, .int (nI (k + 1))), (3, .int (nI k)), (0, .ref (q 1)), (1, .int o), (2, .int bh)]) hx hb d_O_nextByAmount_63 hl (k := 1) rfl (nI_add k 1) (by decide) rfl (fun ls hl => ?_)
                  refine lv_goto (tgt := 5) hx hb d_O_nextByAmount_66 (by decide) ?_
                  exact ih_5 (k + 1) (nI k) _ (by omega) (by omega) (by first | exact f_next_t hbest ⟨b_18, Or.inl b_26, Or.inl b_44⟩ | exact f_next_t hbest ⟨b_18, Or.inr b_36, Or.inl b_44⟩ | exact f_next_t hbest ⟨b_18, Or.inl b_26, Or.inr b_54⟩ | exact f_next_t hbest ⟨b_18, Or.inr b_36, Or.inr b_54⟩ | exact f_next_f hbest (fun h => b_18 h.1) | exact f_next_f hbest (fun h => h.2.1.elim (fun z => z b_26) b_36) | exact f_next_f hbest (fun h => h.2.2.elim (fun z => z b_44) b_54)) (lv_sub hl [0, 1, 2, 3, 4] rfl)
                · refine lv_if_eq (tgt := 63) hx hb d_O_nextByAmount_57 (by decide) (fun _ => ?_) (fun c => absurd c (by decide))
                  refine lv_iinc (v := nI (k + 1)) (lv' := [(4, .int (nI (k + 1))), (3, .int best), (0, .ref (q 1)), (1, .int o), (2, .int bh)]) hx hb d_O_nextByAmount_63 hl (k := 0) rfl (nI_add k 1) (by decide) rfl (fun ls hl => ?_)
                  refine lv_goto (tgt := 5) hx hb d_O_nextByAmount_66 (by decide) ?_
                  exact ih_5 (k + 1) best _ (by omega) (by omega) (by first | exact f_next_t hbest ⟨b_18, Or.inl b_26, Or.inl b_44⟩ | exact f_next_t hbest ⟨b_18, Or.inr b_36, Or.inl b_44⟩ | exact f_next_t hbest ⟨b_18, Or.inl b_26, Or.inr b_54⟩ | exact f_next_t hbest ⟨b_18, Or.inr b_36, Or.inr b_54⟩ | exact f_next_f hbest (fun h => b_18 h.1) | exact f_next_f hbest (fun h => h.2.1.elim (fun z => z b_26) b_36) | exact f_next_f hbest (fun h => h.2.2.elim (fun z => z b_44) b_54)) (lv_sub hl [0, 1, 2, 3, 4] rfl)
              · refine lv_if_eq (tgt := 60) hx hb d_O_nextByAmount_47 (by decide) (fun _ => ?_) (fun c => absurd c (by decide))
                refine lv_iload hx hb d_O_nextByAmount_60 (lv_at hl 0 rfl) ?_
                refine lv_istore_n (lv' := [(3, .int (nI k)), (4, .int (nI k)), (0, .ref (q 1)), (1, .int o), (2, .int bh)]) hx hb d_O_nextByAmount_62 rfl hl (by decide) rfl (fun ls hl => ?_)
                refine lv_iinc (v := nI (k + 1)) (lv' := [(4, .int (nI (k + 1))), (3, .int (nI k)), (0, .ref (q 1)), (1, .int o), (2, .int bh)]) hx hb d_O_nextByAmount_63 hl (k := 1) rfl (nI_add k 1) (by decide) rfl (fun ls hl => ?_)
                refine lv_goto (tgt := 5) hx hb d_O_nextByAmount_66 (by decide) ?_
                exact ih_5 (k + 1) (nI k) _ (by omega) (by omega) (by first | exact f_next_t hbest ⟨b_18, Or.inl b_26, Or.inl b_44⟩ | exact f_next_t hbest ⟨b_18, Or.inr b_36, Or.inl b_44⟩ | exact f_next_t hbest ⟨b_18, Or.inl b_26, Or.inr b_54⟩ | exact f_next_t hbest ⟨b_18, Or.inr b_36, Or.inr b_54⟩ | exact f_next_f hbest (fun h => b_18 h.1) | exact f_next_f hbest (fun h => h.2.1.elim (fun z => z b_26) b_36) | exact f_next_f hbest (fun h => h.2.2.elim (fun z => z b_44) b_54)) (lv_sub hl [0, 1, 2, 3, 4] rfl)
            · refine lv_if_eq (tgt := 63) hx hb d_O_nextByAmount_39 (by decide) (fun _ => ?_) (fun c => absurd c (by decide))
              refine lv_iinc (v := nI (k + 1)) (lv' := [(4, .int (nI (k + 1))), (3, .int best), (0, .ref (q 1)), (1, .int o), (2, .int bh)]) hx hb d_O_nextByAmount_63 hl (k := 0) rfl (nI_add k 1) (by decide) rfl (fun ls hl => ?_)
              refine lv_goto (tgt := 5) hx hb d_O_nextByAmount_66 (by decide) ?_
              exact ih_5 (k + 1) best _ (by omega) (by omega) (by first | exact f_next_t hbest ⟨b_18, Or.inl b_26, Or.inl b_44⟩ | exact f_next_t hbest ⟨b_18, Or.inr b_36, Or.inl b_44⟩ | exact f_next_t hbest ⟨b_18, Or.inl b_26, Or.inr b_54⟩ | exact f_next_t hbest ⟨b_18, Or.inr b_36, Or.inr b_54⟩ | exact f_next_f hbest (fun h => b_18 h.1) | exact f_next_f hbest (fun h => h.2.1.elim (fun z => z b_26) b_36) | exact f_next_f hbest (fun h => h.2.2.elim (fun z => z b_44) b_54)) (lv_sub hl [0, 1, 2, 3, 4] rfl)
          · refine lv_if_eq (tgt := 42) hx hb d_O_nextByAmount_29 (by decide) (fun _ => ?_) (fun c => absurd c (by decide))
            refine lv_aload_n hx hb d_O_nextByAmount_42 rfl (lv_at hl 2 rfl) ?_
            refine lv_iload_n hx hb d_O_nextByAmount_43 rfl (lv_at hl 1 rfl) ?_
            refine ob_callR (W.runV (As := [.int best]) (rest := []) ⟨hx, hb, hml, hown, hT⟩ (c_O_has l dC dI q cI cL own amt tag mad spt made best hm) (cwV 1 hT (ob_goodV k_153 k_154 k_155 k_10 k_156) rfl rfl rfl (by decide +kernel) ⟨Nat.le_of_ble_eq_true rfl, Nat.le_of_ble_eq_true rfl⟩) (ob_preV (wc := wO q cI cL own amt tag mad spt made) (q0 := 0) rfl hK hP (fun _ h => absurd h List.not_mem_nil) rfl [0, 1, 2, 3, 4, 5] rfl rfl) rfl rfl hl.1 rfl (lv_room (Nat.le_of_ble_eq_true rfl)) d_O_nextByAmount_44 ⟨Nat.zero_le _, Nat.zero_le _⟩) ?_
            refine ob_split (P := p_has made best) (fun b_44 => ?_) (fun b_44 => ?_)
            · refine lv_if_eq (tgt := 60) hx hb d_O_nextByAmount_47 (by decide) (fun c => absurd c (by decide)) (fun _ => ?_)
              refine lv_aload_n hx hb d_O_nextByAmount_50 rfl (lv_at hl 2 rfl) ?_
              refine lv_iload hx hb d_O_nextByAmount_51 (lv_at hl 0 rfl) ?_
              refine lv_iload_n hx hb d_O_nextByAmount_53 rfl (lv_at hl 1 rfl) ?_
              refine ob_callR (W.runV (As := [.int (nI k), .int best]) (rest := []) ⟨hx, hb, hml, hown, hT⟩ (c_O_standsAhead l dC dI q cI cL own amt tag mad spt made (nI k) best (p_has_nI (by omega) (by omega)) (p_has_le b_44 hm)) (cwV 2 hT (ob_goodV k_304 k_306 k_2 k_10 k_307) rfl rfl rfl (by decide +kernel) ⟨Nat.le_of_ble_eq_true rfl, Nat.le_of_ble_eq_true rfl⟩) (ob_preV (wc := wO q cI cL own amt tag mad spt made) (q0 := 0) rfl hK hP (fun _ h => absurd h List.not_mem_nil) rfl [0, 1, 2, 3, 4, 5] rfl rfl) rfl rfl hl.1 rfl (lv_room (Nat.le_of_ble_eq_true rfl)) d_O_nextByAmount_54 ⟨Nat.zero_le _, Nat.zero_le _⟩) ?_
              refine ob_split (P := p_ahead amt (nI k) best) (fun b_54 => ?_) (fun b_54 => ?_)
              · refine lv_if_eq (tgt := 63) hx hb d_O_nextByAmount_57 (by decide) (fun c => absurd c (by decide)) (fun _ => ?_)
                refine lv_iload hx hb d_O_nextByAmount_60 (lv_at hl 0 rfl) ?_
                refine lv_istore_n (lv' := [(3, .int (nI k)), (4, .int (nI k)), (0, .ref (q 1)), (1, .int o), (2, .int bh)]) hx hb d_O_nextByAmount_62 rfl hl (by decide) rfl (fun ls hl => ?_)
                refine lv_iinc (v := nI (k + 1)) (lv' := [(4, .int (nI (k + 1))), (3, .int (nI k)), (0, .ref (q 1)), (1, .int o), (2, .int bh)]) hx hb d_O_nextByAmount_63 hl (k := 1) rfl (nI_add k 1) (by decide) rfl (fun ls hl => ?_)
                refine lv_goto (tgt := 5) hx hb d_O_nextByAmount_66 (by decide) ?_
                exact ih_5 (k + 1) (nI k) _ (by omega) (by omega) (by first | exact f_next_t hbest ⟨b_18, Or.inl b_26, Or.inl b_44⟩ | exact f_next_t hbest ⟨b_18, Or.inr b_36, Or.inl b_44⟩ | exact f_next_t hbest ⟨b_18, Or.inl b_26, Or.inr b_54⟩ | exact f_next_t hbest ⟨b_18, Or.inr b_36, Or.inr b_54⟩ | exact f_next_f hbest (fun h => b_18 h.1) | exact f_next_f hbest (fun h => h.2.1.elim (fun z => z b_26) b_36) | exact f_next_f hbest (fun h => h.2.2.elim (fun z => z b_44) b_54)) (lv_sub hl [0, 1, 2, 3, 4] rfl)
              · refine lv_if_eq (tgt := 63) hx hb d_O_nextByAmount_57 (by decide) (fun _ => ?_) (fun c => absurd c (by decide))
                refine lv_iinc (v := nI (k + 1)) (lv' := [(4, .int (nI (k + 1))), (3, .int best), (0, .ref (q 1)), (1, .int o), (2, .int bh)]) hx hb d_O_nextByAmount_63 hl (k := 0) rfl (nI_add k 1) (by decide) rfl (fun ls hl => ?_)
                refine lv_goto (tgt := 5) hx hb d_O_nextByAmount_66 (by decide) ?_
                exact ih_5 (k + 1) best _ (by omega) (by omega) (by first | exact f_next_t hbest ⟨b_18, Or.inl b_26, Or.inl b_44⟩ | exact f_next_t hbest ⟨b_18, Or.inr b_36, Or.inl b_44⟩ | exact f_next_t hbest ⟨b_18, Or.inl b_26, Or.inr b_54⟩ | exact f_next_t hbest ⟨b_18, Or.inr b_36, Or.inr b_54⟩ | exact f_next_f hbest (fun h => b_18 h.1) | exact f_next_f hbest (fun h => h.2.1.elim (fun z => z b_26) b_36) | exact f_next_f hbest (fun h => h.2.2.elim (fun z => z b_44) b_54)) (lv_sub hl [0, 1, 2, 3, 4] rfl)
            · refine lv_if_eq (tgt := 60) hx hb d_O_nextByAmount_47 (by decide) (fun _ => ?_) (fun c => absurd c (by decide))
              refine lv_iload hx hb d_O_nextByAmount_60 (lv_at hl 0 rfl) ?_
              refine lv_istore_n (lv' := [(3, .int (nI k)), (4, .int (nI k)), (0, .ref (q 1)), (1, .int o), (2, .int bh)]) hx hb d_O_nextByAmount_62 rfl hl (by decide) rfl (fun ls hl => ?_)
              refine lv_iinc (v := nI (k + 1)) (lv' := [(4, .int (nI (k + 1))), (3, .int (nI k)), (0, .ref (q 1)), (1, .int o), (2, .int bh)]) hx hb d_O_nextByAmount_63 hl (k := 1) rfl (nI_add k 1) (by decide) rfl (fun ls hl => ?_)
              refine lv_goto (tgt := 5) hx hb d_O_nextByAmount_66 (by decide) ?_
              exact ih_5 (k + 1) (nI k) _ (by omega) (by omega) (by first | exact f_next_t hbest ⟨b_18, Or.inl b_26, Or.inl b_44⟩ | exact f_next_t hbest ⟨b_18, Or.inr b_36, Or.inl b_44⟩ | exact f_next_t hbest ⟨b_18, Or.inl b_26, Or.inr b_54⟩ | exact f_next_t hbest ⟨b_18, Or.inr b_36, Or.inr b_54⟩ | exact f_next_f hbest (fun h => b_18 h.1) | exact f_next_f hbest (fun h => h.2.1.elim (fun z => z b_26) b_36) | exact f_next_f hbest (fun h => h.2.2.elim (fun z => z b_44) b_54)) (lv_sub hl [0, 1, 2, 3, 4] rfl)
        · refine lv_if_eq (tgt := 63) hx hb d_O_nextByAmount_21 (by decide) (fun _ => ?_) (fun c => absurd c (by decide))
          refine lv_iinc (v := nI (k + 1)) (lv' := [(4, .int (nI (k + 1))), (3, .int best), (0, .ref (q 1)), (1, .int o), (2, .int bh)]) hx hb d_O_nextByAmount_63 hl (k := 0) rfl (nI_add k 1) (by decide) rfl (fun ls hl => ?_)
          refine lv_goto (tgt := 5) hx hb d_O_nextByAmount_66 (by decide) ?_
          exact ih_5 (k + 1) best _ (by omega) (by omega) (by first | exact f_next_t hbest ⟨b_18, Or.inl b_26, Or.inl b_44⟩ | exact f_next_t hbest ⟨b_18, Or.inr b_36, Or.inl b_44⟩ | exact f_next_t hbest ⟨b_18, Or.inl b_26, Or.inr b_54⟩ | exact f_next_t hbest ⟨b_18, Or.inr b_36, Or.inr b_54⟩ | exact f_next_f hbest (fun h => b_18 h.1) | exact f_next_f hbest (fun h => h.2.1.elim (fun z => z b_26) b_36) | exact f_next_f hbest (fun h => h.2.2.elim (fun z => z b_44) b_54)) (lv_sub hl [0, 1, 2, 3, 4] rfl)
  exact key_5 _ 0 (-1) _ (Nat.lt_succ_self _) (Nat.zero_le _) rfl (lv_sub hl [0, 1, 2, 3, 4] rfl)
end
section
abbrev rm_D_roomToSpend : Room := { frames := 0, cells := 0, slots := 0, locals := 0 }
set_option maxHeartbeats 4000000 in
set_option maxRecDepth 100000 in
theorem c_D_roomToSpend (l : Launch) (dC : Nat → ClassId) (dI : Nat → Nat → Nat) (q : Nat → Nat) (cI cL : ClassId) (dsp : Nat → Int32) (dow : Nat → Int32) (dam : Nat → Int64) (dtg : Nat → Int64) (sp : Nat) (mk : Nat) (mint : Int64)  (hsp : sp ≤ 16) : Met l y_D_roomToSpend w_D_roomToSpend rm_D_roomToSpend (va_Pc [.ref (q 7)] (ob_B (dC, dI) vwCl (wD q cI cL dsp dow dam dtg sp mk mint) [(cI, .int), (cL, .long)] [])) (QcRead (nI (16 - sp))) 0 0 (fun _ => False) := by
  refine ob_ofW (cc := b_D_roomToSpend) (maxL := 1) (ret := (some .int)) (own := R_D) (by decide) rfl rfl (Nat.le_of_ble_eq_true rfl) ?_
  intro p e s m args below meth c Q hQ hx hb hr hml hT hown hlocks hv ls hl
  obtain ⟨hP, hK, hN⟩ := hv
  have hl : lv_has ls 1 [(0, .ref (q 7))] := hl
  refine lv_bipush (v := nI 16) hx hb d_D_roomToSpend_0 (by decide) ?_
  refine lv_aload_n hx hb d_D_roomToSpend_2 rfl (lv_at hl 0 rfl) ?_
  refine va_get (D := (dC, dI)) (ci := 1) (v := .int (nI sp)) (C := R_D) (T := T_D) (N := 7) hx hb hT in_D hown hK hP 0 rfl rfl 4 (by decide) (hT _ k_69) (fun _ h9 => h9) rfl d_D_roomToSpend_3 ?_
  refine lv_isub hx hb d_D_roomToSpend_6 ?_
  refine ob_eqi (pk_sub (a := 16) (b := sp) (by omega)) ?_
  exact ob_iret (v := nI (16 - sp)) hx hb hr hlocks hQ rfl d_D_roomToSpend_7
abbrev rm_D_roomToMake : Room := { frames := 0, cells := 0, slots := 0, locals := 0 }
set_option maxHeartbeats 4000000 in
set_option maxRecDepth 100000 in
theorem c_D_roomToMake (l : Launch) (dC : Nat → ClassId) (dI : Nat → Nat → Nat) (q : Nat → Nat) (cI cL : ClassId) (dsp : Nat → Int32) (dow : Nat → Int32) (dam : Nat → Int64) (dtg : Nat → Int64) (sp : Nat) (mk : Nat) (mint : Int64)  (hmk : mk ≤ 16) : Met l y_D_roomToMake w_D_roomToMake rm_D_roomToMake (va_Pc [.ref (q 7)] (ob_B (dC, dI) vwCl (wD q cI cL dsp dow dam dtg sp mk mint) [(cI, .int), (cL, .long)] [])) (QcRead (nI (16 - mk))) 0 0 (fun _ => False) := by
  refine ob_ofW (cc := b_D_roomToMake) (maxL := 1) (ret := (some .int)) (own := R_D) (by decide) rfl rfl (Nat.le_of_ble_eq_true rfl) ?_
  intro p e s m args below meth c Q hQ hx hb hr hml hT hown hlocks hv ls hl
  obtain ⟨hP, hK, hN⟩ := hv
  have hl : lv_has ls 1 [(0, .ref (q 7))] := hl
  refine lv_bipush (v := nI 16) hx hb d_D_roomToMake_0 (by decide) ?_
  refine lv_aload_n hx hb d_D_roomToMake_2 rfl (lv_at hl 0 rfl) ?_
  refine va_get (D := (dC, dI)) (ci := 1) (v := .int (nI mk)) (C := R_D) (T := T_D) (N := 7) hx hb hT in_D hown hK hP 0 rfl rfl 5 (by decide) (hT _ k_71) (fun _ h9 => h9) rfl d_D_roomToMake_3 ?_
  refine lv_isub hx hb d_D_roomToMake_6 ?_
  refine ob_eqi (pk_sub (a := 16) (b := mk) (by omega)) ?_
  exact ob_iret (v := nI (16 - mk)) hx hb hr hlocks hQ rfl d_D_roomToMake_7
abbrev rm_D_hasToSpend : Room := { frames := 0, cells := 0, slots := 0, locals := 0 }
set_option maxHeartbeats 4000000 in
set_option maxRecDepth 100000 in
theorem c_D_hasToSpend (l : Launch) (dC : Nat → ClassId) (dI : Nat → Nat → Nat) (q : Nat → Nat) (cI cL : ClassId) (dsp : Nat → Int32) (dow : Nat → Int32) (dam : Nat → Int64) (dtg : Nat → Int64) (sp : Nat) (mk : Nat) (mint : Int64) (x : Int32) (hsp : sp ≤ 16) : Met l y_D_hasToSpend w_D_hasToSpend rm_D_hasToSpend (va_Pc [.ref (q 7), .int x] (ob_B (dC, dI) vwCl (wD q cI cL dsp dow dam dtg sp mk mint) [(cI, .int), (cL, .long)] [])) (QcRead (if f_any (fun j => decide (dsp j = x)) sp = true then nI 1 else nI 0)) 0 0 (fun _ => False) := by
  refine ob_ofW (cc := b_D_hasToSpend) (maxL := 3) (ret := (some .boolean)) (own := R_D) (by decide) rfl rfl (Nat.le_of_ble_eq_true rfl) ?_
  intro p e s m args below meth c Q hQ hx hb hr hml hT hown hlocks hv ls hl
  obtain ⟨hP, hK, hN⟩ := hv
  have hl : lv_has ls 3 [(0, .ref (q 7)), (1, .int x)] := hl
  refine lv_iconst (v := nI 0) hx hb d_D_hasToSpend_0 (by decide) ?_
  refine lv_istore_n (lv' := [(2, .int (nI 0)), (0, .ref (q 7)), (1, .int x)]) hx hb d_D_hasToSpend_1 rfl hl (by decide) rfl (fun ls hl => ?_)
  have key_2 : ∀ (n : Nat) (k : Nat) (ls : Array Slot), sp - k < n → (k ≤ sp) → (¬ f_any (fun j => decide (dsp j = x)) k = true) → lv_has ls 3 [(2, .int (nI k)), (0, .ref (q 7)), (1, .int x)] → W p l e rm_D_hasToSpend s m args below meth c s.heap [] 0 0 Q (F0 m 2 ls []) := by
    intro n_2
    induction n_2 with
    | zero => intro k ls h; exact absurd h (Nat.not_lt_zero _)
    | succ n_2 ih_2 =>
      intro k ls hn_2 hk hno hl
      refine lv_iload_n hx hb d_D_hasToSpend_2 rfl (lv_at hl 0 rfl) ?_
      refine lv_aload_n hx hb d_D_hasToSpend_3 rfl (lv_at hl 1 rfl) ?_
      refine va_get (D := (dC, dI)) (ci := 1) (v := .int (nI sp)) (C := R_D) (T := T_D) (N := 7) hx hb hT in_D hown hK hP 0 rfl rfl 4 (by decide) (hT _ k_69) (fun _ h9 => h9) rfl d_D_hasToSpend_4 ?_
      refine lv_icmp_ge (tgt := 28) hx hb d_D_hasToSpend_7 (by decide) (fun c_7 => ?_) (fun c_7 => ?_)
      · have t_7 := (cv_le (nI_toInt (by omega)) (nI_toInt (by omega))).mp c_7
        refine lv_iconst (v := nI 0) hx hb d_D_hasToSpend_28 (by decide) ?_
        exact ob_zret (v := nI 0) hx hb hr hlocks hQ (by decide) (if_neg (by rw [show sp = k by omega]; exact hno)).symm d_D_hasToSpend_29
      · have t_7 := mt (cv_le (nI_toInt (by omega)) (nI_toInt (by omega))).mpr c_7
        refine lv_aload_n hx hb d_D_hasToSpend_10 rfl (lv_at hl 1 rfl) ?_
        refine va_get (D := (dC, dI)) (ci := 1) (v := .ref (q 8)) (C := R_D) (T := T_D) (N := 7) hx hb hT in_D hown hK hP 0 rfl rfl 0 (by decide) (hT _ k_61) (fun _ h9 => h9) rfl d_D_hasToSpend_11 ?_
        refine lv_iload_n hx hb d_D_hasToSpend_14 rfl (lv_at hl 0 rfl) ?_
        refine ob_iald hx hb hK hP 1 0 rfl rfl (j := k) (nI_clamp (by omega)) (cv_in (nI_toInt (by omega)) (by omega)) d_D_hasToSpend_15 ?_
        refine lv_iload_n hx hb d_D_hasToSpend_16 rfl (lv_at hl 2 rfl) ?_
        refine lv_icmp_ne (tgt := 22) hx hb d_D_hasToSpend_17 (by decide) (fun c_17 => ?_) (fun c_17 => ?_)
        · have t_17 := mt (cv_eq rfl rfl).mpr c_17
          refine lv_iinc (v := nI (k + 1)) (lv' := [(2, .int (nI (k + 1))), (0, .ref (q 7)), (1, .int x)]) hx hb d_D_hasToSpend_22 hl (k := 0) rfl (nI_add k 1) (by decide) rfl (fun ls hl => ?_)
          refine lv_goto (tgt := 2) hx hb d_D_hasToSpend_25 (by decide) ?_
          exact ih_2 (k + 1) _ (by omega) (by omega) (by rw [f_any, Bool.or_eq_true]; exact fun h => h.elim hno (fun z => c_17 (by simpa using z))) (lv_sub hl [0, 1, 2] rfl)
        · have t_17 := (cv_eq rfl rfl).mp c_17
          refine lv_iconst (v := nI 1) hx hb d_D_hasToSpend_20 (by decide) ?_
          exact ob_zret (v := nI 1) hx hb hr hlocks hQ (by decide) (if_pos ((f_any_iff _ _).mpr ⟨k, by omega, by simpa using c_17⟩)).symm d_D_hasToSpend_21
  exact key_2 _ 0 _ (Nat.lt_succ_self _) (Nat.zero_le _) (by simp [f_any]) (lv_sub hl [0, 1, 2] rfl)
abbrev rm_D_writeToSpend : Room := { frames := 1, cells := 0, slots := 0, locals := 20 }
set_option maxHeartbeats 4000000 in
set_option maxRecDepth 100000 in
theorem c_D_writeToSpend (l : Launch) (dC : Nat → ClassId) (dI : Nat → Nat → Nat) (q : Nat → Nat) (cI cL : ClassId) (dsp : Nat → Int32) (dow : Nat → Int32) (dam : Nat → Int64) (dtg : Nat → Int64) (sp : Nat) (mk : Nat) (mint : Int64) (i : Nat) (x : Int32) (hlt : sp + i < 16) : Met l y_D_writeToSpend w_D_writeToSpend rm_D_writeToSpend (va_Pc [.ref (q 7), .int (nI i), .int x] (ob_BW (dC, dI) vwCl (wD q cI cL dsp dow dam dtg sp mk mint) [(cI, .int), (cL, .long)] [])) (va_Qv (fun (_ : Unit) => True) (fun _ t => va_P (dC, dI) vwCl (wD q cI cL (upd dsp (sp + i) x) dow dam dtg sp mk mint) t.heap) (ob_A (wD q cI cL dsp dow dam dtg sp mk mint))) 0 0 (ob_A (wD q cI cL dsp dow dam dtg sp mk mint)) := by
  refine ob_ofW (cc := b_D_writeToSpend) (maxL := 3) (ret := none) (own := R_D) (by decide) rfl rfl (Nat.le_of_ble_eq_true rfl) ?_
  intro p e s m args below meth c Q hQ hx hb hr hml hT hown hlocks hv ls hl
  obtain ⟨⟨hP, hK, hN⟩, hD0⟩ := hv
  have hD := ob_D_self hD0
  generalize hAe : ob_A (wD q cI cL dsp dow dam dtg sp mk mint) = A at hQ hD
  have hS : va_S A s.heap s.heap [] := va_S.rf
  have hl : lv_has ls 3 [(0, .ref (q 7)), (1, .int (nI i)), (2, .int x)] := hl
  refine lv_iload_n hx hb d_D_writeToSpend_0 rfl (lv_at hl 1 rfl) ?_
  refine lv_if_lt (tgt := 24) hx hb d_D_writeToSpend_1 (by decide) (fun c_1 => ?_) (fun c_1 => ?_)
  · have t_1 := (cv_lt (nI_toInt (by omega)) (by decide : (0 : Int32).toInt = 0)).mp c_1
    exact absurd t_1 (by omega)
  · have t_1 := mt (cv_lt (nI_toInt (by omega)) (by decide : (0 : Int32).toInt = 0)).mpr c_1
    refine lv_iload_n hx hb d_D_writeToSpend_4 rfl (lv_at hl 1 rfl) ?_
    refine lv_aload_n hx hb d_D_writeToSpend_5 rfl (lv_at hl 0 rfl) ?_
    refine ob_callR (W.runV (As := []) (rest := [.int (nI i)]) ⟨hx, hb, hml, hown, hT⟩ (c_D_roomToSpend l dC dI q cI cL dsp dow dam dtg sp mk mint (by omega)) (cwV 0 hT (ob_goodV k_169 k_162 k_163 k_11 k_164) rfl rfl rfl (by decide +kernel) ⟨Nat.le_of_ble_eq_true rfl, Nat.le_of_ble_eq_true rfl⟩) (ob_preV (wc := wD q cI cL dsp dow dam dtg sp mk mint) (q0 := 0) rfl hK hP (fun _ h => absurd h List.not_mem_nil) rfl [0, 1, 2, 3, 4] rfl rfl) rfl rfl hl.1 rfl (lv_room (Nat.le_of_ble_eq_true rfl)) d_D_writeToSpend_6 ⟨Nat.zero_le _, Nat.zero_le _⟩) ?_
    refine lv_icmp_ge (tgt := 24) hx hb d_D_writeToSpend_9 (by decide) (fun c_9 => ?_) (fun c_9 => ?_)
    · have t_9 := (cv_le (nI_toInt (by omega)) (nI_toInt (by omega))).mp c_9
      exact absurd t_9 (by omega)
    · have t_9 := mt (cv_le (nI_toInt (by omega)) (nI_toInt (by omega))).mpr c_9
      refine lv_aload_n hx hb d_D_writeToSpend_12 rfl (lv_at hl 0 rfl) ?_
      refine va_get (D := (dC, dI)) (ci := 1) (v := .ref (q 8)) (C := R_D) (T := T_D) (N := 7) hx hb hT in_D hown hK hP 0 rfl rfl 0 (by decide) (hT _ k_61) (fun _ h9 => h9) rfl d_D_writeToSpend_13 ?_
      refine lv_aload_n hx hb d_D_writeToSpend_16 rfl (lv_at hl 0 rfl) ?_
      refine va_get (D := (dC, dI)) (ci := 1) (v := .int (nI sp)) (C := R_D) (T := T_D) (N := 7) hx hb hT in_D hown hK hP 0 rfl rfl 4 (by decide) (hT _ k_69) (fun _ h9 => h9) rfl d_D_writeToSpend_17 ?_
      refine lv_iload_n hx hb d_D_writeToSpend_20 rfl (lv_at hl 1 rfl) ?_
      refine lv_iadd hx hb d_D_writeToSpend_21 ?_
      refine ob_eqi (nI_add sp i) ?_
      refine lv_iload_n hx hb d_D_writeToSpend_22 rfl (lv_at hl 2 rfl) ?_
      refine ob_iast hx hb hK hP hD hS 1 0 rfl rfl (j := sp + i) (nI_clamp (by omega)) (cv_in (nI_toInt (by omega)) (by omega)) d_D_writeToSpend_23 (fun H locs hP hD hS => ?_)
      have hP : va_P (dC, dI) vwCl (wD q cI cL (upd dsp (sp + i) x) dow dam dtg sp mk mint) H := hP
      have hD : va_D A (wD q cI cL (upd dsp (sp + i) x) dow dam dtg sp mk mint) := hD
      exact ob_vretW hx hb hr hlocks hQ hS hP rfl d_D_writeToSpend_24
abbrev rm_D_keepToSpend : Room := { frames := 1, cells := 0, slots := 0, locals := 20 }
set_option maxHeartbeats 4000000 in
set_option maxRecDepth 100000 in
theorem c_D_keepToSpend (l : Launch) (dC : Nat → ClassId) (dI : Nat → Nat → Nat) (q : Nat → Nat) (cI cL : ClassId) (dsp : Nat → Int32) (dow : Nat → Int32) (dam : Nat → Int64) (dtg : Nat → Int64) (sp : Nat) (mk : Nat) (mint : Int64) (i : Nat) (hle : sp + i ≤ 16) : Met l y_D_keepToSpend w_D_keepToSpend rm_D_keepToSpend (va_Pc [.ref (q 7), .int (nI i)] (ob_BW (dC, dI) vwCl (wD q cI cL dsp dow dam dtg sp mk mint) [(cI, .int), (cL, .long)] [])) (va_Qv (fun (_ : Unit) => True) (fun _ t => va_P (dC, dI) vwCl (wD q cI cL dsp dow dam dtg (sp + i) mk mint) t.heap) (ob_A (wD q cI cL dsp dow dam dtg sp mk mint))) 0 0 (ob_A (wD q cI cL dsp dow dam dtg sp mk mint)) := by
  refine ob_ofW (cc := b_D_keepToSpend) (maxL := 2) (ret := none) (own := R_D) (by decide) rfl rfl (Nat.le_of_ble_eq_true rfl) ?_
  intro p e s m args below meth c Q hQ hx hb hr hml hT hown hlocks hv ls hl
  obtain ⟨⟨hP, hK, hN⟩, hD0⟩ := hv
  have hD := ob_D_self hD0
  generalize hAe : ob_A (wD q cI cL dsp dow dam dtg sp mk mint) = A at hQ hD
  have hS : va_S A s.heap s.heap [] := va_S.rf
  have hl : lv_has ls 2 [(0, .ref (q 7)), (1, .int (nI i))] := hl
  refine lv_iload_n hx hb d_D_keepToSpend_0 rfl (lv_at hl 1 rfl) ?_
  refine lv_if_lt (tgt := 22) hx hb d_D_keepToSpend_1 (by decide) (fun c_1 => ?_) (fun c_1 => ?_)
  · have t_1 := (cv_lt (nI_toInt (by omega)) (by decide : (0 : Int32).toInt = 0)).mp c_1
    exact absurd t_1 (by omega)
  · have t_1 := mt (cv_lt (nI_toInt (by omega)) (by decide : (0 : Int32).toInt = 0)).mpr c_1
    refine lv_iload_n hx hb d_D_keepToSpend_4 rfl (lv_at hl 1 rfl) ?_
    refine lv_aload_n hx hb d_D_keepToSpend_5 rfl (lv_at hl 0 rfl) ?_
    refine ob_callR (W.runV (As := []) (rest := [.int (nI i)]) ⟨hx, hb, hml, hown, hT⟩ (c_D_roomToSpend l dC dI q cI cL dsp dow dam dtg sp mk mint (by omega)) (cwV 0 hT (ob_goodV k_169 k_162 k_163 k_11 k_164) rfl rfl rfl (by decide +kernel) ⟨Nat.le_of_ble_eq_true rfl, Nat.le_of_ble_eq_true rfl⟩) (ob_preV (wc := wD q cI cL dsp dow dam dtg sp mk mint) (q0 := 0) rfl hK hP (fun _ h => absurd h List.not_mem_nil) rfl [0, 1, 2, 3, 4] rfl rfl) rfl rfl hl.1 rfl (lv_room (Nat.le_of_ble_eq_true rfl)) d_D_keepToSpend_6 ⟨Nat.zero_le _, Nat.zero_le _⟩) ?_
    refine lv_icmp_gt (tgt := 22) hx hb d_D_keepToSpend_9 (by decide) (fun c_9 => ?_) (fun c_9 => ?_)
    · have t_9 := (cv_lt (nI_toInt (by omega)) (nI_toInt (by omega))).mp c_9
      exact absurd t_9 (by omega)
    · have t_9 := mt (cv_lt (nI_toInt (by omega)) (nI_toInt (by omega))).mpr c_9
      refine lv_aload_n hx hb d_D_keepToSpend_12 rfl (lv_at hl 0 rfl) ?_
      refine lv_dup hx hb d_D_keepToSpend_13 rfl ?_
      refine va_get (D := (dC, dI)) (ci := 1) (v := .int (nI sp)) (C := R_D) (T := T_D) (N := 7) hx hb hT in_D hown hK hP 0 rfl rfl 4 (by decide) (hT _ k_69) (fun _ h9 => h9) rfl d_D_keepToSpend_14 ?_
      refine lv_iload_n hx hb d_D_keepToSpend_17 rfl (lv_at hl 1 rfl) ?_
      refine lv_iadd hx hb d_D_keepToSpend_18 ?_
      refine ob_eqi (nI_add sp i) ?_
      refine va_put (D := (dC, dI)) (ci := 1) (v := .int (nI (sp + i))) (ty := .int) (C := R_D) (T := T_D) (N := 7) hx hb hT in_D t_D t_D_ok n_D hown hK hP hD hS 0 rfl rfl 4 (by decide) (hT _ k_69) (fun _ h9 => h9) rfl (by decide +kernel) rfl rfl (Nat.le_of_ble_eq_true rfl) d_D_keepToSpend_19 (fun H locs hP hD hS => ?_)
      have hP : va_P (dC, dI) vwCl (wD q cI cL dsp dow dam dtg (sp + i) mk mint) H := hP
      have hD : va_D A (wD q cI cL dsp dow dam dtg (sp + i) mk mint) := hD
      exact ob_vretW hx hb hr hlocks hQ hS hP rfl d_D_keepToSpend_22
abbrev rm_D_addToMake : Room := { frames := 1, cells := 0, slots := 0, locals := 20 }
set_option maxHeartbeats 4000000 in
set_option maxRecDepth 100000 in
theorem c_D_addToMake (l : Launch) (dC : Nat → ClassId) (dI : Nat → Nat → Nat) (q : Nat → Nat) (cI cL : ClassId) (dsp : Nat → Int32) (dow : Nat → Int32) (dam : Nat → Int64) (dtg : Nat → Int64) (sp : Nat) (mk : Nat) (mint : Int64) (o : Int32) (a : Int64) (g : Int64) (hlt : mk < 16) : Met l y_D_addToMake w_D_addToMake rm_D_addToMake (va_Pc [.ref (q 7), .int o, .long a, .long g] (ob_BW (dC, dI) vwCl (wD q cI cL dsp dow dam dtg sp mk mint) [(cI, .int), (cL, .long)] [])) (va_Qv (fun (_ : Unit) => True) (fun _ t => va_P (dC, dI) vwCl (wD q cI cL dsp (upd dow mk o) (vp_updL dam mk a) (vp_updL dtg mk g) sp (mk + 1) mint) t.heap) (ob_A (wD q cI cL dsp dow dam dtg sp mk mint))) 0 0 (ob_A (wD q cI cL dsp dow dam dtg sp mk mint)) := by
  refine ob_ofW (cc := b_D_addToMake) (maxL := 6) (ret := none) (own := R_D) (by decide) rfl rfl (Nat.le_of_ble_eq_true rfl) ?_
  intro p e s m args below meth c Q hQ hx hb hr hml hT hown hlocks hv ls hl
  obtain ⟨⟨hP, hK, hN⟩, hD0⟩ := hv
  have hD := ob_D_self hD0
  generalize hAe : ob_A (wD q cI cL dsp dow dam dtg sp mk mint) = A at hQ hD
  have hS : va_S A s.heap s.heap [] := va_S.rf
  have hl : lv_has ls 6 [(0, .ref (q 7)), (1, .int o), (2, .long a), (4, .long g)] := hl
  refine lv_aload_n hx hb d_D_addToMake_0 rfl (lv_at hl 0 rfl) ?_
  refine ob_callR (W.runV (As := []) (rest := []) ⟨hx, hb, hml, hown, hT⟩ (c_D_roomToMake l dC dI q cI cL dsp dow dam dtg sp mk mint (by omega)) (cwV 0 hT (ob_goodV k_186 k_179 k_180 k_11 k_181) rfl rfl rfl (by decide +kernel) ⟨Nat.le_of_ble_eq_true rfl, Nat.le_of_ble_eq_true rfl⟩) (ob_preV (wc := wD q cI cL dsp dow dam dtg sp mk mint) (q0 := 0) rfl hK hP (fun _ h => absurd h List.not_mem_nil) rfl [0, 1, 2, 3, 4] rfl rfl) rfl rfl hl.1 rfl (lv_room (Nat.le_of_ble_eq_true rfl)) d_D_addToMake_1 ⟨Nat.zero_le _, Nat.zero_le _⟩) ?_
  refine lv_iconst (v := nI 1) hx hb d_D_addToMake_4 (by decide) ?_
  refine lv_icmp_ge (tgt := 9) hx hb d_D_addToMake_5 (by decide) (fun c_5 => ?_) (fun c_5 => ?_)
  · have t_5 := (cv_le (nI_toInt (by omega)) (nI_toInt (by omega))).mp c_5
    refine lv_aload_n hx hb d_D_addToMake_9 rfl (lv_at hl 0 rfl) ?_
    refine va_get (D := (dC, dI)) (ci := 1) (v := .ref (q 9)) (C := R_D) (T := T_D) (N := 7) hx hb hT in_D hown hK hP 0 rfl rfl 1 (by decide) (hT _ k_63) (fun _ h9 => h9) rfl d_D_addToMake_10 ?_
    refine lv_aload_n hx hb d_D_addToMake_13 rfl (lv_at hl 0 rfl) ?_
    refine va_get (D := (dC, dI)) (ci := 1) (v := .int (nI mk)) (C := R_D) (T := T_D) (N := 7) hx hb hT in_D hown hK hP 0 rfl rfl 5 (by decide) (hT _ k_71) (fun _ h9 => h9) rfl d_D_addToMake_14 ?_
    refine lv_iload_n hx hb d_D_addToMake_17 rfl (lv_at hl 1 rfl) ?_
    refine ob_iast hx hb hK hP hD hS 2 0 rfl rfl (j := mk) (nI_clamp (by omega)) (cv_in (nI_toInt (by omega)) (by omega)) d_D_addToMake_18 (fun H locs hP hD hS => ?_)
    have hP : va_P (dC, dI) vwCl (wD q cI cL dsp (upd dow mk o) dam dtg sp mk mint) H := hP
    have hD : va_D A (wD q cI cL dsp (upd dow mk o) dam dtg sp mk mint) := hD
    refine lv_aload_n hx hb d_D_addToMake_19 rfl (lv_at hl 0 rfl) ?_
    refine va_get (D := (dC, dI)) (ci := 1) (v := .ref (q 10)) (C := R_D) (T := T_D) (N := 7) hx hb hT in_D hown hK hP 0 rfl rfl 2 (by decide) (hT _ k_65) (fun _ h9 => h9) rfl d_D_addToMake_20 ?_
    refine lv_aload_n hx hb d_D_addToMake_23 rfl (lv_at hl 0 rfl) ?_
    refine va_get (D := (dC, dI)) (ci := 1) (v := .int (nI mk)) (C := R_D) (T := T_D) (N := 7) hx hb hT in_D hown hK hP 0 rfl rfl 5 (by decide) (hT _ k_71) (fun _ h9 => h9) rfl d_D_addToMake_24 ?_
    refine lv_lload_n hx hb d_D_addToMake_27 rfl (lv_at hl 2 rfl) ?_
    refine ob_last hx hb hK hP hD hS 3 1 rfl rfl (j := mk) (nI_clamp (by omega)) (cv_in (nI_toInt (by omega)) (by omega)) d_D_addToMake_28 (fun H locs hP hD hS => ?_)
    have hP : va_P (dC, dI) vwCl (wD q cI cL dsp (upd dow mk o) (vp_updL dam mk a) dtg sp mk mint) H := hP
    have hD : va_D A (wD q cI cL dsp (upd dow mk o) (vp_updL dam mk a) dtg sp mk mint) := hD
    refine lv_aload_n hx hb d_D_addToMake_29 rfl (lv_at hl 0 rfl) ?_
    refine va_get (D := (dC, dI)) (ci := 1) (v := .ref (q 11)) (C := R_D) (T := T_D) (N := 7) hx hb hT in_D hown hK hP 0 rfl rfl 3 (by decide) (hT _ k_67) (fun _ h9 => h9) rfl d_D_addToMake_30 ?_
    refine lv_aload_n hx hb d_D_addToMake_33 rfl (lv_at hl 0 rfl) ?_
    refine va_get (D := (dC, dI)) (ci := 1) (v := .int (nI mk)) (C := R_D) (T := T_D) (N := 7) hx hb hT in_D hown hK hP 0 rfl rfl 5 (by decide) (hT _ k_71) (fun _ h9 => h9) rfl d_D_addToMake_34 ?_
    refine lv_lload hx hb d_D_addToMake_37 (lv_at hl 3 rfl) ?_
    refine ob_last hx hb hK hP hD hS 4 1 rfl rfl (j := mk) (nI_clamp (by omega)) (cv_in (nI_toInt (by omega)) (by omega)) d_D_addToMake_39 (fun H locs hP hD hS => ?_)
    have hP : va_P (dC, dI) vwCl (wD q cI cL dsp (upd dow mk o) (vp_updL dam mk a) (vp_updL dtg mk g) sp mk mint) H := hP
    have hD : va_D A (wD q cI cL dsp (upd dow mk o) (vp_updL dam mk a) (vp_updL dtg mk g) sp mk mint) := hD
    refine lv_aload_n hx hb d_D_addToMake_40 rfl (lv_at hl 0 rfl) ?_
    refine lv_dup hx hb d_D_addToMake_41 rfl ?_
    refine va_get (D := (dC, dI)) (ci := 1) (v := .int (nI mk)) (C := R_D) (T := T_D) (N := 7) hx hb hT in_D hown hK hP 0 rfl rfl 5 (by decide) (hT _ k_71) (fun _ h9 => h9) rfl d_D_addToMake_42 ?_
    refine lv_iconst (v := nI 1) hx hb d_D_addToMake_45 (by decide) ?_
    refine lv_iadd hx hb d_D_addToMake_46 ?_
    refine ob_eqi (nI_add mk 1) ?_
    refine va_put (D := (dC, dI)) (ci := 1) (v := .int (nI (mk + 1))) (ty := .int) (C := R_D) (T := T_D) (N := 7) hx hb hT in_D t_D t_D_ok n_D hown hK hP hD hS 0 rfl rfl 5 (by decide) (hT _ k_71) (fun _ h9 => h9) rfl (by decide +kernel) rfl rfl (Nat.le_of_ble_eq_true rfl) d_D_addToMake_47 (fun H locs hP hD hS => ?_)
    have hP : va_P (dC, dI) vwCl (wD q cI cL dsp (upd dow mk o) (vp_updL dam mk a) (vp_updL dtg mk g) sp (mk + 1) mint) H := hP
    have hD : va_D A (wD q cI cL dsp (upd dow mk o) (vp_updL dam mk a) (vp_updL dtg mk g) sp (mk + 1) mint) := hD
    exact ob_vretW hx hb hr hlocks hQ hS hP rfl d_D_addToMake_50
  · have t_5 := mt (cv_le (nI_toInt (by omega)) (nI_toInt (by omega))).mpr c_5
    exact absurd t_5 (by omega)
abbrev rm_D_clear : Room := { frames := 0, cells := 0, slots := 0, locals := 0 }
set_option maxHeartbeats 4000000 in
set_option maxRecDepth 100000 in
theorem c_D_clear (l : Launch) (dC : Nat → ClassId) (dI : Nat → Nat → Nat) (q : Nat → Nat) (cI cL : ClassId) (dsp : Nat → Int32) (dow : Nat → Int32) (dam : Nat → Int64) (dtg : Nat → Int64) (sp : Nat) (mk : Nat) (mint : Int64)   : Met l y_D_clear w_D_clear rm_D_clear (va_Pc [.ref (q 7)] (ob_BW (dC, dI) vwCl (wD q cI cL dsp dow dam dtg sp mk mint) [(cI, .int), (cL, .long)] [])) (va_Qv (fun (_ : Unit) => True) (fun _ t => va_P (dC, dI) vwCl (wD q cI cL dsp dow dam dtg 0 0 (0 : Int64)) t.heap) (ob_A (wD q cI cL dsp dow dam dtg sp mk mint))) 0 0 (ob_A (wD q cI cL dsp dow dam dtg sp mk mint)) := by
  refine ob_ofW (cc := b_D_clear) (maxL := 1) (ret := none) (own := R_D) (by decide) rfl rfl (Nat.le_of_ble_eq_true rfl) ?_
  intro p e s m args below meth c Q hQ hx hb hr hml hT hown hlocks hv ls hl
  obtain ⟨⟨hP, hK, hN⟩, hD0⟩ := hv
  have hD := ob_D_self hD0
  generalize hAe : ob_A (wD q cI cL dsp dow dam dtg sp mk mint) = A at hQ hD
  have hS : va_S A s.heap s.heap [] := va_S.rf
  have hl : lv_has ls 1 [(0, .ref (q 7))] := hl
  refine lv_aload_n hx hb d_D_clear_0 rfl (lv_at hl 0 rfl) ?_
  refine lv_iconst (v := nI 0) hx hb d_D_clear_1 (by decide) ?_
  refine va_put (D := (dC, dI)) (ci := 1) (v := .int (nI 0)) (ty := .int) (C := R_D) (T := T_D) (N := 7) hx hb hT in_D t_D t_D_ok n_D hown hK hP hD hS 0 rfl rfl 4 (by decide) (hT _ k_69) (fun _ h9 => h9) rfl (by decide +kernel) rfl rfl (Nat.le_of_ble_eq_true rfl) d_D_clear_2 (fun H locs hP hD hS => ?_)
  have hP : va_P (dC, dI) vwCl (wD q cI cL dsp dow dam dtg 0 mk mint) H := hP
  have hD : va_D A (wD q cI cL dsp dow dam dtg 0 mk mint) := hD
  refine lv_aload_n hx hb d_D_clear_5 rfl (lv_at hl 0 rfl) ?_
  refine lv_iconst (v := nI 0) hx hb d_D_clear_6 (by decide) ?_
  refine va_put (D := (dC, dI)) (ci := 1) (v := .int (nI 0)) (ty := .int) (C := R_D) (T := T_D) (N := 7) hx hb hT in_D t_D t_D_ok n_D hown hK hP hD hS 0 rfl rfl 5 (by decide) (hT _ k_71) (fun _ h9 => h9) rfl (by decide +kernel) rfl rfl (Nat.le_of_ble_eq_true rfl) d_D_clear_7 (fun H locs hP hD hS => ?_)
  have hP : va_P (dC, dI) vwCl (wD q cI cL dsp dow dam dtg 0 0 mint) H := hP
  have hD : va_D A (wD q cI cL dsp dow dam dtg 0 0 mint) := hD
  refine lv_aload_n hx hb d_D_clear_10 rfl (lv_at hl 0 rfl) ?_
  refine lv_lconst (v := 0) hx hb d_D_clear_11 (by decide) ?_
  refine va_put (D := (dC, dI)) (ci := 1) (v := .long (0 : Int64)) (ty := .long) (C := R_D) (T := T_D) (N := 7) hx hb hT in_D t_D t_D_ok n_D hown hK hP hD hS 0 rfl rfl 6 (by decide) (hT _ k_74) (fun _ h9 => h9) rfl (by decide +kernel) rfl rfl (Nat.le_of_ble_eq_true rfl) d_D_clear_12 (fun H locs hP hD hS => ?_)
  have hP : va_P (dC, dI) vwCl (wD q cI cL dsp dow dam dtg 0 0 (0 : Int64)) H := hP
  have hD : va_D A (wD q cI cL dsp dow dam dtg 0 0 (0 : Int64)) := hD
  exact ob_vretW hx hb hr hlocks hQ hS hP rfl d_D_clear_15
abbrev rm_B_openNext : Room := { frames := 1, cells := 0, slots := 0, locals := 14 }
set_option maxHeartbeats 4000000 in
set_option maxRecDepth 100000 in
theorem c_B_openNext (l : Launch) (dC : Nat → ClassId) (dI : Nat → Nat → Nat) (q : Nat → Nat) (cI cL : ClassId) (dep : Nat) (sups : Nat → Int64) (pots : Nat → Int64) (apps : Nat → Int32) (row : Nat) (hgt : Nat) (und : Nat) (s9 : Int64) (p9 : Int64) (a9 : Int32) (hrow : row ≤ dep) (hdep : dep ≤ 64) (hhg : hgt ≤ 1000) (hud : und ≤ dep) : Met l y_B_openNext w_B_openNext rm_B_openNext (va_Pc [.ref (q 12), .long s9, .long p9, .int a9] (ob_BW (dC, dI) vwCl (wB q cI cL dep sups pots apps row hgt und) [(cI, .int), (cL, .long)] [])) (va_Qv (fun (_ : Unit) => True) (fun _ t => va_P (dC, dI) vwCl (wB q cI cL dep (vp_updL sups (f_row row dep) s9) (vp_updL pots (f_row row dep) p9) (upd apps (f_row row dep) a9) (f_row row dep) (hgt + 1) (min dep (und + 1))) t.heap) (ob_A (wB q cI cL dep sups pots apps row hgt und))) 0 0 (ob_A (wB q cI cL dep sups pots apps row hgt und)) := by
  refine ob_ofW (cc := b_B_openNext) (maxL := 6) (ret := none) (own := R_B) (by decide) rfl rfl (Nat.le_of_ble_eq_true rfl) ?_
  intro p e s m args below meth c Q hQ hx hb hr hml hT hown hlocks hv ls hl
  obtain ⟨⟨hP, hK, hN⟩, hD0⟩ := hv
  have hD := ob_D_self hD0
  generalize hAe : ob_A (wB q cI cL dep sups pots apps row hgt und) = A at hQ hD
  have hS : va_S A s.heap s.heap [] := va_S.rf
  have hl : lv_has ls 6 [(0, .ref (q 12)), (1, .long s9), (3, .long p9), (5, .int a9)] := hl
  have hfr := f_row_le (row := row) (dep := dep)
  refine lv_aload_n hx hb d_B_openNext_0 rfl (lv_at hl 0 rfl) ?_
  refine lv_aload_n hx hb d_B_openNext_1 rfl (lv_at hl 0 rfl) ?_
  refine va_get (D := (dC, dI)) (ci := 0) (v := .int (nI row)) (C := R_B) (T := T_B) (N := 7) hx hb hT in_B hown hK hP 0 rfl rfl 4 (by decide) (hT _ k_106) (fun _ h9 => h9) rfl d_B_openNext_2 ?_
  refine lv_aload_n hx hb d_B_openNext_5 rfl (lv_at hl 0 rfl) ?_
  refine va_get (D := (dC, dI)) (ci := 0) (v := .int (nI dep)) (C := R_B) (T := T_B) (N := 7) hx hb hT in_B hown hK hP 0 rfl rfl 0 (by decide) (hT _ k_102) (fun _ h9 => h9) rfl d_B_openNext_6 ?_
  refine lv_icmp_ge (tgt := 21) hx hb d_B_openNext_9 (by decide) (fun c_9 => ?_) (fun c_9 => ?_)
  · have t_9 := (cv_le (nI_toInt (by omega)) (nI_toInt (by omega))).mp c_9
    refine lv_iconst (v := nI 0) hx hb d_B_openNext_21 (by decide) ?_
    refine ob_eqi (y := nI (f_row row dep)) (by first | (rw [f_row, if_pos (by omega)]) | (rw [f_row, if_neg (by omega)])) ?_
    refine va_put (D := (dC, dI)) (ci := 0) (v := .int (nI (f_row row dep))) (ty := .int) (C := R_B) (T := T_B) (N := 7) hx hb hT in_B t_B t_B_ok n_B hown hK hP hD hS 0 rfl rfl 4 (by decide) (hT _ k_106) (fun _ h9 => h9) rfl (by decide +kernel) rfl rfl (Nat.le_of_ble_eq_true rfl) d_B_openNext_22 (fun H locs hP hD hS => ?_)
    have hP : va_P (dC, dI) vwCl (wB q cI cL dep sups pots apps (f_row row dep) hgt und) H := hP
    have hD : va_D A (wB q cI cL dep sups pots apps (f_row row dep) hgt und) := hD
    refine lv_aload_n hx hb d_B_openNext_25 rfl (lv_at hl 0 rfl) ?_
    refine va_get (D := (dC, dI)) (ci := 0) (v := .ref (q 13)) (C := R_B) (T := T_B) (N := 7) hx hb hT in_B hown hK hP 0 rfl rfl 1 (by decide) (hT _ k_103) (fun _ h9 => h9) rfl d_B_openNext_26 ?_
    refine lv_aload_n hx hb d_B_openNext_29 rfl (lv_at hl 0 rfl) ?_
    refine va_get (D := (dC, dI)) (ci := 0) (v := .int (nI (f_row row dep))) (C := R_B) (T := T_B) (N := 7) hx hb hT in_B hown hK hP 0 rfl rfl 4 (by decide) (hT _ k_106) (fun _ h9 => h9) rfl d_B_openNext_30 ?_
    refine lv_lload_n hx hb d_B_openNext_33 rfl (lv_at hl 1 rfl) ?_
    refine ob_last hx hb hK hP hD hS 1 1 rfl rfl (j := f_row row dep) (nI_clamp (by omega)) (cv_in (nI_toInt (by omega)) (by omega)) d_B_openNext_34 (fun H locs hP hD hS => ?_)
    have hP : va_P (dC, dI) vwCl (wB q cI cL dep (vp_updL sups (f_row row dep) s9) pots apps (f_row row dep) hgt und) H := hP
    have hD : va_D A (wB q cI cL dep (vp_updL sups (f_row row dep) s9) pots apps (f_row row dep) hgt und) := hD
    refine lv_aload_n hx hb d_B_openNext_35 rfl (lv_at hl 0 rfl) ?_
    refine va_get (D := (dC, dI)) (ci := 0) (v := .ref (q 14)) (C := R_B) (T := T_B) (N := 7) hx hb hT in_B hown hK hP 0 rfl rfl 2 (by decide) (hT _ k_104) (fun _ h9 => h9) rfl d_B_openNext_36 ?_
    refine lv_aload_n hx hb d_B_openNext_39 rfl (lv_at hl 0 rfl) ?_
    refine va_get (D := (dC, dI)) (ci := 0) (v := .int (nI (f_row row dep))) (C := R_B) (T := T_B) (N := 7) hx hb hT in_B hown hK hP 0 rfl rfl 4 (by decide) (hT _ k_106) (fun _ h9 => h9) rfl d_B_openNext_40 ?_
    refine lv_lload_n hx hb d_B_openNext_43 rfl (lv_at hl 2 rfl) ?_
    refine ob_last hx hb hK hP hD hS 2 1 rfl rfl (j := f_row row dep) (nI_clamp (by omega)) (cv_in (nI_toInt (by omega)) (by omega)) d_B_openNext_44 (fun H locs hP hD hS => ?_)
    have hP : va_P (dC, dI) vwCl (wB q cI cL dep (vp_updL sups (f_row row dep) s9) (vp_updL pots (f_row row dep) p9) apps (f_row row dep) hgt und) H := hP
    have hD : va_D A (wB q cI cL dep (vp_updL sups (f_row row dep) s9) (vp_updL pots (f_row row dep) p9) apps (f_row row dep) hgt und) := hD
    refine lv_aload_n hx hb d_B_openNext_45 rfl (lv_at hl 0 rfl) ?_
    refine va_get (D := (dC, dI)) (ci := 0) (v := .ref (q 15)) (C := R_B) (T := T_B) (N := 7) hx hb hT in_B hown hK hP 0 rfl rfl 3 (by decide) (hT _ k_105) (fun _ h9 => h9) rfl d_B_openNext_46 ?_
    refine lv_aload_n hx hb d_B_openNext_49 rfl (lv_at hl 0 rfl) ?_
    refine va_get (D := (dC, dI)) (ci := 0) (v := .int (nI (f_row row dep))) (C := R_B) (T := T_B) (N := 7) hx hb hT in_B hown hK hP 0 rfl rfl 4 (by decide) (hT _ k_106) (fun _ h9 => h9) rfl d_B_openNext_50 ?_
    refine lv_iload hx hb d_B_openNext_53 (lv_at hl 3 rfl) ?_
    refine ob_iast hx hb hK hP hD hS 3 0 rfl rfl (j := f_row row dep) (nI_clamp (by omega)) (cv_in (nI_toInt (by omega)) (by omega)) d_B_openNext_55 (fun H locs hP hD hS => ?_)
    have hP : va_P (dC, dI) vwCl (wB q cI cL dep (vp_updL sups (f_row row dep) s9) (vp_updL pots (f_row row dep) p9) (upd apps (f_row row dep) a9) (f_row row dep) hgt und) H := hP
    have hD : va_D A (wB q cI cL dep (vp_updL sups (f_row row dep) s9) (vp_updL pots (f_row row dep) p9) (upd apps (f_row row dep) a9) (f_row row dep) hgt und) := hD
    refine lv_aload_n hx hb d_B_openNext_56 rfl (lv_at hl 0 rfl) ?_
    refine lv_dup hx hb d_B_openNext_57 rfl ?_
    refine va_get (D := (dC, dI)) (ci := 0) (v := .int (nI hgt)) (C := R_B) (T := T_B) (N := 7) hx hb hT in_B hown hK hP 0 rfl rfl 5 (by decide) (hT _ k_107) (fun _ h9 => h9) rfl d_B_openNext_58 ?_
    refine lv_iconst (v := nI 1) hx hb d_B_openNext_61 (by decide) ?_
    refine lv_iadd hx hb d_B_openNext_62 ?_
    refine ob_eqi (nI_add hgt 1) ?_
    refine va_put (D := (dC, dI)) (ci := 0) (v := .int (nI (hgt + 1))) (ty := .int) (C := R_B) (T := T_B) (N := 7) hx hb hT in_B t_B t_B_ok n_B hown hK hP hD hS 0 rfl rfl 5 (by decide) (hT _ k_107) (fun _ h9 => h9) rfl (by decide +kernel) rfl rfl (Nat.le_of_ble_eq_true rfl) d_B_openNext_63 (fun H locs hP hD hS => ?_)
    have hP : va_P (dC, dI) vwCl (wB q cI cL dep (vp_updL sups (f_row row dep) s9) (vp_updL pots (f_row row dep) p9) (upd apps (f_row row dep) a9) (f_row row dep) (hgt + 1) und) H := hP
    have hD : va_D A (wB q cI cL dep (vp_updL sups (f_row row dep) s9) (vp_updL pots (f_row row dep) p9) (upd apps (f_row row dep) a9) (f_row row dep) (hgt + 1) und) := hD
    refine lv_aload_n hx hb d_B_openNext_66 rfl (lv_at hl 0 rfl) ?_
    refine lv_aload_n hx hb d_B_openNext_67 rfl (lv_at hl 0 rfl) ?_
    refine va_get (D := (dC, dI)) (ci := 0) (v := .int (nI dep)) (C := R_B) (T := T_B) (N := 7) hx hb hT in_B hown hK hP 0 rfl rfl 0 (by decide) (hT _ k_102) (fun _ h9 => h9) rfl d_B_openNext_68 ?_
    refine lv_aload_n hx hb d_B_openNext_71 rfl (lv_at hl 0 rfl) ?_
    refine va_get (D := (dC, dI)) (ci := 0) (v := .int (nI und)) (C := R_B) (T := T_B) (N := 7) hx hb hT in_B hown hK hP 0 rfl rfl 6 (by decide) (hT _ k_109) (fun _ h9 => h9) rfl d_B_openNext_72 ?_
    refine lv_iconst (v := nI 1) hx hb d_B_openNext_75 (by decide) ?_
    refine lv_iadd hx hb d_B_openNext_76 ?_
    refine ob_eqi (nI_add und 1) ?_
    refine va_mmin hx hb (by rw [hml]; exact hl.1.symm) hown (hT _ k_241) (hT _ k_93) (hT _ k_13) (hT _ k_94) (Nat.le_of_ble_eq_true rfl) (Nat.le_of_ble_eq_true rfl) (Nat.zero_le _) (Nat.zero_le _) d_B_openNext_77 ?_
    refine ob_eqi (min_nI (by omega) (by omega)) ?_
    refine va_put (D := (dC, dI)) (ci := 0) (v := .int (nI (min dep (und + 1)))) (ty := .int) (C := R_B) (T := T_B) (N := 7) hx hb hT in_B t_B t_B_ok n_B hown hK hP hD hS 0 rfl rfl 6 (by decide) (hT _ k_109) (fun _ h9 => h9) rfl (by decide +kernel) rfl rfl (Nat.le_of_ble_eq_true rfl) d_B_openNext_80 (fun H locs hP hD hS => ?_)
    have hP : va_P (dC, dI) vwCl (wB q cI cL dep (vp_updL sups (f_row row dep) s9) (vp_updL pots (f_row row dep) p9) (upd apps (f_row row dep) a9) (f_row row dep) (hgt + 1) (min dep (und + 1))) H := hP
    have hD : va_D A (wB q cI cL dep (vp_updL sups (f_row row dep) s9) (vp_updL pots (f_row row dep) p9) (upd apps (f_row row dep) a9) (f_row row dep) (hgt + 1) (min dep (und + 1))) := hD
    exact ob_vretW hx hb hr hlocks hQ hS hP rfl d_B_openNext_83
  · have t_9 := mt (cv_le (nI_toInt (by omega)) (nI_toInt (by omega))).mpr c_9
    refine lv_aload_n hx hb d_B_openNext_12 rfl (lv_at hl 0 rfl) ?_
    refine va_get (D := (dC, dI)) (ci := 0) (v := .int (nI row)) (C := R_B) (T := T_B) (N := 7) hx hb hT in_B hown hK hP 0 rfl rfl 4 (by decide) (hT _ k_106) (fun _ h9 => h9) rfl d_B_openNext_13 ?_
    refine lv_iconst (v := nI 1) hx hb d_B_openNext_16 (by decide) ?_
    refine lv_iadd hx hb d_B_openNext_17 ?_
    refine ob_eqi (nI_add row 1) ?_
    refine lv_goto (tgt := 22) hx hb d_B_openNext_18 (by decide) ?_
    refine ob_eqi (y := nI (f_row row dep)) (by first | (rw [f_row, if_pos (by omega)]) | (rw [f_row, if_neg (by omega)])) ?_
    refine va_put (D := (dC, dI)) (ci := 0) (v := .int (nI (f_row row dep))) (ty := .int) (C := R_B) (T := T_B) (N := 7) hx hb hT in_B t_B t_B_ok n_B hown hK hP hD hS 0 rfl rfl 4 (by decide) (hT _ k_106) (fun _ h9 => h9) rfl (by decide +kernel) rfl rfl (Nat.le_of_ble_eq_true rfl) d_B_openNext_22 (fun H locs hP hD hS => ?_)
    have hP : va_P (dC, dI) vwCl (wB q cI cL dep sups pots apps (f_row row dep) hgt und) H := hP
    have hD : va_D A (wB q cI cL dep sups pots apps (f_row row dep) hgt und) := hD
    refine lv_aload_n hx hb d_B_openNext_25 rfl (lv_at hl 0 rfl) ?_
    refine va_get (D := (dC, dI)) (ci := 0) (v := .ref (q 13)) (C := R_B) (T := T_B) (N := 7) hx hb hT in_B hown hK hP 0 rfl rfl 1 (by decide) (hT _ k_103) (fun _ h9 => h9) rfl d_B_openNext_26 ?_
    refine lv_aload_n hx hb d_B_openNext_29 rfl (lv_at hl 0 rfl) ?_
    refine va_get (D := (dC, dI)) (ci := 0) (v := .int (nI (f_row row dep))) (C := R_B) (T := T_B) (N := 7) hx hb hT in_B hown hK hP 0 rfl rfl 4 (by decide) (hT _ k_106) (fun _ h9 => h9) rfl d_B_openNext_30 ?_
    refine lv_lload_n hx hb d_B_openNext_33 rfl (lv_at hl 1 rfl) ?_
    refine ob_last hx hb hK hP hD hS 1 1 rfl rfl (j := f_row row dep) (nI_clamp (by omega)) (cv_in (nI_toInt (by omega)) (by omega)) d_B_openNext_34 (fun H locs hP hD hS => ?_)
    have hP : va_P (dC, dI) vwCl (wB q cI cL dep (vp_updL sups (f_row row dep) s9) pots apps (f_row row dep) hgt und) H := hP
    have hD : va_D A (wB q cI cL dep (vp_updL sups (f_row row dep) s9) pots apps (f_row row dep) hgt und) := hD
    refine lv_aload_n hx hb d_B_openNext_35 rfl (lv_at hl 0 rfl) ?_
    refine va_get (D := (dC, dI)) (ci := 0) (v := .ref (q 14)) (C := R_B) (T := T_B) (N := 7) hx hb hT in_B hown hK hP 0 rfl rfl 2 (by decide) (hT _ k_104) (fun _ h9 => h9) rfl d_B_openNext_36 ?_
    refine lv_aload_n hx hb d_B_openNext_39 rfl (lv_at hl 0 rfl) ?_
    refine va_get (D := (dC, dI)) (ci := 0) (v := .int (nI (f_row row dep))) (C := R_B) (T := T_B) (N := 7) hx hb hT in_B hown hK hP 0 rfl rfl 4 (by decide) (hT _ k_106) (fun _ h9 => h9) rfl d_B_openNext_40 ?_
    refine lv_lload_n hx hb d_B_openNext_43 rfl (lv_at hl 2 rfl) ?_
    refine ob_last hx hb hK hP hD hS 2 1 rfl rfl (j := f_row row dep) (nI_clamp (by omega)) (cv_in (nI_toInt (by omega)) (by omega)) d_B_openNext_44 (fun H locs hP hD hS => ?_)
    have hP : va_P (dC, dI) vwCl (wB q cI cL dep (vp_updL sups (f_row row dep) s9) (vp_updL pots (f_row row dep) p9) apps (f_row row dep) hgt und) H := hP
    have hD : va_D A (wB q cI cL dep (vp_updL sups (f_row row dep) s9) (vp_updL pots (f_row row dep) p9) apps (f_row row dep) hgt und) := hD
    refine lv_aload_n hx hb d_B_openNext_45 rfl (lv_at hl 0 rfl) ?_
    refine va_get (D := (dC, dI)) (ci := 0) (v := .ref (q 15)) (C := R_B) (T := T_B) (N := 7) hx hb hT in_B hown hK hP 0 rfl rfl 3 (by decide) (hT _ k_105) (fun _ h9 => h9) rfl d_B_openNext_46 ?_
    refine lv_aload_n hx hb d_B_openNext_49 rfl (lv_at hl 0 rfl) ?_
    refine va_get (D := (dC, dI)) (ci := 0) (v := .int (nI (f_row row dep))) (C := R_B) (T := T_B) (N := 7) hx hb hT in_B hown hK hP 0 rfl rfl 4 (by decide) (hT _ k_106) (fun _ h9 => h9) rfl d_B_openNext_50 ?_
    refine lv_iload hx hb d_B_openNext_53 (lv_at hl 3 rfl) ?_
    refine ob_iast hx hb hK hP hD hS 3 0 rfl rfl (j := f_row row dep) (nI_clamp (by omega)) (cv_in (nI_toInt (by omega)) (by omega)) d_B_openNext_55 (fun H locs hP hD hS => ?_)
    have hP : va_P (dC, dI) vwCl (wB q cI cL dep (vp_updL sups (f_row row dep) s9) (vp_updL pots (f_row row dep) p9) (upd apps (f_row row dep) a9) (f_row row dep) hgt und) H := hP
    have hD : va_D A (wB q cI cL dep (vp_updL sups (f_row row dep) s9) (vp_updL pots (f_row row dep) p9) (upd apps (f_row row dep) a9) (f_row row dep) hgt und) := hD
    refine lv_aload_n hx hb d_B_openNext_56 rfl (lv_at hl 0 rfl) ?_
    refine lv_dup hx hb d_B_openNext_57 rfl ?_
    refine va_get (D := (dC, dI)) (ci := 0) (v := .int (nI hgt)) (C := R_B) (T := T_B) (N := 7) hx hb hT in_B hown hK hP 0 rfl rfl 5 (by decide) (hT _ k_107) (fun _ h9 => h9) rfl d_B_openNext_58 ?_
    refine lv_iconst (v := nI 1) hx hb d_B_openNext_61 (by decide) ?_
    refine lv_iadd hx hb d_B_openNext_62 ?_
    refine ob_eqi (nI_add hgt 1) ?_
    refine va_put (D := (dC, dI)) (ci := 0) (v := .int (nI (hgt + 1))) (ty := .int) (C := R_B) (T := T_B) (N := 7) hx hb hT in_B t_B t_B_ok n_B hown hK hP hD hS 0 rfl rfl 5 (by decide) (hT _ k_107) (fun _ h9 => h9) rfl (by decide +kernel) rfl rfl (Nat.le_of_ble_eq_true rfl) d_B_openNext_63 (fun H locs hP hD hS => ?_)
    have hP : va_P (dC, dI) vwCl (wB q cI cL dep (vp_updL sups (f_row row dep) s9) (vp_updL pots (f_row row dep) p9) (upd apps (f_row row dep) a9) (f_row row dep) (hgt + 1) und) H := hP
    have hD : va_D A (wB q cI cL dep (vp_updL sups (f_row row dep) s9) (vp_updL pots (f_row row dep) p9) (upd apps (f_row row dep) a9) (f_row row dep) (hgt + 1) und) := hD
    refine lv_aload_n hx hb d_B_openNext_66 rfl (lv_at hl 0 rfl) ?_
    refine lv_aload_n hx hb d_B_openNext_67 rfl (lv_at hl 0 rfl) ?_
    refine va_get (D := (dC, dI)) (ci := 0) (v := .int (nI dep)) (C := R_B) (T := T_B) (N := 7) hx hb hT in_B hown hK hP 0 rfl rfl 0 (by decide) (hT _ k_102) (fun _ h9 => h9) rfl d_B_openNext_68 ?_
    refine lv_aload_n hx hb d_B_openNext_71 rfl (lv_at hl 0 rfl) ?_
    refine va_get (D := (dC, dI)) (ci := 0) (v := .int (nI und)) (C := R_B) (T := T_B) (N := 7) hx hb hT in_B hown hK hP 0 rfl rfl 6 (by decide) (hT _ k_109) (fun _ h9 => h9) rfl d_B_openNext_72 ?_
    refine lv_iconst (v := nI 1) hx hb d_B_openNext_75 (by decide) ?_
    refine lv_iadd hx hb d_B_openNext_76 ?_
    refine ob_eqi (nI_add und 1) ?_
    refine va_mmin hx hb (by rw [hml]; exact hl.1.symm) hown (hT _ k_241) (hT _ k_93) (hT _ k_13) (hT _ k_94) (Nat.le_of_ble_eq_true rfl) (Nat.le_of_ble_eq_true rfl) (Nat.zero_le _) (Nat.zero_le _) d_B_openNext_77 ?_
    refine ob_eqi (min_nI (by omega) (by omega)) ?_
    refine va_put (D := (dC, dI)) (ci := 0) (v := .int (nI (min dep (und + 1)))) (ty := .int) (C := R_B) (T := T_B) (N := 7) hx hb hT in_B t_B t_B_ok n_B hown hK hP hD hS 0 rfl rfl 6 (by decide) (hT _ k_109) (fun _ h9 => h9) rfl (by decide +kernel) rfl rfl (Nat.le_of_ble_eq_true rfl) d_B_openNext_80 (fun H locs hP hD hS => ?_)
    have hP : va_P (dC, dI) vwCl (wB q cI cL dep (vp_updL sups (f_row row dep) s9) (vp_updL pots (f_row row dep) p9) (upd apps (f_row row dep) a9) (f_row row dep) (hgt + 1) (min dep (und + 1))) H := hP
    have hD : va_D A (wB q cI cL dep (vp_updL sups (f_row row dep) s9) (vp_updL pots (f_row row dep) p9) (upd apps (f_row row dep) a9) (f_row row dep) (hgt + 1) (min dep (und + 1))) := hD
    exact ob_vretW hx hb hr hlocks hQ hS hP rfl d_B_openNext_83
abbrev rm_B_goBack : Room := { frames := 0, cells := 0, slots := 0, locals := 0 }
set_option maxHeartbeats 4000000 in
set_option maxRecDepth 100000 in
theorem c_B_goBack (l : Launch) (dC : Nat → ClassId) (dI : Nat → Nat → Nat) (q : Nat → Nat) (cI cL : ClassId) (dep : Nat) (sups : Nat → Int64) (pots : Nat → Int64) (apps : Nat → Int32) (row : Nat) (hgt : Nat) (und : Nat) (n : Nat) (hrow : row ≤ dep) (hdep : dep ≤ 64) (hhg : hgt ≤ 1000) (hud : und ≤ dep) (huh : und ≤ hgt) (hn : n ≤ und) : Met l y_B_goBack w_B_goBack rm_B_goBack (va_Pc [.ref (q 12), .int (nI n)] (ob_BW (dC, dI) vwCl (wB q cI cL dep sups pots apps row hgt und) [(cI, .int), (cL, .long)] [])) (va_Qv (fun (_ : Unit) => True) (fun _ t => va_P (dC, dI) vwCl (wB q cI cL dep sups pots apps (f_rowb row dep n) (hgt - n) (und - n)) t.heap) (ob_A (wB q cI cL dep sups pots apps row hgt und))) 0 0 (ob_A (wB q cI cL dep sups pots apps row hgt und)) := by
  refine ob_ofW (cc := b_B_goBack) (maxL := 2) (ret := none) (own := R_B) (by decide) rfl rfl (Nat.le_of_ble_eq_true rfl) ?_
  intro p e s m args below meth c Q hQ hx hb hr hml hT hown hlocks hv ls hl
  obtain ⟨⟨hP, hK, hN⟩, hD0⟩ := hv
  have hD := ob_D_self hD0
  generalize hAe : ob_A (wB q cI cL dep sups pots apps row hgt und) = A at hQ hD
  have hS : va_S A s.heap s.heap [] := va_S.rf
  have hl : lv_has ls 2 [(0, .ref (q 12)), (1, .int (nI n))] := hl
  refine lv_iload_n hx hb d_B_goBack_0 rfl (lv_at hl 1 rfl) ?_
  refine lv_if_lt (tgt := 12) hx hb d_B_goBack_1 (by decide) (fun c_1 => ?_) (fun c_1 => ?_)
  · have t_1 := (cv_lt (nI_toInt (by omega)) (by decide : (0 : Int32).toInt = 0)).mp c_1
    exact absurd t_1 (by omega)
  · have t_1 := mt (cv_lt (nI_toInt (by omega)) (by decide : (0 : Int32).toInt = 0)).mpr c_1
    refine lv_iload_n hx hb d_B_goBack_4 rfl (lv_at hl 1 rfl) ?_
    refine lv_aload_n hx hb d_B_goBack_5 rfl (lv_at hl 0 rfl) ?_
    refine va_get (D := (dC, dI)) (ci := 0) (v := .int (nI und)) (C := R_B) (T := T_B) (N := 7) hx hb hT in_B hown hK hP 0 rfl rfl 6 (by decide) (hT _ k_109) (fun _ h9 => h9) rfl d_B_goBack_6 ?_
    refine lv_icmp_le (tgt := 13) hx hb d_B_goBack_9 (by decide) (fun c_9 => ?_) (fun c_9 => ?_)
    · have t_9 := (cv_le (nI_toInt (by omega)) (nI_toInt (by omega))).mp c_9
      refine lv_aload_n hx hb d_B_goBack_13 rfl (lv_at hl 0 rfl) ?_
      refine lv_aload_n hx hb d_B_goBack_14 rfl (lv_at hl 0 rfl) ?_
      refine va_get (D := (dC, dI)) (ci := 0) (v := .int (nI row)) (C := R_B) (T := T_B) (N := 7) hx hb hT in_B hown hK hP 0 rfl rfl 4 (by decide) (hT _ k_106) (fun _ h9 => h9) rfl d_B_goBack_15 ?_
      refine lv_iload_n hx hb d_B_goBack_18 rfl (lv_at hl 1 rfl) ?_
      refine lv_icmp_lt (tgt := 31) hx hb d_B_goBack_19 (by decide) (fun c_19 => ?_) (fun c_19 => ?_)
      · have t_19 := (cv_lt (nI_toInt (by omega)) (nI_toInt (by omega))).mp c_19
        refine lv_aload_n hx hb d_B_goBack_31 rfl (lv_at hl 0 rfl) ?_
        refine va_get (D := (dC, dI)) (ci := 0) (v := .int (nI row)) (C := R_B) (T := T_B) (N := 7) hx hb hT in_B hown hK hP 0 rfl rfl 4 (by decide) (hT _ k_106) (fun _ h9 => h9) rfl d_B_goBack_32 ?_
        refine lv_iload_n hx hb d_B_goBack_35 rfl (lv_at hl 1 rfl) ?_
        refine lv_isub hx hb d_B_goBack_36 ?_
        refine lv_aload_n hx hb d_B_goBack_37 rfl (lv_at hl 0 rfl) ?_
        refine va_get (D := (dC, dI)) (ci := 0) (v := .int (nI dep)) (C := R_B) (T := T_B) (N := 7) hx hb hT in_B hown hK hP 0 rfl rfl 0 (by decide) (hT _ k_102) (fun _ h9 => h9) rfl d_B_goBack_38 ?_
        refine lv_iadd hx hb d_B_goBack_41 ?_
        refine lv_iconst (v := nI 1) hx hb d_B_goBack_42 (by decide) ?_
        refine lv_iadd hx hb d_B_goBack_43 ?_
        refine ob_eqi (y := nI (f_rowb row dep n)) (by first | (rw [f_rowb, if_pos (by omega)]) | (rw [f_rowb, if_neg (by omega)]; exact f_rowb_eq (by omega))) ?_
        refine va_put (D := (dC, dI)) (ci := 0) (v := .int (nI (f_rowb row dep n))) (ty := .int) (C := R_B) (T := T_B) (N := 7) hx hb hT in_B t_B t_B_ok n_B hown hK hP hD hS 0 rfl rfl 4 (by decide) (hT _ k_106) (fun _ h9 => h9) rfl (by decide +kernel) rfl rfl (Nat.le_of_ble_eq_true rfl) d_B_goBack_44 (fun H locs hP hD hS => ?_)
        have hP : va_P (dC, dI) vwCl (wB q cI cL dep sups pots apps (f_rowb row dep n) hgt und) H := hP
        have hD : va_D A (wB q cI cL dep sups pots apps (f_rowb row dep n) hgt und) := hD
        refine lv_aload_n hx hb d_B_goBack_47 rfl (lv_at hl 0 rfl) ?_
        refine lv_dup hx hb d_B_goBack_48 rfl ?_
        refine va_get (D := (dC, dI)) (ci := 0) (v := .int (nI hgt)) (C := R_B) (T := T_B) (N := 7) hx hb hT in_B hown hK hP 0 rfl rfl 5 (by decide) (hT _ k_107) (fun _ h9 => h9) rfl d_B_goBack_49 ?_
        refine lv_iload_n hx hb d_B_goBack_52 rfl (lv_at hl 1 rfl) ?_
        refine lv_isub hx hb d_B_goBack_53 ?_
        refine ob_eqi (pk_sub (a := hgt) (b := n) (by omega)) ?_
        refine va_put (D := (dC, dI)) (ci := 0) (v := .int (nI (hgt - n))) (ty := .int) (C := R_B) (T := T_B) (N := 7) hx hb hT in_B t_B t_B_ok n_B hown hK hP hD hS 0 rfl rfl 5 (by decide) (hT _ k_107) (fun _ h9 => h9) rfl (by decide +kernel) rfl rfl (Nat.le_of_ble_eq_true rfl) d_B_goBack_54 (fun H locs hP hD hS => ?_)
        have hP : va_P (dC, dI) vwCl (wB q cI cL dep sups pots apps (f_rowb row dep n) (hgt - n) und) H := hP
        have hD : va_D A (wB q cI cL dep sups pots apps (f_rowb row dep n) (hgt - n) und) := hD
        refine lv_aload_n hx hb d_B_goBack_57 rfl (lv_at hl 0 rfl) ?_
        refine lv_dup hx hb d_B_goBack_58 rfl ?_
        refine va_get (D := (dC, dI)) (ci := 0) (v := .int (nI und)) (C := R_B) (T := T_B) (N := 7) hx hb hT in_B hown hK hP 0 rfl rfl 6 (by decide) (hT _ k_109) (fun _ h9 => h9) rfl d_B_goBack_59 ?_
        refine lv_iload_n hx hb d_B_goBack_62 rfl (lv_at hl 1 rfl) ?_
        refine lv_isub hx hb d_B_goBack_63 ?_
        refine ob_eqi (pk_sub (a := und) (b := n) (by omega)) ?_
        refine va_put (D := (dC, dI)) (ci := 0) (v := .int (nI (und - n))) (ty := .int) (C := R_B) (T := T_B) (N := 7) hx hb hT in_B t_B t_B_ok n_B hown hK hP hD hS 0 rfl rfl 6 (by decide) (hT _ k_109) (fun _ h9 => h9) rfl (by decide +kernel) rfl rfl (Nat.le_of_ble_eq_true rfl) d_B_goBack_64 (fun H locs hP hD hS => ?_)
        have hP : va_P (dC, dI) vwCl (wB q cI cL dep sups pots apps (f_rowb row dep n) (hgt - n) (und - n)) H := hP
        have hD : va_D A (wB q cI cL dep sups pots apps (f_rowb row dep n) (hgt - n) (und - n)) := hD
        exact ob_vretW hx hb hr hlocks hQ hS hP rfl d_B_goBack_67
      · have t_19 := mt (cv_lt (nI_toInt (by omega)) (nI_toInt (by omega))).mpr c_19
        refine lv_aload_n hx hb d_B_goBack_22 rfl (lv_at hl 0 rfl) ?_
        refine va_get (D := (dC, dI)) (ci := 0) (v := .int (nI row)) (C := R_B) (T := T_B) (N := 7) hx hb hT in_B hown hK hP 0 rfl rfl 4 (by decide) (hT _ k_106) (fun _ h9 => h9) rfl d_B_goBack_23 ?_
        refine lv_iload_n hx hb d_B_goBack_26 rfl (lv_at hl 1 rfl) ?_
        refine lv_isub hx hb d_B_goBack_27 ?_
        refine ob_eqi (pk_sub (a := row) (b := n) (by omega)) ?_
        refine lv_goto (tgt := 44) hx hb d_B_goBack_28 (by decide) ?_
        refine ob_eqi (y := nI (f_rowb row dep n)) (by first | (rw [f_rowb, if_pos (by omega)]) | (rw [f_rowb, if_neg (by omega)]; exact f_rowb_eq (by omega))) ?_
        refine va_put (D := (dC, dI)) (ci := 0) (v := .int (nI (f_rowb row dep n))) (ty := .int) (C := R_B) (T := T_B) (N := 7) hx hb hT in_B t_B t_B_ok n_B hown hK hP hD hS 0 rfl rfl 4 (by decide) (hT _ k_106) (fun _ h9 => h9) rfl (by decide +kernel) rfl rfl (Nat.le_of_ble_eq_true rfl) d_B_goBack_44 (fun H locs hP hD hS => ?_)
        have hP : va_P (dC, dI) vwCl (wB q cI cL dep sups pots apps (f_rowb row dep n) hgt und) H := hP
        have hD : va_D A (wB q cI cL dep sups pots apps (f_rowb row dep n) hgt und) := hD
        refine lv_aload_n hx hb d_B_goBack_47 rfl (lv_at hl 0 rfl) ?_
        refine lv_dup hx hb d_B_goBack_48 rfl ?_
        refine va_get (D := (dC, dI)) (ci := 0) (v := .int (nI hgt)) (C := R_B) (T := T_B) (N := 7) hx hb hT in_B hown hK hP 0 rfl rfl 5 (by decide) (hT _ k_107) (fun _ h9 => h9) rfl d_B_goBack_49 ?_
        refine lv_iload_n hx hb d_B_goBack_52 rfl (lv_at hl 1 rfl) ?_
        refine lv_isub hx hb d_B_goBack_53 ?_
        refine ob_eqi (pk_sub (a := hgt) (b := n) (by omega)) ?_
        refine va_put (D := (dC, dI)) (ci := 0) (v := .int (nI (hgt - n))) (ty := .int) (C := R_B) (T := T_B) (N := 7) hx hb hT in_B t_B t_B_ok n_B hown hK hP hD hS 0 rfl rfl 5 (by decide) (hT _ k_107) (fun _ h9 => h9) rfl (by decide +kernel) rfl rfl (Nat.le_of_ble_eq_true rfl) d_B_goBack_54 (fun H locs hP hD hS => ?_)
        have hP : va_P (dC, dI) vwCl (wB q cI cL dep sups pots apps (f_rowb row dep n) (hgt - n) und) H := hP
        have hD : va_D A (wB q cI cL dep sups pots apps (f_rowb row dep n) (hgt - n) und) := hD
        refine lv_aload_n hx hb d_B_goBack_57 rfl (lv_at hl 0 rfl) ?_
        refine lv_dup hx hb d_B_goBack_58 rfl ?_
        refine va_get (D := (dC, dI)) (ci := 0) (v := .int (nI und)) (C := R_B) (T := T_B) (N := 7) hx hb hT in_B hown hK hP 0 rfl rfl 6 (by decide) (hT _ k_109) (fun _ h9 => h9) rfl d_B_goBack_59 ?_
        refine lv_iload_n hx hb d_B_goBack_62 rfl (lv_at hl 1 rfl) ?_
        refine lv_isub hx hb d_B_goBack_63 ?_
        refine ob_eqi (pk_sub (a := und) (b := n) (by omega)) ?_
        refine va_put (D := (dC, dI)) (ci := 0) (v := .int (nI (und - n))) (ty := .int) (C := R_B) (T := T_B) (N := 7) hx hb hT in_B t_B t_B_ok n_B hown hK hP hD hS 0 rfl rfl 6 (by decide) (hT _ k_109) (fun _ h9 => h9) rfl (by decide +kernel) rfl rfl (Nat.le_of_ble_eq_true rfl) d_B_goBack_64 (fun H locs hP hD hS => ?_)
        have hP : va_P (dC, dI) vwCl (wB q cI cL dep sups pots apps (f_rowb row dep n) (hgt - n) (und - n)) H := hP
        have hD : va_D A (wB q cI cL dep sups pots apps (f_rowb row dep n) (hgt - n) (und - n)) := hD
        exact ob_vretW hx hb hr hlocks hQ hS hP rfl d_B_goBack_67
    · have t_9 := mt (cv_le (nI_toInt (by omega)) (nI_toInt (by omega))).mpr c_9
      exact absurd t_9 (by omega)
abbrev rm_B_supplyAtOpening : Room := { frames := 0, cells := 0, slots := 0, locals := 0 }
set_option maxHeartbeats 4000000 in
set_option maxRecDepth 100000 in
theorem c_B_supplyAtOpening (l : Launch) (dC : Nat → ClassId) (dI : Nat → Nat → Nat) (q : Nat → Nat) (cI cL : ClassId) (dep : Nat) (sups : Nat → Int64) (pots : Nat → Int64) (apps : Nat → Int32) (row : Nat) (hgt : Nat) (und : Nat)  (hrow : row ≤ dep) (hdep : dep ≤ 64) : Met l y_B_supplyAtOpening w_B_supplyAtOpening rm_B_supplyAtOpening (va_Pc [.ref (q 12)] (ob_B (dC, dI) vwCl (wB q cI cL dep sups pots apps row hgt und) [(cI, .int), (cL, .long)] [])) (QcReadL (sups row)) 0 0 (fun _ => False) := by
  refine ob_ofW (cc := b_B_supplyAtOpening) (maxL := 1) (ret := (some .long)) (own := R_B) (by decide) rfl rfl (Nat.le_of_ble_eq_true rfl) ?_
  intro p e s m args below meth c Q hQ hx hb hr hml hT hown hlocks hv ls hl
  obtain ⟨hP, hK, hN⟩ := hv
  have hl : lv_has ls 1 [(0, .ref (q 12))] := hl
  refine lv_aload_n hx hb d_B_supplyAtOpening_0 rfl (lv_at hl 0 rfl) ?_
  refine va_get (D := (dC, dI)) (ci := 0) (v := .ref (q 13)) (C := R_B) (T := T_B) (N := 7) hx hb hT in_B hown hK hP 0 rfl rfl 1 (by decide) (hT _ k_103) (fun _ h9 => h9) rfl d_B_supplyAtOpening_1 ?_
  refine lv_aload_n hx hb d_B_supplyAtOpening_4 rfl (lv_at hl 0 rfl) ?_
  refine va_get (D := (dC, dI)) (ci := 0) (v := .int (nI row)) (C := R_B) (T := T_B) (N := 7) hx hb hT in_B hown hK hP 0 rfl rfl 4 (by decide) (hT _ k_106) (fun _ h9 => h9) rfl d_B_supplyAtOpening_5 ?_
  refine ob_lald hx hb hK hP 1 1 rfl rfl (j := row) (nI_clamp (by omega)) (cv_in (nI_toInt (by omega)) (by omega)) d_B_supplyAtOpening_8 ?_
  exact ob_lret (v := sups row) hx hb hr hlocks hQ rfl d_B_supplyAtOpening_9
abbrev rm_B_potAtOpening : Room := { frames := 0, cells := 0, slots := 0, locals := 0 }
set_option maxHeartbeats 4000000 in
set_option maxRecDepth 100000 in
theorem c_B_potAtOpening (l : Launch) (dC : Nat → ClassId) (dI : Nat → Nat → Nat) (q : Nat → Nat) (cI cL : ClassId) (dep : Nat) (sups : Nat → Int64) (pots : Nat → Int64) (apps : Nat → Int32) (row : Nat) (hgt : Nat) (und : Nat)  (hrow : row ≤ dep) (hdep : dep ≤ 64) : Met l y_B_potAtOpening w_B_potAtOpening rm_B_potAtOpening (va_Pc [.ref (q 12)] (ob_B (dC, dI) vwCl (wB q cI cL dep sups pots apps row hgt und) [(cI, .int), (cL, .long)] [])) (QcReadL (pots row)) 0 0 (fun _ => False) := by
  refine ob_ofW (cc := b_B_potAtOpening) (maxL := 1) (ret := (some .long)) (own := R_B) (by decide) rfl rfl (Nat.le_of_ble_eq_true rfl) ?_
  intro p e s m args below meth c Q hQ hx hb hr hml hT hown hlocks hv ls hl
  obtain ⟨hP, hK, hN⟩ := hv
  have hl : lv_has ls 1 [(0, .ref (q 12))] := hl
  refine lv_aload_n hx hb d_B_potAtOpening_0 rfl (lv_at hl 0 rfl) ?_
  refine va_get (D := (dC, dI)) (ci := 0) (v := .ref (q 14)) (C := R_B) (T := T_B) (N := 7) hx hb hT in_B hown hK hP 0 rfl rfl 2 (by decide) (hT _ k_104) (fun _ h9 => h9) rfl d_B_potAtOpening_1 ?_
  refine lv_aload_n hx hb d_B_potAtOpening_4 rfl (lv_at hl 0 rfl) ?_
  refine va_get (D := (dC, dI)) (ci := 0) (v := .int (nI row)) (C := R_B) (T := T_B) (N := 7) hx hb hT in_B hown hK hP 0 rfl rfl 4 (by decide) (hT _ k_106) (fun _ h9 => h9) rfl d_B_potAtOpening_5 ?_
  refine ob_lald hx hb hK hP 2 1 rfl rfl (j := row) (nI_clamp (by omega)) (cv_in (nI_toInt (by omega)) (by omega)) d_B_potAtOpening_8 ?_
  exact ob_lret (v := pots row) hx hb hr hlocks hQ rfl d_B_potAtOpening_9
abbrev rm_B_appliedAtOpening : Room := { frames := 0, cells := 0, slots := 0, locals := 0 }
set_option maxHeartbeats 4000000 in
set_option maxRecDepth 100000 in
theorem c_B_appliedAtOpening (l : Launch) (dC : Nat → ClassId) (dI : Nat → Nat → Nat) (q : Nat → Nat) (cI cL : ClassId) (dep : Nat) (sups : Nat → Int64) (pots : Nat → Int64) (apps : Nat → Int32) (row : Nat) (hgt : Nat) (und : Nat)  (hrow : row ≤ dep) (hdep : dep ≤ 64) : Met l y_B_appliedAtOpening w_B_appliedAtOpening rm_B_appliedAtOpening (va_Pc [.ref (q 12)] (ob_B (dC, dI) vwCl (wB q cI cL dep sups pots apps row hgt und) [(cI, .int), (cL, .long)] [])) (QcRead (apps row)) 0 0 (fun _ => False) := by
  refine ob_ofW (cc := b_B_appliedAtOpening) (maxL := 1) (ret := (some .int)) (own := R_B) (by decide) rfl rfl (Nat.le_of_ble_eq_true rfl) ?_
  intro p e s m args below meth c Q hQ hx hb hr hml hT hown hlocks hv ls hl
  obtain ⟨hP, hK, hN⟩ := hv
  have hl : lv_has ls 1 [(0, .ref (q 12))] := hl
  refine lv_aload_n hx hb d_B_appliedAtOpening_0 rfl (lv_at hl 0 rfl) ?_
  refine va_get (D := (dC, dI)) (ci := 0) (v := .ref (q 15)) (C := R_B) (T := T_B) (N := 7) hx hb hT in_B hown hK hP 0 rfl rfl 3 (by decide) (hT _ k_105) (fun _ h9 => h9) rfl d_B_appliedAtOpening_1 ?_
  refine lv_aload_n hx hb d_B_appliedAtOpening_4 rfl (lv_at hl 0 rfl) ?_
  refine va_get (D := (dC, dI)) (ci := 0) (v := .int (nI row)) (C := R_B) (T := T_B) (N := 7) hx hb hT in_B hown hK hP 0 rfl rfl 4 (by decide) (hT _ k_106) (fun _ h9 => h9) rfl d_B_appliedAtOpening_5 ?_
  refine ob_iald hx hb hK hP 3 0 rfl rfl (j := row) (nI_clamp (by omega)) (cv_in (nI_toInt (by omega)) (by omega)) d_B_appliedAtOpening_8 ?_
  exact ob_iret (v := apps row) hx hb hr hlocks hQ rfl d_B_appliedAtOpening_9
end
section
-- THE BOOK'S METHODS AS PURE WORDS
def f_gain (amt : Nat → Int64) (made : Nat) (dsp : Nat → Int32) (x : Int64) : Nat → Int64
  | 0 => x
  | k + 1 => f_gain amt made dsp x k + f_amt amt made (dsp k)
def f_less (dam : Nat → Int64) : Nat → Nat → Int64 → Int64
  | 0, _, x => x
  | n + 1, i, x => if dam i ≤ x then f_less dam n (i + 1) (x - dam i) else -2
theorem f_less_go {dam : Nat → Int64} {mk j : Nat} {x : Int64} (h : j < mk) (c : dam j ≤ x) : f_less dam (mk - j) j x = f_less dam (mk - (j + 1)) (j + 1) (x - dam j) := by
  rw [show mk - j = (mk - (j + 1)) + 1 by omega, f_less, if_pos c]
theorem f_less_no {dam : Nat → Int64} {mk j : Nat} {x : Int64} (h : j < mk) (c : ¬ dam j ≤ x) : f_less dam (mk - j) j x = -2 := by
  rw [show mk - j = (mk - (j + 1)) + 1 by omega, f_less, if_neg c]
def f_fee (supply mint : Int64) (amt : Nat → Int64) (made : Nat) (dsp : Nat → Int32) (sp : Nat) (dam : Nat → Int64) (mk : Nat) : Int64 := if mint < -supply ∨ ¬ mint ≤ 4611686018427387904 - supply then -2 else f_less dam mk 0 (f_gain amt made dsp mint sp)
theorem f_fee_no {supply mint : Int64} {amt : Nat → Int64} {made : Nat} {dsp : Nat → Int32} {sp : Nat} {dam : Nat → Int64} {mk : Nat} (h : mint < -supply ∨ ¬ mint ≤ 4611686018427387904 - supply) : f_fee supply mint amt made dsp sp dam mk = -2 := if_pos h
theorem f_fee_go {supply mint : Int64} {amt : Nat → Int64} {made : Nat} {dsp : Nat → Int32} {sp : Nat} {dam : Nat → Int64} {mk : Nat} (h : ¬ (mint < -supply ∨ ¬ mint ≤ 4611686018427387904 - supply)) : f_fee supply mint amt made dsp sp dam mk = f_less dam mk 0 (f_gain amt made dsp mint sp) := if_neg h
def f_offs (spt : Nat → Int32) (made : Nat) (dsp : Nat → Int32) (h : Int32) : Nat → Nat → Int32
  | 0 => spt
  | k + 1 => f_off (f_offs spt made dsp h k) made (dsp k) h
def f_app (f : Nat → Int32) (b : Nat) (g : Nat → Int32) : Nat → Nat → Int32
  | 0 => f
  | i + 1 => upd (f_app f b g i) (b + i) (g i)
def f_appL (f : Nat → Int64) (b : Nat) (g : Nat → Int64) : Nat → Nat → Int64
  | 0 => f
  | i + 1 => vp_updL (f_appL f b g i) (b + i) (g i)
theorem f_app_lo {f : Nat → Int32} {b : Nat} {g : Nat → Int32} {i j : Nat} (h : j < b) : f_app f b g i j = f j := by
  induction i with
  | zero => rfl
  | succ i ih => rw [f_app, upd, if_neg (by omega), ih]
theorem nI_self {x : Int32} (h : 0 ≤ x.toInt) : x = nI x.toNatClampNeg := by
  apply Int32.toInt_inj.mp
  have h2 : x.toInt < 2 ^ 31 := x.toInt_lt
  rw [nI_toInt (by unfold Int32.toNatClampNeg; omega)]
  unfold Int32.toNatClampNeg; omega
theorem cl_toInt {x : Int32} (h : 0 ≤ x.toInt) : (x.toNatClampNeg : Int) = x.toInt := by unfold Int32.toNatClampNeg; omega
def f_out (own mad spt : Nat → Int32) (made : Nat) (x w : Int32) : Int32 := if p_has made x then (if w.toInt = 0 then own x.toNatClampNeg else if w.toInt = 1 then (if spt x.toNatClampNeg = -1 then nI 1 else nI 0) else if w.toInt = 2 then mad x.toNatClampNeg else if w.toInt = 3 then spt x.toNatClampNeg else -1) else -1
def f_bal (f : Nat → Bool) (amt : Nat → Int64) : Nat → Int64
  | 0 => 0
  | k + 1 => if f k then f_bal f amt k + amt k else f_bal f amt k
def f_nth (f : Nat → Bool) (i : Int32) : Nat → Nat → Int32
  | 0, _ => -1
  | n + 1, k => if f k = true ∧ nI (f_cnt f k) = i then nI k else f_nth f i n (k + 1)
theorem f_nth_no {f : Nat → Bool} {i : Int32} {made k : Nat} (h : k < made) (c : ¬ (f k = true ∧ nI (f_cnt f k) = i)) : f_nth f i (made - k) k = f_nth f i (made - (k + 1)) (k + 1) := by
  rw [show made - k = (made - (k + 1)) + 1 by omega, f_nth, if_neg c]
theorem f_nth_go {f : Nat → Bool} {i : Int32} {made k : Nat} (h : k < made) (c : f k = true ∧ nI (f_cnt f k) = i) : f_nth f i (made - k) k = nI k := by
  rw [show made - k = (made - (k + 1)) + 1 by omega, f_nth, if_pos c]
/-- gathering: the number behind i picks, what is lacking behind them, how many are picked (0: it fails), how many are written -/
def f_pk (own : Nat → Int32) (amt : Nat → Int64) (spt : Nat → Int32) (made : Nat) (o : Int32) : Nat → Int32
  | 0 => -1
  | i + 1 => f_next own amt spt made o (f_pk own amt spt made o i) made
def f_lack (amt : Nat → Int64) (made : Nat) (pk : Nat → Int32) (a : Int64) : Nat → Int64
  | 0 => a
  | j + 1 => f_lack amt made pk a j - f_amt amt made (pk (j + 1))
abbrev p_bad (pk dsp : Nat → Int32) (sp j : Nat) : Prop := pk (j + 1) = -1 ∨ f_any (fun i => decide (dsp i = pk (j + 1))) sp = true
def f_gs (amt : Nat → Int64) (made : Nat) (pk dsp : Nat → Int32) (sp : Nat) (a : Int64) : Nat → Nat → Nat
  | 0, _ => 0
  | n + 1, j => if p_bad pk dsp sp j then 0 else if f_lack amt made pk a (j + 1) ≤ 0 then j + 1 else f_gs amt made pk dsp sp a n (j + 1)
def f_gw (amt : Nat → Int64) (made : Nat) (pk dsp : Nat → Int32) (sp : Nat) (a : Int64) : Nat → Nat → Nat
  | 0, j => j
  | n + 1, j => if p_bad pk dsp sp j then j else if f_lack amt made pk a (j + 1) ≤ 0 then j + 1 else f_gw amt made pk dsp sp a n (j + 1)
theorem f_gs_bad {amt : Nat → Int64} {made : Nat} {pk dsp : Nat → Int32} {sp j : Nat} {a : Int64} (h : j < 16 - sp) (c : p_bad pk dsp sp j) : f_gs amt made pk dsp sp a (16 - sp - j) j = 0 ∧ f_gw amt made pk dsp sp a (16 - sp - j) j = j := by
  rw [show 16 - sp - j = (16 - sp - (j + 1)) + 1 by omega, f_gs, f_gw, if_pos c, if_pos c]; exact ⟨rfl, rfl⟩
theorem f_gs_end {amt : Nat → Int64} {made : Nat} {pk dsp : Nat → Int32} {sp j : Nat} {a : Int64} (h : j < 16 - sp) (c : ¬ p_bad pk dsp sp j) (c2 : f_lack amt made pk a (j + 1) ≤ 0) : f_gs amt made pk dsp sp a (16 - sp - j) j = j + 1 ∧ f_gw amt made pk dsp sp a (16 - sp - j) j = j + 1 := by
  rw [show 16 - sp - j = (16 - sp - (j + 1)) + 1 by omega, f_gs, f_gw, if_neg c, if_neg c, if_pos c2, if_pos c2]; exact ⟨rfl, rfl⟩
theorem f_gs_go {amt : Nat → Int64} {made : Nat} {pk dsp : Nat → Int32} {sp j : Nat} {a : Int64} (h : j < 16 - sp) (c : ¬ p_bad pk dsp sp j) (c2 : ¬ f_lack amt made pk a (j + 1) ≤ 0) : f_gs amt made pk dsp sp a (16 - sp - j) j = f_gs amt made pk dsp sp a (16 - sp - (j + 1)) (j + 1) ∧ f_gw amt made pk dsp sp a (16 - sp - j) j = f_gw amt made pk dsp sp a (16 - sp - (j + 1)) (j + 1) := by
  rw [show 16 - sp - j = (16 - sp - (j + 1)) + 1 by omega, f_gs, f_gw, if_neg c, if_neg c, if_neg c2, if_neg c2]; exact ⟨rfl, rfl⟩
theorem f_any_app {f : Nat → Int32} {b : Nat} {g : Nat → Int32} {i : Nat} {x : Int32} : f_any (fun j => decide (f_app f b g i j = x)) b = true ↔ f_any (fun j => decide (f j = x)) b = true := by
  rw [f_any_iff, f_any_iff]
  constructor
  · rintro ⟨j, h1, h2⟩; rw [f_app_lo h1] at h2; exact ⟨j, h1, h2⟩
  · rintro ⟨j, h1, h2⟩; exact ⟨j, h1, by rw [f_app_lo h1]; exact h2⟩
abbrev f_gans (n : Nat) : Int32 := if n = 0 then -1 else nI n
def f_look (supply pot : Int64) (apl : Int32) (spt : Nat → Int32) (made sp mk : Nat) (mint : Int64) (hgt und : Nat) (w : Int32) : Int64 :=
  if w.toInt = 0 then supply else if w.toInt = 1 then pot else if w.toInt = 2 then (nI hgt).toInt64 else if w.toInt = 3 then (nI made).toInt64 else if w.toInt = 4 then (nI (f_cnt (fun j => decide (spt j = -1)) made)).toInt64 else if w.toInt = 5 then (nI und).toInt64 else if w.toInt = 6 then (nI sp).toInt64 else if w.toInt = 7 then (nI mk).toInt64 else if w.toInt = 8 then mint else if w.toInt = 9 then apl.toInt64 else -1
end
section
abbrev rm_K_feeOfDraft : Room := { frames := 2, cells := 0, slots := 0, locals := 42 }
set_option maxHeartbeats 4000000 in
set_option maxRecDepth 100000 in
theorem c_K_feeOfDraft (l : Launch) (dC : Nat → ClassId) (dI : Nat → Nat → Nat) (q : Nat → Nat) (cI cL : ClassId) (supply : Int64) (pot : Int64) (apl : Int32) (own : Nat → Int32) (amt : Nat → Int64) (tag : Nat → Int64) (mad : Nat → Int32) (spt : Nat → Int32) (made : Nat) (dsp : Nat → Int32) (dow : Nat → Int32) (dam : Nat → Int64) (dtg : Nat → Int64) (sp : Nat) (mk : Nat) (mint : Int64) (dep : Nat) (sups : Nat → Int64) (pots : Nat → Int64) (apps : Nat → Int32) (row : Nat) (hgt : Nat) (und : Nat)  (hm : made ≤ 2048) (hsp : sp ≤ 16) (hmk : mk ≤ 16) : Met l y_K_feeOfDraft w_K_feeOfDraft rm_K_feeOfDraft (va_Pc [.ref (q 0)] (ob_B (dC, dI) vwCl (wK q cI cL supply pot apl own amt tag mad spt made dsp dow dam dtg sp mk mint dep sups pots apps row hgt und) [(cI, .int), (cL, .long)] ob_N)) (QcReadL (f_fee supply mint amt made dsp sp dam mk)) 0 0 (fun _ => False) := by
  refine ob_ofW (cc := b_K_feeOfDraft) (maxL := 4) (ret := (some .long)) (own := R_K) (by decide) rfl rfl (Nat.le_of_ble_eq_true rfl) ?_
  intro p e s m args below meth c Q hQ hx hb hr hml hT hown hlocks hv ls hl
  obtain ⟨hP, hK, hN⟩ := hv
  have hl : lv_has ls 4 [(0, .ref (q 0))] := hl
  refine lv_aload_n hx hb d_K_feeOfDraft_0 rfl (lv_at hl 0 rfl) ?_
  refine va_get (D := (dC, dI)) (ci := 3) (v := .ref (q 7)) (C := R_K) (T := T_K) (N := 6) hx hb hT in_K hown hK hP 0 rfl rfl 1 (by decide) (hT _ k_127) (fun _ h9 => h9) rfl d_K_feeOfDraft_1 ?_
  refine va_getN (D := (dC, dI)) (ci := 1) (v := .long mint) (C := R_D) (T := T_D) (N := 7) hx hb hT in_D hown hK hP 7 rfl rfl 6 (by decide) (va_Nw.use rfl (hN _ (List.mem_of_getElem? (i := 13) rfl))) (fun _ h9 => h9) rfl d_K_feeOfDraft_4 ?_
  refine lv_aload_n hx hb d_K_feeOfDraft_7 rfl (lv_at hl 0 rfl) ?_
  refine va_get (D := (dC, dI)) (ci := 3) (v := .long supply) (C := R_K) (T := T_K) (N := 6) hx hb hT in_K hown hK hP 0 rfl rfl 3 (by decide) (hT _ k_129) (fun _ h9 => h9) rfl d_K_feeOfDraft_8 ?_
  refine lv_lneg hx hb d_K_feeOfDraft_11 ?_
  refine W.lcmp hx hb d_K_feeOfDraft_12 ?_
  refine lv_if_lt (tgt := 35) hx hb d_K_feeOfDraft_13 (by decide) (fun c_13 => ?_) (fun c_13 => ?_)
  · have c_13 := (lg_cmp_lt _ _).mp c_13
    refine lv_ldc2 (v := -2) hx hb hown (hT _ k_209) d_K_feeOfDraft_35 ?_
    exact ob_lret (v := (-2 : Int64)) hx hb hr hlocks hQ (by first | exact (f_fee_no (Or.inl c_13)).symm | exact (f_fee_no (Or.inr c_32)).symm) d_K_feeOfDraft_38
  · have c_13 := mt (lg_cmp_lt _ _).mpr c_13
    refine lv_aload_n hx hb d_K_feeOfDraft_16 rfl (lv_at hl 0 rfl) ?_
    refine va_get (D := (dC, dI)) (ci := 3) (v := .ref (q 7)) (C := R_K) (T := T_K) (N := 6) hx hb hT in_K hown hK hP 0 rfl rfl 1 (by decide) (hT _ k_127) (fun _ h9 => h9) rfl d_K_feeOfDraft_17 ?_
    refine va_getN (D := (dC, dI)) (ci := 1) (v := .long mint) (C := R_D) (T := T_D) (N := 7) hx hb hT in_D hown hK hP 7 rfl rfl 6 (by decide) (va_Nw.use rfl (hN _ (List.mem_of_getElem? (i := 13) rfl))) (fun _ h9 => h9) rfl d_K_feeOfDraft_20 ?_
    refine lv_ldc2 (v := 4611686018427387904) hx hb hown (hT _ k_208) d_K_feeOfDraft_23 ?_
    refine lv_aload_n hx hb d_K_feeOfDraft_26 rfl (lv_at hl 0 rfl) ?_
    refine va_get (D := (dC, dI)) (ci := 3) (v := .long supply) (C := R_K) (T := T_K) (N := 6) hx hb hT in_K hown hK hP 0 rfl rfl 3 (by decide) (hT _ k_129) (fun _ h9 => h9) rfl d_K_feeOfDraft_27 ?_
    refine lv_lsub hx hb d_K_feeOfDraft_30 ?_
    refine W.lcmp hx hb d_K_feeOfDraft_31 ?_
    refine lv_if_le (tgt := 39) hx hb d_K_feeOfDraft_32 (by decide) (fun c_32 => ?_) (fun c_32 => ?_)
    · have c_32 := (lg_cmp_le _ _).mp c_32
      refine lv_aload_n hx hb d_K_feeOfDraft_39 rfl (lv_at hl 0 rfl) ?_
      refine va_get (D := (dC, dI)) (ci := 3) (v := .ref (q 7)) (C := R_K) (T := T_K) (N := 6) hx hb hT in_K hown hK hP 0 rfl rfl 1 (by decide) (hT _ k_127) (fun _ h9 => h9) rfl d_K_feeOfDraft_40 ?_
      refine va_getN (D := (dC, dI)) (ci := 1) (v := .long mint) (C := R_D) (T := T_D) (N := 7) hx hb hT in_D hown hK hP 7 rfl rfl 6 (by decide) (va_Nw.use rfl (hN _ (List.mem_of_getElem? (i := 13) rfl))) (fun _ h9 => h9) rfl d_K_feeOfDraft_43 ?_
      refine lv_lstore_n (lv' := [(1, .long mint), (0, .ref (q 0))]) hx hb d_K_feeOfDraft_46 rfl hl (by decide) rfl (fun ls hl => ?_)
      refine lv_iconst (v := nI 0) hx hb d_K_feeOfDraft_47 (by decide) ?_
      refine lv_istore_n (lv' := [(3, .int (nI 0)), (1, .long mint), (0, .ref (q 0))]) hx hb d_K_feeOfDraft_48 rfl hl (by decide) rfl (fun ls hl => ?_)
      have key_49 : ∀ (n : Nat) (i : Nat) (left : Int64) (ls : Array Slot), sp - i < n → (i ≤ sp) → (left = f_gain amt made dsp mint i) → lv_has ls 4 [(3, .int (nI i)), (1, .long left), (0, .ref (q 0))] → W p l e rm_K_feeOfDraft s m args below meth c s.heap [] 0 0 Q (F0 m 49 ls []) := by
        intro n_49
        induction n_49 with
        | zero => intro i left ls h; exact absurd h (Nat.not_lt_zero _)
        | succ n_49 ih_49 =>
          intro i left ls hn_49 hi hlf hl
          refine lv_iload_n hx hb d_K_feeOfDraft_49 rfl (lv_at hl 0 rfl) ?_
          refine lv_aload_n hx hb d_K_feeOfDraft_50 rfl (lv_at hl 2 rfl) ?_
          refine va_get (D := (dC, dI)) (ci := 3) (v := .ref (q 7)) (C := R_K) (T := T_K) (N := 6) hx hb hT in_K hown hK hP 0 rfl rfl 1 (by decide) (hT _ k_127) (fun _ h9 => h9) rfl d_K_feeOfDraft_51 ?_
          refine va_getN (D := (dC, dI)) (ci := 1) (v := .int (nI sp)) (C := R_D) (T := T_D) (N := 7) hx hb hT in_D hown hK hP 7 rfl rfl 4 (by decide) (va_Nw.use rfl (hN _ (List.mem_of_getElem? (i := 11) rfl))) (fun _ h9 => h9) rfl d_K_feeOfDraft_54 ?_
          refine lv_icmp_ge (tgt := 85) hx hb d_K_feeOfDraft_57 (by decide) (fun c_57 => ?_) (fun c_57 => ?_)
          · have t_57 := (cv_le (nI_toInt (by omega)) (nI_toInt (by omega))).mp c_57
            refine lv_iconst (v := nI 0) hx hb d_K_feeOfDraft_85 (by decide) ?_
            refine lv_istore_n (lv' := [(3, .int (nI 0)), (1, .long left), (0, .ref (q 0))]) hx hb d_K_feeOfDraft_86 rfl hl (by decide) rfl (fun ls hl => ?_)
            have key_87 : ∀ (n : Nat) (j : Nat) (lf2 : Int64) (ls : Array Slot), mk - j < n → (j ≤ mk) → (f_less dam (mk - j) j lf2 = f_less dam mk 0 (f_gain amt made dsp mint sp)) → lv_has ls 4 [(3, .int (nI j)), (1, .long lf2), (0, .ref (q 0))] → W p l e rm_K_feeOfDraft s m args below meth c s.heap [] 0 0 Q (F0 m 87 ls []) := by
              intro n_87
              induction n_87 with
              | zero => intro j lf2 ls h; exact absurd h (Nat.not_lt_zero _)
              | succ n_87 ih_87 =>
                intro j lf2 ls hn_87 hj hres hl
                refine lv_iload_n hx hb d_K_feeOfDraft_87 rfl (lv_at hl 0 rfl) ?_
                refine lv_aload_n hx hb d_K_feeOfDraft_88 rfl (lv_at hl 2 rfl) ?_
                refine va_get (D := (dC, dI)) (ci := 3) (v := .ref (q 7)) (C := R_K) (T := T_K) (N := 6) hx hb hT in_K hown hK hP 0 rfl rfl 1 (by decide) (hT _ k_127) (fun _ h9 => h9) rfl d_K_feeOfDraft_89 ?_
                refine va_getN (D := (dC, dI)) (ci := 1) (v := .int (nI mk)) (C := R_D) (T := T_D) (N := 7) hx hb hT in_D hown hK hP 7 rfl rfl 5 (by decide) (va_Nw.use rfl (hN _ (List.mem_of_getElem? (i := 12) rfl))) (fun _ h9 => h9) rfl d_K_feeOfDraft_92 ?_
                refine lv_icmp_ge (tgt := 134) hx hb d_K_feeOfDraft_95 (by decide) (fun c_95 => ?_) (fun c_95 => ?_)
                · have t_95 := (cv_le (nI_toInt (by omega)) (nI_toInt (by omega))).mp c_95
                  refine lv_lload_n hx hb d_K_feeOfDraft_134 rfl (lv_at hl 1 rfl) ?_
                  exact ob_lret (v := lf2) hx hb hr hlocks hQ (by rw [f_fee_go (fun h => h.elim c_13 (fun z => z c_32)), ← hres, show mk - j = 0 by omega]; rfl) d_K_feeOfDraft_135
                · have t_95 := mt (cv_le (nI_toInt (by omega)) (nI_toInt (by omega))).mpr c_95
                  refine lv_aload_n hx hb d_K_feeOfDraft_98 rfl (lv_at hl 2 rfl) ?_
                  refine va_get (D := (dC, dI)) (ci := 3) (v := .ref (q 7)) (C := R_K) (T := T_K) (N := 6) hx hb hT in_K hown hK hP 0 rfl rfl 1 (by decide) (hT _ k_127) (fun _ h9 => h9) rfl d_K_feeOfDraft_99 ?_
                  refine va_getN (D := (dC, dI)) (ci := 1) (v := .ref (q 10)) (C := R_D) (T := T_D) (N := 7) hx hb hT in_D hown hK hP 7 rfl rfl 2 (by decide) (va_Nw.use rfl (hN _ (List.mem_of_getElem? (i := 9) rfl))) (fun _ h9 => h9) rfl d_K_feeOfDraft_102 ?_
                  refine lv_iload_n hx hb d_K_feeOfDraft_105 rfl (lv_at hl 0 rfl) ?_
                  refine ob_lald hx hb hK hP 10 1 rfl rfl (j := j) (nI_clamp (by omega)) (cv_in (nI_toInt (by omega)) (by omega)) d_K_feeOfDraft_106 ?_
                  refine lv_lload_n hx hb d_K_feeOfDraft_107 rfl (lv_at hl 1 rfl) ?_
                  refine W.lcmp hx hb d_K_feeOfDraft_108 ?_
                  refine lv_if_le (tgt := 116) hx hb d_K_feeOfDraft_109 (by decide) (fun c_109 => ?_) (fun c_109 => ?_)
                  · have c_109 := (lg_cmp_le _ _).mp c_109
                    refine lv_lload_n hx hb d_K_feeOfDraft_116 rfl (lv_at hl 1 rfl) ?_
                    refine lv_aload_n hx hb d_K_feeOfDraft_117 rfl (lv_at hl 2 rfl) ?_
                    refine va_get (D := (dC, dI)) (ci := 3) (v := .ref (q 7)) (C := R_K) (T := T_K) (N := 6) hx hb hT in_K hown hK hP 0 rfl rfl 1 (by decide) (hT _ k_127) (fun _ h9 => h9) rfl d_K_feeOfDraft_118 ?_
                    refine va_getN (D := (dC, dI)) (ci := 1) (v := .ref (q 10)) (C := R_D) (T := T_D) (N := 7) hx hb hT in_D hown hK hP 7 rfl rfl 2 (by decide) (va_Nw.use rfl (hN _ (List.mem_of_getElem? (i := 9) rfl))) (fun _ h9 => h9) rfl d_K_feeOfDraft_121 ?_
                    refine lv_iload_n hx hb d_K_feeOfDraft_124 rfl (lv_at hl 0 rfl) ?_
                    refine ob_lald hx hb hK hP 10 1 rfl rfl (j := j) (nI_clamp (by omega)) (cv_in (nI_toInt (by omega)) (by omega)) d_K_feeOfDraft_125 ?_
                    refine lv_lsub hx hb d_K_feeOfDraft_126 ?_
                    refine lv_lstore_n (lv' := [(1, .long (lf2 - (dam j))), (3, .int (nI j)), (0, .ref (q 0))]) hx hb d_K_feeOfDraft_127 rfl hl (by decide) rfl (fun ls hl => ?_)
                    refine lv_iinc (v := nI (j + 1)) (lv' := [(3, .int (nI (j + 1))), (1, .long (lf2 - (dam j))), (0, .ref (q 0))]) hx hb d_K_feeOfDraft_128 hl (k := 1) rfl (nI_add j 1) (by decide) rfl (fun ls hl => ?_)
                    refine lv_goto (tgt := 87) hx hb d_K_feeOfDraft_131 (by decide) ?_
                    exact ih_87 (j + 1) (lf2 - (dam j)) _ (by omega) (by omega) (by rw [← hres, f_less_go (by omega) c_109]) (lv_sub hl [0, 1, 2] rfl)
                  · have c_109 := mt (lg_cmp_le _ _).mpr c_109
                    refine lv_ldc2 (v := -2) hx hb hown (hT _ k_209) d_K_feeOfDraft_112 ?_
                    exact ob_lret (v := (-2 : Int64)) hx hb hr hlocks hQ (by rw [f_fee_go (fun h => h.elim c_13 (fun z => z c_32)), ← hres, f_less_no (by omega) c_109]) d_K_feeOfDraft_115
            exact key_87 _ 0 left _ (Nat.lt_succ_self _) (Nat.zero_le _) (by rw [hlf, show i = sp by omega]; rfl) (lv_sub hl [0, 1, 2] rfl)
          · have t_57 := mt (cv_le (nI_toInt (by omega)) (nI_toInt (by omega))).mpr c_57
            refine lv_lload_n hx hb d_K_feeOfDraft_60 rfl (lv_at hl 1 rfl) ?_
            refine lv_aload_n hx hb d_K_feeOfDraft_61 rfl (lv_at hl 2 rfl) ?_
            refine va_get (D := (dC, dI)) (ci := 3) (v := .ref (q 1)) (C := R_K) (T := T_K) (N := 6) hx hb hT in_K hown hK hP 0 rfl rfl 0 (by decide) (hT _ k_126) (fun _ h9 => h9) rfl d_K_feeOfDraft_62 ?_
            refine lv_aload_n hx hb d_K_feeOfDraft_65 rfl (lv_at hl 2 rfl) ?_
            refine va_get (D := (dC, dI)) (ci := 3) (v := .ref (q 7)) (C := R_K) (T := T_K) (N := 6) hx hb hT in_K hown hK hP 0 rfl rfl 1 (by decide) (hT _ k_127) (fun _ h9 => h9) rfl d_K_feeOfDraft_66 ?_
            refine va_getN (D := (dC, dI)) (ci := 1) (v := .ref (q 8)) (C := R_D) (T := T_D) (N := 7) hx hb hT in_D hown hK hP 7 rfl rfl 0 (by decide) (va_Nw.use rfl (hN _ (List.mem_of_getElem? (i := 7) rfl))) (fun _ h9 => h9) rfl d_K_feeOfDraft_69 ?_
            refine lv_iload_n hx hb d_K_feeOfDraft_72 rfl (lv_at hl 0 rfl) ?_
            refine ob_iald hx hb hK hP 8 0 rfl rfl (j := i) (nI_clamp (by omega)) (cv_in (nI_toInt (by omega)) (by omega)) d_K_feeOfDraft_73 ?_
            refine ob_callL (W.runV (As := [.int (dsp i)]) (rest := [.long left]) ⟨hx, hb, hml, hown, hT⟩ (c_O_amountOf l dC dI q cI cL own amt tag mad spt made (dsp i) hm) (cwV 1 hT (ob_goodV k_210 k_211 k_212 k_10 k_213) rfl rfl rfl (by decide +kernel) ⟨Nat.le_of_ble_eq_true rfl, Nat.le_of_ble_eq_true rfl⟩) (ob_preV (wc := wO q cI cL own amt tag mad spt made) (q0 := 0) rfl hK hP (fun _ h => absurd h List.not_mem_nil) rfl [1, 2, 3, 4, 5, 6] rfl rfl) rfl rfl hl.1 rfl (lv_room (Nat.le_of_ble_eq_true rfl)) d_K_feeOfDraft_74 ⟨Nat.zero_le _, Nat.zero_le _⟩) ?_
            refine lv_ladd hx hb d_K_feeOfDraft_77 ?_
            refine lv_lstore_n (lv' := [(1, .long (left + (f_amt amt made (dsp i)))), (3, .int (nI i)), (0, .ref (q 0))]) hx hb d_K_feeOfDraft_78 rfl hl (by decide) rfl (fun ls hl => ?_)
            refine lv_iinc (v := nI (i + 1)) (lv' := [(3, .int (nI (i + 1))), (1, .long (left + (f_amt amt made (dsp i)))), (0, .ref (q 0))]) hx hb d_K_feeOfDraft_79 hl (k := 1) rfl (nI_add i 1) (by decide) rfl (fun ls hl => ?_)
            refine lv_goto (tgt := 49) hx hb d_K_feeOfDraft_82 (by decide) ?_
            exact ih_49 (i + 1) (left + (f_amt amt made (dsp i))) _ (by omega) (by omega) (by rw [hlf]; rfl) (lv_sub hl [0, 1, 2] rfl)
      exact key_49 _ 0 mint _ (Nat.lt_succ_self _) (Nat.zero_le _) rfl (lv_sub hl [0, 1, 2] rfl)
    · have c_32 := mt (lg_cmp_le _ _).mpr c_32
      refine lv_ldc2 (v := -2) hx hb hown (hT _ k_209) d_K_feeOfDraft_35 ?_
      exact ob_lret (v := (-2 : Int64)) hx hb hr hlocks hQ (by first | exact (f_fee_no (Or.inl c_13)).symm | exact (f_fee_no (Or.inr c_32)).symm) d_K_feeOfDraft_38
abbrev rm_K_bookDraft : Room := { frames := 3, cells := 0, slots := 0, locals := 64 }
set_option maxHeartbeats 4000000 in
set_option maxRecDepth 100000 in
theorem c_K_bookDraft (l : Launch) (dC : Nat → ClassId) (dI : Nat → Nat → Nat) (q : Nat → Nat) (cI cL : ClassId) (supply : Int64) (pot : Int64) (apl : Int32) (own : Nat → Int32) (amt : Nat → Int64) (tag : Nat → Int64) (mad : Nat → Int32) (spt : Nat → Int32) (made : Nat) (dsp : Nat → Int32) (dow : Nat → Int32) (dam : Nat → Int64) (dtg : Nat → Int64) (sp : Nat) (mk : Nat) (mint : Int64) (dep : Nat) (sups : Nat → Int64) (pots : Nat → Int64) (apps : Nat → Int32) (row : Nat) (hgt : Nat) (und : Nat)  (hm : made ≤ 2048) (hsp : sp ≤ 16) (hmk : mk ≤ 16) (hrm : made + mk ≤ 2048) : Met l y_K_bookDraft w_K_bookDraft rm_K_bookDraft (va_Pc [.ref (q 0)] (ob_BW (dC, dI) vwCl (wK q cI cL supply pot apl own amt tag mad spt made dsp dow dam dtg sp mk mint dep sups pots apps row hgt und) [(cI, .int), (cL, .long)] ob_N)) (va_Qv (fun (_ : Unit) => True) (fun _ t => va_P (dC, dI) vwCl (wK q cI cL supply pot apl (f_app own made dow mk) (f_appL amt made dam mk) (f_appL tag made dtg mk) (f_app mad made (fun _ => nI hgt) mk) (f_app (f_offs spt made dsp (nI hgt) sp) made (fun _ => -1) mk) (made + mk) dsp dow dam dtg sp mk mint dep sups pots apps row hgt und) t.heap) (ob_A (wK q cI cL supply pot apl own amt tag mad spt made dsp dow dam dtg sp mk mint dep sups pots apps row hgt und))) 0 0 (ob_A (wK q cI cL supply pot apl own amt tag mad spt made dsp dow dam dtg sp mk mint dep sups pots apps row hgt und)) := by
  refine ob_ofW (cc := b_K_bookDraft) (maxL := 2) (ret := none) (own := R_K) (by decide) rfl rfl (Nat.le_of_ble_eq_true rfl) ?_
  intro p e s m args below meth c Q hQ hx hb hr hml hT hown hlocks hv ls hl
  obtain ⟨⟨hP, hK, hN⟩, hD0⟩ := hv
  have hD := ob_D_self hD0
  generalize hAe : ob_A (wK q cI cL supply pot apl own amt tag mad spt made dsp dow dam dtg sp mk mint dep sups pots apps row hgt und) = A at hQ hD
  have hS : va_S A s.heap s.heap [] := va_S.rf
  have hl : lv_has ls 2 [(0, .ref (q 0))] := hl
  refine lv_iconst (v := nI 0) hx hb d_K_bookDraft_0 (by decide) ?_
  refine lv_istore_n (lv' := [(1, .int (nI 0)), (0, .ref (q 0))]) hx hb d_K_bookDraft_1 rfl hl (by decide) rfl (fun ls hl => ?_)
  have key_2 : ∀ (n : Nat) (k : Nat) (s1 : Nat → Int32) (H : Heap) (locs : List Loc) (ls : Array Slot), sp - k < n → (k ≤ sp) → (s1 = f_offs spt made dsp (nI hgt) k) → va_P (dC, dI) vwCl (wK q cI cL supply pot apl own amt tag mad s1 made dsp dow dam dtg sp mk mint dep sups pots apps row hgt und) H → va_D A (wK q cI cL supply pot apl own amt tag mad s1 made dsp dow dam dtg sp mk mint dep sups pots apps row hgt und) → va_S A s.heap H locs → lv_has ls 2 [(1, .int (nI k)), (0, .ref (q 0))] → W p l e rm_K_bookDraft s m args below meth c H locs 0 0 Q (F0 m 2 ls []) := by
    intro n_2
    induction n_2 with
    | zero => intro k s1 H locs ls h; exact absurd h (Nat.not_lt_zero _)
    | succ n_2 ih_2 =>
      intro k s1 H locs ls hn_2 hk hs1 hP hD hS hl
      refine lv_iload_n hx hb d_K_bookDraft_2 rfl (lv_at hl 0 rfl) ?_
      refine lv_aload_n hx hb d_K_bookDraft_3 rfl (lv_at hl 1 rfl) ?_
      refine va_get (D := (dC, dI)) (ci := 3) (v := .ref (q 7)) (C := R_K) (T := T_K) (N := 6) hx hb hT in_K hown hK hP 0 rfl rfl 1 (by decide) (hT _ k_127) (fun _ h9 => h9) rfl d_K_bookDraft_4 ?_
      refine va_getN (D := (dC, dI)) (ci := 1) (v := .int (nI sp)) (C := R_D) (T := T_D) (N := 7) hx hb hT in_D hown hK hP 7 rfl rfl 4 (by decide) (va_Nw.use rfl (hN _ (List.mem_of_getElem? (i := 11) rfl))) (fun _ h9 => h9) rfl d_K_bookDraft_7 ?_
      refine lv_icmp_ge (tgt := 42) hx hb d_K_bookDraft_10 (by decide) (fun c_10 => ?_) (fun c_10 => ?_)
      · have t_10 := (cv_le (nI_toInt (by omega)) (nI_toInt (by omega))).mp c_10
        refine lv_iconst (v := nI 0) hx hb d_K_bookDraft_42 (by decide) ?_
        refine lv_istore_n (lv' := [(1, .int (nI 0)), (0, .ref (q 0))]) hx hb d_K_bookDraft_43 rfl hl (by decide) rfl (fun ls hl => ?_)
        have key_44 : ∀ (n : Nat) (i : Nat) (o9 : Nat → Int32) (a9 : Nat → Int64) (g9 : Nat → Int64) (m9 : Nat → Int32) (s9 : Nat → Int32) (n9 : Nat) (H : Heap) (locs : List Loc) (ls : Array Slot), mk - i < n → (i ≤ mk) → (n9 = made + i) → (o9 = f_app own made dow i) → (a9 = f_appL amt made dam i) → (g9 = f_appL tag made dtg i) → (m9 = f_app mad made (fun _ => nI hgt) i) → (s9 = f_app s1 made (fun _ => -1) i) → va_P (dC, dI) vwCl (wK q cI cL supply pot apl o9 a9 g9 m9 s9 n9 dsp dow dam dtg sp mk mint dep sups pots apps row hgt und) H → va_D A (wK q cI cL supply pot apl o9 a9 g9 m9 s9 n9 dsp dow dam dtg sp mk mint dep sups pots apps row hgt und) → va_S A s.heap H locs → lv_has ls 2 [(1, .int (nI i)), (0, .ref (q 0))] → W p l e rm_K_bookDraft s m args below meth c H locs 0 0 Q (F0 m 44 ls []) := by
          intro n_44
          induction n_44 with
          | zero => intro i o9 a9 g9 m9 s9 n9 H locs ls h; exact absurd h (Nat.not_lt_zero _)
          | succ n_44 ih_44 =>
            intro i o9 a9 g9 m9 s9 n9 H locs ls hn_44 hi hn9 ho9 ha9 hg9 hm9 hs9 hP hD hS hl
            refine lv_iload_n hx hb d_K_bookDraft_44 rfl (lv_at hl 0 rfl) ?_
            refine lv_aload_n hx hb d_K_bookDraft_45 rfl (lv_at hl 1 rfl) ?_
            refine va_get (D := (dC, dI)) (ci := 3) (v := .ref (q 7)) (C := R_K) (T := T_K) (N := 6) hx hb hT in_K hown hK hP 0 rfl rfl 1 (by decide) (hT _ k_127) (fun _ h9 => h9) rfl d_K_bookDraft_46 ?_
            refine va_getN (D := (dC, dI)) (ci := 1) (v := .int (nI mk)) (C := R_D) (T := T_D) (N := 7) hx hb hT in_D hown hK hP 7 rfl rfl 5 (by decide) (va_Nw.use rfl (hN _ (List.mem_of_getElem? (i := 12) rfl))) (fun _ h9 => h9) rfl d_K_bookDraft_49 ?_
            refine lv_icmp_ge (tgt := 102) hx hb d_K_bookDraft_52 (by decide) (fun c_52 => ?_) (fun c_52 => ?_)
            · have t_52 := (cv_le (nI_toInt (by omega)) (nI_toInt (by omega))).mp c_52
              exact ob_vretW hx hb hr hlocks hQ hS hP (by rw [ho9, ha9, hg9, hm9, hs9, hs1, hn9, show i = mk by omega, show k = sp by omega]) d_K_bookDraft_102
            · have t_52 := mt (cv_le (nI_toInt (by omega)) (nI_toInt (by omega))).mpr c_52
              refine lv_aload_n hx hb d_K_bookDraft_55 rfl (lv_at hl 1 rfl) ?_
              refine va_get (D := (dC, dI)) (ci := 3) (v := .ref (q 1)) (C := R_K) (T := T_K) (N := 6) hx hb hT in_K hown hK hP 0 rfl rfl 0 (by decide) (hT _ k_126) (fun _ h9 => h9) rfl d_K_bookDraft_56 ?_
              refine lv_aload_n hx hb d_K_bookDraft_59 rfl (lv_at hl 1 rfl) ?_
              refine va_get (D := (dC, dI)) (ci := 3) (v := .ref (q 7)) (C := R_K) (T := T_K) (N := 6) hx hb hT in_K hown hK hP 0 rfl rfl 1 (by decide) (hT _ k_127) (fun _ h9 => h9) rfl d_K_bookDraft_60 ?_
              refine va_getN (D := (dC, dI)) (ci := 1) (v := .ref (q 9)) (C := R_D) (T := T_D) (N := 7) hx hb hT in_D hown hK hP 7 rfl rfl 1 (by decide) (va_Nw.use rfl (hN _ (List.mem_of_getElem? (i := 8) rfl))) (fun _ h9 => h9) rfl d_K_bookDraft_63 ?_
              refine lv_iload_n hx hb d_K_bookDraft_66 rfl (lv_at hl 0 rfl) ?_
              refine ob_iald hx hb hK hP 9 0 rfl rfl (j := i) (nI_clamp (by omega)) (cv_in (nI_toInt (by omega)) (by omega)) d_K_bookDraft_67 ?_
              refine lv_aload_n hx hb d_K_bookDraft_68 rfl (lv_at hl 1 rfl) ?_
              refine va_get (D := (dC, dI)) (ci := 3) (v := .ref (q 7)) (C := R_K) (T := T_K) (N := 6) hx hb hT in_K hown hK hP 0 rfl rfl 1 (by decide) (hT _ k_127) (fun _ h9 => h9) rfl d_K_bookDraft_69 ?_
              refine va_getN (D := (dC, dI)) (ci := 1) (v := .ref (q 10)) (C := R_D) (T := T_D) (N := 7) hx hb hT in_D hown hK hP 7 rfl rfl 2 (by decide) (va_Nw.use rfl (hN _ (List.mem_of_getElem? (i := 9) rfl))) (fun _ h9 => h9) rfl d_K_bookDraft_72 ?_
              refine lv_iload_n hx hb d_K_bookDraft_75 rfl (lv_at hl 0 rfl) ?_
              refine ob_lald hx hb hK hP 10 1 rfl rfl (j := i) (nI_clamp (by omega)) (cv_in (nI_toInt (by omega)) (by omega)) d_K_bookDraft_76 ?_
              refine lv_aload_n hx hb d_K_bookDraft_77 rfl (lv_at hl 1 rfl) ?_
              refine va_get (D := (dC, dI)) (ci := 3) (v := .ref (q 7)) (C := R_K) (T := T_K) (N := 6) hx hb hT in_K hown hK hP 0 rfl rfl 1 (by decide) (hT _ k_127) (fun _ h9 => h9) rfl d_K_bookDraft_78 ?_
              refine va_getN (D := (dC, dI)) (ci := 1) (v := .ref (q 11)) (C := R_D) (T := T_D) (N := 7) hx hb hT in_D hown hK hP 7 rfl rfl 3 (by decide) (va_Nw.use rfl (hN _ (List.mem_of_getElem? (i := 10) rfl))) (fun _ h9 => h9) rfl d_K_bookDraft_81 ?_
              refine lv_iload_n hx hb d_K_bookDraft_84 rfl (lv_at hl 0 rfl) ?_
              refine ob_lald hx hb hK hP 11 1 rfl rfl (j := i) (nI_clamp (by omega)) (cv_in (nI_toInt (by omega)) (by omega)) d_K_bookDraft_85 ?_
              refine lv_aload_n hx hb d_K_bookDraft_86 rfl (lv_at hl 1 rfl) ?_
              refine va_get (D := (dC, dI)) (ci := 3) (v := .ref (q 12)) (C := R_K) (T := T_K) (N := 6) hx hb hT in_K hown hK hP 0 rfl rfl 2 (by decide) (hT _ k_128) (fun _ h9 => h9) rfl d_K_bookDraft_87 ?_
              refine va_getN (D := (dC, dI)) (ci := 0) (v := .int (nI hgt)) (C := R_B) (T := T_B) (N := 7) hx hb hT in_B hown hK hP 12 rfl rfl 5 (by decide) (va_Nw.use rfl (hN _ (List.mem_of_getElem? (i := 14) rfl))) (fun _ h9 => h9) rfl d_K_bookDraft_90 ?_
              refine ob_callWv (va_runV (As := [.int (dow i), .long (dam i), .long (dtg i), .int (nI hgt)]) (rest := []) ⟨hx, hb, hml, hown, hT⟩ (c_O_add l dC dI q cI cL o9 a9 g9 m9 s9 n9 (dow i) (dam i) (dtg i) (nI hgt) (by omega)) (cwV 4 hT (ob_goodV k_228 k_229 k_230 k_10 k_231) rfl rfl rfl (by decide +kernel) ⟨Nat.le_of_ble_eq_true rfl, Nat.le_of_ble_eq_true rfl⟩) (ob_preVW (wc := wO q cI cL o9 a9 g9 m9 s9 n9) (q0 := 0) rfl hK hP hD (fun _ h => absurd h List.not_mem_nil) rfl [1, 2, 3, 4, 5, 6] rfl rfl rfl rfl) rfl rfl hl.1 rfl (lv_room (Nat.le_of_ble_eq_true rfl)) d_K_bookDraft_93 ⟨Nat.zero_le _, Nat.zero_le _⟩) hS hP hD [1, 2, 3, 4, 5, 6] rfl rfl (fun H locs hP hD hS => ?_)
              have hP : va_P (dC, dI) vwCl (wK q cI cL supply pot apl (upd o9 n9 (dow i)) (vp_updL a9 n9 (dam i)) (vp_updL g9 n9 (dtg i)) (upd m9 n9 (nI hgt)) (upd s9 n9 (-1 : Int32)) (n9 + 1) dsp dow dam dtg sp mk mint dep sups pots apps row hgt und) H := hP
              have hD : va_D A (wK q cI cL supply pot apl (upd o9 n9 (dow i)) (vp_updL a9 n9 (dam i)) (vp_updL g9 n9 (dtg i)) (upd m9 n9 (nI hgt)) (upd s9 n9 (-1 : Int32)) (n9 + 1) dsp dow dam dtg sp mk mint dep sups pots apps row hgt und) := hD
              refine lv_iinc (v := nI (i + 1)) (lv' := [(1, .int (nI (i + 1))), (0, .ref (q 0))]) hx hb d_K_bookDraft_96 hl (k := 0) rfl (nI_add i 1) (by decide) rfl (fun ls hl => ?_)
              refine lv_goto (tgt := 44) hx hb d_K_bookDraft_99 (by decide) ?_
              exact ih_44 (i + 1) (upd o9 n9 (dow i)) (vp_updL a9 n9 (dam i)) (vp_updL g9 n9 (dtg i)) (upd m9 n9 (nI hgt)) (upd s9 n9 (-1 : Int32)) (n9 + 1) _ _ _ (by omega) (by omega) (by omega) (by rw [ho9, hn9]; rfl) (by rw [ha9, hn9]; rfl) (by rw [hg9, hn9]; rfl) (by rw [hm9, hn9]; rfl) (by rw [hs9, hn9]; rfl) hP hD hS (lv_sub hl [0, 1] rfl)
        exact key_44 _ 0 own amt tag mad s1 made _ _ _ (Nat.lt_succ_self _) (Nat.zero_le _) rfl rfl rfl rfl rfl rfl hP hD hS (lv_sub hl [0, 1] rfl)
      · have t_10 := mt (cv_le (nI_toInt (by omega)) (nI_toInt (by omega))).mpr c_10
        refine lv_aload_n hx hb d_K_bookDraft_13 rfl (lv_at hl 1 rfl) ?_
        refine va_get (D := (dC, dI)) (ci := 3) (v := .ref (q 1)) (C := R_K) (T := T_K) (N := 6) hx hb hT in_K hown hK hP 0 rfl rfl 0 (by decide) (hT _ k_126) (fun _ h9 => h9) rfl d_K_bookDraft_14 ?_
        refine lv_aload_n hx hb d_K_bookDraft_17 rfl (lv_at hl 1 rfl) ?_
        refine va_get (D := (dC, dI)) (ci := 3) (v := .ref (q 7)) (C := R_K) (T := T_K) (N := 6) hx hb hT in_K hown hK hP 0 rfl rfl 1 (by decide) (hT _ k_127) (fun _ h9 => h9) rfl d_K_bookDraft_18 ?_
        refine va_getN (D := (dC, dI)) (ci := 1) (v := .ref (q 8)) (C := R_D) (T := T_D) (N := 7) hx hb hT in_D hown hK hP 7 rfl rfl 0 (by decide) (va_Nw.use rfl (hN _ (List.mem_of_getElem? (i := 7) rfl))) (fun _ h9 => h9) rfl d_K_bookDraft_21 ?_
        refine lv_iload_n hx hb d_K_bookDraft_24 rfl (lv_at hl 0 rfl) ?_
        refine ob_iald hx hb hK hP 8 0 rfl rfl (j := k) (nI_clamp (by omega)) (cv_in (nI_toInt (by omega)) (by omega)) d_K_bookDraft_25 ?_
        refine lv_aload_n hx hb d_K_bookDraft_26 rfl (lv_at hl 1 rfl) ?_
        refine va_get (D := (dC, dI)) (ci := 3) (v := .ref (q 12)) (C := R_K) (T := T_K) (N := 6) hx hb hT in_K hown hK hP 0 rfl rfl 2 (by decide) (hT _ k_128) (fun _ h9 => h9) rfl d_K_bookDraft_27 ?_
        refine va_getN (D := (dC, dI)) (ci := 0) (v := .int (nI hgt)) (C := R_B) (T := T_B) (N := 7) hx hb hT in_B hown hK hP 12 rfl rfl 5 (by decide) (va_Nw.use rfl (hN _ (List.mem_of_getElem? (i := 14) rfl))) (fun _ h9 => h9) rfl d_K_bookDraft_30 ?_
        refine ob_callWv (va_runV (As := [.int (dsp k), .int (nI hgt)]) (rest := []) ⟨hx, hb, hml, hown, hT⟩ (c_O_takeOff l dC dI q cI cL own amt tag mad s1 made (dsp k) (nI hgt) hm) (cwV 2 hT (ob_goodV k_223 k_224 k_225 k_10 k_226) rfl rfl rfl (by decide +kernel) ⟨Nat.le_of_ble_eq_true rfl, Nat.le_of_ble_eq_true rfl⟩) (ob_preVW (wc := wO q cI cL own amt tag mad s1 made) (q0 := 0) rfl hK hP hD (fun _ h => absurd h List.not_mem_nil) rfl [1, 2, 3, 4, 5, 6] rfl rfl rfl rfl) rfl rfl hl.1 rfl (lv_room (Nat.le_of_ble_eq_true rfl)) d_K_bookDraft_33 ⟨Nat.zero_le _, Nat.zero_le _⟩) hS hP hD [1, 2, 3, 4, 5, 6] rfl rfl (fun H locs hP hD hS => ?_)
        have hP : va_P (dC, dI) vwCl (wK q cI cL supply pot apl own amt tag mad (f_off s1 made (dsp k) (nI hgt)) made dsp dow dam dtg sp mk mint dep sups pots apps row hgt und) H := hP
        have hD : va_D A (wK q cI cL supply pot apl own amt tag mad (f_off s1 made (dsp k) (nI hgt)) made dsp dow dam dtg sp mk mint dep sups pots apps row hgt und) := hD
        refine lv_iinc (v := nI (k + 1)) (lv' := [(1, .int (nI (k + 1))), (0, .ref (q 0))]) hx hb d_K_bookDraft_36 hl (k := 0) rfl (nI_add k 1) (by decide) rfl (fun ls hl => ?_)
        refine lv_goto (tgt := 2) hx hb d_K_bookDraft_39 (by decide) ?_
        exact ih_2 (k + 1) (f_off s1 made (dsp k) (nI hgt)) _ _ _ (by omega) (by omega) (by rw [hs1]; rfl) hP hD hS (lv_sub hl [0, 1] rfl)
  exact key_2 _ 0 spt _ _ _ (Nat.lt_succ_self _) (Nat.zero_le _) rfl hP hD hS (lv_sub hl [0, 1] rfl)
abbrev rm_K_spend_t : Room := { frames := 2, cells := 0, slots := 0, locals := 42 }
set_option maxHeartbeats 4000000 in
set_option maxRecDepth 100000 in
theorem c_K_spend_t (l : Launch) (dC : Nat → ClassId) (dI : Nat → Nat → Nat) (q : Nat → Nat) (cI cL : ClassId) (supply : Int64) (pot : Int64) (apl : Int32) (own : Nat → Int32) (amt : Nat → Int64) (tag : Nat → Int64) (mad : Nat → Int32) (spt : Nat → Int32) (made : Nat) (dsp : Nat → Int32) (dow : Nat → Int32) (dam : Nat → Int64) (dtg : Nat → Int64) (sp : Nat) (mk : Nat) (mint : Int64) (dep : Nat) (sups : Nat → Int64) (pots : Nat → Int64) (apps : Nat → Int32) (row : Nat) (hgt : Nat) (und : Nat) (x : Int32) (hm : made ≤ 2048) (hsp : sp ≤ 16) (h1 : p_live spt made x) (h2 : ¬ f_any (fun j => decide (dsp j = x)) sp = true) (h3 : sp < 16) : Met l y_K_spend w_K_spend rm_K_spend_t (va_Pc [.ref (q 0), .int x] (ob_BW (dC, dI) vwCl (wK q cI cL supply pot apl own amt tag mad spt made dsp dow dam dtg sp mk mint dep sups pots apps row hgt und) [(cI, .int), (cL, .long)] ob_N)) (va_Qi (fun (r : Int32) (_ : Unit) => r = nI 1) (fun _ t => va_P (dC, dI) vwCl (wK q cI cL supply pot apl own amt tag mad spt made (upd dsp (sp + 0) x) dow dam dtg (sp + 1) mk mint dep sups pots apps row hgt und) t.heap) (ob_A (wK q cI cL supply pot apl own amt tag mad spt made dsp dow dam dtg sp mk mint dep sups pots apps row hgt und))) 0 0 (ob_A (wK q cI cL supply pot apl own amt tag mad spt made dsp dow dam dtg sp mk mint dep sups pots apps row hgt und)) := by
  refine ob_ofW (cc := b_K_spend) (maxL := 2) (ret := (some .boolean)) (own := R_K) (by decide) rfl rfl (Nat.le_of_ble_eq_true rfl) ?_
  intro p e s m args below meth c Q hQ hx hb hr hml hT hown hlocks hv ls hl
  obtain ⟨⟨hP, hK, hN⟩, hD0⟩ := hv
  have hD := ob_D_self hD0
  generalize hAe : ob_A (wK q cI cL supply pot apl own amt tag mad spt made dsp dow dam dtg sp mk mint dep sups pots apps row hgt und) = A at hQ hD
  have hS : va_S A s.heap s.heap [] := va_S.rf
  have hl : lv_has ls 2 [(0, .ref (q 0)), (1, .int x)] := hl
  refine lv_aload_n hx hb d_K_spend_0 rfl (lv_at hl 0 rfl) ?_
  refine va_get (D := (dC, dI)) (ci := 3) (v := .ref (q 1)) (C := R_K) (T := T_K) (N := 6) hx hb hT in_K hown hK hP 0 rfl rfl 0 (by decide) (hT _ k_126) (fun _ h9 => h9) rfl d_K_spend_1 ?_
  refine lv_iload_n hx hb d_K_spend_4 rfl (lv_at hl 1 rfl) ?_
  refine ob_callR (W.runV (As := [.int x]) (rest := []) ⟨hx, hb, hml, hown, hT⟩ (c_O_isLive l dC dI q cI cL own amt tag mad spt made x hm) (cwV 1 hT (ob_goodV k_149 k_150 k_151 k_10 k_152) rfl rfl rfl (by decide +kernel) ⟨Nat.le_of_ble_eq_true rfl, Nat.le_of_ble_eq_true rfl⟩) (ob_preV (wc := wO q cI cL own amt tag mad spt made) (q0 := 0) rfl hK hP (fun _ h => absurd h List.not_mem_nil) rfl [1, 2, 3, 4, 5, 6] rfl rfl) rfl rfl hl.1 rfl (lv_room (Nat.le_of_ble_eq_true rfl)) d_K_spend_5 ⟨Nat.zero_le _, Nat.zero_le _⟩) ?_
  refine ob_split (P := p_live spt made x) (fun b_5 => ?_) (fun b_5 => ?_)
  · refine lv_if_eq (tgt := 33) hx hb d_K_spend_8 (by decide) (fun c => absurd c (by decide)) (fun _ => ?_)
    refine lv_aload_n hx hb d_K_spend_11 rfl (lv_at hl 0 rfl) ?_
    refine va_get (D := (dC, dI)) (ci := 3) (v := .ref (q 7)) (C := R_K) (T := T_K) (N := 6) hx hb hT in_K hown hK hP 0 rfl rfl 1 (by decide) (hT _ k_127) (fun _ h9 => h9) rfl d_K_spend_12 ?_
    refine lv_iload_n hx hb d_K_spend_15 rfl (lv_at hl 1 rfl) ?_
    refine ob_callR (W.runV (As := [.int x]) (rest := []) ⟨hx, hb, hml, hown, hT⟩ (c_D_hasToSpend l dC dI q cI cL dsp dow dam dtg sp mk mint x hsp) (cwV 1 hT (ob_goodV k_157 k_158 k_159 k_11 k_160) rfl rfl rfl (by decide +kernel) ⟨Nat.le_of_ble_eq_true rfl, Nat.le_of_ble_eq_true rfl⟩) (ob_preV (wc := wD q cI cL dsp dow dam dtg sp mk mint) (q0 := 0) rfl hK hP (fun _ h => absurd h List.not_mem_nil) rfl [7, 8, 9, 10, 11] rfl rfl) rfl rfl hl.1 rfl (lv_room (Nat.le_of_ble_eq_true rfl)) d_K_spend_16 ⟨Nat.zero_le _, Nat.zero_le _⟩) ?_
    refine ob_split (P := f_any (fun j => decide (dsp j = x)) sp = true) (fun b_16 => ?_) (fun b_16 => ?_)
    · exact absurd b_16 h2
    · refine lv_if_ne (tgt := 33) hx hb d_K_spend_19 (by decide) (fun c => absurd c (by decide)) (fun _ => ?_)
      refine lv_aload_n hx hb d_K_spend_22 rfl (lv_at hl 0 rfl) ?_
      refine va_get (D := (dC, dI)) (ci := 3) (v := .ref (q 7)) (C := R_K) (T := T_K) (N := 6) hx hb hT in_K hown hK hP 0 rfl rfl 1 (by decide) (hT _ k_127) (fun _ h9 => h9) rfl d_K_spend_23 ?_
      refine ob_callR (W.runV (As := []) (rest := []) ⟨hx, hb, hml, hown, hT⟩ (c_D_roomToSpend l dC dI q cI cL dsp dow dam dtg sp mk mint hsp) (cwV 0 hT (ob_goodV k_161 k_162 k_163 k_11 k_164) rfl rfl rfl (by decide +kernel) ⟨Nat.le_of_ble_eq_true rfl, Nat.le_of_ble_eq_true rfl⟩) (ob_preV (wc := wD q cI cL dsp dow dam dtg sp mk mint) (q0 := 0) rfl hK hP (fun _ h => absurd h List.not_mem_nil) rfl [7, 8, 9, 10, 11] rfl rfl) rfl rfl hl.1 rfl (lv_room (Nat.le_of_ble_eq_true rfl)) d_K_spend_26 ⟨Nat.zero_le _, Nat.zero_le _⟩) ?_
      refine lv_iconst (v := nI 1) hx hb d_K_spend_29 (by decide) ?_
      refine lv_icmp_ge (tgt := 35) hx hb d_K_spend_30 (by decide) (fun c_30 => ?_) (fun c_30 => ?_)
      · have t_30 := (cv_le (nI_toInt (by omega)) (nI_toInt (by omega))).mp c_30
        refine lv_aload_n hx hb d_K_spend_35 rfl (lv_at hl 0 rfl) ?_
        refine va_get (D := (dC, dI)) (ci := 3) (v := .ref (q 7)) (C := R_K) (T := T_K) (N := 6) hx hb hT in_K hown hK hP 0 rfl rfl 1 (by decide) (hT _ k_127) (fun _ h9 => h9) rfl d_K_spend_36 ?_
        refine lv_iconst (v := nI 0) hx hb d_K_spend_39 (by decide) ?_
        refine lv_iload_n hx hb d_K_spend_40 rfl (lv_at hl 1 rfl) ?_
        refine ob_callWv (va_runV (As := [.int (nI 0), .int x]) (rest := []) ⟨hx, hb, hml, hown, hT⟩ (c_D_writeToSpend l dC dI q cI cL dsp dow dam dtg sp mk mint 0 x (by omega)) (cwV 2 hT (ob_goodV k_165 k_166 k_167 k_11 k_168) rfl rfl rfl (by decide +kernel) ⟨Nat.le_of_ble_eq_true rfl, Nat.le_of_ble_eq_true rfl⟩) (ob_preVW (wc := wD q cI cL dsp dow dam dtg sp mk mint) (q0 := 0) rfl hK hP hD (fun _ h => absurd h List.not_mem_nil) rfl [7, 8, 9, 10, 11] rfl rfl rfl rfl) rfl rfl hl.1 rfl (lv_room (Nat.le_of_ble_eq_true rfl)) d_K_spend_41 ⟨Nat.zero_le _, Nat.zero_le _⟩) hS hP hD [7, 8, 9, 10, 11] rfl rfl (fun H locs hP hD hS => ?_)
        have hP : va_P (dC, dI) vwCl (wK q cI cL supply pot apl own amt tag mad spt made (upd dsp (sp + 0) x) dow dam dtg sp mk mint dep sups pots apps row hgt und) H := hP
        have hD : va_D A (wK q cI cL supply pot apl own amt tag mad spt made (upd dsp (sp + 0) x) dow dam dtg sp mk mint dep sups pots apps row hgt und) := hD
        refine lv_aload_n hx hb d_K_spend_44 rfl (lv_at hl 0 rfl) ?_
        refine va_get (D := (dC, dI)) (ci := 3) (v := .ref (q 7)) (C := R_K) (T := T_K) (N := 6) hx hb hT in_K hown hK hP 0 rfl rfl 1 (by decide) (hT _ k_127) (fun _ h9 => h9) rfl d_K_spend_45 ?_
        refine lv_iconst (v := nI 1) hx hb d_K_spend_48 (by decide) ?_
        refine ob_callWv (va_runV (As := [.int (nI 1)]) (rest := []) ⟨hx, hb, hml, hown, hT⟩ (c_D_keepToSpend l dC dI q cI cL (upd dsp (sp + 0) x) dow dam dtg sp mk mint 1 (by omega)) (cwV 1 hT (ob_goodV k_170 k_171 k_172 k_11 k_173) rfl rfl rfl (by decide +kernel) ⟨Nat.le_of_ble_eq_true rfl, Nat.le_of_ble_eq_true rfl⟩) (ob_preVW (wc := wD q cI cL (upd dsp (sp + 0) x) dow dam dtg sp mk mint) (q0 := 0) rfl hK hP hD (fun _ h => absurd h List.not_mem_nil) rfl [7, 8, 9, 10, 11] rfl rfl rfl rfl) rfl rfl hl.1 rfl (lv_room (Nat.le_of_ble_eq_true rfl)) d_K_spend_49 ⟨Nat.zero_le _, Nat.zero_le _⟩) hS hP hD [7, 8, 9, 10, 11] rfl rfl (fun H locs hP hD hS => ?_)
        have hP : va_P (dC, dI) vwCl (wK q cI cL supply pot apl own amt tag mad spt made (upd dsp (sp + 0) x) dow dam dtg (sp + 1) mk mint dep sups pots apps row hgt und) H := hP
        have hD : va_D A (wK q cI cL supply pot apl own amt tag mad spt made (upd dsp (sp + 0) x) dow dam dtg (sp + 1) mk mint dep sups pots apps row hgt und) := hD
        refine lv_iconst (v := nI 1) hx hb d_K_spend_52 (by decide) ?_
        exact ob_zretW (v := nI 1) hx hb hr hlocks hQ hS hP rfl (by decide) rfl d_K_spend_53
      · have t_30 := mt (cv_le (nI_toInt (by omega)) (nI_toInt (by omega))).mpr c_30
        exact absurd t_30 (by omega)
  · exact absurd h1 b_5
abbrev rm_K_spend_f : Room := { frames := 2, cells := 0, slots := 0, locals := 42 }
set_option maxHeartbeats 4000000 in
set_option maxRecDepth 100000 in
theorem c_K_spend_f (l : Launch) (dC : Nat → ClassId) (dI : Nat → Nat → Nat) (q : Nat → Nat) (cI cL : ClassId) (supply : Int64) (pot : Int64) (apl : Int32) (own : Nat → Int32) (amt : Nat → Int64) (tag : Nat → Int64) (mad : Nat → Int32) (spt : Nat → Int32) (made : Nat) (dsp : Nat → Int32) (dow : Nat → Int32) (dam : Nat → Int64) (dtg : Nat → Int64) (sp : Nat) (mk : Nat) (mint : Int64) (dep : Nat) (sups : Nat → Int64) (pots : Nat → Int64) (apps : Nat → Int32) (row : Nat) (hgt : Nat) (und : Nat) (x : Int32) (hm : made ≤ 2048) (hsp : sp ≤ 16) (hno : ¬ (p_live spt made x ∧ ¬ f_any (fun j => decide (dsp j = x)) sp = true ∧ sp < 16)) : Met l y_K_spend w_K_spend rm_K_spend_f (va_Pc [.ref (q 0), .int x] (ob_B (dC, dI) vwCl (wK q cI cL supply pot apl own amt tag mad spt made dsp dow dam dtg sp mk mint dep sups pots apps row hgt und) [(cI, .int), (cL, .long)] ob_N)) (QcRead (nI 0)) 0 0 (fun _ => False) := by
  refine ob_ofW (cc := b_K_spend) (maxL := 2) (ret := (some .boolean)) (own := R_K) (by decide) rfl rfl (Nat.le_of_ble_eq_true rfl) ?_
  intro p e s m args below meth c Q hQ hx hb hr hml hT hown hlocks hv ls hl
  obtain ⟨hP, hK, hN⟩ := hv
  have hl : lv_has ls 2 [(0, .ref (q 0)), (1, .int x)] := hl
  refine lv_aload_n hx hb d_K_spend_0 rfl (lv_at hl 0 rfl) ?_
  refine va_get (D := (dC, dI)) (ci := 3) (v := .ref (q 1)) (C := R_K) (T := T_K) (N := 6) hx hb hT in_K hown hK hP 0 rfl rfl 0 (by decide) (hT _ k_126) (fun _ h9 => h9) rfl d_K_spend_1 ?_
  refine lv_iload_n hx hb d_K_spend_4 rfl (lv_at hl 1 rfl) ?_
  refine ob_callR (W.runV (As := [.int x]) (rest := []) ⟨hx, hb, hml, hown, hT⟩ (c_O_isLive l dC dI q cI cL own amt tag mad spt made x hm) (cwV 1 hT (ob_goodV k_149 k_150 k_151 k_10 k_152) rfl rfl rfl (by decide +kernel) ⟨Nat.le_of_ble_eq_true rfl, Nat.le_of_ble_eq_true rfl⟩) (ob_preV (wc := wO q cI cL own amt tag mad spt made) (q0 := 0) rfl hK hP (fun _ h => absurd h List.not_mem_nil) rfl [1, 2, 3, 4, 5, 6] rfl rfl) rfl rfl hl.1 rfl (lv_room (Nat.le_of_ble_eq_true rfl)) d_K_spend_5 ⟨Nat.zero_le _, Nat.zero_le _⟩) ?_
  refine ob_split (P := p_live spt made x) (fun b_5 => ?_) (fun b_5 => ?_)
  · refine lv_if_eq (tgt := 33) hx hb d_K_spend_8 (by decide) (fun c => absurd c (by decide)) (fun _ => ?_)
    refine lv_aload_n hx hb d_K_spend_11 rfl (lv_at hl 0 rfl) ?_
    refine va_get (D := (dC, dI)) (ci := 3) (v := .ref (q 7)) (C := R_K) (T := T_K) (N := 6) hx hb hT in_K hown hK hP 0 rfl rfl 1 (by decide) (hT _ k_127) (fun _ h9 => h9) rfl d_K_spend_12 ?_
    refine lv_iload_n hx hb d_K_spend_15 rfl (lv_at hl 1 rfl) ?_
    refine ob_callR (W.runV (As := [.int x]) (rest := []) ⟨hx, hb, hml, hown, hT⟩ (c_D_hasToSpend l dC dI q cI cL dsp dow dam dtg sp mk mint x hsp) (cwV 1 hT (ob_goodV k_157 k_158 k_159 k_11 k_160) rfl rfl rfl (by decide +kernel) ⟨Nat.le_of_ble_eq_true rfl, Nat.le_of_ble_eq_true rfl⟩) (ob_preV (wc := wD q cI cL dsp dow dam dtg sp mk mint) (q0 := 0) rfl hK hP (fun _ h => absurd h List.not_mem_nil) rfl [7, 8, 9, 10, 11] rfl rfl) rfl rfl hl.1 rfl (lv_room (Nat.le_of_ble_eq_true rfl)) d_K_spend_16 ⟨Nat.zero_le _, Nat.zero_le _⟩) ?_
    refine ob_split (P := f_any (fun j => decide (dsp j = x)) sp = true) (fun b_16 => ?_) (fun b_16 => ?_)
    · refine lv_if_ne (tgt := 33) hx hb d_K_spend_19 (by decide) (fun _ => ?_) (fun c => absurd c (by decide))
      refine lv_iconst (v := nI 0) hx hb d_K_spend_33 (by decide) ?_
      exact ob_zret (v := nI 0) hx hb hr hlocks hQ (by decide) rfl d_K_spend_34
    · refine lv_if_ne (tgt := 33) hx hb d_K_spend_19 (by decide) (fun c => absurd c (by decide)) (fun _ => ?_)
      refine lv_aload_n hx hb d_K_spend_22 rfl (lv_at hl 0 rfl) ?_
      refine va_get (D := (dC, dI)) (ci := 3) (v := .ref (q 7)) (C := R_K) (T := T_K) (N := 6) hx hb hT in_K hown hK hP 0 rfl rfl 1 (by decide) (hT _ k_127) (fun _ h9 => h9) rfl d_K_spend_23 ?_
      refine ob_callR (W.runV (As := []) (rest := []) ⟨hx, hb, hml, hown, hT⟩ (c_D_roomToSpend l dC dI q cI cL dsp dow dam dtg sp mk mint hsp) (cwV 0 hT (ob_goodV k_161 k_162 k_163 k_11 k_164) rfl rfl rfl (by decide +kernel) ⟨Nat.le_of_ble_eq_true rfl, Nat.le_of_ble_eq_true rfl⟩) (ob_preV (wc := wD q cI cL dsp dow dam dtg sp mk mint) (q0 := 0) rfl hK hP (fun _ h => absurd h List.not_mem_nil) rfl [7, 8, 9, 10, 11] rfl rfl) rfl rfl hl.1 rfl (lv_room (Nat.le_of_ble_eq_true rfl)) d_K_spend_26 ⟨Nat.zero_le _, Nat.zero_le _⟩) ?_
      refine lv_iconst (v := nI 1) hx hb d_K_spend_29 (by decide) ?_
      refine lv_icmp_ge (tgt := 35) hx hb d_K_spend_30 (by decide) (fun c_30 => ?_) (fun c_30 => ?_)
      · have t_30 := (cv_le (nI_toInt (by omega)) (nI_toInt (by omega))).mp c_30
        exact absurd ⟨b_5, b_16, by omega⟩ hno
      · have t_30 := mt (cv_le (nI_toInt (by omega)) (nI_toInt (by omega))).mpr c_30
        refine lv_iconst (v := nI 0) hx hb d_K_spend_33 (by decide) ?_
        exact ob_zret (v := nI 0) hx hb hr hlocks hQ (by decide) rfl d_K_spend_34
  · refine lv_if_eq (tgt := 33) hx hb d_K_spend_8 (by decide) (fun _ => ?_) (fun c => absurd c (by decide))
    refine lv_iconst (v := nI 0) hx hb d_K_spend_33 (by decide) ?_
    exact ob_zret (v := nI 0) hx hb hr hlocks hQ (by decide) rfl d_K_spend_34
abbrev rm_K_make_t : Room := { frames := 2, cells := 0, slots := 0, locals := 45 }
set_option maxHeartbeats 4000000 in
set_option maxRecDepth 100000 in
theorem c_K_make_t (l : Launch) (dC : Nat → ClassId) (dI : Nat → Nat → Nat) (q : Nat → Nat) (cI cL : ClassId) (supply : Int64) (pot : Int64) (apl : Int32) (own : Nat → Int32) (amt : Nat → Int64) (tag : Nat → Int64) (mad : Nat → Int32) (spt : Nat → Int32) (made : Nat) (dsp : Nat → Int32) (dow : Nat → Int32) (dam : Nat → Int64) (dtg : Nat → Int64) (sp : Nat) (mk : Nat) (mint : Int64) (dep : Nat) (sups : Nat → Int64) (pots : Nat → Int64) (apps : Nat → Int32) (row : Nat) (hgt : Nat) (und : Nat) (o : Int32) (a : Int64) (g : Int64) (hmk : mk ≤ 16) (h1 : 0 ≤ o.toInt ∧ o.toInt < 256) (h2 : ¬ a < 1) (h3 : mk < 16) : Met l y_K_make w_K_make rm_K_make_t (va_Pc [.ref (q 0), .int o, .long a, .long g] (ob_BW (dC, dI) vwCl (wK q cI cL supply pot apl own amt tag mad spt made dsp dow dam dtg sp mk mint dep sups pots apps row hgt und) [(cI, .int), (cL, .long)] ob_N)) (va_Qi (fun (r : Int32) (_ : Unit) => r = nI 1) (fun _ t => va_P (dC, dI) vwCl (wK q cI cL supply pot apl own amt tag mad spt made dsp (upd dow mk o) (vp_updL dam mk a) (vp_updL dtg mk g) sp (mk + 1) mint dep sups pots apps row hgt und) t.heap) (ob_A (wK q cI cL supply pot apl own amt tag mad spt made dsp dow dam dtg sp mk mint dep sups pots apps row hgt und))) 0 0 (ob_A (wK q cI cL supply pot apl own amt tag mad spt made dsp dow dam dtg sp mk mint dep sups pots apps row hgt und)) := by
  refine ob_ofW (cc := b_K_make) (maxL := 6) (ret := (some .boolean)) (own := R_K) (by decide) rfl rfl (Nat.le_of_ble_eq_true rfl) ?_
  intro p e s m args below meth c Q hQ hx hb hr hml hT hown hlocks hv ls hl
  obtain ⟨⟨hP, hK, hN⟩, hD0⟩ := hv
  have hD := ob_D_self hD0
  generalize hAe : ob_A (wK q cI cL supply pot apl own amt tag mad spt made dsp dow dam dtg sp mk mint dep sups pots apps row hgt und) = A at hQ hD
  have hS : va_S A s.heap s.heap [] := va_S.rf
  have hl : lv_has ls 6 [(0, .ref (q 0)), (1, .int o), (2, .long a), (4, .long g)] := hl
  refine lv_iload_n hx hb d_K_make_0 rfl (lv_at hl 1 rfl) ?_
  refine lv_if_lt (tgt := 28) hx hb d_K_make_1 (by decide) (fun c_1 => ?_) (fun c_1 => ?_)
  · have t_1 := (cv_lt rfl (by decide : (0 : Int32).toInt = 0)).mp c_1
    exact absurd t_1 (by omega)
  · have t_1 := mt (cv_lt rfl (by decide : (0 : Int32).toInt = 0)).mpr c_1
    refine lv_iload_n hx hb d_K_make_4 rfl (lv_at hl 1 rfl) ?_
    refine lv_sipush (v := nI 256) hx hb d_K_make_5 (by decide) ?_
    refine lv_icmp_ge (tgt := 28) hx hb d_K_make_8 (by decide) (fun c_8 => ?_) (fun c_8 => ?_)
    · have t_8 := (cv_le (nI_toInt (by omega)) rfl).mp c_8
      exact absurd t_8 (by omega)
    · have t_8 := mt (cv_le (nI_toInt (by omega)) rfl).mpr c_8
      refine lv_lload_n hx hb d_K_make_11 rfl (lv_at hl 2 rfl) ?_
      refine lv_lconst (v := 1) hx hb d_K_make_12 (by decide) ?_
      refine W.lcmp hx hb d_K_make_13 ?_
      refine lv_if_lt (tgt := 28) hx hb d_K_make_14 (by decide) (fun c_14 => ?_) (fun c_14 => ?_)
      · have c_14 := (lg_cmp_lt _ _).mp c_14
        exact absurd c_14 h2
      · have c_14 := mt (lg_cmp_lt _ _).mpr c_14
        refine lv_aload_n hx hb d_K_make_17 rfl (lv_at hl 0 rfl) ?_
        refine va_get (D := (dC, dI)) (ci := 3) (v := .ref (q 7)) (C := R_K) (T := T_K) (N := 6) hx hb hT in_K hown hK hP 0 rfl rfl 1 (by decide) (hT _ k_127) (fun _ h9 => h9) rfl d_K_make_18 ?_
        refine ob_callR (W.runV (As := []) (rest := []) ⟨hx, hb, hml, hown, hT⟩ (c_D_roomToMake l dC dI q cI cL dsp dow dam dtg sp mk mint hmk) (cwV 0 hT (ob_goodV k_178 k_179 k_180 k_11 k_181) rfl rfl rfl (by decide +kernel) ⟨Nat.le_of_ble_eq_true rfl, Nat.le_of_ble_eq_true rfl⟩) (ob_preV (wc := wD q cI cL dsp dow dam dtg sp mk mint) (q0 := 0) rfl hK hP (fun _ h => absurd h List.not_mem_nil) rfl [7, 8, 9, 10, 11] rfl rfl) rfl rfl hl.1 rfl (lv_room (Nat.le_of_ble_eq_true rfl)) d_K_make_21 ⟨Nat.zero_le _, Nat.zero_le _⟩) ?_
        refine lv_iconst (v := nI 1) hx hb d_K_make_24 (by decide) ?_
        refine lv_icmp_ge (tgt := 30) hx hb d_K_make_25 (by decide) (fun c_25 => ?_) (fun c_25 => ?_)
        · have t_25 := (cv_le (nI_toInt (by omega)) (nI_toInt (by omega))).mp c_25
          refine lv_aload_n hx hb d_K_make_30 rfl (lv_at hl 0 rfl) ?_
          refine va_get (D := (dC, dI)) (ci := 3) (v := .ref (q 7)) (C := R_K) (T := T_K) (N := 6) hx hb hT in_K hown hK hP 0 rfl rfl 1 (by decide) (hT _ k_127) (fun _ h9 => h9) rfl d_K_make_31 ?_
          refine lv_iload_n hx hb d_K_make_34 rfl (lv_at hl 1 rfl) ?_
          refine lv_lload_n hx hb d_K_make_35 rfl (lv_at hl 2 rfl) ?_
          refine lv_lload hx hb d_K_make_36 (lv_at hl 3 rfl) ?_
          refine ob_callWv (va_runV (As := [.int o, .long a, .long g]) (rest := []) ⟨hx, hb, hml, hown, hT⟩ (c_D_addToMake l dC dI q cI cL dsp dow dam dtg sp mk mint o a g (by omega)) (cwV 3 hT (ob_goodV k_182 k_183 k_184 k_11 k_185) rfl rfl rfl (by decide +kernel) ⟨Nat.le_of_ble_eq_true rfl, Nat.le_of_ble_eq_true rfl⟩) (ob_preVW (wc := wD q cI cL dsp dow dam dtg sp mk mint) (q0 := 0) rfl hK hP hD (fun _ h => absurd h List.not_mem_nil) rfl [7, 8, 9, 10, 11] rfl rfl rfl rfl) rfl rfl hl.1 rfl (lv_room (Nat.le_of_ble_eq_true rfl)) d_K_make_38 ⟨Nat.zero_le _, Nat.zero_le _⟩) hS hP hD [7, 8, 9, 10, 11] rfl rfl (fun H locs hP hD hS => ?_)
          have hP : va_P (dC, dI) vwCl (wK q cI cL supply pot apl own amt tag mad spt made dsp (upd dow mk o) (vp_updL dam mk a) (vp_updL dtg mk g) sp (mk + 1) mint dep sups pots apps row hgt und) H := hP
          have hD : va_D A (wK q cI cL supply pot apl own amt tag mad spt made dsp (upd dow mk o) (vp_updL dam mk a) (vp_updL dtg mk g) sp (mk + 1) mint dep sups pots apps row hgt und) := hD
          refine lv_iconst (v := nI 1) hx hb d_K_make_41 (by decide) ?_
          exact ob_zretW (v := nI 1) hx hb hr hlocks hQ hS hP rfl (by decide) rfl d_K_make_42
        · have t_25 := mt (cv_le (nI_toInt (by omega)) (nI_toInt (by omega))).mpr c_25
          exact absurd t_25 (by omega)
abbrev rm_K_make_f : Room := { frames := 1, cells := 0, slots := 0, locals := 20 }
set_option maxHeartbeats 4000000 in
set_option maxRecDepth 100000 in
theorem c_K_make_f (l : Launch) (dC : Nat → ClassId) (dI : Nat → Nat → Nat) (q : Nat → Nat) (cI cL : ClassId) (supply : Int64) (pot : Int64) (apl : Int32) (own : Nat → Int32) (amt : Nat → Int64) (tag : Nat → Int64) (mad : Nat → Int32) (spt : Nat → Int32) (made : Nat) (dsp : Nat → Int32) (dow : Nat → Int32) (dam : Nat → Int64) (dtg : Nat → Int64) (sp : Nat) (mk : Nat) (mint : Int64) (dep : Nat) (sups : Nat → Int64) (pots : Nat → Int64) (apps : Nat → Int32) (row : Nat) (hgt : Nat) (und : Nat) (o : Int32) (a : Int64) (g : Int64) (hmk : mk ≤ 16) (hno : ¬ ((0 ≤ o.toInt ∧ o.toInt < 256) ∧ ¬ a < 1 ∧ mk < 16)) : Met l y_K_make w_K_make rm_K_make_f (va_Pc [.ref (q 0), .int o, .long a, .long g] (ob_B (dC, dI) vwCl (wK q cI cL supply pot apl own amt tag mad spt made dsp dow dam dtg sp mk mint dep sups pots apps row hgt und) [(cI, .int), (cL, .long)] ob_N)) (QcRead (nI 0)) 0 0 (fun _ => False) := by
  refine ob_ofW (cc := b_K_make) (maxL := 6) (ret := (some .boolean)) (own := R_K) (by decide) rfl rfl (Nat.le_of_ble_eq_true rfl) ?_
  intro p e s m args below meth c Q hQ hx hb hr hml hT hown hlocks hv ls hl
  obtain ⟨hP, hK, hN⟩ := hv
  have hl : lv_has ls 6 [(0, .ref (q 0)), (1, .int o), (2, .long a), (4, .long g)] := hl
  refine lv_iload_n hx hb d_K_make_0 rfl (lv_at hl 1 rfl) ?_
  refine lv_if_lt (tgt := 28) hx hb d_K_make_1 (by decide) (fun c_1 => ?_) (fun c_1 => ?_)
  · have t_1 := (cv_lt rfl (by decide : (0 : Int32).toInt = 0)).mp c_1
    refine lv_iconst (v := nI 0) hx hb d_K_make_28 (by decide) ?_
    exact ob_zret (v := nI 0) hx hb hr hlocks hQ (by decide) rfl d_K_make_29
  · have t_1 := mt (cv_lt rfl (by decide : (0 : Int32).toInt = 0)).mpr c_1
    refine lv_iload_n hx hb d_K_make_4 rfl (lv_at hl 1 rfl) ?_
    refine lv_sipush (v := nI 256) hx hb d_K_make_5 (by decide) ?_
    refine lv_icmp_ge (tgt := 28) hx hb d_K_make_8 (by decide) (fun c_8 => ?_) (fun c_8 => ?_)
    · have t_8 := (cv_le (nI_toInt (by omega)) rfl).mp c_8
      refine lv_iconst (v := nI 0) hx hb d_K_make_28 (by decide) ?_
      exact ob_zret (v := nI 0) hx hb hr hlocks hQ (by decide) rfl d_K_make_29
    · have t_8 := mt (cv_le (nI_toInt (by omega)) rfl).mpr c_8
      refine lv_lload_n hx hb d_K_make_11 rfl (lv_at hl 2 rfl) ?_
      refine lv_lconst (v := 1) hx hb d_K_make_12 (by decide) ?_
      refine W.lcmp hx hb d_K_make_13 ?_
      refine lv_if_lt (tgt := 28) hx hb d_K_make_14 (by decide) (fun c_14 => ?_) (fun c_14 => ?_)
      · have c_14 := (lg_cmp_lt _ _).mp c_14
        refine lv_iconst (v := nI 0) hx hb d_K_make_28 (by decide) ?_
        exact ob_zret (v := nI 0) hx hb hr hlocks hQ (by decide) rfl d_K_make_29
      · have c_14 := mt (lg_cmp_lt _ _).mpr c_14
        refine lv_aload_n hx hb d_K_make_17 rfl (lv_at hl 0 rfl) ?_
        refine va_get (D := (dC, dI)) (ci := 3) (v := .ref (q 7)) (C := R_K) (T := T_K) (N := 6) hx hb hT in_K hown hK hP 0 rfl rfl 1 (by decide) (hT _ k_127) (fun _ h9 => h9) rfl d_K_make_18 ?_
        refine ob_callR (W.runV (As := []) (rest := []) ⟨hx, hb, hml, hown, hT⟩ (c_D_roomToMake l dC dI q cI cL dsp dow dam dtg sp mk mint hmk) (cwV 0 hT (ob_goodV k_178 k_179 k_180 k_11 k_181) rfl rfl rfl (by decide +kernel) ⟨Nat.le_of_ble_eq_true rfl, Nat.le_of_ble_eq_true rfl⟩) (ob_preV (wc := wD q cI cL dsp dow dam dtg sp mk mint) (q0 := 0) rfl hK hP (fun _ h => absurd h List.not_mem_nil) rfl [7, 8, 9, 10, 11] rfl rfl) rfl rfl hl.1 rfl (lv_room (Nat.le_of_ble_eq_true rfl)) d_K_make_21 ⟨Nat.zero_le _, Nat.zero_le _⟩) ?_
        refine lv_iconst (v := nI 1) hx hb d_K_make_24 (by decide) ?_
        refine lv_icmp_ge (tgt := 30) hx hb d_K_make_25 (by decide) (fun c_25 => ?_) (fun c_25 => ?_)
        · have t_25 := (cv_le (nI_toInt (by omega)) (nI_toInt (by omega))).mp c_25
          exact absurd ⟨⟨by omega, by omega⟩, c_14, by omega⟩ hno
        · have t_25 := mt (cv_le (nI_toInt (by omega)) (nI_toInt (by omega))).mpr c_25
          refine lv_iconst (v := nI 0) hx hb d_K_make_28 (by decide) ?_
          exact ob_zret (v := nI 0) hx hb hr hlocks hQ (by decide) rfl d_K_make_29
abbrev rm_K_mint : Room := { frames := 0, cells := 0, slots := 0, locals := 0 }
set_option maxHeartbeats 4000000 in
set_option maxRecDepth 100000 in
theorem c_K_mint (l : Launch) (dC : Nat → ClassId) (dI : Nat → Nat → Nat) (q : Nat → Nat) (cI cL : ClassId) (supply : Int64) (pot : Int64) (apl : Int32) (own : Nat → Int32) (amt : Nat → Int64) (tag : Nat → Int64) (mad : Nat → Int32) (spt : Nat → Int32) (made : Nat) (dsp : Nat → Int32) (dow : Nat → Int32) (dam : Nat → Int64) (dtg : Nat → Int64) (sp : Nat) (mk : Nat) (mint : Int64) (dep : Nat) (sups : Nat → Int64) (pots : Nat → Int64) (apps : Nat → Int32) (row : Nat) (hgt : Nat) (und : Nat) (a : Int64)  : Met l y_K_mint w_K_mint rm_K_mint (va_Pc [.ref (q 0), .long a] (ob_BW (dC, dI) vwCl (wK q cI cL supply pot apl own amt tag mad spt made dsp dow dam dtg sp mk mint dep sups pots apps row hgt und) [(cI, .int), (cL, .long)] ob_N)) (va_Qv (fun (_ : Unit) => True) (fun _ t => va_P (dC, dI) vwCl (wK q cI cL supply pot apl own amt tag mad spt made dsp dow dam dtg sp mk a dep sups pots apps row hgt und) t.heap) (ob_A (wK q cI cL supply pot apl own amt tag mad spt made dsp dow dam dtg sp mk mint dep sups pots apps row hgt und))) 0 0 (ob_A (wK q cI cL supply pot apl own amt tag mad spt made dsp dow dam dtg sp mk mint dep sups pots apps row hgt und)) := by
  refine ob_ofW (cc := b_K_mint) (maxL := 3) (ret := none) (own := R_K) (by decide) rfl rfl (Nat.le_of_ble_eq_true rfl) ?_
  intro p e s m args below meth c Q hQ hx hb hr hml hT hown hlocks hv ls hl
  obtain ⟨⟨hP, hK, hN⟩, hD0⟩ := hv
  have hD := ob_D_self hD0
  generalize hAe : ob_A (wK q cI cL supply pot apl own amt tag mad spt made dsp dow dam dtg sp mk mint dep sups pots apps row hgt und) = A at hQ hD
  have hS : va_S A s.heap s.heap [] := va_S.rf
  have hl : lv_has ls 3 [(0, .ref (q 0)), (1, .long a)] := hl
  refine lv_aload_n hx hb d_K_mint_0 rfl (lv_at hl 0 rfl) ?_
  refine va_get (D := (dC, dI)) (ci := 3) (v := .ref (q 7)) (C := R_K) (T := T_K) (N := 6) hx hb hT in_K hown hK hP 0 rfl rfl 1 (by decide) (hT _ k_127) (fun _ h9 => h9) rfl d_K_mint_1 ?_
  refine lv_lload_n hx hb d_K_mint_4 rfl (lv_at hl 1 rfl) ?_
  refine va_putN (D := (dC, dI)) (ci := 1) (v := .long a) (ty := .long) (C := R_D) (T := T_D) (N := 7) hx hb hT in_D t_D t_D_ok n_D hown hK hP hD hS 7 rfl rfl 6 (by decide) (va_Nw.use rfl (hN _ (List.mem_of_getElem? (i := 13) rfl))) (fun _ h9 => h9) rfl (by decide +kernel) rfl rfl (Nat.le_of_ble_eq_true rfl) d_K_mint_5 (fun H locs hP hD hS => ?_)
  have hP : va_P (dC, dI) vwCl (wK q cI cL supply pot apl own amt tag mad spt made dsp dow dam dtg sp mk a dep sups pots apps row hgt und) H := hP
  have hD : va_D A (wK q cI cL supply pot apl own amt tag mad spt made dsp dow dam dtg sp mk a dep sups pots apps row hgt und) := hD
  exact ob_vretW hx hb hr hlocks hQ hS hP rfl d_K_mint_8
abbrev rm_K_drop : Room := { frames := 1, cells := 0, slots := 0, locals := 20 }
set_option maxHeartbeats 4000000 in
set_option maxRecDepth 100000 in
theorem c_K_drop (l : Launch) (dC : Nat → ClassId) (dI : Nat → Nat → Nat) (q : Nat → Nat) (cI cL : ClassId) (supply : Int64) (pot : Int64) (apl : Int32) (own : Nat → Int32) (amt : Nat → Int64) (tag : Nat → Int64) (mad : Nat → Int32) (spt : Nat → Int32) (made : Nat) (dsp : Nat → Int32) (dow : Nat → Int32) (dam : Nat → Int64) (dtg : Nat → Int64) (sp : Nat) (mk : Nat) (mint : Int64) (dep : Nat) (sups : Nat → Int64) (pots : Nat → Int64) (apps : Nat → Int32) (row : Nat) (hgt : Nat) (und : Nat)   : Met l y_K_drop w_K_drop rm_K_drop (va_Pc [.ref (q 0)] (ob_BW (dC, dI) vwCl (wK q cI cL supply pot apl own amt tag mad spt made dsp dow dam dtg sp mk mint dep sups pots apps row hgt und) [(cI, .int), (cL, .long)] ob_N)) (va_Qv (fun (_ : Unit) => True) (fun _ t => va_P (dC, dI) vwCl (wK q cI cL supply pot apl own amt tag mad spt made dsp dow dam dtg 0 0 (0 : Int64) dep sups pots apps row hgt und) t.heap) (ob_A (wK q cI cL supply pot apl own amt tag mad spt made dsp dow dam dtg sp mk mint dep sups pots apps row hgt und))) 0 0 (ob_A (wK q cI cL supply pot apl own amt tag mad spt made dsp dow dam dtg sp mk mint dep sups pots apps row hgt und)) := by
  refine ob_ofW (cc := b_K_drop) (maxL := 1) (ret := none) (own := R_K) (by decide) rfl rfl (Nat.le_of_ble_eq_true rfl) ?_
  intro p e s m args below meth c Q hQ hx hb hr hml hT hown hlocks hv ls hl
  obtain ⟨⟨hP, hK, hN⟩, hD0⟩ := hv
  have hD := ob_D_self hD0
  generalize hAe : ob_A (wK q cI cL supply pot apl own amt tag mad spt made dsp dow dam dtg sp mk mint dep sups pots apps row hgt und) = A at hQ hD
  have hS : va_S A s.heap s.heap [] := va_S.rf
  have hl : lv_has ls 1 [(0, .ref (q 0))] := hl
  refine lv_aload_n hx hb d_K_drop_0 rfl (lv_at hl 0 rfl) ?_
  refine va_get (D := (dC, dI)) (ci := 3) (v := .ref (q 7)) (C := R_K) (T := T_K) (N := 6) hx hb hT in_K hown hK hP 0 rfl rfl 1 (by decide) (hT _ k_127) (fun _ h9 => h9) rfl d_K_drop_1 ?_
  refine ob_callWv (va_runV (As := []) (rest := []) ⟨hx, hb, hml, hown, hT⟩ (c_D_clear l dC dI q cI cL dsp dow dam dtg sp mk mint ) (cwV 0 hT (ob_goodV k_195 k_196 k_197 k_11 k_198) rfl rfl rfl (by decide +kernel) ⟨Nat.le_of_ble_eq_true rfl, Nat.le_of_ble_eq_true rfl⟩) (ob_preVW (wc := wD q cI cL dsp dow dam dtg sp mk mint) (q0 := 0) rfl hK hP hD (fun _ h => absurd h List.not_mem_nil) rfl [7, 8, 9, 10, 11] rfl rfl rfl rfl) rfl rfl hl.1 rfl (lv_room (Nat.le_of_ble_eq_true rfl)) d_K_drop_4 ⟨Nat.zero_le _, Nat.zero_le _⟩) hS hP hD [7, 8, 9, 10, 11] rfl rfl (fun H locs hP hD hS => ?_)
  have hP : va_P (dC, dI) vwCl (wK q cI cL supply pot apl own amt tag mad spt made dsp dow dam dtg 0 0 (0 : Int64) dep sups pots apps row hgt und) H := hP
  have hD : va_D A (wK q cI cL supply pot apl own amt tag mad spt made dsp dow dam dtg 0 0 (0 : Int64) dep sups pots apps row hgt und) := hD
  exact ob_vretW hx hb hr hlocks hQ hS hP rfl d_K_drop_7
abbrev rm_K_apply_n : Room := { frames := 0, cells := 0, slots := 0, locals := 0 }
set_option maxHeartbeats 4000000 in
set_option maxRecDepth 100000 in
theorem c_K_apply_n (l : Launch) (dC : Nat → ClassId) (dI : Nat → Nat → Nat) (q : Nat → Nat) (cI cL : ClassId) (supply : Int64) (pot : Int64) (apl : Int32) (own : Nat → Int32) (amt : Nat → Int64) (tag : Nat → Int64) (mad : Nat → Int32) (spt : Nat → Int32) (made : Nat) (dsp : Nat → Int32) (dow : Nat → Int32) (dam : Nat → Int64) (dtg : Nat → Int64) (sp : Nat) (mk : Nat) (mint : Int64) (dep : Nat) (sups : Nat → Int64) (pots : Nat → Int64) (apps : Nat → Int32) (row : Nat) (hgt : Nat) (und : Nat)  (h1 : sp = 0) (h2 : mk = 0) : Met l y_K_apply w_K_apply rm_K_apply_n (va_Pc [.ref (q 0)] (ob_B (dC, dI) vwCl (wK q cI cL supply pot apl own amt tag mad spt made dsp dow dam dtg sp mk mint dep sups pots apps row hgt und) [(cI, .int), (cL, .long)] ob_N)) (QcReadL ((-1 : Int64))) 0 0 (fun _ => False) := by
  refine ob_ofW (cc := b_K_apply) (maxL := 3) (ret := (some .long)) (own := R_K) (by decide) rfl rfl (Nat.le_of_ble_eq_true rfl) ?_
  intro p e s m args below meth c Q hQ hx hb hr hml hT hown hlocks hv ls hl
  obtain ⟨hP, hK, hN⟩ := hv
  have hl : lv_has ls 3 [(0, .ref (q 0))] := hl
  refine lv_aload_n hx hb d_K_apply_0 rfl (lv_at hl 0 rfl) ?_
  refine va_get (D := (dC, dI)) (ci := 3) (v := .ref (q 7)) (C := R_K) (T := T_K) (N := 6) hx hb hT in_K hown hK hP 0 rfl rfl 1 (by decide) (hT _ k_127) (fun _ h9 => h9) rfl d_K_apply_1 ?_
  refine va_getN (D := (dC, dI)) (ci := 1) (v := .int (nI sp)) (C := R_D) (T := T_D) (N := 7) hx hb hT in_D hown hK hP 7 rfl rfl 4 (by decide) (va_Nw.use rfl (hN _ (List.mem_of_getElem? (i := 11) rfl))) (fun _ h9 => h9) rfl d_K_apply_4 ?_
  refine lv_if_ne (tgt := 24) hx hb d_K_apply_7 (by decide) (fun c_7 => ?_) (fun c_7 => ?_)
  · have t_7 := mt (cv_eq (nI_toInt (by omega)) (by decide : (0 : Int32).toInt = 0)).mpr c_7
    exact absurd t_7 (by omega)
  · have t_7 := (cv_eq (nI_toInt (by omega)) (by decide : (0 : Int32).toInt = 0)).mp c_7
    refine lv_aload_n hx hb d_K_apply_10 rfl (lv_at hl 0 rfl) ?_
    refine va_get (D := (dC, dI)) (ci := 3) (v := .ref (q 7)) (C := R_K) (T := T_K) (N := 6) hx hb hT in_K hown hK hP 0 rfl rfl 1 (by decide) (hT _ k_127) (fun _ h9 => h9) rfl d_K_apply_11 ?_
    refine va_getN (D := (dC, dI)) (ci := 1) (v := .int (nI mk)) (C := R_D) (T := T_D) (N := 7) hx hb hT in_D hown hK hP 7 rfl rfl 5 (by decide) (va_Nw.use rfl (hN _ (List.mem_of_getElem? (i := 12) rfl))) (fun _ h9 => h9) rfl d_K_apply_14 ?_
    refine lv_if_ne (tgt := 24) hx hb d_K_apply_17 (by decide) (fun c_17 => ?_) (fun c_17 => ?_)
    · have t_17 := mt (cv_eq (nI_toInt (by omega)) (by decide : (0 : Int32).toInt = 0)).mpr c_17
      exact absurd t_17 (by omega)
    · have t_17 := (cv_eq (nI_toInt (by omega)) (by decide : (0 : Int32).toInt = 0)).mp c_17
      refine lv_ldc2 (v := -1) hx hb hown (hT _ k_203) d_K_apply_20 ?_
      exact ob_lret (v := (-1 : Int64)) hx hb hr hlocks hQ rfl d_K_apply_23
end
section
abbrev rm_K_apply_c : Room := { frames := 3, cells := 0, slots := 0, locals := 65 }
set_option maxHeartbeats 4000000 in
set_option maxRecDepth 100000 in
theorem c_K_apply_c (l : Launch) (dC : Nat → ClassId) (dI : Nat → Nat → Nat) (q : Nat → Nat) (cI cL : ClassId) (supply : Int64) (pot : Int64) (apl : Int32) (own : Nat → Int32) (amt : Nat → Int64) (tag : Nat → Int64) (mad : Nat → Int32) (spt : Nat → Int32) (made : Nat) (dsp : Nat → Int32) (dow : Nat → Int32) (dam : Nat → Int64) (dtg : Nat → Int64) (sp : Nat) (mk : Nat) (mint : Int64) (dep : Nat) (sups : Nat → Int64) (pots : Nat → Int64) (apps : Nat → Int32) (row : Nat) (hgt : Nat) (und : Nat)  (hm : made ≤ 2048) (hsp : sp ≤ 16) (hmk : mk ≤ 16) (h1 : ¬ (sp = 0 ∧ mk = 0)) (h2 : ¬ 0 ≤ f_fee supply mint amt made dsp sp dam mk) : Met l y_K_apply w_K_apply rm_K_apply_c (va_Pc [.ref (q 0)] (ob_B (dC, dI) vwCl (wK q cI cL supply pot apl own amt tag mad spt made dsp dow dam dtg sp mk mint dep sups pots apps row hgt und) [(cI, .int), (cL, .long)] ob_N)) (QcReadL ((-2 : Int64))) 0 0 (fun _ => False) := by
  refine ob_ofW (cc := b_K_apply) (maxL := 3) (ret := (some .long)) (own := R_K) (by decide) rfl rfl (Nat.le_of_ble_eq_true rfl) ?_
  intro p e s m args below meth c Q hQ hx hb hr hml hT hown hlocks hv ls hl
  obtain ⟨hP, hK, hN⟩ := hv
  have hl : lv_has ls 3 [(0, .ref (q 0))] := hl
  refine lv_aload_n hx hb d_K_apply_0 rfl (lv_at hl 0 rfl) ?_
  refine va_get (D := (dC, dI)) (ci := 3) (v := .ref (q 7)) (C := R_K) (T := T_K) (N := 6) hx hb hT in_K hown hK hP 0 rfl rfl 1 (by decide) (hT _ k_127) (fun _ h9 => h9) rfl d_K_apply_1 ?_
  refine va_getN (D := (dC, dI)) (ci := 1) (v := .int (nI sp)) (C := R_D) (T := T_D) (N := 7) hx hb hT in_D hown hK hP 7 rfl rfl 4 (by decide) (va_Nw.use rfl (hN _ (List.mem_of_getElem? (i := 11) rfl))) (fun _ h9 => h9) rfl d_K_apply_4 ?_
  refine lv_if_ne (tgt := 24) hx hb d_K_apply_7 (by decide) (fun c_7 => ?_) (fun c_7 => ?_)
  · have t_7 := mt (cv_eq (nI_toInt (by omega)) (by decide : (0 : Int32).toInt = 0)).mpr c_7
    refine lv_aload_n hx hb d_K_apply_24 rfl (lv_at hl 0 rfl) ?_
    refine ob_callL (W.runV (As := []) (rest := []) ⟨hx, hb, hml, hown, hT⟩ (c_K_feeOfDraft l dC dI q cI cL supply pot apl own amt tag mad spt made dsp dow dam dtg sp mk mint dep sups pots apps row hgt und hm hsp hmk) (cwV 0 hT (ob_goodV k_204 k_206 k_0 k_9 k_207) rfl rfl rfl (by decide +kernel) ⟨Nat.le_of_ble_eq_true rfl, Nat.le_of_ble_eq_true rfl⟩) (ob_preV (wc := wK q cI cL supply pot apl own amt tag mad spt made dsp dow dam dtg sp mk mint dep sups pots apps row hgt und) (q0 := 0) rfl hK hP hN rfl [0, 1, 2, 3, 4, 5, 6, 7, 8, 9, 10, 11, 12, 13, 14, 15] rfl rfl) rfl rfl hl.1 rfl (lv_room (Nat.le_of_ble_eq_true rfl)) d_K_apply_25 ⟨Nat.zero_le _, Nat.zero_le _⟩) ?_
    refine lv_lstore_n (lv' := [(1, .long (f_fee supply mint amt made dsp sp dam mk)), (0, .ref (q 0))]) hx hb d_K_apply_28 rfl hl (by decide) rfl (fun ls hl => ?_)
    refine lv_lload_n hx hb d_K_apply_29 rfl (lv_at hl 0 rfl) ?_
    refine lv_lconst (v := 0) hx hb d_K_apply_30 (by decide) ?_
    refine W.lcmp hx hb d_K_apply_31 ?_
    refine lv_if_ge (tgt := 39) hx hb d_K_apply_32 (by decide) (fun c_32 => ?_) (fun c_32 => ?_)
    · have c_32 := (lg_cmp_ge _ _).mp c_32
      exact absurd c_32 h2
    · have c_32 := mt (lg_cmp_ge _ _).mpr c_32
      refine lv_ldc2 (v := -2) hx hb hown (hT _ k_209) d_K_apply_35 ?_
      exact ob_lret (v := (-2 : Int64)) hx hb hr hlocks hQ rfl d_K_apply_38
  · have t_7 := (cv_eq (nI_toInt (by omega)) (by decide : (0 : Int32).toInt = 0)).mp c_7
    refine lv_aload_n hx hb d_K_apply_10 rfl (lv_at hl 0 rfl) ?_
    refine va_get (D := (dC, dI)) (ci := 3) (v := .ref (q 7)) (C := R_K) (T := T_K) (N := 6) hx hb hT in_K hown hK hP 0 rfl rfl 1 (by decide) (hT _ k_127) (fun _ h9 => h9) rfl d_K_apply_11 ?_
    refine va_getN (D := (dC, dI)) (ci := 1) (v := .int (nI mk)) (C := R_D) (T := T_D) (N := 7) hx hb hT in_D hown hK hP 7 rfl rfl 5 (by decide) (va_Nw.use rfl (hN _ (List.mem_of_getElem? (i := 12) rfl))) (fun _ h9 => h9) rfl d_K_apply_14 ?_
    refine lv_if_ne (tgt := 24) hx hb d_K_apply_17 (by decide) (fun c_17 => ?_) (fun c_17 => ?_)
    · have t_17 := mt (cv_eq (nI_toInt (by omega)) (by decide : (0 : Int32).toInt = 0)).mpr c_17
      refine lv_aload_n hx hb d_K_apply_24 rfl (lv_at hl 0 rfl) ?_
      refine ob_callL (W.runV (As := []) (rest := []) ⟨hx, hb, hml, hown, hT⟩ (c_K_feeOfDraft l dC dI q cI cL supply pot apl own amt tag mad spt made dsp dow dam dtg sp mk mint dep sups pots apps row hgt und hm hsp hmk) (cwV 0 hT (ob_goodV k_204 k_206 k_0 k_9 k_207) rfl rfl rfl (by decide +kernel) ⟨Nat.le_of_ble_eq_true rfl, Nat.le_of_ble_eq_true rfl⟩) (ob_preV (wc := wK q cI cL supply pot apl own amt tag mad spt made dsp dow dam dtg sp mk mint dep sups pots apps row hgt und) (q0 := 0) rfl hK hP hN rfl [0, 1, 2, 3, 4, 5, 6, 7, 8, 9, 10, 11, 12, 13, 14, 15] rfl rfl) rfl rfl hl.1 rfl (lv_room (Nat.le_of_ble_eq_true rfl)) d_K_apply_25 ⟨Nat.zero_le _, Nat.zero_le _⟩) ?_
      refine lv_lstore_n (lv' := [(1, .long (f_fee supply mint amt made dsp sp dam mk)), (0, .ref (q 0))]) hx hb d_K_apply_28 rfl hl (by decide) rfl (fun ls hl => ?_)
      refine lv_lload_n hx hb d_K_apply_29 rfl (lv_at hl 0 rfl) ?_
      refine lv_lconst (v := 0) hx hb d_K_apply_30 (by decide) ?_
      refine W.lcmp hx hb d_K_apply_31 ?_
      refine lv_if_ge (tgt := 39) hx hb d_K_apply_32 (by decide) (fun c_32 => ?_) (fun c_32 => ?_)
      · have c_32 := (lg_cmp_ge _ _).mp c_32
        exact absurd c_32 h2
      · have c_32 := mt (lg_cmp_ge _ _).mpr c_32
        refine lv_ldc2 (v := -2) hx hb hown (hT _ k_209) d_K_apply_35 ?_
        exact ob_lret (v := (-2 : Int64)) hx hb hr hlocks hQ rfl d_K_apply_38
    · have t_17 := (cv_eq (nI_toInt (by omega)) (by decide : (0 : Int32).toInt = 0)).mp c_17
      exact absurd h1 (by omega)
abbrev rm_K_apply_r : Room := { frames := 3, cells := 0, slots := 0, locals := 65 }
set_option maxHeartbeats 4000000 in
set_option maxRecDepth 100000 in
theorem c_K_apply_r (l : Launch) (dC : Nat → ClassId) (dI : Nat → Nat → Nat) (q : Nat → Nat) (cI cL : ClassId) (supply : Int64) (pot : Int64) (apl : Int32) (own : Nat → Int32) (amt : Nat → Int64) (tag : Nat → Int64) (mad : Nat → Int32) (spt : Nat → Int32) (made : Nat) (dsp : Nat → Int32) (dow : Nat → Int32) (dam : Nat → Int64) (dtg : Nat → Int64) (sp : Nat) (mk : Nat) (mint : Int64) (dep : Nat) (sups : Nat → Int64) (pots : Nat → Int64) (apps : Nat → Int32) (row : Nat) (hgt : Nat) (und : Nat)  (hm : made ≤ 2048) (hsp : sp ≤ 16) (hmk : mk ≤ 16) (h1 : ¬ (sp = 0 ∧ mk = 0)) (h2 : 0 ≤ f_fee supply mint amt made dsp sp dam mk) (h3 : 2048 < made + mk) : Met l y_K_apply w_K_apply rm_K_apply_r (va_Pc [.ref (q 0)] (ob_B (dC, dI) vwCl (wK q cI cL supply pot apl own amt tag mad spt made dsp dow dam dtg sp mk mint dep sups pots apps row hgt und) [(cI, .int), (cL, .long)] ob_N)) (QcReadL ((-3 : Int64))) 0 0 (fun _ => False) := by
  refine ob_ofW (cc := b_K_apply) (maxL := 3) (ret := (some .long)) (own := R_K) (by decide) rfl rfl (Nat.le_of_ble_eq_true rfl) ?_
  intro p e s m args below meth c Q hQ hx hb hr hml hT hown hlocks hv ls hl
  obtain ⟨hP, hK, hN⟩ := hv
  have hl : lv_has ls 3 [(0, .ref (q 0))] := hl
  refine lv_aload_n hx hb d_K_apply_0 rfl (lv_at hl 0 rfl) ?_
  refine va_get (D := (dC, dI)) (ci := 3) (v := .ref (q 7)) (C := R_K) (T := T_K) (N := 6) hx hb hT in_K hown hK hP 0 rfl rfl 1 (by decide) (hT _ k_127) (fun _ h9 => h9) rfl d_K_apply_1 ?_
  refine va_getN (D := (dC, dI)) (ci := 1) (v := .int (nI sp)) (C := R_D) (T := T_D) (N := 7) hx hb hT in_D hown hK hP 7 rfl rfl 4 (by decide) (va_Nw.use rfl (hN _ (List.mem_of_getElem? (i := 11) rfl))) (fun _ h9 => h9) rfl d_K_apply_4 ?_
  refine lv_if_ne (tgt := 24) hx hb d_K_apply_7 (by decide) (fun c_7 => ?_) (fun c_7 => ?_)
  · have t_7 := mt (cv_eq (nI_toInt (by omega)) (by decide : (0 : Int32).toInt = 0)).mpr c_7
    refine lv_aload_n hx hb d_K_apply_24 rfl (lv_at hl 0 rfl) ?_
    refine ob_callL (W.runV (As := []) (rest := []) ⟨hx, hb, hml, hown, hT⟩ (c_K_feeOfDraft l dC dI q cI cL supply pot apl own amt tag mad spt made dsp dow dam dtg sp mk mint dep sups pots apps row hgt und hm hsp hmk) (cwV 0 hT (ob_goodV k_204 k_206 k_0 k_9 k_207) rfl rfl rfl (by decide +kernel) ⟨Nat.le_of_ble_eq_true rfl, Nat.le_of_ble_eq_true rfl⟩) (ob_preV (wc := wK q cI cL supply pot apl own amt tag mad spt made dsp dow dam dtg sp mk mint dep sups pots apps row hgt und) (q0 := 0) rfl hK hP hN rfl [0, 1, 2, 3, 4, 5, 6, 7, 8, 9, 10, 11, 12, 13, 14, 15] rfl rfl) rfl rfl hl.1 rfl (lv_room (Nat.le_of_ble_eq_true rfl)) d_K_apply_25 ⟨Nat.zero_le _, Nat.zero_le _⟩) ?_
    refine lv_lstore_n (lv' := [(1, .long (f_fee supply mint amt made dsp sp dam mk)), (0, .ref (q 0))]) hx hb d_K_apply_28 rfl hl (by decide) rfl (fun ls hl => ?_)
    refine lv_lload_n hx hb d_K_apply_29 rfl (lv_at hl 0 rfl) ?_
    refine lv_lconst (v := 0) hx hb d_K_apply_30 (by decide) ?_
    refine W.lcmp hx hb d_K_apply_31 ?_
    refine lv_if_ge (tgt := 39) hx hb d_K_apply_32 (by decide) (fun c_32 => ?_) (fun c_32 => ?_)
    · have c_32 := (lg_cmp_ge _ _).mp c_32
      refine lv_aload_n hx hb d_K_apply_39 rfl (lv_at hl 1 rfl) ?_
      refine va_get (D := (dC, dI)) (ci := 3) (v := .ref (q 7)) (C := R_K) (T := T_K) (N := 6) hx hb hT in_K hown hK hP 0 rfl rfl 1 (by decide) (hT _ k_127) (fun _ h9 => h9) rfl d_K_apply_40 ?_
      refine va_getN (D := (dC, dI)) (ci := 1) (v := .int (nI mk)) (C := R_D) (T := T_D) (N := 7) hx hb hT in_D hown hK hP 7 rfl rfl 5 (by decide) (va_Nw.use rfl (hN _ (List.mem_of_getElem? (i := 12) rfl))) (fun _ h9 => h9) rfl d_K_apply_43 ?_
      refine lv_aload_n hx hb d_K_apply_46 rfl (lv_at hl 1 rfl) ?_
      refine va_get (D := (dC, dI)) (ci := 3) (v := .ref (q 1)) (C := R_K) (T := T_K) (N := 6) hx hb hT in_K hown hK hP 0 rfl rfl 0 (by decide) (hT _ k_126) (fun _ h9 => h9) rfl d_K_apply_47 ?_
      refine ob_callR (W.runV (As := []) (rest := [.int (nI mk)]) ⟨hx, hb, hml, hown, hT⟩ (c_O_room l dC dI q cI cL own amt tag mad spt made hm) (cwV 0 hT (ob_goodV k_214 k_215 k_216 k_10 k_217) rfl rfl rfl (by decide +kernel) ⟨Nat.le_of_ble_eq_true rfl, Nat.le_of_ble_eq_true rfl⟩) (ob_preV (wc := wO q cI cL own amt tag mad spt made) (q0 := 0) rfl hK hP (fun _ h => absurd h List.not_mem_nil) rfl [1, 2, 3, 4, 5, 6] rfl rfl) rfl rfl hl.1 rfl (lv_room (Nat.le_of_ble_eq_true rfl)) d_K_apply_50 ⟨Nat.zero_le _, Nat.zero_le _⟩) ?_
      refine lv_icmp_le (tgt := 60) hx hb d_K_apply_53 (by decide) (fun c_53 => ?_) (fun c_53 => ?_)
      · have t_53 := (cv_le (nI_toInt (by omega)) (nI_toInt (by omega))).mp c_53
        exact absurd t_53 (by omega)
      · have t_53 := mt (cv_le (nI_toInt (by omega)) (nI_toInt (by omega))).mpr c_53
        refine lv_ldc2 (v := -3) hx hb hown (hT _ k_218) d_K_apply_56 ?_
        exact ob_lret (v := (-3 : Int64)) hx hb hr hlocks hQ rfl d_K_apply_59
    · have c_32 := mt (lg_cmp_ge _ _).mpr c_32
      exact absurd h2 c_32
  · have t_7 := (cv_eq (nI_toInt (by omega)) (by decide : (0 : Int32).toInt = 0)).mp c_7
    refine lv_aload_n hx hb d_K_apply_10 rfl (lv_at hl 0 rfl) ?_
    refine va_get (D := (dC, dI)) (ci := 3) (v := .ref (q 7)) (C := R_K) (T := T_K) (N := 6) hx hb hT in_K hown hK hP 0 rfl rfl 1 (by decide) (hT _ k_127) (fun _ h9 => h9) rfl d_K_apply_11 ?_
    refine va_getN (D := (dC, dI)) (ci := 1) (v := .int (nI mk)) (C := R_D) (T := T_D) (N := 7) hx hb hT in_D hown hK hP 7 rfl rfl 5 (by decide) (va_Nw.use rfl (hN _ (List.mem_of_getElem? (i := 12) rfl))) (fun _ h9 => h9) rfl d_K_apply_14 ?_
    refine lv_if_ne (tgt := 24) hx hb d_K_apply_17 (by decide) (fun c_17 => ?_) (fun c_17 => ?_)
    · have t_17 := mt (cv_eq (nI_toInt (by omega)) (by decide : (0 : Int32).toInt = 0)).mpr c_17
      refine lv_aload_n hx hb d_K_apply_24 rfl (lv_at hl 0 rfl) ?_
      refine ob_callL (W.runV (As := []) (rest := []) ⟨hx, hb, hml, hown, hT⟩ (c_K_feeOfDraft l dC dI q cI cL supply pot apl own amt tag mad spt made dsp dow dam dtg sp mk mint dep sups pots apps row hgt und hm hsp hmk) (cwV 0 hT (ob_goodV k_204 k_206 k_0 k_9 k_207) rfl rfl rfl (by decide +kernel) ⟨Nat.le_of_ble_eq_true rfl, Nat.le_of_ble_eq_true rfl⟩) (ob_preV (wc := wK q cI cL supply pot apl own amt tag mad spt made dsp dow dam dtg sp mk mint dep sups pots apps row hgt und) (q0 := 0) rfl hK hP hN rfl [0, 1, 2, 3, 4, 5, 6, 7, 8, 9, 10, 11, 12, 13, 14, 15] rfl rfl) rfl rfl hl.1 rfl (lv_room (Nat.le_of_ble_eq_true rfl)) d_K_apply_25 ⟨Nat.zero_le _, Nat.zero_le _⟩) ?_
      refine lv_lstore_n (lv' := [(1, .long (f_fee supply mint amt made dsp sp dam mk)), (0, .ref (q 0))]) hx hb d_K_apply_28 rfl hl (by decide) rfl (fun ls hl => ?_)
      refine lv_lload_n hx hb d_K_apply_29 rfl (lv_at hl 0 rfl) ?_
      refine lv_lconst (v := 0) hx hb d_K_apply_30 (by decide) ?_
      refine W.lcmp hx hb d_K_apply_31 ?_
      refine lv_if_ge (tgt := 39) hx hb d_K_apply_32 (by decide) (fun c_32 => ?_) (fun c_32 => ?_)
      · have c_32 := (lg_cmp_ge _ _).mp c_32
        refine lv_aload_n hx hb d_K_apply_39 rfl (lv_at hl 1 rfl) ?_
        refine va_get (D := (dC, dI)) (ci := 3) (v := .ref (q 7)) (C := R_K) (T := T_K) (N := 6) hx hb hT in_K hown hK hP 0 rfl rfl 1 (by decide) (hT _ k_127) (fun _ h9 => h9) rfl d_K_apply_40 ?_
        refine va_getN (D := (dC, dI)) (ci := 1) (v := .int (nI mk)) (C := R_D) (T := T_D) (N := 7) hx hb hT in_D hown hK hP 7 rfl rfl 5 (by decide) (va_Nw.use rfl (hN _ (List.mem_of_getElem? (i := 12) rfl))) (fun _ h9 => h9) rfl d_K_apply_43 ?_
        refine lv_aload_n hx hb d_K_apply_46 rfl (lv_at hl 1 rfl) ?_
        refine va_get (D := (dC, dI)) (ci := 3) (v := .ref (q 1)) (C := R_K) (T := T_K) (N := 6) hx hb hT in_K hown hK hP 0 rfl rfl 0 (by decide) (hT _ k_126) (fun _ h9 => h9) rfl d_K_apply_47 ?_
        refine ob_callR (W.runV (As := []) (rest := [.int (nI mk)]) ⟨hx, hb, hml, hown, hT⟩ (c_O_room l dC dI q cI cL own amt tag mad spt made hm) (cwV 0 hT (ob_goodV k_214 k_215 k_216 k_10 k_217) rfl rfl rfl (by decide +kernel) ⟨Nat.le_of_ble_eq_true rfl, Nat.le_of_ble_eq_true rfl⟩) (ob_preV (wc := wO q cI cL own amt tag mad spt made) (q0 := 0) rfl hK hP (fun _ h => absurd h List.not_mem_nil) rfl [1, 2, 3, 4, 5, 6] rfl rfl) rfl rfl hl.1 rfl (lv_room (Nat.le_of_ble_eq_true rfl)) d_K_apply_50 ⟨Nat.zero_le _, Nat.zero_le _⟩) ?_
        refine lv_icmp_le (tgt := 60) hx hb d_K_apply_53 (by decide) (fun c_53 => ?_) (fun c_53 => ?_)
        · have t_53 := (cv_le (nI_toInt (by omega)) (nI_toInt (by omega))).mp c_53
          exact absurd t_53 (by omega)
        · have t_53 := mt (cv_le (nI_toInt (by omega)) (nI_toInt (by omega))).mpr c_53
          refine lv_ldc2 (v := -3) hx hb hown (hT _ k_218) d_K_apply_56 ?_
          exact ob_lret (v := (-3 : Int64)) hx hb hr hlocks hQ rfl d_K_apply_59
      · have c_32 := mt (lg_cmp_ge _ _).mpr c_32
        exact absurd h2 c_32
    · have t_17 := (cv_eq (nI_toInt (by omega)) (by decide : (0 : Int32).toInt = 0)).mp c_17
      exact absurd h1 (by omega)
abbrev rm_K_apply_t : Room := { frames := 4, cells := 0, slots := 0, locals := 85 }
set_option maxHeartbeats 4000000 in
set_option maxRecDepth 100000 in
theorem c_K_apply_t (l : Launch) (dC : Nat → ClassId) (dI : Nat → Nat → Nat) (q : Nat → Nat) (cI cL : ClassId) (supply : Int64) (pot : Int64) (apl : Int32) (own : Nat → Int32) (amt : Nat → Int64) (tag : Nat → Int64) (mad : Nat → Int32) (spt : Nat → Int32) (made : Nat) (dsp : Nat → Int32) (dow : Nat → Int32) (dam : Nat → Int64) (dtg : Nat → Int64) (sp : Nat) (mk : Nat) (mint : Int64) (dep : Nat) (sups : Nat → Int64) (pots : Nat → Int64) (apps : Nat → Int32) (row : Nat) (hgt : Nat) (und : Nat)  (hm : made ≤ 2048) (hsp : sp ≤ 16) (hmk : mk ≤ 16) (h1 : ¬ (sp = 0 ∧ mk = 0)) (h2 : 0 ≤ f_fee supply mint amt made dsp sp dam mk) (h3 : made + mk ≤ 2048) : Met l y_K_apply w_K_apply rm_K_apply_t (va_Pc [.ref (q 0)] (ob_BW (dC, dI) vwCl (wK q cI cL supply pot apl own amt tag mad spt made dsp dow dam dtg sp mk mint dep sups pots apps row hgt und) [(cI, .int), (cL, .long)] ob_N)) (va_Ql (fun (r : Int64) (_ : Unit) => r = f_fee supply mint amt made dsp sp dam mk) (fun _ t => va_P (dC, dI) vwCl (wK q cI cL (supply + mint) (pot + f_fee supply mint amt made dsp sp dam mk) (apl + nI 1) (f_app own made dow mk) (f_appL amt made dam mk) (f_appL tag made dtg mk) (f_app mad made (fun _ => nI hgt) mk) (f_app (f_offs spt made dsp (nI hgt) sp) made (fun _ => -1) mk) (made + mk) dsp dow dam dtg 0 0 (0 : Int64) dep sups pots apps row hgt und) t.heap) (ob_A (wK q cI cL supply pot apl own amt tag mad spt made dsp dow dam dtg sp mk mint dep sups pots apps row hgt und))) 0 0 (ob_A (wK q cI cL supply pot apl own amt tag mad spt made dsp dow dam dtg sp mk mint dep sups pots apps row hgt und)) := by
  refine ob_ofW (cc := b_K_apply) (maxL := 3) (ret := (some .long)) (own := R_K) (by decide) rfl rfl (Nat.le_of_ble_eq_true rfl) ?_
  intro p e s m args below meth c Q hQ hx hb hr hml hT hown hlocks hv ls hl
  obtain ⟨⟨hP, hK, hN⟩, hD0⟩ := hv
  have hD := ob_D_self hD0
  generalize hAe : ob_A (wK q cI cL supply pot apl own amt tag mad spt made dsp dow dam dtg sp mk mint dep sups pots apps row hgt und) = A at hQ hD
  have hS : va_S A s.heap s.heap [] := va_S.rf
  have hl : lv_has ls 3 [(0, .ref (q 0))] := hl
  refine lv_aload_n hx hb d_K_apply_0 rfl (lv_at hl 0 rfl) ?_
  refine va_get (D := (dC, dI)) (ci := 3) (v := .ref (q 7)) (C := R_K) (T := T_K) (N := 6) hx hb hT in_K hown hK hP 0 rfl rfl 1 (by decide) (hT _ k_127) (fun _ h9 => h9) rfl d_K_apply_1 ?_
  refine va_getN (D := (dC, dI)) (ci := 1) (v := .int (nI sp)) (C := R_D) (T := T_D) (N := 7) hx hb hT in_D hown hK hP 7 rfl rfl 4 (by decide) (va_Nw.use rfl (hN _ (List.mem_of_getElem? (i := 11) rfl))) (fun _ h9 => h9) rfl d_K_apply_4 ?_
  refine lv_if_ne (tgt := 24) hx hb d_K_apply_7 (by decide) (fun c_7 => ?_) (fun c_7 => ?_)
  · have t_7 := mt (cv_eq (nI_toInt (by omega)) (by decide : (0 : Int32).toInt = 0)).mpr c_7
    refine lv_aload_n hx hb d_K_apply_24 rfl (lv_at hl 0 rfl) ?_
    refine ob_callL (W.runV (As := []) (rest := []) ⟨hx, hb, hml, hown, hT⟩ (c_K_feeOfDraft l dC dI q cI cL supply pot apl own amt tag mad spt made dsp dow dam dtg sp mk mint dep sups pots apps row hgt und hm hsp hmk) (cwV 0 hT (ob_goodV k_204 k_206 k_0 k_9 k_207) rfl rfl rfl (by decide +kernel) ⟨Nat.le_of_ble_eq_true rfl, Nat.le_of_ble_eq_true rfl⟩) (ob_preV (wc := wK q cI cL supply pot apl own amt tag mad spt made dsp dow dam dtg sp mk mint dep sups pots apps row hgt und) (q0 := 0) rfl hK hP hN rfl [0, 1, 2, 3, 4, 5, 6, 7, 8, 9, 10, 11, 12, 13, 14, 15] rfl rfl) rfl rfl hl.1 rfl (lv_room (Nat.le_of_ble_eq_true rfl)) d_K_apply_25 ⟨Nat.zero_le _, Nat.zero_le _⟩) ?_
    refine lv_lstore_n (lv' := [(1, .long (f_fee supply mint amt made dsp sp dam mk)), (0, .ref (q 0))]) hx hb d_K_apply_28 rfl hl (by decide) rfl (fun ls hl => ?_)
    refine lv_lload_n hx hb d_K_apply_29 rfl (lv_at hl 0 rfl) ?_
    refine lv_lconst (v := 0) hx hb d_K_apply_30 (by decide) ?_
    refine W.lcmp hx hb d_K_apply_31 ?_
    refine lv_if_ge (tgt := 39) hx hb d_K_apply_32 (by decide) (fun c_32 => ?_) (fun c_32 => ?_)
    · have c_32 := (lg_cmp_ge _ _).mp c_32
      refine lv_aload_n hx hb d_K_apply_39 rfl (lv_at hl 1 rfl) ?_
      refine va_get (D := (dC, dI)) (ci := 3) (v := .ref (q 7)) (C := R_K) (T := T_K) (N := 6) hx hb hT in_K hown hK hP 0 rfl rfl 1 (by decide) (hT _ k_127) (fun _ h9 => h9) rfl d_K_apply_40 ?_
      refine va_getN (D := (dC, dI)) (ci := 1) (v := .int (nI mk)) (C := R_D) (T := T_D) (N := 7) hx hb hT in_D hown hK hP 7 rfl rfl 5 (by decide) (va_Nw.use rfl (hN _ (List.mem_of_getElem? (i := 12) rfl))) (fun _ h9 => h9) rfl d_K_apply_43 ?_
      refine lv_aload_n hx hb d_K_apply_46 rfl (lv_at hl 1 rfl) ?_
      refine va_get (D := (dC, dI)) (ci := 3) (v := .ref (q 1)) (C := R_K) (T := T_K) (N := 6) hx hb hT in_K hown hK hP 0 rfl rfl 0 (by decide) (hT _ k_126) (fun _ h9 => h9) rfl d_K_apply_47 ?_
      refine ob_callR (W.runV (As := []) (rest := [.int (nI mk)]) ⟨hx, hb, hml, hown, hT⟩ (c_O_room l dC dI q cI cL own amt tag mad spt made hm) (cwV 0 hT (ob_goodV k_214 k_215 k_216 k_10 k_217) rfl rfl rfl (by decide +kernel) ⟨Nat.le_of_ble_eq_true rfl, Nat.le_of_ble_eq_true rfl⟩) (ob_preV (wc := wO q cI cL own amt tag mad spt made) (q0 := 0) rfl hK hP (fun _ h => absurd h List.not_mem_nil) rfl [1, 2, 3, 4, 5, 6] rfl rfl) rfl rfl hl.1 rfl (lv_room (Nat.le_of_ble_eq_true rfl)) d_K_apply_50 ⟨Nat.zero_le _, Nat.zero_le _⟩) ?_
      refine lv_icmp_le (tgt := 60) hx hb d_K_apply_53 (by decide) (fun c_53 => ?_) (fun c_53 => ?_)
      · have t_53 := (cv_le (nI_toInt (by omega)) (nI_toInt (by omega))).mp c_53
        refine lv_aload_n hx hb d_K_apply_60 rfl (lv_at hl 1 rfl) ?_
        refine lv_dup hx hb d_K_apply_61 rfl ?_
        refine va_get (D := (dC, dI)) (ci := 3) (v := .long supply) (C := R_K) (T := T_K) (N := 6) hx hb hT in_K hown hK hP 0 rfl rfl 3 (by decide) (hT _ k_129) (fun _ h9 => h9) rfl d_K_apply_62 ?_
        refine lv_aload_n hx hb d_K_apply_65 rfl (lv_at hl 1 rfl) ?_
        refine va_get (D := (dC, dI)) (ci := 3) (v := .ref (q 7)) (C := R_K) (T := T_K) (N := 6) hx hb hT in_K hown hK hP 0 rfl rfl 1 (by decide) (hT _ k_127) (fun _ h9 => h9) rfl d_K_apply_66 ?_
        refine va_getN (D := (dC, dI)) (ci := 1) (v := .long mint) (C := R_D) (T := T_D) (N := 7) hx hb hT in_D hown hK hP 7 rfl rfl 6 (by decide) (va_Nw.use rfl (hN _ (List.mem_of_getElem? (i := 13) rfl))) (fun _ h9 => h9) rfl d_K_apply_69 ?_
        refine lv_ladd hx hb d_K_apply_72 ?_
        refine va_put (D := (dC, dI)) (ci := 3) (v := .long (supply + mint)) (ty := .long) (C := R_K) (T := T_K) (N := 6) hx hb hT in_K t_K t_K_ok n_K hown hK hP hD hS 0 rfl rfl 3 (by decide) (hT _ k_129) (fun _ h9 => h9) rfl (by decide +kernel) rfl rfl (Nat.le_of_ble_eq_true rfl) d_K_apply_73 (fun H locs hP hD hS => ?_)
        have hP : va_P (dC, dI) vwCl (wK q cI cL (supply + mint) pot apl own amt tag mad spt made dsp dow dam dtg sp mk mint dep sups pots apps row hgt und) H := hP
        have hD : va_D A (wK q cI cL (supply + mint) pot apl own amt tag mad spt made dsp dow dam dtg sp mk mint dep sups pots apps row hgt und) := hD
        refine lv_aload_n hx hb d_K_apply_76 rfl (lv_at hl 1 rfl) ?_
        refine lv_dup hx hb d_K_apply_77 rfl ?_
        refine va_get (D := (dC, dI)) (ci := 3) (v := .long pot) (C := R_K) (T := T_K) (N := 6) hx hb hT in_K hown hK hP 0 rfl rfl 4 (by decide) (hT _ k_130) (fun _ h9 => h9) rfl d_K_apply_78 ?_
        refine lv_lload_n hx hb d_K_apply_81 rfl (lv_at hl 0 rfl) ?_
        refine lv_ladd hx hb d_K_apply_82 ?_
        refine va_put (D := (dC, dI)) (ci := 3) (v := .long (pot + (f_fee supply mint amt made dsp sp dam mk))) (ty := .long) (C := R_K) (T := T_K) (N := 6) hx hb hT in_K t_K t_K_ok n_K hown hK hP hD hS 0 rfl rfl 4 (by decide) (hT _ k_130) (fun _ h9 => h9) rfl (by decide +kernel) rfl rfl (Nat.le_of_ble_eq_true rfl) d_K_apply_83 (fun H locs hP hD hS => ?_)
        have hP : va_P (dC, dI) vwCl (wK q cI cL (supply + mint) (pot + (f_fee supply mint amt made dsp sp dam mk)) apl own amt tag mad spt made dsp dow dam dtg sp mk mint dep sups pots apps row hgt und) H := hP
        have hD : va_D A (wK q cI cL (supply + mint) (pot + (f_fee supply mint amt made dsp sp dam mk)) apl own amt tag mad spt made dsp dow dam dtg sp mk mint dep sups pots apps row hgt und) := hD
        refine lv_aload_n hx hb d_K_apply_86 rfl (lv_at hl 1 rfl) ?_
        refine lv_dup hx hb d_K_apply_87 rfl ?_
        refine va_get (D := (dC, dI)) (ci := 3) (v := .int apl) (C := R_K) (T := T_K) (N := 6) hx hb hT in_K hown hK hP 0 rfl rfl 5 (by decide) (hT _ k_131) (fun _ h9 => h9) rfl d_K_apply_88 ?_
        refine lv_iconst (v := nI 1) hx hb d_K_apply_91 (by decide) ?_
        refine lv_iadd hx hb d_K_apply_92 ?_
        refine va_put (D := (dC, dI)) (ci := 3) (v := .int (apl + (nI 1))) (ty := .int) (C := R_K) (T := T_K) (N := 6) hx hb hT in_K t_K t_K_ok n_K hown hK hP hD hS 0 rfl rfl 5 (by decide) (hT _ k_131) (fun _ h9 => h9) rfl (by decide +kernel) rfl rfl (Nat.le_of_ble_eq_true rfl) d_K_apply_93 (fun H locs hP hD hS => ?_)
        have hP : va_P (dC, dI) vwCl (wK q cI cL (supply + mint) (pot + (f_fee supply mint amt made dsp sp dam mk)) (apl + (nI 1)) own amt tag mad spt made dsp dow dam dtg sp mk mint dep sups pots apps row hgt und) H := hP
        have hD : va_D A (wK q cI cL (supply + mint) (pot + (f_fee supply mint amt made dsp sp dam mk)) (apl + (nI 1)) own amt tag mad spt made dsp dow dam dtg sp mk mint dep sups pots apps row hgt und) := hD
        refine lv_aload_n hx hb d_K_apply_96 rfl (lv_at hl 1 rfl) ?_
        refine ob_callWv (va_runV (As := []) (rest := []) ⟨hx, hb, hml, hown, hT⟩ (c_K_bookDraft l dC dI q cI cL (supply + mint) (pot + (f_fee supply mint amt made dsp sp dam mk)) (apl + (nI 1)) own amt tag mad spt made dsp dow dam dtg sp mk mint dep sups pots apps row hgt und hm hsp hmk (by omega)) (cwV 0 hT (ob_goodV k_219 k_221 k_1 k_9 k_222) rfl rfl rfl (by decide +kernel) ⟨Nat.le_of_ble_eq_true rfl, Nat.le_of_ble_eq_true rfl⟩) (ob_preVW (wc := wK q cI cL (supply + mint) (pot + (f_fee supply mint amt made dsp sp dam mk)) (apl + (nI 1)) own amt tag mad spt made dsp dow dam dtg sp mk mint dep sups pots apps row hgt und) (q0 := 0) rfl hK hP hD hN rfl [0, 1, 2, 3, 4, 5, 6, 7, 8, 9, 10, 11, 12, 13, 14, 15] rfl rfl rfl rfl) rfl rfl hl.1 rfl (lv_room (Nat.le_of_ble_eq_true rfl)) d_K_apply_97 ⟨Nat.zero_le _, Nat.zero_le _⟩) hS hP hD [0, 1, 2, 3, 4, 5, 6, 7, 8, 9, 10, 11, 12, 13, 14, 15] rfl rfl (fun H locs hP hD hS => ?_)
        have hP : va_P (dC, dI) vwCl (wK q cI cL (supply + mint) (pot + (f_fee supply mint amt made dsp sp dam mk)) (apl + (nI 1)) (f_app own made dow mk) (f_appL amt made dam mk) (f_appL tag made dtg mk) (f_app mad made (fun _ => nI hgt) mk) (f_app (f_offs spt made dsp (nI hgt) sp) made (fun _ => -1) mk) (made + mk) dsp dow dam dtg sp mk mint dep sups pots apps row hgt und) H := hP
        have hD : va_D A (wK q cI cL (supply + mint) (pot + (f_fee supply mint amt made dsp sp dam mk)) (apl + (nI 1)) (f_app own made dow mk) (f_appL amt made dam mk) (f_appL tag made dtg mk) (f_app mad made (fun _ => nI hgt) mk) (f_app (f_offs spt made dsp (nI hgt) sp) made (fun _ => -1) mk) (made + mk) dsp dow dam dtg sp mk mint dep sups pots apps row hgt und) := hD
        refine lv_aload_n hx hb d_K_apply_100 rfl (lv_at hl 1 rfl) ?_
        refine va_get (D := (dC, dI)) (ci := 3) (v := .ref (q 7)) (C := R_K) (T := T_K) (N := 6) hx hb hT in_K hown hK hP 0 rfl rfl 1 (by decide) (hT _ k_127) (fun _ h9 => h9) rfl d_K_apply_101 ?_
        refine ob_callWv (va_runV (As := []) (rest := []) ⟨hx, hb, hml, hown, hT⟩ (c_D_clear l dC dI q cI cL dsp dow dam dtg sp mk mint ) (cwV 0 hT (ob_goodV k_195 k_196 k_197 k_11 k_198) rfl rfl rfl (by decide +kernel) ⟨Nat.le_of_ble_eq_true rfl, Nat.le_of_ble_eq_true rfl⟩) (ob_preVW (wc := wD q cI cL dsp dow dam dtg sp mk mint) (q0 := 0) rfl hK hP hD (fun _ h => absurd h List.not_mem_nil) rfl [7, 8, 9, 10, 11] rfl rfl rfl rfl) rfl rfl hl.1 rfl (lv_room (Nat.le_of_ble_eq_true rfl)) d_K_apply_104 ⟨Nat.zero_le _, Nat.zero_le _⟩) hS hP hD [7, 8, 9, 10, 11] rfl rfl (fun H locs hP hD hS => ?_)
        have hP : va_P (dC, dI) vwCl (wK q cI cL (supply + mint) (pot + (f_fee supply mint amt made dsp sp dam mk)) (apl + (nI 1)) (f_app own made dow mk) (f_appL amt made dam mk) (f_appL tag made dtg mk) (f_app mad made (fun _ => nI hgt) mk) (f_app (f_offs spt made dsp (nI hgt) sp) made (fun _ => -1) mk) (made + mk) dsp dow dam dtg 0 0 (0 : Int64) dep sups pots apps row hgt und) H := hP
        have hD : va_D A (wK q cI cL (supply + mint) (pot + (f_fee supply mint amt made dsp sp dam mk)) (apl + (nI 1)) (f_app own made dow mk) (f_appL amt made dam mk) (f_appL tag made dtg mk) (f_app mad made (fun _ => nI hgt) mk) (f_app (f_offs spt made dsp (nI hgt) sp) made (fun _ => -1) mk) (made + mk) dsp dow dam dtg 0 0 (0 : Int64) dep sups pots apps row hgt und) := hD
        refine lv_lload_n hx hb d_K_apply_107 rfl (lv_at hl 0 rfl) ?_
        exact ob_lretW (v := f_fee supply mint amt made dsp sp dam mk) hx hb hr hlocks hQ hS hP rfl rfl d_K_apply_108
      · have t_53 := mt (cv_le (nI_toInt (by omega)) (nI_toInt (by omega))).mpr c_53
        exact absurd t_53 (by omega)
    · have c_32 := mt (lg_cmp_ge _ _).mpr c_32
      exact absurd h2 c_32
  · have t_7 := (cv_eq (nI_toInt (by omega)) (by decide : (0 : Int32).toInt = 0)).mp c_7
    refine lv_aload_n hx hb d_K_apply_10 rfl (lv_at hl 0 rfl) ?_
    refine va_get (D := (dC, dI)) (ci := 3) (v := .ref (q 7)) (C := R_K) (T := T_K) (N := 6) hx hb hT in_K hown hK hP 0 rfl rfl 1 (by decide) (hT _ k_127) (fun _ h9 => h9) rfl d_K_apply_11 ?_
    refine va_getN (D := (dC, dI)) (ci := 1) (v := .int (nI mk)) (C := R_D) (T := T_D) (N := 7) hx hb hT in_D hown hK hP 7 rfl rfl 5 (by decide) (va_Nw.use rfl (hN _ (List.mem_of_getElem? (i := 12) rfl))) (fun _ h9 => h9) rfl d_K_apply_14 ?_
    refine lv_if_ne (tgt := 24) hx hb d_K_apply_17 (by decide) (fun c_17 => ?_) (fun c_17 => ?_)
    · have t_17 := mt (cv_eq (nI_toInt (by omega)) (by decide : (0 : Int32).toInt = 0)).mpr c_17
      refine lv_aload_n hx hb d_K_apply_24 rfl (lv_at hl 0 rfl) ?_
      refine ob_callL (W.runV (As := []) (rest := []) ⟨hx, hb, hml, hown, hT⟩ (c_K_feeOfDraft l dC dI q cI cL supply pot apl own amt tag mad spt made dsp dow dam dtg sp mk mint dep sups pots apps row hgt und hm hsp hmk) (cwV 0 hT (ob_goodV k_204 k_206 k_0 k_9 k_207) rfl rfl rfl (by decide +kernel) ⟨Nat.le_of_ble_eq_true rfl, Nat.le_of_ble_eq_true rfl⟩) (ob_preV (wc := wK q cI cL supply pot apl own amt tag mad spt made dsp dow dam dtg sp mk mint dep sups pots apps row hgt und) (q0 := 0) rfl hK hP hN rfl [0, 1, 2, 3, 4, 5, 6, 7, 8, 9, 10, 11, 12, 13, 14, 15] rfl rfl) rfl rfl hl.1 rfl (lv_room (Nat.le_of_ble_eq_true rfl)) d_K_apply_25 ⟨Nat.zero_le _, Nat.zero_le _⟩) ?_
      refine lv_lstore_n (lv' := [(1, .long (f_fee supply mint amt made dsp sp dam mk)), (0, .ref (q 0))]) hx hb d_K_apply_28 rfl hl (by decide) rfl (fun ls hl => ?_)
      refine lv_lload_n hx hb d_K_apply_29 rfl (lv_at hl 0 rfl) ?_
      refine lv_lconst (v := 0) hx hb d_K_apply_30 (by decide) ?_
      refine W.lcmp hx hb d_K_apply_31 ?_
      refine lv_if_ge (tgt := 39) hx hb d_K_apply_32 (by decide) (fun c_32 => ?_) (fun c_32 => ?_)
      · have c_32 := (lg_cmp_ge _ _).mp c_32
        refine lv_aload_n hx hb d_K_apply_39 rfl (lv_at hl 1 rfl) ?_
        refine va_get (D := (dC, dI)) (ci := 3) (v := .ref (q 7)) (C := R_K) (T := T_K) (N := 6) hx hb hT in_K hown hK hP 0 rfl rfl 1 (by decide) (hT _ k_127) (fun _ h9 => h9) rfl d_K_apply_40 ?_
        refine va_getN (D := (dC, dI)) (ci := 1) (v := .int (nI mk)) (C := R_D) (T := T_D) (N := 7) hx hb hT in_D hown hK hP 7 rfl rfl 5 (by decide) (va_Nw.use rfl (hN _ (List.mem_of_getElem? (i := 12) rfl))) (fun _ h9 => h9) rfl d_K_apply_43 ?_
        refine lv_aload_n hx hb d_K_apply_46 rfl (lv_at hl 1 rfl) ?_
        refine va_get (D := (dC, dI)) (ci := 3) (v := .ref (q 1)) (C := R_K) (T := T_K) (N := 6) hx hb hT in_K hown hK hP 0 rfl rfl 0 (by decide) (hT _ k_126) (fun _ h9 => h9) rfl d_K_apply_47 ?_
        refine ob_callR (W.runV (As := []) (rest := [.int (nI mk)]) ⟨hx, hb, hml, hown, hT⟩ (c_O_room l dC dI q cI cL own amt tag mad spt made hm) (cwV 0 hT (ob_goodV k_214 k_215 k_216 k_10 k_217) rfl rfl rfl (by decide +kernel) ⟨Nat.le_of_ble_eq_true rfl, Nat.le_of_ble_eq_true rfl⟩) (ob_preV (wc := wO q cI cL own amt tag mad spt made) (q0 := 0) rfl hK hP (fun _ h => absurd h List.not_mem_nil) rfl [1, 2, 3, 4, 5, 6] rfl rfl) rfl rfl hl.1 rfl (lv_room (Nat.le_of_ble_eq_true rfl)) d_K_apply_50 ⟨Nat.zero_le _, Nat.zero_le _⟩) ?_
        refine lv_icmp_le (tgt := 60) hx hb d_K_apply_53 (by decide) (fun c_53 => ?_) (fun c_53 => ?_)
        · have t_53 := (cv_le (nI_toInt (by omega)) (nI_toInt (by omega))).mp c_53
          refine lv_aload_n hx hb d_K_apply_60 rfl (lv_at hl 1 rfl) ?_
          refine lv_dup hx hb d_K_apply_61 rfl ?_
          refine va_get (D := (dC, dI)) (ci := 3) (v := .long supply) (C := R_K) (T := T_K) (N := 6) hx hb hT in_K hown hK hP 0 rfl rfl 3 (by decide) (hT _ k_129) (fun _ h9 => h9) rfl d_K_apply_62 ?_
          refine lv_aload_n hx hb d_K_apply_65 rfl (lv_at hl 1 rfl) ?_
          refine va_get (D := (dC, dI)) (ci := 3) (v := .ref (q 7)) (C := R_K) (T := T_K) (N := 6) hx hb hT in_K hown hK hP 0 rfl rfl 1 (by decide) (hT _ k_127) (fun _ h9 => h9) rfl d_K_apply_66 ?_
          refine va_getN (D := (dC, dI)) (ci := 1) (v := .long mint) (C := R_D) (T := T_D) (N := 7) hx hb hT in_D hown hK hP 7 rfl rfl 6 (by decide) (va_Nw.use rfl (hN _ (List.mem_of_getElem? (i := 13) rfl))) (fun _ h9 => h9) rfl d_K_apply_69 ?_
          refine lv_ladd hx hb d_K_apply_72 ?_
          refine va_put (D := (dC, dI)) (ci := 3) (v := .long (supply + mint)) (ty := .long) (C := R_K) (T := T_K) (N := 6) hx hb hT in_K t_K t_K_ok n_K hown hK hP hD hS 0 rfl rfl 3 (by decide) (hT _ k_129) (fun _ h9 => h9) rfl (by decide +kernel) rfl rfl (Nat.le_of_ble_eq_true rfl) d_K_apply_73 (fun H locs hP hD hS => ?_)
          have hP : va_P (dC, dI) vwCl (wK q cI cL (supply + mint) pot apl own amt tag mad spt made dsp dow dam dtg sp mk mint dep sups pots apps row hgt und) H := hP
          have hD : va_D A (wK q cI cL (supply + mint) pot apl own amt tag mad spt made dsp dow dam dtg sp mk mint dep sups pots apps row hgt und) := hD
          refine lv_aload_n hx hb d_K_apply_76 rfl (lv_at hl 1 rfl) ?_
          refine lv_dup hx hb d_K_apply_77 rfl ?_
          refine va_get (D := (dC, dI)) (ci := 3) (v := .long pot) (C := R_K) (T := T_K) (N := 6) hx hb hT in_K hown hK hP 0 rfl rfl 4 (by decide) (hT _ k_130) (fun _ h9 => h9) rfl d_K_apply_78 ?_
          refine lv_lload_n hx hb d_K_apply_81 rfl (lv_at hl 0 rfl) ?_
          refine lv_ladd hx hb d_K_apply_82 ?_
          refine va_put (D := (dC, dI)) (ci := 3) (v := .long (pot + (f_fee supply mint amt made dsp sp dam mk))) (ty := .long) (C := R_K) (T := T_K) (N := 6) hx hb hT in_K t_K t_K_ok n_K hown hK hP hD hS 0 rfl rfl 4 (by decide) (hT _ k_130) (fun _ h9 => h9) rfl (by decide +kernel) rfl rfl (Nat.le_of_ble_eq_true rfl) d_K_apply_83 (fun H locs hP hD hS => ?_)
          have hP : va_P (dC, dI) vwCl (wK q cI cL (supply + mint) (pot + (f_fee supply mint amt made dsp sp dam mk)) apl own amt tag mad spt made dsp dow dam dtg sp mk mint dep sups pots apps row hgt und) H := hP
          have hD : va_D A (wK q cI cL (supply + mint) (pot + (f_fee supply mint amt made dsp sp dam mk)) apl own amt tag mad spt made dsp dow dam dtg sp mk mint dep sups pots apps row hgt und) := hD
          refine lv_aload_n hx hb d_K_apply_86 rfl (lv_at hl 1 rfl) ?_
          refine lv_dup hx hb d_K_apply_87 rfl ?_
          refine va_get (D := (dC, dI)) (ci := 3) (v := .int apl) (C := R_K) (T := T_K) (N := 6) hx hb hT in_K hown hK hP 0 rfl rfl 5 (by decide) (hT _ k_131) (fun _ h9 => h9) rfl d_K_apply_88 ?_
          refine lv_iconst (v := nI 1) hx hb d_K_apply_91 (by decide) ?_
          refine lv_iadd hx hb d_K_apply_92 ?_
          refine va_put (D := (dC, dI)) (ci := 3) (v := .int (apl + (nI 1))) (ty := .int) (C := R_K) (T := T_K) (N := 6) hx hb hT in_K t_K t_K_ok n_K hown hK hP hD hS 0 rfl rfl 5 (by decide) (hT _ k_131) (fun _ h9 => h9) rfl (by decide +kernel) rfl rfl (Nat.le_of_ble_eq_true rfl) d_K_apply_93 (fun H locs hP hD hS => ?_)
          have hP : va_P (dC, dI) vwCl (wK q cI cL (supply + mint) (pot + (f_fee supply mint amt made dsp sp dam mk)) (apl + (nI 1)) own amt tag mad spt made dsp dow dam dtg sp mk mint dep sups pots apps row hgt und) H := hP
          have hD : va_D A (wK q cI cL (supply + mint) (pot + (f_fee supply mint amt made dsp sp dam mk)) (apl + (nI 1)) own amt tag mad spt made dsp dow dam dtg sp mk mint dep sups pots apps row hgt und) := hD
          refine lv_aload_n hx hb d_K_apply_96 rfl (lv_at hl 1 rfl) ?_
          refine ob_callWv (va_runV (As := []) (rest := []) ⟨hx, hb, hml, hown, hT⟩ (c_K_bookDraft l dC dI q cI cL (supply + mint) (pot + (f_fee supply mint amt made dsp sp dam mk)) (apl + (nI 1)) own amt tag mad spt made dsp dow dam dtg sp mk mint dep sups pots apps row hgt und hm hsp hmk (by omega)) (cwV 0 hT (ob_goodV k_219 k_221 k_1 k_9 k_222) rfl rfl rfl (by decide +kernel) ⟨Nat.le_of_ble_eq_true rfl, Nat.le_of_ble_eq_true rfl⟩) (ob_preVW (wc := wK q cI cL (supply + mint) (pot + (f_fee supply mint amt made dsp sp dam mk)) (apl + (nI 1)) own amt tag mad spt made dsp dow dam dtg sp mk mint dep sups pots apps row hgt und) (q0 := 0) rfl hK hP hD hN rfl [0, 1, 2, 3, 4, 5, 6, 7, 8, 9, 10, 11, 12, 13, 14, 15] rfl rfl rfl rfl) rfl rfl hl.1 rfl (lv_room (Nat.le_of_ble_eq_true rfl)) d_K_apply_97 ⟨Nat.zero_le _, Nat.zero_le _⟩) hS hP hD [0, 1, 2, 3, 4, 5, 6, 7, 8, 9, 10, 11, 12, 13, 14, 15] rfl rfl (fun H locs hP hD hS => ?_)
          have hP : va_P (dC, dI) vwCl (wK q cI cL (supply + mint) (pot + (f_fee supply mint amt made dsp sp dam mk)) (apl + (nI 1)) (f_app own made dow mk) (f_appL amt made dam mk) (f_appL tag made dtg mk) (f_app mad made (fun _ => nI hgt) mk) (f_app (f_offs spt made dsp (nI hgt) sp) made (fun _ => -1) mk) (made + mk) dsp dow dam dtg sp mk mint dep sups pots apps row hgt und) H := hP
          have hD : va_D A (wK q cI cL (supply + mint) (pot + (f_fee supply mint amt made dsp sp dam mk)) (apl + (nI 1)) (f_app own made dow mk) (f_appL amt made dam mk) (f_appL tag made dtg mk) (f_app mad made (fun _ => nI hgt) mk) (f_app (f_offs spt made dsp (nI hgt) sp) made (fun _ => -1) mk) (made + mk) dsp dow dam dtg sp mk mint dep sups pots apps row hgt und) := hD
          refine lv_aload_n hx hb d_K_apply_100 rfl (lv_at hl 1 rfl) ?_
          refine va_get (D := (dC, dI)) (ci := 3) (v := .ref (q 7)) (C := R_K) (T := T_K) (N := 6) hx hb hT in_K hown hK hP 0 rfl rfl 1 (by decide) (hT _ k_127) (fun _ h9 => h9) rfl d_K_apply_101 ?_
          refine ob_callWv (va_runV (As := []) (rest := []) ⟨hx, hb, hml, hown, hT⟩ (c_D_clear l dC dI q cI cL dsp dow dam dtg sp mk mint ) (cwV 0 hT (ob_goodV k_195 k_196 k_197 k_11 k_198) rfl rfl rfl (by decide +kernel) ⟨Nat.le_of_ble_eq_true rfl, Nat.le_of_ble_eq_true rfl⟩) (ob_preVW (wc := wD q cI cL dsp dow dam dtg sp mk mint) (q0 := 0) rfl hK hP hD (fun _ h => absurd h List.not_mem_nil) rfl [7, 8, 9, 10, 11] rfl rfl rfl rfl) rfl rfl hl.1 rfl (lv_room (Nat.le_of_ble_eq_true rfl)) d_K_apply_104 ⟨Nat.zero_le _, Nat.zero_le _⟩) hS hP hD [7, 8, 9, 10, 11] rfl rfl (fun H locs hP hD hS => ?_)
          have hP : va_P (dC, dI) vwCl (wK q cI cL (supply + mint) (pot + (f_fee supply mint amt made dsp sp dam mk)) (apl + (nI 1)) (f_app own made dow mk) (f_appL amt made dam mk) (f_appL tag made dtg mk) (f_app mad made (fun _ => nI hgt) mk) (f_app (f_offs spt made dsp (nI hgt) sp) made (fun _ => -1) mk) (made + mk) dsp dow dam dtg 0 0 (0 : Int64) dep sups pots apps row hgt und) H := hP
          have hD : va_D A (wK q cI cL (supply + mint) (pot + (f_fee supply mint amt made dsp sp dam mk)) (apl + (nI 1)) (f_app own made dow mk) (f_appL amt made dam mk) (f_appL tag made dtg mk) (f_app mad made (fun _ => nI hgt) mk) (f_app (f_offs spt made dsp (nI hgt) sp) made (fun _ => -1) mk) (made + mk) dsp dow dam dtg 0 0 (0 : Int64) dep sups pots apps row hgt und) := hD
          refine lv_lload_n hx hb d_K_apply_107 rfl (lv_at hl 0 rfl) ?_
          exact ob_lretW (v := f_fee supply mint amt made dsp sp dam mk) hx hb hr hlocks hQ hS hP rfl rfl d_K_apply_108
        · have t_53 := mt (cv_le (nI_toInt (by omega)) (nI_toInt (by omega))).mpr c_53
          exact absurd t_53 (by omega)
      · have c_32 := mt (lg_cmp_ge _ _).mpr c_32
        exact absurd h2 c_32
    · have t_17 := (cv_eq (nI_toInt (by omega)) (by decide : (0 : Int32).toInt = 0)).mp c_17
      exact absurd h1 (by omega)
abbrev rm_K_close : Room := { frames := 2, cells := 0, slots := 0, locals := 39 }
set_option maxHeartbeats 4000000 in
set_option maxRecDepth 100000 in
theorem c_K_close (l : Launch) (dC : Nat → ClassId) (dI : Nat → Nat → Nat) (q : Nat → Nat) (cI cL : ClassId) (supply : Int64) (pot : Int64) (apl : Int32) (own : Nat → Int32) (amt : Nat → Int64) (tag : Nat → Int64) (mad : Nat → Int32) (spt : Nat → Int32) (made : Nat) (dsp : Nat → Int32) (dow : Nat → Int32) (dam : Nat → Int64) (dtg : Nat → Int64) (sp : Nat) (mk : Nat) (mint : Int64) (dep : Nat) (sups : Nat → Int64) (pots : Nat → Int64) (apps : Nat → Int32) (row : Nat) (hgt : Nat) (und : Nat)  (hrow : row ≤ dep) (hdep : dep ≤ 64) (hhg : hgt ≤ 1000) (hud : und ≤ dep) : Met l y_K_close w_K_close rm_K_close (va_Pc [.ref (q 0)] (ob_BW (dC, dI) vwCl (wK q cI cL supply pot apl own amt tag mad spt made dsp dow dam dtg sp mk mint dep sups pots apps row hgt und) [(cI, .int), (cL, .long)] ob_N)) (va_Qi (fun (r : Int32) (_ : Unit) => r = nI (hgt + 1)) (fun _ t => va_P (dC, dI) vwCl (wK q cI cL supply pot apl own amt tag mad spt made dsp dow dam dtg sp mk mint dep (vp_updL sups (f_row row dep) supply) (vp_updL pots (f_row row dep) pot) (upd apps (f_row row dep) apl) (f_row row dep) (hgt + 1) (min dep (und + 1))) t.heap) (ob_A (wK q cI cL supply pot apl own amt tag mad spt made dsp dow dam dtg sp mk mint dep sups pots apps row hgt und))) 0 0 (ob_A (wK q cI cL supply pot apl own amt tag mad spt made dsp dow dam dtg sp mk mint dep sups pots apps row hgt und)) := by
  refine ob_ofW (cc := b_K_close) (maxL := 1) (ret := (some .int)) (own := R_K) (by decide) rfl rfl (Nat.le_of_ble_eq_true rfl) ?_
  intro p e s m args below meth c Q hQ hx hb hr hml hT hown hlocks hv ls hl
  obtain ⟨⟨hP, hK, hN⟩, hD0⟩ := hv
  have hD := ob_D_self hD0
  generalize hAe : ob_A (wK q cI cL supply pot apl own amt tag mad spt made dsp dow dam dtg sp mk mint dep sups pots apps row hgt und) = A at hQ hD
  have hS : va_S A s.heap s.heap [] := va_S.rf
  have hl : lv_has ls 1 [(0, .ref (q 0))] := hl
  refine lv_aload_n hx hb d_K_close_0 rfl (lv_at hl 0 rfl) ?_
  refine va_get (D := (dC, dI)) (ci := 3) (v := .ref (q 12)) (C := R_K) (T := T_K) (N := 6) hx hb hT in_K hown hK hP 0 rfl rfl 2 (by decide) (hT _ k_128) (fun _ h9 => h9) rfl d_K_close_1 ?_
  refine lv_aload_n hx hb d_K_close_4 rfl (lv_at hl 0 rfl) ?_
  refine va_get (D := (dC, dI)) (ci := 3) (v := .long supply) (C := R_K) (T := T_K) (N := 6) hx hb hT in_K hown hK hP 0 rfl rfl 3 (by decide) (hT _ k_129) (fun _ h9 => h9) rfl d_K_close_5 ?_
  refine lv_aload_n hx hb d_K_close_8 rfl (lv_at hl 0 rfl) ?_
  refine va_get (D := (dC, dI)) (ci := 3) (v := .long pot) (C := R_K) (T := T_K) (N := 6) hx hb hT in_K hown hK hP 0 rfl rfl 4 (by decide) (hT _ k_130) (fun _ h9 => h9) rfl d_K_close_9 ?_
  refine lv_aload_n hx hb d_K_close_12 rfl (lv_at hl 0 rfl) ?_
  refine va_get (D := (dC, dI)) (ci := 3) (v := .int apl) (C := R_K) (T := T_K) (N := 6) hx hb hT in_K hown hK hP 0 rfl rfl 5 (by decide) (hT _ k_131) (fun _ h9 => h9) rfl d_K_close_13 ?_
  refine ob_callWv (va_runV (As := [.long supply, .long pot, .int apl]) (rest := []) ⟨hx, hb, hml, hown, hT⟩ (c_B_openNext l dC dI q cI cL dep sups pots apps row hgt und supply pot apl hrow hdep hhg hud) (cwV 3 hT (ob_goodV k_237 k_238 k_239 k_12 k_240) rfl rfl rfl (by decide +kernel) ⟨Nat.le_of_ble_eq_true rfl, Nat.le_of_ble_eq_true rfl⟩) (ob_preVW (wc := wB q cI cL dep sups pots apps row hgt und) (q0 := 0) rfl hK hP hD (fun _ h => absurd h List.not_mem_nil) rfl [12, 13, 14, 15] rfl rfl rfl rfl) rfl rfl hl.1 rfl (lv_room (Nat.le_of_ble_eq_true rfl)) d_K_close_16 ⟨Nat.zero_le _, Nat.zero_le _⟩) hS hP hD [12, 13, 14, 15] rfl rfl (fun H locs hP hD hS => ?_)
  have hP : va_P (dC, dI) vwCl (wK q cI cL supply pot apl own amt tag mad spt made dsp dow dam dtg sp mk mint dep (vp_updL sups (f_row row dep) supply) (vp_updL pots (f_row row dep) pot) (upd apps (f_row row dep) apl) (f_row row dep) (hgt + 1) (min dep (und + 1))) H := hP
  have hD : va_D A (wK q cI cL supply pot apl own amt tag mad spt made dsp dow dam dtg sp mk mint dep (vp_updL sups (f_row row dep) supply) (vp_updL pots (f_row row dep) pot) (upd apps (f_row row dep) apl) (f_row row dep) (hgt + 1) (min dep (und + 1))) := hD
  refine lv_aload_n hx hb d_K_close_19 rfl (lv_at hl 0 rfl) ?_
  refine va_get (D := (dC, dI)) (ci := 3) (v := .ref (q 12)) (C := R_K) (T := T_K) (N := 6) hx hb hT in_K hown hK hP 0 rfl rfl 2 (by decide) (hT _ k_128) (fun _ h9 => h9) rfl d_K_close_20 ?_
  refine va_getN (D := (dC, dI)) (ci := 0) (v := .int (nI (hgt + 1))) (C := R_B) (T := T_B) (N := 7) hx hb hT in_B hown hK hP 12 rfl rfl 5 (by decide) (va_Nw.use rfl (hN _ (List.mem_of_getElem? (i := 14) rfl))) (fun _ h9 => h9) rfl d_K_close_23 ?_
  exact ob_iretW (v := nI (hgt + 1)) hx hb hr hlocks hQ hS hP rfl rfl d_K_close_26
abbrev rm_K_undo_f : Room := { frames := 0, cells := 0, slots := 0, locals := 0 }
set_option maxHeartbeats 4000000 in
set_option maxRecDepth 100000 in
theorem c_K_undo_f (l : Launch) (dC : Nat → ClassId) (dI : Nat → Nat → Nat) (q : Nat → Nat) (cI cL : ClassId) (supply : Int64) (pot : Int64) (apl : Int32) (own : Nat → Int32) (amt : Nat → Int64) (tag : Nat → Int64) (mad : Nat → Int32) (spt : Nat → Int32) (made : Nat) (dsp : Nat → Int32) (dow : Nat → Int32) (dam : Nat → Int64) (dtg : Nat → Int64) (sp : Nat) (mk : Nat) (mint : Int64) (dep : Nat) (sups : Nat → Int64) (pots : Nat → Int64) (apps : Nat → Int32) (row : Nat) (hgt : Nat) (und : Nat) (x : Int32) (hud : und ≤ 64) (hno : ¬ (0 ≤ x.toInt ∧ x.toInt ≤ und)) : Met l y_K_undo w_K_undo rm_K_undo_f (va_Pc [.ref (q 0), .int x] (ob_B (dC, dI) vwCl (wK q cI cL supply pot apl own amt tag mad spt made dsp dow dam dtg sp mk mint dep sups pots apps row hgt und) [(cI, .int), (cL, .long)] ob_N)) (QcRead ((-1 : Int32))) 0 0 (fun _ => False) := by
  refine ob_ofW (cc := b_K_undo) (maxL := 2) (ret := (some .int)) (own := R_K) (by decide) rfl rfl (Nat.le_of_ble_eq_true rfl) ?_
  intro p e s m args below meth c Q hQ hx hb hr hml hT hown hlocks hv ls hl
  obtain ⟨hP, hK, hN⟩ := hv
  have hl : lv_has ls 2 [(0, .ref (q 0)), (1, .int x)] := hl
  refine lv_iload_n hx hb d_K_undo_0 rfl (lv_at hl 1 rfl) ?_
  refine lv_if_lt (tgt := 15) hx hb d_K_undo_1 (by decide) (fun c_1 => ?_) (fun c_1 => ?_)
  · have t_1 := (cv_lt rfl (by decide : (0 : Int32).toInt = 0)).mp c_1
    refine lv_iconst (v := (-1 : Int32)) hx hb d_K_undo_15 (by decide) ?_
    exact ob_iret (v := (-1 : Int32)) hx hb hr hlocks hQ rfl d_K_undo_16
  · have t_1 := mt (cv_lt rfl (by decide : (0 : Int32).toInt = 0)).mpr c_1
    refine lv_iload_n hx hb d_K_undo_4 rfl (lv_at hl 1 rfl) ?_
    refine lv_aload_n hx hb d_K_undo_5 rfl (lv_at hl 0 rfl) ?_
    refine va_get (D := (dC, dI)) (ci := 3) (v := .ref (q 12)) (C := R_K) (T := T_K) (N := 6) hx hb hT in_K hown hK hP 0 rfl rfl 2 (by decide) (hT _ k_128) (fun _ h9 => h9) rfl d_K_undo_6 ?_
    refine va_getN (D := (dC, dI)) (ci := 0) (v := .int (nI und)) (C := R_B) (T := T_B) (N := 7) hx hb hT in_B hown hK hP 12 rfl rfl 6 (by decide) (va_Nw.use rfl (hN _ (List.mem_of_getElem? (i := 15) rfl))) (fun _ h9 => h9) rfl d_K_undo_9 ?_
    refine lv_icmp_le (tgt := 17) hx hb d_K_undo_12 (by decide) (fun c_12 => ?_) (fun c_12 => ?_)
    · have t_12 := (cv_le rfl (nI_toInt (by omega))).mp c_12
      exact absurd hno (by omega)
    · have t_12 := mt (cv_le rfl (nI_toInt (by omega))).mpr c_12
      refine lv_iconst (v := (-1 : Int32)) hx hb d_K_undo_15 (by decide) ?_
      exact ob_iret (v := (-1 : Int32)) hx hb hr hlocks hQ rfl d_K_undo_16
abbrev rm_K_undo_t : Room := { frames := 1, cells := 0, slots := 0, locals := 22 }
set_option maxHeartbeats 4000000 in
set_option maxRecDepth 100000 in
theorem c_K_undo_t (l : Launch) (dC : Nat → ClassId) (dI : Nat → Nat → Nat) (q : Nat → Nat) (cI cL : ClassId) (supply : Int64) (pot : Int64) (apl : Int32) (own : Nat → Int32) (amt : Nat → Int64) (tag : Nat → Int64) (mad : Nat → Int32) (spt : Nat → Int32) (made : Nat) (dsp : Nat → Int32) (dow : Nat → Int32) (dam : Nat → Int64) (dtg : Nat → Int64) (sp : Nat) (mk : Nat) (mint : Int64) (dep : Nat) (sups : Nat → Int64) (pots : Nat → Int64) (apps : Nat → Int32) (row : Nat) (hgt : Nat) (und : Nat) (x : Int32) (hm : made ≤ 2048) (hrow : row ≤ dep) (hdep : dep ≤ 64) (hhg : hgt ≤ 1000) (hud : und ≤ dep) (huh : und ≤ hgt) (h0 : 0 ≤ x.toInt) (h1 : x.toInt ≤ und) : Met l y_K_undo w_K_undo rm_K_undo_t (va_Pc [.ref (q 0), .int x] (ob_BW (dC, dI) vwCl (wK q cI cL supply pot apl own amt tag mad spt made dsp dow dam dtg sp mk mint dep sups pots apps row hgt und) [(cI, .int), (cL, .long)] ob_N)) (va_Qi (fun (r : Int32) (_ : Unit) => r = nI (hgt - x.toNatClampNeg)) (fun _ t => va_P (dC, dI) vwCl (wK q cI cL (sups (f_rowb row dep x.toNatClampNeg)) (pots (f_rowb row dep x.toNatClampNeg)) (apps (f_rowb row dep x.toNatClampNeg)) own amt tag mad (f_unsp spt (nI (hgt - x.toNatClampNeg)) (f_back mad (nI (hgt - x.toNatClampNeg)) made)) (f_back mad (nI (hgt - x.toNatClampNeg)) made) dsp dow dam dtg 0 0 (0 : Int64) dep sups pots apps (f_rowb row dep x.toNatClampNeg) (hgt - x.toNatClampNeg) (und - x.toNatClampNeg)) t.heap) (ob_A (wK q cI cL supply pot apl own amt tag mad spt made dsp dow dam dtg sp mk mint dep sups pots apps row hgt und))) 0 0 (ob_A (wK q cI cL supply pot apl own amt tag mad spt made dsp dow dam dtg sp mk mint dep sups pots apps row hgt und)) := by
  refine ob_ofW (cc := b_K_undo) (maxL := 2) (ret := (some .int)) (own := R_K) (by decide) rfl rfl (Nat.le_of_ble_eq_true rfl) ?_
  intro p e s m args below meth c Q hQ hx hb hr hml hT hown hlocks hv ls hl
  obtain ⟨⟨hP, hK, hN⟩, hD0⟩ := hv
  have hD := ob_D_self hD0
  generalize hAe : ob_A (wK q cI cL supply pot apl own amt tag mad spt made dsp dow dam dtg sp mk mint dep sups pots apps row hgt und) = A at hQ hD
  have hS : va_S A s.heap s.heap [] := va_S.rf
  have hl : lv_has ls 2 [(0, .ref (q 0)), (1, .int x)] := hl
  refine lv_iload_n hx hb d_K_undo_0 rfl (lv_at hl 1 rfl) ?_
  refine lv_if_lt (tgt := 15) hx hb d_K_undo_1 (by decide) (fun c_1 => ?_) (fun c_1 => ?_)
  · have t_1 := (cv_lt rfl (by decide : (0 : Int32).toInt = 0)).mp c_1
    exact absurd t_1 (by omega)
  · have t_1 := mt (cv_lt rfl (by decide : (0 : Int32).toInt = 0)).mpr c_1
    refine lv_iload_n hx hb d_K_undo_4 rfl (lv_at hl 1 rfl) ?_
    refine lv_aload_n hx hb d_K_undo_5 rfl (lv_at hl 0 rfl) ?_
    refine va_get (D := (dC, dI)) (ci := 3) (v := .ref (q 12)) (C := R_K) (T := T_K) (N := 6) hx hb hT in_K hown hK hP 0 rfl rfl 2 (by decide) (hT _ k_128) (fun _ h9 => h9) rfl d_K_undo_6 ?_
    refine va_getN (D := (dC, dI)) (ci := 0) (v := .int (nI und)) (C := R_B) (T := T_B) (N := 7) hx hb hT in_B hown hK hP 12 rfl rfl 6 (by decide) (va_Nw.use rfl (hN _ (List.mem_of_getElem? (i := 15) rfl))) (fun _ h9 => h9) rfl d_K_undo_9 ?_
    refine lv_icmp_le (tgt := 17) hx hb d_K_undo_12 (by decide) (fun c_12 => ?_) (fun c_12 => ?_)
    · have t_12 := (cv_le rfl (nI_toInt (by omega))).mp c_12
      refine lv_aload_n hx hb d_K_undo_17 rfl (lv_at hl 0 rfl) ?_
      refine va_get (D := (dC, dI)) (ci := 3) (v := .ref (q 12)) (C := R_K) (T := T_K) (N := 6) hx hb hT in_K hown hK hP 0 rfl rfl 2 (by decide) (hT _ k_128) (fun _ h9 => h9) rfl d_K_undo_18 ?_
      refine lv_iload_n hx hb d_K_undo_21 rfl (lv_at hl 1 rfl) ?_
      have hxn := cl_toInt h0
      refine ob_eqi (y := nI x.toNatClampNeg) (nI_self h0) ?_
      have hfr := f_rowb_le (row := row) (dep := dep) (n := x.toNatClampNeg) hrow (by omega)
      refine ob_callWv (va_runV (As := [.int (nI x.toNatClampNeg)]) (rest := []) ⟨hx, hb, hml, hown, hT⟩ (c_B_goBack l dC dI q cI cL dep sups pots apps row hgt und x.toNatClampNeg hrow hdep hhg hud huh (by omega)) (cwV 1 hT (ob_goodV k_246 k_247 k_248 k_12 k_249) rfl rfl rfl (by decide +kernel) ⟨Nat.le_of_ble_eq_true rfl, Nat.le_of_ble_eq_true rfl⟩) (ob_preVW (wc := wB q cI cL dep sups pots apps row hgt und) (q0 := 0) rfl hK hP hD (fun _ h => absurd h List.not_mem_nil) rfl [12, 13, 14, 15] rfl rfl rfl rfl) rfl rfl hl.1 rfl (lv_room (Nat.le_of_ble_eq_true rfl)) d_K_undo_22 ⟨Nat.zero_le _, Nat.zero_le _⟩) hS hP hD [12, 13, 14, 15] rfl rfl (fun H locs hP hD hS => ?_)
      have hP : va_P (dC, dI) vwCl (wK q cI cL supply pot apl own amt tag mad spt made dsp dow dam dtg sp mk mint dep sups pots apps (f_rowb row dep x.toNatClampNeg) (hgt - x.toNatClampNeg) (und - x.toNatClampNeg)) H := hP
      have hD : va_D A (wK q cI cL supply pot apl own amt tag mad spt made dsp dow dam dtg sp mk mint dep sups pots apps (f_rowb row dep x.toNatClampNeg) (hgt - x.toNatClampNeg) (und - x.toNatClampNeg)) := hD
      refine lv_aload_n hx hb d_K_undo_25 rfl (lv_at hl 0 rfl) ?_
      refine lv_aload_n hx hb d_K_undo_26 rfl (lv_at hl 0 rfl) ?_
      refine va_get (D := (dC, dI)) (ci := 3) (v := .ref (q 12)) (C := R_K) (T := T_K) (N := 6) hx hb hT in_K hown hK hP 0 rfl rfl 2 (by decide) (hT _ k_128) (fun _ h9 => h9) rfl d_K_undo_27 ?_
      refine ob_callL (W.runV (As := []) (rest := [.ref (q 0)]) ⟨hx, hb, hml, hown, hT⟩ (c_B_supplyAtOpening l dC dI q cI cL dep sups pots apps (f_rowb row dep x.toNatClampNeg) (hgt - x.toNatClampNeg) (und - x.toNatClampNeg) hfr hdep) (cwV 0 hT (ob_goodV k_250 k_251 k_252 k_12 k_253) rfl rfl rfl (by decide +kernel) ⟨Nat.le_of_ble_eq_true rfl, Nat.le_of_ble_eq_true rfl⟩) (ob_preV (wc := wB q cI cL dep sups pots apps (f_rowb row dep x.toNatClampNeg) (hgt - x.toNatClampNeg) (und - x.toNatClampNeg)) (q0 := 0) rfl hK hP (fun _ h => absurd h List.not_mem_nil) rfl [12, 13, 14, 15] rfl rfl) rfl rfl hl.1 rfl (lv_room (Nat.le_of_ble_eq_true rfl)) d_K_undo_30 ⟨Nat.zero_le _, Nat.zero_le _⟩) ?_
      refine va_put (D := (dC, dI)) (ci := 3) (v := .long (sups (f_rowb row dep x.toNatClampNeg))) (ty := .long) (C := R_K) (T := T_K) (N := 6) hx hb hT in_K t_K t_K_ok n_K hown hK hP hD hS 0 rfl rfl 3 (by decide) (hT _ k_129) (fun _ h9 => h9) rfl (by decide +kernel) rfl rfl (Nat.le_of_ble_eq_true rfl) d_K_undo_33 (fun H locs hP hD hS => ?_)
      have hP : va_P (dC, dI) vwCl (wK q cI cL (sups (f_rowb row dep x.toNatClampNeg)) pot apl own amt tag mad spt made dsp dow dam dtg sp mk mint dep sups pots apps (f_rowb row dep x.toNatClampNeg) (hgt - x.toNatClampNeg) (und - x.toNatClampNeg)) H := hP
      have hD : va_D A (wK q cI cL (sups (f_rowb row dep x.toNatClampNeg)) pot apl own amt tag mad spt made dsp dow dam dtg sp mk mint dep sups pots apps (f_rowb row dep x.toNatClampNeg) (hgt - x.toNatClampNeg) (und - x.toNatClampNeg)) := hD
      refine lv_aload_n hx hb d_K_undo_36 rfl (lv_at hl 0 rfl) ?_
      refine lv_aload_n hx hb d_K_undo_37 rfl (lv_at hl 0 rfl) ?_
      refine va_get (D := (dC, dI)) (ci := 3) (v := .ref (q 12)) (C := R_K) (T := T_K) (N := 6) hx hb hT in_K hown hK hP 0 rfl rfl 2 (by decide) (hT _ k_128) (fun _ h9 => h9) rfl d_K_undo_38 ?_
      refine ob_callL (W.runV (As := []) (rest := [.ref (q 0)]) ⟨hx, hb, hml, hown, hT⟩ (c_B_potAtOpening l dC dI q cI cL dep sups pots apps (f_rowb row dep x.toNatClampNeg) (hgt - x.toNatClampNeg) (und - x.toNatClampNeg) hfr hdep) (cwV 0 hT (ob_goodV k_254 k_255 k_256 k_12 k_257) rfl rfl rfl (by decide +kernel) ⟨Nat.le_of_ble_eq_true rfl, Nat.le_of_ble_eq_true rfl⟩) (ob_preV (wc := wB q cI cL dep sups pots apps (f_rowb row dep x.toNatClampNeg) (hgt - x.toNatClampNeg) (und - x.toNatClampNeg)) (q0 := 0) rfl hK hP (fun _ h => absurd h List.not_mem_nil) rfl [12, 13, 14, 15] rfl rfl) rfl rfl hl.1 rfl (lv_room (Nat.le_of_ble_eq_true rfl)) d_K_undo_41 ⟨Nat.zero_le _, Nat.zero_le _⟩) ?_
      refine va_put (D := (dC, dI)) (ci := 3) (v := .long (pots (f_rowb row dep x.toNatClampNeg))) (ty := .long) (C := R_K) (T := T_K) (N := 6) hx hb hT in_K t_K t_K_ok n_K hown hK hP hD hS 0 rfl rfl 4 (by decide) (hT _ k_130) (fun _ h9 => h9) rfl (by decide +kernel) rfl rfl (Nat.le_of_ble_eq_true rfl) d_K_undo_44 (fun H locs hP hD hS => ?_)
      have hP : va_P (dC, dI) vwCl (wK q cI cL (sups (f_rowb row dep x.toNatClampNeg)) (pots (f_rowb row dep x.toNatClampNeg)) apl own amt tag mad spt made dsp dow dam dtg sp mk mint dep sups pots apps (f_rowb row dep x.toNatClampNeg) (hgt - x.toNatClampNeg) (und - x.toNatClampNeg)) H := hP
      have hD : va_D A (wK q cI cL (sups (f_rowb row dep x.toNatClampNeg)) (pots (f_rowb row dep x.toNatClampNeg)) apl own amt tag mad spt made dsp dow dam dtg sp mk mint dep sups pots apps (f_rowb row dep x.toNatClampNeg) (hgt - x.toNatClampNeg) (und - x.toNatClampNeg)) := hD
      refine lv_aload_n hx hb d_K_undo_47 rfl (lv_at hl 0 rfl) ?_
      refine lv_aload_n hx hb d_K_undo_48 rfl (lv_at hl 0 rfl) ?_
      refine va_get (D := (dC, dI)) (ci := 3) (v := .ref (q 12)) (C := R_K) (T := T_K) (N := 6) hx hb hT in_K hown hK hP 0 rfl rfl 2 (by decide) (hT _ k_128) (fun _ h9 => h9) rfl d_K_undo_49 ?_
      refine ob_callR (W.runV (As := []) (rest := [.ref (q 0)]) ⟨hx, hb, hml, hown, hT⟩ (c_B_appliedAtOpening l dC dI q cI cL dep sups pots apps (f_rowb row dep x.toNatClampNeg) (hgt - x.toNatClampNeg) (und - x.toNatClampNeg) hfr hdep) (cwV 0 hT (ob_goodV k_258 k_259 k_260 k_12 k_261) rfl rfl rfl (by decide +kernel) ⟨Nat.le_of_ble_eq_true rfl, Nat.le_of_ble_eq_true rfl⟩) (ob_preV (wc := wB q cI cL dep sups pots apps (f_rowb row dep x.toNatClampNeg) (hgt - x.toNatClampNeg) (und - x.toNatClampNeg)) (q0 := 0) rfl hK hP (fun _ h => absurd h List.not_mem_nil) rfl [12, 13, 14, 15] rfl rfl) rfl rfl hl.1 rfl (lv_room (Nat.le_of_ble_eq_true rfl)) d_K_undo_52 ⟨Nat.zero_le _, Nat.zero_le _⟩) ?_
      refine va_put (D := (dC, dI)) (ci := 3) (v := .int (apps (f_rowb row dep x.toNatClampNeg))) (ty := .int) (C := R_K) (T := T_K) (N := 6) hx hb hT in_K t_K t_K_ok n_K hown hK hP hD hS 0 rfl rfl 5 (by decide) (hT _ k_131) (fun _ h9 => h9) rfl (by decide +kernel) rfl rfl (Nat.le_of_ble_eq_true rfl) d_K_undo_55 (fun H locs hP hD hS => ?_)
      have hP : va_P (dC, dI) vwCl (wK q cI cL (sups (f_rowb row dep x.toNatClampNeg)) (pots (f_rowb row dep x.toNatClampNeg)) (apps (f_rowb row dep x.toNatClampNeg)) own amt tag mad spt made dsp dow dam dtg sp mk mint dep sups pots apps (f_rowb row dep x.toNatClampNeg) (hgt - x.toNatClampNeg) (und - x.toNatClampNeg)) H := hP
      have hD : va_D A (wK q cI cL (sups (f_rowb row dep x.toNatClampNeg)) (pots (f_rowb row dep x.toNatClampNeg)) (apps (f_rowb row dep x.toNatClampNeg)) own amt tag mad spt made dsp dow dam dtg sp mk mint dep sups pots apps (f_rowb row dep x.toNatClampNeg) (hgt - x.toNatClampNeg) (und - x.toNatClampNeg)) := hD
      refine lv_aload_n hx hb d_K_undo_58 rfl (lv_at hl 0 rfl) ?_
      refine va_get (D := (dC, dI)) (ci := 3) (v := .ref (q 1)) (C := R_K) (T := T_K) (N := 6) hx hb hT in_K hown hK hP 0 rfl rfl 0 (by decide) (hT _ k_126) (fun _ h9 => h9) rfl d_K_undo_59 ?_
      refine lv_aload_n hx hb d_K_undo_62 rfl (lv_at hl 0 rfl) ?_
      refine va_get (D := (dC, dI)) (ci := 3) (v := .ref (q 12)) (C := R_K) (T := T_K) (N := 6) hx hb hT in_K hown hK hP 0 rfl rfl 2 (by decide) (hT _ k_128) (fun _ h9 => h9) rfl d_K_undo_63 ?_
      refine va_getN (D := (dC, dI)) (ci := 0) (v := .int (nI (hgt - x.toNatClampNeg))) (C := R_B) (T := T_B) (N := 7) hx hb hT in_B hown hK hP 12 rfl rfl 5 (by decide) (va_Nw.use rfl (hN _ (List.mem_of_getElem? (i := 14) rfl))) (fun _ h9 => h9) rfl d_K_undo_66 ?_
      refine ob_callWv (va_runV (As := [.int (nI (hgt - x.toNatClampNeg))]) (rest := []) ⟨hx, hb, hml, hown, hT⟩ (c_O_takeBackFrom l dC dI q cI cL own amt tag mad spt made (nI (hgt - x.toNatClampNeg)) hm) (cwV 1 hT (ob_goodV k_262 k_263 k_264 k_10 k_265) rfl rfl rfl (by decide +kernel) ⟨Nat.le_of_ble_eq_true rfl, Nat.le_of_ble_eq_true rfl⟩) (ob_preVW (wc := wO q cI cL own amt tag mad spt made) (q0 := 0) rfl hK hP hD (fun _ h => absurd h List.not_mem_nil) rfl [1, 2, 3, 4, 5, 6] rfl rfl rfl rfl) rfl rfl hl.1 rfl (lv_room (Nat.le_of_ble_eq_true rfl)) d_K_undo_69 ⟨Nat.zero_le _, Nat.zero_le _⟩) hS hP hD [1, 2, 3, 4, 5, 6] rfl rfl (fun H locs hP hD hS => ?_)
      have hP : va_P (dC, dI) vwCl (wK q cI cL (sups (f_rowb row dep x.toNatClampNeg)) (pots (f_rowb row dep x.toNatClampNeg)) (apps (f_rowb row dep x.toNatClampNeg)) own amt tag mad (f_unsp spt (nI (hgt - x.toNatClampNeg)) (f_back mad (nI (hgt - x.toNatClampNeg)) made)) (f_back mad (nI (hgt - x.toNatClampNeg)) made) dsp dow dam dtg sp mk mint dep sups pots apps (f_rowb row dep x.toNatClampNeg) (hgt - x.toNatClampNeg) (und - x.toNatClampNeg)) H := hP
      have hD : va_D A (wK q cI cL (sups (f_rowb row dep x.toNatClampNeg)) (pots (f_rowb row dep x.toNatClampNeg)) (apps (f_rowb row dep x.toNatClampNeg)) own amt tag mad (f_unsp spt (nI (hgt - x.toNatClampNeg)) (f_back mad (nI (hgt - x.toNatClampNeg)) made)) (f_back mad (nI (hgt - x.toNatClampNeg)) made) dsp dow dam dtg sp mk mint dep sups pots apps (f_rowb row dep x.toNatClampNeg) (hgt - x.toNatClampNeg) (und - x.toNatClampNeg)) := hD
      refine lv_aload_n hx hb d_K_undo_72 rfl (lv_at hl 0 rfl) ?_
      refine va_get (D := (dC, dI)) (ci := 3) (v := .ref (q 7)) (C := R_K) (T := T_K) (N := 6) hx hb hT in_K hown hK hP 0 rfl rfl 1 (by decide) (hT _ k_127) (fun _ h9 => h9) rfl d_K_undo_73 ?_
      refine ob_callWv (va_runV (As := []) (rest := []) ⟨hx, hb, hml, hown, hT⟩ (c_D_clear l dC dI q cI cL dsp dow dam dtg sp mk mint ) (cwV 0 hT (ob_goodV k_195 k_196 k_197 k_11 k_198) rfl rfl rfl (by decide +kernel) ⟨Nat.le_of_ble_eq_true rfl, Nat.le_of_ble_eq_true rfl⟩) (ob_preVW (wc := wD q cI cL dsp dow dam dtg sp mk mint) (q0 := 0) rfl hK hP hD (fun _ h => absurd h List.not_mem_nil) rfl [7, 8, 9, 10, 11] rfl rfl rfl rfl) rfl rfl hl.1 rfl (lv_room (Nat.le_of_ble_eq_true rfl)) d_K_undo_76 ⟨Nat.zero_le _, Nat.zero_le _⟩) hS hP hD [7, 8, 9, 10, 11] rfl rfl (fun H locs hP hD hS => ?_)
      have hP : va_P (dC, dI) vwCl (wK q cI cL (sups (f_rowb row dep x.toNatClampNeg)) (pots (f_rowb row dep x.toNatClampNeg)) (apps (f_rowb row dep x.toNatClampNeg)) own amt tag mad (f_unsp spt (nI (hgt - x.toNatClampNeg)) (f_back mad (nI (hgt - x.toNatClampNeg)) made)) (f_back mad (nI (hgt - x.toNatClampNeg)) made) dsp dow dam dtg 0 0 (0 : Int64) dep sups pots apps (f_rowb row dep x.toNatClampNeg) (hgt - x.toNatClampNeg) (und - x.toNatClampNeg)) H := hP
      have hD : va_D A (wK q cI cL (sups (f_rowb row dep x.toNatClampNeg)) (pots (f_rowb row dep x.toNatClampNeg)) (apps (f_rowb row dep x.toNatClampNeg)) own amt tag mad (f_unsp spt (nI (hgt - x.toNatClampNeg)) (f_back mad (nI (hgt - x.toNatClampNeg)) made)) (f_back mad (nI (hgt - x.toNatClampNeg)) made) dsp dow dam dtg 0 0 (0 : Int64) dep sups pots apps (f_rowb row dep x.toNatClampNeg) (hgt - x.toNatClampNeg) (und - x.toNatClampNeg)) := hD
      refine lv_aload_n hx hb d_K_undo_79 rfl (lv_at hl 0 rfl) ?_
      refine va_get (D := (dC, dI)) (ci := 3) (v := .ref (q 12)) (C := R_K) (T := T_K) (N := 6) hx hb hT in_K hown hK hP 0 rfl rfl 2 (by decide) (hT _ k_128) (fun _ h9 => h9) rfl d_K_undo_80 ?_
      refine va_getN (D := (dC, dI)) (ci := 0) (v := .int (nI (hgt - x.toNatClampNeg))) (C := R_B) (T := T_B) (N := 7) hx hb hT in_B hown hK hP 12 rfl rfl 5 (by decide) (va_Nw.use rfl (hN _ (List.mem_of_getElem? (i := 14) rfl))) (fun _ h9 => h9) rfl d_K_undo_83 ?_
      exact ob_iretW (v := nI (hgt - x.toNatClampNeg)) hx hb hr hlocks hQ hS hP rfl rfl d_K_undo_86
    · have t_12 := mt (cv_le rfl (nI_toInt (by omega))).mpr c_12
      exact absurd t_12 (by omega)
abbrev rm_K_output : Room := { frames := 2, cells := 0, slots := 0, locals := 42 }
set_option maxHeartbeats 4000000 in
set_option maxRecDepth 100000 in
theorem c_K_output (l : Launch) (dC : Nat → ClassId) (dI : Nat → Nat → Nat) (q : Nat → Nat) (cI cL : ClassId) (supply : Int64) (pot : Int64) (apl : Int32) (own : Nat → Int32) (amt : Nat → Int64) (tag : Nat → Int64) (mad : Nat → Int32) (spt : Nat → Int32) (made : Nat) (dsp : Nat → Int32) (dow : Nat → Int32) (dam : Nat → Int64) (dtg : Nat → Int64) (sp : Nat) (mk : Nat) (mint : Int64) (dep : Nat) (sups : Nat → Int64) (pots : Nat → Int64) (apps : Nat → Int32) (row : Nat) (hgt : Nat) (und : Nat) (x : Int32) (w : Int32) (hm : made ≤ 2048) : Met l y_K_output w_K_output rm_K_output (va_Pc [.ref (q 0), .int x, .int w] (ob_B (dC, dI) vwCl (wK q cI cL supply pot apl own amt tag mad spt made dsp dow dam dtg sp mk mint dep sups pots apps row hgt und) [(cI, .int), (cL, .long)] ob_N)) (QcRead (f_out own mad spt made x w)) 0 0 (fun _ => False) := by
  refine ob_ofW (cc := b_K_output) (maxL := 3) (ret := (some .int)) (own := R_K) (by decide) rfl rfl (Nat.le_of_ble_eq_true rfl) ?_
  intro p e s m args below meth c Q hQ hx hb hr hml hT hown hlocks hv ls hl
  obtain ⟨hP, hK, hN⟩ := hv
  have hl : lv_has ls 3 [(0, .ref (q 0)), (1, .int x), (2, .int w)] := hl
  refine lv_aload_n hx hb d_K_output_0 rfl (lv_at hl 0 rfl) ?_
  refine va_get (D := (dC, dI)) (ci := 3) (v := .ref (q 1)) (C := R_K) (T := T_K) (N := 6) hx hb hT in_K hown hK hP 0 rfl rfl 0 (by decide) (hT _ k_126) (fun _ h9 => h9) rfl d_K_output_1 ?_
  refine lv_iload_n hx hb d_K_output_4 rfl (lv_at hl 1 rfl) ?_
  refine ob_callR (W.runV (As := [.int x]) (rest := []) ⟨hx, hb, hml, hown, hT⟩ (c_O_has l dC dI q cI cL own amt tag mad spt made x hm) (cwV 1 hT (ob_goodV k_270 k_154 k_155 k_10 k_156) rfl rfl rfl (by decide +kernel) ⟨Nat.le_of_ble_eq_true rfl, Nat.le_of_ble_eq_true rfl⟩) (ob_preV (wc := wO q cI cL own amt tag mad spt made) (q0 := 0) rfl hK hP (fun _ h => absurd h List.not_mem_nil) rfl [1, 2, 3, 4, 5, 6] rfl rfl) rfl rfl hl.1 rfl (lv_room (Nat.le_of_ble_eq_true rfl)) d_K_output_5 ⟨Nat.zero_le _, Nat.zero_le _⟩) ?_
  refine ob_split (P := p_has made x) (fun b_5 => ?_) (fun b_5 => ?_)
  · refine lv_if_ne (tgt := 13) hx hb d_K_output_8 (by decide) (fun _ => ?_) (fun c => absurd c (by decide))
    refine lv_iload_n hx hb d_K_output_13 rfl (lv_at hl 2 rfl) ?_
    by_cases s_14_0 : w.toInt = 0
    · refine lv_tableIn (off := 30) (tgt := 44) hx hb d_K_output_14 (by omega) (by omega) (by rw [s_14_0]; rfl) (by decide) ?_
      refine lv_aload_n hx hb d_K_output_44 rfl (lv_at hl 0 rfl) ?_
      refine va_get (D := (dC, dI)) (ci := 3) (v := .ref (q 1)) (C := R_K) (T := T_K) (N := 6) hx hb hT in_K hown hK hP 0 rfl rfl 0 (by decide) (hT _ k_126) (fun _ h9 => h9) rfl d_K_output_45 ?_
      refine va_getN (D := (dC, dI)) (ci := 2) (v := .ref (q 2)) (C := R_O) (T := T_O) (N := 6) hx hb hT in_O hown hK hP 1 rfl rfl 0 (by decide) (va_Nw.use rfl (hN _ (List.mem_of_getElem? (i := 1) rfl))) (fun _ h9 => h9) rfl d_K_output_48 ?_
      refine lv_iload_n hx hb d_K_output_51 rfl (lv_at hl 1 rfl) ?_
      refine ob_iald hx hb hK hP 2 0 rfl rfl (j := x.toNatClampNeg) rfl (cv_in rfl (by omega)) d_K_output_52 ?_
      exact ob_iret (v := own x.toNatClampNeg) hx hb hr hlocks hQ (by rw [f_out, if_pos b_5, if_pos s_14_0]) d_K_output_53
    by_cases s_14_1 : w.toInt = 1
    · refine lv_tableIn (off := 40) (tgt := 54) hx hb d_K_output_14 (by omega) (by omega) (by rw [s_14_1]; rfl) (by decide) ?_
      refine lv_aload_n hx hb d_K_output_54 rfl (lv_at hl 0 rfl) ?_
      refine va_get (D := (dC, dI)) (ci := 3) (v := .ref (q 1)) (C := R_K) (T := T_K) (N := 6) hx hb hT in_K hown hK hP 0 rfl rfl 0 (by decide) (hT _ k_126) (fun _ h9 => h9) rfl d_K_output_55 ?_
      refine lv_iload_n hx hb d_K_output_58 rfl (lv_at hl 1 rfl) ?_
      refine ob_callR (W.runV (As := [.int x]) (rest := []) ⟨hx, hb, hml, hown, hT⟩ (c_O_isLive l dC dI q cI cL own amt tag mad spt made x hm) (cwV 1 hT (ob_goodV k_149 k_150 k_151 k_10 k_152) rfl rfl rfl (by decide +kernel) ⟨Nat.le_of_ble_eq_true rfl, Nat.le_of_ble_eq_true rfl⟩) (ob_preV (wc := wO q cI cL own amt tag mad spt made) (q0 := 0) rfl hK hP (fun _ h => absurd h List.not_mem_nil) rfl [1, 2, 3, 4, 5, 6] rfl rfl) rfl rfl hl.1 rfl (lv_room (Nat.le_of_ble_eq_true rfl)) d_K_output_59 ⟨Nat.zero_le _, Nat.zero_le _⟩) ?_
      refine ob_split (P := p_live spt made x) (fun b_59 => ?_) (fun b_59 => ?_)
      · refine lv_if_eq (tgt := 69) hx hb d_K_output_62 (by decide) (fun c => absurd c (by decide)) (fun _ => ?_)
        refine lv_iconst (v := nI 1) hx hb d_K_output_65 (by decide) ?_
        refine lv_goto (tgt := 70) hx hb d_K_output_66 (by decide) ?_
        exact ob_iret (v := nI 1) hx hb hr hlocks hQ (by rw [f_out, if_pos b_5, if_neg s_14_0, if_pos s_14_1]; first | rw [if_pos b_59.2] | rw [if_neg (fun h => b_59 ⟨b_5, h⟩)]) d_K_output_70
      · refine lv_if_eq (tgt := 69) hx hb d_K_output_62 (by decide) (fun _ => ?_) (fun c => absurd c (by decide))
        refine lv_iconst (v := nI 0) hx hb d_K_output_69 (by decide) ?_
        exact ob_iret (v := nI 0) hx hb hr hlocks hQ (by rw [f_out, if_pos b_5, if_neg s_14_0, if_pos s_14_1]; first | rw [if_pos b_59.2] | rw [if_neg (fun h => b_59 ⟨b_5, h⟩)]) d_K_output_70
    by_cases s_14_2 : w.toInt = 2
    · refine lv_tableIn (off := 57) (tgt := 71) hx hb d_K_output_14 (by omega) (by omega) (by rw [s_14_2]; rfl) (by decide) ?_
      refine lv_aload_n hx hb d_K_output_71 rfl (lv_at hl 0 rfl) ?_
      refine va_get (D := (dC, dI)) (ci := 3) (v := .ref (q 1)) (C := R_K) (T := T_K) (N := 6) hx hb hT in_K hown hK hP 0 rfl rfl 0 (by decide) (hT _ k_126) (fun _ h9 => h9) rfl d_K_output_72 ?_
      refine va_getN (D := (dC, dI)) (ci := 2) (v := .ref (q 5)) (C := R_O) (T := T_O) (N := 6) hx hb hT in_O hown hK hP 1 rfl rfl 3 (by decide) (va_Nw.use rfl (hN _ (List.mem_of_getElem? (i := 3) rfl))) (fun _ h9 => h9) rfl d_K_output_75 ?_
      refine lv_iload_n hx hb d_K_output_78 rfl (lv_at hl 1 rfl) ?_
      refine ob_iald hx hb hK hP 5 0 rfl rfl (j := x.toNatClampNeg) rfl (cv_in rfl (by omega)) d_K_output_79 ?_
      exact ob_iret (v := mad x.toNatClampNeg) hx hb hr hlocks hQ (by rw [f_out, if_pos b_5, if_neg s_14_0, if_neg s_14_1, if_pos s_14_2]) d_K_output_80
    by_cases s_14_3 : w.toInt = 3
    · refine lv_tableIn (off := 67) (tgt := 81) hx hb d_K_output_14 (by omega) (by omega) (by rw [s_14_3]; rfl) (by decide) ?_
      refine lv_aload_n hx hb d_K_output_81 rfl (lv_at hl 0 rfl) ?_
      refine va_get (D := (dC, dI)) (ci := 3) (v := .ref (q 1)) (C := R_K) (T := T_K) (N := 6) hx hb hT in_K hown hK hP 0 rfl rfl 0 (by decide) (hT _ k_126) (fun _ h9 => h9) rfl d_K_output_82 ?_
      refine va_getN (D := (dC, dI)) (ci := 2) (v := .ref (q 6)) (C := R_O) (T := T_O) (N := 6) hx hb hT in_O hown hK hP 1 rfl rfl 4 (by decide) (va_Nw.use rfl (hN _ (List.mem_of_getElem? (i := 4) rfl))) (fun _ h9 => h9) rfl d_K_output_85 ?_
      refine lv_iload_n hx hb d_K_output_88 rfl (lv_at hl 1 rfl) ?_
      refine ob_iald hx hb hK hP 6 0 rfl rfl (j := x.toNatClampNeg) rfl (cv_in rfl (by omega)) d_K_output_89 ?_
      exact ob_iret (v := spt x.toNatClampNeg) hx hb hr hlocks hQ (by rw [f_out, if_pos b_5, if_neg s_14_0, if_neg s_14_1, if_neg s_14_2, if_pos s_14_3]) d_K_output_90
    refine lv_tableOut (tgt := 91) hx hb d_K_output_14 (by omega) (by decide) ?_
    refine lv_iconst (v := (-1 : Int32)) hx hb d_K_output_91 (by decide) ?_
    exact ob_iret (v := (-1 : Int32)) hx hb hr hlocks hQ (by rw [f_out, if_pos b_5, if_neg s_14_0, if_neg s_14_1, if_neg s_14_2, if_neg s_14_3]) d_K_output_92
  · refine lv_if_ne (tgt := 13) hx hb d_K_output_8 (by decide) (fun c => absurd c (by decide)) (fun _ => ?_)
    refine lv_iconst (v := (-1 : Int32)) hx hb d_K_output_11 (by decide) ?_
    exact ob_iret (v := (-1 : Int32)) hx hb hr hlocks hQ (by rw [f_out, if_neg b_5]) d_K_output_12
abbrev rm_K_amount : Room := { frames := 2, cells := 0, slots := 0, locals := 42 }
set_option maxHeartbeats 4000000 in
set_option maxRecDepth 100000 in
theorem c_K_amount (l : Launch) (dC : Nat → ClassId) (dI : Nat → Nat → Nat) (q : Nat → Nat) (cI cL : ClassId) (supply : Int64) (pot : Int64) (apl : Int32) (own : Nat → Int32) (amt : Nat → Int64) (tag : Nat → Int64) (mad : Nat → Int32) (spt : Nat → Int32) (made : Nat) (dsp : Nat → Int32) (dow : Nat → Int32) (dam : Nat → Int64) (dtg : Nat → Int64) (sp : Nat) (mk : Nat) (mint : Int64) (dep : Nat) (sups : Nat → Int64) (pots : Nat → Int64) (apps : Nat → Int32) (row : Nat) (hgt : Nat) (und : Nat) (x : Int32) (hm : made ≤ 2048) : Met l y_K_amount w_K_amount rm_K_amount (va_Pc [.ref (q 0), .int x] (ob_B (dC, dI) vwCl (wK q cI cL supply pot apl own amt tag mad spt made dsp dow dam dtg sp mk mint dep sups pots apps row hgt und) [(cI, .int), (cL, .long)] ob_N)) (QcReadL (f_amt amt made x)) 0 0 (fun _ => False) := by
  refine ob_ofW (cc := b_K_amount) (maxL := 2) (ret := (some .long)) (own := R_K) (by decide) rfl rfl (Nat.le_of_ble_eq_true rfl) ?_
  intro p e s m args below meth c Q hQ hx hb hr hml hT hown hlocks hv ls hl
  obtain ⟨hP, hK, hN⟩ := hv
  have hl : lv_has ls 2 [(0, .ref (q 0)), (1, .int x)] := hl
  refine lv_aload_n hx hb d_K_amount_0 rfl (lv_at hl 0 rfl) ?_
  refine va_get (D := (dC, dI)) (ci := 3) (v := .ref (q 1)) (C := R_K) (T := T_K) (N := 6) hx hb hT in_K hown hK hP 0 rfl rfl 0 (by decide) (hT _ k_126) (fun _ h9 => h9) rfl d_K_amount_1 ?_
  refine lv_iload_n hx hb d_K_amount_4 rfl (lv_at hl 1 rfl) ?_
  refine ob_callL (W.runV (As := [.int x]) (rest := []) ⟨hx, hb, hml, hown, hT⟩ (c_O_amountOf l dC dI q cI cL own amt tag mad spt made x hm) (cwV 1 hT (ob_goodV k_210 k_211 k_212 k_10 k_213) rfl rfl rfl (by decide +kernel) ⟨Nat.le_of_ble_eq_true rfl, Nat.le_of_ble_eq_true rfl⟩) (ob_preV (wc := wO q cI cL own amt tag mad spt made) (q0 := 0) rfl hK hP (fun _ h => absurd h List.not_mem_nil) rfl [1, 2, 3, 4, 5, 6] rfl rfl) rfl rfl hl.1 rfl (lv_room (Nat.le_of_ble_eq_true rfl)) d_K_amount_5 ⟨Nat.zero_le _, Nat.zero_le _⟩) ?_
  exact ob_lret (v := f_amt amt made x) hx hb hr hlocks hQ rfl d_K_amount_8
abbrev rm_K_tag : Room := { frames := 1, cells := 0, slots := 0, locals := 21 }
set_option maxHeartbeats 4000000 in
set_option maxRecDepth 100000 in
theorem c_K_tag (l : Launch) (dC : Nat → ClassId) (dI : Nat → Nat → Nat) (q : Nat → Nat) (cI cL : ClassId) (supply : Int64) (pot : Int64) (apl : Int32) (own : Nat → Int32) (amt : Nat → Int64) (tag : Nat → Int64) (mad : Nat → Int32) (spt : Nat → Int32) (made : Nat) (dsp : Nat → Int32) (dow : Nat → Int32) (dam : Nat → Int64) (dtg : Nat → Int64) (sp : Nat) (mk : Nat) (mint : Int64) (dep : Nat) (sups : Nat → Int64) (pots : Nat → Int64) (apps : Nat → Int32) (row : Nat) (hgt : Nat) (und : Nat) (x : Int32) (hm : made ≤ 2048) : Met l y_K_tag w_K_tag rm_K_tag (va_Pc [.ref (q 0), .int x] (ob_B (dC, dI) vwCl (wK q cI cL supply pot apl own amt tag mad spt made dsp dow dam dtg sp mk mint dep sups pots apps row hgt und) [(cI, .int), (cL, .long)] ob_N)) (QcReadL (f_amt tag made x)) 0 0 (fun _ => False) := by
  refine ob_ofW (cc := b_K_tag) (maxL := 2) (ret := (some .long)) (own := R_K) (by decide) rfl rfl (Nat.le_of_ble_eq_true rfl) ?_
  intro p e s m args below meth c Q hQ hx hb hr hml hT hown hlocks hv ls hl
  obtain ⟨hP, hK, hN⟩ := hv
  have hl : lv_has ls 2 [(0, .ref (q 0)), (1, .int x)] := hl
  refine lv_aload_n hx hb d_K_tag_0 rfl (lv_at hl 0 rfl) ?_
  refine va_get (D := (dC, dI)) (ci := 3) (v := .ref (q 1)) (C := R_K) (T := T_K) (N := 6) hx hb hT in_K hown hK hP 0 rfl rfl 0 (by decide) (hT _ k_126) (fun _ h9 => h9) rfl d_K_tag_1 ?_
  refine lv_iload_n hx hb d_K_tag_4 rfl (lv_at hl 1 rfl) ?_
  refine ob_callR (W.runV (As := [.int x]) (rest := []) ⟨hx, hb, hml, hown, hT⟩ (c_O_has l dC dI q cI cL own amt tag mad spt made x hm) (cwV 1 hT (ob_goodV k_270 k_154 k_155 k_10 k_156) rfl rfl rfl (by decide +kernel) ⟨Nat.le_of_ble_eq_true rfl, Nat.le_of_ble_eq_true rfl⟩) (ob_preV (wc := wO q cI cL own amt tag mad spt made) (q0 := 0) rfl hK hP (fun _ h => absurd h List.not_mem_nil) rfl [1, 2, 3, 4, 5, 6] rfl rfl) rfl rfl hl.1 rfl (lv_room (Nat.le_of_ble_eq_true rfl)) d_K_tag_5 ⟨Nat.zero_le _, Nat.zero_le _⟩) ?_
  refine ob_split (P := p_has made x) (fun b_5 => ?_) (fun b_5 => ?_)
  · refine lv_if_eq (tgt := 23) hx hb d_K_tag_8 (by decide) (fun c => absurd c (by decide)) (fun _ => ?_)
    refine lv_aload_n hx hb d_K_tag_11 rfl (lv_at hl 0 rfl) ?_
    refine va_get (D := (dC, dI)) (ci := 3) (v := .ref (q 1)) (C := R_K) (T := T_K) (N := 6) hx hb hT in_K hown hK hP 0 rfl rfl 0 (by decide) (hT _ k_126) (fun _ h9 => h9) rfl d_K_tag_12 ?_
    refine va_getN (D := (dC, dI)) (ci := 2) (v := .ref (q 4)) (C := R_O) (T := T_O) (N := 6) hx hb hT in_O hown hK hP 1 rfl rfl 2 (by decide) (va_Nw.use rfl (hN _ (List.mem_of_getElem? (i := 2) rfl))) (fun _ h9 => h9) rfl d_K_tag_15 ?_
    refine lv_iload_n hx hb d_K_tag_18 rfl (lv_at hl 1 rfl) ?_
    refine ob_lald hx hb hK hP 4 1 rfl rfl (j := x.toNatClampNeg) rfl (cv_in rfl (by omega)) d_K_tag_19 ?_
    refine lv_goto (tgt := 24) hx hb d_K_tag_20 (by decide) ?_
    exact ob_lret (v := tag x.toNatClampNeg) hx hb hr hlocks hQ (by first | exact (if_pos b_5).symm | exact (if_neg b_5).symm) d_K_tag_24
  · refine lv_if_eq (tgt := 23) hx hb d_K_tag_8 (by decide) (fun _ => ?_) (fun c => absurd c (by decide))
    refine lv_lconst (v := 0) hx hb d_K_tag_23 (by decide) ?_
    exact ob_lret (v := (0 : Int64)) hx hb hr hlocks hQ (by first | exact (if_pos b_5).symm | exact (if_neg b_5).symm) d_K_tag_24
abbrev rm_K_balance : Room := { frames := 3, cells := 0, slots := 0, locals := 64 }
set_option maxHeartbeats 4000000 in
set_option maxRecDepth 100000 in
theorem c_K_balance (l : Launch) (dC : Nat → ClassId) (dI : Nat → Nat → Nat) (q : Nat → Nat) (cI cL : ClassId) (supply : Int64) (pot : Int64) (apl : Int32) (own : Nat → Int32) (amt : Nat → Int64) (tag : Nat → Int64) (mad : Nat → Int32) (spt : Nat → Int32) (made : Nat) (dsp : Nat → Int32) (dow : Nat → Int32) (dam : Nat → Int64) (dtg : Nat → Int64) (sp : Nat) (mk : Nat) (mint : Int64) (dep : Nat) (sups : Nat → Int64) (pots : Nat → Int64) (apps : Nat → Int32) (row : Nat) (hgt : Nat) (und : Nat) (o : Int32) (hm : made ≤ 2048) : Met l y_K_balance w_K_balance rm_K_balance (va_Pc [.ref (q 0), .int o] (ob_B (dC, dI) vwCl (wK q cI cL supply pot apl own amt tag mad spt made dsp dow dam dtg sp mk mint dep sups pots apps row hgt und) [(cI, .int), (cL, .long)] ob_N)) (QcReadL (f_bal (f_lv own spt o) amt made)) 0 0 (fun _ => False) := by
  refine ob_ofW (cc := b_K_balance) (maxL := 5) (ret := (some .long)) (own := R_K) (by decide) rfl rfl (Nat.le_of_ble_eq_true rfl) ?_
  intro p e s m args below meth c Q hQ hx hb hr hml hT hown hlocks hv ls hl
  obtain ⟨hP, hK, hN⟩ := hv
  have hl : lv_has ls 5 [(0, .ref (q 0)), (1, .int o)] := hl
  refine lv_lconst (v := 0) hx hb d_K_balance_0 (by decide) ?_
  refine lv_lstore_n (lv' := [(2, .long (0 : Int64)), (0, .ref (q 0)), (1, .int o)]) hx hb d_K_balance_1 rfl hl (by decide) rfl (fun ls hl => ?_)
  refine lv_iconst (v := nI 0) hx hb d_K_balance_2 (by decide) ?_
  refine lv_istore (lv' := [(4, .int (nI 0)), (2, .long (0 : Int64)), (0, .ref (q 0)), (1, .int o)]) hx hb d_K_balance_3 hl (by decide) rfl (fun ls hl => ?_)
  have key_5 : ∀ (n : Nat) (k : Nat) (sm : Int64) (ls : Array Slot), made - k < n → (k ≤ made) → (sm = f_bal (f_lv own spt o) amt k) → lv_has ls 5 [(4, .int (nI k)), (2, .long sm), (0, .ref (q 0)), (1, .int o)] → W p l e rm_K_balance s m args below meth c s.heap [] 0 0 Q (F0 m 5 ls []) := by
    intro n_5
    induction n_5 with
    | zero => intro k sm ls h; exact absurd h (Nat.not_lt_zero _)
    | succ n_5 ih_5 =>
      intro k sm ls hn_5 hk hs hl
      refine lv_iload hx hb d_K_balance_5 (lv_at hl 0 rfl) ?_
      refine lv_aload_n hx hb d_K_balance_7 rfl (lv_at hl 2 rfl) ?_
      refine va_get (D := (dC, dI)) (ci := 3) (v := .ref (q 1)) (C := R_K) (T := T_K) (N := 6) hx hb hT in_K hown hK hP 0 rfl rfl 0 (by decide) (hT _ k_126) (fun _ h9 => h9) rfl d_K_balance_8 ?_
      refine va_getN (D := (dC, dI)) (ci := 2) (v := .int (nI made)) (C := R_O) (T := T_O) (N := 6) hx hb hT in_O hown hK hP 1 rfl rfl 5 (by decide) (va_Nw.use rfl (hN _ (List.mem_of_getElem? (i := 5) rfl))) (fun _ h9 => h9) rfl d_K_balance_11 ?_
      refine lv_icmp_ge (tgt := 48) hx hb d_K_balance_14 (by decide) (fun c_14 => ?_) (fun c_14 => ?_)
      · have t_14 := (cv_le (nI_toInt (by omega)) (nI_toInt (by omega))).mp c_14
        refine lv_lload_n hx hb d_K_balance_48 rfl (lv_at hl 1 rfl) ?_
        exact ob_lret (v := sm) hx hb hr hlocks hQ (by rw [hs, show k = made by omega]) d_K_balance_49
      · have t_14 := mt (cv_le (nI_toInt (by omega)) (nI_toInt (by omega))).mpr c_14
        refine lv_aload_n hx hb d_K_balance_17 rfl (lv_at hl 2 rfl) ?_
        refine va_get (D := (dC, dI)) (ci := 3) (v := .ref (q 1)) (C := R_K) (T := T_K) (N := 6) hx hb hT in_K hown hK hP 0 rfl rfl 0 (by decide) (hT _ k_126) (fun _ h9 => h9) rfl d_K_balance_18 ?_
        refine lv_iload_n hx hb d_K_balance_21 rfl (lv_at hl 3 rfl) ?_
        refine lv_iload hx hb d_K_balance_22 (lv_at hl 0 rfl) ?_
        refine ob_callR (W.runV (As := [.int o, .int (nI k)]) (rest := []) ⟨hx, hb, hml, hown, hT⟩ (c_O_isLiveOf l dC dI q cI cL own amt tag mad spt made o (nI k) hm) (cwV 2 hT (ob_goodV k_283 k_284 k_285 k_10 k_286) rfl rfl rfl (by decide +kernel) ⟨Nat.le_of_ble_eq_true rfl, Nat.le_of_ble_eq_true rfl⟩) (ob_preV (wc := wO q cI cL own amt tag mad spt made) (q0 := 0) rfl hK hP (fun _ h => absurd h List.not_mem_nil) rfl [1, 2, 3, 4, 5, 6] rfl rfl) rfl rfl hl.1 rfl (lv_room (Nat.le_of_ble_eq_true rfl)) d_K_balance_24 ⟨Nat.zero_le _, Nat.zero_le _⟩) ?_
        refine ob_split (P := p_liveOf own spt made o (nI k)) (fun b_24 => ?_) (fun b_24 => ?_)
        · refine lv_if_eq (tgt := 42) hx hb d_K_balance_27 (by decide) (fun c => absurd c (by decide)) (fun _ => ?_)
          refine lv_lload_n hx hb d_K_balance_30 rfl (lv_at hl 1 rfl) ?_
          refine lv_aload_n hx hb d_K_balance_31 rfl (lv_at hl 2 rfl) ?_
          refine va_get (D := (dC, dI)) (ci := 3) (v := .ref (q 1)) (C := R_K) (T := T_K) (N := 6) hx hb hT in_K hown hK hP 0 rfl rfl 0 (by decide) (hT _ k_126) (fun _ h9 => h9) rfl d_K_balance_32 ?_
          refine lv_iload hx hb d_K_balance_35 (lv_at hl 0 rfl) ?_
          refine ob_callL (W.runV (As := [.int (nI k)]) (rest := [.long sm]) ⟨hx, hb, hml, hown, hT⟩ (c_O_amountOf l dC dI q cI cL own amt tag mad spt made (nI k) hm) (cwV 1 hT (ob_goodV k_210 k_211 k_212 k_10 k_213) rfl rfl rfl (by decide +kernel) ⟨Nat.le_of_ble_eq_true rfl, Nat.le_of_ble_eq_true rfl⟩) (ob_preV (wc := wO q cI cL own amt tag mad spt made) (q0 := 0) rfl hK hP (fun _ h => absurd h List.not_mem_nil) rfl [1, 2, 3, 4, 5, 6] rfl rfl) rfl rfl hl.1 rfl (lv_room (Nat.le_of_ble_eq_true rfl)) d_K_balance_37 ⟨Nat.zero_le _, Nat.zero_le _⟩) ?_
          refine lv_ladd hx hb d_K_balance_40 ?_
          refine lv_lstore_n (lv' := [(2, .long (sm + (f_amt amt made (nI k)))), (4, .int (nI k)), (0, .ref (q 0)), (1, .int o)]) hx hb d_K_balance_41 rfl hl (by decide) rfl (fun ls hl => ?_)
          refine lv_iinc (v := nI (k + 1)) (lv' := [(4, .int (nI (k + 1))), (2, .long (sm + (f_amt amt made (nI k)))), (0, .ref (q 0)), (1, .int o)]) hx hb d_K_balance_42 hl (k := 1) rfl (nI_add k 1) (by decide) rfl (fun ls hl => ?_)
          refine lv_goto (tgt := 5) hx hb d_K_balance_45 (by decide) ?_
          exact ih_5 (k + 1) (sm + (f_amt amt made (nI k))) _ (by omega) (by omega) (by first | exact (by rw [f_bal, if_pos ((p_liveOf_nI (by omega) hm).mp b_24), hs, f_amt_nI (by omega) hm]) | exact (by rw [f_bal, if_neg (fun h => b_24 ((p_liveOf_nI (by omega) hm).mpr h)), hs])) (lv_sub hl [0, 1, 2, 3] rfl)
        · refine lv_if_eq (tgt := 42) hx hb d_K_balance_27 (by decide) (fun _ => ?_) (fun c => absurd c (by decide))
          refine lv_iinc (v := nI (k + 1)) (lv' := [(4, .int (nI (k + 1))), (2, .long sm), (0, .ref (q 0)), (1, .int o)]) hx hb d_K_balance_42 hl (k := 0) rfl (nI_add k 1) (by decide) rfl (fun ls hl => ?_)
          refine lv_goto (tgt := 5) hx hb d_K_balance_45 (by decide) ?_
          exact ih_5 (k + 1) sm _ (by omega) (by omega) (by first | exact (by rw [f_bal, if_pos ((p_liveOf_nI (by omega) hm).mp b_24), hs, f_amt_nI (by omega) hm]) | exact (by rw [f_bal, if_neg (fun h => b_24 ((p_liveOf_nI (by omega) hm).mpr h)), hs])) (lv_sub hl [0, 1, 2, 3] rfl)
  exact key_5 _ 0 (0 : Int64) _ (Nat.lt_succ_self _) (Nat.zero_le _) rfl (lv_sub hl [0, 1, 2, 3] rfl)
abbrev rm_K_count : Room := { frames := 3, cells := 0, slots := 0, locals := 64 }
set_option maxHeartbeats 4000000 in
set_option maxRecDepth 100000 in
theorem c_K_count (l : Launch) (dC : Nat → ClassId) (dI : Nat → Nat → Nat) (q : Nat → Nat) (cI cL : ClassId) (supply : Int64) (pot : Int64) (apl : Int32) (own : Nat → Int32) (amt : Nat → Int64) (tag : Nat → Int64) (mad : Nat → Int32) (spt : Nat → Int32) (made : Nat) (dsp : Nat → Int32) (dow : Nat → Int32) (dam : Nat → Int64) (dtg : Nat → Int64) (sp : Nat) (mk : Nat) (mint : Int64) (dep : Nat) (sups : Nat → Int64) (pots : Nat → Int64) (apps : Nat → Int32) (row : Nat) (hgt : Nat) (und : Nat) (o : Int32) (hm : made ≤ 2048) : Met l y_K_count w_K_count rm_K_count (va_Pc [.ref (q 0), .int o] (ob_B (dC, dI) vwCl (wK q cI cL supply pot apl own amt tag mad spt made dsp dow dam dtg sp mk mint dep sups pots apps row hgt und) [(cI, .int), (cL, .long)] ob_N)) (QcRead (nI (f_cnt (f_lv own spt o) made))) 0 0 (fun _ => False) := by
  refine ob_ofW (cc := b_K_count) (maxL := 4) (ret := (some .int)) (own := R_K) (by decide) rfl rfl (Nat.le_of_ble_eq_true rfl) ?_
  intro p e s m args below meth c Q hQ hx hb hr hml hT hown hlocks hv ls hl
  obtain ⟨hP, hK, hN⟩ := hv
  have hl : lv_has ls 4 [(0, .ref (q 0)), (1, .int o)] := hl
  refine lv_iconst (v := nI 0) hx hb d_K_count_0 (by decide) ?_
  refine lv_istore_n (lv' := [(2, .int (nI 0)), (0, .ref (q 0)), (1, .int o)]) hx hb d_K_count_1 rfl hl (by decide) rfl (fun ls hl => ?_)
  refine lv_iconst (v := nI 0) hx hb d_K_count_2 (by decide) ?_
  refine lv_istore_n (lv' := [(3, .int (nI 0)), (2, .int (nI 0)), (0, .ref (q 0)), (1, .int o)]) hx hb d_K_count_3 rfl hl (by decide) rfl (fun ls hl => ?_)
  have key_4 : ∀ (n : Nat) (k : Nat) (c9 : Nat) (ls : Array Slot), made - k < n → (k ≤ made) → (c9 = f_cnt (f_lv own spt o) k) → lv_has ls 4 [(3, .int (nI k)), (2, .int (nI c9)), (0, .ref (q 0)), (1, .int o)] → W p l e rm_K_count s m args below meth c s.heap [] 0 0 Q (F0 m 4 ls []) := by
    intro n_4
    induction n_4 with
    | zero => intro k c9 ls h; exact absurd h (Nat.not_lt_zero _)
    | succ n_4 ih_4 =>
      intro k c9 ls hn_4 hk hc hl
      refine lv_iload_n hx hb d_K_count_4 rfl (lv_at hl 0 rfl) ?_
      refine lv_aload_n hx hb d_K_count_5 rfl (lv_at hl 2 rfl) ?_
      refine va_get (D := (dC, dI)) (ci := 3) (v := .ref (q 1)) (C := R_K) (T := T_K) (N := 6) hx hb hT in_K hown hK hP 0 rfl rfl 0 (by decide) (hT _ k_126) (fun _ h9 => h9) rfl d_K_count_6 ?_
      refine va_getN (D := (dC, dI)) (ci := 2) (v := .int (nI made)) (C := R_O) (T := T_O) (N := 6) hx hb hT in_O hown hK hP 1 rfl rfl 5 (by decide) (va_Nw.use rfl (hN _ (List.mem_of_getElem? (i := 5) rfl))) (fun _ h9 => h9) rfl d_K_count_9 ?_
      refine lv_icmp_ge (tgt := 36) hx hb d_K_count_12 (by decide) (fun c_12 => ?_) (fun c_12 => ?_)
      · have t_12 := (cv_le (nI_toInt (by omega)) (nI_toInt (by omega))).mp c_12
        refine lv_iload_n hx hb d_K_count_36 rfl (lv_at hl 1 rfl) ?_
        exact ob_iret (v := nI c9) hx hb hr hlocks hQ (by rw [hc, show k = made by omega]) d_K_count_37
      · have t_12 := mt (cv_le (nI_toInt (by omega)) (nI_toInt (by omega))).mpr c_12
        refine lv_aload_n hx hb d_K_count_15 rfl (lv_at hl 2 rfl) ?_
        refine va_get (D := (dC, dI)) (ci := 3) (v := .ref (q 1)) (C := R_K) (T := T_K) (N := 6) hx hb hT in_K hown hK hP 0 rfl rfl 0 (by decide) (hT _ k_126) (fun _ h9 => h9) rfl d_K_count_16 ?_
        refine lv_iload_n hx hb d_K_count_19 rfl (lv_at hl 3 rfl) ?_
        refine lv_iload_n hx hb d_K_count_20 rfl (lv_at hl 0 rfl) ?_
        refine ob_callR (W.runV (As := [.int o, .int (nI k)]) (rest := []) ⟨hx, hb, hml, hown, hT⟩ (c_O_isLiveOf l dC dI q cI cL own amt tag mad spt made o (nI k) hm) (cwV 2 hT (ob_goodV k_283 k_284 k_285 k_10 k_286) rfl rfl rfl (by decide +kernel) ⟨Nat.le_of_ble_eq_true rfl, Nat.le_of_ble_eq_true rfl⟩) (ob_preV (wc := wO q cI cL own amt tag mad spt made) (q0 := 0) rfl hK hP (fun _ h => absurd h List.not_mem_nil) rfl [1, 2, 3, 4, 5, 6] rfl rfl) rfl rfl hl.1 rfl (lv_room (Nat.le_of_ble_eq_true rfl)) d_K_count_21 ⟨Nat.zero_le _, Nat.zero_le _⟩) ?_
        refine ob_split (P := p_liveOf own spt made o (nI k)) (fun b_21 => ?_) (fun b_21 => ?_)
        · refine lv_if_eq (tgt := 30) hx hb d_K_count_24 (by decide) (fun c => absurd c (by decide)) (fun _ => ?_)
          refine lv_iinc (v := nI (c9 + 1)) (lv' := [(2, .int (nI (c9 + 1))), (3, .int (nI k)), (0, .ref (q 0)), (1, .int o)]) hx hb d_K_count_27 hl (k := 1) rfl (nI_add c9 1) (by decide) rfl (fun ls hl => ?_)
          refine lv_iinc (v := nI (k + 1)) (lv' := [(3, .int (nI (k + 1))), (2, .int (nI (c9 + 1))), (0, .ref (q 0)), (1, .int o)]) hx hb d_K_count_30 hl (k := 1) rfl (nI_add k 1) (by decide) rfl (fun ls hl => ?_)
          refine lv_goto (tgt := 4) hx hb d_K_count_33 (by decide) ?_
          exact ih_4 (k + 1) (c9 + 1) _ (by omega) (by omega) (by first | exact (by rw [hc, f_cnt_t ((p_liveOf_nI (by omega) hm).mp b_21)]) | exact (by rw [hc, f_cnt_f (fun h => b_21 ((p_liveOf_nI (by omega) hm).mpr h))])) (lv_sub hl [0, 1, 2, 3] rfl)
        · refine lv_if_eq (tgt := 30) hx hb d_K_count_24 (by decide) (fun _ => ?_) (fun c => absurd c (by decide))
          refine lv_iinc (v := nI (k + 1)) (lv' := [(3, .int (nI (k + 1))), (2, .int (nI c9)), (0, .ref (q 0)), (1, .int o)]) hx hb d_K_count_30 hl (k := 0) rfl (nI_add k 1) (by decide) rfl (fun ls hl => ?_)
          refine lv_goto (tgt := 4) hx hb d_K_count_33 (by decide) ?_
          exact ih_4 (k + 1) c9 _ (by omega) (by omega) (by first | exact (by rw [hc, f_cnt_t ((p_liveOf_nI (by omega) hm).mp b_21)]) | exact (by rw [hc, f_cnt_f (fun h => b_21 ((p_liveOf_nI (by omega) hm).mpr h))])) (lv_sub hl [0, 1, 2, 3] rfl)
  exact key_4 _ 0 0 _ (Nat.lt_succ_self _) (Nat.zero_le _) rfl (lv_sub hl [0, 1, 2, 3] rfl)
abbrev rm_K_nth : Room := { frames := 3, cells := 0, slots := 0, locals := 64 }
set_option maxHeartbeats 4000000 in
set_option maxRecDepth 100000 in
theorem c_K_nth (l : Launch) (dC : Nat → ClassId) (dI : Nat → Nat → Nat) (q : Nat → Nat) (cI cL : ClassId) (supply : Int64) (pot : Int64) (apl : Int32) (own : Nat → Int32) (amt : Nat → Int64) (tag : Nat → Int64) (mad : Nat → Int32) (spt : Nat → Int32) (made : Nat) (dsp : Nat → Int32) (dow : Nat → Int32) (dam : Nat → Int64) (dtg : Nat → Int64) (sp : Nat) (mk : Nat) (mint : Int64) (dep : Nat) (sups : Nat → Int64) (pots : Nat → Int64) (apps : Nat → Int32) (row : Nat) (hgt : Nat) (und : Nat) (o : Int32) (i : Int32) (hm : made ≤ 2048) : Met l y_K_nth w_K_nth rm_K_nth (va_Pc [.ref (q 0), .int o, .int i] (ob_B (dC, dI) vwCl (wK q cI cL supply pot apl own amt tag mad spt made dsp dow dam dtg sp mk mint dep sups pots apps row hgt und) [(cI, .int), (cL, .long)] ob_N)) (QcRead (f_nth (f_lv own spt o) i made 0)) 0 0 (fun _ => False) := by
  refine ob_ofW (cc := b_K_nth) (maxL := 5) (ret := (some .int)) (own := R_K) (by decide) rfl rfl (Nat.le_of_ble_eq_true rfl) ?_
  intro p e s m args below meth c Q hQ hx hb hr hml hT hown hlocks hv ls hl
  obtain ⟨hP, hK, hN⟩ := hv
  have hl : lv_has ls 5 [(0, .ref (q 0)), (1, .int o), (2, .int i)] := hl
  refine lv_iconst (v := nI 0) hx hb d_K_nth_0 (by decide) ?_
  refine lv_istore_n (lv' := [(3, .int (nI 0)), (0, .ref (q 0)), (1, .int o), (2, .int i)]) hx hb d_K_nth_1 rfl hl (by decide) rfl (fun ls hl => ?_)
  refine lv_iconst (v := nI 0) hx hb d_K_nth_2 (by decide) ?_
  refine lv_istore (lv' := [(4, .int (nI 0)), (3, .int (nI 0)), (0, .ref (q 0)), (1, .int o), (2, .int i)]) hx hb d_K_nth_3 hl (by decide) rfl (fun ls hl => ?_)
  have key_5 : ∀ (n : Nat) (k : Nat) (bf : Nat) (ls : Array Slot), made - k < n → (k ≤ made) → (bf = f_cnt (f_lv own spt o) k) → (f_nth (f_lv own spt o) i (made - k) k = f_nth (f_lv own spt o) i made 0) → lv_has ls 5 [(4, .int (nI k)), (3, .int (nI bf)), (0, .ref (q 0)), (1, .int o), (2, .int i)] → W p l e rm_K_nth s m args below meth c s.heap [] 0 0 Q (F0 m 5 ls []) := by
    intro n_5
    induction n_5 with
    | zero => intro k bf ls h; exact absurd h (Nat.not_lt_zero _)
    | succ n_5 ih_5 =>
      intro k bf ls hn_5 hk hc hres hl
      have hbl := f_cnt_le (f_lv own spt o) k
      refine lv_iload hx hb d_K_nth_5 (lv_at hl 0 rfl) ?_
      refine lv_aload_n hx hb d_K_nth_7 rfl (lv_at hl 2 rfl) ?_
      refine va_get (D := (dC, dI)) (ci := 3) (v := .ref (q 1)) (C := R_K) (T := T_K) (N := 6) hx hb hT in_K hown hK hP 0 rfl rfl 0 (by decide) (hT _ k_126) (fun _ h9 => h9) rfl d_K_nth_8 ?_
      refine va_getN (D := (dC, dI)) (ci := 2) (v := .int (nI made)) (C := R_O) (T := T_O) (N := 6) hx hb hT in_O hown hK hP 1 rfl rfl 5 (by decide) (va_Nw.use rfl (hN _ (List.mem_of_getElem? (i := 5) rfl))) (fun _ h9 => h9) rfl d_K_nth_11 ?_
      refine lv_icmp_ge (tgt := 47) hx hb d_K_nth_14 (by decide) (fun c_14 => ?_) (fun c_14 => ?_)
      · have t_14 := (cv_le (nI_toInt (by omega)) (nI_toInt (by omega))).mp c_14
        refine lv_iconst (v := (-1 : Int32)) hx hb d_K_nth_47 (by decide) ?_
        exact ob_iret (v := (-1 : Int32)) hx hb hr hlocks hQ (by rw [← hres, show made - k = 0 by omega]; rfl) d_K_nth_48
      · have t_14 := mt (cv_le (nI_toInt (by omega)) (nI_toInt (by omega))).mpr c_14
        refine lv_aload_n hx hb d_K_nth_17 rfl (lv_at hl 2 rfl) ?_
        refine va_get (D := (dC, dI)) (ci := 3) (v := .ref (q 1)) (C := R_K) (T := T_K) (N := 6) hx hb hT in_K hown hK hP 0 rfl rfl 0 (by decide) (hT _ k_126) (fun _ h9 => h9) rfl d_K_nth_18 ?_
        refine lv_iload_n hx hb d_K_nth_21 rfl (lv_at hl 3 rfl) ?_
        refine lv_iload hx hb d_K_nth_22 (lv_at hl 0 rfl) ?_
        refine ob_callR (W.runV (As := [.int o, .int (nI k)]) (rest := []) ⟨hx, hb, hml, hown, hT⟩ (c_O_isLiveOf l dC dI q cI cL own amt tag mad spt made o (nI k) hm) (cwV 2 hT (ob_goodV k_283 k_284 k_285 k_10 k_286) rfl rfl rfl (by decide +kernel) ⟨Nat.le_of_ble_eq_true rfl, Nat.le_of_ble_eq_true rfl⟩) (ob_preV (wc := wO q cI cL own amt tag mad spt made) (q0 := 0) rfl hK hP (fun _ h => absurd h List.not_mem_nil) rfl [1, 2, 3, 4, 5, 6] rfl rfl) rfl rfl hl.1 rfl (lv_room (Nat.le_of_ble_eq_true rfl)) d_K_nth_24 ⟨Nat.zero_le _, Nat.zero_le _⟩) ?_
        refine ob_split (P := p_liveOf own spt made o (nI k)) (fun b_24 => ?_) (fun b_24 => ?_)
        · refine lv_if_eq (tgt := 41) hx hb d_K_nth_27 (by decide) (fun c => absurd c (by decide)) (fun _ => ?_)
          refine lv_iload_n hx hb d_K_nth_30 rfl (lv_at hl 1 rfl) ?_
          refine lv_iload_n hx hb d_K_nth_31 rfl (lv_at hl 4 rfl) ?_
          refine lv_icmp_ne (tgt := 38) hx hb d_K_nth_32 (by decide) (fun c_32 => ?_) (fun c_32 => ?_)
          · have t_32 := mt (cv_eq (nI_toInt (by omega)) rfl).mpr c_32
            refine lv_iinc (v := nI (bf + 1)) (lv' := [(3, .int (nI (bf + 1))), (4, .int (nI k)), (0, .ref (q 0)), (1, .int o), (2, .int i)]) hx hb d_K_nth_38 hl (k := 1) rfl (nI_add bf 1) (by decide) rfl (fun ls hl => ?_)
            refine lv_iinc (v := nI (k + 1)) (lv' := [(4, .int (nI (k + 1))), (3, .int (nI (bf + 1))), (0, .ref (q 0)), (1, .int o), (2, .int i)]) hx hb d_K_nth_41 hl (k := 1) rfl (nI_add k 1) (by decide) rfl (fun ls hl => ?_)
            refine lv_goto (tgt := 5) hx hb d_K_nth_44 (by decide) ?_
            exact ih_5 (k + 1) (bf + 1) _ (by omega) (by omega) (by first | exact (by rw [hc, f_cnt_t ((p_liveOf_nI (by omega) hm).mp b_24)]) | exact (by rw [hc, f_cnt_f (fun h => b_24 ((p_liveOf_nI (by omega) hm).mpr h))])) (by rw [← hres]; first | exact (f_nth_no (by omega) (fun h => b_24 ((p_liveOf_nI (by omega) hm).mpr h.1))).symm | exact (f_nth_no (by omega) (fun h => c_32 (by rw [hc]; exact h.2))).symm) (lv_sub hl [0, 1, 2, 3, 4] rfl)
          · have t_32 := (cv_eq (nI_toInt (by omega)) rfl).mp c_32
            refine lv_iload hx hb d_K_nth_35 (lv_at hl 0 rfl) ?_
            exact ob_iret (v := nI k) hx hb hr hlocks hQ (by rw [← hres, f_nth_go (by omega) ⟨(p_liveOf_nI (by omega) hm).mp b_24, by rw [← hc]; exact c_32⟩]) d_K_nth_37
        · refine lv_if_eq (tgt := 41) hx hb d_K_nth_27 (by decide) (fun _ => ?_) (fun c => absurd c (by decide))
          refine lv_iinc (v := nI (k + 1)) (lv' := [(4, .int (nI (k + 1))), (3, .int (nI bf)), (0, .ref (q 0)), (1, .int o), (2, .int i)]) hx hb d_K_nth_41 hl (k := 0) rfl (nI_add k 1) (by decide) rfl (fun ls hl => ?_)
          refine lv_goto (tgt := 5) hx hb d_K_nth_44 (by decide) ?_
          exact ih_5 (k + 1) bf _ (by omega) (by omega) (by first | exact (by rw [hc, f_cnt_t ((p_liveOf_nI (by omega) hm).mp b_24)]) | exact (by rw [hc, f_cnt_f (fun h => b_24 ((p_liveOf_nI (by omega) hm).mpr h))])) (by rw [← hres]; first | exact (f_nth_no (by omega) (fun h => b_24 ((p_liveOf_nI (by omega) hm).mpr h.1))).symm | exact (f_nth_no (by omega) (fun h => c_32 (by rw [hc]; exact h.2))).symm) (lv_sub hl [0, 1, 2, 3, 4] rfl)
  exact key_5 _ 0 0 _ (Nat.lt_succ_self _) (Nat.zero_le _) rfl rfl (lv_sub hl [0, 1, 2, 3, 4] rfl)
abbrev rm_K_gather_l : Room := { frames := 0, cells := 0, slots := 0, locals := 0 }
set_option maxHeartbeats 4000000 in
set_option maxRecDepth 100000 in
theorem c_K_gather_l (l : Launch) (dC : Nat → ClassId) (dI : Nat → Nat → Nat) (q : Nat → Nat) (cI cL : ClassId) (supply : Int64) (pot : Int64) (apl : Int32) (own : Nat → Int32) (amt : Nat → Int64) (tag : Nat → Int64) (mad : Nat → Int32) (spt : Nat → Int32) (made : Nat) (dsp : Nat → Int32) (dow : Nat → Int32) (dam : Nat → Int64) (dtg : Nat → Int64) (sp : Nat) (mk : Nat) (mint : Int64) (dep : Nat) (sups : Nat → Int64) (pots : Nat → Int64) (apps : Nat → Int32) (row : Nat) (hgt : Nat) (und : Nat) (o : Int32) (a : Int64) (h1 : ¬ 1 ≤ a) : Met l y_K_gather w_K_gather rm_K_gather_l (va_Pc [.ref (q 0), .int o, .long a] (ob_B (dC, dI) vwCl (wK q cI cL supply pot apl own amt tag mad spt made dsp dow dam dtg sp mk mint dep sups pots apps row hgt und) [(cI, .int), (cL, .long)] ob_N)) (QcRead ((-1 : Int32))) 0 0 (fun _ => False) := by
  refine ob_ofW (cc := b_K_gather) (maxL := 9) (ret := (some .int)) (own := R_K) (by decide) rfl rfl (Nat.le_of_ble_eq_true rfl) ?_
  intro p e s m args below meth c Q hQ hx hb hr hml hT hown hlocks hv ls hl
  obtain ⟨hP, hK, hN⟩ := hv
  have hl : lv_has ls 9 [(0, .ref (q 0)), (1, .int o), (2, .long a)] := hl
  refine lv_lload_n hx hb d_K_gather_0 rfl (lv_at hl 2 rfl) ?_
  refine lv_lconst (v := 1) hx hb d_K_gather_1 (by decide) ?_
  refine W.lcmp hx hb d_K_gather_2 ?_
  refine lv_if_ge (tgt := 8) hx hb d_K_gather_3 (by decide) (fun c_3 => ?_) (fun c_3 => ?_)
  · have c_3 := (lg_cmp_ge _ _).mp c_3
    exact absurd c_3 h1
  · have c_3 := mt (lg_cmp_ge _ _).mpr c_3
    refine lv_iconst (v := (-1 : Int32)) hx hb d_K_gather_6 (by decide) ?_
    exact ob_iret (v := (-1 : Int32)) hx hb hr hlocks hQ rfl d_K_gather_7
abbrev rm_K_gather_t : Room := { frames := 4, cells := 0, slots := 0, locals := 88 }
set_option maxHeartbeats 4000000 in
set_option maxRecDepth 100000 in
theorem c_K_gather_t (l : Launch) (dC : Nat → ClassId) (dI : Nat → Nat → Nat) (q : Nat → Nat) (cI cL : ClassId) (supply : Int64) (pot : Int64) (apl : Int32) (own : Nat → Int32) (amt : Nat → Int64) (tag : Nat → Int64) (mad : Nat → Int32) (spt : Nat → Int32) (made : Nat) (dsp : Nat → Int32) (dow : Nat → Int32) (dam : Nat → Int64) (dtg : Nat → Int64) (sp : Nat) (mk : Nat) (mint : Int64) (dep : Nat) (sups : Nat → Int64) (pots : Nat → Int64) (apps : Nat → Int32) (row : Nat) (hgt : Nat) (und : Nat) (o : Int32) (a : Int64) (hm : made ≤ 2048) (hsp : sp ≤ 16) (h1 : 1 ≤ a) : Met l y_K_gather w_K_gather rm_K_gather_t (va_Pc [.ref (q 0), .int o, .long a] (ob_BW (dC, dI) vwCl (wK q cI cL supply pot apl own amt tag mad spt made dsp dow dam dtg sp mk mint dep sups pots apps row hgt und) [(cI, .int), (cL, .long)] ob_N)) (va_Qi (fun (r : Int32) (_ : Unit) => r = f_gans (f_gs amt made (f_pk own amt spt made o) dsp sp a (16 - sp) 0)) (fun _ t => va_P (dC, dI) vwCl (wK q cI cL supply pot apl own amt tag mad spt made (f_app dsp sp (fun i => f_pk own amt spt made o (i + 1)) (f_gw amt made (f_pk own amt spt made o) dsp sp a (16 - sp) 0)) dow dam dtg (sp + f_gs amt made (f_pk own amt spt made o) dsp sp a (16 - sp) 0) mk mint dep sups pots apps row hgt und) t.heap) (ob_A (wK q cI cL supply pot apl own amt tag mad spt made dsp dow dam dtg sp mk mint dep sups pots apps row hgt und))) 0 0 (ob_A (wK q cI cL supply pot apl own amt tag mad spt made dsp dow dam dtg sp mk mint dep sups pots apps row hgt und)) := by
  refine ob_ofW (cc := b_K_gather) (maxL := 9) (ret := (some .int)) (own := R_K) (by decide) rfl rfl (Nat.le_of_ble_eq_true rfl) ?_
  intro p e s m args below meth c Q hQ hx hb hr hml hT hown hlocks hv ls hl
  obtain ⟨⟨hP, hK, hN⟩, hD0⟩ := hv
  have hD := ob_D_self hD0
  generalize hAe : ob_A (wK q cI cL supply pot apl own amt tag mad spt made dsp dow dam dtg sp mk mint dep sups pots apps row hgt und) = A at hQ hD
  have hS : va_S A s.heap s.heap [] := va_S.rf
  have hl : lv_has ls 9 [(0, .ref (q 0)), (1, .int o), (2, .long a)] := hl
  refine lv_lload_n hx hb d_K_gather_0 rfl (lv_at hl 2 rfl) ?_
  refine lv_lconst (v := 1) hx hb d_K_gather_1 (by decide) ?_
  refine W.lcmp hx hb d_K_gather_2 ?_
  refine lv_if_ge (tgt := 8) hx hb d_K_gather_3 (by decide) (fun c_3 => ?_) (fun c_3 => ?_)
  · have c_3 := (lg_cmp_ge _ _).mp c_3
    refine lv_lload_n hx hb d_K_gather_8 rfl (lv_at hl 2 rfl) ?_
    refine lv_lstore (lv' := [(4, .long a), (0, .ref (q 0)), (1, .int o), (2, .long a)]) hx hb d_K_gather_9 hl (by decide) rfl (fun ls hl => ?_)
    refine lv_iconst (v := (-1 : Int32)) hx hb d_K_gather_11 (by decide) ?_
    refine lv_istore (lv' := [(6, .int (-1 : Int32)), (4, .long a), (0, .ref (q 0)), (1, .int o), (2, .long a)]) hx hb d_K_gather_12 hl (by decide) rfl (fun ls hl => ?_)
    refine lv_aload_n hx hb d_K_gather_14 rfl (lv_at hl 2 rfl) ?_
    refine va_get (D := (dC, dI)) (ci := 3) (v := .ref (q 7)) (C := R_K) (T := T_K) (N := 6) hx hb hT in_K hown hK hP 0 rfl rfl 1 (by decide) (hT _ k_127) (fun _ h9 => h9) rfl d_K_gather_15 ?_
    refine ob_callR (W.runV (As := []) (rest := []) ⟨hx, hb, hml, hown, hT⟩ (c_D_roomToSpend l dC dI q cI cL dsp dow dam dtg sp mk mint hsp) (cwV 0 hT (ob_goodV k_161 k_162 k_163 k_11 k_164) rfl rfl rfl (by decide +kernel) ⟨Nat.le_of_ble_eq_true rfl, Nat.le_of_ble_eq_true rfl⟩) (ob_preV (wc := wD q cI cL dsp dow dam dtg sp mk mint) (q0 := 0) rfl hK hP (fun _ h => absurd h List.not_mem_nil) rfl [7, 8, 9, 10, 11] rfl rfl) rfl rfl hl.1 rfl (lv_room (Nat.le_of_ble_eq_true rfl)) d_K_gather_18 ⟨Nat.zero_le _, Nat.zero_le _⟩) ?_
    refine lv_istore (lv' := [(7, .int (nI (16 - sp))), (6, .int (-1 : Int32)), (4, .long a), (0, .ref (q 0)), (1, .int o), (2, .long a)]) hx hb d_K_gather_21 hl (by decide) rfl (fun ls hl => ?_)
    refine lv_iconst (v := nI 0) hx hb d_K_gather_23 (by decide) ?_
    refine lv_istore (lv' := [(8, .int (nI 0)), (7, .int (nI (16 - sp))), (6, .int (-1 : Int32)), (4, .long a), (0, .ref (q 0)), (1, .int o), (2, .long a)]) hx hb d_K_gather_24 hl (by decide) rfl (fun ls hl => ?_)
    have key_26 : ∀ (n : Nat) (j : Nat) (nm : Int32) (lf : Int64) (d9 : Nat → Int32) (H : Heap) (locs : List Loc) (ls : Array Slot), 16 - sp - j < n → (j ≤ 16 - sp) → (nm = f_pk own amt spt made o j) → (lf = f_lack amt made (f_pk own amt spt made o) a j) → (d9 = f_app dsp sp (fun i => f_pk own amt spt made o (i + 1)) j) → (f_gs amt made (f_pk own amt spt made o) dsp sp a (16 - sp - j) j = f_gs amt made (f_pk own amt spt made o) dsp sp a (16 - sp) 0) → (f_gw amt made (f_pk own amt spt made o) dsp sp a (16 - sp - j) j = f_gw amt made (f_pk own amt spt made o) dsp sp a (16 - sp) 0) → va_P (dC, dI) vwCl (wK q cI cL supply pot apl own amt tag mad spt made d9 dow dam dtg sp mk mint dep sups pots apps row hgt und) H → va_D A (wK q cI cL supply pot apl own amt tag mad spt made d9 dow dam dtg sp mk mint dep sups pots apps row hgt und) → va_S A s.heap H locs → lv_has ls 9 [(8, .int (nI j)), (7, .int (nI (16 - sp))), (6, .int nm), (4, .long lf), (0, .ref (q 0)), (1, .int o), (2, .long a)] → W p l e rm_K_gather_t s m args below meth c H locs 0 0 Q (F0 m 26 ls []) := by
      intro n_26
      induction n_26 with
      | zero => intro j nm lf d9 H locs ls h; exact absurd h (Nat.not_lt_zero _)
      | succ n_26 ih_26 =>
        intro j nm lf d9 H locs ls hn_26 hj hnm hlf hd9 hgs hgw hP hD hS hl
        refine lv_iload hx hb d_K_gather_26 (lv_at hl 0 rfl) ?_
        refine lv_iload hx hb d_K_gather_28 (lv_at hl 1 rfl) ?_
        refine lv_icmp_ge (tgt := 119) hx hb d_K_gather_30 (by decide) (fun c_30 => ?_) (fun c_30 => ?_)
        · have t_30 := (cv_le (nI_toInt (by omega)) (nI_toInt (by omega))).mp c_30
          refine lv_iconst (v := (-1 : Int32)) hx hb d_K_gather_119 (by decide) ?_
          exact ob_iretW (v := (-1 : Int32)) hx hb hr hlocks hQ hS hP (by rw [← hgs, ← hgw, show 16 - sp - j = 0 by omega, hd9]; rfl) (by rw [← hgs, show 16 - sp - j = 0 by omega]; rfl) d_K_gather_120
        · have t_30 := mt (cv_le (nI_toInt (by omega)) (nI_toInt (by omega))).mpr c_30
          refine lv_aload_n hx hb d_K_gather_33 rfl (lv_at hl 4 rfl) ?_
          refine va_get (D := (dC, dI)) (ci := 3) (v := .ref (q 1)) (C := R_K) (T := T_K) (N := 6) hx hb hT in_K hown hK hP 0 rfl rfl 0 (by decide) (hT _ k_126) (fun _ h9 => h9) rfl d_K_gather_34 ?_
          refine lv_iload_n hx hb d_K_gather_37 rfl (lv_at hl 5 rfl) ?_
          refine lv_iload hx hb d_K_gather_38 (lv_at hl 2 rfl) ?_
          refine ob_callR (W.runV (As := [.int o, .int nm]) (rest := []) ⟨hx, hb, hml, hown, hT⟩ (c_O_nextByAmount l dC dI q cI cL own amt tag mad spt made o nm hm) (cwV 2 hT (ob_goodV k_299 k_300 k_301 k_10 k_302) rfl rfl rfl (by decide +kernel) ⟨Nat.le_of_ble_eq_true rfl, Nat.le_of_ble_eq_true rfl⟩) (ob_preV (wc := wO q cI cL own amt tag mad spt made) (q0 := 0) rfl hK hP (fun _ h => absurd h List.not_mem_nil) rfl [1, 2, 3, 4, 5, 6] rfl rfl) rfl rfl hl.1 rfl (lv_room (Nat.le_of_ble_eq_true rfl)) d_K_gather_40 ⟨Nat.zero_le _, Nat.zero_le _⟩) ?_
          refine lv_istore (lv' := [(6, .int (f_next own amt spt made o nm made)), (8, .int (nI j)), (7, .int (nI (16 - sp))), (4, .long lf), (0, .ref (q 0)), (1, .int o), (2, .long a)]) hx hb d_K_gather_43 hl (by decide) rfl (fun ls hl => ?_)
          have hpk : f_next own amt spt made o nm made = f_pk own amt spt made o (j + 1) := by rw [hnm]; rfl
          refine lv_iload hx hb d_K_gather_45 (lv_at hl 0 rfl) ?_
          refine lv_iconst (v := (-1 : Int32)) hx hb d_K_gather_47 (by decide) ?_
          refine lv_icmp_eq (tgt := 63) hx hb d_K_gather_48 (by decide) (fun c_48 => ?_) (fun c_48 => ?_)
          · have t_48 := (cv_eq rfl (by decide : (-1 : Int32).toInt = -1)).mp c_48
            have hbad : p_bad (f_pk own amt spt made o) dsp sp j := by first | exact Or.inl (by rw [← hpk]; exact c_48) | exact Or.inr (f_any_app.mp (by rw [← hpk, ← hd9]; exact b_57))
            refine lv_iconst (v := (-1 : Int32)) hx hb d_K_gather_63 (by decide) ?_
            exact ob_iretW (v := (-1 : Int32)) hx hb hr hlocks hQ hS hP (by rw [← hgs, ← hgw, (f_gs_bad (by omega) hbad).1, (f_gs_bad (by omega) hbad).2, hd9]; rfl) (by rw [← hgs, (f_gs_bad (by omega) hbad).1]; rfl) d_K_gather_64
          · have t_48 := mt (cv_eq rfl (by decide : (-1 : Int32).toInt = -1)).mpr c_48
            refine lv_aload_n hx hb d_K_gather_51 rfl (lv_at hl 4 rfl) ?_
            refine va_get (D := (dC, dI)) (ci := 3) (v := .ref (q 7)) (C := R_K) (T := T_K) (N := 6) hx hb hT in_K hown hK hP 0 rfl rfl 1 (by decide) (hT _ k_127) (fun _ h9 => h9) rfl d_K_gather_52 ?_
            refine lv_iload hx hb d_K_gather_55 (lv_at hl 0 rfl) ?_
            refine ob_callR (W.runV (As := [.int (f_next own amt spt made o nm made)]) (rest := []) ⟨hx, hb, hml, hown, hT⟩ (c_D_hasToSpend l dC dI q cI cL d9 dow dam dtg sp mk mint (f_next own amt spt made o nm made) hsp) (cwV 1 hT (ob_goodV k_157 k_158 k_159 k_11 k_160) rfl rfl rfl (by decide +kernel) ⟨Nat.le_of_ble_eq_true rfl, Nat.le_of_ble_eq_true rfl⟩) (ob_preV (wc := wD q cI cL d9 dow dam dtg sp mk mint) (q0 := 0) rfl hK hP (fun _ h => absurd h List.not_mem_nil) rfl [7, 8, 9, 10, 11] rfl rfl) rfl rfl hl.1 rfl (lv_room (Nat.le_of_ble_eq_true rfl)) d_K_gather_57 ⟨Nat.zero_le _, Nat.zero_le _⟩) ?_
            refine ob_split (P := f_any (fun j => decide (d9 j = (f_next own amt spt made o nm made))) sp = true) (fun b_57 => ?_) (fun b_57 => ?_)
            · refine lv_if_eq (tgt := 65) hx hb d_K_gather_60 (by decide) (fun c => absurd c (by decide)) (fun _ => ?_)
              have hbad : p_bad (f_pk own amt spt made o) dsp sp j := by first | exact Or.inl (by rw [← hpk]; exact c_48) | exact Or.inr (f_any_app.mp (by rw [← hpk, ← hd9]; exact b_57))
              refine lv_iconst (v := (-1 : Int32)) hx hb d_K_gather_63 (by decide) ?_
              exact ob_iretW (v := (-1 : Int32)) hx hb hr hlocks hQ hS hP (by rw [← hgs, ← hgw, (f_gs_bad (by omega) hbad).1, (f_gs_bad (by omega) hbad).2, hd9]; rfl) (by rw [← hgs, (f_gs_bad (by omega) hbad).1]; rfl) d_K_gather_64
            · refine lv_if_eq (tgt := 65) hx hb d_K_gather_60 (by decide) (fun _ => ?_) (fun c => absurd c (by decide))
              have hnb : ¬ p_bad (f_pk own amt spt made o) dsp sp j := fun h => h.elim (fun z => c_48 (by rw [hpk]; exact z)) (fun z => b_57 (by rw [hd9, hpk]; exact f_any_app.mpr z))
              refine lv_aload_n hx hb d_K_gather_65 rfl (lv_at hl 4 rfl) ?_
              refine va_get (D := (dC, dI)) (ci := 3) (v := .ref (q 7)) (C := R_K) (T := T_K) (N := 6) hx hb hT in_K hown hK hP 0 rfl rfl 1 (by decide) (hT _ k_127) (fun _ h9 => h9) rfl d_K_gather_66 ?_
              refine lv_iload hx hb d_K_gather_69 (lv_at hl 1 rfl) ?_
              refine lv_iload hx hb d_K_gather_71 (lv_at hl 0 rfl) ?_
              refine ob_callWv (va_runV (As := [.int (nI j), .int (f_next own amt spt made o nm made)]) (rest := []) ⟨hx, hb, hml, hown, hT⟩ (c_D_writeToSpend l dC dI q cI cL d9 dow dam dtg sp mk mint j (f_next own amt spt made o nm made) (by omega)) (cwV 2 hT (ob_goodV k_165 k_166 k_167 k_11 k_168) rfl rfl rfl (by decide +kernel) ⟨Nat.le_of_ble_eq_true rfl, Nat.le_of_ble_eq_true rfl⟩) (ob_preVW (wc := wD q cI cL d9 dow dam dtg sp mk mint) (q0 := 0) rfl hK hP hD (fun _ h => absurd h List.not_mem_nil) rfl [7, 8, 9, 10, 11] rfl rfl rfl rfl) rfl rfl hl.1 rfl (lv_room (Nat.le_of_ble_eq_true rfl)) d_K_gather_73 ⟨Nat.zero_le _, Nat.zero_le _⟩) hS hP hD [7, 8, 9, 10, 11] rfl rfl (fun H locs hP hD hS => ?_)
              have hP : va_P (dC, dI) vwCl (wK q cI cL supply pot apl own amt tag mad spt made (upd d9 (sp + j) (f_next own amt spt made o nm made)) dow dam dtg sp mk mint dep sups pots apps row hgt und) H := hP
              have hD : va_D A (wK q cI cL supply pot apl own amt tag mad spt made (upd d9 (sp + j) (f_next own amt spt made o nm made)) dow dam dtg sp mk mint dep sups pots apps row hgt und) := hD
              refine lv_lload hx hb d_K_gather_76 (lv_at hl 3 rfl) ?_
              refine lv_aload_n hx hb d_K_gather_78 rfl (lv_at hl 4 rfl) ?_
              refine va_get (D := (dC, dI)) (ci := 3) (v := .ref (q 1)) (C := R_K) (T := T_K) (N := 6) hx hb hT in_K hown hK hP 0 rfl rfl 0 (by decide) (hT _ k_126) (fun _ h9 => h9) rfl d_K_gather_79 ?_
              refine lv_iload hx hb d_K_gather_82 (lv_at hl 0 rfl) ?_
              refine ob_callL (W.runV (As := [.int (f_next own amt spt made o nm made)]) (rest := [.long lf]) ⟨hx, hb, hml, hown, hT⟩ (c_O_amountOf l dC dI q cI cL own amt tag mad spt made (f_next own amt spt made o nm made) hm) (cwV 1 hT (ob_goodV k_210 k_211 k_212 k_10 k_213) rfl rfl rfl (by decide +kernel) ⟨Nat.le_of_ble_eq_true rfl, Nat.le_of_ble_eq_true rfl⟩) (ob_preV (wc := wO q cI cL own amt tag mad spt made) (q0 := 0) rfl hK hP (fun _ h => absurd h List.not_mem_nil) rfl [1, 2, 3, 4, 5, 6] rfl rfl) rfl rfl hl.1 rfl (lv_room (Nat.le_of_ble_eq_true rfl)) d_K_gather_84 ⟨Nat.zero_le _, Nat.zero_le _⟩) ?_
              refine lv_lsub hx hb d_K_gather_87 ?_
              refine lv_lstore (lv' := [(4, .long (lf - (f_amt amt made (f_next own amt spt made o nm made)))), (6, .int (f_next own amt spt made o nm made)), (8, .int (nI j)), (7, .int (nI (16 - sp))), (0, .ref (q 0)), (1, .int o), (2, .long a)]) hx hb d_K_gather_88 hl (by decide) rfl (fun ls hl => ?_)
              have hlk : lf - f_amt amt made (f_next own amt spt made o nm made) = f_lack amt made (f_pk own amt spt made o) a (j + 1) := by rw [hlf, hpk]; rfl
              refine lv_lload hx hb d_K_gather_90 (lv_at hl 0 rfl) ?_
              refine lv_lconst (v := 0) hx hb d_K_gather_92 (by decide) ?_
              refine W.lcmp hx hb d_K_gather_93 ?_
              refine lv_if_gt (tgt := 113) hx hb d_K_gather_94 (by decide) (fun c_94 => ?_) (fun c_94 => ?_)
              · have c_94 := (lg_cmp_gt _ _).mp c_94
                refine lv_iinc (v := nI (j + 1)) (lv' := [(8, .int (nI (j + 1))), (4, .long (lf - (f_amt amt made (f_next own amt spt made o nm made)))), (6, .int (f_next own amt spt made o nm made)), (7, .int (nI (16 - sp))), (0, .ref (q 0)), (1, .int o), (2, .long a)]) hx hb d_K_gather_113 hl (k := 2) rfl (nI_add j 1) (by decide) rfl (fun ls hl => ?_)
                refine lv_goto (tgt := 26) hx hb d_K_gather_116 (by decide) ?_
                exact ih_26 (j + 1) (f_next own amt spt made o nm made) (lf - (f_amt amt made (f_next own amt spt made o nm made))) (upd d9 (sp + j) (f_next own amt spt made o nm made)) _ _ _ (by omega) (by omega) (by rw [hnm]; rfl) (by rw [hlf, hnm]; rfl) (by rw [hd9, hnm]; rfl) (by rw [← hgs]; exact (f_gs_go (by omega) hnb (by rw [← hlk]; exact fun h => absurd c_94 (Int64.not_lt.mpr h))).1.symm) (by rw [← hgw]; exact (f_gs_go (by omega) hnb (by rw [← hlk]; exact fun h => absurd c_94 (Int64.not_lt.mpr h))).2.symm) hP hD hS (lv_sub hl [0, 3, 2, 1, 4, 5, 6] rfl)
              · have c_94 := mt (lg_cmp_gt _ _).mpr c_94
                refine lv_aload_n hx hb d_K_gather_97 rfl (lv_at hl 4 rfl) ?_
                refine va_get (D := (dC, dI)) (ci := 3) (v := .ref (q 7)) (C := R_K) (T := T_K) (N := 6) hx hb hT in_K hown hK hP 0 rfl rfl 1 (by decide) (hT _ k_127) (fun _ h9 => h9) rfl d_K_gather_98 ?_
                refine lv_iload hx hb d_K_gather_101 (lv_at hl 2 rfl) ?_
                refine lv_iconst (v := nI 1) hx hb d_K_gather_103 (by decide) ?_
                refine lv_iadd hx hb d_K_gather_104 ?_
                refine ob_eqi (nI_add j 1) ?_
                refine ob_callWv (va_runV (As := [.int (nI (j + 1))]) (rest := []) ⟨hx, hb, hml, hown, hT⟩ (c_D_keepToSpend l dC dI q cI cL (upd d9 (sp + j) (f_next own amt spt made o nm made)) dow dam dtg sp mk mint (j + 1) (by omega)) (cwV 1 hT (ob_goodV k_170 k_171 k_172 k_11 k_173) rfl rfl rfl (by decide +kernel) ⟨Nat.le_of_ble_eq_true rfl, Nat.le_of_ble_eq_true rfl⟩) (ob_preVW (wc := wD q cI cL (upd d9 (sp + j) (f_next own amt spt made o nm made)) dow dam dtg sp mk mint) (q0 := 0) rfl hK hP hD (fun _ h => absurd h List.not_mem_nil) rfl [7, 8, 9, 10, 11] rfl rfl rfl rfl) rfl rfl hl.1 rfl (lv_room (Nat.le_of_ble_eq_true rfl)) d_K_gather_105 ⟨Nat.zero_le _, Nat.zero_le _⟩) hS hP hD [7, 8, 9, 10, 11] rfl rfl (fun H locs hP hD hS => ?_)
                have hP : va_P (dC, dI) vwCl (wK q cI cL supply pot apl own amt tag mad spt made (upd d9 (sp + j) (f_next own amt spt made o nm made)) dow dam dtg (sp + (j + 1)) mk mint dep sups pots apps row hgt und) H := hP
                have hD : va_D A (wK q cI cL supply pot apl own amt tag mad spt made (upd d9 (sp + j) (f_next own amt spt made o nm made)) dow dam dtg (sp + (j + 1)) mk mint dep sups pots apps row hgt und) := hD
                refine lv_iload hx hb d_K_gather_108 (lv_at hl 2 rfl) ?_
                refine lv_iconst (v := nI 1) hx hb d_K_gather_110 (by decide) ?_
                refine lv_iadd hx hb d_K_gather_111 ?_
                refine ob_eqi (nI_add j 1) ?_
                exact ob_iretW (v := nI (j + 1)) hx hb hr hlocks hQ hS hP (by rw [← hgs, ← hgw, (f_gs_end (by omega) hnb (by rw [← hlk]; exact Int64.not_lt.mp c_94)).1, (f_gs_end (by omega) hnb (by rw [← hlk]; exact Int64.not_lt.mp c_94)).2, hd9, hpk]; rfl) (by rw [← hgs, (f_gs_end (by omega) hnb (by rw [← hlk]; exact Int64.not_lt.mp c_94)).1]; rfl) d_K_gather_112
    exact key_26 _ 0 (-1 : Int32) a dsp _ _ _ (Nat.lt_succ_self _) (Nat.zero_le _) rfl rfl rfl rfl rfl hP hD hS (lv_sub hl [0, 1, 2, 3, 4, 5, 6] rfl)
  · have c_3 := mt (lg_cmp_ge _ _).mpr c_3
    exact absurd h1 c_3
abbrev rm_K_look : Room := { frames := 3, cells := 0, slots := 0, locals := 64 }
set_option maxHeartbeats 4000000 in
set_option maxRecDepth 100000 in
theorem c_K_look (l : Launch) (dC : Nat → ClassId) (dI : Nat → Nat → Nat) (q : Nat → Nat) (cI cL : ClassId) (supply : Int64) (pot : Int64) (apl : Int32) (own : Nat → Int32) (amt : Nat → Int64) (tag : Nat → Int64) (mad : Nat → Int32) (spt : Nat → Int32) (made : Nat) (dsp : Nat → Int32) (dow : Nat → Int32) (dam : Nat → Int64) (dtg : Nat → Int64) (sp : Nat) (mk : Nat) (mint : Int64) (dep : Nat) (sups : Nat → Int64) (pots : Nat → Int64) (apps : Nat → Int32) (row : Nat) (hgt : Nat) (und : Nat) (w : Int32) (hm : made ≤ 2048) : Met l y_K_look w_K_look rm_K_look (va_Pc [.ref (q 0), .int w] (ob_B (dC, dI) vwCl (wK q cI cL supply pot apl own amt tag mad spt made dsp dow dam dtg sp mk mint dep sups pots apps row hgt und) [(cI, .int), (cL, .long)] ob_N)) (QcReadL (f_look supply pot apl spt made sp mk mint hgt und w)) 0 0 (fun _ => False) := by
  refine ob_ofW (cc := b_K_look) (maxL := 2) (ret := (some .long)) (own := R_K) (by decide) rfl rfl (Nat.le_of_ble_eq_true rfl) ?_
  intro p e s m args below meth c Q hQ hx hb hr hml hT hown hlocks hv ls hl
  obtain ⟨hP, hK, hN⟩ := hv
  have hl : lv_has ls 2 [(0, .ref (q 0)), (1, .int w)] := hl
  refine lv_iload_n hx hb d_K_look_0 rfl (lv_at hl 1 rfl) ?_
  by_cases s_1_0 : w.toInt = 0
  · refine lv_tableIn (off := 55) (tgt := 56) hx hb d_K_look_1 (by omega) (by omega) (by rw [s_1_0]; rfl) (by decide) ?_
    refine lv_aload_n hx hb d_K_look_56 rfl (lv_at hl 0 rfl) ?_
    refine va_get (D := (dC, dI)) (ci := 3) (v := .long supply) (C := R_K) (T := T_K) (N := 6) hx hb hT in_K hown hK hP 0 rfl rfl 3 (by decide) (hT _ k_129) (fun _ h9 => h9) rfl d_K_look_57 ?_
    exact ob_lret (v := supply) hx hb hr hlocks hQ (by rw [f_look, if_pos s_1_0]) d_K_look_60
  by_cases s_1_1 : w.toInt = 1
  · refine lv_tableIn (off := 60) (tgt := 61) hx hb d_K_look_1 (by omega) (by omega) (by rw [s_1_1]; rfl) (by decide) ?_
    refine lv_aload_n hx hb d_K_look_61 rfl (lv_at hl 0 rfl) ?_
    refine va_get (D := (dC, dI)) (ci := 3) (v := .long pot) (C := R_K) (T := T_K) (N := 6) hx hb hT in_K hown hK hP 0 rfl rfl 4 (by decide) (hT _ k_130) (fun _ h9 => h9) rfl d_K_look_62 ?_
    exact ob_lret (v := pot) hx hb hr hlocks hQ (by rw [f_look, if_neg s_1_0, if_pos s_1_1]) d_K_look_65
  by_cases s_1_2 : w.toInt = 2
  · refine lv_tableIn (off := 65) (tgt := 66) hx hb d_K_look_1 (by omega) (by omega) (by rw [s_1_2]; rfl) (by decide) ?_
    refine lv_aload_n hx hb d_K_look_66 rfl (lv_at hl 0 rfl) ?_
    refine va_get (D := (dC, dI)) (ci := 3) (v := .ref (q 12)) (C := R_K) (T := T_K) (N := 6) hx hb hT in_K hown hK hP 0 rfl rfl 2 (by decide) (hT _ k_128) (fun _ h9 => h9) rfl d_K_look_67 ?_
    refine va_getN (D := (dC, dI)) (ci := 0) (v := .int (nI hgt)) (C := R_B) (T := T_B) (N := 7) hx hb hT in_B hown hK hP 12 rfl rfl 5 (by decide) (va_Nw.use rfl (hN _ (List.mem_of_getElem? (i := 14) rfl))) (fun _ h9 => h9) rfl d_K_look_70 ?_
    refine lv_i2l (v := (nI hgt).toInt64) hx hb d_K_look_73 rfl ?_
    exact ob_lret (v := (nI hgt).toInt64) hx hb hr hlocks hQ (by rw [f_look, if_neg s_1_0, if_neg s_1_1, if_pos s_1_2]) d_K_look_74
  by_cases s_1_3 : w.toInt = 3
  · refine lv_tableIn (off := 74) (tgt := 75) hx hb d_K_look_1 (by omega) (by omega) (by rw [s_1_3]; rfl) (by decide) ?_
    refine lv_aload_n hx hb d_K_look_75 rfl (lv_at hl 0 rfl) ?_
    refine va_get (D := (dC, dI)) (ci := 3) (v := .ref (q 1)) (C := R_K) (T := T_K) (N := 6) hx hb hT in_K hown hK hP 0 rfl rfl 0 (by decide) (hT _ k_126) (fun _ h9 => h9) rfl d_K_look_76 ?_
    refine va_getN (D := (dC, dI)) (ci := 2) (v := .int (nI made)) (C := R_O) (T := T_O) (N := 6) hx hb hT in_O hown hK hP 1 rfl rfl 5 (by decide) (va_Nw.use rfl (hN _ (List.mem_of_getElem? (i := 5) rfl))) (fun _ h9 => h9) rfl d_K_look_79 ?_
    refine lv_i2l (v := (nI made).toInt64) hx hb d_K_look_82 rfl ?_
    exact ob_lret (v := (nI made).toInt64) hx hb hr hlocks hQ (by rw [f_look, if_neg s_1_0, if_neg s_1_1, if_neg s_1_2, if_pos s_1_3]) d_K_look_83
  by_cases s_1_4 : w.toInt = 4
  · refine lv_tableIn (off := 83) (tgt := 84) hx hb d_K_look_1 (by omega) (by omega) (by rw [s_1_4]; rfl) (by decide) ?_
    refine lv_aload_n hx hb d_K_look_84 rfl (lv_at hl 0 rfl) ?_
    refine va_get (D := (dC, dI)) (ci := 3) (v := .ref (q 1)) (C := R_K) (T := T_K) (N := 6) hx hb hT in_K hown hK hP 0 rfl rfl 0 (by decide) (hT _ k_126) (fun _ h9 => h9) rfl d_K_look_85 ?_
    refine ob_callR (W.runV (As := []) (rest := []) ⟨hx, hb, hml, hown, hT⟩ (c_O_liveOnes l dC dI q cI cL own amt tag mad spt made hm) (cwV 0 hT (ob_goodV k_312 k_313 k_314 k_10 k_315) rfl rfl rfl (by decide +kernel) ⟨Nat.le_of_ble_eq_true rfl, Nat.le_of_ble_eq_true rfl⟩) (ob_preV (wc := wO q cI cL own amt tag mad spt made) (q0 := 0) rfl hK hP (fun _ h => absurd h List.not_mem_nil) rfl [1, 2, 3, 4, 5, 6] rfl rfl) rfl rfl hl.1 rfl (lv_room (Nat.le_of_ble_eq_true rfl)) d_K_look_88 ⟨Nat.zero_le _, Nat.zero_le _⟩) ?_
    refine lv_i2l (v := (nI (f_cnt (fun j => decide (spt j = -1)) made)).toInt64) hx hb d_K_look_91 rfl ?_
    exact ob_lret (v := (nI (f_cnt (fun j => decide (spt j = -1)) made)).toInt64) hx hb hr hlocks hQ (by rw [f_look, if_neg s_1_0, if_neg s_1_1, if_neg s_1_2, if_neg s_1_3, if_pos s_1_4]) d_K_look_92
  by_cases s_1_5 : w.toInt = 5
  · refine lv_tableIn (off := 92) (tgt := 93) hx hb d_K_look_1 (by omega) (by omega) (by rw [s_1_5]; rfl) (by decide) ?_
    refine lv_aload_n hx hb d_K_look_93 rfl (lv_at hl 0 rfl) ?_
    refine va_get (D := (dC, dI)) (ci := 3) (v := .ref (q 12)) (C := R_K) (T := T_K) (N := 6) hx hb hT in_K hown hK hP 0 rfl rfl 2 (by decide) (hT _ k_128) (fun _ h9 => h9) rfl d_K_look_94 ?_
    refine va_getN (D := (dC, dI)) (ci := 0) (v := .int (nI und)) (C := R_B) (T := T_B) (N := 7) hx hb hT in_B hown hK hP 12 rfl rfl 6 (by decide) (va_Nw.use rfl (hN _ (List.mem_of_getElem? (i := 15) rfl))) (fun _ h9 => h9) rfl d_K_look_97 ?_
    refine lv_i2l (v := (nI und).toInt64) hx hb d_K_look_100 rfl ?_
    exact ob_lret (v := (nI und).toInt64) hx hb hr hlocks hQ (by rw [f_look, if_neg s_1_0, if_neg s_1_1, if_neg s_1_2, if_neg s_1_3, if_neg s_1_4, if_pos s_1_5]) d_K_look_101
  by_cases s_1_6 : w.toInt = 6
  · refine lv_tableIn (off := 101) (tgt := 102) hx hb d_K_look_1 (by omega) (by omega) (by rw [s_1_6]; rfl) (by decide) ?_
    refine lv_aload_n hx hb d_K_look_102 rfl (lv_at hl 0 rfl) ?_
    refine va_get (D := (dC, dI)) (ci := 3) (v := .ref (q 7)) (C := R_K) (T := T_K) (N := 6) hx hb hT in_K hown hK hP 0 rfl rfl 1 (by decide) (hT _ k_127) (fun _ h9 => h9) rfl d_K_look_103 ?_
    refine va_getN (D := (dC, dI)) (ci := 1) (v := .int (nI sp)) (C := R_D) (T := T_D) (N := 7) hx hb hT in_D hown hK hP 7 rfl rfl 4 (by decide) (va_Nw.use rfl (hN _ (List.mem_of_getElem? (i := 11) rfl))) (fun _ h9 => h9) rfl d_K_look_106 ?_
    refine lv_i2l (v := (nI sp).toInt64) hx hb d_K_look_109 rfl ?_
    exact ob_lret (v := (nI sp).toInt64) hx hb hr hlocks hQ (by rw [f_look, if_neg s_1_0, if_neg s_1_1, if_neg s_1_2, if_neg s_1_3, if_neg s_1_4, if_neg s_1_5, if_pos s_1_6]) d_K_look_110
  by_cases s_1_7 : w.toInt = 7
  · refine lv_tableIn (off := 110) (tgt := 111) hx hb d_K_look_1 (by omega) (by omega) (by rw [s_1_7]; rfl) (by decide) ?_
    refine lv_aload_n hx hb d_K_look_111 rfl (lv_at hl 0 rfl) ?_
    refine va_get (D := (dC, dI)) (ci := 3) (v := .ref (q 7)) (C := R_K) (T := T_K) (N := 6) hx hb hT in_K hown hK hP 0 rfl rfl 1 (by decide) (hT _ k_127) (fun _ h9 => h9) rfl d_K_look_112 ?_
    refine va_getN (D := (dC, dI)) (ci := 1) (v := .int (nI mk)) (C := R_D) (T := T_D) (N := 7) hx hb hT in_D hown hK hP 7 rfl rfl 5 (by decide) (va_Nw.use rfl (hN _ (List.mem_of_getElem? (i := 12) rfl))) (fun _ h9 => h9) rfl d_K_look_115 ?_
    refine lv_i2l (v := (nI mk).toInt64) hx hb d_K_look_118 rfl ?_
    exact ob_lret (v := (nI mk).toInt64) hx hb hr hlocks hQ (by rw [f_look, if_neg s_1_0, if_neg s_1_1, if_neg s_1_2, if_neg s_1_3, if_neg s_1_4, if_neg s_1_5, if_neg s_1_6, if_pos s_1_7]) d_K_look_119
  by_cases s_1_8 : w.toInt = 8
  · refine lv_tableIn (off := 119) (tgt := 120) hx hb d_K_look_1 (by omega) (by omega) (by rw [s_1_8]; rfl) (by decide) ?_
    refine lv_aload_n hx hb d_K_look_120 rfl (lv_at hl 0 rfl) ?_
    refine va_get (D := (dC, dI)) (ci := 3) (v := .ref (q 7)) (C := R_K) (T := T_K) (N := 6) hx hb hT in_K hown hK hP 0 rfl rfl 1 (by decide) (hT _ k_127) (fun _ h9 => h9) rfl d_K_look_121 ?_
    refine va_getN (D := (dC, dI)) (ci := 1) (v := .long mint) (C := R_D) (T := T_D) (N := 7) hx hb hT in_D hown hK hP 7 rfl rfl 6 (by decide) (va_Nw.use rfl (hN _ (List.mem_of_getElem? (i := 13) rfl))) (fun _ h9 => h9) rfl d_K_look_124 ?_
    exact ob_lret (v := mint) hx hb hr hlocks hQ (by rw [f_look, if_neg s_1_0, if_neg s_1_1, if_neg s_1_2, if_neg s_1_3, if_neg s_1_4, if_neg s_1_5, if_neg s_1_6, if_neg s_1_7, if_pos s_1_8]) d_K_look_127
  by_cases s_1_9 : w.toInt = 9
  · refine lv_tableIn (off := 127) (tgt := 128) hx hb d_K_look_1 (by omega) (by omega) (by rw [s_1_9]; rfl) (by decide) ?_
    refine lv_aload_n hx hb d_K_look_128 rfl (lv_at hl 0 rfl) ?_
    refine va_get (D := (dC, dI)) (ci := 3) (v := .int apl) (C := R_K) (T := T_K) (N := 6) hx hb hT in_K hown hK hP 0 rfl rfl 5 (by decide) (hT _ k_131) (fun _ h9 => h9) rfl d_K_look_129 ?_
    refine lv_i2l (v := apl.toInt64) hx hb d_K_look_132 rfl ?_
    exact ob_lret (v := apl.toInt64) hx hb hr hlocks hQ (by rw [f_look, if_neg s_1_0, if_neg s_1_1, if_neg s_1_2, if_neg s_1_3, if_neg s_1_4, if_neg s_1_5, if_neg s_1_6, if_neg s_1_7, if_neg s_1_8, if_pos s_1_9]) d_K_look_133
  refine lv_tableOut (tgt := 134) hx hb d_K_look_1 (by omega) (by decide) ?_
  refine lv_ldc2 (v := -1) hx hb hown (hT _ k_203) d_K_look_134 ?_
  exact ob_lret (v := (-1 : Int64)) hx hb hr hlocks hQ (by rw [f_look, if_neg s_1_0, if_neg s_1_1, if_neg s_1_2, if_neg s_1_3, if_neg s_1_4, if_neg s_1_5, if_neg s_1_6, if_neg s_1_7, if_neg s_1_8, if_neg s_1_9]) d_K_look_137
end
