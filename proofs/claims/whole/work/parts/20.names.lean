-- ===== PART A: goes FIRST, ahead of the names: the tables' words, and 'selects' of the private methods out of them =====
/-- a private method of a class that the tables say can be made, by its rows of tables_1 -/
def lw_okq (q : MethodName × Nat) : Prop := (q.1.cls ≠ "java/lang/invoke/MethodHandle" ∧ q.1.cls ≠ "java/lang/invoke/VarHandle") ∧ Cond.instantiable q.1.cls q.2 ∈ tables_1 ∧ Cond.privateMethod q.1 ∈ tables_1 ∧ Cond.instanceMethod q.1 ∈ tables_1
theorem lw_p0 : lw_okq (⟨"LazyCounts", "bringUpToDate", "()I"⟩, 4) := ⟨⟨by decide +kernel, by decide +kernel⟩, List.mem_of_getElem? (i := 7) (by decide +kernel), List.mem_of_getElem? (i := 88) (by decide +kernel), List.mem_of_getElem? (i := 89) (by decide +kernel)⟩
theorem lw_p1 : lw_okq (⟨"LazyCounts", "countChangesOf", "(I)V"⟩, 4) := ⟨⟨by decide +kernel, by decide +kernel⟩, List.mem_of_getElem? (i := 7) (by decide +kernel), List.mem_of_getElem? (i := 96) (by decide +kernel), List.mem_of_getElem? (i := 97) (by decide +kernel)⟩
theorem lw_p2 : lw_okq (⟨"LazyCounts", "freeUnheld", "()I"⟩, 4) := ⟨⟨by decide +kernel, by decide +kernel⟩, List.mem_of_getElem? (i := 7) (by decide +kernel), List.mem_of_getElem? (i := 129) (by decide +kernel), List.mem_of_getElem? (i := 130) (by decide +kernel)⟩
theorem lw_p3 : lw_okq (⟨"LazyCounts", "firstUnheld", "()I"⟩, 4) := ⟨⟨by decide +kernel, by decide +kernel⟩, List.mem_of_getElem? (i := 7) (by decide +kernel), List.mem_of_getElem? (i := 133) (by decide +kernel), List.mem_of_getElem? (i := 134) (by decide +kernel)⟩
theorem lw_p4 : lw_okq (⟨"LazyCounts", "firstCellAt", "(I)I"⟩, 4) := ⟨⟨by decide +kernel, by decide +kernel⟩, List.mem_of_getElem? (i := 7) (by decide +kernel), List.mem_of_getElem? (i := 184) (by decide +kernel), List.mem_of_getElem? (i := 185) (by decide +kernel)⟩
theorem lw_p5 : lw_okq (⟨"LazyCounts", "note", "(I)V"⟩, 4) := ⟨⟨by decide +kernel, by decide +kernel⟩, List.mem_of_getElem? (i := 7) (by decide +kernel), List.mem_of_getElem? (i := 196) (by decide +kernel), List.mem_of_getElem? (i := 197) (by decide +kernel)⟩
theorem lw_p6 : lw_okq (⟨"LazyCountsModel", "settle", "()V"⟩, 12) := ⟨⟨by decide +kernel, by decide +kernel⟩, List.mem_of_getElem? (i := 305) (by decide +kernel), List.mem_of_getElem? (i := 357) (by decide +kernel), List.mem_of_getElem? (i := 358) (by decide +kernel)⟩
theorem lw_p7 : lw_okq (⟨"LazyCountsModel", "recount", "()V"⟩, 12) := ⟨⟨by decide +kernel, by decide +kernel⟩, List.mem_of_getElem? (i := 305) (by decide +kernel), List.mem_of_getElem? (i := 361) (by decide +kernel), List.mem_of_getElem? (i := 362) (by decide +kernel)⟩
theorem lw_p8 : lw_okq (⟨"LazyCountsModel", "holders", "(I)I"⟩, 12) := ⟨⟨by decide +kernel, by decide +kernel⟩, List.mem_of_getElem? (i := 305) (by decide +kernel), List.mem_of_getElem? (i := 365) (by decide +kernel), List.mem_of_getElem? (i := 366) (by decide +kernel)⟩
theorem lw_p9 : lw_okq (⟨"LazyCountsModel", "round", "()I"⟩, 12) := ⟨⟨by decide +kernel, by decide +kernel⟩, List.mem_of_getElem? (i := 305) (by decide +kernel), List.mem_of_getElem? (i := 369) (by decide +kernel), List.mem_of_getElem? (i := 370) (by decide +kernel)⟩
theorem lw_p10 : lw_okq (⟨"LazyCountsModel", "onStack", "(I)Z"⟩, 12) := ⟨⟨by decide +kernel, by decide +kernel⟩, List.mem_of_getElem? (i := 305) (by decide +kernel), List.mem_of_getElem? (i := 373) (by decide +kernel), List.mem_of_getElem? (i := 374) (by decide +kernel)⟩
theorem lw_p11 : lw_okq (⟨"LazyCountsModel", "room", "(I)I"⟩, 12) := ⟨⟨by decide +kernel, by decide +kernel⟩, List.mem_of_getElem? (i := 305) (by decide +kernel), List.mem_of_getElem? (i := 384) (by decide +kernel), List.mem_of_getElem? (i := 385) (by decide +kernel)⟩
theorem lw_p12 : lw_okq (⟨"LazyCountsModel", "push", "(I)V"⟩, 12) := ⟨⟨by decide +kernel, by decide +kernel⟩, List.mem_of_getElem? (i := 305) (by decide +kernel), List.mem_of_getElem? (i := 388) (by decide +kernel), List.mem_of_getElem? (i := 389) (by decide +kernel)⟩
theorem lw_p13 : lw_okq (⟨"LazyCountsModel", "isPlace", "(I)Z"⟩, 12) := ⟨⟨by decide +kernel, by decide +kernel⟩, List.mem_of_getElem? (i := 305) (by decide +kernel), List.mem_of_getElem? (i := 396) (by decide +kernel), List.mem_of_getElem? (i := 397) (by decide +kernel)⟩
theorem lw_p14 : lw_okq (⟨"LazyCountsModel", "slotCell", "(II)I"⟩, 12) := ⟨⟨by decide +kernel, by decide +kernel⟩, List.mem_of_getElem? (i := 305) (by decide +kernel), List.mem_of_getElem? (i := 404) (by decide +kernel), List.mem_of_getElem? (i := 405) (by decide +kernel)⟩
theorem lw_p15 : lw_okq (⟨"LazyCountsModel", "find", "(I)I"⟩, 12) := ⟨⟨by decide +kernel, by decide +kernel⟩, List.mem_of_getElem? (i := 305) (by decide +kernel), List.mem_of_getElem? (i := 408) (by decide +kernel), List.mem_of_getElem? (i := 409) (by decide +kernel)⟩
def lw_privs_1 : List (MethodName × Nat) := [(⟨"LazyCounts", "bringUpToDate", "()I"⟩, 4), (⟨"LazyCounts", "countChangesOf", "(I)V"⟩, 4), (⟨"LazyCounts", "freeUnheld", "()I"⟩, 4), (⟨"LazyCounts", "firstUnheld", "()I"⟩, 4), (⟨"LazyCounts", "firstCellAt", "(I)I"⟩, 4), (⟨"LazyCounts", "note", "(I)V"⟩, 4), (⟨"LazyCountsModel", "settle", "()V"⟩, 12), (⟨"LazyCountsModel", "recount", "()V"⟩, 12), (⟨"LazyCountsModel", "holders", "(I)I"⟩, 12), (⟨"LazyCountsModel", "round", "()I"⟩, 12), (⟨"LazyCountsModel", "onStack", "(I)Z"⟩, 12), (⟨"LazyCountsModel", "room", "(I)I"⟩, 12), (⟨"LazyCountsModel", "push", "(I)V"⟩, 12), (⟨"LazyCountsModel", "isPlace", "(I)Z"⟩, 12), (⟨"LazyCountsModel", "slotCell", "(II)I"⟩, 12), (⟨"LazyCountsModel", "find", "(I)I"⟩, 12)]
theorem lw_r1 : ∀ q ∈ lw_privs_1, lw_okq q := List.forall_mem_cons.mpr ⟨lw_p0, List.forall_mem_cons.mpr ⟨lw_p1, List.forall_mem_cons.mpr ⟨lw_p2, List.forall_mem_cons.mpr ⟨lw_p3, List.forall_mem_cons.mpr ⟨lw_p4, List.forall_mem_cons.mpr ⟨lw_p5, List.forall_mem_cons.mpr ⟨lw_p6, List.forall_mem_cons.mpr ⟨lw_p7, List.forall_mem_cons.mpr ⟨lw_p8, List.forall_mem_cons.mpr ⟨lw_p9, List.forall_mem_cons.mpr ⟨lw_p10, List.forall_mem_cons.mpr ⟨lw_p11, List.forall_mem_cons.mpr ⟨lw_p12, List.forall_mem_cons.mpr ⟨lw_p13, List.forall_mem_cons.mpr ⟨lw_p14, List.forall_mem_cons.mpr ⟨lw_p15, fun _ h => absurd h List.not_mem_nil⟩⟩⟩⟩⟩⟩⟩⟩⟩⟩⟩⟩⟩⟩⟩⟩
theorem lw_p16 : lw_okq (⟨"LazyCountsModel", "makeRoom", "()V"⟩, 12) := ⟨⟨by decide +kernel, by decide +kernel⟩, List.mem_of_getElem? (i := 305) (by decide +kernel), List.mem_of_getElem? (i := 416) (by decide +kernel), List.mem_of_getElem? (i := 417) (by decide +kernel)⟩
theorem lw_p17 : lw_okq (⟨"LazyCountsModel", "note", "(I)V"⟩, 12) := ⟨⟨by decide +kernel, by decide +kernel⟩, List.mem_of_getElem? (i := 305) (by decide +kernel), List.mem_of_getElem? (i := 420) (by decide +kernel), List.mem_of_getElem? (i := 421) (by decide +kernel)⟩
theorem lw_p18 : lw_okq (⟨"LazyCountsModel", "slotsOf", "(I)I"⟩, 12) := ⟨⟨by decide +kernel, by decide +kernel⟩, List.mem_of_getElem? (i := 305) (by decide +kernel), List.mem_of_getElem? (i := 465) (by decide +kernel), List.mem_of_getElem? (i := 466) (by decide +kernel)⟩
def lw_privs_2 : List (MethodName × Nat) := [(⟨"LazyCountsModel", "makeRoom", "()V"⟩, 12), (⟨"LazyCountsModel", "note", "(I)V"⟩, 12), (⟨"LazyCountsModel", "slotsOf", "(I)I"⟩, 12)]
theorem lw_r2 : ∀ q ∈ lw_privs_2, lw_okq q := List.forall_mem_cons.mpr ⟨lw_p16, List.forall_mem_cons.mpr ⟨lw_p17, List.forall_mem_cons.mpr ⟨lw_p18, fun _ h => absurd h List.not_mem_nil⟩⟩⟩
def lw_privs : List (MethodName × Nat) := lw_privs_1 ++ (lw_privs_2)
def lw_tbl : List Cond := k2_sels lw_privs ++ tables_1
theorem lw_privs_ok : ∀ q ∈ lw_privs, lw_okq q := by
  show ∀ q ∈ lw_privs_1 ++ (lw_privs_2), lw_okq q
  exact List.forall_mem_append.mpr ⟨lw_r1, lw_r2⟩
/-- the words that every state keeps -/
def zz_tb : List Cond := lw_tbl.filter (fun w => k2_isCode w || goodWord w)
def R_law : String := "LazyCountsLaw"
def R_X : String := "LazyCounts"
def F_X : u_T := fun k => match k with
  | 0 => ("LazyCounts", "heap", "LLazyCounts$Heap;", true)
  | 1 => ("LazyCounts", "places", "LLazyCounts$Places;", true)
  | 2 => ("LazyCounts", "entries", "LLazyCounts$Entries;", true)
  | _ => ("LazyCounts", "reckoned", "I", false)
def t_X : Nat → FieldType := fun k => match k with
  | 0 => .object "LazyCounts$Heap"
  | 1 => .object "LazyCounts$Places"
  | 2 => .object "LazyCounts$Entries"
  | _ => .int
abbrev w_X : List Cond := u_ws R_X F_X 4
def R_Heap : String := "LazyCounts$Heap"
def F_Heap : u_T := fun k => match k with
  | 0 => ("LazyCounts$Heap", "owners", "[I", true)
  | 1 => ("LazyCounts$Heap", "words", "[I", true)
  | _ => ("LazyCounts$Heap", "made", "I", false)
def t_Heap : Nat → FieldType := fun k => match k with
  | 0 => .array .int
  | 1 => .array .int
  | _ => .int
abbrev w_Heap : List Cond := u_ws R_Heap F_Heap 3
def R_Places : String := "LazyCounts$Places"
def F_Places : u_T := fun k => match k with
  | 0 => ("LazyCounts$Places", "objects", "[I", true)
  | _ => ("LazyCounts$Places", "height", "I", false)
def t_Places : Nat → FieldType := fun k => match k with
  | 0 => .array .int
  | _ => .int
abbrev w_Places : List Cond := u_ws R_Places F_Places 2
def R_Entries : String := "LazyCounts$Entries"
def F_Entries : u_T := fun k => match k with
  | 0 => ("LazyCounts$Entries", "objects", "[I", true)
  | 1 => ("LazyCounts$Entries", "slotsBefore", "[[I", true)
  | _ => ("LazyCounts$Entries", "length", "I", false)
def t_Entries : Nat → FieldType := fun k => match k with
  | 0 => .array .int
  | 1 => .array (.array .int)
  | _ => .int
abbrev w_Entries : List Cond := u_ws R_Entries F_Entries 3
def R_M : String := "LazyCountsModel"
def F_M : u_T := fun k => match k with
  | 0 => ("LazyCountsModel", "number", "[I", false)
  | 1 => ("LazyCountsModel", "slots", "[I", false)
  | 2 => ("LazyCountsModel", "counts", "[I", false)
  | 3 => ("LazyCountsModel", "noted", "[Z", false)
  | 4 => ("LazyCountsModel", "holds", "[I", false)
  | 5 => ("LazyCountsModel", "made", "I", false)
  | 6 => ("LazyCountsModel", "height", "I", false)
  | 7 => ("LazyCountsModel", "places", "[I", false)
  | 8 => ("LazyCountsModel", "entries", "I", false)
  | 9 => ("LazyCountsModel", "who", "[I", false)
  | 10 => ("LazyCountsModel", "held", "[I", false)
  | _ => ("LazyCountsModel", "runs", "I", false)
def t_M : Nat → FieldType := fun k => match k with
  | 0 => .array .int
  | 1 => .array .int
  | 2 => .array .int
  | 3 => .array .boolean
  | 4 => .array .int
  | 5 => .int
  | 6 => .int
  | 7 => .array .int
  | 8 => .int
  | 9 => .array .int
  | 10 => .array .int
  | _ => .int
abbrev w_M : List Cond := u_ws R_M F_M 12
abbrev b_X_init : ByteArray := prog_1_method_1_code
def y_X_init : MethodName := ⟨R_X, "<init>", "()V"⟩
abbrev b_X_make : ByteArray := prog_1_method_2_code
def y_X_make : MethodName := ⟨R_X, "make", "(I)I"⟩
abbrev b_X_copy : ByteArray := prog_1_method_3_code
def y_X_copy : MethodName := ⟨R_X, "copy", "(I)I"⟩
abbrev b_X_load : ByteArray := prog_1_method_4_code
def y_X_load : MethodName := ⟨R_X, "load", "(II)I"⟩
abbrev b_X_store : ByteArray := prog_1_method_5_code
def y_X_store : MethodName := ⟨R_X, "store", "(III)Z"⟩
abbrev b_X_drop : ByteArray := prog_1_method_6_code
def y_X_drop : MethodName := ⟨R_X, "drop", "()I"⟩
abbrev b_X_reckon : ByteArray := prog_1_method_7_code
def y_X_reckon : MethodName := ⟨R_X, "reckon", "()I"⟩
abbrev b_X_stack : ByteArray := prog_1_method_8_code
def y_X_stack : MethodName := ⟨R_X, "stack", "()I"⟩
abbrev b_X_held : ByteArray := prog_1_method_9_code
def y_X_held : MethodName := ⟨R_X, "held", "(I)I"⟩
abbrev b_X_alive : ByteArray := prog_1_method_10_code
def y_X_alive : MethodName := ⟨R_X, "alive", "()I"⟩
abbrev b_X_count : ByteArray := prog_1_method_11_code
def y_X_count : MethodName := ⟨R_X, "count", "(I)I"⟩
abbrev b_X_cell : ByteArray := prog_1_method_12_code
def y_X_cell : MethodName := ⟨R_X, "cell", "(I)I"⟩
abbrev b_X_slot : ByteArray := prog_1_method_13_code
def y_X_slot : MethodName := ⟨R_X, "slot", "(II)I"⟩
abbrev b_X_table : ByteArray := prog_1_method_14_code
def y_X_table : MethodName := ⟨R_X, "table", "()I"⟩
abbrev b_X_state : ByteArray := prog_1_method_15_code
def y_X_state : MethodName := ⟨R_X, "state", "(I)I"⟩
abbrev b_X_log : ByteArray := prog_1_method_16_code
def y_X_log : MethodName := ⟨R_X, "log", "()I"⟩
abbrev b_X_entry : ByteArray := prog_1_method_17_code
def y_X_entry : MethodName := ⟨R_X, "entry", "(II)I"⟩
abbrev b_X_free : ByteArray := prog_1_method_18_code
def y_X_free : MethodName := ⟨R_X, "free", "()I"⟩
abbrev b_X_reckonings : ByteArray := prog_1_method_19_code
def y_X_reckonings : MethodName := ⟨R_X, "reckonings", "()I"⟩
abbrev b_X_firstCellAt : ByteArray := prog_1_method_20_code
def y_X_firstCellAt : MethodName := ⟨R_X, "firstCellAt", "(I)I"⟩
abbrev b_X_note : ByteArray := prog_1_method_21_code
def y_X_note : MethodName := ⟨R_X, "note", "(I)V"⟩
abbrev b_X_bringUpToDate : ByteArray := prog_1_method_22_code
def y_X_bringUpToDate : MethodName := ⟨R_X, "bringUpToDate", "()I"⟩
abbrev b_X_countChangesOf : ByteArray := prog_1_method_23_code
def y_X_countChangesOf : MethodName := ⟨R_X, "countChangesOf", "(I)V"⟩
abbrev b_X_freeUnheld : ByteArray := prog_1_method_24_code
def y_X_freeUnheld : MethodName := ⟨R_X, "freeUnheld", "()I"⟩
abbrev b_X_firstUnheld : ByteArray := prog_1_method_25_code
def y_X_firstUnheld : MethodName := ⟨R_X, "firstUnheld", "()I"⟩
abbrev b_Heap_init : ByteArray := prog_3_method_1_code
def y_Heap_init : MethodName := ⟨R_Heap, "<init>", "()V"⟩
abbrev b_Heap_lowestRoom : ByteArray := prog_3_method_2_code
def y_Heap_lowestRoom : MethodName := ⟨R_Heap, "lowestRoom", "(I)I"⟩
abbrev b_Heap_layNew : ByteArray := prog_3_method_3_code
def y_Heap_layNew : MethodName := ⟨R_Heap, "layNew", "(II)I"⟩
abbrev b_Heap_giveBack : ByteArray := prog_3_method_4_code
def y_Heap_giveBack : MethodName := ⟨R_Heap, "giveBack", "(I)V"⟩
abbrev b_Heap_addToCount : ByteArray := prog_3_method_5_code
def y_Heap_addToCount : MethodName := ⟨R_Heap, "addToCount", "(II)V"⟩
abbrev b_Heap_firstCellOf : ByteArray := prog_3_method_6_code
def y_Heap_firstCellOf : MethodName := ⟨R_Heap, "firstCellOf", "(I)I"⟩
abbrev b_Heap_objectIn : ByteArray := prog_3_method_7_code
def y_Heap_objectIn : MethodName := ⟨R_Heap, "objectIn", "(I)I"⟩
abbrev b_Heap_countAt : ByteArray := prog_3_method_8_code
def y_Heap_countAt : MethodName := ⟨R_Heap, "countAt", "(I)I"⟩
abbrev b_Heap_slotsAt : ByteArray := prog_3_method_9_code
def y_Heap_slotsAt : MethodName := ⟨R_Heap, "slotsAt", "(I)I"⟩
abbrev b_Heap_hasSlot : ByteArray := prog_3_method_10_code
def y_Heap_hasSlot : MethodName := ⟨R_Heap, "hasSlot", "(II)Z"⟩
abbrev b_Heap_inSlot : ByteArray := prog_3_method_11_code
def y_Heap_inSlot : MethodName := ⟨R_Heap, "inSlot", "(II)I"⟩
abbrev b_Heap_setSlot : ByteArray := prog_3_method_12_code
def y_Heap_setSlot : MethodName := ⟨R_Heap, "setSlot", "(III)V"⟩
abbrev b_Heap_isFirst : ByteArray := prog_3_method_13_code
def y_Heap_isFirst : MethodName := ⟨R_Heap, "isFirst", "(I)Z"⟩
abbrev b_Heap_isUncounted : ByteArray := prog_3_method_14_code
def y_Heap_isUncounted : MethodName := ⟨R_Heap, "isUncounted", "(I)Z"⟩
abbrev b_Heap_objects : ByteArray := prog_3_method_15_code
def y_Heap_objects : MethodName := ⟨R_Heap, "objects", "()I"⟩
abbrev b_Heap_uncountedObjects : ByteArray := prog_3_method_16_code
def y_Heap_uncountedObjects : MethodName := ⟨R_Heap, "uncountedObjects", "()I"⟩
abbrev b_Heap_freeCells : ByteArray := prog_3_method_17_code
def y_Heap_freeCells : MethodName := ⟨R_Heap, "freeCells", "()I"⟩
abbrev b_Places_init : ByteArray := prog_4_method_1_code
def y_Places_init : MethodName := ⟨R_Places, "<init>", "()V"⟩
abbrev b_Places_size : ByteArray := prog_4_method_2_code
def y_Places_size : MethodName := ⟨R_Places, "size", "()I"⟩
abbrev b_Places_areFull : ByteArray := prog_4_method_3_code
def y_Places_areFull : MethodName := ⟨R_Places, "areFull", "()Z"⟩
abbrev b_Places_has : ByteArray := prog_4_method_4_code
def y_Places_has : MethodName := ⟨R_Places, "has", "(I)Z"⟩
abbrev b_Places_at : ByteArray := prog_4_method_5_code
def y_Places_at : MethodName := ⟨R_Places, "at", "(I)I"⟩
abbrev b_Places_push : ByteArray := prog_4_method_6_code
def y_Places_push : MethodName := ⟨R_Places, "push", "(I)I"⟩
abbrev b_Places_pop : ByteArray := prog_4_method_7_code
def y_Places_pop : MethodName := ⟨R_Places, "pop", "()I"⟩
abbrev b_Places_hold : ByteArray := prog_4_method_8_code
def y_Places_hold : MethodName := ⟨R_Places, "hold", "(I)Z"⟩
abbrev b_Entries_init : ByteArray := prog_2_method_1_code
def y_Entries_init : MethodName := ⟨R_Entries, "<init>", "()V"⟩
abbrev b_Entries_size : ByteArray := prog_2_method_2_code
def y_Entries_size : MethodName := ⟨R_Entries, "size", "()I"⟩
abbrev b_Entries_areFull : ByteArray := prog_2_method_3_code
def y_Entries_areFull : MethodName := ⟨R_Entries, "areFull", "()Z"⟩
abbrev b_Entries_has : ByteArray := prog_2_method_4_code
def y_Entries_has : MethodName := ⟨R_Entries, "has", "(I)Z"⟩
abbrev b_Entries_tellOf : ByteArray := prog_2_method_5_code
def y_Entries_tellOf : MethodName := ⟨R_Entries, "tellOf", "(I)Z"⟩
abbrev b_Entries_objectOf : ByteArray := prog_2_method_6_code
def y_Entries_objectOf : MethodName := ⟨R_Entries, "objectOf", "(I)I"⟩
abbrev b_Entries_before : ByteArray := prog_2_method_7_code
def y_Entries_before : MethodName := ⟨R_Entries, "before", "(II)I"⟩
abbrev b_Entries_setBefore : ByteArray := prog_2_method_8_code
def y_Entries_setBefore : MethodName := ⟨R_Entries, "setBefore", "(III)V"⟩
abbrev b_Entries_open : ByteArray := prog_2_method_9_code
def y_Entries_open : MethodName := ⟨R_Entries, "open", "(I)I"⟩
abbrev b_Entries_clear : ByteArray := prog_2_method_10_code
def y_Entries_clear : MethodName := ⟨R_Entries, "clear", "()V"⟩
abbrev b_M_init : ByteArray := prog_6_method_1_code
def y_M_init : MethodName := ⟨R_M, "<init>", "()V"⟩
abbrev b_M_within : ByteArray := prog_6_method_2_code
def y_M_within : MethodName := ⟨R_M, "within", "(III)Z"⟩
abbrev b_M_find : ByteArray := prog_6_method_3_code
def y_M_find : MethodName := ⟨R_M, "find", "(I)I"⟩
abbrev b_M_holders : ByteArray := prog_6_method_4_code
def y_M_holders : MethodName := ⟨R_M, "holders", "(I)I"⟩
abbrev b_M_onStack : ByteArray := prog_6_method_5_code
def y_M_onStack : MethodName := ⟨R_M, "onStack", "(I)Z"⟩
abbrev b_M_recount : ByteArray := prog_6_method_6_code
def y_M_recount : MethodName := ⟨R_M, "recount", "()V"⟩
abbrev b_M_round : ByteArray := prog_6_method_7_code
def y_M_round : MethodName := ⟨R_M, "round", "()I"⟩
abbrev b_M_settle : ByteArray := prog_6_method_8_code
def y_M_settle : MethodName := ⟨R_M, "settle", "()V"⟩
abbrev b_M_reckon : ByteArray := prog_6_method_9_code
def y_M_reckon : MethodName := ⟨R_M, "reckon", "()I"⟩
abbrev b_M_room : ByteArray := prog_6_method_10_code
def y_M_room : MethodName := ⟨R_M, "room", "(I)I"⟩
abbrev b_M_push : ByteArray := prog_6_method_11_code
def y_M_push : MethodName := ⟨R_M, "push", "(I)V"⟩
abbrev b_M_make : ByteArray := prog_6_method_12_code
def y_M_make : MethodName := ⟨R_M, "make", "(I)I"⟩
abbrev b_M_isPlace : ByteArray := prog_6_method_13_code
def y_M_isPlace : MethodName := ⟨R_M, "isPlace", "(I)Z"⟩
abbrev b_M_copy : ByteArray := prog_6_method_14_code
def y_M_copy : MethodName := ⟨R_M, "copy", "(I)I"⟩
abbrev b_M_slotCell : ByteArray := prog_6_method_15_code
def y_M_slotCell : MethodName := ⟨R_M, "slotCell", "(II)I"⟩
abbrev b_M_load : ByteArray := prog_6_method_16_code
def y_M_load : MethodName := ⟨R_M, "load", "(II)I"⟩
abbrev b_M_makeRoom : ByteArray := prog_6_method_17_code
def y_M_makeRoom : MethodName := ⟨R_M, "makeRoom", "()V"⟩
abbrev b_M_note : ByteArray := prog_6_method_18_code
def y_M_note : MethodName := ⟨R_M, "note", "(I)V"⟩
abbrev b_M_store : ByteArray := prog_6_method_19_code
def y_M_store : MethodName := ⟨R_M, "store", "(III)Z"⟩
abbrev b_M_drop : ByteArray := prog_6_method_20_code
def y_M_drop : MethodName := ⟨R_M, "drop", "()I"⟩
abbrev b_M_stack : ByteArray := prog_6_method_21_code
def y_M_stack : MethodName := ⟨R_M, "stack", "()I"⟩
abbrev b_M_held : ByteArray := prog_6_method_22_code
def y_M_held : MethodName := ⟨R_M, "held", "(I)I"⟩
abbrev b_M_alive : ByteArray := prog_6_method_23_code
def y_M_alive : MethodName := ⟨R_M, "alive", "()I"⟩
abbrev b_M_count : ByteArray := prog_6_method_24_code
def y_M_count : MethodName := ⟨R_M, "count", "(I)I"⟩
abbrev b_M_cell : ByteArray := prog_6_method_25_code
def y_M_cell : MethodName := ⟨R_M, "cell", "(I)I"⟩
abbrev b_M_slot : ByteArray := prog_6_method_26_code
def y_M_slot : MethodName := ⟨R_M, "slot", "(II)I"⟩
abbrev b_M_table : ByteArray := prog_6_method_27_code
def y_M_table : MethodName := ⟨R_M, "table", "()I"⟩
abbrev b_M_state : ByteArray := prog_6_method_28_code
def y_M_state : MethodName := ⟨R_M, "state", "(I)I"⟩
abbrev b_M_log : ByteArray := prog_6_method_29_code
def y_M_log : MethodName := ⟨R_M, "log", "()I"⟩
abbrev b_M_slotsOf : ByteArray := prog_6_method_30_code
def y_M_slotsOf : MethodName := ⟨R_M, "slotsOf", "(I)I"⟩
abbrev b_M_entry : ByteArray := prog_6_method_31_code
def y_M_entry : MethodName := ⟨R_M, "entry", "(II)I"⟩
abbrev b_M_free : ByteArray := prog_6_method_32_code
def y_M_free : MethodName := ⟨R_M, "free", "()I"⟩
abbrev b_M_reckonings : ByteArray := prog_6_method_33_code
def y_M_reckonings : MethodName := ⟨R_M, "reckonings", "()I"⟩
abbrev classes : List vw_C := [(R_X, F_X, 4), (R_Heap, F_Heap, 3), (R_Places, F_Places, 2), (R_Entries, F_Entries, 3), (R_M, F_M, 12)]
theorem n_X : ∀ a, a < 4 → ∀ b, b < 4 → a ≠ b → (F_X a).2.1 ≠ (F_X b).2.1 := by decide +kernel
theorem t_X_ok : ∀ k, k < 4 → parseFieldDescriptor (F_X k).2.2.1 = some (t_X k) := by decide +kernel
set_option maxRecDepth 20000 in
theorem i_X : ∀ w ∈ w_X, w ∈ zz_tb := by decide +kernel
theorem n_Heap : ∀ a, a < 3 → ∀ b, b < 3 → a ≠ b → (F_Heap a).2.1 ≠ (F_Heap b).2.1 := by decide +kernel
theorem t_Heap_ok : ∀ k, k < 3 → parseFieldDescriptor (F_Heap k).2.2.1 = some (t_Heap k) := by decide +kernel
set_option maxRecDepth 20000 in
theorem i_Heap : ∀ w ∈ w_Heap, w ∈ zz_tb := by decide +kernel
theorem n_Places : ∀ a, a < 2 → ∀ b, b < 2 → a ≠ b → (F_Places a).2.1 ≠ (F_Places b).2.1 := by decide +kernel
theorem t_Places_ok : ∀ k, k < 2 → parseFieldDescriptor (F_Places k).2.2.1 = some (t_Places k) := by decide +kernel
set_option maxRecDepth 20000 in
theorem i_Places : ∀ w ∈ w_Places, w ∈ zz_tb := by decide +kernel
theorem n_Entries : ∀ a, a < 3 → ∀ b, b < 3 → a ≠ b → (F_Entries a).2.1 ≠ (F_Entries b).2.1 := by decide +kernel
theorem t_Entries_ok : ∀ k, k < 3 → parseFieldDescriptor (F_Entries k).2.2.1 = some (t_Entries k) := by decide +kernel
set_option maxRecDepth 20000 in
theorem i_Entries : ∀ w ∈ w_Entries, w ∈ zz_tb := by decide +kernel
theorem n_M : ∀ a, a < 12 → ∀ b, b < 12 → a ≠ b → (F_M a).2.1 ≠ (F_M b).2.1 := by decide +kernel
theorem t_M_ok : ∀ k, k < 12 → parseFieldDescriptor (F_M k).2.2.1 = some (t_M k) := by decide +kernel
set_option maxRecDepth 20000 in
theorem i_M : ∀ w ∈ w_M, w ∈ zz_tb := by decide +kernel
