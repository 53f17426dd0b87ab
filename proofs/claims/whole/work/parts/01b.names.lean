/-! names, tables and facts, written by gen_names.py -/
def R_law0 : String := "PathTreeLaw"
abbrev tb : List Cond := lw_tbl.filter goodWord
theorem t_in (n : Nat) {w : Cond} (h : lw_tbl[n]? = some w) (g : goodWord w = true) : w ∈ tb := List.mem_filter.mpr ⟨List.mem_of_getElem? h, g⟩
def xF_P : u_T := fun k => match k with
  | 0 => ("PathTree", "text", "LPathTree$PathText;", true)
  | 1 => ("PathTree", "root", "LPathTree$Directory;", true)
  | 2 => ("PathTree", "atHand", "LPathTree$Directory;", false)
  | 3 => ("PathTree", "opened", "LPathTree$FileEntry;", false)
  | 4 => ("PathTree", "files", "I", false)
  | 5 => ("PathTree", "directories", "I", false)
  | _ => ("PathTree", "bytesOfAll", "I", false)
def xT_P : Nat → FieldType := fun k => match k with
  | 0 => .object "PathTree$PathText"
  | 1 => .object "PathTree$Directory"
  | 2 => .object "PathTree$Directory"
  | 3 => .object "PathTree$FileEntry"
  | 4 => .int
  | 5 => .int
  | _ => .int
def xZ_P : Nat → Value := fun k => match k with
  | 0 => .null
  | 1 => .null
  | 2 => .null
  | 3 => .null
  | 4 => .int 0
  | 5 => .int 0
  | _ => .int 0
def xF_T : u_T := fun k => match k with
  | 0 => ("PathTree$PathText", "characters", "[C", true)
  | _ => ("PathTree$PathText", "length", "I", false)
def xT_T : Nat → FieldType := fun k => match k with
  | 0 => .array .char
  | _ => .int
def xZ_T : Nat → Value := fun k => match k with
  | 0 => .null
  | _ => .int 0
def xF_D : u_T := fun k => match k with
  | 0 => ("PathTree$Entry", "name", "[C", false)
  | 1 => ("PathTree$Entry", "home", "LPathTree$Directory;", false)
  | 2 => ("PathTree$Entry", "next", "LPathTree$Entry;", false)
  | 3 => ("PathTree$Directory", "first", "LPathTree$Entry;", false)
  | _ => ("PathTree$Directory", "size", "I", false)
def xT_D : Nat → FieldType := fun k => match k with
  | 0 => .array .char
  | 1 => .object "PathTree$Directory"
  | 2 => .object "PathTree$Entry"
  | 3 => .object "PathTree$Entry"
  | _ => .int
def xZ_D : Nat → Value := fun k => match k with
  | 0 => .null
  | 1 => .null
  | 2 => .null
  | 3 => .null
  | _ => .int 0
def xF_F : u_T := fun k => match k with
  | 0 => ("PathTree$Entry", "name", "[C", false)
  | 1 => ("PathTree$Entry", "home", "LPathTree$Directory;", false)
  | 2 => ("PathTree$Entry", "next", "LPathTree$Entry;", false)
  | 3 => ("PathTree$FileEntry", "bytes", "[B", false)
  | _ => ("PathTree$FileEntry", "length", "I", false)
def xT_F : Nat → FieldType := fun k => match k with
  | 0 => .array .char
  | 1 => .object "PathTree$Directory"
  | 2 => .object "PathTree$Entry"
  | 3 => .array .byte
  | _ => .int
def xZ_F : Nat → Value := fun k => match k with
  | 0 => .null
  | 1 => .null
  | 2 => .null
  | 3 => .null
  | _ => .int 0
def xF_R : u_T := fun k => match k with
  | 0 => ("PathTreeModel", "path", "[I", true)
  | 1 => ("PathTreeModel", "length", "I", false)
  | 2 => ("PathTreeModel", "kind", "[I", true)
  | 3 => ("PathTreeModel", "in", "[I", true)
  | 4 => ("PathTreeModel", "size", "[I", true)
  | 5 => ("PathTreeModel", "nameSize", "[I", true)
  | 6 => ("PathTreeModel", "names", "[I", true)
  | 7 => ("PathTreeModel", "entries", "I", false)
  | 8 => ("PathTreeModel", "hand", "I", false)
  | 9 => ("PathTreeModel", "open", "I", false)
  | 10 => ("PathTreeModel", "gone", "Z", false)
  | 11 => ("PathTreeModel", "bytes", "I", false)
  | 12 => ("PathTreeModel", "what", "[B", true)
  | _ => ("PathTreeModel", "whose", "[S", true)
def xT_R : Nat → FieldType := fun k => match k with
  | 0 => .array .int
  | 1 => .int
  | 2 => .array .int
  | 3 => .array .int
  | 4 => .array .int
  | 5 => .array .int
  | 6 => .array .int
  | 7 => .int
  | 8 => .int
  | 9 => .int
  | 10 => .boolean
  | 11 => .int
  | 12 => .array .byte
  | _ => .array .short
def xZ_R : Nat → Value := fun k => match k with
  | 0 => .null
  | 1 => .int 0
  | 2 => .null
  | 3 => .null
  | 4 => .null
  | 5 => .null
  | 6 => .null
  | 7 => .int 0
  | 8 => .int 0
  | 9 => .int 0
  | 10 => .int 0
  | 11 => .int 0
  | 12 => .null
  | _ => .null
abbrev vwCl : List vw_C := [("PathTree", xF_P, 7), ("PathTree$PathText", xF_T, 2), ("PathTree$Directory", xF_D, 5), ("PathTree$FileEntry", xF_F, 5), ("PathTreeModel", xF_R, 14)]
def k_ty (k : Nat) : Option FieldType := if k = 101 then some .char else if k = 102 then some .byte else if k = 103 then some .short else if k = 104 then some .int else none
theorem k_dis (k : Nat) (q : vw_C) (h : vwCl[k]? = some q) : k_ty k = none := by
  have hk : k < 5 := (List.getElem?_eq_some_iff.mp h).1
  unfold k_ty
  rw [if_neg (by omega), if_neg (by omega), if_neg (by omega), if_neg (by omega)]
abbrev n_F : List (String × Nat × String × String × String × String) := [("PathTree", 156, "PathTree$PathText", "characters", "[C", "PathTree"), ("PathTree", 54, "PathTree$PathText", "length", "I", "PathTree"), ("PathTree", 129, "PathTree$Directory", "size", "I", "PathTree"), ("PathTree", 82, "PathTree$FileEntry", "length", "I", "PathTree")]
abbrev n_M : List (String × Nat × MethodName × String) := [("PathTree", 9, ⟨"PathTree$PathText", "<init>", "()V"⟩, "PathTree"), ("PathTree", 18, ⟨"PathTree$Directory", "<init>", "([C)V"⟩, "PathTree"), ("PathTree", 46, ⟨"PathTree$PathText", "takes", "(JI)Z"⟩, "PathTree"), ("PathTree$PathText", 17, ⟨"PathTree", "byteOf", "(JI)I"⟩, "PathTree"), ("PathTree", 50, ⟨"PathTree$PathText", "append", "(JI)V"⟩, "PathTree"), ("PathTree", 138, ⟨"PathTree$PathText", "isSlash", "(I)Z"⟩, "PathTree"), ("PathTree", 148, ⟨"PathTree$PathText", "isDot", "(II)Z"⟩, "PathTree"), ("PathTree", 152, ⟨"PathTree$PathText", "isDotDot", "(II)Z"⟩, "PathTree"), ("PathTree", 159, ⟨"PathTree$Directory", "entryCalled", "([CII)LPathTree$Entry;"⟩, "PathTree"), ("PathTree", 61, ⟨"PathTree$PathText", "clear", "()V"⟩, "PathTree"), ("PathTree", 163, ⟨"PathTree$PathText", "lastNameCanBe", "()Z"⟩, "PathTree"), ("PathTree", 141, ⟨"PathTree$PathText", "lastSlash", "()I"⟩, "PathTree"), ("PathTree", 68, ⟨"PathTree$PathText", "lastName", "()[C"⟩, "PathTree"), ("PathTree", 72, ⟨"PathTree$Directory", w_ad, "(LPathTree$Entry;)V"⟩, "PathTree"), ("PathTree", 169, ⟨"PathTree$FileEntry", "<init>", "([C)V"⟩, "PathTree"), ("PathTree", 90, ⟨"PathTree$FileEntry", "room", "()I"⟩, "PathTree"), ("PathTree", 105, ⟨"PathTree$FileEntry", "append", "(I)V"⟩, "PathTree"), ("PathTree", 108, ⟨"PathTree$FileEntry", "at", "(I)I"⟩, "PathTree"), ("PathTree", 174, ⟨"PathTree$Directory", "release", "(LPathTree$Entry;)V"⟩, "PathTree"), ("PathTree", 119, ⟨"PathTree$Directory", "entryAt", "(I)LPathTree$Entry;"⟩, "PathTree"), ("PathTree", 132, ⟨"PathTree$Directory", "depth", "()I"⟩, "PathTree")]
abbrev n_C : List (String × String) := [("PathTree$Directory", "PathTree$Directory"), ("PathTree$FileEntry", "PathTree$FileEntry")]
abbrev n_N : List (String × String) := [("PathTree", "PathTree$Directory"), ("PathTree$PathText", "PathTree$Directory"), ("PathTreeModel", "PathTree$Directory"), ("PathTree$FileEntry", "PathTree$Directory"), ("PathTree", "PathTree$FileEntry"), ("PathTree$PathText", "PathTree$FileEntry"), ("PathTree$Directory", "PathTree$FileEntry"), ("PathTreeModel", "PathTree$FileEntry")]
/-- a method: name, code, locals, answer, frames, words -/
abbrev MM : Type := MethodName × ByteArray × Nat × Option FieldType × Nat × Nat
abbrev m_Y (i : MM) : MethodName := i.1
abbrev m_C (i : MM) : ByteArray := i.2.1
abbrev m_L (i : MM) : Nat := i.2.2.1
abbrev m_R (i : MM) : Option FieldType := i.2.2.2.1
abbrev m_D (i : MM) : Nat := i.2.2.2.2.1
abbrev m_W (i : MM) : Nat := i.2.2.2.2.2
def mL_law : MM := (⟨"PathTreeLaw", "law", "([I)Z"⟩, code, 4, ret, 7, 177)
def mP_init : MM := (⟨"PathTree", "<init>", "()V"⟩, prog_1_method_1_code, 1, (Option.none : Option FieldType), 3, 87)
def mT_init : MM := (⟨"PathTree$PathText", "<init>", "()V"⟩, prog_5_method_1_code, 1, (Option.none : Option FieldType), 1, 45)
def mD_init : MM := (⟨"PathTree$Directory", "<init>", "([C)V"⟩, prog_2_method_1_code, 2, (Option.none : Option FieldType), 2, 66)
def mE_init : MM := (⟨"PathTree$Entry", "<init>", "([C)V"⟩, prog_3_method_1_code, 2, (Option.none : Option FieldType), 1, 45)
def mP_path : MM := (⟨"PathTree", "path", "(JI)I"⟩, prog_1_method_2_code, 4, (Option.some FieldType.int), 2, 46)
def mP_isByteCount : MM := (⟨"PathTree", "isByteCount", "(I)Z"⟩, prog_1_method_14_code, 1, (Option.some FieldType.boolean), 0, 0)
def mT_takes : MM := (⟨"PathTree$PathText", "takes", "(JI)Z"⟩, prog_5_method_2_code, 5, (Option.some FieldType.boolean), 1, 22)
def mP_byteOf : MM := (⟨"PathTree", "byteOf", "(JI)I"⟩, prog_1_method_15_code, 3, (Option.some FieldType.int), 0, 0)
def mT_isPathCharacter : MM := (⟨"PathTree$PathText", "isPathCharacter", "(I)Z"⟩, prog_5_method_3_code, 1, (Option.some FieldType.boolean), 0, 0)
def mT_append : MM := (⟨"PathTree$PathText", "append", "(JI)V"⟩, prog_5_method_4_code, 5, (Option.none : Option FieldType), 1, 22)
def mP_find : MM := (⟨"PathTree", "find", "()I"⟩, prog_1_method_3_code, 2, (Option.some FieldType.int), 5, 118)
def mP_target : MM := (⟨"PathTree", "target", "()LPathTree$Entry;"⟩, prog_1_method_16_code, 2, (Option.some (FieldType.object "PathTree$Entry")), 4, 97)
def mP_entryBefore : MM := (⟨"PathTree", "entryBefore", "(I)LPathTree$Entry;"⟩, prog_1_method_18_code, 5, (Option.some (FieldType.object "PathTree$Entry")), 3, 73)
def mT_isSlash : MM := (⟨"PathTree$PathText", "isSlash", "(I)Z"⟩, prog_5_method_7_code, 2, (Option.some FieldType.boolean), 1, 22)
def mT_is : MM := (⟨"PathTree$PathText", "is", "(CI)Z"⟩, prog_5_method_6_code, 3, (Option.some FieldType.boolean), 0, 0)
def mP_step : MM := (⟨"PathTree", "step", "(LPathTree$Entry;II)LPathTree$Entry;"⟩, prog_1_method_19_code, 5, (Option.some (FieldType.object "PathTree$Entry")), 2, 49)
def mT_isDot : MM := (⟨"PathTree$PathText", "isDot", "(II)Z"⟩, prog_5_method_8_code, 3, (Option.some FieldType.boolean), 1, 22)
def mT_isDotDot : MM := (⟨"PathTree$PathText", "isDotDot", "(II)Z"⟩, prog_5_method_9_code, 3, (Option.some FieldType.boolean), 1, 22)
def mD_entryCalled : MM := (⟨"PathTree$Directory", "entryCalled", "([CII)LPathTree$Entry;"⟩, prog_2_method_2_code, 5, (Option.some (FieldType.object "PathTree$Entry")), 1, 25)
def mE_order : MM := (⟨"PathTree$Entry", "order", "([CII)I"⟩, prog_3_method_2_code, 6, (Option.some FieldType.int), 0, 0)
def mT_clear : MM := (⟨"PathTree$PathText", "clear", "()V"⟩, prog_5_method_5_code, 1, (Option.none : Option FieldType), 0, 0)
def mP_make : MM := (⟨"PathTree", "make", "()Z"⟩, prog_1_method_4_code, 2, (Option.some FieldType.boolean), 6, 141)
def mP_homeOfNew : MM := (⟨"PathTree", "homeOfNew", "()LPathTree$Directory;"⟩, prog_1_method_20_code, 2, (Option.some (FieldType.object "PathTree$Directory")), 5, 120)
def mT_lastNameCanBe : MM := (⟨"PathTree$PathText", "lastNameCanBe", "()Z"⟩, prog_5_method_11_code, 3, (Option.some FieldType.boolean), 3, 64)
def mT_lastSlash : MM := (⟨"PathTree$PathText", "lastSlash", "()I"⟩, prog_5_method_10_code, 2, (Option.some FieldType.int), 2, 43)
def mP_home : MM := (⟨"PathTree", "home", "()LPathTree$Directory;"⟩, prog_1_method_17_code, 4, (Option.some (FieldType.object "PathTree$Directory")), 4, 97)
def mT_lastName : MM := (⟨"PathTree$PathText", "lastName", "()[C"⟩, prog_5_method_12_code, 1, (Option.some (FieldType.array FieldType.char)), 4, 112)
def mJ_copyOfRange : MM := (⟨"java/util/Arrays", "copyOfRange", "([CII)[C"⟩, prog_11_method_140_code, 3, (Option.some (FieldType.array FieldType.char)), 3, 90)
def mJ_copyOfRangeChar : MM := (⟨"java/util/Arrays", "copyOfRangeChar", "([CII)[C"⟩, prog_11_method_141_code, 5, (Option.some (FieldType.array FieldType.char)), 2, 66)
def mJ_checkLength : MM := (⟨"java/util/Arrays", "checkLength", "(II)V"⟩, prog_11_method_131_code, 2, (Option.none : Option FieldType), 1, 45)
def mD_admit : MM := (⟨"PathTree$Directory", w_ad, "(LPathTree$Entry;)V"⟩, prog_2_method_5_code, 4, (Option.none : Option FieldType), 1, 25)
def mD_link : MM := (⟨"PathTree$Directory", "link", "(LPathTree$Entry;LPathTree$Entry;)V"⟩, prog_2_method_7_code, 3, (Option.none : Option FieldType), 0, 0)
def mP_go : MM := (⟨"PathTree", "go", "()Z"⟩, prog_1_method_5_code, 3, (Option.some FieldType.boolean), 5, 118)
def mP_open : MM := (⟨"PathTree", "open", "()Z"⟩, prog_1_method_6_code, 4, (Option.some FieldType.boolean), 6, 154)
def mP_newFile : MM := (⟨"PathTree", "newFile", "(LPathTree$Directory;)LPathTree$FileEntry;"⟩, prog_1_method_21_code, 3, (Option.some (FieldType.object "PathTree$FileEntry")), 5, 132)
def mF_init : MM := (⟨"PathTree$FileEntry", "<init>", "([C)V"⟩, prog_4_method_1_code, 2, (Option.none : Option FieldType), 2, 66)
def mP_empty : MM := (⟨"PathTree", "empty", "()I"⟩, prog_1_method_7_code, 2, (Option.some FieldType.int), 1, 21)
def mP_dropBytes : MM := (⟨"PathTree", "dropBytes", "(LPathTree$FileEntry;)V"⟩, prog_1_method_22_code, 2, (Option.none : Option FieldType), 0, 0)
def mP_write : MM := (⟨"PathTree", "write", "(JI)I"⟩, prog_1_method_8_code, 6, (Option.some FieldType.int), 3, 88)
def mF_room : MM := (⟨"PathTree$FileEntry", "room", "()I"⟩, prog_4_method_2_code, 1, (Option.some FieldType.int), 0, 0)
def mF_append : MM := (⟨"PathTree$FileEntry", "append", "(I)V"⟩, prog_4_method_3_code, 2, (Option.none : Option FieldType), 2, 67)
def mJ_copyOf : MM := (⟨"java/util/Arrays", "copyOf", "([BI)[B"⟩, prog_11_method_121_code, 3, (Option.some (FieldType.array FieldType.byte)), 1, 45)
def mP_byteAt : MM := (⟨"PathTree", "byteAt", "(I)I"⟩, prog_1_method_9_code, 2, (Option.some FieldType.int), 1, 21)
def mF_at : MM := (⟨"PathTree$FileEntry", "at", "(I)I"⟩, prog_4_method_4_code, 2, (Option.some FieldType.int), 0, 0)
def mP_remove : MM := (⟨"PathTree", "remove", "()Z"⟩, prog_1_method_10_code, 3, (Option.some FieldType.boolean), 5, 118)
def mP_discard : MM := (⟨"PathTree", "discard", "(LPathTree$FileEntry;)V"⟩, prog_1_method_23_code, 2, (Option.none : Option FieldType), 3, 65)
def mP_detach : MM := (⟨"PathTree", "detach", "(LPathTree$Entry;)V"⟩, prog_1_method_24_code, 1, (Option.none : Option FieldType), 2, 45)
def mD_release : MM := (⟨"PathTree$Directory", "release", "(LPathTree$Entry;)V"⟩, prog_2_method_6_code, 4, (Option.none : Option FieldType), 1, 22)
def mP_move : MM := (⟨"PathTree", "move", "()Z"⟩, prog_1_method_11_code, 2, (Option.some FieldType.boolean), 6, 155)
def mP_moveToPath : MM := (⟨"PathTree", "moveToPath", "(LPathTree$FileEntry;)Z"⟩, prog_1_method_25_code, 4, (Option.some FieldType.boolean), 5, 132)
def mP_moveInto : MM := (⟨"PathTree", "moveInto", "(LPathTree$Directory;[CLPathTree$FileEntry;)Z"⟩, prog_1_method_26_code, 6, (Option.some FieldType.boolean), 4, 86)
def mP_name : MM := (⟨"PathTree", "name", "(II)I"⟩, prog_1_method_12_code, 4, (Option.some FieldType.int), 1, 23)
def mD_entryAt : MM := (⟨"PathTree$Directory", "entryAt", "(I)LPathTree$Entry;"⟩, prog_2_method_3_code, 4, (Option.some (FieldType.object "PathTree$Entry")), 0, 0)
def mP_count : MM := (⟨"PathTree", "count", "(I)I"⟩, prog_1_method_13_code, 2, (Option.some FieldType.int), 1, 22)
def mD_depth : MM := (⟨"PathTree$Directory", "depth", "()I"⟩, prog_2_method_4_code, 3, (Option.some FieldType.int), 0, 0)
def mR_init : MM := (⟨"PathTreeModel", "<init>", "()V"⟩, prog_7_method_1_code, 1, (Option.none : Option FieldType), 1, 45)
def mR_path : MM := (⟨"PathTreeModel", "path", "(JI)I"⟩, prog_7_method_3_code, 6, (Option.some FieldType.int), 0, 0)
def mR_find : MM := (⟨"PathTreeModel", "find", "()I"⟩, prog_7_method_13_code, 2, (Option.some FieldType.int), 3, 73)
def mR_lead : MM := (⟨"PathTreeModel", "lead", "(I)I"⟩, prog_7_method_7_code, 5, (Option.some FieldType.int), 2, 49)
def mR_along : MM := (⟨"PathTreeModel", "along", "(III)I"⟩, prog_7_method_6_code, 4, (Option.some FieldType.int), 1, 26)
def mR_isDots : MM := (⟨"PathTreeModel", "isDots", "(III)Z"⟩, prog_7_method_5_code, 6, (Option.some FieldType.boolean), 0, 0)
def mR_entry : MM := (⟨"PathTreeModel", "entry", "(III)I"⟩, prog_7_method_4_code, 7, (Option.some FieldType.int), 0, 0)
def mR_make : MM := (⟨"PathTreeModel", "make", "()Z"⟩, prog_7_method_14_code, 2, (Option.some FieldType.boolean), 5, 118)
def mR_made : MM := (⟨"PathTreeModel", "made", "(I)I"⟩, prog_7_method_11_code, 4, (Option.some FieldType.int), 4, 95)
def mR_home : MM := (⟨"PathTreeModel", "home", "()I"⟩, prog_7_method_9_code, 3, (Option.some FieldType.int), 3, 73)
def mR_last : MM := (⟨"PathTreeModel", "last", "()I"⟩, prog_7_method_8_code, 2, (Option.some FieldType.int), 0, 0)
def mR_isName : MM := (⟨"PathTreeModel", "isName", "()Z"⟩, prog_7_method_10_code, 2, (Option.some FieldType.boolean), 1, 25)
def mR_put : MM := (⟨"PathTreeModel", "put", "(II)V"⟩, prog_7_method_12_code, 4, (Option.none : Option FieldType), 1, 21)
def mR_go : MM := (⟨"PathTreeModel", "go", "()Z"⟩, prog_7_method_15_code, 2, (Option.some FieldType.boolean), 3, 73)
def mR_open : MM := (⟨"PathTreeModel", "open", "()Z"⟩, prog_7_method_16_code, 2, (Option.some FieldType.boolean), 5, 118)
def mR_empty : MM := (⟨"PathTreeModel", "empty", "()I"⟩, prog_7_method_18_code, 1, (Option.some FieldType.int), 1, 24)
def mR_lose : MM := (⟨"PathTreeModel", "lose", "(I)I"⟩, prog_7_method_17_code, 5, (Option.some FieldType.int), 0, 0)
def mR_write : MM := (⟨"PathTreeModel", "write", "(JI)I"⟩, prog_7_method_19_code, 5, (Option.some FieldType.int), 0, 0)
def mR_byteAt : MM := (⟨"PathTreeModel", "byteAt", "(I)I"⟩, prog_7_method_20_code, 4, (Option.some FieldType.int), 0, 0)
def mR_remove : MM := (⟨"PathTreeModel", "remove", "()Z"⟩, prog_7_method_22_code, 2, (Option.some FieldType.boolean), 3, 73)
def mR_removeFile : MM := (⟨"PathTreeModel", "removeFile", "(I)V"⟩, prog_7_method_21_code, 3, (Option.none : Option FieldType), 1, 24)
def mR_move : MM := (⟨"PathTreeModel", "move", "()Z"⟩, prog_7_method_25_code, 2, (Option.some FieldType.boolean), 5, 119)
def mR_moved : MM := (⟨"PathTreeModel", "moved", "()Z"⟩, prog_7_method_24_code, 5, (Option.some FieldType.boolean), 4, 95)
def mR_namesake : MM := (⟨"PathTreeModel", "namesake", "(II)I"⟩, prog_7_method_23_code, 6, (Option.some FieldType.int), 0, 0)
def mR_name : MM := (⟨"PathTreeModel", "name", "(II)I"⟩, prog_7_method_28_code, 4, (Option.some FieldType.int), 2, 48)
def mR_inOrder : MM := (⟨"PathTreeModel", "inOrder", "(I)I"⟩, prog_7_method_27_code, 5, (Option.some FieldType.int), 1, 24)
def mR_isBefore : MM := (⟨"PathTreeModel", "isBefore", "(II)Z"⟩, prog_7_method_26_code, 5, (Option.some FieldType.boolean), 0, 0)
def mR_count : MM := (⟨"PathTreeModel", "count", "(I)I"⟩, prog_7_method_32_code, 2, (Option.some FieldType.int), 1, 23)
def mR_many : MM := (⟨"PathTreeModel", "many", "(I)I"⟩, prog_7_method_29_code, 4, (Option.some FieldType.int), 0, 0)
def mR_atHand : MM := (⟨"PathTreeModel", "atHand", "()I"⟩, prog_7_method_30_code, 3, (Option.some FieldType.int), 0, 0)
def mR_above : MM := (⟨"PathTreeModel", "above", "()I"⟩, prog_7_method_31_code, 3, (Option.some FieldType.int), 0, 0)
