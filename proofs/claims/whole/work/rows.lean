section
-- ===== PART A: goes FIRST, ahead of the names: the tables' words, and 'selects' of the private methods out of them =====
/-- a private method of a class that the tables say can be made, by its rows of tables_1 -/
def lw_okq (q : MethodName × Nat) : Prop := (q.1.cls ≠ "java/lang/invoke/MethodHandle" ∧ q.1.cls ≠ "java/lang/invoke/VarHandle") ∧ Cond.instantiable q.1.cls q.2 ∈ tables_1 ∧ Cond.privateMethod q.1 ∈ tables_1 ∧ Cond.instanceMethod q.1 ∈ tables_1
theorem lw_p0 : lw_okq (⟨"PathTree$PathText", "takes", "(JI)Z"⟩, 2) := ⟨⟨by decide +kernel, by decide +kernel⟩, List.mem_of_getElem? (i := 19) (by decide +kernel), List.mem_of_getElem? (i := 102) (by decide +kernel), List.mem_of_getElem? (i := 103) (by decide +kernel)⟩
theorem lw_p1 : lw_okq (⟨"PathTree$PathText", "append", "(JI)V"⟩, 2) := ⟨⟨by decide +kernel, by decide +kernel⟩, List.mem_of_getElem? (i := 19) (by decide +kernel), List.mem_of_getElem? (i := 112) (by decide +kernel), List.mem_of_getElem? (i := 113) (by decide +kernel)⟩
theorem lw_p2 : lw_okq (⟨"PathTree", "target", "()LPathTree$Entry;"⟩, 7) := ⟨⟨by decide +kernel, by decide +kernel⟩, List.mem_of_getElem? (i := 11) (by decide +kernel), List.mem_of_getElem? (i := 120) (by decide +kernel), List.mem_of_getElem? (i := 121) (by decide +kernel)⟩
theorem lw_p3 : lw_okq (⟨"PathTree", "entryBefore", "(I)LPathTree$Entry;"⟩, 7) := ⟨⟨by decide +kernel, by decide +kernel⟩, List.mem_of_getElem? (i := 11) (by decide +kernel), List.mem_of_getElem? (i := 124) (by decide +kernel), List.mem_of_getElem? (i := 125) (by decide +kernel)⟩
theorem lw_p4 : lw_okq (⟨"PathTree$PathText", "isSlash", "(I)Z"⟩, 2) := ⟨⟨by decide +kernel, by decide +kernel⟩, List.mem_of_getElem? (i := 19) (by decide +kernel), List.mem_of_getElem? (i := 128) (by decide +kernel), List.mem_of_getElem? (i := 129) (by decide +kernel)⟩
theorem lw_p5 : lw_okq (⟨"PathTree$PathText", "is", "(CI)Z"⟩, 2) := ⟨⟨by decide +kernel, by decide +kernel⟩, List.mem_of_getElem? (i := 19) (by decide +kernel), List.mem_of_getElem? (i := 132) (by decide +kernel), List.mem_of_getElem? (i := 133) (by decide +kernel)⟩
theorem lw_p6 : lw_okq (⟨"PathTree", "step", "(LPathTree$Entry;II)LPathTree$Entry;"⟩, 7) := ⟨⟨by decide +kernel, by decide +kernel⟩, List.mem_of_getElem? (i := 11) (by decide +kernel), List.mem_of_getElem? (i := 136) (by decide +kernel), List.mem_of_getElem? (i := 137) (by decide +kernel)⟩
theorem lw_p7 : lw_okq (⟨"PathTree$PathText", "isDot", "(II)Z"⟩, 2) := ⟨⟨by decide +kernel, by decide +kernel⟩, List.mem_of_getElem? (i := 19) (by decide +kernel), List.mem_of_getElem? (i := 140) (by decide +kernel), List.mem_of_getElem? (i := 141) (by decide +kernel)⟩
theorem lw_p8 : lw_okq (⟨"PathTree$PathText", "isDotDot", "(II)Z"⟩, 2) := ⟨⟨by decide +kernel, by decide +kernel⟩, List.mem_of_getElem? (i := 19) (by decide +kernel), List.mem_of_getElem? (i := 144) (by decide +kernel), List.mem_of_getElem? (i := 145) (by decide +kernel)⟩
theorem lw_p9 : lw_okq (⟨"PathTree$Directory", "entryCalled", "([CII)LPathTree$Entry;"⟩, 5) := ⟨⟨by decide +kernel, by decide +kernel⟩, List.mem_of_getElem? (i := 35) (by decide +kernel), List.mem_of_getElem? (i := 148) (by decide +kernel), List.mem_of_getElem? (i := 149) (by decide +kernel)⟩
theorem lw_p10 : lw_okq (⟨"PathTree$PathText", "clear", "()V"⟩, 2) := ⟨⟨by decide +kernel, by decide +kernel⟩, List.mem_of_getElem? (i := 19) (by decide +kernel), List.mem_of_getElem? (i := 158) (by decide +kernel), List.mem_of_getElem? (i := 159) (by decide +kernel)⟩
theorem lw_p11 : lw_okq (⟨"PathTree", "homeOfNew", "()LPathTree$Directory;"⟩, 7) := ⟨⟨by decide +kernel, by decide +kernel⟩, List.mem_of_getElem? (i := 11) (by decide +kernel), List.mem_of_getElem? (i := 166) (by decide +kernel), List.mem_of_getElem? (i := 167) (by decide +kernel)⟩
theorem lw_p12 : lw_okq (⟨"PathTree$PathText", "lastNameCanBe", "()Z"⟩, 2) := ⟨⟨by decide +kernel, by decide +kernel⟩, List.mem_of_getElem? (i := 19) (by decide +kernel), List.mem_of_getElem? (i := 170) (by decide +kernel), List.mem_of_getElem? (i := 171) (by decide +kernel)⟩
theorem lw_p13 : lw_okq (⟨"PathTree$PathText", "lastSlash", "()I"⟩, 2) := ⟨⟨by decide +kernel, by decide +kernel⟩, List.mem_of_getElem? (i := 19) (by decide +kernel), List.mem_of_getElem? (i := 174) (by decide +kernel), List.mem_of_getElem? (i := 175) (by decide +kernel)⟩
theorem lw_p14 : lw_okq (⟨"PathTree", "home", "()LPathTree$Directory;"⟩, 7) := ⟨⟨by decide +kernel, by decide +kernel⟩, List.mem_of_getElem? (i := 11) (by decide +kernel), List.mem_of_getElem? (i := 181) (by decide +kernel), List.mem_of_getElem? (i := 182) (by decide +kernel)⟩
theorem lw_p15 : lw_okq (⟨"PathTree$PathText", "lastName", "()[C"⟩, 2) := ⟨⟨by decide +kernel, by decide +kernel⟩, List.mem_of_getElem? (i := 19) (by decide +kernel), List.mem_of_getElem? (i := 186) (by decide +kernel), List.mem_of_getElem? (i := 187) (by decide +kernel)⟩
def lw_privs_1 : List (MethodName × Nat) := [(⟨"PathTree$PathText", "takes", "(JI)Z"⟩, 2), (⟨"PathTree$PathText", "append", "(JI)V"⟩, 2), (⟨"PathTree", "target", "()LPathTree$Entry;"⟩, 7), (⟨"PathTree", "entryBefore", "(I)LPathTree$Entry;"⟩, 7), (⟨"PathTree$PathText", "isSlash", "(I)Z"⟩, 2), (⟨"PathTree$PathText", "is", "(CI)Z"⟩, 2), (⟨"PathTree", "step", "(LPathTree$Entry;II)LPathTree$Entry;"⟩, 7), (⟨"PathTree$PathText", "isDot", "(II)Z"⟩, 2), (⟨"PathTree$PathText", "isDotDot", "(II)Z"⟩, 2), (⟨"PathTree$Directory", "entryCalled", "([CII)LPathTree$Entry;"⟩, 5), (⟨"PathTree$PathText", "clear", "()V"⟩, 2), (⟨"PathTree", "homeOfNew", "()LPathTree$Directory;"⟩, 7), (⟨"PathTree$PathText", "lastNameCanBe", "()Z"⟩, 2), (⟨"PathTree$PathText", "lastSlash", "()I"⟩, 2), (⟨"PathTree", "home", "()LPathTree$Directory;"⟩, 7), (⟨"PathTree$PathText", "lastName", "()[C"⟩, 2)]
theorem lw_r1 : ∀ q ∈ lw_privs_1, lw_okq q := List.forall_mem_cons.mpr ⟨lw_p0, List.forall_mem_cons.mpr ⟨lw_p1, List.forall_mem_cons.mpr ⟨lw_p2, List.forall_mem_cons.mpr ⟨lw_p3, List.forall_mem_cons.mpr ⟨lw_p4, List.forall_mem_cons.mpr ⟨lw_p5, List.forall_mem_cons.mpr ⟨lw_p6, List.forall_mem_cons.mpr ⟨lw_p7, List.forall_mem_cons.mpr ⟨lw_p8, List.forall_mem_cons.mpr ⟨lw_p9, List.forall_mem_cons.mpr ⟨lw_p10, List.forall_mem_cons.mpr ⟨lw_p11, List.forall_mem_cons.mpr ⟨lw_p12, List.forall_mem_cons.mpr ⟨lw_p13, List.forall_mem_cons.mpr ⟨lw_p14, List.forall_mem_cons.mpr ⟨lw_p15, fun _ h => absurd h List.not_mem_nil⟩⟩⟩⟩⟩⟩⟩⟩⟩⟩⟩⟩⟩⟩⟩⟩
theorem lw_p16 : lw_okq (⟨"PathTree$Directory", "admit", "(LPathTree$Entry;)V"⟩, 5) := ⟨⟨by decide +kernel, by decide +kernel⟩, List.mem_of_getElem? (i := 35) (by decide +kernel), List.mem_of_getElem? (i := 212) (by decide +kernel), List.mem_of_getElem? (i := 213) (by decide +kernel)⟩
theorem lw_p17 : lw_okq (⟨"PathTree$Directory", "link", "(LPathTree$Entry;LPathTree$Entry;)V"⟩, 5) := ⟨⟨by decide +kernel, by decide +kernel⟩, List.mem_of_getElem? (i := 35) (by decide +kernel), List.mem_of_getElem? (i := 216) (by decide +kernel), List.mem_of_getElem? (i := 217) (by decide +kernel)⟩
theorem lw_p18 : lw_okq (⟨"PathTree", "newFile", "(LPathTree$Directory;)LPathTree$FileEntry;"⟩, 7) := ⟨⟨by decide +kernel, by decide +kernel⟩, List.mem_of_getElem? (i := 11) (by decide +kernel), List.mem_of_getElem? (i := 229) (by decide +kernel), List.mem_of_getElem? (i := 230) (by decide +kernel)⟩
theorem lw_p19 : lw_okq (⟨"PathTree", "dropBytes", "(LPathTree$FileEntry;)V"⟩, 7) := ⟨⟨by decide +kernel, by decide +kernel⟩, List.mem_of_getElem? (i := 11) (by decide +kernel), List.mem_of_getElem? (i := 254) (by decide +kernel), List.mem_of_getElem? (i := 255) (by decide +kernel)⟩
theorem lw_p20 : lw_okq (⟨"PathTree$FileEntry", "room", "()I"⟩, 5) := ⟨⟨by decide +kernel, by decide +kernel⟩, List.mem_of_getElem? (i := 232) (by decide +kernel), List.mem_of_getElem? (i := 262) (by decide +kernel), List.mem_of_getElem? (i := 263) (by decide +kernel)⟩
theorem lw_p21 : lw_okq (⟨"PathTree$FileEntry", "append", "(I)V"⟩, 5) := ⟨⟨by decide +kernel, by decide +kernel⟩, List.mem_of_getElem? (i := 232) (by decide +kernel), List.mem_of_getElem? (i := 269) (by decide +kernel), List.mem_of_getElem? (i := 270) (by decide +kernel)⟩
theorem lw_p22 : lw_okq (⟨"PathTree$FileEntry", "at", "(I)I"⟩, 5) := ⟨⟨by decide +kernel, by decide +kernel⟩, List.mem_of_getElem? (i := 232) (by decide +kernel), List.mem_of_getElem? (i := 285) (by decide +kernel), List.mem_of_getElem? (i := 286) (by decide +kernel)⟩
theorem lw_p23 : lw_okq (⟨"PathTree", "discard", "(LPathTree$FileEntry;)V"⟩, 7) := ⟨⟨by decide +kernel, by decide +kernel⟩, List.mem_of_getElem? (i := 11) (by decide +kernel), List.mem_of_getElem? (i := 293) (by decide +kernel), List.mem_of_getElem? (i := 294) (by decide +kernel)⟩
theorem lw_p24 : lw_okq (⟨"PathTree$Directory", "release", "(LPathTree$Entry;)V"⟩, 5) := ⟨⟨by decide +kernel, by decide +kernel⟩, List.mem_of_getElem? (i := 35) (by decide +kernel), List.mem_of_getElem? (i := 300) (by decide +kernel), List.mem_of_getElem? (i := 301) (by decide +kernel)⟩
theorem lw_p25 : lw_okq (⟨"PathTree", "moveToPath", "(LPathTree$FileEntry;)Z"⟩, 7) := ⟨⟨by decide +kernel, by decide +kernel⟩, List.mem_of_getElem? (i := 11) (by decide +kernel), List.mem_of_getElem? (i := 308) (by decide +kernel), List.mem_of_getElem? (i := 309) (by decide +kernel)⟩
theorem lw_p26 : lw_okq (⟨"PathTree", "moveInto", "(LPathTree$Directory;[CLPathTree$FileEntry;)Z"⟩, 7) := ⟨⟨by decide +kernel, by decide +kernel⟩, List.mem_of_getElem? (i := 11) (by decide +kernel), List.mem_of_getElem? (i := 312) (by decide +kernel), List.mem_of_getElem? (i := 313) (by decide +kernel)⟩
theorem lw_p27 : lw_okq (⟨"PathTree$Directory", "entryAt", "(I)LPathTree$Entry;"⟩, 5) := ⟨⟨by decide +kernel, by decide +kernel⟩, List.mem_of_getElem? (i := 35) (by decide +kernel), List.mem_of_getElem? (i := 320) (by decide +kernel), List.mem_of_getElem? (i := 321) (by decide +kernel)⟩
theorem lw_p28 : lw_okq (⟨"PathTree$Directory", "depth", "()I"⟩, 5) := ⟨⟨by decide +kernel, by decide +kernel⟩, List.mem_of_getElem? (i := 35) (by decide +kernel), List.mem_of_getElem? (i := 328) (by decide +kernel), List.mem_of_getElem? (i := 329) (by decide +kernel)⟩
theorem lw_p29 : lw_okq (⟨"PathTreeModel", "lead", "(I)I"⟩, 14) := ⟨⟨by decide +kernel, by decide +kernel⟩, List.mem_of_getElem? (i := 332) (by decide +kernel), List.mem_of_getElem? (i := 392) (by decide +kernel), List.mem_of_getElem? (i := 393) (by decide +kernel)⟩
theorem lw_p30 : lw_okq (⟨"PathTreeModel", "along", "(III)I"⟩, 14) := ⟨⟨by decide +kernel, by decide +kernel⟩, List.mem_of_getElem? (i := 332) (by decide +kernel), List.mem_of_getElem? (i := 396) (by decide +kernel), List.mem_of_getElem? (i := 397) (by decide +kernel)⟩
theorem lw_p31 : lw_okq (⟨"PathTreeModel", "isDots", "(III)Z"⟩, 14) := ⟨⟨by decide +kernel, by decide +kernel⟩, List.mem_of_getElem? (i := 332) (by decide +kernel), List.mem_of_getElem? (i := 400) (by decide +kernel), List.mem_of_getElem? (i := 401) (by decide +kernel)⟩
def lw_privs_2 : List (MethodName × Nat) := [(⟨"PathTree$Directory", "admit", "(LPathTree$Entry;)V"⟩, 5), (⟨"PathTree$Directory", "link", "(LPathTree$Entry;LPathTree$Entry;)V"⟩, 5), (⟨"PathTree", "newFile", "(LPathTree$Directory;)LPathTree$FileEntry;"⟩, 7), (⟨"PathTree", "dropBytes", "(LPathTree$FileEntry;)V"⟩, 7), (⟨"PathTree$FileEntry", "room", "()I"⟩, 5), (⟨"PathTree$FileEntry", "append", "(I)V"⟩, 5), (⟨"PathTree$FileEntry", "at", "(I)I"⟩, 5), (⟨"PathTree", "discard", "(LPathTree$FileEntry;)V"⟩, 7), (⟨"PathTree$Directory", "release", "(LPathTree$Entry;)V"⟩, 5), (⟨"PathTree", "moveToPath", "(LPathTree$FileEntry;)Z"⟩, 7), (⟨"PathTree", "moveInto", "(LPathTree$Directory;[CLPathTree$FileEntry;)Z"⟩, 7), (⟨"PathTree$Directory", "entryAt", "(I)LPathTree$Entry;"⟩, 5), (⟨"PathTree$Directory", "depth", "()I"⟩, 5), (⟨"PathTreeModel", "lead", "(I)I"⟩, 14), (⟨"PathTreeModel", "along", "(III)I"⟩, 14), (⟨"PathTreeModel", "isDots", "(III)Z"⟩, 14)]
theorem lw_r2 : ∀ q ∈ lw_privs_2, lw_okq q := List.forall_mem_cons.mpr ⟨lw_p16, List.forall_mem_cons.mpr ⟨lw_p17, List.forall_mem_cons.mpr ⟨lw_p18, List.forall_mem_cons.mpr ⟨lw_p19, List.forall_mem_cons.mpr ⟨lw_p20, List.forall_mem_cons.mpr ⟨lw_p21, List.forall_mem_cons.mpr ⟨lw_p22, List.forall_mem_cons.mpr ⟨lw_p23, List.forall_mem_cons.mpr ⟨lw_p24, List.forall_mem_cons.mpr ⟨lw_p25, List.forall_mem_cons.mpr ⟨lw_p26, List.forall_mem_cons.mpr ⟨lw_p27, List.forall_mem_cons.mpr ⟨lw_p28, List.forall_mem_cons.mpr ⟨lw_p29, List.forall_mem_cons.mpr ⟨lw_p30, List.forall_mem_cons.mpr ⟨lw_p31, fun _ h => absurd h List.not_mem_nil⟩⟩⟩⟩⟩⟩⟩⟩⟩⟩⟩⟩⟩⟩⟩⟩
theorem lw_p32 : lw_okq (⟨"PathTreeModel", "entry", "(III)I"⟩, 14) := ⟨⟨by decide +kernel, by decide +kernel⟩, List.mem_of_getElem? (i := 332) (by decide +kernel), List.mem_of_getElem? (i := 404) (by decide +kernel), List.mem_of_getElem? (i := 405) (by decide +kernel)⟩
theorem lw_p33 : lw_okq (⟨"PathTreeModel", "made", "(I)I"⟩, 14) := ⟨⟨by decide +kernel, by decide +kernel⟩, List.mem_of_getElem? (i := 332) (by decide +kernel), List.mem_of_getElem? (i := 412) (by decide +kernel), List.mem_of_getElem? (i := 413) (by decide +kernel)⟩
theorem lw_p34 : lw_okq (⟨"PathTreeModel", "home", "()I"⟩, 14) := ⟨⟨by decide +kernel, by decide +kernel⟩, List.mem_of_getElem? (i := 332) (by decide +kernel), List.mem_of_getElem? (i := 416) (by decide +kernel), List.mem_of_getElem? (i := 417) (by decide +kernel)⟩
theorem lw_p35 : lw_okq (⟨"PathTreeModel", "last", "()I"⟩, 14) := ⟨⟨by decide +kernel, by decide +kernel⟩, List.mem_of_getElem? (i := 332) (by decide +kernel), List.mem_of_getElem? (i := 420) (by decide +kernel), List.mem_of_getElem? (i := 421) (by decide +kernel)⟩
theorem lw_p36 : lw_okq (⟨"PathTreeModel", "isName", "()Z"⟩, 14) := ⟨⟨by decide +kernel, by decide +kernel⟩, List.mem_of_getElem? (i := 332) (by decide +kernel), List.mem_of_getElem? (i := 424) (by decide +kernel), List.mem_of_getElem? (i := 425) (by decide +kernel)⟩
theorem lw_p37 : lw_okq (⟨"PathTreeModel", "put", "(II)V"⟩, 14) := ⟨⟨by decide +kernel, by decide +kernel⟩, List.mem_of_getElem? (i := 332) (by decide +kernel), List.mem_of_getElem? (i := 428) (by decide +kernel), List.mem_of_getElem? (i := 429) (by decide +kernel)⟩
theorem lw_p38 : lw_okq (⟨"PathTreeModel", "lose", "(I)I"⟩, 14) := ⟨⟨by decide +kernel, by decide +kernel⟩, List.mem_of_getElem? (i := 332) (by decide +kernel), List.mem_of_getElem? (i := 444) (by decide +kernel), List.mem_of_getElem? (i := 445) (by decide +kernel)⟩
theorem lw_p39 : lw_okq (⟨"PathTreeModel", "removeFile", "(I)V"⟩, 14) := ⟨⟨by decide +kernel, by decide +kernel⟩, List.mem_of_getElem? (i := 332) (by decide +kernel), List.mem_of_getElem? (i := 460) (by decide +kernel), List.mem_of_getElem? (i := 461) (by decide +kernel)⟩
theorem lw_p40 : lw_okq (⟨"PathTreeModel", "moved", "()Z"⟩, 14) := ⟨⟨by decide +kernel, by decide +kernel⟩, List.mem_of_getElem? (i := 332) (by decide +kernel), List.mem_of_getElem? (i := 468) (by decide +kernel), List.mem_of_getElem? (i := 469) (by decide +kernel)⟩
theorem lw_p41 : lw_okq (⟨"PathTreeModel", "namesake", "(II)I"⟩, 14) := ⟨⟨by decide +kernel, by decide +kernel⟩, List.mem_of_getElem? (i := 332) (by decide +kernel), List.mem_of_getElem? (i := 472) (by decide +kernel), List.mem_of_getElem? (i := 473) (by decide +kernel)⟩
theorem lw_p42 : lw_okq (⟨"PathTreeModel", "inOrder", "(I)I"⟩, 14) := ⟨⟨by decide +kernel, by decide +kernel⟩, List.mem_of_getElem? (i := 332) (by decide +kernel), List.mem_of_getElem? (i := 480) (by decide +kernel), List.mem_of_getElem? (i := 481) (by decide +kernel)⟩
theorem lw_p43 : lw_okq (⟨"PathTreeModel", "isBefore", "(II)Z"⟩, 14) := ⟨⟨by decide +kernel, by decide +kernel⟩, List.mem_of_getElem? (i := 332) (by decide +kernel), List.mem_of_getElem? (i := 484) (by decide +kernel), List.mem_of_getElem? (i := 485) (by decide +kernel)⟩
theorem lw_p44 : lw_okq (⟨"PathTreeModel", "many", "(I)I"⟩, 14) := ⟨⟨by decide +kernel, by decide +kernel⟩, List.mem_of_getElem? (i := 332) (by decide +kernel), List.mem_of_getElem? (i := 492) (by decide +kernel), List.mem_of_getElem? (i := 493) (by decide +kernel)⟩
theorem lw_p45 : lw_okq (⟨"PathTreeModel", "atHand", "()I"⟩, 14) := ⟨⟨by decide +kernel, by decide +kernel⟩, List.mem_of_getElem? (i := 332) (by decide +kernel), List.mem_of_getElem? (i := 496) (by decide +kernel), List.mem_of_getElem? (i := 497) (by decide +kernel)⟩
theorem lw_p46 : lw_okq (⟨"PathTreeModel", "above", "()I"⟩, 14) := ⟨⟨by decide +kernel, by decide +kernel⟩, List.mem_of_getElem? (i := 332) (by decide +kernel), List.mem_of_getElem? (i := 500) (by decide +kernel), List.mem_of_getElem? (i := 501) (by decide +kernel)⟩
def lw_privs_3 : List (MethodName × Nat) := [(⟨"PathTreeModel", "entry", "(III)I"⟩, 14), (⟨"PathTreeModel", "made", "(I)I"⟩, 14), (⟨"PathTreeModel", "home", "()I"⟩, 14), (⟨"PathTreeModel", "last", "()I"⟩, 14), (⟨"PathTreeModel", "isName", "()Z"⟩, 14), (⟨"PathTreeModel", "put", "(II)V"⟩, 14), (⟨"PathTreeModel", "lose", "(I)I"⟩, 14), (⟨"PathTreeModel", "removeFile", "(I)V"⟩, 14), (⟨"PathTreeModel", "moved", "()Z"⟩, 14), (⟨"PathTreeModel", "namesake", "(II)I"⟩, 14), (⟨"PathTreeModel", "inOrder", "(I)I"⟩, 14), (⟨"PathTreeModel", "isBefore", "(II)Z"⟩, 14), (⟨"PathTreeModel", "many", "(I)I"⟩, 14), (⟨"PathTreeModel", "atHand", "()I"⟩, 14), (⟨"PathTreeModel", "above", "()I"⟩, 14)]
theorem lw_r3 : ∀ q ∈ lw_privs_3, lw_okq q := List.forall_mem_cons.mpr ⟨lw_p32, List.forall_mem_cons.mpr ⟨lw_p33, List.forall_mem_cons.mpr ⟨lw_p34, List.forall_mem_cons.mpr ⟨lw_p35, List.forall_mem_cons.mpr ⟨lw_p36, List.forall_mem_cons.mpr ⟨lw_p37, List.forall_mem_cons.mpr ⟨lw_p38, List.forall_mem_cons.mpr ⟨lw_p39, List.forall_mem_cons.mpr ⟨lw_p40, List.forall_mem_cons.mpr ⟨lw_p41, List.forall_mem_cons.mpr ⟨lw_p42, List.forall_mem_cons.mpr ⟨lw_p43, List.forall_mem_cons.mpr ⟨lw_p44, List.forall_mem_cons.mpr ⟨lw_p45, List.forall_mem_cons.mpr ⟨lw_p46, fun _ h => absurd h List.not_mem_nil⟩⟩⟩⟩⟩⟩⟩⟩⟩⟩⟩⟩⟩⟩⟩
def lw_privs : List (MethodName × Nat) := lw_privs_1 ++ (lw_privs_2 ++ (lw_privs_3))
def lw_tbl : List Cond := k2_sels lw_privs ++ tables_1
theorem lw_privs_ok : ∀ q ∈ lw_privs, lw_okq q := by
  show ∀ q ∈ lw_privs_1 ++ (lw_privs_2 ++ (lw_privs_3)), lw_okq q
  exact List.forall_mem_append.mpr ⟨lw_r1, List.forall_mem_append.mpr ⟨lw_r2, lw_r3⟩⟩
end
section
/-! names, tables and facts, written by gen_names.py -/
def R_law0 : String := "PathTreeLaw"
abbrev tb : List Cond := lw_tbl.filter goodWord
theorem t_in (n : Nat) {w : Cond} (h : lw_tbl[n]? = some w) (g : goodWord w = true) : w ∈ tb := List.mem_filter.mpr ⟨List.mem_of_getElem? h, g⟩
def xF_P : u_T := fun k => match k with
  | 0 => ("PathTree", "text", "LPathTree$PathText;", true)
  | 1 => ("PathTree", "root", "LPathTree$Directory;", true)
  | 2 => ("PathTree", "atHand", "LPathTree$Directory;", false)
  | 3 => ("PathTree", "opened", "LPathTree$FileEntry;", false)
  | 4 => ("PathTree", "files", "I", false)
  | 5 => ("PathTree", "directories", "I", false)
  | _ => ("PathTree", "bytesOfAll", "I", false)
def xT_P : Nat → FieldType := fun k => match k with
  | 0 => .object "PathTree$PathText"
  | 1 => .object "PathTree$Directory"
  | 2 => .object "PathTree$Directory"
  | 3 => .object "PathTree$FileEntry"
  | 4 => .int
  | 5 => .int
  | _ => .int
def xZ_P : Nat → Value := fun k => match k with
  | 0 => .null
  | 1 => .null
  | 2 => .null
  | 3 => .null
  | 4 => .int 0
  | 5 => .int 0
  | _ => .int 0
def xF_T : u_T := fun k => match k with
  | 0 => ("PathTree$PathText", "characters", "[C", true)
  | _ => ("PathTree$PathText", "length", "I", false)
def xT_T : Nat → FieldType := fun k => match k with
  | 0 => .array .char
  | _ => .int
def xZ_T : Nat → Value := fun k => match k with
  | 0 => .null
  | _ => .int 0
def xF_D : u_T := fun k => match k with
  | 0 => ("PathTree$Entry", "name", "[C", false)
  | 1 => ("PathTree$Entry", "home", "LPathTree$Directory;", false)
  | 2 => ("PathTree$Entry", "next", "LPathTree$Entry;", false)
  | 3 => ("PathTree$Directory", "first", "LPathTree$Entry;", false)
  | _ => ("PathTree$Directory", "size", "I", false)
def xT_D : Nat → FieldType := fun k => match k with
  | 0 => .array .char
  | 1 => .object "PathTree$Directory"
  | 2 => .object "PathTree$Entry"
  | 3 => .object "PathTree$Entry"
  | _ => .int
def xZ_D : Nat → Value := fun k => match k with
  | 0 => .null
  | 1 => .null
  | 2 => .null
  | 3 => .null
  | _ => .int 0
def xF_F : u_T := fun k => match k with
  | 0 => ("PathTree$Entry", "name", "[C", false)
  | 1 => ("PathTree$Entry", "home", "LPathTree$Directory;", false)
  | 2 => ("PathTree$Entry", "next", "LPathTree$Entry;", false)
  | 3 => ("PathTree$FileEntry", "bytes", "[B", false)
  | _ => ("PathTree$FileEntry", "length", "I", false)
def xT_F : Nat → FieldType := fun k => match k with
  | 0 => .array .char
  | 1 => .object "PathTree$Directory"
  | 2 => .object "PathTree$Entry"
  | 3 => .array .byte
  | _ => .int
def xZ_F : Nat → Value := fun k => match k with
  | 0 => .null
  | 1 => .null
  | 2 => .null
  | 3 => .null
  | _ => .int 0
def xF_R : u_T := fun k => match k with
  | 0 => ("PathTreeModel", "path", "[I", true)
  | 1 => ("PathTreeModel", "length", "I", false)
  | 2 => ("PathTreeModel", "kind", "[I", true)
  | 3 => ("PathTreeModel", "in", "[I", true)
  | 4 => ("PathTreeModel", "size", "[I", true)
  | 5 => ("PathTreeModel", "nameSize", "[I", true)
  | 6 => ("PathTreeModel", "names", "[I", true)
  | 7 => ("PathTreeModel", "entries", "I", false)
  | 8 => ("PathTreeModel", "hand", "I", false)
  | 9 => ("PathTreeModel", "open", "I", false)
  | 10 => ("PathTreeModel", "gone", "Z", false)
  | 11 => ("PathTreeModel", "bytes", "I", false)
  | 12 => ("PathTreeModel", "what", "[B", true)
  | _ => ("PathTreeModel", "whose", "[S", true)
def xT_R : Nat → FieldType := fun k => match k with
  | 0 => .array .int
  | 1 => .int
  | 2 => .array .int
  | 3 => .array .int
  | 4 => .array .int
  | 5 => .array .int
  | 6 => .array .int
  | 7 => .int
  | 8 => .int
  | 9 => .int
  | 10 => .boolean
  | 11 => .int
  | 12 => .array .byte
  | _ => .array .short
def xZ_R : Nat → Value := fun k => match k with
  | 0 => .null
  | 1 => .int 0
  | 2 => .null
  | 3 => .null
  | 4 => .null
  | 5 => .null
  | 6 => .null
  | 7 => .int 0
  | 8 => .int 0
  | 9 => .int 0
  | 10 => .int 0
  | 11 => .int 0
  | 12 => .null
  | _ => .null
abbrev vwCl : List vw_C := [("PathTree", xF_P, 7), ("PathTree$PathText", xF_T, 2), ("PathTree$Directory", xF_D, 5), ("PathTree$FileEntry", xF_F, 5), ("PathTreeModel", xF_R, 14)]
def k_ty (k : Nat) : Option FieldType := if k = 101 then some .char else if k = 102 then some .byte else if k = 103 then some .short else if k = 104 then some .int else none
theorem k_dis (k : Nat) (q : vw_C) (h : vwCl[k]? = some q) : k_ty k = none := by
  have hk : k < 5 := (List.getElem?_eq_some_iff.mp h).1
  unfold k_ty
  rw [if_neg (by omega), if_neg (by omega), if_neg (by omega), if_neg (by omega)]
abbrev n_F : List (String × Nat × String × String × String × String) := [("PathTree", 156, "PathTree$PathText", "characters", "[C", "PathTree"), ("PathTree", 54, "PathTree$PathText", "length", "I", "PathTree"), ("PathTree", 129, "PathTree$Directory", "size", "I", "PathTree"), ("PathTree", 82, "PathTree$FileEntry", "length", "I", "PathTree")]
abbrev n_M : List (String × Nat × MethodName × String) := [("PathTree", 9, ⟨"PathTree$PathText", "<init>", "()V"⟩, "PathTree"), ("PathTree", 18, ⟨"PathTree$Directory", "<init>", "([C)V"⟩, "PathTree"), ("PathTree", 46, ⟨"PathTree$PathText", "takes", "(JI)Z"⟩, "PathTree"), ("PathTree$PathText", 17, ⟨"PathTree", "byteOf", "(JI)I"⟩, "PathTree"), ("PathTree", 50, ⟨"PathTree$PathText", "append", "(JI)V"⟩, "PathTree"), ("PathTree", 138, ⟨"PathTree$PathText", "isSlash", "(I)Z"⟩, "PathTree"), ("PathTree", 148, ⟨"PathTree$PathText", "isDot", "(II)Z"⟩, "PathTree"), ("PathTree", 152, ⟨"PathTree$PathText", "isDotDot", "(II)Z"⟩, "PathTree"), ("PathTree", 159, ⟨"PathTree$Directory", "entryCalled", "([CII)LPathTree$Entry;"⟩, "PathTree"), ("PathTree", 61, ⟨"PathTree$PathText", "clear", "()V"⟩, "PathTree"), ("PathTree", 163, ⟨"PathTree$PathText", "lastNameCanBe", "()Z"⟩, "PathTree"), ("PathTree", 141, ⟨"PathTree$PathText", "lastSlash", "()I"⟩, "PathTree"), ("PathTree", 68, ⟨"PathTree$PathText", "lastName", "()[C"⟩, "PathTree"), ("PathTree", 72, ⟨"PathTree$Directory", "admit", "(LPathTree$Entry;)V"⟩, "PathTree"), ("PathTree", 169, ⟨"PathTree$FileEntry", "<init>", "([C)V"⟩, "PathTree"), ("PathTree", 90, ⟨"PathTree$FileEntry", "room", "()I"⟩, "PathTree"), ("PathTree", 105, ⟨"PathTree$FileEntry", "append", "(I)V"⟩, "PathTree"), ("PathTree", 108, ⟨"PathTree$FileEntry", "at", "(I)I"⟩, "PathTree"), ("PathTree", 174, ⟨"PathTree$Directory", "release", "(LPathTree$Entry;)V"⟩, "PathTree"), ("PathTree", 119, ⟨"PathTree$Directory", "entryAt", "(I)LPathTree$Entry;"⟩, "PathTree"), ("PathTree", 132, ⟨"PathTree$Directory", "depth", "()I"⟩, "PathTree")]
abbrev n_C : List (String × String) := [("PathTree$Directory", "PathTree$Directory"), ("PathTree$FileEntry", "PathTree$FileEntry")]
abbrev n_N : List (String × String) := [("PathTree", "PathTree$Directory"), ("PathTree$PathText", "PathTree$Directory"), ("PathTreeModel", "PathTree$Directory"), ("PathTree$FileEntry", "PathTree$Directory"), ("PathTree", "PathTree$FileEntry"), ("PathTree$PathText", "PathTree$FileEntry"), ("PathTree$Directory", "PathTree$FileEntry"), ("PathTreeModel", "PathTree$FileEntry")]
/-- a method: name, code, locals, answer, frames, words -/
abbrev MM : Type := MethodName × ByteArray × Nat × Option FieldType × Nat × Nat
abbrev m_Y (i : MM) : MethodName := i.1
abbrev m_C (i : MM) : ByteArray := i.2.1
abbrev m_L (i : MM) : Nat := i.2.2.1
abbrev m_R (i : MM) : Option FieldType := i.2.2.2.1
abbrev m_D (i : MM) : Nat := i.2.2.2.2.1
abbrev m_W (i : MM) : Nat := i.2.2.2.2.2
def mL_law : MM := (⟨"PathTreeLaw", "law", "([I)Z"⟩, code, 4, ret, 7, 177)
def mP_init : MM := (⟨"PathTree", "<init>", "()V"⟩, prog_1_method_1_code, 1, (Option.none : Option FieldType), 3, 87)
def mT_init : MM := (⟨"PathTree$PathText", "<init>", "()V"⟩, prog_5_method_1_code, 1, (Option.none : Option FieldType), 1, 45)
def mD_init : MM := (⟨"PathTree$Directory", "<init>", "([C)V"⟩, prog_2_method_1_code, 2, (Option.none : Option FieldType), 2, 66)
def mE_init : MM := (⟨"PathTree$Entry", "<init>", "([C)V"⟩, prog_3_method_1_code, 2, (Option.none : Option FieldType), 1, 45)
def mP_path : MM := (⟨"PathTree", "path", "(JI)I"⟩, prog_1_method_2_code, 4, (Option.some FieldType.int), 2, 46)
def mP_isByteCount : MM := (⟨"PathTree", "isByteCount", "(I)Z"⟩, prog_1_method_14_code, 1, (Option.some FieldType.boolean), 0, 0)
def mT_takes : MM := (⟨"PathTree$PathText", "takes", "(JI)Z"⟩, prog_5_method_2_code, 5, (Option.some FieldType.boolean), 1, 22)
def mP_byteOf : MM := (⟨"PathTree", "byteOf", "(JI)I"⟩, prog_1_method_15_code, 3, (Option.some FieldType.int), 0, 0)
def mT_isPathCharacter : MM := (⟨"PathTree$PathText", "isPathCharacter", "(I)Z"⟩, prog_5_method_3_code, 1, (Option.some FieldType.boolean), 0, 0)
def mT_append : MM := (⟨"PathTree$PathText", "append", "(JI)V"⟩, prog_5_method_4_code, 5, (Option.none : Option FieldType), 1, 22)
def mP_find : MM := (⟨"PathTree", "find", "()I"⟩, prog_1_method_3_code, 2, (Option.some FieldType.int), 5, 118)
def mP_target : MM := (⟨"PathTree", "target", "()LPathTree$Entry;"⟩, prog_1_method_16_code, 2, (Option.some (FieldType.object "PathTree$Entry")), 4, 97)
def mP_entryBefore : MM := (⟨"PathTree", "entryBefore", "(I)LPathTree$Entry;"⟩, prog_1_method_18_code, 5, (Option.some (FieldType.object "PathTree$Entry")), 3, 73)
def mT_isSlash : MM := (⟨"PathTree$PathText", "isSlash", "(I)Z"⟩, prog_5_method_7_code, 2, (Option.some FieldType.boolean), 1, 22)
def mT_is : MM := (⟨"PathTree$PathText", "is", "(CI)Z"⟩, prog_5_method_6_code, 3, (Option.some FieldType.boolean), 0, 0)
def mP_step : MM := (⟨"PathTree", "step", "(LPathTree$Entry;II)LPathTree$Entry;"⟩, prog_1_method_19_code, 5, (Option.some (FieldType.object "PathTree$Entry")), 2, 49)
def mT_isDot : MM := (⟨"PathTree$PathText", "isDot", "(II)Z"⟩, prog_5_method_8_code, 3, (Option.some FieldType.boolean), 1, 22)
def mT_isDotDot : MM := (⟨"PathTree$PathText", "isDotDot", "(II)Z"⟩, prog_5_method_9_code, 3, (Option.some FieldType.boolean), 1, 22)
def mD_entryCalled : MM := (⟨"PathTree$Directory", "entryCalled", "([CII)LPathTree$Entry;"⟩, prog_2_method_2_code, 5, (Option.some (FieldType.object "PathTree$Entry")), 1, 25)
def mE_order : MM := (⟨"PathTree$Entry", "order", "([CII)I"⟩, prog_3_method_2_code, 6, (Option.some FieldType.int), 0, 0)
def mT_clear : MM := (⟨"PathTree$PathText", "clear", "()V"⟩, prog_5_method_5_code, 1, (Option.none : Option FieldType), 0, 0)
def mP_make : MM := (⟨"PathTree", "make", "()Z"⟩, prog_1_method_4_code, 2, (Option.some FieldType.boolean), 6, 141)
def mP_homeOfNew : MM := (⟨"PathTree", "homeOfNew", "()LPathTree$Directory;"⟩, prog_1_method_20_code, 2, (Option.some (FieldType.object "PathTree$Directory")), 5, 120)
def mT_lastNameCanBe : MM := (⟨"PathTree$PathText", "lastNameCanBe", "()Z"⟩, prog_5_method_11_code, 3, (Option.some FieldType.boolean), 3, 64)
def mT_lastSlash : MM := (⟨"PathTree$PathText", "lastSlash", "()I"⟩, prog_5_method_10_code, 2, (Option.some FieldType.int), 2, 43)
def mP_home : MM := (⟨"PathTree", "home", "()LPathTree$Directory;"⟩, prog_1_method_17_code, 4, (Option.some (FieldType.object "PathTree$Directory")), 4, 97)
def mT_lastName : MM := (⟨"PathTree$PathText", "lastName", "()[C"⟩, prog_5_method_12_code, 1, (Option.some (FieldType.array FieldType.char)), 4, 112)
def mJ_copyOfRange : MM := (⟨"java/util/Arrays", "copyOfRange", "([CII)[C"⟩, prog_11_method_140_code, 3, (Option.some (FieldType.array FieldType.char)), 3, 90)
def mJ_copyOfRangeChar : MM := (⟨"java/util/Arrays", "copyOfRangeChar", "([CII)[C"⟩, prog_11_method_141_code, 5, (Option.some (FieldType.array FieldType.char)), 2, 66)
def mJ_checkLength : MM := (⟨"java/util/Arrays", "checkLength", "(II)V"⟩, prog_11_method_131_code, 2, (Option.none : Option FieldType), 1, 45)
def mD_admit : MM := (⟨"PathTree$Directory", "admit", "(LPathTree$Entry;)V"⟩, prog_2_method_5_code, 4, (Option.none : Option FieldType), 1, 25)
def mD_link : MM := (⟨"PathTree$Directory", "link", "(LPathTree$Entry;LPathTree$Entry;)V"⟩, prog_2_method_7_code, 3, (Option.none : Option FieldType), 0, 0)
def mP_go : MM := (⟨"PathTree", "go", "()Z"⟩, prog_1_method_5_code, 3, (Option.some FieldType.boolean), 5, 118)
def mP_open : MM := (⟨"PathTree", "open", "()Z"⟩, prog_1_method_6_code, 4, (Option.some FieldType.boolean), 6, 154)
def mP_newFile : MM := (⟨"PathTree", "newFile", "(LPathTree$Directory;)LPathTree$FileEntry;"⟩, prog_1_method_21_code, 3, (Option.some (FieldType.object "PathTree$FileEntry")), 5, 132)
def mF_init : MM := (⟨"PathTree$FileEntry", "<init>", "([C)V"⟩, prog_4_method_1_code, 2, (Option.none : Option FieldType), 2, 66)
def mP_empty : MM := (⟨"PathTree", "empty", "()I"⟩, prog_1_method_7_code, 2, (Option.some FieldType.int), 1, 21)
def mP_dropBytes : MM := (⟨"PathTree", "dropBytes", "(LPathTree$FileEntry;)V"⟩, prog_1_method_22_code, 2, (Option.none : Option FieldType), 0, 0)
def mP_write : MM := (⟨"PathTree", "write", "(JI)I"⟩, prog_1_method_8_code, 6, (Option.some FieldType.int), 3, 88)
def mF_room : MM := (⟨"PathTree$FileEntry", "room", "()I"⟩, prog_4_method_2_code, 1, (Option.some FieldType.int), 0, 0)
def mF_append : MM := (⟨"PathTree$FileEntry", "append", "(I)V"⟩, prog_4_method_3_code, 2, (Option.none : Option FieldType), 2, 67)
def mJ_copyOf : MM := (⟨"java/util/Arrays", "copyOf", "([BI)[B"⟩, prog_11_method_121_code, 3, (Option.some (FieldType.array FieldType.byte)), 1, 45)
def mP_byteAt : MM := (⟨"PathTree", "byteAt", "(I)I"⟩, prog_1_method_9_code, 2, (Option.some FieldType.int), 1, 21)
def mF_at : MM := (⟨"PathTree$FileEntry", "at", "(I)I"⟩, prog_4_method_4_code, 2, (Option.some FieldType.int), 0, 0)
def mP_remove : MM := (⟨"PathTree", "remove", "()Z"⟩, prog_1_method_10_code, 3, (Option.some FieldType.boolean), 5, 118)
def mP_discard : MM := (⟨"PathTree", "discard", "(LPathTree$FileEntry;)V"⟩, prog_1_method_23_code, 2, (Option.none : Option FieldType), 3, 65)
def mP_detach : MM := (⟨"PathTree", "detach", "(LPathTree$Entry;)V"⟩, prog_1_method_24_code, 1, (Option.none : Option FieldType), 2, 45)
def mD_release : MM := (⟨"PathTree$Directory", "release", "(LPathTree$Entry;)V"⟩, prog_2_method_6_code, 4, (Option.none : Option FieldType), 1, 22)
def mP_move : MM := (⟨"PathTree", "move", "()Z"⟩, prog_1_method_11_code, 2, (Option.some FieldType.boolean), 6, 155)
def mP_moveToPath : MM := (⟨"PathTree", "moveToPath", "(LPathTree$FileEntry;)Z"⟩, prog_1_method_25_code, 4, (Option.some FieldType.boolean), 5, 132)
def mP_moveInto : MM := (⟨"PathTree", "moveInto", "(LPathTree$Directory;[CLPathTree$FileEntry;)Z"⟩, prog_1_method_26_code, 6, (Option.some FieldType.boolean), 4, 86)
def mP_name : MM := (⟨"PathTree", "name", "(II)I"⟩, prog_1_method_12_code, 4, (Option.some FieldType.int), 1, 23)
def mD_entryAt : MM := (⟨"PathTree$Directory", "entryAt", "(I)LPathTree$Entry;"⟩, prog_2_method_3_code, 4, (Option.some (FieldType.object "PathTree$Entry")), 0, 0)
def mP_count : MM := (⟨"PathTree", "count", "(I)I"⟩, prog_1_method_13_code, 2, (Option.some FieldType.int), 1, 22)
def mD_depth : MM := (⟨"PathTree$Directory", "depth", "()I"⟩, prog_2_method_4_code, 3, (Option.some FieldType.int), 0, 0)
def mR_init : MM := (⟨"PathTreeModel", "<init>", "()V"⟩, prog_7_method_1_code, 1, (Option.none : Option FieldType), 1, 45)
def mR_path : MM := (⟨"PathTreeModel", "path", "(JI)I"⟩, prog_7_method_3_code, 6, (Option.some FieldType.int), 0, 0)
def mR_find : MM := (⟨"PathTreeModel", "find", "()I"⟩, prog_7_method_13_code, 2, (Option.some FieldType.int), 3, 73)
def mR_lead : MM := (⟨"PathTreeModel", "lead", "(I)I"⟩, prog_7_method_7_code, 5, (Option.some FieldType.int), 2, 49)
def mR_along : MM := (⟨"PathTreeModel", "along", "(III)I"⟩, prog_7_method_6_code, 4, (Option.some FieldType.int), 1, 26)
def mR_isDots : MM := (⟨"PathTreeModel", "isDots", "(III)Z"⟩, prog_7_method_5_code, 6, (Option.some FieldType.boolean), 0, 0)
def mR_entry : MM := (⟨"PathTreeModel", "entry", "(III)I"⟩, prog_7_method_4_code, 7, (Option.some FieldType.int), 0, 0)
def mR_make : MM := (⟨"PathTreeModel", "make", "()Z"⟩, prog_7_method_14_code, 2, (Option.some FieldType.boolean), 5, 118)
def mR_made : MM := (⟨"PathTreeModel", "made", "(I)I"⟩, prog_7_method_11_code, 4, (Option.some FieldType.int), 4, 95)
def mR_home : MM := (⟨"PathTreeModel", "home", "()I"⟩, prog_7_method_9_code, 3, (Option.some FieldType.int), 3, 73)
def mR_last : MM := (⟨"PathTreeModel", "last", "()I"⟩, prog_7_method_8_code, 2, (Option.some FieldType.int), 0, 0)
def mR_isName : MM := (⟨"PathTreeModel", "isName", "()Z"⟩, prog_7_method_10_code, 2, (Option.some FieldType.boolean), 1, 25)
def mR_put : MM := (⟨"PathTreeModel", "put", "(II)V"⟩, prog_7_method_12_code, 4, (Option.none : Option FieldType), 1, 21)
def mR_go : MM := (⟨"PathTreeModel", "go", "()Z"⟩, prog_7_method_15_code, 2, (Option.some FieldType.boolean), 3, 73)
def mR_open : MM := (⟨"PathTreeModel", "open", "()Z"⟩, prog_7_method_16_code, 2, (Option.some FieldType.boolean), 5, 118)
def mR_empty : MM := (⟨"PathTreeModel", "empty", "()I"⟩, prog_7_method_18_code, 1, (Option.some FieldType.int), 1, 24)
def mR_lose : MM := (⟨"PathTreeModel", "lose", "(I)I"⟩, prog_7_method_17_code, 5, (Option.some FieldType.int), 0, 0)
def mR_write : MM := (⟨"PathTreeModel", "write", "(JI)I"⟩, prog_7_method_19_code, 5, (Option.some FieldType.int), 0, 0)
def mR_byteAt : MM := (⟨"PathTreeModel", "byteAt", "(I)I"⟩, prog_7_method_20_code, 4, (Option.some FieldType.int), 0, 0)
def mR_remove : MM := (⟨"PathTreeModel", "remove", "()Z"⟩, prog_7_method_22_code, 2, (Option.some FieldType.boolean), 3, 73)
def mR_removeFile : MM := (⟨"PathTreeModel", "removeFile", "(I)V"⟩, prog_7_method_21_code, 3, (Option.none : Option FieldType), 1, 24)
def mR_move : MM := (⟨"PathTreeModel", "move", "()Z"⟩, prog_7_method_25_code, 2, (Option.some FieldType.boolean), 5, 119)
def mR_moved : MM := (⟨"PathTreeModel", "moved", "()Z"⟩, prog_7_method_24_code, 5, (Option.some FieldType.boolean), 4, 95)
def mR_namesake : MM := (⟨"PathTreeModel", "namesake", "(II)I"⟩, prog_7_method_23_code, 6, (Option.some FieldType.int), 0, 0)
def mR_name : MM := (⟨"PathTreeModel", "name", "(II)I"⟩, prog_7_method_28_code, 4, (Option.some FieldType.int), 2, 48)
def mR_inOrder : MM := (⟨"PathTreeModel", "inOrder", "(I)I"⟩, prog_7_method_27_code, 5, (Option.some FieldType.int), 1, 24)
def mR_isBefore : MM := (⟨"PathTreeModel", "isBefore", "(II)Z"⟩, prog_7_method_26_code, 5, (Option.some FieldType.boolean), 0, 0)
def mR_count : MM := (⟨"PathTreeModel", "count", "(I)I"⟩, prog_7_method_32_code, 2, (Option.some FieldType.int), 1, 23)
def mR_many : MM := (⟨"PathTreeModel", "many", "(I)I"⟩, prog_7_method_29_code, 4, (Option.some FieldType.int), 0, 0)
def mR_atHand : MM := (⟨"PathTreeModel", "atHand", "()I"⟩, prog_7_method_30_code, 3, (Option.some FieldType.int), 0, 0)
def mR_above : MM := (⟨"PathTreeModel", "above", "()I"⟩, prog_7_method_31_code, 3, (Option.some FieldType.int), 0, 0)
end
section
/-! THE MACHINE IN SHORT: heaps as functions, and one judgement V over them. V G i pc lv st h c s Q: method i, at pc, with the locals lv, the operand stack st and the heap h, comes to a return of r with a heap h' with Q r h'; it makes at most c cells of s slots. -/
/-- a heap: of an address its kind and length; what it holds; the next free address -/
abbrev HH : Type := (Nat → Nat × Nat) × (Nat → Nat → Value) × Nat
def h_put (h : HH) (a k : Nat) (v : Value) : HH := (h.1, fun b j => if b = a ∧ j = k then v else h.2.1 b j, h.2.2)
def h_new (h : HH) (kd n : Nat) (f : Nat → Value) : HH := (fun b => if b = h.2.2 then (kd, n) else h.1 b, fun b j => if b = h.2.2 then f j else h.2.1 b j, h.2.2 + 1)
def h_cpy (h : HH) (a sp d dp n : Nat) : HH := (h.1, fun b j => if b = d ∧ dp ≤ j ∧ j < dp + n then h.2.1 a (sp + (j - dp)) else h.2.1 b j, h.2.2)
/-- what is fixed for a run of the law: launch; class ids, slots, array class ids; the heap at its start; the script -/
abbrev GG : Type := Launch × (Nat → ClassId) × (Nat → Nat → Nat) × (Nat → ClassId) × Heap × Nat × Nat × (Nat → Int32)
abbrev g_l (G : GG) : Launch := G.1
abbrev g_dC (G : GG) : Nat → ClassId := G.2.1
abbrev g_dI (G : GG) : Nat → Nat → Nat := G.2.2.1
abbrev g_dA (G : GG) : Nat → ClassId := G.2.2.2.1
abbrev g_H (G : GG) : Heap := G.2.2.2.2.1
abbrev g_b (G : GG) : Nat := G.2.2.2.2.2.1
abbrev g_L (G : GG) : Nat := G.2.2.2.2.2.2.1
abbrev g_xs (G : GG) : Nat → Int32 := G.2.2.2.2.2.2.2
/-- the first address of the run's own -/
abbrev g_0 (G : GG) : Nat := (g_H G).size
/-- a cell as the heap has it -/
def c_ok (G : GG) (h : HH) (H : Heap) (a : Nat) : Prop :=
  (∀ r : vw_C, vwCl[(h.1 a).1]? = some r → t_OB a (g_dC G (h.1 a).1) r.2.2 (g_dI G (h.1 a).1) H (h.2.1 a)) ∧
  ∀ ty : FieldType, k_ty (h.1 a).1 = some ty → H[a]? = some (arrV (g_dA G (h.1 a).1) (h.1 a).2 (h.2.1 a))
def Rep (G : GG) (h : HH) (H : Heap) : Prop := H.size = h.2.2 ∧ g_0 G ≤ h.2.2 ∧ (∀ q : Nat, q < g_0 G → H[q]? = (g_H G)[q]?) ∧ ∀ a : Nat, g_0 G ≤ a → a < h.2.2 → c_ok G h H a
/-- what the tables say at a method's start -/
def KK (G : GG) (U : State) : Prop :=
  (∀ (k : Nat) (q : vw_C), vwCl[k]? = some q → u_Kn U q.1 q.2.1 q.2.2 (g_dC G k) (g_dI G k)) ∧
  (∀ (k : Nat) (ty : FieldType), k_ty k = some ty → ArrOfT U (g_dA G k) ty ∧ U.vm.findClass ("[" ++ ty.toString) = some (g_dA G k)) ∧
  (∀ q ∈ n_F, va_Nw (.fieldLinkNest q.1 q.2.1 q.2.2.1 q.2.2.2.1 q.2.2.2.2.1 q.2.2.2.2.2) U) ∧
  (∀ q ∈ n_M, va_Nw (.methodLinkNest q.1 q.2.1 q.2.2.1 q.2.2.2) U) ∧
  (∀ q ∈ n_C, va_Nw (.castable q.1 q.2) U) ∧ (∀ q ∈ n_N, va_Nc q.1 q.2 U) ∧
  va_X (g_b G) (g_L G) (g_xs G) U (g_H G)
theorem KK.moved {G : GG} {s U : State} (hW : s.WarmedH U.vm) (h : KK G s) : KK G U := by
  obtain ⟨h1, h2, h3, h4, h5, h6, h7⟩ := h
  refine ⟨fun k q hq => u_Kn_moved hW.alike (h1 k q hq), fun k ty hk => ⟨arrOfT_moved hW.alike (h2 k ty hk).1, ?_⟩, fun q hq => va_Nw.warmF hW (h3 q hq), fun q hq => va_Nw.warmM hW (h4 q hq), fun q hq => va_Nw.warmC hW (h5 q hq), fun q hq => va_Nc.moved hW.alike (h6 q hq), va_X.moved hW.alike h7⟩
  rw [hW.alike.findClass]
  exact (h2 k ty hk).2
theorem KK.same {G : GG} {s U : State} (hv : s.vm = U.vm) (h : KK G s) : KK G U := by
  obtain ⟨h1, h2, h3, h4, h5, h6, h7⟩ := h
  have ha : s.vm.Alike U.vm := by rw [← hv]; exact Vm.Alike.refl _
  refine ⟨fun k q hq => u_Kn_moved ha (h1 k q hq), fun k ty hk => ⟨arrOfT_moved ha (h2 k ty hk).1, ?_⟩, fun q hq => va_Nw.same rfl hv (h3 q hq), fun q hq => va_Nw.same rfl hv (h4 q hq), fun q hq => va_Nw.same rfl hv (h5 q hq), fun q hq => va_Nc.moved ha (h6 q hq), va_X.moved ha h7⟩
  rw [← hv]
  exact (h2 k ty hk).2
/-- a walk's fixed things: program, env, room, start state, method, arguments, frames below, method, code, goal, the cells and slots at its end -/
abbrev VX : Type := Program × Env × Room × State × MethodId × Array Value × List Frame × Method × Code × (State → Prop) × Nat × Nat
abbrev XW (G : GG) (X : VX) (H : Heap) (locs : List Loc) (cells slots : Nat) (g : JFrame) : Prop :=
  W X.1 (g_l G) X.2.1 X.2.2.1 X.2.2.2.1 X.2.2.2.2.1 X.2.2.2.2.2.1 X.2.2.2.2.2.2.1 X.2.2.2.2.2.2.2.1 X.2.2.2.2.2.2.2.2.1 H locs cells slots X.2.2.2.2.2.2.2.2.2.1 g
abbrev x_ce (X : VX) : Nat := X.2.2.2.2.2.2.2.2.2.2.1
abbrev x_se (X : VX) : Nat := X.2.2.2.2.2.2.2.2.2.2.2
abbrev x_m (X : VX) : MethodId := X.2.2.2.2.1
/-- what a walk of method i stands on -/
def Cx (G : GG) (i : MM) (X : VX) : Prop :=
  X.1.tables.exec = Jvm.exec ∧ X.2.2.2.2.2.2.2.2.1.code = m_C i ∧ X.2.2.2.2.2.2.2.1.sig.returnType = m_R i ∧ X.2.2.2.2.2.2.2.1.locks = false ∧ X.2.2.2.2.2.2.2.2.1.maxLocals = m_L i ∧
  X.2.2.2.1.vm.findClass (m_Y i).cls = some (x_m X).cls ∧ (∀ w ∈ tb, w.before X.2.2.2.2.2.1 X.2.2.2.1 = true) ∧ KK G X.2.2.2.1 ∧ ((m_Y i).name = "<init>" → X.2.2.2.2.2.2.2.1.name = "<init>") ∧
  m_D i ≤ X.2.2.1.frames ∧ m_W i ≤ X.2.2.1.locals ∧ x_ce X ≤ X.2.2.1.cells ∧ x_se X ≤ X.2.2.1.slots
/-- a return of r at pc -/
def r_ok (i : MM) (pc : Nat) (r : Option Value) : Prop := match r with
  | none => decode (m_C i) pc = .ok (.return_, 1) ∧ m_R i = none
  | some (.int v) => decode (m_C i) pc = .ok (.ireturn, 1) ∧ ∃ ty, m_R i = some ty ∧ narrow ty (.int v) = .int v
  | some (.long _) => decode (m_C i) pc = .ok (.lreturn, 1) ∧ m_R i = some .long
  | some .null => decode (m_C i) pc = .ok (.areturn, 1) ∧ ∃ rt, m_R i = some rt ∧ ((∃ n, rt = .object n) ∨ ∃ t, rt = .array t)
  | some (.ref _) => decode (m_C i) pc = .ok (.areturn, 1) ∧ ∃ rt, m_R i = some rt ∧ ((∃ n, rt = .object n) ∨ ∃ t, rt = .array t)
  | _ => False
def Ends (G : GG) (i : MM) (X : VX) (Q : Option Value → HH → Prop) : Prop :=
  ∀ (pc : Nat) (ls : Array Slot) (H : Heap) (locs : List Loc) (r : Option Value) (h : HH), Q r h → Rep G h H → (∀ q ∈ locs, g_0 G ≤ q.base) → r_ok i pc r → XW G X H locs (x_ce X) (x_se X) (F0 (x_m X) pc ls r.toList)
def V (G : GG) (i : MM) (pc : Nat) (lv : List (Nat × Value)) (st : List Value) (h : HH) (c s : Nat) (Q : Option Value → HH → Prop) : Prop :=
  ∀ X : VX, Cx G i X → Ends G i X Q → ∀ (H : Heap) (locs : List Loc) (cells slots : Nat) (ls : Array Slot), Rep G h H → (∀ q ∈ locs, g_0 G ≤ q.base) → lv_has ls (m_L i) lv → cells + c ≤ x_ce X → slots + s ≤ x_se X →
    XW G X H locs cells slots (F0 (x_m X) pc ls st)
section VB
variable {G : GG} {i : MM} {pc : Nat} {lv : List (Nat × Value)} {st : List Value} {h : HH} {c s : Nat} {Q Q' : Option Value → HH → Prop}
theorem V.mono {c' s' : Nat} (kk : V G i pc lv st h c' s' Q) (hc : c' ≤ c) (hs : s' ≤ s) : V G i pc lv st h c s Q :=
  fun X C E H locs cells slots ls hR hL hl h1 h2 => kk X C E H locs cells slots ls hR hL hl (by omega) (by omega)
theorem V.weak (kk : V G i pc lv st h c s Q) (hq : ∀ r h', Q r h' → Q' r h') : V G i pc lv st h c s Q' :=
  fun X C E => kk X C (fun pc ls H locs r h' hr => E pc ls H locs r h' (hq r h' hr))
theorem V.eqh {h' : HH} (e : h = h') (kk : V G i pc lv st h' c s Q) : V G i pc lv st h c s Q := e ▸ kk
theorem V.sub {lv' : List (Nat × Value)} (ks : List Nat) (hl : lv_pick lv ks = lv') (kk : V G i pc lv' st h c s Q) : V G i pc lv st h c s Q :=
  fun X C E H locs cells slots ls hR hL hl' h1 h2 => kk X C E H locs cells slots ls hR hL (lv_sub hl' ks hl) h1 h2
/-- a local, by its number -/
def l_at (lv : List (Nat × Value)) (n : Nat) : Option Value := (lv.find? (fun q => q.1 == n)).map (·.2)
theorem l_get {ls : Array Slot} {nL n : Nat} {v : Value} (h : lv_has ls nL lv) (hv : l_at lv n = some v) : ls[n]? = some (.val v) := by
  unfold l_at at hv
  cases hf : lv.find? (fun q => q.1 == n) with
  | none => rw [hf] at hv; cases hv
  | some q =>
    rw [hf] at hv
    have h1 := List.mem_of_find?_eq_some hf
    have h2 := List.find?_some hf
    have e1 : q.1 = n := by simpa using h2
    have e2 : q.2 = v := by simpa using hv
    rw [← e1, ← e2]
    exact h.2.2 q h1
def l_set (lv : List (Nat × Value)) (n : Nat) (v : Value) : List (Nat × Value) := (n, v) :: lv.filter (fun q => !(q.1 == n) && !(q.1 + 1 == n && q.2.category == 2))
def l_set2 (lv : List (Nat × Value)) (n : Nat) (v : Value) : List (Nat × Value) := (n, v) :: lv.filter (fun q => !(q.1 == n) && (!(q.1 == n + 1) && !(q.1 + 1 == n && q.2.category == 2)))
end VB
end
section
section VI
variable {G : GG} {i : MM} {pc : Nat} {lv : List (Nat × Value)} {st : List Value} {h : HH} {c s : Nat} {Q Q' : Option Value → HH → Prop}
theorem V.iconst {n : Int} {v : Int32} (hd : decode (m_C i) pc = .ok (.iconst n, 1)) (hv : Int32.ofInt n = v) (kk : V G i (pc + 1) lv (.int v :: st) h c s Q) : V G i pc lv (st) h c s Q :=
  fun X C E H locs cells slots ls hR hL hl h1 h2 => lv_iconst C.1 C.2.1 hd hv (kk X C E H locs cells slots ls hR hL hl h1 h2)
theorem V.bipush {n : Int} {v : Int32} (hd : decode (m_C i) pc = .ok (.bipush n, 2)) (hv : (Int8.ofInt n).toInt32 = v) (kk : V G i (pc + 2) lv (.int v :: st) h c s Q) : V G i pc lv (st) h c s Q :=
  fun X C E H locs cells slots ls hR hL hl h1 h2 => lv_bipush C.1 C.2.1 hd hv (kk X C E H locs cells slots ls hR hL hl h1 h2)
theorem V.sipush {n : Int} {v : Int32} (hd : decode (m_C i) pc = .ok (.sipush n, 3)) (hv : (Int16.ofInt n).toInt32 = v) (kk : V G i (pc + 3) lv (.int v :: st) h c s Q) : V G i pc lv (st) h c s Q :=
  fun X C E H locs cells slots ls hR hL hl h1 h2 => lv_sipush C.1 C.2.1 hd hv (kk X C E H locs cells slots ls hR hL hl h1 h2)
theorem V.lconst {n : Fin 2} {v : Int64} (hd : decode (m_C i) pc = .ok (.lconst n, 1)) (hv : Int64.ofNat (n : Nat) = v) (kk : V G i (pc + 1) lv (.long v :: st) h c s Q) : V G i pc lv (st) h c s Q :=
  fun X C E H locs cells slots ls hR hL hl h1 h2 => lv_lconst C.1 C.2.1 hd hv (kk X C E H locs cells slots ls hR hL hl h1 h2)
theorem V.null (hd : decode (m_C i) pc = .ok (.aconst_null, 1)) (kk : V G i (pc + 1) lv (.null :: st) h c s Q) : V G i pc lv (st) h c s Q :=
  fun X C E H locs cells slots ls hR hL hl h1 h2 => lv_null C.1 C.2.1 hd (kk X C E H locs cells slots ls hR hL hl h1 h2)
theorem V.iload_n {k : Fin 4} {x : Int32} (hd : decode (m_C i) pc = .ok (.iload_n k, 1)) (hv : l_at lv (k : Nat) = some (.int x)) (kk : V G i (pc + 1) lv (.int x :: st) h c s Q) : V G i pc lv (st) h c s Q :=
  fun X C E H locs cells slots ls hR hL hl h1 h2 => lv_iload_n C.1 C.2.1 hd rfl (l_get hl hv) (kk X C E H locs cells slots ls hR hL hl h1 h2)
theorem V.iload {n : Nat} {x : Int32} (hd : decode (m_C i) pc = .ok (.iload n, 2)) (hv : l_at lv n = some (.int x)) (kk : V G i (pc + 2) lv (.int x :: st) h c s Q) : V G i pc lv (st) h c s Q :=
  fun X C E H locs cells slots ls hR hL hl h1 h2 => lv_iload C.1 C.2.1 hd (l_get hl hv) (kk X C E H locs cells slots ls hR hL hl h1 h2)
theorem V.lload_n {k : Fin 4} {x : Int64} (hd : decode (m_C i) pc = .ok (.lload_n k, 1)) (hv : l_at lv (k : Nat) = some (.long x)) (kk : V G i (pc + 1) lv (.long x :: st) h c s Q) : V G i pc lv (st) h c s Q :=
  fun X C E H locs cells slots ls hR hL hl h1 h2 => lv_lload_n C.1 C.2.1 hd rfl (l_get hl hv) (kk X C E H locs cells slots ls hR hL hl h1 h2)
theorem V.lload {n : Nat} {x : Int64} (hd : decode (m_C i) pc = .ok (.lload n, 2)) (hv : l_at lv n = some (.long x)) (kk : V G i (pc + 2) lv (.long x :: st) h c s Q) : V G i pc lv (st) h c s Q :=
  fun X C E H locs cells slots ls hR hL hl h1 h2 => lv_lload C.1 C.2.1 hd (l_get hl hv) (kk X C E H locs cells slots ls hR hL hl h1 h2)
theorem V.aload_n {k : Fin 4} {x : Nat} (hd : decode (m_C i) pc = .ok (.aload_n k, 1)) (hv : l_at lv (k : Nat) = some (.ref x)) (kk : V G i (pc + 1) lv (.ref x :: st) h c s Q) : V G i pc lv (st) h c s Q :=
  fun X C E H locs cells slots ls hR hL hl h1 h2 => lv_aload_n C.1 C.2.1 hd rfl (l_get hl hv) (kk X C E H locs cells slots ls hR hL hl h1 h2)
theorem V.aload {n : Nat} {x : Nat} (hd : decode (m_C i) pc = .ok (.aload n, 2)) (hv : l_at lv n = some (.ref x)) (kk : V G i (pc + 2) lv (.ref x :: st) h c s Q) : V G i pc lv (st) h c s Q :=
  fun X C E H locs cells slots ls hR hL hl h1 h2 => lv_aload C.1 C.2.1 hd (l_get hl hv) (kk X C E H locs cells slots ls hR hL hl h1 h2)
theorem V.aload_nN {k : Fin 4} (hd : decode (m_C i) pc = .ok (.aload_n k, 1)) (hv : l_at lv (k : Nat) = some .null) (kk : V G i (pc + 1) lv (.null :: st) h c s Q) : V G i pc lv (st) h c s Q :=
  fun X C E H locs cells slots ls hR hL hl h1 h2 => lv_aload_nN C.1 C.2.1 hd rfl (l_get hl hv) (kk X C E H locs cells slots ls hR hL hl h1 h2)
theorem V.aloadN {n : Nat} (hd : decode (m_C i) pc = .ok (.aload n, 2)) (hv : l_at lv n = some .null) (kk : V G i (pc + 2) lv (.null :: st) h c s Q) : V G i pc lv (st) h c s Q :=
  fun X C E H locs cells slots ls hR hL hl h1 h2 => lv_aloadN C.1 C.2.1 hd (l_get hl hv) (kk X C E H locs cells slots ls hR hL hl h1 h2)
theorem V.istore_n {k : Fin 4} {x : Int32} (hd : decode (m_C i) pc = .ok (.istore_n k, 1)) (hn : (k : Nat) < m_L i) (kk : V G i (pc + 1) (l_set lv (k : Nat) (.int x)) st h c s Q) : V G i pc lv (.int x :: st) h c s Q :=
  fun X C E H locs cells slots ls hR hL hl h1 h2 => lv_istore_n C.1 C.2.1 hd rfl hl hn rfl (fun ls' hl' => kk X C E H locs cells slots ls' hR hL hl' h1 h2)
theorem V.istore {n : Nat} {x : Int32} (hd : decode (m_C i) pc = .ok (.istore n, 2)) (hn : n < m_L i) (kk : V G i (pc + 2) (l_set lv n (.int x)) st h c s Q) : V G i pc lv (.int x :: st) h c s Q :=
  fun X C E H locs cells slots ls hR hL hl h1 h2 => lv_istore C.1 C.2.1 hd hl hn rfl (fun ls' hl' => kk X C E H locs cells slots ls' hR hL hl' h1 h2)
theorem V.lstore_n {k : Fin 4} {x : Int64} (hd : decode (m_C i) pc = .ok (.lstore_n k, 1)) (hn : (k : Nat) + 1 < m_L i) (kk : V G i (pc + 1) (l_set2 lv (k : Nat) (.long x)) st h c s Q) : V G i pc lv (.long x :: st) h c s Q :=
  fun X C E H locs cells slots ls hR hL hl h1 h2 => lv_lstore_n C.1 C.2.1 hd rfl hl hn rfl (fun ls' hl' => kk X C E H locs cells slots ls' hR hL hl' h1 h2)
theorem V.lstore {n : Nat} {x : Int64} (hd : decode (m_C i) pc = .ok (.lstore n, 2)) (hn : n + 1 < m_L i) (kk : V G i (pc + 2) (l_set2 lv n (.long x)) st h c s Q) : V G i pc lv (.long x :: st) h c s Q :=
  fun X C E H locs cells slots ls hR hL hl h1 h2 => lv_lstore C.1 C.2.1 hd hl hn rfl (fun ls' hl' => kk X C E H locs cells slots ls' hR hL hl' h1 h2)
theorem V.astore_n {k : Fin 4} {x : Nat} (hd : decode (m_C i) pc = .ok (.astore_n k, 1)) (hn : (k : Nat) < m_L i) (kk : V G i (pc + 1) (l_set lv (k : Nat) (.ref x)) st h c s Q) : V G i pc lv (.ref x :: st) h c s Q :=
  fun X C E H locs cells slots ls hR hL hl h1 h2 => lv_astore_n C.1 C.2.1 hd rfl hl hn rfl (fun ls' hl' => kk X C E H locs cells slots ls' hR hL hl' h1 h2)
theorem V.astore {n : Nat} {x : Nat} (hd : decode (m_C i) pc = .ok (.astore n, 2)) (hn : n < m_L i) (kk : V G i (pc + 2) (l_set lv n (.ref x)) st h c s Q) : V G i pc lv (.ref x :: st) h c s Q :=
  fun X C E H locs cells slots ls hR hL hl h1 h2 => lv_astore C.1 C.2.1 hd hl hn rfl (fun ls' hl' => kk X C E H locs cells slots ls' hR hL hl' h1 h2)
theorem V.astore_nN {k : Fin 4} (hd : decode (m_C i) pc = .ok (.astore_n k, 1)) (hn : (k : Nat) < m_L i) (kk : V G i (pc + 1) (l_set lv (k : Nat) (.null)) st h c s Q) : V G i pc lv (.null :: st) h c s Q :=
  fun X C E H locs cells slots ls hR hL hl h1 h2 => lv_astore_nN C.1 C.2.1 hd rfl hl hn rfl (fun ls' hl' => kk X C E H locs cells slots ls' hR hL hl' h1 h2)
theorem V.astoreN {n : Nat} (hd : decode (m_C i) pc = .ok (.astore n, 2)) (hn : n < m_L i) (kk : V G i (pc + 2) (l_set lv n (.null)) st h c s Q) : V G i pc lv (.null :: st) h c s Q :=
  fun X C E H locs cells slots ls hR hL hl h1 h2 => lv_astoreN C.1 C.2.1 hd hl hn rfl (fun ls' hl' => kk X C E H locs cells slots ls' hR hL hl' h1 h2)
theorem V.iinc {n : Nat} {d : Int} {x v : Int32} (hd : decode (m_C i) pc = .ok (.iinc n d, 3)) (hv : l_at lv n = some (.int x)) (he : x + Int32.ofInt d = v) (hn : n < m_L i) (kk : V G i (pc + 3) (l_set lv n (.int v)) st h c s Q) : V G i pc lv st h c s Q := by
  intro X C E H locs cells slots ls hR hL hl h1 h2
  have hg : (n, Value.int x) ∈ lv := by
    unfold l_at at hv
    cases hf : lv.find? (fun q => q.1 == n) with
    | none => rw [hf] at hv; cases hv
    | some q =>
      rw [hf] at hv
      have e1 : q.1 = n := by simpa using List.find?_some hf
      have e2 : q.2 = .int x := by simpa using hv
      rw [← e1, ← e2]
      exact List.mem_of_find?_eq_some hf
  obtain ⟨k, hk⟩ := List.getElem?_of_mem hg
  exact lv_iinc C.1 C.2.1 hd hl hk he hn rfl (fun ls' hl' => kk X C E H locs cells slots ls' hR hL hl' h1 h2)
theorem V.iadd {x y : Int32} (hd : decode (m_C i) pc = .ok (.iadd, 1)) (kk : V G i (pc + 1) lv (.int (x + y) :: st) h c s Q) : V G i pc lv (.int y :: .int x :: st) h c s Q :=
  fun X C E H locs cells slots ls hR hL hl h1 h2 => lv_iadd C.1 C.2.1 hd (kk X C E H locs cells slots ls hR hL hl h1 h2)
theorem V.isub {x y : Int32} (hd : decode (m_C i) pc = .ok (.isub, 1)) (kk : V G i (pc + 1) lv (.int (x - y) :: st) h c s Q) : V G i pc lv (.int y :: .int x :: st) h c s Q :=
  fun X C E H locs cells slots ls hR hL hl h1 h2 => lv_isub C.1 C.2.1 hd (kk X C E H locs cells slots ls hR hL hl h1 h2)
theorem V.imul {x y : Int32} (hd : decode (m_C i) pc = .ok (.imul, 1)) (kk : V G i (pc + 1) lv (.int (x * y) :: st) h c s Q) : V G i pc lv (.int y :: .int x :: st) h c s Q :=
  fun X C E H locs cells slots ls hR hL hl h1 h2 => lv_imul C.1 C.2.1 hd (kk X C E H locs cells slots ls hR hL hl h1 h2)
theorem V.iand {x y : Int32} (hd : decode (m_C i) pc = .ok (.iand, 1)) (kk : V G i (pc + 1) lv (.int (x &&& y) :: st) h c s Q) : V G i pc lv (.int y :: .int x :: st) h c s Q :=
  fun X C E H locs cells slots ls hR hL hl h1 h2 => lv_iand C.1 C.2.1 hd (kk X C E H locs cells slots ls hR hL hl h1 h2)
theorem V.ior {x y : Int32} (hd : decode (m_C i) pc = .ok (.ior, 1)) (kk : V G i (pc + 1) lv (.int (x ||| y) :: st) h c s Q) : V G i pc lv (.int y :: .int x :: st) h c s Q :=
  fun X C E H locs cells slots ls hR hL hl h1 h2 => lv_ior C.1 C.2.1 hd (kk X C E H locs cells slots ls hR hL hl h1 h2)
theorem V.ixor {x y : Int32} (hd : decode (m_C i) pc = .ok (.ixor, 1)) (kk : V G i (pc + 1) lv (.int (x ^^^ y) :: st) h c s Q) : V G i pc lv (.int y :: .int x :: st) h c s Q :=
  fun X C E H locs cells slots ls hR hL hl h1 h2 => lv_ixor C.1 C.2.1 hd (kk X C E H locs cells slots ls hR hL hl h1 h2)
theorem V.ishl {x y : Int32} (hd : decode (m_C i) pc = .ok (.ishl, 1)) (kk : V G i (pc + 1) lv (.int (x <<< (y &&& 31)) :: st) h c s Q) : V G i pc lv (.int y :: .int x :: st) h c s Q :=
  fun X C E H locs cells slots ls hR hL hl h1 h2 => lv_ishl C.1 C.2.1 hd (kk X C E H locs cells slots ls hR hL hl h1 h2)
theorem V.ishr {x y : Int32} (hd : decode (m_C i) pc = .ok (.ishr, 1)) (kk : V G i (pc + 1) lv (.int (x >>> (y &&& 31)) :: st) h c s Q) : V G i pc lv (.int y :: .int x :: st) h c s Q :=
  fun X C E H locs cells slots ls hR hL hl h1 h2 => lv_ishr C.1 C.2.1 hd (kk X C E H locs cells slots ls hR hL hl h1 h2)
theorem V.idiv {x y : Int32} (hd : decode (m_C i) pc = .ok (.idiv, 1)) (hne : ¬ y = 0) (kk : V G i (pc + 1) lv (.int (x / y) :: st) h c s Q) : V G i pc lv (.int y :: .int x :: st) h c s Q :=
  fun X C E H locs cells slots ls hR hL hl h1 h2 => lv_idiv C.1 C.2.1 hd hne (kk X C E H locs cells slots ls hR hL hl h1 h2)
theorem V.irem {x y : Int32} (hd : decode (m_C i) pc = .ok (.irem, 1)) (hne : ¬ y = 0) (kk : V G i (pc + 1) lv (.int (x - x / y * y) :: st) h c s Q) : V G i pc lv (.int y :: .int x :: st) h c s Q :=
  fun X C E H locs cells slots ls hR hL hl h1 h2 => lv_irem C.1 C.2.1 hd hne (kk X C E H locs cells slots ls hR hL hl h1 h2)
theorem V.ineg {x : Int32} (hd : decode (m_C i) pc = .ok (.ineg, 1)) (kk : V G i (pc + 1) lv (.int (-x) :: st) h c s Q) : V G i pc lv (.int x :: st) h c s Q :=
  fun X C E H locs cells slots ls hR hL hl h1 h2 => lv_ineg C.1 C.2.1 hd (kk X C E H locs cells slots ls hR hL hl h1 h2)
theorem V.ladd {x y : Int64} (hd : decode (m_C i) pc = .ok (.ladd, 1)) (kk : V G i (pc + 1) lv (.long (x + y) :: st) h c s Q) : V G i pc lv (.long y :: .long x :: st) h c s Q :=
  fun X C E H locs cells slots ls hR hL hl h1 h2 => lv_ladd C.1 C.2.1 hd (kk X C E H locs cells slots ls hR hL hl h1 h2)
theorem V.lsub {x y : Int64} (hd : decode (m_C i) pc = .ok (.lsub, 1)) (kk : V G i (pc + 1) lv (.long (x - y) :: st) h c s Q) : V G i pc lv (.long y :: .long x :: st) h c s Q :=
  fun X C E H locs cells slots ls hR hL hl h1 h2 => lv_lsub C.1 C.2.1 hd (kk X C E H locs cells slots ls hR hL hl h1 h2)
theorem V.lmul {x y : Int64} (hd : decode (m_C i) pc = .ok (.lmul, 1)) (kk : V G i (pc + 1) lv (.long (x * y) :: st) h c s Q) : V G i pc lv (.long y :: .long x :: st) h c s Q :=
  fun X C E H locs cells slots ls hR hL hl h1 h2 => lv_lmul C.1 C.2.1 hd (kk X C E H locs cells slots ls hR hL hl h1 h2)
theorem V.land {x y : Int64} (hd : decode (m_C i) pc = .ok (.land, 1)) (kk : V G i (pc + 1) lv (.long (x &&& y) :: st) h c s Q) : V G i pc lv (.long y :: .long x :: st) h c s Q :=
  fun X C E H locs cells slots ls hR hL hl h1 h2 => lv_land C.1 C.2.1 hd (kk X C E H locs cells slots ls hR hL hl h1 h2)
theorem V.lor {x y : Int64} (hd : decode (m_C i) pc = .ok (.lor, 1)) (kk : V G i (pc + 1) lv (.long (x ||| y) :: st) h c s Q) : V G i pc lv (.long y :: .long x :: st) h c s Q :=
  fun X C E H locs cells slots ls hR hL hl h1 h2 => lv_lor C.1 C.2.1 hd (kk X C E H locs cells slots ls hR hL hl h1 h2)
theorem V.lxor {x y : Int64} (hd : decode (m_C i) pc = .ok (.lxor, 1)) (kk : V G i (pc + 1) lv (.long (x ^^^ y) :: st) h c s Q) : V G i pc lv (.long y :: .long x :: st) h c s Q :=
  fun X C E H locs cells slots ls hR hL hl h1 h2 => lv_lxor C.1 C.2.1 hd (kk X C E H locs cells slots ls hR hL hl h1 h2)
theorem V.lneg {x : Int64} (hd : decode (m_C i) pc = .ok (.lneg, 1)) (kk : V G i (pc + 1) lv (.long (-x) :: st) h c s Q) : V G i pc lv (.long x :: st) h c s Q :=
  fun X C E H locs cells slots ls hR hL hl h1 h2 => lv_lneg C.1 C.2.1 hd (kk X C E H locs cells slots ls hR hL hl h1 h2)
theorem V.i2l {x : Int32} {v : Int64} (hd : decode (m_C i) pc = .ok (.i2l, 1)) (hv : x.toInt64 = v) (kk : V G i (pc + 1) lv (.long v :: st) h c s Q) : V G i pc lv (.int x :: st) h c s Q :=
  fun X C E H locs cells slots ls hR hL hl h1 h2 => lv_i2l C.1 C.2.1 hd hv (kk X C E H locs cells slots ls hR hL hl h1 h2)
theorem V.l2i {x : Int64} {v : Int32} (hd : decode (m_C i) pc = .ok (.l2i, 1)) (hv : x.toInt32 = v) (kk : V G i (pc + 1) lv (.int v :: st) h c s Q) : V G i pc lv (.long x :: st) h c s Q :=
  fun X C E H locs cells slots ls hR hL hl h1 h2 => lv_l2i C.1 C.2.1 hd hv (kk X C E H locs cells slots ls hR hL hl h1 h2)
theorem V.i2b {x : Int32} {v : Int32} (hd : decode (m_C i) pc = .ok (.i2b, 1)) (hv : x.toInt8.toInt32 = v) (kk : V G i (pc + 1) lv (.int v :: st) h c s Q) : V G i pc lv (.int x :: st) h c s Q :=
  fun X C E H locs cells slots ls hR hL hl h1 h2 => lv_i2b C.1 C.2.1 hd hv (kk X C E H locs cells slots ls hR hL hl h1 h2)
theorem V.i2s {x : Int32} {v : Int32} (hd : decode (m_C i) pc = .ok (.i2s, 1)) (hv : x.toInt16.toInt32 = v) (kk : V G i (pc + 1) lv (.int v :: st) h c s Q) : V G i pc lv (.int x :: st) h c s Q :=
  fun X C E H locs cells slots ls hR hL hl h1 h2 => lv_i2s C.1 C.2.1 hd hv (kk X C E H locs cells slots ls hR hL hl h1 h2)
theorem V.i2c {x : Int32} {v : Int32} (hd : decode (m_C i) pc = .ok (.i2c, 1)) (hv : (x.toUInt32 % 65536).toInt32 = v) (kk : V G i (pc + 1) lv (.int v :: st) h c s Q) : V G i pc lv (.int x :: st) h c s Q :=
  fun X C E H locs cells slots ls hR hL hl h1 h2 => lv_i2c C.1 C.2.1 hd hv (kk X C E H locs cells slots ls hR hL hl h1 h2)
theorem V.iushr {x y v : Int32} (hd : decode (m_C i) pc = .ok (.iushr, 1)) (hv : (x.toUInt32 >>> (y.toUInt32 &&& Int32.toUInt32 31)).toInt32 = v) (kk : V G i (pc + 1) lv (.int v :: st) h c s Q) : V G i pc lv (.int y :: .int x :: st) h c s Q :=
  fun X C E H locs cells slots ls hR hL hl h1 h2 => lv_iushr C.1 C.2.1 hd hv (kk X C E H locs cells slots ls hR hL hl h1 h2)
theorem V.lushr {x v : Int64} {y : Int32} (hd : decode (m_C i) pc = .ok (.lushr, 1)) (hv : (x.toUInt64 >>> (y.toInt64.toUInt64 &&& Int64.toUInt64 63)).toInt64 = v) (kk : V G i (pc + 1) lv (.long v :: st) h c s Q) : V G i pc lv (.int y :: .long x :: st) h c s Q :=
  fun X C E H locs cells slots ls hR hL hl h1 h2 => lv_lushr C.1 C.2.1 hd hv (kk X C E H locs cells slots ls hR hL hl h1 h2)
theorem V.lshl {x v : Int64} {y : Int32} (hd : decode (m_C i) pc = .ok (.lshl, 1)) (hv : x <<< (y.toInt64 &&& 63) = v) (kk : V G i (pc + 1) lv (.long v :: st) h c s Q) : V G i pc lv (.int y :: .long x :: st) h c s Q :=
  fun X C E H locs cells slots ls hR hL hl h1 h2 => lv_lshl C.1 C.2.1 hd hv (kk X C E H locs cells slots ls hR hL hl h1 h2)
theorem V.lshr {x v : Int64} {y : Int32} (hd : decode (m_C i) pc = .ok (.lshr, 1)) (hv : x >>> (y.toInt64 &&& 63) = v) (kk : V G i (pc + 1) lv (.long v :: st) h c s Q) : V G i pc lv (.int y :: .long x :: st) h c s Q :=
  fun X C E H locs cells slots ls hR hL hl h1 h2 => lv_lshr C.1 C.2.1 hd hv (kk X C E H locs cells slots ls hR hL hl h1 h2)
theorem V.lcmp {x y : Int64} (hd : decode (m_C i) pc = .ok (.lcmp, 1)) (kk : V G i (pc + 1) lv (.int (lg_cmp x y) :: st) h c s Q) : V G i pc lv (.long y :: .long x :: st) h c s Q :=
  fun X C E H locs cells slots ls hR hL hl h1 h2 => W.lcmp C.1 C.2.1 hd (kk X C E H locs cells slots ls hR hL hl h1 h2)
theorem V.dup {v : Value} (hd : decode (m_C i) pc = .ok (.dup, 1)) (hc : v.category = 1) (kk : V G i (pc + 1) lv (v :: v :: st) h c s Q) : V G i pc lv (v :: st) h c s Q :=
  fun X C E H locs cells slots ls hR hL hl h1 h2 => lv_dup C.1 C.2.1 hd hc (kk X C E H locs cells slots ls hR hL hl h1 h2)
theorem V.pop {v : Value} (hd : decode (m_C i) pc = .ok (.pop, 1)) (hc : v.category = 1) (kk : V G i (pc + 1) lv (st) h c s Q) : V G i pc lv (v :: st) h c s Q :=
  fun X C E H locs cells slots ls hR hL hl h1 h2 => lv_pop C.1 C.2.1 hd hc (kk X C E H locs cells slots ls hR hL hl h1 h2)
theorem V.dup_x1 {v w : Value} (hd : decode (m_C i) pc = .ok (.dup_x1, 1)) (hc : v.category = 1) (hd2 : w.category = 1) (kk : V G i (pc + 1) lv (v :: w :: v :: st) h c s Q) : V G i pc lv (v :: w :: st) h c s Q :=
  fun X C E H locs cells slots ls hR hL hl h1 h2 => lv_dup_x1 C.1 C.2.1 hd hc hd2 (kk X C E H locs cells slots ls hR hL hl h1 h2)
theorem V.dup_x2 {v w z : Value} (hd : decode (m_C i) pc = .ok (.dup_x2, 1)) (hc : v.category = 1) (hd2 : w.category = 1) (hd3 : z.category = 1) (kk : V G i (pc + 1) lv (v :: w :: z :: v :: st) h c s Q) : V G i pc lv (v :: w :: z :: st) h c s Q :=
  fun X C E H locs cells slots ls hR hL hl h1 h2 => lv_dup_x2 C.1 C.2.1 hd hc hd2 hd3 (kk X C E H locs cells slots ls hR hL hl h1 h2)
theorem V.dup2 {v w : Value} (hd : decode (m_C i) pc = .ok (.dup2, 1)) (hc : v.category = 1) (hd2 : w.category = 1) (kk : V G i (pc + 1) lv (v :: w :: v :: w :: st) h c s Q) : V G i pc lv (v :: w :: st) h c s Q :=
  fun X C E H locs cells slots ls hR hL hl h1 h2 => lv_dup2_11 C.1 C.2.1 hd hc hd2 (kk X C E H locs cells slots ls hR hL hl h1 h2)
theorem V.dup2_2 {v : Value} (hd : decode (m_C i) pc = .ok (.dup2, 1)) (hc : v.category = 2) (kk : V G i (pc + 1) lv (v :: v :: st) h c s Q) : V G i pc lv (v :: st) h c s Q :=
  fun X C E H locs cells slots ls hR hL hl h1 h2 => lv_dup2_2 C.1 C.2.1 hd hc (kk X C E H locs cells slots ls hR hL hl h1 h2)
theorem V.pop2_2 {v : Value} (hd : decode (m_C i) pc = .ok (.pop2, 1)) (hc : v.category = 2) (kk : V G i (pc + 1) lv (st) h c s Q) : V G i pc lv (v :: st) h c s Q :=
  fun X C E H locs cells slots ls hR hL hl h1 h2 => lv_pop2_2 C.1 C.2.1 hd hc (kk X C E H locs cells slots ls hR hL hl h1 h2)
theorem V.if_eq {x : Int32} {off : Int} {tgt : Nat} (hd : decode (m_C i) pc = .ok (.ifCond .eq off, 3)) (ht : (pc : Int) + off = (tgt : Int)) (kt : x = 0 → V G i tgt lv st h c s Q) (kf : ¬ x = 0 → V G i (pc + 3) lv st h c s Q) : V G i pc lv (.int x :: st) h c s Q :=
  fun X C E H locs cells slots ls hR hL hl h1 h2 => lv_if_eq C.1 C.2.1 hd ht (fun z => kt z X C E H locs cells slots ls hR hL hl h1 h2) (fun z => kf z X C E H locs cells slots ls hR hL hl h1 h2)
theorem V.icmp_eq {x y : Int32} {off : Int} {tgt : Nat} (hd : decode (m_C i) pc = .ok (.if_icmp .eq off, 3)) (ht : (pc : Int) + off = (tgt : Int)) (kt : x = y → V G i tgt lv st h c s Q) (kf : ¬ x = y → V G i (pc + 3) lv st h c s Q) : V G i pc lv (.int y :: .int x :: st) h c s Q :=
  fun X C E H locs cells slots ls hR hL hl h1 h2 => lv_icmp_eq C.1 C.2.1 hd ht (fun z => kt z X C E H locs cells slots ls hR hL hl h1 h2) (fun z => kf z X C E H locs cells slots ls hR hL hl h1 h2)
theorem V.if_ne {x : Int32} {off : Int} {tgt : Nat} (hd : decode (m_C i) pc = .ok (.ifCond .ne off, 3)) (ht : (pc : Int) + off = (tgt : Int)) (kt : ¬ x = 0 → V G i tgt lv st h c s Q) (kf : x = 0 → V G i (pc + 3) lv st h c s Q) : V G i pc lv (.int x :: st) h c s Q :=
  fun X C E H locs cells slots ls hR hL hl h1 h2 => lv_if_ne C.1 C.2.1 hd ht (fun z => kt z X C E H locs cells slots ls hR hL hl h1 h2) (fun z => kf z X C E H locs cells slots ls hR hL hl h1 h2)
theorem V.icmp_ne {x y : Int32} {off : Int} {tgt : Nat} (hd : decode (m_C i) pc = .ok (.if_icmp .ne off, 3)) (ht : (pc : Int) + off = (tgt : Int)) (kt : ¬ x = y → V G i tgt lv st h c s Q) (kf : x = y → V G i (pc + 3) lv st h c s Q) : V G i pc lv (.int y :: .int x :: st) h c s Q :=
  fun X C E H locs cells slots ls hR hL hl h1 h2 => lv_icmp_ne C.1 C.2.1 hd ht (fun z => kt z X C E H locs cells slots ls hR hL hl h1 h2) (fun z => kf z X C E H locs cells slots ls hR hL hl h1 h2)
theorem V.if_lt {x : Int32} {off : Int} {tgt : Nat} (hd : decode (m_C i) pc = .ok (.ifCond .lt off, 3)) (ht : (pc : Int) + off = (tgt : Int)) (kt : x < 0 → V G i tgt lv st h c s Q) (kf : ¬ x < 0 → V G i (pc + 3) lv st h c s Q) : V G i pc lv (.int x :: st) h c s Q :=
  fun X C E H locs cells slots ls hR hL hl h1 h2 => lv_if_lt C.1 C.2.1 hd ht (fun z => kt z X C E H locs cells slots ls hR hL hl h1 h2) (fun z => kf z X C E H locs cells slots ls hR hL hl h1 h2)
theorem V.icmp_lt {x y : Int32} {off : Int} {tgt : Nat} (hd : decode (m_C i) pc = .ok (.if_icmp .lt off, 3)) (ht : (pc : Int) + off = (tgt : Int)) (kt : x < y → V G i tgt lv st h c s Q) (kf : ¬ x < y → V G i (pc + 3) lv st h c s Q) : V G i pc lv (.int y :: .int x :: st) h c s Q :=
  fun X C E H locs cells slots ls hR hL hl h1 h2 => lv_icmp_lt C.1 C.2.1 hd ht (fun z => kt z X C E H locs cells slots ls hR hL hl h1 h2) (fun z => kf z X C E H locs cells slots ls hR hL hl h1 h2)
theorem V.if_ge {x : Int32} {off : Int} {tgt : Nat} (hd : decode (m_C i) pc = .ok (.ifCond .ge off, 3)) (ht : (pc : Int) + off = (tgt : Int)) (kt : 0 ≤ x → V G i tgt lv st h c s Q) (kf : ¬ 0 ≤ x → V G i (pc + 3) lv st h c s Q) : V G i pc lv (.int x :: st) h c s Q :=
  fun X C E H locs cells slots ls hR hL hl h1 h2 => lv_if_ge C.1 C.2.1 hd ht (fun z => kt z X C E H locs cells slots ls hR hL hl h1 h2) (fun z => kf z X C E H locs cells slots ls hR hL hl h1 h2)
theorem V.icmp_ge {x y : Int32} {off : Int} {tgt : Nat} (hd : decode (m_C i) pc = .ok (.if_icmp .ge off, 3)) (ht : (pc : Int) + off = (tgt : Int)) (kt : y ≤ x → V G i tgt lv st h c s Q) (kf : ¬ y ≤ x → V G i (pc + 3) lv st h c s Q) : V G i pc lv (.int y :: .int x :: st) h c s Q :=
  fun X C E H locs cells slots ls hR hL hl h1 h2 => lv_icmp_ge C.1 C.2.1 hd ht (fun z => kt z X C E H locs cells slots ls hR hL hl h1 h2) (fun z => kf z X C E H locs cells slots ls hR hL hl h1 h2)
theorem V.if_gt {x : Int32} {off : Int} {tgt : Nat} (hd : decode (m_C i) pc = .ok (.ifCond .gt off, 3)) (ht : (pc : Int) + off = (tgt : Int)) (kt : 0 < x → V G i tgt lv st h c s Q) (kf : ¬ 0 < x → V G i (pc + 3) lv st h c s Q) : V G i pc lv (.int x :: st) h c s Q :=
  fun X C E H locs cells slots ls hR hL hl h1 h2 => lv_if_gt C.1 C.2.1 hd ht (fun z => kt z X C E H locs cells slots ls hR hL hl h1 h2) (fun z => kf z X C E H locs cells slots ls hR hL hl h1 h2)
theorem V.icmp_gt {x y : Int32} {off : Int} {tgt : Nat} (hd : decode (m_C i) pc = .ok (.if_icmp .gt off, 3)) (ht : (pc : Int) + off = (tgt : Int)) (kt : y < x → V G i tgt lv st h c s Q) (kf : ¬ y < x → V G i (pc + 3) lv st h c s Q) : V G i pc lv (.int y :: .int x :: st) h c s Q :=
  fun X C E H locs cells slots ls hR hL hl h1 h2 => lv_icmp_gt C.1 C.2.1 hd ht (fun z => kt z X C E H locs cells slots ls hR hL hl h1 h2) (fun z => kf z X C E H locs cells slots ls hR hL hl h1 h2)
theorem V.if_le {x : Int32} {off : Int} {tgt : Nat} (hd : decode (m_C i) pc = .ok (.ifCond .le off, 3)) (ht : (pc : Int) + off = (tgt : Int)) (kt : x ≤ 0 → V G i tgt lv st h c s Q) (kf : ¬ x ≤ 0 → V G i (pc + 3) lv st h c s Q) : V G i pc lv (.int x :: st) h c s Q :=
  fun X C E H locs cells slots ls hR hL hl h1 h2 => lv_if_le C.1 C.2.1 hd ht (fun z => kt z X C E H locs cells slots ls hR hL hl h1 h2) (fun z => kf z X C E H locs cells slots ls hR hL hl h1 h2)
theorem V.icmp_le {x y : Int32} {off : Int} {tgt : Nat} (hd : decode (m_C i) pc = .ok (.if_icmp .le off, 3)) (ht : (pc : Int) + off = (tgt : Int)) (kt : x ≤ y → V G i tgt lv st h c s Q) (kf : ¬ x ≤ y → V G i (pc + 3) lv st h c s Q) : V G i pc lv (.int y :: .int x :: st) h c s Q :=
  fun X C E H locs cells slots ls hR hL hl h1 h2 => lv_icmp_le C.1 C.2.1 hd ht (fun z => kt z X C E H locs cells slots ls hR hL hl h1 h2) (fun z => kf z X C E H locs cells slots ls hR hL hl h1 h2)
theorem V.acmp_eq {rx ry : Option Nat} {off : Int} {tgt : Nat} (hd : decode (m_C i) pc = .ok (.if_acmp .eq off, 3)) (ht : (pc : Int) + off = (tgt : Int)) (kt : rx = ry → V G i tgt lv st h c s Q) (kf : ¬ rx = ry → V G i (pc + 3) lv st h c s Q) : V G i pc lv (va_rf ry :: va_rf rx :: st) h c s Q :=
  fun X C E H locs cells slots ls hR hL hl h1 h2 => lv_acmp_eq C.1 C.2.1 hd ht (fun z => kt z X C E H locs cells slots ls hR hL hl h1 h2) (fun z => kf z X C E H locs cells slots ls hR hL hl h1 h2)
theorem V.acmp_ne {rx ry : Option Nat} {off : Int} {tgt : Nat} (hd : decode (m_C i) pc = .ok (.if_acmp .ne off, 3)) (ht : (pc : Int) + off = (tgt : Int)) (kt : ¬ rx = ry → V G i tgt lv st h c s Q) (kf : rx = ry → V G i (pc + 3) lv st h c s Q) : V G i pc lv (va_rf ry :: va_rf rx :: st) h c s Q :=
  fun X C E H locs cells slots ls hR hL hl h1 h2 => lv_acmp_ne C.1 C.2.1 hd ht (fun z => kt z X C E H locs cells slots ls hR hL hl h1 h2) (fun z => kf z X C E H locs cells slots ls hR hL hl h1 h2)
theorem V.goto {off : Int} {tgt : Nat} (hd : decode (m_C i) pc = .ok (.goto off, 3)) (ht : (pc : Int) + off = (tgt : Int)) (kk : V G i (tgt) lv st h c s Q) : V G i pc lv (st) h c s Q :=
  fun X C E H locs cells slots ls hR hL hl h1 h2 => lv_goto C.1 C.2.1 hd ht (kk X C E H locs cells slots ls hR hL hl h1 h2)
theorem V.ifnonnull {x : Nat} {off : Int} {tgt : Nat} (hd : decode (m_C i) pc = .ok (.ifnonnull off, 3)) (ht : (pc : Int) + off = (tgt : Int)) (kk : V G i (tgt) lv st h c s Q) : V G i pc lv (.ref x :: st) h c s Q :=
  fun X C E H locs cells slots ls hR hL hl h1 h2 => lv_ifnonnull C.1 C.2.1 hd ht (kk X C E H locs cells slots ls hR hL hl h1 h2)
theorem V.ifnull {x : Nat} {off : Int} (hd : decode (m_C i) pc = .ok (.ifnull off, 3)) (kk : V G i (pc + 3) lv st h c s Q) : V G i pc lv (.ref x :: st) h c s Q :=
  fun X C E H locs cells slots ls hR hL hl h1 h2 => lv_ifnull C.1 C.2.1 hd (kk X C E H locs cells slots ls hR hL hl h1 h2)
theorem V.ifnullN {off : Int} {tgt : Nat} (hd : decode (m_C i) pc = .ok (.ifnull off, 3)) (ht : (pc : Int) + off = (tgt : Int)) (kk : V G i (tgt) lv st h c s Q) : V G i pc lv (.null :: st) h c s Q :=
  fun X C E H locs cells slots ls hR hL hl h1 h2 => lv_ifnullN C.1 C.2.1 hd ht (kk X C E H locs cells slots ls hR hL hl h1 h2)
theorem V.ifnonnullN {off : Int} (hd : decode (m_C i) pc = .ok (.ifnonnull off, 3)) (kk : V G i (pc + 3) lv st h c s Q) : V G i pc lv (.null :: st) h c s Q :=
  fun X C E H locs cells slots ls hR hL hl h1 h2 => lv_ifnonnullN C.1 C.2.1 hd (kk X C E H locs cells slots ls hR hL hl h1 h2)
theorem V.lookup {dflt : Int} {ps : Array (Int × Int)} {len : Nat} {x : Int32} {off : Int} {tgt : Nat} (hd : decode (m_C i) pc = .ok (.lookupswitch dflt ps, len)) (hp : (ps.toList.zip (ps.toList.drop 1)).all (fun (a, next) => a.1 < next.1) = true) (ho : Op.lookupswitch.offset ps.toList dflt x.toInt = off) (ht : (pc : Int) + off = (tgt : Int)) (kk : V G i tgt lv st h c s Q) : V G i pc lv (.int x :: st) h c s Q :=
  fun X C E H locs cells slots ls hR hL hl h1 h2 => lv_lookup C.1 C.2.1 hd hp ho ht (kk X C E H locs cells slots ls hR hL hl h1 h2)
theorem V.tableOut {dflt lo hi : Int} {offs : Array Int} {len : Nat} {x : Int32} {tgt : Nat} (hd : decode (m_C i) pc = .ok (.tableswitch dflt lo hi offs, len)) (hx : x.toInt < lo ∨ hi < x.toInt) (ht : (pc : Int) + dflt = (tgt : Int)) (kk : V G i tgt lv st h c s Q) : V G i pc lv (.int x :: st) h c s Q :=
  fun X C E H locs cells slots ls hR hL hl h1 h2 => lv_tableOut C.1 C.2.1 hd hx ht (kk X C E H locs cells slots ls hR hL hl h1 h2)
theorem V.tableIn {dflt lo hi : Int} {offs : Array Int} {len : Nat} {x : Int32} {off : Int} {tgt : Nat} (hd : decode (m_C i) pc = .ok (.tableswitch dflt lo hi offs, len)) (hx1 : ¬ x.toInt < lo) (hx2 : ¬ hi < x.toInt) (ho : offs[(x.toInt - lo).toNat]? = some off) (ht : (pc : Int) + off = (tgt : Int)) (kk : V G i tgt lv st h c s Q) : V G i pc lv (.int x :: st) h c s Q :=
  fun X C E H locs cells slots ls hR hL hl h1 h2 => lv_tableIn C.1 C.2.1 hd hx1 hx2 ho ht (kk X C E H locs cells slots ls hR hL hl h1 h2)
/-- an int constant of the pool -/
theorem V.ldc {idx : Nat} {v : Int32} (hd : decode (m_C i) pc = .ok (.ldc idx, 2)) (hw : Jvm.Cond.constant (m_Y i).cls idx v ∈ tb) (kk : V G i (pc + 2) lv (.int v :: st) h c s Q) : V G i pc lv st h c s Q :=
  fun X C E H locs cells slots ls hR hL hl h1 h2 => lv_ldc C.1 C.2.1 C.2.2.2.2.2.1 (C.2.2.2.2.2.2.1 _ hw) hd (kk X C E H locs cells slots ls hR hL hl h1 h2)
theorem V.ldc2 {idx : Nat} {v : Int64} (hd : decode (m_C i) pc = .ok (.ldc2_w idx, 3)) (hw : Jvm.Cond.constantLong (m_Y i).cls idx v ∈ tb) (kk : V G i (pc + 3) lv (.long v :: st) h c s Q) : V G i pc lv st h c s Q :=
  fun X C E H locs cells slots ls hR hL hl h1 h2 => lv_ldc2 C.1 C.2.1 C.2.2.2.2.2.1 (C.2.2.2.2.2.2.1 _ hw) hd (kk X C E H locs cells slots ls hR hL hl h1 h2)
theorem V.ireturn {v : Int32} {ty : FieldType} (hd : decode (m_C i) pc = .ok (.ireturn, 1)) (hr : m_R i = some ty) (hn : narrow ty (.int v) = .int v) (hq : Q (some (.int v)) h) : V G i pc lv [.int v] h c s Q :=
  fun X C E H locs cells slots ls hR hL hl h1 h2 => W.widen (Nat.le_trans (Nat.le_add_right _ _) h1) (Nat.le_trans (Nat.le_add_right _ _) h2) (E pc ls H locs (some (.int v)) h hq hR hL ⟨hd, ty, hr, hn⟩)
theorem V.lreturn {v : Int64} (hd : decode (m_C i) pc = .ok (.lreturn, 1)) (hr : m_R i = some .long) (hq : Q (some (.long v)) h) : V G i pc lv [.long v] h c s Q :=
  fun X C E H locs cells slots ls hR hL hl h1 h2 => W.widen (Nat.le_trans (Nat.le_add_right _ _) h1) (Nat.le_trans (Nat.le_add_right _ _) h2) (E pc ls H locs (some (.long v)) h hq hR hL ⟨hd, hr⟩)
theorem V.areturn {a : Nat} {rt : FieldType} (hd : decode (m_C i) pc = .ok (.areturn, 1)) (hr : m_R i = some rt) (ho : (∃ n, rt = .object n) ∨ ∃ t, rt = .array t) (hq : Q (some (.ref a)) h) : V G i pc lv [.ref a] h c s Q :=
  fun X C E H locs cells slots ls hR hL hl h1 h2 => W.widen (Nat.le_trans (Nat.le_add_right _ _) h1) (Nat.le_trans (Nat.le_add_right _ _) h2) (E pc ls H locs (some (.ref a)) h hq hR hL ⟨hd, rt, hr, ho⟩)
theorem V.areturnN {rt : FieldType} (hd : decode (m_C i) pc = .ok (.areturn, 1)) (hr : m_R i = some rt) (ho : (∃ n, rt = .object n) ∨ ∃ t, rt = .array t) (hq : Q (some .null) h) : V G i pc lv [.null] h c s Q :=
  fun X C E H locs cells slots ls hR hL hl h1 h2 => W.widen (Nat.le_trans (Nat.le_add_right _ _) h1) (Nat.le_trans (Nat.le_add_right _ _) h2) (E pc ls H locs (some .null) h hq hR hL ⟨hd, rt, hr, ho⟩)
theorem V.vreturn (hd : decode (m_C i) pc = .ok (.return_, 1)) (hr : m_R i = none) (hq : Q (none) h) : V G i pc lv [] h c s Q :=
  fun X C E H locs cells slots ls hR hL hl h1 h2 => W.widen (Nat.le_trans (Nat.le_add_right _ _) h1) (Nat.le_trans (Nat.le_add_right _ _) h2) (E pc ls H locs (none) h hq hR hL ⟨hd, hr⟩)
end VI
end
section
section VH
variable {G : GG} {i : MM} {pc : Nat} {lv : List (Nat × Value)} {st : List Value} {h : HH} {c s : Nat} {Q Q' : Option Value → HH → Prop}
/-- entry idx of the pool of 'own' is field k of an object of kind kd -/
def f_ok (own : String) (idx kd k : Nat) : Prop := ∃ (C : String) (T : u_T) (N : Nat) (ref : String), vwCl[kd]? = some (C, T, N) ∧ (∀ w ∈ u_ws C T N, w ∈ tb) ∧ k < N ∧
  (Cond.fieldLink own idx ref (T k).2.1 (T k).2.2.1 ∈ tb ∨ ∃ host, (own, idx, ref, (T k).2.1, (T k).2.2.1, host) ∈ n_F) ∧ (ref = (T k).1 ∨ Cond.sameField ref (T k).1 (T k).2.1 (T k).2.2.1 ∈ tb)
theorem V.getf {a idx k : Nat} {v : Value} (hd : decode (m_C i) pc = .ok (.getfield idx, 3)) (ha : g_0 G ≤ a ∧ a < h.2.2) (hf : f_ok (m_Y i).cls idx (h.1 a).1 k) (hv : h.2.1 a k = v) (kk : V G i (pc + 3) lv (v :: st) h c s Q) : V G i pc lv (.ref a :: st) h c s Q := by
  intro X C E H locs cells slots ls hR hL hl h1 h2
  obtain ⟨C', T, N, ref, e1, e2, e3, e4, e5⟩ := hf
  obtain ⟨hx, hb, -, -, -, hown, hts, hK, -⟩ := id C
  obtain ⟨cell, q1, q2, q3, q4⟩ := (hR.2.2.2 a ha.1 ha.2).1 _ e1
  obtain ⟨hS, hfc, kC, hkC, hkind⟩ := hK.1 _ _ e1
  obtain ⟨cf, kf, fi, f, hi, hsl⟩ := hS k e3
  have hst := (u_facts hfc hkC (u_lays hts e2 e3) hi).1
  have hi' : X.2.2.2.1.fieldFound? ref (T k).2.1 (T k).2.2.1 = some (cf, kf, fi, f) := by
    rcases e5 with e5 | e5
    · rw [e5]; exact hi
    · exact u_same (hts _ e5) _ hi
  have hslot : cell.slots[f.slot]? = some v := by rw [hsl, q4 k e3, hv]
  have hkn : cell.vm ≠ .unknown := by rw [q3]; exact fun h => by cases h
  have kk' := kk X C E H locs cells slots ls hR hL hl h1 h2
  rcases e4 with e4 | ⟨host, e4⟩
  · exact W.getf hx hb hown (hts _ e4) hi' hst q1 hkn hslot rfl rfl hd kk'
  · exact va_Wgetf hx hb hown (va_Nw.use rfl (hK.2.2.1 _ e4)) hi' hst q1 hkn hslot rfl rfl hd kk'
theorem Rep.upd {h h' : HH} {H H' : Heap} {a : Nat} (hR : Rep G h H) (hk : h'.1 = h.1) (hz : h'.2.2 = h.2.2) (ho : ∀ b, b ≠ a → h'.2.1 b = h.2.1 b) (z : H'.size = H.size) (o : ∀ q : Nat, q ≠ a → H'[q]? = H[q]?) (ha : g_0 G ≤ a) (hc : a < h.2.2 → c_ok G h' H' a) : Rep G h' H' := by
  obtain ⟨r1, r2, r3, r4⟩ := hR
  refine ⟨by rw [z, hz]; exact r1, by rw [hz]; exact r2, fun q hq => ?_, fun b hb1 hb2 => ?_⟩
  · rw [o q (by omega)]; exact r3 q hq
  · by_cases e : b = a
    · subst e; exact hc (by rw [← hz]; exact hb2)
    · obtain ⟨c1, c2⟩ := r4 b hb1 (by rw [← hz]; exact hb2)
      refine ⟨fun r hr => ?_, fun ty hty => ?_⟩
      · rw [hk] at hr ⊢
        rw [ho b e]
        exact (c1 r hr).kept (o b e)
      · rw [hk] at hty ⊢
        rw [ho b e, o b e]
        exact c2 ty hty
theorem h_put_self {h : HH} {a k : Nat} {v : Value} : (h_put h a k v).2.1 a = updV (h.2.1 a) k v := by
  funext j
  show (if a = a ∧ j = k then v else h.2.1 a j) = if j = k then v else h.2.1 a j
  by_cases e : j = k <;> simp [e]
theorem h_put_ne {h : HH} {a b k : Nat} {v : Value} (e : b ≠ a) : (h_put h a k v).2.1 b = h.2.1 b := by
  funext j
  show (if b = a ∧ j = k then v else h.2.1 b j) = _
  simp [e]
/-- what a class's table must say, for stores -/
def t_okk (T : u_T) (N : Nat) : Prop := (∃ ty0 : Nat → FieldType, ∀ k, k < N → parseFieldDescriptor (T k).2.2.1 = some (ty0 k)) ∧ ∀ a, a < N → ∀ b, b < N → a ≠ b → (T a).2.1 ≠ (T b).2.1
def p_ok (own : String) (idx kd k : Nat) (ty : FieldType) (ini : Prop) : Prop := ∃ (C : String) (T : u_T) (N : Nat) (ref : String), vwCl[kd]? = some (C, T, N) ∧ (∀ w ∈ u_ws C T N, w ∈ tb) ∧ k < N ∧
  (Cond.fieldLink own idx ref (T k).2.1 (T k).2.2.1 ∈ tb ∨ ((T k).2.2.2 = false ∧ ∃ host, (own, idx, ref, (T k).2.1, (T k).2.2.1, host) ∈ n_F)) ∧ (ref = (T k).1 ∨ Cond.sameField ref (T k).1 (T k).2.1 (T k).2.2.1 ∈ tb) ∧
  t_okk T N ∧ parseFieldDescriptor (T k).2.2.1 = some ty ∧ ((T k).2.2.2 = false ∨ ((T k).2.2.2 = true ∧ ini ∧ (T k).1 = own))
theorem V.putf {a idx k : Nat} {v : Value} {ty : FieldType} (hd : decode (m_C i) pc = .ok (.putfield idx, 3)) (ha : g_0 G ≤ a ∧ a < h.2.2) (hf : p_ok (m_Y i).cls idx (h.1 a).1 k ty ((m_Y i).name = "<init>")) (hn : narrow ty v = v) (hfit : fits ty v = true) (kk : V G i (pc + 3) lv st (h_put h a k v) c s Q) : V G i pc lv (v :: .ref a :: st) h c s Q := by
  intro X C E H locs cells slots ls hR hL hl h1 h2
  obtain ⟨C', T, N, ref, e1, e2, e3, e4, e5, ⟨⟨ty0, e6⟩, e7⟩, e8, e9⟩ := hf
  obtain ⟨hx, hb, -, -, -, hown, hts, hK, hini, -⟩ := id C
  obtain ⟨cell, q1, q2, q3, q4⟩ := (hR.2.2.2 a ha.1 ha.2).1 _ e1
  obtain ⟨hS, hfc, kC, hkC, hkind⟩ := hK.1 _ _ e1
  have hap : ∀ x y, x < N → y < N → x ≠ y → (g_dI G (h.1 a).1) x ≠ (g_dI G (h.1 a).1) y := by
    intro x y hx hy hne
    obtain ⟨_, _, _, fa, hia, ea⟩ := hS x hx
    obtain ⟨_, _, _, fb, hib, eb⟩ := hS y hy
    rw [← ea, ← eb]
    refine u_apart (u_lays hts e2 hx) (u_lays hts e2 hy) hia hib ?_
    rw [(State.fieldFound?_type hia (e6 x hx)).1, (State.fieldFound?_type hib (e6 y hy)).1]
    exact e7 x hx y hy hne
  obtain ⟨cf, kf, fi, f, hi, hsl⟩ := hS k e3
  have hst := (u_facts hfc hkC (u_lays hts e2 e3) hi).1
  have hi' : X.2.2.2.1.fieldFound? ref (T k).2.1 (T k).2.2.1 = some (cf, kf, fi, f) := by
    rcases e5 with e5 | e5
    · rw [e5]; exact hi
    · exact u_same (hts _ e5) _ hi
  have hlt : f.slot < cell.slots.size := by rw [hsl]; exact k2_hasslot (q4 k e3)
  have go : ∀ H' : Heap, H'[a]? = some (cell.setSlot f.slot v) → H'.size = H.size → (∀ q : Nat, q ≠ a → H'[q]? = H[q]?) → XW G X H' (locs ++ [⟨a, f.slot⟩]) cells slots (F0 (x_m X) (pc + 3) ls st) := by
    intro H' g1 g2 g3
    refine kk X C E H' (locs ++ [⟨a, f.slot⟩]) cells slots ls (hR.upd (h' := h_put h a k v) (a := a) rfl rfl (fun b hb => h_put_ne hb) g2 g3 ha.1 (fun _ => ?_)) (t_lc hL ha.1) hl h1 h2
    refine ⟨fun r hr => ?_, fun ty' hty' => ?_⟩
    · have hr' : r = (C', T, N) := Option.some.inj (hr.symm.trans e1)
      subst hr'
      rw [h_put_self]
      rw [hsl] at g1
      exact ⟨_, g1, q2, q3, t_set q4 hap e3 v⟩
    · exact absurd hty' (by rw [show k_ty ((h_put h a k v).1 a).1 = none from k_dis _ _ e1]; exact fun h => by cases h)
  rcases e9 with e9 | ⟨e9, e10, e11⟩
  · have hlay := hts _ (e2 _ (u_in_lay e3))
    unfold u_lay at hlay
    rw [if_neg (by rw [e9]; decide)] at hlay
    have h6 := u_store hfc hkC hkind hlay hi e8 hn hfit
    rcases e4 with e4 | ⟨-, host, e4⟩
    · exact W.putK hx hb (f := f) ⟨hown, hts _ e4, ⟨_, _, _, hi'⟩, hst⟩ (by rw [q2]; exact h6) q1 q3 hlt rfl rfl hd go
    · exact va_WputK hx hb (f := f) hown (va_Nw.use rfl (hK.2.2.1 _ e4)) hi' hst (by rw [q2]; exact h6) q1 q3 hlt rfl rfl hd go
  · have hlay := hts _ (e2 _ (u_in_lay e3))
    unfold u_lay at hlay
    rw [if_pos e9] at hlay
    have hcf : (x_m X).cls = cf := by
      obtain ⟨_, _, c', _, _, _, -, -, hf', -, -, -, hown2, -⟩ := Cond.laysFinal_spec hlay
      have e1 : c' = cf := by have := hi.symm.trans hf'; simp at this; exact this.1.symm
      rw [e11] at hown2
      rw [← e1]; exact Option.some.inj (hown.symm.trans hown2)
    have h6 := u_fits hfc hkC hkind (Or.inr hlay) hi e8 hn hfit
    rcases e4 with e4 | ⟨e4, -⟩
    · exact W.putFinK hx hb hown (hts _ e4) hi' hst hcf (hini e10) (by rw [q2]; exact h6) q1 q3 hlt rfl rfl hd go
    · rw [e9] at e4; cases e4
theorem Rep.push {h : HH} {H H' : Heap} {kd n : Nat} {f : Nat → Value} (hR : Rep G h H) (z : H'.size = H.size + 1) (o : ∀ q : Nat, q < H.size → H'[q]? = H[q]?) (hc : c_ok G (h_new h kd n f) H' h.2.2) : Rep G (h_new h kd n f) H' := by
  obtain ⟨r1, r2, r3, r4⟩ := hR
  refine ⟨by rw [z, r1]; rfl, Nat.le_succ_of_le r2, fun q hq => ?_, fun b hb1 hb2 => ?_⟩
  · rw [o q (by omega)]; exact r3 q hq
  · by_cases e : b = h.2.2
    · subst e; exact hc
    · have hb3 : b < h.2.2 := by have : b < h.2.2 + 1 := hb2; omega
      have k1 : (h_new h kd n f).1 b = h.1 b := by show (if b = h.2.2 then _ else _) = _; rw [if_neg e]
      have k2 : (h_new h kd n f).2.1 b = h.2.1 b := by
        funext j
        show (if b = h.2.2 then _ else _) = _
        rw [if_neg e]
      obtain ⟨c1, c2⟩ := r4 b hb1 hb3
      refine ⟨fun r hr => ?_, fun ty hty => ?_⟩
      · rw [k1] at hr ⊢
        rw [k2]
        exact (c1 r hr).kept (o b (by omega))
      · rw [k1] at hty ⊢
        rw [k2, o b (by omega)]
        exact c2 ty hty
theorem h_new_k {h : HH} {kd n : Nat} {f : Nat → Value} : (h_new h kd n f).1 h.2.2 = (kd, n) := by show (if h.2.2 = h.2.2 then _ else _) = _; rw [if_pos rfl]
theorem h_new_f {h : HH} {kd n : Nat} {f : Nat → Value} : (h_new h kd n f).2.1 h.2.2 = f := by
  funext j
  show (if h.2.2 = h.2.2 then _ else _) = _
  rw [if_pos rfl]
/-- entry idx of the pool of 'own' is the class of kind kd, of N fields, whose defaults are f -/
def w_ok (own : String) (idx kd N : Nat) (f : Nat → Value) : Prop := ∃ (C : String) (T : u_T) (ty : Nat → FieldType), vwCl[kd]? = some (C, T, N) ∧ (∀ w ∈ u_ws C T N, w ∈ tb) ∧ (∀ k, k < N → parseFieldDescriptor (T k).2.2.1 = some (ty k)) ∧
  Cond.classLink own idx C ∈ tb ∧ Cond.instantiable C N ∈ tb ∧ Cond.initialized C ∈ tb ∧ ∀ j, j < N → defaultValue (ty j) = f j
theorem V.new {idx kd N c2 s2 : Nat} {f : Nat → Value} (hd : decode (m_C i) pc = .ok (.new idx, 3)) (hf : w_ok (m_Y i).cls idx kd N f) (hc : c2 + 1 ≤ c) (hs : s2 + N ≤ s) (kk : V G i (pc + 3) lv (.ref h.2.2 :: st) (h_new h kd N f) c2 s2 Q) : V G i pc lv st h c s Q := by
  intro X C E H locs cells slots ls hR hL hl h1 h2
  obtain ⟨C', T, ty, e1, e2, e3, e4, e5, e6, e7⟩ := hf
  obtain ⟨hx, hb, -, -, -, hown, hts, hK, -, -, -, hrc, hrs⟩ := id C
  have hKn := hK.1 _ _ e1
  refine W.newcK hx hb hown (hts _ e4) (hts _ e5) (hts _ e6) rfl hd (by omega) (by omega) hKn.2.1 hR.1 fun H1 kC hkC g1 g2 g3 => ?_
  refine kk X C E H1 locs (cells + 1) (slots + N) ls (hR.push (by rw [g2, hR.1]) (fun q hq => g3 q (by rw [← hR.1]; exact hq)) ⟨fun r hr => ?_, fun ty' hty' => ?_⟩) hL hl (by omega) (by omega)
  · rw [h_new_k] at hr ⊢
    rw [h_new_f]
    have hr' : r = (C', T, N) := Option.some.inj (hr.symm.trans e1)
    subst hr'
    exact (u_born ty hts e2 hKn hkC g1 e3).to e7
  · rw [h_new_k] at hty'
    exact absurd hty' (by rw [show k_ty kd = none from k_dis _ _ e1]; exact fun h => by cases h)
theorem V.newarray {at_ : ArrayType} {kd c2 s2 : Nat} {n : Int32} {N : Nat} (hd : decode (m_C i) pc = .ok (.newarray at_, 2)) (hk : k_ty kd = some (newarray.typeOf at_)) (hw : Cond.arrayClass (newarray.typeOf at_) ∈ tb) (hn : n = nI N) (hN : N < 2 ^ 20) (hc : c2 + 1 ≤ c) (hs : s2 + N ≤ s)
    (kk : V G i (pc + 2) lv (.ref h.2.2 :: st) (h_new h kd N (fun _ => defaultValue (newarray.typeOf at_))) c2 s2 Q) : V G i pc lv (.int n :: st) h c s Q := by
  intro X C E H locs cells slots ls hR hL hl h1 h2
  obtain ⟨hx, hb, -, -, -, hown, hts, hK, -, -, -, hrc, hrs⟩ := id C
  subst hn
  have hbt : N * componentBytes (newarray.typeOf at_) ≤ 536870912 := by
    have : componentBytes (newarray.typeOf at_) ≤ 8 := by cases at_ <;> decide
    have h9 := Nat.mul_le_mul_left N this
    omega
  refine va_newaK hx hb (hts _ hw) rfl hd rfl (nI_pos (by omega)) (nI_clamp (by omega)) hbt (by omega) (by omega) hR.1 fun H1 cA g1 g2 g3 hA hNm => ?_
  refine kk X C E H1 locs (cells + 1) (slots + N) ls (hR.push (by rw [g2, hR.1]) (fun q hq => g3 q (by rw [← hR.1]; exact hq)) ⟨fun r hr => ?_, fun ty' hty' => ?_⟩) hL hl (by omega) (by omega)
  · rw [h_new_k] at hr
    exact absurd hk (by rw [show k_ty kd = none from k_dis _ _ hr]; exact fun h => by cases h)
  · rw [h_new_k] at hty' ⊢
    rw [h_new_f]
    have e1 : cA = g_dA G kd := Option.some.inj (hNm.symm.trans (hK.2.1 _ _ hk).2)
    rw [← e1]
    exact g1
theorem a_in {j : Int32} {n : Nat} (h : vp_in j n) : j.toNatClampNeg < n := Nat.not_le.mp fun q => h (Or.inr q)
theorem a_sz {cA : ClassId} {n : Nat} {f : Nat → Value} {j : Int32} (h : vp_in j n) : ¬ (j < 0 ∨ (arrV cA n f).slots.size ≤ j.toNatClampNeg) := by rw [arrV_size]; exact h
theorem V.alen {a : Nat} {ty : FieldType} {n : Int32} (hd : decode (m_C i) pc = .ok (.arraylength, 1)) (ha : g_0 G ≤ a ∧ a < h.2.2) (hk : k_ty (h.1 a).1 = some ty) (hn : nI (h.1 a).2 = n) (kk : V G i (pc + 1) lv (.int n :: st) h c s Q) : V G i pc lv (.ref a :: st) h c s Q := by
  intro X C E H locs cells slots ls hR hL hl h1 h2
  obtain ⟨hx, hb, -, -, -, -, -, hK, -⟩ := id C
  exact W.alen hx hb ((hR.2.2.2 a ha.1 ha.2).2 ty hk) ((hK.2.1 _ _ hk).1 _ _) (by rw [arrV_size]; exact hn) rfl rfl hd (kk X C E H locs cells slots ls hR hL hl h1 h2)
theorem V.iaload {a : Nat} {j : Int32} {v : Value} (hd : decode (m_C i) pc = .ok (.iaload, 1)) (ha : g_0 G ≤ a ∧ a < h.2.2) (hk : k_ty (h.1 a).1 = some .int) (hin : vp_in j (h.1 a).2) (hv : h.2.1 a j.toNatClampNeg = v) (kk : V G i (pc + 1) lv (v :: st) h c s Q) : V G i pc lv (.int j :: .ref a :: st) h c s Q := by
  intro X C E H locs cells slots ls hR hL hl h1 h2
  obtain ⟨hx, hb, -, -, -, -, -, hK, -⟩ := id C
  exact W.iald hx hb ((hR.2.2.2 a ha.1 ha.2).2 _ hk) ((hK.2.1 _ _ hk).1 _ _) (fun q => by cases q) (a_sz hin) (by rw [arrV_read _ _ (a_in hin), hv]) rfl rfl hd (kk X C E H locs cells slots ls hR hL hl h1 h2)
theorem V.caload {a : Nat} {j : Int32} {v : Value} (hd : decode (m_C i) pc = .ok (.caload, 1)) (ha : g_0 G ≤ a ∧ a < h.2.2) (hk : k_ty (h.1 a).1 = some .char) (hin : vp_in j (h.1 a).2) (hv : h.2.1 a j.toNatClampNeg = v) (kk : V G i (pc + 1) lv (v :: st) h c s Q) : V G i pc lv (.int j :: .ref a :: st) h c s Q := by
  intro X C E H locs cells slots ls hR hL hl h1 h2
  obtain ⟨hx, hb, -, -, -, -, -, hK, -⟩ := id C
  exact W.cald hx hb ((hR.2.2.2 a ha.1 ha.2).2 _ hk) ((hK.2.1 _ _ hk).1 _ _) (fun q => by cases q) (a_sz hin) (by rw [arrV_read _ _ (a_in hin), hv]) rfl rfl hd (kk X C E H locs cells slots ls hR hL hl h1 h2)
theorem V.baload {a : Nat} {j : Int32} {v : Value} (hd : decode (m_C i) pc = .ok (.baload, 1)) (ha : g_0 G ≤ a ∧ a < h.2.2) (hk : k_ty (h.1 a).1 = some .byte) (hin : vp_in j (h.1 a).2) (hv : h.2.1 a j.toNatClampNeg = v) (kk : V G i (pc + 1) lv (v :: st) h c s Q) : V G i pc lv (.int j :: .ref a :: st) h c s Q := by
  intro X C E H locs cells slots ls hR hL hl h1 h2
  obtain ⟨hx, hb, -, -, -, -, -, hK, -⟩ := id C
  exact W.bald hx hb ((hR.2.2.2 a ha.1 ha.2).2 _ hk) ((hK.2.1 _ _ hk).1 _ _) (fun q => by cases q) (a_sz hin) (by rw [arrV_read _ _ (a_in hin), hv]) rfl rfl hd (kk X C E H locs cells slots ls hR hL hl h1 h2)
theorem V.zaload {a : Nat} {j : Int32} {v : Value} (hd : decode (m_C i) pc = .ok (.baload, 1)) (ha : g_0 G ≤ a ∧ a < h.2.2) (hk : k_ty (h.1 a).1 = some .boolean) (hin : vp_in j (h.1 a).2) (hv : h.2.1 a j.toNatClampNeg = v) (kk : V G i (pc + 1) lv (v :: st) h c s Q) : V G i pc lv (.int j :: .ref a :: st) h c s Q := by
  intro X C E H locs cells slots ls hR hL hl h1 h2
  obtain ⟨hx, hb, -, -, -, -, -, hK, -⟩ := id C
  exact W.zald hx hb ((hR.2.2.2 a ha.1 ha.2).2 _ hk) ((hK.2.1 _ _ hk).1 _ _) (fun q => by cases q) (a_sz hin) (by rw [arrV_read _ _ (a_in hin), hv]) rfl rfl hd (kk X C E H locs cells slots ls hR hL hl h1 h2)
theorem V.saload {a : Nat} {j : Int32} {v : Value} (hd : decode (m_C i) pc = .ok (.saload, 1)) (ha : g_0 G ≤ a ∧ a < h.2.2) (hk : k_ty (h.1 a).1 = some .short) (hin : vp_in j (h.1 a).2) (hv : h.2.1 a j.toNatClampNeg = v) (kk : V G i (pc + 1) lv (v :: st) h c s Q) : V G i pc lv (.int j :: .ref a :: st) h c s Q := by
  intro X C E H locs cells slots ls hR hL hl h1 h2
  obtain ⟨hx, hb, -, -, -, -, -, hK, -⟩ := id C
  exact W.sald hx hb ((hR.2.2.2 a ha.1 ha.2).2 _ hk) ((hK.2.1 _ _ hk).1 _ _) (fun q => by cases q) (a_sz hin) (by rw [arrV_read _ _ (a_in hin), hv]) rfl rfl hd (kk X C E H locs cells slots ls hR hL hl h1 h2)
theorem V.laload {a : Nat} {j : Int32} {v : Value} (hd : decode (m_C i) pc = .ok (.laload, 1)) (ha : g_0 G ≤ a ∧ a < h.2.2) (hk : k_ty (h.1 a).1 = some .long) (hin : vp_in j (h.1 a).2) (hv : h.2.1 a j.toNatClampNeg = v) (kk : V G i (pc + 1) lv (v :: st) h c s Q) : V G i pc lv (.int j :: .ref a :: st) h c s Q := by
  intro X C E H locs cells slots ls hR hL hl h1 h2
  obtain ⟨hx, hb, -, -, -, -, -, hK, -⟩ := id C
  exact W.lald hx hb ((hR.2.2.2 a ha.1 ha.2).2 _ hk) ((hK.2.1 _ _ hk).1 _ _) (fun q => by cases q) (a_sz hin) (by rw [arrV_read _ _ (a_in hin), hv]) rfl rfl hd (kk X C E H locs cells slots ls hR hL hl h1 h2)
theorem V.iastore {a : Nat} {j : Int32} {x : Int32} {v : Value} (hd : decode (m_C i) pc = .ok (.iastore, 1)) (ha : g_0 G ≤ a ∧ a < h.2.2) (hk : k_ty (h.1 a).1 = some .int) (hin : vp_in j (h.1 a).2) (hv : .int x = v) (kk : V G i (pc + 1) lv st (h_put h a j.toNatClampNeg v) c s Q) : V G i pc lv (.int x :: .int j :: .ref a :: st) h c s Q := by
  intro X C E H locs cells slots ls hR hL hl h1 h2
  obtain ⟨hx, hb, -, -, -, -, -, hK, -⟩ := id C
  subst hv
  refine W.iast hx hb ((hR.2.2.2 a ha.1 ha.2).2 _ hk) ((hK.2.1 _ _ hk).1 _ _) (fun q => by cases q) (a_sz hin) rfl rfl hd fun H' g1 g2 g3 => ?_
  refine kk X C E H' _ cells slots ls (hR.upd (h' := h_put h a j.toNatClampNeg _) (a := a) rfl rfl (fun b hb => h_put_ne hb) g2 g3 ha.1 (fun _ => ⟨fun r hr => ?_, fun ty' hty' => ?_⟩)) (t_lc hL ha.1) hl h1 h2
  · exact absurd hk (by rw [show k_ty (h.1 a).1 = none from k_dis _ _ hr]; exact fun h => by cases h)
  · rw [h_put_self, g1, arrV_store]
    rfl
theorem V.castore {a : Nat} {j : Int32} {x : Int32} {v : Value} (hd : decode (m_C i) pc = .ok (.castore, 1)) (ha : g_0 G ≤ a ∧ a < h.2.2) (hk : k_ty (h.1 a).1 = some .char) (hin : vp_in j (h.1 a).2) (hv : narrow .char (.int x) = v) (kk : V G i (pc + 1) lv st (h_put h a j.toNatClampNeg v) c s Q) : V G i pc lv (.int x :: .int j :: .ref a :: st) h c s Q := by
  intro X C E H locs cells slots ls hR hL hl h1 h2
  obtain ⟨hx, hb, -, -, -, -, -, hK, -⟩ := id C
  subst hv
  refine W.cast hx hb ((hR.2.2.2 a ha.1 ha.2).2 _ hk) ((hK.2.1 _ _ hk).1 _ _) (fun q => by cases q) (a_sz hin) rfl rfl hd fun H' g1 g2 g3 => ?_
  refine kk X C E H' _ cells slots ls (hR.upd (h' := h_put h a j.toNatClampNeg _) (a := a) rfl rfl (fun b hb => h_put_ne hb) g2 g3 ha.1 (fun _ => ⟨fun r hr => ?_, fun ty' hty' => ?_⟩)) (t_lc hL ha.1) hl h1 h2
  · exact absurd hk (by rw [show k_ty (h.1 a).1 = none from k_dis _ _ hr]; exact fun h => by cases h)
  · rw [h_put_self, g1, arrV_store]
    rfl
theorem V.bastore {a : Nat} {j : Int32} {x : Int32} {v : Value} (hd : decode (m_C i) pc = .ok (.bastore, 1)) (ha : g_0 G ≤ a ∧ a < h.2.2) (hk : k_ty (h.1 a).1 = some .byte) (hin : vp_in j (h.1 a).2) (hv : narrow .byte (.int x) = v) (kk : V G i (pc + 1) lv st (h_put h a j.toNatClampNeg v) c s Q) : V G i pc lv (.int x :: .int j :: .ref a :: st) h c s Q := by
  intro X C E H locs cells slots ls hR hL hl h1 h2
  obtain ⟨hx, hb, -, -, -, -, -, hK, -⟩ := id C
  subst hv
  refine W.bast hx hb ((hR.2.2.2 a ha.1 ha.2).2 _ hk) ((hK.2.1 _ _ hk).1 _ _) (fun q => by cases q) (a_sz hin) rfl rfl hd fun H' g1 g2 g3 => ?_
  refine kk X C E H' _ cells slots ls (hR.upd (h' := h_put h a j.toNatClampNeg _) (a := a) rfl rfl (fun b hb => h_put_ne hb) g2 g3 ha.1 (fun _ => ⟨fun r hr => ?_, fun ty' hty' => ?_⟩)) (t_lc hL ha.1) hl h1 h2
  · exact absurd hk (by rw [show k_ty (h.1 a).1 = none from k_dis _ _ hr]; exact fun h => by cases h)
  · rw [h_put_self, g1, arrV_store]
    rfl
theorem V.zastore {a : Nat} {j : Int32} {x : Int32} {v : Value} (hd : decode (m_C i) pc = .ok (.bastore, 1)) (ha : g_0 G ≤ a ∧ a < h.2.2) (hk : k_ty (h.1 a).1 = some .boolean) (hin : vp_in j (h.1 a).2) (hv : narrow .boolean (.int x) = v) (kk : V G i (pc + 1) lv st (h_put h a j.toNatClampNeg v) c s Q) : V G i pc lv (.int x :: .int j :: .ref a :: st) h c s Q := by
  intro X C E H locs cells slots ls hR hL hl h1 h2
  obtain ⟨hx, hb, -, -, -, -, -, hK, -⟩ := id C
  subst hv
  refine W.zast hx hb ((hR.2.2.2 a ha.1 ha.2).2 _ hk) ((hK.2.1 _ _ hk).1 _ _) (fun q => by cases q) (a_sz hin) rfl rfl hd fun H' g1 g2 g3 => ?_
  refine kk X C E H' _ cells slots ls (hR.upd (h' := h_put h a j.toNatClampNeg _) (a := a) rfl rfl (fun b hb => h_put_ne hb) g2 g3 ha.1 (fun _ => ⟨fun r hr => ?_, fun ty' hty' => ?_⟩)) (t_lc hL ha.1) hl h1 h2
  · exact absurd hk (by rw [show k_ty (h.1 a).1 = none from k_dis _ _ hr]; exact fun h => by cases h)
  · rw [h_put_self, g1, arrV_store]
    rfl
theorem V.sastore {a : Nat} {j : Int32} {x : Int32} {v : Value} (hd : decode (m_C i) pc = .ok (.sastore, 1)) (ha : g_0 G ≤ a ∧ a < h.2.2) (hk : k_ty (h.1 a).1 = some .short) (hin : vp_in j (h.1 a).2) (hv : narrow .short (.int x) = v) (kk : V G i (pc + 1) lv st (h_put h a j.toNatClampNeg v) c s Q) : V G i pc lv (.int x :: .int j :: .ref a :: st) h c s Q := by
  intro X C E H locs cells slots ls hR hL hl h1 h2
  obtain ⟨hx, hb, -, -, -, -, -, hK, -⟩ := id C
  subst hv
  refine W.sast hx hb ((hR.2.2.2 a ha.1 ha.2).2 _ hk) ((hK.2.1 _ _ hk).1 _ _) (fun q => by cases q) (a_sz hin) rfl rfl hd fun H' g1 g2 g3 => ?_
  refine kk X C E H' _ cells slots ls (hR.upd (h' := h_put h a j.toNatClampNeg _) (a := a) rfl rfl (fun b hb => h_put_ne hb) g2 g3 ha.1 (fun _ => ⟨fun r hr => ?_, fun ty' hty' => ?_⟩)) (t_lc hL ha.1) hl h1 h2
  · exact absurd hk (by rw [show k_ty (h.1 a).1 = none from k_dis _ _ hr]; exact fun h => by cases h)
  · rw [h_put_self, g1, arrV_store]
    rfl
theorem V.lastore {a : Nat} {j : Int32} {x : Int64} {v : Value} (hd : decode (m_C i) pc = .ok (.lastore, 1)) (ha : g_0 G ≤ a ∧ a < h.2.2) (hk : k_ty (h.1 a).1 = some .long) (hin : vp_in j (h.1 a).2) (hv : .long x = v) (kk : V G i (pc + 1) lv st (h_put h a j.toNatClampNeg v) c s Q) : V G i pc lv (.long x :: .int j :: .ref a :: st) h c s Q := by
  intro X C E H locs cells slots ls hR hL hl h1 h2
  obtain ⟨hx, hb, -, -, -, -, -, hK, -⟩ := id C
  subst hv
  refine W.last hx hb ((hR.2.2.2 a ha.1 ha.2).2 _ hk) ((hK.2.1 _ _ hk).1 _ _) (fun q => by cases q) (a_sz hin) rfl rfl hd fun H' g1 g2 g3 => ?_
  refine kk X C E H' _ cells slots ls (hR.upd (h' := h_put h a j.toNatClampNeg _) (a := a) rfl rfl (fun b hb => h_put_ne hb) g2 g3 ha.1 (fun _ => ⟨fun r hr => ?_, fun ty' hty' => ?_⟩)) (t_lc hL ha.1) hl h1 h2
  · exact absurd hk (by rw [show k_ty (h.1 a).1 = none from k_dis _ _ hr]; exact fun h => by cases h)
  · rw [h_put_self, g1, arrV_store]
    rfl
theorem V.slen {n : Int32} (hd : decode (m_C i) pc = .ok (.arraylength, 1)) (hn : nI (g_L G) = n) (hb0 : g_b G < g_0 G) (kk : V G i (pc + 1) lv (.int n :: st) h c s Q) : V G i pc lv (.ref (g_b G) :: st) h c s Q := by
  intro X C E H locs cells slots ls hR hL hl h1 h2
  obtain ⟨hx, hb, -, -, -, -, -, hK, -⟩ := id C
  obtain ⟨scr, z1, z2, z3, z4, z5⟩ := hK.2.2.2.2.2.2
  exact W.alen hx hb (by rw [hR.2.2.1 _ hb0]; exact z1) z2 (by rw [z4]; exact hn) rfl rfl hd (kk X C E H locs cells slots ls hR hL hl h1 h2)
theorem V.sld {j : Int32} {v : Int32} (hd : decode (m_C i) pc = .ok (.iaload, 1)) (hb0 : g_b G < g_0 G) (hin : vp_in j (g_L G)) (hv : g_xs G j.toNatClampNeg = v) (kk : V G i (pc + 1) lv (.int v :: st) h c s Q) : V G i pc lv (.int j :: .ref (g_b G) :: st) h c s Q := by
  intro X C E H locs cells slots ls hR hL hl h1 h2
  obtain ⟨hx, hb, -, -, -, -, -, hK, -⟩ := id C
  obtain ⟨scr, z1, z2, z3, z4, z5⟩ := hK.2.2.2.2.2.2
  subst hv
  exact W.iald hx hb (by rw [hR.2.2.1 _ hb0]; exact z1) z2 z3 (by rw [z4]; exact hin) (z5 _ (a_in hin)) rfl rfl hd (kk X C E H locs cells slots ls hR hL hl h1 h2)
theorem V.objInit {a idx : Nat} (hd : decode (m_C i) pc = .ok (.invokespecial idx, 3)) (hw : Cond.methodLink (m_Y i).cls idx objectInit ∈ tb) (hw2 : Cond.instanceMethod objectInit ∈ tb) (hw3 : Cond.code objectInit ⟨#[0xb1]⟩ 1 none ∈ tb) (hD : 1 ≤ m_D i) (hW : 45 ≤ m_W i) (hs : (st.map fun v => v.category).sum ≤ 8) (kk : V G i (pc + 3) lv st h c s Q) : V G i pc lv (.ref a :: st) h c s Q := by
  intro X C E H locs cells slots ls hR hL hl h1 h2
  obtain ⟨hx, hb, -, -, hml, hown, hts, hK, -, hfr, hlo, -, -⟩ := id C
  exact W.objInit hx hb hown (hts _ hw) (hts _ hw2) (hts _ hw3) rfl (by rw [hml]; exact hl.1) rfl hd (by omega) (by show 2 * 0 + _ + 12 ≤ _; omega) (kk X C E H locs cells slots ls hR hL hl h1 h2)
/-- of the class of an object of kind kd: castable to the class of pool entry idx, or not -/
theorem V.instY {a idx : Nat} {r : vw_C} {nm : String} (hd : decode (m_C i) pc = .ok (.instanceof idx, 3)) (ha : g_0 G ≤ a ∧ a < h.2.2) (hk : vwCl[(h.1 a).1]? = some r) (hw : Cond.classLink (m_Y i).cls idx nm ∈ tb) (hc : (r.1, nm) ∈ n_C) (kk : V G i (pc + 3) lv (.int 1 :: st) h c s Q) : V G i pc lv (.ref a :: st) h c s Q := by
  intro X C E H locs cells slots ls hR hL hl h1 h2
  obtain ⟨hx, hb, -, -, -, hown, hts, hK, -⟩ := id C
  obtain ⟨cell, q1, q2, q3, q4⟩ := (hR.2.2.2 a ha.1 ha.2).1 _ hk
  exact va_instY hx hb hown (hts _ hw) (hK.2.2.2.2.1 _ hc) ⟨cell, q1, by rw [q3]; rfl, by rw [q2]; exact (hK.1 _ _ hk).2.1⟩ hd (kk X C E H locs cells slots ls hR hL hl h1 h2)
theorem V.castY {a idx : Nat} {r : vw_C} {nm : String} (hd : decode (m_C i) pc = .ok (.checkcast idx, 3)) (ha : g_0 G ≤ a ∧ a < h.2.2) (hk : vwCl[(h.1 a).1]? = some r) (hw : Cond.classLink (m_Y i).cls idx nm ∈ tb) (hc : (r.1, nm) ∈ n_C) (kk : V G i (pc + 3) lv (.ref a :: st) h c s Q) : V G i pc lv (.ref a :: st) h c s Q := by
  intro X C E H locs cells slots ls hR hL hl h1 h2
  obtain ⟨hx, hb, -, -, -, hown, hts, hK, -⟩ := id C
  obtain ⟨cell, q1, q2, q3, q4⟩ := (hR.2.2.2 a ha.1 ha.2).1 _ hk
  exact va_castY hx hb hown (hts _ hw) (hK.2.2.2.2.1 _ hc) ⟨cell, q1, by rw [q3]; rfl, by rw [q2]; exact (hK.1 _ _ hk).2.1⟩ hd (kk X C E H locs cells slots ls hR hL hl h1 h2)
theorem V.instS {a idx : Nat} {r : vw_C} (hd : decode (m_C i) pc = .ok (.instanceof idx, 3)) (ha : g_0 G ≤ a ∧ a < h.2.2) (hk : vwCl[(h.1 a).1]? = some r) (hw : Cond.classLink (m_Y i).cls idx r.1 ∈ tb) (kk : V G i (pc + 3) lv (.int 1 :: st) h c s Q) : V G i pc lv (.ref a :: st) h c s Q := by
  intro X C E H locs cells slots ls hR hL hl h1 h2
  obtain ⟨hx, hb, -, -, -, hown, hts, hK, -⟩ := id C
  obtain ⟨cell, q1, q2, q3, q4⟩ := (hR.2.2.2 a ha.1 ha.2).1 _ hk
  exact va_instS hx hb hown (hts _ hw) (hK.1 _ _ hk).2 ⟨cell, q1, by rw [q3]; rfl, by rw [q2]; exact (hK.1 _ _ hk).2.1⟩ hd (kk X C E H locs cells slots ls hR hL hl h1 h2)
theorem V.castS {a idx : Nat} {r : vw_C} (hd : decode (m_C i) pc = .ok (.checkcast idx, 3)) (ha : g_0 G ≤ a ∧ a < h.2.2) (hk : vwCl[(h.1 a).1]? = some r) (hw : Cond.classLink (m_Y i).cls idx r.1 ∈ tb) (kk : V G i (pc + 3) lv (.ref a :: st) h c s Q) : V G i pc lv (.ref a :: st) h c s Q := by
  intro X C E H locs cells slots ls hR hL hl h1 h2
  obtain ⟨hx, hb, -, -, -, hown, hts, hK, -⟩ := id C
  obtain ⟨cell, q1, q2, q3, q4⟩ := (hR.2.2.2 a ha.1 ha.2).1 _ hk
  exact va_castS hx hb hown (hts _ hw) (hK.1 _ _ hk).2 ⟨cell, q1, by rw [q3]; rfl, by rw [q2]; exact (hK.1 _ _ hk).2.1⟩ hd (kk X C E H locs cells slots ls hR hL hl h1 h2)
theorem V.instNo {a idx : Nat} {r : vw_C} {nm : String} (hd : decode (m_C i) pc = .ok (.instanceof idx, 3)) (ha : g_0 G ≤ a ∧ a < h.2.2) (hk : vwCl[(h.1 a).1]? = some r) (hw : Cond.classLink (m_Y i).cls idx nm ∈ tb) (hc : (r.1, nm) ∈ n_N) (kk : V G i (pc + 3) lv (.int 0 :: st) h c s Q) : V G i pc lv (.ref a :: st) h c s Q := by
  intro X C E H locs cells slots ls hR hL hl h1 h2
  obtain ⟨hx, hb, -, -, -, hown, hts, hK, -⟩ := id C
  obtain ⟨cell, q1, q2, q3, q4⟩ := (hR.2.2.2 a ha.1 ha.2).1 _ hk
  exact va_instNo hx hb hown (hts _ hw) (hK.2.2.2.2.2.1 _ hc) ⟨cell, q1, by rw [q3]; rfl, by rw [q2]; exact (hK.1 _ _ hk).2.1⟩ hd (kk X C E H locs cells slots ls hR hL hl h1 h2)
theorem V.instN {idx : Nat} (hd : decode (m_C i) pc = .ok (.instanceof idx, 3)) (kk : V G i (pc + 3) lv (.int 0 :: st) h c s Q) : V G i pc lv (.null :: st) h c s Q :=
  fun X C E H locs cells slots ls hR hL hl h1 h2 => lv_instN C.1 C.2.1 hd (kk X C E H locs cells slots ls hR hL hl h1 h2)
theorem V.castN {idx : Nat} (hd : decode (m_C i) pc = .ok (.checkcast idx, 3)) (kk : V G i (pc + 3) lv (.null :: st) h c s Q) : V G i pc lv (.null :: st) h c s Q :=
  fun X C E H locs cells slots ls hR hL hl h1 h2 => lv_castN C.1 C.2.1 hd (kk X C E H locs cells slots ls hR hL hl h1 h2)
end VH
end
section
section VCL
variable {G : GG} {i : MM} {pc : Nat} {lv : List (Nat × Value)} {st : List Value} {h : HH} {c s : Nat} {Q Q' : Option Value → HH → Prop}
theorem tb_good : GoodIn tb tb := fun w hw => ⟨hw, good_of_word (List.mem_filter.mp hw).2⟩
/-- method j, of n parameters, can be called: its code is known, its class is ready -/
def m_ok (j : MM) (n : Nat) : Prop := Cond.code (m_Y j) (m_C j) (m_L j) (m_R j) ∈ tb ∧ Cond.initialized (m_Y j).cls ∈ tb ∧ plainName (m_Y j).cls = true ∧
  ((m_Y j).cls ≠ "java/lang/invoke/MethodHandle" ∧ (m_Y j).cls ≠ "java/lang/invoke/VarHandle" ∧ (parseMethodDescriptor (m_Y j).desc).map (fun d => d.parameters.length) = some n) ∧ m_L j ≤ 45
theorem m_ok.good {j : MM} {n : Nat} (hj : m_ok j n) : GoodIn tb (Cond.code (m_Y j) (m_C j) (m_L j) (m_R j) :: tb) := fun w hw => by
  rcases List.mem_cons.mp hw with e | e
  · subst e; exact tb_good _ hj.1
  · exact tb_good _ e
def p_r (G : GG) (As : List Value) (h : HH) : Array Value → State → Prop := fun a U => a = As.toArray ∧ Rep G h U.heap ∧ KK G U
def q_r (G : GG) (Q : Option Value → HH → Prop) : Array Value → State → Outcome → State → Prop := fun _ _ o t => ∃ r h', o = .returned r ∧ Q r h' ∧ Rep G h' t.heap
theorem Met.ofV {j : MM} {n : Nat} {As : List Value} (hj : m_ok j n) (hl : (lg_sl As).length ≤ m_L j) (kk : V G j 0 (lv_args 0 As) [] h c s Q) :
    Met (g_l G) (m_Y j) (Cond.code (m_Y j) (m_C j) (m_L j) (m_R j) :: tb) ({ frames := m_D j, cells := c, slots := s, locals := m_W j }) (p_r G As h) (q_r G Q) c s (fun q => g_0 G ≤ q) := by
  refine Met.ofW (cc := m_C j) (maxL := m_L j) (ret := m_R j) hj.2.2.1 rfl ?_
  intro p e s0 m args below meth cd s₁ B hml hv
  obtain ⟨rfl, hR, hK⟩ := hv
  have hts := atoms_spec (ws := Cond.code (m_Y j) (m_C j) (m_L j) (m_R j) :: tb) B.pre
  have hlocks := B.notSynchronized
  rw [lg_entry_eq]
  refine kk (p, e, _, s0, m, As.toArray, below, meth, cd, MQ below (q_r G Q) As.toArray s0 c s (fun q => g_0 G ≤ q), c, s)
    ⟨B.exec, B.bytes, B.returns, B.notSynchronized, hml, findClass_of_methodNamed B.named, fun w hw => hts w (List.mem_cons_of_mem _ hw), hK, fun e => (name_of_methodNamed B.named B.method).1.trans e, Nat.le_refl _, Nat.le_refl _, Nat.le_refl _, Nat.le_refl _⟩
    ?_ s0.heap [] 0 0 _ hR (fun q h => by cases h) (lv_entry As hl) (Nat.le_of_eq (Nat.zero_add _)) (Nat.le_of_eq (Nat.zero_add _))
  intro pc ls H locs r h' hq hR' hL' hr
  cases r with
  | none => exact W.vret B.exec B.bytes (B.returns.trans hr.2) (fun t ht hW => ⟨none, h', rfl, hq, by rw [ht]; exact hR'⟩) hL' hr.1
  | some v =>
    cases v with
    | int v =>
      obtain ⟨hd, ty, hr1, hr2⟩ := hr
      exact W.zret B.exec B.bytes (B.returns.trans hr1) hr2 (fun t ht hW => ⟨_, h', rfl, hq, by rw [ht]; exact hR'⟩) hL' hd
    | long v => exact W.lret B.exec B.bytes (B.returns.trans hr.2) (fun t ht hW => ⟨_, h', rfl, hq, by rw [ht]; exact hR'⟩) hL' hr.1
    | null =>
      obtain ⟨hd, rt, hr1, hr2⟩ := hr
      exact W.aret B.exec B.bytes (B.returns.trans hr1) hr2 (Or.inl rfl) (fun t ht hW => ⟨_, h', rfl, hq, by rw [ht]; exact hR'⟩) hL' hd
    | ref a =>
      obtain ⟨hd, rt, hr1, hr2⟩ := hr
      exact W.aret B.exec B.bytes (B.returns.trans hr1) hr2 (Or.inr ⟨a, rfl⟩) (fun t ht hW => ⟨_, h', rfl, hq, by rw [ht]; exact hR'⟩) hL' hd
    | float v => exact hr.elim
    | double v => exact hr.elim
    | retAddr v => exact hr.elim
theorem c_back {X : VX} (C : Cx G i X) (E : Ends G i X Q) {H : Heap} {locs : List Loc} {cells slots : Nat} {ls : Array Slot} (hL : ∀ q ∈ locs, g_0 G ≤ q.base) (hl : lv_has ls (m_L i) lv) (h1 : cells + c ≤ x_ce X) (h2 : slots + s ≤ x_se X)
    {c1 c2 s1 s2 : Nat} (hc : c1 + c2 ≤ c) (hs : s1 + s2 ≤ s) {st0 rest : List Value} {as : Array Value}
    (hr : va_Run X.1 (g_l G) X.2.1 X.2.2.1 X.2.2.2.1 X.2.2.2.2.1 X.2.2.2.2.2.1 X.2.2.2.2.2.2.1 X.2.2.2.2.2.2.2.1 X.2.2.2.2.2.2.2.2.1 H locs cells slots c1 s1 (F0 (x_m X) pc ls st0) rest (q_r G (fun r h' => V G i (pc + 3) lv (r.toList ++ rest) h' c2 s2 Q) as) (fun q => g_0 G ≤ q)) :
    XW G X H locs cells slots (F0 (x_m X) pc ls st0) := by
  intro T hT X0
  obtain ⟨v, st₀, t, T', L, h0, X', hL', e1, e2, ⟨r, h', hv, hV, hR'⟩, go⟩ := hr T hT X0
  cases hv
  obtain ⟨t2, a1, b1⟩ := hV X C E T'.heap (locs ++ L) (cells + c1) (slots + s1) ls (by rw [e1]; exact hR') (fun q hq => by
    rcases List.mem_append.mp hq with z | z
    · exact hL q z
    · exact hL' q z) hl (by omega) (by omega) T' rfl X'
  exact ⟨t2, go t2 a1, b1⟩
theorem p_rs {X : VX} {H : Heap} {As : List Value} (C : Cx G i X) (hR : Rep G h H) : PreS X.2.2.2.1 H (p_r G As h) As :=
  ⟨fun a U g mk q => ⟨q.1, q.2.1, q.2.2.same rfl⟩, fun U hU hW => ⟨rfl, by rw [hU]; exact hR, C.2.2.2.2.2.2.2.1.moved hW⟩⟩
theorem p_rv {X : VX} {H : Heap} {As : List Value} {b : Nat} {r : vw_C} (C : Cx G i X) (hR : Rep G h H) (hb : g_0 G ≤ b ∧ b < h.2.2) (hk : vwCl[(h.1 b).1]? = some r) : PreV X.2.2.2.1 H r.1 b (p_r G (.ref b :: As) h) As := by
  obtain ⟨cell, q1, q2, q3, q4⟩ := (hR.2.2.2 b hb.1 hb.2).1 _ hk
  exact ⟨fun a U g mk q => ⟨q.1, q.2.1, q.2.2.same rfl⟩, ⟨cell, q1, by rw [q3]; rfl, by rw [q2]; exact (C.2.2.2.2.2.2.2.1.1 _ _ hk).2.1⟩, fun U hU hW => ⟨rfl, by rw [hU]; exact hR, C.2.2.2.2.2.2.2.1.moved hW⟩⟩
/-- entry idx of the pool of 'own' is method j -/
def n_ok (own : String) (idx : Nat) (j : MM) : Prop := Cond.methodLink own idx (m_Y j) ∈ tb ∨ ∃ host, (own, idx, m_Y j, host) ∈ n_M
theorem V.callS {j : MM} {n idx : Nat} (c1 c2 s1 s2 : Nat) (As : List Value) {rest st0 : List Value} (hd : decode (m_C i) pc = .ok (.invokestatic idx, 3)) (hj : m_ok j n) (hk : n_ok (m_Y i).cls idx j) (hsm : Cond.static (m_Y j) ∈ tb) (hD : m_D j < m_D i) (hW : 19 + m_L j + m_W j ≤ m_W i) (hst : st0 = As.reverse ++ rest) (hn : As.length = n) (hl : (lg_sl As).length ≤ m_L j) (hw : (rest.map fun v => v.category).sum ≤ 8) (hc : c1 + c2 ≤ c) (hs : s1 + s2 ≤ s)
    (kk : V G j 0 (lv_args 0 As) [] h c1 s1 (fun r h' => V G i (pc + 3) lv (r.toList ++ rest) h' c2 s2 Q)) : V G i pc lv st0 h c s Q := by
  intro X C E H locs cells slots ls hR hL hlv h1 h2
  subst hst
  obtain ⟨hx, hb, -, -, hml, hown, hts, hK, -, hfr, hlo, hrc, hrs⟩ := id C
  have hM := Met.ofV hj hl kk
  have hRm : m_D j + 1 ≤ X.2.2.1.frames ∧ 8 + (m_L j + 11) + m_W j ≤ X.2.2.1.locals := ⟨by omega, by omega⟩
  rcases hk with e | ⟨host, e⟩
  · exact c_back C E hL hlv h1 h2 hc hs (va_runS (nL := m_L i) ⟨hx, hb, hml, hown, hts⟩ hM ⟨callB_of n hts hj.good rfl rfl rfl (hts _ hj.2.1) (hts _ e) hj.2.2.2.1 hRm, hts _ hsm⟩ (p_rs C hR) rfl hn hlv.1 rfl (lv_room hw) hd ⟨by omega, by omega⟩)
  · exact c_back C E hL hlv h1 h2 hc hs (va_runSN (nL := m_L i) ⟨hx, hb, hml, hown, hts⟩ hM ⟨va_cnB n hts hj.good rfl rfl rfl (hK.2.2.2.1 _ e) (hts _ hj.2.1) hj.2.2.2.1 hRm, hts _ hsm, trivial⟩ (p_rs C hR) rfl hn hlv.1 rfl (lv_room hw) hd ⟨by omega, by omega⟩)
theorem V.callV {j : MM} {n idx b : Nat} {r : vw_C} (c1 c2 s1 s2 : Nat) (As : List Value) {rest st0 : List Value} (hd : decode (m_C i) pc = .ok (.invokevirtual idx, 3)) (hj : m_ok j n) (hk : n_ok (m_Y i).cls idx j) (hb : g_0 G ≤ b ∧ b < h.2.2) (hkd : vwCl[(h.1 b).1]? = some r) (him : Cond.instanceMethod (m_Y j) ∈ tb) (hse : Cond.selects r.1 (m_Y j) (m_Y j) ∈ tb) (hD : m_D j < m_D i) (hW : 19 + m_L j + m_W j ≤ m_W i) (hst : st0 = As.reverse ++ .ref b :: rest) (hn : As.length = n) (hl : (lg_sl (.ref b :: As)).length ≤ m_L j) (hw : (rest.map fun v => v.category).sum ≤ 8) (hc : c1 + c2 ≤ c) (hs : s1 + s2 ≤ s)
    (kk : V G j 0 (lv_args 0 (.ref b :: As)) [] h c1 s1 (fun r h' => V G i (pc + 3) lv (r.toList ++ rest) h' c2 s2 Q)) : V G i pc lv st0 h c s Q := by
  intro X C E H locs cells slots ls hR hL hlv h1 h2
  subst hst
  obtain ⟨hx, hbc, -, -, hml, hown, hts, hK, -, hfr, hlo, hrc, hrs⟩ := id C
  have hM := Met.ofV hj hl kk
  have hRm : m_D j + 1 ≤ X.2.2.1.frames ∧ 8 + (m_L j + 11) + m_W j ≤ X.2.2.1.locals := ⟨by omega, by omega⟩
  rcases hk with e | ⟨host, e⟩
  · exact c_back C E hL hlv h1 h2 hc hs (va_runV (nL := m_L i) ⟨hx, hbc, hml, hown, hts⟩ hM ⟨callB_of n hts hj.good rfl rfl rfl (hts _ hj.2.1) (hts _ e) hj.2.2.2.1 hRm, hts _ him, hts _ hse⟩ (p_rv C hR hb hkd) rfl hn hlv.1 rfl (lv_room hw) hd ⟨by omega, by omega⟩)
  · exact c_back C E hL hlv h1 h2 hc hs (va_runVN (nL := m_L i) ⟨hx, hbc, hml, hown, hts⟩ hM ⟨va_cnB n hts hj.good rfl rfl rfl (hK.2.2.2.1 _ e) (hts _ hj.2.1) hj.2.2.2.1 hRm, hts _ him, hts _ hse⟩ (p_rv C hR hb hkd) rfl hn hlv.1 rfl (lv_room hw) hd ⟨by omega, by omega⟩)
/-- an inherited method: the reference names x, which is j's -/
theorem V.callU {j : MM} {n idx b : Nat} {r : vw_C} (c1 c2 s1 s2 : Nat) (As : List Value) {rest st0 : List Value} {x : MethodName} (hd : decode (m_C i) pc = .ok (.invokevirtual idx, 3)) (hj : m_ok j n) (hw1 : Cond.methodLink (m_Y i).cls idx x ∈ tb) (hw2 : Cond.sameMethod x.cls (m_Y j).cls x.name x.desc ∈ tb) (hxy : m_Y j = ⟨(m_Y j).cls, x.name, x.desc⟩) (hb : g_0 G ≤ b ∧ b < h.2.2) (hkd : vwCl[(h.1 b).1]? = some r) (him : Cond.instanceMethod (m_Y j) ∈ tb) (hse : Cond.selects r.1 x (m_Y j) ∈ tb) (hD : m_D j < m_D i) (hW : 19 + m_L j + m_W j ≤ m_W i) (hst : st0 = As.reverse ++ .ref b :: rest) (hn : As.length = n) (hl : (lg_sl (.ref b :: As)).length ≤ m_L j) (hw : (rest.map fun v => v.category).sum ≤ 8) (hc : c1 + c2 ≤ c) (hs : s1 + s2 ≤ s)
    (kk : V G j 0 (lv_args 0 (.ref b :: As)) [] h c1 s1 (fun r h' => V G i (pc + 3) lv (r.toList ++ rest) h' c2 s2 Q)) : V G i pc lv st0 h c s Q := by
  intro X C E H locs cells slots ls hR hL hlv h1 h2
  subst hst
  obtain ⟨hx, hbc, -, -, hml, hown, hts, hK, -, hfr, hlo, hrc, hrs⟩ := id C
  have hM := Met.ofV hj hl kk
  have hRm : m_D j + 1 ≤ X.2.2.1.frames ∧ 8 + (m_L j + 11) + m_W j ≤ X.2.2.1.locals := ⟨by omega, by omega⟩
  have hdx : (parseMethodDescriptor x.desc).map (fun d => d.parameters.length) = some n := by
    have h9 := hj.2.2.2.1.2.2
    rw [hxy] at h9
    exact h9
  have hGo : GoodIn tb (va_wsU (m_Y i).cls idx r.1 (m_Y j).cls x (m_Y j) (Cond.code (m_Y j) (m_C j) (m_L j) (m_R j) :: tb)) := by
    intro w hw
    unfold va_wsU at hw
    rcases List.mem_append.mp hw with e | e
    · simp only [List.mem_cons, List.not_mem_nil, or_false] at e
      rcases e with e | e | e | e | e
      · subst e; exact tb_good _ hw1
      · subst e; exact tb_good _ hw2
      · subst e; exact tb_good _ hse
      · subst e; exact tb_good _ him
      · subst e; exact tb_good _ hj.2.1
    · exact hj.good _ e
  exact c_back C E hL hlv h1 h2 hc hs (va_runU (nL := m_L i) ⟨hx, hbc, hml, hown, hts⟩ hM (va_cwU n hts hGo rfl rfl rfl hxy ⟨hj.2.2.2.1.1, hj.2.2.2.1.2.1, hdx⟩ hRm) (p_rv C hR hb hkd) rfl hn hlv.1 rfl (lv_room hw) hd ⟨by omega, by omega⟩)
theorem V.callI {j : MM} {n idx b : Nat} (c1 c2 s1 s2 : Nat) (As : List Value) {rest st0 : List Value} (hd : decode (m_C i) pc = .ok (.invokespecial idx, 3)) (hj : m_ok j n) (hk : n_ok (m_Y i).cls idx j) (hin : (m_Y j).name = "<init>") (hrn : m_R j = none) (him : Cond.instanceMethod (m_Y j) ∈ tb) (hD : m_D j < m_D i) (hW : 19 + m_L j + m_W j ≤ m_W i) (hst : st0 = As.reverse ++ .ref b :: rest) (hn : As.length = n) (hl : (lg_sl (.ref b :: As)).length ≤ m_L j) (hw : (rest.map fun v => v.category).sum ≤ 8) (hc : c1 + c2 ≤ c) (hs : s1 + s2 ≤ s)
    (kk : V G j 0 (lv_args 0 (.ref b :: As)) [] h c1 s1 (fun r h' => V G i (pc + 3) lv (r.toList ++ rest) h' c2 s2 Q)) : V G i pc lv st0 h c s Q := by
  intro X C E H locs cells slots ls hR hL hlv h1 h2
  subst hst
  obtain ⟨hx, hbc, -, -, hml, hown, hts, hK, -, hfr, hlo, hrc, hrs⟩ := id C
  have hM := Met.ofV hj hl kk
  have hg := hj.good
  have hRm : m_D j + 1 ≤ X.2.2.1.frames ∧ 8 + (m_L j + 11) + m_W j ≤ X.2.2.1.locals := ⟨by omega, by omega⟩
  rw [hrn] at hM hg
  rcases hk with e | ⟨host, e⟩
  · exact c_back C E hL hlv h1 h2 hc hs (va_runI (nL := m_L i) ⟨hx, hbc, hml, hown, hts⟩ hM ⟨callB_of n hts hg rfl rfl rfl (hts _ hj.2.1) (hts _ e) hj.2.2.2.1 hRm, hin, hts _ him⟩ (p_rs C hR) rfl hn hlv.1 rfl (lv_room hw) hd ⟨by omega, by omega⟩)
  · exact c_back C E hL hlv h1 h2 hc hs (va_runIN (nL := m_L i) ⟨hx, hbc, hml, hown, hts⟩ hM ⟨va_cnB n hts hg rfl rfl rfl (hK.2.2.2.1 _ e) (hts _ hj.2.1) hj.2.2.2.1 hRm, hin, hts _ him⟩ (p_rs C hR) rfl hn hlv.1 rfl (lv_room hw) hd ⟨by omega, by omega⟩)
theorem V.mmin {idx : Nat} {x y : Int32} (hd : decode (m_C i) pc = .ok (.invokestatic idx, 3)) (hw1 : Cond.methodLink (m_Y i).cls idx Lib.Math.min.name ∈ tb) (hw2 : Cond.static Lib.Math.min.name ∈ tb) (hw3 : Cond.initialized "java/lang/Math" ∈ tb) (hw4 : Cond.code Lib.Math.min.name Lib.Math.min.code 2 (some .int) ∈ tb) (hD : 1 ≤ m_D i) (hW : 45 ≤ m_W i) (hs : (st.map fun v => v.category).sum ≤ 8)
    (kk : V G i (pc + 3) lv (.int (if y < x then y else x) :: st) h c s Q) : V G i pc lv (.int y :: .int x :: st) h c s Q := by
  intro X C E H locs cells slots ls hR hL hl h1 h2
  obtain ⟨hx, hb, -, -, hml, hown, hts, hK, -, hfr, hlo, hrc, hrs⟩ := id C
  exact va_mmin hx hb (hml.trans hl.1.symm) hown (hts _ hw1) (hts _ hw2) (hts _ hw3) (hts _ hw4) (by omega) (by omega) (by omega) (by omega) hd (kk X C E H locs cells slots ls hR hL hl h1 h2)
theorem V.acopy {a0 a idx sp dp n : Nat} {ty : FieldType} (hd : decode (m_C i) pc = .ok (.invokestatic idx, 3)) (hw1 : Cond.methodLink (m_Y i).cls idx arraycopyName ∈ tb) (hw2 : Cond.native arraycopyName ∈ tb) (hw3 : Cond.static arraycopyName ∈ tb) (hw4 : Cond.initialized "java/lang/System" ∈ tb) (hD : 1 ≤ m_D i) (hW : 45 ≤ m_W i) (hs : (st.map fun v => v.category).sum ≤ 8)
    (ha0 : g_0 G ≤ a0 ∧ a0 < h.2.2) (ha : g_0 G ≤ a ∧ a < h.2.2) (hk0 : k_ty (h.1 a0).1 = some ty) (hk1 : k_ty (h.1 a).1 = some ty) (hprim : refKind ty = false) (hz0 : (h.1 a0).2 < 2 ^ 31) (hz1 : (h.1 a).2 < 2 ^ 31) (h4 : sp + n ≤ (h.1 a0).2) (h5 : dp + n ≤ (h.1 a).2) (hfit : ∀ j, j < n → ∃ z : Int32, h.2.1 a0 (sp + j) = .int z ∧ fits ty (.int z) = true)
    (kk : V G i (pc + 3) lv st (h_cpy h a0 sp a dp n) c s Q) : V G i pc lv (.int (nI n) :: .int (nI dp) :: .ref a :: .int (nI sp) :: .ref a0 :: st) h c s Q := by
  intro X C E H locs cells slots ls hR hL hl h1 h2
  obtain ⟨hx, hb, -, -, hml, hown, hts, hK, -, hfr, hlo, hrc, hrs⟩ := id C
  have hc0 := (hR.2.2.2 a0 ha0.1 ha0.2).2 _ hk0
  have hc1 := (hR.2.2.2 a ha.1 ha.2).2 _ hk1
  obtain ⟨-, k0, hkk0, cm0, hkd0⟩ := (hK.2.1 _ _ hk0).1 (h.1 a0).2 (h.2.1 a0)
  obtain ⟨-, k1, hkk1, cm1, hkd1⟩ := (hK.2.1 _ _ hk1).1 (h.1 a).2 (h.2.1 a)
  have e1 := nI_clamp (n := sp) (by omega)
  have e2 := nI_clamp (n := dp) (by omega)
  have e3 := nI_clamp (n := n) (by omega)
  have t1 := nI_toInt (n := sp) (by omega)
  have t2 := nI_toInt (n := dp) (by omega)
  have t3 := nI_toInt (n := n) (by omega)
  intro T hT X0
  obtain ⟨vm', X', step⟩ := X0.arraycopy hx hown (hts _ hw1) (hts _ hw2) (hts _ hw3) (hts _ hw4) (src := a0) (dst := a) (srcPos := nI sp) (destPos := nI dp) (n := nI n) (by rw [hT]; exact hc0) (by rw [hT]; exact hc1)
    (fun _ h => by cases h) (fun _ h => by cases h) (fun h => by cases h) (fun h => by cases h) hkk0 hkk1 hkd0 hkd1 (by simp [hprim]) (nI_pos (by omega)) (nI_pos (by omega)) (nI_pos (by omega))
    (by rw [t1, t3, arrV_size]; omega) (by rw [t2, t3, arrV_size]; omega)
    (fun vm₁ _ j hj => by
      rw [e3] at hj
      obtain ⟨z, hz, hf⟩ := hfit j hj
      have e : (arrV (g_dA G (h.1 a0).1) (h.1 a0).2 (h.2.1 a0)).slots.getD ((nI sp).toNatClampNeg + j) .null = .int z := by
        rw [e1, Array.getD_eq_getD_getElem?, arrV_read _ _ (by omega), hz]
        rfl
      rw [e]
      exact ⟨hf, trivial⟩)
    (g := F0 (x_m X) pc ls (.int (nI n) :: .int (nI dp) :: .ref a :: .int (nI sp) :: .ref a0 :: st)) rfl (by rw [hml]; exact hl.1) (rest := st) rfl (by rw [hb]; exact hd) (by omega) (by show 2 * 0 + _ + (nativeFrameWords "java/lang/System" "arraycopy" 5 + 11) ≤ _; have h9 : nativeFrameWords "java/lang/System" "arraycopy" 5 ≤ 20 := (by decide); omega)
  have ec : copied (arrV (g_dA G (h.1 a0).1) (h.1 a0).2 (h.2.1 a0)) (arrV (g_dA G (h.1 a).1) (h.1 a).2 (h.2.1 a)) (nI sp) (nI dp) (nI n) = arrV (g_dA G (h.1 a).1) (h.1 a).2 ((h_cpy h a0 sp a dp n).2.1 a) := by
    have h9 := va_copied (fun z : Value => z) (g_dA G (h.1 a0).1) (g_dA G (h.1 a).1) (n0 := (h.1 a0).2) (n1 := (h.1 a).2) (sp := sp) (dp := dp) (n := n) (h.2.1 a0) (h.2.1 a) h4
    have h8 : copied (arrV (g_dA G (h.1 a0).1) (h.1 a0).2 (h.2.1 a0)) (arrV (g_dA G (h.1 a).1) (h.1 a).2 (h.2.1 a)) (nI sp) (nI dp) (nI n) = (arrV (g_dA G (h.1 a).1) (h.1 a).2 (h.2.1 a)).storeRun (nI dp).toNatClampNeg ((arrV (g_dA G (h.1 a0).1) (h.1 a0).2 (h.2.1 a0)).stretch (nI sp).toNatClampNeg (nI n).toNatClampNeg) := rfl
    rw [h8, e1, e2, e3, h9]
    congr 1
    funext j
    show (if dp ≤ j ∧ j < dp + n then _ else _) = if a = a ∧ dp ≤ j ∧ j < dp + n then _ else _
    simp
  rw [ec] at X' step
  have hlt : a < H.size := (Array.getElem?_eq_some_iff.mp hc1).1
  have oq : ∀ q : Nat, q ≠ a → (H.setIfInBounds a (arrV (g_dA G (h.1 a).1) (h.1 a).2 ((h_cpy h a0 sp a dp n).2.1 a)))[q]? = H[q]? := fun q hq => by simp [Array.getElem?_setIfInBounds, Ne.symm hq]
  have hRn : Rep G (h_cpy h a0 sp a dp n) (H.setIfInBounds a (arrV (g_dA G (h.1 a).1) (h.1 a).2 ((h_cpy h a0 sp a dp n).2.1 a))) := by
    refine hR.upd (a := a) rfl rfl (fun b hb => ?_) (by simp) oq ha.1 (fun _ => ⟨fun r hr => ?_, fun ty' hty' => ?_⟩)
    · funext j
      show (if b = a ∧ _ then _ else _) = _
      simp [hb]
    · exact absurd hk1 (by rw [show k_ty (h.1 a).1 = none from k_dis _ _ hr]; exact fun h => by cases h)
    · simp [Array.getElem?_setIfInBounds, hlt]
      rfl
  obtain ⟨t, a1, b1⟩ := kk X C E _ _ cells slots ls hRn (fun q hq => by
      rcases List.mem_append.mp hq with z | z
      · exact hL q z
      · obtain ⟨w, -, hw⟩ := List.mem_map.mp z
        rw [← hw]
        exact ha.1) hl h1 h2 _ (by show (T.heap.setIfInBounds a _) = _; rw [hT]) X'
  exact ⟨t, step t a1, b1⟩
end VCL
end
section
set_option maxRecDepth 20000 in
theorem xu_P : ∀ w ∈ u_ws "PathTree" xF_P 7, w ∈ tb := by decide +kernel
set_option maxRecDepth 20000 in
theorem tk_P : t_okk xF_P 7 := ⟨⟨xT_P, by decide +kernel⟩, by decide +kernel⟩
set_option maxRecDepth 20000 in
theorem xu_T : ∀ w ∈ u_ws "PathTree$PathText" xF_T 2, w ∈ tb := by decide +kernel
set_option maxRecDepth 20000 in
theorem tk_T : t_okk xF_T 2 := ⟨⟨xT_T, by decide +kernel⟩, by decide +kernel⟩
set_option maxRecDepth 20000 in
theorem xu_D : ∀ w ∈ u_ws "PathTree$Directory" xF_D 5, w ∈ tb := by decide +kernel
set_option maxRecDepth 20000 in
theorem tk_D : t_okk xF_D 5 := ⟨⟨xT_D, by decide +kernel⟩, by decide +kernel⟩
set_option maxRecDepth 20000 in
theorem xu_F : ∀ w ∈ u_ws "PathTree$FileEntry" xF_F 5, w ∈ tb := by decide +kernel
set_option maxRecDepth 20000 in
theorem tk_F : t_okk xF_F 5 := ⟨⟨xT_F, by decide +kernel⟩, by decide +kernel⟩
set_option maxRecDepth 20000 in
theorem xu_R : ∀ w ∈ u_ws "PathTreeModel" xF_R 14, w ∈ tb := by decide +kernel
set_option maxRecDepth 20000 in
theorem tk_R : t_okk xF_R 14 := ⟨⟨xT_R, by decide +kernel⟩, by decide +kernel⟩
set_option maxRecDepth 20000 in
theorem f_T_9_1 : f_ok "PathTree$PathText" 9 1 0 := ⟨_, _, _, "PathTree$PathText", rfl, xu_T, by decide, Or.inl (t_in 71 rfl rfl), Or.inl rfl⟩
set_option maxRecDepth 20000 in
theorem p_T_9_1 {ini : Prop} (hi : ini) : p_ok "PathTree$PathText" 9 1 0 (.array .char) ini := ⟨_, _, _, "PathTree$PathText", rfl, xu_T, by decide, Or.inl (t_in 71 rfl rfl), Or.inl rfl, tk_T, by decide +kernel, Or.inr ⟨rfl, hi, rfl⟩⟩
set_option maxRecDepth 20000 in
theorem f_T_13_1 : f_ok "PathTree$PathText" 13 1 1 := ⟨_, _, _, "PathTree$PathText", rfl, xu_T, by decide, Or.inl (t_in 73 rfl rfl), Or.inl rfl⟩
set_option maxRecDepth 20000 in
theorem p_T_13_1 {ini : Prop} : p_ok "PathTree$PathText" 13 1 1 (.int) ini := ⟨_, _, _, "PathTree$PathText", rfl, xu_T, by decide, Or.inl (t_in 73 rfl rfl), Or.inl rfl, tk_T, by decide +kernel, Or.inl rfl⟩
set_option maxRecDepth 20000 in
theorem f_D_7_2 : f_ok "PathTree$Directory" 7 2 3 := ⟨_, _, _, "PathTree$Directory", rfl, xu_D, by decide, Or.inl (t_in 90 rfl rfl), Or.inl rfl⟩
set_option maxRecDepth 20000 in
theorem p_D_7_2 {ini : Prop} : p_ok "PathTree$Directory" 7 2 3 (.object "PathTree$Entry") ini := ⟨_, _, _, "PathTree$Directory", rfl, xu_D, by decide, Or.inl (t_in 90 rfl rfl), Or.inl rfl, tk_D, by decide +kernel, Or.inl rfl⟩
set_option maxRecDepth 20000 in
theorem f_D_13_2 : f_ok "PathTree$Directory" 13 2 4 := ⟨_, _, _, "PathTree$Directory", rfl, xu_D, by decide, Or.inl (t_in 91 rfl rfl), Or.inl rfl⟩
set_option maxRecDepth 20000 in
theorem p_D_13_2 {ini : Prop} : p_ok "PathTree$Directory" 13 2 4 (.int) ini := ⟨_, _, _, "PathTree$Directory", rfl, xu_D, by decide, Or.inl (t_in 91 rfl rfl), Or.inl rfl, tk_D, by decide +kernel, Or.inl rfl⟩
set_option maxRecDepth 20000 in
theorem f_E_17_2 : f_ok "PathTree$Entry" 17 2 0 := ⟨_, _, _, "PathTree$Entry", rfl, xu_D, by decide, Or.inl (t_in 93 rfl rfl), Or.inl rfl⟩
set_option maxRecDepth 20000 in
theorem p_E_17_2 {ini : Prop} : p_ok "PathTree$Entry" 17 2 0 (.array .char) ini := ⟨_, _, _, "PathTree$Entry", rfl, xu_D, by decide, Or.inl (t_in 93 rfl rfl), Or.inl rfl, tk_D, by decide +kernel, Or.inl rfl⟩
set_option maxRecDepth 20000 in
theorem f_E_17_3 : f_ok "PathTree$Entry" 17 3 0 := ⟨_, _, _, "PathTree$Entry", rfl, xu_F, by decide, Or.inl (t_in 93 rfl rfl), Or.inl rfl⟩
set_option maxRecDepth 20000 in
theorem p_E_17_3 {ini : Prop} : p_ok "PathTree$Entry" 17 3 0 (.array .char) ini := ⟨_, _, _, "PathTree$Entry", rfl, xu_F, by decide, Or.inl (t_in 93 rfl rfl), Or.inl rfl, tk_F, by decide +kernel, Or.inl rfl⟩
set_option maxRecDepth 20000 in
theorem f_D_28_2 : f_ok "PathTree$Directory" 28 2 0 := ⟨_, _, _, "PathTree$Entry", rfl, xu_D, by decide, Or.inl (t_in 94 rfl rfl), Or.inl rfl⟩
set_option maxRecDepth 20000 in
theorem p_D_28_2 {ini : Prop} : p_ok "PathTree$Directory" 28 2 0 (.array .char) ini := ⟨_, _, _, "PathTree$Entry", rfl, xu_D, by decide, Or.inl (t_in 94 rfl rfl), Or.inl rfl, tk_D, by decide +kernel, Or.inl rfl⟩
set_option maxRecDepth 20000 in
theorem f_D_28_3 : f_ok "PathTree$Directory" 28 3 0 := ⟨_, _, _, "PathTree$Entry", rfl, xu_F, by decide, Or.inl (t_in 94 rfl rfl), Or.inl rfl⟩
set_option maxRecDepth 20000 in
theorem p_D_28_3 {ini : Prop} : p_ok "PathTree$Directory" 28 3 0 (.array .char) ini := ⟨_, _, _, "PathTree$Entry", rfl, xu_F, by decide, Or.inl (t_in 94 rfl rfl), Or.inl rfl, tk_F, by decide +kernel, Or.inl rfl⟩
set_option maxRecDepth 20000 in
theorem f_P_123_2 : f_ok "PathTree" 123 2 0 := ⟨_, _, _, "PathTree$Entry", rfl, xu_D, by decide, Or.inl (t_in 95 rfl rfl), Or.inl rfl⟩
set_option maxRecDepth 20000 in
theorem p_P_123_2 {ini : Prop} : p_ok "PathTree" 123 2 0 (.array .char) ini := ⟨_, _, _, "PathTree$Entry", rfl, xu_D, by decide, Or.inl (t_in 95 rfl rfl), Or.inl rfl, tk_D, by decide +kernel, Or.inl rfl⟩
set_option maxRecDepth 20000 in
theorem f_P_123_3 : f_ok "PathTree" 123 3 0 := ⟨_, _, _, "PathTree$Entry", rfl, xu_F, by decide, Or.inl (t_in 95 rfl rfl), Or.inl rfl⟩
set_option maxRecDepth 20000 in
theorem p_P_123_3 {ini : Prop} : p_ok "PathTree" 123 3 0 (.array .char) ini := ⟨_, _, _, "PathTree$Entry", rfl, xu_F, by decide, Or.inl (t_in 95 rfl rfl), Or.inl rfl, tk_F, by decide +kernel, Or.inl rfl⟩
set_option maxRecDepth 20000 in
theorem f_P_177_3 : f_ok "PathTree" 177 3 0 := ⟨_, _, _, "PathTree$FileEntry", rfl, xu_F, by decide, Or.inl (t_in 96 rfl rfl), Or.inr (t_in 97 rfl rfl)⟩
set_option maxRecDepth 20000 in
theorem p_P_177_3 {ini : Prop} : p_ok "PathTree" 177 3 0 (.array .char) ini := ⟨_, _, _, "PathTree$FileEntry", rfl, xu_F, by decide, Or.inl (t_in 96 rfl rfl), Or.inr (t_in 97 rfl rfl), tk_F, by decide +kernel, Or.inl rfl⟩
set_option maxRecDepth 20000 in
theorem f_E_7_2 : f_ok "PathTree$Entry" 7 2 1 := ⟨_, _, _, "PathTree$Entry", rfl, xu_D, by decide, Or.inl (t_in 98 rfl rfl), Or.inl rfl⟩
set_option maxRecDepth 20000 in
theorem p_E_7_2 {ini : Prop} : p_ok "PathTree$Entry" 7 2 1 (.object "PathTree$Directory") ini := ⟨_, _, _, "PathTree$Entry", rfl, xu_D, by decide, Or.inl (t_in 98 rfl rfl), Or.inl rfl, tk_D, by decide +kernel, Or.inl rfl⟩
set_option maxRecDepth 20000 in
theorem f_E_7_3 : f_ok "PathTree$Entry" 7 3 1 := ⟨_, _, _, "PathTree$Entry", rfl, xu_F, by decide, Or.inl (t_in 98 rfl rfl), Or.inl rfl⟩
set_option maxRecDepth 20000 in
theorem p_E_7_3 {ini : Prop} : p_ok "PathTree$Entry" 7 3 1 (.object "PathTree$Directory") ini := ⟨_, _, _, "PathTree$Entry", rfl, xu_F, by decide, Or.inl (t_in 98 rfl rfl), Or.inl rfl, tk_F, by decide +kernel, Or.inl rfl⟩
set_option maxRecDepth 20000 in
theorem f_D_24_2 : f_ok "PathTree$Directory" 24 2 1 := ⟨_, _, _, "PathTree$Directory", rfl, xu_D, by decide, Or.inl (t_in 99 rfl rfl), Or.inr (t_in 100 rfl rfl)⟩
set_option maxRecDepth 20000 in
theorem p_D_24_2 {ini : Prop} : p_ok "PathTree$Directory" 24 2 1 (.object "PathTree$Directory") ini := ⟨_, _, _, "PathTree$Directory", rfl, xu_D, by decide, Or.inl (t_in 99 rfl rfl), Or.inr (t_in 100 rfl rfl), tk_D, by decide +kernel, Or.inl rfl⟩
set_option maxRecDepth 20000 in
theorem f_D_36_2 : f_ok "PathTree$Directory" 36 2 1 := ⟨_, _, _, "PathTree$Entry", rfl, xu_D, by decide, Or.inl (t_in 101 rfl rfl), Or.inl rfl⟩
set_option maxRecDepth 20000 in
theorem p_D_36_2 {ini : Prop} : p_ok "PathTree$Directory" 36 2 1 (.object "PathTree$Directory") ini := ⟨_, _, _, "PathTree$Entry", rfl, xu_D, by decide, Or.inl (t_in 101 rfl rfl), Or.inl rfl, tk_D, by decide +kernel, Or.inl rfl⟩
set_option maxRecDepth 20000 in
theorem f_D_36_3 : f_ok "PathTree$Directory" 36 3 1 := ⟨_, _, _, "PathTree$Entry", rfl, xu_F, by decide, Or.inl (t_in 101 rfl rfl), Or.inl rfl⟩
set_option maxRecDepth 20000 in
theorem p_D_36_3 {ini : Prop} : p_ok "PathTree$Directory" 36 3 1 (.object "PathTree$Directory") ini := ⟨_, _, _, "PathTree$Entry", rfl, xu_F, by decide, Or.inl (t_in 101 rfl rfl), Or.inl rfl, tk_F, by decide +kernel, Or.inl rfl⟩
set_option maxRecDepth 20000 in
theorem f_P_87_3 : f_ok "PathTree" 87 3 1 := ⟨_, _, _, "PathTree$FileEntry", rfl, xu_F, by decide, Or.inl (t_in 102 rfl rfl), Or.inr (t_in 103 rfl rfl)⟩
set_option maxRecDepth 20000 in
theorem p_P_87_3 {ini : Prop} : p_ok "PathTree" 87 3 1 (.object "PathTree$Directory") ini := ⟨_, _, _, "PathTree$FileEntry", rfl, xu_F, by decide, Or.inl (t_in 102 rfl rfl), Or.inr (t_in 103 rfl rfl), tk_F, by decide +kernel, Or.inl rfl⟩
set_option maxRecDepth 20000 in
theorem f_P_155_2 : f_ok "PathTree" 155 2 1 := ⟨_, _, _, "PathTree$Directory", rfl, xu_D, by decide, Or.inl (t_in 104 rfl rfl), Or.inr (t_in 100 rfl rfl)⟩
set_option maxRecDepth 20000 in
theorem p_P_155_2 {ini : Prop} : p_ok "PathTree" 155 2 1 (.object "PathTree$Directory") ini := ⟨_, _, _, "PathTree$Directory", rfl, xu_D, by decide, Or.inl (t_in 104 rfl rfl), Or.inr (t_in 100 rfl rfl), tk_D, by decide +kernel, Or.inl rfl⟩
set_option maxRecDepth 20000 in
theorem f_P_173_2 : f_ok "PathTree" 173 2 1 := ⟨_, _, _, "PathTree$Entry", rfl, xu_D, by decide, Or.inl (t_in 105 rfl rfl), Or.inl rfl⟩
set_option maxRecDepth 20000 in
theorem p_P_173_2 {ini : Prop} : p_ok "PathTree" 173 2 1 (.object "PathTree$Directory") ini := ⟨_, _, _, "PathTree$Entry", rfl, xu_D, by decide, Or.inl (t_in 105 rfl rfl), Or.inl rfl, tk_D, by decide +kernel, Or.inl rfl⟩
set_option maxRecDepth 20000 in
theorem f_P_173_3 : f_ok "PathTree" 173 3 1 := ⟨_, _, _, "PathTree$Entry", rfl, xu_F, by decide, Or.inl (t_in 105 rfl rfl), Or.inl rfl⟩
set_option maxRecDepth 20000 in
theorem p_P_173_3 {ini : Prop} : p_ok "PathTree" 173 3 1 (.object "PathTree$Directory") ini := ⟨_, _, _, "PathTree$Entry", rfl, xu_F, by decide, Or.inl (t_in 105 rfl rfl), Or.inl rfl, tk_F, by decide +kernel, Or.inl rfl⟩
set_option maxRecDepth 20000 in
theorem f_E_13_2 : f_ok "PathTree$Entry" 13 2 2 := ⟨_, _, _, "PathTree$Entry", rfl, xu_D, by decide, Or.inl (t_in 106 rfl rfl), Or.inl rfl⟩
set_option maxRecDepth 20000 in
theorem p_E_13_2 {ini : Prop} : p_ok "PathTree$Entry" 13 2 2 (.object "PathTree$Entry") ini := ⟨_, _, _, "PathTree$Entry", rfl, xu_D, by decide, Or.inl (t_in 106 rfl rfl), Or.inl rfl, tk_D, by decide +kernel, Or.inl rfl⟩
set_option maxRecDepth 20000 in
theorem f_E_13_3 : f_ok "PathTree$Entry" 13 3 2 := ⟨_, _, _, "PathTree$Entry", rfl, xu_F, by decide, Or.inl (t_in 106 rfl rfl), Or.inl rfl⟩
set_option maxRecDepth 20000 in
theorem p_E_13_3 {ini : Prop} : p_ok "PathTree$Entry" 13 3 2 (.object "PathTree$Entry") ini := ⟨_, _, _, "PathTree$Entry", rfl, xu_F, by decide, Or.inl (t_in 106 rfl rfl), Or.inl rfl, tk_F, by decide +kernel, Or.inl rfl⟩
set_option maxRecDepth 20000 in
theorem f_D_21_2 : f_ok "PathTree$Directory" 21 2 2 := ⟨_, _, _, "PathTree$Entry", rfl, xu_D, by decide, Or.inl (t_in 107 rfl rfl), Or.inl rfl⟩
set_option maxRecDepth 20000 in
theorem p_D_21_2 {ini : Prop} : p_ok "PathTree$Directory" 21 2 2 (.object "PathTree$Entry") ini := ⟨_, _, _, "PathTree$Entry", rfl, xu_D, by decide, Or.inl (t_in 107 rfl rfl), Or.inl rfl, tk_D, by decide +kernel, Or.inl rfl⟩
set_option maxRecDepth 20000 in
theorem f_D_21_3 : f_ok "PathTree$Directory" 21 3 2 := ⟨_, _, _, "PathTree$Entry", rfl, xu_F, by decide, Or.inl (t_in 107 rfl rfl), Or.inl rfl⟩
set_option maxRecDepth 20000 in
theorem p_D_21_3 {ini : Prop} : p_ok "PathTree$Directory" 21 3 2 (.object "PathTree$Entry") ini := ⟨_, _, _, "PathTree$Entry", rfl, xu_F, by decide, Or.inl (t_in 107 rfl rfl), Or.inl rfl, tk_F, by decide +kernel, Or.inl rfl⟩
set_option maxRecDepth 20000 in
theorem f_P_10_0 : f_ok "PathTree" 10 0 0 := ⟨_, _, _, "PathTree", rfl, xu_P, by decide, Or.inl (t_in 119 rfl rfl), Or.inl rfl⟩
set_option maxRecDepth 20000 in
theorem p_P_10_0 {ini : Prop} (hi : ini) : p_ok "PathTree" 10 0 0 (.object "PathTree$PathText") ini := ⟨_, _, _, "PathTree", rfl, xu_P, by decide, Or.inl (t_in 119 rfl rfl), Or.inl rfl, tk_P, by decide +kernel, Or.inr ⟨rfl, hi, rfl⟩⟩
set_option maxRecDepth 20000 in
theorem f_P_21_0 : f_ok "PathTree" 21 0 1 := ⟨_, _, _, "PathTree", rfl, xu_P, by decide, Or.inl (t_in 120 rfl rfl), Or.inl rfl⟩
set_option maxRecDepth 20000 in
theorem p_P_21_0 {ini : Prop} (hi : ini) : p_ok "PathTree" 21 0 1 (.object "PathTree$Directory") ini := ⟨_, _, _, "PathTree", rfl, xu_P, by decide, Or.inl (t_in 120 rfl rfl), Or.inl rfl, tk_P, by decide +kernel, Or.inr ⟨rfl, hi, rfl⟩⟩
set_option maxRecDepth 20000 in
theorem f_P_25_0 : f_ok "PathTree" 25 0 2 := ⟨_, _, _, "PathTree", rfl, xu_P, by decide, Or.inl (t_in 121 rfl rfl), Or.inl rfl⟩
set_option maxRecDepth 20000 in
theorem p_P_25_0 {ini : Prop} : p_ok "PathTree" 25 0 2 (.object "PathTree$Directory") ini := ⟨_, _, _, "PathTree", rfl, xu_P, by decide, Or.inl (t_in 121 rfl rfl), Or.inl rfl, tk_P, by decide +kernel, Or.inl rfl⟩
set_option maxRecDepth 20000 in
theorem f_P_28_0 : f_ok "PathTree" 28 0 3 := ⟨_, _, _, "PathTree", rfl, xu_P, by decide, Or.inl (t_in 122 rfl rfl), Or.inl rfl⟩
set_option maxRecDepth 20000 in
theorem p_P_28_0 {ini : Prop} : p_ok "PathTree" 28 0 3 (.object "PathTree$FileEntry") ini := ⟨_, _, _, "PathTree", rfl, xu_P, by decide, Or.inl (t_in 122 rfl rfl), Or.inl rfl, tk_P, by decide +kernel, Or.inl rfl⟩
set_option maxRecDepth 20000 in
theorem f_P_32_0 : f_ok "PathTree" 32 0 4 := ⟨_, _, _, "PathTree", rfl, xu_P, by decide, Or.inl (t_in 123 rfl rfl), Or.inl rfl⟩
set_option maxRecDepth 20000 in
theorem p_P_32_0 {ini : Prop} : p_ok "PathTree" 32 0 4 (.int) ini := ⟨_, _, _, "PathTree", rfl, xu_P, by decide, Or.inl (t_in 123 rfl rfl), Or.inl rfl, tk_P, by decide +kernel, Or.inl rfl⟩
set_option maxRecDepth 20000 in
theorem f_P_36_0 : f_ok "PathTree" 36 0 5 := ⟨_, _, _, "PathTree", rfl, xu_P, by decide, Or.inl (t_in 124 rfl rfl), Or.inl rfl⟩
set_option maxRecDepth 20000 in
theorem p_P_36_0 {ini : Prop} : p_ok "PathTree" 36 0 5 (.int) ini := ⟨_, _, _, "PathTree", rfl, xu_P, by decide, Or.inl (t_in 124 rfl rfl), Or.inl rfl, tk_P, by decide +kernel, Or.inl rfl⟩
set_option maxRecDepth 20000 in
theorem f_P_39_0 : f_ok "PathTree" 39 0 6 := ⟨_, _, _, "PathTree", rfl, xu_P, by decide, Or.inl (t_in 125 rfl rfl), Or.inl rfl⟩
set_option maxRecDepth 20000 in
theorem p_P_39_0 {ini : Prop} : p_ok "PathTree" 39 0 6 (.int) ini := ⟨_, _, _, "PathTree", rfl, xu_P, by decide, Or.inl (t_in 125 rfl rfl), Or.inl rfl, tk_P, by decide +kernel, Or.inl rfl⟩
set_option maxRecDepth 20000 in
theorem f_F_11_3 : f_ok "PathTree$FileEntry" 11 3 3 := ⟨_, _, _, "PathTree$FileEntry", rfl, xu_F, by decide, Or.inl (t_in 284 rfl rfl), Or.inl rfl⟩
set_option maxRecDepth 20000 in
theorem p_F_11_3 {ini : Prop} : p_ok "PathTree$FileEntry" 11 3 3 (.array .byte) ini := ⟨_, _, _, "PathTree$FileEntry", rfl, xu_F, by decide, Or.inl (t_in 284 rfl rfl), Or.inl rfl, tk_F, by decide +kernel, Or.inl rfl⟩
set_option maxRecDepth 20000 in
theorem f_F_15_3 : f_ok "PathTree$FileEntry" 15 3 4 := ⟨_, _, _, "PathTree$FileEntry", rfl, xu_F, by decide, Or.inl (t_in 285 rfl rfl), Or.inl rfl⟩
set_option maxRecDepth 20000 in
theorem p_F_15_3 {ini : Prop} : p_ok "PathTree$FileEntry" 15 3 4 (.int) ini := ⟨_, _, _, "PathTree$FileEntry", rfl, xu_F, by decide, Or.inl (t_in 285 rfl rfl), Or.inl rfl, tk_F, by decide +kernel, Or.inl rfl⟩
set_option maxRecDepth 20000 in
theorem f_R_7_4 : f_ok "PathTreeModel" 7 4 0 := ⟨_, _, _, "PathTreeModel", rfl, xu_R, by decide, Or.inl (t_in 385 rfl rfl), Or.inl rfl⟩
set_option maxRecDepth 20000 in
theorem p_R_7_4 {ini : Prop} (hi : ini) : p_ok "PathTreeModel" 7 4 0 (.array .int) ini := ⟨_, _, _, "PathTreeModel", rfl, xu_R, by decide, Or.inl (t_in 385 rfl rfl), Or.inl rfl, tk_R, by decide +kernel, Or.inr ⟨rfl, hi, rfl⟩⟩
set_option maxRecDepth 20000 in
theorem f_R_44_4 : f_ok "PathTreeModel" 44 4 1 := ⟨_, _, _, "PathTreeModel", rfl, xu_R, by decide, Or.inl (t_in 386 rfl rfl), Or.inl rfl⟩
set_option maxRecDepth 20000 in
theorem p_R_44_4 {ini : Prop} : p_ok "PathTreeModel" 44 4 1 (.int) ini := ⟨_, _, _, "PathTreeModel", rfl, xu_R, by decide, Or.inl (t_in 386 rfl rfl), Or.inl rfl, tk_R, by decide +kernel, Or.inl rfl⟩
set_option maxRecDepth 20000 in
theorem f_R_13_4 : f_ok "PathTreeModel" 13 4 2 := ⟨_, _, _, "PathTreeModel", rfl, xu_R, by decide, Or.inl (t_in 387 rfl rfl), Or.inl rfl⟩
set_option maxRecDepth 20000 in
theorem p_R_13_4 {ini : Prop} (hi : ini) : p_ok "PathTreeModel" 13 4 2 (.array .int) ini := ⟨_, _, _, "PathTreeModel", rfl, xu_R, by decide, Or.inl (t_in 387 rfl rfl), Or.inl rfl, tk_R, by decide +kernel, Or.inr ⟨rfl, hi, rfl⟩⟩
set_option maxRecDepth 20000 in
theorem f_R_16_4 : f_ok "PathTreeModel" 16 4 3 := ⟨_, _, _, "PathTreeModel", rfl, xu_R, by decide, Or.inl (t_in 388 rfl rfl), Or.inl rfl⟩
set_option maxRecDepth 20000 in
theorem p_R_16_4 {ini : Prop} (hi : ini) : p_ok "PathTreeModel" 16 4 3 (.array .int) ini := ⟨_, _, _, "PathTreeModel", rfl, xu_R, by decide, Or.inl (t_in 388 rfl rfl), Or.inl rfl, tk_R, by decide +kernel, Or.inr ⟨rfl, hi, rfl⟩⟩
set_option maxRecDepth 20000 in
theorem f_R_19_4 : f_ok "PathTreeModel" 19 4 4 := ⟨_, _, _, "PathTreeModel", rfl, xu_R, by decide, Or.inl (t_in 389 rfl rfl), Or.inl rfl⟩
set_option maxRecDepth 20000 in
theorem p_R_19_4 {ini : Prop} (hi : ini) : p_ok "PathTreeModel" 19 4 4 (.array .int) ini := ⟨_, _, _, "PathTreeModel", rfl, xu_R, by decide, Or.inl (t_in 389 rfl rfl), Or.inl rfl, tk_R, by decide +kernel, Or.inr ⟨rfl, hi, rfl⟩⟩
set_option maxRecDepth 20000 in
theorem f_R_22_4 : f_ok "PathTreeModel" 22 4 5 := ⟨_, _, _, "PathTreeModel", rfl, xu_R, by decide, Or.inl (t_in 390 rfl rfl), Or.inl rfl⟩
set_option maxRecDepth 20000 in
theorem p_R_22_4 {ini : Prop} (hi : ini) : p_ok "PathTreeModel" 22 4 5 (.array .int) ini := ⟨_, _, _, "PathTreeModel", rfl, xu_R, by decide, Or.inl (t_in 390 rfl rfl), Or.inl rfl, tk_R, by decide +kernel, Or.inr ⟨rfl, hi, rfl⟩⟩
set_option maxRecDepth 20000 in
theorem f_R_25_4 : f_ok "PathTreeModel" 25 4 6 := ⟨_, _, _, "PathTreeModel", rfl, xu_R, by decide, Or.inl (t_in 391 rfl rfl), Or.inl rfl⟩
set_option maxRecDepth 20000 in
theorem p_R_25_4 {ini : Prop} (hi : ini) : p_ok "PathTreeModel" 25 4 6 (.array .int) ini := ⟨_, _, _, "PathTreeModel", rfl, xu_R, by decide, Or.inl (t_in 391 rfl rfl), Or.inl rfl, tk_R, by decide +kernel, Or.inr ⟨rfl, hi, rfl⟩⟩
set_option maxRecDepth 20000 in
theorem f_R_28_4 : f_ok "PathTreeModel" 28 4 7 := ⟨_, _, _, "PathTreeModel", rfl, xu_R, by decide, Or.inl (t_in 392 rfl rfl), Or.inl rfl⟩
set_option maxRecDepth 20000 in
theorem p_R_28_4 {ini : Prop} : p_ok "PathTreeModel" 28 4 7 (.int) ini := ⟨_, _, _, "PathTreeModel", rfl, xu_R, by decide, Or.inl (t_in 392 rfl rfl), Or.inl rfl, tk_R, by decide +kernel, Or.inl rfl⟩
set_option maxRecDepth 20000 in
theorem f_R_55_4 : f_ok "PathTreeModel" 55 4 8 := ⟨_, _, _, "PathTreeModel", rfl, xu_R, by decide, Or.inl (t_in 393 rfl rfl), Or.inl rfl⟩
set_option maxRecDepth 20000 in
theorem p_R_55_4 {ini : Prop} : p_ok "PathTreeModel" 55 4 8 (.int) ini := ⟨_, _, _, "PathTreeModel", rfl, xu_R, by decide, Or.inl (t_in 393 rfl rfl), Or.inl rfl, tk_R, by decide +kernel, Or.inl rfl⟩
set_option maxRecDepth 20000 in
theorem f_R_32_4 : f_ok "PathTreeModel" 32 4 9 := ⟨_, _, _, "PathTreeModel", rfl, xu_R, by decide, Or.inl (t_in 394 rfl rfl), Or.inl rfl⟩
set_option maxRecDepth 20000 in
theorem p_R_32_4 {ini : Prop} : p_ok "PathTreeModel" 32 4 9 (.int) ini := ⟨_, _, _, "PathTreeModel", rfl, xu_R, by decide, Or.inl (t_in 394 rfl rfl), Or.inl rfl, tk_R, by decide +kernel, Or.inl rfl⟩
set_option maxRecDepth 20000 in
theorem f_R_83_4 : f_ok "PathTreeModel" 83 4 10 := ⟨_, _, _, "PathTreeModel", rfl, xu_R, by decide, Or.inl (t_in 395 rfl rfl), Or.inl rfl⟩
set_option maxRecDepth 20000 in
theorem p_R_83_4 {ini : Prop} : p_ok "PathTreeModel" 83 4 10 (.boolean) ini := ⟨_, _, _, "PathTreeModel", rfl, xu_R, by decide, Or.inl (t_in 395 rfl rfl), Or.inl rfl, tk_R, by decide +kernel, Or.inl rfl⟩
set_option maxRecDepth 20000 in
theorem f_R_87_4 : f_ok "PathTreeModel" 87 4 11 := ⟨_, _, _, "PathTreeModel", rfl, xu_R, by decide, Or.inl (t_in 396 rfl rfl), Or.inl rfl⟩
set_option maxRecDepth 20000 in
theorem p_R_87_4 {ini : Prop} : p_ok "PathTreeModel" 87 4 11 (.int) ini := ⟨_, _, _, "PathTreeModel", rfl, xu_R, by decide, Or.inl (t_in 396 rfl rfl), Or.inl rfl, tk_R, by decide +kernel, Or.inl rfl⟩
set_option maxRecDepth 20000 in
theorem f_R_36_4 : f_ok "PathTreeModel" 36 4 12 := ⟨_, _, _, "PathTreeModel", rfl, xu_R, by decide, Or.inl (t_in 397 rfl rfl), Or.inl rfl⟩
set_option maxRecDepth 20000 in
theorem p_R_36_4 {ini : Prop} (hi : ini) : p_ok "PathTreeModel" 36 4 12 (.array .byte) ini := ⟨_, _, _, "PathTreeModel", rfl, xu_R, by decide, Or.inl (t_in 397 rfl rfl), Or.inl rfl, tk_R, by decide +kernel, Or.inr ⟨rfl, hi, rfl⟩⟩
set_option maxRecDepth 20000 in
theorem f_R_40_4 : f_ok "PathTreeModel" 40 4 13 := ⟨_, _, _, "PathTreeModel", rfl, xu_R, by decide, Or.inl (t_in 398 rfl rfl), Or.inl rfl⟩
set_option maxRecDepth 20000 in
theorem p_R_40_4 {ini : Prop} (hi : ini) : p_ok "PathTreeModel" 40 4 13 (.array .short) ini := ⟨_, _, _, "PathTreeModel", rfl, xu_R, by decide, Or.inl (t_in 398 rfl rfl), Or.inl rfl, tk_R, by decide +kernel, Or.inr ⟨rfl, hi, rfl⟩⟩
set_option maxRecDepth 20000 in
theorem f_P_156_1 : f_ok "PathTree" 156 1 0 := ⟨_, _, _, "PathTree$PathText", rfl, xu_T, by decide, Or.inr ⟨"PathTree", by decide⟩, Or.inl rfl⟩
set_option maxRecDepth 20000 in
theorem f_P_54_1 : f_ok "PathTree" 54 1 1 := ⟨_, _, _, "PathTree$PathText", rfl, xu_T, by decide, Or.inr ⟨"PathTree", by decide⟩, Or.inl rfl⟩
set_option maxRecDepth 20000 in
theorem p_P_54_1 {ini : Prop} : p_ok "PathTree" 54 1 1 (.int) ini := ⟨_, _, _, "PathTree$PathText", rfl, xu_T, by decide, Or.inr ⟨rfl, "PathTree", by decide⟩, Or.inl rfl, tk_T, by decide +kernel, Or.inl rfl⟩
set_option maxRecDepth 20000 in
theorem f_P_129_2 : f_ok "PathTree" 129 2 4 := ⟨_, _, _, "PathTree$Directory", rfl, xu_D, by decide, Or.inr ⟨"PathTree", by decide⟩, Or.inl rfl⟩
set_option maxRecDepth 20000 in
theorem p_P_129_2 {ini : Prop} : p_ok "PathTree" 129 2 4 (.int) ini := ⟨_, _, _, "PathTree$Directory", rfl, xu_D, by decide, Or.inr ⟨rfl, "PathTree", by decide⟩, Or.inl rfl, tk_D, by decide +kernel, Or.inl rfl⟩
set_option maxRecDepth 20000 in
theorem f_P_82_3 : f_ok "PathTree" 82 3 4 := ⟨_, _, _, "PathTree$FileEntry", rfl, xu_F, by decide, Or.inr ⟨"PathTree", by decide⟩, Or.inl rfl⟩
set_option maxRecDepth 20000 in
theorem p_P_82_3 {ini : Prop} : p_ok "PathTree" 82 3 4 (.int) ini := ⟨_, _, _, "PathTree$FileEntry", rfl, xu_F, by decide, Or.inr ⟨rfl, "PathTree", by decide⟩, Or.inl rfl, tk_F, by decide +kernel, Or.inl rfl⟩
set_option maxRecDepth 20000 in
theorem cl_L_7 : Cond.classLink "PathTreeLaw" 7 "PathTree" ∈ tb := t_in 57 rfl rfl
set_option maxRecDepth 20000 in
theorem w_L_7 : w_ok "PathTreeLaw" 7 0 7 xZ_P := ⟨_, _, xT_P, rfl, xu_P, by decide +kernel, cl_L_7, t_in 58 rfl rfl, t_in 48 rfl rfl, by decide +kernel⟩
set_option maxRecDepth 20000 in
theorem cl_P_7 : Cond.classLink "PathTree" 7 "PathTree$PathText" ∈ tb := t_in 65 rfl rfl
set_option maxRecDepth 20000 in
theorem w_P_7 : w_ok "PathTree" 7 1 2 xZ_T := ⟨_, _, xT_T, rfl, xu_T, by decide +kernel, cl_P_7, t_in 66 rfl rfl, t_in 49 rfl rfl, by decide +kernel⟩
set_option maxRecDepth 20000 in
theorem cl_P_16 : Cond.classLink "PathTree" 16 "PathTree$Directory" ∈ tb := t_in 81 rfl rfl
set_option maxRecDepth 20000 in
theorem w_P_16 : w_ok "PathTree" 16 2 5 xZ_D := ⟨_, _, xT_D, rfl, xu_D, by decide +kernel, cl_P_16, t_in 82 rfl rfl, t_in 51 rfl rfl, by decide +kernel⟩
set_option maxRecDepth 20000 in
theorem cl_J_323 : Cond.classLink "java/util/Arrays" 323 "[C" ∈ tb := t_in 257 rfl rfl
set_option maxRecDepth 20000 in
theorem cl_P_76 : Cond.classLink "PathTree" 76 "PathTree$FileEntry" ∈ tb := t_in 274 rfl rfl
set_option maxRecDepth 20000 in
theorem w_P_76 : w_ok "PathTree" 76 3 5 xZ_F := ⟨_, _, xT_F, rfl, xu_F, by decide +kernel, cl_P_76, t_in 279 rfl rfl, t_in 56 rfl rfl, by decide +kernel⟩
set_option maxRecDepth 20000 in
theorem cl_J_311 : Cond.classLink "java/util/Arrays" 311 "[B" ∈ tb := t_in 326 rfl rfl
set_option maxRecDepth 20000 in
theorem cl_L_10 : Cond.classLink "PathTreeLaw" 10 "PathTreeModel" ∈ tb := t_in 378 rfl rfl
set_option maxRecDepth 20000 in
theorem w_L_10 : w_ok "PathTreeLaw" 10 4 14 xZ_R := ⟨_, _, xT_R, rfl, xu_R, by decide +kernel, cl_L_10, t_in 379 rfl rfl, t_in 52 rfl rfl, by decide +kernel⟩
set_option maxRecDepth 20000 in
theorem ar_char : Cond.arrayClass (newarray.typeOf .char) ∈ tb := t_in 80 rfl rfl
set_option maxRecDepth 20000 in
theorem ar_byte : Cond.arrayClass (newarray.typeOf .byte) ∈ tb := t_in 295 rfl rfl
set_option maxRecDepth 20000 in
theorem ar_int : Cond.arrayClass (newarray.typeOf .int) ∈ tb := t_in 428 rfl rfl
set_option maxRecDepth 20000 in
theorem ar_short : Cond.arrayClass (newarray.typeOf .short) ∈ tb := t_in 429 rfl rfl
set_option maxRecDepth 20000 in
theorem okP_init : m_ok mP_init 0 := ⟨t_in 61 rfl rfl, t_in 48 rfl rfl, by decide +kernel, by decide +kernel, by decide⟩
set_option maxRecDepth 20000 in
theorem imP_init : Cond.instanceMethod (m_Y mP_init) ∈ tb := t_in 60 rfl rfl
set_option maxRecDepth 20000 in
theorem okT_init : m_ok mT_init 0 := ⟨t_in 69 rfl rfl, t_in 49 rfl rfl, by decide +kernel, by decide +kernel, by decide⟩
set_option maxRecDepth 20000 in
theorem imT_init : Cond.instanceMethod (m_Y mT_init) ∈ tb := t_in 68 rfl rfl
set_option maxRecDepth 20000 in
theorem okD_init : m_ok mD_init 1 := ⟨t_in 85 rfl rfl, t_in 51 rfl rfl, by decide +kernel, by decide +kernel, by decide⟩
set_option maxRecDepth 20000 in
theorem imD_init : Cond.instanceMethod (m_Y mD_init) ∈ tb := t_in 84 rfl rfl
set_option maxRecDepth 20000 in
theorem okE_init : m_ok mE_init 1 := ⟨t_in 88 rfl rfl, t_in 50 rfl rfl, by decide +kernel, by decide +kernel, by decide⟩
set_option maxRecDepth 20000 in
theorem imE_init : Cond.instanceMethod (m_Y mE_init) ∈ tb := t_in 87 rfl rfl
set_option maxRecDepth 20000 in
theorem okP_path : m_ok mP_path 2 := ⟨t_in 144 rfl rfl, t_in 48 rfl rfl, by decide +kernel, by decide +kernel, by decide⟩
set_option maxRecDepth 20000 in
theorem imP_path : Cond.instanceMethod (m_Y mP_path) ∈ tb := t_in 142 rfl rfl
set_option maxRecDepth 20000 in
theorem seP_path_P : Cond.selects "PathTree" (m_Y mP_path) (m_Y mP_path) ∈ tb := t_in 143 rfl rfl
set_option maxRecDepth 20000 in
theorem okP_isByteCount : m_ok mP_isByteCount 1 := ⟨t_in 147 rfl rfl, t_in 48 rfl rfl, by decide +kernel, by decide +kernel, by decide⟩
set_option maxRecDepth 20000 in
theorem stP_isByteCount : Cond.static (m_Y mP_isByteCount) ∈ tb := t_in 146 rfl rfl
set_option maxRecDepth 20000 in
theorem okT_takes : m_ok mT_takes 2 := ⟨t_in 151 rfl rfl, t_in 49 rfl rfl, by decide +kernel, by decide +kernel, by decide⟩
set_option maxRecDepth 20000 in
theorem imT_takes : Cond.instanceMethod (m_Y mT_takes) ∈ tb := t_in 150 rfl rfl
set_option maxRecDepth 20000 in
theorem seT_takes_T : Cond.selects "PathTree$PathText" (m_Y mT_takes) (m_Y mT_takes) ∈ tb := t_in 0 rfl rfl
set_option maxRecDepth 20000 in
theorem okP_byteOf : m_ok mP_byteOf 2 := ⟨t_in 154 rfl rfl, t_in 48 rfl rfl, by decide +kernel, by decide +kernel, by decide⟩
set_option maxRecDepth 20000 in
theorem stP_byteOf : Cond.static (m_Y mP_byteOf) ∈ tb := t_in 153 rfl rfl
set_option maxRecDepth 20000 in
theorem okT_isPathCharacter : m_ok mT_isPathCharacter 1 := ⟨t_in 157 rfl rfl, t_in 49 rfl rfl, by decide +kernel, by decide +kernel, by decide⟩
set_option maxRecDepth 20000 in
theorem stT_isPathCharacter : Cond.static (m_Y mT_isPathCharacter) ∈ tb := t_in 156 rfl rfl
set_option maxRecDepth 20000 in
theorem okT_append : m_ok mT_append 2 := ⟨t_in 161 rfl rfl, t_in 49 rfl rfl, by decide +kernel, by decide +kernel, by decide⟩
set_option maxRecDepth 20000 in
theorem imT_append : Cond.instanceMethod (m_Y mT_append) ∈ tb := t_in 160 rfl rfl
set_option maxRecDepth 20000 in
theorem seT_append_T : Cond.selects "PathTree$PathText" (m_Y mT_append) (m_Y mT_append) ∈ tb := t_in 1 rfl rfl
set_option maxRecDepth 20000 in
theorem okP_find : m_ok mP_find 0 := ⟨t_in 165 rfl rfl, t_in 48 rfl rfl, by decide +kernel, by decide +kernel, by decide⟩
set_option maxRecDepth 20000 in
theorem imP_find : Cond.instanceMethod (m_Y mP_find) ∈ tb := t_in 163 rfl rfl
set_option maxRecDepth 20000 in
theorem seP_find_P : Cond.selects "PathTree" (m_Y mP_find) (m_Y mP_find) ∈ tb := t_in 164 rfl rfl
set_option maxRecDepth 20000 in
theorem okP_target : m_ok mP_target 0 := ⟨t_in 169 rfl rfl, t_in 48 rfl rfl, by decide +kernel, by decide +kernel, by decide⟩
set_option maxRecDepth 20000 in
theorem imP_target : Cond.instanceMethod (m_Y mP_target) ∈ tb := t_in 168 rfl rfl
set_option maxRecDepth 20000 in
theorem seP_target_P : Cond.selects "PathTree" (m_Y mP_target) (m_Y mP_target) ∈ tb := t_in 2 rfl rfl
set_option maxRecDepth 20000 in
theorem okP_entryBefore : m_ok mP_entryBefore 1 := ⟨t_in 173 rfl rfl, t_in 48 rfl rfl, by decide +kernel, by decide +kernel, by decide⟩
set_option maxRecDepth 20000 in
theorem imP_entryBefore : Cond.instanceMethod (m_Y mP_entryBefore) ∈ tb := t_in 172 rfl rfl
set_option maxRecDepth 20000 in
theorem seP_entryBefore_P : Cond.selects "PathTree" (m_Y mP_entryBefore) (m_Y mP_entryBefore) ∈ tb := t_in 3 rfl rfl
set_option maxRecDepth 20000 in
theorem okT_isSlash : m_ok mT_isSlash 1 := ⟨t_in 177 rfl rfl, t_in 49 rfl rfl, by decide +kernel, by decide +kernel, by decide⟩
set_option maxRecDepth 20000 in
theorem imT_isSlash : Cond.instanceMethod (m_Y mT_isSlash) ∈ tb := t_in 176 rfl rfl
set_option maxRecDepth 20000 in
theorem seT_isSlash_T : Cond.selects "PathTree$PathText" (m_Y mT_isSlash) (m_Y mT_isSlash) ∈ tb := t_in 4 rfl rfl
set_option maxRecDepth 20000 in
theorem okT_is : m_ok mT_is 2 := ⟨t_in 181 rfl rfl, t_in 49 rfl rfl, by decide +kernel, by decide +kernel, by decide⟩
set_option maxRecDepth 20000 in
theorem imT_is : Cond.instanceMethod (m_Y mT_is) ∈ tb := t_in 180 rfl rfl
set_option maxRecDepth 20000 in
theorem seT_is_T : Cond.selects "PathTree$PathText" (m_Y mT_is) (m_Y mT_is) ∈ tb := t_in 5 rfl rfl
set_option maxRecDepth 20000 in
theorem okP_step : m_ok mP_step 3 := ⟨t_in 185 rfl rfl, t_in 48 rfl rfl, by decide +kernel, by decide +kernel, by decide⟩
set_option maxRecDepth 20000 in
theorem imP_step : Cond.instanceMethod (m_Y mP_step) ∈ tb := t_in 184 rfl rfl
set_option maxRecDepth 20000 in
theorem seP_step_P : Cond.selects "PathTree" (m_Y mP_step) (m_Y mP_step) ∈ tb := t_in 6 rfl rfl
set_option maxRecDepth 20000 in
theorem okT_isDot : m_ok mT_isDot 2 := ⟨t_in 189 rfl rfl, t_in 49 rfl rfl, by decide +kernel, by decide +kernel, by decide⟩
set_option maxRecDepth 20000 in
theorem imT_isDot : Cond.instanceMethod (m_Y mT_isDot) ∈ tb := t_in 188 rfl rfl
set_option maxRecDepth 20000 in
theorem seT_isDot_T : Cond.selects "PathTree$PathText" (m_Y mT_isDot) (m_Y mT_isDot) ∈ tb := t_in 7 rfl rfl
set_option maxRecDepth 20000 in
theorem okT_isDotDot : m_ok mT_isDotDot 2 := ⟨t_in 193 rfl rfl, t_in 49 rfl rfl, by decide +kernel, by decide +kernel, by decide⟩
set_option maxRecDepth 20000 in
theorem imT_isDotDot : Cond.instanceMethod (m_Y mT_isDotDot) ∈ tb := t_in 192 rfl rfl
set_option maxRecDepth 20000 in
theorem seT_isDotDot_T : Cond.selects "PathTree$PathText" (m_Y mT_isDotDot) (m_Y mT_isDotDot) ∈ tb := t_in 8 rfl rfl
set_option maxRecDepth 20000 in
theorem okD_entryCalled : m_ok mD_entryCalled 3 := ⟨t_in 197 rfl rfl, t_in 51 rfl rfl, by decide +kernel, by decide +kernel, by decide⟩
set_option maxRecDepth 20000 in
theorem imD_entryCalled : Cond.instanceMethod (m_Y mD_entryCalled) ∈ tb := t_in 196 rfl rfl
set_option maxRecDepth 20000 in
theorem seD_entryCalled_D : Cond.selects "PathTree$Directory" (m_Y mD_entryCalled) (m_Y mD_entryCalled) ∈ tb := t_in 9 rfl rfl
set_option maxRecDepth 20000 in
theorem okE_order : m_ok mE_order 3 := ⟨t_in 203 rfl rfl, t_in 50 rfl rfl, by decide +kernel, by decide +kernel, by decide⟩
set_option maxRecDepth 20000 in
theorem imE_order : Cond.instanceMethod (m_Y mE_order) ∈ tb := t_in 199 rfl rfl
set_option maxRecDepth 20000 in
theorem seE_order_D : Cond.selects "PathTree$Directory" (m_Y mE_order) (m_Y mE_order) ∈ tb := t_in 201 rfl rfl
set_option maxRecDepth 20000 in
theorem seE_order_F : Cond.selects "PathTree$FileEntry" (m_Y mE_order) (m_Y mE_order) ∈ tb := t_in 202 rfl rfl
set_option maxRecDepth 20000 in
theorem smE_order : Cond.sameMethod "PathTree$Entry" "PathTree$Entry" "order" "([CII)I" ∈ tb := t_in 200 rfl rfl
set_option maxRecDepth 20000 in
theorem okT_clear : m_ok mT_clear 0 := ⟨t_in 207 rfl rfl, t_in 49 rfl rfl, by decide +kernel, by decide +kernel, by decide⟩
set_option maxRecDepth 20000 in
theorem imT_clear : Cond.instanceMethod (m_Y mT_clear) ∈ tb := t_in 206 rfl rfl
set_option maxRecDepth 20000 in
theorem seT_clear_T : Cond.selects "PathTree$PathText" (m_Y mT_clear) (m_Y mT_clear) ∈ tb := t_in 10 rfl rfl
set_option maxRecDepth 20000 in
theorem okP_make : m_ok mP_make 0 := ⟨t_in 211 rfl rfl, t_in 48 rfl rfl, by decide +kernel, by decide +kernel, by decide⟩
set_option maxRecDepth 20000 in
theorem imP_make : Cond.instanceMethod (m_Y mP_make) ∈ tb := t_in 209 rfl rfl
set_option maxRecDepth 20000 in
theorem seP_make_P : Cond.selects "PathTree" (m_Y mP_make) (m_Y mP_make) ∈ tb := t_in 210 rfl rfl
set_option maxRecDepth 20000 in
theorem okP_homeOfNew : m_ok mP_homeOfNew 0 := ⟨t_in 215 rfl rfl, t_in 48 rfl rfl, by decide +kernel, by decide +kernel, by decide⟩
set_option maxRecDepth 20000 in
theorem imP_homeOfNew : Cond.instanceMethod (m_Y mP_homeOfNew) ∈ tb := t_in 214 rfl rfl
set_option maxRecDepth 20000 in
theorem seP_homeOfNew_P : Cond.selects "PathTree" (m_Y mP_homeOfNew) (m_Y mP_homeOfNew) ∈ tb := t_in 11 rfl rfl
set_option maxRecDepth 20000 in
theorem okT_lastNameCanBe : m_ok mT_lastNameCanBe 0 := ⟨t_in 219 rfl rfl, t_in 49 rfl rfl, by decide +kernel, by decide +kernel, by decide⟩
set_option maxRecDepth 20000 in
theorem imT_lastNameCanBe : Cond.instanceMethod (m_Y mT_lastNameCanBe) ∈ tb := t_in 218 rfl rfl
set_option maxRecDepth 20000 in
theorem seT_lastNameCanBe_T : Cond.selects "PathTree$PathText" (m_Y mT_lastNameCanBe) (m_Y mT_lastNameCanBe) ∈ tb := t_in 12 rfl rfl
set_option maxRecDepth 20000 in
theorem okT_lastSlash : m_ok mT_lastSlash 0 := ⟨t_in 223 rfl rfl, t_in 49 rfl rfl, by decide +kernel, by decide +kernel, by decide⟩
set_option maxRecDepth 20000 in
theorem imT_lastSlash : Cond.instanceMethod (m_Y mT_lastSlash) ∈ tb := t_in 222 rfl rfl
set_option maxRecDepth 20000 in
theorem seT_lastSlash_T : Cond.selects "PathTree$PathText" (m_Y mT_lastSlash) (m_Y mT_lastSlash) ∈ tb := t_in 13 rfl rfl
set_option maxRecDepth 20000 in
theorem okP_home : m_ok mP_home 0 := ⟨t_in 230 rfl rfl, t_in 48 rfl rfl, by decide +kernel, by decide +kernel, by decide⟩
set_option maxRecDepth 20000 in
theorem imP_home : Cond.instanceMethod (m_Y mP_home) ∈ tb := t_in 229 rfl rfl
set_option maxRecDepth 20000 in
theorem seP_home_P : Cond.selects "PathTree" (m_Y mP_home) (m_Y mP_home) ∈ tb := t_in 14 rfl rfl
set_option maxRecDepth 20000 in
theorem okT_lastName : m_ok mT_lastName 0 := ⟨t_in 235 rfl rfl, t_in 49 rfl rfl, by decide +kernel, by decide +kernel, by decide⟩
set_option maxRecDepth 20000 in
theorem imT_lastName : Cond.instanceMethod (m_Y mT_lastName) ∈ tb := t_in 234 rfl rfl
set_option maxRecDepth 20000 in
theorem seT_lastName_T : Cond.selects "PathTree$PathText" (m_Y mT_lastName) (m_Y mT_lastName) ∈ tb := t_in 15 rfl rfl
set_option maxRecDepth 20000 in
theorem okJ_copyOfRange : m_ok mJ_copyOfRange 3 := ⟨t_in 238 rfl rfl, t_in 53 rfl rfl, by decide +kernel, by decide +kernel, by decide⟩
set_option maxRecDepth 20000 in
theorem stJ_copyOfRange : Cond.static (m_Y mJ_copyOfRange) ∈ tb := t_in 237 rfl rfl
set_option maxRecDepth 20000 in
theorem okJ_copyOfRangeChar : m_ok mJ_copyOfRangeChar 3 := ⟨t_in 241 rfl rfl, t_in 53 rfl rfl, by decide +kernel, by decide +kernel, by decide⟩
set_option maxRecDepth 20000 in
theorem stJ_copyOfRangeChar : Cond.static (m_Y mJ_copyOfRangeChar) ∈ tb := t_in 240 rfl rfl
set_option maxRecDepth 20000 in
theorem okJ_checkLength : m_ok mJ_checkLength 2 := ⟨t_in 244 rfl rfl, t_in 53 rfl rfl, by decide +kernel, by decide +kernel, by decide⟩
set_option maxRecDepth 20000 in
theorem stJ_checkLength : Cond.static (m_Y mJ_checkLength) ∈ tb := t_in 243 rfl rfl
set_option maxRecDepth 20000 in
theorem okD_admit : m_ok mD_admit 1 := ⟨t_in 261 rfl rfl, t_in 51 rfl rfl, by decide +kernel, by decide +kernel, by decide⟩
set_option maxRecDepth 20000 in
theorem imD_admit : Cond.instanceMethod (m_Y mD_admit) ∈ tb := t_in 260 rfl rfl
set_option maxRecDepth 20000 in
theorem seD_admit_D : Cond.selects "PathTree$Directory" (m_Y mD_admit) (m_Y mD_admit) ∈ tb := t_in 16 rfl rfl
set_option maxRecDepth 20000 in
theorem okD_link : m_ok mD_link 2 := ⟨t_in 265 rfl rfl, t_in 51 rfl rfl, by decide +kernel, by decide +kernel, by decide⟩
set_option maxRecDepth 20000 in
theorem imD_link : Cond.instanceMethod (m_Y mD_link) ∈ tb := t_in 264 rfl rfl
set_option maxRecDepth 20000 in
theorem seD_link_D : Cond.selects "PathTree$Directory" (m_Y mD_link) (m_Y mD_link) ∈ tb := t_in 17 rfl rfl
set_option maxRecDepth 20000 in
theorem okP_go : m_ok mP_go 0 := ⟨t_in 269 rfl rfl, t_in 48 rfl rfl, by decide +kernel, by decide +kernel, by decide⟩
set_option maxRecDepth 20000 in
theorem imP_go : Cond.instanceMethod (m_Y mP_go) ∈ tb := t_in 267 rfl rfl
set_option maxRecDepth 20000 in
theorem seP_go_P : Cond.selects "PathTree" (m_Y mP_go) (m_Y mP_go) ∈ tb := t_in 268 rfl rfl
set_option maxRecDepth 20000 in
theorem okP_open : m_ok mP_open 0 := ⟨t_in 273 rfl rfl, t_in 48 rfl rfl, by decide +kernel, by decide +kernel, by decide⟩
set_option maxRecDepth 20000 in
theorem imP_open : Cond.instanceMethod (m_Y mP_open) ∈ tb := t_in 271 rfl rfl
set_option maxRecDepth 20000 in
theorem seP_open_P : Cond.selects "PathTree" (m_Y mP_open) (m_Y mP_open) ∈ tb := t_in 272 rfl rfl
set_option maxRecDepth 20000 in
theorem okP_newFile : m_ok mP_newFile 1 := ⟨t_in 278 rfl rfl, t_in 48 rfl rfl, by decide +kernel, by decide +kernel, by decide⟩
set_option maxRecDepth 20000 in
theorem imP_newFile : Cond.instanceMethod (m_Y mP_newFile) ∈ tb := t_in 277 rfl rfl
set_option maxRecDepth 20000 in
theorem seP_newFile_P : Cond.selects "PathTree" (m_Y mP_newFile) (m_Y mP_newFile) ∈ tb := t_in 18 rfl rfl
set_option maxRecDepth 20000 in
theorem okF_init : m_ok mF_init 1 := ⟨t_in 282 rfl rfl, t_in 56 rfl rfl, by decide +kernel, by decide +kernel, by decide⟩
set_option maxRecDepth 20000 in
theorem imF_init : Cond.instanceMethod (m_Y mF_init) ∈ tb := t_in 281 rfl rfl
set_option maxRecDepth 20000 in
theorem okP_empty : m_ok mP_empty 0 := ⟨t_in 299 rfl rfl, t_in 48 rfl rfl, by decide +kernel, by decide +kernel, by decide⟩
set_option maxRecDepth 20000 in
theorem imP_empty : Cond.instanceMethod (m_Y mP_empty) ∈ tb := t_in 297 rfl rfl
set_option maxRecDepth 20000 in
theorem seP_empty_P : Cond.selects "PathTree" (m_Y mP_empty) (m_Y mP_empty) ∈ tb := t_in 298 rfl rfl
set_option maxRecDepth 20000 in
theorem okP_dropBytes : m_ok mP_dropBytes 1 := ⟨t_in 303 rfl rfl, t_in 48 rfl rfl, by decide +kernel, by decide +kernel, by decide⟩
set_option maxRecDepth 20000 in
theorem imP_dropBytes : Cond.instanceMethod (m_Y mP_dropBytes) ∈ tb := t_in 302 rfl rfl
set_option maxRecDepth 20000 in
theorem seP_dropBytes_P : Cond.selects "PathTree" (m_Y mP_dropBytes) (m_Y mP_dropBytes) ∈ tb := t_in 19 rfl rfl
set_option maxRecDepth 20000 in
theorem okP_write : m_ok mP_write 2 := ⟨t_in 307 rfl rfl, t_in 48 rfl rfl, by decide +kernel, by decide +kernel, by decide⟩
set_option maxRecDepth 20000 in
theorem imP_write : Cond.instanceMethod (m_Y mP_write) ∈ tb := t_in 305 rfl rfl
set_option maxRecDepth 20000 in
theorem seP_write_P : Cond.selects "PathTree" (m_Y mP_write) (m_Y mP_write) ∈ tb := t_in 306 rfl rfl
set_option maxRecDepth 20000 in
theorem okF_room : m_ok mF_room 0 := ⟨t_in 311 rfl rfl, t_in 56 rfl rfl, by decide +kernel, by decide +kernel, by decide⟩
set_option maxRecDepth 20000 in
theorem imF_room : Cond.instanceMethod (m_Y mF_room) ∈ tb := t_in 310 rfl rfl
set_option maxRecDepth 20000 in
theorem seF_room_F : Cond.selects "PathTree$FileEntry" (m_Y mF_room) (m_Y mF_room) ∈ tb := t_in 20 rfl rfl
set_option maxRecDepth 20000 in
theorem okF_append : m_ok mF_append 1 := ⟨t_in 318 rfl rfl, t_in 56 rfl rfl, by decide +kernel, by decide +kernel, by decide⟩
set_option maxRecDepth 20000 in
theorem imF_append : Cond.instanceMethod (m_Y mF_append) ∈ tb := t_in 317 rfl rfl
set_option maxRecDepth 20000 in
theorem seF_append_F : Cond.selects "PathTree$FileEntry" (m_Y mF_append) (m_Y mF_append) ∈ tb := t_in 21 rfl rfl
set_option maxRecDepth 20000 in
theorem okJ_copyOf : m_ok mJ_copyOf 2 := ⟨t_in 321 rfl rfl, t_in 53 rfl rfl, by decide +kernel, by decide +kernel, by decide⟩
set_option maxRecDepth 20000 in
theorem stJ_copyOf : Cond.static (m_Y mJ_copyOf) ∈ tb := t_in 320 rfl rfl
set_option maxRecDepth 20000 in
theorem okP_byteAt : m_ok mP_byteAt 1 := ⟨t_in 330 rfl rfl, t_in 48 rfl rfl, by decide +kernel, by decide +kernel, by decide⟩
set_option maxRecDepth 20000 in
theorem imP_byteAt : Cond.instanceMethod (m_Y mP_byteAt) ∈ tb := t_in 328 rfl rfl
set_option maxRecDepth 20000 in
theorem seP_byteAt_P : Cond.selects "PathTree" (m_Y mP_byteAt) (m_Y mP_byteAt) ∈ tb := t_in 329 rfl rfl
set_option maxRecDepth 20000 in
theorem okF_at : m_ok mF_at 1 := ⟨t_in 334 rfl rfl, t_in 56 rfl rfl, by decide +kernel, by decide +kernel, by decide⟩
set_option maxRecDepth 20000 in
theorem imF_at : Cond.instanceMethod (m_Y mF_at) ∈ tb := t_in 333 rfl rfl
set_option maxRecDepth 20000 in
theorem seF_at_F : Cond.selects "PathTree$FileEntry" (m_Y mF_at) (m_Y mF_at) ∈ tb := t_in 22 rfl rfl
set_option maxRecDepth 20000 in
theorem okP_remove : m_ok mP_remove 0 := ⟨t_in 338 rfl rfl, t_in 48 rfl rfl, by decide +kernel, by decide +kernel, by decide⟩
set_option maxRecDepth 20000 in
theorem imP_remove : Cond.instanceMethod (m_Y mP_remove) ∈ tb := t_in 336 rfl rfl
set_option maxRecDepth 20000 in
theorem seP_remove_P : Cond.selects "PathTree" (m_Y mP_remove) (m_Y mP_remove) ∈ tb := t_in 337 rfl rfl
set_option maxRecDepth 20000 in
theorem okP_discard : m_ok mP_discard 1 := ⟨t_in 342 rfl rfl, t_in 48 rfl rfl, by decide +kernel, by decide +kernel, by decide⟩
set_option maxRecDepth 20000 in
theorem imP_discard : Cond.instanceMethod (m_Y mP_discard) ∈ tb := t_in 341 rfl rfl
set_option maxRecDepth 20000 in
theorem seP_discard_P : Cond.selects "PathTree" (m_Y mP_discard) (m_Y mP_discard) ∈ tb := t_in 23 rfl rfl
set_option maxRecDepth 20000 in
theorem okP_detach : m_ok mP_detach 1 := ⟨t_in 345 rfl rfl, t_in 48 rfl rfl, by decide +kernel, by decide +kernel, by decide⟩
set_option maxRecDepth 20000 in
theorem stP_detach : Cond.static (m_Y mP_detach) ∈ tb := t_in 344 rfl rfl
set_option maxRecDepth 20000 in
theorem okD_release : m_ok mD_release 1 := ⟨t_in 349 rfl rfl, t_in 51 rfl rfl, by decide +kernel, by decide +kernel, by decide⟩
set_option maxRecDepth 20000 in
theorem imD_release : Cond.instanceMethod (m_Y mD_release) ∈ tb := t_in 348 rfl rfl
set_option maxRecDepth 20000 in
theorem seD_release_D : Cond.selects "PathTree$Directory" (m_Y mD_release) (m_Y mD_release) ∈ tb := t_in 24 rfl rfl
set_option maxRecDepth 20000 in
theorem okP_move : m_ok mP_move 0 := ⟨t_in 353 rfl rfl, t_in 48 rfl rfl, by decide +kernel, by decide +kernel, by decide⟩
set_option maxRecDepth 20000 in
theorem imP_move : Cond.instanceMethod (m_Y mP_move) ∈ tb := t_in 351 rfl rfl
set_option maxRecDepth 20000 in
theorem seP_move_P : Cond.selects "PathTree" (m_Y mP_move) (m_Y mP_move) ∈ tb := t_in 352 rfl rfl
set_option maxRecDepth 20000 in
theorem okP_moveToPath : m_ok mP_moveToPath 1 := ⟨t_in 357 rfl rfl, t_in 48 rfl rfl, by decide +kernel, by decide +kernel, by decide⟩
set_option maxRecDepth 20000 in
theorem imP_moveToPath : Cond.instanceMethod (m_Y mP_moveToPath) ∈ tb := t_in 356 rfl rfl
set_option maxRecDepth 20000 in
theorem seP_moveToPath_P : Cond.selects "PathTree" (m_Y mP_moveToPath) (m_Y mP_moveToPath) ∈ tb := t_in 25 rfl rfl
set_option maxRecDepth 20000 in
theorem okP_moveInto : m_ok mP_moveInto 3 := ⟨t_in 361 rfl rfl, t_in 48 rfl rfl, by decide +kernel, by decide +kernel, by decide⟩
set_option maxRecDepth 20000 in
theorem imP_moveInto : Cond.instanceMethod (m_Y mP_moveInto) ∈ tb := t_in 360 rfl rfl
set_option maxRecDepth 20000 in
theorem seP_moveInto_P : Cond.selects "PathTree" (m_Y mP_moveInto) (m_Y mP_moveInto) ∈ tb := t_in 26 rfl rfl
set_option maxRecDepth 20000 in
theorem okP_name : m_ok mP_name 2 := ⟨t_in 365 rfl rfl, t_in 48 rfl rfl, by decide +kernel, by decide +kernel, by decide⟩
set_option maxRecDepth 20000 in
theorem imP_name : Cond.instanceMethod (m_Y mP_name) ∈ tb := t_in 363 rfl rfl
set_option maxRecDepth 20000 in
theorem seP_name_P : Cond.selects "PathTree" (m_Y mP_name) (m_Y mP_name) ∈ tb := t_in 364 rfl rfl
set_option maxRecDepth 20000 in
theorem okD_entryAt : m_ok mD_entryAt 1 := ⟨t_in 369 rfl rfl, t_in 51 rfl rfl, by decide +kernel, by decide +kernel, by decide⟩
set_option maxRecDepth 20000 in
theorem imD_entryAt : Cond.instanceMethod (m_Y mD_entryAt) ∈ tb := t_in 368 rfl rfl
set_option maxRecDepth 20000 in
theorem seD_entryAt_D : Cond.selects "PathTree$Directory" (m_Y mD_entryAt) (m_Y mD_entryAt) ∈ tb := t_in 27 rfl rfl
set_option maxRecDepth 20000 in
theorem okP_count : m_ok mP_count 1 := ⟨t_in 373 rfl rfl, t_in 48 rfl rfl, by decide +kernel, by decide +kernel, by decide⟩
set_option maxRecDepth 20000 in
theorem imP_count : Cond.instanceMethod (m_Y mP_count) ∈ tb := t_in 371 rfl rfl
set_option maxRecDepth 20000 in
theorem seP_count_P : Cond.selects "PathTree" (m_Y mP_count) (m_Y mP_count) ∈ tb := t_in 372 rfl rfl
set_option maxRecDepth 20000 in
theorem okD_depth : m_ok mD_depth 0 := ⟨t_in 377 rfl rfl, t_in 51 rfl rfl, by decide +kernel, by decide +kernel, by decide⟩
set_option maxRecDepth 20000 in
theorem imD_depth : Cond.instanceMethod (m_Y mD_depth) ∈ tb := t_in 376 rfl rfl
set_option maxRecDepth 20000 in
theorem seD_depth_D : Cond.selects "PathTree$Directory" (m_Y mD_depth) (m_Y mD_depth) ∈ tb := t_in 28 rfl rfl
set_option maxRecDepth 20000 in
theorem okR_init : m_ok mR_init 0 := ⟨t_in 382 rfl rfl, t_in 52 rfl rfl, by decide +kernel, by decide +kernel, by decide⟩
set_option maxRecDepth 20000 in
theorem imR_init : Cond.instanceMethod (m_Y mR_init) ∈ tb := t_in 381 rfl rfl
set_option maxRecDepth 20000 in
theorem okR_path : m_ok mR_path 2 := ⟨t_in 433 rfl rfl, t_in 52 rfl rfl, by decide +kernel, by decide +kernel, by decide⟩
set_option maxRecDepth 20000 in
theorem imR_path : Cond.instanceMethod (m_Y mR_path) ∈ tb := t_in 431 rfl rfl
set_option maxRecDepth 20000 in
theorem seR_path_R : Cond.selects "PathTreeModel" (m_Y mR_path) (m_Y mR_path) ∈ tb := t_in 432 rfl rfl
set_option maxRecDepth 20000 in
theorem okR_find : m_ok mR_find 0 := ⟨t_in 437 rfl rfl, t_in 52 rfl rfl, by decide +kernel, by decide +kernel, by decide⟩
set_option maxRecDepth 20000 in
theorem imR_find : Cond.instanceMethod (m_Y mR_find) ∈ tb := t_in 435 rfl rfl
set_option maxRecDepth 20000 in
theorem seR_find_R : Cond.selects "PathTreeModel" (m_Y mR_find) (m_Y mR_find) ∈ tb := t_in 436 rfl rfl
set_option maxRecDepth 20000 in
theorem okR_lead : m_ok mR_lead 1 := ⟨t_in 441 rfl rfl, t_in 52 rfl rfl, by decide +kernel, by decide +kernel, by decide⟩
set_option maxRecDepth 20000 in
theorem imR_lead : Cond.instanceMethod (m_Y mR_lead) ∈ tb := t_in 440 rfl rfl
set_option maxRecDepth 20000 in
theorem seR_lead_R : Cond.selects "PathTreeModel" (m_Y mR_lead) (m_Y mR_lead) ∈ tb := t_in 29 rfl rfl
set_option maxRecDepth 20000 in
theorem okR_along : m_ok mR_along 3 := ⟨t_in 445 rfl rfl, t_in 52 rfl rfl, by decide +kernel, by decide +kernel, by decide⟩
set_option maxRecDepth 20000 in
theorem imR_along : Cond.instanceMethod (m_Y mR_along) ∈ tb := t_in 444 rfl rfl
set_option maxRecDepth 20000 in
theorem seR_along_R : Cond.selects "PathTreeModel" (m_Y mR_along) (m_Y mR_along) ∈ tb := t_in 30 rfl rfl
set_option maxRecDepth 20000 in
theorem okR_isDots : m_ok mR_isDots 3 := ⟨t_in 449 rfl rfl, t_in 52 rfl rfl, by decide +kernel, by decide +kernel, by decide⟩
set_option maxRecDepth 20000 in
theorem imR_isDots : Cond.instanceMethod (m_Y mR_isDots) ∈ tb := t_in 448 rfl rfl
set_option maxRecDepth 20000 in
theorem seR_isDots_R : Cond.selects "PathTreeModel" (m_Y mR_isDots) (m_Y mR_isDots) ∈ tb := t_in 31 rfl rfl
set_option maxRecDepth 20000 in
theorem okR_entry : m_ok mR_entry 3 := ⟨t_in 453 rfl rfl, t_in 52 rfl rfl, by decide +kernel, by decide +kernel, by decide⟩
set_option maxRecDepth 20000 in
theorem imR_entry : Cond.instanceMethod (m_Y mR_entry) ∈ tb := t_in 452 rfl rfl
set_option maxRecDepth 20000 in
theorem seR_entry_R : Cond.selects "PathTreeModel" (m_Y mR_entry) (m_Y mR_entry) ∈ tb := t_in 32 rfl rfl
set_option maxRecDepth 20000 in
theorem okR_make : m_ok mR_make 0 := ⟨t_in 457 rfl rfl, t_in 52 rfl rfl, by decide +kernel, by decide +kernel, by decide⟩
set_option maxRecDepth 20000 in
theorem imR_make : Cond.instanceMethod (m_Y mR_make) ∈ tb := t_in 455 rfl rfl
set_option maxRecDepth 20000 in
theorem seR_make_R : Cond.selects "PathTreeModel" (m_Y mR_make) (m_Y mR_make) ∈ tb := t_in 456 rfl rfl
set_option maxRecDepth 20000 in
theorem okR_made : m_ok mR_made 1 := ⟨t_in 461 rfl rfl, t_in 52 rfl rfl, by decide +kernel, by decide +kernel, by decide⟩
set_option maxRecDepth 20000 in
theorem imR_made : Cond.instanceMethod (m_Y mR_made) ∈ tb := t_in 460 rfl rfl
set_option maxRecDepth 20000 in
theorem seR_made_R : Cond.selects "PathTreeModel" (m_Y mR_made) (m_Y mR_made) ∈ tb := t_in 33 rfl rfl
set_option maxRecDepth 20000 in
theorem okR_home : m_ok mR_home 0 := ⟨t_in 465 rfl rfl, t_in 52 rfl rfl, by decide +kernel, by decide +kernel, by decide⟩
set_option maxRecDepth 20000 in
theorem imR_home : Cond.instanceMethod (m_Y mR_home) ∈ tb := t_in 464 rfl rfl
set_option maxRecDepth 20000 in
theorem seR_home_R : Cond.selects "PathTreeModel" (m_Y mR_home) (m_Y mR_home) ∈ tb := t_in 34 rfl rfl
set_option maxRecDepth 20000 in
theorem okR_last : m_ok mR_last 0 := ⟨t_in 469 rfl rfl, t_in 52 rfl rfl, by decide +kernel, by decide +kernel, by decide⟩
set_option maxRecDepth 20000 in
theorem imR_last : Cond.instanceMethod (m_Y mR_last) ∈ tb := t_in 468 rfl rfl
set_option maxRecDepth 20000 in
theorem seR_last_R : Cond.selects "PathTreeModel" (m_Y mR_last) (m_Y mR_last) ∈ tb := t_in 35 rfl rfl
set_option maxRecDepth 20000 in
theorem okR_isName : m_ok mR_isName 0 := ⟨t_in 473 rfl rfl, t_in 52 rfl rfl, by decide +kernel, by decide +kernel, by decide⟩
set_option maxRecDepth 20000 in
theorem imR_isName : Cond.instanceMethod (m_Y mR_isName) ∈ tb := t_in 472 rfl rfl
set_option maxRecDepth 20000 in
theorem seR_isName_R : Cond.selects "PathTreeModel" (m_Y mR_isName) (m_Y mR_isName) ∈ tb := t_in 36 rfl rfl
set_option maxRecDepth 20000 in
theorem okR_put : m_ok mR_put 2 := ⟨t_in 477 rfl rfl, t_in 52 rfl rfl, by decide +kernel, by decide +kernel, by decide⟩
set_option maxRecDepth 20000 in
theorem imR_put : Cond.instanceMethod (m_Y mR_put) ∈ tb := t_in 476 rfl rfl
set_option maxRecDepth 20000 in
theorem seR_put_R : Cond.selects "PathTreeModel" (m_Y mR_put) (m_Y mR_put) ∈ tb := t_in 37 rfl rfl
set_option maxRecDepth 20000 in
theorem okR_go : m_ok mR_go 0 := ⟨t_in 481 rfl rfl, t_in 52 rfl rfl, by decide +kernel, by decide +kernel, by decide⟩
set_option maxRecDepth 20000 in
theorem imR_go : Cond.instanceMethod (m_Y mR_go) ∈ tb := t_in 479 rfl rfl
set_option maxRecDepth 20000 in
theorem seR_go_R : Cond.selects "PathTreeModel" (m_Y mR_go) (m_Y mR_go) ∈ tb := t_in 480 rfl rfl
set_option maxRecDepth 20000 in
theorem okR_open : m_ok mR_open 0 := ⟨t_in 485 rfl rfl, t_in 52 rfl rfl, by decide +kernel, by decide +kernel, by decide⟩
set_option maxRecDepth 20000 in
theorem imR_open : Cond.instanceMethod (m_Y mR_open) ∈ tb := t_in 483 rfl rfl
set_option maxRecDepth 20000 in
theorem seR_open_R : Cond.selects "PathTreeModel" (m_Y mR_open) (m_Y mR_open) ∈ tb := t_in 484 rfl rfl
set_option maxRecDepth 20000 in
theorem okR_empty : m_ok mR_empty 0 := ⟨t_in 489 rfl rfl, t_in 52 rfl rfl, by decide +kernel, by decide +kernel, by decide⟩
set_option maxRecDepth 20000 in
theorem imR_empty : Cond.instanceMethod (m_Y mR_empty) ∈ tb := t_in 487 rfl rfl
set_option maxRecDepth 20000 in
theorem seR_empty_R : Cond.selects "PathTreeModel" (m_Y mR_empty) (m_Y mR_empty) ∈ tb := t_in 488 rfl rfl
set_option maxRecDepth 20000 in
theorem okR_lose : m_ok mR_lose 1 := ⟨t_in 493 rfl rfl, t_in 52 rfl rfl, by decide +kernel, by decide +kernel, by decide⟩
set_option maxRecDepth 20000 in
theorem imR_lose : Cond.instanceMethod (m_Y mR_lose) ∈ tb := t_in 492 rfl rfl
set_option maxRecDepth 20000 in
theorem seR_lose_R : Cond.selects "PathTreeModel" (m_Y mR_lose) (m_Y mR_lose) ∈ tb := t_in 38 rfl rfl
set_option maxRecDepth 20000 in
theorem okR_write : m_ok mR_write 2 := ⟨t_in 497 rfl rfl, t_in 52 rfl rfl, by decide +kernel, by decide +kernel, by decide⟩
set_option maxRecDepth 20000 in
theorem imR_write : Cond.instanceMethod (m_Y mR_write) ∈ tb := t_in 495 rfl rfl
set_option maxRecDepth 20000 in
theorem seR_write_R : Cond.selects "PathTreeModel" (m_Y mR_write) (m_Y mR_write) ∈ tb := t_in 496 rfl rfl
set_option maxRecDepth 20000 in
theorem okR_byteAt : m_ok mR_byteAt 1 := ⟨t_in 501 rfl rfl, t_in 52 rfl rfl, by decide +kernel, by decide +kernel, by decide⟩
set_option maxRecDepth 20000 in
theorem imR_byteAt : Cond.instanceMethod (m_Y mR_byteAt) ∈ tb := t_in 499 rfl rfl
set_option maxRecDepth 20000 in
theorem seR_byteAt_R : Cond.selects "PathTreeModel" (m_Y mR_byteAt) (m_Y mR_byteAt) ∈ tb := t_in 500 rfl rfl
set_option maxRecDepth 20000 in
theorem okR_remove : m_ok mR_remove 0 := ⟨t_in 505 rfl rfl, t_in 52 rfl rfl, by decide +kernel, by decide +kernel, by decide⟩
set_option maxRecDepth 20000 in
theorem imR_remove : Cond.instanceMethod (m_Y mR_remove) ∈ tb := t_in 503 rfl rfl
set_option maxRecDepth 20000 in
theorem seR_remove_R : Cond.selects "PathTreeModel" (m_Y mR_remove) (m_Y mR_remove) ∈ tb := t_in 504 rfl rfl
set_option maxRecDepth 20000 in
theorem okR_removeFile : m_ok mR_removeFile 1 := ⟨t_in 509 rfl rfl, t_in 52 rfl rfl, by decide +kernel, by decide +kernel, by decide⟩
set_option maxRecDepth 20000 in
theorem imR_removeFile : Cond.instanceMethod (m_Y mR_removeFile) ∈ tb := t_in 508 rfl rfl
set_option maxRecDepth 20000 in
theorem seR_removeFile_R : Cond.selects "PathTreeModel" (m_Y mR_removeFile) (m_Y mR_removeFile) ∈ tb := t_in 39 rfl rfl
set_option maxRecDepth 20000 in
theorem okR_move : m_ok mR_move 0 := ⟨t_in 513 rfl rfl, t_in 52 rfl rfl, by decide +kernel, by decide +kernel, by decide⟩
set_option maxRecDepth 20000 in
theorem imR_move : Cond.instanceMethod (m_Y mR_move) ∈ tb := t_in 511 rfl rfl
set_option maxRecDepth 20000 in
theorem seR_move_R : Cond.selects "PathTreeModel" (m_Y mR_move) (m_Y mR_move) ∈ tb := t_in 512 rfl rfl
set_option maxRecDepth 20000 in
theorem okR_moved : m_ok mR_moved 0 := ⟨t_in 517 rfl rfl, t_in 52 rfl rfl, by decide +kernel, by decide +kernel, by decide⟩
set_option maxRecDepth 20000 in
theorem imR_moved : Cond.instanceMethod (m_Y mR_moved) ∈ tb := t_in 516 rfl rfl
set_option maxRecDepth 20000 in
theorem seR_moved_R : Cond.selects "PathTreeModel" (m_Y mR_moved) (m_Y mR_moved) ∈ tb := t_in 40 rfl rfl
set_option maxRecDepth 20000 in
theorem okR_namesake : m_ok mR_namesake 2 := ⟨t_in 521 rfl rfl, t_in 52 rfl rfl, by decide +kernel, by decide +kernel, by decide⟩
set_option maxRecDepth 20000 in
theorem imR_namesake : Cond.instanceMethod (m_Y mR_namesake) ∈ tb := t_in 520 rfl rfl
set_option maxRecDepth 20000 in
theorem seR_namesake_R : Cond.selects "PathTreeModel" (m_Y mR_namesake) (m_Y mR_namesake) ∈ tb := t_in 41 rfl rfl
set_option maxRecDepth 20000 in
theorem okR_name : m_ok mR_name 2 := ⟨t_in 525 rfl rfl, t_in 52 rfl rfl, by decide +kernel, by decide +kernel, by decide⟩
set_option maxRecDepth 20000 in
theorem imR_name : Cond.instanceMethod (m_Y mR_name) ∈ tb := t_in 523 rfl rfl
set_option maxRecDepth 20000 in
theorem seR_name_R : Cond.selects "PathTreeModel" (m_Y mR_name) (m_Y mR_name) ∈ tb := t_in 524 rfl rfl
set_option maxRecDepth 20000 in
theorem okR_inOrder : m_ok mR_inOrder 1 := ⟨t_in 529 rfl rfl, t_in 52 rfl rfl, by decide +kernel, by decide +kernel, by decide⟩
set_option maxRecDepth 20000 in
theorem imR_inOrder : Cond.instanceMethod (m_Y mR_inOrder) ∈ tb := t_in 528 rfl rfl
set_option maxRecDepth 20000 in
theorem seR_inOrder_R : Cond.selects "PathTreeModel" (m_Y mR_inOrder) (m_Y mR_inOrder) ∈ tb := t_in 42 rfl rfl
set_option maxRecDepth 20000 in
theorem okR_isBefore : m_ok mR_isBefore 2 := ⟨t_in 533 rfl rfl, t_in 52 rfl rfl, by decide +kernel, by decide +kernel, by decide⟩
set_option maxRecDepth 20000 in
theorem imR_isBefore : Cond.instanceMethod (m_Y mR_isBefore) ∈ tb := t_in 532 rfl rfl
set_option maxRecDepth 20000 in
theorem seR_isBefore_R : Cond.selects "PathTreeModel" (m_Y mR_isBefore) (m_Y mR_isBefore) ∈ tb := t_in 43 rfl rfl
set_option maxRecDepth 20000 in
theorem okR_count : m_ok mR_count 1 := ⟨t_in 537 rfl rfl, t_in 52 rfl rfl, by decide +kernel, by decide +kernel, by decide⟩
set_option maxRecDepth 20000 in
theorem imR_count : Cond.instanceMethod (m_Y mR_count) ∈ tb := t_in 535 rfl rfl
set_option maxRecDepth 20000 in
theorem seR_count_R : Cond.selects "PathTreeModel" (m_Y mR_count) (m_Y mR_count) ∈ tb := t_in 536 rfl rfl
set_option maxRecDepth 20000 in
theorem okR_many : m_ok mR_many 1 := ⟨t_in 541 rfl rfl, t_in 52 rfl rfl, by decide +kernel, by decide +kernel, by decide⟩
set_option maxRecDepth 20000 in
theorem imR_many : Cond.instanceMethod (m_Y mR_many) ∈ tb := t_in 540 rfl rfl
set_option maxRecDepth 20000 in
theorem seR_many_R : Cond.selects "PathTreeModel" (m_Y mR_many) (m_Y mR_many) ∈ tb := t_in 44 rfl rfl
set_option maxRecDepth 20000 in
theorem okR_atHand : m_ok mR_atHand 0 := ⟨t_in 545 rfl rfl, t_in 52 rfl rfl, by decide +kernel, by decide +kernel, by decide⟩
set_option maxRecDepth 20000 in
theorem imR_atHand : Cond.instanceMethod (m_Y mR_atHand) ∈ tb := t_in 544 rfl rfl
set_option maxRecDepth 20000 in
theorem seR_atHand_R : Cond.selects "PathTreeModel" (m_Y mR_atHand) (m_Y mR_atHand) ∈ tb := t_in 45 rfl rfl
set_option maxRecDepth 20000 in
theorem okR_above : m_ok mR_above 0 := ⟨t_in 549 rfl rfl, t_in 52 rfl rfl, by decide +kernel, by decide +kernel, by decide⟩
set_option maxRecDepth 20000 in
theorem imR_above : Cond.instanceMethod (m_Y mR_above) ∈ tb := t_in 548 rfl rfl
set_option maxRecDepth 20000 in
theorem seR_above_R : Cond.selects "PathTreeModel" (m_Y mR_above) (m_Y mR_above) ∈ tb := t_in 46 rfl rfl
set_option maxRecDepth 20000 in
theorem n_L_9 : n_ok "PathTreeLaw" 9 mP_init := Or.inl (t_in 59 rfl rfl)
set_option maxRecDepth 20000 in
theorem nl_P_1 : Cond.methodLink "PathTree" 1 ⟨"java/lang/Object", "<init>", "()V"⟩ ∈ tb := t_in 62 rfl rfl
set_option maxRecDepth 20000 in
theorem nl_T_1 : Cond.methodLink "PathTree$PathText" 1 ⟨"java/lang/Object", "<init>", "()V"⟩ ∈ tb := t_in 70 rfl rfl
set_option maxRecDepth 20000 in
theorem n_D_1 : n_ok "PathTree$Directory" 1 mE_init := Or.inl (t_in 86 rfl rfl)
set_option maxRecDepth 20000 in
theorem nl_E_1 : Cond.methodLink "PathTree$Entry" 1 ⟨"java/lang/Object", "<init>", "()V"⟩ ∈ tb := t_in 89 rfl rfl
set_option maxRecDepth 20000 in
theorem n_L_15 : n_ok "PathTreeLaw" 15 mP_path := Or.inl (t_in 141 rfl rfl)
set_option maxRecDepth 20000 in
theorem n_P_42 : n_ok "PathTree" 42 mP_isByteCount := Or.inl (t_in 145 rfl rfl)
set_option maxRecDepth 20000 in
theorem n_T_23 : n_ok "PathTree$PathText" 23 mT_isPathCharacter := Or.inl (t_in 155 rfl rfl)
set_option maxRecDepth 20000 in
theorem n_L_20 : n_ok "PathTreeLaw" 20 mP_find := Or.inl (t_in 162 rfl rfl)
set_option maxRecDepth 20000 in
theorem n_P_57 : n_ok "PathTree" 57 mP_target := Or.inl (t_in 166 rfl rfl)
set_option maxRecDepth 20000 in
theorem n_P_135 : n_ok "PathTree" 135 mP_entryBefore := Or.inl (t_in 170 rfl rfl)
set_option maxRecDepth 20000 in
theorem n_T_27 : n_ok "PathTree$PathText" 27 mT_is := Or.inl (t_in 178 rfl rfl)
set_option maxRecDepth 20000 in
theorem n_P_144 : n_ok "PathTree" 144 mP_step := Or.inl (t_in 182 rfl rfl)
set_option maxRecDepth 20000 in
theorem n_D_17 : n_ok "PathTree$Directory" 17 mE_order := Or.inl (t_in 198 rfl rfl)
set_option maxRecDepth 20000 in
theorem n_L_25 : n_ok "PathTreeLaw" 25 mP_make := Or.inl (t_in 208 rfl rfl)
set_option maxRecDepth 20000 in
theorem n_P_64 : n_ok "PathTree" 64 mP_homeOfNew := Or.inl (t_in 212 rfl rfl)
set_option maxRecDepth 20000 in
theorem n_T_34 : n_ok "PathTree$PathText" 34 mT_lastSlash := Or.inl (t_in 220 rfl rfl)
set_option maxRecDepth 20000 in
theorem n_T_31 : n_ok "PathTree$PathText" 31 mT_isSlash := Or.inl (t_in 224 rfl rfl)
set_option maxRecDepth 20000 in
theorem n_T_38 : n_ok "PathTree$PathText" 38 mT_isDot := Or.inl (t_in 225 rfl rfl)
set_option maxRecDepth 20000 in
theorem n_T_42 : n_ok "PathTree$PathText" 42 mT_isDotDot := Or.inl (t_in 226 rfl rfl)
set_option maxRecDepth 20000 in
theorem n_P_167 : n_ok "PathTree" 167 mP_home := Or.inl (t_in 227 rfl rfl)
set_option maxRecDepth 20000 in
theorem n_T_45 : n_ok "PathTree$PathText" 45 mJ_copyOfRange := Or.inl (t_in 236 rfl rfl)
set_option maxRecDepth 20000 in
theorem n_J_359 : n_ok "java/util/Arrays" 359 mJ_copyOfRangeChar := Or.inl (t_in 239 rfl rfl)
set_option maxRecDepth 20000 in
theorem n_J_343 : n_ok "java/util/Arrays" 343 mJ_checkLength := Or.inl (t_in 242 rfl rfl)
set_option maxRecDepth 20000 in
theorem nl_J_304 : Cond.methodLink "java/util/Arrays" 304 ⟨"java/lang/Math", "min", "(II)I"⟩ ∈ tb := t_in 245 rfl rfl
set_option maxRecDepth 20000 in
theorem nl_J_150 : Cond.methodLink "java/util/Arrays" 150 ⟨"java/lang/System", "arraycopy", "(Ljava/lang/Object;ILjava/lang/Object;II)V"⟩ ∈ tb := t_in 248 rfl rfl
set_option maxRecDepth 20000 in
theorem nl_J_322 : Cond.methodLink "java/util/Arrays" 322 ⟨"[C", "clone", "()Ljava/lang/Object;"⟩ ∈ tb := t_in 251 rfl rfl
set_option maxRecDepth 20000 in
theorem n_D_32 : n_ok "PathTree$Directory" 32 mD_link := Or.inl (t_in 262 rfl rfl)
set_option maxRecDepth 20000 in
theorem n_L_30 : n_ok "PathTreeLaw" 30 mP_go := Or.inl (t_in 266 rfl rfl)
set_option maxRecDepth 20000 in
theorem n_L_34 : n_ok "PathTreeLaw" 34 mP_open := Or.inl (t_in 270 rfl rfl)
set_option maxRecDepth 20000 in
theorem n_P_78 : n_ok "PathTree" 78 mP_newFile := Or.inl (t_in 275 rfl rfl)
set_option maxRecDepth 20000 in
theorem n_F_3 : n_ok "PathTree$FileEntry" 3 mE_init := Or.inl (t_in 283 rfl rfl)
set_option maxRecDepth 20000 in
theorem n_L_38 : n_ok "PathTreeLaw" 38 mP_empty := Or.inl (t_in 296 rfl rfl)
set_option maxRecDepth 20000 in
theorem n_P_83 : n_ok "PathTree" 83 mP_dropBytes := Or.inl (t_in 300 rfl rfl)
set_option maxRecDepth 20000 in
theorem n_L_42 : n_ok "PathTreeLaw" 42 mP_write := Or.inl (t_in 304 rfl rfl)
set_option maxRecDepth 20000 in
theorem nl_P_95 : Cond.methodLink "PathTree" 95 ⟨"java/lang/Math", "min", "(II)I"⟩ ∈ tb := t_in 313 rfl rfl
set_option maxRecDepth 20000 in
theorem n_P_101 : n_ok "PathTree" 101 mP_byteOf := Or.inl (t_in 314 rfl rfl)
set_option maxRecDepth 20000 in
theorem n_F_19 : n_ok "PathTree$FileEntry" 19 mJ_copyOf := Or.inl (t_in 319 rfl rfl)
set_option maxRecDepth 20000 in
theorem nl_J_310 : Cond.methodLink "java/util/Arrays" 310 ⟨"[B", "clone", "()Ljava/lang/Object;"⟩ ∈ tb := t_in 322 rfl rfl
set_option maxRecDepth 20000 in
theorem n_L_46 : n_ok "PathTreeLaw" 46 mP_byteAt := Or.inl (t_in 327 rfl rfl)
set_option maxRecDepth 20000 in
theorem n_L_51 : n_ok "PathTreeLaw" 51 mP_remove := Or.inl (t_in 335 rfl rfl)
set_option maxRecDepth 20000 in
theorem n_P_112 : n_ok "PathTree" 112 mP_discard := Or.inl (t_in 339 rfl rfl)
set_option maxRecDepth 20000 in
theorem n_P_170 : n_ok "PathTree" 170 mP_detach := Or.inl (t_in 343 rfl rfl)
set_option maxRecDepth 20000 in
theorem n_L_55 : n_ok "PathTreeLaw" 55 mP_move := Or.inl (t_in 350 rfl rfl)
set_option maxRecDepth 20000 in
theorem n_P_115 : n_ok "PathTree" 115 mP_moveToPath := Or.inl (t_in 354 rfl rfl)
set_option maxRecDepth 20000 in
theorem n_P_178 : n_ok "PathTree" 178 mP_moveInto := Or.inl (t_in 358 rfl rfl)
set_option maxRecDepth 20000 in
theorem n_L_59 : n_ok "PathTreeLaw" 59 mP_name := Or.inl (t_in 362 rfl rfl)
set_option maxRecDepth 20000 in
theorem n_L_64 : n_ok "PathTreeLaw" 64 mP_count := Or.inl (t_in 370 rfl rfl)
set_option maxRecDepth 20000 in
theorem n_L_12 : n_ok "PathTreeLaw" 12 mR_init := Or.inl (t_in 380 rfl rfl)
set_option maxRecDepth 20000 in
theorem nl_R_1 : Cond.methodLink "PathTreeModel" 1 ⟨"java/lang/Object", "<init>", "()V"⟩ ∈ tb := t_in 383 rfl rfl
set_option maxRecDepth 20000 in
theorem n_L_19 : n_ok "PathTreeLaw" 19 mR_path := Or.inl (t_in 430 rfl rfl)
set_option maxRecDepth 20000 in
theorem n_L_24 : n_ok "PathTreeLaw" 24 mR_find := Or.inl (t_in 434 rfl rfl)
set_option maxRecDepth 20000 in
theorem n_R_65 : n_ok "PathTreeModel" 65 mR_lead := Or.inl (t_in 438 rfl rfl)
set_option maxRecDepth 20000 in
theorem n_R_58 : n_ok "PathTreeModel" 58 mR_along := Or.inl (t_in 442 rfl rfl)
set_option maxRecDepth 20000 in
theorem n_R_47 : n_ok "PathTreeModel" 47 mR_isDots := Or.inl (t_in 446 rfl rfl)
set_option maxRecDepth 20000 in
theorem n_R_51 : n_ok "PathTreeModel" 51 mR_entry := Or.inl (t_in 450 rfl rfl)
set_option maxRecDepth 20000 in
theorem n_L_29 : n_ok "PathTreeLaw" 29 mR_make := Or.inl (t_in 454 rfl rfl)
set_option maxRecDepth 20000 in
theorem n_R_80 : n_ok "PathTreeModel" 80 mR_made := Or.inl (t_in 458 rfl rfl)
set_option maxRecDepth 20000 in
theorem n_R_69 : n_ok "PathTreeModel" 69 mR_home := Or.inl (t_in 462 rfl rfl)
set_option maxRecDepth 20000 in
theorem n_R_61 : n_ok "PathTreeModel" 61 mR_last := Or.inl (t_in 466 rfl rfl)
set_option maxRecDepth 20000 in
theorem n_R_72 : n_ok "PathTreeModel" 72 mR_isName := Or.inl (t_in 470 rfl rfl)
set_option maxRecDepth 20000 in
theorem n_R_76 : n_ok "PathTreeModel" 76 mR_put := Or.inl (t_in 474 rfl rfl)
set_option maxRecDepth 20000 in
theorem n_L_33 : n_ok "PathTreeLaw" 33 mR_go := Or.inl (t_in 478 rfl rfl)
set_option maxRecDepth 20000 in
theorem n_L_37 : n_ok "PathTreeLaw" 37 mR_open := Or.inl (t_in 482 rfl rfl)
set_option maxRecDepth 20000 in
theorem n_L_41 : n_ok "PathTreeLaw" 41 mR_empty := Or.inl (t_in 486 rfl rfl)
set_option maxRecDepth 20000 in
theorem n_R_90 : n_ok "PathTreeModel" 90 mR_lose := Or.inl (t_in 490 rfl rfl)
set_option maxRecDepth 20000 in
theorem n_L_45 : n_ok "PathTreeLaw" 45 mR_write := Or.inl (t_in 494 rfl rfl)
set_option maxRecDepth 20000 in
theorem n_L_50 : n_ok "PathTreeLaw" 50 mR_byteAt := Or.inl (t_in 498 rfl rfl)
set_option maxRecDepth 20000 in
theorem n_L_54 : n_ok "PathTreeLaw" 54 mR_remove := Or.inl (t_in 502 rfl rfl)
set_option maxRecDepth 20000 in
theorem n_R_93 : n_ok "PathTreeModel" 93 mR_removeFile := Or.inl (t_in 506 rfl rfl)
set_option maxRecDepth 20000 in
theorem n_L_58 : n_ok "PathTreeLaw" 58 mR_move := Or.inl (t_in 510 rfl rfl)
set_option maxRecDepth 20000 in
theorem n_R_101 : n_ok "PathTreeModel" 101 mR_moved := Or.inl (t_in 514 rfl rfl)
set_option maxRecDepth 20000 in
theorem n_R_97 : n_ok "PathTreeModel" 97 mR_namesake := Or.inl (t_in 518 rfl rfl)
set_option maxRecDepth 20000 in
theorem n_L_63 : n_ok "PathTreeLaw" 63 mR_name := Or.inl (t_in 522 rfl rfl)
set_option maxRecDepth 20000 in
theorem n_R_108 : n_ok "PathTreeModel" 108 mR_inOrder := Or.inl (t_in 526 rfl rfl)
set_option maxRecDepth 20000 in
theorem n_R_104 : n_ok "PathTreeModel" 104 mR_isBefore := Or.inl (t_in 530 rfl rfl)
set_option maxRecDepth 20000 in
theorem n_L_67 : n_ok "PathTreeLaw" 67 mR_count := Or.inl (t_in 534 rfl rfl)
set_option maxRecDepth 20000 in
theorem n_R_111 : n_ok "PathTreeModel" 111 mR_many := Or.inl (t_in 538 rfl rfl)
set_option maxRecDepth 20000 in
theorem n_R_114 : n_ok "PathTreeModel" 114 mR_atHand := Or.inl (t_in 542 rfl rfl)
set_option maxRecDepth 20000 in
theorem n_R_117 : n_ok "PathTreeModel" 117 mR_above := Or.inl (t_in 546 rfl rfl)
set_option maxRecDepth 20000 in
theorem n_P_9 : n_ok "PathTree" 9 mT_init := Or.inr ⟨"PathTree", by decide⟩
set_option maxRecDepth 20000 in
theorem n_P_18 : n_ok "PathTree" 18 mD_init := Or.inr ⟨"PathTree", by decide⟩
set_option maxRecDepth 20000 in
theorem n_P_46 : n_ok "PathTree" 46 mT_takes := Or.inr ⟨"PathTree", by decide⟩
set_option maxRecDepth 20000 in
theorem n_T_17 : n_ok "PathTree$PathText" 17 mP_byteOf := Or.inr ⟨"PathTree", by decide⟩
set_option maxRecDepth 20000 in
theorem n_P_50 : n_ok "PathTree" 50 mT_append := Or.inr ⟨"PathTree", by decide⟩
set_option maxRecDepth 20000 in
theorem n_P_138 : n_ok "PathTree" 138 mT_isSlash := Or.inr ⟨"PathTree", by decide⟩
set_option maxRecDepth 20000 in
theorem n_P_148 : n_ok "PathTree" 148 mT_isDot := Or.inr ⟨"PathTree", by decide⟩
set_option maxRecDepth 20000 in
theorem n_P_152 : n_ok "PathTree" 152 mT_isDotDot := Or.inr ⟨"PathTree", by decide⟩
set_option maxRecDepth 20000 in
theorem n_P_159 : n_ok "PathTree" 159 mD_entryCalled := Or.inr ⟨"PathTree", by decide⟩
set_option maxRecDepth 20000 in
theorem n_P_61 : n_ok "PathTree" 61 mT_clear := Or.inr ⟨"PathTree", by decide⟩
set_option maxRecDepth 20000 in
theorem n_P_163 : n_ok "PathTree" 163 mT_lastNameCanBe := Or.inr ⟨"PathTree", by decide⟩
set_option maxRecDepth 20000 in
theorem n_P_141 : n_ok "PathTree" 141 mT_lastSlash := Or.inr ⟨"PathTree", by decide⟩
set_option maxRecDepth 20000 in
theorem n_P_68 : n_ok "PathTree" 68 mT_lastName := Or.inr ⟨"PathTree", by decide⟩
set_option maxRecDepth 20000 in
theorem n_P_72 : n_ok "PathTree" 72 mD_admit := Or.inr ⟨"PathTree", by decide⟩
set_option maxRecDepth 20000 in
theorem n_P_169 : n_ok "PathTree" 169 mF_init := Or.inr ⟨"PathTree", by decide⟩
set_option maxRecDepth 20000 in
theorem n_P_90 : n_ok "PathTree" 90 mF_room := Or.inr ⟨"PathTree", by decide⟩
set_option maxRecDepth 20000 in
theorem n_P_105 : n_ok "PathTree" 105 mF_append := Or.inr ⟨"PathTree", by decide⟩
set_option maxRecDepth 20000 in
theorem n_P_108 : n_ok "PathTree" 108 mF_at := Or.inr ⟨"PathTree", by decide⟩
set_option maxRecDepth 20000 in
theorem n_P_174 : n_ok "PathTree" 174 mD_release := Or.inr ⟨"PathTree", by decide⟩
set_option maxRecDepth 20000 in
theorem n_P_119 : n_ok "PathTree" 119 mD_entryAt := Or.inr ⟨"PathTree", by decide⟩
set_option maxRecDepth 20000 in
theorem n_P_132 : n_ok "PathTree" 132 mD_depth := Or.inr ⟨"PathTree", by decide⟩
set_option maxRecDepth 20000 in
theorem co_P_94 : Jvm.Cond.constant "PathTree" 94 65536 ∈ tb := t_in 312 rfl rfl
set_option maxRecDepth 20000 in
theorem co_R_35 : Jvm.Cond.constant "PathTreeModel" 35 65536 ∈ tb := t_in 384 rfl rfl
set_option maxRecDepth 20000 in
theorem co_L_13 : Jvm.Cond.constantLong "PathTreeLaw" 13 4294967295 ∈ tb := t_in 550 rfl rfl
set_option maxRecDepth 20000 in
theorem oi_1 : Cond.instanceMethod objectInit ∈ tb := t_in 63 rfl rfl
set_option maxRecDepth 20000 in
theorem oi_2 : Cond.code objectInit ⟨#[0xb1]⟩ 1 none ∈ tb := t_in 64 rfl rfl
set_option maxRecDepth 20000 in
theorem mi_1 : Cond.static Lib.Math.min.name ∈ tb := t_in 246 rfl rfl
set_option maxRecDepth 20000 in
theorem mi_2 : Cond.initialized "java/lang/Math" ∈ tb := t_in 54 rfl rfl
set_option maxRecDepth 20000 in
theorem mi_3 : Cond.code Lib.Math.min.name Lib.Math.min.code 2 (some .int) ∈ tb := t_in 247 rfl rfl
set_option maxRecDepth 20000 in
theorem ac_1 : Cond.native arraycopyName ∈ tb := t_in 250 rfl rfl
set_option maxRecDepth 20000 in
theorem ac_2 : Cond.static arraycopyName ∈ tb := t_in 249 rfl rfl
set_option maxRecDepth 20000 in
theorem ac_3 : Cond.initialized "java/lang/System" ∈ tb := t_in 55 rfl rfl
end
section
theorem dL_law_0 : decode (m_C mL_law) 0 = .ok (.new 7, 3) := by decide +kernel
theorem dL_law_3 : decode (m_C mL_law) 3 = .ok (.dup, 1) := by decide +kernel
theorem dL_law_4 : decode (m_C mL_law) 4 = .ok (.invokespecial 9, 3) := by decide +kernel
theorem dL_law_7 : decode (m_C mL_law) 7 = .ok (.astore_n 1, 1) := by decide +kernel
theorem dL_law_8 : decode (m_C mL_law) 8 = .ok (.new 10, 3) := by decide +kernel
theorem dL_law_11 : decode (m_C mL_law) 11 = .ok (.dup, 1) := by decide +kernel
theorem dL_law_12 : decode (m_C mL_law) 12 = .ok (.invokespecial 12, 3) := by decide +kernel
theorem dL_law_15 : decode (m_C mL_law) 15 = .ok (.astore_n 2, 1) := by decide +kernel
theorem dL_law_16 : decode (m_C mL_law) 16 = .ok (.iconst 0, 1) := by decide +kernel
theorem dL_law_17 : decode (m_C mL_law) 17 = .ok (.istore_n 3, 1) := by decide +kernel
theorem dL_law_18 : decode (m_C mL_law) 18 = .ok (.iload_n 3, 1) := by decide +kernel
theorem dL_law_19 : decode (m_C mL_law) 19 = .ok (.aload_n 0, 1) := by decide +kernel
theorem dL_law_20 : decode (m_C mL_law) 20 = .ok (.arraylength, 1) := by decide +kernel
theorem dL_law_21 : decode (m_C mL_law) 21 = .ok (.iconst 4, 1) := by decide +kernel
theorem dL_law_22 : decode (m_C mL_law) 22 = .ok (.isub, 1) := by decide +kernel
theorem dL_law_23 : decode (m_C mL_law) 23 = .ok (.if_icmp .gt 375, 3) := by decide +kernel
theorem dL_law_26 : decode (m_C mL_law) 26 = .ok (.aload_n 0, 1) := by decide +kernel
theorem dL_law_27 : decode (m_C mL_law) 27 = .ok (.iload_n 3, 1) := by decide +kernel
theorem dL_law_28 : decode (m_C mL_law) 28 = .ok (.iaload, 1) := by decide +kernel
theorem dL_law_29 : decode (m_C mL_law) 29 = .ok (.bipush 15, 2) := by decide +kernel
theorem dL_law_31 : decode (m_C mL_law) 31 = .ok (.iand, 1) := by decide +kernel
theorem dL_law_32 : decode (m_C mL_law) 32 = .ok (.tableswitch 360 0 11 #[64, 127, 140, 153, 166, 179, 192, 255, 278, 291, 304, 337], 64) := by decide +kernel
theorem dL_law_96 : decode (m_C mL_law) 96 = .ok (.aload_n 1, 1) := by decide +kernel
theorem dL_law_97 : decode (m_C mL_law) 97 = .ok (.aload_n 0, 1) := by decide +kernel
theorem dL_law_98 : decode (m_C mL_law) 98 = .ok (.iload_n 3, 1) := by decide +kernel
theorem dL_law_99 : decode (m_C mL_law) 99 = .ok (.iconst 1, 1) := by decide +kernel
theorem dL_law_100 : decode (m_C mL_law) 100 = .ok (.iadd, 1) := by decide +kernel
theorem dL_law_101 : decode (m_C mL_law) 101 = .ok (.iaload, 1) := by decide +kernel
theorem dL_law_102 : decode (m_C mL_law) 102 = .ok (.i2l, 1) := by decide +kernel
theorem dL_law_103 : decode (m_C mL_law) 103 = .ok (.bipush 32, 2) := by decide +kernel
theorem dL_law_105 : decode (m_C mL_law) 105 = .ok (.lshl, 1) := by decide +kernel
theorem dL_law_106 : decode (m_C mL_law) 106 = .ok (.aload_n 0, 1) := by decide +kernel
theorem dL_law_107 : decode (m_C mL_law) 107 = .ok (.iload_n 3, 1) := by decide +kernel
theorem dL_law_108 : decode (m_C mL_law) 108 = .ok (.iconst 2, 1) := by decide +kernel
theorem dL_law_109 : decode (m_C mL_law) 109 = .ok (.iadd, 1) := by decide +kernel
theorem dL_law_110 : decode (m_C mL_law) 110 = .ok (.iaload, 1) := by decide +kernel
theorem dL_law_111 : decode (m_C mL_law) 111 = .ok (.i2l, 1) := by decide +kernel
theorem dL_law_112 : decode (m_C mL_law) 112 = .ok (.ldc2_w 13, 3) := by decide +kernel
theorem dL_law_115 : decode (m_C mL_law) 115 = .ok (.land, 1) := by decide +kernel
theorem dL_law_116 : decode (m_C mL_law) 116 = .ok (.lor, 1) := by decide +kernel
theorem dL_law_117 : decode (m_C mL_law) 117 = .ok (.aload_n 0, 1) := by decide +kernel
theorem dL_law_118 : decode (m_C mL_law) 118 = .ok (.iload_n 3, 1) := by decide +kernel
theorem dL_law_119 : decode (m_C mL_law) 119 = .ok (.iconst 3, 1) := by decide +kernel
theorem dL_law_120 : decode (m_C mL_law) 120 = .ok (.iadd, 1) := by decide +kernel
theorem dL_law_121 : decode (m_C mL_law) 121 = .ok (.iaload, 1) := by decide +kernel
theorem dL_law_122 : decode (m_C mL_law) 122 = .ok (.invokevirtual 15, 3) := by decide +kernel
theorem dL_law_125 : decode (m_C mL_law) 125 = .ok (.aload_n 2, 1) := by decide +kernel
theorem dL_law_126 : decode (m_C mL_law) 126 = .ok (.aload_n 0, 1) := by decide +kernel
theorem dL_law_127 : decode (m_C mL_law) 127 = .ok (.iload_n 3, 1) := by decide +kernel
theorem dL_law_128 : decode (m_C mL_law) 128 = .ok (.iconst 1, 1) := by decide +kernel
theorem dL_law_129 : decode (m_C mL_law) 129 = .ok (.iadd, 1) := by decide +kernel
theorem dL_law_130 : decode (m_C mL_law) 130 = .ok (.iaload, 1) := by decide +kernel
theorem dL_law_131 : decode (m_C mL_law) 131 = .ok (.i2l, 1) := by decide +kernel
theorem dL_law_132 : decode (m_C mL_law) 132 = .ok (.bipush 32, 2) := by decide +kernel
theorem dL_law_134 : decode (m_C mL_law) 134 = .ok (.lshl, 1) := by decide +kernel
theorem dL_law_135 : decode (m_C mL_law) 135 = .ok (.aload_n 0, 1) := by decide +kernel
theorem dL_law_136 : decode (m_C mL_law) 136 = .ok (.iload_n 3, 1) := by decide +kernel
theorem dL_law_137 : decode (m_C mL_law) 137 = .ok (.iconst 2, 1) := by decide +kernel
theorem dL_law_138 : decode (m_C mL_law) 138 = .ok (.iadd, 1) := by decide +kernel
theorem dL_law_139 : decode (m_C mL_law) 139 = .ok (.iaload, 1) := by decide +kernel
theorem dL_law_140 : decode (m_C mL_law) 140 = .ok (.i2l, 1) := by decide +kernel
theorem dL_law_141 : decode (m_C mL_law) 141 = .ok (.ldc2_w 13, 3) := by decide +kernel
theorem dL_law_144 : decode (m_C mL_law) 144 = .ok (.land, 1) := by decide +kernel
theorem dL_law_145 : decode (m_C mL_law) 145 = .ok (.lor, 1) := by decide +kernel
theorem dL_law_146 : decode (m_C mL_law) 146 = .ok (.aload_n 0, 1) := by decide +kernel
theorem dL_law_147 : decode (m_C mL_law) 147 = .ok (.iload_n 3, 1) := by decide +kernel
theorem dL_law_148 : decode (m_C mL_law) 148 = .ok (.iconst 3, 1) := by decide +kernel
theorem dL_law_149 : decode (m_C mL_law) 149 = .ok (.iadd, 1) := by decide +kernel
theorem dL_law_150 : decode (m_C mL_law) 150 = .ok (.iaload, 1) := by decide +kernel
theorem dL_law_151 : decode (m_C mL_law) 151 = .ok (.invokevirtual 19, 3) := by decide +kernel
theorem dL_law_154 : decode (m_C mL_law) 154 = .ok (.if_icmp .eq 238, 3) := by decide +kernel
theorem dL_law_157 : decode (m_C mL_law) 157 = .ok (.iconst 0, 1) := by decide +kernel
theorem dL_law_158 : decode (m_C mL_law) 158 = .ok (.ireturn, 1) := by decide +kernel
theorem dL_law_159 : decode (m_C mL_law) 159 = .ok (.aload_n 1, 1) := by decide +kernel
theorem dL_law_160 : decode (m_C mL_law) 160 = .ok (.invokevirtual 20, 3) := by decide +kernel
theorem dL_law_163 : decode (m_C mL_law) 163 = .ok (.aload_n 2, 1) := by decide +kernel
theorem dL_law_164 : decode (m_C mL_law) 164 = .ok (.invokevirtual 24, 3) := by decide +kernel
theorem dL_law_167 : decode (m_C mL_law) 167 = .ok (.if_icmp .eq 225, 3) := by decide +kernel
theorem dL_law_170 : decode (m_C mL_law) 170 = .ok (.iconst 0, 1) := by decide +kernel
theorem dL_law_171 : decode (m_C mL_law) 171 = .ok (.ireturn, 1) := by decide +kernel
theorem dL_law_172 : decode (m_C mL_law) 172 = .ok (.aload_n 1, 1) := by decide +kernel
theorem dL_law_173 : decode (m_C mL_law) 173 = .ok (.invokevirtual 25, 3) := by decide +kernel
theorem dL_law_176 : decode (m_C mL_law) 176 = .ok (.aload_n 2, 1) := by decide +kernel
theorem dL_law_177 : decode (m_C mL_law) 177 = .ok (.invokevirtual 29, 3) := by decide +kernel
theorem dL_law_180 : decode (m_C mL_law) 180 = .ok (.if_icmp .eq 212, 3) := by decide +kernel
theorem dL_law_183 : decode (m_C mL_law) 183 = .ok (.iconst 0, 1) := by decide +kernel
theorem dL_law_184 : decode (m_C mL_law) 184 = .ok (.ireturn, 1) := by decide +kernel
theorem dL_law_185 : decode (m_C mL_law) 185 = .ok (.aload_n 1, 1) := by decide +kernel
theorem dL_law_186 : decode (m_C mL_law) 186 = .ok (.invokevirtual 30, 3) := by decide +kernel
theorem dL_law_189 : decode (m_C mL_law) 189 = .ok (.aload_n 2, 1) := by decide +kernel
theorem dL_law_190 : decode (m_C mL_law) 190 = .ok (.invokevirtual 33, 3) := by decide +kernel
theorem dL_law_193 : decode (m_C mL_law) 193 = .ok (.if_icmp .eq 199, 3) := by decide +kernel
theorem dL_law_196 : decode (m_C mL_law) 196 = .ok (.iconst 0, 1) := by decide +kernel
theorem dL_law_197 : decode (m_C mL_law) 197 = .ok (.ireturn, 1) := by decide +kernel
theorem dL_law_198 : decode (m_C mL_law) 198 = .ok (.aload_n 1, 1) := by decide +kernel
theorem dL_law_199 : decode (m_C mL_law) 199 = .ok (.invokevirtual 34, 3) := by decide +kernel
theorem dL_law_202 : decode (m_C mL_law) 202 = .ok (.aload_n 2, 1) := by decide +kernel
theorem dL_law_203 : decode (m_C mL_law) 203 = .ok (.invokevirtual 37, 3) := by decide +kernel
theorem dL_law_206 : decode (m_C mL_law) 206 = .ok (.if_icmp .eq 186, 3) := by decide +kernel
theorem dL_law_209 : decode (m_C mL_law) 209 = .ok (.iconst 0, 1) := by decide +kernel
theorem dL_law_210 : decode (m_C mL_law) 210 = .ok (.ireturn, 1) := by decide +kernel
theorem dL_law_211 : decode (m_C mL_law) 211 = .ok (.aload_n 1, 1) := by decide +kernel
theorem dL_law_212 : decode (m_C mL_law) 212 = .ok (.invokevirtual 38, 3) := by decide +kernel
theorem dL_law_215 : decode (m_C mL_law) 215 = .ok (.aload_n 2, 1) := by decide +kernel
theorem dL_law_216 : decode (m_C mL_law) 216 = .ok (.invokevirtual 41, 3) := by decide +kernel
theorem dL_law_219 : decode (m_C mL_law) 219 = .ok (.if_icmp .eq 173, 3) := by decide +kernel
theorem dL_law_222 : decode (m_C mL_law) 222 = .ok (.iconst 0, 1) := by decide +kernel
theorem dL_law_223 : decode (m_C mL_law) 223 = .ok (.ireturn, 1) := by decide +kernel
theorem dL_law_224 : decode (m_C mL_law) 224 = .ok (.aload_n 1, 1) := by decide +kernel
theorem dL_law_225 : decode (m_C mL_law) 225 = .ok (.aload_n 0, 1) := by decide +kernel
theorem dL_law_226 : decode (m_C mL_law) 226 = .ok (.iload_n 3, 1) := by decide +kernel
theorem dL_law_227 : decode (m_C mL_law) 227 = .ok (.iconst 1, 1) := by decide +kernel
theorem dL_law_228 : decode (m_C mL_law) 228 = .ok (.iadd, 1) := by decide +kernel
theorem dL_law_229 : decode (m_C mL_law) 229 = .ok (.iaload, 1) := by decide +kernel
theorem dL_law_230 : decode (m_C mL_law) 230 = .ok (.i2l, 1) := by decide +kernel
theorem dL_law_231 : decode (m_C mL_law) 231 = .ok (.bipush 32, 2) := by decide +kernel
theorem dL_law_233 : decode (m_C mL_law) 233 = .ok (.lshl, 1) := by decide +kernel
theorem dL_law_234 : decode (m_C mL_law) 234 = .ok (.aload_n 0, 1) := by decide +kernel
theorem dL_law_235 : decode (m_C mL_law) 235 = .ok (.iload_n 3, 1) := by decide +kernel
theorem dL_law_236 : decode (m_C mL_law) 236 = .ok (.iconst 2, 1) := by decide +kernel
theorem dL_law_237 : decode (m_C mL_law) 237 = .ok (.iadd, 1) := by decide +kernel
theorem dL_law_238 : decode (m_C mL_law) 238 = .ok (.iaload, 1) := by decide +kernel
theorem dL_law_239 : decode (m_C mL_law) 239 = .ok (.i2l, 1) := by decide +kernel
theorem dL_law_240 : decode (m_C mL_law) 240 = .ok (.ldc2_w 13, 3) := by decide +kernel
theorem dL_law_243 : decode (m_C mL_law) 243 = .ok (.land, 1) := by decide +kernel
theorem dL_law_244 : decode (m_C mL_law) 244 = .ok (.lor, 1) := by decide +kernel
theorem dL_law_245 : decode (m_C mL_law) 245 = .ok (.aload_n 0, 1) := by decide +kernel
theorem dL_law_246 : decode (m_C mL_law) 246 = .ok (.iload_n 3, 1) := by decide +kernel
theorem dL_law_247 : decode (m_C mL_law) 247 = .ok (.iconst 3, 1) := by decide +kernel
theorem dL_law_248 : decode (m_C mL_law) 248 = .ok (.iadd, 1) := by decide +kernel
theorem dL_law_249 : decode (m_C mL_law) 249 = .ok (.iaload, 1) := by decide +kernel
theorem dL_law_250 : decode (m_C mL_law) 250 = .ok (.invokevirtual 42, 3) := by decide +kernel
theorem dL_law_253 : decode (m_C mL_law) 253 = .ok (.aload_n 2, 1) := by decide +kernel
theorem dL_law_254 : decode (m_C mL_law) 254 = .ok (.aload_n 0, 1) := by decide +kernel
theorem dL_law_255 : decode (m_C mL_law) 255 = .ok (.iload_n 3, 1) := by decide +kernel
theorem dL_law_256 : decode (m_C mL_law) 256 = .ok (.iconst 1, 1) := by decide +kernel
theorem dL_law_257 : decode (m_C mL_law) 257 = .ok (.iadd, 1) := by decide +kernel
theorem dL_law_258 : decode (m_C mL_law) 258 = .ok (.iaload, 1) := by decide +kernel
theorem dL_law_259 : decode (m_C mL_law) 259 = .ok (.i2l, 1) := by decide +kernel
theorem dL_law_260 : decode (m_C mL_law) 260 = .ok (.bipush 32, 2) := by decide +kernel
theorem dL_law_262 : decode (m_C mL_law) 262 = .ok (.lshl, 1) := by decide +kernel
theorem dL_law_263 : decode (m_C mL_law) 263 = .ok (.aload_n 0, 1) := by decide +kernel
theorem dL_law_264 : decode (m_C mL_law) 264 = .ok (.iload_n 3, 1) := by decide +kernel
theorem dL_law_265 : decode (m_C mL_law) 265 = .ok (.iconst 2, 1) := by decide +kernel
theorem dL_law_266 : decode (m_C mL_law) 266 = .ok (.iadd, 1) := by decide +kernel
theorem dL_law_267 : decode (m_C mL_law) 267 = .ok (.iaload, 1) := by decide +kernel
theorem dL_law_268 : decode (m_C mL_law) 268 = .ok (.i2l, 1) := by decide +kernel
theorem dL_law_269 : decode (m_C mL_law) 269 = .ok (.ldc2_w 13, 3) := by decide +kernel
theorem dL_law_272 : decode (m_C mL_law) 272 = .ok (.land, 1) := by decide +kernel
theorem dL_law_273 : decode (m_C mL_law) 273 = .ok (.lor, 1) := by decide +kernel
theorem dL_law_274 : decode (m_C mL_law) 274 = .ok (.aload_n 0, 1) := by decide +kernel
theorem dL_law_275 : decode (m_C mL_law) 275 = .ok (.iload_n 3, 1) := by decide +kernel
theorem dL_law_276 : decode (m_C mL_law) 276 = .ok (.iconst 3, 1) := by decide +kernel
theorem dL_law_277 : decode (m_C mL_law) 277 = .ok (.iadd, 1) := by decide +kernel
theorem dL_law_278 : decode (m_C mL_law) 278 = .ok (.iaload, 1) := by decide +kernel
theorem dL_law_279 : decode (m_C mL_law) 279 = .ok (.invokevirtual 45, 3) := by decide +kernel
theorem dL_law_282 : decode (m_C mL_law) 282 = .ok (.if_icmp .eq 110, 3) := by decide +kernel
theorem dL_law_285 : decode (m_C mL_law) 285 = .ok (.iconst 0, 1) := by decide +kernel
theorem dL_law_286 : decode (m_C mL_law) 286 = .ok (.ireturn, 1) := by decide +kernel
theorem dL_law_287 : decode (m_C mL_law) 287 = .ok (.aload_n 1, 1) := by decide +kernel
theorem dL_law_288 : decode (m_C mL_law) 288 = .ok (.aload_n 0, 1) := by decide +kernel
theorem dL_law_289 : decode (m_C mL_law) 289 = .ok (.iload_n 3, 1) := by decide +kernel
theorem dL_law_290 : decode (m_C mL_law) 290 = .ok (.iconst 1, 1) := by decide +kernel
theorem dL_law_291 : decode (m_C mL_law) 291 = .ok (.iadd, 1) := by decide +kernel
theorem dL_law_292 : decode (m_C mL_law) 292 = .ok (.iaload, 1) := by decide +kernel
theorem dL_law_293 : decode (m_C mL_law) 293 = .ok (.invokevirtual 46, 3) := by decide +kernel
theorem dL_law_296 : decode (m_C mL_law) 296 = .ok (.aload_n 2, 1) := by decide +kernel
theorem dL_law_297 : decode (m_C mL_law) 297 = .ok (.aload_n 0, 1) := by decide +kernel
theorem dL_law_298 : decode (m_C mL_law) 298 = .ok (.iload_n 3, 1) := by decide +kernel
theorem dL_law_299 : decode (m_C mL_law) 299 = .ok (.iconst 1, 1) := by decide +kernel
theorem dL_law_300 : decode (m_C mL_law) 300 = .ok (.iadd, 1) := by decide +kernel
theorem dL_law_301 : decode (m_C mL_law) 301 = .ok (.iaload, 1) := by decide +kernel
theorem dL_law_302 : decode (m_C mL_law) 302 = .ok (.invokevirtual 50, 3) := by decide +kernel
theorem dL_law_305 : decode (m_C mL_law) 305 = .ok (.if_icmp .eq 87, 3) := by decide +kernel
theorem dL_law_308 : decode (m_C mL_law) 308 = .ok (.iconst 0, 1) := by decide +kernel
theorem dL_law_309 : decode (m_C mL_law) 309 = .ok (.ireturn, 1) := by decide +kernel
theorem dL_law_310 : decode (m_C mL_law) 310 = .ok (.aload_n 1, 1) := by decide +kernel
theorem dL_law_311 : decode (m_C mL_law) 311 = .ok (.invokevirtual 51, 3) := by decide +kernel
theorem dL_law_314 : decode (m_C mL_law) 314 = .ok (.aload_n 2, 1) := by decide +kernel
theorem dL_law_315 : decode (m_C mL_law) 315 = .ok (.invokevirtual 54, 3) := by decide +kernel
theorem dL_law_318 : decode (m_C mL_law) 318 = .ok (.if_icmp .eq 74, 3) := by decide +kernel
theorem dL_law_321 : decode (m_C mL_law) 321 = .ok (.iconst 0, 1) := by decide +kernel
theorem dL_law_322 : decode (m_C mL_law) 322 = .ok (.ireturn, 1) := by decide +kernel
theorem dL_law_323 : decode (m_C mL_law) 323 = .ok (.aload_n 1, 1) := by decide +kernel
theorem dL_law_324 : decode (m_C mL_law) 324 = .ok (.invokevirtual 55, 3) := by decide +kernel
theorem dL_law_327 : decode (m_C mL_law) 327 = .ok (.aload_n 2, 1) := by decide +kernel
theorem dL_law_328 : decode (m_C mL_law) 328 = .ok (.invokevirtual 58, 3) := by decide +kernel
theorem dL_law_331 : decode (m_C mL_law) 331 = .ok (.if_icmp .eq 61, 3) := by decide +kernel
theorem dL_law_334 : decode (m_C mL_law) 334 = .ok (.iconst 0, 1) := by decide +kernel
theorem dL_law_335 : decode (m_C mL_law) 335 = .ok (.ireturn, 1) := by decide +kernel
theorem dL_law_336 : decode (m_C mL_law) 336 = .ok (.aload_n 1, 1) := by decide +kernel
theorem dL_law_337 : decode (m_C mL_law) 337 = .ok (.aload_n 0, 1) := by decide +kernel
theorem dL_law_338 : decode (m_C mL_law) 338 = .ok (.iload_n 3, 1) := by decide +kernel
theorem dL_law_339 : decode (m_C mL_law) 339 = .ok (.iconst 1, 1) := by decide +kernel
theorem dL_law_340 : decode (m_C mL_law) 340 = .ok (.iadd, 1) := by decide +kernel
theorem dL_law_341 : decode (m_C mL_law) 341 = .ok (.iaload, 1) := by decide +kernel
theorem dL_law_342 : decode (m_C mL_law) 342 = .ok (.aload_n 0, 1) := by decide +kernel
theorem dL_law_343 : decode (m_C mL_law) 343 = .ok (.iload_n 3, 1) := by decide +kernel
theorem dL_law_344 : decode (m_C mL_law) 344 = .ok (.iconst 2, 1) := by decide +kernel
theorem dL_law_345 : decode (m_C mL_law) 345 = .ok (.iadd, 1) := by decide +kernel
theorem dL_law_346 : decode (m_C mL_law) 346 = .ok (.iaload, 1) := by decide +kernel
theorem dL_law_347 : decode (m_C mL_law) 347 = .ok (.invokevirtual 59, 3) := by decide +kernel
theorem dL_law_350 : decode (m_C mL_law) 350 = .ok (.aload_n 2, 1) := by decide +kernel
theorem dL_law_351 : decode (m_C mL_law) 351 = .ok (.aload_n 0, 1) := by decide +kernel
theorem dL_law_352 : decode (m_C mL_law) 352 = .ok (.iload_n 3, 1) := by decide +kernel
theorem dL_law_353 : decode (m_C mL_law) 353 = .ok (.iconst 1, 1) := by decide +kernel
theorem dL_law_354 : decode (m_C mL_law) 354 = .ok (.iadd, 1) := by decide +kernel
theorem dL_law_355 : decode (m_C mL_law) 355 = .ok (.iaload, 1) := by decide +kernel
theorem dL_law_356 : decode (m_C mL_law) 356 = .ok (.aload_n 0, 1) := by decide +kernel
theorem dL_law_357 : decode (m_C mL_law) 357 = .ok (.iload_n 3, 1) := by decide +kernel
theorem dL_law_358 : decode (m_C mL_law) 358 = .ok (.iconst 2, 1) := by decide +kernel
theorem dL_law_359 : decode (m_C mL_law) 359 = .ok (.iadd, 1) := by decide +kernel
theorem dL_law_360 : decode (m_C mL_law) 360 = .ok (.iaload, 1) := by decide +kernel
theorem dL_law_361 : decode (m_C mL_law) 361 = .ok (.invokevirtual 63, 3) := by decide +kernel
theorem dL_law_364 : decode (m_C mL_law) 364 = .ok (.if_icmp .eq 28, 3) := by decide +kernel
theorem dL_law_367 : decode (m_C mL_law) 367 = .ok (.iconst 0, 1) := by decide +kernel
theorem dL_law_368 : decode (m_C mL_law) 368 = .ok (.ireturn, 1) := by decide +kernel
theorem dL_law_369 : decode (m_C mL_law) 369 = .ok (.aload_n 1, 1) := by decide +kernel
theorem dL_law_370 : decode (m_C mL_law) 370 = .ok (.aload_n 0, 1) := by decide +kernel
theorem dL_law_371 : decode (m_C mL_law) 371 = .ok (.iload_n 3, 1) := by decide +kernel
theorem dL_law_372 : decode (m_C mL_law) 372 = .ok (.iconst 1, 1) := by decide +kernel
theorem dL_law_373 : decode (m_C mL_law) 373 = .ok (.iadd, 1) := by decide +kernel
theorem dL_law_374 : decode (m_C mL_law) 374 = .ok (.iaload, 1) := by decide +kernel
theorem dL_law_375 : decode (m_C mL_law) 375 = .ok (.invokevirtual 64, 3) := by decide +kernel
theorem dL_law_378 : decode (m_C mL_law) 378 = .ok (.aload_n 2, 1) := by decide +kernel
theorem dL_law_379 : decode (m_C mL_law) 379 = .ok (.aload_n 0, 1) := by decide +kernel
theorem dL_law_380 : decode (m_C mL_law) 380 = .ok (.iload_n 3, 1) := by decide +kernel
theorem dL_law_381 : decode (m_C mL_law) 381 = .ok (.iconst 1, 1) := by decide +kernel
theorem dL_law_382 : decode (m_C mL_law) 382 = .ok (.iadd, 1) := by decide +kernel
theorem dL_law_383 : decode (m_C mL_law) 383 = .ok (.iaload, 1) := by decide +kernel
theorem dL_law_384 : decode (m_C mL_law) 384 = .ok (.invokevirtual 67, 3) := by decide +kernel
theorem dL_law_387 : decode (m_C mL_law) 387 = .ok (.if_icmp .eq 5, 3) := by decide +kernel
theorem dL_law_390 : decode (m_C mL_law) 390 = .ok (.iconst 0, 1) := by decide +kernel
theorem dL_law_391 : decode (m_C mL_law) 391 = .ok (.ireturn, 1) := by decide +kernel
theorem dL_law_392 : decode (m_C mL_law) 392 = .ok (.iinc 3 4, 3) := by decide +kernel
theorem dL_law_395 : decode (m_C mL_law) 395 = .ok (.goto (-377), 3) := by decide +kernel
theorem dL_law_398 : decode (m_C mL_law) 398 = .ok (.iconst 1, 1) := by decide +kernel
theorem dL_law_399 : decode (m_C mL_law) 399 = .ok (.ireturn, 1) := by decide +kernel
theorem dP_init_0 : decode (m_C mP_init) 0 = .ok (.aload_n 0, 1) := by decide +kernel
theorem dP_init_1 : decode (m_C mP_init) 1 = .ok (.invokespecial 1, 3) := by decide +kernel
theorem dP_init_4 : decode (m_C mP_init) 4 = .ok (.aload_n 0, 1) := by decide +kernel
theorem dP_init_5 : decode (m_C mP_init) 5 = .ok (.new 7, 3) := by decide +kernel
theorem dP_init_8 : decode (m_C mP_init) 8 = .ok (.dup, 1) := by decide +kernel
theorem dP_init_9 : decode (m_C mP_init) 9 = .ok (.invokespecial 9, 3) := by decide +kernel
theorem dP_init_12 : decode (m_C mP_init) 12 = .ok (.putfield 10, 3) := by decide +kernel
theorem dP_init_15 : decode (m_C mP_init) 15 = .ok (.aload_n 0, 1) := by decide +kernel
theorem dP_init_16 : decode (m_C mP_init) 16 = .ok (.new 16, 3) := by decide +kernel
theorem dP_init_19 : decode (m_C mP_init) 19 = .ok (.dup, 1) := by decide +kernel
theorem dP_init_20 : decode (m_C mP_init) 20 = .ok (.iconst 0, 1) := by decide +kernel
theorem dP_init_21 : decode (m_C mP_init) 21 = .ok (.newarray .char, 2) := by decide +kernel
theorem dP_init_23 : decode (m_C mP_init) 23 = .ok (.invokespecial 18, 3) := by decide +kernel
theorem dP_init_26 : decode (m_C mP_init) 26 = .ok (.putfield 21, 3) := by decide +kernel
theorem dP_init_29 : decode (m_C mP_init) 29 = .ok (.aload_n 0, 1) := by decide +kernel
theorem dP_init_30 : decode (m_C mP_init) 30 = .ok (.aload_n 0, 1) := by decide +kernel
theorem dP_init_31 : decode (m_C mP_init) 31 = .ok (.getfield 21, 3) := by decide +kernel
theorem dP_init_34 : decode (m_C mP_init) 34 = .ok (.putfield 25, 3) := by decide +kernel
theorem dP_init_37 : decode (m_C mP_init) 37 = .ok (.aload_n 0, 1) := by decide +kernel
theorem dP_init_38 : decode (m_C mP_init) 38 = .ok (.aconst_null, 1) := by decide +kernel
theorem dP_init_39 : decode (m_C mP_init) 39 = .ok (.putfield 28, 3) := by decide +kernel
theorem dP_init_42 : decode (m_C mP_init) 42 = .ok (.aload_n 0, 1) := by decide +kernel
theorem dP_init_43 : decode (m_C mP_init) 43 = .ok (.iconst 0, 1) := by decide +kernel
theorem dP_init_44 : decode (m_C mP_init) 44 = .ok (.putfield 32, 3) := by decide +kernel
theorem dP_init_47 : decode (m_C mP_init) 47 = .ok (.aload_n 0, 1) := by decide +kernel
theorem dP_init_48 : decode (m_C mP_init) 48 = .ok (.iconst 1, 1) := by decide +kernel
theorem dP_init_49 : decode (m_C mP_init) 49 = .ok (.putfield 36, 3) := by decide +kernel
theorem dP_init_52 : decode (m_C mP_init) 52 = .ok (.aload_n 0, 1) := by decide +kernel
theorem dP_init_53 : decode (m_C mP_init) 53 = .ok (.iconst 0, 1) := by decide +kernel
theorem dP_init_54 : decode (m_C mP_init) 54 = .ok (.putfield 39, 3) := by decide +kernel
theorem dP_init_57 : decode (m_C mP_init) 57 = .ok (.return_, 1) := by decide +kernel
theorem dT_init_0 : decode (m_C mT_init) 0 = .ok (.aload_n 0, 1) := by decide +kernel
theorem dT_init_1 : decode (m_C mT_init) 1 = .ok (.invokespecial 1, 3) := by decide +kernel
theorem dT_init_4 : decode (m_C mT_init) 4 = .ok (.aload_n 0, 1) := by decide +kernel
theorem dT_init_5 : decode (m_C mT_init) 5 = .ok (.sipush 250, 3) := by decide +kernel
theorem dT_init_8 : decode (m_C mT_init) 8 = .ok (.newarray .char, 2) := by decide +kernel
theorem dT_init_10 : decode (m_C mT_init) 10 = .ok (.putfield 9, 3) := by decide +kernel
theorem dT_init_13 : decode (m_C mT_init) 13 = .ok (.aload_n 0, 1) := by decide +kernel
theorem dT_init_14 : decode (m_C mT_init) 14 = .ok (.iconst 0, 1) := by decide +kernel
theorem dT_init_15 : decode (m_C mT_init) 15 = .ok (.putfield 13, 3) := by decide +kernel
theorem dT_init_18 : decode (m_C mT_init) 18 = .ok (.return_, 1) := by decide +kernel
theorem dD_init_0 : decode (m_C mD_init) 0 = .ok (.aload_n 0, 1) := by decide +kernel
theorem dD_init_1 : decode (m_C mD_init) 1 = .ok (.aload_n 1, 1) := by decide +kernel
theorem dD_init_2 : decode (m_C mD_init) 2 = .ok (.invokespecial 1, 3) := by decide +kernel
theorem dD_init_5 : decode (m_C mD_init) 5 = .ok (.aload_n 0, 1) := by decide +kernel
theorem dD_init_6 : decode (m_C mD_init) 6 = .ok (.aconst_null, 1) := by decide +kernel
theorem dD_init_7 : decode (m_C mD_init) 7 = .ok (.putfield 7, 3) := by decide +kernel
theorem dD_init_10 : decode (m_C mD_init) 10 = .ok (.aload_n 0, 1) := by decide +kernel
theorem dD_init_11 : decode (m_C mD_init) 11 = .ok (.iconst 0, 1) := by decide +kernel
theorem dD_init_12 : decode (m_C mD_init) 12 = .ok (.putfield 13, 3) := by decide +kernel
theorem dD_init_15 : decode (m_C mD_init) 15 = .ok (.return_, 1) := by decide +kernel
theorem dE_init_0 : decode (m_C mE_init) 0 = .ok (.aload_n 0, 1) := by decide +kernel
theorem dE_init_1 : decode (m_C mE_init) 1 = .ok (.invokespecial 1, 3) := by decide +kernel
theorem dE_init_4 : decode (m_C mE_init) 4 = .ok (.aload_n 0, 1) := by decide +kernel
theorem dE_init_5 : decode (m_C mE_init) 5 = .ok (.aconst_null, 1) := by decide +kernel
theorem dE_init_6 : decode (m_C mE_init) 6 = .ok (.putfield 7, 3) := by decide +kernel
theorem dE_init_9 : decode (m_C mE_init) 9 = .ok (.aload_n 0, 1) := by decide +kernel
theorem dE_init_10 : decode (m_C mE_init) 10 = .ok (.aconst_null, 1) := by decide +kernel
theorem dE_init_11 : decode (m_C mE_init) 11 = .ok (.putfield 13, 3) := by decide +kernel
theorem dE_init_14 : decode (m_C mE_init) 14 = .ok (.aload_n 0, 1) := by decide +kernel
theorem dE_init_15 : decode (m_C mE_init) 15 = .ok (.aload_n 1, 1) := by decide +kernel
theorem dE_init_16 : decode (m_C mE_init) 16 = .ok (.putfield 17, 3) := by decide +kernel
theorem dE_init_19 : decode (m_C mE_init) 19 = .ok (.return_, 1) := by decide +kernel
theorem dP_path_0 : decode (m_C mP_path) 0 = .ok (.iload_n 3, 1) := by decide +kernel
theorem dP_path_1 : decode (m_C mP_path) 1 = .ok (.invokestatic 42, 3) := by decide +kernel
theorem dP_path_4 : decode (m_C mP_path) 4 = .ok (.ifCond .eq 15, 3) := by decide +kernel
theorem dP_path_7 : decode (m_C mP_path) 7 = .ok (.aload_n 0, 1) := by decide +kernel
theorem dP_path_8 : decode (m_C mP_path) 8 = .ok (.getfield 10, 3) := by decide +kernel
theorem dP_path_11 : decode (m_C mP_path) 11 = .ok (.lload_n 1, 1) := by decide +kernel
theorem dP_path_12 : decode (m_C mP_path) 12 = .ok (.iload_n 3, 1) := by decide +kernel
theorem dP_path_13 : decode (m_C mP_path) 13 = .ok (.invokevirtual 46, 3) := by decide +kernel
theorem dP_path_16 : decode (m_C mP_path) 16 = .ok (.ifCond .ne 5, 3) := by decide +kernel
theorem dP_path_19 : decode (m_C mP_path) 19 = .ok (.iconst (-1), 1) := by decide +kernel
theorem dP_path_20 : decode (m_C mP_path) 20 = .ok (.ireturn, 1) := by decide +kernel
theorem dP_path_21 : decode (m_C mP_path) 21 = .ok (.aload_n 0, 1) := by decide +kernel
theorem dP_path_22 : decode (m_C mP_path) 22 = .ok (.getfield 10, 3) := by decide +kernel
theorem dP_path_25 : decode (m_C mP_path) 25 = .ok (.lload_n 1, 1) := by decide +kernel
theorem dP_path_26 : decode (m_C mP_path) 26 = .ok (.iload_n 3, 1) := by decide +kernel
theorem dP_path_27 : decode (m_C mP_path) 27 = .ok (.invokevirtual 50, 3) := by decide +kernel
theorem dP_path_30 : decode (m_C mP_path) 30 = .ok (.aload_n 0, 1) := by decide +kernel
theorem dP_path_31 : decode (m_C mP_path) 31 = .ok (.getfield 10, 3) := by decide +kernel
theorem dP_path_34 : decode (m_C mP_path) 34 = .ok (.getfield 54, 3) := by decide +kernel
theorem dP_path_37 : decode (m_C mP_path) 37 = .ok (.ireturn, 1) := by decide +kernel
theorem dP_isByteCount_0 : decode (m_C mP_isByteCount) 0 = .ok (.iload_n 0, 1) := by decide +kernel
theorem dP_isByteCount_1 : decode (m_C mP_isByteCount) 1 = .ok (.ifCond .lt 13, 3) := by decide +kernel
theorem dP_isByteCount_4 : decode (m_C mP_isByteCount) 4 = .ok (.iload_n 0, 1) := by decide +kernel
theorem dP_isByteCount_5 : decode (m_C mP_isByteCount) 5 = .ok (.bipush 8, 2) := by decide +kernel
theorem dP_isByteCount_7 : decode (m_C mP_isByteCount) 7 = .ok (.if_icmp .gt 7, 3) := by decide +kernel
theorem dP_isByteCount_10 : decode (m_C mP_isByteCount) 10 = .ok (.iconst 1, 1) := by decide +kernel
theorem dP_isByteCount_11 : decode (m_C mP_isByteCount) 11 = .ok (.goto 4, 3) := by decide +kernel
theorem dP_isByteCount_14 : decode (m_C mP_isByteCount) 14 = .ok (.iconst 0, 1) := by decide +kernel
theorem dP_isByteCount_15 : decode (m_C mP_isByteCount) 15 = .ok (.ireturn, 1) := by decide +kernel
theorem dT_takes_0 : decode (m_C mT_takes) 0 = .ok (.iload_n 3, 1) := by decide +kernel
theorem dT_takes_1 : decode (m_C mT_takes) 1 = .ok (.sipush 250, 3) := by decide +kernel
theorem dT_takes_4 : decode (m_C mT_takes) 4 = .ok (.aload_n 0, 1) := by decide +kernel
theorem dT_takes_5 : decode (m_C mT_takes) 5 = .ok (.getfield 13, 3) := by decide +kernel
theorem dT_takes_8 : decode (m_C mT_takes) 8 = .ok (.isub, 1) := by decide +kernel
theorem dT_takes_9 : decode (m_C mT_takes) 9 = .ok (.if_icmp .le 5, 3) := by decide +kernel
theorem dT_takes_12 : decode (m_C mT_takes) 12 = .ok (.iconst 0, 1) := by decide +kernel
theorem dT_takes_13 : decode (m_C mT_takes) 13 = .ok (.ireturn, 1) := by decide +kernel
theorem dT_takes_14 : decode (m_C mT_takes) 14 = .ok (.iconst 0, 1) := by decide +kernel
theorem dT_takes_15 : decode (m_C mT_takes) 15 = .ok (.istore 4, 2) := by decide +kernel
theorem dT_takes_17 : decode (m_C mT_takes) 17 = .ok (.iload 4, 2) := by decide +kernel
theorem dT_takes_19 : decode (m_C mT_takes) 19 = .ok (.iload_n 3, 1) := by decide +kernel
theorem dT_takes_20 : decode (m_C mT_takes) 20 = .ok (.if_icmp .ge 23, 3) := by decide +kernel
theorem dT_takes_23 : decode (m_C mT_takes) 23 = .ok (.lload_n 1, 1) := by decide +kernel
theorem dT_takes_24 : decode (m_C mT_takes) 24 = .ok (.iload 4, 2) := by decide +kernel
theorem dT_takes_26 : decode (m_C mT_takes) 26 = .ok (.invokestatic 17, 3) := by decide +kernel
theorem dT_takes_29 : decode (m_C mT_takes) 29 = .ok (.invokestatic 23, 3) := by decide +kernel
theorem dT_takes_32 : decode (m_C mT_takes) 32 = .ok (.ifCond .ne 5, 3) := by decide +kernel
theorem dT_takes_35 : decode (m_C mT_takes) 35 = .ok (.iconst 0, 1) := by decide +kernel
theorem dT_takes_36 : decode (m_C mT_takes) 36 = .ok (.ireturn, 1) := by decide +kernel
theorem dT_takes_37 : decode (m_C mT_takes) 37 = .ok (.iinc 4 1, 3) := by decide +kernel
theorem dT_takes_40 : decode (m_C mT_takes) 40 = .ok (.goto (-23), 3) := by decide +kernel
theorem dT_takes_43 : decode (m_C mT_takes) 43 = .ok (.iconst 1, 1) := by decide +kernel
theorem dT_takes_44 : decode (m_C mT_takes) 44 = .ok (.ireturn, 1) := by decide +kernel
theorem dP_byteOf_0 : decode (m_C mP_byteOf) 0 = .ok (.lload_n 0, 1) := by decide +kernel
theorem dP_byteOf_1 : decode (m_C mP_byteOf) 1 = .ok (.bipush 8, 2) := by decide +kernel
theorem dP_byteOf_3 : decode (m_C mP_byteOf) 3 = .ok (.iload_n 2, 1) := by decide +kernel
theorem dP_byteOf_4 : decode (m_C mP_byteOf) 4 = .ok (.imul, 1) := by decide +kernel
theorem dP_byteOf_5 : decode (m_C mP_byteOf) 5 = .ok (.lushr, 1) := by decide +kernel
theorem dP_byteOf_6 : decode (m_C mP_byteOf) 6 = .ok (.l2i, 1) := by decide +kernel
theorem dP_byteOf_7 : decode (m_C mP_byteOf) 7 = .ok (.sipush 255, 3) := by decide +kernel
theorem dP_byteOf_10 : decode (m_C mP_byteOf) 10 = .ok (.iand, 1) := by decide +kernel
theorem dP_byteOf_11 : decode (m_C mP_byteOf) 11 = .ok (.ireturn, 1) := by decide +kernel
theorem dT_isPathCharacter_0 : decode (m_C mT_isPathCharacter) 0 = .ok (.iload_n 0, 1) := by decide +kernel
theorem dT_isPathCharacter_1 : decode (m_C mT_isPathCharacter) 1 = .ok (.bipush 9, 2) := by decide +kernel
theorem dT_isPathCharacter_3 : decode (m_C mT_isPathCharacter) 3 = .ok (.if_icmp .eq 21, 3) := by decide +kernel
theorem dT_isPathCharacter_6 : decode (m_C mT_isPathCharacter) 6 = .ok (.iload_n 0, 1) := by decide +kernel
theorem dT_isPathCharacter_7 : decode (m_C mT_isPathCharacter) 7 = .ok (.bipush 10, 2) := by decide +kernel
theorem dT_isPathCharacter_9 : decode (m_C mT_isPathCharacter) 9 = .ok (.if_icmp .eq 15, 3) := by decide +kernel
theorem dT_isPathCharacter_12 : decode (m_C mT_isPathCharacter) 12 = .ok (.iload_n 0, 1) := by decide +kernel
theorem dT_isPathCharacter_13 : decode (m_C mT_isPathCharacter) 13 = .ok (.bipush 32, 2) := by decide +kernel
theorem dT_isPathCharacter_15 : decode (m_C mT_isPathCharacter) 15 = .ok (.if_icmp .lt 13, 3) := by decide +kernel
theorem dT_isPathCharacter_18 : decode (m_C mT_isPathCharacter) 18 = .ok (.iload_n 0, 1) := by decide +kernel
theorem dT_isPathCharacter_19 : decode (m_C mT_isPathCharacter) 19 = .ok (.bipush 126, 2) := by decide +kernel
theorem dT_isPathCharacter_21 : decode (m_C mT_isPathCharacter) 21 = .ok (.if_icmp .gt 7, 3) := by decide +kernel
theorem dT_isPathCharacter_24 : decode (m_C mT_isPathCharacter) 24 = .ok (.iconst 1, 1) := by decide +kernel
theorem dT_isPathCharacter_25 : decode (m_C mT_isPathCharacter) 25 = .ok (.goto 4, 3) := by decide +kernel
theorem dT_isPathCharacter_28 : decode (m_C mT_isPathCharacter) 28 = .ok (.iconst 0, 1) := by decide +kernel
theorem dT_isPathCharacter_29 : decode (m_C mT_isPathCharacter) 29 = .ok (.ireturn, 1) := by decide +kernel
theorem dT_append_0 : decode (m_C mT_append) 0 = .ok (.iload_n 3, 1) := by decide +kernel
theorem dT_append_1 : decode (m_C mT_append) 1 = .ok (.iconst 1, 1) := by decide +kernel
theorem dT_append_2 : decode (m_C mT_append) 2 = .ok (.isub, 1) := by decide +kernel
theorem dT_append_3 : decode (m_C mT_append) 3 = .ok (.istore 4, 2) := by decide +kernel
theorem dT_append_5 : decode (m_C mT_append) 5 = .ok (.iload 4, 2) := by decide +kernel
theorem dT_append_7 : decode (m_C mT_append) 7 = .ok (.ifCond .lt 45, 3) := by decide +kernel
theorem dT_append_10 : decode (m_C mT_append) 10 = .ok (.aload_n 0, 1) := by decide +kernel
theorem dT_append_11 : decode (m_C mT_append) 11 = .ok (.getfield 13, 3) := by decide +kernel
theorem dT_append_14 : decode (m_C mT_append) 14 = .ok (.sipush 250, 3) := by decide +kernel
theorem dT_append_17 : decode (m_C mT_append) 17 = .ok (.if_icmp .ge 35, 3) := by decide +kernel
theorem dT_append_20 : decode (m_C mT_append) 20 = .ok (.aload_n 0, 1) := by decide +kernel
theorem dT_append_21 : decode (m_C mT_append) 21 = .ok (.getfield 9, 3) := by decide +kernel
theorem dT_append_24 : decode (m_C mT_append) 24 = .ok (.aload_n 0, 1) := by decide +kernel
theorem dT_append_25 : decode (m_C mT_append) 25 = .ok (.getfield 13, 3) := by decide +kernel
theorem dT_append_28 : decode (m_C mT_append) 28 = .ok (.lload_n 1, 1) := by decide +kernel
theorem dT_append_29 : decode (m_C mT_append) 29 = .ok (.iload 4, 2) := by decide +kernel
theorem dT_append_31 : decode (m_C mT_append) 31 = .ok (.invokestatic 17, 3) := by decide +kernel
theorem dT_append_34 : decode (m_C mT_append) 34 = .ok (.i2c, 1) := by decide +kernel
theorem dT_append_35 : decode (m_C mT_append) 35 = .ok (.castore, 1) := by decide +kernel
theorem dT_append_36 : decode (m_C mT_append) 36 = .ok (.aload_n 0, 1) := by decide +kernel
theorem dT_append_37 : decode (m_C mT_append) 37 = .ok (.dup, 1) := by decide +kernel
theorem dT_append_38 : decode (m_C mT_append) 38 = .ok (.getfield 13, 3) := by decide +kernel
theorem dT_append_41 : decode (m_C mT_append) 41 = .ok (.iconst 1, 1) := by decide +kernel
theorem dT_append_42 : decode (m_C mT_append) 42 = .ok (.iadd, 1) := by decide +kernel
theorem dT_append_43 : decode (m_C mT_append) 43 = .ok (.putfield 13, 3) := by decide +kernel
theorem dT_append_46 : decode (m_C mT_append) 46 = .ok (.iinc 4 (-1), 3) := by decide +kernel
theorem dT_append_49 : decode (m_C mT_append) 49 = .ok (.goto (-44), 3) := by decide +kernel
theorem dT_append_52 : decode (m_C mT_append) 52 = .ok (.return_, 1) := by decide +kernel
theorem dP_find_0 : decode (m_C mP_find) 0 = .ok (.aload_n 0, 1) := by decide +kernel
theorem dP_find_1 : decode (m_C mP_find) 1 = .ok (.invokevirtual 57, 3) := by decide +kernel
theorem dP_find_4 : decode (m_C mP_find) 4 = .ok (.astore_n 1, 1) := by decide +kernel
theorem dP_find_5 : decode (m_C mP_find) 5 = .ok (.aload_n 0, 1) := by decide +kernel
theorem dP_find_6 : decode (m_C mP_find) 6 = .ok (.getfield 10, 3) := by decide +kernel
theorem dP_find_9 : decode (m_C mP_find) 9 = .ok (.invokevirtual 61, 3) := by decide +kernel
theorem dP_find_12 : decode (m_C mP_find) 12 = .ok (.aload_n 1, 1) := by decide +kernel
theorem dP_find_13 : decode (m_C mP_find) 13 = .ok (.ifnonnull 5, 3) := by decide +kernel
theorem dP_find_16 : decode (m_C mP_find) 16 = .ok (.iconst 0, 1) := by decide +kernel
theorem dP_find_17 : decode (m_C mP_find) 17 = .ok (.ireturn, 1) := by decide +kernel
theorem dP_find_18 : decode (m_C mP_find) 18 = .ok (.aload_n 1, 1) := by decide +kernel
theorem dP_find_19 : decode (m_C mP_find) 19 = .ok (.instanceof 16, 3) := by decide +kernel
theorem dP_find_22 : decode (m_C mP_find) 22 = .ok (.ifCond .eq 7, 3) := by decide +kernel
theorem dP_find_25 : decode (m_C mP_find) 25 = .ok (.iconst 2, 1) := by decide +kernel
theorem dP_find_26 : decode (m_C mP_find) 26 = .ok (.goto 4, 3) := by decide +kernel
theorem dP_find_29 : decode (m_C mP_find) 29 = .ok (.iconst 1, 1) := by decide +kernel
theorem dP_find_30 : decode (m_C mP_find) 30 = .ok (.ireturn, 1) := by decide +kernel
theorem dP_target_0 : decode (m_C mP_target) 0 = .ok (.aload_n 0, 1) := by decide +kernel
theorem dP_target_1 : decode (m_C mP_target) 1 = .ok (.getfield 10, 3) := by decide +kernel
theorem dP_target_4 : decode (m_C mP_target) 4 = .ok (.getfield 54, 3) := by decide +kernel
theorem dP_target_7 : decode (m_C mP_target) 7 = .ok (.ifCond .ne 5, 3) := by decide +kernel
theorem dP_target_10 : decode (m_C mP_target) 10 = .ok (.aconst_null, 1) := by decide +kernel
theorem dP_target_11 : decode (m_C mP_target) 11 = .ok (.areturn, 1) := by decide +kernel
theorem dP_target_12 : decode (m_C mP_target) 12 = .ok (.aload_n 0, 1) := by decide +kernel
theorem dP_target_13 : decode (m_C mP_target) 13 = .ok (.aload_n 0, 1) := by decide +kernel
theorem dP_target_14 : decode (m_C mP_target) 14 = .ok (.getfield 10, 3) := by decide +kernel
theorem dP_target_17 : decode (m_C mP_target) 17 = .ok (.getfield 54, 3) := by decide +kernel
theorem dP_target_20 : decode (m_C mP_target) 20 = .ok (.invokevirtual 135, 3) := by decide +kernel
theorem dP_target_23 : decode (m_C mP_target) 23 = .ok (.astore_n 1, 1) := by decide +kernel
theorem dP_target_24 : decode (m_C mP_target) 24 = .ok (.aload_n 0, 1) := by decide +kernel
theorem dP_target_25 : decode (m_C mP_target) 25 = .ok (.getfield 10, 3) := by decide +kernel
theorem dP_target_28 : decode (m_C mP_target) 28 = .ok (.aload_n 0, 1) := by decide +kernel
theorem dP_target_29 : decode (m_C mP_target) 29 = .ok (.getfield 10, 3) := by decide +kernel
theorem dP_target_32 : decode (m_C mP_target) 32 = .ok (.getfield 54, 3) := by decide +kernel
theorem dP_target_35 : decode (m_C mP_target) 35 = .ok (.iconst 1, 1) := by decide +kernel
theorem dP_target_36 : decode (m_C mP_target) 36 = .ok (.isub, 1) := by decide +kernel
theorem dP_target_37 : decode (m_C mP_target) 37 = .ok (.invokevirtual 138, 3) := by decide +kernel
theorem dP_target_40 : decode (m_C mP_target) 40 = .ok (.ifCond .eq 12, 3) := by decide +kernel
theorem dP_target_43 : decode (m_C mP_target) 43 = .ok (.aload_n 1, 1) := by decide +kernel
theorem dP_target_44 : decode (m_C mP_target) 44 = .ok (.instanceof 16, 3) := by decide +kernel
theorem dP_target_47 : decode (m_C mP_target) 47 = .ok (.ifCond .ne 5, 3) := by decide +kernel
theorem dP_target_50 : decode (m_C mP_target) 50 = .ok (.aconst_null, 1) := by decide +kernel
theorem dP_target_51 : decode (m_C mP_target) 51 = .ok (.areturn, 1) := by decide +kernel
end
section
theorem dP_target_52 : decode (m_C mP_target) 52 = .ok (.aload_n 1, 1) := by decide +kernel
theorem dP_target_53 : decode (m_C mP_target) 53 = .ok (.areturn, 1) := by decide +kernel
theorem dP_entryBefore_0 : decode (m_C mP_entryBefore) 0 = .ok (.aload_n 0, 1) := by decide +kernel
theorem dP_entryBefore_1 : decode (m_C mP_entryBefore) 1 = .ok (.getfield 10, 3) := by decide +kernel
theorem dP_entryBefore_4 : decode (m_C mP_entryBefore) 4 = .ok (.iconst 0, 1) := by decide +kernel
theorem dP_entryBefore_5 : decode (m_C mP_entryBefore) 5 = .ok (.invokevirtual 138, 3) := by decide +kernel
theorem dP_entryBefore_8 : decode (m_C mP_entryBefore) 8 = .ok (.ifCond .eq 10, 3) := by decide +kernel
theorem dP_entryBefore_11 : decode (m_C mP_entryBefore) 11 = .ok (.aload_n 0, 1) := by decide +kernel
theorem dP_entryBefore_12 : decode (m_C mP_entryBefore) 12 = .ok (.getfield 21, 3) := by decide +kernel
theorem dP_entryBefore_15 : decode (m_C mP_entryBefore) 15 = .ok (.goto 7, 3) := by decide +kernel
theorem dP_entryBefore_18 : decode (m_C mP_entryBefore) 18 = .ok (.aload_n 0, 1) := by decide +kernel
theorem dP_entryBefore_19 : decode (m_C mP_entryBefore) 19 = .ok (.getfield 25, 3) := by decide +kernel
theorem dP_entryBefore_22 : decode (m_C mP_entryBefore) 22 = .ok (.astore_n 2, 1) := by decide +kernel
theorem dP_entryBefore_23 : decode (m_C mP_entryBefore) 23 = .ok (.iconst 0, 1) := by decide +kernel
theorem dP_entryBefore_24 : decode (m_C mP_entryBefore) 24 = .ok (.istore_n 3, 1) := by decide +kernel
theorem dP_entryBefore_25 : decode (m_C mP_entryBefore) 25 = .ok (.iconst 0, 1) := by decide +kernel
theorem dP_entryBefore_26 : decode (m_C mP_entryBefore) 26 = .ok (.istore 4, 2) := by decide +kernel
theorem dP_entryBefore_28 : decode (m_C mP_entryBefore) 28 = .ok (.iload 4, 2) := by decide +kernel
theorem dP_entryBefore_30 : decode (m_C mP_entryBefore) 30 = .ok (.iload_n 1, 1) := by decide +kernel
theorem dP_entryBefore_31 : decode (m_C mP_entryBefore) 31 = .ok (.if_icmp .gt 45, 3) := by decide +kernel
theorem dP_entryBefore_34 : decode (m_C mP_entryBefore) 34 = .ok (.aload_n 2, 1) := by decide +kernel
theorem dP_entryBefore_35 : decode (m_C mP_entryBefore) 35 = .ok (.ifnull 41, 3) := by decide +kernel
theorem dP_entryBefore_38 : decode (m_C mP_entryBefore) 38 = .ok (.iload 4, 2) := by decide +kernel
theorem dP_entryBefore_40 : decode (m_C mP_entryBefore) 40 = .ok (.iload_n 1, 1) := by decide +kernel
theorem dP_entryBefore_41 : decode (m_C mP_entryBefore) 41 = .ok (.if_icmp .eq 15, 3) := by decide +kernel
theorem dP_entryBefore_44 : decode (m_C mP_entryBefore) 44 = .ok (.aload_n 0, 1) := by decide +kernel
theorem dP_entryBefore_45 : decode (m_C mP_entryBefore) 45 = .ok (.getfield 10, 3) := by decide +kernel
theorem dP_entryBefore_48 : decode (m_C mP_entryBefore) 48 = .ok (.iload 4, 2) := by decide +kernel
theorem dP_entryBefore_50 : decode (m_C mP_entryBefore) 50 = .ok (.invokevirtual 138, 3) := by decide +kernel
theorem dP_entryBefore_53 : decode (m_C mP_entryBefore) 53 = .ok (.ifCond .eq 17, 3) := by decide +kernel
theorem dP_entryBefore_56 : decode (m_C mP_entryBefore) 56 = .ok (.aload_n 0, 1) := by decide +kernel
theorem dP_entryBefore_57 : decode (m_C mP_entryBefore) 57 = .ok (.aload_n 2, 1) := by decide +kernel
theorem dP_entryBefore_58 : decode (m_C mP_entryBefore) 58 = .ok (.iload_n 3, 1) := by decide +kernel
theorem dP_entryBefore_59 : decode (m_C mP_entryBefore) 59 = .ok (.iload 4, 2) := by decide +kernel
theorem dP_entryBefore_61 : decode (m_C mP_entryBefore) 61 = .ok (.invokevirtual 144, 3) := by decide +kernel
theorem dP_entryBefore_64 : decode (m_C mP_entryBefore) 64 = .ok (.astore_n 2, 1) := by decide +kernel
theorem dP_entryBefore_65 : decode (m_C mP_entryBefore) 65 = .ok (.iload 4, 2) := by decide +kernel
theorem dP_entryBefore_67 : decode (m_C mP_entryBefore) 67 = .ok (.iconst 1, 1) := by decide +kernel
theorem dP_entryBefore_68 : decode (m_C mP_entryBefore) 68 = .ok (.iadd, 1) := by decide +kernel
theorem dP_entryBefore_69 : decode (m_C mP_entryBefore) 69 = .ok (.istore_n 3, 1) := by decide +kernel
theorem dP_entryBefore_70 : decode (m_C mP_entryBefore) 70 = .ok (.iinc 4 1, 3) := by decide +kernel
theorem dP_entryBefore_73 : decode (m_C mP_entryBefore) 73 = .ok (.goto (-45), 3) := by decide +kernel
theorem dP_entryBefore_76 : decode (m_C mP_entryBefore) 76 = .ok (.aload_n 2, 1) := by decide +kernel
theorem dP_entryBefore_77 : decode (m_C mP_entryBefore) 77 = .ok (.areturn, 1) := by decide +kernel
theorem dT_isSlash_0 : decode (m_C mT_isSlash) 0 = .ok (.aload_n 0, 1) := by decide +kernel
theorem dT_isSlash_1 : decode (m_C mT_isSlash) 1 = .ok (.bipush 47, 2) := by decide +kernel
theorem dT_isSlash_3 : decode (m_C mT_isSlash) 3 = .ok (.iload_n 1, 1) := by decide +kernel
theorem dT_isSlash_4 : decode (m_C mT_isSlash) 4 = .ok (.invokevirtual 27, 3) := by decide +kernel
theorem dT_isSlash_7 : decode (m_C mT_isSlash) 7 = .ok (.ireturn, 1) := by decide +kernel
theorem dT_is_0 : decode (m_C mT_is) 0 = .ok (.iload_n 2, 1) := by decide +kernel
theorem dT_is_1 : decode (m_C mT_is) 1 = .ok (.ifCond .lt 25, 3) := by decide +kernel
theorem dT_is_4 : decode (m_C mT_is) 4 = .ok (.iload_n 2, 1) := by decide +kernel
theorem dT_is_5 : decode (m_C mT_is) 5 = .ok (.aload_n 0, 1) := by decide +kernel
theorem dT_is_6 : decode (m_C mT_is) 6 = .ok (.getfield 13, 3) := by decide +kernel
theorem dT_is_9 : decode (m_C mT_is) 9 = .ok (.if_icmp .ge 17, 3) := by decide +kernel
theorem dT_is_12 : decode (m_C mT_is) 12 = .ok (.aload_n 0, 1) := by decide +kernel
theorem dT_is_13 : decode (m_C mT_is) 13 = .ok (.getfield 9, 3) := by decide +kernel
theorem dT_is_16 : decode (m_C mT_is) 16 = .ok (.iload_n 2, 1) := by decide +kernel
theorem dT_is_17 : decode (m_C mT_is) 17 = .ok (.caload, 1) := by decide +kernel
theorem dT_is_18 : decode (m_C mT_is) 18 = .ok (.iload_n 1, 1) := by decide +kernel
theorem dT_is_19 : decode (m_C mT_is) 19 = .ok (.if_icmp .ne 7, 3) := by decide +kernel
theorem dT_is_22 : decode (m_C mT_is) 22 = .ok (.iconst 1, 1) := by decide +kernel
theorem dT_is_23 : decode (m_C mT_is) 23 = .ok (.goto 4, 3) := by decide +kernel
theorem dT_is_26 : decode (m_C mT_is) 26 = .ok (.iconst 0, 1) := by decide +kernel
theorem dT_is_27 : decode (m_C mT_is) 27 = .ok (.ireturn, 1) := by decide +kernel
theorem dP_step_0 : decode (m_C mP_step) 0 = .ok (.iload_n 2, 1) := by decide +kernel
theorem dP_step_1 : decode (m_C mP_step) 1 = .ok (.iload_n 3, 1) := by decide +kernel
theorem dP_step_2 : decode (m_C mP_step) 2 = .ok (.if_icmp .ne 5, 3) := by decide +kernel
theorem dP_step_5 : decode (m_C mP_step) 5 = .ok (.aload_n 1, 1) := by decide +kernel
theorem dP_step_6 : decode (m_C mP_step) 6 = .ok (.areturn, 1) := by decide +kernel
theorem dP_step_7 : decode (m_C mP_step) 7 = .ok (.aload_n 1, 1) := by decide +kernel
theorem dP_step_8 : decode (m_C mP_step) 8 = .ok (.instanceof 16, 3) := by decide +kernel
theorem dP_step_11 : decode (m_C mP_step) 11 = .ok (.ifCond .eq 12, 3) := by decide +kernel
theorem dP_step_14 : decode (m_C mP_step) 14 = .ok (.aload_n 1, 1) := by decide +kernel
theorem dP_step_15 : decode (m_C mP_step) 15 = .ok (.checkcast 16, 3) := by decide +kernel
theorem dP_step_18 : decode (m_C mP_step) 18 = .ok (.astore 4, 2) := by decide +kernel
theorem dP_step_20 : decode (m_C mP_step) 20 = .ok (.goto 5, 3) := by decide +kernel
theorem dP_step_23 : decode (m_C mP_step) 23 = .ok (.aconst_null, 1) := by decide +kernel
theorem dP_step_24 : decode (m_C mP_step) 24 = .ok (.areturn, 1) := by decide +kernel
theorem dP_step_25 : decode (m_C mP_step) 25 = .ok (.aload_n 0, 1) := by decide +kernel
theorem dP_step_26 : decode (m_C mP_step) 26 = .ok (.getfield 10, 3) := by decide +kernel
theorem dP_step_29 : decode (m_C mP_step) 29 = .ok (.iload_n 2, 1) := by decide +kernel
theorem dP_step_30 : decode (m_C mP_step) 30 = .ok (.iload_n 3, 1) := by decide +kernel
theorem dP_step_31 : decode (m_C mP_step) 31 = .ok (.invokevirtual 148, 3) := by decide +kernel
theorem dP_step_34 : decode (m_C mP_step) 34 = .ok (.ifCond .eq 6, 3) := by decide +kernel
theorem dP_step_37 : decode (m_C mP_step) 37 = .ok (.aload 4, 2) := by decide +kernel
theorem dP_step_39 : decode (m_C mP_step) 39 = .ok (.areturn, 1) := by decide +kernel
theorem dP_step_40 : decode (m_C mP_step) 40 = .ok (.aload_n 0, 1) := by decide +kernel
theorem dP_step_41 : decode (m_C mP_step) 41 = .ok (.getfield 10, 3) := by decide +kernel
theorem dP_step_44 : decode (m_C mP_step) 44 = .ok (.iload_n 2, 1) := by decide +kernel
theorem dP_step_45 : decode (m_C mP_step) 45 = .ok (.iload_n 3, 1) := by decide +kernel
theorem dP_step_46 : decode (m_C mP_step) 46 = .ok (.invokevirtual 152, 3) := by decide +kernel
theorem dP_step_49 : decode (m_C mP_step) 49 = .ok (.ifCond .eq 22, 3) := by decide +kernel
theorem dP_step_52 : decode (m_C mP_step) 52 = .ok (.aload 4, 2) := by decide +kernel
theorem dP_step_54 : decode (m_C mP_step) 54 = .ok (.getfield 155, 3) := by decide +kernel
theorem dP_step_57 : decode (m_C mP_step) 57 = .ok (.ifnonnull 8, 3) := by decide +kernel
theorem dP_step_60 : decode (m_C mP_step) 60 = .ok (.aload 4, 2) := by decide +kernel
theorem dP_step_62 : decode (m_C mP_step) 62 = .ok (.goto 8, 3) := by decide +kernel
theorem dP_step_65 : decode (m_C mP_step) 65 = .ok (.aload 4, 2) := by decide +kernel
theorem dP_step_67 : decode (m_C mP_step) 67 = .ok (.getfield 155, 3) := by decide +kernel
theorem dP_step_70 : decode (m_C mP_step) 70 = .ok (.areturn, 1) := by decide +kernel
theorem dP_step_71 : decode (m_C mP_step) 71 = .ok (.aload 4, 2) := by decide +kernel
theorem dP_step_73 : decode (m_C mP_step) 73 = .ok (.aload_n 0, 1) := by decide +kernel
theorem dP_step_74 : decode (m_C mP_step) 74 = .ok (.getfield 10, 3) := by decide +kernel
theorem dP_step_77 : decode (m_C mP_step) 77 = .ok (.getfield 156, 3) := by decide +kernel
theorem dP_step_80 : decode (m_C mP_step) 80 = .ok (.iload_n 2, 1) := by decide +kernel
theorem dP_step_81 : decode (m_C mP_step) 81 = .ok (.iload_n 3, 1) := by decide +kernel
theorem dP_step_82 : decode (m_C mP_step) 82 = .ok (.invokevirtual 159, 3) := by decide +kernel
theorem dP_step_85 : decode (m_C mP_step) 85 = .ok (.areturn, 1) := by decide +kernel
theorem dT_isDot_0 : decode (m_C mT_isDot) 0 = .ok (.iload_n 2, 1) := by decide +kernel
theorem dT_isDot_1 : decode (m_C mT_isDot) 1 = .ok (.iload_n 1, 1) := by decide +kernel
theorem dT_isDot_2 : decode (m_C mT_isDot) 2 = .ok (.isub, 1) := by decide +kernel
theorem dT_isDot_3 : decode (m_C mT_isDot) 3 = .ok (.iconst 1, 1) := by decide +kernel
theorem dT_isDot_4 : decode (m_C mT_isDot) 4 = .ok (.if_icmp .ne 17, 3) := by decide +kernel
theorem dT_isDot_7 : decode (m_C mT_isDot) 7 = .ok (.aload_n 0, 1) := by decide +kernel
theorem dT_isDot_8 : decode (m_C mT_isDot) 8 = .ok (.bipush 46, 2) := by decide +kernel
theorem dT_isDot_10 : decode (m_C mT_isDot) 10 = .ok (.iload_n 1, 1) := by decide +kernel
theorem dT_isDot_11 : decode (m_C mT_isDot) 11 = .ok (.invokevirtual 27, 3) := by decide +kernel
theorem dT_isDot_14 : decode (m_C mT_isDot) 14 = .ok (.ifCond .eq 7, 3) := by decide +kernel
theorem dT_isDot_17 : decode (m_C mT_isDot) 17 = .ok (.iconst 1, 1) := by decide +kernel
theorem dT_isDot_18 : decode (m_C mT_isDot) 18 = .ok (.goto 4, 3) := by decide +kernel
theorem dT_isDot_21 : decode (m_C mT_isDot) 21 = .ok (.iconst 0, 1) := by decide +kernel
theorem dT_isDot_22 : decode (m_C mT_isDot) 22 = .ok (.ireturn, 1) := by decide +kernel
theorem dT_isDotDot_0 : decode (m_C mT_isDotDot) 0 = .ok (.iload_n 2, 1) := by decide +kernel
theorem dT_isDotDot_1 : decode (m_C mT_isDotDot) 1 = .ok (.iload_n 1, 1) := by decide +kernel
theorem dT_isDotDot_2 : decode (m_C mT_isDotDot) 2 = .ok (.isub, 1) := by decide +kernel
theorem dT_isDotDot_3 : decode (m_C mT_isDotDot) 3 = .ok (.iconst 2, 1) := by decide +kernel
theorem dT_isDotDot_4 : decode (m_C mT_isDotDot) 4 = .ok (.if_icmp .ne 29, 3) := by decide +kernel
theorem dT_isDotDot_7 : decode (m_C mT_isDotDot) 7 = .ok (.aload_n 0, 1) := by decide +kernel
theorem dT_isDotDot_8 : decode (m_C mT_isDotDot) 8 = .ok (.bipush 46, 2) := by decide +kernel
theorem dT_isDotDot_10 : decode (m_C mT_isDotDot) 10 = .ok (.iload_n 1, 1) := by decide +kernel
theorem dT_isDotDot_11 : decode (m_C mT_isDotDot) 11 = .ok (.invokevirtual 27, 3) := by decide +kernel
theorem dT_isDotDot_14 : decode (m_C mT_isDotDot) 14 = .ok (.ifCond .eq 19, 3) := by decide +kernel
theorem dT_isDotDot_17 : decode (m_C mT_isDotDot) 17 = .ok (.aload_n 0, 1) := by decide +kernel
theorem dT_isDotDot_18 : decode (m_C mT_isDotDot) 18 = .ok (.bipush 46, 2) := by decide +kernel
theorem dT_isDotDot_20 : decode (m_C mT_isDotDot) 20 = .ok (.iload_n 1, 1) := by decide +kernel
theorem dT_isDotDot_21 : decode (m_C mT_isDotDot) 21 = .ok (.iconst 1, 1) := by decide +kernel
theorem dT_isDotDot_22 : decode (m_C mT_isDotDot) 22 = .ok (.iadd, 1) := by decide +kernel
theorem dT_isDotDot_23 : decode (m_C mT_isDotDot) 23 = .ok (.invokevirtual 27, 3) := by decide +kernel
theorem dT_isDotDot_26 : decode (m_C mT_isDotDot) 26 = .ok (.ifCond .eq 7, 3) := by decide +kernel
theorem dT_isDotDot_29 : decode (m_C mT_isDotDot) 29 = .ok (.iconst 1, 1) := by decide +kernel
theorem dT_isDotDot_30 : decode (m_C mT_isDotDot) 30 = .ok (.goto 4, 3) := by decide +kernel
theorem dT_isDotDot_33 : decode (m_C mT_isDotDot) 33 = .ok (.iconst 0, 1) := by decide +kernel
theorem dT_isDotDot_34 : decode (m_C mT_isDotDot) 34 = .ok (.ireturn, 1) := by decide +kernel
theorem dD_entryCalled_0 : decode (m_C mD_entryCalled) 0 = .ok (.aload_n 0, 1) := by decide +kernel
theorem dD_entryCalled_1 : decode (m_C mD_entryCalled) 1 = .ok (.getfield 7, 3) := by decide +kernel
theorem dD_entryCalled_4 : decode (m_C mD_entryCalled) 4 = .ok (.astore 4, 2) := by decide +kernel
theorem dD_entryCalled_6 : decode (m_C mD_entryCalled) 6 = .ok (.aload 4, 2) := by decide +kernel
theorem dD_entryCalled_8 : decode (m_C mD_entryCalled) 8 = .ok (.ifnull 27, 3) := by decide +kernel
theorem dD_entryCalled_11 : decode (m_C mD_entryCalled) 11 = .ok (.aload 4, 2) := by decide +kernel
theorem dD_entryCalled_13 : decode (m_C mD_entryCalled) 13 = .ok (.aload_n 1, 1) := by decide +kernel
theorem dD_entryCalled_14 : decode (m_C mD_entryCalled) 14 = .ok (.iload_n 2, 1) := by decide +kernel
theorem dD_entryCalled_15 : decode (m_C mD_entryCalled) 15 = .ok (.iload_n 3, 1) := by decide +kernel
theorem dD_entryCalled_16 : decode (m_C mD_entryCalled) 16 = .ok (.invokevirtual 17, 3) := by decide +kernel
theorem dD_entryCalled_19 : decode (m_C mD_entryCalled) 19 = .ok (.ifCond .ne 6, 3) := by decide +kernel
theorem dD_entryCalled_22 : decode (m_C mD_entryCalled) 22 = .ok (.aload 4, 2) := by decide +kernel
theorem dD_entryCalled_24 : decode (m_C mD_entryCalled) 24 = .ok (.areturn, 1) := by decide +kernel
theorem dD_entryCalled_25 : decode (m_C mD_entryCalled) 25 = .ok (.aload 4, 2) := by decide +kernel
theorem dD_entryCalled_27 : decode (m_C mD_entryCalled) 27 = .ok (.getfield 21, 3) := by decide +kernel
theorem dD_entryCalled_30 : decode (m_C mD_entryCalled) 30 = .ok (.astore 4, 2) := by decide +kernel
theorem dD_entryCalled_32 : decode (m_C mD_entryCalled) 32 = .ok (.goto (-26), 3) := by decide +kernel
theorem dD_entryCalled_35 : decode (m_C mD_entryCalled) 35 = .ok (.aconst_null, 1) := by decide +kernel
theorem dD_entryCalled_36 : decode (m_C mD_entryCalled) 36 = .ok (.areturn, 1) := by decide +kernel
theorem dE_order_0 : decode (m_C mE_order) 0 = .ok (.iload_n 3, 1) := by decide +kernel
theorem dE_order_1 : decode (m_C mE_order) 1 = .ok (.iload_n 2, 1) := by decide +kernel
theorem dE_order_2 : decode (m_C mE_order) 2 = .ok (.isub, 1) := by decide +kernel
theorem dE_order_3 : decode (m_C mE_order) 3 = .ok (.istore 4, 2) := by decide +kernel
theorem dE_order_5 : decode (m_C mE_order) 5 = .ok (.iconst 0, 1) := by decide +kernel
theorem dE_order_6 : decode (m_C mE_order) 6 = .ok (.istore 5, 2) := by decide +kernel
theorem dE_order_8 : decode (m_C mE_order) 8 = .ok (.iload 5, 2) := by decide +kernel
theorem dE_order_10 : decode (m_C mE_order) 10 = .ok (.aload_n 0, 1) := by decide +kernel
theorem dE_order_11 : decode (m_C mE_order) 11 = .ok (.getfield 17, 3) := by decide +kernel
theorem dE_order_14 : decode (m_C mE_order) 14 = .ok (.arraylength, 1) := by decide +kernel
theorem dE_order_15 : decode (m_C mE_order) 15 = .ok (.if_icmp .ge 47, 3) := by decide +kernel
theorem dE_order_18 : decode (m_C mE_order) 18 = .ok (.iload 5, 2) := by decide +kernel
theorem dE_order_20 : decode (m_C mE_order) 20 = .ok (.iload 4, 2) := by decide +kernel
theorem dE_order_22 : decode (m_C mE_order) 22 = .ok (.if_icmp .ge 40, 3) := by decide +kernel
theorem dE_order_25 : decode (m_C mE_order) 25 = .ok (.aload_n 0, 1) := by decide +kernel
theorem dE_order_26 : decode (m_C mE_order) 26 = .ok (.getfield 17, 3) := by decide +kernel
theorem dE_order_29 : decode (m_C mE_order) 29 = .ok (.iload 5, 2) := by decide +kernel
theorem dE_order_31 : decode (m_C mE_order) 31 = .ok (.caload, 1) := by decide +kernel
theorem dE_order_32 : decode (m_C mE_order) 32 = .ok (.aload_n 1, 1) := by decide +kernel
theorem dE_order_33 : decode (m_C mE_order) 33 = .ok (.iload_n 2, 1) := by decide +kernel
theorem dE_order_34 : decode (m_C mE_order) 34 = .ok (.iload 5, 2) := by decide +kernel
theorem dE_order_36 : decode (m_C mE_order) 36 = .ok (.iadd, 1) := by decide +kernel
theorem dE_order_37 : decode (m_C mE_order) 37 = .ok (.caload, 1) := by decide +kernel
theorem dE_order_38 : decode (m_C mE_order) 38 = .ok (.if_icmp .eq 18, 3) := by decide +kernel
theorem dE_order_41 : decode (m_C mE_order) 41 = .ok (.aload_n 0, 1) := by decide +kernel
theorem dE_order_42 : decode (m_C mE_order) 42 = .ok (.getfield 17, 3) := by decide +kernel
theorem dE_order_45 : decode (m_C mE_order) 45 = .ok (.iload 5, 2) := by decide +kernel
theorem dE_order_47 : decode (m_C mE_order) 47 = .ok (.caload, 1) := by decide +kernel
theorem dE_order_48 : decode (m_C mE_order) 48 = .ok (.aload_n 1, 1) := by decide +kernel
theorem dE_order_49 : decode (m_C mE_order) 49 = .ok (.iload_n 2, 1) := by decide +kernel
theorem dE_order_50 : decode (m_C mE_order) 50 = .ok (.iload 5, 2) := by decide +kernel
theorem dE_order_52 : decode (m_C mE_order) 52 = .ok (.iadd, 1) := by decide +kernel
theorem dE_order_53 : decode (m_C mE_order) 53 = .ok (.caload, 1) := by decide +kernel
theorem dE_order_54 : decode (m_C mE_order) 54 = .ok (.isub, 1) := by decide +kernel
theorem dE_order_55 : decode (m_C mE_order) 55 = .ok (.ireturn, 1) := by decide +kernel
theorem dE_order_56 : decode (m_C mE_order) 56 = .ok (.iinc 5 1, 3) := by decide +kernel
theorem dE_order_59 : decode (m_C mE_order) 59 = .ok (.goto (-51), 3) := by decide +kernel
theorem dE_order_62 : decode (m_C mE_order) 62 = .ok (.aload_n 0, 1) := by decide +kernel
theorem dE_order_63 : decode (m_C mE_order) 63 = .ok (.getfield 17, 3) := by decide +kernel
theorem dE_order_66 : decode (m_C mE_order) 66 = .ok (.arraylength, 1) := by decide +kernel
theorem dE_order_67 : decode (m_C mE_order) 67 = .ok (.iload 4, 2) := by decide +kernel
theorem dE_order_69 : decode (m_C mE_order) 69 = .ok (.isub, 1) := by decide +kernel
theorem dE_order_70 : decode (m_C mE_order) 70 = .ok (.ireturn, 1) := by decide +kernel
theorem dT_clear_0 : decode (m_C mT_clear) 0 = .ok (.aload_n 0, 1) := by decide +kernel
theorem dT_clear_1 : decode (m_C mT_clear) 1 = .ok (.iconst 0, 1) := by decide +kernel
theorem dT_clear_2 : decode (m_C mT_clear) 2 = .ok (.putfield 13, 3) := by decide +kernel
theorem dT_clear_5 : decode (m_C mT_clear) 5 = .ok (.return_, 1) := by decide +kernel
theorem dP_make_0 : decode (m_C mP_make) 0 = .ok (.aload_n 0, 1) := by decide +kernel
theorem dP_make_1 : decode (m_C mP_make) 1 = .ok (.invokevirtual 64, 3) := by decide +kernel
theorem dP_make_4 : decode (m_C mP_make) 4 = .ok (.astore_n 1, 1) := by decide +kernel
theorem dP_make_5 : decode (m_C mP_make) 5 = .ok (.aload_n 1, 1) := by decide +kernel
theorem dP_make_6 : decode (m_C mP_make) 6 = .ok (.ifnull 31, 3) := by decide +kernel
theorem dP_make_9 : decode (m_C mP_make) 9 = .ok (.aload_n 1, 1) := by decide +kernel
theorem dP_make_10 : decode (m_C mP_make) 10 = .ok (.new 16, 3) := by decide +kernel
theorem dP_make_13 : decode (m_C mP_make) 13 = .ok (.dup, 1) := by decide +kernel
theorem dP_make_14 : decode (m_C mP_make) 14 = .ok (.aload_n 0, 1) := by decide +kernel
theorem dP_make_15 : decode (m_C mP_make) 15 = .ok (.getfield 10, 3) := by decide +kernel
theorem dP_make_18 : decode (m_C mP_make) 18 = .ok (.invokevirtual 68, 3) := by decide +kernel
theorem dP_make_21 : decode (m_C mP_make) 21 = .ok (.invokespecial 18, 3) := by decide +kernel
theorem dP_make_24 : decode (m_C mP_make) 24 = .ok (.invokevirtual 72, 3) := by decide +kernel
theorem dP_make_27 : decode (m_C mP_make) 27 = .ok (.aload_n 0, 1) := by decide +kernel
theorem dP_make_28 : decode (m_C mP_make) 28 = .ok (.dup, 1) := by decide +kernel
theorem dP_make_29 : decode (m_C mP_make) 29 = .ok (.getfield 36, 3) := by decide +kernel
theorem dP_make_32 : decode (m_C mP_make) 32 = .ok (.iconst 1, 1) := by decide +kernel
theorem dP_make_33 : decode (m_C mP_make) 33 = .ok (.iadd, 1) := by decide +kernel
theorem dP_make_34 : decode (m_C mP_make) 34 = .ok (.putfield 36, 3) := by decide +kernel
theorem dP_make_37 : decode (m_C mP_make) 37 = .ok (.aload_n 0, 1) := by decide +kernel
theorem dP_make_38 : decode (m_C mP_make) 38 = .ok (.getfield 10, 3) := by decide +kernel
theorem dP_make_41 : decode (m_C mP_make) 41 = .ok (.invokevirtual 61, 3) := by decide +kernel
theorem dP_make_44 : decode (m_C mP_make) 44 = .ok (.aload_n 1, 1) := by decide +kernel
theorem dP_make_45 : decode (m_C mP_make) 45 = .ok (.ifnull 7, 3) := by decide +kernel
theorem dP_make_48 : decode (m_C mP_make) 48 = .ok (.iconst 1, 1) := by decide +kernel
theorem dP_make_49 : decode (m_C mP_make) 49 = .ok (.goto 4, 3) := by decide +kernel
theorem dP_make_52 : decode (m_C mP_make) 52 = .ok (.iconst 0, 1) := by decide +kernel
theorem dP_make_53 : decode (m_C mP_make) 53 = .ok (.ireturn, 1) := by decide +kernel
theorem dP_homeOfNew_0 : decode (m_C mP_homeOfNew) 0 = .ok (.aload_n 0, 1) := by decide +kernel
theorem dP_homeOfNew_1 : decode (m_C mP_homeOfNew) 1 = .ok (.getfield 32, 3) := by decide +kernel
theorem dP_homeOfNew_4 : decode (m_C mP_homeOfNew) 4 = .ok (.aload_n 0, 1) := by decide +kernel
theorem dP_homeOfNew_5 : decode (m_C mP_homeOfNew) 5 = .ok (.getfield 36, 3) := by decide +kernel
theorem dP_homeOfNew_8 : decode (m_C mP_homeOfNew) 8 = .ok (.iadd, 1) := by decide +kernel
theorem dP_homeOfNew_9 : decode (m_C mP_homeOfNew) 9 = .ok (.sipush 300, 3) := by decide +kernel
theorem dP_homeOfNew_12 : decode (m_C mP_homeOfNew) 12 = .ok (.if_icmp .ge 13, 3) := by decide +kernel
theorem dP_homeOfNew_15 : decode (m_C mP_homeOfNew) 15 = .ok (.aload_n 0, 1) := by decide +kernel
theorem dP_homeOfNew_16 : decode (m_C mP_homeOfNew) 16 = .ok (.getfield 10, 3) := by decide +kernel
theorem dP_homeOfNew_19 : decode (m_C mP_homeOfNew) 19 = .ok (.invokevirtual 163, 3) := by decide +kernel
theorem dP_homeOfNew_22 : decode (m_C mP_homeOfNew) 22 = .ok (.ifCond .ne 5, 3) := by decide +kernel
theorem dP_homeOfNew_25 : decode (m_C mP_homeOfNew) 25 = .ok (.aconst_null, 1) := by decide +kernel
theorem dP_homeOfNew_26 : decode (m_C mP_homeOfNew) 26 = .ok (.areturn, 1) := by decide +kernel
theorem dP_homeOfNew_27 : decode (m_C mP_homeOfNew) 27 = .ok (.aload_n 0, 1) := by decide +kernel
theorem dP_homeOfNew_28 : decode (m_C mP_homeOfNew) 28 = .ok (.invokevirtual 167, 3) := by decide +kernel
theorem dP_homeOfNew_31 : decode (m_C mP_homeOfNew) 31 = .ok (.astore_n 1, 1) := by decide +kernel
theorem dP_homeOfNew_32 : decode (m_C mP_homeOfNew) 32 = .ok (.aload_n 1, 1) := by decide +kernel
theorem dP_homeOfNew_33 : decode (m_C mP_homeOfNew) 33 = .ok (.ifnull 33, 3) := by decide +kernel
theorem dP_homeOfNew_36 : decode (m_C mP_homeOfNew) 36 = .ok (.aload_n 1, 1) := by decide +kernel
theorem dP_homeOfNew_37 : decode (m_C mP_homeOfNew) 37 = .ok (.aload_n 0, 1) := by decide +kernel
theorem dP_homeOfNew_38 : decode (m_C mP_homeOfNew) 38 = .ok (.getfield 10, 3) := by decide +kernel
theorem dP_homeOfNew_41 : decode (m_C mP_homeOfNew) 41 = .ok (.getfield 156, 3) := by decide +kernel
theorem dP_homeOfNew_44 : decode (m_C mP_homeOfNew) 44 = .ok (.aload_n 0, 1) := by decide +kernel
theorem dP_homeOfNew_45 : decode (m_C mP_homeOfNew) 45 = .ok (.getfield 10, 3) := by decide +kernel
theorem dP_homeOfNew_48 : decode (m_C mP_homeOfNew) 48 = .ok (.invokevirtual 141, 3) := by decide +kernel
theorem dP_homeOfNew_51 : decode (m_C mP_homeOfNew) 51 = .ok (.iconst 1, 1) := by decide +kernel
theorem dP_homeOfNew_52 : decode (m_C mP_homeOfNew) 52 = .ok (.iadd, 1) := by decide +kernel
theorem dP_homeOfNew_53 : decode (m_C mP_homeOfNew) 53 = .ok (.aload_n 0, 1) := by decide +kernel
theorem dP_homeOfNew_54 : decode (m_C mP_homeOfNew) 54 = .ok (.getfield 10, 3) := by decide +kernel
theorem dP_homeOfNew_57 : decode (m_C mP_homeOfNew) 57 = .ok (.getfield 54, 3) := by decide +kernel
theorem dP_homeOfNew_60 : decode (m_C mP_homeOfNew) 60 = .ok (.invokevirtual 159, 3) := by decide +kernel
theorem dP_homeOfNew_63 : decode (m_C mP_homeOfNew) 63 = .ok (.ifnull 5, 3) := by decide +kernel
theorem dP_homeOfNew_66 : decode (m_C mP_homeOfNew) 66 = .ok (.aconst_null, 1) := by decide +kernel
theorem dP_homeOfNew_67 : decode (m_C mP_homeOfNew) 67 = .ok (.areturn, 1) := by decide +kernel
theorem dP_homeOfNew_68 : decode (m_C mP_homeOfNew) 68 = .ok (.aload_n 1, 1) := by decide +kernel
theorem dP_homeOfNew_69 : decode (m_C mP_homeOfNew) 69 = .ok (.areturn, 1) := by decide +kernel
theorem dT_lastNameCanBe_0 : decode (m_C mT_lastNameCanBe) 0 = .ok (.aload_n 0, 1) := by decide +kernel
theorem dT_lastNameCanBe_1 : decode (m_C mT_lastNameCanBe) 1 = .ok (.invokevirtual 34, 3) := by decide +kernel
theorem dT_lastNameCanBe_4 : decode (m_C mT_lastNameCanBe) 4 = .ok (.iconst 1, 1) := by decide +kernel
theorem dT_lastNameCanBe_5 : decode (m_C mT_lastNameCanBe) 5 = .ok (.iadd, 1) := by decide +kernel
theorem dT_lastNameCanBe_6 : decode (m_C mT_lastNameCanBe) 6 = .ok (.istore_n 1, 1) := by decide +kernel
theorem dT_lastNameCanBe_7 : decode (m_C mT_lastNameCanBe) 7 = .ok (.aload_n 0, 1) := by decide +kernel
theorem dT_lastNameCanBe_8 : decode (m_C mT_lastNameCanBe) 8 = .ok (.getfield 13, 3) := by decide +kernel
theorem dT_lastNameCanBe_11 : decode (m_C mT_lastNameCanBe) 11 = .ok (.iload_n 1, 1) := by decide +kernel
theorem dT_lastNameCanBe_12 : decode (m_C mT_lastNameCanBe) 12 = .ok (.isub, 1) := by decide +kernel
theorem dT_lastNameCanBe_13 : decode (m_C mT_lastNameCanBe) 13 = .ok (.istore_n 2, 1) := by decide +kernel
theorem dT_lastNameCanBe_14 : decode (m_C mT_lastNameCanBe) 14 = .ok (.iload_n 2, 1) := by decide +kernel
theorem dT_lastNameCanBe_15 : decode (m_C mT_lastNameCanBe) 15 = .ok (.iconst 1, 1) := by decide +kernel
theorem dT_lastNameCanBe_16 : decode (m_C mT_lastNameCanBe) 16 = .ok (.if_icmp .lt 37, 3) := by decide +kernel
theorem dT_lastNameCanBe_19 : decode (m_C mT_lastNameCanBe) 19 = .ok (.iload_n 2, 1) := by decide +kernel
theorem dT_lastNameCanBe_20 : decode (m_C mT_lastNameCanBe) 20 = .ok (.bipush 60, 2) := by decide +kernel
theorem dT_lastNameCanBe_22 : decode (m_C mT_lastNameCanBe) 22 = .ok (.if_icmp .gt 31, 3) := by decide +kernel
theorem dT_lastNameCanBe_25 : decode (m_C mT_lastNameCanBe) 25 = .ok (.aload_n 0, 1) := by decide +kernel
theorem dT_lastNameCanBe_26 : decode (m_C mT_lastNameCanBe) 26 = .ok (.iload_n 1, 1) := by decide +kernel
theorem dT_lastNameCanBe_27 : decode (m_C mT_lastNameCanBe) 27 = .ok (.aload_n 0, 1) := by decide +kernel
theorem dT_lastNameCanBe_28 : decode (m_C mT_lastNameCanBe) 28 = .ok (.getfield 13, 3) := by decide +kernel
theorem dT_lastNameCanBe_31 : decode (m_C mT_lastNameCanBe) 31 = .ok (.invokevirtual 38, 3) := by decide +kernel
theorem dT_lastNameCanBe_34 : decode (m_C mT_lastNameCanBe) 34 = .ok (.ifCond .ne 19, 3) := by decide +kernel
theorem dT_lastNameCanBe_37 : decode (m_C mT_lastNameCanBe) 37 = .ok (.aload_n 0, 1) := by decide +kernel
theorem dT_lastNameCanBe_38 : decode (m_C mT_lastNameCanBe) 38 = .ok (.iload_n 1, 1) := by decide +kernel
theorem dT_lastNameCanBe_39 : decode (m_C mT_lastNameCanBe) 39 = .ok (.aload_n 0, 1) := by decide +kernel
theorem dT_lastNameCanBe_40 : decode (m_C mT_lastNameCanBe) 40 = .ok (.getfield 13, 3) := by decide +kernel
theorem dT_lastNameCanBe_43 : decode (m_C mT_lastNameCanBe) 43 = .ok (.invokevirtual 42, 3) := by decide +kernel
theorem dT_lastNameCanBe_46 : decode (m_C mT_lastNameCanBe) 46 = .ok (.ifCond .ne 7, 3) := by decide +kernel
theorem dT_lastNameCanBe_49 : decode (m_C mT_lastNameCanBe) 49 = .ok (.iconst 1, 1) := by decide +kernel
theorem dT_lastNameCanBe_50 : decode (m_C mT_lastNameCanBe) 50 = .ok (.goto 4, 3) := by decide +kernel
theorem dT_lastNameCanBe_53 : decode (m_C mT_lastNameCanBe) 53 = .ok (.iconst 0, 1) := by decide +kernel
theorem dT_lastNameCanBe_54 : decode (m_C mT_lastNameCanBe) 54 = .ok (.ireturn, 1) := by decide +kernel
theorem dT_lastSlash_0 : decode (m_C mT_lastSlash) 0 = .ok (.aload_n 0, 1) := by decide +kernel
theorem dT_lastSlash_1 : decode (m_C mT_lastSlash) 1 = .ok (.getfield 13, 3) := by decide +kernel
theorem dT_lastSlash_4 : decode (m_C mT_lastSlash) 4 = .ok (.iconst 1, 1) := by decide +kernel
theorem dT_lastSlash_5 : decode (m_C mT_lastSlash) 5 = .ok (.isub, 1) := by decide +kernel
theorem dT_lastSlash_6 : decode (m_C mT_lastSlash) 6 = .ok (.istore_n 1, 1) := by decide +kernel
theorem dT_lastSlash_7 : decode (m_C mT_lastSlash) 7 = .ok (.iload_n 1, 1) := by decide +kernel
theorem dT_lastSlash_8 : decode (m_C mT_lastSlash) 8 = .ok (.ifCond .lt 17, 3) := by decide +kernel
theorem dT_lastSlash_11 : decode (m_C mT_lastSlash) 11 = .ok (.aload_n 0, 1) := by decide +kernel
theorem dT_lastSlash_12 : decode (m_C mT_lastSlash) 12 = .ok (.iload_n 1, 1) := by decide +kernel
theorem dT_lastSlash_13 : decode (m_C mT_lastSlash) 13 = .ok (.invokevirtual 31, 3) := by decide +kernel
theorem dT_lastSlash_16 : decode (m_C mT_lastSlash) 16 = .ok (.ifCond .ne 9, 3) := by decide +kernel
theorem dT_lastSlash_19 : decode (m_C mT_lastSlash) 19 = .ok (.iinc 1 (-1), 3) := by decide +kernel
theorem dT_lastSlash_22 : decode (m_C mT_lastSlash) 22 = .ok (.goto (-15), 3) := by decide +kernel
theorem dT_lastSlash_25 : decode (m_C mT_lastSlash) 25 = .ok (.iload_n 1, 1) := by decide +kernel
theorem dT_lastSlash_26 : decode (m_C mT_lastSlash) 26 = .ok (.ireturn, 1) := by decide +kernel
theorem dP_home_0 : decode (m_C mP_home) 0 = .ok (.aload_n 0, 1) := by decide +kernel
theorem dP_home_1 : decode (m_C mP_home) 1 = .ok (.getfield 10, 3) := by decide +kernel
theorem dP_home_4 : decode (m_C mP_home) 4 = .ok (.invokevirtual 141, 3) := by decide +kernel
theorem dP_home_7 : decode (m_C mP_home) 7 = .ok (.istore_n 1, 1) := by decide +kernel
theorem dP_home_8 : decode (m_C mP_home) 8 = .ok (.iload_n 1, 1) := by decide +kernel
theorem dP_home_9 : decode (m_C mP_home) 9 = .ok (.ifCond .ge 8, 3) := by decide +kernel
theorem dP_home_12 : decode (m_C mP_home) 12 = .ok (.aload_n 0, 1) := by decide +kernel
theorem dP_home_13 : decode (m_C mP_home) 13 = .ok (.getfield 25, 3) := by decide +kernel
theorem dP_home_16 : decode (m_C mP_home) 16 = .ok (.areturn, 1) := by decide +kernel
theorem dP_home_17 : decode (m_C mP_home) 17 = .ok (.aload_n 0, 1) := by decide +kernel
theorem dP_home_18 : decode (m_C mP_home) 18 = .ok (.iload_n 1, 1) := by decide +kernel
theorem dP_home_19 : decode (m_C mP_home) 19 = .ok (.invokevirtual 135, 3) := by decide +kernel
theorem dP_home_22 : decode (m_C mP_home) 22 = .ok (.astore_n 3, 1) := by decide +kernel
theorem dP_home_23 : decode (m_C mP_home) 23 = .ok (.aload_n 3, 1) := by decide +kernel
theorem dP_home_24 : decode (m_C mP_home) 24 = .ok (.instanceof 16, 3) := by decide +kernel
theorem dP_home_27 : decode (m_C mP_home) 27 = .ok (.ifCond .eq 12, 3) := by decide +kernel
theorem dP_home_30 : decode (m_C mP_home) 30 = .ok (.aload_n 3, 1) := by decide +kernel
theorem dP_home_31 : decode (m_C mP_home) 31 = .ok (.checkcast 16, 3) := by decide +kernel
theorem dP_home_34 : decode (m_C mP_home) 34 = .ok (.astore_n 2, 1) := by decide +kernel
theorem dP_home_35 : decode (m_C mP_home) 35 = .ok (.aload_n 2, 1) := by decide +kernel
theorem dP_home_36 : decode (m_C mP_home) 36 = .ok (.goto 4, 3) := by decide +kernel
theorem dP_home_39 : decode (m_C mP_home) 39 = .ok (.aconst_null, 1) := by decide +kernel
theorem dP_home_40 : decode (m_C mP_home) 40 = .ok (.areturn, 1) := by decide +kernel
theorem dT_lastName_0 : decode (m_C mT_lastName) 0 = .ok (.aload_n 0, 1) := by decide +kernel
theorem dT_lastName_1 : decode (m_C mT_lastName) 1 = .ok (.getfield 9, 3) := by decide +kernel
theorem dT_lastName_4 : decode (m_C mT_lastName) 4 = .ok (.aload_n 0, 1) := by decide +kernel
theorem dT_lastName_5 : decode (m_C mT_lastName) 5 = .ok (.invokevirtual 34, 3) := by decide +kernel
theorem dT_lastName_8 : decode (m_C mT_lastName) 8 = .ok (.iconst 1, 1) := by decide +kernel
theorem dT_lastName_9 : decode (m_C mT_lastName) 9 = .ok (.iadd, 1) := by decide +kernel
theorem dT_lastName_10 : decode (m_C mT_lastName) 10 = .ok (.aload_n 0, 1) := by decide +kernel
theorem dT_lastName_11 : decode (m_C mT_lastName) 11 = .ok (.getfield 13, 3) := by decide +kernel
theorem dT_lastName_14 : decode (m_C mT_lastName) 14 = .ok (.invokestatic 45, 3) := by decide +kernel
theorem dT_lastName_17 : decode (m_C mT_lastName) 17 = .ok (.areturn, 1) := by decide +kernel
theorem dJ_copyOfRange_0 : decode (m_C mJ_copyOfRange) 0 = .ok (.iload_n 1, 1) := by decide +kernel
theorem dJ_copyOfRange_1 : decode (m_C mJ_copyOfRange) 1 = .ok (.ifCond .ne 9, 3) := by decide +kernel
theorem dJ_copyOfRange_4 : decode (m_C mJ_copyOfRange) 4 = .ok (.iload_n 2, 1) := by decide +kernel
theorem dJ_copyOfRange_5 : decode (m_C mJ_copyOfRange) 5 = .ok (.aload_n 0, 1) := by decide +kernel
theorem dJ_copyOfRange_6 : decode (m_C mJ_copyOfRange) 6 = .ok (.arraylength, 1) := by decide +kernel
theorem dJ_copyOfRange_7 : decode (m_C mJ_copyOfRange) 7 = .ok (.if_icmp .eq 10, 3) := by decide +kernel
theorem dJ_copyOfRange_10 : decode (m_C mJ_copyOfRange) 10 = .ok (.aload_n 0, 1) := by decide +kernel
theorem dJ_copyOfRange_11 : decode (m_C mJ_copyOfRange) 11 = .ok (.iload_n 1, 1) := by decide +kernel
theorem dJ_copyOfRange_12 : decode (m_C mJ_copyOfRange) 12 = .ok (.iload_n 2, 1) := by decide +kernel
theorem dJ_copyOfRange_13 : decode (m_C mJ_copyOfRange) 13 = .ok (.invokestatic 359, 3) := by decide +kernel
theorem dJ_copyOfRange_16 : decode (m_C mJ_copyOfRange) 16 = .ok (.areturn, 1) := by decide +kernel
theorem dJ_copyOfRange_17 : decode (m_C mJ_copyOfRange) 17 = .ok (.aload_n 0, 1) := by decide +kernel
theorem dJ_copyOfRange_18 : decode (m_C mJ_copyOfRange) 18 = .ok (.invokevirtual 322, 3) := by decide +kernel
theorem dJ_copyOfRange_21 : decode (m_C mJ_copyOfRange) 21 = .ok (.checkcast 323, 3) := by decide +kernel
theorem dJ_copyOfRange_24 : decode (m_C mJ_copyOfRange) 24 = .ok (.areturn, 1) := by decide +kernel
theorem dJ_copyOfRangeChar_0 : decode (m_C mJ_copyOfRangeChar) 0 = .ok (.iload_n 1, 1) := by decide +kernel
theorem dJ_copyOfRangeChar_1 : decode (m_C mJ_copyOfRangeChar) 1 = .ok (.iload_n 2, 1) := by decide +kernel
theorem dJ_copyOfRangeChar_2 : decode (m_C mJ_copyOfRangeChar) 2 = .ok (.invokestatic 343, 3) := by decide +kernel
theorem dJ_copyOfRangeChar_5 : decode (m_C mJ_copyOfRangeChar) 5 = .ok (.iload_n 2, 1) := by decide +kernel
theorem dJ_copyOfRangeChar_6 : decode (m_C mJ_copyOfRangeChar) 6 = .ok (.iload_n 1, 1) := by decide +kernel
theorem dJ_copyOfRangeChar_7 : decode (m_C mJ_copyOfRangeChar) 7 = .ok (.isub, 1) := by decide +kernel
theorem dJ_copyOfRangeChar_8 : decode (m_C mJ_copyOfRangeChar) 8 = .ok (.istore_n 3, 1) := by decide +kernel
theorem dJ_copyOfRangeChar_9 : decode (m_C mJ_copyOfRangeChar) 9 = .ok (.iload_n 3, 1) := by decide +kernel
theorem dJ_copyOfRangeChar_10 : decode (m_C mJ_copyOfRangeChar) 10 = .ok (.newarray .char, 2) := by decide +kernel
theorem dJ_copyOfRangeChar_12 : decode (m_C mJ_copyOfRangeChar) 12 = .ok (.astore 4, 2) := by decide +kernel
theorem dJ_copyOfRangeChar_14 : decode (m_C mJ_copyOfRangeChar) 14 = .ok (.aload_n 0, 1) := by decide +kernel
theorem dJ_copyOfRangeChar_15 : decode (m_C mJ_copyOfRangeChar) 15 = .ok (.iload_n 1, 1) := by decide +kernel
theorem dJ_copyOfRangeChar_16 : decode (m_C mJ_copyOfRangeChar) 16 = .ok (.aload 4, 2) := by decide +kernel
theorem dJ_copyOfRangeChar_18 : decode (m_C mJ_copyOfRangeChar) 18 = .ok (.iconst 0, 1) := by decide +kernel
theorem dJ_copyOfRangeChar_19 : decode (m_C mJ_copyOfRangeChar) 19 = .ok (.aload_n 0, 1) := by decide +kernel
theorem dJ_copyOfRangeChar_20 : decode (m_C mJ_copyOfRangeChar) 20 = .ok (.arraylength, 1) := by decide +kernel
theorem dJ_copyOfRangeChar_21 : decode (m_C mJ_copyOfRangeChar) 21 = .ok (.iload_n 1, 1) := by decide +kernel
theorem dJ_copyOfRangeChar_22 : decode (m_C mJ_copyOfRangeChar) 22 = .ok (.isub, 1) := by decide +kernel
theorem dJ_copyOfRangeChar_23 : decode (m_C mJ_copyOfRangeChar) 23 = .ok (.iload_n 3, 1) := by decide +kernel
theorem dJ_copyOfRangeChar_24 : decode (m_C mJ_copyOfRangeChar) 24 = .ok (.invokestatic 304, 3) := by decide +kernel
theorem dJ_copyOfRangeChar_27 : decode (m_C mJ_copyOfRangeChar) 27 = .ok (.invokestatic 150, 3) := by decide +kernel
theorem dJ_copyOfRangeChar_30 : decode (m_C mJ_copyOfRangeChar) 30 = .ok (.aload 4, 2) := by decide +kernel
theorem dJ_copyOfRangeChar_32 : decode (m_C mJ_copyOfRangeChar) 32 = .ok (.areturn, 1) := by decide +kernel
theorem dJ_checkLength_0 : decode (m_C mJ_checkLength) 0 = .ok (.iload_n 1, 1) := by decide +kernel
theorem dJ_checkLength_1 : decode (m_C mJ_checkLength) 1 = .ok (.iload_n 0, 1) := by decide +kernel
theorem dJ_checkLength_2 : decode (m_C mJ_checkLength) 2 = .ok (.if_icmp .ge 35, 3) := by decide +kernel
theorem dJ_checkLength_5 : decode (m_C mJ_checkLength) 5 = .ok (.new 43, 3) := by decide +kernel
theorem dJ_checkLength_8 : decode (m_C mJ_checkLength) 8 = .ok (.dup, 1) := by decide +kernel
theorem dJ_checkLength_9 : decode (m_C mJ_checkLength) 9 = .ok (.new 45, 3) := by decide +kernel
theorem dJ_checkLength_12 : decode (m_C mJ_checkLength) 12 = .ok (.dup, 1) := by decide +kernel
theorem dJ_checkLength_13 : decode (m_C mJ_checkLength) 13 = .ok (.invokespecial 47, 3) := by decide +kernel
theorem dJ_checkLength_16 : decode (m_C mJ_checkLength) 16 = .ok (.iload_n 0, 1) := by decide +kernel
theorem dJ_checkLength_17 : decode (m_C mJ_checkLength) 17 = .ok (.invokevirtual 54, 3) := by decide +kernel
theorem dJ_checkLength_20 : decode (m_C mJ_checkLength) 20 = .ok (.ldc_w 337, 3) := by decide +kernel
theorem dJ_checkLength_23 : decode (m_C mJ_checkLength) 23 = .ok (.invokevirtual 50, 3) := by decide +kernel
theorem dJ_checkLength_26 : decode (m_C mJ_checkLength) 26 = .ok (.iload_n 1, 1) := by decide +kernel
theorem dJ_checkLength_27 : decode (m_C mJ_checkLength) 27 = .ok (.invokevirtual 54, 3) := by decide +kernel
theorem dJ_checkLength_30 : decode (m_C mJ_checkLength) 30 = .ok (.invokevirtual 61, 3) := by decide +kernel
theorem dJ_checkLength_33 : decode (m_C mJ_checkLength) 33 = .ok (.invokespecial 65, 3) := by decide +kernel
theorem dJ_checkLength_36 : decode (m_C mJ_checkLength) 36 = .ok (.athrow, 1) := by decide +kernel
theorem dJ_checkLength_37 : decode (m_C mJ_checkLength) 37 = .ok (.return_, 1) := by decide +kernel
theorem dD_admit_0 : decode (m_C mD_admit) 0 = .ok (.aconst_null, 1) := by decide +kernel
theorem dD_admit_1 : decode (m_C mD_admit) 1 = .ok (.astore_n 2, 1) := by decide +kernel
theorem dD_admit_2 : decode (m_C mD_admit) 2 = .ok (.aload_n 0, 1) := by decide +kernel
theorem dD_admit_3 : decode (m_C mD_admit) 3 = .ok (.getfield 7, 3) := by decide +kernel
theorem dD_admit_6 : decode (m_C mD_admit) 6 = .ok (.astore_n 3, 1) := by decide +kernel
theorem dD_admit_7 : decode (m_C mD_admit) 7 = .ok (.aload_n 3, 1) := by decide +kernel
theorem dD_admit_8 : decode (m_C mD_admit) 8 = .ok (.ifnull 30, 3) := by decide +kernel
theorem dD_admit_11 : decode (m_C mD_admit) 11 = .ok (.aload_n 3, 1) := by decide +kernel
theorem dD_admit_12 : decode (m_C mD_admit) 12 = .ok (.aload_n 1, 1) := by decide +kernel
theorem dD_admit_13 : decode (m_C mD_admit) 13 = .ok (.getfield 28, 3) := by decide +kernel
theorem dD_admit_16 : decode (m_C mD_admit) 16 = .ok (.iconst 0, 1) := by decide +kernel
theorem dD_admit_17 : decode (m_C mD_admit) 17 = .ok (.aload_n 1, 1) := by decide +kernel
theorem dD_admit_18 : decode (m_C mD_admit) 18 = .ok (.getfield 28, 3) := by decide +kernel
theorem dD_admit_21 : decode (m_C mD_admit) 21 = .ok (.arraylength, 1) := by decide +kernel
theorem dD_admit_22 : decode (m_C mD_admit) 22 = .ok (.invokevirtual 17, 3) := by decide +kernel
theorem dD_admit_25 : decode (m_C mD_admit) 25 = .ok (.ifCond .ge 13, 3) := by decide +kernel
theorem dD_admit_28 : decode (m_C mD_admit) 28 = .ok (.aload_n 3, 1) := by decide +kernel
theorem dD_admit_29 : decode (m_C mD_admit) 29 = .ok (.astore_n 2, 1) := by decide +kernel
theorem dD_admit_30 : decode (m_C mD_admit) 30 = .ok (.aload_n 3, 1) := by decide +kernel
theorem dD_admit_31 : decode (m_C mD_admit) 31 = .ok (.getfield 21, 3) := by decide +kernel
theorem dD_admit_34 : decode (m_C mD_admit) 34 = .ok (.astore_n 3, 1) := by decide +kernel
theorem dD_admit_35 : decode (m_C mD_admit) 35 = .ok (.goto (-28), 3) := by decide +kernel
theorem dD_admit_38 : decode (m_C mD_admit) 38 = .ok (.aload_n 0, 1) := by decide +kernel
theorem dD_admit_39 : decode (m_C mD_admit) 39 = .ok (.aload_n 2, 1) := by decide +kernel
theorem dD_admit_40 : decode (m_C mD_admit) 40 = .ok (.aload_n 1, 1) := by decide +kernel
theorem dD_admit_41 : decode (m_C mD_admit) 41 = .ok (.invokevirtual 32, 3) := by decide +kernel
theorem dD_admit_44 : decode (m_C mD_admit) 44 = .ok (.aload_n 1, 1) := by decide +kernel
theorem dD_admit_45 : decode (m_C mD_admit) 45 = .ok (.aload_n 3, 1) := by decide +kernel
theorem dD_admit_46 : decode (m_C mD_admit) 46 = .ok (.putfield 21, 3) := by decide +kernel
theorem dD_admit_49 : decode (m_C mD_admit) 49 = .ok (.aload_n 1, 1) := by decide +kernel
theorem dD_admit_50 : decode (m_C mD_admit) 50 = .ok (.aload_n 0, 1) := by decide +kernel
theorem dD_admit_51 : decode (m_C mD_admit) 51 = .ok (.putfield 36, 3) := by decide +kernel
theorem dD_admit_54 : decode (m_C mD_admit) 54 = .ok (.aload_n 0, 1) := by decide +kernel
theorem dD_admit_55 : decode (m_C mD_admit) 55 = .ok (.dup, 1) := by decide +kernel
theorem dD_admit_56 : decode (m_C mD_admit) 56 = .ok (.getfield 13, 3) := by decide +kernel
theorem dD_admit_59 : decode (m_C mD_admit) 59 = .ok (.iconst 1, 1) := by decide +kernel
theorem dD_admit_60 : decode (m_C mD_admit) 60 = .ok (.iadd, 1) := by decide +kernel
theorem dD_admit_61 : decode (m_C mD_admit) 61 = .ok (.putfield 13, 3) := by decide +kernel
theorem dD_admit_64 : decode (m_C mD_admit) 64 = .ok (.return_, 1) := by decide +kernel
theorem dD_link_0 : decode (m_C mD_link) 0 = .ok (.aload_n 1, 1) := by decide +kernel
end
section
theorem dD_link_1 : decode (m_C mD_link) 1 = .ok (.ifnonnull 11, 3) := by decide +kernel
theorem dD_link_4 : decode (m_C mD_link) 4 = .ok (.aload_n 0, 1) := by decide +kernel
theorem dD_link_5 : decode (m_C mD_link) 5 = .ok (.aload_n 2, 1) := by decide +kernel
theorem dD_link_6 : decode (m_C mD_link) 6 = .ok (.putfield 7, 3) := by decide +kernel
theorem dD_link_9 : decode (m_C mD_link) 9 = .ok (.goto 8, 3) := by decide +kernel
theorem dD_link_12 : decode (m_C mD_link) 12 = .ok (.aload_n 1, 1) := by decide +kernel
theorem dD_link_13 : decode (m_C mD_link) 13 = .ok (.aload_n 2, 1) := by decide +kernel
theorem dD_link_14 : decode (m_C mD_link) 14 = .ok (.putfield 21, 3) := by decide +kernel
theorem dD_link_17 : decode (m_C mD_link) 17 = .ok (.return_, 1) := by decide +kernel
theorem dP_go_0 : decode (m_C mP_go) 0 = .ok (.aload_n 0, 1) := by decide +kernel
theorem dP_go_1 : decode (m_C mP_go) 1 = .ok (.invokevirtual 57, 3) := by decide +kernel
theorem dP_go_4 : decode (m_C mP_go) 4 = .ok (.astore_n 1, 1) := by decide +kernel
theorem dP_go_5 : decode (m_C mP_go) 5 = .ok (.aload_n 0, 1) := by decide +kernel
theorem dP_go_6 : decode (m_C mP_go) 6 = .ok (.getfield 10, 3) := by decide +kernel
theorem dP_go_9 : decode (m_C mP_go) 9 = .ok (.invokevirtual 61, 3) := by decide +kernel
theorem dP_go_12 : decode (m_C mP_go) 12 = .ok (.aload_n 1, 1) := by decide +kernel
theorem dP_go_13 : decode (m_C mP_go) 13 = .ok (.instanceof 16, 3) := by decide +kernel
theorem dP_go_16 : decode (m_C mP_go) 16 = .ok (.ifCond .eq 15, 3) := by decide +kernel
theorem dP_go_19 : decode (m_C mP_go) 19 = .ok (.aload_n 1, 1) := by decide +kernel
theorem dP_go_20 : decode (m_C mP_go) 20 = .ok (.checkcast 16, 3) := by decide +kernel
theorem dP_go_23 : decode (m_C mP_go) 23 = .ok (.astore_n 2, 1) := by decide +kernel
theorem dP_go_24 : decode (m_C mP_go) 24 = .ok (.aload_n 0, 1) := by decide +kernel
theorem dP_go_25 : decode (m_C mP_go) 25 = .ok (.aload_n 2, 1) := by decide +kernel
theorem dP_go_26 : decode (m_C mP_go) 26 = .ok (.putfield 25, 3) := by decide +kernel
theorem dP_go_29 : decode (m_C mP_go) 29 = .ok (.iconst 1, 1) := by decide +kernel
theorem dP_go_30 : decode (m_C mP_go) 30 = .ok (.ireturn, 1) := by decide +kernel
theorem dP_go_31 : decode (m_C mP_go) 31 = .ok (.iconst 0, 1) := by decide +kernel
theorem dP_go_32 : decode (m_C mP_go) 32 = .ok (.ireturn, 1) := by decide +kernel
theorem dP_open_0 : decode (m_C mP_open) 0 = .ok (.aload_n 0, 1) := by decide +kernel
theorem dP_open_1 : decode (m_C mP_open) 1 = .ok (.invokevirtual 57, 3) := by decide +kernel
theorem dP_open_4 : decode (m_C mP_open) 4 = .ok (.astore_n 1, 1) := by decide +kernel
theorem dP_open_5 : decode (m_C mP_open) 5 = .ok (.aload_n 0, 1) := by decide +kernel
theorem dP_open_6 : decode (m_C mP_open) 6 = .ok (.aconst_null, 1) := by decide +kernel
theorem dP_open_7 : decode (m_C mP_open) 7 = .ok (.putfield 28, 3) := by decide +kernel
theorem dP_open_10 : decode (m_C mP_open) 10 = .ok (.aload_n 1, 1) := by decide +kernel
theorem dP_open_11 : decode (m_C mP_open) 11 = .ok (.instanceof 76, 3) := by decide +kernel
theorem dP_open_14 : decode (m_C mP_open) 14 = .ok (.ifCond .eq 16, 3) := by decide +kernel
theorem dP_open_17 : decode (m_C mP_open) 17 = .ok (.aload_n 1, 1) := by decide +kernel
theorem dP_open_18 : decode (m_C mP_open) 18 = .ok (.checkcast 76, 3) := by decide +kernel
theorem dP_open_21 : decode (m_C mP_open) 21 = .ok (.astore_n 2, 1) := by decide +kernel
theorem dP_open_22 : decode (m_C mP_open) 22 = .ok (.aload_n 0, 1) := by decide +kernel
theorem dP_open_23 : decode (m_C mP_open) 23 = .ok (.aload_n 2, 1) := by decide +kernel
theorem dP_open_24 : decode (m_C mP_open) 24 = .ok (.putfield 28, 3) := by decide +kernel
theorem dP_open_27 : decode (m_C mP_open) 27 = .ok (.goto 29, 3) := by decide +kernel
theorem dP_open_30 : decode (m_C mP_open) 30 = .ok (.aload_n 1, 1) := by decide +kernel
theorem dP_open_31 : decode (m_C mP_open) 31 = .ok (.ifnonnull 25, 3) := by decide +kernel
theorem dP_open_34 : decode (m_C mP_open) 34 = .ok (.aload_n 0, 1) := by decide +kernel
theorem dP_open_35 : decode (m_C mP_open) 35 = .ok (.invokevirtual 64, 3) := by decide +kernel
theorem dP_open_38 : decode (m_C mP_open) 38 = .ok (.astore_n 3, 1) := by decide +kernel
theorem dP_open_39 : decode (m_C mP_open) 39 = .ok (.aload_n 0, 1) := by decide +kernel
theorem dP_open_40 : decode (m_C mP_open) 40 = .ok (.aload_n 3, 1) := by decide +kernel
theorem dP_open_41 : decode (m_C mP_open) 41 = .ok (.ifnonnull 7, 3) := by decide +kernel
theorem dP_open_44 : decode (m_C mP_open) 44 = .ok (.aconst_null, 1) := by decide +kernel
theorem dP_open_45 : decode (m_C mP_open) 45 = .ok (.goto 8, 3) := by decide +kernel
theorem dP_open_48 : decode (m_C mP_open) 48 = .ok (.aload_n 0, 1) := by decide +kernel
theorem dP_open_49 : decode (m_C mP_open) 49 = .ok (.aload_n 3, 1) := by decide +kernel
theorem dP_open_50 : decode (m_C mP_open) 50 = .ok (.invokevirtual 78, 3) := by decide +kernel
theorem dP_open_53 : decode (m_C mP_open) 53 = .ok (.putfield 28, 3) := by decide +kernel
theorem dP_open_56 : decode (m_C mP_open) 56 = .ok (.aload_n 0, 1) := by decide +kernel
theorem dP_open_57 : decode (m_C mP_open) 57 = .ok (.getfield 10, 3) := by decide +kernel
theorem dP_open_60 : decode (m_C mP_open) 60 = .ok (.invokevirtual 61, 3) := by decide +kernel
theorem dP_open_63 : decode (m_C mP_open) 63 = .ok (.aload_n 0, 1) := by decide +kernel
theorem dP_open_64 : decode (m_C mP_open) 64 = .ok (.getfield 28, 3) := by decide +kernel
theorem dP_open_67 : decode (m_C mP_open) 67 = .ok (.ifnull 7, 3) := by decide +kernel
theorem dP_open_70 : decode (m_C mP_open) 70 = .ok (.iconst 1, 1) := by decide +kernel
theorem dP_open_71 : decode (m_C mP_open) 71 = .ok (.goto 4, 3) := by decide +kernel
theorem dP_open_74 : decode (m_C mP_open) 74 = .ok (.iconst 0, 1) := by decide +kernel
theorem dP_open_75 : decode (m_C mP_open) 75 = .ok (.ireturn, 1) := by decide +kernel
theorem dP_newFile_0 : decode (m_C mP_newFile) 0 = .ok (.new 76, 3) := by decide +kernel
theorem dP_newFile_3 : decode (m_C mP_newFile) 3 = .ok (.dup, 1) := by decide +kernel
theorem dP_newFile_4 : decode (m_C mP_newFile) 4 = .ok (.aload_n 0, 1) := by decide +kernel
theorem dP_newFile_5 : decode (m_C mP_newFile) 5 = .ok (.getfield 10, 3) := by decide +kernel
theorem dP_newFile_8 : decode (m_C mP_newFile) 8 = .ok (.invokevirtual 68, 3) := by decide +kernel
theorem dP_newFile_11 : decode (m_C mP_newFile) 11 = .ok (.invokespecial 169, 3) := by decide +kernel
theorem dP_newFile_14 : decode (m_C mP_newFile) 14 = .ok (.astore_n 2, 1) := by decide +kernel
theorem dP_newFile_15 : decode (m_C mP_newFile) 15 = .ok (.aload_n 1, 1) := by decide +kernel
theorem dP_newFile_16 : decode (m_C mP_newFile) 16 = .ok (.aload_n 2, 1) := by decide +kernel
theorem dP_newFile_17 : decode (m_C mP_newFile) 17 = .ok (.invokevirtual 72, 3) := by decide +kernel
theorem dP_newFile_20 : decode (m_C mP_newFile) 20 = .ok (.aload_n 0, 1) := by decide +kernel
theorem dP_newFile_21 : decode (m_C mP_newFile) 21 = .ok (.dup, 1) := by decide +kernel
theorem dP_newFile_22 : decode (m_C mP_newFile) 22 = .ok (.getfield 32, 3) := by decide +kernel
theorem dP_newFile_25 : decode (m_C mP_newFile) 25 = .ok (.iconst 1, 1) := by decide +kernel
theorem dP_newFile_26 : decode (m_C mP_newFile) 26 = .ok (.iadd, 1) := by decide +kernel
theorem dP_newFile_27 : decode (m_C mP_newFile) 27 = .ok (.putfield 32, 3) := by decide +kernel
theorem dP_newFile_30 : decode (m_C mP_newFile) 30 = .ok (.aload_n 2, 1) := by decide +kernel
theorem dP_newFile_31 : decode (m_C mP_newFile) 31 = .ok (.areturn, 1) := by decide +kernel
theorem dF_init_0 : decode (m_C mF_init) 0 = .ok (.aload_n 0, 1) := by decide +kernel
theorem dF_init_1 : decode (m_C mF_init) 1 = .ok (.aload_n 1, 1) := by decide +kernel
theorem dF_init_2 : decode (m_C mF_init) 2 = .ok (.invokespecial 3, 3) := by decide +kernel
theorem dF_init_5 : decode (m_C mF_init) 5 = .ok (.aload_n 0, 1) := by decide +kernel
theorem dF_init_6 : decode (m_C mF_init) 6 = .ok (.bipush 16, 2) := by decide +kernel
theorem dF_init_8 : decode (m_C mF_init) 8 = .ok (.newarray .byte, 2) := by decide +kernel
theorem dF_init_10 : decode (m_C mF_init) 10 = .ok (.putfield 11, 3) := by decide +kernel
theorem dF_init_13 : decode (m_C mF_init) 13 = .ok (.aload_n 0, 1) := by decide +kernel
theorem dF_init_14 : decode (m_C mF_init) 14 = .ok (.iconst 0, 1) := by decide +kernel
theorem dF_init_15 : decode (m_C mF_init) 15 = .ok (.putfield 15, 3) := by decide +kernel
theorem dF_init_18 : decode (m_C mF_init) 18 = .ok (.return_, 1) := by decide +kernel
theorem dP_empty_0 : decode (m_C mP_empty) 0 = .ok (.aload_n 0, 1) := by decide +kernel
theorem dP_empty_1 : decode (m_C mP_empty) 1 = .ok (.getfield 28, 3) := by decide +kernel
theorem dP_empty_4 : decode (m_C mP_empty) 4 = .ok (.ifnonnull 5, 3) := by decide +kernel
theorem dP_empty_7 : decode (m_C mP_empty) 7 = .ok (.iconst (-1), 1) := by decide +kernel
theorem dP_empty_8 : decode (m_C mP_empty) 8 = .ok (.ireturn, 1) := by decide +kernel
theorem dP_empty_9 : decode (m_C mP_empty) 9 = .ok (.aload_n 0, 1) := by decide +kernel
theorem dP_empty_10 : decode (m_C mP_empty) 10 = .ok (.getfield 28, 3) := by decide +kernel
theorem dP_empty_13 : decode (m_C mP_empty) 13 = .ok (.getfield 82, 3) := by decide +kernel
theorem dP_empty_16 : decode (m_C mP_empty) 16 = .ok (.istore_n 1, 1) := by decide +kernel
theorem dP_empty_17 : decode (m_C mP_empty) 17 = .ok (.aload_n 0, 1) := by decide +kernel
theorem dP_empty_18 : decode (m_C mP_empty) 18 = .ok (.aload_n 0, 1) := by decide +kernel
theorem dP_empty_19 : decode (m_C mP_empty) 19 = .ok (.getfield 28, 3) := by decide +kernel
theorem dP_empty_22 : decode (m_C mP_empty) 22 = .ok (.invokevirtual 83, 3) := by decide +kernel
theorem dP_empty_25 : decode (m_C mP_empty) 25 = .ok (.iload_n 1, 1) := by decide +kernel
theorem dP_empty_26 : decode (m_C mP_empty) 26 = .ok (.ireturn, 1) := by decide +kernel
theorem dP_dropBytes_0 : decode (m_C mP_dropBytes) 0 = .ok (.aload_n 0, 1) := by decide +kernel
theorem dP_dropBytes_1 : decode (m_C mP_dropBytes) 1 = .ok (.dup, 1) := by decide +kernel
theorem dP_dropBytes_2 : decode (m_C mP_dropBytes) 2 = .ok (.getfield 39, 3) := by decide +kernel
theorem dP_dropBytes_5 : decode (m_C mP_dropBytes) 5 = .ok (.aload_n 1, 1) := by decide +kernel
theorem dP_dropBytes_6 : decode (m_C mP_dropBytes) 6 = .ok (.getfield 82, 3) := by decide +kernel
theorem dP_dropBytes_9 : decode (m_C mP_dropBytes) 9 = .ok (.isub, 1) := by decide +kernel
theorem dP_dropBytes_10 : decode (m_C mP_dropBytes) 10 = .ok (.putfield 39, 3) := by decide +kernel
theorem dP_dropBytes_13 : decode (m_C mP_dropBytes) 13 = .ok (.aload_n 1, 1) := by decide +kernel
theorem dP_dropBytes_14 : decode (m_C mP_dropBytes) 14 = .ok (.iconst 0, 1) := by decide +kernel
theorem dP_dropBytes_15 : decode (m_C mP_dropBytes) 15 = .ok (.putfield 82, 3) := by decide +kernel
theorem dP_dropBytes_18 : decode (m_C mP_dropBytes) 18 = .ok (.return_, 1) := by decide +kernel
theorem dP_write_0 : decode (m_C mP_write) 0 = .ok (.aload_n 0, 1) := by decide +kernel
theorem dP_write_1 : decode (m_C mP_write) 1 = .ok (.getfield 28, 3) := by decide +kernel
theorem dP_write_4 : decode (m_C mP_write) 4 = .ok (.ifnull 10, 3) := by decide +kernel
theorem dP_write_7 : decode (m_C mP_write) 7 = .ok (.iload_n 3, 1) := by decide +kernel
theorem dP_write_8 : decode (m_C mP_write) 8 = .ok (.invokestatic 42, 3) := by decide +kernel
theorem dP_write_11 : decode (m_C mP_write) 11 = .ok (.ifCond .ne 5, 3) := by decide +kernel
theorem dP_write_14 : decode (m_C mP_write) 14 = .ok (.iconst (-1), 1) := by decide +kernel
theorem dP_write_15 : decode (m_C mP_write) 15 = .ok (.ireturn, 1) := by decide +kernel
theorem dP_write_16 : decode (m_C mP_write) 16 = .ok (.aload_n 0, 1) := by decide +kernel
theorem dP_write_17 : decode (m_C mP_write) 17 = .ok (.getfield 28, 3) := by decide +kernel
theorem dP_write_20 : decode (m_C mP_write) 20 = .ok (.getfield 87, 3) := by decide +kernel
theorem dP_write_23 : decode (m_C mP_write) 23 = .ok (.ifnull 69, 3) := by decide +kernel
theorem dP_write_26 : decode (m_C mP_write) 26 = .ok (.iload_n 3, 1) := by decide +kernel
theorem dP_write_27 : decode (m_C mP_write) 27 = .ok (.aload_n 0, 1) := by decide +kernel
theorem dP_write_28 : decode (m_C mP_write) 28 = .ok (.getfield 28, 3) := by decide +kernel
theorem dP_write_31 : decode (m_C mP_write) 31 = .ok (.invokevirtual 90, 3) := by decide +kernel
theorem dP_write_34 : decode (m_C mP_write) 34 = .ok (.ldc 94, 2) := by decide +kernel
theorem dP_write_36 : decode (m_C mP_write) 36 = .ok (.aload_n 0, 1) := by decide +kernel
theorem dP_write_37 : decode (m_C mP_write) 37 = .ok (.getfield 39, 3) := by decide +kernel
theorem dP_write_40 : decode (m_C mP_write) 40 = .ok (.isub, 1) := by decide +kernel
theorem dP_write_41 : decode (m_C mP_write) 41 = .ok (.invokestatic 95, 3) := by decide +kernel
theorem dP_write_44 : decode (m_C mP_write) 44 = .ok (.invokestatic 95, 3) := by decide +kernel
theorem dP_write_47 : decode (m_C mP_write) 47 = .ok (.istore 4, 2) := by decide +kernel
theorem dP_write_49 : decode (m_C mP_write) 49 = .ok (.iconst 0, 1) := by decide +kernel
theorem dP_write_50 : decode (m_C mP_write) 50 = .ok (.istore 5, 2) := by decide +kernel
theorem dP_write_52 : decode (m_C mP_write) 52 = .ok (.iload 5, 2) := by decide +kernel
theorem dP_write_54 : decode (m_C mP_write) 54 = .ok (.iload 4, 2) := by decide +kernel
theorem dP_write_56 : decode (m_C mP_write) 56 = .ok (.if_icmp .ge 36, 3) := by decide +kernel
theorem dP_write_59 : decode (m_C mP_write) 59 = .ok (.aload_n 0, 1) := by decide +kernel
theorem dP_write_60 : decode (m_C mP_write) 60 = .ok (.getfield 28, 3) := by decide +kernel
theorem dP_write_63 : decode (m_C mP_write) 63 = .ok (.lload_n 1, 1) := by decide +kernel
theorem dP_write_64 : decode (m_C mP_write) 64 = .ok (.iload_n 3, 1) := by decide +kernel
theorem dP_write_65 : decode (m_C mP_write) 65 = .ok (.iconst 1, 1) := by decide +kernel
theorem dP_write_66 : decode (m_C mP_write) 66 = .ok (.isub, 1) := by decide +kernel
theorem dP_write_67 : decode (m_C mP_write) 67 = .ok (.iload 5, 2) := by decide +kernel
theorem dP_write_69 : decode (m_C mP_write) 69 = .ok (.isub, 1) := by decide +kernel
theorem dP_write_70 : decode (m_C mP_write) 70 = .ok (.invokestatic 101, 3) := by decide +kernel
theorem dP_write_73 : decode (m_C mP_write) 73 = .ok (.invokevirtual 105, 3) := by decide +kernel
theorem dP_write_76 : decode (m_C mP_write) 76 = .ok (.aload_n 0, 1) := by decide +kernel
theorem dP_write_77 : decode (m_C mP_write) 77 = .ok (.dup, 1) := by decide +kernel
theorem dP_write_78 : decode (m_C mP_write) 78 = .ok (.getfield 39, 3) := by decide +kernel
theorem dP_write_81 : decode (m_C mP_write) 81 = .ok (.iconst 1, 1) := by decide +kernel
theorem dP_write_82 : decode (m_C mP_write) 82 = .ok (.iadd, 1) := by decide +kernel
theorem dP_write_83 : decode (m_C mP_write) 83 = .ok (.putfield 39, 3) := by decide +kernel
theorem dP_write_86 : decode (m_C mP_write) 86 = .ok (.iinc 5 1, 3) := by decide +kernel
theorem dP_write_89 : decode (m_C mP_write) 89 = .ok (.goto (-37), 3) := by decide +kernel
theorem dP_write_92 : decode (m_C mP_write) 92 = .ok (.aload_n 0, 1) := by decide +kernel
theorem dP_write_93 : decode (m_C mP_write) 93 = .ok (.getfield 28, 3) := by decide +kernel
theorem dP_write_96 : decode (m_C mP_write) 96 = .ok (.getfield 82, 3) := by decide +kernel
theorem dP_write_99 : decode (m_C mP_write) 99 = .ok (.ireturn, 1) := by decide +kernel
theorem dF_room_0 : decode (m_C mF_room) 0 = .ok (.sipush 16384, 3) := by decide +kernel
theorem dF_room_3 : decode (m_C mF_room) 3 = .ok (.aload_n 0, 1) := by decide +kernel
theorem dF_room_4 : decode (m_C mF_room) 4 = .ok (.getfield 15, 3) := by decide +kernel
theorem dF_room_7 : decode (m_C mF_room) 7 = .ok (.isub, 1) := by decide +kernel
theorem dF_room_8 : decode (m_C mF_room) 8 = .ok (.ireturn, 1) := by decide +kernel
theorem dF_append_0 : decode (m_C mF_append) 0 = .ok (.aload_n 0, 1) := by decide +kernel
theorem dF_append_1 : decode (m_C mF_append) 1 = .ok (.getfield 15, 3) := by decide +kernel
theorem dF_append_4 : decode (m_C mF_append) 4 = .ok (.sipush 16384, 3) := by decide +kernel
theorem dF_append_7 : decode (m_C mF_append) 7 = .ok (.if_icmp .lt 4, 3) := by decide +kernel
theorem dF_append_10 : decode (m_C mF_append) 10 = .ok (.return_, 1) := by decide +kernel
theorem dF_append_11 : decode (m_C mF_append) 11 = .ok (.aload_n 0, 1) := by decide +kernel
theorem dF_append_12 : decode (m_C mF_append) 12 = .ok (.getfield 15, 3) := by decide +kernel
theorem dF_append_15 : decode (m_C mF_append) 15 = .ok (.aload_n 0, 1) := by decide +kernel
theorem dF_append_16 : decode (m_C mF_append) 16 = .ok (.getfield 11, 3) := by decide +kernel
theorem dF_append_19 : decode (m_C mF_append) 19 = .ok (.arraylength, 1) := by decide +kernel
theorem dF_append_20 : decode (m_C mF_append) 20 = .ok (.if_icmp .lt 21, 3) := by decide +kernel
theorem dF_append_23 : decode (m_C mF_append) 23 = .ok (.aload_n 0, 1) := by decide +kernel
theorem dF_append_24 : decode (m_C mF_append) 24 = .ok (.aload_n 0, 1) := by decide +kernel
theorem dF_append_25 : decode (m_C mF_append) 25 = .ok (.getfield 11, 3) := by decide +kernel
theorem dF_append_28 : decode (m_C mF_append) 28 = .ok (.iconst 2, 1) := by decide +kernel
theorem dF_append_29 : decode (m_C mF_append) 29 = .ok (.aload_n 0, 1) := by decide +kernel
theorem dF_append_30 : decode (m_C mF_append) 30 = .ok (.getfield 11, 3) := by decide +kernel
theorem dF_append_33 : decode (m_C mF_append) 33 = .ok (.arraylength, 1) := by decide +kernel
theorem dF_append_34 : decode (m_C mF_append) 34 = .ok (.imul, 1) := by decide +kernel
theorem dF_append_35 : decode (m_C mF_append) 35 = .ok (.invokestatic 19, 3) := by decide +kernel
theorem dF_append_38 : decode (m_C mF_append) 38 = .ok (.putfield 11, 3) := by decide +kernel
theorem dF_append_41 : decode (m_C mF_append) 41 = .ok (.aload_n 0, 1) := by decide +kernel
theorem dF_append_42 : decode (m_C mF_append) 42 = .ok (.getfield 11, 3) := by decide +kernel
theorem dF_append_45 : decode (m_C mF_append) 45 = .ok (.aload_n 0, 1) := by decide +kernel
theorem dF_append_46 : decode (m_C mF_append) 46 = .ok (.getfield 15, 3) := by decide +kernel
theorem dF_append_49 : decode (m_C mF_append) 49 = .ok (.iload_n 1, 1) := by decide +kernel
theorem dF_append_50 : decode (m_C mF_append) 50 = .ok (.i2b, 1) := by decide +kernel
theorem dF_append_51 : decode (m_C mF_append) 51 = .ok (.bastore, 1) := by decide +kernel
theorem dF_append_52 : decode (m_C mF_append) 52 = .ok (.aload_n 0, 1) := by decide +kernel
theorem dF_append_53 : decode (m_C mF_append) 53 = .ok (.dup, 1) := by decide +kernel
theorem dF_append_54 : decode (m_C mF_append) 54 = .ok (.getfield 15, 3) := by decide +kernel
theorem dF_append_57 : decode (m_C mF_append) 57 = .ok (.iconst 1, 1) := by decide +kernel
theorem dF_append_58 : decode (m_C mF_append) 58 = .ok (.iadd, 1) := by decide +kernel
theorem dF_append_59 : decode (m_C mF_append) 59 = .ok (.putfield 15, 3) := by decide +kernel
theorem dF_append_62 : decode (m_C mF_append) 62 = .ok (.return_, 1) := by decide +kernel
theorem dJ_copyOf_0 : decode (m_C mJ_copyOf) 0 = .ok (.iload_n 1, 1) := by decide +kernel
theorem dJ_copyOf_1 : decode (m_C mJ_copyOf) 1 = .ok (.aload_n 0, 1) := by decide +kernel
theorem dJ_copyOf_2 : decode (m_C mJ_copyOf) 2 = .ok (.arraylength, 1) := by decide +kernel
theorem dJ_copyOf_3 : decode (m_C mJ_copyOf) 3 = .ok (.if_icmp .ne 11, 3) := by decide +kernel
theorem dJ_copyOf_6 : decode (m_C mJ_copyOf) 6 = .ok (.aload_n 0, 1) := by decide +kernel
theorem dJ_copyOf_7 : decode (m_C mJ_copyOf) 7 = .ok (.invokevirtual 310, 3) := by decide +kernel
theorem dJ_copyOf_10 : decode (m_C mJ_copyOf) 10 = .ok (.checkcast 311, 3) := by decide +kernel
theorem dJ_copyOf_13 : decode (m_C mJ_copyOf) 13 = .ok (.areturn, 1) := by decide +kernel
theorem dJ_copyOf_14 : decode (m_C mJ_copyOf) 14 = .ok (.iload_n 1, 1) := by decide +kernel
theorem dJ_copyOf_15 : decode (m_C mJ_copyOf) 15 = .ok (.newarray .byte, 2) := by decide +kernel
theorem dJ_copyOf_17 : decode (m_C mJ_copyOf) 17 = .ok (.astore_n 2, 1) := by decide +kernel
theorem dJ_copyOf_18 : decode (m_C mJ_copyOf) 18 = .ok (.aload_n 0, 1) := by decide +kernel
theorem dJ_copyOf_19 : decode (m_C mJ_copyOf) 19 = .ok (.iconst 0, 1) := by decide +kernel
theorem dJ_copyOf_20 : decode (m_C mJ_copyOf) 20 = .ok (.aload_n 2, 1) := by decide +kernel
theorem dJ_copyOf_21 : decode (m_C mJ_copyOf) 21 = .ok (.iconst 0, 1) := by decide +kernel
theorem dJ_copyOf_22 : decode (m_C mJ_copyOf) 22 = .ok (.aload_n 0, 1) := by decide +kernel
theorem dJ_copyOf_23 : decode (m_C mJ_copyOf) 23 = .ok (.arraylength, 1) := by decide +kernel
theorem dJ_copyOf_24 : decode (m_C mJ_copyOf) 24 = .ok (.iload_n 1, 1) := by decide +kernel
theorem dJ_copyOf_25 : decode (m_C mJ_copyOf) 25 = .ok (.invokestatic 304, 3) := by decide +kernel
theorem dJ_copyOf_28 : decode (m_C mJ_copyOf) 28 = .ok (.invokestatic 150, 3) := by decide +kernel
theorem dJ_copyOf_31 : decode (m_C mJ_copyOf) 31 = .ok (.aload_n 2, 1) := by decide +kernel
theorem dJ_copyOf_32 : decode (m_C mJ_copyOf) 32 = .ok (.areturn, 1) := by decide +kernel
theorem dP_byteAt_0 : decode (m_C mP_byteAt) 0 = .ok (.aload_n 0, 1) := by decide +kernel
theorem dP_byteAt_1 : decode (m_C mP_byteAt) 1 = .ok (.getfield 28, 3) := by decide +kernel
theorem dP_byteAt_4 : decode (m_C mP_byteAt) 4 = .ok (.ifnonnull 7, 3) := by decide +kernel
theorem dP_byteAt_7 : decode (m_C mP_byteAt) 7 = .ok (.iconst (-1), 1) := by decide +kernel
theorem dP_byteAt_8 : decode (m_C mP_byteAt) 8 = .ok (.goto 11, 3) := by decide +kernel
theorem dP_byteAt_11 : decode (m_C mP_byteAt) 11 = .ok (.aload_n 0, 1) := by decide +kernel
theorem dP_byteAt_12 : decode (m_C mP_byteAt) 12 = .ok (.getfield 28, 3) := by decide +kernel
theorem dP_byteAt_15 : decode (m_C mP_byteAt) 15 = .ok (.iload_n 1, 1) := by decide +kernel
theorem dP_byteAt_16 : decode (m_C mP_byteAt) 16 = .ok (.invokevirtual 108, 3) := by decide +kernel
theorem dP_byteAt_19 : decode (m_C mP_byteAt) 19 = .ok (.ireturn, 1) := by decide +kernel
theorem dF_at_0 : decode (m_C mF_at) 0 = .ok (.iload_n 1, 1) := by decide +kernel
theorem dF_at_1 : decode (m_C mF_at) 1 = .ok (.ifCond .lt 24, 3) := by decide +kernel
theorem dF_at_4 : decode (m_C mF_at) 4 = .ok (.iload_n 1, 1) := by decide +kernel
theorem dF_at_5 : decode (m_C mF_at) 5 = .ok (.aload_n 0, 1) := by decide +kernel
theorem dF_at_6 : decode (m_C mF_at) 6 = .ok (.getfield 15, 3) := by decide +kernel
theorem dF_at_9 : decode (m_C mF_at) 9 = .ok (.if_icmp .ge 16, 3) := by decide +kernel
theorem dF_at_12 : decode (m_C mF_at) 12 = .ok (.aload_n 0, 1) := by decide +kernel
theorem dF_at_13 : decode (m_C mF_at) 13 = .ok (.getfield 11, 3) := by decide +kernel
theorem dF_at_16 : decode (m_C mF_at) 16 = .ok (.iload_n 1, 1) := by decide +kernel
theorem dF_at_17 : decode (m_C mF_at) 17 = .ok (.baload, 1) := by decide +kernel
theorem dF_at_18 : decode (m_C mF_at) 18 = .ok (.sipush 255, 3) := by decide +kernel
theorem dF_at_21 : decode (m_C mF_at) 21 = .ok (.iand, 1) := by decide +kernel
theorem dF_at_22 : decode (m_C mF_at) 22 = .ok (.goto 4, 3) := by decide +kernel
theorem dF_at_25 : decode (m_C mF_at) 25 = .ok (.iconst (-1), 1) := by decide +kernel
theorem dF_at_26 : decode (m_C mF_at) 26 = .ok (.ireturn, 1) := by decide +kernel
theorem dP_remove_0 : decode (m_C mP_remove) 0 = .ok (.aload_n 0, 1) := by decide +kernel
theorem dP_remove_1 : decode (m_C mP_remove) 1 = .ok (.invokevirtual 57, 3) := by decide +kernel
theorem dP_remove_4 : decode (m_C mP_remove) 4 = .ok (.astore_n 1, 1) := by decide +kernel
theorem dP_remove_5 : decode (m_C mP_remove) 5 = .ok (.aload_n 0, 1) := by decide +kernel
theorem dP_remove_6 : decode (m_C mP_remove) 6 = .ok (.getfield 10, 3) := by decide +kernel
theorem dP_remove_9 : decode (m_C mP_remove) 9 = .ok (.invokevirtual 61, 3) := by decide +kernel
theorem dP_remove_12 : decode (m_C mP_remove) 12 = .ok (.aload_n 1, 1) := by decide +kernel
theorem dP_remove_13 : decode (m_C mP_remove) 13 = .ok (.instanceof 76, 3) := by decide +kernel
theorem dP_remove_16 : decode (m_C mP_remove) 16 = .ok (.ifCond .eq 15, 3) := by decide +kernel
theorem dP_remove_19 : decode (m_C mP_remove) 19 = .ok (.aload_n 1, 1) := by decide +kernel
theorem dP_remove_20 : decode (m_C mP_remove) 20 = .ok (.checkcast 76, 3) := by decide +kernel
theorem dP_remove_23 : decode (m_C mP_remove) 23 = .ok (.astore_n 2, 1) := by decide +kernel
theorem dP_remove_24 : decode (m_C mP_remove) 24 = .ok (.aload_n 0, 1) := by decide +kernel
theorem dP_remove_25 : decode (m_C mP_remove) 25 = .ok (.aload_n 2, 1) := by decide +kernel
theorem dP_remove_26 : decode (m_C mP_remove) 26 = .ok (.invokevirtual 112, 3) := by decide +kernel
theorem dP_remove_29 : decode (m_C mP_remove) 29 = .ok (.iconst 1, 1) := by decide +kernel
theorem dP_remove_30 : decode (m_C mP_remove) 30 = .ok (.ireturn, 1) := by decide +kernel
theorem dP_remove_31 : decode (m_C mP_remove) 31 = .ok (.iconst 0, 1) := by decide +kernel
theorem dP_remove_32 : decode (m_C mP_remove) 32 = .ok (.ireturn, 1) := by decide +kernel
theorem dP_discard_0 : decode (m_C mP_discard) 0 = .ok (.aload_n 0, 1) := by decide +kernel
theorem dP_discard_1 : decode (m_C mP_discard) 1 = .ok (.aload_n 1, 1) := by decide +kernel
theorem dP_discard_2 : decode (m_C mP_discard) 2 = .ok (.invokevirtual 83, 3) := by decide +kernel
theorem dP_discard_5 : decode (m_C mP_discard) 5 = .ok (.aload_n 0, 1) := by decide +kernel
theorem dP_discard_6 : decode (m_C mP_discard) 6 = .ok (.dup, 1) := by decide +kernel
theorem dP_discard_7 : decode (m_C mP_discard) 7 = .ok (.getfield 32, 3) := by decide +kernel
theorem dP_discard_10 : decode (m_C mP_discard) 10 = .ok (.iconst 1, 1) := by decide +kernel
theorem dP_discard_11 : decode (m_C mP_discard) 11 = .ok (.isub, 1) := by decide +kernel
theorem dP_discard_12 : decode (m_C mP_discard) 12 = .ok (.putfield 32, 3) := by decide +kernel
theorem dP_discard_15 : decode (m_C mP_discard) 15 = .ok (.aload_n 1, 1) := by decide +kernel
theorem dP_discard_16 : decode (m_C mP_discard) 16 = .ok (.invokestatic 170, 3) := by decide +kernel
theorem dP_discard_19 : decode (m_C mP_discard) 19 = .ok (.return_, 1) := by decide +kernel
theorem dP_detach_0 : decode (m_C mP_detach) 0 = .ok (.aload_n 0, 1) := by decide +kernel
theorem dP_detach_1 : decode (m_C mP_detach) 1 = .ok (.getfield 173, 3) := by decide +kernel
theorem dP_detach_4 : decode (m_C mP_detach) 4 = .ok (.ifnull 11, 3) := by decide +kernel
theorem dP_detach_7 : decode (m_C mP_detach) 7 = .ok (.aload_n 0, 1) := by decide +kernel
theorem dP_detach_8 : decode (m_C mP_detach) 8 = .ok (.getfield 173, 3) := by decide +kernel
theorem dP_detach_11 : decode (m_C mP_detach) 11 = .ok (.aload_n 0, 1) := by decide +kernel
theorem dP_detach_12 : decode (m_C mP_detach) 12 = .ok (.invokevirtual 174, 3) := by decide +kernel
theorem dP_detach_15 : decode (m_C mP_detach) 15 = .ok (.return_, 1) := by decide +kernel
theorem dD_release_0 : decode (m_C mD_release) 0 = .ok (.aconst_null, 1) := by decide +kernel
theorem dD_release_1 : decode (m_C mD_release) 1 = .ok (.astore_n 2, 1) := by decide +kernel
theorem dD_release_2 : decode (m_C mD_release) 2 = .ok (.aload_n 0, 1) := by decide +kernel
theorem dD_release_3 : decode (m_C mD_release) 3 = .ok (.getfield 7, 3) := by decide +kernel
theorem dD_release_6 : decode (m_C mD_release) 6 = .ok (.astore_n 3, 1) := by decide +kernel
theorem dD_release_7 : decode (m_C mD_release) 7 = .ok (.aload_n 3, 1) := by decide +kernel
theorem dD_release_8 : decode (m_C mD_release) 8 = .ok (.ifnull 18, 3) := by decide +kernel
theorem dD_release_11 : decode (m_C mD_release) 11 = .ok (.aload_n 3, 1) := by decide +kernel
theorem dD_release_12 : decode (m_C mD_release) 12 = .ok (.aload_n 1, 1) := by decide +kernel
theorem dD_release_13 : decode (m_C mD_release) 13 = .ok (.if_acmp .eq 13, 3) := by decide +kernel
theorem dD_release_16 : decode (m_C mD_release) 16 = .ok (.aload_n 3, 1) := by decide +kernel
theorem dD_release_17 : decode (m_C mD_release) 17 = .ok (.astore_n 2, 1) := by decide +kernel
theorem dD_release_18 : decode (m_C mD_release) 18 = .ok (.aload_n 3, 1) := by decide +kernel
theorem dD_release_19 : decode (m_C mD_release) 19 = .ok (.getfield 21, 3) := by decide +kernel
theorem dD_release_22 : decode (m_C mD_release) 22 = .ok (.astore_n 3, 1) := by decide +kernel
theorem dD_release_23 : decode (m_C mD_release) 23 = .ok (.goto (-16), 3) := by decide +kernel
theorem dD_release_26 : decode (m_C mD_release) 26 = .ok (.aload_n 3, 1) := by decide +kernel
theorem dD_release_27 : decode (m_C mD_release) 27 = .ok (.ifnonnull 4, 3) := by decide +kernel
theorem dD_release_30 : decode (m_C mD_release) 30 = .ok (.return_, 1) := by decide +kernel
theorem dD_release_31 : decode (m_C mD_release) 31 = .ok (.aload_n 0, 1) := by decide +kernel
theorem dD_release_32 : decode (m_C mD_release) 32 = .ok (.aload_n 2, 1) := by decide +kernel
theorem dD_release_33 : decode (m_C mD_release) 33 = .ok (.aload_n 3, 1) := by decide +kernel
theorem dD_release_34 : decode (m_C mD_release) 34 = .ok (.getfield 21, 3) := by decide +kernel
theorem dD_release_37 : decode (m_C mD_release) 37 = .ok (.invokevirtual 32, 3) := by decide +kernel
theorem dD_release_40 : decode (m_C mD_release) 40 = .ok (.aload_n 3, 1) := by decide +kernel
theorem dD_release_41 : decode (m_C mD_release) 41 = .ok (.aconst_null, 1) := by decide +kernel
theorem dD_release_42 : decode (m_C mD_release) 42 = .ok (.putfield 21, 3) := by decide +kernel
theorem dD_release_45 : decode (m_C mD_release) 45 = .ok (.aload_n 3, 1) := by decide +kernel
theorem dD_release_46 : decode (m_C mD_release) 46 = .ok (.aconst_null, 1) := by decide +kernel
theorem dD_release_47 : decode (m_C mD_release) 47 = .ok (.putfield 36, 3) := by decide +kernel
theorem dD_release_50 : decode (m_C mD_release) 50 = .ok (.aload_n 0, 1) := by decide +kernel
theorem dD_release_51 : decode (m_C mD_release) 51 = .ok (.dup, 1) := by decide +kernel
theorem dD_release_52 : decode (m_C mD_release) 52 = .ok (.getfield 13, 3) := by decide +kernel
theorem dD_release_55 : decode (m_C mD_release) 55 = .ok (.iconst 1, 1) := by decide +kernel
theorem dD_release_56 : decode (m_C mD_release) 56 = .ok (.isub, 1) := by decide +kernel
theorem dD_release_57 : decode (m_C mD_release) 57 = .ok (.putfield 13, 3) := by decide +kernel
theorem dD_release_60 : decode (m_C mD_release) 60 = .ok (.return_, 1) := by decide +kernel
theorem dP_move_0 : decode (m_C mP_move) 0 = .ok (.aload_n 0, 1) := by decide +kernel
theorem dP_move_1 : decode (m_C mP_move) 1 = .ok (.getfield 28, 3) := by decide +kernel
theorem dP_move_4 : decode (m_C mP_move) 4 = .ok (.ifnull 28, 3) := by decide +kernel
theorem dP_move_7 : decode (m_C mP_move) 7 = .ok (.aload_n 0, 1) := by decide +kernel
theorem dP_move_8 : decode (m_C mP_move) 8 = .ok (.getfield 28, 3) := by decide +kernel
theorem dP_move_11 : decode (m_C mP_move) 11 = .ok (.getfield 87, 3) := by decide +kernel
theorem dP_move_14 : decode (m_C mP_move) 14 = .ok (.ifnull 18, 3) := by decide +kernel
theorem dP_move_17 : decode (m_C mP_move) 17 = .ok (.aload_n 0, 1) := by decide +kernel
theorem dP_move_18 : decode (m_C mP_move) 18 = .ok (.aload_n 0, 1) := by decide +kernel
theorem dP_move_19 : decode (m_C mP_move) 19 = .ok (.getfield 28, 3) := by decide +kernel
theorem dP_move_22 : decode (m_C mP_move) 22 = .ok (.invokevirtual 115, 3) := by decide +kernel
theorem dP_move_25 : decode (m_C mP_move) 25 = .ok (.ifCond .eq 7, 3) := by decide +kernel
theorem dP_move_28 : decode (m_C mP_move) 28 = .ok (.iconst 1, 1) := by decide +kernel
theorem dP_move_29 : decode (m_C mP_move) 29 = .ok (.goto 4, 3) := by decide +kernel
theorem dP_move_32 : decode (m_C mP_move) 32 = .ok (.iconst 0, 1) := by decide +kernel
theorem dP_move_33 : decode (m_C mP_move) 33 = .ok (.istore_n 1, 1) := by decide +kernel
theorem dP_move_34 : decode (m_C mP_move) 34 = .ok (.aload_n 0, 1) := by decide +kernel
theorem dP_move_35 : decode (m_C mP_move) 35 = .ok (.getfield 10, 3) := by decide +kernel
theorem dP_move_38 : decode (m_C mP_move) 38 = .ok (.invokevirtual 61, 3) := by decide +kernel
theorem dP_move_41 : decode (m_C mP_move) 41 = .ok (.iload_n 1, 1) := by decide +kernel
theorem dP_move_42 : decode (m_C mP_move) 42 = .ok (.ireturn, 1) := by decide +kernel
theorem dP_moveToPath_0 : decode (m_C mP_moveToPath) 0 = .ok (.aload_n 0, 1) := by decide +kernel
theorem dP_moveToPath_1 : decode (m_C mP_moveToPath) 1 = .ok (.invokevirtual 57, 3) := by decide +kernel
theorem dP_moveToPath_4 : decode (m_C mP_moveToPath) 4 = .ok (.astore_n 3, 1) := by decide +kernel
theorem dP_moveToPath_5 : decode (m_C mP_moveToPath) 5 = .ok (.aload_n 3, 1) := by decide +kernel
theorem dP_moveToPath_6 : decode (m_C mP_moveToPath) 6 = .ok (.instanceof 16, 3) := by decide +kernel
theorem dP_moveToPath_9 : decode (m_C mP_moveToPath) 9 = .ok (.ifCond .eq 19, 3) := by decide +kernel
theorem dP_moveToPath_12 : decode (m_C mP_moveToPath) 12 = .ok (.aload_n 3, 1) := by decide +kernel
theorem dP_moveToPath_13 : decode (m_C mP_moveToPath) 13 = .ok (.checkcast 16, 3) := by decide +kernel
theorem dP_moveToPath_16 : decode (m_C mP_moveToPath) 16 = .ok (.astore_n 2, 1) := by decide +kernel
theorem dP_moveToPath_17 : decode (m_C mP_moveToPath) 17 = .ok (.aload_n 0, 1) := by decide +kernel
theorem dP_moveToPath_18 : decode (m_C mP_moveToPath) 18 = .ok (.aload_n 2, 1) := by decide +kernel
theorem dP_moveToPath_19 : decode (m_C mP_moveToPath) 19 = .ok (.aload_n 1, 1) := by decide +kernel
theorem dP_moveToPath_20 : decode (m_C mP_moveToPath) 20 = .ok (.getfield 177, 3) := by decide +kernel
theorem dP_moveToPath_23 : decode (m_C mP_moveToPath) 23 = .ok (.aload_n 1, 1) := by decide +kernel
theorem dP_moveToPath_24 : decode (m_C mP_moveToPath) 24 = .ok (.invokevirtual 178, 3) := by decide +kernel
theorem dP_moveToPath_27 : decode (m_C mP_moveToPath) 27 = .ok (.ireturn, 1) := by decide +kernel
theorem dP_moveToPath_28 : decode (m_C mP_moveToPath) 28 = .ok (.aload_n 0, 1) := by decide +kernel
theorem dP_moveToPath_29 : decode (m_C mP_moveToPath) 29 = .ok (.invokevirtual 167, 3) := by decide +kernel
theorem dP_moveToPath_32 : decode (m_C mP_moveToPath) 32 = .ok (.astore_n 2, 1) := by decide +kernel
theorem dP_moveToPath_33 : decode (m_C mP_moveToPath) 33 = .ok (.aload_n 2, 1) := by decide +kernel
theorem dP_moveToPath_34 : decode (m_C mP_moveToPath) 34 = .ok (.ifnull 13, 3) := by decide +kernel
theorem dP_moveToPath_37 : decode (m_C mP_moveToPath) 37 = .ok (.aload_n 0, 1) := by decide +kernel
theorem dP_moveToPath_38 : decode (m_C mP_moveToPath) 38 = .ok (.getfield 10, 3) := by decide +kernel
theorem dP_moveToPath_41 : decode (m_C mP_moveToPath) 41 = .ok (.invokevirtual 163, 3) := by decide +kernel
theorem dP_moveToPath_44 : decode (m_C mP_moveToPath) 44 = .ok (.ifCond .ne 5, 3) := by decide +kernel
theorem dP_moveToPath_47 : decode (m_C mP_moveToPath) 47 = .ok (.iconst 0, 1) := by decide +kernel
theorem dP_moveToPath_48 : decode (m_C mP_moveToPath) 48 = .ok (.ireturn, 1) := by decide +kernel
theorem dP_moveToPath_49 : decode (m_C mP_moveToPath) 49 = .ok (.aload_n 0, 1) := by decide +kernel
theorem dP_moveToPath_50 : decode (m_C mP_moveToPath) 50 = .ok (.aload_n 2, 1) := by decide +kernel
theorem dP_moveToPath_51 : decode (m_C mP_moveToPath) 51 = .ok (.aload_n 0, 1) := by decide +kernel
theorem dP_moveToPath_52 : decode (m_C mP_moveToPath) 52 = .ok (.getfield 10, 3) := by decide +kernel
theorem dP_moveToPath_55 : decode (m_C mP_moveToPath) 55 = .ok (.invokevirtual 68, 3) := by decide +kernel
theorem dP_moveToPath_58 : decode (m_C mP_moveToPath) 58 = .ok (.aload_n 1, 1) := by decide +kernel
theorem dP_moveToPath_59 : decode (m_C mP_moveToPath) 59 = .ok (.invokevirtual 178, 3) := by decide +kernel
theorem dP_moveToPath_62 : decode (m_C mP_moveToPath) 62 = .ok (.ireturn, 1) := by decide +kernel
theorem dP_moveInto_0 : decode (m_C mP_moveInto) 0 = .ok (.aload_n 1, 1) := by decide +kernel
theorem dP_moveInto_1 : decode (m_C mP_moveInto) 1 = .ok (.aload_n 2, 1) := by decide +kernel
theorem dP_moveInto_2 : decode (m_C mP_moveInto) 2 = .ok (.iconst 0, 1) := by decide +kernel
theorem dP_moveInto_3 : decode (m_C mP_moveInto) 3 = .ok (.aload_n 2, 1) := by decide +kernel
theorem dP_moveInto_4 : decode (m_C mP_moveInto) 4 = .ok (.arraylength, 1) := by decide +kernel
theorem dP_moveInto_5 : decode (m_C mP_moveInto) 5 = .ok (.invokevirtual 159, 3) := by decide +kernel
theorem dP_moveInto_8 : decode (m_C mP_moveInto) 8 = .ok (.astore 4, 2) := by decide +kernel
theorem dP_moveInto_10 : decode (m_C mP_moveInto) 10 = .ok (.aload 4, 2) := by decide +kernel
theorem dP_moveInto_12 : decode (m_C mP_moveInto) 12 = .ok (.aload_n 3, 1) := by decide +kernel
theorem dP_moveInto_13 : decode (m_C mP_moveInto) 13 = .ok (.if_acmp .eq 11, 3) := by decide +kernel
theorem dP_moveInto_16 : decode (m_C mP_moveInto) 16 = .ok (.aload 4, 2) := by decide +kernel
theorem dP_moveInto_18 : decode (m_C mP_moveInto) 18 = .ok (.instanceof 16, 3) := by decide +kernel
theorem dP_moveInto_21 : decode (m_C mP_moveInto) 21 = .ok (.ifCond .eq 5, 3) := by decide +kernel
theorem dP_moveInto_24 : decode (m_C mP_moveInto) 24 = .ok (.iconst 0, 1) := by decide +kernel
theorem dP_moveInto_25 : decode (m_C mP_moveInto) 25 = .ok (.ireturn, 1) := by decide +kernel
theorem dP_moveInto_26 : decode (m_C mP_moveInto) 26 = .ok (.aload 4, 2) := by decide +kernel
theorem dP_moveInto_28 : decode (m_C mP_moveInto) 28 = .ok (.instanceof 76, 3) := by decide +kernel
theorem dP_moveInto_31 : decode (m_C mP_moveInto) 31 = .ok (.ifCond .eq 16, 3) := by decide +kernel
theorem dP_moveInto_34 : decode (m_C mP_moveInto) 34 = .ok (.aload 4, 2) := by decide +kernel
theorem dP_moveInto_36 : decode (m_C mP_moveInto) 36 = .ok (.checkcast 76, 3) := by decide +kernel
theorem dP_moveInto_39 : decode (m_C mP_moveInto) 39 = .ok (.astore 5, 2) := by decide +kernel
theorem dP_moveInto_41 : decode (m_C mP_moveInto) 41 = .ok (.aload_n 0, 1) := by decide +kernel
theorem dP_moveInto_42 : decode (m_C mP_moveInto) 42 = .ok (.aload 5, 2) := by decide +kernel
theorem dP_moveInto_44 : decode (m_C mP_moveInto) 44 = .ok (.invokevirtual 112, 3) := by decide +kernel
theorem dP_moveInto_47 : decode (m_C mP_moveInto) 47 = .ok (.aload_n 3, 1) := by decide +kernel
theorem dP_moveInto_48 : decode (m_C mP_moveInto) 48 = .ok (.invokestatic 170, 3) := by decide +kernel
theorem dP_moveInto_51 : decode (m_C mP_moveInto) 51 = .ok (.aload_n 3, 1) := by decide +kernel
theorem dP_moveInto_52 : decode (m_C mP_moveInto) 52 = .ok (.aload_n 2, 1) := by decide +kernel
theorem dP_moveInto_53 : decode (m_C mP_moveInto) 53 = .ok (.putfield 177, 3) := by decide +kernel
theorem dP_moveInto_56 : decode (m_C mP_moveInto) 56 = .ok (.aload_n 1, 1) := by decide +kernel
theorem dP_moveInto_57 : decode (m_C mP_moveInto) 57 = .ok (.aload_n 3, 1) := by decide +kernel
theorem dP_moveInto_58 : decode (m_C mP_moveInto) 58 = .ok (.invokevirtual 72, 3) := by decide +kernel
theorem dP_moveInto_61 : decode (m_C mP_moveInto) 61 = .ok (.iconst 1, 1) := by decide +kernel
theorem dP_moveInto_62 : decode (m_C mP_moveInto) 62 = .ok (.ireturn, 1) := by decide +kernel
theorem dP_name_0 : decode (m_C mP_name) 0 = .ok (.aload_n 0, 1) := by decide +kernel
theorem dP_name_1 : decode (m_C mP_name) 1 = .ok (.getfield 25, 3) := by decide +kernel
theorem dP_name_4 : decode (m_C mP_name) 4 = .ok (.iload_n 1, 1) := by decide +kernel
theorem dP_name_5 : decode (m_C mP_name) 5 = .ok (.invokevirtual 119, 3) := by decide +kernel
theorem dP_name_8 : decode (m_C mP_name) 8 = .ok (.astore_n 3, 1) := by decide +kernel
theorem dP_name_9 : decode (m_C mP_name) 9 = .ok (.aload_n 3, 1) := by decide +kernel
theorem dP_name_10 : decode (m_C mP_name) 10 = .ok (.ifnull 16, 3) := by decide +kernel
theorem dP_name_13 : decode (m_C mP_name) 13 = .ok (.iload_n 2, 1) := by decide +kernel
theorem dP_name_14 : decode (m_C mP_name) 14 = .ok (.ifCond .lt 12, 3) := by decide +kernel
theorem dP_name_17 : decode (m_C mP_name) 17 = .ok (.iload_n 2, 1) := by decide +kernel
theorem dP_name_18 : decode (m_C mP_name) 18 = .ok (.aload_n 3, 1) := by decide +kernel
theorem dP_name_19 : decode (m_C mP_name) 19 = .ok (.getfield 123, 3) := by decide +kernel
theorem dP_name_22 : decode (m_C mP_name) 22 = .ok (.arraylength, 1) := by decide +kernel
theorem dP_name_23 : decode (m_C mP_name) 23 = .ok (.if_icmp .lt 5, 3) := by decide +kernel
theorem dP_name_26 : decode (m_C mP_name) 26 = .ok (.iconst (-1), 1) := by decide +kernel
theorem dP_name_27 : decode (m_C mP_name) 27 = .ok (.ireturn, 1) := by decide +kernel
theorem dP_name_28 : decode (m_C mP_name) 28 = .ok (.aload_n 3, 1) := by decide +kernel
theorem dP_name_29 : decode (m_C mP_name) 29 = .ok (.getfield 123, 3) := by decide +kernel
theorem dP_name_32 : decode (m_C mP_name) 32 = .ok (.iload_n 2, 1) := by decide +kernel
theorem dP_name_33 : decode (m_C mP_name) 33 = .ok (.caload, 1) := by decide +kernel
theorem dP_name_34 : decode (m_C mP_name) 34 = .ok (.ireturn, 1) := by decide +kernel
theorem dD_entryAt_0 : decode (m_C mD_entryAt) 0 = .ok (.iload_n 1, 1) := by decide +kernel
theorem dD_entryAt_1 : decode (m_C mD_entryAt) 1 = .ok (.ifCond .lt 11, 3) := by decide +kernel
theorem dD_entryAt_4 : decode (m_C mD_entryAt) 4 = .ok (.iload_n 1, 1) := by decide +kernel
end
section
theorem dD_entryAt_5 : decode (m_C mD_entryAt) 5 = .ok (.aload_n 0, 1) := by decide +kernel
theorem dD_entryAt_6 : decode (m_C mD_entryAt) 6 = .ok (.getfield 13, 3) := by decide +kernel
theorem dD_entryAt_9 : decode (m_C mD_entryAt) 9 = .ok (.if_icmp .lt 5, 3) := by decide +kernel
theorem dD_entryAt_12 : decode (m_C mD_entryAt) 12 = .ok (.aconst_null, 1) := by decide +kernel
theorem dD_entryAt_13 : decode (m_C mD_entryAt) 13 = .ok (.areturn, 1) := by decide +kernel
theorem dD_entryAt_14 : decode (m_C mD_entryAt) 14 = .ok (.aload_n 0, 1) := by decide +kernel
theorem dD_entryAt_15 : decode (m_C mD_entryAt) 15 = .ok (.getfield 7, 3) := by decide +kernel
theorem dD_entryAt_18 : decode (m_C mD_entryAt) 18 = .ok (.astore_n 2, 1) := by decide +kernel
theorem dD_entryAt_19 : decode (m_C mD_entryAt) 19 = .ok (.iconst 0, 1) := by decide +kernel
theorem dD_entryAt_20 : decode (m_C mD_entryAt) 20 = .ok (.istore_n 3, 1) := by decide +kernel
theorem dD_entryAt_21 : decode (m_C mD_entryAt) 21 = .ok (.iload_n 3, 1) := by decide +kernel
theorem dD_entryAt_22 : decode (m_C mD_entryAt) 22 = .ok (.iload_n 1, 1) := by decide +kernel
theorem dD_entryAt_23 : decode (m_C mD_entryAt) 23 = .ok (.if_icmp .ge 18, 3) := by decide +kernel
theorem dD_entryAt_26 : decode (m_C mD_entryAt) 26 = .ok (.aload_n 2, 1) := by decide +kernel
theorem dD_entryAt_27 : decode (m_C mD_entryAt) 27 = .ok (.ifnull 14, 3) := by decide +kernel
theorem dD_entryAt_30 : decode (m_C mD_entryAt) 30 = .ok (.aload_n 2, 1) := by decide +kernel
theorem dD_entryAt_31 : decode (m_C mD_entryAt) 31 = .ok (.getfield 21, 3) := by decide +kernel
theorem dD_entryAt_34 : decode (m_C mD_entryAt) 34 = .ok (.astore_n 2, 1) := by decide +kernel
theorem dD_entryAt_35 : decode (m_C mD_entryAt) 35 = .ok (.iinc 3 1, 3) := by decide +kernel
theorem dD_entryAt_38 : decode (m_C mD_entryAt) 38 = .ok (.goto (-17), 3) := by decide +kernel
theorem dD_entryAt_41 : decode (m_C mD_entryAt) 41 = .ok (.aload_n 2, 1) := by decide +kernel
theorem dD_entryAt_42 : decode (m_C mD_entryAt) 42 = .ok (.areturn, 1) := by decide +kernel
theorem dP_count_0 : decode (m_C mP_count) 0 = .ok (.iload_n 1, 1) := by decide +kernel
theorem dP_count_1 : decode (m_C mP_count) 1 = .ok (.tableswitch 101 0 6 #[43, 48, 53, 58, 66, 74, 82], 43) := by decide +kernel
theorem dP_count_44 : decode (m_C mP_count) 44 = .ok (.aload_n 0, 1) := by decide +kernel
theorem dP_count_45 : decode (m_C mP_count) 45 = .ok (.getfield 32, 3) := by decide +kernel
theorem dP_count_48 : decode (m_C mP_count) 48 = .ok (.ireturn, 1) := by decide +kernel
theorem dP_count_49 : decode (m_C mP_count) 49 = .ok (.aload_n 0, 1) := by decide +kernel
theorem dP_count_50 : decode (m_C mP_count) 50 = .ok (.getfield 36, 3) := by decide +kernel
theorem dP_count_53 : decode (m_C mP_count) 53 = .ok (.ireturn, 1) := by decide +kernel
theorem dP_count_54 : decode (m_C mP_count) 54 = .ok (.aload_n 0, 1) := by decide +kernel
theorem dP_count_55 : decode (m_C mP_count) 55 = .ok (.getfield 39, 3) := by decide +kernel
theorem dP_count_58 : decode (m_C mP_count) 58 = .ok (.ireturn, 1) := by decide +kernel
theorem dP_count_59 : decode (m_C mP_count) 59 = .ok (.aload_n 0, 1) := by decide +kernel
theorem dP_count_60 : decode (m_C mP_count) 60 = .ok (.getfield 25, 3) := by decide +kernel
theorem dP_count_63 : decode (m_C mP_count) 63 = .ok (.getfield 129, 3) := by decide +kernel
theorem dP_count_66 : decode (m_C mP_count) 66 = .ok (.ireturn, 1) := by decide +kernel
theorem dP_count_67 : decode (m_C mP_count) 67 = .ok (.aload_n 0, 1) := by decide +kernel
theorem dP_count_68 : decode (m_C mP_count) 68 = .ok (.getfield 25, 3) := by decide +kernel
theorem dP_count_71 : decode (m_C mP_count) 71 = .ok (.invokevirtual 132, 3) := by decide +kernel
theorem dP_count_74 : decode (m_C mP_count) 74 = .ok (.ireturn, 1) := by decide +kernel
theorem dP_count_75 : decode (m_C mP_count) 75 = .ok (.aload_n 0, 1) := by decide +kernel
theorem dP_count_76 : decode (m_C mP_count) 76 = .ok (.getfield 10, 3) := by decide +kernel
theorem dP_count_79 : decode (m_C mP_count) 79 = .ok (.getfield 54, 3) := by decide +kernel
theorem dP_count_82 : decode (m_C mP_count) 82 = .ok (.ireturn, 1) := by decide +kernel
theorem dP_count_83 : decode (m_C mP_count) 83 = .ok (.aload_n 0, 1) := by decide +kernel
theorem dP_count_84 : decode (m_C mP_count) 84 = .ok (.getfield 28, 3) := by decide +kernel
theorem dP_count_87 : decode (m_C mP_count) 87 = .ok (.ifnonnull 7, 3) := by decide +kernel
theorem dP_count_90 : decode (m_C mP_count) 90 = .ok (.iconst (-1), 1) := by decide +kernel
theorem dP_count_91 : decode (m_C mP_count) 91 = .ok (.goto 10, 3) := by decide +kernel
theorem dP_count_94 : decode (m_C mP_count) 94 = .ok (.aload_n 0, 1) := by decide +kernel
theorem dP_count_95 : decode (m_C mP_count) 95 = .ok (.getfield 28, 3) := by decide +kernel
theorem dP_count_98 : decode (m_C mP_count) 98 = .ok (.getfield 82, 3) := by decide +kernel
theorem dP_count_101 : decode (m_C mP_count) 101 = .ok (.ireturn, 1) := by decide +kernel
theorem dP_count_102 : decode (m_C mP_count) 102 = .ok (.iconst (-1), 1) := by decide +kernel
theorem dP_count_103 : decode (m_C mP_count) 103 = .ok (.ireturn, 1) := by decide +kernel
theorem dD_depth_0 : decode (m_C mD_depth) 0 = .ok (.iconst 0, 1) := by decide +kernel
theorem dD_depth_1 : decode (m_C mD_depth) 1 = .ok (.istore_n 1, 1) := by decide +kernel
theorem dD_depth_2 : decode (m_C mD_depth) 2 = .ok (.aload_n 0, 1) := by decide +kernel
theorem dD_depth_3 : decode (m_C mD_depth) 3 = .ok (.getfield 24, 3) := by decide +kernel
theorem dD_depth_6 : decode (m_C mD_depth) 6 = .ok (.astore_n 2, 1) := by decide +kernel
theorem dD_depth_7 : decode (m_C mD_depth) 7 = .ok (.aload_n 2, 1) := by decide +kernel
theorem dD_depth_8 : decode (m_C mD_depth) 8 = .ok (.ifnull 14, 3) := by decide +kernel
theorem dD_depth_11 : decode (m_C mD_depth) 11 = .ok (.iinc 1 1, 3) := by decide +kernel
theorem dD_depth_14 : decode (m_C mD_depth) 14 = .ok (.aload_n 2, 1) := by decide +kernel
theorem dD_depth_15 : decode (m_C mD_depth) 15 = .ok (.getfield 24, 3) := by decide +kernel
theorem dD_depth_18 : decode (m_C mD_depth) 18 = .ok (.astore_n 2, 1) := by decide +kernel
theorem dD_depth_19 : decode (m_C mD_depth) 19 = .ok (.goto (-12), 3) := by decide +kernel
theorem dD_depth_22 : decode (m_C mD_depth) 22 = .ok (.iload_n 1, 1) := by decide +kernel
theorem dD_depth_23 : decode (m_C mD_depth) 23 = .ok (.ireturn, 1) := by decide +kernel
theorem dR_init_0 : decode (m_C mR_init) 0 = .ok (.aload_n 0, 1) := by decide +kernel
theorem dR_init_1 : decode (m_C mR_init) 1 = .ok (.invokespecial 1, 3) := by decide +kernel
theorem dR_init_4 : decode (m_C mR_init) 4 = .ok (.aload_n 0, 1) := by decide +kernel
theorem dR_init_5 : decode (m_C mR_init) 5 = .ok (.sipush 250, 3) := by decide +kernel
theorem dR_init_8 : decode (m_C mR_init) 8 = .ok (.newarray .int, 2) := by decide +kernel
theorem dR_init_10 : decode (m_C mR_init) 10 = .ok (.putfield 7, 3) := by decide +kernel
theorem dR_init_13 : decode (m_C mR_init) 13 = .ok (.aload_n 0, 1) := by decide +kernel
theorem dR_init_14 : decode (m_C mR_init) 14 = .ok (.sipush 300, 3) := by decide +kernel
theorem dR_init_17 : decode (m_C mR_init) 17 = .ok (.newarray .int, 2) := by decide +kernel
theorem dR_init_19 : decode (m_C mR_init) 19 = .ok (.putfield 13, 3) := by decide +kernel
theorem dR_init_22 : decode (m_C mR_init) 22 = .ok (.aload_n 0, 1) := by decide +kernel
theorem dR_init_23 : decode (m_C mR_init) 23 = .ok (.sipush 300, 3) := by decide +kernel
theorem dR_init_26 : decode (m_C mR_init) 26 = .ok (.newarray .int, 2) := by decide +kernel
theorem dR_init_28 : decode (m_C mR_init) 28 = .ok (.putfield 16, 3) := by decide +kernel
theorem dR_init_31 : decode (m_C mR_init) 31 = .ok (.aload_n 0, 1) := by decide +kernel
theorem dR_init_32 : decode (m_C mR_init) 32 = .ok (.sipush 300, 3) := by decide +kernel
theorem dR_init_35 : decode (m_C mR_init) 35 = .ok (.newarray .int, 2) := by decide +kernel
theorem dR_init_37 : decode (m_C mR_init) 37 = .ok (.putfield 19, 3) := by decide +kernel
theorem dR_init_40 : decode (m_C mR_init) 40 = .ok (.aload_n 0, 1) := by decide +kernel
theorem dR_init_41 : decode (m_C mR_init) 41 = .ok (.sipush 300, 3) := by decide +kernel
theorem dR_init_44 : decode (m_C mR_init) 44 = .ok (.newarray .int, 2) := by decide +kernel
theorem dR_init_46 : decode (m_C mR_init) 46 = .ok (.putfield 22, 3) := by decide +kernel
theorem dR_init_49 : decode (m_C mR_init) 49 = .ok (.aload_n 0, 1) := by decide +kernel
theorem dR_init_50 : decode (m_C mR_init) 50 = .ok (.sipush 18000, 3) := by decide +kernel
theorem dR_init_53 : decode (m_C mR_init) 53 = .ok (.newarray .int, 2) := by decide +kernel
theorem dR_init_55 : decode (m_C mR_init) 55 = .ok (.putfield 25, 3) := by decide +kernel
theorem dR_init_58 : decode (m_C mR_init) 58 = .ok (.aload_n 0, 1) := by decide +kernel
theorem dR_init_59 : decode (m_C mR_init) 59 = .ok (.iconst 1, 1) := by decide +kernel
theorem dR_init_60 : decode (m_C mR_init) 60 = .ok (.putfield 28, 3) := by decide +kernel
theorem dR_init_63 : decode (m_C mR_init) 63 = .ok (.aload_n 0, 1) := by decide +kernel
theorem dR_init_64 : decode (m_C mR_init) 64 = .ok (.iconst (-1), 1) := by decide +kernel
theorem dR_init_65 : decode (m_C mR_init) 65 = .ok (.putfield 32, 3) := by decide +kernel
theorem dR_init_68 : decode (m_C mR_init) 68 = .ok (.aload_n 0, 1) := by decide +kernel
theorem dR_init_69 : decode (m_C mR_init) 69 = .ok (.ldc 35, 2) := by decide +kernel
theorem dR_init_71 : decode (m_C mR_init) 71 = .ok (.newarray .byte, 2) := by decide +kernel
theorem dR_init_73 : decode (m_C mR_init) 73 = .ok (.putfield 36, 3) := by decide +kernel
theorem dR_init_76 : decode (m_C mR_init) 76 = .ok (.aload_n 0, 1) := by decide +kernel
theorem dR_init_77 : decode (m_C mR_init) 77 = .ok (.ldc 35, 2) := by decide +kernel
theorem dR_init_79 : decode (m_C mR_init) 79 = .ok (.newarray .short, 2) := by decide +kernel
theorem dR_init_81 : decode (m_C mR_init) 81 = .ok (.putfield 40, 3) := by decide +kernel
theorem dR_init_84 : decode (m_C mR_init) 84 = .ok (.aload_n 0, 1) := by decide +kernel
theorem dR_init_85 : decode (m_C mR_init) 85 = .ok (.getfield 13, 3) := by decide +kernel
theorem dR_init_88 : decode (m_C mR_init) 88 = .ok (.iconst 0, 1) := by decide +kernel
theorem dR_init_89 : decode (m_C mR_init) 89 = .ok (.iconst 2, 1) := by decide +kernel
theorem dR_init_90 : decode (m_C mR_init) 90 = .ok (.iastore, 1) := by decide +kernel
theorem dR_init_91 : decode (m_C mR_init) 91 = .ok (.return_, 1) := by decide +kernel
theorem dR_path_0 : decode (m_C mR_path) 0 = .ok (.iload_n 3, 1) := by decide +kernel
theorem dR_path_1 : decode (m_C mR_path) 1 = .ok (.ifCond .lt 21, 3) := by decide +kernel
theorem dR_path_4 : decode (m_C mR_path) 4 = .ok (.iload_n 3, 1) := by decide +kernel
theorem dR_path_5 : decode (m_C mR_path) 5 = .ok (.bipush 8, 2) := by decide +kernel
theorem dR_path_7 : decode (m_C mR_path) 7 = .ok (.if_icmp .gt 15, 3) := by decide +kernel
theorem dR_path_10 : decode (m_C mR_path) 10 = .ok (.aload_n 0, 1) := by decide +kernel
theorem dR_path_11 : decode (m_C mR_path) 11 = .ok (.getfield 44, 3) := by decide +kernel
theorem dR_path_14 : decode (m_C mR_path) 14 = .ok (.iload_n 3, 1) := by decide +kernel
theorem dR_path_15 : decode (m_C mR_path) 15 = .ok (.iadd, 1) := by decide +kernel
theorem dR_path_16 : decode (m_C mR_path) 16 = .ok (.sipush 250, 3) := by decide +kernel
theorem dR_path_19 : decode (m_C mR_path) 19 = .ok (.if_icmp .le 5, 3) := by decide +kernel
theorem dR_path_22 : decode (m_C mR_path) 22 = .ok (.iconst (-1), 1) := by decide +kernel
theorem dR_path_23 : decode (m_C mR_path) 23 = .ok (.ireturn, 1) := by decide +kernel
theorem dR_path_24 : decode (m_C mR_path) 24 = .ok (.iconst 0, 1) := by decide +kernel
theorem dR_path_25 : decode (m_C mR_path) 25 = .ok (.istore 4, 2) := by decide +kernel
theorem dR_path_27 : decode (m_C mR_path) 27 = .ok (.iload 4, 2) := by decide +kernel
theorem dR_path_29 : decode (m_C mR_path) 29 = .ok (.iload_n 3, 1) := by decide +kernel
theorem dR_path_30 : decode (m_C mR_path) 30 = .ok (.if_icmp .ge 53, 3) := by decide +kernel
theorem dR_path_33 : decode (m_C mR_path) 33 = .ok (.lload_n 1, 1) := by decide +kernel
theorem dR_path_34 : decode (m_C mR_path) 34 = .ok (.bipush 8, 2) := by decide +kernel
theorem dR_path_36 : decode (m_C mR_path) 36 = .ok (.iload 4, 2) := by decide +kernel
theorem dR_path_38 : decode (m_C mR_path) 38 = .ok (.imul, 1) := by decide +kernel
theorem dR_path_39 : decode (m_C mR_path) 39 = .ok (.lshr, 1) := by decide +kernel
theorem dR_path_40 : decode (m_C mR_path) 40 = .ok (.l2i, 1) := by decide +kernel
theorem dR_path_41 : decode (m_C mR_path) 41 = .ok (.sipush 255, 3) := by decide +kernel
theorem dR_path_44 : decode (m_C mR_path) 44 = .ok (.iand, 1) := by decide +kernel
theorem dR_path_45 : decode (m_C mR_path) 45 = .ok (.istore 5, 2) := by decide +kernel
theorem dR_path_47 : decode (m_C mR_path) 47 = .ok (.iload 5, 2) := by decide +kernel
theorem dR_path_49 : decode (m_C mR_path) 49 = .ok (.bipush 9, 2) := by decide +kernel
theorem dR_path_51 : decode (m_C mR_path) 51 = .ok (.if_icmp .eq 26, 3) := by decide +kernel
theorem dR_path_54 : decode (m_C mR_path) 54 = .ok (.iload 5, 2) := by decide +kernel
theorem dR_path_56 : decode (m_C mR_path) 56 = .ok (.bipush 10, 2) := by decide +kernel
theorem dR_path_58 : decode (m_C mR_path) 58 = .ok (.if_icmp .eq 19, 3) := by decide +kernel
theorem dR_path_61 : decode (m_C mR_path) 61 = .ok (.iload 5, 2) := by decide +kernel
theorem dR_path_63 : decode (m_C mR_path) 63 = .ok (.bipush 32, 2) := by decide +kernel
theorem dR_path_65 : decode (m_C mR_path) 65 = .ok (.if_icmp .lt 10, 3) := by decide +kernel
theorem dR_path_68 : decode (m_C mR_path) 68 = .ok (.iload 5, 2) := by decide +kernel
theorem dR_path_70 : decode (m_C mR_path) 70 = .ok (.bipush 126, 2) := by decide +kernel
theorem dR_path_72 : decode (m_C mR_path) 72 = .ok (.if_icmp .le 5, 3) := by decide +kernel
theorem dR_path_75 : decode (m_C mR_path) 75 = .ok (.iconst (-1), 1) := by decide +kernel
theorem dR_path_76 : decode (m_C mR_path) 76 = .ok (.ireturn, 1) := by decide +kernel
theorem dR_path_77 : decode (m_C mR_path) 77 = .ok (.iinc 4 1, 3) := by decide +kernel
theorem dR_path_80 : decode (m_C mR_path) 80 = .ok (.goto (-53), 3) := by decide +kernel
theorem dR_path_83 : decode (m_C mR_path) 83 = .ok (.iload_n 3, 1) := by decide +kernel
theorem dR_path_84 : decode (m_C mR_path) 84 = .ok (.iconst 1, 1) := by decide +kernel
theorem dR_path_85 : decode (m_C mR_path) 85 = .ok (.isub, 1) := by decide +kernel
theorem dR_path_86 : decode (m_C mR_path) 86 = .ok (.istore 4, 2) := by decide +kernel
theorem dR_path_88 : decode (m_C mR_path) 88 = .ok (.iload 4, 2) := by decide +kernel
theorem dR_path_90 : decode (m_C mR_path) 90 = .ok (.ifCond .lt 40, 3) := by decide +kernel
theorem dR_path_93 : decode (m_C mR_path) 93 = .ok (.aload_n 0, 1) := by decide +kernel
theorem dR_path_94 : decode (m_C mR_path) 94 = .ok (.getfield 7, 3) := by decide +kernel
theorem dR_path_97 : decode (m_C mR_path) 97 = .ok (.aload_n 0, 1) := by decide +kernel
theorem dR_path_98 : decode (m_C mR_path) 98 = .ok (.getfield 44, 3) := by decide +kernel
theorem dR_path_101 : decode (m_C mR_path) 101 = .ok (.lload_n 1, 1) := by decide +kernel
theorem dR_path_102 : decode (m_C mR_path) 102 = .ok (.bipush 8, 2) := by decide +kernel
theorem dR_path_104 : decode (m_C mR_path) 104 = .ok (.iload 4, 2) := by decide +kernel
theorem dR_path_106 : decode (m_C mR_path) 106 = .ok (.imul, 1) := by decide +kernel
theorem dR_path_107 : decode (m_C mR_path) 107 = .ok (.lshr, 1) := by decide +kernel
theorem dR_path_108 : decode (m_C mR_path) 108 = .ok (.l2i, 1) := by decide +kernel
theorem dR_path_109 : decode (m_C mR_path) 109 = .ok (.sipush 255, 3) := by decide +kernel
theorem dR_path_112 : decode (m_C mR_path) 112 = .ok (.iand, 1) := by decide +kernel
theorem dR_path_113 : decode (m_C mR_path) 113 = .ok (.iastore, 1) := by decide +kernel
theorem dR_path_114 : decode (m_C mR_path) 114 = .ok (.aload_n 0, 1) := by decide +kernel
theorem dR_path_115 : decode (m_C mR_path) 115 = .ok (.dup, 1) := by decide +kernel
theorem dR_path_116 : decode (m_C mR_path) 116 = .ok (.getfield 44, 3) := by decide +kernel
theorem dR_path_119 : decode (m_C mR_path) 119 = .ok (.iconst 1, 1) := by decide +kernel
theorem dR_path_120 : decode (m_C mR_path) 120 = .ok (.iadd, 1) := by decide +kernel
theorem dR_path_121 : decode (m_C mR_path) 121 = .ok (.putfield 44, 3) := by decide +kernel
theorem dR_path_124 : decode (m_C mR_path) 124 = .ok (.iinc 4 (-1), 3) := by decide +kernel
theorem dR_path_127 : decode (m_C mR_path) 127 = .ok (.goto (-39), 3) := by decide +kernel
theorem dR_path_130 : decode (m_C mR_path) 130 = .ok (.aload_n 0, 1) := by decide +kernel
theorem dR_path_131 : decode (m_C mR_path) 131 = .ok (.getfield 44, 3) := by decide +kernel
theorem dR_path_134 : decode (m_C mR_path) 134 = .ok (.ireturn, 1) := by decide +kernel
theorem dR_find_0 : decode (m_C mR_find) 0 = .ok (.aload_n 0, 1) := by decide +kernel
theorem dR_find_1 : decode (m_C mR_find) 1 = .ok (.aload_n 0, 1) := by decide +kernel
theorem dR_find_2 : decode (m_C mR_find) 2 = .ok (.getfield 44, 3) := by decide +kernel
theorem dR_find_5 : decode (m_C mR_find) 5 = .ok (.invokevirtual 65, 3) := by decide +kernel
theorem dR_find_8 : decode (m_C mR_find) 8 = .ok (.istore_n 1, 1) := by decide +kernel
theorem dR_find_9 : decode (m_C mR_find) 9 = .ok (.aload_n 0, 1) := by decide +kernel
theorem dR_find_10 : decode (m_C mR_find) 10 = .ok (.iconst 0, 1) := by decide +kernel
theorem dR_find_11 : decode (m_C mR_find) 11 = .ok (.putfield 44, 3) := by decide +kernel
theorem dR_find_14 : decode (m_C mR_find) 14 = .ok (.iload_n 1, 1) := by decide +kernel
theorem dR_find_15 : decode (m_C mR_find) 15 = .ok (.ifCond .ge 7, 3) := by decide +kernel
theorem dR_find_18 : decode (m_C mR_find) 18 = .ok (.iconst 0, 1) := by decide +kernel
theorem dR_find_19 : decode (m_C mR_find) 19 = .ok (.goto 9, 3) := by decide +kernel
theorem dR_find_22 : decode (m_C mR_find) 22 = .ok (.aload_n 0, 1) := by decide +kernel
theorem dR_find_23 : decode (m_C mR_find) 23 = .ok (.getfield 13, 3) := by decide +kernel
theorem dR_find_26 : decode (m_C mR_find) 26 = .ok (.iload_n 1, 1) := by decide +kernel
theorem dR_find_27 : decode (m_C mR_find) 27 = .ok (.iaload, 1) := by decide +kernel
theorem dR_find_28 : decode (m_C mR_find) 28 = .ok (.ireturn, 1) := by decide +kernel
theorem dR_lead_0 : decode (m_C mR_lead) 0 = .ok (.iload_n 1, 1) := by decide +kernel
theorem dR_lead_1 : decode (m_C mR_lead) 1 = .ok (.ifCond .ne 5, 3) := by decide +kernel
theorem dR_lead_4 : decode (m_C mR_lead) 4 = .ok (.iconst (-1), 1) := by decide +kernel
theorem dR_lead_5 : decode (m_C mR_lead) 5 = .ok (.ireturn, 1) := by decide +kernel
theorem dR_lead_6 : decode (m_C mR_lead) 6 = .ok (.aload_n 0, 1) := by decide +kernel
theorem dR_lead_7 : decode (m_C mR_lead) 7 = .ok (.getfield 7, 3) := by decide +kernel
theorem dR_lead_10 : decode (m_C mR_lead) 10 = .ok (.iconst 0, 1) := by decide +kernel
theorem dR_lead_11 : decode (m_C mR_lead) 11 = .ok (.iaload, 1) := by decide +kernel
theorem dR_lead_12 : decode (m_C mR_lead) 12 = .ok (.bipush 47, 2) := by decide +kernel
theorem dR_lead_14 : decode (m_C mR_lead) 14 = .ok (.if_icmp .ne 7, 3) := by decide +kernel
theorem dR_lead_17 : decode (m_C mR_lead) 17 = .ok (.iconst 0, 1) := by decide +kernel
theorem dR_lead_18 : decode (m_C mR_lead) 18 = .ok (.goto 7, 3) := by decide +kernel
theorem dR_lead_21 : decode (m_C mR_lead) 21 = .ok (.aload_n 0, 1) := by decide +kernel
theorem dR_lead_22 : decode (m_C mR_lead) 22 = .ok (.getfield 55, 3) := by decide +kernel
theorem dR_lead_25 : decode (m_C mR_lead) 25 = .ok (.istore_n 2, 1) := by decide +kernel
theorem dR_lead_26 : decode (m_C mR_lead) 26 = .ok (.iconst 0, 1) := by decide +kernel
theorem dR_lead_27 : decode (m_C mR_lead) 27 = .ok (.istore_n 3, 1) := by decide +kernel
theorem dR_lead_28 : decode (m_C mR_lead) 28 = .ok (.iload_n 3, 1) := by decide +kernel
theorem dR_lead_29 : decode (m_C mR_lead) 29 = .ok (.iload_n 1, 1) := by decide +kernel
theorem dR_lead_30 : decode (m_C mR_lead) 30 = .ok (.if_icmp .gt 51, 3) := by decide +kernel
theorem dR_lead_33 : decode (m_C mR_lead) 33 = .ok (.iload_n 2, 1) := by decide +kernel
theorem dR_lead_34 : decode (m_C mR_lead) 34 = .ok (.ifCond .lt 47, 3) := by decide +kernel
theorem dR_lead_37 : decode (m_C mR_lead) 37 = .ok (.iload_n 3, 1) := by decide +kernel
theorem dR_lead_38 : decode (m_C mR_lead) 38 = .ok (.istore 4, 2) := by decide +kernel
theorem dR_lead_40 : decode (m_C mR_lead) 40 = .ok (.iload 4, 2) := by decide +kernel
theorem dR_lead_42 : decode (m_C mR_lead) 42 = .ok (.iload_n 1, 1) := by decide +kernel
theorem dR_lead_43 : decode (m_C mR_lead) 43 = .ok (.if_icmp .ge 21, 3) := by decide +kernel
theorem dR_lead_46 : decode (m_C mR_lead) 46 = .ok (.aload_n 0, 1) := by decide +kernel
theorem dR_lead_47 : decode (m_C mR_lead) 47 = .ok (.getfield 7, 3) := by decide +kernel
theorem dR_lead_50 : decode (m_C mR_lead) 50 = .ok (.iload 4, 2) := by decide +kernel
theorem dR_lead_52 : decode (m_C mR_lead) 52 = .ok (.iaload, 1) := by decide +kernel
theorem dR_lead_53 : decode (m_C mR_lead) 53 = .ok (.bipush 47, 2) := by decide +kernel
theorem dR_lead_55 : decode (m_C mR_lead) 55 = .ok (.if_icmp .eq 9, 3) := by decide +kernel
theorem dR_lead_58 : decode (m_C mR_lead) 58 = .ok (.iinc 4 1, 3) := by decide +kernel
theorem dR_lead_61 : decode (m_C mR_lead) 61 = .ok (.goto (-21), 3) := by decide +kernel
theorem dR_lead_64 : decode (m_C mR_lead) 64 = .ok (.aload_n 0, 1) := by decide +kernel
theorem dR_lead_65 : decode (m_C mR_lead) 65 = .ok (.iload_n 2, 1) := by decide +kernel
theorem dR_lead_66 : decode (m_C mR_lead) 66 = .ok (.iload_n 3, 1) := by decide +kernel
theorem dR_lead_67 : decode (m_C mR_lead) 67 = .ok (.iload 4, 2) := by decide +kernel
theorem dR_lead_69 : decode (m_C mR_lead) 69 = .ok (.invokevirtual 58, 3) := by decide +kernel
theorem dR_lead_72 : decode (m_C mR_lead) 72 = .ok (.istore_n 2, 1) := by decide +kernel
theorem dR_lead_73 : decode (m_C mR_lead) 73 = .ok (.iload 4, 2) := by decide +kernel
theorem dR_lead_75 : decode (m_C mR_lead) 75 = .ok (.iconst 1, 1) := by decide +kernel
theorem dR_lead_76 : decode (m_C mR_lead) 76 = .ok (.iadd, 1) := by decide +kernel
theorem dR_lead_77 : decode (m_C mR_lead) 77 = .ok (.istore_n 3, 1) := by decide +kernel
theorem dR_lead_78 : decode (m_C mR_lead) 78 = .ok (.goto (-50), 3) := by decide +kernel
theorem dR_lead_81 : decode (m_C mR_lead) 81 = .ok (.iload_n 2, 1) := by decide +kernel
theorem dR_lead_82 : decode (m_C mR_lead) 82 = .ok (.ifCond .lt 30, 3) := by decide +kernel
theorem dR_lead_85 : decode (m_C mR_lead) 85 = .ok (.aload_n 0, 1) := by decide +kernel
theorem dR_lead_86 : decode (m_C mR_lead) 86 = .ok (.getfield 7, 3) := by decide +kernel
theorem dR_lead_89 : decode (m_C mR_lead) 89 = .ok (.iload_n 1, 1) := by decide +kernel
theorem dR_lead_90 : decode (m_C mR_lead) 90 = .ok (.iconst 1, 1) := by decide +kernel
theorem dR_lead_91 : decode (m_C mR_lead) 91 = .ok (.isub, 1) := by decide +kernel
theorem dR_lead_92 : decode (m_C mR_lead) 92 = .ok (.iaload, 1) := by decide +kernel
theorem dR_lead_93 : decode (m_C mR_lead) 93 = .ok (.bipush 47, 2) := by decide +kernel
theorem dR_lead_95 : decode (m_C mR_lead) 95 = .ok (.if_icmp .ne 17, 3) := by decide +kernel
theorem dR_lead_98 : decode (m_C mR_lead) 98 = .ok (.aload_n 0, 1) := by decide +kernel
theorem dR_lead_99 : decode (m_C mR_lead) 99 = .ok (.getfield 13, 3) := by decide +kernel
theorem dR_lead_102 : decode (m_C mR_lead) 102 = .ok (.iload_n 2, 1) := by decide +kernel
theorem dR_lead_103 : decode (m_C mR_lead) 103 = .ok (.iaload, 1) := by decide +kernel
theorem dR_lead_104 : decode (m_C mR_lead) 104 = .ok (.iconst 2, 1) := by decide +kernel
theorem dR_lead_105 : decode (m_C mR_lead) 105 = .ok (.if_icmp .eq 7, 3) := by decide +kernel
theorem dR_lead_108 : decode (m_C mR_lead) 108 = .ok (.iconst (-1), 1) := by decide +kernel
theorem dR_lead_109 : decode (m_C mR_lead) 109 = .ok (.goto 4, 3) := by decide +kernel
theorem dR_lead_112 : decode (m_C mR_lead) 112 = .ok (.iload_n 2, 1) := by decide +kernel
theorem dR_lead_113 : decode (m_C mR_lead) 113 = .ok (.ireturn, 1) := by decide +kernel
theorem dR_along_0 : decode (m_C mR_along) 0 = .ok (.iload_n 2, 1) := by decide +kernel
theorem dR_along_1 : decode (m_C mR_along) 1 = .ok (.iload_n 3, 1) := by decide +kernel
theorem dR_along_2 : decode (m_C mR_along) 2 = .ok (.if_icmp .ne 5, 3) := by decide +kernel
theorem dR_along_5 : decode (m_C mR_along) 5 = .ok (.iload_n 1, 1) := by decide +kernel
theorem dR_along_6 : decode (m_C mR_along) 6 = .ok (.ireturn, 1) := by decide +kernel
theorem dR_along_7 : decode (m_C mR_along) 7 = .ok (.aload_n 0, 1) := by decide +kernel
theorem dR_along_8 : decode (m_C mR_along) 8 = .ok (.getfield 13, 3) := by decide +kernel
theorem dR_along_11 : decode (m_C mR_along) 11 = .ok (.iload_n 1, 1) := by decide +kernel
theorem dR_along_12 : decode (m_C mR_along) 12 = .ok (.iaload, 1) := by decide +kernel
theorem dR_along_13 : decode (m_C mR_along) 13 = .ok (.iconst 2, 1) := by decide +kernel
theorem dR_along_14 : decode (m_C mR_along) 14 = .ok (.if_icmp .eq 5, 3) := by decide +kernel
theorem dR_along_17 : decode (m_C mR_along) 17 = .ok (.iconst (-1), 1) := by decide +kernel
theorem dR_along_18 : decode (m_C mR_along) 18 = .ok (.ireturn, 1) := by decide +kernel
theorem dR_along_19 : decode (m_C mR_along) 19 = .ok (.aload_n 0, 1) := by decide +kernel
theorem dR_along_20 : decode (m_C mR_along) 20 = .ok (.iload_n 2, 1) := by decide +kernel
theorem dR_along_21 : decode (m_C mR_along) 21 = .ok (.iload_n 3, 1) := by decide +kernel
theorem dR_along_22 : decode (m_C mR_along) 22 = .ok (.iconst 1, 1) := by decide +kernel
theorem dR_along_23 : decode (m_C mR_along) 23 = .ok (.invokevirtual 47, 3) := by decide +kernel
theorem dR_along_26 : decode (m_C mR_along) 26 = .ok (.ifCond .eq 5, 3) := by decide +kernel
theorem dR_along_29 : decode (m_C mR_along) 29 = .ok (.iload_n 1, 1) := by decide +kernel
theorem dR_along_30 : decode (m_C mR_along) 30 = .ok (.ireturn, 1) := by decide +kernel
theorem dR_along_31 : decode (m_C mR_along) 31 = .ok (.aload_n 0, 1) := by decide +kernel
theorem dR_along_32 : decode (m_C mR_along) 32 = .ok (.iload_n 2, 1) := by decide +kernel
theorem dR_along_33 : decode (m_C mR_along) 33 = .ok (.iload_n 3, 1) := by decide +kernel
theorem dR_along_34 : decode (m_C mR_along) 34 = .ok (.iconst 2, 1) := by decide +kernel
theorem dR_along_35 : decode (m_C mR_along) 35 = .ok (.invokevirtual 47, 3) := by decide +kernel
theorem dR_along_38 : decode (m_C mR_along) 38 = .ok (.ifCond .eq 12, 3) := by decide +kernel
theorem dR_along_41 : decode (m_C mR_along) 41 = .ok (.aload_n 0, 1) := by decide +kernel
theorem dR_along_42 : decode (m_C mR_along) 42 = .ok (.getfield 16, 3) := by decide +kernel
theorem dR_along_45 : decode (m_C mR_along) 45 = .ok (.iload_n 1, 1) := by decide +kernel
theorem dR_along_46 : decode (m_C mR_along) 46 = .ok (.iaload, 1) := by decide +kernel
theorem dR_along_47 : decode (m_C mR_along) 47 = .ok (.goto 10, 3) := by decide +kernel
theorem dR_along_50 : decode (m_C mR_along) 50 = .ok (.aload_n 0, 1) := by decide +kernel
theorem dR_along_51 : decode (m_C mR_along) 51 = .ok (.iload_n 1, 1) := by decide +kernel
theorem dR_along_52 : decode (m_C mR_along) 52 = .ok (.iload_n 2, 1) := by decide +kernel
theorem dR_along_53 : decode (m_C mR_along) 53 = .ok (.iload_n 3, 1) := by decide +kernel
theorem dR_along_54 : decode (m_C mR_along) 54 = .ok (.invokevirtual 51, 3) := by decide +kernel
theorem dR_along_57 : decode (m_C mR_along) 57 = .ok (.ireturn, 1) := by decide +kernel
theorem dR_isDots_0 : decode (m_C mR_isDots) 0 = .ok (.iload_n 2, 1) := by decide +kernel
theorem dR_isDots_1 : decode (m_C mR_isDots) 1 = .ok (.iload_n 1, 1) := by decide +kernel
theorem dR_isDots_2 : decode (m_C mR_isDots) 2 = .ok (.isub, 1) := by decide +kernel
theorem dR_isDots_3 : decode (m_C mR_isDots) 3 = .ok (.iload_n 3, 1) := by decide +kernel
theorem dR_isDots_4 : decode (m_C mR_isDots) 4 = .ok (.if_icmp .ne 7, 3) := by decide +kernel
theorem dR_isDots_7 : decode (m_C mR_isDots) 7 = .ok (.iconst 1, 1) := by decide +kernel
theorem dR_isDots_8 : decode (m_C mR_isDots) 8 = .ok (.goto 4, 3) := by decide +kernel
theorem dR_isDots_11 : decode (m_C mR_isDots) 11 = .ok (.iconst 0, 1) := by decide +kernel
theorem dR_isDots_12 : decode (m_C mR_isDots) 12 = .ok (.istore 4, 2) := by decide +kernel
theorem dR_isDots_14 : decode (m_C mR_isDots) 14 = .ok (.iload_n 1, 1) := by decide +kernel
theorem dR_isDots_15 : decode (m_C mR_isDots) 15 = .ok (.istore 5, 2) := by decide +kernel
theorem dR_isDots_17 : decode (m_C mR_isDots) 17 = .ok (.iload 5, 2) := by decide +kernel
theorem dR_isDots_19 : decode (m_C mR_isDots) 19 = .ok (.iload_n 2, 1) := by decide +kernel
theorem dR_isDots_20 : decode (m_C mR_isDots) 20 = .ok (.if_icmp .ge 33, 3) := by decide +kernel
theorem dR_isDots_23 : decode (m_C mR_isDots) 23 = .ok (.iload 4, 2) := by decide +kernel
theorem dR_isDots_25 : decode (m_C mR_isDots) 25 = .ok (.ifCond .eq 19, 3) := by decide +kernel
theorem dR_isDots_28 : decode (m_C mR_isDots) 28 = .ok (.aload_n 0, 1) := by decide +kernel
theorem dR_isDots_29 : decode (m_C mR_isDots) 29 = .ok (.getfield 7, 3) := by decide +kernel
theorem dR_isDots_32 : decode (m_C mR_isDots) 32 = .ok (.iload 5, 2) := by decide +kernel
theorem dR_isDots_34 : decode (m_C mR_isDots) 34 = .ok (.iaload, 1) := by decide +kernel
theorem dR_isDots_35 : decode (m_C mR_isDots) 35 = .ok (.bipush 46, 2) := by decide +kernel
theorem dR_isDots_37 : decode (m_C mR_isDots) 37 = .ok (.if_icmp .ne 7, 3) := by decide +kernel
theorem dR_isDots_40 : decode (m_C mR_isDots) 40 = .ok (.iconst 1, 1) := by decide +kernel
theorem dR_isDots_41 : decode (m_C mR_isDots) 41 = .ok (.goto 4, 3) := by decide +kernel
theorem dR_isDots_44 : decode (m_C mR_isDots) 44 = .ok (.iconst 0, 1) := by decide +kernel
theorem dR_isDots_45 : decode (m_C mR_isDots) 45 = .ok (.istore 4, 2) := by decide +kernel
theorem dR_isDots_47 : decode (m_C mR_isDots) 47 = .ok (.iinc 5 1, 3) := by decide +kernel
theorem dR_isDots_50 : decode (m_C mR_isDots) 50 = .ok (.goto (-33), 3) := by decide +kernel
theorem dR_isDots_53 : decode (m_C mR_isDots) 53 = .ok (.iload 4, 2) := by decide +kernel
theorem dR_isDots_55 : decode (m_C mR_isDots) 55 = .ok (.ireturn, 1) := by decide +kernel
theorem dR_entry_0 : decode (m_C mR_entry) 0 = .ok (.iconst 1, 1) := by decide +kernel
theorem dR_entry_1 : decode (m_C mR_entry) 1 = .ok (.istore 4, 2) := by decide +kernel
theorem dR_entry_3 : decode (m_C mR_entry) 3 = .ok (.iload 4, 2) := by decide +kernel
theorem dR_entry_5 : decode (m_C mR_entry) 5 = .ok (.sipush 300, 3) := by decide +kernel
theorem dR_entry_8 : decode (m_C mR_entry) 8 = .ok (.if_icmp .ge 110, 3) := by decide +kernel
theorem dR_entry_11 : decode (m_C mR_entry) 11 = .ok (.aload_n 0, 1) := by decide +kernel
theorem dR_entry_12 : decode (m_C mR_entry) 12 = .ok (.getfield 13, 3) := by decide +kernel
theorem dR_entry_15 : decode (m_C mR_entry) 15 = .ok (.iload 4, 2) := by decide +kernel
theorem dR_entry_17 : decode (m_C mR_entry) 17 = .ok (.iaload, 1) := by decide +kernel
theorem dR_entry_18 : decode (m_C mR_entry) 18 = .ok (.ifCond .eq 31, 3) := by decide +kernel
theorem dR_entry_21 : decode (m_C mR_entry) 21 = .ok (.aload_n 0, 1) := by decide +kernel
theorem dR_entry_22 : decode (m_C mR_entry) 22 = .ok (.getfield 16, 3) := by decide +kernel
theorem dR_entry_25 : decode (m_C mR_entry) 25 = .ok (.iload 4, 2) := by decide +kernel
theorem dR_entry_27 : decode (m_C mR_entry) 27 = .ok (.iaload, 1) := by decide +kernel
theorem dR_entry_28 : decode (m_C mR_entry) 28 = .ok (.iload_n 1, 1) := by decide +kernel
theorem dR_entry_29 : decode (m_C mR_entry) 29 = .ok (.if_icmp .ne 20, 3) := by decide +kernel
theorem dR_entry_32 : decode (m_C mR_entry) 32 = .ok (.aload_n 0, 1) := by decide +kernel
theorem dR_entry_33 : decode (m_C mR_entry) 33 = .ok (.getfield 22, 3) := by decide +kernel
theorem dR_entry_36 : decode (m_C mR_entry) 36 = .ok (.iload 4, 2) := by decide +kernel
theorem dR_entry_38 : decode (m_C mR_entry) 38 = .ok (.iaload, 1) := by decide +kernel
theorem dR_entry_39 : decode (m_C mR_entry) 39 = .ok (.iload_n 3, 1) := by decide +kernel
theorem dR_entry_40 : decode (m_C mR_entry) 40 = .ok (.iload_n 2, 1) := by decide +kernel
theorem dR_entry_41 : decode (m_C mR_entry) 41 = .ok (.isub, 1) := by decide +kernel
theorem dR_entry_42 : decode (m_C mR_entry) 42 = .ok (.if_icmp .ne 7, 3) := by decide +kernel
theorem dR_entry_45 : decode (m_C mR_entry) 45 = .ok (.iconst 1, 1) := by decide +kernel
theorem dR_entry_46 : decode (m_C mR_entry) 46 = .ok (.goto 4, 3) := by decide +kernel
theorem dR_entry_49 : decode (m_C mR_entry) 49 = .ok (.iconst 0, 1) := by decide +kernel
theorem dR_entry_50 : decode (m_C mR_entry) 50 = .ok (.istore 5, 2) := by decide +kernel
theorem dR_entry_52 : decode (m_C mR_entry) 52 = .ok (.iload_n 2, 1) := by decide +kernel
theorem dR_entry_53 : decode (m_C mR_entry) 53 = .ok (.istore 6, 2) := by decide +kernel
theorem dR_entry_55 : decode (m_C mR_entry) 55 = .ok (.iload 6, 2) := by decide +kernel
theorem dR_entry_57 : decode (m_C mR_entry) 57 = .ok (.iload_n 3, 1) := by decide +kernel
theorem dR_entry_58 : decode (m_C mR_entry) 58 = .ok (.if_icmp .ge 46, 3) := by decide +kernel
theorem dR_entry_61 : decode (m_C mR_entry) 61 = .ok (.iload 5, 2) := by decide +kernel
theorem dR_entry_63 : decode (m_C mR_entry) 63 = .ok (.ifCond .eq 41, 3) := by decide +kernel
theorem dR_entry_66 : decode (m_C mR_entry) 66 = .ok (.aload_n 0, 1) := by decide +kernel
theorem dR_entry_67 : decode (m_C mR_entry) 67 = .ok (.getfield 25, 3) := by decide +kernel
theorem dR_entry_70 : decode (m_C mR_entry) 70 = .ok (.bipush 60, 2) := by decide +kernel
theorem dR_entry_72 : decode (m_C mR_entry) 72 = .ok (.iload 4, 2) := by decide +kernel
theorem dR_entry_74 : decode (m_C mR_entry) 74 = .ok (.imul, 1) := by decide +kernel
theorem dR_entry_75 : decode (m_C mR_entry) 75 = .ok (.iload 6, 2) := by decide +kernel
theorem dR_entry_77 : decode (m_C mR_entry) 77 = .ok (.iadd, 1) := by decide +kernel
theorem dR_entry_78 : decode (m_C mR_entry) 78 = .ok (.iload_n 2, 1) := by decide +kernel
theorem dR_entry_79 : decode (m_C mR_entry) 79 = .ok (.isub, 1) := by decide +kernel
theorem dR_entry_80 : decode (m_C mR_entry) 80 = .ok (.iaload, 1) := by decide +kernel
theorem dR_entry_81 : decode (m_C mR_entry) 81 = .ok (.aload_n 0, 1) := by decide +kernel
theorem dR_entry_82 : decode (m_C mR_entry) 82 = .ok (.getfield 7, 3) := by decide +kernel
theorem dR_entry_85 : decode (m_C mR_entry) 85 = .ok (.iload 6, 2) := by decide +kernel
theorem dR_entry_87 : decode (m_C mR_entry) 87 = .ok (.iaload, 1) := by decide +kernel
theorem dR_entry_88 : decode (m_C mR_entry) 88 = .ok (.if_icmp .ne 7, 3) := by decide +kernel
theorem dR_entry_91 : decode (m_C mR_entry) 91 = .ok (.iconst 1, 1) := by decide +kernel
theorem dR_entry_92 : decode (m_C mR_entry) 92 = .ok (.goto 4, 3) := by decide +kernel
theorem dR_entry_95 : decode (m_C mR_entry) 95 = .ok (.iconst 0, 1) := by decide +kernel
theorem dR_entry_96 : decode (m_C mR_entry) 96 = .ok (.istore 5, 2) := by decide +kernel
theorem dR_entry_98 : decode (m_C mR_entry) 98 = .ok (.iinc 6 1, 3) := by decide +kernel
theorem dR_entry_101 : decode (m_C mR_entry) 101 = .ok (.goto (-46), 3) := by decide +kernel
theorem dR_entry_104 : decode (m_C mR_entry) 104 = .ok (.iload 5, 2) := by decide +kernel
theorem dR_entry_106 : decode (m_C mR_entry) 106 = .ok (.ifCond .eq 6, 3) := by decide +kernel
theorem dR_entry_109 : decode (m_C mR_entry) 109 = .ok (.iload 4, 2) := by decide +kernel
theorem dR_entry_111 : decode (m_C mR_entry) 111 = .ok (.ireturn, 1) := by decide +kernel
theorem dR_entry_112 : decode (m_C mR_entry) 112 = .ok (.iinc 4 1, 3) := by decide +kernel
theorem dR_entry_115 : decode (m_C mR_entry) 115 = .ok (.goto (-112), 3) := by decide +kernel
theorem dR_entry_118 : decode (m_C mR_entry) 118 = .ok (.iconst (-1), 1) := by decide +kernel
theorem dR_entry_119 : decode (m_C mR_entry) 119 = .ok (.ireturn, 1) := by decide +kernel
theorem dR_make_0 : decode (m_C mR_make) 0 = .ok (.aload_n 0, 1) := by decide +kernel
theorem dR_make_1 : decode (m_C mR_make) 1 = .ok (.aload_n 0, 1) := by decide +kernel
theorem dR_make_2 : decode (m_C mR_make) 2 = .ok (.getfield 44, 3) := by decide +kernel
theorem dR_make_5 : decode (m_C mR_make) 5 = .ok (.invokevirtual 65, 3) := by decide +kernel
theorem dR_make_8 : decode (m_C mR_make) 8 = .ok (.ifCond .ge 15, 3) := by decide +kernel
theorem dR_make_11 : decode (m_C mR_make) 11 = .ok (.aload_n 0, 1) := by decide +kernel
theorem dR_make_12 : decode (m_C mR_make) 12 = .ok (.iconst 2, 1) := by decide +kernel
theorem dR_make_13 : decode (m_C mR_make) 13 = .ok (.invokevirtual 80, 3) := by decide +kernel
theorem dR_make_16 : decode (m_C mR_make) 16 = .ok (.ifCond .lt 7, 3) := by decide +kernel
theorem dR_make_19 : decode (m_C mR_make) 19 = .ok (.iconst 1, 1) := by decide +kernel
theorem dR_make_20 : decode (m_C mR_make) 20 = .ok (.goto 4, 3) := by decide +kernel
theorem dR_make_23 : decode (m_C mR_make) 23 = .ok (.iconst 0, 1) := by decide +kernel
theorem dR_make_24 : decode (m_C mR_make) 24 = .ok (.istore_n 1, 1) := by decide +kernel
theorem dR_make_25 : decode (m_C mR_make) 25 = .ok (.aload_n 0, 1) := by decide +kernel
theorem dR_make_26 : decode (m_C mR_make) 26 = .ok (.iconst 0, 1) := by decide +kernel
theorem dR_make_27 : decode (m_C mR_make) 27 = .ok (.putfield 44, 3) := by decide +kernel
theorem dR_make_30 : decode (m_C mR_make) 30 = .ok (.iload_n 1, 1) := by decide +kernel
theorem dR_make_31 : decode (m_C mR_make) 31 = .ok (.ireturn, 1) := by decide +kernel
theorem dR_made_0 : decode (m_C mR_made) 0 = .ok (.aload_n 0, 1) := by decide +kernel
theorem dR_made_1 : decode (m_C mR_made) 1 = .ok (.invokevirtual 69, 3) := by decide +kernel
theorem dR_made_4 : decode (m_C mR_made) 4 = .ok (.istore_n 2, 1) := by decide +kernel
theorem dR_made_5 : decode (m_C mR_made) 5 = .ok (.iload_n 2, 1) := by decide +kernel
theorem dR_made_6 : decode (m_C mR_made) 6 = .ok (.ifCond .lt 36, 3) := by decide +kernel
theorem dR_made_9 : decode (m_C mR_made) 9 = .ok (.aload_n 0, 1) := by decide +kernel
theorem dR_made_10 : decode (m_C mR_made) 10 = .ok (.invokevirtual 72, 3) := by decide +kernel
theorem dR_made_13 : decode (m_C mR_made) 13 = .ok (.ifCond .eq 29, 3) := by decide +kernel
theorem dR_made_16 : decode (m_C mR_made) 16 = .ok (.aload_n 0, 1) := by decide +kernel
theorem dR_made_17 : decode (m_C mR_made) 17 = .ok (.getfield 28, 3) := by decide +kernel
theorem dR_made_20 : decode (m_C mR_made) 20 = .ok (.sipush 300, 3) := by decide +kernel
theorem dR_made_23 : decode (m_C mR_made) 23 = .ok (.if_icmp .eq 19, 3) := by decide +kernel
theorem dR_made_26 : decode (m_C mR_made) 26 = .ok (.aload_n 0, 1) := by decide +kernel
theorem dR_made_27 : decode (m_C mR_made) 27 = .ok (.iload_n 2, 1) := by decide +kernel
theorem dR_made_28 : decode (m_C mR_made) 28 = .ok (.aload_n 0, 1) := by decide +kernel
theorem dR_made_29 : decode (m_C mR_made) 29 = .ok (.invokevirtual 61, 3) := by decide +kernel
theorem dR_made_32 : decode (m_C mR_made) 32 = .ok (.aload_n 0, 1) := by decide +kernel
theorem dR_made_33 : decode (m_C mR_made) 33 = .ok (.getfield 44, 3) := by decide +kernel
theorem dR_made_36 : decode (m_C mR_made) 36 = .ok (.invokevirtual 51, 3) := by decide +kernel
theorem dR_made_39 : decode (m_C mR_made) 39 = .ok (.ifCond .lt 5, 3) := by decide +kernel
theorem dR_made_42 : decode (m_C mR_made) 42 = .ok (.iconst (-1), 1) := by decide +kernel
theorem dR_made_43 : decode (m_C mR_made) 43 = .ok (.ireturn, 1) := by decide +kernel
theorem dR_made_44 : decode (m_C mR_made) 44 = .ok (.iconst 1, 1) := by decide +kernel
theorem dR_made_45 : decode (m_C mR_made) 45 = .ok (.istore_n 3, 1) := by decide +kernel
theorem dR_made_46 : decode (m_C mR_made) 46 = .ok (.aload_n 0, 1) := by decide +kernel
theorem dR_made_47 : decode (m_C mR_made) 47 = .ok (.getfield 13, 3) := by decide +kernel
theorem dR_made_50 : decode (m_C mR_made) 50 = .ok (.iload_n 3, 1) := by decide +kernel
theorem dR_made_51 : decode (m_C mR_made) 51 = .ok (.iaload, 1) := by decide +kernel
end
section
theorem dR_made_52 : decode (m_C mR_made) 52 = .ok (.ifCond .eq 9, 3) := by decide +kernel
theorem dR_made_55 : decode (m_C mR_made) 55 = .ok (.iinc 3 1, 3) := by decide +kernel
theorem dR_made_58 : decode (m_C mR_made) 58 = .ok (.goto (-12), 3) := by decide +kernel
theorem dR_made_61 : decode (m_C mR_made) 61 = .ok (.aload_n 0, 1) := by decide +kernel
theorem dR_made_62 : decode (m_C mR_made) 62 = .ok (.getfield 13, 3) := by decide +kernel
theorem dR_made_65 : decode (m_C mR_made) 65 = .ok (.iload_n 3, 1) := by decide +kernel
theorem dR_made_66 : decode (m_C mR_made) 66 = .ok (.iload_n 1, 1) := by decide +kernel
theorem dR_made_67 : decode (m_C mR_made) 67 = .ok (.iastore, 1) := by decide +kernel
theorem dR_made_68 : decode (m_C mR_made) 68 = .ok (.aload_n 0, 1) := by decide +kernel
theorem dR_made_69 : decode (m_C mR_made) 69 = .ok (.getfield 19, 3) := by decide +kernel
theorem dR_made_72 : decode (m_C mR_made) 72 = .ok (.iload_n 3, 1) := by decide +kernel
theorem dR_made_73 : decode (m_C mR_made) 73 = .ok (.iconst 0, 1) := by decide +kernel
theorem dR_made_74 : decode (m_C mR_made) 74 = .ok (.iastore, 1) := by decide +kernel
theorem dR_made_75 : decode (m_C mR_made) 75 = .ok (.aload_n 0, 1) := by decide +kernel
theorem dR_made_76 : decode (m_C mR_made) 76 = .ok (.dup, 1) := by decide +kernel
theorem dR_made_77 : decode (m_C mR_made) 77 = .ok (.getfield 28, 3) := by decide +kernel
theorem dR_made_80 : decode (m_C mR_made) 80 = .ok (.iconst 1, 1) := by decide +kernel
theorem dR_made_81 : decode (m_C mR_made) 81 = .ok (.iadd, 1) := by decide +kernel
theorem dR_made_82 : decode (m_C mR_made) 82 = .ok (.putfield 28, 3) := by decide +kernel
theorem dR_made_85 : decode (m_C mR_made) 85 = .ok (.aload_n 0, 1) := by decide +kernel
theorem dR_made_86 : decode (m_C mR_made) 86 = .ok (.iload_n 3, 1) := by decide +kernel
theorem dR_made_87 : decode (m_C mR_made) 87 = .ok (.iload_n 2, 1) := by decide +kernel
theorem dR_made_88 : decode (m_C mR_made) 88 = .ok (.invokevirtual 76, 3) := by decide +kernel
theorem dR_made_91 : decode (m_C mR_made) 91 = .ok (.iload_n 3, 1) := by decide +kernel
theorem dR_made_92 : decode (m_C mR_made) 92 = .ok (.ireturn, 1) := by decide +kernel
theorem dR_home_0 : decode (m_C mR_home) 0 = .ok (.aload_n 0, 1) := by decide +kernel
theorem dR_home_1 : decode (m_C mR_home) 1 = .ok (.invokevirtual 61, 3) := by decide +kernel
theorem dR_home_4 : decode (m_C mR_home) 4 = .ok (.istore_n 1, 1) := by decide +kernel
theorem dR_home_5 : decode (m_C mR_home) 5 = .ok (.iload_n 1, 1) := by decide +kernel
theorem dR_home_6 : decode (m_C mR_home) 6 = .ok (.ifCond .ne 10, 3) := by decide +kernel
theorem dR_home_9 : decode (m_C mR_home) 9 = .ok (.aload_n 0, 1) := by decide +kernel
theorem dR_home_10 : decode (m_C mR_home) 10 = .ok (.getfield 55, 3) := by decide +kernel
theorem dR_home_13 : decode (m_C mR_home) 13 = .ok (.goto 19, 3) := by decide +kernel
theorem dR_home_16 : decode (m_C mR_home) 16 = .ok (.iload_n 1, 1) := by decide +kernel
theorem dR_home_17 : decode (m_C mR_home) 17 = .ok (.iconst 1, 1) := by decide +kernel
theorem dR_home_18 : decode (m_C mR_home) 18 = .ok (.if_icmp .ne 7, 3) := by decide +kernel
theorem dR_home_21 : decode (m_C mR_home) 21 = .ok (.iconst 0, 1) := by decide +kernel
theorem dR_home_22 : decode (m_C mR_home) 22 = .ok (.goto 10, 3) := by decide +kernel
theorem dR_home_25 : decode (m_C mR_home) 25 = .ok (.aload_n 0, 1) := by decide +kernel
theorem dR_home_26 : decode (m_C mR_home) 26 = .ok (.iload_n 1, 1) := by decide +kernel
theorem dR_home_27 : decode (m_C mR_home) 27 = .ok (.iconst 1, 1) := by decide +kernel
theorem dR_home_28 : decode (m_C mR_home) 28 = .ok (.isub, 1) := by decide +kernel
theorem dR_home_29 : decode (m_C mR_home) 29 = .ok (.invokevirtual 65, 3) := by decide +kernel
theorem dR_home_32 : decode (m_C mR_home) 32 = .ok (.istore_n 2, 1) := by decide +kernel
theorem dR_home_33 : decode (m_C mR_home) 33 = .ok (.iload_n 2, 1) := by decide +kernel
theorem dR_home_34 : decode (m_C mR_home) 34 = .ok (.ifCond .lt 17, 3) := by decide +kernel
theorem dR_home_37 : decode (m_C mR_home) 37 = .ok (.aload_n 0, 1) := by decide +kernel
theorem dR_home_38 : decode (m_C mR_home) 38 = .ok (.getfield 13, 3) := by decide +kernel
theorem dR_home_41 : decode (m_C mR_home) 41 = .ok (.iload_n 2, 1) := by decide +kernel
theorem dR_home_42 : decode (m_C mR_home) 42 = .ok (.iaload, 1) := by decide +kernel
theorem dR_home_43 : decode (m_C mR_home) 43 = .ok (.iconst 2, 1) := by decide +kernel
theorem dR_home_44 : decode (m_C mR_home) 44 = .ok (.if_icmp .ne 7, 3) := by decide +kernel
theorem dR_home_47 : decode (m_C mR_home) 47 = .ok (.iload_n 2, 1) := by decide +kernel
theorem dR_home_48 : decode (m_C mR_home) 48 = .ok (.goto 4, 3) := by decide +kernel
theorem dR_home_51 : decode (m_C mR_home) 51 = .ok (.iconst (-1), 1) := by decide +kernel
theorem dR_home_52 : decode (m_C mR_home) 52 = .ok (.ireturn, 1) := by decide +kernel
theorem dR_last_0 : decode (m_C mR_last) 0 = .ok (.aload_n 0, 1) := by decide +kernel
theorem dR_last_1 : decode (m_C mR_last) 1 = .ok (.getfield 44, 3) := by decide +kernel
theorem dR_last_4 : decode (m_C mR_last) 4 = .ok (.istore_n 1, 1) := by decide +kernel
theorem dR_last_5 : decode (m_C mR_last) 5 = .ok (.iload_n 1, 1) := by decide +kernel
theorem dR_last_6 : decode (m_C mR_last) 6 = .ok (.ifCond .le 22, 3) := by decide +kernel
theorem dR_last_9 : decode (m_C mR_last) 9 = .ok (.aload_n 0, 1) := by decide +kernel
theorem dR_last_10 : decode (m_C mR_last) 10 = .ok (.getfield 7, 3) := by decide +kernel
theorem dR_last_13 : decode (m_C mR_last) 13 = .ok (.iload_n 1, 1) := by decide +kernel
theorem dR_last_14 : decode (m_C mR_last) 14 = .ok (.iconst 1, 1) := by decide +kernel
theorem dR_last_15 : decode (m_C mR_last) 15 = .ok (.isub, 1) := by decide +kernel
theorem dR_last_16 : decode (m_C mR_last) 16 = .ok (.iaload, 1) := by decide +kernel
theorem dR_last_17 : decode (m_C mR_last) 17 = .ok (.bipush 47, 2) := by decide +kernel
theorem dR_last_19 : decode (m_C mR_last) 19 = .ok (.if_icmp .eq 9, 3) := by decide +kernel
theorem dR_last_22 : decode (m_C mR_last) 22 = .ok (.iinc 1 (-1), 3) := by decide +kernel
theorem dR_last_25 : decode (m_C mR_last) 25 = .ok (.goto (-20), 3) := by decide +kernel
theorem dR_last_28 : decode (m_C mR_last) 28 = .ok (.iload_n 1, 1) := by decide +kernel
theorem dR_last_29 : decode (m_C mR_last) 29 = .ok (.ireturn, 1) := by decide +kernel
theorem dR_isName_0 : decode (m_C mR_isName) 0 = .ok (.aload_n 0, 1) := by decide +kernel
theorem dR_isName_1 : decode (m_C mR_isName) 1 = .ok (.invokevirtual 61, 3) := by decide +kernel
theorem dR_isName_4 : decode (m_C mR_isName) 4 = .ok (.istore_n 1, 1) := by decide +kernel
theorem dR_isName_5 : decode (m_C mR_isName) 5 = .ok (.aload_n 0, 1) := by decide +kernel
theorem dR_isName_6 : decode (m_C mR_isName) 6 = .ok (.getfield 44, 3) := by decide +kernel
theorem dR_isName_9 : decode (m_C mR_isName) 9 = .ok (.iload_n 1, 1) := by decide +kernel
theorem dR_isName_10 : decode (m_C mR_isName) 10 = .ok (.isub, 1) := by decide +kernel
theorem dR_isName_11 : decode (m_C mR_isName) 11 = .ok (.iconst 1, 1) := by decide +kernel
theorem dR_isName_12 : decode (m_C mR_isName) 12 = .ok (.if_icmp .lt 44, 3) := by decide +kernel
theorem dR_isName_15 : decode (m_C mR_isName) 15 = .ok (.aload_n 0, 1) := by decide +kernel
theorem dR_isName_16 : decode (m_C mR_isName) 16 = .ok (.getfield 44, 3) := by decide +kernel
theorem dR_isName_19 : decode (m_C mR_isName) 19 = .ok (.iload_n 1, 1) := by decide +kernel
theorem dR_isName_20 : decode (m_C mR_isName) 20 = .ok (.isub, 1) := by decide +kernel
theorem dR_isName_21 : decode (m_C mR_isName) 21 = .ok (.bipush 60, 2) := by decide +kernel
theorem dR_isName_23 : decode (m_C mR_isName) 23 = .ok (.if_icmp .gt 33, 3) := by decide +kernel
theorem dR_isName_26 : decode (m_C mR_isName) 26 = .ok (.aload_n 0, 1) := by decide +kernel
theorem dR_isName_27 : decode (m_C mR_isName) 27 = .ok (.iload_n 1, 1) := by decide +kernel
theorem dR_isName_28 : decode (m_C mR_isName) 28 = .ok (.aload_n 0, 1) := by decide +kernel
theorem dR_isName_29 : decode (m_C mR_isName) 29 = .ok (.getfield 44, 3) := by decide +kernel
theorem dR_isName_32 : decode (m_C mR_isName) 32 = .ok (.iconst 1, 1) := by decide +kernel
theorem dR_isName_33 : decode (m_C mR_isName) 33 = .ok (.invokevirtual 47, 3) := by decide +kernel
theorem dR_isName_36 : decode (m_C mR_isName) 36 = .ok (.ifCond .ne 20, 3) := by decide +kernel
theorem dR_isName_39 : decode (m_C mR_isName) 39 = .ok (.aload_n 0, 1) := by decide +kernel
theorem dR_isName_40 : decode (m_C mR_isName) 40 = .ok (.iload_n 1, 1) := by decide +kernel
theorem dR_isName_41 : decode (m_C mR_isName) 41 = .ok (.aload_n 0, 1) := by decide +kernel
theorem dR_isName_42 : decode (m_C mR_isName) 42 = .ok (.getfield 44, 3) := by decide +kernel
theorem dR_isName_45 : decode (m_C mR_isName) 45 = .ok (.iconst 2, 1) := by decide +kernel
theorem dR_isName_46 : decode (m_C mR_isName) 46 = .ok (.invokevirtual 47, 3) := by decide +kernel
theorem dR_isName_49 : decode (m_C mR_isName) 49 = .ok (.ifCond .ne 7, 3) := by decide +kernel
theorem dR_isName_52 : decode (m_C mR_isName) 52 = .ok (.iconst 1, 1) := by decide +kernel
theorem dR_isName_53 : decode (m_C mR_isName) 53 = .ok (.goto 4, 3) := by decide +kernel
theorem dR_isName_56 : decode (m_C mR_isName) 56 = .ok (.iconst 0, 1) := by decide +kernel
theorem dR_isName_57 : decode (m_C mR_isName) 57 = .ok (.ireturn, 1) := by decide +kernel
theorem dR_put_0 : decode (m_C mR_put) 0 = .ok (.aload_n 0, 1) := by decide +kernel
theorem dR_put_1 : decode (m_C mR_put) 1 = .ok (.getfield 16, 3) := by decide +kernel
theorem dR_put_4 : decode (m_C mR_put) 4 = .ok (.iload_n 1, 1) := by decide +kernel
theorem dR_put_5 : decode (m_C mR_put) 5 = .ok (.iload_n 2, 1) := by decide +kernel
theorem dR_put_6 : decode (m_C mR_put) 6 = .ok (.iastore, 1) := by decide +kernel
theorem dR_put_7 : decode (m_C mR_put) 7 = .ok (.aload_n 0, 1) := by decide +kernel
theorem dR_put_8 : decode (m_C mR_put) 8 = .ok (.getfield 22, 3) := by decide +kernel
theorem dR_put_11 : decode (m_C mR_put) 11 = .ok (.iload_n 1, 1) := by decide +kernel
theorem dR_put_12 : decode (m_C mR_put) 12 = .ok (.aload_n 0, 1) := by decide +kernel
theorem dR_put_13 : decode (m_C mR_put) 13 = .ok (.getfield 44, 3) := by decide +kernel
theorem dR_put_16 : decode (m_C mR_put) 16 = .ok (.aload_n 0, 1) := by decide +kernel
theorem dR_put_17 : decode (m_C mR_put) 17 = .ok (.invokevirtual 61, 3) := by decide +kernel
theorem dR_put_20 : decode (m_C mR_put) 20 = .ok (.isub, 1) := by decide +kernel
theorem dR_put_21 : decode (m_C mR_put) 21 = .ok (.iastore, 1) := by decide +kernel
theorem dR_put_22 : decode (m_C mR_put) 22 = .ok (.aload_n 0, 1) := by decide +kernel
theorem dR_put_23 : decode (m_C mR_put) 23 = .ok (.invokevirtual 61, 3) := by decide +kernel
theorem dR_put_26 : decode (m_C mR_put) 26 = .ok (.istore_n 3, 1) := by decide +kernel
theorem dR_put_27 : decode (m_C mR_put) 27 = .ok (.iload_n 3, 1) := by decide +kernel
theorem dR_put_28 : decode (m_C mR_put) 28 = .ok (.aload_n 0, 1) := by decide +kernel
theorem dR_put_29 : decode (m_C mR_put) 29 = .ok (.getfield 44, 3) := by decide +kernel
theorem dR_put_32 : decode (m_C mR_put) 32 = .ok (.if_icmp .ge 31, 3) := by decide +kernel
theorem dR_put_35 : decode (m_C mR_put) 35 = .ok (.aload_n 0, 1) := by decide +kernel
theorem dR_put_36 : decode (m_C mR_put) 36 = .ok (.getfield 25, 3) := by decide +kernel
theorem dR_put_39 : decode (m_C mR_put) 39 = .ok (.bipush 60, 2) := by decide +kernel
theorem dR_put_41 : decode (m_C mR_put) 41 = .ok (.iload_n 1, 1) := by decide +kernel
theorem dR_put_42 : decode (m_C mR_put) 42 = .ok (.imul, 1) := by decide +kernel
theorem dR_put_43 : decode (m_C mR_put) 43 = .ok (.iload_n 3, 1) := by decide +kernel
theorem dR_put_44 : decode (m_C mR_put) 44 = .ok (.iadd, 1) := by decide +kernel
theorem dR_put_45 : decode (m_C mR_put) 45 = .ok (.aload_n 0, 1) := by decide +kernel
theorem dR_put_46 : decode (m_C mR_put) 46 = .ok (.invokevirtual 61, 3) := by decide +kernel
theorem dR_put_49 : decode (m_C mR_put) 49 = .ok (.isub, 1) := by decide +kernel
theorem dR_put_50 : decode (m_C mR_put) 50 = .ok (.aload_n 0, 1) := by decide +kernel
theorem dR_put_51 : decode (m_C mR_put) 51 = .ok (.getfield 7, 3) := by decide +kernel
theorem dR_put_54 : decode (m_C mR_put) 54 = .ok (.iload_n 3, 1) := by decide +kernel
theorem dR_put_55 : decode (m_C mR_put) 55 = .ok (.iaload, 1) := by decide +kernel
theorem dR_put_56 : decode (m_C mR_put) 56 = .ok (.iastore, 1) := by decide +kernel
theorem dR_put_57 : decode (m_C mR_put) 57 = .ok (.iinc 3 1, 3) := by decide +kernel
theorem dR_put_60 : decode (m_C mR_put) 60 = .ok (.goto (-33), 3) := by decide +kernel
theorem dR_put_63 : decode (m_C mR_put) 63 = .ok (.return_, 1) := by decide +kernel
theorem dR_go_0 : decode (m_C mR_go) 0 = .ok (.aload_n 0, 1) := by decide +kernel
theorem dR_go_1 : decode (m_C mR_go) 1 = .ok (.aload_n 0, 1) := by decide +kernel
theorem dR_go_2 : decode (m_C mR_go) 2 = .ok (.getfield 44, 3) := by decide +kernel
theorem dR_go_5 : decode (m_C mR_go) 5 = .ok (.invokevirtual 65, 3) := by decide +kernel
theorem dR_go_8 : decode (m_C mR_go) 8 = .ok (.istore_n 1, 1) := by decide +kernel
theorem dR_go_9 : decode (m_C mR_go) 9 = .ok (.aload_n 0, 1) := by decide +kernel
theorem dR_go_10 : decode (m_C mR_go) 10 = .ok (.iconst 0, 1) := by decide +kernel
theorem dR_go_11 : decode (m_C mR_go) 11 = .ok (.putfield 44, 3) := by decide +kernel
theorem dR_go_14 : decode (m_C mR_go) 14 = .ok (.iload_n 1, 1) := by decide +kernel
theorem dR_go_15 : decode (m_C mR_go) 15 = .ok (.ifCond .lt 13, 3) := by decide +kernel
theorem dR_go_18 : decode (m_C mR_go) 18 = .ok (.aload_n 0, 1) := by decide +kernel
theorem dR_go_19 : decode (m_C mR_go) 19 = .ok (.getfield 13, 3) := by decide +kernel
theorem dR_go_22 : decode (m_C mR_go) 22 = .ok (.iload_n 1, 1) := by decide +kernel
theorem dR_go_23 : decode (m_C mR_go) 23 = .ok (.iaload, 1) := by decide +kernel
theorem dR_go_24 : decode (m_C mR_go) 24 = .ok (.iconst 2, 1) := by decide +kernel
theorem dR_go_25 : decode (m_C mR_go) 25 = .ok (.if_icmp .eq 5, 3) := by decide +kernel
theorem dR_go_28 : decode (m_C mR_go) 28 = .ok (.iconst 0, 1) := by decide +kernel
theorem dR_go_29 : decode (m_C mR_go) 29 = .ok (.ireturn, 1) := by decide +kernel
theorem dR_go_30 : decode (m_C mR_go) 30 = .ok (.aload_n 0, 1) := by decide +kernel
theorem dR_go_31 : decode (m_C mR_go) 31 = .ok (.iload_n 1, 1) := by decide +kernel
theorem dR_go_32 : decode (m_C mR_go) 32 = .ok (.putfield 55, 3) := by decide +kernel
theorem dR_go_35 : decode (m_C mR_go) 35 = .ok (.iconst 1, 1) := by decide +kernel
theorem dR_go_36 : decode (m_C mR_go) 36 = .ok (.ireturn, 1) := by decide +kernel
theorem dR_open_0 : decode (m_C mR_open) 0 = .ok (.aload_n 0, 1) := by decide +kernel
theorem dR_open_1 : decode (m_C mR_open) 1 = .ok (.aload_n 0, 1) := by decide +kernel
theorem dR_open_2 : decode (m_C mR_open) 2 = .ok (.getfield 44, 3) := by decide +kernel
theorem dR_open_5 : decode (m_C mR_open) 5 = .ok (.invokevirtual 65, 3) := by decide +kernel
theorem dR_open_8 : decode (m_C mR_open) 8 = .ok (.istore_n 1, 1) := by decide +kernel
theorem dR_open_9 : decode (m_C mR_open) 9 = .ok (.iload_n 1, 1) := by decide +kernel
theorem dR_open_10 : decode (m_C mR_open) 10 = .ok (.ifCond .ge 9, 3) := by decide +kernel
theorem dR_open_13 : decode (m_C mR_open) 13 = .ok (.aload_n 0, 1) := by decide +kernel
theorem dR_open_14 : decode (m_C mR_open) 14 = .ok (.iconst 1, 1) := by decide +kernel
theorem dR_open_15 : decode (m_C mR_open) 15 = .ok (.invokevirtual 80, 3) := by decide +kernel
theorem dR_open_18 : decode (m_C mR_open) 18 = .ok (.istore_n 1, 1) := by decide +kernel
theorem dR_open_19 : decode (m_C mR_open) 19 = .ok (.aload_n 0, 1) := by decide +kernel
theorem dR_open_20 : decode (m_C mR_open) 20 = .ok (.iconst 0, 1) := by decide +kernel
theorem dR_open_21 : decode (m_C mR_open) 21 = .ok (.putfield 44, 3) := by decide +kernel
theorem dR_open_24 : decode (m_C mR_open) 24 = .ok (.aload_n 0, 1) := by decide +kernel
theorem dR_open_25 : decode (m_C mR_open) 25 = .ok (.iload_n 1, 1) := by decide +kernel
theorem dR_open_26 : decode (m_C mR_open) 26 = .ok (.ifCond .lt 17, 3) := by decide +kernel
theorem dR_open_29 : decode (m_C mR_open) 29 = .ok (.aload_n 0, 1) := by decide +kernel
theorem dR_open_30 : decode (m_C mR_open) 30 = .ok (.getfield 13, 3) := by decide +kernel
theorem dR_open_33 : decode (m_C mR_open) 33 = .ok (.iload_n 1, 1) := by decide +kernel
theorem dR_open_34 : decode (m_C mR_open) 34 = .ok (.iaload, 1) := by decide +kernel
theorem dR_open_35 : decode (m_C mR_open) 35 = .ok (.iconst 1, 1) := by decide +kernel
theorem dR_open_36 : decode (m_C mR_open) 36 = .ok (.if_icmp .ne 7, 3) := by decide +kernel
theorem dR_open_39 : decode (m_C mR_open) 39 = .ok (.iload_n 1, 1) := by decide +kernel
theorem dR_open_40 : decode (m_C mR_open) 40 = .ok (.goto 4, 3) := by decide +kernel
theorem dR_open_43 : decode (m_C mR_open) 43 = .ok (.iconst (-1), 1) := by decide +kernel
theorem dR_open_44 : decode (m_C mR_open) 44 = .ok (.putfield 32, 3) := by decide +kernel
theorem dR_open_47 : decode (m_C mR_open) 47 = .ok (.aload_n 0, 1) := by decide +kernel
theorem dR_open_48 : decode (m_C mR_open) 48 = .ok (.iconst 0, 1) := by decide +kernel
theorem dR_open_49 : decode (m_C mR_open) 49 = .ok (.putfield 83, 3) := by decide +kernel
theorem dR_open_52 : decode (m_C mR_open) 52 = .ok (.aload_n 0, 1) := by decide +kernel
theorem dR_open_53 : decode (m_C mR_open) 53 = .ok (.getfield 32, 3) := by decide +kernel
theorem dR_open_56 : decode (m_C mR_open) 56 = .ok (.ifCond .lt 7, 3) := by decide +kernel
theorem dR_open_59 : decode (m_C mR_open) 59 = .ok (.iconst 1, 1) := by decide +kernel
theorem dR_open_60 : decode (m_C mR_open) 60 = .ok (.goto 4, 3) := by decide +kernel
theorem dR_open_63 : decode (m_C mR_open) 63 = .ok (.iconst 0, 1) := by decide +kernel
theorem dR_open_64 : decode (m_C mR_open) 64 = .ok (.ireturn, 1) := by decide +kernel
theorem dR_empty_0 : decode (m_C mR_empty) 0 = .ok (.aload_n 0, 1) := by decide +kernel
theorem dR_empty_1 : decode (m_C mR_empty) 1 = .ok (.getfield 32, 3) := by decide +kernel
theorem dR_empty_4 : decode (m_C mR_empty) 4 = .ok (.ifCond .ge 5, 3) := by decide +kernel
theorem dR_empty_7 : decode (m_C mR_empty) 7 = .ok (.iconst (-1), 1) := by decide +kernel
theorem dR_empty_8 : decode (m_C mR_empty) 8 = .ok (.ireturn, 1) := by decide +kernel
theorem dR_empty_9 : decode (m_C mR_empty) 9 = .ok (.aload_n 0, 1) := by decide +kernel
theorem dR_empty_10 : decode (m_C mR_empty) 10 = .ok (.getfield 83, 3) := by decide +kernel
theorem dR_empty_13 : decode (m_C mR_empty) 13 = .ok (.ifCond .eq 7, 3) := by decide +kernel
theorem dR_empty_16 : decode (m_C mR_empty) 16 = .ok (.iconst 0, 1) := by decide +kernel
theorem dR_empty_17 : decode (m_C mR_empty) 17 = .ok (.goto 11, 3) := by decide +kernel
theorem dR_empty_20 : decode (m_C mR_empty) 20 = .ok (.aload_n 0, 1) := by decide +kernel
theorem dR_empty_21 : decode (m_C mR_empty) 21 = .ok (.aload_n 0, 1) := by decide +kernel
theorem dR_empty_22 : decode (m_C mR_empty) 22 = .ok (.getfield 32, 3) := by decide +kernel
theorem dR_empty_25 : decode (m_C mR_empty) 25 = .ok (.invokevirtual 90, 3) := by decide +kernel
theorem dR_empty_28 : decode (m_C mR_empty) 28 = .ok (.ireturn, 1) := by decide +kernel
theorem dR_lose_0 : decode (m_C mR_lose) 0 = .ok (.aload_n 0, 1) := by decide +kernel
theorem dR_lose_1 : decode (m_C mR_lose) 1 = .ok (.getfield 19, 3) := by decide +kernel
theorem dR_lose_4 : decode (m_C mR_lose) 4 = .ok (.iload_n 1, 1) := by decide +kernel
theorem dR_lose_5 : decode (m_C mR_lose) 5 = .ok (.iaload, 1) := by decide +kernel
theorem dR_lose_6 : decode (m_C mR_lose) 6 = .ok (.istore_n 2, 1) := by decide +kernel
theorem dR_lose_7 : decode (m_C mR_lose) 7 = .ok (.iconst 0, 1) := by decide +kernel
theorem dR_lose_8 : decode (m_C mR_lose) 8 = .ok (.istore_n 3, 1) := by decide +kernel
theorem dR_lose_9 : decode (m_C mR_lose) 9 = .ok (.iconst 0, 1) := by decide +kernel
theorem dR_lose_10 : decode (m_C mR_lose) 10 = .ok (.istore 4, 2) := by decide +kernel
theorem dR_lose_12 : decode (m_C mR_lose) 12 = .ok (.iload 4, 2) := by decide +kernel
theorem dR_lose_14 : decode (m_C mR_lose) 14 = .ok (.aload_n 0, 1) := by decide +kernel
theorem dR_lose_15 : decode (m_C mR_lose) 15 = .ok (.getfield 87, 3) := by decide +kernel
theorem dR_lose_18 : decode (m_C mR_lose) 18 = .ok (.if_icmp .ge 52, 3) := by decide +kernel
theorem dR_lose_21 : decode (m_C mR_lose) 21 = .ok (.aload_n 0, 1) := by decide +kernel
theorem dR_lose_22 : decode (m_C mR_lose) 22 = .ok (.getfield 40, 3) := by decide +kernel
theorem dR_lose_25 : decode (m_C mR_lose) 25 = .ok (.iload 4, 2) := by decide +kernel
theorem dR_lose_27 : decode (m_C mR_lose) 27 = .ok (.saload, 1) := by decide +kernel
theorem dR_lose_28 : decode (m_C mR_lose) 28 = .ok (.iload_n 1, 1) := by decide +kernel
theorem dR_lose_29 : decode (m_C mR_lose) 29 = .ok (.if_icmp .ne 6, 3) := by decide +kernel
theorem dR_lose_32 : decode (m_C mR_lose) 32 = .ok (.goto 32, 3) := by decide +kernel
theorem dR_lose_35 : decode (m_C mR_lose) 35 = .ok (.aload_n 0, 1) := by decide +kernel
theorem dR_lose_36 : decode (m_C mR_lose) 36 = .ok (.getfield 36, 3) := by decide +kernel
theorem dR_lose_39 : decode (m_C mR_lose) 39 = .ok (.iload_n 3, 1) := by decide +kernel
theorem dR_lose_40 : decode (m_C mR_lose) 40 = .ok (.aload_n 0, 1) := by decide +kernel
theorem dR_lose_41 : decode (m_C mR_lose) 41 = .ok (.getfield 36, 3) := by decide +kernel
theorem dR_lose_44 : decode (m_C mR_lose) 44 = .ok (.iload 4, 2) := by decide +kernel
theorem dR_lose_46 : decode (m_C mR_lose) 46 = .ok (.baload, 1) := by decide +kernel
theorem dR_lose_47 : decode (m_C mR_lose) 47 = .ok (.bastore, 1) := by decide +kernel
theorem dR_lose_48 : decode (m_C mR_lose) 48 = .ok (.aload_n 0, 1) := by decide +kernel
theorem dR_lose_49 : decode (m_C mR_lose) 49 = .ok (.getfield 40, 3) := by decide +kernel
theorem dR_lose_52 : decode (m_C mR_lose) 52 = .ok (.iload_n 3, 1) := by decide +kernel
theorem dR_lose_53 : decode (m_C mR_lose) 53 = .ok (.aload_n 0, 1) := by decide +kernel
theorem dR_lose_54 : decode (m_C mR_lose) 54 = .ok (.getfield 40, 3) := by decide +kernel
theorem dR_lose_57 : decode (m_C mR_lose) 57 = .ok (.iload 4, 2) := by decide +kernel
theorem dR_lose_59 : decode (m_C mR_lose) 59 = .ok (.saload, 1) := by decide +kernel
theorem dR_lose_60 : decode (m_C mR_lose) 60 = .ok (.sastore, 1) := by decide +kernel
theorem dR_lose_61 : decode (m_C mR_lose) 61 = .ok (.iinc 3 1, 3) := by decide +kernel
theorem dR_lose_64 : decode (m_C mR_lose) 64 = .ok (.iinc 4 1, 3) := by decide +kernel
theorem dR_lose_67 : decode (m_C mR_lose) 67 = .ok (.goto (-55), 3) := by decide +kernel
theorem dR_lose_70 : decode (m_C mR_lose) 70 = .ok (.aload_n 0, 1) := by decide +kernel
theorem dR_lose_71 : decode (m_C mR_lose) 71 = .ok (.iload_n 3, 1) := by decide +kernel
theorem dR_lose_72 : decode (m_C mR_lose) 72 = .ok (.putfield 87, 3) := by decide +kernel
theorem dR_lose_75 : decode (m_C mR_lose) 75 = .ok (.aload_n 0, 1) := by decide +kernel
theorem dR_lose_76 : decode (m_C mR_lose) 76 = .ok (.getfield 19, 3) := by decide +kernel
theorem dR_lose_79 : decode (m_C mR_lose) 79 = .ok (.iload_n 1, 1) := by decide +kernel
theorem dR_lose_80 : decode (m_C mR_lose) 80 = .ok (.iconst 0, 1) := by decide +kernel
theorem dR_lose_81 : decode (m_C mR_lose) 81 = .ok (.iastore, 1) := by decide +kernel
theorem dR_lose_82 : decode (m_C mR_lose) 82 = .ok (.iload_n 2, 1) := by decide +kernel
theorem dR_lose_83 : decode (m_C mR_lose) 83 = .ok (.ireturn, 1) := by decide +kernel
theorem dR_write_0 : decode (m_C mR_write) 0 = .ok (.aload_n 0, 1) := by decide +kernel
theorem dR_write_1 : decode (m_C mR_write) 1 = .ok (.getfield 32, 3) := by decide +kernel
theorem dR_write_4 : decode (m_C mR_write) 4 = .ok (.ifCond .lt 13, 3) := by decide +kernel
theorem dR_write_7 : decode (m_C mR_write) 7 = .ok (.iload_n 3, 1) := by decide +kernel
theorem dR_write_8 : decode (m_C mR_write) 8 = .ok (.ifCond .lt 9, 3) := by decide +kernel
theorem dR_write_11 : decode (m_C mR_write) 11 = .ok (.iload_n 3, 1) := by decide +kernel
theorem dR_write_12 : decode (m_C mR_write) 12 = .ok (.bipush 8, 2) := by decide +kernel
theorem dR_write_14 : decode (m_C mR_write) 14 = .ok (.if_icmp .le 5, 3) := by decide +kernel
theorem dR_write_17 : decode (m_C mR_write) 17 = .ok (.iconst (-1), 1) := by decide +kernel
theorem dR_write_18 : decode (m_C mR_write) 18 = .ok (.ireturn, 1) := by decide +kernel
theorem dR_write_19 : decode (m_C mR_write) 19 = .ok (.iload_n 3, 1) := by decide +kernel
theorem dR_write_20 : decode (m_C mR_write) 20 = .ok (.iconst 1, 1) := by decide +kernel
theorem dR_write_21 : decode (m_C mR_write) 21 = .ok (.isub, 1) := by decide +kernel
theorem dR_write_22 : decode (m_C mR_write) 22 = .ok (.istore 4, 2) := by decide +kernel
theorem dR_write_24 : decode (m_C mR_write) 24 = .ok (.iload 4, 2) := by decide +kernel
theorem dR_write_26 : decode (m_C mR_write) 26 = .ok (.ifCond .lt 98, 3) := by decide +kernel
theorem dR_write_29 : decode (m_C mR_write) 29 = .ok (.aload_n 0, 1) := by decide +kernel
theorem dR_write_30 : decode (m_C mR_write) 30 = .ok (.getfield 83, 3) := by decide +kernel
theorem dR_write_33 : decode (m_C mR_write) 33 = .ok (.ifCond .ne 91, 3) := by decide +kernel
theorem dR_write_36 : decode (m_C mR_write) 36 = .ok (.aload_n 0, 1) := by decide +kernel
theorem dR_write_37 : decode (m_C mR_write) 37 = .ok (.getfield 19, 3) := by decide +kernel
theorem dR_write_40 : decode (m_C mR_write) 40 = .ok (.aload_n 0, 1) := by decide +kernel
theorem dR_write_41 : decode (m_C mR_write) 41 = .ok (.getfield 32, 3) := by decide +kernel
theorem dR_write_44 : decode (m_C mR_write) 44 = .ok (.iaload, 1) := by decide +kernel
theorem dR_write_45 : decode (m_C mR_write) 45 = .ok (.sipush 16384, 3) := by decide +kernel
theorem dR_write_48 : decode (m_C mR_write) 48 = .ok (.if_icmp .eq 70, 3) := by decide +kernel
theorem dR_write_51 : decode (m_C mR_write) 51 = .ok (.aload_n 0, 1) := by decide +kernel
theorem dR_write_52 : decode (m_C mR_write) 52 = .ok (.getfield 87, 3) := by decide +kernel
theorem dR_write_55 : decode (m_C mR_write) 55 = .ok (.ldc 35, 2) := by decide +kernel
theorem dR_write_57 : decode (m_C mR_write) 57 = .ok (.if_icmp .ne 6, 3) := by decide +kernel
theorem dR_write_60 : decode (m_C mR_write) 60 = .ok (.goto 58, 3) := by decide +kernel
theorem dR_write_63 : decode (m_C mR_write) 63 = .ok (.aload_n 0, 1) := by decide +kernel
theorem dR_write_64 : decode (m_C mR_write) 64 = .ok (.getfield 36, 3) := by decide +kernel
theorem dR_write_67 : decode (m_C mR_write) 67 = .ok (.aload_n 0, 1) := by decide +kernel
theorem dR_write_68 : decode (m_C mR_write) 68 = .ok (.getfield 87, 3) := by decide +kernel
theorem dR_write_71 : decode (m_C mR_write) 71 = .ok (.lload_n 1, 1) := by decide +kernel
theorem dR_write_72 : decode (m_C mR_write) 72 = .ok (.bipush 8, 2) := by decide +kernel
theorem dR_write_74 : decode (m_C mR_write) 74 = .ok (.iload 4, 2) := by decide +kernel
theorem dR_write_76 : decode (m_C mR_write) 76 = .ok (.imul, 1) := by decide +kernel
theorem dR_write_77 : decode (m_C mR_write) 77 = .ok (.lshr, 1) := by decide +kernel
theorem dR_write_78 : decode (m_C mR_write) 78 = .ok (.l2i, 1) := by decide +kernel
theorem dR_write_79 : decode (m_C mR_write) 79 = .ok (.i2b, 1) := by decide +kernel
theorem dR_write_80 : decode (m_C mR_write) 80 = .ok (.bastore, 1) := by decide +kernel
theorem dR_write_81 : decode (m_C mR_write) 81 = .ok (.aload_n 0, 1) := by decide +kernel
theorem dR_write_82 : decode (m_C mR_write) 82 = .ok (.getfield 40, 3) := by decide +kernel
theorem dR_write_85 : decode (m_C mR_write) 85 = .ok (.aload_n 0, 1) := by decide +kernel
theorem dR_write_86 : decode (m_C mR_write) 86 = .ok (.getfield 87, 3) := by decide +kernel
theorem dR_write_89 : decode (m_C mR_write) 89 = .ok (.aload_n 0, 1) := by decide +kernel
theorem dR_write_90 : decode (m_C mR_write) 90 = .ok (.getfield 32, 3) := by decide +kernel
theorem dR_write_93 : decode (m_C mR_write) 93 = .ok (.i2s, 1) := by decide +kernel
theorem dR_write_94 : decode (m_C mR_write) 94 = .ok (.sastore, 1) := by decide +kernel
theorem dR_write_95 : decode (m_C mR_write) 95 = .ok (.aload_n 0, 1) := by decide +kernel
theorem dR_write_96 : decode (m_C mR_write) 96 = .ok (.dup, 1) := by decide +kernel
theorem dR_write_97 : decode (m_C mR_write) 97 = .ok (.getfield 87, 3) := by decide +kernel
theorem dR_write_100 : decode (m_C mR_write) 100 = .ok (.iconst 1, 1) := by decide +kernel
theorem dR_write_101 : decode (m_C mR_write) 101 = .ok (.iadd, 1) := by decide +kernel
theorem dR_write_102 : decode (m_C mR_write) 102 = .ok (.putfield 87, 3) := by decide +kernel
theorem dR_write_105 : decode (m_C mR_write) 105 = .ok (.aload_n 0, 1) := by decide +kernel
theorem dR_write_106 : decode (m_C mR_write) 106 = .ok (.getfield 19, 3) := by decide +kernel
theorem dR_write_109 : decode (m_C mR_write) 109 = .ok (.aload_n 0, 1) := by decide +kernel
theorem dR_write_110 : decode (m_C mR_write) 110 = .ok (.getfield 32, 3) := by decide +kernel
theorem dR_write_113 : decode (m_C mR_write) 113 = .ok (.dup2, 1) := by decide +kernel
theorem dR_write_114 : decode (m_C mR_write) 114 = .ok (.iaload, 1) := by decide +kernel
theorem dR_write_115 : decode (m_C mR_write) 115 = .ok (.iconst 1, 1) := by decide +kernel
theorem dR_write_116 : decode (m_C mR_write) 116 = .ok (.iadd, 1) := by decide +kernel
theorem dR_write_117 : decode (m_C mR_write) 117 = .ok (.iastore, 1) := by decide +kernel
theorem dR_write_118 : decode (m_C mR_write) 118 = .ok (.iinc 4 (-1), 3) := by decide +kernel
theorem dR_write_121 : decode (m_C mR_write) 121 = .ok (.goto (-97), 3) := by decide +kernel
theorem dR_write_124 : decode (m_C mR_write) 124 = .ok (.aload_n 0, 1) := by decide +kernel
theorem dR_write_125 : decode (m_C mR_write) 125 = .ok (.getfield 83, 3) := by decide +kernel
theorem dR_write_128 : decode (m_C mR_write) 128 = .ok (.ifCond .eq 7, 3) := by decide +kernel
theorem dR_write_131 : decode (m_C mR_write) 131 = .ok (.iconst 0, 1) := by decide +kernel
theorem dR_write_132 : decode (m_C mR_write) 132 = .ok (.goto 12, 3) := by decide +kernel
theorem dR_write_135 : decode (m_C mR_write) 135 = .ok (.aload_n 0, 1) := by decide +kernel
theorem dR_write_136 : decode (m_C mR_write) 136 = .ok (.getfield 19, 3) := by decide +kernel
theorem dR_write_139 : decode (m_C mR_write) 139 = .ok (.aload_n 0, 1) := by decide +kernel
theorem dR_write_140 : decode (m_C mR_write) 140 = .ok (.getfield 32, 3) := by decide +kernel
theorem dR_write_143 : decode (m_C mR_write) 143 = .ok (.iaload, 1) := by decide +kernel
theorem dR_write_144 : decode (m_C mR_write) 144 = .ok (.ireturn, 1) := by decide +kernel
theorem dR_byteAt_0 : decode (m_C mR_byteAt) 0 = .ok (.aload_n 0, 1) := by decide +kernel
theorem dR_byteAt_1 : decode (m_C mR_byteAt) 1 = .ok (.getfield 32, 3) := by decide +kernel
theorem dR_byteAt_4 : decode (m_C mR_byteAt) 4 = .ok (.ifCond .lt 27, 3) := by decide +kernel
theorem dR_byteAt_7 : decode (m_C mR_byteAt) 7 = .ok (.aload_n 0, 1) := by decide +kernel
theorem dR_byteAt_8 : decode (m_C mR_byteAt) 8 = .ok (.getfield 83, 3) := by decide +kernel
theorem dR_byteAt_11 : decode (m_C mR_byteAt) 11 = .ok (.ifCond .ne 20, 3) := by decide +kernel
theorem dR_byteAt_14 : decode (m_C mR_byteAt) 14 = .ok (.iload_n 1, 1) := by decide +kernel
theorem dR_byteAt_15 : decode (m_C mR_byteAt) 15 = .ok (.ifCond .lt 16, 3) := by decide +kernel
theorem dR_byteAt_18 : decode (m_C mR_byteAt) 18 = .ok (.iload_n 1, 1) := by decide +kernel
theorem dR_byteAt_19 : decode (m_C mR_byteAt) 19 = .ok (.aload_n 0, 1) := by decide +kernel
theorem dR_byteAt_20 : decode (m_C mR_byteAt) 20 = .ok (.getfield 19, 3) := by decide +kernel
theorem dR_byteAt_23 : decode (m_C mR_byteAt) 23 = .ok (.aload_n 0, 1) := by decide +kernel
theorem dR_byteAt_24 : decode (m_C mR_byteAt) 24 = .ok (.getfield 32, 3) := by decide +kernel
theorem dR_byteAt_27 : decode (m_C mR_byteAt) 27 = .ok (.iaload, 1) := by decide +kernel
theorem dR_byteAt_28 : decode (m_C mR_byteAt) 28 = .ok (.if_icmp .lt 5, 3) := by decide +kernel
theorem dR_byteAt_31 : decode (m_C mR_byteAt) 31 = .ok (.iconst (-1), 1) := by decide +kernel
theorem dR_byteAt_32 : decode (m_C mR_byteAt) 32 = .ok (.ireturn, 1) := by decide +kernel
theorem dR_byteAt_33 : decode (m_C mR_byteAt) 33 = .ok (.iload_n 1, 1) := by decide +kernel
theorem dR_byteAt_34 : decode (m_C mR_byteAt) 34 = .ok (.istore_n 2, 1) := by decide +kernel
theorem dR_byteAt_35 : decode (m_C mR_byteAt) 35 = .ok (.iconst 0, 1) := by decide +kernel
theorem dR_byteAt_36 : decode (m_C mR_byteAt) 36 = .ok (.istore_n 3, 1) := by decide +kernel
theorem dR_byteAt_37 : decode (m_C mR_byteAt) 37 = .ok (.aload_n 0, 1) := by decide +kernel
theorem dR_byteAt_38 : decode (m_C mR_byteAt) 38 = .ok (.getfield 40, 3) := by decide +kernel
theorem dR_byteAt_41 : decode (m_C mR_byteAt) 41 = .ok (.iload_n 3, 1) := by decide +kernel
theorem dR_byteAt_42 : decode (m_C mR_byteAt) 42 = .ok (.saload, 1) := by decide +kernel
theorem dR_byteAt_43 : decode (m_C mR_byteAt) 43 = .ok (.aload_n 0, 1) := by decide +kernel
theorem dR_byteAt_44 : decode (m_C mR_byteAt) 44 = .ok (.getfield 32, 3) := by decide +kernel
theorem dR_byteAt_47 : decode (m_C mR_byteAt) 47 = .ok (.if_icmp .ne 7, 3) := by decide +kernel
theorem dR_byteAt_50 : decode (m_C mR_byteAt) 50 = .ok (.iload_n 2, 1) := by decide +kernel
theorem dR_byteAt_51 : decode (m_C mR_byteAt) 51 = .ok (.ifCond .le 30, 3) := by decide +kernel
theorem dR_byteAt_54 : decode (m_C mR_byteAt) 54 = .ok (.iload_n 2, 1) := by decide +kernel
theorem dR_byteAt_55 : decode (m_C mR_byteAt) 55 = .ok (.aload_n 0, 1) := by decide +kernel
theorem dR_byteAt_56 : decode (m_C mR_byteAt) 56 = .ok (.getfield 40, 3) := by decide +kernel
theorem dR_byteAt_59 : decode (m_C mR_byteAt) 59 = .ok (.iload_n 3, 1) := by decide +kernel
theorem dR_byteAt_60 : decode (m_C mR_byteAt) 60 = .ok (.saload, 1) := by decide +kernel
theorem dR_byteAt_61 : decode (m_C mR_byteAt) 61 = .ok (.aload_n 0, 1) := by decide +kernel
theorem dR_byteAt_62 : decode (m_C mR_byteAt) 62 = .ok (.getfield 32, 3) := by decide +kernel
theorem dR_byteAt_65 : decode (m_C mR_byteAt) 65 = .ok (.if_icmp .ne 7, 3) := by decide +kernel
theorem dR_byteAt_68 : decode (m_C mR_byteAt) 68 = .ok (.iconst 1, 1) := by decide +kernel
theorem dR_byteAt_69 : decode (m_C mR_byteAt) 69 = .ok (.goto 4, 3) := by decide +kernel
theorem dR_byteAt_72 : decode (m_C mR_byteAt) 72 = .ok (.iconst 0, 1) := by decide +kernel
theorem dR_byteAt_73 : decode (m_C mR_byteAt) 73 = .ok (.isub, 1) := by decide +kernel
theorem dR_byteAt_74 : decode (m_C mR_byteAt) 74 = .ok (.istore_n 2, 1) := by decide +kernel
theorem dR_byteAt_75 : decode (m_C mR_byteAt) 75 = .ok (.iinc 3 1, 3) := by decide +kernel
theorem dR_byteAt_78 : decode (m_C mR_byteAt) 78 = .ok (.goto (-41), 3) := by decide +kernel
theorem dR_byteAt_81 : decode (m_C mR_byteAt) 81 = .ok (.aload_n 0, 1) := by decide +kernel
theorem dR_byteAt_82 : decode (m_C mR_byteAt) 82 = .ok (.getfield 36, 3) := by decide +kernel
theorem dR_byteAt_85 : decode (m_C mR_byteAt) 85 = .ok (.iload_n 3, 1) := by decide +kernel
theorem dR_byteAt_86 : decode (m_C mR_byteAt) 86 = .ok (.baload, 1) := by decide +kernel
theorem dR_byteAt_87 : decode (m_C mR_byteAt) 87 = .ok (.sipush 255, 3) := by decide +kernel
theorem dR_byteAt_90 : decode (m_C mR_byteAt) 90 = .ok (.iand, 1) := by decide +kernel
theorem dR_byteAt_91 : decode (m_C mR_byteAt) 91 = .ok (.ireturn, 1) := by decide +kernel
theorem dR_remove_0 : decode (m_C mR_remove) 0 = .ok (.aload_n 0, 1) := by decide +kernel
theorem dR_remove_1 : decode (m_C mR_remove) 1 = .ok (.aload_n 0, 1) := by decide +kernel
theorem dR_remove_2 : decode (m_C mR_remove) 2 = .ok (.getfield 44, 3) := by decide +kernel
theorem dR_remove_5 : decode (m_C mR_remove) 5 = .ok (.invokevirtual 65, 3) := by decide +kernel
theorem dR_remove_8 : decode (m_C mR_remove) 8 = .ok (.istore_n 1, 1) := by decide +kernel
theorem dR_remove_9 : decode (m_C mR_remove) 9 = .ok (.aload_n 0, 1) := by decide +kernel
theorem dR_remove_10 : decode (m_C mR_remove) 10 = .ok (.iconst 0, 1) := by decide +kernel
theorem dR_remove_11 : decode (m_C mR_remove) 11 = .ok (.putfield 44, 3) := by decide +kernel
theorem dR_remove_14 : decode (m_C mR_remove) 14 = .ok (.iload_n 1, 1) := by decide +kernel
theorem dR_remove_15 : decode (m_C mR_remove) 15 = .ok (.ifCond .lt 13, 3) := by decide +kernel
theorem dR_remove_18 : decode (m_C mR_remove) 18 = .ok (.aload_n 0, 1) := by decide +kernel
theorem dR_remove_19 : decode (m_C mR_remove) 19 = .ok (.getfield 13, 3) := by decide +kernel
theorem dR_remove_22 : decode (m_C mR_remove) 22 = .ok (.iload_n 1, 1) := by decide +kernel
theorem dR_remove_23 : decode (m_C mR_remove) 23 = .ok (.iaload, 1) := by decide +kernel
theorem dR_remove_24 : decode (m_C mR_remove) 24 = .ok (.iconst 1, 1) := by decide +kernel
theorem dR_remove_25 : decode (m_C mR_remove) 25 = .ok (.if_icmp .eq 5, 3) := by decide +kernel
theorem dR_remove_28 : decode (m_C mR_remove) 28 = .ok (.iconst 0, 1) := by decide +kernel
theorem dR_remove_29 : decode (m_C mR_remove) 29 = .ok (.ireturn, 1) := by decide +kernel
theorem dR_remove_30 : decode (m_C mR_remove) 30 = .ok (.aload_n 0, 1) := by decide +kernel
theorem dR_remove_31 : decode (m_C mR_remove) 31 = .ok (.iload_n 1, 1) := by decide +kernel
theorem dR_remove_32 : decode (m_C mR_remove) 32 = .ok (.invokevirtual 93, 3) := by decide +kernel
theorem dR_remove_35 : decode (m_C mR_remove) 35 = .ok (.iconst 1, 1) := by decide +kernel
theorem dR_remove_36 : decode (m_C mR_remove) 36 = .ok (.ireturn, 1) := by decide +kernel
theorem dR_removeFile_0 : decode (m_C mR_removeFile) 0 = .ok (.aload_n 0, 1) := by decide +kernel
theorem dR_removeFile_1 : decode (m_C mR_removeFile) 1 = .ok (.iload_n 1, 1) := by decide +kernel
theorem dR_removeFile_2 : decode (m_C mR_removeFile) 2 = .ok (.invokevirtual 90, 3) := by decide +kernel
theorem dR_removeFile_5 : decode (m_C mR_removeFile) 5 = .ok (.istore_n 2, 1) := by decide +kernel
theorem dR_removeFile_6 : decode (m_C mR_removeFile) 6 = .ok (.aload_n 0, 1) := by decide +kernel
theorem dR_removeFile_7 : decode (m_C mR_removeFile) 7 = .ok (.getfield 13, 3) := by decide +kernel
theorem dR_removeFile_10 : decode (m_C mR_removeFile) 10 = .ok (.iload_n 1, 1) := by decide +kernel
theorem dR_removeFile_11 : decode (m_C mR_removeFile) 11 = .ok (.iconst 0, 1) := by decide +kernel
theorem dR_removeFile_12 : decode (m_C mR_removeFile) 12 = .ok (.iastore, 1) := by decide +kernel
theorem dR_removeFile_13 : decode (m_C mR_removeFile) 13 = .ok (.aload_n 0, 1) := by decide +kernel
theorem dR_removeFile_14 : decode (m_C mR_removeFile) 14 = .ok (.dup, 1) := by decide +kernel
theorem dR_removeFile_15 : decode (m_C mR_removeFile) 15 = .ok (.getfield 28, 3) := by decide +kernel
theorem dR_removeFile_18 : decode (m_C mR_removeFile) 18 = .ok (.iconst 1, 1) := by decide +kernel
theorem dR_removeFile_19 : decode (m_C mR_removeFile) 19 = .ok (.isub, 1) := by decide +kernel
theorem dR_removeFile_20 : decode (m_C mR_removeFile) 20 = .ok (.putfield 28, 3) := by decide +kernel
theorem dR_removeFile_23 : decode (m_C mR_removeFile) 23 = .ok (.aload_n 0, 1) := by decide +kernel
theorem dR_removeFile_24 : decode (m_C mR_removeFile) 24 = .ok (.aload_n 0, 1) := by decide +kernel
theorem dR_removeFile_25 : decode (m_C mR_removeFile) 25 = .ok (.getfield 83, 3) := by decide +kernel
theorem dR_removeFile_28 : decode (m_C mR_removeFile) 28 = .ok (.ifCond .ne 11, 3) := by decide +kernel
theorem dR_removeFile_31 : decode (m_C mR_removeFile) 31 = .ok (.iload_n 1, 1) := by decide +kernel
theorem dR_removeFile_32 : decode (m_C mR_removeFile) 32 = .ok (.aload_n 0, 1) := by decide +kernel
theorem dR_removeFile_33 : decode (m_C mR_removeFile) 33 = .ok (.getfield 32, 3) := by decide +kernel
theorem dR_removeFile_36 : decode (m_C mR_removeFile) 36 = .ok (.if_icmp .ne 7, 3) := by decide +kernel
theorem dR_removeFile_39 : decode (m_C mR_removeFile) 39 = .ok (.iconst 1, 1) := by decide +kernel
theorem dR_removeFile_40 : decode (m_C mR_removeFile) 40 = .ok (.goto 4, 3) := by decide +kernel
theorem dR_removeFile_43 : decode (m_C mR_removeFile) 43 = .ok (.iconst 0, 1) := by decide +kernel
theorem dR_removeFile_44 : decode (m_C mR_removeFile) 44 = .ok (.putfield 83, 3) := by decide +kernel
end
section
theorem dR_removeFile_47 : decode (m_C mR_removeFile) 47 = .ok (.return_, 1) := by decide +kernel
theorem dR_move_0 : decode (m_C mR_move) 0 = .ok (.aload_n 0, 1) := by decide +kernel
theorem dR_move_1 : decode (m_C mR_move) 1 = .ok (.invokevirtual 101, 3) := by decide +kernel
theorem dR_move_4 : decode (m_C mR_move) 4 = .ok (.istore_n 1, 1) := by decide +kernel
theorem dR_move_5 : decode (m_C mR_move) 5 = .ok (.aload_n 0, 1) := by decide +kernel
theorem dR_move_6 : decode (m_C mR_move) 6 = .ok (.iconst 0, 1) := by decide +kernel
theorem dR_move_7 : decode (m_C mR_move) 7 = .ok (.putfield 44, 3) := by decide +kernel
theorem dR_move_10 : decode (m_C mR_move) 10 = .ok (.iload_n 1, 1) := by decide +kernel
theorem dR_move_11 : decode (m_C mR_move) 11 = .ok (.ireturn, 1) := by decide +kernel
theorem dR_moved_0 : decode (m_C mR_moved) 0 = .ok (.aload_n 0, 1) := by decide +kernel
theorem dR_moved_1 : decode (m_C mR_moved) 1 = .ok (.getfield 32, 3) := by decide +kernel
theorem dR_moved_4 : decode (m_C mR_moved) 4 = .ok (.ifCond .lt 10, 3) := by decide +kernel
theorem dR_moved_7 : decode (m_C mR_moved) 7 = .ok (.aload_n 0, 1) := by decide +kernel
theorem dR_moved_8 : decode (m_C mR_moved) 8 = .ok (.getfield 83, 3) := by decide +kernel
theorem dR_moved_11 : decode (m_C mR_moved) 11 = .ok (.ifCond .eq 5, 3) := by decide +kernel
theorem dR_moved_14 : decode (m_C mR_moved) 14 = .ok (.iconst 0, 1) := by decide +kernel
theorem dR_moved_15 : decode (m_C mR_moved) 15 = .ok (.ireturn, 1) := by decide +kernel
theorem dR_moved_16 : decode (m_C mR_moved) 16 = .ok (.aload_n 0, 1) := by decide +kernel
theorem dR_moved_17 : decode (m_C mR_moved) 17 = .ok (.aload_n 0, 1) := by decide +kernel
theorem dR_moved_18 : decode (m_C mR_moved) 18 = .ok (.getfield 44, 3) := by decide +kernel
theorem dR_moved_21 : decode (m_C mR_moved) 21 = .ok (.invokevirtual 65, 3) := by decide +kernel
theorem dR_moved_24 : decode (m_C mR_moved) 24 = .ok (.istore_n 1, 1) := by decide +kernel
theorem dR_moved_25 : decode (m_C mR_moved) 25 = .ok (.iload_n 1, 1) := by decide +kernel
theorem dR_moved_26 : decode (m_C mR_moved) 26 = .ok (.ifCond .lt 17, 3) := by decide +kernel
theorem dR_moved_29 : decode (m_C mR_moved) 29 = .ok (.aload_n 0, 1) := by decide +kernel
theorem dR_moved_30 : decode (m_C mR_moved) 30 = .ok (.getfield 13, 3) := by decide +kernel
theorem dR_moved_33 : decode (m_C mR_moved) 33 = .ok (.iload_n 1, 1) := by decide +kernel
theorem dR_moved_34 : decode (m_C mR_moved) 34 = .ok (.iaload, 1) := by decide +kernel
theorem dR_moved_35 : decode (m_C mR_moved) 35 = .ok (.iconst 2, 1) := by decide +kernel
theorem dR_moved_36 : decode (m_C mR_moved) 36 = .ok (.if_icmp .ne 7, 3) := by decide +kernel
theorem dR_moved_39 : decode (m_C mR_moved) 39 = .ok (.iconst 1, 1) := by decide +kernel
theorem dR_moved_40 : decode (m_C mR_moved) 40 = .ok (.goto 4, 3) := by decide +kernel
theorem dR_moved_43 : decode (m_C mR_moved) 43 = .ok (.iconst 0, 1) := by decide +kernel
theorem dR_moved_44 : decode (m_C mR_moved) 44 = .ok (.istore_n 2, 1) := by decide +kernel
theorem dR_moved_45 : decode (m_C mR_moved) 45 = .ok (.iload_n 2, 1) := by decide +kernel
theorem dR_moved_46 : decode (m_C mR_moved) 46 = .ok (.ifCond .eq 7, 3) := by decide +kernel
theorem dR_moved_49 : decode (m_C mR_moved) 49 = .ok (.iload_n 1, 1) := by decide +kernel
theorem dR_moved_50 : decode (m_C mR_moved) 50 = .ok (.goto 7, 3) := by decide +kernel
theorem dR_moved_53 : decode (m_C mR_moved) 53 = .ok (.aload_n 0, 1) := by decide +kernel
theorem dR_moved_54 : decode (m_C mR_moved) 54 = .ok (.invokevirtual 69, 3) := by decide +kernel
theorem dR_moved_57 : decode (m_C mR_moved) 57 = .ok (.istore_n 3, 1) := by decide +kernel
theorem dR_moved_58 : decode (m_C mR_moved) 58 = .ok (.iload_n 3, 1) := by decide +kernel
theorem dR_moved_59 : decode (m_C mR_moved) 59 = .ok (.ifCond .lt 14, 3) := by decide +kernel
theorem dR_moved_62 : decode (m_C mR_moved) 62 = .ok (.iload_n 2, 1) := by decide +kernel
theorem dR_moved_63 : decode (m_C mR_moved) 63 = .ok (.ifCond .ne 12, 3) := by decide +kernel
theorem dR_moved_66 : decode (m_C mR_moved) 66 = .ok (.aload_n 0, 1) := by decide +kernel
theorem dR_moved_67 : decode (m_C mR_moved) 67 = .ok (.invokevirtual 72, 3) := by decide +kernel
theorem dR_moved_70 : decode (m_C mR_moved) 70 = .ok (.ifCond .ne 5, 3) := by decide +kernel
theorem dR_moved_73 : decode (m_C mR_moved) 73 = .ok (.iconst 0, 1) := by decide +kernel
theorem dR_moved_74 : decode (m_C mR_moved) 74 = .ok (.ireturn, 1) := by decide +kernel
theorem dR_moved_75 : decode (m_C mR_moved) 75 = .ok (.iload_n 2, 1) := by decide +kernel
theorem dR_moved_76 : decode (m_C mR_moved) 76 = .ok (.ifCond .eq 15, 3) := by decide +kernel
theorem dR_moved_79 : decode (m_C mR_moved) 79 = .ok (.aload_n 0, 1) := by decide +kernel
theorem dR_moved_80 : decode (m_C mR_moved) 80 = .ok (.iload_n 3, 1) := by decide +kernel
theorem dR_moved_81 : decode (m_C mR_moved) 81 = .ok (.aload_n 0, 1) := by decide +kernel
theorem dR_moved_82 : decode (m_C mR_moved) 82 = .ok (.getfield 32, 3) := by decide +kernel
theorem dR_moved_85 : decode (m_C mR_moved) 85 = .ok (.invokevirtual 97, 3) := by decide +kernel
theorem dR_moved_88 : decode (m_C mR_moved) 88 = .ok (.goto 16, 3) := by decide +kernel
theorem dR_moved_91 : decode (m_C mR_moved) 91 = .ok (.aload_n 0, 1) := by decide +kernel
theorem dR_moved_92 : decode (m_C mR_moved) 92 = .ok (.iload_n 3, 1) := by decide +kernel
theorem dR_moved_93 : decode (m_C mR_moved) 93 = .ok (.aload_n 0, 1) := by decide +kernel
theorem dR_moved_94 : decode (m_C mR_moved) 94 = .ok (.invokevirtual 61, 3) := by decide +kernel
theorem dR_moved_97 : decode (m_C mR_moved) 97 = .ok (.aload_n 0, 1) := by decide +kernel
theorem dR_moved_98 : decode (m_C mR_moved) 98 = .ok (.getfield 44, 3) := by decide +kernel
theorem dR_moved_101 : decode (m_C mR_moved) 101 = .ok (.invokevirtual 51, 3) := by decide +kernel
theorem dR_moved_104 : decode (m_C mR_moved) 104 = .ok (.istore 4, 2) := by decide +kernel
theorem dR_moved_106 : decode (m_C mR_moved) 106 = .ok (.iload 4, 2) := by decide +kernel
theorem dR_moved_108 : decode (m_C mR_moved) 108 = .ok (.aload_n 0, 1) := by decide +kernel
theorem dR_moved_109 : decode (m_C mR_moved) 109 = .ok (.getfield 32, 3) := by decide +kernel
theorem dR_moved_112 : decode (m_C mR_moved) 112 = .ok (.if_icmp .eq 19, 3) := by decide +kernel
theorem dR_moved_115 : decode (m_C mR_moved) 115 = .ok (.iload 4, 2) := by decide +kernel
theorem dR_moved_117 : decode (m_C mR_moved) 117 = .ok (.ifCond .lt 16, 3) := by decide +kernel
theorem dR_moved_120 : decode (m_C mR_moved) 120 = .ok (.aload_n 0, 1) := by decide +kernel
theorem dR_moved_121 : decode (m_C mR_moved) 121 = .ok (.getfield 13, 3) := by decide +kernel
theorem dR_moved_124 : decode (m_C mR_moved) 124 = .ok (.iload 4, 2) := by decide +kernel
theorem dR_moved_126 : decode (m_C mR_moved) 126 = .ok (.iaload, 1) := by decide +kernel
theorem dR_moved_127 : decode (m_C mR_moved) 127 = .ok (.iconst 2, 1) := by decide +kernel
theorem dR_moved_128 : decode (m_C mR_moved) 128 = .ok (.if_icmp .ne 5, 3) := by decide +kernel
theorem dR_moved_131 : decode (m_C mR_moved) 131 = .ok (.iconst 0, 1) := by decide +kernel
theorem dR_moved_132 : decode (m_C mR_moved) 132 = .ok (.ireturn, 1) := by decide +kernel
theorem dR_moved_133 : decode (m_C mR_moved) 133 = .ok (.iload 4, 2) := by decide +kernel
theorem dR_moved_135 : decode (m_C mR_moved) 135 = .ok (.ifCond .lt 9, 3) := by decide +kernel
theorem dR_moved_138 : decode (m_C mR_moved) 138 = .ok (.aload_n 0, 1) := by decide +kernel
theorem dR_moved_139 : decode (m_C mR_moved) 139 = .ok (.iload 4, 2) := by decide +kernel
theorem dR_moved_141 : decode (m_C mR_moved) 141 = .ok (.invokevirtual 93, 3) := by decide +kernel
theorem dR_moved_144 : decode (m_C mR_moved) 144 = .ok (.iload_n 2, 1) := by decide +kernel
theorem dR_moved_145 : decode (m_C mR_moved) 145 = .ok (.ifCond .eq 16, 3) := by decide +kernel
theorem dR_moved_148 : decode (m_C mR_moved) 148 = .ok (.aload_n 0, 1) := by decide +kernel
theorem dR_moved_149 : decode (m_C mR_moved) 149 = .ok (.getfield 16, 3) := by decide +kernel
theorem dR_moved_152 : decode (m_C mR_moved) 152 = .ok (.aload_n 0, 1) := by decide +kernel
theorem dR_moved_153 : decode (m_C mR_moved) 153 = .ok (.getfield 32, 3) := by decide +kernel
theorem dR_moved_156 : decode (m_C mR_moved) 156 = .ok (.iload_n 3, 1) := by decide +kernel
theorem dR_moved_157 : decode (m_C mR_moved) 157 = .ok (.iastore, 1) := by decide +kernel
theorem dR_moved_158 : decode (m_C mR_moved) 158 = .ok (.goto 12, 3) := by decide +kernel
theorem dR_moved_161 : decode (m_C mR_moved) 161 = .ok (.aload_n 0, 1) := by decide +kernel
theorem dR_moved_162 : decode (m_C mR_moved) 162 = .ok (.aload_n 0, 1) := by decide +kernel
theorem dR_moved_163 : decode (m_C mR_moved) 163 = .ok (.getfield 32, 3) := by decide +kernel
theorem dR_moved_166 : decode (m_C mR_moved) 166 = .ok (.iload_n 3, 1) := by decide +kernel
theorem dR_moved_167 : decode (m_C mR_moved) 167 = .ok (.invokevirtual 76, 3) := by decide +kernel
theorem dR_moved_170 : decode (m_C mR_moved) 170 = .ok (.iconst 1, 1) := by decide +kernel
theorem dR_moved_171 : decode (m_C mR_moved) 171 = .ok (.ireturn, 1) := by decide +kernel
theorem dR_namesake_0 : decode (m_C mR_namesake) 0 = .ok (.iconst 1, 1) := by decide +kernel
theorem dR_namesake_1 : decode (m_C mR_namesake) 1 = .ok (.istore_n 3, 1) := by decide +kernel
theorem dR_namesake_2 : decode (m_C mR_namesake) 2 = .ok (.iload_n 3, 1) := by decide +kernel
theorem dR_namesake_3 : decode (m_C mR_namesake) 3 = .ok (.sipush 300, 3) := by decide +kernel
theorem dR_namesake_6 : decode (m_C mR_namesake) 6 = .ok (.if_icmp .ge 116, 3) := by decide +kernel
theorem dR_namesake_9 : decode (m_C mR_namesake) 9 = .ok (.aload_n 0, 1) := by decide +kernel
theorem dR_namesake_10 : decode (m_C mR_namesake) 10 = .ok (.getfield 13, 3) := by decide +kernel
theorem dR_namesake_13 : decode (m_C mR_namesake) 13 = .ok (.iload_n 3, 1) := by decide +kernel
theorem dR_namesake_14 : decode (m_C mR_namesake) 14 = .ok (.iaload, 1) := by decide +kernel
theorem dR_namesake_15 : decode (m_C mR_namesake) 15 = .ok (.ifCond .eq 32, 3) := by decide +kernel
theorem dR_namesake_18 : decode (m_C mR_namesake) 18 = .ok (.aload_n 0, 1) := by decide +kernel
theorem dR_namesake_19 : decode (m_C mR_namesake) 19 = .ok (.getfield 16, 3) := by decide +kernel
theorem dR_namesake_22 : decode (m_C mR_namesake) 22 = .ok (.iload_n 3, 1) := by decide +kernel
theorem dR_namesake_23 : decode (m_C mR_namesake) 23 = .ok (.iaload, 1) := by decide +kernel
theorem dR_namesake_24 : decode (m_C mR_namesake) 24 = .ok (.iload_n 1, 1) := by decide +kernel
theorem dR_namesake_25 : decode (m_C mR_namesake) 25 = .ok (.if_icmp .ne 22, 3) := by decide +kernel
theorem dR_namesake_28 : decode (m_C mR_namesake) 28 = .ok (.aload_n 0, 1) := by decide +kernel
theorem dR_namesake_29 : decode (m_C mR_namesake) 29 = .ok (.getfield 22, 3) := by decide +kernel
theorem dR_namesake_32 : decode (m_C mR_namesake) 32 = .ok (.iload_n 3, 1) := by decide +kernel
theorem dR_namesake_33 : decode (m_C mR_namesake) 33 = .ok (.iaload, 1) := by decide +kernel
theorem dR_namesake_34 : decode (m_C mR_namesake) 34 = .ok (.aload_n 0, 1) := by decide +kernel
theorem dR_namesake_35 : decode (m_C mR_namesake) 35 = .ok (.getfield 22, 3) := by decide +kernel
theorem dR_namesake_38 : decode (m_C mR_namesake) 38 = .ok (.iload_n 2, 1) := by decide +kernel
theorem dR_namesake_39 : decode (m_C mR_namesake) 39 = .ok (.iaload, 1) := by decide +kernel
theorem dR_namesake_40 : decode (m_C mR_namesake) 40 = .ok (.if_icmp .ne 7, 3) := by decide +kernel
theorem dR_namesake_43 : decode (m_C mR_namesake) 43 = .ok (.iconst 1, 1) := by decide +kernel
theorem dR_namesake_44 : decode (m_C mR_namesake) 44 = .ok (.goto 4, 3) := by decide +kernel
theorem dR_namesake_47 : decode (m_C mR_namesake) 47 = .ok (.iconst 0, 1) := by decide +kernel
theorem dR_namesake_48 : decode (m_C mR_namesake) 48 = .ok (.istore 4, 2) := by decide +kernel
theorem dR_namesake_50 : decode (m_C mR_namesake) 50 = .ok (.iconst 0, 1) := by decide +kernel
theorem dR_namesake_51 : decode (m_C mR_namesake) 51 = .ok (.istore 5, 2) := by decide +kernel
theorem dR_namesake_53 : decode (m_C mR_namesake) 53 = .ok (.iload 5, 2) := by decide +kernel
theorem dR_namesake_55 : decode (m_C mR_namesake) 55 = .ok (.aload_n 0, 1) := by decide +kernel
theorem dR_namesake_56 : decode (m_C mR_namesake) 56 = .ok (.getfield 22, 3) := by decide +kernel
theorem dR_namesake_59 : decode (m_C mR_namesake) 59 = .ok (.iload_n 2, 1) := by decide +kernel
theorem dR_namesake_60 : decode (m_C mR_namesake) 60 = .ok (.iaload, 1) := by decide +kernel
theorem dR_namesake_61 : decode (m_C mR_namesake) 61 = .ok (.if_icmp .ge 48, 3) := by decide +kernel
theorem dR_namesake_64 : decode (m_C mR_namesake) 64 = .ok (.iload 4, 2) := by decide +kernel
theorem dR_namesake_66 : decode (m_C mR_namesake) 66 = .ok (.ifCond .eq 43, 3) := by decide +kernel
theorem dR_namesake_69 : decode (m_C mR_namesake) 69 = .ok (.aload_n 0, 1) := by decide +kernel
theorem dR_namesake_70 : decode (m_C mR_namesake) 70 = .ok (.getfield 25, 3) := by decide +kernel
theorem dR_namesake_73 : decode (m_C mR_namesake) 73 = .ok (.bipush 60, 2) := by decide +kernel
theorem dR_namesake_75 : decode (m_C mR_namesake) 75 = .ok (.iload_n 3, 1) := by decide +kernel
theorem dR_namesake_76 : decode (m_C mR_namesake) 76 = .ok (.imul, 1) := by decide +kernel
theorem dR_namesake_77 : decode (m_C mR_namesake) 77 = .ok (.iload 5, 2) := by decide +kernel
theorem dR_namesake_79 : decode (m_C mR_namesake) 79 = .ok (.iadd, 1) := by decide +kernel
theorem dR_namesake_80 : decode (m_C mR_namesake) 80 = .ok (.iaload, 1) := by decide +kernel
theorem dR_namesake_81 : decode (m_C mR_namesake) 81 = .ok (.aload_n 0, 1) := by decide +kernel
theorem dR_namesake_82 : decode (m_C mR_namesake) 82 = .ok (.getfield 25, 3) := by decide +kernel
theorem dR_namesake_85 : decode (m_C mR_namesake) 85 = .ok (.bipush 60, 2) := by decide +kernel
theorem dR_namesake_87 : decode (m_C mR_namesake) 87 = .ok (.iload_n 2, 1) := by decide +kernel
theorem dR_namesake_88 : decode (m_C mR_namesake) 88 = .ok (.imul, 1) := by decide +kernel
theorem dR_namesake_89 : decode (m_C mR_namesake) 89 = .ok (.iload 5, 2) := by decide +kernel
theorem dR_namesake_91 : decode (m_C mR_namesake) 91 = .ok (.iadd, 1) := by decide +kernel
theorem dR_namesake_92 : decode (m_C mR_namesake) 92 = .ok (.iaload, 1) := by decide +kernel
theorem dR_namesake_93 : decode (m_C mR_namesake) 93 = .ok (.if_icmp .ne 7, 3) := by decide +kernel
theorem dR_namesake_96 : decode (m_C mR_namesake) 96 = .ok (.iconst 1, 1) := by decide +kernel
theorem dR_namesake_97 : decode (m_C mR_namesake) 97 = .ok (.goto 4, 3) := by decide +kernel
theorem dR_namesake_100 : decode (m_C mR_namesake) 100 = .ok (.iconst 0, 1) := by decide +kernel
theorem dR_namesake_101 : decode (m_C mR_namesake) 101 = .ok (.istore 4, 2) := by decide +kernel
theorem dR_namesake_103 : decode (m_C mR_namesake) 103 = .ok (.iinc 5 1, 3) := by decide +kernel
theorem dR_namesake_106 : decode (m_C mR_namesake) 106 = .ok (.goto (-53), 3) := by decide +kernel
theorem dR_namesake_109 : decode (m_C mR_namesake) 109 = .ok (.iload 4, 2) := by decide +kernel
theorem dR_namesake_111 : decode (m_C mR_namesake) 111 = .ok (.ifCond .eq 5, 3) := by decide +kernel
theorem dR_namesake_114 : decode (m_C mR_namesake) 114 = .ok (.iload_n 3, 1) := by decide +kernel
theorem dR_namesake_115 : decode (m_C mR_namesake) 115 = .ok (.ireturn, 1) := by decide +kernel
theorem dR_namesake_116 : decode (m_C mR_namesake) 116 = .ok (.iinc 3 1, 3) := by decide +kernel
theorem dR_namesake_119 : decode (m_C mR_namesake) 119 = .ok (.goto (-117), 3) := by decide +kernel
theorem dR_namesake_122 : decode (m_C mR_namesake) 122 = .ok (.iconst (-1), 1) := by decide +kernel
theorem dR_namesake_123 : decode (m_C mR_namesake) 123 = .ok (.ireturn, 1) := by decide +kernel
theorem dR_name_0 : decode (m_C mR_name) 0 = .ok (.aload_n 0, 1) := by decide +kernel
theorem dR_name_1 : decode (m_C mR_name) 1 = .ok (.iload_n 1, 1) := by decide +kernel
theorem dR_name_2 : decode (m_C mR_name) 2 = .ok (.invokevirtual 108, 3) := by decide +kernel
theorem dR_name_5 : decode (m_C mR_name) 5 = .ok (.istore_n 3, 1) := by decide +kernel
theorem dR_name_6 : decode (m_C mR_name) 6 = .ok (.iload_n 3, 1) := by decide +kernel
theorem dR_name_7 : decode (m_C mR_name) 7 = .ok (.ifCond .lt 17, 3) := by decide +kernel
theorem dR_name_10 : decode (m_C mR_name) 10 = .ok (.iload_n 2, 1) := by decide +kernel
theorem dR_name_11 : decode (m_C mR_name) 11 = .ok (.ifCond .lt 13, 3) := by decide +kernel
theorem dR_name_14 : decode (m_C mR_name) 14 = .ok (.iload_n 2, 1) := by decide +kernel
theorem dR_name_15 : decode (m_C mR_name) 15 = .ok (.aload_n 0, 1) := by decide +kernel
theorem dR_name_16 : decode (m_C mR_name) 16 = .ok (.getfield 22, 3) := by decide +kernel
theorem dR_name_19 : decode (m_C mR_name) 19 = .ok (.iload_n 3, 1) := by decide +kernel
theorem dR_name_20 : decode (m_C mR_name) 20 = .ok (.iaload, 1) := by decide +kernel
theorem dR_name_21 : decode (m_C mR_name) 21 = .ok (.if_icmp .lt 7, 3) := by decide +kernel
theorem dR_name_24 : decode (m_C mR_name) 24 = .ok (.iconst (-1), 1) := by decide +kernel
theorem dR_name_25 : decode (m_C mR_name) 25 = .ok (.goto 14, 3) := by decide +kernel
theorem dR_name_28 : decode (m_C mR_name) 28 = .ok (.aload_n 0, 1) := by decide +kernel
theorem dR_name_29 : decode (m_C mR_name) 29 = .ok (.getfield 25, 3) := by decide +kernel
theorem dR_name_32 : decode (m_C mR_name) 32 = .ok (.bipush 60, 2) := by decide +kernel
theorem dR_name_34 : decode (m_C mR_name) 34 = .ok (.iload_n 3, 1) := by decide +kernel
theorem dR_name_35 : decode (m_C mR_name) 35 = .ok (.imul, 1) := by decide +kernel
theorem dR_name_36 : decode (m_C mR_name) 36 = .ok (.iload_n 2, 1) := by decide +kernel
theorem dR_name_37 : decode (m_C mR_name) 37 = .ok (.iadd, 1) := by decide +kernel
theorem dR_name_38 : decode (m_C mR_name) 38 = .ok (.iaload, 1) := by decide +kernel
theorem dR_name_39 : decode (m_C mR_name) 39 = .ok (.ireturn, 1) := by decide +kernel
theorem dR_inOrder_0 : decode (m_C mR_inOrder) 0 = .ok (.iconst 1, 1) := by decide +kernel
theorem dR_inOrder_1 : decode (m_C mR_inOrder) 1 = .ok (.istore_n 2, 1) := by decide +kernel
theorem dR_inOrder_2 : decode (m_C mR_inOrder) 2 = .ok (.iload_n 2, 1) := by decide +kernel
theorem dR_inOrder_3 : decode (m_C mR_inOrder) 3 = .ok (.sipush 300, 3) := by decide +kernel
theorem dR_inOrder_6 : decode (m_C mR_inOrder) 6 = .ok (.if_icmp .ge 102, 3) := by decide +kernel
theorem dR_inOrder_9 : decode (m_C mR_inOrder) 9 = .ok (.aload_n 0, 1) := by decide +kernel
theorem dR_inOrder_10 : decode (m_C mR_inOrder) 10 = .ok (.getfield 13, 3) := by decide +kernel
theorem dR_inOrder_13 : decode (m_C mR_inOrder) 13 = .ok (.iload_n 2, 1) := by decide +kernel
theorem dR_inOrder_14 : decode (m_C mR_inOrder) 14 = .ok (.iaload, 1) := by decide +kernel
theorem dR_inOrder_15 : decode (m_C mR_inOrder) 15 = .ok (.ifCond .eq 87, 3) := by decide +kernel
theorem dR_inOrder_18 : decode (m_C mR_inOrder) 18 = .ok (.aload_n 0, 1) := by decide +kernel
theorem dR_inOrder_19 : decode (m_C mR_inOrder) 19 = .ok (.getfield 16, 3) := by decide +kernel
theorem dR_inOrder_22 : decode (m_C mR_inOrder) 22 = .ok (.iload_n 2, 1) := by decide +kernel
theorem dR_inOrder_23 : decode (m_C mR_inOrder) 23 = .ok (.iaload, 1) := by decide +kernel
theorem dR_inOrder_24 : decode (m_C mR_inOrder) 24 = .ok (.aload_n 0, 1) := by decide +kernel
theorem dR_inOrder_25 : decode (m_C mR_inOrder) 25 = .ok (.getfield 55, 3) := by decide +kernel
theorem dR_inOrder_28 : decode (m_C mR_inOrder) 28 = .ok (.if_icmp .eq 6, 3) := by decide +kernel
theorem dR_inOrder_31 : decode (m_C mR_inOrder) 31 = .ok (.goto 71, 3) := by decide +kernel
theorem dR_inOrder_34 : decode (m_C mR_inOrder) 34 = .ok (.iconst 0, 1) := by decide +kernel
theorem dR_inOrder_35 : decode (m_C mR_inOrder) 35 = .ok (.istore_n 3, 1) := by decide +kernel
theorem dR_inOrder_36 : decode (m_C mR_inOrder) 36 = .ok (.iconst 1, 1) := by decide +kernel
theorem dR_inOrder_37 : decode (m_C mR_inOrder) 37 = .ok (.istore 4, 2) := by decide +kernel
theorem dR_inOrder_39 : decode (m_C mR_inOrder) 39 = .ok (.iload 4, 2) := by decide +kernel
theorem dR_inOrder_41 : decode (m_C mR_inOrder) 41 = .ok (.sipush 300, 3) := by decide +kernel
theorem dR_inOrder_44 : decode (m_C mR_inOrder) 44 = .ok (.if_icmp .ge 51, 3) := by decide +kernel
theorem dR_inOrder_47 : decode (m_C mR_inOrder) 47 = .ok (.iload_n 3, 1) := by decide +kernel
theorem dR_inOrder_48 : decode (m_C mR_inOrder) 48 = .ok (.aload_n 0, 1) := by decide +kernel
theorem dR_inOrder_49 : decode (m_C mR_inOrder) 49 = .ok (.getfield 13, 3) := by decide +kernel
theorem dR_inOrder_52 : decode (m_C mR_inOrder) 52 = .ok (.iload 4, 2) := by decide +kernel
theorem dR_inOrder_54 : decode (m_C mR_inOrder) 54 = .ok (.iaload, 1) := by decide +kernel
theorem dR_inOrder_55 : decode (m_C mR_inOrder) 55 = .ok (.ifCond .eq 31, 3) := by decide +kernel
theorem dR_inOrder_58 : decode (m_C mR_inOrder) 58 = .ok (.aload_n 0, 1) := by decide +kernel
theorem dR_inOrder_59 : decode (m_C mR_inOrder) 59 = .ok (.getfield 16, 3) := by decide +kernel
theorem dR_inOrder_62 : decode (m_C mR_inOrder) 62 = .ok (.iload 4, 2) := by decide +kernel
theorem dR_inOrder_64 : decode (m_C mR_inOrder) 64 = .ok (.iaload, 1) := by decide +kernel
theorem dR_inOrder_65 : decode (m_C mR_inOrder) 65 = .ok (.aload_n 0, 1) := by decide +kernel
theorem dR_inOrder_66 : decode (m_C mR_inOrder) 66 = .ok (.getfield 55, 3) := by decide +kernel
theorem dR_inOrder_69 : decode (m_C mR_inOrder) 69 = .ok (.if_icmp .ne 17, 3) := by decide +kernel
theorem dR_inOrder_72 : decode (m_C mR_inOrder) 72 = .ok (.aload_n 0, 1) := by decide +kernel
theorem dR_inOrder_73 : decode (m_C mR_inOrder) 73 = .ok (.iload 4, 2) := by decide +kernel
theorem dR_inOrder_75 : decode (m_C mR_inOrder) 75 = .ok (.iload_n 2, 1) := by decide +kernel
theorem dR_inOrder_76 : decode (m_C mR_inOrder) 76 = .ok (.invokevirtual 104, 3) := by decide +kernel
theorem dR_inOrder_79 : decode (m_C mR_inOrder) 79 = .ok (.ifCond .eq 7, 3) := by decide +kernel
theorem dR_inOrder_82 : decode (m_C mR_inOrder) 82 = .ok (.iconst 1, 1) := by decide +kernel
theorem dR_inOrder_83 : decode (m_C mR_inOrder) 83 = .ok (.goto 4, 3) := by decide +kernel
theorem dR_inOrder_86 : decode (m_C mR_inOrder) 86 = .ok (.iconst 0, 1) := by decide +kernel
theorem dR_inOrder_87 : decode (m_C mR_inOrder) 87 = .ok (.iadd, 1) := by decide +kernel
theorem dR_inOrder_88 : decode (m_C mR_inOrder) 88 = .ok (.istore_n 3, 1) := by decide +kernel
theorem dR_inOrder_89 : decode (m_C mR_inOrder) 89 = .ok (.iinc 4 1, 3) := by decide +kernel
theorem dR_inOrder_92 : decode (m_C mR_inOrder) 92 = .ok (.goto (-53), 3) := by decide +kernel
theorem dR_inOrder_95 : decode (m_C mR_inOrder) 95 = .ok (.iload_n 3, 1) := by decide +kernel
theorem dR_inOrder_96 : decode (m_C mR_inOrder) 96 = .ok (.iload_n 1, 1) := by decide +kernel
theorem dR_inOrder_97 : decode (m_C mR_inOrder) 97 = .ok (.if_icmp .ne 5, 3) := by decide +kernel
theorem dR_inOrder_100 : decode (m_C mR_inOrder) 100 = .ok (.iload_n 2, 1) := by decide +kernel
theorem dR_inOrder_101 : decode (m_C mR_inOrder) 101 = .ok (.ireturn, 1) := by decide +kernel
theorem dR_inOrder_102 : decode (m_C mR_inOrder) 102 = .ok (.iinc 2 1, 3) := by decide +kernel
theorem dR_inOrder_105 : decode (m_C mR_inOrder) 105 = .ok (.goto (-103), 3) := by decide +kernel
theorem dR_inOrder_108 : decode (m_C mR_inOrder) 108 = .ok (.iconst (-1), 1) := by decide +kernel
theorem dR_inOrder_109 : decode (m_C mR_inOrder) 109 = .ok (.ireturn, 1) := by decide +kernel
theorem dR_isBefore_0 : decode (m_C mR_isBefore) 0 = .ok (.iconst 0, 1) := by decide +kernel
theorem dR_isBefore_1 : decode (m_C mR_isBefore) 1 = .ok (.istore_n 3, 1) := by decide +kernel
theorem dR_isBefore_2 : decode (m_C mR_isBefore) 2 = .ok (.iload_n 3, 1) := by decide +kernel
theorem dR_isBefore_3 : decode (m_C mR_isBefore) 3 = .ok (.aload_n 0, 1) := by decide +kernel
theorem dR_isBefore_4 : decode (m_C mR_isBefore) 4 = .ok (.getfield 22, 3) := by decide +kernel
theorem dR_isBefore_7 : decode (m_C mR_isBefore) 7 = .ok (.iload_n 1, 1) := by decide +kernel
theorem dR_isBefore_8 : decode (m_C mR_isBefore) 8 = .ok (.iaload, 1) := by decide +kernel
theorem dR_isBefore_9 : decode (m_C mR_isBefore) 9 = .ok (.if_icmp .ge 60, 3) := by decide +kernel
theorem dR_isBefore_12 : decode (m_C mR_isBefore) 12 = .ok (.iload_n 3, 1) := by decide +kernel
theorem dR_isBefore_13 : decode (m_C mR_isBefore) 13 = .ok (.aload_n 0, 1) := by decide +kernel
theorem dR_isBefore_14 : decode (m_C mR_isBefore) 14 = .ok (.getfield 22, 3) := by decide +kernel
theorem dR_isBefore_17 : decode (m_C mR_isBefore) 17 = .ok (.iload_n 2, 1) := by decide +kernel
theorem dR_isBefore_18 : decode (m_C mR_isBefore) 18 = .ok (.iaload, 1) := by decide +kernel
theorem dR_isBefore_19 : decode (m_C mR_isBefore) 19 = .ok (.if_icmp .ge 50, 3) := by decide +kernel
theorem dR_isBefore_22 : decode (m_C mR_isBefore) 22 = .ok (.aload_n 0, 1) := by decide +kernel
theorem dR_isBefore_23 : decode (m_C mR_isBefore) 23 = .ok (.getfield 25, 3) := by decide +kernel
theorem dR_isBefore_26 : decode (m_C mR_isBefore) 26 = .ok (.bipush 60, 2) := by decide +kernel
theorem dR_isBefore_28 : decode (m_C mR_isBefore) 28 = .ok (.iload_n 1, 1) := by decide +kernel
theorem dR_isBefore_29 : decode (m_C mR_isBefore) 29 = .ok (.imul, 1) := by decide +kernel
theorem dR_isBefore_30 : decode (m_C mR_isBefore) 30 = .ok (.iload_n 3, 1) := by decide +kernel
theorem dR_isBefore_31 : decode (m_C mR_isBefore) 31 = .ok (.iadd, 1) := by decide +kernel
theorem dR_isBefore_32 : decode (m_C mR_isBefore) 32 = .ok (.iaload, 1) := by decide +kernel
theorem dR_isBefore_33 : decode (m_C mR_isBefore) 33 = .ok (.aload_n 0, 1) := by decide +kernel
theorem dR_isBefore_34 : decode (m_C mR_isBefore) 34 = .ok (.getfield 25, 3) := by decide +kernel
theorem dR_isBefore_37 : decode (m_C mR_isBefore) 37 = .ok (.bipush 60, 2) := by decide +kernel
theorem dR_isBefore_39 : decode (m_C mR_isBefore) 39 = .ok (.iload_n 2, 1) := by decide +kernel
theorem dR_isBefore_40 : decode (m_C mR_isBefore) 40 = .ok (.imul, 1) := by decide +kernel
theorem dR_isBefore_41 : decode (m_C mR_isBefore) 41 = .ok (.iload_n 3, 1) := by decide +kernel
theorem dR_isBefore_42 : decode (m_C mR_isBefore) 42 = .ok (.iadd, 1) := by decide +kernel
theorem dR_isBefore_43 : decode (m_C mR_isBefore) 43 = .ok (.iaload, 1) := by decide +kernel
theorem dR_isBefore_44 : decode (m_C mR_isBefore) 44 = .ok (.isub, 1) := by decide +kernel
theorem dR_isBefore_45 : decode (m_C mR_isBefore) 45 = .ok (.istore 4, 2) := by decide +kernel
theorem dR_isBefore_47 : decode (m_C mR_isBefore) 47 = .ok (.iload 4, 2) := by decide +kernel
theorem dR_isBefore_49 : decode (m_C mR_isBefore) 49 = .ok (.ifCond .eq 14, 3) := by decide +kernel
theorem dR_isBefore_52 : decode (m_C mR_isBefore) 52 = .ok (.iload 4, 2) := by decide +kernel
theorem dR_isBefore_54 : decode (m_C mR_isBefore) 54 = .ok (.ifCond .ge 7, 3) := by decide +kernel
theorem dR_isBefore_57 : decode (m_C mR_isBefore) 57 = .ok (.iconst 1, 1) := by decide +kernel
theorem dR_isBefore_58 : decode (m_C mR_isBefore) 58 = .ok (.goto 4, 3) := by decide +kernel
theorem dR_isBefore_61 : decode (m_C mR_isBefore) 61 = .ok (.iconst 0, 1) := by decide +kernel
theorem dR_isBefore_62 : decode (m_C mR_isBefore) 62 = .ok (.ireturn, 1) := by decide +kernel
theorem dR_isBefore_63 : decode (m_C mR_isBefore) 63 = .ok (.iinc 3 1, 3) := by decide +kernel
theorem dR_isBefore_66 : decode (m_C mR_isBefore) 66 = .ok (.goto (-64), 3) := by decide +kernel
theorem dR_isBefore_69 : decode (m_C mR_isBefore) 69 = .ok (.aload_n 0, 1) := by decide +kernel
theorem dR_isBefore_70 : decode (m_C mR_isBefore) 70 = .ok (.getfield 22, 3) := by decide +kernel
theorem dR_isBefore_73 : decode (m_C mR_isBefore) 73 = .ok (.iload_n 1, 1) := by decide +kernel
theorem dR_isBefore_74 : decode (m_C mR_isBefore) 74 = .ok (.iaload, 1) := by decide +kernel
theorem dR_isBefore_75 : decode (m_C mR_isBefore) 75 = .ok (.aload_n 0, 1) := by decide +kernel
theorem dR_isBefore_76 : decode (m_C mR_isBefore) 76 = .ok (.getfield 22, 3) := by decide +kernel
theorem dR_isBefore_79 : decode (m_C mR_isBefore) 79 = .ok (.iload_n 2, 1) := by decide +kernel
theorem dR_isBefore_80 : decode (m_C mR_isBefore) 80 = .ok (.iaload, 1) := by decide +kernel
theorem dR_isBefore_81 : decode (m_C mR_isBefore) 81 = .ok (.if_icmp .ge 7, 3) := by decide +kernel
theorem dR_isBefore_84 : decode (m_C mR_isBefore) 84 = .ok (.iconst 1, 1) := by decide +kernel
theorem dR_isBefore_85 : decode (m_C mR_isBefore) 85 = .ok (.goto 4, 3) := by decide +kernel
theorem dR_isBefore_88 : decode (m_C mR_isBefore) 88 = .ok (.iconst 0, 1) := by decide +kernel
theorem dR_isBefore_89 : decode (m_C mR_isBefore) 89 = .ok (.ireturn, 1) := by decide +kernel
theorem dR_count_0 : decode (m_C mR_count) 0 = .ok (.iload_n 1, 1) := by decide +kernel
theorem dR_count_1 : decode (m_C mR_count) 1 = .ok (.tableswitch 107 0 6 #[43, 49, 55, 60, 65, 70, 75], 43) := by decide +kernel
theorem dR_count_44 : decode (m_C mR_count) 44 = .ok (.aload_n 0, 1) := by decide +kernel
theorem dR_count_45 : decode (m_C mR_count) 45 = .ok (.iconst 1, 1) := by decide +kernel
theorem dR_count_46 : decode (m_C mR_count) 46 = .ok (.invokevirtual 111, 3) := by decide +kernel
theorem dR_count_49 : decode (m_C mR_count) 49 = .ok (.ireturn, 1) := by decide +kernel
theorem dR_count_50 : decode (m_C mR_count) 50 = .ok (.aload_n 0, 1) := by decide +kernel
theorem dR_count_51 : decode (m_C mR_count) 51 = .ok (.iconst 2, 1) := by decide +kernel
theorem dR_count_52 : decode (m_C mR_count) 52 = .ok (.invokevirtual 111, 3) := by decide +kernel
theorem dR_count_55 : decode (m_C mR_count) 55 = .ok (.ireturn, 1) := by decide +kernel
theorem dR_count_56 : decode (m_C mR_count) 56 = .ok (.aload_n 0, 1) := by decide +kernel
theorem dR_count_57 : decode (m_C mR_count) 57 = .ok (.getfield 87, 3) := by decide +kernel
theorem dR_count_60 : decode (m_C mR_count) 60 = .ok (.ireturn, 1) := by decide +kernel
theorem dR_count_61 : decode (m_C mR_count) 61 = .ok (.aload_n 0, 1) := by decide +kernel
theorem dR_count_62 : decode (m_C mR_count) 62 = .ok (.invokevirtual 114, 3) := by decide +kernel
theorem dR_count_65 : decode (m_C mR_count) 65 = .ok (.ireturn, 1) := by decide +kernel
theorem dR_count_66 : decode (m_C mR_count) 66 = .ok (.aload_n 0, 1) := by decide +kernel
theorem dR_count_67 : decode (m_C mR_count) 67 = .ok (.invokevirtual 117, 3) := by decide +kernel
theorem dR_count_70 : decode (m_C mR_count) 70 = .ok (.ireturn, 1) := by decide +kernel
theorem dR_count_71 : decode (m_C mR_count) 71 = .ok (.aload_n 0, 1) := by decide +kernel
theorem dR_count_72 : decode (m_C mR_count) 72 = .ok (.getfield 44, 3) := by decide +kernel
theorem dR_count_75 : decode (m_C mR_count) 75 = .ok (.ireturn, 1) := by decide +kernel
theorem dR_count_76 : decode (m_C mR_count) 76 = .ok (.aload_n 0, 1) := by decide +kernel
theorem dR_count_77 : decode (m_C mR_count) 77 = .ok (.getfield 32, 3) := by decide +kernel
theorem dR_count_80 : decode (m_C mR_count) 80 = .ok (.ifCond .ge 7, 3) := by decide +kernel
theorem dR_count_83 : decode (m_C mR_count) 83 = .ok (.iconst (-1), 1) := by decide +kernel
theorem dR_count_84 : decode (m_C mR_count) 84 = .ok (.goto 23, 3) := by decide +kernel
theorem dR_count_87 : decode (m_C mR_count) 87 = .ok (.aload_n 0, 1) := by decide +kernel
theorem dR_count_88 : decode (m_C mR_count) 88 = .ok (.getfield 83, 3) := by decide +kernel
theorem dR_count_91 : decode (m_C mR_count) 91 = .ok (.ifCond .eq 7, 3) := by decide +kernel
theorem dR_count_94 : decode (m_C mR_count) 94 = .ok (.iconst 0, 1) := by decide +kernel
theorem dR_count_95 : decode (m_C mR_count) 95 = .ok (.goto 12, 3) := by decide +kernel
theorem dR_count_98 : decode (m_C mR_count) 98 = .ok (.aload_n 0, 1) := by decide +kernel
theorem dR_count_99 : decode (m_C mR_count) 99 = .ok (.getfield 19, 3) := by decide +kernel
theorem dR_count_102 : decode (m_C mR_count) 102 = .ok (.aload_n 0, 1) := by decide +kernel
theorem dR_count_103 : decode (m_C mR_count) 103 = .ok (.getfield 32, 3) := by decide +kernel
theorem dR_count_106 : decode (m_C mR_count) 106 = .ok (.iaload, 1) := by decide +kernel
theorem dR_count_107 : decode (m_C mR_count) 107 = .ok (.ireturn, 1) := by decide +kernel
theorem dR_count_108 : decode (m_C mR_count) 108 = .ok (.iconst (-1), 1) := by decide +kernel
theorem dR_count_109 : decode (m_C mR_count) 109 = .ok (.ireturn, 1) := by decide +kernel
theorem dR_many_0 : decode (m_C mR_many) 0 = .ok (.iconst 0, 1) := by decide +kernel
theorem dR_many_1 : decode (m_C mR_many) 1 = .ok (.istore_n 2, 1) := by decide +kernel
theorem dR_many_2 : decode (m_C mR_many) 2 = .ok (.iconst 0, 1) := by decide +kernel
theorem dR_many_3 : decode (m_C mR_many) 3 = .ok (.istore_n 3, 1) := by decide +kernel
theorem dR_many_4 : decode (m_C mR_many) 4 = .ok (.iload_n 3, 1) := by decide +kernel
theorem dR_many_5 : decode (m_C mR_many) 5 = .ok (.sipush 300, 3) := by decide +kernel
theorem dR_many_8 : decode (m_C mR_many) 8 = .ok (.if_icmp .ge 27, 3) := by decide +kernel
theorem dR_many_11 : decode (m_C mR_many) 11 = .ok (.iload_n 2, 1) := by decide +kernel
theorem dR_many_12 : decode (m_C mR_many) 12 = .ok (.aload_n 0, 1) := by decide +kernel
theorem dR_many_13 : decode (m_C mR_many) 13 = .ok (.getfield 13, 3) := by decide +kernel
theorem dR_many_16 : decode (m_C mR_many) 16 = .ok (.iload_n 3, 1) := by decide +kernel
theorem dR_many_17 : decode (m_C mR_many) 17 = .ok (.iaload, 1) := by decide +kernel
theorem dR_many_18 : decode (m_C mR_many) 18 = .ok (.iload_n 1, 1) := by decide +kernel
theorem dR_many_19 : decode (m_C mR_many) 19 = .ok (.if_icmp .ne 7, 3) := by decide +kernel
theorem dR_many_22 : decode (m_C mR_many) 22 = .ok (.iconst 1, 1) := by decide +kernel
theorem dR_many_23 : decode (m_C mR_many) 23 = .ok (.goto 4, 3) := by decide +kernel
theorem dR_many_26 : decode (m_C mR_many) 26 = .ok (.iconst 0, 1) := by decide +kernel
theorem dR_many_27 : decode (m_C mR_many) 27 = .ok (.iadd, 1) := by decide +kernel
theorem dR_many_28 : decode (m_C mR_many) 28 = .ok (.istore_n 2, 1) := by decide +kernel
theorem dR_many_29 : decode (m_C mR_many) 29 = .ok (.iinc 3 1, 3) := by decide +kernel
theorem dR_many_32 : decode (m_C mR_many) 32 = .ok (.goto (-28), 3) := by decide +kernel
theorem dR_many_35 : decode (m_C mR_many) 35 = .ok (.iload_n 2, 1) := by decide +kernel
theorem dR_many_36 : decode (m_C mR_many) 36 = .ok (.ireturn, 1) := by decide +kernel
theorem dR_atHand_0 : decode (m_C mR_atHand) 0 = .ok (.iconst 0, 1) := by decide +kernel
theorem dR_atHand_1 : decode (m_C mR_atHand) 1 = .ok (.istore_n 1, 1) := by decide +kernel
theorem dR_atHand_2 : decode (m_C mR_atHand) 2 = .ok (.iconst 1, 1) := by decide +kernel
theorem dR_atHand_3 : decode (m_C mR_atHand) 3 = .ok (.istore_n 2, 1) := by decide +kernel
theorem dR_atHand_4 : decode (m_C mR_atHand) 4 = .ok (.iload_n 2, 1) := by decide +kernel
theorem dR_atHand_5 : decode (m_C mR_atHand) 5 = .ok (.sipush 300, 3) := by decide +kernel
theorem dR_atHand_8 : decode (m_C mR_atHand) 8 = .ok (.if_icmp .ge 39, 3) := by decide +kernel
theorem dR_atHand_11 : decode (m_C mR_atHand) 11 = .ok (.iload_n 1, 1) := by decide +kernel
theorem dR_atHand_12 : decode (m_C mR_atHand) 12 = .ok (.aload_n 0, 1) := by decide +kernel
theorem dR_atHand_13 : decode (m_C mR_atHand) 13 = .ok (.getfield 13, 3) := by decide +kernel
theorem dR_atHand_16 : decode (m_C mR_atHand) 16 = .ok (.iload_n 2, 1) := by decide +kernel
theorem dR_atHand_17 : decode (m_C mR_atHand) 17 = .ok (.iaload, 1) := by decide +kernel
theorem dR_atHand_18 : decode (m_C mR_atHand) 18 = .ok (.ifCond .eq 20, 3) := by decide +kernel
theorem dR_atHand_21 : decode (m_C mR_atHand) 21 = .ok (.aload_n 0, 1) := by decide +kernel
theorem dR_atHand_22 : decode (m_C mR_atHand) 22 = .ok (.getfield 16, 3) := by decide +kernel
theorem dR_atHand_25 : decode (m_C mR_atHand) 25 = .ok (.iload_n 2, 1) := by decide +kernel
theorem dR_atHand_26 : decode (m_C mR_atHand) 26 = .ok (.iaload, 1) := by decide +kernel
theorem dR_atHand_27 : decode (m_C mR_atHand) 27 = .ok (.aload_n 0, 1) := by decide +kernel
theorem dR_atHand_28 : decode (m_C mR_atHand) 28 = .ok (.getfield 55, 3) := by decide +kernel
theorem dR_atHand_31 : decode (m_C mR_atHand) 31 = .ok (.if_icmp .ne 7, 3) := by decide +kernel
theorem dR_atHand_34 : decode (m_C mR_atHand) 34 = .ok (.iconst 1, 1) := by decide +kernel
theorem dR_atHand_35 : decode (m_C mR_atHand) 35 = .ok (.goto 4, 3) := by decide +kernel
theorem dR_atHand_38 : decode (m_C mR_atHand) 38 = .ok (.iconst 0, 1) := by decide +kernel
theorem dR_atHand_39 : decode (m_C mR_atHand) 39 = .ok (.iadd, 1) := by decide +kernel
theorem dR_atHand_40 : decode (m_C mR_atHand) 40 = .ok (.istore_n 1, 1) := by decide +kernel
theorem dR_atHand_41 : decode (m_C mR_atHand) 41 = .ok (.iinc 2 1, 3) := by decide +kernel
theorem dR_atHand_44 : decode (m_C mR_atHand) 44 = .ok (.goto (-40), 3) := by decide +kernel
theorem dR_atHand_47 : decode (m_C mR_atHand) 47 = .ok (.iload_n 1, 1) := by decide +kernel
theorem dR_atHand_48 : decode (m_C mR_atHand) 48 = .ok (.ireturn, 1) := by decide +kernel
theorem dR_above_0 : decode (m_C mR_above) 0 = .ok (.iconst 0, 1) := by decide +kernel
theorem dR_above_1 : decode (m_C mR_above) 1 = .ok (.istore_n 1, 1) := by decide +kernel
theorem dR_above_2 : decode (m_C mR_above) 2 = .ok (.aload_n 0, 1) := by decide +kernel
theorem dR_above_3 : decode (m_C mR_above) 3 = .ok (.getfield 55, 3) := by decide +kernel
theorem dR_above_6 : decode (m_C mR_above) 6 = .ok (.istore_n 2, 1) := by decide +kernel
theorem dR_above_7 : decode (m_C mR_above) 7 = .ok (.iload_n 2, 1) := by decide +kernel
theorem dR_above_8 : decode (m_C mR_above) 8 = .ok (.ifCond .eq 16, 3) := by decide +kernel
theorem dR_above_11 : decode (m_C mR_above) 11 = .ok (.iinc 1 1, 3) := by decide +kernel
theorem dR_above_14 : decode (m_C mR_above) 14 = .ok (.aload_n 0, 1) := by decide +kernel
theorem dR_above_15 : decode (m_C mR_above) 15 = .ok (.getfield 16, 3) := by decide +kernel
theorem dR_above_18 : decode (m_C mR_above) 18 = .ok (.iload_n 2, 1) := by decide +kernel
theorem dR_above_19 : decode (m_C mR_above) 19 = .ok (.iaload, 1) := by decide +kernel
theorem dR_above_20 : decode (m_C mR_above) 20 = .ok (.istore_n 2, 1) := by decide +kernel
theorem dR_above_21 : decode (m_C mR_above) 21 = .ok (.goto (-14), 3) := by decide +kernel
theorem dR_above_24 : decode (m_C mR_above) 24 = .ok (.iload_n 1, 1) := by decide +kernel
theorem dR_above_25 : decode (m_C mR_above) 25 = .ok (.ireturn, 1) := by decide +kernel
end
section
/-! numbers: what the walks' comparisons say -/
def bI (b : Bool) : Int32 := match b with
  | true => nI 1
  | false => nI 0
theorem bI_eq0 {b : Bool} : bI b = 0 ↔ b = false := by cases b <;> decide
theorem bI_nar {b : Bool} : narrow .boolean (.int (bI b)) = .int (bI b) := by cases b <;> decide
theorem zz_lt0 {a : Nat} (h : a < 2 ^ 31) : nI a < 0 ↔ False := ⟨fun q => nI_pos h q, False.elim⟩
theorem zz_ge0 {a : Nat} (h : a < 2 ^ 31) : 0 ≤ nI a ↔ True := ⟨fun _ => trivial, fun _ => nI_pos' h⟩
theorem zz_gt0 {a : Nat} (h : a < 2 ^ 31) : 0 < nI a ↔ 0 < a := by
  have h9 := nI_ltI (a := 0) (b := a) (by omega) h
  rw [nI_0] at h9
  exact h9
theorem zz_le0 {a : Nat} (h : a < 2 ^ 31) : nI a ≤ 0 ↔ a = 0 := by
  have h9 := nI_leI (a := a) (b := 0) h (by omega)
  rw [nI_0] at h9
  rw [h9]
  omega
theorem zz_eq0 {a : Nat} (h : a < 2 ^ 31) : nI a = 0 ↔ a = 0 := by
  have h9 := nI_eq (a := a) (b := 0) h (by omega)
  rw [nI_0] at h9
  exact h9
theorem zz_m1lt : (-1 : Int32) < 0 ↔ True := by decide
theorem zz_m1ge : (0 : Int32) ≤ -1 ↔ False := by decide
theorem zz_m1eq {a : Nat} (h : a < 2 ^ 31) : nI a = -1 ↔ False := ⟨fun q => by
  have h9 := nI_pos h
  rw [q] at h9
  exact h9 (by decide), False.elim⟩
section VN2
variable {G : GG} {i : MM} {pc : Nat} {lv : List (Nat × Value)} {st : List Value} {h : HH} {c s : Nat} {Q Q' : Option Value → HH → Prop}
theorem V.iaddN {a b : Nat} (hd : decode (m_C i) pc = .ok (.iadd, 1)) (kk : V G i (pc + 1) lv (.int (nI (a + b)) :: st) h c s Q) : V G i pc lv (.int (nI b) :: .int (nI a) :: st) h c s Q :=
  V.iadd hd (by rw [nI_add]; exact kk)
theorem V.isubN {a b : Nat} (hd : decode (m_C i) pc = .ok (.isub, 1)) (hab : b ≤ a) (kk : V G i (pc + 1) lv (.int (nI (a - b)) :: st) h c s Q) : V G i pc lv (.int (nI b) :: .int (nI a) :: st) h c s Q :=
  V.isub hd (by rw [pk_sub hab]; exact kk)
theorem V.imulN {a b : Nat} (hd : decode (m_C i) pc = .ok (.imul, 1)) (kk : V G i (pc + 1) lv (.int (nI (a * b)) :: st) h c s Q) : V G i pc lv (.int (nI b) :: .int (nI a) :: st) h c s Q :=
  V.imul hd (by rw [pk_mul]; exact kk)
theorem V.iincN {n a : Nat} (hd : decode (m_C i) pc = .ok (.iinc n 1, 3)) (hv : l_at lv n = some (.int (nI a))) (hn : n < m_L i) (kk : V G i (pc + 3) (l_set lv n (.int (nI (a + 1)))) st h c s Q) : V G i pc lv st h c s Q :=
  V.iinc hd hv (by rw [show Int32.ofInt 1 = 1 by decide]; exact nI_1 a) hn kk
theorem V.iincM {n a : Nat} (hd : decode (m_C i) pc = .ok (.iinc n (-1), 3)) (hv : l_at lv n = some (.int (nI (a + 1)))) (hn : n < m_L i) (kk : V G i (pc + 3) (l_set lv n (.int (nI a))) st h c s Q) : V G i pc lv st h c s Q :=
  V.iinc hd hv (by rw [show Int32.ofInt (-1) = -1 by decide]; exact pk_m1 a) hn kk
theorem V.getk {a idx k kd : Nat} {v : Value} (hd : decode (m_C i) pc = .ok (.getfield idx, 3)) (ha : g_0 G ≤ a ∧ a < h.2.2) (hk : (h.1 a).1 = kd) (hf : f_ok (m_Y i).cls idx kd k) (hv : h.2.1 a k = v) (kk : V G i (pc + 3) lv (v :: st) h c s Q) : V G i pc lv (.ref a :: st) h c s Q :=
  V.getf hd ha (by rw [hk]; exact hf) hv kk
theorem V.putk {a idx k kd : Nat} {v : Value} {ty : FieldType} (hd : decode (m_C i) pc = .ok (.putfield idx, 3)) (ha : g_0 G ≤ a ∧ a < h.2.2) (hk : (h.1 a).1 = kd) (hf : p_ok (m_Y i).cls idx kd k ty ((m_Y i).name = "<init>")) (hn : narrow ty v = v) (hfit : fits ty v = true) (kk : ∀ h', h' = h_put h a k v → V G i (pc + 3) lv st h' c s Q) : V G i pc lv (v :: .ref a :: st) h c s Q :=
  V.putf hd ha (by rw [hk]; exact hf) hn hfit (kk _ rfl)
theorem V.callVk {j : MM} {n idx b kd : Nat} {r : vw_C} (c1 c2 s1 s2 : Nat) (As : List Value) {rest st0 : List Value} (hd : decode (m_C i) pc = .ok (.invokevirtual idx, 3)) (hj : m_ok j n) (hk : n_ok (m_Y i).cls idx j) (hb : g_0 G ≤ b ∧ b < h.2.2) (hkb : (h.1 b).1 = kd) (hkd : vwCl[kd]? = some r) (him : Cond.instanceMethod (m_Y j) ∈ tb) (hse : Cond.selects r.1 (m_Y j) (m_Y j) ∈ tb) (hD : m_D j < m_D i) (hW : 19 + m_L j + m_W j ≤ m_W i) (hst : st0 = As.reverse ++ .ref b :: rest) (hn : As.length = n) (hl : (lg_sl (.ref b :: As)).length ≤ m_L j) (hw : (rest.map fun v => v.category).sum ≤ 8) (hc : c1 + c2 ≤ c) (hs : s1 + s2 ≤ s)
    (kk : V G j 0 (lv_args 0 (.ref b :: As)) [] h c1 s1 (fun r h' => V G i (pc + 3) lv (r.toList ++ rest) h' c2 s2 Q)) : V G i pc lv st0 h c s Q :=
  V.callV c1 c2 s1 s2 As hd hj hk hb (by rw [hkb]; exact hkd) him hse hD hW hst hn hl hw hc hs kk
theorem V.callUk {j : MM} {n idx b kd : Nat} {r : vw_C} (c1 c2 s1 s2 : Nat) (As : List Value) {rest st0 : List Value} {x : MethodName} (hd : decode (m_C i) pc = .ok (.invokevirtual idx, 3)) (hj : m_ok j n) (hw1 : Cond.methodLink (m_Y i).cls idx x ∈ tb) (hw2 : Cond.sameMethod x.cls (m_Y j).cls x.name x.desc ∈ tb) (hxy : m_Y j = ⟨(m_Y j).cls, x.name, x.desc⟩) (hb : g_0 G ≤ b ∧ b < h.2.2) (hkb : (h.1 b).1 = kd) (hkd : vwCl[kd]? = some r) (him : Cond.instanceMethod (m_Y j) ∈ tb) (hse : Cond.selects r.1 x (m_Y j) ∈ tb) (hD : m_D j < m_D i) (hW : 19 + m_L j + m_W j ≤ m_W i) (hst : st0 = As.reverse ++ .ref b :: rest) (hn : As.length = n) (hl : (lg_sl (.ref b :: As)).length ≤ m_L j) (hw : (rest.map fun v => v.category).sum ≤ 8) (hc : c1 + c2 ≤ c) (hs : s1 + s2 ≤ s)
    (kk : V G j 0 (lv_args 0 (.ref b :: As)) [] h c1 s1 (fun r h' => V G i (pc + 3) lv (r.toList ++ rest) h' c2 s2 Q)) : V G i pc lv st0 h c s Q :=
  V.callU c1 c2 s1 s2 As hd hj hw1 hw2 hxy hb (by rw [hkb]; exact hkd) him hse hD hW hst hn hl hw hc hs kk
theorem V.alenN {a kd n : Nat} {ty : FieldType} (hd : decode (m_C i) pc = .ok (.arraylength, 1)) (ha : g_0 G ≤ a ∧ a < h.2.2) (hk : h.1 a = (kd, n)) (ht : k_ty kd = some ty) (kk : V G i (pc + 1) lv (.int (nI n) :: st) h c s Q) : V G i pc lv (.ref a :: st) h c s Q :=
  V.alen hd ha (by rw [hk]; exact ht) (by rw [hk]) kk
theorem V.ialoadN {a j n : Nat} {v : Value} (hd : decode (m_C i) pc = .ok (.iaload, 1)) (ha : g_0 G ≤ a ∧ a < h.2.2) (hk : h.1 a = (104, n)) (hj : j < n ∧ n < 2 ^ 31) (hv : h.2.1 a j = v) (kk : V G i (pc + 1) lv (v :: st) h c s Q) : V G i pc lv (.int (nI j) :: .ref a :: st) h c s Q :=
  V.iaload hd ha (by rw [hk]; rfl) (by rw [hk]; exact vp_in_nI hj.1 hj.2) (by rw [nI_clamp (by omega)]; exact hv) kk
theorem V.caloadN {a j n : Nat} {v : Value} (hd : decode (m_C i) pc = .ok (.caload, 1)) (ha : g_0 G ≤ a ∧ a < h.2.2) (hk : h.1 a = (101, n)) (hj : j < n ∧ n < 2 ^ 31) (hv : h.2.1 a j = v) (kk : V G i (pc + 1) lv (v :: st) h c s Q) : V G i pc lv (.int (nI j) :: .ref a :: st) h c s Q :=
  V.caload hd ha (by rw [hk]; rfl) (by rw [hk]; exact vp_in_nI hj.1 hj.2) (by rw [nI_clamp (by omega)]; exact hv) kk
theorem V.baloadN {a j n : Nat} {v : Value} (hd : decode (m_C i) pc = .ok (.baload, 1)) (ha : g_0 G ≤ a ∧ a < h.2.2) (hk : h.1 a = (102, n)) (hj : j < n ∧ n < 2 ^ 31) (hv : h.2.1 a j = v) (kk : V G i (pc + 1) lv (v :: st) h c s Q) : V G i pc lv (.int (nI j) :: .ref a :: st) h c s Q :=
  V.baload hd ha (by rw [hk]; rfl) (by rw [hk]; exact vp_in_nI hj.1 hj.2) (by rw [nI_clamp (by omega)]; exact hv) kk
theorem V.saloadN {a j n : Nat} {v : Value} (hd : decode (m_C i) pc = .ok (.saload, 1)) (ha : g_0 G ≤ a ∧ a < h.2.2) (hk : h.1 a = (103, n)) (hj : j < n ∧ n < 2 ^ 31) (hv : h.2.1 a j = v) (kk : V G i (pc + 1) lv (v :: st) h c s Q) : V G i pc lv (.int (nI j) :: .ref a :: st) h c s Q :=
  V.saload hd ha (by rw [hk]; rfl) (by rw [hk]; exact vp_in_nI hj.1 hj.2) (by rw [nI_clamp (by omega)]; exact hv) kk
theorem V.iastoreN {a j n : Nat} {x : Int32} {v : Value} (hd : decode (m_C i) pc = .ok (.iastore, 1)) (ha : g_0 G ≤ a ∧ a < h.2.2) (hk : h.1 a = (104, n)) (hj : j < n ∧ n < 2 ^ 31) (hv : .int x = v) (kk : ∀ h', h' = h_put h a j v → V G i (pc + 1) lv st h' c s Q) : V G i pc lv (.int x :: .int (nI j) :: .ref a :: st) h c s Q :=
  V.iastore hd ha (by rw [hk]; rfl) (by rw [hk]; exact vp_in_nI hj.1 hj.2) hv (by rw [nI_clamp (by omega)]; exact kk _ rfl)
theorem V.castoreN {a j n : Nat} {x : Int32} {v : Value} (hd : decode (m_C i) pc = .ok (.castore, 1)) (ha : g_0 G ≤ a ∧ a < h.2.2) (hk : h.1 a = (101, n)) (hj : j < n ∧ n < 2 ^ 31) (hv : narrow .char (.int x) = v) (kk : ∀ h', h' = h_put h a j v → V G i (pc + 1) lv st h' c s Q) : V G i pc lv (.int x :: .int (nI j) :: .ref a :: st) h c s Q :=
  V.castore hd ha (by rw [hk]; rfl) (by rw [hk]; exact vp_in_nI hj.1 hj.2) hv (by rw [nI_clamp (by omega)]; exact kk _ rfl)
theorem V.bastoreN {a j n : Nat} {x : Int32} {v : Value} (hd : decode (m_C i) pc = .ok (.bastore, 1)) (ha : g_0 G ≤ a ∧ a < h.2.2) (hk : h.1 a = (102, n)) (hj : j < n ∧ n < 2 ^ 31) (hv : narrow .byte (.int x) = v) (kk : ∀ h', h' = h_put h a j v → V G i (pc + 1) lv st h' c s Q) : V G i pc lv (.int x :: .int (nI j) :: .ref a :: st) h c s Q :=
  V.bastore hd ha (by rw [hk]; rfl) (by rw [hk]; exact vp_in_nI hj.1 hj.2) hv (by rw [nI_clamp (by omega)]; exact kk _ rfl)
theorem V.sastoreN {a j n : Nat} {x : Int32} {v : Value} (hd : decode (m_C i) pc = .ok (.sastore, 1)) (ha : g_0 G ≤ a ∧ a < h.2.2) (hk : h.1 a = (103, n)) (hj : j < n ∧ n < 2 ^ 31) (hv : narrow .short (.int x) = v) (kk : ∀ h', h' = h_put h a j v → V G i (pc + 1) lv st h' c s Q) : V G i pc lv (.int x :: .int (nI j) :: .ref a :: st) h c s Q :=
  V.sastore hd ha (by rw [hk]; rfl) (by rw [hk]; exact vp_in_nI hj.1 hj.2) hv (by rw [nI_clamp (by omega)]; exact kk _ rfl)
theorem V.re {lv' : List (Nat × Value)} (ks : List Nat) (hl : ks.filterMap (fun n => (l_at lv n).map (fun v => (n, v))) = lv') (kk : V G i pc lv' st h c s Q) : V G i pc lv st h c s Q := by
  intro X C E H locs cells slots ls hR hL hlv h1 h2
  refine kk X C E H locs cells slots ls hR hL ⟨hlv.1, hlv.2.1, fun q hq => ?_⟩ h1 h2
  rw [← hl] at hq
  obtain ⟨n, -, hn⟩ := List.mem_filterMap.mp hq
  cases hv : l_at lv n with
  | none => rw [hv] at hn; cases hn
  | some v =>
    rw [hv] at hn
    cases hn
    exact l_get hlv hv
end VN2
/-! heaps after a store, by places -/
theorem hp_k {h : HH} {a k : Nat} {v : Value} : (h_put h a k v).1 = h.1 := rfl
theorem hp_z {h : HH} {a k : Nat} {v : Value} : (h_put h a k v).2.2 = h.2.2 := rfl
theorem hp_eq {h : HH} {a k : Nat} {v : Value} : (h_put h a k v).2.1 a k = v := by show (if a = a ∧ k = k then v else _) = v; simp
theorem hp_ne {h : HH} {a k b j : Nat} {v : Value} (e : ¬ (b = a ∧ j = k)) : (h_put h a k v).2.1 b j = h.2.1 b j := by show (if b = a ∧ j = k then v else _) = _; rw [if_neg e]
theorem hp_a {h : HH} {a k b j : Nat} {v : Value} (e : b ≠ a) : (h_put h a k v).2.1 b j = h.2.1 b j := hp_ne (fun q => e q.1)
theorem hp_j {h : HH} {a k b j : Nat} {v : Value} (e : j ≠ k) : (h_put h a k v).2.1 b j = h.2.1 b j := hp_ne (fun q => e q.2)
end
section
/-! THE SPECIFICATION: a tree by numbers (kinds, parents, lengths of names, names), a path, and what the calls ask of them -/
abbrev TT : Type := (Nat → Nat) × (Nat → Nat) × (Nat → Nat) × (Nat → Nat → Nat)
/-- the place behind the last slash -/
def s_last (p : Nat → Nat) : Nat → Nat
  | 0 => 0
  | k + 1 => if p k = 47 then k + 1 else s_last p k
theorem s_last_le (p : Nat → Nat) : ∀ n, s_last p n ≤ n
  | 0 => Nat.le_refl 0
  | k + 1 => by
    unfold s_last
    split
    · exact Nat.le_refl _
    · exact Nat.le_succ_of_le (s_last_le p k)
theorem s_last_slash (p : Nat → Nat) : ∀ n, 0 < s_last p n → p (s_last p n - 1) = 47
  | 0 => fun h => absurd h (Nat.lt_irrefl 0)
  | k + 1 => by
    unfold s_last
    split
    · intro _; assumption
    · exact s_last_slash p k
abbrev s_mt (T : TT) (p : Nat → Nat) (d a b e : Nat) : Prop := (1 ≤ e ∧ T.1 e ≠ 0 ∧ T.2.1 e = d ∧ T.2.2.1 e = b - a) ∧ ∀ k, k < b - a → T.2.2.2 e k = p (a + k)
/-- the entry of directory d that the characters a .. b - 1 of the path name -/
def s_ent (T : TT) (p : Nat → Nat) (d a b : Nat) : Option Nat := (List.range 300).find? (fun e => decide (s_mt T p d a b e))
theorem s_ent_some {T : TT} {p : Nat → Nat} {d a b e : Nat} (h : s_ent T p d a b = some e) : e < 300 ∧ s_mt T p d a b e := by
  unfold s_ent at h
  refine ⟨List.mem_range.mp (List.mem_of_find?_eq_some h), ?_⟩
  have h2 := List.find?_some h
  exact of_decide_eq_true h2
theorem s_ent_none {T : TT} {p : Nat → Nat} {d a b : Nat} (h : ∀ e, e < 300 → ¬ s_mt T p d a b e) : s_ent T p d a b = none := by
  unfold s_ent
  rw [List.find?_eq_none]
  intro e he q
  exact h e (List.mem_range.mp he) (of_decide_eq_true q)
theorem find_range {P : Nat → Bool} {n e : Nat} (he : e < n) (h1 : P e = true) (h2 : ∀ k, k < e → P k = false) : (List.range n).find? P = some e := by
  induction n with
  | zero => omega
  | succ n ih =>
    rw [List.range_succ, List.find?_append]
    by_cases h : e < n
    · rw [ih h]; rfl
    · have : e = n := by omega
      subst this
      have : (List.range e).find? P = none := by
        rw [List.find?_eq_none]
        intro k hk q
        rw [h2 k (List.mem_range.mp hk)] at q
        cases q
      rw [this]
      simp [h1]
theorem s_ent_first {T : TT} {p : Nat → Nat} {d a b e : Nat} (he : e < 300) (h : s_mt T p d a b e) (hf : ∀ k, k < e → ¬ s_mt T p d a b k) : s_ent T p d a b = some e :=
  find_range he (decide_eq_true h) (fun k hk => decide_eq_false (hf k hk))
/-- one name from an entry -/
def s_along (T : TT) (p : Nat → Nat) (e a b : Nat) : Option Nat :=
  if a = b then some e else if T.1 e ≠ 2 then none else if b - a = 1 ∧ p a = 46 then some e else if b - a = 2 ∧ p a = 46 ∧ p (a + 1) = 46 then some (T.2.1 e) else s_ent T p e a b
/-- the path's characters from 'from' on, r of them behind 'at', from an entry -/
def s_w (T : TT) (p : Nat → Nat) : Nat → Nat → Nat → Nat → Option Nat
  | 0, x, f, e => s_along T p e f x
  | r + 1, x, f, e => if p x = 47 then (match s_along T p e f x with | none => none | some e' => s_w T p r (x + 1) (x + 1) e') else s_w T p r (x + 1) f e
def s_lead0 (T : TT) (p : Nat → Nat) (hand n : Nat) : Option Nat := s_w T p n 0 0 (if p 0 = 47 then 0 else hand)
def s_lead (T : TT) (p : Nat → Nat) (hand n : Nat) : Option Nat := if n = 0 then none else match s_lead0 T p hand n with
  | none => none
  | some e => if p (n - 1) = 47 ∧ T.1 e ≠ 2 then none else some e
def s_dir (T : TT) (r : Option Nat) : Option Nat := match r with
  | none => none
  | some e => if T.1 e = 2 then some e else none
def s_home (T : TT) (p : Nat → Nat) (hand len : Nat) : Option Nat := if s_last p len = 0 then some hand else s_dir T (s_lead0 T p hand (s_last p len - 1))
abbrev s_isName (p : Nat → Nat) (len : Nat) : Prop := 1 ≤ len - s_last p len ∧ len - s_last p len ≤ 60 ∧ ¬ (len - s_last p len = 1 ∧ p (s_last p len) = 46) ∧ ¬ (len - s_last p len = 2 ∧ p (s_last p len) = 46 ∧ p (s_last p len + 1) = 46)
/-- one name comes before another -/
def s_lt (n1 : Nat → Nat) (l1 : Nat) (n2 : Nat → Nat) (l2 : Nat) : Prop := ∃ x, x ≤ l1 ∧ x < l2 ∧ (∀ k, k < x → n1 k = n2 k) ∧ (x = l1 ∨ n1 x < n2 x)
/-- a number less one -/
def lm (k : Nat) : Int32 := nI k - 1
theorem lm_s (k : Nat) : lm (k + 1) = nI k := nI_pred k
theorem lm_0 : lm 0 = -1 := by decide
theorem lm_add (k : Nat) : lm k + nI 1 = nI k := by
  cases k with
  | zero => decide
  | succ k => rw [lm_s, nI_add]
theorem zz_lm {k : Nat} (h : k < 2 ^ 31) : lm k < 0 ↔ k = 0 := by
  cases k with
  | zero => rw [lm_0]; decide
  | succ k => rw [lm_s, zz_lt0 (by omega)]; exact ⟨False.elim, fun q => by omega⟩
/-- the answer of a search: a number, or -1 -/
def oI (r : Option Nat) : Int32 := match r with
  | none => -1
  | some e => nI e
end
section
theorem bI_t {P : Prop} [Decidable P] (h : P) : bI (decide P) = nI 1 := by rw [decide_eq_true h]; decide
theorem bI_f {P : Prop} [Decidable P] (h : ¬ P) : bI (decide P) = nI 0 := by rw [decide_eq_false h]; decide
/-- a PathText at t, its characters at t + 1: the path p, of len characters -/
def TX (G : GG) (h : HH) (t : Nat) (p : Nat → Nat) (len : Nat) : Prop :=
  (g_0 G ≤ t ∧ t < h.2.2) ∧ (h.1 t).1 = 1 ∧ h.2.1 t 0 = .ref (t + 1) ∧ h.2.1 t 1 = .int (nI len) ∧ (g_0 G ≤ t + 1 ∧ t + 1 < h.2.2) ∧ h.1 (t + 1) = (101, 250) ∧ (∀ j, j < len → h.2.1 (t + 1) j = .int (nI (p j))) ∧ len ≤ 250 ∧ ∀ j, j < len → p j < 256
set_option maxHeartbeats 4000000 in
set_option maxRecDepth 100000 in
/-- PathText.is -/
theorem k_is {G : GG} {h : HH} {t : Nat} {p : Nat → Nat} {len : Nat} {Q : Option Value → HH → Prop} {k cc : Nat} (hT : TX G h t p len) (hk : k < 2 ^ 31) (hc : cc < 256) (hQ : Q (some (.int (bI (decide (k < len ∧ p k = cc))))) h) : V G mT_is 0 (lv_args 0 [.ref t, .int (nI cc), .int (nI k)]) [] h 0 0 Q := by
  obtain ⟨ht, htk, hca, hln, hcs, hck, hch, hl2, hp⟩ := id hT
  refine V.iload_n dT_is_0 rfl ?_
  refine V.if_lt (tgt := 26) dT_is_1 (by decide) (fun c_1 => ?_) (fun c_1 => ?_)
  · try simp (disch := omega) only [nI_ltI, nI_leI, nI_eq, zz_lt0, zz_ge0, zz_gt0, zz_le0, zz_eq0, zz_m1lt, zz_m1ge, zz_m1eq, bI_eq0, decide_eq_false_iff_not, decide_eq_true_eq, Decidable.not_not, not_true_eq_false, not_false_eq_true, Nat.not_lt, Nat.not_le, Bool.not_eq_false, Bool.not_eq_true] at c_1
    
  · try simp (disch := omega) only [nI_ltI, nI_leI, nI_eq, zz_lt0, zz_ge0, zz_gt0, zz_le0, zz_eq0, zz_m1lt, zz_m1ge, zz_m1eq, bI_eq0, decide_eq_false_iff_not, decide_eq_true_eq, Decidable.not_not, not_true_eq_false, not_false_eq_true, Nat.not_lt, Nat.not_le, Bool.not_eq_false, Bool.not_eq_true] at c_1
    refine V.iload_n dT_is_4 rfl ?_
    first | refine V.aload_n dT_is_5 rfl ?_ | refine V.aload_nN dT_is_5 rfl ?_
    refine V.getk dT_is_6 (by assumption) (by assumption) f_T_13_1 (by assumption) ?_
    refine V.icmp_ge (tgt := 26) dT_is_9 (by decide) (fun c_9 => ?_) (fun c_9 => ?_)
    · try simp (disch := omega) only [nI_ltI, nI_leI, nI_eq, zz_lt0, zz_ge0, zz_gt0, zz_le0, zz_eq0, zz_m1lt, zz_m1ge, zz_m1eq, bI_eq0, decide_eq_false_iff_not, decide_eq_true_eq, Decidable.not_not, not_true_eq_false, not_false_eq_true, Nat.not_lt, Nat.not_le, Bool.not_eq_false, Bool.not_eq_true] at c_9
      refine V.iconst (v := (nI 0)) dT_is_26 (by decide) ?_
      refine V.ireturn dT_is_27 rfl rfl ?_
      first | (rw [bI_t (by omega)] at hQ; exact hQ) | (rw [bI_f (by omega)] at hQ; exact hQ)
    · try simp (disch := omega) only [nI_ltI, nI_leI, nI_eq, zz_lt0, zz_ge0, zz_gt0, zz_le0, zz_eq0, zz_m1lt, zz_m1ge, zz_m1eq, bI_eq0, decide_eq_false_iff_not, decide_eq_true_eq, Decidable.not_not, not_true_eq_false, not_false_eq_true, Nat.not_lt, Nat.not_le, Bool.not_eq_false, Bool.not_eq_true] at c_9
      first | refine V.aload_n dT_is_12 rfl ?_ | refine V.aload_nN dT_is_12 rfl ?_
      refine V.getk dT_is_13 (by assumption) (by assumption) f_T_9_1 (by assumption) ?_
      refine V.iload_n dT_is_16 rfl ?_
      have hpk := hp k (by omega)
      refine V.caloadN dT_is_17 (by assumption) (by assumption) (by omega) (hch k (by omega)) ?_
      refine V.iload_n dT_is_18 rfl ?_
      refine V.icmp_ne (tgt := 26) dT_is_19 (by decide) (fun c_19 => ?_) (fun c_19 => ?_)
      · try simp (disch := omega) only [nI_ltI, nI_leI, nI_eq, zz_lt0, zz_ge0, zz_gt0, zz_le0, zz_eq0, zz_m1lt, zz_m1ge, zz_m1eq, bI_eq0, decide_eq_false_iff_not, decide_eq_true_eq, Decidable.not_not, not_true_eq_false, not_false_eq_true, Nat.not_lt, Nat.not_le, Bool.not_eq_false, Bool.not_eq_true] at c_19
        refine V.iconst (v := (nI 0)) dT_is_26 (by decide) ?_
        refine V.ireturn dT_is_27 rfl rfl ?_
        first | (rw [bI_t (by omega)] at hQ; exact hQ) | (rw [bI_f (by omega)] at hQ; exact hQ)
      · try simp (disch := omega) only [nI_ltI, nI_leI, nI_eq, zz_lt0, zz_ge0, zz_gt0, zz_le0, zz_eq0, zz_m1lt, zz_m1ge, zz_m1eq, bI_eq0, decide_eq_false_iff_not, decide_eq_true_eq, Decidable.not_not, not_true_eq_false, not_false_eq_true, Nat.not_lt, Nat.not_le, Bool.not_eq_false, Bool.not_eq_true] at c_19
        refine V.iconst (v := (nI 1)) dT_is_22 (by decide) ?_
        refine V.goto (tgt := 27) dT_is_23 (by decide) ?_
        refine V.ireturn dT_is_27 rfl rfl ?_
        first | (rw [bI_t (by omega)] at hQ; exact hQ) | (rw [bI_f (by omega)] at hQ; exact hQ)
set_option maxHeartbeats 4000000 in
set_option maxRecDepth 100000 in
/-- PathText.isSlash -/
theorem k_isSlash {G : GG} {h : HH} {t : Nat} {p : Nat → Nat} {len : Nat} {Q : Option Value → HH → Prop} {k : Nat} (hT : TX G h t p len) (hk : k < 2 ^ 31) (hQ : Q (some (.int (bI (decide (k < len ∧ p k = 47))))) h) : V G mT_isSlash 0 (lv_args 0 [.ref t, .int (nI k)]) [] h 0 0 Q := by
  obtain ⟨ht, htk, hca, hln, hcs, hck, hch, hl2, hp⟩ := id hT
  first | refine V.aload_n dT_isSlash_0 rfl ?_ | refine V.aload_nN dT_isSlash_0 rfl ?_
  refine V.bipush (v := (nI 47)) dT_isSlash_1 (by decide) ?_
  refine V.iload_n dT_isSlash_3 rfl ?_
  refine V.callVk (kd := 1) 0 _ 0 _ [_, _] dT_isSlash_4 okT_is n_T_27 (by assumption) (by assumption) rfl imT_is seT_is_T (by decide) (by decide) rfl rfl (Nat.le_of_ble_eq_true rfl) (Nat.le_of_ble_eq_true rfl) (Nat.le_of_eq (Nat.zero_add _)) (Nat.le_of_eq (Nat.zero_add _)) (k_is hT hk (by decide) ?_)
  exact V.ireturn dT_isSlash_7 rfl bI_nar hQ
set_option maxHeartbeats 4000000 in
set_option maxRecDepth 100000 in
/-- PathText.isDot -/
theorem k_isDot {G : GG} {h : HH} {t : Nat} {p : Nat → Nat} {len : Nat} {Q : Option Value → HH → Prop} {a b : Nat} (hT : TX G h t p len) (ha : a ≤ b) (hb : b ≤ len) (hQ : Q (some (.int (bI (decide (b - a = 1 ∧ p a = 46))))) h) : V G mT_isDot 0 (lv_args 0 [.ref t, .int (nI a), .int (nI b)]) [] h 0 0 Q := by
  obtain ⟨ht, htk, hca, hln, hcs, hck, hch, hl2, hp⟩ := id hT
  refine V.iload_n dT_isDot_0 rfl ?_
  refine V.iload_n dT_isDot_1 rfl ?_
  refine V.isubN dT_isDot_2 (by omega) ?_
  refine V.iconst (v := (nI 1)) dT_isDot_3 (by decide) ?_
  refine V.icmp_ne (tgt := 21) dT_isDot_4 (by decide) (fun c_4 => ?_) (fun c_4 => ?_)
  · try simp (disch := omega) only [nI_ltI, nI_leI, nI_eq, zz_lt0, zz_ge0, zz_gt0, zz_le0, zz_eq0, zz_m1lt, zz_m1ge, zz_m1eq, bI_eq0, decide_eq_false_iff_not, decide_eq_true_eq, Decidable.not_not, not_true_eq_false, not_false_eq_true, Nat.not_lt, Nat.not_le, Bool.not_eq_false, Bool.not_eq_true] at c_4
    refine V.iconst (v := (nI 0)) dT_isDot_21 (by decide) ?_
    refine V.ireturn dT_isDot_22 rfl rfl ?_
    first | (rw [bI_t (by omega)] at hQ; exact hQ) | (rw [bI_f (by omega)] at hQ; exact hQ)
  · try simp (disch := omega) only [nI_ltI, nI_leI, nI_eq, zz_lt0, zz_ge0, zz_gt0, zz_le0, zz_eq0, zz_m1lt, zz_m1ge, zz_m1eq, bI_eq0, decide_eq_false_iff_not, decide_eq_true_eq, Decidable.not_not, not_true_eq_false, not_false_eq_true, Nat.not_lt, Nat.not_le, Bool.not_eq_false, Bool.not_eq_true] at c_4
    first | refine V.aload_n dT_isDot_7 rfl ?_ | refine V.aload_nN dT_isDot_7 rfl ?_
    refine V.bipush (v := (nI 46)) dT_isDot_8 (by decide) ?_
    refine V.iload_n dT_isDot_10 rfl ?_
    refine V.callVk (kd := 1) 0 _ 0 _ [_, _] dT_isDot_11 okT_is n_T_27 (by assumption) (by assumption) rfl imT_is seT_is_T (by decide) (by decide) rfl rfl (Nat.le_of_ble_eq_true rfl) (Nat.le_of_ble_eq_true rfl) (Nat.le_of_eq (Nat.zero_add _)) (Nat.le_of_eq (Nat.zero_add _)) (k_is hT (by omega) (by decide) ?_)
    refine V.if_eq (tgt := 21) dT_isDot_14 (by decide) (fun c_14 => ?_) (fun c_14 => ?_)
    · try simp (disch := omega) only [nI_ltI, nI_leI, nI_eq, zz_lt0, zz_ge0, zz_gt0, zz_le0, zz_eq0, zz_m1lt, zz_m1ge, zz_m1eq, bI_eq0, decide_eq_false_iff_not, decide_eq_true_eq, Decidable.not_not, not_true_eq_false, not_false_eq_true, Nat.not_lt, Nat.not_le, Bool.not_eq_false, Bool.not_eq_true] at c_14
      refine V.iconst (v := (nI 0)) dT_isDot_21 (by decide) ?_
      refine V.ireturn dT_isDot_22 rfl rfl ?_
      first | (rw [bI_t (by omega)] at hQ; exact hQ) | (rw [bI_f (by omega)] at hQ; exact hQ)
    · try simp (disch := omega) only [nI_ltI, nI_leI, nI_eq, zz_lt0, zz_ge0, zz_gt0, zz_le0, zz_eq0, zz_m1lt, zz_m1ge, zz_m1eq, bI_eq0, decide_eq_false_iff_not, decide_eq_true_eq, Decidable.not_not, not_true_eq_false, not_false_eq_true, Nat.not_lt, Nat.not_le, Bool.not_eq_false, Bool.not_eq_true] at c_14
      refine V.iconst (v := (nI 1)) dT_isDot_17 (by decide) ?_
      refine V.goto (tgt := 22) dT_isDot_18 (by decide) ?_
      refine V.ireturn dT_isDot_22 rfl rfl ?_
      first | (rw [bI_t (by omega)] at hQ; exact hQ) | (rw [bI_f (by omega)] at hQ; exact hQ)
set_option maxHeartbeats 4000000 in
set_option maxRecDepth 100000 in
/-- PathText.isDotDot -/
theorem k_isDotDot {G : GG} {h : HH} {t : Nat} {p : Nat → Nat} {len : Nat} {Q : Option Value → HH → Prop} {a b : Nat} (hT : TX G h t p len) (ha : a ≤ b) (hb : b ≤ len) (hQ : Q (some (.int (bI (decide (b - a = 2 ∧ p a = 46 ∧ p (a + 1) = 46))))) h) : V G mT_isDotDot 0 (lv_args 0 [.ref t, .int (nI a), .int (nI b)]) [] h 0 0 Q := by
  obtain ⟨ht, htk, hca, hln, hcs, hck, hch, hl2, hp⟩ := id hT
  refine V.iload_n dT_isDotDot_0 rfl ?_
  refine V.iload_n dT_isDotDot_1 rfl ?_
  refine V.isubN dT_isDotDot_2 (by omega) ?_
  refine V.iconst (v := (nI 2)) dT_isDotDot_3 (by decide) ?_
  refine V.icmp_ne (tgt := 33) dT_isDotDot_4 (by decide) (fun c_4 => ?_) (fun c_4 => ?_)
  · try simp (disch := omega) only [nI_ltI, nI_leI, nI_eq, zz_lt0, zz_ge0, zz_gt0, zz_le0, zz_eq0, zz_m1lt, zz_m1ge, zz_m1eq, bI_eq0, decide_eq_false_iff_not, decide_eq_true_eq, Decidable.not_not, not_true_eq_false, not_false_eq_true, Nat.not_lt, Nat.not_le, Bool.not_eq_false, Bool.not_eq_true] at c_4
    refine V.iconst (v := (nI 0)) dT_isDotDot_33 (by decide) ?_
    refine V.ireturn dT_isDotDot_34 rfl rfl ?_
    first | (rw [bI_t (by omega)] at hQ; exact hQ) | (rw [bI_f (by omega)] at hQ; exact hQ)
  · try simp (disch := omega) only [nI_ltI, nI_leI, nI_eq, zz_lt0, zz_ge0, zz_gt0, zz_le0, zz_eq0, zz_m1lt, zz_m1ge, zz_m1eq, bI_eq0, decide_eq_false_iff_not, decide_eq_true_eq, Decidable.not_not, not_true_eq_false, not_false_eq_true, Nat.not_lt, Nat.not_le, Bool.not_eq_false, Bool.not_eq_true] at c_4
    first | refine V.aload_n dT_isDotDot_7 rfl ?_ | refine V.aload_nN dT_isDotDot_7 rfl ?_
    refine V.bipush (v := (nI 46)) dT_isDotDot_8 (by decide) ?_
    refine V.iload_n dT_isDotDot_10 rfl ?_
    refine V.callVk (kd := 1) 0 _ 0 _ [_, _] dT_isDotDot_11 okT_is n_T_27 (by assumption) (by assumption) rfl imT_is seT_is_T (by decide) (by decide) rfl rfl (Nat.le_of_ble_eq_true rfl) (Nat.le_of_ble_eq_true rfl) (Nat.le_of_eq (Nat.zero_add _)) (Nat.le_of_eq (Nat.zero_add _)) (k_is hT (by omega) (by decide) ?_)
    refine V.if_eq (tgt := 33) dT_isDotDot_14 (by decide) (fun c_14 => ?_) (fun c_14 => ?_)
    · try simp (disch := omega) only [nI_ltI, nI_leI, nI_eq, zz_lt0, zz_ge0, zz_gt0, zz_le0, zz_eq0, zz_m1lt, zz_m1ge, zz_m1eq, bI_eq0, decide_eq_false_iff_not, decide_eq_true_eq, Decidable.not_not, not_true_eq_false, not_false_eq_true, Nat.not_lt, Nat.not_le, Bool.not_eq_false, Bool.not_eq_true] at c_14
      refine V.iconst (v := (nI 0)) dT_isDotDot_33 (by decide) ?_
      refine V.ireturn dT_isDotDot_34 rfl rfl ?_
      first | (rw [bI_t (by omega)] at hQ; exact hQ) | (rw [bI_f (by omega)] at hQ; exact hQ)
    · try simp (disch := omega) only [nI_ltI, nI_leI, nI_eq, zz_lt0, zz_ge0, zz_gt0, zz_le0, zz_eq0, zz_m1lt, zz_m1ge, zz_m1eq, bI_eq0, decide_eq_false_iff_not, decide_eq_true_eq, Decidable.not_not, not_true_eq_false, not_false_eq_true, Nat.not_lt, Nat.not_le, Bool.not_eq_false, Bool.not_eq_true] at c_14
      first | refine V.aload_n dT_isDotDot_17 rfl ?_ | refine V.aload_nN dT_isDotDot_17 rfl ?_
      refine V.bipush (v := (nI 46)) dT_isDotDot_18 (by decide) ?_
      refine V.iload_n dT_isDotDot_20 rfl ?_
      refine V.iconst (v := (nI 1)) dT_isDotDot_21 (by decide) ?_
      refine V.iaddN dT_isDotDot_22 ?_
      refine V.callVk (kd := 1) 0 _ 0 _ [_, _] dT_isDotDot_23 okT_is n_T_27 (by assumption) (by assumption) rfl imT_is seT_is_T (by decide) (by decide) rfl rfl (Nat.le_of_ble_eq_true rfl) (Nat.le_of_ble_eq_true rfl) (Nat.le_of_eq (Nat.zero_add _)) (Nat.le_of_eq (Nat.zero_add _)) (k_is hT (by omega) (by decide) ?_)
      refine V.if_eq (tgt := 33) dT_isDotDot_26 (by decide) (fun c_26 => ?_) (fun c_26 => ?_)
      · try simp (disch := omega) only [nI_ltI, nI_leI, nI_eq, zz_lt0, zz_ge0, zz_gt0, zz_le0, zz_eq0, zz_m1lt, zz_m1ge, zz_m1eq, bI_eq0, decide_eq_false_iff_not, decide_eq_true_eq, Decidable.not_not, not_true_eq_false, not_false_eq_true, Nat.not_lt, Nat.not_le, Bool.not_eq_false, Bool.not_eq_true] at c_26
        refine V.iconst (v := (nI 0)) dT_isDotDot_33 (by decide) ?_
        refine V.ireturn dT_isDotDot_34 rfl rfl ?_
        first | (rw [bI_t (by omega)] at hQ; exact hQ) | (rw [bI_f (by omega)] at hQ; exact hQ)
      · try simp (disch := omega) only [nI_ltI, nI_leI, nI_eq, zz_lt0, zz_ge0, zz_gt0, zz_le0, zz_eq0, zz_m1lt, zz_m1ge, zz_m1eq, bI_eq0, decide_eq_false_iff_not, decide_eq_true_eq, Decidable.not_not, not_true_eq_false, not_false_eq_true, Nat.not_lt, Nat.not_le, Bool.not_eq_false, Bool.not_eq_true] at c_26
        refine V.iconst (v := (nI 1)) dT_isDotDot_29 (by decide) ?_
        refine V.goto (tgt := 34) dT_isDotDot_30 (by decide) ?_
        refine V.ireturn dT_isDotDot_34 rfl rfl ?_
        first | (rw [bI_t (by omega)] at hQ; exact hQ) | (rw [bI_f (by omega)] at hQ; exact hQ)
set_option maxHeartbeats 4000000 in
set_option maxRecDepth 100000 in
/-- PathText.clear -/
theorem k_clear {G : GG} {h : HH} {t : Nat} {p : Nat → Nat} {len : Nat} {Q : Option Value → HH → Prop} (hT : TX G h t p len) (hQ : ∀ h', h' = h_put h t 1 (.int (nI 0)) → Q none h') : V G mT_clear 0 (lv_args 0 [.ref t]) [] h 0 0 Q := by
  obtain ⟨ht, htk, hca, hln, hcs, hck, hch, hl2, hp⟩ := id hT
  first | refine V.aload_n dT_clear_0 rfl ?_ | refine V.aload_nN dT_clear_0 rfl ?_
  refine V.iconst (v := (nI 0)) dT_clear_1 (by decide) ?_
  refine V.putk dT_clear_2 (by assumption) (by assumption) p_T_13_1 rfl rfl ?_
  intro h2 e_h2
  refine V.vreturn dT_clear_5 rfl ?_
  exact hQ _ e_h2
set_option maxHeartbeats 4000000 in
set_option maxRecDepth 100000 in
/-- PathText.lastSlash -/
theorem k_lastSlash {G : GG} {h : HH} {t : Nat} {p : Nat → Nat} {len : Nat} {Q : Option Value → HH → Prop} (hT : TX G h t p len) (hQ : Q (some (.int (lm (s_last p len)))) h) : V G mT_lastSlash 0 (lv_args 0 [.ref t]) [] h 0 0 Q := by
  obtain ⟨ht, htk, hca, hln, hcs, hck, hch, hl2, hp⟩ := id hT
  have loop : ∀ m, m ≤ len → s_last p m = s_last p len → V G mT_lastSlash 7 [(1, .int (lm m)), (0, .ref t)] [] h 0 0 Q := by
    intro m
    induction m with
    | zero =>
      intro hm hs
      refine V.iload_n dT_lastSlash_7 rfl ?_
      refine V.if_lt (tgt := 25) dT_lastSlash_8 (by decide) (fun c_8 => ?_) (fun c_8 => ?_)
      · try simp (disch := omega) only [lm_0, zz_m1lt, not_true_eq_false] at c_8
        refine V.iload_n dT_lastSlash_25 rfl ?_
        refine V.ireturn dT_lastSlash_26 rfl rfl ?_
        rw [← hs] at hQ; exact hQ
      · try simp (disch := omega) only [lm_0, zz_m1lt, not_true_eq_false] at c_8
        
    | succ m ih =>
      intro hm hs
      refine V.iload_n dT_lastSlash_7 rfl ?_
      refine V.if_lt (tgt := 25) dT_lastSlash_8 (by decide) (fun c_8 => ?_) (fun c_8 => ?_)
      · try simp (disch := omega) only [lm_s, zz_lt0, not_false_eq_true] at c_8
        
      · try simp (disch := omega) only [lm_s, zz_lt0, not_false_eq_true] at c_8
        first | refine V.aload_n dT_lastSlash_11 rfl ?_ | refine V.aload_nN dT_lastSlash_11 rfl ?_
        refine V.iload_n dT_lastSlash_12 rfl ?_
        rw [lm_s]
        refine V.callVk (kd := 1) 0 _ 0 _ [_] dT_lastSlash_13 okT_isSlash n_T_31 (by assumption) (by assumption) rfl imT_isSlash seT_isSlash_T (by decide) (by decide) rfl rfl (Nat.le_of_ble_eq_true rfl) (Nat.le_of_ble_eq_true rfl) (Nat.le_of_eq (Nat.zero_add _)) (Nat.le_of_eq (Nat.zero_add _)) (k_isSlash hT (by omega) ?_)
        refine V.if_ne (tgt := 25) dT_lastSlash_16 (by decide) (fun c_16 => ?_) (fun c_16 => ?_)
        · try simp (disch := omega) only [nI_ltI, nI_leI, nI_eq, zz_lt0, zz_ge0, zz_gt0, zz_le0, zz_eq0, zz_m1lt, zz_m1ge, zz_m1eq, bI_eq0, decide_eq_false_iff_not, decide_eq_true_eq, Decidable.not_not, not_true_eq_false, not_false_eq_true, Nat.not_lt, Nat.not_le, Bool.not_eq_false, Bool.not_eq_true] at c_16
          refine V.iload_n dT_lastSlash_25 rfl ?_
          refine V.ireturn dT_lastSlash_26 rfl rfl ?_
          rw [← hs] at hQ; simp only [s_last] at hQ; rw [if_pos (by omega), lm_s] at hQ; exact hQ
        · try simp (disch := omega) only [nI_ltI, nI_leI, nI_eq, zz_lt0, zz_ge0, zz_gt0, zz_le0, zz_eq0, zz_m1lt, zz_m1ge, zz_m1eq, bI_eq0, decide_eq_false_iff_not, decide_eq_true_eq, Decidable.not_not, not_true_eq_false, not_false_eq_true, Nat.not_lt, Nat.not_le, Bool.not_eq_false, Bool.not_eq_true] at c_16
          refine V.iinc (v := lm m) dT_lastSlash_19 rfl (by show nI m + Int32.ofInt (-1) = nI m - 1; rw [show Int32.ofInt (-1) = -1 by decide, Int32.sub_eq_add_neg]) (by decide) ?_
          refine V.goto (tgt := 7) dT_lastSlash_22 (by decide) ?_
          exact ih (by omega) (by rw [← hs]; simp only [s_last]; rw [if_neg (by omega)])
  first | refine V.aload_n dT_lastSlash_0 rfl ?_ | refine V.aload_nN dT_lastSlash_0 rfl ?_
  refine V.getk dT_lastSlash_1 (by assumption) (by assumption) f_T_13_1 (by assumption) ?_
  refine V.iconst (v := (nI 1)) dT_lastSlash_4 (by decide) ?_
  refine V.isub dT_lastSlash_5 ?_
  refine V.istore_n dT_lastSlash_6 (by decide) ?_
  exact loop len (Nat.le_refl _) rfl
set_option maxHeartbeats 4000000 in
set_option maxRecDepth 100000 in
/-- PathText.lastNameCanBe -/
theorem k_lastNameCanBe {G : GG} {h : HH} {t : Nat} {p : Nat → Nat} {len : Nat} {Q : Option Value → HH → Prop} (hT : TX G h t p len) (hQ : Q (some (.int (bI (decide (s_isName p len))))) h) : V G mT_lastNameCanBe 0 (lv_args 0 [.ref t]) [] h 0 0 Q := by
  obtain ⟨ht, htk, hca, hln, hcs, hck, hch, hl2, hp⟩ := id hT
  have hll := s_last_le p len
  first | refine V.aload_n dT_lastNameCanBe_0 rfl ?_ | refine V.aload_nN dT_lastNameCanBe_0 rfl ?_
  refine V.callVk (kd := 1) 0 _ 0 _ [] dT_lastNameCanBe_1 okT_lastSlash n_T_34 (by assumption) (by assumption) rfl imT_lastSlash seT_lastSlash_T (by decide) (by decide) rfl rfl (Nat.le_of_ble_eq_true rfl) (Nat.le_of_ble_eq_true rfl) (Nat.le_of_eq (Nat.zero_add _)) (Nat.le_of_eq (Nat.zero_add _)) (k_lastSlash hT ?_)
  refine V.iconst (v := (nI 1)) dT_lastNameCanBe_4 (by decide) ?_
  refine V.iadd dT_lastNameCanBe_5 ?_
  rw [lm_add]
  refine V.istore_n dT_lastNameCanBe_6 (by decide) ?_
  first | refine V.aload_n dT_lastNameCanBe_7 rfl ?_ | refine V.aload_nN dT_lastNameCanBe_7 rfl ?_
  refine V.getk dT_lastNameCanBe_8 (by assumption) (by assumption) f_T_13_1 (by assumption) ?_
  refine V.iload_n dT_lastNameCanBe_11 rfl ?_
  refine V.isubN dT_lastNameCanBe_12 (by omega) ?_
  refine V.istore_n dT_lastNameCanBe_13 (by decide) ?_
  refine V.iload_n dT_lastNameCanBe_14 rfl ?_
  refine V.iconst (v := (nI 1)) dT_lastNameCanBe_15 (by decide) ?_
  refine V.icmp_lt (tgt := 53) dT_lastNameCanBe_16 (by decide) (fun c_16 => ?_) (fun c_16 => ?_)
  · try simp (disch := omega) only [nI_ltI, nI_leI, nI_eq, zz_lt0, zz_ge0, zz_gt0, zz_le0, zz_eq0, zz_m1lt, zz_m1ge, zz_m1eq, bI_eq0, decide_eq_false_iff_not, decide_eq_true_eq, Decidable.not_not, not_true_eq_false, not_false_eq_true, Nat.not_lt, Nat.not_le, Bool.not_eq_false, Bool.not_eq_true] at c_16
    refine V.iconst (v := (nI 0)) dT_lastNameCanBe_53 (by decide) ?_
    refine V.ireturn dT_lastNameCanBe_54 rfl rfl ?_
    first | (rw [bI_t (by omega)] at hQ; exact hQ) | (rw [bI_f (by omega)] at hQ; exact hQ)
  · try simp (disch := omega) only [nI_ltI, nI_leI, nI_eq, zz_lt0, zz_ge0, zz_gt0, zz_le0, zz_eq0, zz_m1lt, zz_m1ge, zz_m1eq, bI_eq0, decide_eq_false_iff_not, decide_eq_true_eq, Decidable.not_not, not_true_eq_false, not_false_eq_true, Nat.not_lt, Nat.not_le, Bool.not_eq_false, Bool.not_eq_true] at c_16
    refine V.iload_n dT_lastNameCanBe_19 rfl ?_
    refine V.bipush (v := (nI 60)) dT_lastNameCanBe_20 (by decide) ?_
    refine V.icmp_gt (tgt := 53) dT_lastNameCanBe_22 (by decide) (fun c_22 => ?_) (fun c_22 => ?_)
    · try simp (disch := omega) only [nI_ltI, nI_leI, nI_eq, zz_lt0, zz_ge0, zz_gt0, zz_le0, zz_eq0, zz_m1lt, zz_m1ge, zz_m1eq, bI_eq0, decide_eq_false_iff_not, decide_eq_true_eq, Decidable.not_not, not_true_eq_false, not_false_eq_true, Nat.not_lt, Nat.not_le, Bool.not_eq_false, Bool.not_eq_true] at c_22
      refine V.iconst (v := (nI 0)) dT_lastNameCanBe_53 (by decide) ?_
      refine V.ireturn dT_lastNameCanBe_54 rfl rfl ?_
      first | (rw [bI_t (by omega)] at hQ; exact hQ) | (rw [bI_f (by omega)] at hQ; exact hQ)
    · try simp (disch := omega) only [nI_ltI, nI_leI, nI_eq, zz_lt0, zz_ge0, zz_gt0, zz_le0, zz_eq0, zz_m1lt, zz_m1ge, zz_m1eq, bI_eq0, decide_eq_false_iff_not, decide_eq_true_eq, Decidable.not_not, not_true_eq_false, not_false_eq_true, Nat.not_lt, Nat.not_le, Bool.not_eq_false, Bool.not_eq_true] at c_22
      first | refine V.aload_n dT_lastNameCanBe_25 rfl ?_ | refine V.aload_nN dT_lastNameCanBe_25 rfl ?_
      refine V.iload_n dT_lastNameCanBe_26 rfl ?_
      first | refine V.aload_n dT_lastNameCanBe_27 rfl ?_ | refine V.aload_nN dT_lastNameCanBe_27 rfl ?_
      refine V.getk dT_lastNameCanBe_28 (by assumption) (by assumption) f_T_13_1 (by assumption) ?_
      refine V.callVk (kd := 1) 0 _ 0 _ [_, _] dT_lastNameCanBe_31 okT_isDot n_T_38 (by assumption) (by assumption) rfl imT_isDot seT_isDot_T (by decide) (by decide) rfl rfl (Nat.le_of_ble_eq_true rfl) (Nat.le_of_ble_eq_true rfl) (Nat.le_of_eq (Nat.zero_add _)) (Nat.le_of_eq (Nat.zero_add _)) (k_isDot hT (by omega) (by omega) ?_)
      refine V.if_ne (tgt := 53) dT_lastNameCanBe_34 (by decide) (fun c_34 => ?_) (fun c_34 => ?_)
      · try simp (disch := omega) only [nI_ltI, nI_leI, nI_eq, zz_lt0, zz_ge0, zz_gt0, zz_le0, zz_eq0, zz_m1lt, zz_m1ge, zz_m1eq, bI_eq0, decide_eq_false_iff_not, decide_eq_true_eq, Decidable.not_not, not_true_eq_false, not_false_eq_true, Nat.not_lt, Nat.not_le, Bool.not_eq_false, Bool.not_eq_true] at c_34
        refine V.iconst (v := (nI 0)) dT_lastNameCanBe_53 (by decide) ?_
        refine V.ireturn dT_lastNameCanBe_54 rfl rfl ?_
        first | (rw [bI_t (by omega)] at hQ; exact hQ) | (rw [bI_f (by omega)] at hQ; exact hQ)
      · try simp (disch := omega) only [nI_ltI, nI_leI, nI_eq, zz_lt0, zz_ge0, zz_gt0, zz_le0, zz_eq0, zz_m1lt, zz_m1ge, zz_m1eq, bI_eq0, decide_eq_false_iff_not, decide_eq_true_eq, Decidable.not_not, not_true_eq_false, not_false_eq_true, Nat.not_lt, Nat.not_le, Bool.not_eq_false, Bool.not_eq_true] at c_34
        first | refine V.aload_n dT_lastNameCanBe_37 rfl ?_ | refine V.aload_nN dT_lastNameCanBe_37 rfl ?_
        refine V.iload_n dT_lastNameCanBe_38 rfl ?_
        first | refine V.aload_n dT_lastNameCanBe_39 rfl ?_ | refine V.aload_nN dT_lastNameCanBe_39 rfl ?_
        refine V.getk dT_lastNameCanBe_40 (by assumption) (by assumption) f_T_13_1 (by assumption) ?_
        refine V.callVk (kd := 1) 0 _ 0 _ [_, _] dT_lastNameCanBe_43 okT_isDotDot n_T_42 (by assumption) (by assumption) rfl imT_isDotDot seT_isDotDot_T (by decide) (by decide) rfl rfl (Nat.le_of_ble_eq_true rfl) (Nat.le_of_ble_eq_true rfl) (Nat.le_of_eq (Nat.zero_add _)) (Nat.le_of_eq (Nat.zero_add _)) (k_isDotDot hT (by omega) (by omega) ?_)
        refine V.if_ne (tgt := 53) dT_lastNameCanBe_46 (by decide) (fun c_46 => ?_) (fun c_46 => ?_)
        · try simp (disch := omega) only [nI_ltI, nI_leI, nI_eq, zz_lt0, zz_ge0, zz_gt0, zz_le0, zz_eq0, zz_m1lt, zz_m1ge, zz_m1eq, bI_eq0, decide_eq_false_iff_not, decide_eq_true_eq, Decidable.not_not, not_true_eq_false, not_false_eq_true, Nat.not_lt, Nat.not_le, Bool.not_eq_false, Bool.not_eq_true] at c_46
          refine V.iconst (v := (nI 0)) dT_lastNameCanBe_53 (by decide) ?_
          refine V.ireturn dT_lastNameCanBe_54 rfl rfl ?_
          first | (rw [bI_t (by omega)] at hQ; exact hQ) | (rw [bI_f (by omega)] at hQ; exact hQ)
        · try simp (disch := omega) only [nI_ltI, nI_leI, nI_eq, zz_lt0, zz_ge0, zz_gt0, zz_le0, zz_eq0, zz_m1lt, zz_m1ge, zz_m1eq, bI_eq0, decide_eq_false_iff_not, decide_eq_true_eq, Decidable.not_not, not_true_eq_false, not_false_eq_true, Nat.not_lt, Nat.not_le, Bool.not_eq_false, Bool.not_eq_true] at c_46
          refine V.iconst (v := (nI 1)) dT_lastNameCanBe_49 (by decide) ?_
          refine V.goto (tgt := 54) dT_lastNameCanBe_50 (by decide) ?_
          refine V.ireturn dT_lastNameCanBe_54 rfl rfl ?_
          first | (rw [bI_t (by omega)] at hQ; exact hQ) | (rw [bI_f (by omega)] at hQ; exact hQ)
end
section
/-- a PathTreeModel at o, its arrays behind it -/
def RS (G : GG) (h : HH) (o : Nat) : Prop :=
  (g_0 G ≤ o ∧ o + 9 ≤ h.2.2) ∧ (h.1 o).1 = 4 ∧ h.1 (o + 1) = (104, 250) ∧ h.1 (o + 2) = (104, 300) ∧ h.1 (o + 3) = (104, 300) ∧ h.1 (o + 4) = (104, 300) ∧ h.1 (o + 5) = (104, 300) ∧ h.1 (o + 6) = (104, 18000) ∧ h.1 (o + 7) = (102, 65536) ∧ h.1 (o + 8) = (103, 65536) ∧
  h.2.1 o 0 = .ref (o + 1) ∧ h.2.1 o 2 = .ref (o + 2) ∧ h.2.1 o 3 = .ref (o + 3) ∧ h.2.1 o 4 = .ref (o + 4) ∧ h.2.1 o 5 = .ref (o + 5) ∧ h.2.1 o 6 = .ref (o + 6) ∧ h.2.1 o 12 = .ref (o + 7) ∧ h.2.1 o 13 = .ref (o + 8)
/-- its path -/
def RP (h : HH) (o : Nat) (p : Nat → Nat) (len : Nat) : Prop := h.2.1 o 1 = .int (nI len) ∧ (∀ j, j < len → h.2.1 (o + 1) j = .int (nI (p j))) ∧ len ≤ 250 ∧ ∀ j, j < len → p j < 256
/-- its tree -/
def RT (h : HH) (o : Nat) (T : TT) : Prop := (∀ e, e < 300 → h.2.1 (o + 2) e = .int (nI (T.1 e))) ∧ (∀ e, e < 300 → T.1 e ≤ 2) ∧ (∀ e, e < 300 → h.2.1 (o + 3) e = .int (nI (T.2.1 e))) ∧ (∀ e, e < 300 → T.2.1 e < 300) ∧
  (∀ e, e < 300 → h.2.1 (o + 5) e = .int (nI (T.2.2.1 e))) ∧ (∀ e, e < 300 → T.2.2.1 e ≤ 60) ∧ (∀ e k, e < 300 → k < T.2.2.1 e → h.2.1 (o + 6) (60 * e + k) = .int (nI (T.2.2.2 e k))) ∧ ∀ e k, e < 300 → k < T.2.2.1 e → T.2.2.2 e k < 256
theorem oI_none : oI none = -1 := rfl
theorem oI_some {e : Nat} : oI (some e) = nI e := rfl
theorem dots_t {p : Nat → Nat} {a b n k : Nat} {isv : Bool} (hk : a ≤ k) (hD : isv = true ↔ (b - a = n ∧ ∀ j, j < k - a → p (a + j) = 46)) (h1 : isv = true) (h2 : p k = 46) : true = true ↔ (b - a = n ∧ ∀ j, j < k + 1 - a → p (a + j) = 46) := by
  refine ⟨fun _ => ⟨(hD.mp h1).1, fun j hj => ?_⟩, fun _ => rfl⟩
  by_cases z : j < k - a
  · exact (hD.mp h1).2 j z
  · rw [show a + j = k by omega]; exact h2
theorem dots_f {p : Nat → Nat} {a b n k : Nat} {isv : Bool} (hk : a ≤ k) (hD : isv = true ↔ (b - a = n ∧ ∀ j, j < k - a → p (a + j) = 46)) (h1 : isv = false ∨ ¬ p k = 46) : false = true ↔ (b - a = n ∧ ∀ j, j < k + 1 - a → p (a + j) = 46) := by
  refine ⟨fun z => by (cases z), fun z => ?_⟩
  rcases h1 with h1 | h1
  · rw [hD.mpr ⟨z.1, fun j hj => z.2 j (by omega)⟩] at h1; cases h1
  · have z2 := z.2 (k - a) (by omega)
    rw [show a + (k - a) = k by omega] at z2
    exact absurd z2 h1
set_option maxHeartbeats 4000000 in
set_option maxRecDepth 100000 in
/-- PathTreeModel.last -/
theorem kR_last {G : GG} {h : HH} {o : Nat} {p : Nat → Nat} {len : Nat} {Q : Option Value → HH → Prop} (hS : RS G h o) (hP : RP h o p len) (hQ : Q (some (.int (nI (s_last p len)))) h) : V G mR_last 0 (lv_args 0 [.ref o]) [] h 0 0 Q := by
  obtain ⟨hz, hk0, hk1, hk2, hk3, hk4, hk5, hk6, hk7, hk8, hf0, hf2, hf3, hf4, hf5, hf6, hf12, hf13⟩ := id hS
  obtain ⟨hln, hpp, hl2, hp⟩ := id hP
  have loop : ∀ m, m ≤ len → s_last p m = s_last p len → V G mR_last 5 [(1, .int (nI m)), (0, .ref o)] [] h 0 0 Q := by
    intro m
    induction m with
    | zero =>
      intro hm hs
      refine V.iload_n dR_last_5 rfl ?_
      refine V.if_le (tgt := 28) dR_last_6 (by decide) (fun c_6 => ?_) (fun c_6 => ?_)
      · try simp (disch := omega) only [nI_ltI, nI_leI, nI_eq, zz_lt0, zz_ge0, zz_gt0, zz_le0, zz_eq0, zz_m1lt, zz_m1ge, zz_m1eq, bI_eq0, decide_eq_false_iff_not, decide_eq_true_eq, Decidable.not_not, not_true_eq_false, not_false_eq_true, Nat.not_lt, Nat.not_le, Bool.not_eq_false, Bool.not_eq_true] at c_6
        refine V.iload_n dR_last_28 rfl ?_
        refine V.ireturn dR_last_29 rfl rfl ?_
        rw [← hs] at hQ; exact hQ
      · try simp (disch := omega) only [nI_ltI, nI_leI, nI_eq, zz_lt0, zz_ge0, zz_gt0, zz_le0, zz_eq0, zz_m1lt, zz_m1ge, zz_m1eq, bI_eq0, decide_eq_false_iff_not, decide_eq_true_eq, Decidable.not_not, not_true_eq_false, not_false_eq_true, Nat.not_lt, Nat.not_le, Bool.not_eq_false, Bool.not_eq_true] at c_6
        all_goals omega
    | succ m ih =>
      intro hm hs
      refine V.iload_n dR_last_5 rfl ?_
      refine V.if_le (tgt := 28) dR_last_6 (by decide) (fun c_6 => ?_) (fun c_6 => ?_)
      · try simp (disch := omega) only [nI_ltI, nI_leI, nI_eq, zz_lt0, zz_ge0, zz_gt0, zz_le0, zz_eq0, zz_m1lt, zz_m1ge, zz_m1eq, bI_eq0, decide_eq_false_iff_not, decide_eq_true_eq, Decidable.not_not, not_true_eq_false, not_false_eq_true, Nat.not_lt, Nat.not_le, Bool.not_eq_false, Bool.not_eq_true] at c_6
        all_goals omega
      · try simp (disch := omega) only [nI_ltI, nI_leI, nI_eq, zz_lt0, zz_ge0, zz_gt0, zz_le0, zz_eq0, zz_m1lt, zz_m1ge, zz_m1eq, bI_eq0, decide_eq_false_iff_not, decide_eq_true_eq, Decidable.not_not, not_true_eq_false, not_false_eq_true, Nat.not_lt, Nat.not_le, Bool.not_eq_false, Bool.not_eq_true] at c_6
        first | refine V.aload_n dR_last_9 rfl ?_ | refine V.aload_nN dR_last_9 rfl ?_
        refine V.getk dR_last_10 (by omega) (by assumption) f_R_7_4 (by assumption) ?_
        refine V.iload_n dR_last_13 rfl ?_
        refine V.iconst (v := (nI 1)) dR_last_14 (by decide) ?_
        refine V.isubN dR_last_15 (by omega) ?_
        have hpm := hp m (by omega)
        refine V.ialoadN dR_last_16 (by omega) (by assumption) (by omega) (hpp m (by omega)) ?_
        refine V.bipush (v := (nI 47)) dR_last_17 (by decide) ?_
        refine V.icmp_eq (tgt := 28) dR_last_19 (by decide) (fun c_19 => ?_) (fun c_19 => ?_)
        · try simp (disch := omega) only [nI_ltI, nI_leI, nI_eq, zz_lt0, zz_ge0, zz_gt0, zz_le0, zz_eq0, zz_m1lt, zz_m1ge, zz_m1eq, bI_eq0, decide_eq_false_iff_not, decide_eq_true_eq, Decidable.not_not, not_true_eq_false, not_false_eq_true, Nat.not_lt, Nat.not_le, Bool.not_eq_false, Bool.not_eq_true] at c_19
          refine V.iload_n dR_last_28 rfl ?_
          refine V.ireturn dR_last_29 rfl rfl ?_
          rw [← hs] at hQ; simp only [s_last] at hQ; rw [if_pos (by omega)] at hQ; exact hQ
        · try simp (disch := omega) only [nI_ltI, nI_leI, nI_eq, zz_lt0, zz_ge0, zz_gt0, zz_le0, zz_eq0, zz_m1lt, zz_m1ge, zz_m1eq, bI_eq0, decide_eq_false_iff_not, decide_eq_true_eq, Decidable.not_not, not_true_eq_false, not_false_eq_true, Nat.not_lt, Nat.not_le, Bool.not_eq_false, Bool.not_eq_true] at c_19
          refine V.iincM dR_last_22 rfl (by decide) ?_
          refine V.goto (tgt := 5) dR_last_25 (by decide) ?_
          exact ih (by omega) (by rw [← hs]; simp only [s_last]; rw [if_neg (by omega)])
  first | refine V.aload_n dR_last_0 rfl ?_ | refine V.aload_nN dR_last_0 rfl ?_
  refine V.getk dR_last_1 (by omega) (by assumption) f_R_44_4 (by assumption) ?_
  refine V.istore_n dR_last_4 (by decide) ?_
  exact loop len (Nat.le_refl _) rfl
set_option maxHeartbeats 4000000 in
set_option maxRecDepth 100000 in
/-- PathTreeModel.isDots -/
theorem kR_isDots {G : GG} {h : HH} {o : Nat} {p : Nat → Nat} {len : Nat} {Q : Option Value → HH → Prop} {a b n : Nat} (hS : RS G h o) (hP : RP h o p len) (ha : a ≤ b) (hb : b ≤ len) (hn : n < 10) (hX : ∀ isv : Bool, (isv = true ↔ (b - a = n ∧ ∀ j, j < b - a → p (a + j) = 46)) → Q (some (.int (bI isv))) h) : V G mR_isDots 0 (lv_args 0 [.ref o, .int (nI a), .int (nI b), .int (nI n)]) [] h 0 0 Q := by
  obtain ⟨hz, hk0, hk1, hk2, hk3, hk4, hk5, hk6, hk7, hk8, hf0, hf2, hf3, hf4, hf5, hf6, hf12, hf13⟩ := id hS
  obtain ⟨hln, hpp, hl2, hp⟩ := id hP
  have loop : ∀ r k (isv : Bool), k + r = b → a ≤ k → (isv = true ↔ (b - a = n ∧ ∀ j, j < k - a → p (a + j) = 46)) → V G mR_isDots 17 [(5, .int (nI k)), (4, .int (bI isv)), (0, .ref o), (1, .int (nI a)), (2, .int (nI b)), (3, .int (nI n))] [] h 0 0 Q := by
    intro r
    induction r with
    | zero =>
      intro k isv hr hk hD
      refine V.iload dR_isDots_17 rfl ?_
      refine V.iload_n dR_isDots_19 rfl ?_
      refine V.icmp_ge (tgt := 53) dR_isDots_20 (by decide) (fun c_20 => ?_) (fun c_20 => ?_)
      · try simp (disch := omega) only [nI_ltI, nI_leI, nI_eq, zz_lt0, zz_ge0, zz_gt0, zz_le0, zz_eq0, zz_m1lt, zz_m1ge, zz_m1eq, bI_eq0, decide_eq_false_iff_not, decide_eq_true_eq, Decidable.not_not, not_true_eq_false, not_false_eq_true, Nat.not_lt, Nat.not_le, Bool.not_eq_false, Bool.not_eq_true] at c_20
        refine V.iload dR_isDots_53 rfl ?_
        refine V.ireturn dR_isDots_55 rfl bI_nar ?_
        exact hX isv (hD.trans (by rw [show k = b by omega]))
      · try simp (disch := omega) only [nI_ltI, nI_leI, nI_eq, zz_lt0, zz_ge0, zz_gt0, zz_le0, zz_eq0, zz_m1lt, zz_m1ge, zz_m1eq, bI_eq0, decide_eq_false_iff_not, decide_eq_true_eq, Decidable.not_not, not_true_eq_false, not_false_eq_true, Nat.not_lt, Nat.not_le, Bool.not_eq_false, Bool.not_eq_true] at c_20
        all_goals omega
    | succ r ih =>
      intro k isv hr hk hD
      refine V.iload dR_isDots_17 rfl ?_
      refine V.iload_n dR_isDots_19 rfl ?_
      refine V.icmp_ge (tgt := 53) dR_isDots_20 (by decide) (fun c_20 => ?_) (fun c_20 => ?_)
      · try simp (disch := omega) only [nI_ltI, nI_leI, nI_eq, zz_lt0, zz_ge0, zz_gt0, zz_le0, zz_eq0, zz_m1lt, zz_m1ge, zz_m1eq, bI_eq0, decide_eq_false_iff_not, decide_eq_true_eq, Decidable.not_not, not_true_eq_false, not_false_eq_true, Nat.not_lt, Nat.not_le, Bool.not_eq_false, Bool.not_eq_true] at c_20
        all_goals omega
      · try simp (disch := omega) only [nI_ltI, nI_leI, nI_eq, zz_lt0, zz_ge0, zz_gt0, zz_le0, zz_eq0, zz_m1lt, zz_m1ge, zz_m1eq, bI_eq0, decide_eq_false_iff_not, decide_eq_true_eq, Decidable.not_not, not_true_eq_false, not_false_eq_true, Nat.not_lt, Nat.not_le, Bool.not_eq_false, Bool.not_eq_true] at c_20
        refine V.iload dR_isDots_23 rfl ?_
        refine V.if_eq (tgt := 44) dR_isDots_25 (by decide) (fun c_25 => ?_) (fun c_25 => ?_)
        · try simp (disch := omega) only [nI_ltI, nI_leI, nI_eq, zz_lt0, zz_ge0, zz_gt0, zz_le0, zz_eq0, zz_m1lt, zz_m1ge, zz_m1eq, bI_eq0, decide_eq_false_iff_not, decide_eq_true_eq, Decidable.not_not, not_true_eq_false, not_false_eq_true, Nat.not_lt, Nat.not_le, Bool.not_eq_false, Bool.not_eq_true] at c_25
          refine V.iconst (v := (nI 0)) dR_isDots_44 (by decide) ?_
          refine V.istore dR_isDots_45 (by decide) ?_
          refine V.iincN dR_isDots_47 rfl (by decide) ?_
          refine V.goto (tgt := 17) dR_isDots_50 (by decide) ?_
          first | exact ih (k + 1) true (by omega) (by omega) (dots_t hk hD c_25 c_37) | exact ih (k + 1) false (by omega) (by omega) (dots_f hk hD (Or.inl c_25)) | exact ih (k + 1) false (by omega) (by omega) (dots_f hk hD (Or.inr c_37))
        · try simp (disch := omega) only [nI_ltI, nI_leI, nI_eq, zz_lt0, zz_ge0, zz_gt0, zz_le0, zz_eq0, zz_m1lt, zz_m1ge, zz_m1eq, bI_eq0, decide_eq_false_iff_not, decide_eq_true_eq, Decidable.not_not, not_true_eq_false, not_false_eq_true, Nat.not_lt, Nat.not_le, Bool.not_eq_false, Bool.not_eq_true] at c_25
          first | refine V.aload_n dR_isDots_28 rfl ?_ | refine V.aload_nN dR_isDots_28 rfl ?_
          refine V.getk dR_isDots_29 (by omega) (by assumption) f_R_7_4 (by assumption) ?_
          refine V.iload dR_isDots_32 rfl ?_
          have hpk := hp k (by omega)
          refine V.ialoadN dR_isDots_34 (by omega) (by assumption) (by omega) (hpp k (by omega)) ?_
          refine V.bipush (v := (nI 46)) dR_isDots_35 (by decide) ?_
          refine V.icmp_ne (tgt := 44) dR_isDots_37 (by decide) (fun c_37 => ?_) (fun c_37 => ?_)
          · try simp (disch := omega) only [nI_ltI, nI_leI, nI_eq, zz_lt0, zz_ge0, zz_gt0, zz_le0, zz_eq0, zz_m1lt, zz_m1ge, zz_m1eq, bI_eq0, decide_eq_false_iff_not, decide_eq_true_eq, Decidable.not_not, not_true_eq_false, not_false_eq_true, Nat.not_lt, Nat.not_le, Bool.not_eq_false, Bool.not_eq_true] at c_37
            refine V.iconst (v := (nI 0)) dR_isDots_44 (by decide) ?_
            refine V.istore dR_isDots_45 (by decide) ?_
            refine V.iincN dR_isDots_47 rfl (by decide) ?_
            refine V.goto (tgt := 17) dR_isDots_50 (by decide) ?_
            first | exact ih (k + 1) true (by omega) (by omega) (dots_t hk hD c_25 c_37) | exact ih (k + 1) false (by omega) (by omega) (dots_f hk hD (Or.inl c_25)) | exact ih (k + 1) false (by omega) (by omega) (dots_f hk hD (Or.inr c_37))
          · try simp (disch := omega) only [nI_ltI, nI_leI, nI_eq, zz_lt0, zz_ge0, zz_gt0, zz_le0, zz_eq0, zz_m1lt, zz_m1ge, zz_m1eq, bI_eq0, decide_eq_false_iff_not, decide_eq_true_eq, Decidable.not_not, not_true_eq_false, not_false_eq_true, Nat.not_lt, Nat.not_le, Bool.not_eq_false, Bool.not_eq_true] at c_37
            refine V.iconst (v := (nI 1)) dR_isDots_40 (by decide) ?_
            refine V.goto (tgt := 45) dR_isDots_41 (by decide) ?_
            refine V.istore dR_isDots_45 (by decide) ?_
            refine V.iincN dR_isDots_47 rfl (by decide) ?_
            refine V.goto (tgt := 17) dR_isDots_50 (by decide) ?_
            first | exact ih (k + 1) true (by omega) (by omega) (dots_t hk hD c_25 c_37) | exact ih (k + 1) false (by omega) (by omega) (dots_f hk hD (Or.inl c_25)) | exact ih (k + 1) false (by omega) (by omega) (dots_f hk hD (Or.inr c_37))
  refine V.iload_n dR_isDots_0 rfl ?_
  refine V.iload_n dR_isDots_1 rfl ?_
  refine V.isubN dR_isDots_2 (by omega) ?_
  refine V.iload_n dR_isDots_3 rfl ?_
  refine V.icmp_ne (tgt := 11) dR_isDots_4 (by decide) (fun c_4 => ?_) (fun c_4 => ?_)
  · try simp (disch := omega) only [nI_ltI, nI_leI, nI_eq, zz_lt0, zz_ge0, zz_gt0, zz_le0, zz_eq0, zz_m1lt, zz_m1ge, zz_m1eq, bI_eq0, decide_eq_false_iff_not, decide_eq_true_eq, Decidable.not_not, not_true_eq_false, not_false_eq_true, Nat.not_lt, Nat.not_le, Bool.not_eq_false, Bool.not_eq_true] at c_4
    refine V.iconst (v := (nI 0)) dR_isDots_11 (by decide) ?_
    refine V.istore dR_isDots_12 (by decide) ?_
    refine V.iload_n dR_isDots_14 rfl ?_
    refine V.istore dR_isDots_15 (by decide) ?_
    first | exact loop (b - a) a true (by omega) (by omega) ⟨fun _ => ⟨by omega, fun j hj => by omega⟩, fun _ => rfl⟩ | exact loop (b - a) a false (by omega) (by omega) ⟨fun z => by (cases z), fun z => by omega⟩
  · try simp (disch := omega) only [nI_ltI, nI_leI, nI_eq, zz_lt0, zz_ge0, zz_gt0, zz_le0, zz_eq0, zz_m1lt, zz_m1ge, zz_m1eq, bI_eq0, decide_eq_false_iff_not, decide_eq_true_eq, Decidable.not_not, not_true_eq_false, not_false_eq_true, Nat.not_lt, Nat.not_le, Bool.not_eq_false, Bool.not_eq_true] at c_4
    refine V.iconst (v := (nI 1)) dR_isDots_7 (by decide) ?_
    refine V.goto (tgt := 12) dR_isDots_8 (by decide) ?_
    refine V.istore dR_isDots_12 (by decide) ?_
    refine V.iload_n dR_isDots_14 rfl ?_
    refine V.istore dR_isDots_15 (by decide) ?_
    first | exact loop (b - a) a true (by omega) (by omega) ⟨fun _ => ⟨by omega, fun j hj => by omega⟩, fun _ => rfl⟩ | exact loop (b - a) a false (by omega) (by omega) ⟨fun z => by (cases z), fun z => by omega⟩
set_option maxHeartbeats 4000000 in
set_option maxRecDepth 100000 in
/-- isDots of one -/
theorem kR_isDots1 {G : GG} {h : HH} {o : Nat} {p : Nat → Nat} {len : Nat} {Q : Option Value → HH → Prop} {a b : Nat} (hS : RS G h o) (hP : RP h o p len) (ha : a ≤ b) (hb : b ≤ len) (hQ : Q (some (.int (bI (decide (b - a = 1 ∧ p a = 46))))) h) : V G mR_isDots 0 (lv_args 0 [.ref o, .int (nI a), .int (nI b), .int (nI 1)]) [] h 0 0 Q := by
  refine kR_isDots hS hP ha hb (by decide) (fun isv hv => ?_)
  have e : isv = decide (b - a = 1 ∧ p a = 46) := by
    rw [Bool.eq_iff_iff, hv, decide_eq_true_eq]
    refine ⟨fun z => ⟨z.1, z.2 0 (by omega)⟩, fun z => ⟨z.1, fun j hj => ?_⟩⟩
    rw [show j = 0 by omega]; exact z.2
  rw [e]; exact hQ
set_option maxHeartbeats 4000000 in
set_option maxRecDepth 100000 in
/-- isDots of two -/
theorem kR_isDots2 {G : GG} {h : HH} {o : Nat} {p : Nat → Nat} {len : Nat} {Q : Option Value → HH → Prop} {a b : Nat} (hS : RS G h o) (hP : RP h o p len) (ha : a ≤ b) (hb : b ≤ len) (hQ : Q (some (.int (bI (decide (b - a = 2 ∧ p a = 46 ∧ p (a + 1) = 46))))) h) : V G mR_isDots 0 (lv_args 0 [.ref o, .int (nI a), .int (nI b), .int (nI 2)]) [] h 0 0 Q := by
  refine kR_isDots hS hP ha hb (by decide) (fun isv hv => ?_)
  have e : isv = decide (b - a = 2 ∧ p a = 46 ∧ p (a + 1) = 46) := by
    rw [Bool.eq_iff_iff, hv, decide_eq_true_eq]
    refine ⟨fun z => ⟨z.1, z.2 0 (by omega), z.2 1 (by omega)⟩, fun z => ⟨z.1, fun j hj => ?_⟩⟩
    rcases (show j = 0 ∨ j = 1 by omega) with e | e
    · rw [e]; exact z.2.1
    · rw [e]; exact z.2.2
  rw [e]; exact hQ
end
section
theorem ent_t {p f : Nat → Nat} {a k : Nat} {B : Prop} {isv : Bool} (hk : a ≤ k) (hD : isv = true ↔ (B ∧ ∀ j, j < k - a → f j = p (a + j))) (h1 : isv = true) (h2 : f (k - a) = p k) : true = true ↔ (B ∧ ∀ j, j < k + 1 - a → f j = p (a + j)) := by
  refine ⟨fun _ => ⟨(hD.mp h1).1, fun j hj => ?_⟩, fun _ => rfl⟩
  by_cases z : j < k - a
  · exact (hD.mp h1).2 j z
  · rw [show j = k - a by omega, h2, show a + (k - a) = k by omega]
theorem ent_f {p f : Nat → Nat} {a k : Nat} {B : Prop} {isv : Bool} (hk : a ≤ k) (hD : isv = true ↔ (B ∧ ∀ j, j < k - a → f j = p (a + j))) (h1 : isv = false ∨ ¬ f (k - a) = p k) : false = true ↔ (B ∧ ∀ j, j < k + 1 - a → f j = p (a + j)) := by
  refine ⟨fun z => by (cases z), fun z => ?_⟩
  rcases h1 with h1 | h1
  · rw [hD.mpr ⟨z.1, fun j hj => z.2 j (by omega)⟩] at h1; cases h1
  · have z2 := z.2 (k - a) (by omega)
    rw [show a + (k - a) = k by omega] at z2
    exact absurd z2 h1
set_option maxHeartbeats 4000000 in
set_option maxRecDepth 100000 in
/-- PathTreeModel.entry -/
theorem kR_entry {G : GG} {h : HH} {o : Nat} {p : Nat → Nat} {len : Nat} {Q : Option Value → HH → Prop} {T : TT} {d a b : Nat} (hS : RS G h o) (hP : RP h o p len) (hT : RT h o T) (hd : d < 300) (ha : a ≤ b) (hb : b ≤ len) (hQ : Q (some (.int (oI (s_ent T p d a b)))) h) : V G mR_entry 0 (lv_args 0 [.ref o, .int (nI d), .int (nI a), .int (nI b)]) [] h 0 0 Q := by
  obtain ⟨hz, hk0, hk1, hk2, hk3, hk4, hk5, hk6, hk7, hk8, hf0, hf2, hf3, hf4, hf5, hf6, hf12, hf13⟩ := id hS
  obtain ⟨hln, hpp, hl2, hp⟩ := id hP
  obtain ⟨hkd, hkd2, hin, hin2, hns, hns2, hnm, hnm2⟩ := id hT
  have loop : ∀ r e, e + r = 300 → 1 ≤ e → (∀ k, k < e → ¬ s_mt T p d a b k) → V G mR_entry 3 [(4, .int (nI e)), (0, .ref o), (1, .int (nI d)), (2, .int (nI a)), (3, .int (nI b))] [] h 0 0 Q := by
    intro r
    induction r with
    | zero =>
      intro e hr he hf
      refine V.iload dR_entry_3 rfl ?_
      refine V.sipush (v := (nI 300)) dR_entry_5 (by decide) ?_
      refine V.icmp_ge (tgt := 118) dR_entry_8 (by decide) (fun c_8 => ?_) (fun c_8 => ?_)
      · try simp (disch := omega) only [nI_ltI, nI_leI, nI_eq, zz_lt0, zz_ge0, zz_gt0, zz_le0, zz_eq0, zz_m1lt, zz_m1ge, zz_m1eq, bI_eq0, decide_eq_false_iff_not, decide_eq_true_eq, Decidable.not_not, not_true_eq_false, not_false_eq_true, Nat.not_lt, Nat.not_le, Bool.not_eq_false, Bool.not_eq_true] at c_8
        refine V.iconst (v := (-1)) dR_entry_118 (by decide) ?_
        refine V.ireturn dR_entry_119 rfl rfl ?_
        rw [s_ent_none (fun e2 he2 => hf e2 (by omega))] at hQ; exact hQ
      · try simp (disch := omega) only [nI_ltI, nI_leI, nI_eq, zz_lt0, zz_ge0, zz_gt0, zz_le0, zz_eq0, zz_m1lt, zz_m1ge, zz_m1eq, bI_eq0, decide_eq_false_iff_not, decide_eq_true_eq, Decidable.not_not, not_true_eq_false, not_false_eq_true, Nat.not_lt, Nat.not_le, Bool.not_eq_false, Bool.not_eq_true] at c_8
        all_goals omega
    | succ r ih =>
      intro e hr he hf
      have hkd2e := hkd2 e (by omega)
      have hin2e := hin2 e (by omega)
      have hns2e := hns2 e (by omega)
      have inner : ∀ r k (isv : Bool), k + r = b → a ≤ k → (isv = true ↔ ((T.1 e ≠ 0 ∧ T.2.1 e = d ∧ T.2.2.1 e = b - a) ∧ ∀ j, j < k - a → T.2.2.2 e j = p (a + j))) → V G mR_entry 55 [(6, .int (nI k)), (5, .int (bI isv)), (4, .int (nI e)), (0, .ref o), (1, .int (nI d)), (2, .int (nI a)), (3, .int (nI b))] [] h 0 0 Q := by
        intro r
        induction r with
        | zero =>
          intro k isv hr hk hD
          refine V.iload dR_entry_55 rfl ?_
          refine V.iload_n dR_entry_57 rfl ?_
          refine V.icmp_ge (tgt := 104) dR_entry_58 (by decide) (fun c_58 => ?_) (fun c_58 => ?_)
          · try simp (disch := omega) only [nI_ltI, nI_leI, nI_eq, zz_lt0, zz_ge0, zz_gt0, zz_le0, zz_eq0, zz_m1lt, zz_m1ge, zz_m1eq, bI_eq0, decide_eq_false_iff_not, decide_eq_true_eq, Decidable.not_not, not_true_eq_false, not_false_eq_true, Nat.not_lt, Nat.not_le, Bool.not_eq_false, Bool.not_eq_true] at c_58
            refine V.iload dR_entry_104 rfl ?_
            refine V.if_eq (tgt := 112) dR_entry_106 (by decide) (fun c_106 => ?_) (fun c_106 => ?_)
            · try simp (disch := omega) only [nI_ltI, nI_leI, nI_eq, zz_lt0, zz_ge0, zz_gt0, zz_le0, zz_eq0, zz_m1lt, zz_m1ge, zz_m1eq, bI_eq0, decide_eq_false_iff_not, decide_eq_true_eq, Decidable.not_not, not_true_eq_false, not_false_eq_true, Nat.not_lt, Nat.not_le, Bool.not_eq_false, Bool.not_eq_true] at c_106
              have hno : ¬ s_mt T p d a b e := fun z => by
                have z2 := hD.mpr ⟨z.1.2, fun j hj => z.2 j (by omega)⟩
                first | (rw [z2] at c_63; cases c_63) | (rw [z2] at c_106; cases c_106)
              refine V.iincN dR_entry_112 rfl (by decide) ?_
              refine V.goto (tgt := 3) dR_entry_115 (by decide) ?_
              exact V.re [4, 0, 1, 2, 3] rfl (ih (e + 1) (by omega) (by omega) (fun k2 hk2 => (Nat.lt_or_ge k2 e).elim (hf k2) (fun z => by (rw [show k2 = e by omega]; exact hno))))
            · try simp (disch := omega) only [nI_ltI, nI_leI, nI_eq, zz_lt0, zz_ge0, zz_gt0, zz_le0, zz_eq0, zz_m1lt, zz_m1ge, zz_m1eq, bI_eq0, decide_eq_false_iff_not, decide_eq_true_eq, Decidable.not_not, not_true_eq_false, not_false_eq_true, Nat.not_lt, Nat.not_le, Bool.not_eq_false, Bool.not_eq_true] at c_106
              refine V.iload dR_entry_109 rfl ?_
              refine V.ireturn dR_entry_111 rfl rfl ?_
              rw [s_ent_first (e := e) (by omega) ⟨⟨by omega, (hD.mp c_106).1⟩, fun j hj => (hD.mp c_106).2 j (by omega)⟩ hf] at hQ; exact hQ
          · try simp (disch := omega) only [nI_ltI, nI_leI, nI_eq, zz_lt0, zz_ge0, zz_gt0, zz_le0, zz_eq0, zz_m1lt, zz_m1ge, zz_m1eq, bI_eq0, decide_eq_false_iff_not, decide_eq_true_eq, Decidable.not_not, not_true_eq_false, not_false_eq_true, Nat.not_lt, Nat.not_le, Bool.not_eq_false, Bool.not_eq_true] at c_58
            all_goals omega
        | succ r ihk =>
          intro k isv hr hk hD
          refine V.iload dR_entry_55 rfl ?_
          refine V.iload_n dR_entry_57 rfl ?_
          refine V.icmp_ge (tgt := 104) dR_entry_58 (by decide) (fun c_58 => ?_) (fun c_58 => ?_)
          · try simp (disch := omega) only [nI_ltI, nI_leI, nI_eq, zz_lt0, zz_ge0, zz_gt0, zz_le0, zz_eq0, zz_m1lt, zz_m1ge, zz_m1eq, bI_eq0, decide_eq_false_iff_not, decide_eq_true_eq, Decidable.not_not, not_true_eq_false, not_false_eq_true, Nat.not_lt, Nat.not_le, Bool.not_eq_false, Bool.not_eq_true] at c_58
            all_goals omega
          · try simp (disch := omega) only [nI_ltI, nI_leI, nI_eq, zz_lt0, zz_ge0, zz_gt0, zz_le0, zz_eq0, zz_m1lt, zz_m1ge, zz_m1eq, bI_eq0, decide_eq_false_iff_not, decide_eq_true_eq, Decidable.not_not, not_true_eq_false, not_false_eq_true, Nat.not_lt, Nat.not_le, Bool.not_eq_false, Bool.not_eq_true] at c_58
            refine V.iload dR_entry_61 rfl ?_
            refine V.if_eq (tgt := 104) dR_entry_63 (by decide) (fun c_63 => ?_) (fun c_63 => ?_)
            · try simp (disch := omega) only [nI_ltI, nI_leI, nI_eq, zz_lt0, zz_ge0, zz_gt0, zz_le0, zz_eq0, zz_m1lt, zz_m1ge, zz_m1eq, bI_eq0, decide_eq_false_iff_not, decide_eq_true_eq, Decidable.not_not, not_true_eq_false, not_false_eq_true, Nat.not_lt, Nat.not_le, Bool.not_eq_false, Bool.not_eq_true] at c_63
              refine V.iload dR_entry_104 rfl ?_
              refine V.if_eq (tgt := 112) dR_entry_106 (by decide) (fun c_106 => ?_) (fun c_106 => ?_)
              · try simp (disch := omega) only [nI_ltI, nI_leI, nI_eq, zz_lt0, zz_ge0, zz_gt0, zz_le0, zz_eq0, zz_m1lt, zz_m1ge, zz_m1eq, bI_eq0, decide_eq_false_iff_not, decide_eq_true_eq, Decidable.not_not, not_true_eq_false, not_false_eq_true, Nat.not_lt, Nat.not_le, Bool.not_eq_false, Bool.not_eq_true] at c_106
                have hno : ¬ s_mt T p d a b e := fun z => by
                  have z2 := hD.mpr ⟨z.1.2, fun j hj => z.2 j (by omega)⟩
                  first | (rw [z2] at c_63; cases c_63) | (rw [z2] at c_106; cases c_106)
                refine V.iincN dR_entry_112 rfl (by decide) ?_
                refine V.goto (tgt := 3) dR_entry_115 (by decide) ?_
                exact V.re [4, 0, 1, 2, 3] rfl (ih (e + 1) (by omega) (by omega) (fun k2 hk2 => (Nat.lt_or_ge k2 e).elim (hf k2) (fun z => by (rw [show k2 = e by omega]; exact hno))))
              · try simp (disch := omega) only [nI_ltI, nI_leI, nI_eq, zz_lt0, zz_ge0, zz_gt0, zz_le0, zz_eq0, zz_m1lt, zz_m1ge, zz_m1eq, bI_eq0, decide_eq_false_iff_not, decide_eq_true_eq, Decidable.not_not, not_true_eq_false, not_false_eq_true, Nat.not_lt, Nat.not_le, Bool.not_eq_false, Bool.not_eq_true] at c_106
                rw [c_63] at c_106; cases c_106
            · try simp (disch := omega) only [nI_ltI, nI_leI, nI_eq, zz_lt0, zz_ge0, zz_gt0, zz_le0, zz_eq0, zz_m1lt, zz_m1ge, zz_m1eq, bI_eq0, decide_eq_false_iff_not, decide_eq_true_eq, Decidable.not_not, not_true_eq_false, not_false_eq_true, Nat.not_lt, Nat.not_le, Bool.not_eq_false, Bool.not_eq_true] at c_63
              have hb1 := (hD.mp c_63).1
              have hq1 := hnm2 e (k - a) (by omega) (by omega)
              have hq2 := hp k (by omega)
              first | refine V.aload_n dR_entry_66 rfl ?_ | refine V.aload_nN dR_entry_66 rfl ?_
              refine V.getk dR_entry_67 (by omega) (by assumption) f_R_25_4 (by assumption) ?_
              refine V.bipush (v := (nI 60)) dR_entry_70 (by decide) ?_
              refine V.iload dR_entry_72 rfl ?_
              refine V.imulN dR_entry_74 ?_
              refine V.iload dR_entry_75 rfl ?_
              refine V.iaddN dR_entry_77 ?_
              refine V.iload_n dR_entry_78 rfl ?_
              refine V.isubN dR_entry_79 (by omega) ?_
              refine V.ialoadN dR_entry_80 (by omega) (by assumption) (by omega) ((congrArg (h.2.1 (o + 6)) (show 60 * e + k - a = 60 * e + (k - a) by omega)).trans (hnm e (k - a) (by omega) (by omega))) ?_
              first | refine V.aload_n dR_entry_81 rfl ?_ | refine V.aload_nN dR_entry_81 rfl ?_
              refine V.getk dR_entry_82 (by omega) (by assumption) f_R_7_4 (by assumption) ?_
              refine V.iload dR_entry_85 rfl ?_
              refine V.ialoadN dR_entry_87 (by omega) (by assumption) (by omega) (hpp k (by omega)) ?_
              refine V.icmp_ne (tgt := 95) dR_entry_88 (by decide) (fun c_88 => ?_) (fun c_88 => ?_)
              · try simp (disch := omega) only [nI_ltI, nI_leI, nI_eq, zz_lt0, zz_ge0, zz_gt0, zz_le0, zz_eq0, zz_m1lt, zz_m1ge, zz_m1eq, bI_eq0, decide_eq_false_iff_not, decide_eq_true_eq, Decidable.not_not, not_true_eq_false, not_false_eq_true, Nat.not_lt, Nat.not_le, Bool.not_eq_false, Bool.not_eq_true] at c_88
                refine V.iconst (v := (nI 0)) dR_entry_95 (by decide) ?_
                refine V.istore dR_entry_96 (by decide) ?_
                refine V.iincN dR_entry_98 rfl (by decide) ?_
                refine V.goto (tgt := 55) dR_entry_101 (by decide) ?_
                first | exact ihk (k + 1) true (by omega) (by omega) (ent_t hk hD c_63 c_88) | exact ihk (k + 1) false (by omega) (by omega) (ent_f hk hD (Or.inr c_88))
              · try simp (disch := omega) only [nI_ltI, nI_leI, nI_eq, zz_lt0, zz_ge0, zz_gt0, zz_le0, zz_eq0, zz_m1lt, zz_m1ge, zz_m1eq, bI_eq0, decide_eq_false_iff_not, decide_eq_true_eq, Decidable.not_not, not_true_eq_false, not_false_eq_true, Nat.not_lt, Nat.not_le, Bool.not_eq_false, Bool.not_eq_true] at c_88
                refine V.iconst (v := (nI 1)) dR_entry_91 (by decide) ?_
                refine V.goto (tgt := 96) dR_entry_92 (by decide) ?_
                refine V.istore dR_entry_96 (by decide) ?_
                refine V.iincN dR_entry_98 rfl (by decide) ?_
                refine V.goto (tgt := 55) dR_entry_101 (by decide) ?_
                first | exact ihk (k + 1) true (by omega) (by omega) (ent_t hk hD c_63 c_88) | exact ihk (k + 1) false (by omega) (by omega) (ent_f hk hD (Or.inr c_88))
      refine V.iload dR_entry_3 rfl ?_
      refine V.sipush (v := (nI 300)) dR_entry_5 (by decide) ?_
      refine V.icmp_ge (tgt := 118) dR_entry_8 (by decide) (fun c_8 => ?_) (fun c_8 => ?_)
      · try simp (disch := omega) only [nI_ltI, nI_leI, nI_eq, zz_lt0, zz_ge0, zz_gt0, zz_le0, zz_eq0, zz_m1lt, zz_m1ge, zz_m1eq, bI_eq0, decide_eq_false_iff_not, decide_eq_true_eq, Decidable.not_not, not_true_eq_false, not_false_eq_true, Nat.not_lt, Nat.not_le, Bool.not_eq_false, Bool.not_eq_true] at c_8
        all_goals omega
      · try simp (disch := omega) only [nI_ltI, nI_leI, nI_eq, zz_lt0, zz_ge0, zz_gt0, zz_le0, zz_eq0, zz_m1lt, zz_m1ge, zz_m1eq, bI_eq0, decide_eq_false_iff_not, decide_eq_true_eq, Decidable.not_not, not_true_eq_false, not_false_eq_true, Nat.not_lt, Nat.not_le, Bool.not_eq_false, Bool.not_eq_true] at c_8
        first | refine V.aload_n dR_entry_11 rfl ?_ | refine V.aload_nN dR_entry_11 rfl ?_
        refine V.getk dR_entry_12 (by omega) (by assumption) f_R_13_4 (by assumption) ?_
        refine V.iload dR_entry_15 rfl ?_
        refine V.ialoadN dR_entry_17 (by omega) (by assumption) (by omega) (hkd e (by omega)) ?_
        refine V.if_eq (tgt := 49) dR_entry_18 (by decide) (fun c_18 => ?_) (fun c_18 => ?_)
        · try simp (disch := omega) only [nI_ltI, nI_leI, nI_eq, zz_lt0, zz_ge0, zz_gt0, zz_le0, zz_eq0, zz_m1lt, zz_m1ge, zz_m1eq, bI_eq0, decide_eq_false_iff_not, decide_eq_true_eq, Decidable.not_not, not_true_eq_false, not_false_eq_true, Nat.not_lt, Nat.not_le, Bool.not_eq_false, Bool.not_eq_true] at c_18
          refine V.iconst (v := (nI 0)) dR_entry_49 (by decide) ?_
          refine V.istore dR_entry_50 (by decide) ?_
          refine V.iload_n dR_entry_52 rfl ?_
          refine V.istore dR_entry_53 (by decide) ?_
          first | exact inner (b - a) a true (by omega) (by omega) ⟨fun _ => ⟨by omega, fun j hj => by omega⟩, fun _ => rfl⟩ | exact inner (b - a) a false (by omega) (by omega) ⟨fun z => by (cases z), fun z => by omega⟩
        · try simp (disch := omega) only [nI_ltI, nI_leI, nI_eq, zz_lt0, zz_ge0, zz_gt0, zz_le0, zz_eq0, zz_m1lt, zz_m1ge, zz_m1eq, bI_eq0, decide_eq_false_iff_not, decide_eq_true_eq, Decidable.not_not, not_true_eq_false, not_false_eq_true, Nat.not_lt, Nat.not_le, Bool.not_eq_false, Bool.not_eq_true] at c_18
          first | refine V.aload_n dR_entry_21 rfl ?_ | refine V.aload_nN dR_entry_21 rfl ?_
          refine V.getk dR_entry_22 (by omega) (by assumption) f_R_16_4 (by assumption) ?_
          refine V.iload dR_entry_25 rfl ?_
          refine V.ialoadN dR_entry_27 (by omega) (by assumption) (by omega) (hin e (by omega)) ?_
          refine V.iload_n dR_entry_28 rfl ?_
          refine V.icmp_ne (tgt := 49) dR_entry_29 (by decide) (fun c_29 => ?_) (fun c_29 => ?_)
          · try simp (disch := omega) only [nI_ltI, nI_leI, nI_eq, zz_lt0, zz_ge0, zz_gt0, zz_le0, zz_eq0, zz_m1lt, zz_m1ge, zz_m1eq, bI_eq0, decide_eq_false_iff_not, decide_eq_true_eq, Decidable.not_not, not_true_eq_false, not_false_eq_true, Nat.not_lt, Nat.not_le, Bool.not_eq_false, Bool.not_eq_true] at c_29
            refine V.iconst (v := (nI 0)) dR_entry_49 (by decide) ?_
            refine V.istore dR_entry_50 (by decide) ?_
            refine V.iload_n dR_entry_52 rfl ?_
            refine V.istore dR_entry_53 (by decide) ?_
            first | exact inner (b - a) a true (by omega) (by omega) ⟨fun _ => ⟨by omega, fun j hj => by omega⟩, fun _ => rfl⟩ | exact inner (b - a) a false (by omega) (by omega) ⟨fun z => by (cases z), fun z => by omega⟩
          · try simp (disch := omega) only [nI_ltI, nI_leI, nI_eq, zz_lt0, zz_ge0, zz_gt0, zz_le0, zz_eq0, zz_m1lt, zz_m1ge, zz_m1eq, bI_eq0, decide_eq_false_iff_not, decide_eq_true_eq, Decidable.not_not, not_true_eq_false, not_false_eq_true, Nat.not_lt, Nat.not_le, Bool.not_eq_false, Bool.not_eq_true] at c_29
            first | refine V.aload_n dR_entry_32 rfl ?_ | refine V.aload_nN dR_entry_32 rfl ?_
            refine V.getk dR_entry_33 (by omega) (by assumption) f_R_22_4 (by assumption) ?_
            refine V.iload dR_entry_36 rfl ?_
            refine V.ialoadN dR_entry_38 (by omega) (by assumption) (by omega) (hns e (by omega)) ?_
            refine V.iload_n dR_entry_39 rfl ?_
            refine V.iload_n dR_entry_40 rfl ?_
            refine V.isubN dR_entry_41 (by omega) ?_
            refine V.icmp_ne (tgt := 49) dR_entry_42 (by decide) (fun c_42 => ?_) (fun c_42 => ?_)
            · try simp (disch := omega) only [nI_ltI, nI_leI, nI_eq, zz_lt0, zz_ge0, zz_gt0, zz_le0, zz_eq0, zz_m1lt, zz_m1ge, zz_m1eq, bI_eq0, decide_eq_false_iff_not, decide_eq_true_eq, Decidable.not_not, not_true_eq_false, not_false_eq_true, Nat.not_lt, Nat.not_le, Bool.not_eq_false, Bool.not_eq_true] at c_42
              refine V.iconst (v := (nI 0)) dR_entry_49 (by decide) ?_
              refine V.istore dR_entry_50 (by decide) ?_
              refine V.iload_n dR_entry_52 rfl ?_
              refine V.istore dR_entry_53 (by decide) ?_
              first | exact inner (b - a) a true (by omega) (by omega) ⟨fun _ => ⟨by omega, fun j hj => by omega⟩, fun _ => rfl⟩ | exact inner (b - a) a false (by omega) (by omega) ⟨fun z => by (cases z), fun z => by omega⟩
            · try simp (disch := omega) only [nI_ltI, nI_leI, nI_eq, zz_lt0, zz_ge0, zz_gt0, zz_le0, zz_eq0, zz_m1lt, zz_m1ge, zz_m1eq, bI_eq0, decide_eq_false_iff_not, decide_eq_true_eq, Decidable.not_not, not_true_eq_false, not_false_eq_true, Nat.not_lt, Nat.not_le, Bool.not_eq_false, Bool.not_eq_true] at c_42
              refine V.iconst (v := (nI 1)) dR_entry_45 (by decide) ?_
              refine V.goto (tgt := 50) dR_entry_46 (by decide) ?_
              refine V.istore dR_entry_50 (by decide) ?_
              refine V.iload_n dR_entry_52 rfl ?_
              refine V.istore dR_entry_53 (by decide) ?_
              first | exact inner (b - a) a true (by omega) (by omega) ⟨fun _ => ⟨by omega, fun j hj => by omega⟩, fun _ => rfl⟩ | exact inner (b - a) a false (by omega) (by omega) ⟨fun z => by (cases z), fun z => by omega⟩
  refine V.iconst (v := (nI 1)) dR_entry_0 (by decide) ?_
  refine V.istore dR_entry_1 (by decide) ?_
  exact loop 299 1 (by omega) (by omega) (fun k hk z => by have := z.1.1; omega)
set_option maxHeartbeats 4000000 in
set_option maxRecDepth 100000 in
/-- PathTreeModel.along -/
theorem kR_along {G : GG} {h : HH} {o : Nat} {p : Nat → Nat} {len : Nat} {Q : Option Value → HH → Prop} {T : TT} {e a b : Nat} (hS : RS G h o) (hP : RP h o p len) (hT : RT h o T) (he : e < 300) (ha : a ≤ b) (hb : b ≤ len) (hQ : Q (some (.int (oI (s_along T p e a b)))) h) : V G mR_along 0 (lv_args 0 [.ref o, .int (nI e), .int (nI a), .int (nI b)]) [] h 0 0 Q := by
  obtain ⟨hz, hk0, hk1, hk2, hk3, hk4, hk5, hk6, hk7, hk8, hf0, hf2, hf3, hf4, hf5, hf6, hf12, hf13⟩ := id hS
  obtain ⟨hln, hpp, hl2, hp⟩ := id hP
  obtain ⟨hkd, hkd2, hin, hin2, hns, hns2, hnm, hnm2⟩ := id hT
  have hkd2e := hkd2 e he
  have hin2e := hin2 e he
  refine V.iload_n dR_along_0 rfl ?_
  refine V.iload_n dR_along_1 rfl ?_
  refine V.icmp_ne (tgt := 7) dR_along_2 (by decide) (fun c_2 => ?_) (fun c_2 => ?_)
  · try simp (disch := omega) only [nI_ltI, nI_leI, nI_eq, zz_lt0, zz_ge0, zz_gt0, zz_le0, zz_eq0, zz_m1lt, zz_m1ge, zz_m1eq, bI_eq0, decide_eq_false_iff_not, decide_eq_true_eq, Decidable.not_not, not_true_eq_false, not_false_eq_true, Nat.not_lt, Nat.not_le, Bool.not_eq_false, Bool.not_eq_true] at c_2
    first | refine V.aload_n dR_along_7 rfl ?_ | refine V.aload_nN dR_along_7 rfl ?_
    refine V.getk dR_along_8 (by omega) (by assumption) f_R_13_4 (by assumption) ?_
    refine V.iload_n dR_along_11 rfl ?_
    refine V.ialoadN dR_along_12 (by omega) (by assumption) (by omega) (hkd e he) ?_
    refine V.iconst (v := (nI 2)) dR_along_13 (by decide) ?_
    refine V.icmp_eq (tgt := 19) dR_along_14 (by decide) (fun c_14 => ?_) (fun c_14 => ?_)
    · try simp (disch := omega) only [nI_ltI, nI_leI, nI_eq, zz_lt0, zz_ge0, zz_gt0, zz_le0, zz_eq0, zz_m1lt, zz_m1ge, zz_m1eq, bI_eq0, decide_eq_false_iff_not, decide_eq_true_eq, Decidable.not_not, not_true_eq_false, not_false_eq_true, Nat.not_lt, Nat.not_le, Bool.not_eq_false, Bool.not_eq_true] at c_14
      first | refine V.aload_n dR_along_19 rfl ?_ | refine V.aload_nN dR_along_19 rfl ?_
      refine V.iload_n dR_along_20 rfl ?_
      refine V.iload_n dR_along_21 rfl ?_
      refine V.iconst (v := (nI 1)) dR_along_22 (by decide) ?_
      refine V.callVk (kd := 4) 0 _ 0 _ [_, _, _] dR_along_23 okR_isDots n_R_47 (by omega) (by assumption) rfl imR_isDots seR_isDots_R (by decide) (by decide) rfl rfl (Nat.le_of_ble_eq_true rfl) (Nat.le_of_ble_eq_true rfl) (Nat.le_of_eq (Nat.zero_add _)) (Nat.le_of_eq (Nat.zero_add _)) (kR_isDots1 hS hP ha hb ?_)
      refine V.if_eq (tgt := 31) dR_along_26 (by decide) (fun c_26 => ?_) (fun c_26 => ?_)
      · try simp (disch := omega) only [nI_ltI, nI_leI, nI_eq, zz_lt0, zz_ge0, zz_gt0, zz_le0, zz_eq0, zz_m1lt, zz_m1ge, zz_m1eq, bI_eq0, decide_eq_false_iff_not, decide_eq_true_eq, Decidable.not_not, not_true_eq_false, not_false_eq_true, Nat.not_lt, Nat.not_le, Bool.not_eq_false, Bool.not_eq_true] at c_26
        first | refine V.aload_n dR_along_31 rfl ?_ | refine V.aload_nN dR_along_31 rfl ?_
        refine V.iload_n dR_along_32 rfl ?_
        refine V.iload_n dR_along_33 rfl ?_
        refine V.iconst (v := (nI 2)) dR_along_34 (by decide) ?_
        refine V.callVk (kd := 4) 0 _ 0 _ [_, _, _] dR_along_35 okR_isDots n_R_47 (by omega) (by assumption) rfl imR_isDots seR_isDots_R (by decide) (by decide) rfl rfl (Nat.le_of_ble_eq_true rfl) (Nat.le_of_ble_eq_true rfl) (Nat.le_of_eq (Nat.zero_add _)) (Nat.le_of_eq (Nat.zero_add _)) (kR_isDots2 hS hP ha hb ?_)
        refine V.if_eq (tgt := 50) dR_along_38 (by decide) (fun c_38 => ?_) (fun c_38 => ?_)
        · try simp (disch := omega) only [nI_ltI, nI_leI, nI_eq, zz_lt0, zz_ge0, zz_gt0, zz_le0, zz_eq0, zz_m1lt, zz_m1ge, zz_m1eq, bI_eq0, decide_eq_false_iff_not, decide_eq_true_eq, Decidable.not_not, not_true_eq_false, not_false_eq_true, Nat.not_lt, Nat.not_le, Bool.not_eq_false, Bool.not_eq_true] at c_38
          first | refine V.aload_n dR_along_50 rfl ?_ | refine V.aload_nN dR_along_50 rfl ?_
          refine V.iload_n dR_along_51 rfl ?_
          refine V.iload_n dR_along_52 rfl ?_
          refine V.iload_n dR_along_53 rfl ?_
          refine V.callVk (kd := 4) 0 _ 0 _ [_, _, _] dR_along_54 okR_entry n_R_51 (by omega) (by assumption) rfl imR_entry seR_entry_R (by decide) (by decide) rfl rfl (Nat.le_of_ble_eq_true rfl) (Nat.le_of_ble_eq_true rfl) (Nat.le_of_eq (Nat.zero_add _)) (Nat.le_of_eq (Nat.zero_add _)) (kR_entry hS hP hT he ha hb ?_)
          refine V.ireturn dR_along_57 rfl rfl ?_
          first | (unfold s_along at hQ; rw [if_neg (by omega), if_neg (by omega), if_neg (by omega), if_pos (by omega)] at hQ; exact hQ) | (unfold s_along at hQ; rw [if_neg (by omega), if_neg (by omega), if_neg (by omega), if_neg (by omega)] at hQ; exact hQ)
        · try simp (disch := omega) only [nI_ltI, nI_leI, nI_eq, zz_lt0, zz_ge0, zz_gt0, zz_le0, zz_eq0, zz_m1lt, zz_m1ge, zz_m1eq, bI_eq0, decide_eq_false_iff_not, decide_eq_true_eq, Decidable.not_not, not_true_eq_false, not_false_eq_true, Nat.not_lt, Nat.not_le, Bool.not_eq_false, Bool.not_eq_true] at c_38
          first | refine V.aload_n dR_along_41 rfl ?_ | refine V.aload_nN dR_along_41 rfl ?_
          refine V.getk dR_along_42 (by omega) (by assumption) f_R_16_4 (by assumption) ?_
          refine V.iload_n dR_along_45 rfl ?_
          refine V.ialoadN dR_along_46 (by omega) (by assumption) (by omega) (hin e he) ?_
          refine V.goto (tgt := 57) dR_along_47 (by decide) ?_
          refine V.ireturn dR_along_57 rfl rfl ?_
          first | (unfold s_along at hQ; rw [if_neg (by omega), if_neg (by omega), if_neg (by omega), if_pos (by omega)] at hQ; exact hQ) | (unfold s_along at hQ; rw [if_neg (by omega), if_neg (by omega), if_neg (by omega), if_neg (by omega)] at hQ; exact hQ)
      · try simp (disch := omega) only [nI_ltI, nI_leI, nI_eq, zz_lt0, zz_ge0, zz_gt0, zz_le0, zz_eq0, zz_m1lt, zz_m1ge, zz_m1eq, bI_eq0, decide_eq_false_iff_not, decide_eq_true_eq, Decidable.not_not, not_true_eq_false, not_false_eq_true, Nat.not_lt, Nat.not_le, Bool.not_eq_false, Bool.not_eq_true] at c_26
        refine V.iload_n dR_along_29 rfl ?_
        refine V.ireturn dR_along_30 rfl rfl ?_
        unfold s_along at hQ; rw [if_neg (by omega), if_neg (by omega), if_pos (by omega)] at hQ; exact hQ
    · try simp (disch := omega) only [nI_ltI, nI_leI, nI_eq, zz_lt0, zz_ge0, zz_gt0, zz_le0, zz_eq0, zz_m1lt, zz_m1ge, zz_m1eq, bI_eq0, decide_eq_false_iff_not, decide_eq_true_eq, Decidable.not_not, not_true_eq_false, not_false_eq_true, Nat.not_lt, Nat.not_le, Bool.not_eq_false, Bool.not_eq_true] at c_14
      refine V.iconst (v := (-1)) dR_along_17 (by decide) ?_
      refine V.ireturn dR_along_18 rfl rfl ?_
      unfold s_along at hQ; rw [if_neg (by omega), if_pos (by omega)] at hQ; exact hQ
  · try simp (disch := omega) only [nI_ltI, nI_leI, nI_eq, zz_lt0, zz_ge0, zz_gt0, zz_le0, zz_eq0, zz_m1lt, zz_m1ge, zz_m1eq, bI_eq0, decide_eq_false_iff_not, decide_eq_true_eq, Decidable.not_not, not_true_eq_false, not_false_eq_true, Nat.not_lt, Nat.not_le, Bool.not_eq_false, Bool.not_eq_true] at c_2
    refine V.iload_n dR_along_5 rfl ?_
    refine V.ireturn dR_along_6 rfl rfl ?_
    unfold s_along at hQ; rw [if_pos (by omega)] at hQ; exact hQ
end
section
theorem s_ent_lt {T : TT} {p : Nat → Nat} {d a b e : Nat} (h : s_ent T p d a b = some e) : e < 300 := (s_ent_some h).1
theorem s_along_lt {T : TT} {p : Nat → Nat} {e a b e' : Nat} (hin : ∀ e, e < 300 → T.2.1 e < 300) (he : e < 300) (h : s_along T p e a b = some e') : e' < 300 := by
  unfold s_along at h
  split at h
  · cases h; exact he
  · split at h
    · cases h
    · split at h
      · cases h; exact he
      · split at h
        · cases h; exact hin e he
        · exact s_ent_lt h
theorem s_w_lt {T : TT} {p : Nat → Nat} (hin : ∀ e, e < 300 → T.2.1 e < 300) : ∀ (r x f e e' : Nat), e < 300 → s_w T p r x f e = some e' → e' < 300
  | 0, x, f, e, e', he, h => s_along_lt hin he h
  | r + 1, x, f, e, e', he, h => by
    unfold s_w at h
    split at h
    · split at h
      · cases h
      · next e2 hq => exact s_w_lt hin r _ _ _ _ (s_along_lt hin he hq) h
    · exact s_w_lt hin r _ _ _ _ he h
theorem s_lead0_lt {T : TT} {p : Nat → Nat} {hand n e : Nat} (hin : ∀ e, e < 300 → T.2.1 e < 300) (hh : hand < 300) (h : s_lead0 T p hand n = some e) : e < 300 := by
  unfold s_lead0 at h
  refine s_w_lt hin _ _ _ _ _ ?_ h
  split <;> omega
theorem s_lead_lt {T : TT} {p : Nat → Nat} {hand n e : Nat} (hin : ∀ e, e < 300 → T.2.1 e < 300) (hh : hand < 300) (h : s_lead T p hand n = some e) : e < 300 := by
  unfold s_lead at h
  split at h
  · cases h
  · split at h
    · cases h
    · next e2 hq =>
      split at h
      · cases h
      · cases h; exact s_lead0_lt hin hh hq
theorem s_home_lt {T : TT} {p : Nat → Nat} {hand n e : Nat} (hin : ∀ e, e < 300 → T.2.1 e < 300) (hh : hand < 300) (h : s_home T p hand n = some e) : e < 300 := by
  unfold s_home at h
  split at h
  · cases h; exact hh
  · unfold s_dir at h
    split at h
    · cases h
    · next e2 hq =>
      split at h
      · cases h; exact s_lead0_lt hin hh hq
      · cases h
/-- where the walk of a path stands: k is the next name's place, r what was reached; w is what it will come to -/
def s_at (T : TT) (p : Nat → Nat) (n : Nat) (w : Option Nat) (k : Nat) (r : Option Nat) : Prop := (r = none ∧ w = none) ∨ ∃ e, r = some e ∧ e < 300 ∧ ((k ≤ n ∧ s_w T p (n - k) k k e = w) ∨ (k = n + 1 ∧ w = some e))
theorem s_at_step {T : TT} {p : Nat → Nat} {n x k e : Nat} {w : Option Nat} (hin : ∀ e, e < 300 → T.2.1 e < 300) (he : e < 300) (hx : x ≤ n) (hw : s_w T p (n - x) x k e = w) (hs : x = n ∨ p x = 47) : s_at T p n w (x + 1) (s_along T p e k x) := by
  by_cases hxn : x = n
  · subst hxn
    rw [Nat.sub_self] at hw
    simp only [s_w] at hw
    cases hr : s_along T p e k x with
    | none => exact Or.inl ⟨rfl, by rw [← hw, hr]⟩
    | some e2 => exact Or.inr ⟨e2, rfl, s_along_lt hin he hr, Or.inr ⟨rfl, by rw [← hw, hr]⟩⟩
  · have hp : p x = 47 := by omega
    rw [show n - x = (n - (x + 1)) + 1 by omega] at hw
    simp only [s_w] at hw
    rw [if_pos hp] at hw
    cases hr : s_along T p e k x with
    | none => rw [hr] at hw; exact Or.inl ⟨rfl, hw.symm⟩
    | some e2 => rw [hr] at hw; exact Or.inr ⟨e2, rfl, s_along_lt hin he hr, Or.inl ⟨by omega, hw⟩⟩
theorem s_w_skip {T : TT} {p : Nat → Nat} {n x k e : Nat} {w : Option Nat} (hx : x < n) (hw : s_w T p (n - x) x k e = w) (hp : ¬ p x = 47) : s_w T p (n - (x + 1)) (x + 1) k e = w := by
  rw [show n - x = (n - (x + 1)) + 1 by omega] at hw
  simp only [s_w] at hw
  rw [if_neg hp] at hw
  exact hw
set_option maxHeartbeats 4000000 in
set_option maxRecDepth 100000 in
/-- PathTreeModel.lead -/
theorem kR_lead {G : GG} {h : HH} {o : Nat} {p : Nat → Nat} {len : Nat} {Q : Option Value → HH → Prop} {T : TT} {hand : Nat} {n : Nat} (hS : RS G h o) (hP : RP h o p len) (hT : RT h o T) (hH : h.2.1 o 8 = .int (nI hand) ∧ hand < 300) (hn : n ≤ len) (hQ : Q (some (.int (oI (s_lead T p hand n)))) h) : V G mR_lead 0 (lv_args 0 [.ref o, .int (nI n)]) [] h 0 0 Q := by
  obtain ⟨hz, hk0, hk1, hk2, hk3, hk4, hk5, hk6, hk7, hk8, hf0, hf2, hf3, hf4, hf5, hf6, hf12, hf13⟩ := id hS
  obtain ⟨hln, hpp, hl2, hp⟩ := id hP
  obtain ⟨hkd, hkd2, hin, hin2, hns, hns2, hnm, hnm2⟩ := id hT
  have hhand : h.2.1 o 8 = .int (nI hand) := hH.1
  have hhl : hand < 300 := hH.2
  by_cases hn0 : n = 0
  · subst hn0
    refine V.iload_n dR_lead_0 rfl ?_
    refine V.if_ne (tgt := 6) dR_lead_1 (by decide) (fun c_1 => ?_) (fun c_1 => ?_)
    · try simp (disch := omega) only [nI_ltI, nI_leI, nI_eq, zz_lt0, zz_ge0, zz_gt0, zz_le0, zz_eq0, zz_m1lt, zz_m1ge, zz_m1eq, bI_eq0, decide_eq_false_iff_not, decide_eq_true_eq, Decidable.not_not, not_true_eq_false, not_false_eq_true, Nat.not_lt, Nat.not_le, Bool.not_eq_false, Bool.not_eq_true] at c_1
      all_goals omega
    · try simp (disch := omega) only [nI_ltI, nI_leI, nI_eq, zz_lt0, zz_ge0, zz_gt0, zz_le0, zz_eq0, zz_m1lt, zz_m1ge, zz_m1eq, bI_eq0, decide_eq_false_iff_not, decide_eq_true_eq, Decidable.not_not, not_true_eq_false, not_false_eq_true, Nat.not_lt, Nat.not_le, Bool.not_eq_false, Bool.not_eq_true] at c_1
      refine V.iconst (v := (-1)) dR_lead_4 (by decide) ?_
      refine V.ireturn dR_lead_5 rfl rfl ?_
      unfold s_lead at hQ; rw [if_pos rfl] at hQ; exact hQ
  have outer : ∀ m k r, n + 1 - k ≤ m → k ≤ n + 1 → s_at T p n (s_lead0 T p hand n) k r → V G mR_lead 28 [(3, .int (nI k)), (2, .int (oI r)), (0, .ref o), (1, .int (nI n))] [] h 0 0 Q := by
    intro m
    induction m with
    | zero =>
      intro k r hm hk hO
      rcases hO with ⟨rfl, hW⟩ | ⟨e, rfl, he, hO⟩
      · show V G mR_lead 28 [(3, .int (nI k)), (2, .int (-1)), (0, .ref o), (1, .int (nI n))] [] h 0 0 Q
        refine V.iload_n dR_lead_28 rfl ?_
        refine V.iload_n dR_lead_29 rfl ?_
        refine V.icmp_gt (tgt := 81) dR_lead_30 (by decide) (fun c_30 => ?_) (fun c_30 => ?_)
        · skip
          refine V.iload_n dR_lead_81 rfl ?_
          refine V.if_lt (tgt := 112) dR_lead_82 (by decide) (fun c_82 => ?_) (fun c_82 => ?_)
          · try simp only [zz_m1lt, not_true_eq_false] at c_82
            refine V.iload_n dR_lead_112 rfl ?_
            refine V.ireturn dR_lead_113 rfl rfl ?_
            unfold s_lead at hQ; rw [if_neg (by omega), hW] at hQ; exact hQ
          · try simp only [zz_m1lt, not_true_eq_false] at c_82
            all_goals omega
        · skip
          refine V.iload_n dR_lead_33 rfl ?_
          refine V.if_lt (tgt := 81) dR_lead_34 (by decide) (fun c_34 => ?_) (fun c_34 => ?_)
          · try simp only [zz_m1lt, not_true_eq_false] at c_34
            refine V.iload_n dR_lead_81 rfl ?_
            refine V.if_lt (tgt := 112) dR_lead_82 (by decide) (fun c_82 => ?_) (fun c_82 => ?_)
            · try simp only [zz_m1lt, not_true_eq_false] at c_82
              refine V.iload_n dR_lead_112 rfl ?_
              refine V.ireturn dR_lead_113 rfl rfl ?_
              unfold s_lead at hQ; rw [if_neg (by omega), hW] at hQ; exact hQ
            · try simp only [zz_m1lt, not_true_eq_false] at c_82
              all_goals omega
          · try simp only [zz_m1lt, not_true_eq_false] at c_34
            all_goals omega
      · rcases hO with ⟨hkn, hW⟩ | ⟨hkn, hW⟩
        · omega
        · have hkd2e := hkd2 e he
          show V G mR_lead 28 [(3, .int (nI k)), (2, .int (nI e)), (0, .ref o), (1, .int (nI n))] [] h 0 0 Q
          refine V.iload_n dR_lead_28 rfl ?_
          refine V.iload_n dR_lead_29 rfl ?_
          refine V.icmp_gt (tgt := 81) dR_lead_30 (by decide) (fun c_30 => ?_) (fun c_30 => ?_)
          · try simp (disch := omega) only [nI_ltI, nI_leI, nI_eq, zz_lt0, zz_ge0, zz_gt0, zz_le0, zz_eq0, zz_m1lt, zz_m1ge, zz_m1eq, bI_eq0, decide_eq_false_iff_not, decide_eq_true_eq, Decidable.not_not, not_true_eq_false, not_false_eq_true, Nat.not_lt, Nat.not_le, Bool.not_eq_false, Bool.not_eq_true] at c_30
            refine V.iload_n dR_lead_81 rfl ?_
            refine V.if_lt (tgt := 112) dR_lead_82 (by decide) (fun c_82 => ?_) (fun c_82 => ?_)
            · try simp (disch := omega) only [nI_ltI, nI_leI, nI_eq, zz_lt0, zz_ge0, zz_gt0, zz_le0, zz_eq0, zz_m1lt, zz_m1ge, zz_m1eq, bI_eq0, decide_eq_false_iff_not, decide_eq_true_eq, Decidable.not_not, not_true_eq_false, not_false_eq_true, Nat.not_lt, Nat.not_le, Bool.not_eq_false, Bool.not_eq_true] at c_82
              all_goals omega
            · try simp (disch := omega) only [nI_ltI, nI_leI, nI_eq, zz_lt0, zz_ge0, zz_gt0, zz_le0, zz_eq0, zz_m1lt, zz_m1ge, zz_m1eq, bI_eq0, decide_eq_false_iff_not, decide_eq_true_eq, Decidable.not_not, not_true_eq_false, not_false_eq_true, Nat.not_lt, Nat.not_le, Bool.not_eq_false, Bool.not_eq_true] at c_82
              first | refine V.aload_n dR_lead_85 rfl ?_ | refine V.aload_nN dR_lead_85 rfl ?_
              refine V.getk dR_lead_86 (by omega) (by assumption) f_R_7_4 (by assumption) ?_
              refine V.iload_n dR_lead_89 rfl ?_
              refine V.iconst (v := (nI 1)) dR_lead_90 (by decide) ?_
              refine V.isubN dR_lead_91 (by omega) ?_
              have hpn := hp (n - 1) (by omega)
              refine V.ialoadN dR_lead_92 (by omega) (by assumption) (by omega) (hpp (n - 1) (by omega)) ?_
              refine V.bipush (v := (nI 47)) dR_lead_93 (by decide) ?_
              refine V.icmp_ne (tgt := 112) dR_lead_95 (by decide) (fun c_95 => ?_) (fun c_95 => ?_)
              · try simp (disch := omega) only [nI_ltI, nI_leI, nI_eq, zz_lt0, zz_ge0, zz_gt0, zz_le0, zz_eq0, zz_m1lt, zz_m1ge, zz_m1eq, bI_eq0, decide_eq_false_iff_not, decide_eq_true_eq, Decidable.not_not, not_true_eq_false, not_false_eq_true, Nat.not_lt, Nat.not_le, Bool.not_eq_false, Bool.not_eq_true] at c_95
                refine V.iload_n dR_lead_112 rfl ?_
                refine V.ireturn dR_lead_113 rfl rfl ?_
                unfold s_lead at hQ; rw [if_neg (by omega), hW] at hQ; dsimp only at hQ; first | (rw [if_neg (by omega)] at hQ; exact hQ) | (rw [if_pos (by omega)] at hQ; exact hQ)
              · try simp (disch := omega) only [nI_ltI, nI_leI, nI_eq, zz_lt0, zz_ge0, zz_gt0, zz_le0, zz_eq0, zz_m1lt, zz_m1ge, zz_m1eq, bI_eq0, decide_eq_false_iff_not, decide_eq_true_eq, Decidable.not_not, not_true_eq_false, not_false_eq_true, Nat.not_lt, Nat.not_le, Bool.not_eq_false, Bool.not_eq_true] at c_95
                first | refine V.aload_n dR_lead_98 rfl ?_ | refine V.aload_nN dR_lead_98 rfl ?_
                refine V.getk dR_lead_99 (by omega) (by assumption) f_R_13_4 (by assumption) ?_
                refine V.iload_n dR_lead_102 rfl ?_
                refine V.ialoadN dR_lead_103 (by omega) (by assumption) (by omega) (hkd e he) ?_
                refine V.iconst (v := (nI 2)) dR_lead_104 (by decide) ?_
                refine V.icmp_eq (tgt := 112) dR_lead_105 (by decide) (fun c_105 => ?_) (fun c_105 => ?_)
                · try simp (disch := omega) only [nI_ltI, nI_leI, nI_eq, zz_lt0, zz_ge0, zz_gt0, zz_le0, zz_eq0, zz_m1lt, zz_m1ge, zz_m1eq, bI_eq0, decide_eq_false_iff_not, decide_eq_true_eq, Decidable.not_not, not_true_eq_false, not_false_eq_true, Nat.not_lt, Nat.not_le, Bool.not_eq_false, Bool.not_eq_true] at c_105
                  refine V.iload_n dR_lead_112 rfl ?_
                  refine V.ireturn dR_lead_113 rfl rfl ?_
                  unfold s_lead at hQ; rw [if_neg (by omega), hW] at hQ; dsimp only at hQ; first | (rw [if_neg (by omega)] at hQ; exact hQ) | (rw [if_pos (by omega)] at hQ; exact hQ)
                · try simp (disch := omega) only [nI_ltI, nI_leI, nI_eq, zz_lt0, zz_ge0, zz_gt0, zz_le0, zz_eq0, zz_m1lt, zz_m1ge, zz_m1eq, bI_eq0, decide_eq_false_iff_not, decide_eq_true_eq, Decidable.not_not, not_true_eq_false, not_false_eq_true, Nat.not_lt, Nat.not_le, Bool.not_eq_false, Bool.not_eq_true] at c_105
                  refine V.iconst (v := (-1)) dR_lead_108 (by decide) ?_
                  refine V.goto (tgt := 113) dR_lead_109 (by decide) ?_
                  refine V.ireturn dR_lead_113 rfl rfl ?_
                  unfold s_lead at hQ; rw [if_neg (by omega), hW] at hQ; dsimp only at hQ; first | (rw [if_neg (by omega)] at hQ; exact hQ) | (rw [if_pos (by omega)] at hQ; exact hQ)
          · try simp (disch := omega) only [nI_ltI, nI_leI, nI_eq, zz_lt0, zz_ge0, zz_gt0, zz_le0, zz_eq0, zz_m1lt, zz_m1ge, zz_m1eq, bI_eq0, decide_eq_false_iff_not, decide_eq_true_eq, Decidable.not_not, not_true_eq_false, not_false_eq_true, Nat.not_lt, Nat.not_le, Bool.not_eq_false, Bool.not_eq_true] at c_30
            all_goals omega
    | succ m ih =>
      intro k r hm hk hO
      rcases hO with ⟨rfl, hW⟩ | ⟨e, rfl, he, hO⟩
      · show V G mR_lead 28 [(3, .int (nI k)), (2, .int (-1)), (0, .ref o), (1, .int (nI n))] [] h 0 0 Q
        refine V.iload_n dR_lead_28 rfl ?_
        refine V.iload_n dR_lead_29 rfl ?_
        refine V.icmp_gt (tgt := 81) dR_lead_30 (by decide) (fun c_30 => ?_) (fun c_30 => ?_)
        · skip
          refine V.iload_n dR_lead_81 rfl ?_
          refine V.if_lt (tgt := 112) dR_lead_82 (by decide) (fun c_82 => ?_) (fun c_82 => ?_)
          · try simp only [zz_m1lt, not_true_eq_false] at c_82
            refine V.iload_n dR_lead_112 rfl ?_
            refine V.ireturn dR_lead_113 rfl rfl ?_
            unfold s_lead at hQ; rw [if_neg (by omega), hW] at hQ; exact hQ
          · try simp only [zz_m1lt, not_true_eq_false] at c_82
            all_goals omega
        · skip
          refine V.iload_n dR_lead_33 rfl ?_
          refine V.if_lt (tgt := 81) dR_lead_34 (by decide) (fun c_34 => ?_) (fun c_34 => ?_)
          · try simp only [zz_m1lt, not_true_eq_false] at c_34
            refine V.iload_n dR_lead_81 rfl ?_
            refine V.if_lt (tgt := 112) dR_lead_82 (by decide) (fun c_82 => ?_) (fun c_82 => ?_)
            · try simp only [zz_m1lt, not_true_eq_false] at c_82
              refine V.iload_n dR_lead_112 rfl ?_
              refine V.ireturn dR_lead_113 rfl rfl ?_
              unfold s_lead at hQ; rw [if_neg (by omega), hW] at hQ; exact hQ
            · try simp only [zz_m1lt, not_true_eq_false] at c_82
              all_goals omega
          · try simp only [zz_m1lt, not_true_eq_false] at c_34
            all_goals omega
      · rcases hO with ⟨hkn, hW⟩ | ⟨hkn, hW⟩
        · show V G mR_lead 28 [(3, .int (nI k)), (2, .int (nI e)), (0, .ref o), (1, .int (nI n))] [] h 0 0 Q
          have inner : ∀ q x, x + q = n → k ≤ x → s_w T p (n - x) x k e = s_lead0 T p hand n → V G mR_lead 40 [(4, .int (nI x)), (3, .int (nI k)), (2, .int (nI e)), (0, .ref o), (1, .int (nI n))] [] h 0 0 Q := by
            intro q
            induction q with
            | zero =>
              intro x hq hk hw
              refine V.iload dR_lead_40 rfl ?_
              refine V.iload_n dR_lead_42 rfl ?_
              refine V.icmp_ge (tgt := 64) dR_lead_43 (by decide) (fun c_43 => ?_) (fun c_43 => ?_)
              · try simp (disch := omega) only [nI_ltI, nI_leI, nI_eq, zz_lt0, zz_ge0, zz_gt0, zz_le0, zz_eq0, zz_m1lt, zz_m1ge, zz_m1eq, bI_eq0, decide_eq_false_iff_not, decide_eq_true_eq, Decidable.not_not, not_true_eq_false, not_false_eq_true, Nat.not_lt, Nat.not_le, Bool.not_eq_false, Bool.not_eq_true] at c_43
                first | refine V.aload_n dR_lead_64 rfl ?_ | refine V.aload_nN dR_lead_64 rfl ?_
                refine V.iload_n dR_lead_65 rfl ?_
                refine V.iload_n dR_lead_66 rfl ?_
                refine V.iload dR_lead_67 rfl ?_
                refine V.callVk (kd := 4) 0 _ 0 _ [_, _, _] dR_lead_69 okR_along n_R_58 (by omega) (by assumption) rfl imR_along seR_along_R (by decide) (by decide) rfl rfl (Nat.le_of_ble_eq_true rfl) (Nat.le_of_ble_eq_true rfl) (Nat.le_of_eq (Nat.zero_add _)) (Nat.le_of_eq (Nat.zero_add _)) (kR_along hS hP hT he (by omega) (by omega) ?_)
                refine V.istore_n dR_lead_72 (by decide) ?_
                refine V.iload dR_lead_73 rfl ?_
                refine V.iconst (v := (nI 1)) dR_lead_75 (by decide) ?_
                refine V.iaddN dR_lead_76 ?_
                refine V.istore_n dR_lead_77 (by decide) ?_
                refine V.goto (tgt := 28) dR_lead_78 (by decide) ?_
                exact V.re [3, 2, 0, 1] rfl (ih (x + 1) (s_along T p e k x) (by omega) (by omega) (s_at_step hin2 he (by omega) hw (by omega)))
              · try simp (disch := omega) only [nI_ltI, nI_leI, nI_eq, zz_lt0, zz_ge0, zz_gt0, zz_le0, zz_eq0, zz_m1lt, zz_m1ge, zz_m1eq, bI_eq0, decide_eq_false_iff_not, decide_eq_true_eq, Decidable.not_not, not_true_eq_false, not_false_eq_true, Nat.not_lt, Nat.not_le, Bool.not_eq_false, Bool.not_eq_true] at c_43
                all_goals omega
            | succ q ihq =>
              intro x hq hk hw
              refine V.iload dR_lead_40 rfl ?_
              refine V.iload_n dR_lead_42 rfl ?_
              refine V.icmp_ge (tgt := 64) dR_lead_43 (by decide) (fun c_43 => ?_) (fun c_43 => ?_)
              · try simp (disch := omega) only [nI_ltI, nI_leI, nI_eq, zz_lt0, zz_ge0, zz_gt0, zz_le0, zz_eq0, zz_m1lt, zz_m1ge, zz_m1eq, bI_eq0, decide_eq_false_iff_not, decide_eq_true_eq, Decidable.not_not, not_true_eq_false, not_false_eq_true, Nat.not_lt, Nat.not_le, Bool.not_eq_false, Bool.not_eq_true] at c_43
                all_goals omega
              · try simp (disch := omega) only [nI_ltI, nI_leI, nI_eq, zz_lt0, zz_ge0, zz_gt0, zz_le0, zz_eq0, zz_m1lt, zz_m1ge, zz_m1eq, bI_eq0, decide_eq_false_iff_not, decide_eq_true_eq, Decidable.not_not, not_true_eq_false, not_false_eq_true, Nat.not_lt, Nat.not_le, Bool.not_eq_false, Bool.not_eq_true] at c_43
                first | refine V.aload_n dR_lead_46 rfl ?_ | refine V.aload_nN dR_lead_46 rfl ?_
                refine V.getk dR_lead_47 (by omega) (by assumption) f_R_7_4 (by assumption) ?_
                refine V.iload dR_lead_50 rfl ?_
                have hpt := hp x (by omega)
                refine V.ialoadN dR_lead_52 (by omega) (by assumption) (by omega) (hpp x (by omega)) ?_
                refine V.bipush (v := (nI 47)) dR_lead_53 (by decide) ?_
                refine V.icmp_eq (tgt := 64) dR_lead_55 (by decide) (fun c_55 => ?_) (fun c_55 => ?_)
                · try simp (disch := omega) only [nI_ltI, nI_leI, nI_eq, zz_lt0, zz_ge0, zz_gt0, zz_le0, zz_eq0, zz_m1lt, zz_m1ge, zz_m1eq, bI_eq0, decide_eq_false_iff_not, decide_eq_true_eq, Decidable.not_not, not_true_eq_false, not_false_eq_true, Nat.not_lt, Nat.not_le, Bool.not_eq_false, Bool.not_eq_true] at c_55
                  first | refine V.aload_n dR_lead_64 rfl ?_ | refine V.aload_nN dR_lead_64 rfl ?_
                  refine V.iload_n dR_lead_65 rfl ?_
                  refine V.iload_n dR_lead_66 rfl ?_
                  refine V.iload dR_lead_67 rfl ?_
                  refine V.callVk (kd := 4) 0 _ 0 _ [_, _, _] dR_lead_69 okR_along n_R_58 (by omega) (by assumption) rfl imR_along seR_along_R (by decide) (by decide) rfl rfl (Nat.le_of_ble_eq_true rfl) (Nat.le_of_ble_eq_true rfl) (Nat.le_of_eq (Nat.zero_add _)) (Nat.le_of_eq (Nat.zero_add _)) (kR_along hS hP hT he (by omega) (by omega) ?_)
                  refine V.istore_n dR_lead_72 (by decide) ?_
                  refine V.iload dR_lead_73 rfl ?_
                  refine V.iconst (v := (nI 1)) dR_lead_75 (by decide) ?_
                  refine V.iaddN dR_lead_76 ?_
                  refine V.istore_n dR_lead_77 (by decide) ?_
                  refine V.goto (tgt := 28) dR_lead_78 (by decide) ?_
                  exact V.re [3, 2, 0, 1] rfl (ih (x + 1) (s_along T p e k x) (by omega) (by omega) (s_at_step hin2 he (by omega) hw (by omega)))
                · try simp (disch := omega) only [nI_ltI, nI_leI, nI_eq, zz_lt0, zz_ge0, zz_gt0, zz_le0, zz_eq0, zz_m1lt, zz_m1ge, zz_m1eq, bI_eq0, decide_eq_false_iff_not, decide_eq_true_eq, Decidable.not_not, not_true_eq_false, not_false_eq_true, Nat.not_lt, Nat.not_le, Bool.not_eq_false, Bool.not_eq_true] at c_55
                  refine V.iincN dR_lead_58 rfl (by decide) ?_
                  refine V.goto (tgt := 40) dR_lead_61 (by decide) ?_
                  exact ihq (x + 1) (by omega) (by omega) (s_w_skip (by omega) hw c_55)
          refine V.iload_n dR_lead_28 rfl ?_
          refine V.iload_n dR_lead_29 rfl ?_
          refine V.icmp_gt (tgt := 81) dR_lead_30 (by decide) (fun c_30 => ?_) (fun c_30 => ?_)
          · try simp (disch := omega) only [nI_ltI, nI_leI, nI_eq, zz_lt0, zz_ge0, zz_gt0, zz_le0, zz_eq0, zz_m1lt, zz_m1ge, zz_m1eq, bI_eq0, decide_eq_false_iff_not, decide_eq_true_eq, Decidable.not_not, not_true_eq_false, not_false_eq_true, Nat.not_lt, Nat.not_le, Bool.not_eq_false, Bool.not_eq_true] at c_30
            all_goals omega
          · try simp (disch := omega) only [nI_ltI, nI_leI, nI_eq, zz_lt0, zz_ge0, zz_gt0, zz_le0, zz_eq0, zz_m1lt, zz_m1ge, zz_m1eq, bI_eq0, decide_eq_false_iff_not, decide_eq_true_eq, Decidable.not_not, not_true_eq_false, not_false_eq_true, Nat.not_lt, Nat.not_le, Bool.not_eq_false, Bool.not_eq_true] at c_30
            refine V.iload_n dR_lead_33 rfl ?_
            refine V.if_lt (tgt := 81) dR_lead_34 (by decide) (fun c_34 => ?_) (fun c_34 => ?_)
            · try simp (disch := omega) only [nI_ltI, nI_leI, nI_eq, zz_lt0, zz_ge0, zz_gt0, zz_le0, zz_eq0, zz_m1lt, zz_m1ge, zz_m1eq, bI_eq0, decide_eq_false_iff_not, decide_eq_true_eq, Decidable.not_not, not_true_eq_false, not_false_eq_true, Nat.not_lt, Nat.not_le, Bool.not_eq_false, Bool.not_eq_true] at c_34
              all_goals omega
            · try simp (disch := omega) only [nI_ltI, nI_leI, nI_eq, zz_lt0, zz_ge0, zz_gt0, zz_le0, zz_eq0, zz_m1lt, zz_m1ge, zz_m1eq, bI_eq0, decide_eq_false_iff_not, decide_eq_true_eq, Decidable.not_not, not_true_eq_false, not_false_eq_true, Nat.not_lt, Nat.not_le, Bool.not_eq_false, Bool.not_eq_true] at c_34
              refine V.iload_n dR_lead_37 rfl ?_
              refine V.istore dR_lead_38 (by decide) ?_
              exact inner (n - k) k (by omega) (Nat.le_refl _) hW
        · have hkd2e := hkd2 e he
          show V G mR_lead 28 [(3, .int (nI k)), (2, .int (nI e)), (0, .ref o), (1, .int (nI n))] [] h 0 0 Q
          refine V.iload_n dR_lead_28 rfl ?_
          refine V.iload_n dR_lead_29 rfl ?_
          refine V.icmp_gt (tgt := 81) dR_lead_30 (by decide) (fun c_30 => ?_) (fun c_30 => ?_)
          · try simp (disch := omega) only [nI_ltI, nI_leI, nI_eq, zz_lt0, zz_ge0, zz_gt0, zz_le0, zz_eq0, zz_m1lt, zz_m1ge, zz_m1eq, bI_eq0, decide_eq_false_iff_not, decide_eq_true_eq, Decidable.not_not, not_true_eq_false, not_false_eq_true, Nat.not_lt, Nat.not_le, Bool.not_eq_false, Bool.not_eq_true] at c_30
            refine V.iload_n dR_lead_81 rfl ?_
            refine V.if_lt (tgt := 112) dR_lead_82 (by decide) (fun c_82 => ?_) (fun c_82 => ?_)
            · try simp (disch := omega) only [nI_ltI, nI_leI, nI_eq, zz_lt0, zz_ge0, zz_gt0, zz_le0, zz_eq0, zz_m1lt, zz_m1ge, zz_m1eq, bI_eq0, decide_eq_false_iff_not, decide_eq_true_eq, Decidable.not_not, not_true_eq_false, not_false_eq_true, Nat.not_lt, Nat.not_le, Bool.not_eq_false, Bool.not_eq_true] at c_82
              all_goals omega
            · try simp (disch := omega) only [nI_ltI, nI_leI, nI_eq, zz_lt0, zz_ge0, zz_gt0, zz_le0, zz_eq0, zz_m1lt, zz_m1ge, zz_m1eq, bI_eq0, decide_eq_false_iff_not, decide_eq_true_eq, Decidable.not_not, not_true_eq_false, not_false_eq_true, Nat.not_lt, Nat.not_le, Bool.not_eq_false, Bool.not_eq_true] at c_82
              first | refine V.aload_n dR_lead_85 rfl ?_ | refine V.aload_nN dR_lead_85 rfl ?_
              refine V.getk dR_lead_86 (by omega) (by assumption) f_R_7_4 (by assumption) ?_
              refine V.iload_n dR_lead_89 rfl ?_
              refine V.iconst (v := (nI 1)) dR_lead_90 (by decide) ?_
              refine V.isubN dR_lead_91 (by omega) ?_
              have hpn := hp (n - 1) (by omega)
              refine V.ialoadN dR_lead_92 (by omega) (by assumption) (by omega) (hpp (n - 1) (by omega)) ?_
              refine V.bipush (v := (nI 47)) dR_lead_93 (by decide) ?_
              refine V.icmp_ne (tgt := 112) dR_lead_95 (by decide) (fun c_95 => ?_) (fun c_95 => ?_)
              · try simp (disch := omega) only [nI_ltI, nI_leI, nI_eq, zz_lt0, zz_ge0, zz_gt0, zz_le0, zz_eq0, zz_m1lt, zz_m1ge, zz_m1eq, bI_eq0, decide_eq_false_iff_not, decide_eq_true_eq, Decidable.not_not, not_true_eq_false, not_false_eq_true, Nat.not_lt, Nat.not_le, Bool.not_eq_false, Bool.not_eq_true] at c_95
                refine V.iload_n dR_lead_112 rfl ?_
                refine V.ireturn dR_lead_113 rfl rfl ?_
                unfold s_lead at hQ; rw [if_neg (by omega), hW] at hQ; dsimp only at hQ; first | (rw [if_neg (by omega)] at hQ; exact hQ) | (rw [if_pos (by omega)] at hQ; exact hQ)
              · try simp (disch := omega) only [nI_ltI, nI_leI, nI_eq, zz_lt0, zz_ge0, zz_gt0, zz_le0, zz_eq0, zz_m1lt, zz_m1ge, zz_m1eq, bI_eq0, decide_eq_false_iff_not, decide_eq_true_eq, Decidable.not_not, not_true_eq_false, not_false_eq_true, Nat.not_lt, Nat.not_le, Bool.not_eq_false, Bool.not_eq_true] at c_95
                first | refine V.aload_n dR_lead_98 rfl ?_ | refine V.aload_nN dR_lead_98 rfl ?_
                refine V.getk dR_lead_99 (by omega) (by assumption) f_R_13_4 (by assumption) ?_
                refine V.iload_n dR_lead_102 rfl ?_
                refine V.ialoadN dR_lead_103 (by omega) (by assumption) (by omega) (hkd e he) ?_
                refine V.iconst (v := (nI 2)) dR_lead_104 (by decide) ?_
                refine V.icmp_eq (tgt := 112) dR_lead_105 (by decide) (fun c_105 => ?_) (fun c_105 => ?_)
                · try simp (disch := omega) only [nI_ltI, nI_leI, nI_eq, zz_lt0, zz_ge0, zz_gt0, zz_le0, zz_eq0, zz_m1lt, zz_m1ge, zz_m1eq, bI_eq0, decide_eq_false_iff_not, decide_eq_true_eq, Decidable.not_not, not_true_eq_false, not_false_eq_true, Nat.not_lt, Nat.not_le, Bool.not_eq_false, Bool.not_eq_true] at c_105
                  refine V.iload_n dR_lead_112 rfl ?_
                  refine V.ireturn dR_lead_113 rfl rfl ?_
                  unfold s_lead at hQ; rw [if_neg (by omega), hW] at hQ; dsimp only at hQ; first | (rw [if_neg (by omega)] at hQ; exact hQ) | (rw [if_pos (by omega)] at hQ; exact hQ)
                · try simp (disch := omega) only [nI_ltI, nI_leI, nI_eq, zz_lt0, zz_ge0, zz_gt0, zz_le0, zz_eq0, zz_m1lt, zz_m1ge, zz_m1eq, bI_eq0, decide_eq_false_iff_not, decide_eq_true_eq, Decidable.not_not, not_true_eq_false, not_false_eq_true, Nat.not_lt, Nat.not_le, Bool.not_eq_false, Bool.not_eq_true] at c_105
                  refine V.iconst (v := (-1)) dR_lead_108 (by decide) ?_
                  refine V.goto (tgt := 113) dR_lead_109 (by decide) ?_
                  refine V.ireturn dR_lead_113 rfl rfl ?_
                  unfold s_lead at hQ; rw [if_neg (by omega), hW] at hQ; dsimp only at hQ; first | (rw [if_neg (by omega)] at hQ; exact hQ) | (rw [if_pos (by omega)] at hQ; exact hQ)
          · try simp (disch := omega) only [nI_ltI, nI_leI, nI_eq, zz_lt0, zz_ge0, zz_gt0, zz_le0, zz_eq0, zz_m1lt, zz_m1ge, zz_m1eq, bI_eq0, decide_eq_false_iff_not, decide_eq_true_eq, Decidable.not_not, not_true_eq_false, not_false_eq_true, Nat.not_lt, Nat.not_le, Bool.not_eq_false, Bool.not_eq_true] at c_30
            all_goals omega
  have hp0 := hp 0 (by omega)
  refine V.iload_n dR_lead_0 rfl ?_
  refine V.if_ne (tgt := 6) dR_lead_1 (by decide) (fun c_1 => ?_) (fun c_1 => ?_)
  · try simp (disch := omega) only [nI_ltI, nI_leI, nI_eq, zz_lt0, zz_ge0, zz_gt0, zz_le0, zz_eq0, zz_m1lt, zz_m1ge, zz_m1eq, bI_eq0, decide_eq_false_iff_not, decide_eq_true_eq, Decidable.not_not, not_true_eq_false, not_false_eq_true, Nat.not_lt, Nat.not_le, Bool.not_eq_false, Bool.not_eq_true] at c_1
    first | refine V.aload_n dR_lead_6 rfl ?_ | refine V.aload_nN dR_lead_6 rfl ?_
    refine V.getk dR_lead_7 (by omega) (by assumption) f_R_7_4 (by assumption) ?_
    refine V.iconst (v := (nI 0)) dR_lead_10 (by decide) ?_
    refine V.ialoadN dR_lead_11 (by omega) (by assumption) (by omega) (hpp 0 (by omega)) ?_
    refine V.bipush (v := (nI 47)) dR_lead_12 (by decide) ?_
    refine V.icmp_ne (tgt := 21) dR_lead_14 (by decide) (fun c_14 => ?_) (fun c_14 => ?_)
    · try simp (disch := omega) only [nI_ltI, nI_leI, nI_eq, zz_lt0, zz_ge0, zz_gt0, zz_le0, zz_eq0, zz_m1lt, zz_m1ge, zz_m1eq, bI_eq0, decide_eq_false_iff_not, decide_eq_true_eq, Decidable.not_not, not_true_eq_false, not_false_eq_true, Nat.not_lt, Nat.not_le, Bool.not_eq_false, Bool.not_eq_true] at c_14
      first | refine V.aload_n dR_lead_21 rfl ?_ | refine V.aload_nN dR_lead_21 rfl ?_
      refine V.getk dR_lead_22 (by omega) (by assumption) f_R_55_4 (by assumption) ?_
      refine V.istore_n dR_lead_25 (by decide) ?_
      refine V.iconst (v := (nI 0)) dR_lead_26 (by decide) ?_
      refine V.istore_n dR_lead_27 (by decide) ?_
      first | exact outer (n + 1) 0 (some 0) (by omega) (by omega) (Or.inr ⟨0, rfl, by omega, Or.inl ⟨by omega, by unfold s_lead0; rw [if_pos (by omega), Nat.sub_zero]⟩⟩) | exact outer (n + 1) 0 (some hand) (by omega) (by omega) (Or.inr ⟨hand, rfl, by omega, Or.inl ⟨by omega, by unfold s_lead0; rw [if_neg (by omega), Nat.sub_zero]⟩⟩)
    · try simp (disch := omega) only [nI_ltI, nI_leI, nI_eq, zz_lt0, zz_ge0, zz_gt0, zz_le0, zz_eq0, zz_m1lt, zz_m1ge, zz_m1eq, bI_eq0, decide_eq_false_iff_not, decide_eq_true_eq, Decidable.not_not, not_true_eq_false, not_false_eq_true, Nat.not_lt, Nat.not_le, Bool.not_eq_false, Bool.not_eq_true] at c_14
      refine V.iconst (v := (nI 0)) dR_lead_17 (by decide) ?_
      refine V.goto (tgt := 25) dR_lead_18 (by decide) ?_
      refine V.istore_n dR_lead_25 (by decide) ?_
      refine V.iconst (v := (nI 0)) dR_lead_26 (by decide) ?_
      refine V.istore_n dR_lead_27 (by decide) ?_
      first | exact outer (n + 1) 0 (some 0) (by omega) (by omega) (Or.inr ⟨0, rfl, by omega, Or.inl ⟨by omega, by unfold s_lead0; rw [if_pos (by omega), Nat.sub_zero]⟩⟩) | exact outer (n + 1) 0 (some hand) (by omega) (by omega) (Or.inr ⟨hand, rfl, by omega, Or.inl ⟨by omega, by unfold s_lead0; rw [if_neg (by omega), Nat.sub_zero]⟩⟩)
  · try simp (disch := omega) only [nI_ltI, nI_leI, nI_eq, zz_lt0, zz_ge0, zz_gt0, zz_le0, zz_eq0, zz_m1lt, zz_m1ge, zz_m1eq, bI_eq0, decide_eq_false_iff_not, decide_eq_true_eq, Decidable.not_not, not_true_eq_false, not_false_eq_true, Nat.not_lt, Nat.not_le, Bool.not_eq_false, Bool.not_eq_true] at c_1
    all_goals omega
theorem s_home_lead {T : TT} {p : Nat → Nat} {hand len : Nat} (hk : 1 < s_last p len) : s_home T p hand len = s_dir T (s_lead T p hand (s_last p len - 1)) := by
  unfold s_home s_lead
  rw [if_neg (by omega), if_neg (by omega)]
  cases s_lead0 T p hand (s_last p len - 1) with
  | none => rfl
  | some e =>
    show s_dir T (some e) = s_dir T (if p (s_last p len - 1 - 1) = 47 ∧ T.1 e ≠ 2 then none else some e)
    split
    · next hq => simp only [s_dir]; rw [if_neg hq.2]
    · rfl
theorem s_home_one {T : TT} {p : Nat → Nat} {hand len : Nat} (hk : s_last p len = 1) : s_home T p hand len = s_dir T (some 0) := by
  have hs := s_last_slash p len (by omega)
  unfold s_home s_lead0
  rw [if_neg (by omega), hk]
  rw [hk] at hs
  simp only [Nat.sub_self, s_w] at hs ⊢
  rw [if_pos hs]
  unfold s_along
  rw [if_pos rfl]
theorem s_home_zero {T : TT} {p : Nat → Nat} {hand len : Nat} (hk : s_last p len = 0) (hd : T.1 hand = 2) : s_home T p hand len = s_dir T (some hand) := by
  unfold s_home s_dir
  rw [if_pos hk]
  dsimp only
  rw [if_pos hd]
set_option maxHeartbeats 4000000 in
set_option maxRecDepth 100000 in
/-- PathTreeModel.home -/
theorem kR_home {G : GG} {h : HH} {o : Nat} {p : Nat → Nat} {len : Nat} {Q : Option Value → HH → Prop} {T : TT} {hand : Nat} (hS : RS G h o) (hP : RP h o p len) (hT : RT h o T) (hH : h.2.1 o 8 = .int (nI hand) ∧ hand < 300) (hhd : T.1 hand = 2) (hQ : Q (some (.int (oI (s_home T p hand len)))) h) : V G mR_home 0 (lv_args 0 [.ref o]) [] h 0 0 Q := by
  obtain ⟨hz, hk0, hk1, hk2, hk3, hk4, hk5, hk6, hk7, hk8, hf0, hf2, hf3, hf4, hf5, hf6, hf12, hf13⟩ := id hS
  obtain ⟨hln, hpp, hl2, hp⟩ := id hP
  obtain ⟨hkd, hkd2, hin, hin2, hns, hns2, hnm, hnm2⟩ := id hT
  have hhand : h.2.1 o 8 = .int (nI hand) := hH.1
  have hhl : hand < 300 := hH.2
  have hll := s_last_le p len
  have hk00 := hkd2 0 (by omega)
  by_cases q0 : s_last p len = 0
  · have hl0 := s_home_zero (T := T) (p := p) q0 hhd
    first | refine V.aload_n dR_home_0 rfl ?_ | refine V.aload_nN dR_home_0 rfl ?_
    refine V.callVk (kd := 4) 0 _ 0 _ [] dR_home_1 okR_last n_R_61 (by omega) (by assumption) rfl imR_last seR_last_R (by decide) (by decide) rfl rfl (Nat.le_of_ble_eq_true rfl) (Nat.le_of_ble_eq_true rfl) (Nat.le_of_eq (Nat.zero_add _)) (Nat.le_of_eq (Nat.zero_add _)) (kR_last hS hP ?_)
    refine V.istore_n dR_home_4 (by decide) ?_
    refine V.iload_n dR_home_5 rfl ?_
    refine V.if_ne (tgt := 16) dR_home_6 (by decide) (fun c_6 => ?_) (fun c_6 => ?_)
    · try simp (disch := omega) only [nI_ltI, nI_leI, nI_eq, zz_lt0, zz_ge0, zz_gt0, zz_le0, zz_eq0, zz_m1lt, zz_m1ge, zz_m1eq, bI_eq0, decide_eq_false_iff_not, decide_eq_true_eq, Decidable.not_not, not_true_eq_false, not_false_eq_true, Nat.not_lt, Nat.not_le, Bool.not_eq_false, Bool.not_eq_true] at c_6
      all_goals omega
    · try simp (disch := omega) only [nI_ltI, nI_leI, nI_eq, zz_lt0, zz_ge0, zz_gt0, zz_le0, zz_eq0, zz_m1lt, zz_m1ge, zz_m1eq, bI_eq0, decide_eq_false_iff_not, decide_eq_true_eq, Decidable.not_not, not_true_eq_false, not_false_eq_true, Nat.not_lt, Nat.not_le, Bool.not_eq_false, Bool.not_eq_true] at c_6
      first | refine V.aload_n dR_home_9 rfl ?_ | refine V.aload_nN dR_home_9 rfl ?_
      refine V.getk dR_home_10 (by omega) (by assumption) f_R_55_4 (by assumption) ?_
      refine V.goto (tgt := 32) dR_home_13 (by decide) ?_
      refine V.istore_n dR_home_32 (by decide) ?_
      refine V.iload_n dR_home_33 rfl ?_
      refine V.if_lt (tgt := 51) dR_home_34 (by decide) (fun c_34 => ?_) (fun c_34 => ?_)
      · try simp (disch := omega) only [nI_ltI, nI_leI, nI_eq, zz_lt0, zz_ge0, zz_gt0, zz_le0, zz_eq0, zz_m1lt, zz_m1ge, zz_m1eq, bI_eq0, decide_eq_false_iff_not, decide_eq_true_eq, Decidable.not_not, not_true_eq_false, not_false_eq_true, Nat.not_lt, Nat.not_le, Bool.not_eq_false, Bool.not_eq_true] at c_34
        all_goals omega
      · try simp (disch := omega) only [nI_ltI, nI_leI, nI_eq, zz_lt0, zz_ge0, zz_gt0, zz_le0, zz_eq0, zz_m1lt, zz_m1ge, zz_m1eq, bI_eq0, decide_eq_false_iff_not, decide_eq_true_eq, Decidable.not_not, not_true_eq_false, not_false_eq_true, Nat.not_lt, Nat.not_le, Bool.not_eq_false, Bool.not_eq_true] at c_34
        first | refine V.aload_n dR_home_37 rfl ?_ | refine V.aload_nN dR_home_37 rfl ?_
        refine V.getk dR_home_38 (by omega) (by assumption) f_R_13_4 (by assumption) ?_
        refine V.iload_n dR_home_41 rfl ?_
        refine V.ialoadN dR_home_42 (by omega) (by assumption) (by omega) (hkd hand hhl) ?_
        refine V.iconst (v := (nI 2)) dR_home_43 (by decide) ?_
        refine V.icmp_ne (tgt := 51) dR_home_44 (by decide) (fun c_44 => ?_) (fun c_44 => ?_)
        · try simp (disch := omega) only [nI_ltI, nI_leI, nI_eq, zz_lt0, zz_ge0, zz_gt0, zz_le0, zz_eq0, zz_m1lt, zz_m1ge, zz_m1eq, bI_eq0, decide_eq_false_iff_not, decide_eq_true_eq, Decidable.not_not, not_true_eq_false, not_false_eq_true, Nat.not_lt, Nat.not_le, Bool.not_eq_false, Bool.not_eq_true] at c_44
          refine V.iconst (v := (-1)) dR_home_51 (by decide) ?_
          refine V.ireturn dR_home_52 rfl rfl ?_
          rw [hl0] at hQ; simp only [s_dir] at hQ; first | (rw [if_pos (by omega)] at hQ; exact hQ) | (rw [if_neg (by omega)] at hQ; exact hQ)
        · try simp (disch := omega) only [nI_ltI, nI_leI, nI_eq, zz_lt0, zz_ge0, zz_gt0, zz_le0, zz_eq0, zz_m1lt, zz_m1ge, zz_m1eq, bI_eq0, decide_eq_false_iff_not, decide_eq_true_eq, Decidable.not_not, not_true_eq_false, not_false_eq_true, Nat.not_lt, Nat.not_le, Bool.not_eq_false, Bool.not_eq_true] at c_44
          refine V.iload_n dR_home_47 rfl ?_
          refine V.goto (tgt := 52) dR_home_48 (by decide) ?_
          refine V.ireturn dR_home_52 rfl rfl ?_
          rw [hl0] at hQ; simp only [s_dir] at hQ; first | (rw [if_pos (by omega)] at hQ; exact hQ) | (rw [if_neg (by omega)] at hQ; exact hQ)
  · by_cases q1 : s_last p len = 1
    · have hl1 := s_home_one (T := T) (p := p) (hand := hand) q1
      first | refine V.aload_n dR_home_0 rfl ?_ | refine V.aload_nN dR_home_0 rfl ?_
      refine V.callVk (kd := 4) 0 _ 0 _ [] dR_home_1 okR_last n_R_61 (by omega) (by assumption) rfl imR_last seR_last_R (by decide) (by decide) rfl rfl (Nat.le_of_ble_eq_true rfl) (Nat.le_of_ble_eq_true rfl) (Nat.le_of_eq (Nat.zero_add _)) (Nat.le_of_eq (Nat.zero_add _)) (kR_last hS hP ?_)
      refine V.istore_n dR_home_4 (by decide) ?_
      refine V.iload_n dR_home_5 rfl ?_
      refine V.if_ne (tgt := 16) dR_home_6 (by decide) (fun c_6 => ?_) (fun c_6 => ?_)
      · try simp (disch := omega) only [nI_ltI, nI_leI, nI_eq, zz_lt0, zz_ge0, zz_gt0, zz_le0, zz_eq0, zz_m1lt, zz_m1ge, zz_m1eq, bI_eq0, decide_eq_false_iff_not, decide_eq_true_eq, Decidable.not_not, not_true_eq_false, not_false_eq_true, Nat.not_lt, Nat.not_le, Bool.not_eq_false, Bool.not_eq_true] at c_6
        refine V.iload_n dR_home_16 rfl ?_
        refine V.iconst (v := (nI 1)) dR_home_17 (by decide) ?_
        refine V.icmp_ne (tgt := 25) dR_home_18 (by decide) (fun c_18 => ?_) (fun c_18 => ?_)
        · try simp (disch := omega) only [nI_ltI, nI_leI, nI_eq, zz_lt0, zz_ge0, zz_gt0, zz_le0, zz_eq0, zz_m1lt, zz_m1ge, zz_m1eq, bI_eq0, decide_eq_false_iff_not, decide_eq_true_eq, Decidable.not_not, not_true_eq_false, not_false_eq_true, Nat.not_lt, Nat.not_le, Bool.not_eq_false, Bool.not_eq_true] at c_18
          all_goals omega
        · try simp (disch := omega) only [nI_ltI, nI_leI, nI_eq, zz_lt0, zz_ge0, zz_gt0, zz_le0, zz_eq0, zz_m1lt, zz_m1ge, zz_m1eq, bI_eq0, decide_eq_false_iff_not, decide_eq_true_eq, Decidable.not_not, not_true_eq_false, not_false_eq_true, Nat.not_lt, Nat.not_le, Bool.not_eq_false, Bool.not_eq_true] at c_18
          refine V.iconst (v := (nI 0)) dR_home_21 (by decide) ?_
          refine V.goto (tgt := 32) dR_home_22 (by decide) ?_
          refine V.istore_n dR_home_32 (by decide) ?_
          refine V.iload_n dR_home_33 rfl ?_
          refine V.if_lt (tgt := 51) dR_home_34 (by decide) (fun c_34 => ?_) (fun c_34 => ?_)
          · try simp (disch := omega) only [nI_ltI, nI_leI, nI_eq, zz_lt0, zz_ge0, zz_gt0, zz_le0, zz_eq0, zz_m1lt, zz_m1ge, zz_m1eq, bI_eq0, decide_eq_false_iff_not, decide_eq_true_eq, Decidable.not_not, not_true_eq_false, not_false_eq_true, Nat.not_lt, Nat.not_le, Bool.not_eq_false, Bool.not_eq_true] at c_34
            all_goals omega
          · try simp (disch := omega) only [nI_ltI, nI_leI, nI_eq, zz_lt0, zz_ge0, zz_gt0, zz_le0, zz_eq0, zz_m1lt, zz_m1ge, zz_m1eq, bI_eq0, decide_eq_false_iff_not, decide_eq_true_eq, Decidable.not_not, not_true_eq_false, not_false_eq_true, Nat.not_lt, Nat.not_le, Bool.not_eq_false, Bool.not_eq_true] at c_34
            first | refine V.aload_n dR_home_37 rfl ?_ | refine V.aload_nN dR_home_37 rfl ?_
            refine V.getk dR_home_38 (by omega) (by assumption) f_R_13_4 (by assumption) ?_
            refine V.iload_n dR_home_41 rfl ?_
            refine V.ialoadN dR_home_42 (by omega) (by assumption) (by omega) (hkd 0 (by omega)) ?_
            refine V.iconst (v := (nI 2)) dR_home_43 (by decide) ?_
            refine V.icmp_ne (tgt := 51) dR_home_44 (by decide) (fun c_44 => ?_) (fun c_44 => ?_)
            · try simp (disch := omega) only [nI_ltI, nI_leI, nI_eq, zz_lt0, zz_ge0, zz_gt0, zz_le0, zz_eq0, zz_m1lt, zz_m1ge, zz_m1eq, bI_eq0, decide_eq_false_iff_not, decide_eq_true_eq, Decidable.not_not, not_true_eq_false, not_false_eq_true, Nat.not_lt, Nat.not_le, Bool.not_eq_false, Bool.not_eq_true] at c_44
              refine V.iconst (v := (-1)) dR_home_51 (by decide) ?_
              refine V.ireturn dR_home_52 rfl rfl ?_
              rw [hl1] at hQ; simp only [s_dir] at hQ; first | (rw [if_pos (by omega)] at hQ; exact hQ) | (rw [if_neg (by omega)] at hQ; exact hQ)
            · try simp (disch := omega) only [nI_ltI, nI_leI, nI_eq, zz_lt0, zz_ge0, zz_gt0, zz_le0, zz_eq0, zz_m1lt, zz_m1ge, zz_m1eq, bI_eq0, decide_eq_false_iff_not, decide_eq_true_eq, Decidable.not_not, not_true_eq_false, not_false_eq_true, Nat.not_lt, Nat.not_le, Bool.not_eq_false, Bool.not_eq_true] at c_44
              refine V.iload_n dR_home_47 rfl ?_
              refine V.goto (tgt := 52) dR_home_48 (by decide) ?_
              refine V.ireturn dR_home_52 rfl rfl ?_
              rw [hl1] at hQ; simp only [s_dir] at hQ; first | (rw [if_pos (by omega)] at hQ; exact hQ) | (rw [if_neg (by omega)] at hQ; exact hQ)
      · try simp (disch := omega) only [nI_ltI, nI_leI, nI_eq, zz_lt0, zz_ge0, zz_gt0, zz_le0, zz_eq0, zz_m1lt, zz_m1ge, zz_m1eq, bI_eq0, decide_eq_false_iff_not, decide_eq_true_eq, Decidable.not_not, not_true_eq_false, not_false_eq_true, Nat.not_lt, Nat.not_le, Bool.not_eq_false, Bool.not_eq_true] at c_6
        all_goals omega
    · have hl2' := s_home_lead (T := T) (p := p) (hand := hand) (len := len) (by omega)
      cases hr : s_lead T p hand (s_last p len - 1) with
      | none =>
        rw [hr] at hl2'
        first | refine V.aload_n dR_home_0 rfl ?_ | refine V.aload_nN dR_home_0 rfl ?_
        refine V.callVk (kd := 4) 0 _ 0 _ [] dR_home_1 okR_last n_R_61 (by omega) (by assumption) rfl imR_last seR_last_R (by decide) (by decide) rfl rfl (Nat.le_of_ble_eq_true rfl) (Nat.le_of_ble_eq_true rfl) (Nat.le_of_eq (Nat.zero_add _)) (Nat.le_of_eq (Nat.zero_add _)) (kR_last hS hP ?_)
        refine V.istore_n dR_home_4 (by decide) ?_
        refine V.iload_n dR_home_5 rfl ?_
        refine V.if_ne (tgt := 16) dR_home_6 (by decide) (fun c_6 => ?_) (fun c_6 => ?_)
        · try simp (disch := omega) only [nI_ltI, nI_leI, nI_eq, zz_lt0, zz_ge0, zz_gt0, zz_le0, zz_eq0, zz_m1lt, zz_m1ge, zz_m1eq, bI_eq0, decide_eq_false_iff_not, decide_eq_true_eq, Decidable.not_not, not_true_eq_false, not_false_eq_true, Nat.not_lt, Nat.not_le, Bool.not_eq_false, Bool.not_eq_true] at c_6
          refine V.iload_n dR_home_16 rfl ?_
          refine V.iconst (v := (nI 1)) dR_home_17 (by decide) ?_
          refine V.icmp_ne (tgt := 25) dR_home_18 (by decide) (fun c_18 => ?_) (fun c_18 => ?_)
          · try simp (disch := omega) only [nI_ltI, nI_leI, nI_eq, zz_lt0, zz_ge0, zz_gt0, zz_le0, zz_eq0, zz_m1lt, zz_m1ge, zz_m1eq, bI_eq0, decide_eq_false_iff_not, decide_eq_true_eq, Decidable.not_not, not_true_eq_false, not_false_eq_true, Nat.not_lt, Nat.not_le, Bool.not_eq_false, Bool.not_eq_true] at c_18
            first | refine V.aload_n dR_home_25 rfl ?_ | refine V.aload_nN dR_home_25 rfl ?_
            refine V.iload_n dR_home_26 rfl ?_
            refine V.iconst (v := (nI 1)) dR_home_27 (by decide) ?_
            refine V.isubN dR_home_28 (by omega) ?_
            refine V.callVk (kd := 4) 0 _ 0 _ [_] dR_home_29 okR_lead n_R_65 (by omega) (by assumption) rfl imR_lead seR_lead_R (by decide) (by decide) rfl rfl (Nat.le_of_ble_eq_true rfl) (Nat.le_of_ble_eq_true rfl) (Nat.le_of_eq (Nat.zero_add _)) (Nat.le_of_eq (Nat.zero_add _)) (kR_lead hS hP hT hH (by omega) ?_)
            rw [hr]
            show V G mR_home 32 _ [.int (-1)] h 0 0 Q
            refine V.istore_n dR_home_32 (by decide) ?_
            refine V.iload_n dR_home_33 rfl ?_
            refine V.if_lt (tgt := 51) dR_home_34 (by decide) (fun c_34 => ?_) (fun c_34 => ?_)
            · try simp only [zz_m1lt, not_true_eq_false] at c_34
              refine V.iconst (v := (-1)) dR_home_51 (by decide) ?_
              refine V.ireturn dR_home_52 rfl rfl ?_
              rw [hl2'] at hQ; exact hQ
            · try simp only [zz_m1lt, not_true_eq_false] at c_34
              all_goals omega
          · try simp (disch := omega) only [nI_ltI, nI_leI, nI_eq, zz_lt0, zz_ge0, zz_gt0, zz_le0, zz_eq0, zz_m1lt, zz_m1ge, zz_m1eq, bI_eq0, decide_eq_false_iff_not, decide_eq_true_eq, Decidable.not_not, not_true_eq_false, not_false_eq_true, Nat.not_lt, Nat.not_le, Bool.not_eq_false, Bool.not_eq_true] at c_18
            all_goals omega
        · try simp (disch := omega) only [nI_ltI, nI_leI, nI_eq, zz_lt0, zz_ge0, zz_gt0, zz_le0, zz_eq0, zz_m1lt, zz_m1ge, zz_m1eq, bI_eq0, decide_eq_false_iff_not, decide_eq_true_eq, Decidable.not_not, not_true_eq_false, not_false_eq_true, Nat.not_lt, Nat.not_le, Bool.not_eq_false, Bool.not_eq_true] at c_6
          all_goals omega
      | some e =>
        rw [hr] at hl2'
        have he := s_lead_lt hin2 hhl hr
        have hkd2e := hkd2 e he
        first | refine V.aload_n dR_home_0 rfl ?_ | refine V.aload_nN dR_home_0 rfl ?_
        refine V.callVk (kd := 4) 0 _ 0 _ [] dR_home_1 okR_last n_R_61 (by omega) (by assumption) rfl imR_last seR_last_R (by decide) (by decide) rfl rfl (Nat.le_of_ble_eq_true rfl) (Nat.le_of_ble_eq_true rfl) (Nat.le_of_eq (Nat.zero_add _)) (Nat.le_of_eq (Nat.zero_add _)) (kR_last hS hP ?_)
        refine V.istore_n dR_home_4 (by decide) ?_
        refine V.iload_n dR_home_5 rfl ?_
        refine V.if_ne (tgt := 16) dR_home_6 (by decide) (fun c_6 => ?_) (fun c_6 => ?_)
        · try simp (disch := omega) only [nI_ltI, nI_leI, nI_eq, zz_lt0, zz_ge0, zz_gt0, zz_le0, zz_eq0, zz_m1lt, zz_m1ge, zz_m1eq, bI_eq0, decide_eq_false_iff_not, decide_eq_true_eq, Decidable.not_not, not_true_eq_false, not_false_eq_true, Nat.not_lt, Nat.not_le, Bool.not_eq_false, Bool.not_eq_true] at c_6
          refine V.iload_n dR_home_16 rfl ?_
          refine V.iconst (v := (nI 1)) dR_home_17 (by decide) ?_
          refine V.icmp_ne (tgt := 25) dR_home_18 (by decide) (fun c_18 => ?_) (fun c_18 => ?_)
          · try simp (disch := omega) only [nI_ltI, nI_leI, nI_eq, zz_lt0, zz_ge0, zz_gt0, zz_le0, zz_eq0, zz_m1lt, zz_m1ge, zz_m1eq, bI_eq0, decide_eq_false_iff_not, decide_eq_true_eq, Decidable.not_not, not_true_eq_false, not_false_eq_true, Nat.not_lt, Nat.not_le, Bool.not_eq_false, Bool.not_eq_true] at c_18
            first | refine V.aload_n dR_home_25 rfl ?_ | refine V.aload_nN dR_home_25 rfl ?_
            refine V.iload_n dR_home_26 rfl ?_
            refine V.iconst (v := (nI 1)) dR_home_27 (by decide) ?_
            refine V.isubN dR_home_28 (by omega) ?_
            refine V.callVk (kd := 4) 0 _ 0 _ [_] dR_home_29 okR_lead n_R_65 (by omega) (by assumption) rfl imR_lead seR_lead_R (by decide) (by decide) rfl rfl (Nat.le_of_ble_eq_true rfl) (Nat.le_of_ble_eq_true rfl) (Nat.le_of_eq (Nat.zero_add _)) (Nat.le_of_eq (Nat.zero_add _)) (kR_lead hS hP hT hH (by omega) ?_)
            rw [hr]
            show V G mR_home 32 _ [.int (nI e)] h 0 0 Q
            refine V.istore_n dR_home_32 (by decide) ?_
            refine V.iload_n dR_home_33 rfl ?_
            refine V.if_lt (tgt := 51) dR_home_34 (by decide) (fun c_34 => ?_) (fun c_34 => ?_)
            · try simp (disch := omega) only [nI_ltI, nI_leI, nI_eq, zz_lt0, zz_ge0, zz_gt0, zz_le0, zz_eq0, zz_m1lt, zz_m1ge, zz_m1eq, bI_eq0, decide_eq_false_iff_not, decide_eq_true_eq, Decidable.not_not, not_true_eq_false, not_false_eq_true, Nat.not_lt, Nat.not_le, Bool.not_eq_false, Bool.not_eq_true] at c_34
              all_goals omega
            · try simp (disch := omega) only [nI_ltI, nI_leI, nI_eq, zz_lt0, zz_ge0, zz_gt0, zz_le0, zz_eq0, zz_m1lt, zz_m1ge, zz_m1eq, bI_eq0, decide_eq_false_iff_not, decide_eq_true_eq, Decidable.not_not, not_true_eq_false, not_false_eq_true, Nat.not_lt, Nat.not_le, Bool.not_eq_false, Bool.not_eq_true] at c_34
              first | refine V.aload_n dR_home_37 rfl ?_ | refine V.aload_nN dR_home_37 rfl ?_
              refine V.getk dR_home_38 (by omega) (by assumption) f_R_13_4 (by assumption) ?_
              refine V.iload_n dR_home_41 rfl ?_
              refine V.ialoadN dR_home_42 (by omega) (by assumption) (by omega) (hkd e he) ?_
              refine V.iconst (v := (nI 2)) dR_home_43 (by decide) ?_
              refine V.icmp_ne (tgt := 51) dR_home_44 (by decide) (fun c_44 => ?_) (fun c_44 => ?_)
              · try simp (disch := omega) only [nI_ltI, nI_leI, nI_eq, zz_lt0, zz_ge0, zz_gt0, zz_le0, zz_eq0, zz_m1lt, zz_m1ge, zz_m1eq, bI_eq0, decide_eq_false_iff_not, decide_eq_true_eq, Decidable.not_not, not_true_eq_false, not_false_eq_true, Nat.not_lt, Nat.not_le, Bool.not_eq_false, Bool.not_eq_true] at c_44
                refine V.iconst (v := (-1)) dR_home_51 (by decide) ?_
                refine V.ireturn dR_home_52 rfl rfl ?_
                rw [hl2'] at hQ; simp only [s_dir] at hQ; first | (rw [if_pos (by omega)] at hQ; exact hQ) | (rw [if_neg (by omega)] at hQ; exact hQ)
              · try simp (disch := omega) only [nI_ltI, nI_leI, nI_eq, zz_lt0, zz_ge0, zz_gt0, zz_le0, zz_eq0, zz_m1lt, zz_m1ge, zz_m1eq, bI_eq0, decide_eq_false_iff_not, decide_eq_true_eq, Decidable.not_not, not_true_eq_false, not_false_eq_true, Nat.not_lt, Nat.not_le, Bool.not_eq_false, Bool.not_eq_true] at c_44
                refine V.iload_n dR_home_47 rfl ?_
                refine V.goto (tgt := 52) dR_home_48 (by decide) ?_
                refine V.ireturn dR_home_52 rfl rfl ?_
                rw [hl2'] at hQ; simp only [s_dir] at hQ; first | (rw [if_pos (by omega)] at hQ; exact hQ) | (rw [if_neg (by omega)] at hQ; exact hQ)
          · try simp (disch := omega) only [nI_ltI, nI_leI, nI_eq, zz_lt0, zz_ge0, zz_gt0, zz_le0, zz_eq0, zz_m1lt, zz_m1ge, zz_m1eq, bI_eq0, decide_eq_false_iff_not, decide_eq_true_eq, Decidable.not_not, not_true_eq_false, not_false_eq_true, Nat.not_lt, Nat.not_le, Bool.not_eq_false, Bool.not_eq_true] at c_18
            all_goals omega
        · try simp (disch := omega) only [nI_ltI, nI_leI, nI_eq, zz_lt0, zz_ge0, zz_gt0, zz_le0, zz_eq0, zz_m1lt, zz_m1ge, zz_m1eq, bI_eq0, decide_eq_false_iff_not, decide_eq_true_eq, Decidable.not_not, not_true_eq_false, not_false_eq_true, Nat.not_lt, Nat.not_le, Bool.not_eq_false, Bool.not_eq_true] at c_6
          all_goals omega
set_option maxHeartbeats 4000000 in
set_option maxRecDepth 100000 in
/-- PathTreeModel.isName -/
theorem kR_isName {G : GG} {h : HH} {o : Nat} {p : Nat → Nat} {len : Nat} {Q : Option Value → HH → Prop} (hS : RS G h o) (hP : RP h o p len) (hQ : Q (some (.int (bI (decide (s_isName p len))))) h) : V G mR_isName 0 (lv_args 0 [.ref o]) [] h 0 0 Q := by
  obtain ⟨hz, hk0, hk1, hk2, hk3, hk4, hk5, hk6, hk7, hk8, hf0, hf2, hf3, hf4, hf5, hf6, hf12, hf13⟩ := id hS
  obtain ⟨hln, hpp, hl2, hp⟩ := id hP
  have hll := s_last_le p len
  first | refine V.aload_n dR_isName_0 rfl ?_ | refine V.aload_nN dR_isName_0 rfl ?_
  refine V.callVk (kd := 4) 0 _ 0 _ [] dR_isName_1 okR_last n_R_61 (by omega) (by assumption) rfl imR_last seR_last_R (by decide) (by decide) rfl rfl (Nat.le_of_ble_eq_true rfl) (Nat.le_of_ble_eq_true rfl) (Nat.le_of_eq (Nat.zero_add _)) (Nat.le_of_eq (Nat.zero_add _)) (kR_last hS hP ?_)
  refine V.istore_n dR_isName_4 (by decide) ?_
  first | refine V.aload_n dR_isName_5 rfl ?_ | refine V.aload_nN dR_isName_5 rfl ?_
  refine V.getk dR_isName_6 (by omega) (by assumption) f_R_44_4 (by assumption) ?_
  refine V.iload_n dR_isName_9 rfl ?_
  refine V.isubN dR_isName_10 (by omega) ?_
  refine V.iconst (v := (nI 1)) dR_isName_11 (by decide) ?_
  refine V.icmp_lt (tgt := 56) dR_isName_12 (by decide) (fun c_12 => ?_) (fun c_12 => ?_)
  · try simp (disch := omega) only [nI_ltI, nI_leI, nI_eq, zz_lt0, zz_ge0, zz_gt0, zz_le0, zz_eq0, zz_m1lt, zz_m1ge, zz_m1eq, bI_eq0, decide_eq_false_iff_not, decide_eq_true_eq, Decidable.not_not, not_true_eq_false, not_false_eq_true, Nat.not_lt, Nat.not_le, Bool.not_eq_false, Bool.not_eq_true] at c_12
    refine V.iconst (v := (nI 0)) dR_isName_56 (by decide) ?_
    refine V.ireturn dR_isName_57 rfl rfl ?_
    first | (rw [bI_t (by omega)] at hQ; exact hQ) | (rw [bI_f (by omega)] at hQ; exact hQ)
  · try simp (disch := omega) only [nI_ltI, nI_leI, nI_eq, zz_lt0, zz_ge0, zz_gt0, zz_le0, zz_eq0, zz_m1lt, zz_m1ge, zz_m1eq, bI_eq0, decide_eq_false_iff_not, decide_eq_true_eq, Decidable.not_not, not_true_eq_false, not_false_eq_true, Nat.not_lt, Nat.not_le, Bool.not_eq_false, Bool.not_eq_true] at c_12
    first | refine V.aload_n dR_isName_15 rfl ?_ | refine V.aload_nN dR_isName_15 rfl ?_
    refine V.getk dR_isName_16 (by omega) (by assumption) f_R_44_4 (by assumption) ?_
    refine V.iload_n dR_isName_19 rfl ?_
    refine V.isubN dR_isName_20 (by omega) ?_
    refine V.bipush (v := (nI 60)) dR_isName_21 (by decide) ?_
    refine V.icmp_gt (tgt := 56) dR_isName_23 (by decide) (fun c_23 => ?_) (fun c_23 => ?_)
    · try simp (disch := omega) only [nI_ltI, nI_leI, nI_eq, zz_lt0, zz_ge0, zz_gt0, zz_le0, zz_eq0, zz_m1lt, zz_m1ge, zz_m1eq, bI_eq0, decide_eq_false_iff_not, decide_eq_true_eq, Decidable.not_not, not_true_eq_false, not_false_eq_true, Nat.not_lt, Nat.not_le, Bool.not_eq_false, Bool.not_eq_true] at c_23
      refine V.iconst (v := (nI 0)) dR_isName_56 (by decide) ?_
      refine V.ireturn dR_isName_57 rfl rfl ?_
      first | (rw [bI_t (by omega)] at hQ; exact hQ) | (rw [bI_f (by omega)] at hQ; exact hQ)
    · try simp (disch := omega) only [nI_ltI, nI_leI, nI_eq, zz_lt0, zz_ge0, zz_gt0, zz_le0, zz_eq0, zz_m1lt, zz_m1ge, zz_m1eq, bI_eq0, decide_eq_false_iff_not, decide_eq_true_eq, Decidable.not_not, not_true_eq_false, not_false_eq_true, Nat.not_lt, Nat.not_le, Bool.not_eq_false, Bool.not_eq_true] at c_23
      first | refine V.aload_n dR_isName_26 rfl ?_ | refine V.aload_nN dR_isName_26 rfl ?_
      refine V.iload_n dR_isName_27 rfl ?_
      first | refine V.aload_n dR_isName_28 rfl ?_ | refine V.aload_nN dR_isName_28 rfl ?_
      refine V.getk dR_isName_29 (by omega) (by assumption) f_R_44_4 (by assumption) ?_
      refine V.iconst (v := (nI 1)) dR_isName_32 (by decide) ?_
      refine V.callVk (kd := 4) 0 _ 0 _ [_, _, _] dR_isName_33 okR_isDots n_R_47 (by omega) (by assumption) rfl imR_isDots seR_isDots_R (by decide) (by decide) rfl rfl (Nat.le_of_ble_eq_true rfl) (Nat.le_of_ble_eq_true rfl) (Nat.le_of_eq (Nat.zero_add _)) (Nat.le_of_eq (Nat.zero_add _)) (kR_isDots1 hS hP (by omega) (by omega) ?_)
      refine V.if_ne (tgt := 56) dR_isName_36 (by decide) (fun c_36 => ?_) (fun c_36 => ?_)
      · try simp (disch := omega) only [nI_ltI, nI_leI, nI_eq, zz_lt0, zz_ge0, zz_gt0, zz_le0, zz_eq0, zz_m1lt, zz_m1ge, zz_m1eq, bI_eq0, decide_eq_false_iff_not, decide_eq_true_eq, Decidable.not_not, not_true_eq_false, not_false_eq_true, Nat.not_lt, Nat.not_le, Bool.not_eq_false, Bool.not_eq_true] at c_36
        refine V.iconst (v := (nI 0)) dR_isName_56 (by decide) ?_
        refine V.ireturn dR_isName_57 rfl rfl ?_
        first | (rw [bI_t (by omega)] at hQ; exact hQ) | (rw [bI_f (by omega)] at hQ; exact hQ)
      · try simp (disch := omega) only [nI_ltI, nI_leI, nI_eq, zz_lt0, zz_ge0, zz_gt0, zz_le0, zz_eq0, zz_m1lt, zz_m1ge, zz_m1eq, bI_eq0, decide_eq_false_iff_not, decide_eq_true_eq, Decidable.not_not, not_true_eq_false, not_false_eq_true, Nat.not_lt, Nat.not_le, Bool.not_eq_false, Bool.not_eq_true] at c_36
        first | refine V.aload_n dR_isName_39 rfl ?_ | refine V.aload_nN dR_isName_39 rfl ?_
        refine V.iload_n dR_isName_40 rfl ?_
        first | refine V.aload_n dR_isName_41 rfl ?_ | refine V.aload_nN dR_isName_41 rfl ?_
        refine V.getk dR_isName_42 (by omega) (by assumption) f_R_44_4 (by assumption) ?_
        refine V.iconst (v := (nI 2)) dR_isName_45 (by decide) ?_
        refine V.callVk (kd := 4) 0 _ 0 _ [_, _, _] dR_isName_46 okR_isDots n_R_47 (by omega) (by assumption) rfl imR_isDots seR_isDots_R (by decide) (by decide) rfl rfl (Nat.le_of_ble_eq_true rfl) (Nat.le_of_ble_eq_true rfl) (Nat.le_of_eq (Nat.zero_add _)) (Nat.le_of_eq (Nat.zero_add _)) (kR_isDots2 hS hP (by omega) (by omega) ?_)
        refine V.if_ne (tgt := 56) dR_isName_49 (by decide) (fun c_49 => ?_) (fun c_49 => ?_)
        · try simp (disch := omega) only [nI_ltI, nI_leI, nI_eq, zz_lt0, zz_ge0, zz_gt0, zz_le0, zz_eq0, zz_m1lt, zz_m1ge, zz_m1eq, bI_eq0, decide_eq_false_iff_not, decide_eq_true_eq, Decidable.not_not, not_true_eq_false, not_false_eq_true, Nat.not_lt, Nat.not_le, Bool.not_eq_false, Bool.not_eq_true] at c_49
          refine V.iconst (v := (nI 0)) dR_isName_56 (by decide) ?_
          refine V.ireturn dR_isName_57 rfl rfl ?_
          first | (rw [bI_t (by omega)] at hQ; exact hQ) | (rw [bI_f (by omega)] at hQ; exact hQ)
        · try simp (disch := omega) only [nI_ltI, nI_leI, nI_eq, zz_lt0, zz_ge0, zz_gt0, zz_le0, zz_eq0, zz_m1lt, zz_m1ge, zz_m1eq, bI_eq0, decide_eq_false_iff_not, decide_eq_true_eq, Decidable.not_not, not_true_eq_false, not_false_eq_true, Nat.not_lt, Nat.not_le, Bool.not_eq_false, Bool.not_eq_true] at c_49
          refine V.iconst (v := (nI 1)) dR_isName_52 (by decide) ?_
          refine V.goto (tgt := 57) dR_isName_53 (by decide) ?_
          refine V.ireturn dR_isName_57 rfl rfl ?_
          first | (rw [bI_t (by omega)] at hQ; exact hQ) | (rw [bI_f (by omega)] at hQ; exact hQ)
end
section
theorem zs_i {x y : Nat} (hx : x < 2 ^ 30) (hy : y < 2 ^ 30) : (nI x - nI y).toInt = (x : Int) - y := pk_sub_toInt hx hy
theorem zs_eq0 {x y : Nat} (hx : x < 2 ^ 30) (hy : y < 2 ^ 30) : nI x - nI y = 0 ↔ x = y := by
  rw [← Int32.toInt_inj, zs_i hx hy, Int32.toInt_zero]; omega
theorem zs_ge0 {x y : Nat} (hx : x < 2 ^ 30) (hy : y < 2 ^ 30) : 0 ≤ nI x - nI y ↔ y ≤ x := by
  rw [Int32.le_iff_toInt_le, zs_i hx hy, Int32.toInt_zero]; omega
theorem zs_lt0 {x y : Nat} (hx : x < 2 ^ 30) (hy : y < 2 ^ 30) : nI x - nI y < 0 ↔ x < y := by
  rw [Int32.lt_iff_toInt_lt, zs_i hx hy, Int32.toInt_zero]; omega
theorem s_lt_at {n1 n2 : Nat → Nat} {l1 l2 k : Nat} (h : ∀ j, j < k → n1 j = n2 j) (h1 : k < l1) (h2 : k < l2) (hne : ¬ n1 k = n2 k) : s_lt n1 l1 n2 l2 ↔ n1 k < n2 k := by
  refine ⟨fun ⟨x, hx1, hx2, hx3, hx4⟩ => ?_, fun z => ⟨k, by omega, h2, h, Or.inr z⟩⟩
  rcases Nat.lt_trichotomy x k with z | z | z
  · have := h x z
    rcases hx4 with q | q <;> omega
  · subst z
    rcases hx4 with q | q <;> omega
  · exact absurd (hx3 k z) hne
theorem s_lt_end {n1 n2 : Nat → Nat} {l1 l2 k : Nat} (h : ∀ j, j < k → n1 j = n2 j) (h1 : k ≤ l1) (h2 : k ≤ l2) (he : k = l1 ∨ k = l2) : s_lt n1 l1 n2 l2 ↔ l1 < l2 := by
  refine ⟨fun ⟨x, hx1, hx2, hx3, hx4⟩ => ?_, fun z => ⟨k, h1, by omega, h, Or.inl (by omega)⟩⟩
  by_cases z : x < k
  · have := h x z
    rcases hx4 with q | q <;> omega
  · omega
noncomputable def s_ltb (n1 : Nat → Nat) (l1 : Nat) (n2 : Nat → Nat) (l2 : Nat) : Bool := @decide (s_lt n1 l1 n2 l2) (Classical.propDecidable _)
theorem s_ltb_iff {n1 n2 : Nat → Nat} {l1 l2 : Nat} : s_ltb n1 l1 n2 l2 = true ↔ s_lt n1 l1 n2 l2 := by
  unfold s_ltb
  exact @decide_eq_true_iff _ (Classical.propDecidable _)
theorem s_ltb_of {n1 n2 : Nat → Nat} {l1 l2 : Nat} {b : Bool} (h : s_lt n1 l1 n2 l2 ↔ b = true) : s_ltb n1 l1 n2 l2 = b := by
  rw [Bool.eq_iff_iff, s_ltb_iff, h]
/-- how many below n -/
def s_cnt (f : Nat → Bool) : Nat → Nat
  | 0 => 0
  | n + 1 => s_cnt f n + (if f n = true then 1 else 0)
theorem s_cnt_le (f : Nat → Bool) : ∀ n, s_cnt f n ≤ n
  | 0 => Nat.le_refl 0
  | n + 1 => by
    have := s_cnt_le f n
    unfold s_cnt
    split <;> omega
theorem s_cnt_t {f : Nat → Bool} {n : Nat} (h : f n = true) : s_cnt f (n + 1) = s_cnt f n + 1 := by simp [s_cnt, h]
theorem s_cnt_f {f : Nat → Bool} {n : Nat} (h : f n = false) : s_cnt f (n + 1) = s_cnt f n + 0 := by simp [s_cnt, h]
theorem s_cnt_one {f : Nat → Bool} (h : f 0 = false) : s_cnt f 1 = 0 := by simp [s_cnt, h]
set_option maxHeartbeats 4000000 in
set_option maxRecDepth 100000 in
/-- PathTreeModel.isBefore -/
theorem kR_isBefore {G : GG} {h : HH} {o : Nat} {Q : Option Value → HH → Prop} {T : TT} {a b : Nat} (hS : RS G h o) (hT : RT h o T) (ha : a < 300) (hb : b < 300) (hQ : Q (some (.int (bI (s_ltb (T.2.2.2 a) (T.2.2.1 a) (T.2.2.2 b) (T.2.2.1 b))))) h) : V G mR_isBefore 0 (lv_args 0 [.ref o, .int (nI a), .int (nI b)]) [] h 0 0 Q := by
  obtain ⟨hz, hk0, hk1, hk2, hk3, hk4, hk5, hk6, hk7, hk8, hf0, hf2, hf3, hf4, hf5, hf6, hf12, hf13⟩ := id hS
  obtain ⟨hkd, hkd2, hin, hin2, hns, hns2, hnm, hnm2⟩ := id hT
  have hna := hns2 a ha
  have hnb := hns2 b hb
  have loop : ∀ r k, k + r = 100 → k ≤ T.2.2.1 a → k ≤ T.2.2.1 b → (∀ j, j < k → T.2.2.2 a j = T.2.2.2 b j) → V G mR_isBefore 2 [(3, .int (nI k)), (0, .ref o), (1, .int (nI a)), (2, .int (nI b))] [] h 0 0 Q := by
    intro r
    induction r with
    | zero =>
      intro k hr h1 h2
      omega
    | succ r ih =>
      intro k hr h1 h2 he
      refine V.iload_n dR_isBefore_2 rfl ?_
      first | refine V.aload_n dR_isBefore_3 rfl ?_ | refine V.aload_nN dR_isBefore_3 rfl ?_
      refine V.getk dR_isBefore_4 (by omega) (by assumption) f_R_22_4 (by assumption) ?_
      refine V.iload_n dR_isBefore_7 rfl ?_
      refine V.ialoadN dR_isBefore_8 (by omega) (by assumption) (by omega) (hns a ha) ?_
      refine V.icmp_ge (tgt := 69) dR_isBefore_9 (by decide) (fun c_9 => ?_) (fun c_9 => ?_)
      · try simp (disch := omega) only [nI_ltI, nI_leI, nI_eq, zz_lt0, zz_ge0, zz_gt0, zz_le0, zz_eq0, zz_m1lt, zz_m1ge, zz_m1eq, bI_eq0, decide_eq_false_iff_not, decide_eq_true_eq, Decidable.not_not, not_true_eq_false, not_false_eq_true, Nat.not_lt, Nat.not_le, Bool.not_eq_false, Bool.not_eq_true] at c_9
        first | refine V.aload_n dR_isBefore_69 rfl ?_ | refine V.aload_nN dR_isBefore_69 rfl ?_
        refine V.getk dR_isBefore_70 (by omega) (by assumption) f_R_22_4 (by assumption) ?_
        refine V.iload_n dR_isBefore_73 rfl ?_
        refine V.ialoadN dR_isBefore_74 (by omega) (by assumption) (by omega) (hns a ha) ?_
        first | refine V.aload_n dR_isBefore_75 rfl ?_ | refine V.aload_nN dR_isBefore_75 rfl ?_
        refine V.getk dR_isBefore_76 (by omega) (by assumption) f_R_22_4 (by assumption) ?_
        refine V.iload_n dR_isBefore_79 rfl ?_
        refine V.ialoadN dR_isBefore_80 (by omega) (by assumption) (by omega) (hns b hb) ?_
        refine V.icmp_ge (tgt := 88) dR_isBefore_81 (by decide) (fun c_81 => ?_) (fun c_81 => ?_)
        · try simp (disch := omega) only [nI_ltI, nI_leI, nI_eq, zz_lt0, zz_ge0, zz_gt0, zz_le0, zz_eq0, zz_m1lt, zz_m1ge, zz_m1eq, bI_eq0, decide_eq_false_iff_not, decide_eq_true_eq, Decidable.not_not, not_true_eq_false, not_false_eq_true, Nat.not_lt, Nat.not_le, Bool.not_eq_false, Bool.not_eq_true] at c_81
          refine V.iconst (v := (nI 0)) dR_isBefore_88 (by decide) ?_
          refine V.ireturn dR_isBefore_89 rfl rfl ?_
          first | (rw [s_ltb_of (b := true) ((s_lt_end he (by omega) (by omega) (by omega)).trans ⟨fun _ => rfl, fun _ => by omega⟩)] at hQ; exact hQ) | (rw [s_ltb_of (b := false) ((s_lt_end he (by omega) (by omega) (by omega)).trans ⟨fun z => by omega, fun z => by (cases z)⟩)] at hQ; exact hQ)
        · try simp (disch := omega) only [nI_ltI, nI_leI, nI_eq, zz_lt0, zz_ge0, zz_gt0, zz_le0, zz_eq0, zz_m1lt, zz_m1ge, zz_m1eq, bI_eq0, decide_eq_false_iff_not, decide_eq_true_eq, Decidable.not_not, not_true_eq_false, not_false_eq_true, Nat.not_lt, Nat.not_le, Bool.not_eq_false, Bool.not_eq_true] at c_81
          refine V.iconst (v := (nI 1)) dR_isBefore_84 (by decide) ?_
          refine V.goto (tgt := 89) dR_isBefore_85 (by decide) ?_
          refine V.ireturn dR_isBefore_89 rfl rfl ?_
          first | (rw [s_ltb_of (b := true) ((s_lt_end he (by omega) (by omega) (by omega)).trans ⟨fun _ => rfl, fun _ => by omega⟩)] at hQ; exact hQ) | (rw [s_ltb_of (b := false) ((s_lt_end he (by omega) (by omega) (by omega)).trans ⟨fun z => by omega, fun z => by (cases z)⟩)] at hQ; exact hQ)
      · try simp (disch := omega) only [nI_ltI, nI_leI, nI_eq, zz_lt0, zz_ge0, zz_gt0, zz_le0, zz_eq0, zz_m1lt, zz_m1ge, zz_m1eq, bI_eq0, decide_eq_false_iff_not, decide_eq_true_eq, Decidable.not_not, not_true_eq_false, not_false_eq_true, Nat.not_lt, Nat.not_le, Bool.not_eq_false, Bool.not_eq_true] at c_9
        refine V.iload_n dR_isBefore_12 rfl ?_
        first | refine V.aload_n dR_isBefore_13 rfl ?_ | refine V.aload_nN dR_isBefore_13 rfl ?_
        refine V.getk dR_isBefore_14 (by omega) (by assumption) f_R_22_4 (by assumption) ?_
        refine V.iload_n dR_isBefore_17 rfl ?_
        refine V.ialoadN dR_isBefore_18 (by omega) (by assumption) (by omega) (hns b hb) ?_
        refine V.icmp_ge (tgt := 69) dR_isBefore_19 (by decide) (fun c_19 => ?_) (fun c_19 => ?_)
        · try simp (disch := omega) only [nI_ltI, nI_leI, nI_eq, zz_lt0, zz_ge0, zz_gt0, zz_le0, zz_eq0, zz_m1lt, zz_m1ge, zz_m1eq, bI_eq0, decide_eq_false_iff_not, decide_eq_true_eq, Decidable.not_not, not_true_eq_false, not_false_eq_true, Nat.not_lt, Nat.not_le, Bool.not_eq_false, Bool.not_eq_true] at c_19
          first | refine V.aload_n dR_isBefore_69 rfl ?_ | refine V.aload_nN dR_isBefore_69 rfl ?_
          refine V.getk dR_isBefore_70 (by omega) (by assumption) f_R_22_4 (by assumption) ?_
          refine V.iload_n dR_isBefore_73 rfl ?_
          refine V.ialoadN dR_isBefore_74 (by omega) (by assumption) (by omega) (hns a ha) ?_
          first | refine V.aload_n dR_isBefore_75 rfl ?_ | refine V.aload_nN dR_isBefore_75 rfl ?_
          refine V.getk dR_isBefore_76 (by omega) (by assumption) f_R_22_4 (by assumption) ?_
          refine V.iload_n dR_isBefore_79 rfl ?_
          refine V.ialoadN dR_isBefore_80 (by omega) (by assumption) (by omega) (hns b hb) ?_
          refine V.icmp_ge (tgt := 88) dR_isBefore_81 (by decide) (fun c_81 => ?_) (fun c_81 => ?_)
          · try simp (disch := omega) only [nI_ltI, nI_leI, nI_eq, zz_lt0, zz_ge0, zz_gt0, zz_le0, zz_eq0, zz_m1lt, zz_m1ge, zz_m1eq, bI_eq0, decide_eq_false_iff_not, decide_eq_true_eq, Decidable.not_not, not_true_eq_false, not_false_eq_true, Nat.not_lt, Nat.not_le, Bool.not_eq_false, Bool.not_eq_true] at c_81
            refine V.iconst (v := (nI 0)) dR_isBefore_88 (by decide) ?_
            refine V.ireturn dR_isBefore_89 rfl rfl ?_
            first | (rw [s_ltb_of (b := true) ((s_lt_end he (by omega) (by omega) (by omega)).trans ⟨fun _ => rfl, fun _ => by omega⟩)] at hQ; exact hQ) | (rw [s_ltb_of (b := false) ((s_lt_end he (by omega) (by omega) (by omega)).trans ⟨fun z => by omega, fun z => by (cases z)⟩)] at hQ; exact hQ)
          · try simp (disch := omega) only [nI_ltI, nI_leI, nI_eq, zz_lt0, zz_ge0, zz_gt0, zz_le0, zz_eq0, zz_m1lt, zz_m1ge, zz_m1eq, bI_eq0, decide_eq_false_iff_not, decide_eq_true_eq, Decidable.not_not, not_true_eq_false, not_false_eq_true, Nat.not_lt, Nat.not_le, Bool.not_eq_false, Bool.not_eq_true] at c_81
            refine V.iconst (v := (nI 1)) dR_isBefore_84 (by decide) ?_
            refine V.goto (tgt := 89) dR_isBefore_85 (by decide) ?_
            refine V.ireturn dR_isBefore_89 rfl rfl ?_
            first | (rw [s_ltb_of (b := true) ((s_lt_end he (by omega) (by omega) (by omega)).trans ⟨fun _ => rfl, fun _ => by omega⟩)] at hQ; exact hQ) | (rw [s_ltb_of (b := false) ((s_lt_end he (by omega) (by omega) (by omega)).trans ⟨fun z => by omega, fun z => by (cases z)⟩)] at hQ; exact hQ)
        · try simp (disch := omega) only [nI_ltI, nI_leI, nI_eq, zz_lt0, zz_ge0, zz_gt0, zz_le0, zz_eq0, zz_m1lt, zz_m1ge, zz_m1eq, bI_eq0, decide_eq_false_iff_not, decide_eq_true_eq, Decidable.not_not, not_true_eq_false, not_false_eq_true, Nat.not_lt, Nat.not_le, Bool.not_eq_false, Bool.not_eq_true] at c_19
          have hq1 := hnm2 a k ha (by omega)
          have hq2 := hnm2 b k hb (by omega)
          first | refine V.aload_n dR_isBefore_22 rfl ?_ | refine V.aload_nN dR_isBefore_22 rfl ?_
          refine V.getk dR_isBefore_23 (by omega) (by assumption) f_R_25_4 (by assumption) ?_
          refine V.bipush (v := (nI 60)) dR_isBefore_26 (by decide) ?_
          refine V.iload_n dR_isBefore_28 rfl ?_
          refine V.imulN dR_isBefore_29 ?_
          refine V.iload_n dR_isBefore_30 rfl ?_
          refine V.iaddN dR_isBefore_31 ?_
          refine V.ialoadN dR_isBefore_32 (by omega) (by assumption) (by omega) (hnm a k ha (by omega)) ?_
          first | refine V.aload_n dR_isBefore_33 rfl ?_ | refine V.aload_nN dR_isBefore_33 rfl ?_
          refine V.getk dR_isBefore_34 (by omega) (by assumption) f_R_25_4 (by assumption) ?_
          refine V.bipush (v := (nI 60)) dR_isBefore_37 (by decide) ?_
          refine V.iload_n dR_isBefore_39 rfl ?_
          refine V.imulN dR_isBefore_40 ?_
          refine V.iload_n dR_isBefore_41 rfl ?_
          refine V.iaddN dR_isBefore_42 ?_
          refine V.ialoadN dR_isBefore_43 (by omega) (by assumption) (by omega) (hnm b k hb (by omega)) ?_
          refine V.isub dR_isBefore_44 ?_
          refine V.istore dR_isBefore_45 (by decide) ?_
          refine V.iload dR_isBefore_47 rfl ?_
          refine V.if_eq (tgt := 63) dR_isBefore_49 (by decide) (fun c_49 => ?_) (fun c_49 => ?_)
          · try simp (disch := omega) only [zs_eq0, zs_ge0, Nat.not_le] at c_49
            refine V.iincN dR_isBefore_63 rfl (by decide) ?_
            refine V.goto (tgt := 2) dR_isBefore_66 (by decide) ?_
            exact V.re [3, 0, 1, 2] rfl (ih (k + 1) (by omega) (by omega) (by omega) (fun j hj => (Nat.lt_or_ge j k).elim (he j) (fun z => by (rw [show j = k by omega]; exact c_49))))
          · try simp (disch := omega) only [zs_eq0, zs_ge0, Nat.not_le] at c_49
            refine V.iload dR_isBefore_52 rfl ?_
            refine V.if_ge (tgt := 61) dR_isBefore_54 (by decide) (fun c_54 => ?_) (fun c_54 => ?_)
            · try simp (disch := omega) only [zs_eq0, zs_ge0, Nat.not_le] at c_54
              refine V.iconst (v := (nI 0)) dR_isBefore_61 (by decide) ?_
              refine V.ireturn dR_isBefore_62 rfl rfl ?_
              first | (rw [s_ltb_of (b := true) ((s_lt_at he (by omega) (by omega) c_49).trans ⟨fun _ => rfl, fun _ => by omega⟩)] at hQ; exact hQ) | (rw [s_ltb_of (b := false) ((s_lt_at he (by omega) (by omega) c_49).trans ⟨fun z => by omega, fun z => by (cases z)⟩)] at hQ; exact hQ)
            · try simp (disch := omega) only [zs_eq0, zs_ge0, Nat.not_le] at c_54
              refine V.iconst (v := (nI 1)) dR_isBefore_57 (by decide) ?_
              refine V.goto (tgt := 62) dR_isBefore_58 (by decide) ?_
              refine V.ireturn dR_isBefore_62 rfl rfl ?_
              first | (rw [s_ltb_of (b := true) ((s_lt_at he (by omega) (by omega) c_49).trans ⟨fun _ => rfl, fun _ => by omega⟩)] at hQ; exact hQ) | (rw [s_ltb_of (b := false) ((s_lt_at he (by omega) (by omega) c_49).trans ⟨fun z => by omega, fun z => by (cases z)⟩)] at hQ; exact hQ)
  refine V.iconst (v := (nI 0)) dR_isBefore_0 (by decide) ?_
  refine V.istore_n dR_isBefore_1 (by decide) ?_
  exact loop 100 0 (by omega) (by omega) (by omega) (fun j hj => by omega)
set_option maxHeartbeats 4000000 in
set_option maxRecDepth 100000 in
/-- PathTreeModel.many -/
theorem kR_many {G : GG} {h : HH} {o : Nat} {Q : Option Value → HH → Prop} {T : TT} {w : Nat} (hS : RS G h o) (hT : RT h o T) (hw : w < 3) (hQ : Q (some (.int (nI (s_cnt (fun e => decide (T.1 e = w)) 300)))) h) : V G mR_many 0 (lv_args 0 [.ref o, .int (nI w)]) [] h 0 0 Q := by
  obtain ⟨hz, hk0, hk1, hk2, hk3, hk4, hk5, hk6, hk7, hk8, hf0, hf2, hf3, hf4, hf5, hf6, hf12, hf13⟩ := id hS
  obtain ⟨hkd, hkd2, hin, hin2, hns, hns2, hnm, hnm2⟩ := id hT
  have loop : ∀ r e, e + r = 300 → V G mR_many 4 [(3, .int (nI e)), (2, .int (nI (s_cnt (fun e => decide (T.1 e = w)) e))), (0, .ref o), (1, .int (nI w))] [] h 0 0 Q := by
    intro r
    induction r with
    | zero =>
      intro e hr
      refine V.iload_n dR_many_4 rfl ?_
      refine V.sipush (v := (nI 300)) dR_many_5 (by decide) ?_
      refine V.icmp_ge (tgt := 35) dR_many_8 (by decide) (fun c_8 => ?_) (fun c_8 => ?_)
      · try simp (disch := omega) only [nI_ltI, nI_leI, nI_eq, zz_lt0, zz_ge0, zz_gt0, zz_le0, zz_eq0, zz_m1lt, zz_m1ge, zz_m1eq, bI_eq0, decide_eq_false_iff_not, decide_eq_true_eq, Decidable.not_not, not_true_eq_false, not_false_eq_true, Nat.not_lt, Nat.not_le, Bool.not_eq_false, Bool.not_eq_true] at c_8
        refine V.iload_n dR_many_35 rfl ?_
        refine V.ireturn dR_many_36 rfl rfl ?_
        rw [show 300 = e by omega] at hQ; exact hQ
      · try simp (disch := omega) only [nI_ltI, nI_leI, nI_eq, zz_lt0, zz_ge0, zz_gt0, zz_le0, zz_eq0, zz_m1lt, zz_m1ge, zz_m1eq, bI_eq0, decide_eq_false_iff_not, decide_eq_true_eq, Decidable.not_not, not_true_eq_false, not_false_eq_true, Nat.not_lt, Nat.not_le, Bool.not_eq_false, Bool.not_eq_true] at c_8
        all_goals omega
    | succ r ih =>
      intro e hr
      have hkd2e := hkd2 e (by omega)
      refine V.iload_n dR_many_4 rfl ?_
      refine V.sipush (v := (nI 300)) dR_many_5 (by decide) ?_
      refine V.icmp_ge (tgt := 35) dR_many_8 (by decide) (fun c_8 => ?_) (fun c_8 => ?_)
      · try simp (disch := omega) only [nI_ltI, nI_leI, nI_eq, zz_lt0, zz_ge0, zz_gt0, zz_le0, zz_eq0, zz_m1lt, zz_m1ge, zz_m1eq, bI_eq0, decide_eq_false_iff_not, decide_eq_true_eq, Decidable.not_not, not_true_eq_false, not_false_eq_true, Nat.not_lt, Nat.not_le, Bool.not_eq_false, Bool.not_eq_true] at c_8
        all_goals omega
      · try simp (disch := omega) only [nI_ltI, nI_leI, nI_eq, zz_lt0, zz_ge0, zz_gt0, zz_le0, zz_eq0, zz_m1lt, zz_m1ge, zz_m1eq, bI_eq0, decide_eq_false_iff_not, decide_eq_true_eq, Decidable.not_not, not_true_eq_false, not_false_eq_true, Nat.not_lt, Nat.not_le, Bool.not_eq_false, Bool.not_eq_true] at c_8
        refine V.iload_n dR_many_11 rfl ?_
        first | refine V.aload_n dR_many_12 rfl ?_ | refine V.aload_nN dR_many_12 rfl ?_
        refine V.getk dR_many_13 (by omega) (by assumption) f_R_13_4 (by assumption) ?_
        refine V.iload_n dR_many_16 rfl ?_
        refine V.ialoadN dR_many_17 (by omega) (by assumption) (by omega) (hkd e (by omega)) ?_
        refine V.iload_n dR_many_18 rfl ?_
        refine V.icmp_ne (tgt := 26) dR_many_19 (by decide) (fun c_19 => ?_) (fun c_19 => ?_)
        · try simp (disch := omega) only [nI_ltI, nI_leI, nI_eq, zz_lt0, zz_ge0, zz_gt0, zz_le0, zz_eq0, zz_m1lt, zz_m1ge, zz_m1eq, bI_eq0, decide_eq_false_iff_not, decide_eq_true_eq, Decidable.not_not, not_true_eq_false, not_false_eq_true, Nat.not_lt, Nat.not_le, Bool.not_eq_false, Bool.not_eq_true] at c_19
          refine V.iconst (v := (nI 0)) dR_many_26 (by decide) ?_
          refine V.iaddN dR_many_27 ?_
          refine V.istore_n dR_many_28 (by decide) ?_
          refine V.iincN dR_many_29 rfl (by decide) ?_
          refine V.goto (tgt := 4) dR_many_32 (by decide) ?_
          first | exact V.re [3, 2, 0, 1] rfl (by rw [← s_cnt_t (f := (fun e => decide (T.1 e = w))) (decide_eq_true (by omega))]; exact ih (e + 1) (by omega)) | exact V.re [3, 2, 0, 1] rfl (by rw [← s_cnt_f (f := (fun e => decide (T.1 e = w))) (decide_eq_false (by omega))]; exact ih (e + 1) (by omega))
        · try simp (disch := omega) only [nI_ltI, nI_leI, nI_eq, zz_lt0, zz_ge0, zz_gt0, zz_le0, zz_eq0, zz_m1lt, zz_m1ge, zz_m1eq, bI_eq0, decide_eq_false_iff_not, decide_eq_true_eq, Decidable.not_not, not_true_eq_false, not_false_eq_true, Nat.not_lt, Nat.not_le, Bool.not_eq_false, Bool.not_eq_true] at c_19
          refine V.iconst (v := (nI 1)) dR_many_22 (by decide) ?_
          refine V.goto (tgt := 27) dR_many_23 (by decide) ?_
          refine V.iaddN dR_many_27 ?_
          refine V.istore_n dR_many_28 (by decide) ?_
          refine V.iincN dR_many_29 rfl (by decide) ?_
          refine V.goto (tgt := 4) dR_many_32 (by decide) ?_
          first | exact V.re [3, 2, 0, 1] rfl (by rw [← s_cnt_t (f := (fun e => decide (T.1 e = w))) (decide_eq_true (by omega))]; exact ih (e + 1) (by omega)) | exact V.re [3, 2, 0, 1] rfl (by rw [← s_cnt_f (f := (fun e => decide (T.1 e = w))) (decide_eq_false (by omega))]; exact ih (e + 1) (by omega))
  refine V.iconst (v := (nI 0)) dR_many_0 (by decide) ?_
  refine V.istore_n dR_many_1 (by decide) ?_
  refine V.iconst (v := (nI 0)) dR_many_2 (by decide) ?_
  refine V.istore_n dR_many_3 (by decide) ?_
  exact loop 300 0 (by omega)
set_option maxHeartbeats 4000000 in
set_option maxRecDepth 100000 in
/-- PathTreeModel.atHand -/
theorem kR_atHand {G : GG} {h : HH} {o : Nat} {Q : Option Value → HH → Prop} {T : TT} {hand : Nat} (hS : RS G h o) (hT : RT h o T) (hH : h.2.1 o 8 = .int (nI hand) ∧ hand < 300) (hQ : Q (some (.int (nI (s_cnt (fun e => decide (1 ≤ e ∧ T.1 e ≠ 0 ∧ T.2.1 e = hand)) 300)))) h) : V G mR_atHand 0 (lv_args 0 [.ref o]) [] h 0 0 Q := by
  obtain ⟨hz, hk0, hk1, hk2, hk3, hk4, hk5, hk6, hk7, hk8, hf0, hf2, hf3, hf4, hf5, hf6, hf12, hf13⟩ := id hS
  obtain ⟨hkd, hkd2, hin, hin2, hns, hns2, hnm, hnm2⟩ := id hT
  have hhand : h.2.1 o 8 = .int (nI hand) := hH.1
  have hhl : hand < 300 := hH.2
  have loop : ∀ r e, e + r = 300 → 1 ≤ e → V G mR_atHand 4 [(2, .int (nI e)), (1, .int (nI (s_cnt (fun e => decide (1 ≤ e ∧ T.1 e ≠ 0 ∧ T.2.1 e = hand)) e))), (0, .ref o)] [] h 0 0 Q := by
    intro r
    induction r with
    | zero =>
      intro e hr h1
      refine V.iload_n dR_atHand_4 rfl ?_
      refine V.sipush (v := (nI 300)) dR_atHand_5 (by decide) ?_
      refine V.icmp_ge (tgt := 47) dR_atHand_8 (by decide) (fun c_8 => ?_) (fun c_8 => ?_)
      · try simp (disch := omega) only [nI_ltI, nI_leI, nI_eq, zz_lt0, zz_ge0, zz_gt0, zz_le0, zz_eq0, zz_m1lt, zz_m1ge, zz_m1eq, bI_eq0, decide_eq_false_iff_not, decide_eq_true_eq, Decidable.not_not, not_true_eq_false, not_false_eq_true, Nat.not_lt, Nat.not_le, Bool.not_eq_false, Bool.not_eq_true] at c_8
        refine V.iload_n dR_atHand_47 rfl ?_
        refine V.ireturn dR_atHand_48 rfl rfl ?_
        rw [show 300 = e by omega] at hQ; exact hQ
      · try simp (disch := omega) only [nI_ltI, nI_leI, nI_eq, zz_lt0, zz_ge0, zz_gt0, zz_le0, zz_eq0, zz_m1lt, zz_m1ge, zz_m1eq, bI_eq0, decide_eq_false_iff_not, decide_eq_true_eq, Decidable.not_not, not_true_eq_false, not_false_eq_true, Nat.not_lt, Nat.not_le, Bool.not_eq_false, Bool.not_eq_true] at c_8
        all_goals omega
    | succ r ih =>
      intro e hr h1
      have hkd2e := hkd2 e (by omega)
      have hin2e := hin2 e (by omega)
      refine V.iload_n dR_atHand_4 rfl ?_
      refine V.sipush (v := (nI 300)) dR_atHand_5 (by decide) ?_
      refine V.icmp_ge (tgt := 47) dR_atHand_8 (by decide) (fun c_8 => ?_) (fun c_8 => ?_)
      · try simp (disch := omega) only [nI_ltI, nI_leI, nI_eq, zz_lt0, zz_ge0, zz_gt0, zz_le0, zz_eq0, zz_m1lt, zz_m1ge, zz_m1eq, bI_eq0, decide_eq_false_iff_not, decide_eq_true_eq, Decidable.not_not, not_true_eq_false, not_false_eq_true, Nat.not_lt, Nat.not_le, Bool.not_eq_false, Bool.not_eq_true] at c_8
        all_goals omega
      · try simp (disch := omega) only [nI_ltI, nI_leI, nI_eq, zz_lt0, zz_ge0, zz_gt0, zz_le0, zz_eq0, zz_m1lt, zz_m1ge, zz_m1eq, bI_eq0, decide_eq_false_iff_not, decide_eq_true_eq, Decidable.not_not, not_true_eq_false, not_false_eq_true, Nat.not_lt, Nat.not_le, Bool.not_eq_false, Bool.not_eq_true] at c_8
        refine V.iload_n dR_atHand_11 rfl ?_
        first | refine V.aload_n dR_atHand_12 rfl ?_ | refine V.aload_nN dR_atHand_12 rfl ?_
        refine V.getk dR_atHand_13 (by omega) (by assumption) f_R_13_4 (by assumption) ?_
        refine V.iload_n dR_atHand_16 rfl ?_
        refine V.ialoadN dR_atHand_17 (by omega) (by assumption) (by omega) (hkd e (by omega)) ?_
        refine V.if_eq (tgt := 38) dR_atHand_18 (by decide) (fun c_18 => ?_) (fun c_18 => ?_)
        · try simp (disch := omega) only [nI_ltI, nI_leI, nI_eq, zz_lt0, zz_ge0, zz_gt0, zz_le0, zz_eq0, zz_m1lt, zz_m1ge, zz_m1eq, bI_eq0, decide_eq_false_iff_not, decide_eq_true_eq, Decidable.not_not, not_true_eq_false, not_false_eq_true, Nat.not_lt, Nat.not_le, Bool.not_eq_false, Bool.not_eq_true] at c_18
          refine V.iconst (v := (nI 0)) dR_atHand_38 (by decide) ?_
          refine V.iaddN dR_atHand_39 ?_
          refine V.istore_n dR_atHand_40 (by decide) ?_
          refine V.iincN dR_atHand_41 rfl (by decide) ?_
          refine V.goto (tgt := 4) dR_atHand_44 (by decide) ?_
          first | exact V.re [2, 1, 0] rfl (by rw [← s_cnt_t (f := (fun e => decide (1 ≤ e ∧ T.1 e ≠ 0 ∧ T.2.1 e = hand))) (decide_eq_true (by omega))]; exact ih (e + 1) (by omega) (by omega)) | exact V.re [2, 1, 0] rfl (by rw [← s_cnt_f (f := (fun e => decide (1 ≤ e ∧ T.1 e ≠ 0 ∧ T.2.1 e = hand))) (decide_eq_false (by omega))]; exact ih (e + 1) (by omega) (by omega))
        · try simp (disch := omega) only [nI_ltI, nI_leI, nI_eq, zz_lt0, zz_ge0, zz_gt0, zz_le0, zz_eq0, zz_m1lt, zz_m1ge, zz_m1eq, bI_eq0, decide_eq_false_iff_not, decide_eq_true_eq, Decidable.not_not, not_true_eq_false, not_false_eq_true, Nat.not_lt, Nat.not_le, Bool.not_eq_false, Bool.not_eq_true] at c_18
          first | refine V.aload_n dR_atHand_21 rfl ?_ | refine V.aload_nN dR_atHand_21 rfl ?_
          refine V.getk dR_atHand_22 (by omega) (by assumption) f_R_16_4 (by assumption) ?_
          refine V.iload_n dR_atHand_25 rfl ?_
          refine V.ialoadN dR_atHand_26 (by omega) (by assumption) (by omega) (hin e (by omega)) ?_
          first | refine V.aload_n dR_atHand_27 rfl ?_ | refine V.aload_nN dR_atHand_27 rfl ?_
          refine V.getk dR_atHand_28 (by omega) (by assumption) f_R_55_4 (by assumption) ?_
          refine V.icmp_ne (tgt := 38) dR_atHand_31 (by decide) (fun c_31 => ?_) (fun c_31 => ?_)
          · try simp (disch := omega) only [nI_ltI, nI_leI, nI_eq, zz_lt0, zz_ge0, zz_gt0, zz_le0, zz_eq0, zz_m1lt, zz_m1ge, zz_m1eq, bI_eq0, decide_eq_false_iff_not, decide_eq_true_eq, Decidable.not_not, not_true_eq_false, not_false_eq_true, Nat.not_lt, Nat.not_le, Bool.not_eq_false, Bool.not_eq_true] at c_31
            refine V.iconst (v := (nI 0)) dR_atHand_38 (by decide) ?_
            refine V.iaddN dR_atHand_39 ?_
            refine V.istore_n dR_atHand_40 (by decide) ?_
            refine V.iincN dR_atHand_41 rfl (by decide) ?_
            refine V.goto (tgt := 4) dR_atHand_44 (by decide) ?_
            first | exact V.re [2, 1, 0] rfl (by rw [← s_cnt_t (f := (fun e => decide (1 ≤ e ∧ T.1 e ≠ 0 ∧ T.2.1 e = hand))) (decide_eq_true (by omega))]; exact ih (e + 1) (by omega) (by omega)) | exact V.re [2, 1, 0] rfl (by rw [← s_cnt_f (f := (fun e => decide (1 ≤ e ∧ T.1 e ≠ 0 ∧ T.2.1 e = hand))) (decide_eq_false (by omega))]; exact ih (e + 1) (by omega) (by omega))
          · try simp (disch := omega) only [nI_ltI, nI_leI, nI_eq, zz_lt0, zz_ge0, zz_gt0, zz_le0, zz_eq0, zz_m1lt, zz_m1ge, zz_m1eq, bI_eq0, decide_eq_false_iff_not, decide_eq_true_eq, Decidable.not_not, not_true_eq_false, not_false_eq_true, Nat.not_lt, Nat.not_le, Bool.not_eq_false, Bool.not_eq_true] at c_31
            refine V.iconst (v := (nI 1)) dR_atHand_34 (by decide) ?_
            refine V.goto (tgt := 39) dR_atHand_35 (by decide) ?_
            refine V.iaddN dR_atHand_39 ?_
            refine V.istore_n dR_atHand_40 (by decide) ?_
            refine V.iincN dR_atHand_41 rfl (by decide) ?_
            refine V.goto (tgt := 4) dR_atHand_44 (by decide) ?_
            first | exact V.re [2, 1, 0] rfl (by rw [← s_cnt_t (f := (fun e => decide (1 ≤ e ∧ T.1 e ≠ 0 ∧ T.2.1 e = hand))) (decide_eq_true (by omega))]; exact ih (e + 1) (by omega) (by omega)) | exact V.re [2, 1, 0] rfl (by rw [← s_cnt_f (f := (fun e => decide (1 ≤ e ∧ T.1 e ≠ 0 ∧ T.2.1 e = hand))) (decide_eq_false (by omega))]; exact ih (e + 1) (by omega) (by omega))
  refine V.iconst (v := (nI 0)) dR_atHand_0 (by decide) ?_
  refine V.istore_n dR_atHand_1 (by decide) ?_
  refine V.iconst (v := (nI 1)) dR_atHand_2 (by decide) ?_
  refine V.istore_n dR_atHand_3 (by decide) ?_
  have hc1 := s_cnt_one (f := (fun e => decide (1 ≤ e ∧ T.1 e ≠ 0 ∧ T.2.1 e = hand))) (decide_eq_false (by omega))
  have hl := loop 299 1 (by omega) (by omega)
  rw [hc1] at hl
  exact hl
set_option maxHeartbeats 4000000 in
set_option maxRecDepth 100000 in
/-- PathTreeModel.above -/
theorem kR_above {G : GG} {h : HH} {o : Nat} {Q : Option Value → HH → Prop} {T : TT} {hand : Nat} {dp : Nat → Nat} (hS : RS G h o) (hT : RT h o T) (hH : h.2.1 o 8 = .int (nI hand) ∧ hand < 300) (hd0 : dp 0 = 0) (hdp : ∀ e, e < 300 → T.1 e = 2 → e ≠ 0 → T.1 (T.2.1 e) = 2 ∧ dp e = dp (T.2.1 e) + 1) (hhd : T.1 hand = 2) (hbd : dp hand < 2 ^ 20) (hQ : Q (some (.int (nI (dp hand)))) h) : V G mR_above 0 (lv_args 0 [.ref o]) [] h 0 0 Q := by
  obtain ⟨hz, hk0, hk1, hk2, hk3, hk4, hk5, hk6, hk7, hk8, hf0, hf2, hf3, hf4, hf5, hf6, hf12, hf13⟩ := id hS
  obtain ⟨hkd, hkd2, hin, hin2, hns, hns2, hnm, hnm2⟩ := id hT
  have hhand : h.2.1 o 8 = .int (nI hand) := hH.1
  have hhl : hand < 300 := hH.2
  have loop : ∀ m e n, e < 300 → T.1 e = 2 → dp e = m → n + m = dp hand → V G mR_above 7 [(2, .int (nI e)), (1, .int (nI n)), (0, .ref o)] [] h 0 0 Q := by
    intro m
    induction m with
    | zero =>
      intro e n he hk hm hn
      have he0 : e = 0 := (Nat.eq_zero_or_pos e).elim id (fun z => by have := hdp e he hk (by omega); omega)
      refine V.iload_n dR_above_7 rfl ?_
      refine V.if_eq (tgt := 24) dR_above_8 (by decide) (fun c_8 => ?_) (fun c_8 => ?_)
      · try simp (disch := omega) only [nI_ltI, nI_leI, nI_eq, zz_lt0, zz_ge0, zz_gt0, zz_le0, zz_eq0, zz_m1lt, zz_m1ge, zz_m1eq, bI_eq0, decide_eq_false_iff_not, decide_eq_true_eq, Decidable.not_not, not_true_eq_false, not_false_eq_true, Nat.not_lt, Nat.not_le, Bool.not_eq_false, Bool.not_eq_true] at c_8
        refine V.iload_n dR_above_24 rfl ?_
        refine V.ireturn dR_above_25 rfl rfl ?_
        rw [show dp hand = n by omega] at hQ; exact hQ
      · try simp (disch := omega) only [nI_ltI, nI_leI, nI_eq, zz_lt0, zz_ge0, zz_gt0, zz_le0, zz_eq0, zz_m1lt, zz_m1ge, zz_m1eq, bI_eq0, decide_eq_false_iff_not, decide_eq_true_eq, Decidable.not_not, not_true_eq_false, not_false_eq_true, Nat.not_lt, Nat.not_le, Bool.not_eq_false, Bool.not_eq_true] at c_8
        all_goals omega
    | succ m ih =>
      intro e n he hk hm hn
      have he0 : e ≠ 0 := fun z => by (rw [z, hd0] at hm; omega)
      have hd := hdp e he hk he0
      have hi2 := hin2 e he
      refine V.iload_n dR_above_7 rfl ?_
      refine V.if_eq (tgt := 24) dR_above_8 (by decide) (fun c_8 => ?_) (fun c_8 => ?_)
      · try simp (disch := omega) only [nI_ltI, nI_leI, nI_eq, zz_lt0, zz_ge0, zz_gt0, zz_le0, zz_eq0, zz_m1lt, zz_m1ge, zz_m1eq, bI_eq0, decide_eq_false_iff_not, decide_eq_true_eq, Decidable.not_not, not_true_eq_false, not_false_eq_true, Nat.not_lt, Nat.not_le, Bool.not_eq_false, Bool.not_eq_true] at c_8
        all_goals omega
      · try simp (disch := omega) only [nI_ltI, nI_leI, nI_eq, zz_lt0, zz_ge0, zz_gt0, zz_le0, zz_eq0, zz_m1lt, zz_m1ge, zz_m1eq, bI_eq0, decide_eq_false_iff_not, decide_eq_true_eq, Decidable.not_not, not_true_eq_false, not_false_eq_true, Nat.not_lt, Nat.not_le, Bool.not_eq_false, Bool.not_eq_true] at c_8
        refine V.iincN dR_above_11 rfl (by decide) ?_
        first | refine V.aload_n dR_above_14 rfl ?_ | refine V.aload_nN dR_above_14 rfl ?_
        refine V.getk dR_above_15 (by omega) (by assumption) f_R_16_4 (by assumption) ?_
        refine V.iload_n dR_above_18 rfl ?_
        refine V.ialoadN dR_above_19 (by omega) (by assumption) (by omega) (hin e he) ?_
        refine V.istore_n dR_above_20 (by decide) ?_
        refine V.goto (tgt := 7) dR_above_21 (by decide) ?_
        exact V.re [2, 1, 0] rfl (ih (T.2.1 e) (n + 1) hi2 hd.1 (by omega) (by omega))
  refine V.iconst (v := (nI 0)) dR_above_0 (by decide) ?_
  refine V.istore_n dR_above_1 (by decide) ?_
  first | refine V.aload_n dR_above_2 rfl ?_ | refine V.aload_nN dR_above_2 rfl ?_
  refine V.getk dR_above_3 (by omega) (by assumption) f_R_55_4 (by assumption) ?_
  refine V.istore_n dR_above_6 (by decide) ?_
  exact loop (dp hand) hand 0 hhl hhd rfl (by omega)
end
section
/-- how many of a directory's entries come before e -/
noncomputable def s_rank (T : TT) (d e : Nat) : Nat := s_cnt (fun f => decide (1 ≤ f ∧ T.1 f ≠ 0 ∧ T.2.1 f = d) && s_ltb (T.2.2.2 f) (T.2.2.1 f) (T.2.2.2 e) (T.2.2.1 e)) 300
/-- the k-th entry of a directory, in the order of the names -/
noncomputable def s_nth (T : TT) (d : Nat) (k : Int32) : Option Nat := (List.range 300).find? (fun e => decide (1 ≤ e ∧ T.1 e ≠ 0 ∧ T.2.1 e = d) && decide (nI (s_rank T d e) = k))
theorem s_nth_some {T : TT} {d e : Nat} {k : Int32} (h : s_nth T d k = some e) : e < 300 ∧ (1 ≤ e ∧ T.1 e ≠ 0 ∧ T.2.1 e = d) ∧ nI (s_rank T d e) = k := by
  unfold s_nth at h
  have h2 := List.find?_some h
  simp only [Bool.and_eq_true, decide_eq_true_eq] at h2
  exact ⟨List.mem_range.mp (List.mem_of_find?_eq_some h), h2.1, h2.2⟩
theorem s_nth_none {T : TT} {d : Nat} {k : Int32} (h : ∀ e, e < 300 → ¬ ((1 ≤ e ∧ T.1 e ≠ 0 ∧ T.2.1 e = d) ∧ nI (s_rank T d e) = k)) : s_nth T d k = none := by
  unfold s_nth
  rw [List.find?_eq_none]
  intro e he q
  simp only [Bool.and_eq_true, decide_eq_true_eq] at q
  exact h e (List.mem_range.mp he) q
theorem s_nth_first {T : TT} {d e : Nat} {k : Int32} (he : e < 300) (h : (1 ≤ e ∧ T.1 e ≠ 0 ∧ T.2.1 e = d) ∧ nI (s_rank T d e) = k) (hf : ∀ x, x < e → ¬ ((1 ≤ x ∧ T.1 x ≠ 0 ∧ T.2.1 x = d) ∧ nI (s_rank T d x) = k)) : s_nth T d k = some e := by
  refine find_range he ?_ (fun x hx => ?_)
  · simp only [Bool.and_eq_true, decide_eq_true_eq]; exact h
  · rw [Bool.eq_false_iff]
    intro q
    simp only [Bool.and_eq_true, decide_eq_true_eq] at q
    exact hf x hx q
/-- the bytes of a file, out of the log -/
def s_fb (bl : List (Nat × Nat)) (e : Nat) : List Nat := (bl.filter (fun q => q.2 == e)).map (·.1)
def RB (h : HH) (o : Nat) (bl : List (Nat × Nat)) : Prop := h.2.1 o 11 = .int (nI bl.length) ∧ (∀ k, k < bl.length → h.2.1 (o + 7) k = .int ((nI (bl.getD k (0, 0)).1).toInt8.toInt32)) ∧ (∀ k, k < bl.length → h.2.1 (o + 8) k = .int (nI (bl.getD k (0, 0)).2)) ∧
  (∀ q ∈ bl, q.1 < 256 ∧ q.2 < 300) ∧ bl.length ≤ 65536 ∧ ∀ e, e < 300 → h.2.1 (o + 4) e = .int (nI (s_fb bl e).length)
theorem getD_mem {bl : List (Nat × Nat)} {k : Nat} (h : k < bl.length) : bl.getD k (0, 0) ∈ bl := by
  rw [List.getD_eq_getElem?_getD, List.getElem?_eq_getElem h]
  exact List.getElem_mem h
theorem drop_cons {bl : List (Nat × Nat)} {k : Nat} (h : k < bl.length) : bl.drop k = bl.getD k (0, 0) :: bl.drop (k + 1) := by
  rw [List.getD_eq_getElem?_getD, List.getElem?_eq_getElem h]
  exact List.drop_eq_getElem_cons h
theorem fb_t {q : Nat × Nat} {bl : List (Nat × Nat)} {e : Nat} (h : q.2 = e) : s_fb (q :: bl) e = q.1 :: s_fb bl e := by simp [s_fb, h]
theorem fb_f {q : Nat × Nat} {bl : List (Nat × Nat)} {e : Nat} (h : ¬ q.2 = e) : s_fb (q :: bl) e = s_fb bl e := by simp [s_fb, h]
theorem fb_le (bl : List (Nat × Nat)) (e : Nat) : (s_fb bl e).length ≤ bl.length := by
  unfold s_fb
  rw [List.length_map]
  exact List.length_filter_le _ _
set_option maxHeartbeats 4000000 in
set_option maxRecDepth 100000 in
/-- PathTreeModel.namesake -/
theorem kR_namesake {G : GG} {h : HH} {o : Nat} {Q : Option Value → HH → Prop} {T : TT} {d f : Nat} (hS : RS G h o) (hT : RT h o T) (hd : d < 300) (hff : f < 300) (hQ : Q (some (.int (oI (s_ent T (T.2.2.2 f) d 0 (T.2.2.1 f))))) h) : V G mR_namesake 0 (lv_args 0 [.ref o, .int (nI d), .int (nI f)]) [] h 0 0 Q := by
  obtain ⟨hz, hk0, hk1, hk2, hk3, hk4, hk5, hk6, hk7, hk8, hf0, hf2, hf3, hf4, hf5, hf6, hf12, hf13⟩ := id hS
  obtain ⟨hkd, hkd2, hin, hin2, hns, hns2, hnm, hnm2⟩ := id hT
  have hns2f := hns2 f hff
  have loop : ∀ r e, e + r = 300 → 1 ≤ e → (∀ k, k < e → ¬ s_mt T (T.2.2.2 f) d 0 (T.2.2.1 f) k) → V G mR_namesake 2 [(3, .int (nI e)), (0, .ref o), (1, .int (nI d)), (2, .int (nI f))] [] h 0 0 Q := by
    intro r
    induction r with
    | zero =>
      intro e hr he hf
      refine V.iload_n dR_namesake_2 rfl ?_
      refine V.sipush (v := (nI 300)) dR_namesake_3 (by decide) ?_
      refine V.icmp_ge (tgt := 122) dR_namesake_6 (by decide) (fun c_6 => ?_) (fun c_6 => ?_)
      · try simp (disch := omega) only [nI_ltI, nI_leI, nI_eq, zz_lt0, zz_ge0, zz_gt0, zz_le0, zz_eq0, zz_m1lt, zz_m1ge, zz_m1eq, bI_eq0, decide_eq_false_iff_not, decide_eq_true_eq, Decidable.not_not, not_true_eq_false, not_false_eq_true, Nat.not_lt, Nat.not_le, Bool.not_eq_false, Bool.not_eq_true] at c_6
        refine V.iconst (v := (-1)) dR_namesake_122 (by decide) ?_
        refine V.ireturn dR_namesake_123 rfl rfl ?_
        rw [s_ent_none (fun e2 he2 => hf e2 (by omega))] at hQ; exact hQ
      · try simp (disch := omega) only [nI_ltI, nI_leI, nI_eq, zz_lt0, zz_ge0, zz_gt0, zz_le0, zz_eq0, zz_m1lt, zz_m1ge, zz_m1eq, bI_eq0, decide_eq_false_iff_not, decide_eq_true_eq, Decidable.not_not, not_true_eq_false, not_false_eq_true, Nat.not_lt, Nat.not_le, Bool.not_eq_false, Bool.not_eq_true] at c_6
        all_goals omega
    | succ r ih =>
      intro e hr he hf
      have hkd2e := hkd2 e (by omega)
      have hin2e := hin2 e (by omega)
      have hns2e := hns2 e (by omega)
      have inner : ∀ r k (isv : Bool), k + r = T.2.2.1 f → (isv = true ↔ ((T.1 e ≠ 0 ∧ T.2.1 e = d ∧ T.2.2.1 e = T.2.2.1 f - 0) ∧ ∀ j, j < k - 0 → T.2.2.2 e j = T.2.2.2 f (0 + j))) → V G mR_namesake 53 [(5, .int (nI k)), (4, .int (bI isv)), (3, .int (nI e)), (0, .ref o), (1, .int (nI d)), (2, .int (nI f))] [] h 0 0 Q := by
        intro r
        induction r with
        | zero =>
          intro k isv hr hD
          refine V.iload dR_namesake_53 rfl ?_
          first | refine V.aload_n dR_namesake_55 rfl ?_ | refine V.aload_nN dR_namesake_55 rfl ?_
          refine V.getk dR_namesake_56 (by omega) (by assumption) f_R_22_4 (by assumption) ?_
          refine V.iload_n dR_namesake_59 rfl ?_
          refine V.ialoadN dR_namesake_60 (by omega) (by assumption) (by omega) (hns f hff) ?_
          refine V.icmp_ge (tgt := 109) dR_namesake_61 (by decide) (fun c_61 => ?_) (fun c_61 => ?_)
          · try simp (disch := omega) only [nI_ltI, nI_leI, nI_eq, zz_lt0, zz_ge0, zz_gt0, zz_le0, zz_eq0, zz_m1lt, zz_m1ge, zz_m1eq, bI_eq0, decide_eq_false_iff_not, decide_eq_true_eq, Decidable.not_not, not_true_eq_false, not_false_eq_true, Nat.not_lt, Nat.not_le, Bool.not_eq_false, Bool.not_eq_true] at c_61
            refine V.iload dR_namesake_109 rfl ?_
            refine V.if_eq (tgt := 116) dR_namesake_111 (by decide) (fun c_111 => ?_) (fun c_111 => ?_)
            · try simp (disch := omega) only [nI_ltI, nI_leI, nI_eq, zz_lt0, zz_ge0, zz_gt0, zz_le0, zz_eq0, zz_m1lt, zz_m1ge, zz_m1eq, bI_eq0, decide_eq_false_iff_not, decide_eq_true_eq, Decidable.not_not, not_true_eq_false, not_false_eq_true, Nat.not_lt, Nat.not_le, Bool.not_eq_false, Bool.not_eq_true] at c_111
              have hno : ¬ s_mt T (T.2.2.2 f) d 0 (T.2.2.1 f) e := fun z => by
                have z2 := hD.mpr ⟨z.1.2, fun j hj => z.2 j (by omega)⟩
                first | (rw [z2] at c_66; cases c_66) | (rw [z2] at c_111; cases c_111)
              refine V.iincN dR_namesake_116 rfl (by decide) ?_
              refine V.goto (tgt := 2) dR_namesake_119 (by decide) ?_
              exact V.re [3, 0, 1, 2] rfl (ih (e + 1) (by omega) (by omega) (fun k2 hk2 => (Nat.lt_or_ge k2 e).elim (hf k2) (fun z => by (rw [show k2 = e by omega]; exact hno))))
            · try simp (disch := omega) only [nI_ltI, nI_leI, nI_eq, zz_lt0, zz_ge0, zz_gt0, zz_le0, zz_eq0, zz_m1lt, zz_m1ge, zz_m1eq, bI_eq0, decide_eq_false_iff_not, decide_eq_true_eq, Decidable.not_not, not_true_eq_false, not_false_eq_true, Nat.not_lt, Nat.not_le, Bool.not_eq_false, Bool.not_eq_true] at c_111
              refine V.iload_n dR_namesake_114 rfl ?_
              refine V.ireturn dR_namesake_115 rfl rfl ?_
              rw [s_ent_first (e := e) (by omega) ⟨⟨by omega, (hD.mp c_111).1⟩, fun j hj => (hD.mp c_111).2 j (by omega)⟩ hf] at hQ; exact hQ
          · try simp (disch := omega) only [nI_ltI, nI_leI, nI_eq, zz_lt0, zz_ge0, zz_gt0, zz_le0, zz_eq0, zz_m1lt, zz_m1ge, zz_m1eq, bI_eq0, decide_eq_false_iff_not, decide_eq_true_eq, Decidable.not_not, not_true_eq_false, not_false_eq_true, Nat.not_lt, Nat.not_le, Bool.not_eq_false, Bool.not_eq_true] at c_61
            all_goals omega
        | succ r ihk =>
          intro k isv hr hD
          refine V.iload dR_namesake_53 rfl ?_
          first | refine V.aload_n dR_namesake_55 rfl ?_ | refine V.aload_nN dR_namesake_55 rfl ?_
          refine V.getk dR_namesake_56 (by omega) (by assumption) f_R_22_4 (by assumption) ?_
          refine V.iload_n dR_namesake_59 rfl ?_
          refine V.ialoadN dR_namesake_60 (by omega) (by assumption) (by omega) (hns f hff) ?_
          refine V.icmp_ge (tgt := 109) dR_namesake_61 (by decide) (fun c_61 => ?_) (fun c_61 => ?_)
          · try simp (disch := omega) only [nI_ltI, nI_leI, nI_eq, zz_lt0, zz_ge0, zz_gt0, zz_le0, zz_eq0, zz_m1lt, zz_m1ge, zz_m1eq, bI_eq0, decide_eq_false_iff_not, decide_eq_true_eq, Decidable.not_not, not_true_eq_false, not_false_eq_true, Nat.not_lt, Nat.not_le, Bool.not_eq_false, Bool.not_eq_true] at c_61
            all_goals omega
          · try simp (disch := omega) only [nI_ltI, nI_leI, nI_eq, zz_lt0, zz_ge0, zz_gt0, zz_le0, zz_eq0, zz_m1lt, zz_m1ge, zz_m1eq, bI_eq0, decide_eq_false_iff_not, decide_eq_true_eq, Decidable.not_not, not_true_eq_false, not_false_eq_true, Nat.not_lt, Nat.not_le, Bool.not_eq_false, Bool.not_eq_true] at c_61
            refine V.iload dR_namesake_64 rfl ?_
            refine V.if_eq (tgt := 109) dR_namesake_66 (by decide) (fun c_66 => ?_) (fun c_66 => ?_)
            · try simp (disch := omega) only [nI_ltI, nI_leI, nI_eq, zz_lt0, zz_ge0, zz_gt0, zz_le0, zz_eq0, zz_m1lt, zz_m1ge, zz_m1eq, bI_eq0, decide_eq_false_iff_not, decide_eq_true_eq, Decidable.not_not, not_true_eq_false, not_false_eq_true, Nat.not_lt, Nat.not_le, Bool.not_eq_false, Bool.not_eq_true] at c_66
              refine V.iload dR_namesake_109 rfl ?_
              refine V.if_eq (tgt := 116) dR_namesake_111 (by decide) (fun c_111 => ?_) (fun c_111 => ?_)
              · try simp (disch := omega) only [nI_ltI, nI_leI, nI_eq, zz_lt0, zz_ge0, zz_gt0, zz_le0, zz_eq0, zz_m1lt, zz_m1ge, zz_m1eq, bI_eq0, decide_eq_false_iff_not, decide_eq_true_eq, Decidable.not_not, not_true_eq_false, not_false_eq_true, Nat.not_lt, Nat.not_le, Bool.not_eq_false, Bool.not_eq_true] at c_111
                have hno : ¬ s_mt T (T.2.2.2 f) d 0 (T.2.2.1 f) e := fun z => by
                  have z2 := hD.mpr ⟨z.1.2, fun j hj => z.2 j (by omega)⟩
                  first | (rw [z2] at c_66; cases c_66) | (rw [z2] at c_111; cases c_111)
                refine V.iincN dR_namesake_116 rfl (by decide) ?_
                refine V.goto (tgt := 2) dR_namesake_119 (by decide) ?_
                exact V.re [3, 0, 1, 2] rfl (ih (e + 1) (by omega) (by omega) (fun k2 hk2 => (Nat.lt_or_ge k2 e).elim (hf k2) (fun z => by (rw [show k2 = e by omega]; exact hno))))
              · try simp (disch := omega) only [nI_ltI, nI_leI, nI_eq, zz_lt0, zz_ge0, zz_gt0, zz_le0, zz_eq0, zz_m1lt, zz_m1ge, zz_m1eq, bI_eq0, decide_eq_false_iff_not, decide_eq_true_eq, Decidable.not_not, not_true_eq_false, not_false_eq_true, Nat.not_lt, Nat.not_le, Bool.not_eq_false, Bool.not_eq_true] at c_111
                rw [c_66] at c_111; cases c_111
            · try simp (disch := omega) only [nI_ltI, nI_leI, nI_eq, zz_lt0, zz_ge0, zz_gt0, zz_le0, zz_eq0, zz_m1lt, zz_m1ge, zz_m1eq, bI_eq0, decide_eq_false_iff_not, decide_eq_true_eq, Decidable.not_not, not_true_eq_false, not_false_eq_true, Nat.not_lt, Nat.not_le, Bool.not_eq_false, Bool.not_eq_true] at c_66
              have hb1 := (hD.mp c_66).1
              have hq1 := hnm2 e k (by omega) (by omega)
              have hq2 := hnm2 f k hff (by omega)
              first | refine V.aload_n dR_namesake_69 rfl ?_ | refine V.aload_nN dR_namesake_69 rfl ?_
              refine V.getk dR_namesake_70 (by omega) (by assumption) f_R_25_4 (by assumption) ?_
              refine V.bipush (v := (nI 60)) dR_namesake_73 (by decide) ?_
              refine V.iload_n dR_namesake_75 rfl ?_
              refine V.imulN dR_namesake_76 ?_
              refine V.iload dR_namesake_77 rfl ?_
              refine V.iaddN dR_namesake_79 ?_
              refine V.ialoadN dR_namesake_80 (by omega) (by assumption) (by omega) (hnm e k (by omega) (by omega)) ?_
              first | refine V.aload_n dR_namesake_81 rfl ?_ | refine V.aload_nN dR_namesake_81 rfl ?_
              refine V.getk dR_namesake_82 (by omega) (by assumption) f_R_25_4 (by assumption) ?_
              refine V.bipush (v := (nI 60)) dR_namesake_85 (by decide) ?_
              refine V.iload_n dR_namesake_87 rfl ?_
              refine V.imulN dR_namesake_88 ?_
              refine V.iload dR_namesake_89 rfl ?_
              refine V.iaddN dR_namesake_91 ?_
              refine V.ialoadN dR_namesake_92 (by omega) (by assumption) (by omega) (hnm f k hff (by omega)) ?_
              refine V.icmp_ne (tgt := 100) dR_namesake_93 (by decide) (fun c_93 => ?_) (fun c_93 => ?_)
              · try simp (disch := omega) only [nI_ltI, nI_leI, nI_eq, zz_lt0, zz_ge0, zz_gt0, zz_le0, zz_eq0, zz_m1lt, zz_m1ge, zz_m1eq, bI_eq0, decide_eq_false_iff_not, decide_eq_true_eq, Decidable.not_not, not_true_eq_false, not_false_eq_true, Nat.not_lt, Nat.not_le, Bool.not_eq_false, Bool.not_eq_true] at c_93
                refine V.iconst (v := (nI 0)) dR_namesake_100 (by decide) ?_
                refine V.istore dR_namesake_101 (by decide) ?_
                refine V.iincN dR_namesake_103 rfl (by decide) ?_
                refine V.goto (tgt := 53) dR_namesake_106 (by decide) ?_
                first | exact ihk (k + 1) true (by omega) (ent_t (Nat.zero_le _) hD c_66 c_93) | exact ihk (k + 1) false (by omega) (ent_f (Nat.zero_le _) hD (Or.inr c_93))
              · try simp (disch := omega) only [nI_ltI, nI_leI, nI_eq, zz_lt0, zz_ge0, zz_gt0, zz_le0, zz_eq0, zz_m1lt, zz_m1ge, zz_m1eq, bI_eq0, decide_eq_false_iff_not, decide_eq_true_eq, Decidable.not_not, not_true_eq_false, not_false_eq_true, Nat.not_lt, Nat.not_le, Bool.not_eq_false, Bool.not_eq_true] at c_93
                refine V.iconst (v := (nI 1)) dR_namesake_96 (by decide) ?_
                refine V.goto (tgt := 101) dR_namesake_97 (by decide) ?_
                refine V.istore dR_namesake_101 (by decide) ?_
                refine V.iincN dR_namesake_103 rfl (by decide) ?_
                refine V.goto (tgt := 53) dR_namesake_106 (by decide) ?_
                first | exact ihk (k + 1) true (by omega) (ent_t (Nat.zero_le _) hD c_66 c_93) | exact ihk (k + 1) false (by omega) (ent_f (Nat.zero_le _) hD (Or.inr c_93))
      refine V.iload_n dR_namesake_2 rfl ?_
      refine V.sipush (v := (nI 300)) dR_namesake_3 (by decide) ?_
      refine V.icmp_ge (tgt := 122) dR_namesake_6 (by decide) (fun c_6 => ?_) (fun c_6 => ?_)
      · try simp (disch := omega) only [nI_ltI, nI_leI, nI_eq, zz_lt0, zz_ge0, zz_gt0, zz_le0, zz_eq0, zz_m1lt, zz_m1ge, zz_m1eq, bI_eq0, decide_eq_false_iff_not, decide_eq_true_eq, Decidable.not_not, not_true_eq_false, not_false_eq_true, Nat.not_lt, Nat.not_le, Bool.not_eq_false, Bool.not_eq_true] at c_6
        all_goals omega
      · try simp (disch := omega) only [nI_ltI, nI_leI, nI_eq, zz_lt0, zz_ge0, zz_gt0, zz_le0, zz_eq0, zz_m1lt, zz_m1ge, zz_m1eq, bI_eq0, decide_eq_false_iff_not, decide_eq_true_eq, Decidable.not_not, not_true_eq_false, not_false_eq_true, Nat.not_lt, Nat.not_le, Bool.not_eq_false, Bool.not_eq_true] at c_6
        first | refine V.aload_n dR_namesake_9 rfl ?_ | refine V.aload_nN dR_namesake_9 rfl ?_
        refine V.getk dR_namesake_10 (by omega) (by assumption) f_R_13_4 (by assumption) ?_
        refine V.iload_n dR_namesake_13 rfl ?_
        refine V.ialoadN dR_namesake_14 (by omega) (by assumption) (by omega) (hkd e (by omega)) ?_
        refine V.if_eq (tgt := 47) dR_namesake_15 (by decide) (fun c_15 => ?_) (fun c_15 => ?_)
        · try simp (disch := omega) only [nI_ltI, nI_leI, nI_eq, zz_lt0, zz_ge0, zz_gt0, zz_le0, zz_eq0, zz_m1lt, zz_m1ge, zz_m1eq, bI_eq0, decide_eq_false_iff_not, decide_eq_true_eq, Decidable.not_not, not_true_eq_false, not_false_eq_true, Nat.not_lt, Nat.not_le, Bool.not_eq_false, Bool.not_eq_true] at c_15
          refine V.iconst (v := (nI 0)) dR_namesake_47 (by decide) ?_
          refine V.istore dR_namesake_48 (by decide) ?_
          refine V.iconst (v := (nI 0)) dR_namesake_50 (by decide) ?_
          refine V.istore dR_namesake_51 (by decide) ?_
          first | exact inner (T.2.2.1 f) 0 true (by omega) ⟨fun _ => ⟨by omega, fun j hj => by omega⟩, fun _ => rfl⟩ | exact inner (T.2.2.1 f) 0 false (by omega) ⟨fun z => by (cases z), fun z => by omega⟩
        · try simp (disch := omega) only [nI_ltI, nI_leI, nI_eq, zz_lt0, zz_ge0, zz_gt0, zz_le0, zz_eq0, zz_m1lt, zz_m1ge, zz_m1eq, bI_eq0, decide_eq_false_iff_not, decide_eq_true_eq, Decidable.not_not, not_true_eq_false, not_false_eq_true, Nat.not_lt, Nat.not_le, Bool.not_eq_false, Bool.not_eq_true] at c_15
          first | refine V.aload_n dR_namesake_18 rfl ?_ | refine V.aload_nN dR_namesake_18 rfl ?_
          refine V.getk dR_namesake_19 (by omega) (by assumption) f_R_16_4 (by assumption) ?_
          refine V.iload_n dR_namesake_22 rfl ?_
          refine V.ialoadN dR_namesake_23 (by omega) (by assumption) (by omega) (hin e (by omega)) ?_
          refine V.iload_n dR_namesake_24 rfl ?_
          refine V.icmp_ne (tgt := 47) dR_namesake_25 (by decide) (fun c_25 => ?_) (fun c_25 => ?_)
          · try simp (disch := omega) only [nI_ltI, nI_leI, nI_eq, zz_lt0, zz_ge0, zz_gt0, zz_le0, zz_eq0, zz_m1lt, zz_m1ge, zz_m1eq, bI_eq0, decide_eq_false_iff_not, decide_eq_true_eq, Decidable.not_not, not_true_eq_false, not_false_eq_true, Nat.not_lt, Nat.not_le, Bool.not_eq_false, Bool.not_eq_true] at c_25
            refine V.iconst (v := (nI 0)) dR_namesake_47 (by decide) ?_
            refine V.istore dR_namesake_48 (by decide) ?_
            refine V.iconst (v := (nI 0)) dR_namesake_50 (by decide) ?_
            refine V.istore dR_namesake_51 (by decide) ?_
            first | exact inner (T.2.2.1 f) 0 true (by omega) ⟨fun _ => ⟨by omega, fun j hj => by omega⟩, fun _ => rfl⟩ | exact inner (T.2.2.1 f) 0 false (by omega) ⟨fun z => by (cases z), fun z => by omega⟩
          · try simp (disch := omega) only [nI_ltI, nI_leI, nI_eq, zz_lt0, zz_ge0, zz_gt0, zz_le0, zz_eq0, zz_m1lt, zz_m1ge, zz_m1eq, bI_eq0, decide_eq_false_iff_not, decide_eq_true_eq, Decidable.not_not, not_true_eq_false, not_false_eq_true, Nat.not_lt, Nat.not_le, Bool.not_eq_false, Bool.not_eq_true] at c_25
            first | refine V.aload_n dR_namesake_28 rfl ?_ | refine V.aload_nN dR_namesake_28 rfl ?_
            refine V.getk dR_namesake_29 (by omega) (by assumption) f_R_22_4 (by assumption) ?_
            refine V.iload_n dR_namesake_32 rfl ?_
            refine V.ialoadN dR_namesake_33 (by omega) (by assumption) (by omega) (hns e (by omega)) ?_
            first | refine V.aload_n dR_namesake_34 rfl ?_ | refine V.aload_nN dR_namesake_34 rfl ?_
            refine V.getk dR_namesake_35 (by omega) (by assumption) f_R_22_4 (by assumption) ?_
            refine V.iload_n dR_namesake_38 rfl ?_
            refine V.ialoadN dR_namesake_39 (by omega) (by assumption) (by omega) (hns f hff) ?_
            refine V.icmp_ne (tgt := 47) dR_namesake_40 (by decide) (fun c_40 => ?_) (fun c_40 => ?_)
            · try simp (disch := omega) only [nI_ltI, nI_leI, nI_eq, zz_lt0, zz_ge0, zz_gt0, zz_le0, zz_eq0, zz_m1lt, zz_m1ge, zz_m1eq, bI_eq0, decide_eq_false_iff_not, decide_eq_true_eq, Decidable.not_not, not_true_eq_false, not_false_eq_true, Nat.not_lt, Nat.not_le, Bool.not_eq_false, Bool.not_eq_true] at c_40
              refine V.iconst (v := (nI 0)) dR_namesake_47 (by decide) ?_
              refine V.istore dR_namesake_48 (by decide) ?_
              refine V.iconst (v := (nI 0)) dR_namesake_50 (by decide) ?_
              refine V.istore dR_namesake_51 (by decide) ?_
              first | exact inner (T.2.2.1 f) 0 true (by omega) ⟨fun _ => ⟨by omega, fun j hj => by omega⟩, fun _ => rfl⟩ | exact inner (T.2.2.1 f) 0 false (by omega) ⟨fun z => by (cases z), fun z => by omega⟩
            · try simp (disch := omega) only [nI_ltI, nI_leI, nI_eq, zz_lt0, zz_ge0, zz_gt0, zz_le0, zz_eq0, zz_m1lt, zz_m1ge, zz_m1eq, bI_eq0, decide_eq_false_iff_not, decide_eq_true_eq, Decidable.not_not, not_true_eq_false, not_false_eq_true, Nat.not_lt, Nat.not_le, Bool.not_eq_false, Bool.not_eq_true] at c_40
              refine V.iconst (v := (nI 1)) dR_namesake_43 (by decide) ?_
              refine V.goto (tgt := 48) dR_namesake_44 (by decide) ?_
              refine V.istore dR_namesake_48 (by decide) ?_
              refine V.iconst (v := (nI 0)) dR_namesake_50 (by decide) ?_
              refine V.istore dR_namesake_51 (by decide) ?_
              first | exact inner (T.2.2.1 f) 0 true (by omega) ⟨fun _ => ⟨by omega, fun j hj => by omega⟩, fun _ => rfl⟩ | exact inner (T.2.2.1 f) 0 false (by omega) ⟨fun z => by (cases z), fun z => by omega⟩
  refine V.iconst (v := (nI 1)) dR_namesake_0 (by decide) ?_
  refine V.istore_n dR_namesake_1 (by decide) ?_
  exact loop 299 1 (by omega) (by omega) (fun k hk z => by have := z.1.1; omega)
set_option maxHeartbeats 4000000 in
set_option maxRecDepth 100000 in
/-- PathTreeModel.inOrder -/
theorem kR_inOrder {G : GG} {h : HH} {o : Nat} {Q : Option Value → HH → Prop} {T : TT} {hand : Nat} {k : Int32} (hS : RS G h o) (hT : RT h o T) (hH : h.2.1 o 8 = .int (nI hand) ∧ hand < 300) (hQ : Q (some (.int (oI (s_nth T hand k)))) h) : V G mR_inOrder 0 (lv_args 0 [.ref o, .int k]) [] h 0 0 Q := by
  obtain ⟨hz, hk0, hk1, hk2, hk3, hk4, hk5, hk6, hk7, hk8, hf0, hf2, hf3, hf4, hf5, hf6, hf12, hf13⟩ := id hS
  obtain ⟨hkd, hkd2, hin, hin2, hns, hns2, hnm, hnm2⟩ := id hT
  have hhand : h.2.1 o 8 = .int (nI hand) := hH.1
  have hhl : hand < 300 := hH.2
  have loop : ∀ r e, e + r = 300 → 1 ≤ e → (∀ x, x < e → ¬ ((1 ≤ x ∧ T.1 x ≠ 0 ∧ T.2.1 x = hand) ∧ nI (s_rank T hand x) = k)) → V G mR_inOrder 2 [(2, .int (nI e)), (0, .ref o), (1, .int k)] [] h 0 0 Q := by
    intro r
    induction r with
    | zero =>
      intro e hr he hf
      refine V.iload_n dR_inOrder_2 rfl ?_
      refine V.sipush (v := (nI 300)) dR_inOrder_3 (by decide) ?_
      refine V.icmp_ge (tgt := 108) dR_inOrder_6 (by decide) (fun c_6 => ?_) (fun c_6 => ?_)
      · try simp (disch := omega) only [nI_ltI, nI_leI, nI_eq, zz_lt0, zz_ge0, zz_gt0, zz_le0, zz_eq0, zz_m1lt, zz_m1ge, zz_m1eq, bI_eq0, decide_eq_false_iff_not, decide_eq_true_eq, Decidable.not_not, not_true_eq_false, not_false_eq_true, Nat.not_lt, Nat.not_le, Bool.not_eq_false, Bool.not_eq_true] at c_6
        refine V.iconst (v := (-1)) dR_inOrder_108 (by decide) ?_
        refine V.ireturn dR_inOrder_109 rfl rfl ?_
        rw [s_nth_none (fun e2 he2 => hf e2 (by omega))] at hQ; exact hQ
      · try simp (disch := omega) only [nI_ltI, nI_leI, nI_eq, zz_lt0, zz_ge0, zz_gt0, zz_le0, zz_eq0, zz_m1lt, zz_m1ge, zz_m1eq, bI_eq0, decide_eq_false_iff_not, decide_eq_true_eq, Decidable.not_not, not_true_eq_false, not_false_eq_true, Nat.not_lt, Nat.not_le, Bool.not_eq_false, Bool.not_eq_true] at c_6
        all_goals omega
    | succ r ih =>
      intro e hr he hf
      have hkd2e := hkd2 e (by omega)
      have hin2e := hin2 e (by omega)
      refine V.iload_n dR_inOrder_2 rfl ?_
      refine V.sipush (v := (nI 300)) dR_inOrder_3 (by decide) ?_
      refine V.icmp_ge (tgt := 108) dR_inOrder_6 (by decide) (fun c_6 => ?_) (fun c_6 => ?_)
      · try simp (disch := omega) only [nI_ltI, nI_leI, nI_eq, zz_lt0, zz_ge0, zz_gt0, zz_le0, zz_eq0, zz_m1lt, zz_m1ge, zz_m1eq, bI_eq0, decide_eq_false_iff_not, decide_eq_true_eq, Decidable.not_not, not_true_eq_false, not_false_eq_true, Nat.not_lt, Nat.not_le, Bool.not_eq_false, Bool.not_eq_true] at c_6
        all_goals omega
      · try simp (disch := omega) only [nI_ltI, nI_leI, nI_eq, zz_lt0, zz_ge0, zz_gt0, zz_le0, zz_eq0, zz_m1lt, zz_m1ge, zz_m1eq, bI_eq0, decide_eq_false_iff_not, decide_eq_true_eq, Decidable.not_not, not_true_eq_false, not_false_eq_true, Nat.not_lt, Nat.not_le, Bool.not_eq_false, Bool.not_eq_true] at c_6
        first | refine V.aload_n dR_inOrder_9 rfl ?_ | refine V.aload_nN dR_inOrder_9 rfl ?_
        refine V.getk dR_inOrder_10 (by omega) (by assumption) f_R_13_4 (by assumption) ?_
        refine V.iload_n dR_inOrder_13 rfl ?_
        refine V.ialoadN dR_inOrder_14 (by omega) (by assumption) (by omega) (hkd e (by omega)) ?_
        refine V.if_eq (tgt := 102) dR_inOrder_15 (by decide) (fun c_15 => ?_) (fun c_15 => ?_)
        · try simp (disch := omega) only [nI_ltI, nI_leI, nI_eq, zz_lt0, zz_ge0, zz_gt0, zz_le0, zz_eq0, zz_m1lt, zz_m1ge, zz_m1eq, bI_eq0, decide_eq_false_iff_not, decide_eq_true_eq, Decidable.not_not, not_true_eq_false, not_false_eq_true, Nat.not_lt, Nat.not_le, Bool.not_eq_false, Bool.not_eq_true] at c_15
          have hno : ¬ ((1 ≤ e ∧ T.1 e ≠ 0 ∧ T.2.1 e = hand) ∧ nI (s_rank T hand e) = k) := fun z => by have := z.1; omega
          refine V.iincN dR_inOrder_102 rfl (by decide) ?_
          refine V.goto (tgt := 2) dR_inOrder_105 (by decide) ?_
          exact V.re [2, 0, 1] rfl (ih (e + 1) (by omega) (by omega) (fun k2 hk2 => (Nat.lt_or_ge k2 e).elim (hf k2) (fun z => by (rw [show k2 = e by omega]; exact hno))))
        · try simp (disch := omega) only [nI_ltI, nI_leI, nI_eq, zz_lt0, zz_ge0, zz_gt0, zz_le0, zz_eq0, zz_m1lt, zz_m1ge, zz_m1eq, bI_eq0, decide_eq_false_iff_not, decide_eq_true_eq, Decidable.not_not, not_true_eq_false, not_false_eq_true, Nat.not_lt, Nat.not_le, Bool.not_eq_false, Bool.not_eq_true] at c_15
          first | refine V.aload_n dR_inOrder_18 rfl ?_ | refine V.aload_nN dR_inOrder_18 rfl ?_
          refine V.getk dR_inOrder_19 (by omega) (by assumption) f_R_16_4 (by assumption) ?_
          refine V.iload_n dR_inOrder_22 rfl ?_
          refine V.ialoadN dR_inOrder_23 (by omega) (by assumption) (by omega) (hin e (by omega)) ?_
          first | refine V.aload_n dR_inOrder_24 rfl ?_ | refine V.aload_nN dR_inOrder_24 rfl ?_
          refine V.getk dR_inOrder_25 (by omega) (by assumption) f_R_55_4 (by assumption) ?_
          refine V.icmp_eq (tgt := 34) dR_inOrder_28 (by decide) (fun c_28 => ?_) (fun c_28 => ?_)
          · try simp (disch := omega) only [nI_ltI, nI_leI, nI_eq, zz_lt0, zz_ge0, zz_gt0, zz_le0, zz_eq0, zz_m1lt, zz_m1ge, zz_m1eq, bI_eq0, decide_eq_false_iff_not, decide_eq_true_eq, Decidable.not_not, not_true_eq_false, not_false_eq_true, Nat.not_lt, Nat.not_le, Bool.not_eq_false, Bool.not_eq_true] at c_28
            have hlive : 1 ≤ e ∧ T.1 e ≠ 0 ∧ T.2.1 e = hand := by omega
            have inner : ∀ r f, f + r = 300 → 1 ≤ f → V G mR_inOrder 39 [(4, .int (nI f)), (3, .int (nI (s_cnt (fun f => decide (1 ≤ f ∧ T.1 f ≠ 0 ∧ T.2.1 f = hand) && s_ltb (T.2.2.2 f) (T.2.2.1 f) (T.2.2.2 e) (T.2.2.1 e)) f))), (2, .int (nI e)), (0, .ref o), (1, .int k)] [] h 0 0 Q := by
              intro r
              induction r with
              | zero =>
                intro f hr hf1
                refine V.iload dR_inOrder_39 rfl ?_
                refine V.sipush (v := (nI 300)) dR_inOrder_41 (by decide) ?_
                refine V.icmp_ge (tgt := 95) dR_inOrder_44 (by decide) (fun c_44 => ?_) (fun c_44 => ?_)
                · try simp (disch := omega) only [nI_ltI, nI_leI, nI_eq, zz_lt0, zz_ge0, zz_gt0, zz_le0, zz_eq0, zz_m1lt, zz_m1ge, zz_m1eq, bI_eq0, decide_eq_false_iff_not, decide_eq_true_eq, Decidable.not_not, not_true_eq_false, not_false_eq_true, Nat.not_lt, Nat.not_le, Bool.not_eq_false, Bool.not_eq_true] at c_44
                  refine V.iload_n dR_inOrder_95 rfl ?_
                  refine V.iload_n dR_inOrder_96 rfl ?_
                  refine V.icmp_ne (tgt := 102) dR_inOrder_97 (by decide) (fun c_97 => ?_) (fun c_97 => ?_)
                  · have hrk : s_rank T hand e = s_cnt (fun f => decide (1 ≤ f ∧ T.1 f ≠ 0 ∧ T.2.1 f = hand) && s_ltb (T.2.2.2 f) (T.2.2.1 f) (T.2.2.2 e) (T.2.2.1 e)) f := by (unfold s_rank; rw [show 300 = f by omega])
                    have hno : ¬ ((1 ≤ e ∧ T.1 e ≠ 0 ∧ T.2.1 e = hand) ∧ nI (s_rank T hand e) = k) := fun z => c_97 (by (rw [← hrk]; exact z.2))
                    refine V.iincN dR_inOrder_102 rfl (by decide) ?_
                    refine V.goto (tgt := 2) dR_inOrder_105 (by decide) ?_
                    exact V.re [2, 0, 1] rfl (ih (e + 1) (by omega) (by omega) (fun k2 hk2 => (Nat.lt_or_ge k2 e).elim (hf k2) (fun z => by (rw [show k2 = e by omega]; exact hno))))
                  · have hrk : s_rank T hand e = s_cnt (fun f => decide (1 ≤ f ∧ T.1 f ≠ 0 ∧ T.2.1 f = hand) && s_ltb (T.2.2.2 f) (T.2.2.1 f) (T.2.2.2 e) (T.2.2.1 e)) f := by (unfold s_rank; rw [show 300 = f by omega])
                    refine V.iload_n dR_inOrder_100 rfl ?_
                    refine V.ireturn dR_inOrder_101 rfl rfl ?_
                    rw [s_nth_first (e := e) (by omega) ⟨hlive, by (rw [hrk]; exact c_97)⟩ hf] at hQ; exact hQ
                · try simp (disch := omega) only [nI_ltI, nI_leI, nI_eq, zz_lt0, zz_ge0, zz_gt0, zz_le0, zz_eq0, zz_m1lt, zz_m1ge, zz_m1eq, bI_eq0, decide_eq_false_iff_not, decide_eq_true_eq, Decidable.not_not, not_true_eq_false, not_false_eq_true, Nat.not_lt, Nat.not_le, Bool.not_eq_false, Bool.not_eq_true] at c_44
                  all_goals omega
              | succ r ihf =>
                intro f hr hf1
                refine V.iload dR_inOrder_39 rfl ?_
                refine V.sipush (v := (nI 300)) dR_inOrder_41 (by decide) ?_
                refine V.icmp_ge (tgt := 95) dR_inOrder_44 (by decide) (fun c_44 => ?_) (fun c_44 => ?_)
                · try simp (disch := omega) only [nI_ltI, nI_leI, nI_eq, zz_lt0, zz_ge0, zz_gt0, zz_le0, zz_eq0, zz_m1lt, zz_m1ge, zz_m1eq, bI_eq0, decide_eq_false_iff_not, decide_eq_true_eq, Decidable.not_not, not_true_eq_false, not_false_eq_true, Nat.not_lt, Nat.not_le, Bool.not_eq_false, Bool.not_eq_true] at c_44
                  all_goals omega
                · try simp (disch := omega) only [nI_ltI, nI_leI, nI_eq, zz_lt0, zz_ge0, zz_gt0, zz_le0, zz_eq0, zz_m1lt, zz_m1ge, zz_m1eq, bI_eq0, decide_eq_false_iff_not, decide_eq_true_eq, Decidable.not_not, not_true_eq_false, not_false_eq_true, Nat.not_lt, Nat.not_le, Bool.not_eq_false, Bool.not_eq_true] at c_44
                  have hkf := hkd2 f (by omega)
                  have hif := hin2 f (by omega)
                  refine V.iload_n dR_inOrder_47 rfl ?_
                  first | refine V.aload_n dR_inOrder_48 rfl ?_ | refine V.aload_nN dR_inOrder_48 rfl ?_
                  refine V.getk dR_inOrder_49 (by omega) (by assumption) f_R_13_4 (by assumption) ?_
                  refine V.iload dR_inOrder_52 rfl ?_
                  refine V.ialoadN dR_inOrder_54 (by omega) (by assumption) (by omega) (hkd f (by omega)) ?_
                  refine V.if_eq (tgt := 86) dR_inOrder_55 (by decide) (fun c_55 => ?_) (fun c_55 => ?_)
                  · try simp (disch := omega) only [nI_ltI, nI_leI, nI_eq, zz_lt0, zz_ge0, zz_gt0, zz_le0, zz_eq0, zz_m1lt, zz_m1ge, zz_m1eq, bI_eq0, decide_eq_false_iff_not, decide_eq_true_eq, Decidable.not_not, not_true_eq_false, not_false_eq_true, Nat.not_lt, Nat.not_le, Bool.not_eq_false, Bool.not_eq_true] at c_55
                    refine V.iconst (v := (nI 0)) dR_inOrder_86 (by decide) ?_
                    refine V.iaddN dR_inOrder_87 ?_
                    refine V.istore_n dR_inOrder_88 (by decide) ?_
                    refine V.iincN dR_inOrder_89 rfl (by decide) ?_
                    refine V.goto (tgt := 39) dR_inOrder_92 (by decide) ?_
                    first | exact V.re [4, 3, 2, 0, 1] rfl (by rw [← s_cnt_t (f := (fun f => decide (1 ≤ f ∧ T.1 f ≠ 0 ∧ T.2.1 f = hand) && s_ltb (T.2.2.2 f) (T.2.2.1 f) (T.2.2.2 e) (T.2.2.1 e))) (by (rw [Bool.and_eq_true]; exact ⟨decide_eq_true (by omega), c_79⟩))]; exact ihf (f + 1) (by omega) (by omega)) | exact V.re [4, 3, 2, 0, 1] rfl (by rw [← s_cnt_f (f := (fun f => decide (1 ≤ f ∧ T.1 f ≠ 0 ∧ T.2.1 f = hand) && s_ltb (T.2.2.2 f) (T.2.2.1 f) (T.2.2.2 e) (T.2.2.1 e))) (by (rw [c_79, Bool.and_false]))]; exact ihf (f + 1) (by omega) (by omega)) | exact V.re [4, 3, 2, 0, 1] rfl (by rw [← s_cnt_f (f := (fun f => decide (1 ≤ f ∧ T.1 f ≠ 0 ∧ T.2.1 f = hand) && s_ltb (T.2.2.2 f) (T.2.2.1 f) (T.2.2.2 e) (T.2.2.1 e))) (by (rw [decide_eq_false (by omega), Bool.false_and]))]; exact ihf (f + 1) (by omega) (by omega))
                  · try simp (disch := omega) only [nI_ltI, nI_leI, nI_eq, zz_lt0, zz_ge0, zz_gt0, zz_le0, zz_eq0, zz_m1lt, zz_m1ge, zz_m1eq, bI_eq0, decide_eq_false_iff_not, decide_eq_true_eq, Decidable.not_not, not_true_eq_false, not_false_eq_true, Nat.not_lt, Nat.not_le, Bool.not_eq_false, Bool.not_eq_true] at c_55
                    first | refine V.aload_n dR_inOrder_58 rfl ?_ | refine V.aload_nN dR_inOrder_58 rfl ?_
                    refine V.getk dR_inOrder_59 (by omega) (by assumption) f_R_16_4 (by assumption) ?_
                    refine V.iload dR_inOrder_62 rfl ?_
                    refine V.ialoadN dR_inOrder_64 (by omega) (by assumption) (by omega) (hin f (by omega)) ?_
                    first | refine V.aload_n dR_inOrder_65 rfl ?_ | refine V.aload_nN dR_inOrder_65 rfl ?_
                    refine V.getk dR_inOrder_66 (by omega) (by assumption) f_R_55_4 (by assumption) ?_
                    refine V.icmp_ne (tgt := 86) dR_inOrder_69 (by decide) (fun c_69 => ?_) (fun c_69 => ?_)
                    · try simp (disch := omega) only [nI_ltI, nI_leI, nI_eq, zz_lt0, zz_ge0, zz_gt0, zz_le0, zz_eq0, zz_m1lt, zz_m1ge, zz_m1eq, bI_eq0, decide_eq_false_iff_not, decide_eq_true_eq, Decidable.not_not, not_true_eq_false, not_false_eq_true, Nat.not_lt, Nat.not_le, Bool.not_eq_false, Bool.not_eq_true] at c_69
                      refine V.iconst (v := (nI 0)) dR_inOrder_86 (by decide) ?_
                      refine V.iaddN dR_inOrder_87 ?_
                      refine V.istore_n dR_inOrder_88 (by decide) ?_
                      refine V.iincN dR_inOrder_89 rfl (by decide) ?_
                      refine V.goto (tgt := 39) dR_inOrder_92 (by decide) ?_
                      first | exact V.re [4, 3, 2, 0, 1] rfl (by rw [← s_cnt_t (f := (fun f => decide (1 ≤ f ∧ T.1 f ≠ 0 ∧ T.2.1 f = hand) && s_ltb (T.2.2.2 f) (T.2.2.1 f) (T.2.2.2 e) (T.2.2.1 e))) (by (rw [Bool.and_eq_true]; exact ⟨decide_eq_true (by omega), c_79⟩))]; exact ihf (f + 1) (by omega) (by omega)) | exact V.re [4, 3, 2, 0, 1] rfl (by rw [← s_cnt_f (f := (fun f => decide (1 ≤ f ∧ T.1 f ≠ 0 ∧ T.2.1 f = hand) && s_ltb (T.2.2.2 f) (T.2.2.1 f) (T.2.2.2 e) (T.2.2.1 e))) (by (rw [c_79, Bool.and_false]))]; exact ihf (f + 1) (by omega) (by omega)) | exact V.re [4, 3, 2, 0, 1] rfl (by rw [← s_cnt_f (f := (fun f => decide (1 ≤ f ∧ T.1 f ≠ 0 ∧ T.2.1 f = hand) && s_ltb (T.2.2.2 f) (T.2.2.1 f) (T.2.2.2 e) (T.2.2.1 e))) (by (rw [decide_eq_false (by omega), Bool.false_and]))]; exact ihf (f + 1) (by omega) (by omega))
                    · try simp (disch := omega) only [nI_ltI, nI_leI, nI_eq, zz_lt0, zz_ge0, zz_gt0, zz_le0, zz_eq0, zz_m1lt, zz_m1ge, zz_m1eq, bI_eq0, decide_eq_false_iff_not, decide_eq_true_eq, Decidable.not_not, not_true_eq_false, not_false_eq_true, Nat.not_lt, Nat.not_le, Bool.not_eq_false, Bool.not_eq_true] at c_69
                      first | refine V.aload_n dR_inOrder_72 rfl ?_ | refine V.aload_nN dR_inOrder_72 rfl ?_
                      refine V.iload dR_inOrder_73 rfl ?_
                      refine V.iload_n dR_inOrder_75 rfl ?_
                      refine V.callVk (kd := 4) 0 _ 0 _ [_, _] dR_inOrder_76 okR_isBefore n_R_104 (by omega) (by assumption) rfl imR_isBefore seR_isBefore_R (by decide) (by decide) rfl rfl (Nat.le_of_ble_eq_true rfl) (Nat.le_of_ble_eq_true rfl) (Nat.le_of_eq (Nat.zero_add _)) (Nat.le_of_eq (Nat.zero_add _)) (kR_isBefore hS hT (by omega) (by omega) ?_)
                      refine V.if_eq (tgt := 86) dR_inOrder_79 (by decide) (fun c_79 => ?_) (fun c_79 => ?_)
                      · try simp (disch := omega) only [nI_ltI, nI_leI, nI_eq, zz_lt0, zz_ge0, zz_gt0, zz_le0, zz_eq0, zz_m1lt, zz_m1ge, zz_m1eq, bI_eq0, decide_eq_false_iff_not, decide_eq_true_eq, Decidable.not_not, not_true_eq_false, not_false_eq_true, Nat.not_lt, Nat.not_le, Bool.not_eq_false, Bool.not_eq_true] at c_79
                        refine V.iconst (v := (nI 0)) dR_inOrder_86 (by decide) ?_
                        refine V.iaddN dR_inOrder_87 ?_
                        refine V.istore_n dR_inOrder_88 (by decide) ?_
                        refine V.iincN dR_inOrder_89 rfl (by decide) ?_
                        refine V.goto (tgt := 39) dR_inOrder_92 (by decide) ?_
                        first | exact V.re [4, 3, 2, 0, 1] rfl (by rw [← s_cnt_t (f := (fun f => decide (1 ≤ f ∧ T.1 f ≠ 0 ∧ T.2.1 f = hand) && s_ltb (T.2.2.2 f) (T.2.2.1 f) (T.2.2.2 e) (T.2.2.1 e))) (by (rw [Bool.and_eq_true]; exact ⟨decide_eq_true (by omega), c_79⟩))]; exact ihf (f + 1) (by omega) (by omega)) | exact V.re [4, 3, 2, 0, 1] rfl (by rw [← s_cnt_f (f := (fun f => decide (1 ≤ f ∧ T.1 f ≠ 0 ∧ T.2.1 f = hand) && s_ltb (T.2.2.2 f) (T.2.2.1 f) (T.2.2.2 e) (T.2.2.1 e))) (by (rw [c_79, Bool.and_false]))]; exact ihf (f + 1) (by omega) (by omega)) | exact V.re [4, 3, 2, 0, 1] rfl (by rw [← s_cnt_f (f := (fun f => decide (1 ≤ f ∧ T.1 f ≠ 0 ∧ T.2.1 f = hand) && s_ltb (T.2.2.2 f) (T.2.2.1 f) (T.2.2.2 e) (T.2.2.1 e))) (by (rw [decide_eq_false (by omega), Bool.false_and]))]; exact ihf (f + 1) (by omega) (by omega))
                      · try simp (disch := omega) only [nI_ltI, nI_leI, nI_eq, zz_lt0, zz_ge0, zz_gt0, zz_le0, zz_eq0, zz_m1lt, zz_m1ge, zz_m1eq, bI_eq0, decide_eq_false_iff_not, decide_eq_true_eq, Decidable.not_not, not_true_eq_false, not_false_eq_true, Nat.not_lt, Nat.not_le, Bool.not_eq_false, Bool.not_eq_true] at c_79
                        refine V.iconst (v := (nI 1)) dR_inOrder_82 (by decide) ?_
                        refine V.goto (tgt := 87) dR_inOrder_83 (by decide) ?_
                        refine V.iaddN dR_inOrder_87 ?_
                        refine V.istore_n dR_inOrder_88 (by decide) ?_
                        refine V.iincN dR_inOrder_89 rfl (by decide) ?_
                        refine V.goto (tgt := 39) dR_inOrder_92 (by decide) ?_
                        first | exact V.re [4, 3, 2, 0, 1] rfl (by rw [← s_cnt_t (f := (fun f => decide (1 ≤ f ∧ T.1 f ≠ 0 ∧ T.2.1 f = hand) && s_ltb (T.2.2.2 f) (T.2.2.1 f) (T.2.2.2 e) (T.2.2.1 e))) (by (rw [Bool.and_eq_true]; exact ⟨decide_eq_true (by omega), c_79⟩))]; exact ihf (f + 1) (by omega) (by omega)) | exact V.re [4, 3, 2, 0, 1] rfl (by rw [← s_cnt_f (f := (fun f => decide (1 ≤ f ∧ T.1 f ≠ 0 ∧ T.2.1 f = hand) && s_ltb (T.2.2.2 f) (T.2.2.1 f) (T.2.2.2 e) (T.2.2.1 e))) (by (rw [c_79, Bool.and_false]))]; exact ihf (f + 1) (by omega) (by omega)) | exact V.re [4, 3, 2, 0, 1] rfl (by rw [← s_cnt_f (f := (fun f => decide (1 ≤ f ∧ T.1 f ≠ 0 ∧ T.2.1 f = hand) && s_ltb (T.2.2.2 f) (T.2.2.1 f) (T.2.2.2 e) (T.2.2.1 e))) (by (rw [decide_eq_false (by omega), Bool.false_and]))]; exact ihf (f + 1) (by omega) (by omega))
            refine V.iconst (v := (nI 0)) dR_inOrder_34 (by decide) ?_
            refine V.istore_n dR_inOrder_35 (by decide) ?_
            refine V.iconst (v := (nI 1)) dR_inOrder_36 (by decide) ?_
            refine V.istore dR_inOrder_37 (by decide) ?_
            have hc1 := s_cnt_one (f := (fun f => decide (1 ≤ f ∧ T.1 f ≠ 0 ∧ T.2.1 f = hand) && s_ltb (T.2.2.2 f) (T.2.2.1 f) (T.2.2.2 e) (T.2.2.1 e))) (by (rw [decide_eq_false (by omega), Bool.false_and]))
            have hl := inner 299 1 (by omega) (by omega)
            rw [hc1] at hl
            exact hl
          · try simp (disch := omega) only [nI_ltI, nI_leI, nI_eq, zz_lt0, zz_ge0, zz_gt0, zz_le0, zz_eq0, zz_m1lt, zz_m1ge, zz_m1eq, bI_eq0, decide_eq_false_iff_not, decide_eq_true_eq, Decidable.not_not, not_true_eq_false, not_false_eq_true, Nat.not_lt, Nat.not_le, Bool.not_eq_false, Bool.not_eq_true] at c_28
            refine V.goto (tgt := 102) dR_inOrder_31 (by decide) ?_
            have hno : ¬ ((1 ≤ e ∧ T.1 e ≠ 0 ∧ T.2.1 e = hand) ∧ nI (s_rank T hand e) = k) := fun z => by have := z.1; omega
            refine V.iincN dR_inOrder_102 rfl (by decide) ?_
            refine V.goto (tgt := 2) dR_inOrder_105 (by decide) ?_
            exact V.re [2, 0, 1] rfl (ih (e + 1) (by omega) (by omega) (fun k2 hk2 => (Nat.lt_or_ge k2 e).elim (hf k2) (fun z => by (rw [show k2 = e by omega]; exact hno))))
  refine V.iconst (v := (nI 1)) dR_inOrder_0 (by decide) ?_
  refine V.istore_n dR_inOrder_1 (by decide) ?_
  exact loop 299 1 (by omega) (by omega) (fun x hx z => by have := z.1.1; omega)
noncomputable def s_name (T : TT) (hand : Nat) (k j : Int32) : Int32 := match s_nth T hand k with
  | none => -1
  | some e => if ¬ (j < 0 ∨ T.2.2.1 e ≤ j.toNatClampNeg) then nI (T.2.2.2 e j.toNatClampNeg) else -1
end
section
/-! bytes of a long -/
def s_byt (x : Int64) (k : Nat) : Nat := x.toBitVec.toNat / 2 ^ (8 * k) % 256
theorem s_byt_lt (x : Int64) (k : Nat) : s_byt x k < 256 := Nat.mod_lt _ (by decide)
theorem by_c : ∀ k, k < 8 → ((nI (8 * k)).toInt64 &&& 63).toBitVec.smod 64 = BitVec.ofNat 64 (8 * k) := by decide +kernel
theorem by_cu : ∀ k, k < 8 → (((nI (8 * k)).toInt64.toUInt64 &&& Int64.toUInt64 63)).toNat = 8 * k := by decide +kernel
theorem by_bit (x : Int64) {k i : Nat} (hi : i < 8) : (s_byt x k).testBit i = x.toBitVec.getLsbD (8 * k + i) := by
  unfold s_byt
  rw [show (256 : Nat) = 2 ^ 8 by decide, Nat.testBit_mod_two_pow, Nat.testBit_div_two_pow]
  simp only [hi, decide_true, Bool.true_and]
  rw [BitVec.getLsbD, Nat.add_comm]
theorem by_hi (x : Int64) {k i : Nat} (hi : 8 ≤ i) : (s_byt x k).testBit i = false :=
  Nat.testBit_lt_two_pow (Nat.lt_of_lt_of_le (s_byt_lt x k) (show 2 ^ 8 ≤ 2 ^ i from Nat.pow_le_pow_right (by decide) hi))
theorem by_255 (i : Nat) : (BitVec.ofNat 32 255).getLsbD i = decide (i < 8) := by
  rw [BitVec.getLsbD_ofNat, show (255 : Nat) = 2 ^ 8 - 1 by decide, Nat.testBit_two_pow_sub_one]
  by_cases h : i < 8
  · have : i < 32 := by omega
    simp [h, this]
  · simp [h]
theorem by_low {v : Int64} {x : Int64} {k : Nat} (h : ∀ i, i < 8 → v.toBitVec.getLsbD i = x.toBitVec.getLsbD (8 * k + i)) : v.toInt32 &&& nI 255 = nI (s_byt x k) := by
  apply Int32.toBitVec_inj.mp
  rw [Int32.toBitVec_and, Int64.toBitVec_toInt32]
  apply BitVec.eq_of_getLsbD_eq
  intro i hi
  rw [BitVec.getLsbD_and]
  show (_ && (BitVec.ofNat 32 255).getLsbD i) = (BitVec.ofNat 32 (s_byt x k)).getLsbD i
  rw [by_255, BitVec.getLsbD_ofNat]
  by_cases h8 : i < 8
  · rw [by_bit x h8, ← h i h8]
    have h64 : i < 64 := by omega
    simp only [BitVec.getLsbD_signExtend, h8, hi, h64, decide_true, Bool.true_and, Bool.and_true, if_true]
  · rw [by_hi x (by omega)]
    simp [h8]
theorem by_shr (x : Int64) {k : Nat} (hk : k < 8) : (x >>> ((nI (8 * k)).toInt64 &&& 63)).toInt32 &&& nI 255 = nI (s_byt x k) := by
  apply by_low
  intro i hi
  rw [Int64.toBitVec_shiftRight, by_c k hk]
  rw [BitVec.sshiftRight_eq', BitVec.getLsbD_sshiftRight, BitVec.toNat_ofNat, Nat.mod_eq_of_lt (by omega)]
  have h1 : ¬ 64 ≤ i := by omega
  have h2 : 8 * k + i < 64 := by omega
  simp [h1, h2]
theorem by_ushr (x : Int64) {k : Nat} (hk : k < 8) : (x.toUInt64 >>> ((nI (8 * k)).toInt64.toUInt64 &&& Int64.toUInt64 63)).toInt64.toInt32 &&& nI 255 = nI (s_byt x k) := by
  apply by_low
  intro i hi
  have e : (x.toUInt64 >>> ((nI (8 * k)).toInt64.toUInt64 &&& Int64.toUInt64 63)).toInt64.toBitVec = x.toBitVec >>> (8 * k) := by
    apply BitVec.eq_of_toNat_eq
    show (x.toUInt64 >>> _).toNat = _
    rw [UInt64.toNat_shiftRight, by_cu k hk, Nat.mod_eq_of_lt (by omega), BitVec.toNat_ushiftRight]
    rfl
  rw [e, BitVec.getLsbD_ushiftRight]
/-- what a byte array keeps of the byte -/
theorem by_b8 : ∀ n, n < 256 → narrow .byte (.int (nI n)) = .int ((nI n).toInt8.toInt32) := fun n _ => rfl
theorem by_i8 (v : Int32) {n : Nat} (hn : n < 256) (h : v &&& nI 255 = nI n) : v.toInt8.toInt32 = (nI n).toInt8.toInt32 := by
  rw [← h]
  apply Int32.toBitVec_inj.mp
  rw [Int8.toBitVec_toInt32, Int8.toBitVec_toInt32, Int32.toBitVec_toInt8, Int32.toBitVec_toInt8, Int32.toBitVec_and]
  congr 1
  apply BitVec.eq_of_getLsbD_eq
  intro i hi
  have h32 : i < 32 := by omega
  show _ = ((v.toBitVec &&& (BitVec.ofNat 32 255)).signExtend 8).getLsbD i
  simp only [BitVec.getLsbD_signExtend, BitVec.getLsbD_and, by_255, hi, h32, decide_true, Bool.true_and, Bool.and_true, if_true]
end
section
theorem RS.put {G : GG} {h : HH} {o a k : Nat} {v : Value} (hS : RS G h o) (hk : a ≠ o ∨ k = 1 ∨ (7 ≤ k ∧ k ≤ 11)) : RS G (h_put h a k v) o := by
  obtain ⟨hz, hk0, hk1, hk2, hk3, hk4, hk5, hk6, hk7, hk8, hf0, hf2, hf3, hf4, hf5, hf6, hf12, hf13⟩ := hS
  exact ⟨hz, hk0, hk1, hk2, hk3, hk4, hk5, hk6, hk7, hk8, (hp_ne (by omega)).trans hf0, (hp_ne (by omega)).trans hf2, (hp_ne (by omega)).trans hf3, (hp_ne (by omega)).trans hf4, (hp_ne (by omega)).trans hf5, (hp_ne (by omega)).trans hf6, (hp_ne (by omega)).trans hf12, (hp_ne (by omega)).trans hf13⟩
theorem RT.put {h : HH} {o a k : Nat} {v : Value} {T : TT} (hT : RT h o T) (ha : a ≠ o + 2 ∧ a ≠ o + 3 ∧ a ≠ o + 5 ∧ a ≠ o + 6) : RT (h_put h a k v) o T := by
  obtain ⟨hkd, hkd2, hin, hin2, hns, hns2, hnm, hnm2⟩ := hT
  exact ⟨fun e he => (hp_ne (by omega)).trans (hkd e he), hkd2, fun e he => (hp_ne (by omega)).trans (hin e he), hin2, fun e he => (hp_ne (by omega)).trans (hns e he), hns2, fun e k he hk => (hp_ne (by omega)).trans (hnm e k he hk), hnm2⟩
theorem RP.put {h : HH} {o a k len : Nat} {v : Value} {p : Nat → Nat} (hP : RP h o p len) (ha : ¬ (a = o ∧ k = 1) ∧ a ≠ o + 1) : RP (h_put h a k v) o p len := by
  obtain ⟨hln, hpp, hl2, hp⟩ := hP
  exact ⟨(hp_ne (by omega)).trans hln, fun j hj => (hp_ne (by omega)).trans (hpp j hj), hl2, hp⟩
theorem RB.put {h : HH} {o a k : Nat} {v : Value} {bl : List (Nat × Nat)} (hB : RB h o bl) (ha : ¬ (a = o ∧ k = 11) ∧ a ≠ o + 4 ∧ a ≠ o + 7 ∧ a ≠ o + 8) : RB (h_put h a k v) o bl := by
  obtain ⟨h1, h2, h3, h4, h5, h6⟩ := hB
  exact ⟨(hp_ne (by omega)).trans h1, fun k hk => (hp_ne (by omega)).trans (h2 k hk), fun k hk => (hp_ne (by omega)).trans (h3 k hk), h4, h5, fun e he => (hp_ne (by omega)).trans (h6 e he)⟩
/-- the whole reference -/
def RI (G : GG) (h : HH) (o : Nat) (T : TT) (p : Nat → Nat) (len hand : Nat) (op : Option Nat) (gone : Bool) (ents : Nat) (bl : List (Nat × Nat)) : Prop :=
  RS G h o ∧ RP h o p len ∧ RT h o T ∧ (h.2.1 o 8 = .int (nI hand) ∧ hand < 300) ∧ h.2.1 o 9 = .int (oI op) ∧ h.2.1 o 10 = .int (bI gone) ∧ h.2.1 o 7 = .int (nI ents) ∧ RB h o bl ∧ ∀ e, op = some e → e < 300
/-- nothing but the reference has changed -/
def FrO (o : Nat) (h h' : HH) : Prop := h'.1 = h.1 ∧ h'.2.2 = h.2.2 ∧ ∀ a j, (a < o ∨ o + 8 < a) → h'.2.1 a j = h.2.1 a j
theorem FrO.rf {o : Nat} {h : HH} : FrO o h h := ⟨rfl, rfl, fun _ _ _ => rfl⟩
theorem FrO.put {o : Nat} {h h' : HH} {a k : Nat} {v : Value} (hF : FrO o h h') (ha : o ≤ a ∧ a ≤ o + 8) : FrO o h (h_put h' a k v) :=
  ⟨hF.1, hF.2.1, fun b j hb => (hp_a (by omega)).trans (hF.2.2 b j hb)⟩
theorem FrO.tr {o : Nat} {h h1 h2 : HH} (a : FrO o h h1) (b : FrO o h1 h2) : FrO o h h2 := ⟨b.1.trans a.1, b.2.1.trans a.2.1, fun x j hx => (b.2.2 x j hx).trans (a.2.2 x j hx)⟩
theorem RI.len {G : GG} {h : HH} {o : Nat} {T : TT} {p : Nat → Nat} {len hand : Nat} {op : Option Nat} {gone : Bool} {ents : Nat} {bl : List (Nat × Nat)} (hI : RI G h o T p len hand op gone ents bl) : RI G (h_put h o 1 (.int (nI 0))) o T p 0 hand op gone ents bl := by
  obtain ⟨hS, hP, hT, hH, hO, hg, hE, hB, hop⟩ := hI
  exact ⟨hS.put (by omega), ⟨hp_eq, fun j hj => by omega, by omega, fun j hj => by omega⟩, hT.put (by omega), ⟨(hp_j (by omega)).trans hH.1, hH.2⟩, (hp_j (by omega)).trans hO, (hp_j (by omega)).trans hg, (hp_j (by omega)).trans hE, hB.put (by omega), hop⟩
theorem RI.grow {G : GG} {h : HH} {o : Nat} {T : TT} {p : Nat → Nat} {len hand : Nat} {op : Option Nat} {gone : Bool} {ents : Nat} {bl : List (Nat × Nat)} (hI : RI G h o T p len hand op gone ents bl) (hl : len < 250) (hp : p len < 256) : RI G (h_put (h_put h (o + 1) len (.int (nI (p len)))) o 1 (.int (nI (len + 1)))) o T p (len + 1) hand op gone ents bl := by
  obtain ⟨hS, hP, hT, hH, hO, hg, hE, hB, hop⟩ := hI
  refine ⟨(hS.put (by omega)).put (by omega), ⟨hp_eq, fun j hj => ?_, by omega, fun j hj => ?_⟩, (hT.put (by omega)).put (by omega), ⟨(hp_j (by omega)).trans ((hp_a (by omega)).trans hH.1), hH.2⟩, (hp_j (by omega)).trans ((hp_a (by omega)).trans hO), (hp_j (by omega)).trans ((hp_a (by omega)).trans hg), (hp_j (by omega)).trans ((hp_a (by omega)).trans hE), (hB.put (by omega)).put (by omega), hop⟩
  · rw [hp_a (by omega)]
    by_cases e : j = len
    · subst e; exact hp_eq
    · rw [hp_j e]; exact hP.2.1 j (by omega)
  · by_cases e : j = len
    · subst e; exact hp
    · exact hP.2.2.2 j (by omega)
theorem RI.path {G : GG} {h : HH} {o : Nat} {T : TT} {p p' : Nat → Nat} {len hand : Nat} {op : Option Nat} {gone : Bool} {ents : Nat} {bl : List (Nat × Nat)} (hI : RI G h o T p len hand op gone ents bl) (he : ∀ j, j < len → p' j = p j) : RI G h o T p' len hand op gone ents bl := by
  obtain ⟨hS, hP, hr⟩ := hI
  exact ⟨hS, ⟨hP.1, fun j hj => by rw [he j hj]; exact hP.2.1 j hj, hP.2.2.1, fun j hj => by rw [he j hj]; exact hP.2.2.2 j hj⟩, hr⟩
/-- a character of a path -/
abbrev s_pc (c : Nat) : Prop := c = 9 ∨ c = 10 ∨ (32 ≤ c ∧ c ≤ 126)
/-- the path with m bytes of x behind it -/
def s_app (p : Nat → Nat) (len : Nat) (x : Int64) (m : Nat) : Nat → Nat := fun j => if j < len then p j else s_byt x (m - 1 - (j - len))
abbrev s_pok (len : Nat) (x : Int64) (n : Int32) : Prop := ∃ m, n = nI m ∧ m ≤ 8 ∧ len + m ≤ 250 ∧ ∀ k, k < m → s_pc (s_byt x k)
theorem nI_inj {a b : Nat} (ha : a < 2 ^ 31) (hb : b < 2 ^ 31) (h : nI a = nI b) : a = b := (nI_eq ha hb).mp h
theorem i8_cases (n : Int32) : n < 0 ∨ nI 9 ≤ n ∨ ∃ m, m < 9 ∧ n = nI m := pk_ix n (by decide)
theorem le8 {n : Int32} (h : nI 9 ≤ n) : nI 8 < n := by
  rw [Int32.lt_iff_toInt_lt, Int32.le_iff_toInt_le] at *
  rw [nI_toInt (by decide)] at *
  omega
set_option maxHeartbeats 4000000 in
set_option maxRecDepth 100000 in
/-- PathTreeModel.path -/
theorem kR_path {G : GG} {h : HH} {o : Nat} {T : TT} {p : Nat → Nat} {len hand : Nat} {op : Option Nat} {gone : Bool} {ents : Nat} {bl : List (Nat × Nat)} {Q : Option Value → HH → Prop} {x : Int64} {n : Int32} (hI : RI G h o T p len hand op gone ents bl) (h1 : ¬ s_pok len x n → Q (some (.int (-1))) h) (h2 : ∀ m, n = nI m → m ≤ 8 → s_pok len x n → ∀ h', RI G h' o T (s_app p len x m) (len + m) hand op gone ents bl → FrO o h h' → Q (some (.int (nI (len + m)))) h') : V G mR_path 0 (lv_args 0 [.ref o, .long x, .int n]) [] h 0 0 Q := by
  obtain ⟨hS, hP, hT, hH, hO, hg, hE, hB, hop⟩ := id hI
  obtain ⟨hz, hk0, hk1, hk2, hk3, hk4, hk5, hk6, hk7, hk8, hf0, hf2, hf3, hf4, hf5, hf6, hf12, hf13⟩ := id hS
  obtain ⟨hln, hpp, hl2, hp⟩ := id hP
  rcases i8_cases n with hn | hn | ⟨m, hm, rfl⟩
  · have hno : ¬ s_pok len x n := fun ⟨m, e, _⟩ => by (subst e; exact nI_pos (by omega) hn)
    refine V.iload_n dR_path_0 rfl ?_
    refine V.if_lt (tgt := 22) dR_path_1 (by decide) (fun c_1 => ?_) (fun c_1 => ?_)
    · skip
      refine V.iconst (v := (-1)) dR_path_22 (by decide) ?_
      refine V.ireturn dR_path_23 rfl rfl ?_
      exact h1 hno
    · skip
      exact absurd hn c_1
  · have hno : ¬ s_pok len x n := fun ⟨m, e, z, _⟩ => by (subst e; have := (nI_leI (by omega) (by omega)).mp hn; omega)
    have hn8 := le8 hn
    refine V.iload_n dR_path_0 rfl ?_
    refine V.if_lt (tgt := 22) dR_path_1 (by decide) (fun c_1 => ?_) (fun c_1 => ?_)
    · skip
      refine V.iconst (v := (-1)) dR_path_22 (by decide) ?_
      refine V.ireturn dR_path_23 rfl rfl ?_
      exact h1 hno
    · skip
      refine V.iload_n dR_path_4 rfl ?_
      refine V.bipush (v := (nI 8)) dR_path_5 (by decide) ?_
      refine V.icmp_gt (tgt := 22) dR_path_7 (by decide) (fun c_7 => ?_) (fun c_7 => ?_)
      · skip
        refine V.iconst (v := (-1)) dR_path_22 (by decide) ?_
        refine V.ireturn dR_path_23 rfl rfl ?_
        exact h1 hno
      · skip
        exact absurd hn8 c_7
  · by_cases hlm : 250 < len + m
    · have hno : ¬ s_pok len x (nI m) := fun ⟨m2, e, _, z, _⟩ => by (have := nI_inj (by omega) (by omega) e; omega)
      refine V.iload_n dR_path_0 rfl ?_
      refine V.if_lt (tgt := 22) dR_path_1 (by decide) (fun c_1 => ?_) (fun c_1 => ?_)
      · try simp (disch := omega) only [nI_ltI, nI_leI, nI_eq, zz_lt0, zz_ge0, zz_gt0, zz_le0, zz_eq0, zz_m1lt, zz_m1ge, zz_m1eq, bI_eq0, decide_eq_false_iff_not, decide_eq_true_eq, Decidable.not_not, not_true_eq_false, not_false_eq_true, Nat.not_lt, Nat.not_le, Bool.not_eq_false, Bool.not_eq_true] at c_1
        all_goals omega
      · try simp (disch := omega) only [nI_ltI, nI_leI, nI_eq, zz_lt0, zz_ge0, zz_gt0, zz_le0, zz_eq0, zz_m1lt, zz_m1ge, zz_m1eq, bI_eq0, decide_eq_false_iff_not, decide_eq_true_eq, Decidable.not_not, not_true_eq_false, not_false_eq_true, Nat.not_lt, Nat.not_le, Bool.not_eq_false, Bool.not_eq_true] at c_1
        refine V.iload_n dR_path_4 rfl ?_
        refine V.bipush (v := (nI 8)) dR_path_5 (by decide) ?_
        refine V.icmp_gt (tgt := 22) dR_path_7 (by decide) (fun c_7 => ?_) (fun c_7 => ?_)
        · try simp (disch := omega) only [nI_ltI, nI_leI, nI_eq, zz_lt0, zz_ge0, zz_gt0, zz_le0, zz_eq0, zz_m1lt, zz_m1ge, zz_m1eq, bI_eq0, decide_eq_false_iff_not, decide_eq_true_eq, Decidable.not_not, not_true_eq_false, not_false_eq_true, Nat.not_lt, Nat.not_le, Bool.not_eq_false, Bool.not_eq_true] at c_7
          all_goals omega
        · try simp (disch := omega) only [nI_ltI, nI_leI, nI_eq, zz_lt0, zz_ge0, zz_gt0, zz_le0, zz_eq0, zz_m1lt, zz_m1ge, zz_m1eq, bI_eq0, decide_eq_false_iff_not, decide_eq_true_eq, Decidable.not_not, not_true_eq_false, not_false_eq_true, Nat.not_lt, Nat.not_le, Bool.not_eq_false, Bool.not_eq_true] at c_7
          first | refine V.aload_n dR_path_10 rfl ?_ | refine V.aload_nN dR_path_10 rfl ?_
          refine V.getk dR_path_11 (by omega) (by assumption) f_R_44_4 (by assumption) ?_
          refine V.iload_n dR_path_14 rfl ?_
          refine V.iaddN dR_path_15 ?_
          refine V.sipush (v := (nI 250)) dR_path_16 (by decide) ?_
          refine V.icmp_le (tgt := 24) dR_path_19 (by decide) (fun c_19 => ?_) (fun c_19 => ?_)
          · try simp (disch := omega) only [nI_ltI, nI_leI, nI_eq, zz_lt0, zz_ge0, zz_gt0, zz_le0, zz_eq0, zz_m1lt, zz_m1ge, zz_m1eq, bI_eq0, decide_eq_false_iff_not, decide_eq_true_eq, Decidable.not_not, not_true_eq_false, not_false_eq_true, Nat.not_lt, Nat.not_le, Bool.not_eq_false, Bool.not_eq_true] at c_19
            all_goals omega
          · try simp (disch := omega) only [nI_ltI, nI_leI, nI_eq, zz_lt0, zz_ge0, zz_gt0, zz_le0, zz_eq0, zz_m1lt, zz_m1ge, zz_m1eq, bI_eq0, decide_eq_false_iff_not, decide_eq_true_eq, Decidable.not_not, not_true_eq_false, not_false_eq_true, Nat.not_lt, Nat.not_le, Bool.not_eq_false, Bool.not_eq_true] at c_19
            refine V.iconst (v := (-1)) dR_path_22 (by decide) ?_
            refine V.ireturn dR_path_23 rfl rfl ?_
            exact h1 hno
    · have loop2 : (∀ k, k < m → s_pc (s_byt x k)) → ∀ q hq, q ≤ m → RI G hq o T (s_app p len x m) (len + (m - q)) hand op gone ents bl → FrO o h hq → V G mR_path 88 [(4, .int (lm q)), (0, .ref o), (1, .long x), (3, .int (nI m))] [] hq 0 0 Q := by
        intro hc q
        induction q with
        | zero =>
          intro hq hqm hI2 hF
          obtain ⟨hS2, ⟨hln2, hpp2, hl22, hp2⟩, -⟩ := id hI2
          obtain ⟨hz2, hk02, hk12, hk22, hk32, hk42, hk52, hk62, hk72, hk82, hf02, -⟩ := id hS2
          refine V.iload dR_path_88 rfl ?_
          refine V.if_lt (tgt := 130) dR_path_90 (by decide) (fun c_90 => ?_) (fun c_90 => ?_)
          · try simp only [lm_0, zz_m1lt, not_true_eq_false] at c_90
            first | refine V.aload_n dR_path_130 rfl ?_ | refine V.aload_nN dR_path_130 rfl ?_
            refine V.getk dR_path_131 (by omega) (by assumption) f_R_44_4 (by assumption) ?_
            refine V.ireturn dR_path_134 rfl rfl ?_
            rw [Nat.sub_zero] at hI2
            exact h2 m rfl (by omega) ⟨m, rfl, by omega, by omega, hc⟩ hq hI2 hF
          · try simp only [lm_0, zz_m1lt, not_true_eq_false] at c_90
            all_goals omega
        | succ q ih =>
          intro hq hqm hI2 hF
          obtain ⟨hS2, ⟨hln2, hpp2, hl22, hp2⟩, -⟩ := id hI2
          obtain ⟨hz2, hk02, hk12, hk22, hk32, hk42, hk52, hk62, hk72, hk82, hf02, -⟩ := id hS2
          refine V.iload dR_path_88 rfl ?_
          refine V.if_lt (tgt := 130) dR_path_90 (by decide) (fun c_90 => ?_) (fun c_90 => ?_)
          · try simp (disch := omega) only [lm_s, zz_lt0, not_false_eq_true] at c_90
            all_goals omega
          · try simp (disch := omega) only [lm_s, zz_lt0, not_false_eq_true] at c_90
            rw [lm_s]
            first | refine V.aload_n dR_path_93 rfl ?_ | refine V.aload_nN dR_path_93 rfl ?_
            refine V.getk dR_path_94 (by omega) (by assumption) f_R_7_4 (by assumption) ?_
            first | refine V.aload_n dR_path_97 rfl ?_ | refine V.aload_nN dR_path_97 rfl ?_
            refine V.getk dR_path_98 (by omega) (by assumption) f_R_44_4 (by assumption) ?_
            refine V.lload_n dR_path_101 rfl ?_
            refine V.bipush (v := (nI 8)) dR_path_102 (by decide) ?_
            refine V.iload dR_path_104 rfl ?_
            refine V.imulN dR_path_106 ?_
            refine V.lshr dR_path_107 rfl ?_
            refine V.l2i dR_path_108 rfl ?_
            refine V.sipush (v := (nI 255)) dR_path_109 (by decide) ?_
            refine V.iand dR_path_112 ?_
            rw [by_shr x (by omega)]
            refine V.iastoreN dR_path_113 (by omega) (by assumption) (by omega) rfl ?_
            intro h113 e113
            have hS3 : RS G h113 o := by (rw [e113]; exact hS2.put (by omega))
            obtain ⟨hz3, hk03, -⟩ := id hS3
            have hln3 : h113.2.1 o 1 = .int (nI (len + (m - (q + 1)))) := by (rw [e113]; exact (hp_a (by omega)).trans hln2)
            first | refine V.aload_n dR_path_114 rfl ?_ | refine V.aload_nN dR_path_114 rfl ?_
            refine V.dup dR_path_115 rfl ?_
            refine V.getk dR_path_116 (by omega) hk03 f_R_44_4 hln3 ?_
            refine V.iconst (v := (nI 1)) dR_path_119 (by decide) ?_
            refine V.iaddN dR_path_120 ?_
            refine V.putk dR_path_121 (by omega) hk03 p_R_44_4 rfl rfl ?_
            intro h121 e121
            refine V.iinc (v := lm q) dR_path_124 rfl (by show nI q + Int32.ofInt (-1) = nI q - 1; rw [show Int32.ofInt (-1) = -1 by decide, Int32.sub_eq_add_neg]) (by decide) ?_
            refine V.goto (tgt := 88) dR_path_127 (by decide) ?_
            refine V.re [4, 0, 1, 3] rfl (ih h121 (by omega) ?_ ?_)
            · have hv : s_app p len x m (len + (m - (q + 1))) = s_byt x q := by
                unfold s_app
                rw [if_neg (by omega)]
                congr 1
                omega
              have hg3 := hI2.grow (by omega) (by rw [hv]; exact s_byt_lt x q)
              rw [hv] at hg3
              rw [e121, e113, show len + (m - q) = len + (m - (q + 1)) + 1 by omega]
              exact hg3
            · rw [e121, e113]; exact (hF.put (by omega)).put (by omega)
      have loop1 : ∀ r k, k + r = m → (∀ j, j < k → s_pc (s_byt x j)) → V G mR_path 27 [(4, .int (nI k)), (0, .ref o), (1, .long x), (3, .int (nI m))] [] h 0 0 Q := by
        intro r
        induction r with
        | zero =>
          intro k hr hc
          rw [show k = m by omega] at hc ⊢
          refine V.iload dR_path_27 rfl ?_
          refine V.iload_n dR_path_29 rfl ?_
          refine V.icmp_ge (tgt := 83) dR_path_30 (by decide) (fun c_30 => ?_) (fun c_30 => ?_)
          · try simp (disch := omega) only [nI_ltI, nI_leI, nI_eq, zz_lt0, zz_ge0, zz_gt0, zz_le0, zz_eq0, zz_m1lt, zz_m1ge, zz_m1eq, bI_eq0, decide_eq_false_iff_not, decide_eq_true_eq, Decidable.not_not, not_true_eq_false, not_false_eq_true, Nat.not_lt, Nat.not_le, Bool.not_eq_false, Bool.not_eq_true] at c_30
            refine V.iload_n dR_path_83 rfl ?_
            refine V.iconst (v := (nI 1)) dR_path_84 (by decide) ?_
            refine V.isub dR_path_85 ?_
            refine V.istore dR_path_86 (by decide) ?_
            exact V.re [4, 0, 1, 3] rfl (loop2 hc m h (Nat.le_refl _) (by rw [Nat.sub_self, Nat.add_zero]; exact hI.path (fun j hj => by (unfold s_app; rw [if_pos hj]))) FrO.rf)
          · try simp (disch := omega) only [nI_ltI, nI_leI, nI_eq, zz_lt0, zz_ge0, zz_gt0, zz_le0, zz_eq0, zz_m1lt, zz_m1ge, zz_m1eq, bI_eq0, decide_eq_false_iff_not, decide_eq_true_eq, Decidable.not_not, not_true_eq_false, not_false_eq_true, Nat.not_lt, Nat.not_le, Bool.not_eq_false, Bool.not_eq_true] at c_30
            all_goals omega
        | succ r ih =>
          intro k hr hc
          refine V.iload dR_path_27 rfl ?_
          refine V.iload_n dR_path_29 rfl ?_
          refine V.icmp_ge (tgt := 83) dR_path_30 (by decide) (fun c_30 => ?_) (fun c_30 => ?_)
          · try simp (disch := omega) only [nI_ltI, nI_leI, nI_eq, zz_lt0, zz_ge0, zz_gt0, zz_le0, zz_eq0, zz_m1lt, zz_m1ge, zz_m1eq, bI_eq0, decide_eq_false_iff_not, decide_eq_true_eq, Decidable.not_not, not_true_eq_false, not_false_eq_true, Nat.not_lt, Nat.not_le, Bool.not_eq_false, Bool.not_eq_true] at c_30
            all_goals omega
          · try simp (disch := omega) only [nI_ltI, nI_leI, nI_eq, zz_lt0, zz_ge0, zz_gt0, zz_le0, zz_eq0, zz_m1lt, zz_m1ge, zz_m1eq, bI_eq0, decide_eq_false_iff_not, decide_eq_true_eq, Decidable.not_not, not_true_eq_false, not_false_eq_true, Nat.not_lt, Nat.not_le, Bool.not_eq_false, Bool.not_eq_true] at c_30
            refine V.lload_n dR_path_33 rfl ?_
            refine V.bipush (v := (nI 8)) dR_path_34 (by decide) ?_
            refine V.iload dR_path_36 rfl ?_
            refine V.imulN dR_path_38 ?_
            refine V.lshr dR_path_39 rfl ?_
            refine V.l2i dR_path_40 rfl ?_
            refine V.sipush (v := (nI 255)) dR_path_41 (by decide) ?_
            refine V.iand dR_path_44 ?_
            rw [by_shr x (by omega)]
            have hbl := s_byt_lt x k
            refine V.istore dR_path_45 (by decide) ?_
            refine V.iload dR_path_47 rfl ?_
            refine V.bipush (v := (nI 9)) dR_path_49 (by decide) ?_
            refine V.icmp_eq (tgt := 77) dR_path_51 (by decide) (fun c_51 => ?_) (fun c_51 => ?_)
            · try simp (disch := omega) only [nI_ltI, nI_leI, nI_eq, zz_lt0, zz_ge0, zz_gt0, zz_le0, zz_eq0, zz_m1lt, zz_m1ge, zz_m1eq, bI_eq0, decide_eq_false_iff_not, decide_eq_true_eq, Decidable.not_not, not_true_eq_false, not_false_eq_true, Nat.not_lt, Nat.not_le, Bool.not_eq_false, Bool.not_eq_true] at c_51
              refine V.iincN dR_path_77 rfl (by decide) ?_
              refine V.goto (tgt := 27) dR_path_80 (by decide) ?_
              exact V.re [4, 0, 1, 3] rfl (ih (k + 1) (by omega) (fun j hj => (Nat.lt_or_ge j k).elim (hc j) (fun z => by (rw [show j = k by omega]; omega))))
            · try simp (disch := omega) only [nI_ltI, nI_leI, nI_eq, zz_lt0, zz_ge0, zz_gt0, zz_le0, zz_eq0, zz_m1lt, zz_m1ge, zz_m1eq, bI_eq0, decide_eq_false_iff_not, decide_eq_true_eq, Decidable.not_not, not_true_eq_false, not_false_eq_true, Nat.not_lt, Nat.not_le, Bool.not_eq_false, Bool.not_eq_true] at c_51
              refine V.iload dR_path_54 rfl ?_
              refine V.bipush (v := (nI 10)) dR_path_56 (by decide) ?_
              refine V.icmp_eq (tgt := 77) dR_path_58 (by decide) (fun c_58 => ?_) (fun c_58 => ?_)
              · try simp (disch := omega) only [nI_ltI, nI_leI, nI_eq, zz_lt0, zz_ge0, zz_gt0, zz_le0, zz_eq0, zz_m1lt, zz_m1ge, zz_m1eq, bI_eq0, decide_eq_false_iff_not, decide_eq_true_eq, Decidable.not_not, not_true_eq_false, not_false_eq_true, Nat.not_lt, Nat.not_le, Bool.not_eq_false, Bool.not_eq_true] at c_58
                refine V.iincN dR_path_77 rfl (by decide) ?_
                refine V.goto (tgt := 27) dR_path_80 (by decide) ?_
                exact V.re [4, 0, 1, 3] rfl (ih (k + 1) (by omega) (fun j hj => (Nat.lt_or_ge j k).elim (hc j) (fun z => by (rw [show j = k by omega]; omega))))
              · try simp (disch := omega) only [nI_ltI, nI_leI, nI_eq, zz_lt0, zz_ge0, zz_gt0, zz_le0, zz_eq0, zz_m1lt, zz_m1ge, zz_m1eq, bI_eq0, decide_eq_false_iff_not, decide_eq_true_eq, Decidable.not_not, not_true_eq_false, not_false_eq_true, Nat.not_lt, Nat.not_le, Bool.not_eq_false, Bool.not_eq_true] at c_58
                refine V.iload dR_path_61 rfl ?_
                refine V.bipush (v := (nI 32)) dR_path_63 (by decide) ?_
                refine V.icmp_lt (tgt := 75) dR_path_65 (by decide) (fun c_65 => ?_) (fun c_65 => ?_)
                · try simp (disch := omega) only [nI_ltI, nI_leI, nI_eq, zz_lt0, zz_ge0, zz_gt0, zz_le0, zz_eq0, zz_m1lt, zz_m1ge, zz_m1eq, bI_eq0, decide_eq_false_iff_not, decide_eq_true_eq, Decidable.not_not, not_true_eq_false, not_false_eq_true, Nat.not_lt, Nat.not_le, Bool.not_eq_false, Bool.not_eq_true] at c_65
                  refine V.iconst (v := (-1)) dR_path_75 (by decide) ?_
                  refine V.ireturn dR_path_76 rfl rfl ?_
                  exact h1 (fun ⟨m2, e2, _, _, z⟩ => by
                    have e3 := nI_inj (by omega) (by omega) e2
                    have := z k (by omega)
                    omega)
                · try simp (disch := omega) only [nI_ltI, nI_leI, nI_eq, zz_lt0, zz_ge0, zz_gt0, zz_le0, zz_eq0, zz_m1lt, zz_m1ge, zz_m1eq, bI_eq0, decide_eq_false_iff_not, decide_eq_true_eq, Decidable.not_not, not_true_eq_false, not_false_eq_true, Nat.not_lt, Nat.not_le, Bool.not_eq_false, Bool.not_eq_true] at c_65
                  refine V.iload dR_path_68 rfl ?_
                  refine V.bipush (v := (nI 126)) dR_path_70 (by decide) ?_
                  refine V.icmp_le (tgt := 77) dR_path_72 (by decide) (fun c_72 => ?_) (fun c_72 => ?_)
                  · try simp (disch := omega) only [nI_ltI, nI_leI, nI_eq, zz_lt0, zz_ge0, zz_gt0, zz_le0, zz_eq0, zz_m1lt, zz_m1ge, zz_m1eq, bI_eq0, decide_eq_false_iff_not, decide_eq_true_eq, Decidable.not_not, not_true_eq_false, not_false_eq_true, Nat.not_lt, Nat.not_le, Bool.not_eq_false, Bool.not_eq_true] at c_72
                    refine V.iincN dR_path_77 rfl (by decide) ?_
                    refine V.goto (tgt := 27) dR_path_80 (by decide) ?_
                    exact V.re [4, 0, 1, 3] rfl (ih (k + 1) (by omega) (fun j hj => (Nat.lt_or_ge j k).elim (hc j) (fun z => by (rw [show j = k by omega]; omega))))
                  · try simp (disch := omega) only [nI_ltI, nI_leI, nI_eq, zz_lt0, zz_ge0, zz_gt0, zz_le0, zz_eq0, zz_m1lt, zz_m1ge, zz_m1eq, bI_eq0, decide_eq_false_iff_not, decide_eq_true_eq, Decidable.not_not, not_true_eq_false, not_false_eq_true, Nat.not_lt, Nat.not_le, Bool.not_eq_false, Bool.not_eq_true] at c_72
                    refine V.iconst (v := (-1)) dR_path_75 (by decide) ?_
                    refine V.ireturn dR_path_76 rfl rfl ?_
                    exact h1 (fun ⟨m2, e2, _, _, z⟩ => by
                      have e3 := nI_inj (by omega) (by omega) e2
                      have := z k (by omega)
                      omega)
      refine V.iload_n dR_path_0 rfl ?_
      refine V.if_lt (tgt := 22) dR_path_1 (by decide) (fun c_1 => ?_) (fun c_1 => ?_)
      · try simp (disch := omega) only [nI_ltI, nI_leI, nI_eq, zz_lt0, zz_ge0, zz_gt0, zz_le0, zz_eq0, zz_m1lt, zz_m1ge, zz_m1eq, bI_eq0, decide_eq_false_iff_not, decide_eq_true_eq, Decidable.not_not, not_true_eq_false, not_false_eq_true, Nat.not_lt, Nat.not_le, Bool.not_eq_false, Bool.not_eq_true] at c_1
        all_goals omega
      · try simp (disch := omega) only [nI_ltI, nI_leI, nI_eq, zz_lt0, zz_ge0, zz_gt0, zz_le0, zz_eq0, zz_m1lt, zz_m1ge, zz_m1eq, bI_eq0, decide_eq_false_iff_not, decide_eq_true_eq, Decidable.not_not, not_true_eq_false, not_false_eq_true, Nat.not_lt, Nat.not_le, Bool.not_eq_false, Bool.not_eq_true] at c_1
        refine V.iload_n dR_path_4 rfl ?_
        refine V.bipush (v := (nI 8)) dR_path_5 (by decide) ?_
        refine V.icmp_gt (tgt := 22) dR_path_7 (by decide) (fun c_7 => ?_) (fun c_7 => ?_)
        · try simp (disch := omega) only [nI_ltI, nI_leI, nI_eq, zz_lt0, zz_ge0, zz_gt0, zz_le0, zz_eq0, zz_m1lt, zz_m1ge, zz_m1eq, bI_eq0, decide_eq_false_iff_not, decide_eq_true_eq, Decidable.not_not, not_true_eq_false, not_false_eq_true, Nat.not_lt, Nat.not_le, Bool.not_eq_false, Bool.not_eq_true] at c_7
          all_goals omega
        · try simp (disch := omega) only [nI_ltI, nI_leI, nI_eq, zz_lt0, zz_ge0, zz_gt0, zz_le0, zz_eq0, zz_m1lt, zz_m1ge, zz_m1eq, bI_eq0, decide_eq_false_iff_not, decide_eq_true_eq, Decidable.not_not, not_true_eq_false, not_false_eq_true, Nat.not_lt, Nat.not_le, Bool.not_eq_false, Bool.not_eq_true] at c_7
          first | refine V.aload_n dR_path_10 rfl ?_ | refine V.aload_nN dR_path_10 rfl ?_
          refine V.getk dR_path_11 (by omega) (by assumption) f_R_44_4 (by assumption) ?_
          refine V.iload_n dR_path_14 rfl ?_
          refine V.iaddN dR_path_15 ?_
          refine V.sipush (v := (nI 250)) dR_path_16 (by decide) ?_
          refine V.icmp_le (tgt := 24) dR_path_19 (by decide) (fun c_19 => ?_) (fun c_19 => ?_)
          · try simp (disch := omega) only [nI_ltI, nI_leI, nI_eq, zz_lt0, zz_ge0, zz_gt0, zz_le0, zz_eq0, zz_m1lt, zz_m1ge, zz_m1eq, bI_eq0, decide_eq_false_iff_not, decide_eq_true_eq, Decidable.not_not, not_true_eq_false, not_false_eq_true, Nat.not_lt, Nat.not_le, Bool.not_eq_false, Bool.not_eq_true] at c_19
            refine V.iconst (v := (nI 0)) dR_path_24 (by decide) ?_
            refine V.istore dR_path_25 (by decide) ?_
            exact loop1 m 0 (by omega) (fun j hj => by omega)
          · try simp (disch := omega) only [nI_ltI, nI_leI, nI_eq, zz_lt0, zz_ge0, zz_gt0, zz_le0, zz_eq0, zz_m1lt, zz_m1ge, zz_m1eq, bI_eq0, decide_eq_false_iff_not, decide_eq_true_eq, Decidable.not_not, not_true_eq_false, not_false_eq_true, Nat.not_lt, Nat.not_le, Bool.not_eq_false, Bool.not_eq_true] at c_19
            all_goals omega
end
section
def fu (f : Nat → Nat) (e v : Nat) : Nat → Nat := fun x => if x = e then v else f x
def fn (f : Nat → Nat → Nat) (e : Nat) (g : Nat → Nat) : Nat → Nat → Nat := fun x => if x = e then g else f x
theorem fu_s {f : Nat → Nat} {e v : Nat} : fu f e v e = v := by simp [fu]
theorem fu_n {f : Nat → Nat} {e v x : Nat} (h : x ≠ e) : fu f e v x = f x := by simp [fu, h]
theorem fn_s {f : Nat → Nat → Nat} {e : Nat} {g : Nat → Nat} : fn f e g e = g := by simp [fn]
theorem fn_n {f : Nat → Nat → Nat} {e x : Nat} {g : Nat → Nat} (h : x ≠ e) : fn f e g x = f x := by simp [fn, h]
section RIP
variable {G : GG} {h : HH} {o : Nat} {T : TT} {p : Nat → Nat} {len hand : Nat} {op : Option Nat} {gone : Bool} {ents : Nat} {bl : List (Nat × Nat)}
theorem RI.hand_ {e : Nat} (hI : RI G h o T p len hand op gone ents bl) (he : e < 300) : RI G (h_put h o 8 (.int (nI e))) o T p len e op gone ents bl := by
  obtain ⟨hS, hP, hT, hH, hO, hg, hE, hB, hop⟩ := hI
  exact ⟨hS.put (by omega), hP.put (by omega), hT.put (by omega), ⟨hp_eq, he⟩, (hp_j (by omega)).trans hO, (hp_j (by omega)).trans hg, (hp_j (by omega)).trans hE, hB.put (by omega), hop⟩
theorem RI.op_ {r : Option Nat} {v : Int32} (hI : RI G h o T p len hand op gone ents bl) (hv : oI r = v) (hr : ∀ e, r = some e → e < 300) : RI G (h_put h o 9 (.int v)) o T p len hand r gone ents bl := by
  obtain ⟨hS, hP, hT, hH, hO, hg, hE, hB, hop⟩ := hI
  exact ⟨hS.put (by omega), hP.put (by omega), hT.put (by omega), ⟨(hp_j (by omega)).trans hH.1, hH.2⟩, by rw [hv]; exact hp_eq, (hp_j (by omega)).trans hg, (hp_j (by omega)).trans hE, hB.put (by omega), hr⟩
theorem RI.gone_ {g2 : Bool} {v : Int32} (hI : RI G h o T p len hand op gone ents bl) (hv : bI g2 = v) : RI G (h_put h o 10 (.int v)) o T p len hand op g2 ents bl := by
  obtain ⟨hS, hP, hT, hH, hO, hg, hE, hB, hop⟩ := hI
  exact ⟨hS.put (by omega), hP.put (by omega), hT.put (by omega), ⟨(hp_j (by omega)).trans hH.1, hH.2⟩, (hp_j (by omega)).trans hO, by rw [hv]; exact hp_eq, (hp_j (by omega)).trans hE, hB.put (by omega), hop⟩
theorem RI.ents_ {n : Nat} (hI : RI G h o T p len hand op gone ents bl) : RI G (h_put h o 7 (.int (nI n))) o T p len hand op gone n bl := by
  obtain ⟨hS, hP, hT, hH, hO, hg, hE, hB, hop⟩ := hI
  exact ⟨hS.put (by omega), hP.put (by omega), hT.put (by omega), ⟨(hp_j (by omega)).trans hH.1, hH.2⟩, (hp_j (by omega)).trans hO, (hp_j (by omega)).trans hg, hp_eq, hB.put (by omega), hop⟩
theorem RT.kind {e w : Nat} (hT : RT h o T) (hw : w ≤ 2) : RT (h_put h (o + 2) e (.int (nI w))) o (fu T.1 e w, T.2) := by
  obtain ⟨hkd, hkd2, hin, hin2, hns, hns2, hnm, hnm2⟩ := hT
  refine ⟨fun x hx => ?_, fun x hx => ?_, fun x hx => (hp_a (by omega)).trans (hin x hx), hin2, fun x hx => (hp_a (by omega)).trans (hns x hx), hns2, fun x k hx hk => (hp_a (by omega)).trans (hnm x k hx hk), hnm2⟩
  · by_cases q : x = e
    · subst q; show _ = Value.int (nI (fu T.1 x w x)); rw [fu_s]; exact hp_eq
    · show _ = Value.int (nI (fu T.1 e w x)); rw [fu_n q, hp_j q]; exact hkd x hx
  · show fu T.1 e w x ≤ 2
    by_cases q : x = e
    · subst q; rw [fu_s]; exact hw
    · rw [fu_n q]; exact hkd2 x hx
theorem RT.par {e d : Nat} (hT : RT h o T) (hd : d < 300) : RT (h_put h (o + 3) e (.int (nI d))) o (T.1, fu T.2.1 e d, T.2.2) := by
  obtain ⟨hkd, hkd2, hin, hin2, hns, hns2, hnm, hnm2⟩ := hT
  refine ⟨fun x hx => (hp_a (by omega)).trans (hkd x hx), hkd2, fun x hx => ?_, fun x hx => ?_, fun x hx => (hp_a (by omega)).trans (hns x hx), hns2, fun x k hx hk => (hp_a (by omega)).trans (hnm x k hx hk), hnm2⟩
  · by_cases q : x = e
    · subst q; show _ = Value.int (nI (fu T.2.1 x d x)); rw [fu_s]; exact hp_eq
    · show _ = Value.int (nI (fu T.2.1 e d x)); rw [fu_n q, hp_j q]; exact hin x hx
  · show fu T.2.1 e d x < 300
    by_cases q : x = e
    · subst q; rw [fu_s]; exact hd
    · rw [fu_n q]; exact hin2 x hx
theorem RI.kind {e w : Nat} (hI : RI G h o T p len hand op gone ents bl) (hw : w ≤ 2) : RI G (h_put h (o + 2) e (.int (nI w))) o (fu T.1 e w, T.2) p len hand op gone ents bl := by
  obtain ⟨hS, hP, hT, hH, hO, hg, hE, hB, hop⟩ := hI
  exact ⟨hS.put (by omega), hP.put (by omega), hT.kind hw, ⟨(hp_a (by omega)).trans hH.1, hH.2⟩, (hp_a (by omega)).trans hO, (hp_a (by omega)).trans hg, (hp_a (by omega)).trans hE, hB.put (by omega), hop⟩
theorem RI.par {e d : Nat} (hI : RI G h o T p len hand op gone ents bl) (hd : d < 300) : RI G (h_put h (o + 3) e (.int (nI d))) o (T.1, fu T.2.1 e d, T.2.2) p len hand op gone ents bl := by
  obtain ⟨hS, hP, hT, hH, hO, hg, hE, hB, hop⟩ := hI
  exact ⟨hS.put (by omega), hP.put (by omega), hT.par hd, ⟨(hp_a (by omega)).trans hH.1, hH.2⟩, (hp_a (by omega)).trans hO, (hp_a (by omega)).trans hg, (hp_a (by omega)).trans hE, hB.put (by omega), hop⟩
theorem fb_none {e : Nat} (h : ∀ q ∈ bl, q.2 ≠ e) : s_fb bl e = [] := by
  unfold s_fb
  rw [List.filter_eq_nil_iff.mpr (fun q hq => by simpa using h q hq)]
  rfl
theorem RI.size0 {e : Nat} (hI : RI G h o T p len hand op gone ents bl) (he : s_fb bl e = []) : RI G (h_put h (o + 4) e (.int (nI 0))) o T p len hand op gone ents bl := by
  obtain ⟨hS, hP, hT, hH, hO, hg, hE, hB, hop⟩ := hI
  obtain ⟨h1, h2, h3, h4, h5, h6⟩ := hB
  refine ⟨hS.put (by omega), hP.put (by omega), hT.put (by omega), ⟨(hp_a (by omega)).trans hH.1, hH.2⟩, (hp_a (by omega)).trans hO, (hp_a (by omega)).trans hg, (hp_a (by omega)).trans hE, ⟨(hp_a (by omega)).trans h1, fun k hk => (hp_a (by omega)).trans (h2 k hk), fun k hk => (hp_a (by omega)).trans (h3 k hk), h4, h5, fun x hx => ?_⟩, hop⟩
  by_cases q : x = e
  · subst q; rw [he]; exact hp_eq
  · rw [hp_j q]; exact h6 x hx
end RIP
/-- what a path leads to, by its kind -/
def s_found (T : TT) (r : Option Nat) : Nat := match r with
  | none => 0
  | some e => T.1 e
set_option maxHeartbeats 4000000 in
set_option maxRecDepth 100000 in
/-- PathTreeModel.find -/
theorem kR_find {G : GG} {h : HH} {o : Nat} {T : TT} {p : Nat → Nat} {len hand : Nat} {op : Option Nat} {gone : Bool} {ents : Nat} {bl : List (Nat × Nat)} {Q : Option Value → HH → Prop} (hI : RI G h o T p len hand op gone ents bl) (hQ : ∀ h', RI G h' o T p 0 hand op gone ents bl → FrO o h h' → Q (some (.int (nI (s_found T (s_lead T p hand len))))) h') : V G mR_find 0 (lv_args 0 [.ref o]) [] h 0 0 Q := by
  obtain ⟨hS, hP, hT, hH, hO, hg, hE, hB, hop⟩ := id hI
  obtain ⟨hz, hk0, hk1, hk2, hk3, hk4, hk5, hk6, hk7, hk8, hf0, hf2, hf3, hf4, hf5, hf6, hf12, hf13⟩ := id hS
  obtain ⟨hln, hpp, hl2, hp⟩ := id hP
  obtain ⟨hkd, hkd2, hin, hin2, hns, hns2, hnm, hnm2⟩ := id hT
  obtain ⟨hhand, hhl⟩ := id hH
  cases hr : s_lead T p hand len with
  | none =>
    first | refine V.aload_n dR_find_0 rfl ?_ | refine V.aload_nN dR_find_0 rfl ?_
    first | refine V.aload_n dR_find_1 rfl ?_ | refine V.aload_nN dR_find_1 rfl ?_
    refine V.getk dR_find_2 (by omega) (by assumption) f_R_44_4 (by assumption) ?_
    refine V.callVk (kd := 4) 0 _ 0 _ [_] dR_find_5 okR_lead n_R_65 (by omega) (by assumption) rfl imR_lead seR_lead_R (by decide) (by decide) rfl rfl (Nat.le_of_ble_eq_true rfl) (Nat.le_of_ble_eq_true rfl) (Nat.le_of_eq (Nat.zero_add _)) (Nat.le_of_eq (Nat.zero_add _)) (kR_lead hS hP hT hH (by omega) ?_)
    rw [hr]
    show V G mR_find 8 _ [.int (-1)] h 0 0 Q
    refine V.istore_n dR_find_8 (by decide) ?_
    first | refine V.aload_n dR_find_9 rfl ?_ | refine V.aload_nN dR_find_9 rfl ?_
    refine V.iconst (v := (nI 0)) dR_find_10 (by decide) ?_
    refine V.putk dR_find_11 (by omega) (by assumption) p_R_44_4 rfl rfl ?_
    intro h2 e2
    have hI2 : RI G h2 o T p 0 hand op gone ents bl := by (rw [e2]; exact hI.len)
    have hF2 : FrO o h h2 := by (rw [e2]; exact FrO.rf.put (by omega))
    obtain ⟨hSa, hPa, hTa, hHa, hOa, hga, hEa, hBa, hopa⟩ := id hI2
    obtain ⟨hza, hk0a, hk1a, hk2a, hk3a, hk4a, hk5a, hk6a, hk7a, hk8a, hf0a, hf2a, hf3a, hf4a, hf5a, hf6a, hf12a, hf13a⟩ := id hSa
    obtain ⟨hlna, hppa, hl2a, hpa⟩ := id hPa
    obtain ⟨hkda, hkd2a, hina, hin2a, hnsa, hns2a, hnma, hnm2a⟩ := id hTa
    obtain ⟨hhanda, hhla⟩ := id hHa
    refine V.iload_n dR_find_14 rfl ?_
    refine V.if_ge (tgt := 22) dR_find_15 (by decide) (fun c_15 => ?_) (fun c_15 => ?_)
    · try simp only [zz_m1lt, zz_m1ge, not_true_eq_false, not_false_eq_true] at c_15
      all_goals omega
    · try simp only [zz_m1lt, zz_m1ge, not_true_eq_false, not_false_eq_true] at c_15
      refine V.iconst (v := (nI 0)) dR_find_18 (by decide) ?_
      refine V.goto (tgt := 28) dR_find_19 (by decide) ?_
      refine V.ireturn dR_find_28 rfl rfl ?_
      have q := hQ h2 hI2 hF2; rw [hr] at q; exact q
  | some e =>
    have he := s_lead_lt hin2 hhl hr
    have hke := hkd2 e he
    first | refine V.aload_n dR_find_0 rfl ?_ | refine V.aload_nN dR_find_0 rfl ?_
    first | refine V.aload_n dR_find_1 rfl ?_ | refine V.aload_nN dR_find_1 rfl ?_
    refine V.getk dR_find_2 (by omega) (by assumption) f_R_44_4 (by assumption) ?_
    refine V.callVk (kd := 4) 0 _ 0 _ [_] dR_find_5 okR_lead n_R_65 (by omega) (by assumption) rfl imR_lead seR_lead_R (by decide) (by decide) rfl rfl (Nat.le_of_ble_eq_true rfl) (Nat.le_of_ble_eq_true rfl) (Nat.le_of_eq (Nat.zero_add _)) (Nat.le_of_eq (Nat.zero_add _)) (kR_lead hS hP hT hH (by omega) ?_)
    rw [hr]
    show V G mR_find 8 _ [.int (nI e)] h 0 0 Q
    refine V.istore_n dR_find_8 (by decide) ?_
    first | refine V.aload_n dR_find_9 rfl ?_ | refine V.aload_nN dR_find_9 rfl ?_
    refine V.iconst (v := (nI 0)) dR_find_10 (by decide) ?_
    refine V.putk dR_find_11 (by omega) (by assumption) p_R_44_4 rfl rfl ?_
    intro h2 e2
    have hI2 : RI G h2 o T p 0 hand op gone ents bl := by (rw [e2]; exact hI.len)
    have hF2 : FrO o h h2 := by (rw [e2]; exact FrO.rf.put (by omega))
    obtain ⟨hSa, hPa, hTa, hHa, hOa, hga, hEa, hBa, hopa⟩ := id hI2
    obtain ⟨hza, hk0a, hk1a, hk2a, hk3a, hk4a, hk5a, hk6a, hk7a, hk8a, hf0a, hf2a, hf3a, hf4a, hf5a, hf6a, hf12a, hf13a⟩ := id hSa
    obtain ⟨hlna, hppa, hl2a, hpa⟩ := id hPa
    obtain ⟨hkda, hkd2a, hina, hin2a, hnsa, hns2a, hnma, hnm2a⟩ := id hTa
    obtain ⟨hhanda, hhla⟩ := id hHa
    refine V.iload_n dR_find_14 rfl ?_
    refine V.if_ge (tgt := 22) dR_find_15 (by decide) (fun c_15 => ?_) (fun c_15 => ?_)
    · try simp (disch := omega) only [nI_ltI, nI_leI, nI_eq, zz_lt0, zz_ge0, zz_gt0, zz_le0, zz_eq0, zz_m1lt, zz_m1ge, zz_m1eq, bI_eq0, decide_eq_false_iff_not, decide_eq_true_eq, Decidable.not_not, not_true_eq_false, not_false_eq_true, Nat.not_lt, Nat.not_le, Bool.not_eq_false, Bool.not_eq_true] at c_15
      first | refine V.aload_n dR_find_22 rfl ?_ | refine V.aload_nN dR_find_22 rfl ?_
      refine V.getk dR_find_23 (by omega) (by assumption) f_R_13_4 (by assumption) ?_
      refine V.iload_n dR_find_26 rfl ?_
      refine V.ialoadN dR_find_27 (by omega) (by assumption) (by omega) (hkda e he) ?_
      refine V.ireturn dR_find_28 rfl rfl ?_
      have q := hQ h2 hI2 hF2; rw [hr] at q; exact q
    · try simp (disch := omega) only [nI_ltI, nI_leI, nI_eq, zz_lt0, zz_ge0, zz_gt0, zz_le0, zz_eq0, zz_m1lt, zz_m1ge, zz_m1eq, bI_eq0, decide_eq_false_iff_not, decide_eq_true_eq, Decidable.not_not, not_true_eq_false, not_false_eq_true, Nat.not_lt, Nat.not_le, Bool.not_eq_false, Bool.not_eq_true] at c_15
      all_goals omega

set_option maxHeartbeats 4000000 in
set_option maxRecDepth 100000 in
/-- PathTreeModel.go -/
theorem kR_go {G : GG} {h : HH} {o : Nat} {T : TT} {p : Nat → Nat} {len hand : Nat} {op : Option Nat} {gone : Bool} {ents : Nat} {bl : List (Nat × Nat)} {Q : Option Value → HH → Prop} (hI : RI G h o T p len hand op gone ents bl) (h0 : s_dir T (s_lead T p hand len) = none → ∀ h', RI G h' o T p 0 hand op gone ents bl → FrO o h h' → Q (some (.int (nI 0))) h') (h1 : ∀ e, s_dir T (s_lead T p hand len) = some e → ∀ h', RI G h' o T p 0 e op gone ents bl → FrO o h h' → Q (some (.int (nI 1))) h') : V G mR_go 0 (lv_args 0 [.ref o]) [] h 0 0 Q := by
  obtain ⟨hS, hP, hT, hH, hO, hg, hE, hB, hop⟩ := id hI
  obtain ⟨hz, hk0, hk1, hk2, hk3, hk4, hk5, hk6, hk7, hk8, hf0, hf2, hf3, hf4, hf5, hf6, hf12, hf13⟩ := id hS
  obtain ⟨hln, hpp, hl2, hp⟩ := id hP
  obtain ⟨hkd, hkd2, hin, hin2, hns, hns2, hnm, hnm2⟩ := id hT
  obtain ⟨hhand, hhl⟩ := id hH
  cases hr : s_lead T p hand len with
  | none =>
    first | refine V.aload_n dR_go_0 rfl ?_ | refine V.aload_nN dR_go_0 rfl ?_
    first | refine V.aload_n dR_go_1 rfl ?_ | refine V.aload_nN dR_go_1 rfl ?_
    refine V.getk dR_go_2 (by omega) (by assumption) f_R_44_4 (by assumption) ?_
    refine V.callVk (kd := 4) 0 _ 0 _ [_] dR_go_5 okR_lead n_R_65 (by omega) (by assumption) rfl imR_lead seR_lead_R (by decide) (by decide) rfl rfl (Nat.le_of_ble_eq_true rfl) (Nat.le_of_ble_eq_true rfl) (Nat.le_of_eq (Nat.zero_add _)) (Nat.le_of_eq (Nat.zero_add _)) (kR_lead hS hP hT hH (by omega) ?_)
    rw [hr]
    show V G mR_go 8 _ [.int (-1)] h 0 0 Q
    refine V.istore_n dR_go_8 (by decide) ?_
    first | refine V.aload_n dR_go_9 rfl ?_ | refine V.aload_nN dR_go_9 rfl ?_
    refine V.iconst (v := (nI 0)) dR_go_10 (by decide) ?_
    refine V.putk dR_go_11 (by omega) (by assumption) p_R_44_4 rfl rfl ?_
    intro h2 e2
    have hI2 : RI G h2 o T p 0 hand op gone ents bl := by (rw [e2]; exact hI.len)
    have hF2 : FrO o h h2 := by (rw [e2]; exact FrO.rf.put (by omega))
    obtain ⟨hSa, hPa, hTa, hHa, hOa, hga, hEa, hBa, hopa⟩ := id hI2
    obtain ⟨hza, hk0a, hk1a, hk2a, hk3a, hk4a, hk5a, hk6a, hk7a, hk8a, hf0a, hf2a, hf3a, hf4a, hf5a, hf6a, hf12a, hf13a⟩ := id hSa
    obtain ⟨hlna, hppa, hl2a, hpa⟩ := id hPa
    obtain ⟨hkda, hkd2a, hina, hin2a, hnsa, hns2a, hnma, hnm2a⟩ := id hTa
    obtain ⟨hhanda, hhla⟩ := id hHa
    refine V.iload_n dR_go_14 rfl ?_
    refine V.if_lt (tgt := 28) dR_go_15 (by decide) (fun c_15 => ?_) (fun c_15 => ?_)
    · try simp only [zz_m1lt, zz_m1ge, not_true_eq_false, not_false_eq_true] at c_15
      refine V.iconst (v := (nI 0)) dR_go_28 (by decide) ?_
      refine V.ireturn dR_go_29 rfl rfl ?_
      exact h0 (by rw [hr]; rfl) h2 hI2 hF2
    · try simp only [zz_m1lt, zz_m1ge, not_true_eq_false, not_false_eq_true] at c_15
      all_goals omega
  | some e =>
    have he := s_lead_lt hin2 hhl hr
    have hke := hkd2 e he
    first | refine V.aload_n dR_go_0 rfl ?_ | refine V.aload_nN dR_go_0 rfl ?_
    first | refine V.aload_n dR_go_1 rfl ?_ | refine V.aload_nN dR_go_1 rfl ?_
    refine V.getk dR_go_2 (by omega) (by assumption) f_R_44_4 (by assumption) ?_
    refine V.callVk (kd := 4) 0 _ 0 _ [_] dR_go_5 okR_lead n_R_65 (by omega) (by assumption) rfl imR_lead seR_lead_R (by decide) (by decide) rfl rfl (Nat.le_of_ble_eq_true rfl) (Nat.le_of_ble_eq_true rfl) (Nat.le_of_eq (Nat.zero_add _)) (Nat.le_of_eq (Nat.zero_add _)) (kR_lead hS hP hT hH (by omega) ?_)
    rw [hr]
    show V G mR_go 8 _ [.int (nI e)] h 0 0 Q
    refine V.istore_n dR_go_8 (by decide) ?_
    first | refine V.aload_n dR_go_9 rfl ?_ | refine V.aload_nN dR_go_9 rfl ?_
    refine V.iconst (v := (nI 0)) dR_go_10 (by decide) ?_
    refine V.putk dR_go_11 (by omega) (by assumption) p_R_44_4 rfl rfl ?_
    intro h2 e2
    have hI2 : RI G h2 o T p 0 hand op gone ents bl := by (rw [e2]; exact hI.len)
    have hF2 : FrO o h h2 := by (rw [e2]; exact FrO.rf.put (by omega))
    obtain ⟨hSa, hPa, hTa, hHa, hOa, hga, hEa, hBa, hopa⟩ := id hI2
    obtain ⟨hza, hk0a, hk1a, hk2a, hk3a, hk4a, hk5a, hk6a, hk7a, hk8a, hf0a, hf2a, hf3a, hf4a, hf5a, hf6a, hf12a, hf13a⟩ := id hSa
    obtain ⟨hlna, hppa, hl2a, hpa⟩ := id hPa
    obtain ⟨hkda, hkd2a, hina, hin2a, hnsa, hns2a, hnma, hnm2a⟩ := id hTa
    obtain ⟨hhanda, hhla⟩ := id hHa
    refine V.iload_n dR_go_14 rfl ?_
    refine V.if_lt (tgt := 28) dR_go_15 (by decide) (fun c_15 => ?_) (fun c_15 => ?_)
    · try simp (disch := omega) only [nI_ltI, nI_leI, nI_eq, zz_lt0, zz_ge0, zz_gt0, zz_le0, zz_eq0, zz_m1lt, zz_m1ge, zz_m1eq, bI_eq0, decide_eq_false_iff_not, decide_eq_true_eq, Decidable.not_not, not_true_eq_false, not_false_eq_true, Nat.not_lt, Nat.not_le, Bool.not_eq_false, Bool.not_eq_true] at c_15
      all_goals omega
    · try simp (disch := omega) only [nI_ltI, nI_leI, nI_eq, zz_lt0, zz_ge0, zz_gt0, zz_le0, zz_eq0, zz_m1lt, zz_m1ge, zz_m1eq, bI_eq0, decide_eq_false_iff_not, decide_eq_true_eq, Decidable.not_not, not_true_eq_false, not_false_eq_true, Nat.not_lt, Nat.not_le, Bool.not_eq_false, Bool.not_eq_true] at c_15
      first | refine V.aload_n dR_go_18 rfl ?_ | refine V.aload_nN dR_go_18 rfl ?_
      refine V.getk dR_go_19 (by omega) (by assumption) f_R_13_4 (by assumption) ?_
      refine V.iload_n dR_go_22 rfl ?_
      refine V.ialoadN dR_go_23 (by omega) (by assumption) (by omega) (hkda e he) ?_
      refine V.iconst (v := (nI 2)) dR_go_24 (by decide) ?_
      refine V.icmp_eq (tgt := 30) dR_go_25 (by decide) (fun c_25 => ?_) (fun c_25 => ?_)
      · try simp (disch := omega) only [nI_ltI, nI_leI, nI_eq, zz_lt0, zz_ge0, zz_gt0, zz_le0, zz_eq0, zz_m1lt, zz_m1ge, zz_m1eq, bI_eq0, decide_eq_false_iff_not, decide_eq_true_eq, Decidable.not_not, not_true_eq_false, not_false_eq_true, Nat.not_lt, Nat.not_le, Bool.not_eq_false, Bool.not_eq_true] at c_25
        first | refine V.aload_n dR_go_30 rfl ?_ | refine V.aload_nN dR_go_30 rfl ?_
        refine V.iload_n dR_go_31 rfl ?_
        refine V.putk dR_go_32 (by omega) (by assumption) p_R_55_4 rfl rfl ?_
        intro h3 e3
        refine V.iconst (v := (nI 1)) dR_go_35 (by decide) ?_
        refine V.ireturn dR_go_36 rfl rfl ?_
        exact h1 e (by rw [hr]; simp only [s_dir]; rw [if_pos (by omega)]) h3 (by (rw [e3]; exact hI2.hand_ he)) (by (rw [e3]; exact hF2.put (by omega)))
      · try simp (disch := omega) only [nI_ltI, nI_leI, nI_eq, zz_lt0, zz_ge0, zz_gt0, zz_le0, zz_eq0, zz_m1lt, zz_m1ge, zz_m1eq, bI_eq0, decide_eq_false_iff_not, decide_eq_true_eq, Decidable.not_not, not_true_eq_false, not_false_eq_true, Nat.not_lt, Nat.not_le, Bool.not_eq_false, Bool.not_eq_true] at c_25
        refine V.iconst (v := (nI 0)) dR_go_28 (by decide) ?_
        refine V.ireturn dR_go_29 rfl rfl ?_
        exact h0 (by rw [hr]; simp only [s_dir]; rw [if_neg (by omega)]) h2 hI2 hF2

set_option maxHeartbeats 4000000 in
set_option maxRecDepth 100000 in
/-- PathTreeModel.name -/
theorem kR_name {G : GG} {h : HH} {o : Nat} {Q : Option Value → HH → Prop} {T : TT} {hand : Nat} {k j : Int32} (hS : RS G h o) (hT : RT h o T) (hH : h.2.1 o 8 = .int (nI hand) ∧ hand < 300) (hQ : Q (some (.int (s_name T hand k j))) h) : V G mR_name 0 (lv_args 0 [.ref o, .int k, .int j]) [] h 0 0 Q := by
  obtain ⟨hz, hk0, hk1, hk2, hk3, hk4, hk5, hk6, hk7, hk8, hf0, hf2, hf3, hf4, hf5, hf6, hf12, hf13⟩ := id hS
  obtain ⟨hkd, hkd2, hin, hin2, hns, hns2, hnm, hnm2⟩ := id hT
  have hhand : h.2.1 o 8 = .int (nI hand) := hH.1
  have hhl : hand < 300 := hH.2
  cases hr : s_nth T hand k with
  | none =>
    have e1 : s_name T hand k j = -1 := by (unfold s_name; rw [hr])
    rw [e1] at hQ
    first | refine V.aload_n dR_name_0 rfl ?_ | refine V.aload_nN dR_name_0 rfl ?_
    refine V.iload_n dR_name_1 rfl ?_
    refine V.callVk (kd := 4) 0 _ 0 _ [_] dR_name_2 okR_inOrder n_R_108 (by omega) (by assumption) rfl imR_inOrder seR_inOrder_R (by decide) (by decide) rfl rfl (Nat.le_of_ble_eq_true rfl) (Nat.le_of_ble_eq_true rfl) (Nat.le_of_eq (Nat.zero_add _)) (Nat.le_of_eq (Nat.zero_add _)) (kR_inOrder hS hT hH ?_)
    rw [hr]
    show V G mR_name 5 _ [.int (-1)] h 0 0 Q
    refine V.istore_n dR_name_5 (by decide) ?_
    refine V.iload_n dR_name_6 rfl ?_
    refine V.if_lt (tgt := 24) dR_name_7 (by decide) (fun c_7 => ?_) (fun c_7 => ?_)
    · try simp only [zz_m1lt, zz_m1ge, not_true_eq_false, not_false_eq_true] at c_7
      refine V.iconst (v := (-1)) dR_name_24 (by decide) ?_
      refine V.goto (tgt := 39) dR_name_25 (by decide) ?_
      refine V.ireturn dR_name_39 rfl rfl ?_
      exact hQ
    · try simp only [zz_m1lt, zz_m1ge, not_true_eq_false, not_false_eq_true] at c_7
      all_goals omega
  | some e =>
    have he := (s_nth_some hr).1
    have hn2 := hns2 e he
    rcases pk_ix j (n := T.2.2.1 e) (by omega) with hj | hj | ⟨x, hx, rfl⟩
    · have e1 : s_name T hand k j = -1 := by (unfold s_name; rw [hr]; dsimp only; rw [if_neg (fun z => z (Or.inl hj))])
      rw [e1] at hQ
      first | refine V.aload_n dR_name_0 rfl ?_ | refine V.aload_nN dR_name_0 rfl ?_
      refine V.iload_n dR_name_1 rfl ?_
      refine V.callVk (kd := 4) 0 _ 0 _ [_] dR_name_2 okR_inOrder n_R_108 (by omega) (by assumption) rfl imR_inOrder seR_inOrder_R (by decide) (by decide) rfl rfl (Nat.le_of_ble_eq_true rfl) (Nat.le_of_ble_eq_true rfl) (Nat.le_of_eq (Nat.zero_add _)) (Nat.le_of_eq (Nat.zero_add _)) (kR_inOrder hS hT hH ?_)
      rw [hr]
      show V G mR_name 5 _ [.int (nI e)] h 0 0 Q
      refine V.istore_n dR_name_5 (by decide) ?_
      refine V.iload_n dR_name_6 rfl ?_
      refine V.if_lt (tgt := 24) dR_name_7 (by decide) (fun c_7 => ?_) (fun c_7 => ?_)
      · try simp (disch := omega) only [nI_ltI, nI_leI, nI_eq, zz_lt0, zz_ge0, zz_gt0, zz_le0, zz_eq0, zz_m1lt, zz_m1ge, zz_m1eq, bI_eq0, decide_eq_false_iff_not, decide_eq_true_eq, Decidable.not_not, not_true_eq_false, not_false_eq_true, Nat.not_lt, Nat.not_le, Bool.not_eq_false, Bool.not_eq_true] at c_7
        all_goals omega
      · try simp (disch := omega) only [nI_ltI, nI_leI, nI_eq, zz_lt0, zz_ge0, zz_gt0, zz_le0, zz_eq0, zz_m1lt, zz_m1ge, zz_m1eq, bI_eq0, decide_eq_false_iff_not, decide_eq_true_eq, Decidable.not_not, not_true_eq_false, not_false_eq_true, Nat.not_lt, Nat.not_le, Bool.not_eq_false, Bool.not_eq_true] at c_7
        refine V.iload_n dR_name_10 rfl ?_
        refine V.if_lt (tgt := 24) dR_name_11 (by decide) (fun c_11 => ?_) (fun c_11 => ?_)
        · skip
          refine V.iconst (v := (-1)) dR_name_24 (by decide) ?_
          refine V.goto (tgt := 39) dR_name_25 (by decide) ?_
          refine V.ireturn dR_name_39 rfl rfl ?_
          exact hQ
        · skip
          exact absurd hj c_11
    · have e1 : s_name T hand k j = -1 := by
        unfold s_name
        rw [hr]
        dsimp only
        rw [if_neg (fun z => ?_)]
        have z2 := (vp_in_iff (n := T.2.2.1 e)).mp z
        rw [Int32.le_iff_toInt_le, nI_toInt (by omega)] at hj
        omega
      rw [e1] at hQ
      first | refine V.aload_n dR_name_0 rfl ?_ | refine V.aload_nN dR_name_0 rfl ?_
      refine V.iload_n dR_name_1 rfl ?_
      refine V.callVk (kd := 4) 0 _ 0 _ [_] dR_name_2 okR_inOrder n_R_108 (by omega) (by assumption) rfl imR_inOrder seR_inOrder_R (by decide) (by decide) rfl rfl (Nat.le_of_ble_eq_true rfl) (Nat.le_of_ble_eq_true rfl) (Nat.le_of_eq (Nat.zero_add _)) (Nat.le_of_eq (Nat.zero_add _)) (kR_inOrder hS hT hH ?_)
      rw [hr]
      show V G mR_name 5 _ [.int (nI e)] h 0 0 Q
      refine V.istore_n dR_name_5 (by decide) ?_
      refine V.iload_n dR_name_6 rfl ?_
      refine V.if_lt (tgt := 24) dR_name_7 (by decide) (fun c_7 => ?_) (fun c_7 => ?_)
      · try simp (disch := omega) only [nI_ltI, nI_leI, nI_eq, zz_lt0, zz_ge0, zz_gt0, zz_le0, zz_eq0, zz_m1lt, zz_m1ge, zz_m1eq, bI_eq0, decide_eq_false_iff_not, decide_eq_true_eq, Decidable.not_not, not_true_eq_false, not_false_eq_true, Nat.not_lt, Nat.not_le, Bool.not_eq_false, Bool.not_eq_true] at c_7
        all_goals omega
      · try simp (disch := omega) only [nI_ltI, nI_leI, nI_eq, zz_lt0, zz_ge0, zz_gt0, zz_le0, zz_eq0, zz_m1lt, zz_m1ge, zz_m1eq, bI_eq0, decide_eq_false_iff_not, decide_eq_true_eq, Decidable.not_not, not_true_eq_false, not_false_eq_true, Nat.not_lt, Nat.not_le, Bool.not_eq_false, Bool.not_eq_true] at c_7
        refine V.iload_n dR_name_10 rfl ?_
        refine V.if_lt (tgt := 24) dR_name_11 (by decide) (fun c_11 => ?_) (fun c_11 => ?_)
        · skip
          refine V.iconst (v := (-1)) dR_name_24 (by decide) ?_
          refine V.goto (tgt := 39) dR_name_25 (by decide) ?_
          refine V.ireturn dR_name_39 rfl rfl ?_
          exact hQ
        · skip
          refine V.iload_n dR_name_14 rfl ?_
          first | refine V.aload_n dR_name_15 rfl ?_ | refine V.aload_nN dR_name_15 rfl ?_
          refine V.getk dR_name_16 (by omega) (by assumption) f_R_22_4 (by assumption) ?_
          refine V.iload_n dR_name_19 rfl ?_
          refine V.ialoadN dR_name_20 (by omega) (by assumption) (by omega) (hns e he) ?_
          refine V.icmp_lt (tgt := 28) dR_name_21 (by decide) (fun c_21 => ?_) (fun c_21 => ?_)
          · skip
            exact absurd hj (Int32.not_le.mpr c_21)
          · skip
            refine V.iconst (v := (-1)) dR_name_24 (by decide) ?_
            refine V.goto (tgt := 39) dR_name_25 (by decide) ?_
            refine V.ireturn dR_name_39 rfl rfl ?_
            exact hQ
    · have e1 : s_name T hand k (nI x) = nI (T.2.2.2 e x) := by
        unfold s_name
        rw [hr]
        dsimp only
        rw [if_pos (show ¬ (nI x < 0 ∨ T.2.2.1 e ≤ (nI x).toNatClampNeg) from vp_in_nI hx (by omega)), nI_clamp (by omega)]
      rw [e1] at hQ
      first | refine V.aload_n dR_name_0 rfl ?_ | refine V.aload_nN dR_name_0 rfl ?_
      refine V.iload_n dR_name_1 rfl ?_
      refine V.callVk (kd := 4) 0 _ 0 _ [_] dR_name_2 okR_inOrder n_R_108 (by omega) (by assumption) rfl imR_inOrder seR_inOrder_R (by decide) (by decide) rfl rfl (Nat.le_of_ble_eq_true rfl) (Nat.le_of_ble_eq_true rfl) (Nat.le_of_eq (Nat.zero_add _)) (Nat.le_of_eq (Nat.zero_add _)) (kR_inOrder hS hT hH ?_)
      rw [hr]
      show V G mR_name 5 _ [.int (nI e)] h 0 0 Q
      refine V.istore_n dR_name_5 (by decide) ?_
      refine V.iload_n dR_name_6 rfl ?_
      refine V.if_lt (tgt := 24) dR_name_7 (by decide) (fun c_7 => ?_) (fun c_7 => ?_)
      · try simp (disch := omega) only [nI_ltI, nI_leI, nI_eq, zz_lt0, zz_ge0, zz_gt0, zz_le0, zz_eq0, zz_m1lt, zz_m1ge, zz_m1eq, bI_eq0, decide_eq_false_iff_not, decide_eq_true_eq, Decidable.not_not, not_true_eq_false, not_false_eq_true, Nat.not_lt, Nat.not_le, Bool.not_eq_false, Bool.not_eq_true] at c_7
        all_goals omega
      · try simp (disch := omega) only [nI_ltI, nI_leI, nI_eq, zz_lt0, zz_ge0, zz_gt0, zz_le0, zz_eq0, zz_m1lt, zz_m1ge, zz_m1eq, bI_eq0, decide_eq_false_iff_not, decide_eq_true_eq, Decidable.not_not, not_true_eq_false, not_false_eq_true, Nat.not_lt, Nat.not_le, Bool.not_eq_false, Bool.not_eq_true] at c_7
        refine V.iload_n dR_name_10 rfl ?_
        refine V.if_lt (tgt := 24) dR_name_11 (by decide) (fun c_11 => ?_) (fun c_11 => ?_)
        · try simp (disch := omega) only [nI_ltI, nI_leI, nI_eq, zz_lt0, zz_ge0, zz_gt0, zz_le0, zz_eq0, zz_m1lt, zz_m1ge, zz_m1eq, bI_eq0, decide_eq_false_iff_not, decide_eq_true_eq, Decidable.not_not, not_true_eq_false, not_false_eq_true, Nat.not_lt, Nat.not_le, Bool.not_eq_false, Bool.not_eq_true] at c_11
          all_goals omega
        · try simp (disch := omega) only [nI_ltI, nI_leI, nI_eq, zz_lt0, zz_ge0, zz_gt0, zz_le0, zz_eq0, zz_m1lt, zz_m1ge, zz_m1eq, bI_eq0, decide_eq_false_iff_not, decide_eq_true_eq, Decidable.not_not, not_true_eq_false, not_false_eq_true, Nat.not_lt, Nat.not_le, Bool.not_eq_false, Bool.not_eq_true] at c_11
          refine V.iload_n dR_name_14 rfl ?_
          first | refine V.aload_n dR_name_15 rfl ?_ | refine V.aload_nN dR_name_15 rfl ?_
          refine V.getk dR_name_16 (by omega) (by assumption) f_R_22_4 (by assumption) ?_
          refine V.iload_n dR_name_19 rfl ?_
          refine V.ialoadN dR_name_20 (by omega) (by assumption) (by omega) (hns e he) ?_
          refine V.icmp_lt (tgt := 28) dR_name_21 (by decide) (fun c_21 => ?_) (fun c_21 => ?_)
          · try simp (disch := omega) only [nI_ltI, nI_leI, nI_eq, zz_lt0, zz_ge0, zz_gt0, zz_le0, zz_eq0, zz_m1lt, zz_m1ge, zz_m1eq, bI_eq0, decide_eq_false_iff_not, decide_eq_true_eq, Decidable.not_not, not_true_eq_false, not_false_eq_true, Nat.not_lt, Nat.not_le, Bool.not_eq_false, Bool.not_eq_true] at c_21
            first | refine V.aload_n dR_name_28 rfl ?_ | refine V.aload_nN dR_name_28 rfl ?_
            refine V.getk dR_name_29 (by omega) (by assumption) f_R_25_4 (by assumption) ?_
            refine V.bipush (v := (nI 60)) dR_name_32 (by decide) ?_
            refine V.iload_n dR_name_34 rfl ?_
            refine V.imulN dR_name_35 ?_
            refine V.iload_n dR_name_36 rfl ?_
            refine V.iaddN dR_name_37 ?_
            refine V.ialoadN dR_name_38 (by omega) (by assumption) (by omega) (hnm e x he hx) ?_
            refine V.ireturn dR_name_39 rfl rfl ?_
            exact hQ
          · try simp (disch := omega) only [nI_ltI, nI_leI, nI_eq, zz_lt0, zz_ge0, zz_gt0, zz_le0, zz_eq0, zz_m1lt, zz_m1ge, zz_m1eq, bI_eq0, decide_eq_false_iff_not, decide_eq_true_eq, Decidable.not_not, not_true_eq_false, not_false_eq_true, Nat.not_lt, Nat.not_le, Bool.not_eq_false, Bool.not_eq_true] at c_21
            all_goals omega
end
section
/-- the log without a file's bytes -/
def s_but (bl : List (Nat × Nat)) (e : Nat) : List (Nat × Nat) := bl.filter (fun q => !(q.2 == e))
theorem but_step {bl : List (Nat × Nat)} {e k : Nat} (hk : k < bl.length) : s_but (bl.take (k + 1)) e = s_but (bl.take k) e ++ (if (bl.getD k (0, 0)).2 = e then [] else [bl.getD k (0, 0)]) := by
  unfold s_but
  rw [List.take_succ_eq_append_getElem hk, List.filter_append, List.getD_eq_getElem?_getD, List.getElem?_eq_getElem hk]
  congr 1
  show _ = if (bl[k]).2 = e then [] else [bl[k]]
  by_cases q : (bl[k]).2 = e
  · simp [q]
  · simp [q]
theorem but_le (bl : List (Nat × Nat)) (e k : Nat) : (s_but (bl.take k) e).length ≤ k := by
  unfold s_but
  have h1 := List.length_filter_le (fun q : Nat × Nat => !(q.2 == e)) (bl.take k)
  have h2 : (bl.take k).length ≤ k := by simp; omega
  omega
theorem but_len (bl : List (Nat × Nat)) (e : Nat) : (s_but bl e).length ≤ bl.length := List.length_filter_le _ _
theorem but_mem {bl : List (Nat × Nat)} {e : Nat} {q : Nat × Nat} (h : q ∈ s_but bl e) : q ∈ bl ∧ q.2 ≠ e := by
  unfold s_but at h
  rw [List.mem_filter] at h
  exact ⟨h.1, by simpa using h.2⟩
theorem fb_but_s (bl : List (Nat × Nat)) (e : Nat) : s_fb (s_but bl e) e = [] := fb_none (fun q hq => (but_mem hq).2)
theorem fb_but_n {bl : List (Nat × Nat)} {e x : Nat} (h : x ≠ e) : s_fb (s_but bl e) x = s_fb bl x := by
  unfold s_fb s_but
  rw [List.filter_filter]
  congr 1
  apply List.filter_congr
  intro q _
  by_cases z : q.2 = x
  · have : q.2 ≠ e := by omega
    simp [z, h]
  · simp [z]
theorem sh_nar : ∀ w, w < 300 → narrow .short (.int (nI w)) = .int (nI w) := by decide +kernel
theorem getD_app_l {l : List (Nat × Nat)} {q d : Nat × Nat} {j : Nat} (h : j < l.length) : (l ++ [q]).getD j d = l.getD j d := by
  rw [List.getD_eq_getElem?_getD, List.getD_eq_getElem?_getD, List.getElem?_append_left h]
theorem getD_app_r {l : List (Nat × Nat)} {q d : Nat × Nat} : (l ++ [q]).getD l.length d = q := by
  rw [List.getD_eq_getElem?_getD, List.getElem?_append_right (Nat.le_refl _), Nat.sub_self]
  rfl
/-- what a byte's cell holds -/
def v_b (q : Nat × Nat) : Value := .int ((nI q.1).toInt8.toInt32)
/-- where the loss of a file's bytes stands -/
def LJ (G : GG) (h hq : HH) (o : Nat) (bl : List (Nat × Nat)) (e k : Nat) : Prop := RS G hq o ∧ hq.2.1 o 11 = .int (nI bl.length) ∧
  (∀ j, j < (s_but (bl.take k) e).length → hq.2.1 (o + 7) j = v_b ((s_but (bl.take k) e).getD j (0, 0)) ∧ hq.2.1 (o + 8) j = .int (nI ((s_but (bl.take k) e).getD j (0, 0)).2)) ∧
  (∀ j, k ≤ j → j < bl.length → hq.2.1 (o + 7) j = v_b (bl.getD j (0, 0)) ∧ hq.2.1 (o + 8) j = .int (nI (bl.getD j (0, 0)).2)) ∧
  hq.1 = h.1 ∧ hq.2.2 = h.2.2 ∧ ∀ a j, a ≠ o + 7 → a ≠ o + 8 → hq.2.1 a j = h.2.1 a j
theorem LJ.skip {G : GG} {h hq : HH} {o : Nat} {bl : List (Nat × Nat)} {e k : Nat} (hJ : LJ G h hq o bl e k) (hk : k < bl.length) (hq2 : (bl.getD k (0, 0)).2 = e) : LJ G h hq o bl e (k + 1) := by
  obtain ⟨h1, h2, h3, h4, h5⟩ := hJ
  have e1 := but_step (e := e) hk
  rw [if_pos hq2, List.append_nil] at e1
  exact ⟨h1, h2, by rw [e1]; exact h3, fun j hj => h4 j (by omega), h5⟩
theorem LJ.keep {G : GG} {h hq : HH} {o : Nat} {bl : List (Nat × Nat)} {e k : Nat} (hJ : LJ G h hq o bl e k) (hk : k < bl.length) (hq2 : ¬ (bl.getD k (0, 0)).2 = e) :
    LJ G h (h_put (h_put hq (o + 7) (s_but (bl.take k) e).length (v_b (bl.getD k (0, 0)))) (o + 8) (s_but (bl.take k) e).length (.int (nI (bl.getD k (0, 0)).2))) o bl e (k + 1) := by
  obtain ⟨h1, h2, h3, h4, h5, h6, h7⟩ := hJ
  have e1 := but_step (e := e) hk
  rw [if_neg hq2] at e1
  have hl := but_le bl e k
  refine ⟨(h1.put (by omega)).put (by omega), (hp_a (by omega)).trans ((hp_a (by omega)).trans h2), fun j hj => ?_, fun j hj hj2 => ?_, h5, h6, fun a j h8 h9 => (hp_a h9).trans ((hp_a h8).trans (h7 a j h8 h9))⟩
  · rw [e1] at hj ⊢
    rw [List.length_append, List.length_singleton] at hj
    by_cases z : j < (s_but (bl.take k) e).length
    · rw [getD_app_l z]
      exact ⟨(hp_a (by omega)).trans ((hp_j (by omega)).trans (h3 j z).1), (hp_j (by omega)).trans ((hp_a (by omega)).trans (h3 j z).2)⟩
    · have z2 : j = (s_but (bl.take k) e).length := by omega
      subst z2
      rw [getD_app_r]
      exact ⟨(hp_a (by omega)).trans hp_eq, hp_eq⟩
  · have z := h4 j (by omega) hj2
    exact ⟨(hp_a (by omega)).trans ((hp_j (by omega)).trans z.1), (hp_j (by omega)).trans ((hp_a (by omega)).trans z.2)⟩
theorem LJ.done {G : GG} {h hq : HH} {o : Nat} {T : TT} {p : Nat → Nat} {len hand : Nat} {op : Option Nat} {gone : Bool} {ents : Nat} {bl : List (Nat × Nat)} {e : Nat} (hI : RI G h o T p len hand op gone ents bl) (hJ : LJ G h hq o bl e bl.length) :
    RI G (h_put (h_put hq o 11 (.int (nI (s_but bl e).length))) (o + 4) e (.int (nI 0))) o T p len hand op gone ents (s_but bl e) ∧ FrO o h (h_put (h_put hq o 11 (.int (nI (s_but bl e).length))) (o + 4) e (.int (nI 0))) := by
  obtain ⟨h1, h2, h3, h4, h5, h6, h7⟩ := hJ
  obtain ⟨hS, hP, hT, hH, hO, hg, hE, hB, hop⟩ := hI
  obtain ⟨hln, hpp, hl2, hp⟩ := hP
  obtain ⟨hkd, hkd2, hin, hin2, hns, hns2, hnm, hnm2⟩ := hT
  rw [List.take_length] at h3
  refine ⟨⟨(h1.put (by omega)).put (by omega), ⟨?_, fun j hj => ?_, hl2, hp⟩, ⟨fun x hx => ?_, hkd2, fun x hx => ?_, hin2, fun x hx => ?_, hns2, fun x k hx hk => ?_, hnm2⟩, ⟨?_, hH.2⟩, ?_, ?_, ?_, ⟨?_, fun k hk => ?_, fun k hk => ?_, fun q hq => hB.2.2.2.1 q (but_mem hq).1, Nat.le_trans (but_len bl e) hB.2.2.2.2.1, fun x hx => ?_⟩, hop⟩, ⟨h5, h6, fun a j ha => ?_⟩⟩
  · exact (hp_a (by omega)).trans ((hp_j (by omega)).trans ((h7 _ _ (by omega) (by omega)).trans hln))
  · exact (hp_a (by omega)).trans ((hp_a (by omega)).trans ((h7 _ _ (by omega) (by omega)).trans (hpp j hj)))
  · exact (hp_a (by omega)).trans ((hp_a (by omega)).trans ((h7 _ _ (by omega) (by omega)).trans (hkd x hx)))
  · exact (hp_a (by omega)).trans ((hp_a (by omega)).trans ((h7 _ _ (by omega) (by omega)).trans (hin x hx)))
  · exact (hp_a (by omega)).trans ((hp_a (by omega)).trans ((h7 _ _ (by omega) (by omega)).trans (hns x hx)))
  · exact (hp_a (by omega)).trans ((hp_a (by omega)).trans ((h7 _ _ (by omega) (by omega)).trans (hnm x k hx hk)))
  · exact (hp_a (by omega)).trans ((hp_j (by omega)).trans ((h7 _ _ (by omega) (by omega)).trans hH.1))
  · exact (hp_a (by omega)).trans ((hp_j (by omega)).trans ((h7 _ _ (by omega) (by omega)).trans hO))
  · exact (hp_a (by omega)).trans ((hp_j (by omega)).trans ((h7 _ _ (by omega) (by omega)).trans hg))
  · exact (hp_a (by omega)).trans ((hp_j (by omega)).trans ((h7 _ _ (by omega) (by omega)).trans hE))
  · exact (hp_a (by omega)).trans hp_eq
  · exact (hp_a (by omega)).trans ((hp_a (by omega)).trans (h3 k hk).1)
  · exact (hp_a (by omega)).trans ((hp_a (by omega)).trans (h3 k hk).2)
  · by_cases z : x = e
    · subst z
      rw [fb_but_s]
      exact hp_eq
    · rw [fb_but_n z]
      exact (hp_j z).trans ((hp_a (by omega)).trans ((h7 _ _ (by omega) (by omega)).trans (hB.2.2.2.2.2 x hx)))
  · exact (hp_a (by omega)).trans ((hp_a (by omega)).trans (h7 _ _ (by omega) (by omega)))
set_option maxHeartbeats 4000000 in
set_option maxRecDepth 100000 in
/-- PathTreeModel.lose -/
theorem kR_lose {G : GG} {h : HH} {o : Nat} {T : TT} {p : Nat → Nat} {len hand : Nat} {op : Option Nat} {gone : Bool} {ents : Nat} {bl : List (Nat × Nat)} {Q : Option Value → HH → Prop} {e : Nat} (hI : RI G h o T p len hand op gone ents bl) (he : e < 300) (hQ : ∀ h', RI G h' o T p len hand op gone ents (s_but bl e) → FrO o h h' → Q (some (.int (nI (s_fb bl e).length))) h') : V G mR_lose 0 (lv_args 0 [.ref o, .int (nI e)]) [] h 0 0 Q := by
  obtain ⟨hS, hP, hT, hH, hO, hg, hE, hB, hop⟩ := id hI
  obtain ⟨hz, hk0, hk1, hk2, hk3, hk4, hk5, hk6, hk7, hk8, hf0, hf2, hf3, hf4, hf5, hf6, hf12, hf13⟩ := id hS
  obtain ⟨hln, hpp, hl2, hp⟩ := id hP
  obtain ⟨hkd, hkd2, hin, hin2, hns, hns2, hnm, hnm2⟩ := id hT
  obtain ⟨hhand, hhl⟩ := id hH
  obtain ⟨b1, b2, b3, b4, b5, b6⟩ := id hB
  have loop : ∀ r k hq, k + r = bl.length → LJ G h hq o bl e k → V G mR_lose 12 [(4, .int (nI k)), (3, .int (nI (s_but (bl.take k) e).length)), (2, .int (nI (s_fb bl e).length)), (0, .ref o), (1, .int (nI e))] [] hq 0 0 Q := by
    intro r
    induction r with
    | zero =>
      intro k hq hr hJ
      rw [show k = bl.length by omega] at hJ ⊢
      obtain ⟨j1, j2, j3, j4, j5, j6, j7⟩ := id hJ
      rw [List.take_length]
      obtain ⟨hzp, hk0p, hk1p, hk2p, hk3p, hk4p, hk5p, hk6p, hk7p, hk8p, hf0p, hf2p, hf3p, hf4p, hf5p, hf6p, hf12p, hf13p⟩ := id j1
      refine V.iload dR_lose_12 rfl ?_
      first | refine V.aload_n dR_lose_14 rfl ?_ | refine V.aload_nN dR_lose_14 rfl ?_
      refine V.getk dR_lose_15 (by omega) (by assumption) f_R_87_4 (by assumption) ?_
      refine V.icmp_ge (tgt := 70) dR_lose_18 (by decide) (fun c_18 => ?_) (fun c_18 => ?_)
      · try simp (disch := omega) only [nI_ltI, nI_leI, nI_eq, zz_lt0, zz_ge0, zz_gt0, zz_le0, zz_eq0, zz_m1lt, zz_m1ge, zz_m1eq, bI_eq0, decide_eq_false_iff_not, decide_eq_true_eq, Decidable.not_not, not_true_eq_false, not_false_eq_true, Nat.not_lt, Nat.not_le, Bool.not_eq_false, Bool.not_eq_true] at c_18
        first | refine V.aload_n dR_lose_70 rfl ?_ | refine V.aload_nN dR_lose_70 rfl ?_
        refine V.iload_n dR_lose_71 rfl ?_
        refine V.putk dR_lose_72 (by omega) (by assumption) p_R_87_4 rfl rfl ?_
        intro h72 e72
        have hS4 : RS G h72 o := by (rw [e72]; exact j1.put (by omega))
        obtain ⟨hzq, hk0q, hk1q, hk2q, hk3q, hk4q, hk5q, hk6q, hk7q, hk8q, hf0q, hf2q, hf3q, hf4q, hf5q, hf6q, hf12q, hf13q⟩ := id hS4
        first | refine V.aload_n dR_lose_75 rfl ?_ | refine V.aload_nN dR_lose_75 rfl ?_
        refine V.getk dR_lose_76 (by omega) (by assumption) f_R_19_4 (by assumption) ?_
        refine V.iload_n dR_lose_79 rfl ?_
        refine V.iconst (v := (nI 0)) dR_lose_80 (by decide) ?_
        refine V.iastoreN dR_lose_81 (by omega) (by assumption) (by omega) rfl ?_
        intro h81 e81
        refine V.iload_n dR_lose_82 rfl ?_
        refine V.ireturn dR_lose_83 rfl rfl ?_
        have hd := LJ.done hI hJ
        have e9 : h81 = h_put (h_put hq o 11 (.int (nI (s_but bl e).length))) (o + 4) e (.int (nI 0)) := by (rw [e81, e72])
        rw [← e9] at hd
        exact hQ h81 hd.1 hd.2
      · try simp (disch := omega) only [nI_ltI, nI_leI, nI_eq, zz_lt0, zz_ge0, zz_gt0, zz_le0, zz_eq0, zz_m1lt, zz_m1ge, zz_m1eq, bI_eq0, decide_eq_false_iff_not, decide_eq_true_eq, Decidable.not_not, not_true_eq_false, not_false_eq_true, Nat.not_lt, Nat.not_le, Bool.not_eq_false, Bool.not_eq_true] at c_18
        all_goals omega
    | succ r ih =>
      intro k hq hr hJ
      obtain ⟨j1, j2, j3, j4, j5, j6, j7⟩ := id hJ
      have hbk := b4 _ (getD_mem (show k < bl.length by omega))
      have hbl := but_le bl e k
      obtain ⟨hzp, hk0p, hk1p, hk2p, hk3p, hk4p, hk5p, hk6p, hk7p, hk8p, hf0p, hf2p, hf3p, hf4p, hf5p, hf6p, hf12p, hf13p⟩ := id j1
      refine V.iload dR_lose_12 rfl ?_
      first | refine V.aload_n dR_lose_14 rfl ?_ | refine V.aload_nN dR_lose_14 rfl ?_
      refine V.getk dR_lose_15 (by omega) (by assumption) f_R_87_4 (by assumption) ?_
      refine V.icmp_ge (tgt := 70) dR_lose_18 (by decide) (fun c_18 => ?_) (fun c_18 => ?_)
      · try simp (disch := omega) only [nI_ltI, nI_leI, nI_eq, zz_lt0, zz_ge0, zz_gt0, zz_le0, zz_eq0, zz_m1lt, zz_m1ge, zz_m1eq, bI_eq0, decide_eq_false_iff_not, decide_eq_true_eq, Decidable.not_not, not_true_eq_false, not_false_eq_true, Nat.not_lt, Nat.not_le, Bool.not_eq_false, Bool.not_eq_true] at c_18
        all_goals omega
      · try simp (disch := omega) only [nI_ltI, nI_leI, nI_eq, zz_lt0, zz_ge0, zz_gt0, zz_le0, zz_eq0, zz_m1lt, zz_m1ge, zz_m1eq, bI_eq0, decide_eq_false_iff_not, decide_eq_true_eq, Decidable.not_not, not_true_eq_false, not_false_eq_true, Nat.not_lt, Nat.not_le, Bool.not_eq_false, Bool.not_eq_true] at c_18
        first | refine V.aload_n dR_lose_21 rfl ?_ | refine V.aload_nN dR_lose_21 rfl ?_
        refine V.getk dR_lose_22 (by omega) (by assumption) f_R_40_4 (by assumption) ?_
        refine V.iload dR_lose_25 rfl ?_
        refine V.saloadN dR_lose_27 (by omega) (by assumption) (by omega) (j4 k (Nat.le_refl _) (by omega)).2 ?_
        refine V.iload_n dR_lose_28 rfl ?_
        refine V.icmp_ne (tgt := 35) dR_lose_29 (by decide) (fun c_29 => ?_) (fun c_29 => ?_)
        · try simp (disch := omega) only [nI_ltI, nI_leI, nI_eq, zz_lt0, zz_ge0, zz_gt0, zz_le0, zz_eq0, zz_m1lt, zz_m1ge, zz_m1eq, bI_eq0, decide_eq_false_iff_not, decide_eq_true_eq, Decidable.not_not, not_true_eq_false, not_false_eq_true, Nat.not_lt, Nat.not_le, Bool.not_eq_false, Bool.not_eq_true] at c_29
          first | refine V.aload_n dR_lose_35 rfl ?_ | refine V.aload_nN dR_lose_35 rfl ?_
          refine V.getk dR_lose_36 (by omega) (by assumption) f_R_36_4 (by assumption) ?_
          refine V.iload_n dR_lose_39 rfl ?_
          first | refine V.aload_n dR_lose_40 rfl ?_ | refine V.aload_nN dR_lose_40 rfl ?_
          refine V.getk dR_lose_41 (by omega) (by assumption) f_R_36_4 (by assumption) ?_
          refine V.iload dR_lose_44 rfl ?_
          refine V.baloadN dR_lose_46 (by omega) (by assumption) (by omega) (j4 k (Nat.le_refl _) (by omega)).1 ?_
          refine V.bastoreN dR_lose_47 (by omega) (by assumption) (by omega) (pk_nb _) ?_
          intro h47 e47
          have hS4 : RS G h47 o := by (rw [e47]; exact j1.put (by omega))
          obtain ⟨hzq, hk0q, hk1q, hk2q, hk3q, hk4q, hk5q, hk6q, hk7q, hk8q, hf0q, hf2q, hf3q, hf4q, hf5q, hf6q, hf12q, hf13q⟩ := id hS4
          have j8 : h47.2.1 (o + 8) k = .int (nI (bl.getD k (0, 0)).2) := by (rw [e47]; exact (hp_a (by omega)).trans (j4 k (Nat.le_refl _) (by omega)).2)
          first | refine V.aload_n dR_lose_48 rfl ?_ | refine V.aload_nN dR_lose_48 rfl ?_
          refine V.getk dR_lose_49 (by omega) (by assumption) f_R_40_4 (by assumption) ?_
          refine V.iload_n dR_lose_52 rfl ?_
          first | refine V.aload_n dR_lose_53 rfl ?_ | refine V.aload_nN dR_lose_53 rfl ?_
          refine V.getk dR_lose_54 (by omega) (by assumption) f_R_40_4 (by assumption) ?_
          refine V.iload dR_lose_57 rfl ?_
          refine V.saloadN dR_lose_59 (by omega) (by assumption) (by omega) j8 ?_
          refine V.sastoreN dR_lose_60 (by omega) (by assumption) (by omega) (sh_nar _ (by omega)) ?_
          intro h60 e60
          refine V.iincN dR_lose_61 rfl (by decide) ?_
          refine V.iincN dR_lose_64 rfl (by decide) ?_
          refine V.goto (tgt := 12) dR_lose_67 (by decide) ?_
          first | exact V.re [4, 3, 2, 0, 1] rfl (by rw [← show s_but (bl.take (k + 1)) e = s_but (bl.take k) e by (rw [but_step (by omega), if_pos c_29, List.append_nil])]; exact ih (k + 1) hq (by omega) (hJ.skip (by omega) c_29)) | exact V.re [4, 3, 2, 0, 1] rfl (by rw [← show (s_but (bl.take (k + 1)) e).length = (s_but (bl.take k) e).length + 1 by (rw [but_step (by omega), if_neg c_29, List.length_append, List.length_singleton])]; exact ih (k + 1) h60 (by omega) (by rw [e60, e47]; exact hJ.keep (by omega) c_29))
        · try simp (disch := omega) only [nI_ltI, nI_leI, nI_eq, zz_lt0, zz_ge0, zz_gt0, zz_le0, zz_eq0, zz_m1lt, zz_m1ge, zz_m1eq, bI_eq0, decide_eq_false_iff_not, decide_eq_true_eq, Decidable.not_not, not_true_eq_false, not_false_eq_true, Nat.not_lt, Nat.not_le, Bool.not_eq_false, Bool.not_eq_true] at c_29
          refine V.goto (tgt := 64) dR_lose_32 (by decide) ?_
          refine V.iincN dR_lose_64 rfl (by decide) ?_
          refine V.goto (tgt := 12) dR_lose_67 (by decide) ?_
          first | exact V.re [4, 3, 2, 0, 1] rfl (by rw [← show s_but (bl.take (k + 1)) e = s_but (bl.take k) e by (rw [but_step (by omega), if_pos c_29, List.append_nil])]; exact ih (k + 1) hq (by omega) (hJ.skip (by omega) c_29)) | exact V.re [4, 3, 2, 0, 1] rfl (by rw [← show (s_but (bl.take (k + 1)) e).length = (s_but (bl.take k) e).length + 1 by (rw [but_step (by omega), if_neg c_29, List.length_append, List.length_singleton])]; exact ih (k + 1) h60 (by omega) (by rw [e60, e47]; exact hJ.keep (by omega) c_29))
  first | refine V.aload_n dR_lose_0 rfl ?_ | refine V.aload_nN dR_lose_0 rfl ?_
  refine V.getk dR_lose_1 (by omega) (by assumption) f_R_19_4 (by assumption) ?_
  refine V.iload_n dR_lose_4 rfl ?_
  refine V.ialoadN dR_lose_5 (by omega) (by assumption) (by omega) (b6 e he) ?_
  refine V.istore_n dR_lose_6 (by decide) ?_
  refine V.iconst (v := (nI 0)) dR_lose_7 (by decide) ?_
  refine V.istore_n dR_lose_8 (by decide) ?_
  refine V.iconst (v := (nI 0)) dR_lose_9 (by decide) ?_
  refine V.istore dR_lose_10 (by decide) ?_
  exact loop bl.length 0 h (by omega) ⟨hS, b1, fun j hj => absurd hj (Nat.not_lt_zero j), fun j _ hj => ⟨b2 j hj, b3 j hj⟩, rfl, rfl, fun _ _ _ _ => rfl⟩
end
section
/-- an entry gets a place: directory d, and the path's last name -/
def s_put (T : TT) (e d : Nat) (p : Nat → Nat) (len : Nat) : TT := (T.1, fu T.2.1 e d, fu T.2.2.1 e (len - s_last p len), fn T.2.2.2 e (fun k => p (s_last p len + k)))
/-- where the laying of a name stands -/
def NJ (G : GG) (h1 hq : HH) (o e : Nat) (p : Nat → Nat) (len k : Nat) : Prop := RS G hq o ∧ RP hq o p len ∧ hq.1 = h1.1 ∧ hq.2.2 = h1.2.2 ∧ (∀ a j, a ≠ o + 6 → hq.2.1 a j = h1.2.1 a j) ∧ (∀ j, (j < 60 * e ∨ 60 * e + 60 ≤ j) → hq.2.1 (o + 6) j = h1.2.1 (o + 6) j) ∧
  ∀ j, j < k - s_last p len → hq.2.1 (o + 6) (60 * e + j) = .int (nI (p (s_last p len + j)))
theorem NJ.step {G : GG} {h1 hq : HH} {o e : Nat} {p : Nat → Nat} {len k : Nat} (hJ : NJ G h1 hq o e p len k) (hk : s_last p len ≤ k) (hk2 : k < len) (hl : len - s_last p len ≤ 60) : NJ G h1 (h_put hq (o + 6) (60 * e + k - s_last p len) (.int (nI (p k)))) o e p len (k + 1) := by
  obtain ⟨j1, j2, j3, j4, j5, j6, j7⟩ := hJ
  refine ⟨j1.put (by omega), j2.put (by omega), j3, j4, fun a j ha => (hp_a ha).trans (j5 a j ha), fun j hj => (hp_j (by omega)).trans (j6 j hj), fun j hj => ?_⟩
  by_cases z : j = k - s_last p len
  · subst z
    rw [show 60 * e + (k - s_last p len) = 60 * e + k - s_last p len by omega, show s_last p len + (k - s_last p len) = k by omega]
    exact hp_eq
  · exact (hp_j (by omega)).trans (j7 j (by omega))
theorem NJ.done {G : GG} {h hq : HH} {o : Nat} {T : TT} {p : Nat → Nat} {len hand : Nat} {op : Option Nat} {gone : Bool} {ents : Nat} {bl : List (Nat × Nat)} {e d : Nat} (hI : RI G h o T p len hand op gone ents bl) (he : e < 300) (hd : d < 300) (hl : len - s_last p len ≤ 60) (hll : s_last p len ≤ len)
    (hJ : NJ G (h_put (h_put h (o + 3) e (.int (nI d))) (o + 5) e (.int (nI (len - s_last p len)))) hq o e p len len) : RI G hq o (s_put T e d p len) p len hand op gone ents bl ∧ FrO o h hq := by
  obtain ⟨j1, j2, j3, j4, j5, j6, j7⟩ := hJ
  obtain ⟨hS, hP, hT, hH, hO, hg, hE, hB, hop⟩ := hI
  obtain ⟨hln, hpp, hl2, hp⟩ := hP
  obtain ⟨hkd, hkd2, hin, hin2, hns, hns2, hnm, hnm2⟩ := hT
  obtain ⟨b1, b2, b3, b4, b5, b6⟩ := hB
  refine ⟨⟨j1, j2, ⟨fun x hx => ?_, hkd2, fun x hx => ?_, fun x hx => ?_, fun x hx => ?_, fun x hx => ?_, fun x k hx hk => ?_, fun x k hx hk => ?_⟩, ⟨?_, hH.2⟩, ?_, ?_, ?_, ⟨?_, fun k hk => ?_, fun k hk => ?_, b4, b5, fun x hx => ?_⟩, hop⟩, ⟨j3, j4, fun a j ha => ?_⟩⟩
  · exact (j5 _ _ (by omega)).trans ((hp_a (by omega)).trans ((hp_a (by omega)).trans (hkd x hx)))
  · show _ = Value.int (nI (fu T.2.1 e d x))
    rw [j5 _ _ (by omega), hp_a (by omega)]
    by_cases z : x = e
    · subst z; rw [fu_s]; exact hp_eq
    · rw [fu_n z, hp_j z]; exact hin x hx
  · show fu T.2.1 e d x < 300
    by_cases z : x = e
    · subst z; rw [fu_s]; exact hd
    · rw [fu_n z]; exact hin2 x hx
  · show _ = Value.int (nI (fu T.2.2.1 e (len - s_last p len) x))
    rw [j5 _ _ (by omega)]
    by_cases z : x = e
    · subst z; rw [fu_s]; exact hp_eq
    · rw [fu_n z, hp_j z, hp_a (by omega)]; exact hns x hx
  · show fu T.2.2.1 e (len - s_last p len) x ≤ 60
    by_cases z : x = e
    · subst z; rw [fu_s]; exact hl
    · rw [fu_n z]; exact hns2 x hx
  · have hk : k < fu T.2.2.1 e (len - s_last p len) x := hk
    show _ = Value.int (nI (fn T.2.2.2 e (fun k => p (s_last p len + k)) x k))
    by_cases z : x = e
    · subst z; rw [fu_s] at hk; rw [fn_s]; exact j7 k hk
    · rw [fu_n z] at hk; rw [fn_n z]
      have := hns2 x hx
      rw [j6 _ (by omega), hp_a (by omega), hp_a (by omega)]
      exact hnm x k hx hk
  · have hk : k < fu T.2.2.1 e (len - s_last p len) x := hk
    show fn T.2.2.2 e (fun k => p (s_last p len + k)) x k < 256
    by_cases z : x = e
    · subst z; rw [fu_s] at hk; rw [fn_s]; exact hp _ (by omega)
    · rw [fu_n z] at hk; rw [fn_n z]; exact hnm2 x k hx hk
  · exact (j5 _ _ (by omega)).trans ((hp_a (by omega)).trans ((hp_a (by omega)).trans hH.1))
  · exact (j5 _ _ (by omega)).trans ((hp_a (by omega)).trans ((hp_a (by omega)).trans hO))
  · exact (j5 _ _ (by omega)).trans ((hp_a (by omega)).trans ((hp_a (by omega)).trans hg))
  · exact (j5 _ _ (by omega)).trans ((hp_a (by omega)).trans ((hp_a (by omega)).trans hE))
  · exact (j5 _ _ (by omega)).trans ((hp_a (by omega)).trans ((hp_a (by omega)).trans b1))
  · exact (j5 _ _ (by omega)).trans ((hp_a (by omega)).trans ((hp_a (by omega)).trans (b2 k hk)))
  · exact (j5 _ _ (by omega)).trans ((hp_a (by omega)).trans ((hp_a (by omega)).trans (b3 k hk)))
  · exact (j5 _ _ (by omega)).trans ((hp_a (by omega)).trans ((hp_a (by omega)).trans (b6 x hx)))
  · exact (j5 _ _ (by omega)).trans ((hp_a (by omega)).trans (hp_a (by omega)))
theorem s_cnt_all {f : Nat → Bool} : ∀ n, (∀ e, e < n → f e = true) → s_cnt f n = n
  | 0, _ => rfl
  | n + 1, h => by rw [s_cnt_t (h n (by omega)), s_cnt_all n (fun e he => h e (by omega))]
/-- how many entries there are -/
abbrev s_many (T : TT) : Nat := s_cnt (fun e => decide (T.1 e ≠ 0)) 300
theorem s_free {T : TT} (h0 : T.1 0 ≠ 0) (h : s_many T ≠ 300) : ∃ f, 1 ≤ f ∧ f < 300 ∧ T.1 f = 0 ∧ ∀ x, x < f → T.1 x ≠ 0 := by
  have h1 : ∃ f, f < 300 ∧ T.1 f = 0 := Classical.byContradiction (fun z => h (s_cnt_all 300 (fun e he => decide_eq_true (fun q => z ⟨e, he, q⟩))))
  obtain ⟨f, ⟨hf, hk⟩, hm⟩ := pk_least (fun f => f < 300 ∧ T.1 f = 0) h1
  refine ⟨f, (Nat.eq_zero_or_pos f).elim (fun z => absurd (z ▸ hk) h0) id, hf, hk, fun x hx q => hm x hx ⟨by omega, q⟩⟩
/-- where an entry can be made by the path -/
def s_can (T : TT) (p : Nat → Nat) (hand len ents : Nat) : Option Nat := match s_home T p hand len with
  | none => none
  | some d => if s_isName p len ∧ ents ≠ 300 ∧ s_ent T p d (s_last p len) len = none then some d else none
/-- the tree with a new entry -/
def s_new (T : TT) (e w d : Nat) (p : Nat → Nat) (len : Nat) : TT := s_put (fu T.1 e w, T.2) e d p len
set_option maxHeartbeats 4000000 in
set_option maxRecDepth 100000 in
/-- PathTreeModel.put -/
theorem kR_put {G : GG} {h : HH} {o : Nat} {T : TT} {p : Nat → Nat} {len hand : Nat} {op : Option Nat} {gone : Bool} {ents : Nat} {bl : List (Nat × Nat)} {Q : Option Value → HH → Prop} {e d : Nat} (hI : RI G h o T p len hand op gone ents bl) (he : e < 300) (hd : d < 300) (hl : len - s_last p len ≤ 60) (hQ : ∀ h', RI G h' o (s_put T e d p len) p len hand op gone ents bl → FrO o h h' → Q none h') : V G mR_put 0 (lv_args 0 [.ref o, .int (nI e), .int (nI d)]) [] h 0 0 Q := by
  obtain ⟨hS, hP, hT, hH, hO, hg, hE, hB, hop⟩ := id hI
  obtain ⟨hz, hk0, hk1, hk2, hk3, hk4, hk5, hk6, hk7, hk8, hf0, hf2, hf3, hf4, hf5, hf6, hf12, hf13⟩ := id hS
  obtain ⟨hln, hpp, hl2, hp⟩ := id hP
  obtain ⟨hkd, hkd2, hin, hin2, hns, hns2, hnm, hnm2⟩ := id hT
  obtain ⟨hhand, hhl⟩ := id hH
  have hll := s_last_le p len
  have loop : ∀ r k hq, k + r = len → s_last p len ≤ k → NJ G (h_put (h_put h (o + 3) e (.int (nI d))) (o + 5) e (.int (nI (len - s_last p len)))) hq o e p len k → V G mR_put 27 [(3, .int (nI k)), (0, .ref o), (1, .int (nI e)), (2, .int (nI d))] [] hq 0 0 Q := by
    intro r
    induction r with
    | zero =>
      intro k hq hr hk hJ
      rw [show k = len by omega] at hJ ⊢
      obtain ⟨hSq, hPq, -⟩ := id hJ
      obtain ⟨hlnq, hppq, -⟩ := id hPq
      obtain ⟨hzq, hk0q, hk1q, hk2q, hk3q, hk4q, hk5q, hk6q, hk7q, hk8q, hf0q, hf2q, hf3q, hf4q, hf5q, hf6q, hf12q, hf13q⟩ := id hSq
      refine V.iload_n dR_put_27 rfl ?_
      first | refine V.aload_n dR_put_28 rfl ?_ | refine V.aload_nN dR_put_28 rfl ?_
      refine V.getk dR_put_29 (by omega) (by assumption) f_R_44_4 (by assumption) ?_
      refine V.icmp_ge (tgt := 63) dR_put_32 (by decide) (fun c_32 => ?_) (fun c_32 => ?_)
      · try simp (disch := omega) only [nI_ltI, nI_leI, nI_eq, zz_lt0, zz_ge0, zz_gt0, zz_le0, zz_eq0, zz_m1lt, zz_m1ge, zz_m1eq, bI_eq0, decide_eq_false_iff_not, decide_eq_true_eq, Decidable.not_not, not_true_eq_false, not_false_eq_true, Nat.not_lt, Nat.not_le, Bool.not_eq_false, Bool.not_eq_true] at c_32
        refine V.vreturn dR_put_63 rfl ?_
        have hd9 := NJ.done hI he hd hl hll hJ
        exact hQ hq hd9.1 hd9.2
      · try simp (disch := omega) only [nI_ltI, nI_leI, nI_eq, zz_lt0, zz_ge0, zz_gt0, zz_le0, zz_eq0, zz_m1lt, zz_m1ge, zz_m1eq, bI_eq0, decide_eq_false_iff_not, decide_eq_true_eq, Decidable.not_not, not_true_eq_false, not_false_eq_true, Nat.not_lt, Nat.not_le, Bool.not_eq_false, Bool.not_eq_true] at c_32
        all_goals omega
    | succ r ih =>
      intro k hq hr hk hJ
      obtain ⟨hSq, hPq, -⟩ := id hJ
      obtain ⟨hlnq, hppq, -⟩ := id hPq
      obtain ⟨hzq, hk0q, hk1q, hk2q, hk3q, hk4q, hk5q, hk6q, hk7q, hk8q, hf0q, hf2q, hf3q, hf4q, hf5q, hf6q, hf12q, hf13q⟩ := id hSq
      refine V.iload_n dR_put_27 rfl ?_
      first | refine V.aload_n dR_put_28 rfl ?_ | refine V.aload_nN dR_put_28 rfl ?_
      refine V.getk dR_put_29 (by omega) (by assumption) f_R_44_4 (by assumption) ?_
      refine V.icmp_ge (tgt := 63) dR_put_32 (by decide) (fun c_32 => ?_) (fun c_32 => ?_)
      · try simp (disch := omega) only [nI_ltI, nI_leI, nI_eq, zz_lt0, zz_ge0, zz_gt0, zz_le0, zz_eq0, zz_m1lt, zz_m1ge, zz_m1eq, bI_eq0, decide_eq_false_iff_not, decide_eq_true_eq, Decidable.not_not, not_true_eq_false, not_false_eq_true, Nat.not_lt, Nat.not_le, Bool.not_eq_false, Bool.not_eq_true] at c_32
        all_goals omega
      · try simp (disch := omega) only [nI_ltI, nI_leI, nI_eq, zz_lt0, zz_ge0, zz_gt0, zz_le0, zz_eq0, zz_m1lt, zz_m1ge, zz_m1eq, bI_eq0, decide_eq_false_iff_not, decide_eq_true_eq, Decidable.not_not, not_true_eq_false, not_false_eq_true, Nat.not_lt, Nat.not_le, Bool.not_eq_false, Bool.not_eq_true] at c_32
        first | refine V.aload_n dR_put_35 rfl ?_ | refine V.aload_nN dR_put_35 rfl ?_
        refine V.getk dR_put_36 (by omega) (by assumption) f_R_25_4 (by assumption) ?_
        refine V.bipush (v := (nI 60)) dR_put_39 (by decide) ?_
        refine V.iload_n dR_put_41 rfl ?_
        refine V.imulN dR_put_42 ?_
        refine V.iload_n dR_put_43 rfl ?_
        refine V.iaddN dR_put_44 ?_
        first | refine V.aload_n dR_put_45 rfl ?_ | refine V.aload_nN dR_put_45 rfl ?_
        refine V.callVk (kd := 4) 0 _ 0 _ [] dR_put_46 okR_last n_R_61 (by omega) (by assumption) rfl imR_last seR_last_R (by decide) (by decide) rfl rfl (Nat.le_of_ble_eq_true rfl) (Nat.le_of_ble_eq_true rfl) (Nat.le_of_eq (Nat.zero_add _)) (Nat.le_of_eq (Nat.zero_add _)) (kR_last hSq hPq ?_)
        refine V.isubN dR_put_49 (by omega) ?_
        first | refine V.aload_n dR_put_50 rfl ?_ | refine V.aload_nN dR_put_50 rfl ?_
        refine V.getk dR_put_51 (by omega) (by assumption) f_R_7_4 (by assumption) ?_
        refine V.iload_n dR_put_54 rfl ?_
        have hpk := hp k (by omega)
        refine V.ialoadN dR_put_55 (by omega) (by assumption) (by omega) (hppq k (by omega)) ?_
        refine V.iastoreN dR_put_56 (by omega) (by assumption) (by omega) rfl ?_
        intro h56 e56
        refine V.iincN dR_put_57 rfl (by decide) ?_
        refine V.goto (tgt := 27) dR_put_60 (by decide) ?_
        exact V.re [3, 0, 1, 2] rfl (ih (k + 1) h56 (by omega) (by omega) (by rw [e56]; exact hJ.step (by omega) (by omega) hl))
  first | refine V.aload_n dR_put_0 rfl ?_ | refine V.aload_nN dR_put_0 rfl ?_
  refine V.getk dR_put_1 (by omega) (by assumption) f_R_16_4 (by assumption) ?_
  refine V.iload_n dR_put_4 rfl ?_
  refine V.iload_n dR_put_5 rfl ?_
  refine V.iastoreN dR_put_6 (by omega) (by assumption) (by omega) rfl ?_
  intro h6 e6
  have hI6 : RI G h6 o (T.1, fu T.2.1 e d, T.2.2) p len hand op gone ents bl := by (rw [e6]; exact hI.par hd)
  obtain ⟨hSb, hPb, hTb, hHb, hOb, hgb, hEb, hBb, hopb⟩ := id hI6
  obtain ⟨hzb, hk0b, hk1b, hk2b, hk3b, hk4b, hk5b, hk6b, hk7b, hk8b, hf0b, hf2b, hf3b, hf4b, hf5b, hf6b, hf12b, hf13b⟩ := id hSb
  obtain ⟨hlnb, hppb, hl2b, hpb⟩ := id hPb
  obtain ⟨hkdb, hkd2b, hinb, hin2b, hnsb, hns2b, hnmb, hnm2b⟩ := id hTb
  obtain ⟨hhandb, hhlb⟩ := id hHb
  first | refine V.aload_n dR_put_7 rfl ?_ | refine V.aload_nN dR_put_7 rfl ?_
  refine V.getk dR_put_8 (by omega) (by assumption) f_R_22_4 (by assumption) ?_
  refine V.iload_n dR_put_11 rfl ?_
  first | refine V.aload_n dR_put_12 rfl ?_ | refine V.aload_nN dR_put_12 rfl ?_
  refine V.getk dR_put_13 (by omega) (by assumption) f_R_44_4 (by assumption) ?_
  first | refine V.aload_n dR_put_16 rfl ?_ | refine V.aload_nN dR_put_16 rfl ?_
  refine V.callVk (kd := 4) 0 _ 0 _ [] dR_put_17 okR_last n_R_61 (by omega) (by assumption) rfl imR_last seR_last_R (by decide) (by decide) rfl rfl (Nat.le_of_ble_eq_true rfl) (Nat.le_of_ble_eq_true rfl) (Nat.le_of_eq (Nat.zero_add _)) (Nat.le_of_eq (Nat.zero_add _)) (kR_last hSb hPb ?_)
  refine V.isubN dR_put_20 (by omega) ?_
  refine V.iastoreN dR_put_21 (by omega) (by assumption) (by omega) rfl ?_
  intro h21 e21
  have hS21 : RS G h21 o := by (rw [e21]; exact hSb.put (by omega))
  have hP21 : RP h21 o p len := by (rw [e21]; exact hPb.put (by omega))
  obtain ⟨hzc, hk0c, hk1c, hk2c, hk3c, hk4c, hk5c, hk6c, hk7c, hk8c, hf0c, hf2c, hf3c, hf4c, hf5c, hf6c, hf12c, hf13c⟩ := id hS21
  first | refine V.aload_n dR_put_22 rfl ?_ | refine V.aload_nN dR_put_22 rfl ?_
  refine V.callVk (kd := 4) 0 _ 0 _ [] dR_put_23 okR_last n_R_61 (by omega) (by assumption) rfl imR_last seR_last_R (by decide) (by decide) rfl rfl (Nat.le_of_ble_eq_true rfl) (Nat.le_of_ble_eq_true rfl) (Nat.le_of_eq (Nat.zero_add _)) (Nat.le_of_eq (Nat.zero_add _)) (kR_last hS21 hP21 ?_)
  refine V.istore_n dR_put_26 (by decide) ?_
  exact V.re [3, 0, 1, 2] rfl (loop (len - s_last p len) (s_last p len) h21 (by omega) (by omega) ⟨hS21, hP21, by (rw [e21, e6]), by (rw [e21, e6]), fun a j _ => by (rw [e21, e6]), fun j _ => by (rw [e21, e6]), fun j hj => by omega⟩)
end
section
theorem s_can_home {T : TT} {p : Nat → Nat} {hand len ents d : Nat} (h : s_can T p hand len ents = some d) : s_home T p hand len = some d ∧ s_isName p len ∧ ents ≠ 300 ∧ s_ent T p d (s_last p len) len = none := by
  unfold s_can at h
  split at h
  · cases h
  · next d2 hq =>
    split at h
    · next hc => cases h; exact ⟨hq, hc⟩
    · cases h
set_option maxHeartbeats 4000000 in
set_option maxRecDepth 100000 in
/-- PathTreeModel.made -/
theorem kR_made {G : GG} {h : HH} {o : Nat} {T : TT} {p : Nat → Nat} {len hand : Nat} {op : Option Nat} {gone : Bool} {ents : Nat} {bl : List (Nat × Nat)} {Q : Option Value → HH → Prop} {w : Nat} (hI : RI G h o T p len hand op gone ents bl) (hhd : T.1 hand = 2) (h00 : T.1 0 = 2) (hen : ents = s_many T) (hbk : ∀ q ∈ bl, T.1 q.2 ≠ 0) (hw : 1 ≤ w ∧ w ≤ 2) (h0 : s_can T p hand len ents = none → Q (some (.int (-1))) h) (h1 : ∀ d, s_can T p hand len ents = some d → ∀ e, 1 ≤ e → e < 300 → T.1 e = 0 → ∀ h', RI G h' o (s_new T e w d p len) p len hand op gone (ents + 1) bl → FrO o h h' → Q (some (.int (nI e))) h') : V G mR_made 0 (lv_args 0 [.ref o, .int (nI w)]) [] h 0 0 Q := by
  obtain ⟨hS, hP, hT, hH, hO, hg, hE, hB, hop⟩ := id hI
  obtain ⟨hz, hk0, hk1, hk2, hk3, hk4, hk5, hk6, hk7, hk8, hf0, hf2, hf3, hf4, hf5, hf6, hf12, hf13⟩ := id hS
  obtain ⟨hln, hpp, hl2, hp⟩ := id hP
  obtain ⟨hkd, hkd2, hin, hin2, hns, hns2, hnm, hnm2⟩ := id hT
  obtain ⟨hhand, hhl⟩ := id hH
  have hll := s_last_le p len
  have hmle : ents ≤ 300 := by (rw [hen]; exact s_cnt_le _ 300)
  cases hh : s_home T p hand len with
  | none =>
    first | refine V.aload_n dR_made_0 rfl ?_ | refine V.aload_nN dR_made_0 rfl ?_
    refine V.callVk (kd := 4) 0 _ 0 _ [] dR_made_1 okR_home n_R_69 (by omega) (by assumption) rfl imR_home seR_home_R (by decide) (by decide) rfl rfl (Nat.le_of_ble_eq_true rfl) (Nat.le_of_ble_eq_true rfl) (Nat.le_of_eq (Nat.zero_add _)) (Nat.le_of_eq (Nat.zero_add _)) (kR_home hS hP hT hH hhd ?_)
    rw [hh]
    show V G mR_made 4 _ [.int (-1)] h 0 0 Q
    refine V.istore_n dR_made_4 (by decide) ?_
    refine V.iload_n dR_made_5 rfl ?_
    refine V.if_lt (tgt := 42) dR_made_6 (by decide) (fun c_6 => ?_) (fun c_6 => ?_)
    · try simp only [zz_m1lt, zz_m1ge, not_true_eq_false, not_false_eq_true] at c_6
      refine V.iconst (v := (-1)) dR_made_42 (by decide) ?_
      refine V.ireturn dR_made_43 rfl rfl ?_
      exact h0 (by unfold s_can; rw [hh])
    · try simp only [zz_m1lt, zz_m1ge, not_true_eq_false, not_false_eq_true] at c_6
      all_goals omega
  | some d =>
    have hd := s_home_lt hin2 hhl hh
    cases hr : s_ent T p d (s_last p len) len with
    | some e2 =>
      have he2 := s_ent_lt hr
      first | refine V.aload_n dR_made_0 rfl ?_ | refine V.aload_nN dR_made_0 rfl ?_
      refine V.callVk (kd := 4) 0 _ 0 _ [] dR_made_1 okR_home n_R_69 (by omega) (by assumption) rfl imR_home seR_home_R (by decide) (by decide) rfl rfl (Nat.le_of_ble_eq_true rfl) (Nat.le_of_ble_eq_true rfl) (Nat.le_of_eq (Nat.zero_add _)) (Nat.le_of_eq (Nat.zero_add _)) (kR_home hS hP hT hH hhd ?_)
      rw [hh]
      show V G mR_made 4 _ [.int (nI d)] h 0 0 Q
      refine V.istore_n dR_made_4 (by decide) ?_
      refine V.iload_n dR_made_5 rfl ?_
      refine V.if_lt (tgt := 42) dR_made_6 (by decide) (fun c_6 => ?_) (fun c_6 => ?_)
      · try simp (disch := omega) only [nI_ltI, nI_leI, nI_eq, zz_lt0, zz_ge0, zz_gt0, zz_le0, zz_eq0, zz_m1lt, zz_m1ge, zz_m1eq, bI_eq0, decide_eq_false_iff_not, decide_eq_true_eq, Decidable.not_not, not_true_eq_false, not_false_eq_true, Nat.not_lt, Nat.not_le, Bool.not_eq_false, Bool.not_eq_true] at c_6
        all_goals omega
      · try simp (disch := omega) only [nI_ltI, nI_leI, nI_eq, zz_lt0, zz_ge0, zz_gt0, zz_le0, zz_eq0, zz_m1lt, zz_m1ge, zz_m1eq, bI_eq0, decide_eq_false_iff_not, decide_eq_true_eq, Decidable.not_not, not_true_eq_false, not_false_eq_true, Nat.not_lt, Nat.not_le, Bool.not_eq_false, Bool.not_eq_true] at c_6
        first | refine V.aload_n dR_made_9 rfl ?_ | refine V.aload_nN dR_made_9 rfl ?_
        refine V.callVk (kd := 4) 0 _ 0 _ [] dR_made_10 okR_isName n_R_72 (by omega) (by assumption) rfl imR_isName seR_isName_R (by decide) (by decide) rfl rfl (Nat.le_of_ble_eq_true rfl) (Nat.le_of_ble_eq_true rfl) (Nat.le_of_eq (Nat.zero_add _)) (Nat.le_of_eq (Nat.zero_add _)) (kR_isName hS hP ?_)
        refine V.if_eq (tgt := 42) dR_made_13 (by decide) (fun c_13 => ?_) (fun c_13 => ?_)
        · try simp (disch := omega) only [nI_ltI, nI_leI, nI_eq, zz_lt0, zz_ge0, zz_gt0, zz_le0, zz_eq0, zz_m1lt, zz_m1ge, zz_m1eq, bI_eq0, decide_eq_false_iff_not, decide_eq_true_eq, Decidable.not_not, not_true_eq_false, not_false_eq_true, Nat.not_lt, Nat.not_le, Bool.not_eq_false, Bool.not_eq_true] at c_13
          refine V.iconst (v := (-1)) dR_made_42 (by decide) ?_
          refine V.ireturn dR_made_43 rfl rfl ?_
          have hno : ¬ (s_isName p len ∧ ents ≠ 300 ∧ s_ent T p d (s_last p len) len = none) := by first | exact fun z => c_13 z.1 | exact fun z => z.2.1 c_23 | exact fun z => by (rw [hr] at z; cases z.2.2)
          exact h0 (by unfold s_can; rw [hh]; dsimp only; rw [if_neg hno])
        · try simp (disch := omega) only [nI_ltI, nI_leI, nI_eq, zz_lt0, zz_ge0, zz_gt0, zz_le0, zz_eq0, zz_m1lt, zz_m1ge, zz_m1eq, bI_eq0, decide_eq_false_iff_not, decide_eq_true_eq, Decidable.not_not, not_true_eq_false, not_false_eq_true, Nat.not_lt, Nat.not_le, Bool.not_eq_false, Bool.not_eq_true] at c_13
          first | refine V.aload_n dR_made_16 rfl ?_ | refine V.aload_nN dR_made_16 rfl ?_
          refine V.getk dR_made_17 (by omega) (by assumption) f_R_28_4 (by assumption) ?_
          refine V.sipush (v := (nI 300)) dR_made_20 (by decide) ?_
          refine V.icmp_eq (tgt := 42) dR_made_23 (by decide) (fun c_23 => ?_) (fun c_23 => ?_)
          · try simp (disch := omega) only [nI_ltI, nI_leI, nI_eq, zz_lt0, zz_ge0, zz_gt0, zz_le0, zz_eq0, zz_m1lt, zz_m1ge, zz_m1eq, bI_eq0, decide_eq_false_iff_not, decide_eq_true_eq, Decidable.not_not, not_true_eq_false, not_false_eq_true, Nat.not_lt, Nat.not_le, Bool.not_eq_false, Bool.not_eq_true] at c_23
            refine V.iconst (v := (-1)) dR_made_42 (by decide) ?_
            refine V.ireturn dR_made_43 rfl rfl ?_
            have hno : ¬ (s_isName p len ∧ ents ≠ 300 ∧ s_ent T p d (s_last p len) len = none) := by first | exact fun z => c_13 z.1 | exact fun z => z.2.1 c_23 | exact fun z => by (rw [hr] at z; cases z.2.2)
            exact h0 (by unfold s_can; rw [hh]; dsimp only; rw [if_neg hno])
          · try simp (disch := omega) only [nI_ltI, nI_leI, nI_eq, zz_lt0, zz_ge0, zz_gt0, zz_le0, zz_eq0, zz_m1lt, zz_m1ge, zz_m1eq, bI_eq0, decide_eq_false_iff_not, decide_eq_true_eq, Decidable.not_not, not_true_eq_false, not_false_eq_true, Nat.not_lt, Nat.not_le, Bool.not_eq_false, Bool.not_eq_true] at c_23
            first | refine V.aload_n dR_made_26 rfl ?_ | refine V.aload_nN dR_made_26 rfl ?_
            refine V.iload_n dR_made_27 rfl ?_
            first | refine V.aload_n dR_made_28 rfl ?_ | refine V.aload_nN dR_made_28 rfl ?_
            refine V.callVk (kd := 4) 0 _ 0 _ [] dR_made_29 okR_last n_R_61 (by omega) (by assumption) rfl imR_last seR_last_R (by decide) (by decide) rfl rfl (Nat.le_of_ble_eq_true rfl) (Nat.le_of_ble_eq_true rfl) (Nat.le_of_eq (Nat.zero_add _)) (Nat.le_of_eq (Nat.zero_add _)) (kR_last hS hP ?_)
            first | refine V.aload_n dR_made_32 rfl ?_ | refine V.aload_nN dR_made_32 rfl ?_
            refine V.getk dR_made_33 (by omega) (by assumption) f_R_44_4 (by assumption) ?_
            refine V.callVk (kd := 4) 0 _ 0 _ [_, _, _] dR_made_36 okR_entry n_R_51 (by omega) (by assumption) rfl imR_entry seR_entry_R (by decide) (by decide) rfl rfl (Nat.le_of_ble_eq_true rfl) (Nat.le_of_ble_eq_true rfl) (Nat.le_of_eq (Nat.zero_add _)) (Nat.le_of_eq (Nat.zero_add _)) (kR_entry hS hP hT hd (by omega) (by omega) ?_)
            rw [hr]
            show V G mR_made 39 _ [.int (nI e2)] h 0 0 Q
            refine V.if_lt (tgt := 44) dR_made_39 (by decide) (fun c_39 => ?_) (fun c_39 => ?_)
            · try simp (disch := omega) only [nI_ltI, nI_leI, nI_eq, zz_lt0, zz_ge0, zz_gt0, zz_le0, zz_eq0, zz_m1lt, zz_m1ge, zz_m1eq, bI_eq0, decide_eq_false_iff_not, decide_eq_true_eq, Decidable.not_not, not_true_eq_false, not_false_eq_true, Nat.not_lt, Nat.not_le, Bool.not_eq_false, Bool.not_eq_true] at c_39
              all_goals omega
            · try simp (disch := omega) only [nI_ltI, nI_leI, nI_eq, zz_lt0, zz_ge0, zz_gt0, zz_le0, zz_eq0, zz_m1lt, zz_m1ge, zz_m1eq, bI_eq0, decide_eq_false_iff_not, decide_eq_true_eq, Decidable.not_not, not_true_eq_false, not_false_eq_true, Nat.not_lt, Nat.not_le, Bool.not_eq_false, Bool.not_eq_true] at c_39
              refine V.iconst (v := (-1)) dR_made_42 (by decide) ?_
              refine V.ireturn dR_made_43 rfl rfl ?_
              have hno : ¬ (s_isName p len ∧ ents ≠ 300 ∧ s_ent T p d (s_last p len) len = none) := by first | exact fun z => c_13 z.1 | exact fun z => z.2.1 c_23 | exact fun z => by (rw [hr] at z; cases z.2.2)
              exact h0 (by unfold s_can; rw [hh]; dsimp only; rw [if_neg hno])
    | none =>
      first | refine V.aload_n dR_made_0 rfl ?_ | refine V.aload_nN dR_made_0 rfl ?_
      refine V.callVk (kd := 4) 0 _ 0 _ [] dR_made_1 okR_home n_R_69 (by omega) (by assumption) rfl imR_home seR_home_R (by decide) (by decide) rfl rfl (Nat.le_of_ble_eq_true rfl) (Nat.le_of_ble_eq_true rfl) (Nat.le_of_eq (Nat.zero_add _)) (Nat.le_of_eq (Nat.zero_add _)) (kR_home hS hP hT hH hhd ?_)
      rw [hh]
      show V G mR_made 4 _ [.int (nI d)] h 0 0 Q
      refine V.istore_n dR_made_4 (by decide) ?_
      refine V.iload_n dR_made_5 rfl ?_
      refine V.if_lt (tgt := 42) dR_made_6 (by decide) (fun c_6 => ?_) (fun c_6 => ?_)
      · try simp (disch := omega) only [nI_ltI, nI_leI, nI_eq, zz_lt0, zz_ge0, zz_gt0, zz_le0, zz_eq0, zz_m1lt, zz_m1ge, zz_m1eq, bI_eq0, decide_eq_false_iff_not, decide_eq_true_eq, Decidable.not_not, not_true_eq_false, not_false_eq_true, Nat.not_lt, Nat.not_le, Bool.not_eq_false, Bool.not_eq_true] at c_6
        all_goals omega
      · try simp (disch := omega) only [nI_ltI, nI_leI, nI_eq, zz_lt0, zz_ge0, zz_gt0, zz_le0, zz_eq0, zz_m1lt, zz_m1ge, zz_m1eq, bI_eq0, decide_eq_false_iff_not, decide_eq_true_eq, Decidable.not_not, not_true_eq_false, not_false_eq_true, Nat.not_lt, Nat.not_le, Bool.not_eq_false, Bool.not_eq_true] at c_6
        first | refine V.aload_n dR_made_9 rfl ?_ | refine V.aload_nN dR_made_9 rfl ?_
        refine V.callVk (kd := 4) 0 _ 0 _ [] dR_made_10 okR_isName n_R_72 (by omega) (by assumption) rfl imR_isName seR_isName_R (by decide) (by decide) rfl rfl (Nat.le_of_ble_eq_true rfl) (Nat.le_of_ble_eq_true rfl) (Nat.le_of_eq (Nat.zero_add _)) (Nat.le_of_eq (Nat.zero_add _)) (kR_isName hS hP ?_)
        refine V.if_eq (tgt := 42) dR_made_13 (by decide) (fun c_13 => ?_) (fun c_13 => ?_)
        · try simp (disch := omega) only [nI_ltI, nI_leI, nI_eq, zz_lt0, zz_ge0, zz_gt0, zz_le0, zz_eq0, zz_m1lt, zz_m1ge, zz_m1eq, bI_eq0, decide_eq_false_iff_not, decide_eq_true_eq, Decidable.not_not, not_true_eq_false, not_false_eq_true, Nat.not_lt, Nat.not_le, Bool.not_eq_false, Bool.not_eq_true] at c_13
          refine V.iconst (v := (-1)) dR_made_42 (by decide) ?_
          refine V.ireturn dR_made_43 rfl rfl ?_
          have hno : ¬ (s_isName p len ∧ ents ≠ 300 ∧ s_ent T p d (s_last p len) len = none) := by first | exact fun z => c_13 z.1 | exact fun z => z.2.1 c_23 | exact fun z => by (rw [hr] at z; cases z.2.2)
          exact h0 (by unfold s_can; rw [hh]; dsimp only; rw [if_neg hno])
        · try simp (disch := omega) only [nI_ltI, nI_leI, nI_eq, zz_lt0, zz_ge0, zz_gt0, zz_le0, zz_eq0, zz_m1lt, zz_m1ge, zz_m1eq, bI_eq0, decide_eq_false_iff_not, decide_eq_true_eq, Decidable.not_not, not_true_eq_false, not_false_eq_true, Nat.not_lt, Nat.not_le, Bool.not_eq_false, Bool.not_eq_true] at c_13
          first | refine V.aload_n dR_made_16 rfl ?_ | refine V.aload_nN dR_made_16 rfl ?_
          refine V.getk dR_made_17 (by omega) (by assumption) f_R_28_4 (by assumption) ?_
          refine V.sipush (v := (nI 300)) dR_made_20 (by decide) ?_
          refine V.icmp_eq (tgt := 42) dR_made_23 (by decide) (fun c_23 => ?_) (fun c_23 => ?_)
          · try simp (disch := omega) only [nI_ltI, nI_leI, nI_eq, zz_lt0, zz_ge0, zz_gt0, zz_le0, zz_eq0, zz_m1lt, zz_m1ge, zz_m1eq, bI_eq0, decide_eq_false_iff_not, decide_eq_true_eq, Decidable.not_not, not_true_eq_false, not_false_eq_true, Nat.not_lt, Nat.not_le, Bool.not_eq_false, Bool.not_eq_true] at c_23
            refine V.iconst (v := (-1)) dR_made_42 (by decide) ?_
            refine V.ireturn dR_made_43 rfl rfl ?_
            have hno : ¬ (s_isName p len ∧ ents ≠ 300 ∧ s_ent T p d (s_last p len) len = none) := by first | exact fun z => c_13 z.1 | exact fun z => z.2.1 c_23 | exact fun z => by (rw [hr] at z; cases z.2.2)
            exact h0 (by unfold s_can; rw [hh]; dsimp only; rw [if_neg hno])
          · try simp (disch := omega) only [nI_ltI, nI_leI, nI_eq, zz_lt0, zz_ge0, zz_gt0, zz_le0, zz_eq0, zz_m1lt, zz_m1ge, zz_m1eq, bI_eq0, decide_eq_false_iff_not, decide_eq_true_eq, Decidable.not_not, not_true_eq_false, not_false_eq_true, Nat.not_lt, Nat.not_le, Bool.not_eq_false, Bool.not_eq_true] at c_23
            first | refine V.aload_n dR_made_26 rfl ?_ | refine V.aload_nN dR_made_26 rfl ?_
            refine V.iload_n dR_made_27 rfl ?_
            first | refine V.aload_n dR_made_28 rfl ?_ | refine V.aload_nN dR_made_28 rfl ?_
            refine V.callVk (kd := 4) 0 _ 0 _ [] dR_made_29 okR_last n_R_61 (by omega) (by assumption) rfl imR_last seR_last_R (by decide) (by decide) rfl rfl (Nat.le_of_ble_eq_true rfl) (Nat.le_of_ble_eq_true rfl) (Nat.le_of_eq (Nat.zero_add _)) (Nat.le_of_eq (Nat.zero_add _)) (kR_last hS hP ?_)
            first | refine V.aload_n dR_made_32 rfl ?_ | refine V.aload_nN dR_made_32 rfl ?_
            refine V.getk dR_made_33 (by omega) (by assumption) f_R_44_4 (by assumption) ?_
            refine V.callVk (kd := 4) 0 _ 0 _ [_, _, _] dR_made_36 okR_entry n_R_51 (by omega) (by assumption) rfl imR_entry seR_entry_R (by decide) (by decide) rfl rfl (Nat.le_of_ble_eq_true rfl) (Nat.le_of_ble_eq_true rfl) (Nat.le_of_eq (Nat.zero_add _)) (Nat.le_of_eq (Nat.zero_add _)) (kR_entry hS hP hT hd (by omega) (by omega) ?_)
            rw [hr]
            show V G mR_made 39 _ [.int (-1)] h 0 0 Q
            refine V.if_lt (tgt := 44) dR_made_39 (by decide) (fun c_39 => ?_) (fun c_39 => ?_)
            · try simp only [zz_m1lt, zz_m1ge, not_true_eq_false, not_false_eq_true] at c_39
              have hcan : s_can T p hand len ents = some d := by (unfold s_can; rw [hh]; dsimp only; rw [if_pos ⟨c_13, c_23, hr⟩])
              have hnl : len - s_last p len ≤ 60 := c_13.2.1
              obtain ⟨f, hf1, hf3, hf0f, hfm⟩ := s_free (T := T) (by omega) (by omega)
              have loop : ∀ r x, x + r = f → 1 ≤ x → V G mR_made 46 [(3, .int (nI x)), (2, .int (nI d)), (0, .ref o), (1, .int (nI w))] [] h 0 0 Q := by
                intro r
                induction r with
                | zero =>
                  intro x hr2 hx
                  rw [show x = f by omega]
                  have hkf := hkd f (by omega)
                  rw [hf0f] at hkf
                  first | refine V.aload_n dR_made_46 rfl ?_ | refine V.aload_nN dR_made_46 rfl ?_
                  refine V.getk dR_made_47 (by omega) (by assumption) f_R_13_4 (by assumption) ?_
                  refine V.iload_n dR_made_50 rfl ?_
                  refine V.ialoadN dR_made_51 (by omega) (by assumption) (by omega) hkf ?_
                  refine V.if_eq (tgt := 61) dR_made_52 (by decide) (fun c_52 => ?_) (fun c_52 => ?_)
                  · try simp (disch := omega) only [nI_ltI, nI_leI, nI_eq, zz_lt0, zz_ge0, zz_gt0, zz_le0, zz_eq0, zz_m1lt, zz_m1ge, zz_m1eq, bI_eq0, decide_eq_false_iff_not, decide_eq_true_eq, Decidable.not_not, not_true_eq_false, not_false_eq_true, Nat.not_lt, Nat.not_le, Bool.not_eq_false, Bool.not_eq_true] at c_52
                    first | refine V.aload_n dR_made_61 rfl ?_ | refine V.aload_nN dR_made_61 rfl ?_
                    refine V.getk dR_made_62 (by omega) (by assumption) f_R_13_4 (by assumption) ?_
                    refine V.iload_n dR_made_65 rfl ?_
                    refine V.iload_n dR_made_66 rfl ?_
                    refine V.iastoreN dR_made_67 (by omega) (by assumption) (by omega) rfl ?_
                    intro h67 e67
                    have hI67 : RI G h67 o (fu T.1 f w, T.2) p len hand op gone ents bl := by (rw [e67]; exact hI.kind (by omega))
                    have hF67 : FrO o h h67 := by (rw [e67]; exact FrO.rf.put (by omega))
                    obtain ⟨hSb, hPb, hTb, hHb, hOb, hgb, hEb, hBb, hopb⟩ := id hI67
                    obtain ⟨hzb, hk0b, hk1b, hk2b, hk3b, hk4b, hk5b, hk6b, hk7b, hk8b, hf0b, hf2b, hf3b, hf4b, hf5b, hf6b, hf12b, hf13b⟩ := id hSb
                    obtain ⟨hlnb, hppb, hl2b, hpb⟩ := id hPb
                    obtain ⟨hkdb, hkd2b, hinb, hin2b, hnsb, hns2b, hnmb, hnm2b⟩ := id hTb
                    obtain ⟨hhandb, hhlb⟩ := id hHb
                    first | refine V.aload_n dR_made_68 rfl ?_ | refine V.aload_nN dR_made_68 rfl ?_
                    refine V.getk dR_made_69 (by omega) (by assumption) f_R_19_4 (by assumption) ?_
                    refine V.iload_n dR_made_72 rfl ?_
                    refine V.iconst (v := (nI 0)) dR_made_73 (by decide) ?_
                    refine V.iastoreN dR_made_74 (by omega) (by assumption) (by omega) rfl ?_
                    intro h74 e74
                    have hI74 : RI G h74 o (fu T.1 f w, T.2) p len hand op gone ents bl := by (rw [e74]; exact hI67.size0 (fb_none (fun q hq z => hbk q hq (by (rw [z]; exact hf0f)))))
                    have hF74 : FrO o h h74 := by (rw [e74]; exact hF67.put (by omega))
                    obtain ⟨hSc, hPc, hTc, hHc, hOc, hgc, hEc, hBc, hopc⟩ := id hI74
                    obtain ⟨hzc, hk0c, hk1c, hk2c, hk3c, hk4c, hk5c, hk6c, hk7c, hk8c, hf0c, hf2c, hf3c, hf4c, hf5c, hf6c, hf12c, hf13c⟩ := id hSc
                    obtain ⟨hlnc, hppc, hl2c, hpc⟩ := id hPc
                    obtain ⟨hkdc, hkd2c, hinc, hin2c, hnsc, hns2c, hnmc, hnm2c⟩ := id hTc
                    obtain ⟨hhandc, hhlc⟩ := id hHc
                    first | refine V.aload_n dR_made_75 rfl ?_ | refine V.aload_nN dR_made_75 rfl ?_
                    refine V.dup dR_made_76 rfl ?_
                    refine V.getk dR_made_77 (by omega) (by assumption) f_R_28_4 (by assumption) ?_
                    refine V.iconst (v := (nI 1)) dR_made_80 (by decide) ?_
                    refine V.iaddN dR_made_81 ?_
                    refine V.putk dR_made_82 (by omega) (by assumption) p_R_28_4 rfl rfl ?_
                    intro h82 e82
                    have hI82 : RI G h82 o (fu T.1 f w, T.2) p len hand op gone (ents + 1) bl := by (rw [e82]; exact hI74.ents_)
                    have hF82 : FrO o h h82 := by (rw [e82]; exact hF74.put (by omega))
                    obtain ⟨hSd, hPd, hTd, hHd, hOd, hgd, hEd, hBd, hopd⟩ := id hI82
                    obtain ⟨hzd, hk0d, hk1d, hk2d, hk3d, hk4d, hk5d, hk6d, hk7d, hk8d, hf0d, hf2d, hf3d, hf4d, hf5d, hf6d, hf12d, hf13d⟩ := id hSd
                    obtain ⟨hlnd, hppd, hl2d, hpd⟩ := id hPd
                    obtain ⟨hkdd, hkd2d, hind, hin2d, hnsd, hns2d, hnmd, hnm2d⟩ := id hTd
                    obtain ⟨hhandd, hhld⟩ := id hHd
                    first | refine V.aload_n dR_made_85 rfl ?_ | refine V.aload_nN dR_made_85 rfl ?_
                    refine V.iload_n dR_made_86 rfl ?_
                    refine V.iload_n dR_made_87 rfl ?_
                    refine V.callVk (kd := 4) 0 _ 0 _ [_, _] dR_made_88 okR_put n_R_76 (by omega) (by assumption) rfl imR_put seR_put_R (by decide) (by decide) rfl rfl (Nat.le_of_ble_eq_true rfl) (Nat.le_of_ble_eq_true rfl) (Nat.le_of_eq (Nat.zero_add _)) (Nat.le_of_eq (Nat.zero_add _)) (kR_put hI82 (by omega) hd hnl (fun h9 hI9 hF9 => ?_))
                    refine V.iload_n dR_made_91 rfl ?_
                    refine V.ireturn dR_made_92 rfl rfl ?_
                    exact h1 d hcan f (by omega) (by omega) hf0f h9 hI9 (hF82.tr hF9)
                  · try simp (disch := omega) only [nI_ltI, nI_leI, nI_eq, zz_lt0, zz_ge0, zz_gt0, zz_le0, zz_eq0, zz_m1lt, zz_m1ge, zz_m1eq, bI_eq0, decide_eq_false_iff_not, decide_eq_true_eq, Decidable.not_not, not_true_eq_false, not_false_eq_true, Nat.not_lt, Nat.not_le, Bool.not_eq_false, Bool.not_eq_true] at c_52
                    all_goals omega
                | succ r ih =>
                  intro x hr2 hx
                  have hkx := hfm x (by omega)
                  have hk2x := hkd2 x (by omega)
                  first | refine V.aload_n dR_made_46 rfl ?_ | refine V.aload_nN dR_made_46 rfl ?_
                  refine V.getk dR_made_47 (by omega) (by assumption) f_R_13_4 (by assumption) ?_
                  refine V.iload_n dR_made_50 rfl ?_
                  refine V.ialoadN dR_made_51 (by omega) (by assumption) (by omega) (hkd x (by omega)) ?_
                  refine V.if_eq (tgt := 61) dR_made_52 (by decide) (fun c_52 => ?_) (fun c_52 => ?_)
                  · try simp (disch := omega) only [nI_ltI, nI_leI, nI_eq, zz_lt0, zz_ge0, zz_gt0, zz_le0, zz_eq0, zz_m1lt, zz_m1ge, zz_m1eq, bI_eq0, decide_eq_false_iff_not, decide_eq_true_eq, Decidable.not_not, not_true_eq_false, not_false_eq_true, Nat.not_lt, Nat.not_le, Bool.not_eq_false, Bool.not_eq_true] at c_52
                    all_goals omega
                  · try simp (disch := omega) only [nI_ltI, nI_leI, nI_eq, zz_lt0, zz_ge0, zz_gt0, zz_le0, zz_eq0, zz_m1lt, zz_m1ge, zz_m1eq, bI_eq0, decide_eq_false_iff_not, decide_eq_true_eq, Decidable.not_not, not_true_eq_false, not_false_eq_true, Nat.not_lt, Nat.not_le, Bool.not_eq_false, Bool.not_eq_true] at c_52
                    refine V.iincN dR_made_55 rfl (by decide) ?_
                    refine V.goto (tgt := 46) dR_made_58 (by decide) ?_
                    exact V.re [3, 2, 0, 1] rfl (ih (x + 1) (by omega) (by omega))
              refine V.iconst (v := (nI 1)) dR_made_44 (by decide) ?_
              refine V.istore_n dR_made_45 (by decide) ?_
              exact V.re [3, 2, 0, 1] rfl (loop (f - 1) 1 (by omega) (by omega))
            · try simp only [zz_m1lt, zz_m1ge, not_true_eq_false, not_false_eq_true] at c_39
              all_goals omega
set_option maxHeartbeats 4000000 in
set_option maxRecDepth 100000 in
/-- PathTreeModel.make -/
theorem kR_make {G : GG} {h : HH} {o : Nat} {T : TT} {p : Nat → Nat} {len hand : Nat} {op : Option Nat} {gone : Bool} {ents : Nat} {bl : List (Nat × Nat)} {Q : Option Value → HH → Prop} (hI : RI G h o T p len hand op gone ents bl) (hhd : T.1 hand = 2) (h00 : T.1 0 = 2) (hen : ents = s_many T) (hbk : ∀ q ∈ bl, T.1 q.2 ≠ 0) (h0 : s_lead T p hand len ≠ none ∨ s_can T p hand len ents = none → ∀ h', RI G h' o T p 0 hand op gone ents bl → FrO o h h' → Q (some (.int (nI 0))) h') (h1 : s_lead T p hand len = none → ∀ d, s_can T p hand len ents = some d → ∀ e, 1 ≤ e → e < 300 → T.1 e = 0 → ∀ h', RI G h' o (s_new T e 2 d p len) p 0 hand op gone (ents + 1) bl → FrO o h h' → Q (some (.int (nI 1))) h') : V G mR_make 0 (lv_args 0 [.ref o]) [] h 0 0 Q := by
  obtain ⟨hS, hP, hT, hH, hO, hg, hE, hB, hop⟩ := id hI
  obtain ⟨hz, hk0, hk1, hk2, hk3, hk4, hk5, hk6, hk7, hk8, hf0, hf2, hf3, hf4, hf5, hf6, hf12, hf13⟩ := id hS
  obtain ⟨hln, hpp, hl2, hp⟩ := id hP
  obtain ⟨hkd, hkd2, hin, hin2, hns, hns2, hnm, hnm2⟩ := id hT
  obtain ⟨hhand, hhl⟩ := id hH
  cases hr : s_lead T p hand len with
  | none =>
    first | refine V.aload_n dR_make_0 rfl ?_ | refine V.aload_nN dR_make_0 rfl ?_
    first | refine V.aload_n dR_make_1 rfl ?_ | refine V.aload_nN dR_make_1 rfl ?_
    refine V.getk dR_make_2 (by omega) (by assumption) f_R_44_4 (by assumption) ?_
    refine V.callVk (kd := 4) 0 _ 0 _ [_] dR_make_5 okR_lead n_R_65 (by omega) (by assumption) rfl imR_lead seR_lead_R (by decide) (by decide) rfl rfl (Nat.le_of_ble_eq_true rfl) (Nat.le_of_ble_eq_true rfl) (Nat.le_of_eq (Nat.zero_add _)) (Nat.le_of_eq (Nat.zero_add _)) (kR_lead hS hP hT hH (by omega) ?_)
    rw [hr]
    show V G mR_make 8 _ [.int (-1)] h 0 0 Q
    refine V.if_ge (tgt := 23) dR_make_8 (by decide) (fun c_8 => ?_) (fun c_8 => ?_)
    · try simp only [zz_m1lt, zz_m1ge, not_true_eq_false, not_false_eq_true] at c_8
      all_goals omega
    · try simp only [zz_m1lt, zz_m1ge, not_true_eq_false, not_false_eq_true] at c_8
      first | refine V.aload_n dR_make_11 rfl ?_ | refine V.aload_nN dR_make_11 rfl ?_
      refine V.iconst (v := (nI 2)) dR_make_12 (by decide) ?_
      refine V.callVk (kd := 4) 0 _ 0 _ [_] dR_make_13 okR_made n_R_80 (by omega) (by assumption) rfl imR_made seR_made_R (by decide) (by decide) rfl rfl (Nat.le_of_ble_eq_true rfl) (Nat.le_of_ble_eq_true rfl) (Nat.le_of_eq (Nat.zero_add _)) (Nat.le_of_eq (Nat.zero_add _)) (kR_made hI hhd h00 hen hbk (by omega) (fun hc => ?_) (fun d hc e he1 he2 hfe h9 hI9 hF9 => ?_))
      · show V G mR_make 16 _ [.int (-1)] h 0 0 Q
        refine V.if_lt (tgt := 23) dR_make_16 (by decide) (fun c_16 => ?_) (fun c_16 => ?_)
        · try simp only [zz_m1lt, zz_m1ge, not_true_eq_false, not_false_eq_true] at c_16
          refine V.iconst (v := (nI 0)) dR_make_23 (by decide) ?_
          refine V.istore_n dR_make_24 (by decide) ?_
          first | refine V.aload_n dR_make_25 rfl ?_ | refine V.aload_nN dR_make_25 rfl ?_
          refine V.iconst (v := (nI 0)) dR_make_26 (by decide) ?_
          refine V.putk dR_make_27 (by omega) (by assumption) p_R_44_4 rfl rfl ?_
          intro h2 e2
          have hI2 : RI G h2 o T p 0 hand op gone ents bl := by (rw [e2]; exact hI.len)
          have hF2 : FrO o h h2 := by (rw [e2]; exact FrO.rf.put (by omega))
          refine V.iload_n dR_make_30 rfl ?_
          refine V.ireturn dR_make_31 rfl rfl ?_
          exact h0 (Or.inr hc) h2 hI2 hF2
        · try simp only [zz_m1lt, zz_m1ge, not_true_eq_false, not_false_eq_true] at c_16
          all_goals omega
      · obtain ⟨hSb, hPb, hTb, hHb, hOb, hgb, hEb, hBb, hopb⟩ := id hI9
        obtain ⟨hzb, hk0b, hk1b, hk2b, hk3b, hk4b, hk5b, hk6b, hk7b, hk8b, hf0b, hf2b, hf3b, hf4b, hf5b, hf6b, hf12b, hf13b⟩ := id hSb
        obtain ⟨hlnb, hppb, hl2b, hpb⟩ := id hPb
        obtain ⟨hkdb, hkd2b, hinb, hin2b, hnsb, hns2b, hnmb, hnm2b⟩ := id hTb
        obtain ⟨hhandb, hhlb⟩ := id hHb
        refine V.if_lt (tgt := 23) dR_make_16 (by decide) (fun c_16 => ?_) (fun c_16 => ?_)
        · try simp (disch := omega) only [nI_ltI, nI_leI, nI_eq, zz_lt0, zz_ge0, zz_gt0, zz_le0, zz_eq0, zz_m1lt, zz_m1ge, zz_m1eq, bI_eq0, decide_eq_false_iff_not, decide_eq_true_eq, Decidable.not_not, not_true_eq_false, not_false_eq_true, Nat.not_lt, Nat.not_le, Bool.not_eq_false, Bool.not_eq_true] at c_16
          all_goals omega
        · try simp (disch := omega) only [nI_ltI, nI_leI, nI_eq, zz_lt0, zz_ge0, zz_gt0, zz_le0, zz_eq0, zz_m1lt, zz_m1ge, zz_m1eq, bI_eq0, decide_eq_false_iff_not, decide_eq_true_eq, Decidable.not_not, not_true_eq_false, not_false_eq_true, Nat.not_lt, Nat.not_le, Bool.not_eq_false, Bool.not_eq_true] at c_16
          refine V.iconst (v := (nI 1)) dR_make_19 (by decide) ?_
          refine V.goto (tgt := 24) dR_make_20 (by decide) ?_
          refine V.istore_n dR_make_24 (by decide) ?_
          first | refine V.aload_n dR_make_25 rfl ?_ | refine V.aload_nN dR_make_25 rfl ?_
          refine V.iconst (v := (nI 0)) dR_make_26 (by decide) ?_
          refine V.putk dR_make_27 (by omega) (by assumption) p_R_44_4 rfl rfl ?_
          intro h2 e2
          have hI2 : RI G h2 o (s_new T e 2 d p len) p 0 hand op gone (ents + 1) bl := by (rw [e2]; exact hI9.len)
          have hF2 : FrO o h h2 := by (rw [e2]; exact hF9.put (by omega))
          refine V.iload_n dR_make_30 rfl ?_
          refine V.ireturn dR_make_31 rfl rfl ?_
          exact h1 hr d hc e he1 he2 hfe h2 hI2 hF2
      skip
  | some e =>
    have he := s_lead_lt hin2 hhl hr
    first | refine V.aload_n dR_make_0 rfl ?_ | refine V.aload_nN dR_make_0 rfl ?_
    first | refine V.aload_n dR_make_1 rfl ?_ | refine V.aload_nN dR_make_1 rfl ?_
    refine V.getk dR_make_2 (by omega) (by assumption) f_R_44_4 (by assumption) ?_
    refine V.callVk (kd := 4) 0 _ 0 _ [_] dR_make_5 okR_lead n_R_65 (by omega) (by assumption) rfl imR_lead seR_lead_R (by decide) (by decide) rfl rfl (Nat.le_of_ble_eq_true rfl) (Nat.le_of_ble_eq_true rfl) (Nat.le_of_eq (Nat.zero_add _)) (Nat.le_of_eq (Nat.zero_add _)) (kR_lead hS hP hT hH (by omega) ?_)
    rw [hr]
    show V G mR_make 8 _ [.int (nI e)] h 0 0 Q
    refine V.if_ge (tgt := 23) dR_make_8 (by decide) (fun c_8 => ?_) (fun c_8 => ?_)
    · try simp (disch := omega) only [nI_ltI, nI_leI, nI_eq, zz_lt0, zz_ge0, zz_gt0, zz_le0, zz_eq0, zz_m1lt, zz_m1ge, zz_m1eq, bI_eq0, decide_eq_false_iff_not, decide_eq_true_eq, Decidable.not_not, not_true_eq_false, not_false_eq_true, Nat.not_lt, Nat.not_le, Bool.not_eq_false, Bool.not_eq_true] at c_8
      refine V.iconst (v := (nI 0)) dR_make_23 (by decide) ?_
      refine V.istore_n dR_make_24 (by decide) ?_
      first | refine V.aload_n dR_make_25 rfl ?_ | refine V.aload_nN dR_make_25 rfl ?_
      refine V.iconst (v := (nI 0)) dR_make_26 (by decide) ?_
      refine V.putk dR_make_27 (by omega) (by assumption) p_R_44_4 rfl rfl ?_
      intro h2 e2
      have hI2 : RI G h2 o T p 0 hand op gone ents bl := by (rw [e2]; exact hI.len)
      have hF2 : FrO o h h2 := by (rw [e2]; exact FrO.rf.put (by omega))
      refine V.iload_n dR_make_30 rfl ?_
      refine V.ireturn dR_make_31 rfl rfl ?_
      exact h0 (Or.inl (by rw [hr]; exact fun z => by (cases z))) h2 hI2 hF2
    · try simp (disch := omega) only [nI_ltI, nI_leI, nI_eq, zz_lt0, zz_ge0, zz_gt0, zz_le0, zz_eq0, zz_m1lt, zz_m1ge, zz_m1eq, bI_eq0, decide_eq_false_iff_not, decide_eq_true_eq, Decidable.not_not, not_true_eq_false, not_false_eq_true, Nat.not_lt, Nat.not_le, Bool.not_eq_false, Bool.not_eq_true] at c_8
      all_goals omega
end
section
set_option maxHeartbeats 4000000 in
set_option maxRecDepth 100000 in
/-- PathTreeModel.open -/
theorem kR_open {G : GG} {h : HH} {o : Nat} {T : TT} {p : Nat → Nat} {len hand : Nat} {op : Option Nat} {gone : Bool} {ents : Nat} {bl : List (Nat × Nat)} {Q : Option Value → HH → Prop} (hI : RI G h o T p len hand op gone ents bl) (hhd : T.1 hand = 2) (h00 : T.1 0 = 2) (hen : ents = s_many T) (hbk : ∀ q ∈ bl, T.1 q.2 ≠ 0) (qA : (∃ e, s_lead T p hand len = some e ∧ T.1 e ≠ 1) ∨ (s_lead T p hand len = none ∧ s_can T p hand len ents = none) → ∀ h', RI G h' o T p 0 hand none false ents bl → FrO o h h' → Q (some (.int (nI 0))) h') (qB : ∀ e, s_lead T p hand len = some e → T.1 e = 1 → ∀ h', RI G h' o T p 0 hand (some e) false ents bl → FrO o h h' → Q (some (.int (nI 1))) h') (qC : s_lead T p hand len = none → ∀ d, s_can T p hand len ents = some d → ∀ e, 1 ≤ e → e < 300 → T.1 e = 0 → ∀ h', RI G h' o (s_new T e 1 d p len) p 0 hand (some e) false (ents + 1) bl → FrO o h h' → Q (some (.int (nI 1))) h') : V G mR_open 0 (lv_args 0 [.ref o]) [] h 0 0 Q := by
  obtain ⟨hS, hP, hT, hH, hO, hg, hE, hB, hop⟩ := id hI
  obtain ⟨hz, hk0, hk1, hk2, hk3, hk4, hk5, hk6, hk7, hk8, hf0, hf2, hf3, hf4, hf5, hf6, hf12, hf13⟩ := id hS
  obtain ⟨hln, hpp, hl2, hp⟩ := id hP
  obtain ⟨hkd, hkd2, hin, hin2, hns, hns2, hnm, hnm2⟩ := id hT
  obtain ⟨hhand, hhl⟩ := id hH
  cases hr : s_lead T p hand len with
  | some e =>
    have he := s_lead_lt hin2 hhl hr
    have hke := hkd2 e he
    by_cases hk1e : T.1 e = 1
    · first | refine V.aload_n dR_open_0 rfl ?_ | refine V.aload_nN dR_open_0 rfl ?_
      first | refine V.aload_n dR_open_1 rfl ?_ | refine V.aload_nN dR_open_1 rfl ?_
      refine V.getk dR_open_2 (by omega) (by assumption) f_R_44_4 (by assumption) ?_
      refine V.callVk (kd := 4) 0 _ 0 _ [_] dR_open_5 okR_lead n_R_65 (by omega) (by assumption) rfl imR_lead seR_lead_R (by decide) (by decide) rfl rfl (Nat.le_of_ble_eq_true rfl) (Nat.le_of_ble_eq_true rfl) (Nat.le_of_eq (Nat.zero_add _)) (Nat.le_of_eq (Nat.zero_add _)) (kR_lead hS hP hT hH (by omega) ?_)
      rw [hr]
      show V G mR_open 8 _ [.int (nI e)] h 0 0 Q
      refine V.istore_n dR_open_8 (by decide) ?_
      refine V.iload_n dR_open_9 rfl ?_
      refine V.if_ge (tgt := 19) dR_open_10 (by decide) (fun c_10 => ?_) (fun c_10 => ?_)
      · try simp (disch := omega) only [nI_ltI, nI_leI, nI_eq, zz_lt0, zz_ge0, zz_gt0, zz_le0, zz_eq0, zz_m1lt, zz_m1ge, zz_m1eq, bI_eq0, decide_eq_false_iff_not, decide_eq_true_eq, Decidable.not_not, not_true_eq_false, not_false_eq_true, Nat.not_lt, Nat.not_le, Bool.not_eq_false, Bool.not_eq_true] at c_10
        first | refine V.aload_n dR_open_19 rfl ?_ | refine V.aload_nN dR_open_19 rfl ?_
        refine V.iconst (v := (nI 0)) dR_open_20 (by decide) ?_
        refine V.putk dR_open_21 (by omega) (by assumption) p_R_44_4 rfl rfl ?_
        intro h2 e2
        have hI2 : RI G h2 o T p 0 hand op gone ents bl := by (rw [e2]; exact hI.len)
        have hF2 : FrO o h h2 := by (rw [e2]; exact FrO.rf.put (by omega))
        obtain ⟨hSu, hPu, hTu, hHu, hOu, hgu, hEu, hBu, hopu⟩ := id hI2
        obtain ⟨hzu, hk0u, hk1u, hk2u, hk3u, hk4u, hk5u, hk6u, hk7u, hk8u, hf0u, hf2u, hf3u, hf4u, hf5u, hf6u, hf12u, hf13u⟩ := id hSu
        obtain ⟨hlnu, hppu, hl2u, hpu⟩ := id hPu
        obtain ⟨hkdu, hkd2u, hinu, hin2u, hnsu, hns2u, hnmu, hnm2u⟩ := id hTu
        obtain ⟨hhandu, hhlu⟩ := id hHu
        first | refine V.aload_n dR_open_24 rfl ?_ | refine V.aload_nN dR_open_24 rfl ?_
        refine V.iload_n dR_open_25 rfl ?_
        refine V.if_lt (tgt := 43) dR_open_26 (by decide) (fun c_26 => ?_) (fun c_26 => ?_)
        · try simp (disch := omega) only [nI_ltI, nI_leI, nI_eq, zz_lt0, zz_ge0, zz_gt0, zz_le0, zz_eq0, zz_m1lt, zz_m1ge, zz_m1eq, bI_eq0, decide_eq_false_iff_not, decide_eq_true_eq, Decidable.not_not, not_true_eq_false, not_false_eq_true, Nat.not_lt, Nat.not_le, Bool.not_eq_false, Bool.not_eq_true] at c_26
          all_goals omega
        · try simp (disch := omega) only [nI_ltI, nI_leI, nI_eq, zz_lt0, zz_ge0, zz_gt0, zz_le0, zz_eq0, zz_m1lt, zz_m1ge, zz_m1eq, bI_eq0, decide_eq_false_iff_not, decide_eq_true_eq, Decidable.not_not, not_true_eq_false, not_false_eq_true, Nat.not_lt, Nat.not_le, Bool.not_eq_false, Bool.not_eq_true] at c_26
          first | refine V.aload_n dR_open_29 rfl ?_ | refine V.aload_nN dR_open_29 rfl ?_
          refine V.getk dR_open_30 (by omega) (by assumption) f_R_13_4 (by assumption) ?_
          refine V.iload_n dR_open_33 rfl ?_
          refine V.ialoadN dR_open_34 (by omega) (by assumption) (by omega) (hkdu e he) ?_
          refine V.iconst (v := (nI 1)) dR_open_35 (by decide) ?_
          refine V.icmp_ne (tgt := 43) dR_open_36 (by decide) (fun c_36 => ?_) (fun c_36 => ?_)
          · try simp (disch := omega) only [nI_ltI, nI_leI, nI_eq, zz_lt0, zz_ge0, zz_gt0, zz_le0, zz_eq0, zz_m1lt, zz_m1ge, zz_m1eq, bI_eq0, decide_eq_false_iff_not, decide_eq_true_eq, Decidable.not_not, not_true_eq_false, not_false_eq_true, Nat.not_lt, Nat.not_le, Bool.not_eq_false, Bool.not_eq_true] at c_36
            all_goals omega
          · try simp (disch := omega) only [nI_ltI, nI_leI, nI_eq, zz_lt0, zz_ge0, zz_gt0, zz_le0, zz_eq0, zz_m1lt, zz_m1ge, zz_m1eq, bI_eq0, decide_eq_false_iff_not, decide_eq_true_eq, Decidable.not_not, not_true_eq_false, not_false_eq_true, Nat.not_lt, Nat.not_le, Bool.not_eq_false, Bool.not_eq_true] at c_36
            refine V.iload_n dR_open_39 rfl ?_
            refine V.goto (tgt := 44) dR_open_40 (by decide) ?_
            refine V.putk dR_open_44 (by omega) (by assumption) p_R_32_4 rfl rfl ?_
            intro h3 e3
            have hI3 : RI G h3 o T p 0 hand (some e) gone ents bl := by (rw [e3]; exact hI2.op_ rfl (fun x z => by (cases z; omega)))
            have hF3 : FrO o h h3 := by (rw [e3]; exact hF2.put (by omega))
            obtain ⟨hSv, hPv, hTv, hHv, hOv, hgv, hEv, hBv, hopv⟩ := id hI3
            obtain ⟨hzv, hk0v, hk1v, hk2v, hk3v, hk4v, hk5v, hk6v, hk7v, hk8v, hf0v, hf2v, hf3v, hf4v, hf5v, hf6v, hf12v, hf13v⟩ := id hSv
            obtain ⟨hlnv, hppv, hl2v, hpv⟩ := id hPv
            obtain ⟨hkdv, hkd2v, hinv, hin2v, hnsv, hns2v, hnmv, hnm2v⟩ := id hTv
            obtain ⟨hhandv, hhlv⟩ := id hHv
            first | refine V.aload_n dR_open_47 rfl ?_ | refine V.aload_nN dR_open_47 rfl ?_
            refine V.iconst (v := (nI 0)) dR_open_48 (by decide) ?_
            refine V.putk dR_open_49 (by omega) (by assumption) p_R_83_4 rfl rfl ?_
            intro h4 e4
            have hI4 : RI G h4 o T p 0 hand (some e) false ents bl := by (rw [e4]; exact hI3.gone_ rfl)
            have hF4 : FrO o h h4 := by (rw [e4]; exact hF3.put (by omega))
            obtain ⟨hSw, hPw, hTw, hHw, hOw, hgw, hEw, hBw, hopw⟩ := id hI4
            obtain ⟨hzw, hk0w, hk1w, hk2w, hk3w, hk4w, hk5w, hk6w, hk7w, hk8w, hf0w, hf2w, hf3w, hf4w, hf5w, hf6w, hf12w, hf13w⟩ := id hSw
            obtain ⟨hlnw, hppw, hl2w, hpw⟩ := id hPw
            obtain ⟨hkdw, hkd2w, hinw, hin2w, hnsw, hns2w, hnmw, hnm2w⟩ := id hTw
            obtain ⟨hhandw, hhlw⟩ := id hHw
            have hO9 : h4.2.1 o 9 = .int (nI e) := hOw
            first | refine V.aload_n dR_open_52 rfl ?_ | refine V.aload_nN dR_open_52 rfl ?_
            refine V.getk dR_open_53 (by omega) (by assumption) f_R_32_4 hO9 ?_
            refine V.if_lt (tgt := 63) dR_open_56 (by decide) (fun c_56 => ?_) (fun c_56 => ?_)
            · try simp (disch := omega) only [nI_ltI, nI_leI, nI_eq, zz_lt0, zz_ge0, zz_gt0, zz_le0, zz_eq0, zz_m1lt, zz_m1ge, zz_m1eq, bI_eq0, decide_eq_false_iff_not, decide_eq_true_eq, Decidable.not_not, not_true_eq_false, not_false_eq_true, Nat.not_lt, Nat.not_le, Bool.not_eq_false, Bool.not_eq_true] at c_56
              all_goals omega
            · try simp (disch := omega) only [nI_ltI, nI_leI, nI_eq, zz_lt0, zz_ge0, zz_gt0, zz_le0, zz_eq0, zz_m1lt, zz_m1ge, zz_m1eq, bI_eq0, decide_eq_false_iff_not, decide_eq_true_eq, Decidable.not_not, not_true_eq_false, not_false_eq_true, Nat.not_lt, Nat.not_le, Bool.not_eq_false, Bool.not_eq_true] at c_56
              refine V.iconst (v := (nI 1)) dR_open_59 (by decide) ?_
              refine V.goto (tgt := 64) dR_open_60 (by decide) ?_
              refine V.ireturn dR_open_64 rfl rfl ?_
              exact qB e hr hk1e h4 hI4 hF4
      · try simp (disch := omega) only [nI_ltI, nI_leI, nI_eq, zz_lt0, zz_ge0, zz_gt0, zz_le0, zz_eq0, zz_m1lt, zz_m1ge, zz_m1eq, bI_eq0, decide_eq_false_iff_not, decide_eq_true_eq, Decidable.not_not, not_true_eq_false, not_false_eq_true, Nat.not_lt, Nat.not_le, Bool.not_eq_false, Bool.not_eq_true] at c_10
        all_goals omega
    · first | refine V.aload_n dR_open_0 rfl ?_ | refine V.aload_nN dR_open_0 rfl ?_
      first | refine V.aload_n dR_open_1 rfl ?_ | refine V.aload_nN dR_open_1 rfl ?_
      refine V.getk dR_open_2 (by omega) (by assumption) f_R_44_4 (by assumption) ?_
      refine V.callVk (kd := 4) 0 _ 0 _ [_] dR_open_5 okR_lead n_R_65 (by omega) (by assumption) rfl imR_lead seR_lead_R (by decide) (by decide) rfl rfl (Nat.le_of_ble_eq_true rfl) (Nat.le_of_ble_eq_true rfl) (Nat.le_of_eq (Nat.zero_add _)) (Nat.le_of_eq (Nat.zero_add _)) (kR_lead hS hP hT hH (by omega) ?_)
      rw [hr]
      show V G mR_open 8 _ [.int (nI e)] h 0 0 Q
      refine V.istore_n dR_open_8 (by decide) ?_
      refine V.iload_n dR_open_9 rfl ?_
      refine V.if_ge (tgt := 19) dR_open_10 (by decide) (fun c_10 => ?_) (fun c_10 => ?_)
      · try simp (disch := omega) only [nI_ltI, nI_leI, nI_eq, zz_lt0, zz_ge0, zz_gt0, zz_le0, zz_eq0, zz_m1lt, zz_m1ge, zz_m1eq, bI_eq0, decide_eq_false_iff_not, decide_eq_true_eq, Decidable.not_not, not_true_eq_false, not_false_eq_true, Nat.not_lt, Nat.not_le, Bool.not_eq_false, Bool.not_eq_true] at c_10
        first | refine V.aload_n dR_open_19 rfl ?_ | refine V.aload_nN dR_open_19 rfl ?_
        refine V.iconst (v := (nI 0)) dR_open_20 (by decide) ?_
        refine V.putk dR_open_21 (by omega) (by assumption) p_R_44_4 rfl rfl ?_
        intro h2 e2
        have hI2 : RI G h2 o T p 0 hand op gone ents bl := by (rw [e2]; exact hI.len)
        have hF2 : FrO o h h2 := by (rw [e2]; exact FrO.rf.put (by omega))
        obtain ⟨hSu, hPu, hTu, hHu, hOu, hgu, hEu, hBu, hopu⟩ := id hI2
        obtain ⟨hzu, hk0u, hk1u, hk2u, hk3u, hk4u, hk5u, hk6u, hk7u, hk8u, hf0u, hf2u, hf3u, hf4u, hf5u, hf6u, hf12u, hf13u⟩ := id hSu
        obtain ⟨hlnu, hppu, hl2u, hpu⟩ := id hPu
        obtain ⟨hkdu, hkd2u, hinu, hin2u, hnsu, hns2u, hnmu, hnm2u⟩ := id hTu
        obtain ⟨hhandu, hhlu⟩ := id hHu
        first | refine V.aload_n dR_open_24 rfl ?_ | refine V.aload_nN dR_open_24 rfl ?_
        refine V.iload_n dR_open_25 rfl ?_
        refine V.if_lt (tgt := 43) dR_open_26 (by decide) (fun c_26 => ?_) (fun c_26 => ?_)
        · try simp (disch := omega) only [nI_ltI, nI_leI, nI_eq, zz_lt0, zz_ge0, zz_gt0, zz_le0, zz_eq0, zz_m1lt, zz_m1ge, zz_m1eq, bI_eq0, decide_eq_false_iff_not, decide_eq_true_eq, Decidable.not_not, not_true_eq_false, not_false_eq_true, Nat.not_lt, Nat.not_le, Bool.not_eq_false, Bool.not_eq_true] at c_26
          all_goals omega
        · try simp (disch := omega) only [nI_ltI, nI_leI, nI_eq, zz_lt0, zz_ge0, zz_gt0, zz_le0, zz_eq0, zz_m1lt, zz_m1ge, zz_m1eq, bI_eq0, decide_eq_false_iff_not, decide_eq_true_eq, Decidable.not_not, not_true_eq_false, not_false_eq_true, Nat.not_lt, Nat.not_le, Bool.not_eq_false, Bool.not_eq_true] at c_26
          first | refine V.aload_n dR_open_29 rfl ?_ | refine V.aload_nN dR_open_29 rfl ?_
          refine V.getk dR_open_30 (by omega) (by assumption) f_R_13_4 (by assumption) ?_
          refine V.iload_n dR_open_33 rfl ?_
          refine V.ialoadN dR_open_34 (by omega) (by assumption) (by omega) (hkdu e he) ?_
          refine V.iconst (v := (nI 1)) dR_open_35 (by decide) ?_
          refine V.icmp_ne (tgt := 43) dR_open_36 (by decide) (fun c_36 => ?_) (fun c_36 => ?_)
          · try simp (disch := omega) only [nI_ltI, nI_leI, nI_eq, zz_lt0, zz_ge0, zz_gt0, zz_le0, zz_eq0, zz_m1lt, zz_m1ge, zz_m1eq, bI_eq0, decide_eq_false_iff_not, decide_eq_true_eq, Decidable.not_not, not_true_eq_false, not_false_eq_true, Nat.not_lt, Nat.not_le, Bool.not_eq_false, Bool.not_eq_true] at c_36
            refine V.iconst (v := (-1)) dR_open_43 (by decide) ?_
            refine V.putk dR_open_44 (by omega) (by assumption) p_R_32_4 rfl rfl ?_
            intro h3 e3
            have hI3 : RI G h3 o T p 0 hand none gone ents bl := by (rw [e3]; exact hI2.op_ rfl (fun e z => by (cases z)))
            have hF3 : FrO o h h3 := by (rw [e3]; exact hF2.put (by omega))
            obtain ⟨hSv, hPv, hTv, hHv, hOv, hgv, hEv, hBv, hopv⟩ := id hI3
            obtain ⟨hzv, hk0v, hk1v, hk2v, hk3v, hk4v, hk5v, hk6v, hk7v, hk8v, hf0v, hf2v, hf3v, hf4v, hf5v, hf6v, hf12v, hf13v⟩ := id hSv
            obtain ⟨hlnv, hppv, hl2v, hpv⟩ := id hPv
            obtain ⟨hkdv, hkd2v, hinv, hin2v, hnsv, hns2v, hnmv, hnm2v⟩ := id hTv
            obtain ⟨hhandv, hhlv⟩ := id hHv
            first | refine V.aload_n dR_open_47 rfl ?_ | refine V.aload_nN dR_open_47 rfl ?_
            refine V.iconst (v := (nI 0)) dR_open_48 (by decide) ?_
            refine V.putk dR_open_49 (by omega) (by assumption) p_R_83_4 rfl rfl ?_
            intro h4 e4
            have hI4 : RI G h4 o T p 0 hand none false ents bl := by (rw [e4]; exact hI3.gone_ rfl)
            have hF4 : FrO o h h4 := by (rw [e4]; exact hF3.put (by omega))
            obtain ⟨hSw, hPw, hTw, hHw, hOw, hgw, hEw, hBw, hopw⟩ := id hI4
            obtain ⟨hzw, hk0w, hk1w, hk2w, hk3w, hk4w, hk5w, hk6w, hk7w, hk8w, hf0w, hf2w, hf3w, hf4w, hf5w, hf6w, hf12w, hf13w⟩ := id hSw
            obtain ⟨hlnw, hppw, hl2w, hpw⟩ := id hPw
            obtain ⟨hkdw, hkd2w, hinw, hin2w, hnsw, hns2w, hnmw, hnm2w⟩ := id hTw
            obtain ⟨hhandw, hhlw⟩ := id hHw
            have hO9 : h4.2.1 o 9 = .int (-1) := hOw
            first | refine V.aload_n dR_open_52 rfl ?_ | refine V.aload_nN dR_open_52 rfl ?_
            refine V.getk dR_open_53 (by omega) (by assumption) f_R_32_4 hO9 ?_
            refine V.if_lt (tgt := 63) dR_open_56 (by decide) (fun c_56 => ?_) (fun c_56 => ?_)
            · try simp only [zz_m1lt, zz_m1ge, not_true_eq_false, not_false_eq_true] at c_56
              refine V.iconst (v := (nI 0)) dR_open_63 (by decide) ?_
              refine V.ireturn dR_open_64 rfl rfl ?_
              exact qA (Or.inl ⟨e, hr, hk1e⟩) h4 hI4 hF4
            · try simp only [zz_m1lt, zz_m1ge, not_true_eq_false, not_false_eq_true] at c_56
              all_goals omega
          · try simp (disch := omega) only [nI_ltI, nI_leI, nI_eq, zz_lt0, zz_ge0, zz_gt0, zz_le0, zz_eq0, zz_m1lt, zz_m1ge, zz_m1eq, bI_eq0, decide_eq_false_iff_not, decide_eq_true_eq, Decidable.not_not, not_true_eq_false, not_false_eq_true, Nat.not_lt, Nat.not_le, Bool.not_eq_false, Bool.not_eq_true] at c_36
            all_goals omega
      · try simp (disch := omega) only [nI_ltI, nI_leI, nI_eq, zz_lt0, zz_ge0, zz_gt0, zz_le0, zz_eq0, zz_m1lt, zz_m1ge, zz_m1eq, bI_eq0, decide_eq_false_iff_not, decide_eq_true_eq, Decidable.not_not, not_true_eq_false, not_false_eq_true, Nat.not_lt, Nat.not_le, Bool.not_eq_false, Bool.not_eq_true] at c_10
        all_goals omega
  | none =>
    first | refine V.aload_n dR_open_0 rfl ?_ | refine V.aload_nN dR_open_0 rfl ?_
    first | refine V.aload_n dR_open_1 rfl ?_ | refine V.aload_nN dR_open_1 rfl ?_
    refine V.getk dR_open_2 (by omega) (by assumption) f_R_44_4 (by assumption) ?_
    refine V.callVk (kd := 4) 0 _ 0 _ [_] dR_open_5 okR_lead n_R_65 (by omega) (by assumption) rfl imR_lead seR_lead_R (by decide) (by decide) rfl rfl (Nat.le_of_ble_eq_true rfl) (Nat.le_of_ble_eq_true rfl) (Nat.le_of_eq (Nat.zero_add _)) (Nat.le_of_eq (Nat.zero_add _)) (kR_lead hS hP hT hH (by omega) ?_)
    rw [hr]
    show V G mR_open 8 _ [.int (-1)] h 0 0 Q
    refine V.istore_n dR_open_8 (by decide) ?_
    refine V.iload_n dR_open_9 rfl ?_
    refine V.if_ge (tgt := 19) dR_open_10 (by decide) (fun c_10 => ?_) (fun c_10 => ?_)
    · try simp only [zz_m1lt, zz_m1ge, not_true_eq_false, not_false_eq_true] at c_10
      all_goals omega
    · try simp only [zz_m1lt, zz_m1ge, not_true_eq_false, not_false_eq_true] at c_10
      first | refine V.aload_n dR_open_13 rfl ?_ | refine V.aload_nN dR_open_13 rfl ?_
      refine V.iconst (v := (nI 1)) dR_open_14 (by decide) ?_
      refine V.callVk (kd := 4) 0 _ 0 _ [_] dR_open_15 okR_made n_R_80 (by omega) (by assumption) rfl imR_made seR_made_R (by decide) (by decide) rfl rfl (Nat.le_of_ble_eq_true rfl) (Nat.le_of_ble_eq_true rfl) (Nat.le_of_eq (Nat.zero_add _)) (Nat.le_of_eq (Nat.zero_add _)) (kR_made hI hhd h00 hen hbk (by omega) (fun hc => ?_) (fun d hc e he1 he2 hfe h9 hI9 hF9 => ?_))
      · show V G mR_open 18 _ [.int (-1)] h 0 0 Q
        refine V.istore_n dR_open_18 (by decide) ?_
        first | refine V.aload_n dR_open_19 rfl ?_ | refine V.aload_nN dR_open_19 rfl ?_
        refine V.iconst (v := (nI 0)) dR_open_20 (by decide) ?_
        refine V.putk dR_open_21 (by omega) (by assumption) p_R_44_4 rfl rfl ?_
        intro h2 e2
        have hI2 : RI G h2 o T p 0 hand op gone ents bl := by (rw [e2]; exact hI.len)
        have hF2 : FrO o h h2 := by (rw [e2]; exact FrO.rf.put (by omega))
        obtain ⟨hSu, hPu, hTu, hHu, hOu, hgu, hEu, hBu, hopu⟩ := id hI2
        obtain ⟨hzu, hk0u, hk1u, hk2u, hk3u, hk4u, hk5u, hk6u, hk7u, hk8u, hf0u, hf2u, hf3u, hf4u, hf5u, hf6u, hf12u, hf13u⟩ := id hSu
        obtain ⟨hlnu, hppu, hl2u, hpu⟩ := id hPu
        obtain ⟨hkdu, hkd2u, hinu, hin2u, hnsu, hns2u, hnmu, hnm2u⟩ := id hTu
        obtain ⟨hhandu, hhlu⟩ := id hHu
        first | refine V.aload_n dR_open_24 rfl ?_ | refine V.aload_nN dR_open_24 rfl ?_
        refine V.iload_n dR_open_25 rfl ?_
        refine V.if_lt (tgt := 43) dR_open_26 (by decide) (fun c_26 => ?_) (fun c_26 => ?_)
        · try simp only [zz_m1lt, zz_m1ge, not_true_eq_false, not_false_eq_true] at c_26
          refine V.iconst (v := (-1)) dR_open_43 (by decide) ?_
          refine V.putk dR_open_44 (by omega) (by assumption) p_R_32_4 rfl rfl ?_
          intro h3 e3
          have hI3 : RI G h3 o T p 0 hand none gone ents bl := by (rw [e3]; exact hI2.op_ rfl (fun e z => by (cases z)))
          have hF3 : FrO o h h3 := by (rw [e3]; exact hF2.put (by omega))
          obtain ⟨hSv, hPv, hTv, hHv, hOv, hgv, hEv, hBv, hopv⟩ := id hI3
          obtain ⟨hzv, hk0v, hk1v, hk2v, hk3v, hk4v, hk5v, hk6v, hk7v, hk8v, hf0v, hf2v, hf3v, hf4v, hf5v, hf6v, hf12v, hf13v⟩ := id hSv
          obtain ⟨hlnv, hppv, hl2v, hpv⟩ := id hPv
          obtain ⟨hkdv, hkd2v, hinv, hin2v, hnsv, hns2v, hnmv, hnm2v⟩ := id hTv
          obtain ⟨hhandv, hhlv⟩ := id hHv
          first | refine V.aload_n dR_open_47 rfl ?_ | refine V.aload_nN dR_open_47 rfl ?_
          refine V.iconst (v := (nI 0)) dR_open_48 (by decide) ?_
          refine V.putk dR_open_49 (by omega) (by assumption) p_R_83_4 rfl rfl ?_
          intro h4 e4
          have hI4 : RI G h4 o T p 0 hand none false ents bl := by (rw [e4]; exact hI3.gone_ rfl)
          have hF4 : FrO o h h4 := by (rw [e4]; exact hF3.put (by omega))
          obtain ⟨hSw, hPw, hTw, hHw, hOw, hgw, hEw, hBw, hopw⟩ := id hI4
          obtain ⟨hzw, hk0w, hk1w, hk2w, hk3w, hk4w, hk5w, hk6w, hk7w, hk8w, hf0w, hf2w, hf3w, hf4w, hf5w, hf6w, hf12w, hf13w⟩ := id hSw
          obtain ⟨hlnw, hppw, hl2w, hpw⟩ := id hPw
          obtain ⟨hkdw, hkd2w, hinw, hin2w, hnsw, hns2w, hnmw, hnm2w⟩ := id hTw
          obtain ⟨hhandw, hhlw⟩ := id hHw
          have hO9 : h4.2.1 o 9 = .int (-1) := hOw
          first | refine V.aload_n dR_open_52 rfl ?_ | refine V.aload_nN dR_open_52 rfl ?_
          refine V.getk dR_open_53 (by omega) (by assumption) f_R_32_4 hO9 ?_
          refine V.if_lt (tgt := 63) dR_open_56 (by decide) (fun c_56 => ?_) (fun c_56 => ?_)
          · try simp only [zz_m1lt, zz_m1ge, not_true_eq_false, not_false_eq_true] at c_56
            refine V.iconst (v := (nI 0)) dR_open_63 (by decide) ?_
            refine V.ireturn dR_open_64 rfl rfl ?_
            exact qA (Or.inr ⟨hr, hc⟩) h4 hI4 hF4
          · try simp only [zz_m1lt, zz_m1ge, not_true_eq_false, not_false_eq_true] at c_56
            all_goals omega
        · try simp only [zz_m1lt, zz_m1ge, not_true_eq_false, not_false_eq_true] at c_26
          all_goals omega
      · have hkne : (s_new T e 1 d p len).1 e = 1 := fu_s
        obtain ⟨hSb, hPb, hTb, hHb, hOb, hgb, hEb, hBb, hopb⟩ := id hI9
        obtain ⟨hzb, hk0b, hk1b, hk2b, hk3b, hk4b, hk5b, hk6b, hk7b, hk8b, hf0b, hf2b, hf3b, hf4b, hf5b, hf6b, hf12b, hf13b⟩ := id hSb
        obtain ⟨hlnb, hppb, hl2b, hpb⟩ := id hPb
        obtain ⟨hkdb, hkd2b, hinb, hin2b, hnsb, hns2b, hnmb, hnm2b⟩ := id hTb
        obtain ⟨hhandb, hhlb⟩ := id hHb
        refine V.istore_n dR_open_18 (by decide) ?_
        first | refine V.aload_n dR_open_19 rfl ?_ | refine V.aload_nN dR_open_19 rfl ?_
        refine V.iconst (v := (nI 0)) dR_open_20 (by decide) ?_
        refine V.putk dR_open_21 (by omega) (by assumption) p_R_44_4 rfl rfl ?_
        intro h2 e2
        have hI2 : RI G h2 o (s_new T e 1 d p len) p 0 hand op gone (ents + 1) bl := by (rw [e2]; exact hI9.len)
        have hF2 : FrO o h h2 := by (rw [e2]; exact hF9.put (by omega))
        obtain ⟨hSu, hPu, hTu, hHu, hOu, hgu, hEu, hBu, hopu⟩ := id hI2
        obtain ⟨hzu, hk0u, hk1u, hk2u, hk3u, hk4u, hk5u, hk6u, hk7u, hk8u, hf0u, hf2u, hf3u, hf4u, hf5u, hf6u, hf12u, hf13u⟩ := id hSu
        obtain ⟨hlnu, hppu, hl2u, hpu⟩ := id hPu
        obtain ⟨hkdu, hkd2u, hinu, hin2u, hnsu, hns2u, hnmu, hnm2u⟩ := id hTu
        obtain ⟨hhandu, hhlu⟩ := id hHu
        first | refine V.aload_n dR_open_24 rfl ?_ | refine V.aload_nN dR_open_24 rfl ?_
        refine V.iload_n dR_open_25 rfl ?_
        refine V.if_lt (tgt := 43) dR_open_26 (by decide) (fun c_26 => ?_) (fun c_26 => ?_)
        · try simp (disch := omega) only [nI_ltI, nI_leI, nI_eq, zz_lt0, zz_ge0, zz_gt0, zz_le0, zz_eq0, zz_m1lt, zz_m1ge, zz_m1eq, bI_eq0, decide_eq_false_iff_not, decide_eq_true_eq, Decidable.not_not, not_true_eq_false, not_false_eq_true, Nat.not_lt, Nat.not_le, Bool.not_eq_false, Bool.not_eq_true] at c_26
          all_goals omega
        · try simp (disch := omega) only [nI_ltI, nI_leI, nI_eq, zz_lt0, zz_ge0, zz_gt0, zz_le0, zz_eq0, zz_m1lt, zz_m1ge, zz_m1eq, bI_eq0, decide_eq_false_iff_not, decide_eq_true_eq, Decidable.not_not, not_true_eq_false, not_false_eq_true, Nat.not_lt, Nat.not_le, Bool.not_eq_false, Bool.not_eq_true] at c_26
          first | refine V.aload_n dR_open_29 rfl ?_ | refine V.aload_nN dR_open_29 rfl ?_
          refine V.getk dR_open_30 (by omega) (by assumption) f_R_13_4 (by assumption) ?_
          refine V.iload_n dR_open_33 rfl ?_
          refine V.ialoadN dR_open_34 (by omega) (by assumption) (by omega) (hkdu e he2) ?_
          refine V.iconst (v := (nI 1)) dR_open_35 (by decide) ?_
          refine V.icmp_ne (tgt := 43) dR_open_36 (by decide) (fun c_36 => ?_) (fun c_36 => ?_)
          · try simp (disch := omega) only [nI_ltI, nI_leI, nI_eq, zz_lt0, zz_ge0, zz_gt0, zz_le0, zz_eq0, zz_m1lt, zz_m1ge, zz_m1eq, bI_eq0, decide_eq_false_iff_not, decide_eq_true_eq, Decidable.not_not, not_true_eq_false, not_false_eq_true, Nat.not_lt, Nat.not_le, Bool.not_eq_false, Bool.not_eq_true] at c_36
            all_goals omega
          · try simp (disch := omega) only [nI_ltI, nI_leI, nI_eq, zz_lt0, zz_ge0, zz_gt0, zz_le0, zz_eq0, zz_m1lt, zz_m1ge, zz_m1eq, bI_eq0, decide_eq_false_iff_not, decide_eq_true_eq, Decidable.not_not, not_true_eq_false, not_false_eq_true, Nat.not_lt, Nat.not_le, Bool.not_eq_false, Bool.not_eq_true] at c_36
            refine V.iload_n dR_open_39 rfl ?_
            refine V.goto (tgt := 44) dR_open_40 (by decide) ?_
            refine V.putk dR_open_44 (by omega) (by assumption) p_R_32_4 rfl rfl ?_
            intro h3 e3
            have hI3 : RI G h3 o (s_new T e 1 d p len) p 0 hand (some e) gone (ents + 1) bl := by (rw [e3]; exact hI2.op_ rfl (fun x z => by (cases z; omega)))
            have hF3 : FrO o h h3 := by (rw [e3]; exact hF2.put (by omega))
            obtain ⟨hSv, hPv, hTv, hHv, hOv, hgv, hEv, hBv, hopv⟩ := id hI3
            obtain ⟨hzv, hk0v, hk1v, hk2v, hk3v, hk4v, hk5v, hk6v, hk7v, hk8v, hf0v, hf2v, hf3v, hf4v, hf5v, hf6v, hf12v, hf13v⟩ := id hSv
            obtain ⟨hlnv, hppv, hl2v, hpv⟩ := id hPv
            obtain ⟨hkdv, hkd2v, hinv, hin2v, hnsv, hns2v, hnmv, hnm2v⟩ := id hTv
            obtain ⟨hhandv, hhlv⟩ := id hHv
            first | refine V.aload_n dR_open_47 rfl ?_ | refine V.aload_nN dR_open_47 rfl ?_
            refine V.iconst (v := (nI 0)) dR_open_48 (by decide) ?_
            refine V.putk dR_open_49 (by omega) (by assumption) p_R_83_4 rfl rfl ?_
            intro h4 e4
            have hI4 : RI G h4 o (s_new T e 1 d p len) p 0 hand (some e) false (ents + 1) bl := by (rw [e4]; exact hI3.gone_ rfl)
            have hF4 : FrO o h h4 := by (rw [e4]; exact hF3.put (by omega))
            obtain ⟨hSw, hPw, hTw, hHw, hOw, hgw, hEw, hBw, hopw⟩ := id hI4
            obtain ⟨hzw, hk0w, hk1w, hk2w, hk3w, hk4w, hk5w, hk6w, hk7w, hk8w, hf0w, hf2w, hf3w, hf4w, hf5w, hf6w, hf12w, hf13w⟩ := id hSw
            obtain ⟨hlnw, hppw, hl2w, hpw⟩ := id hPw
            obtain ⟨hkdw, hkd2w, hinw, hin2w, hnsw, hns2w, hnmw, hnm2w⟩ := id hTw
            obtain ⟨hhandw, hhlw⟩ := id hHw
            have hO9 : h4.2.1 o 9 = .int (nI e) := hOw
            first | refine V.aload_n dR_open_52 rfl ?_ | refine V.aload_nN dR_open_52 rfl ?_
            refine V.getk dR_open_53 (by omega) (by assumption) f_R_32_4 hO9 ?_
            refine V.if_lt (tgt := 63) dR_open_56 (by decide) (fun c_56 => ?_) (fun c_56 => ?_)
            · try simp (disch := omega) only [nI_ltI, nI_leI, nI_eq, zz_lt0, zz_ge0, zz_gt0, zz_le0, zz_eq0, zz_m1lt, zz_m1ge, zz_m1eq, bI_eq0, decide_eq_false_iff_not, decide_eq_true_eq, Decidable.not_not, not_true_eq_false, not_false_eq_true, Nat.not_lt, Nat.not_le, Bool.not_eq_false, Bool.not_eq_true] at c_56
              all_goals omega
            · try simp (disch := omega) only [nI_ltI, nI_leI, nI_eq, zz_lt0, zz_ge0, zz_gt0, zz_le0, zz_eq0, zz_m1lt, zz_m1ge, zz_m1eq, bI_eq0, decide_eq_false_iff_not, decide_eq_true_eq, Decidable.not_not, not_true_eq_false, not_false_eq_true, Nat.not_lt, Nat.not_le, Bool.not_eq_false, Bool.not_eq_true] at c_56
              refine V.iconst (v := (nI 1)) dR_open_59 (by decide) ?_
              refine V.goto (tgt := 64) dR_open_60 (by decide) ?_
              refine V.ireturn dR_open_64 rfl rfl ?_
              exact qC hr d hc e he1 he2 hfe h4 hI4 hF4
      skip
set_option maxHeartbeats 4000000 in
set_option maxRecDepth 100000 in
/-- PathTreeModel.removeFile -/
theorem kR_removeFile {G : GG} {h : HH} {o : Nat} {T : TT} {p : Nat → Nat} {len hand : Nat} {op : Option Nat} {gone : Bool} {ents : Nat} {bl : List (Nat × Nat)} {Q : Option Value → HH → Prop} {e : Nat} (hI : RI G h o T p len hand op gone ents bl) (he : e < 300) (hen : 1 ≤ ents ∧ ents ≤ 300) (hQ : ∀ h', RI G h' o (fu T.1 e 0, T.2) p len hand op (gone || decide (op = some e)) (ents - 1) (s_but bl e) → FrO o h h' → Q none h') : V G mR_removeFile 0 (lv_args 0 [.ref o, .int (nI e)]) [] h 0 0 Q := by
  obtain ⟨hS, hP, hT, hH, hO, hg, hE, hB, hop⟩ := id hI
  obtain ⟨hz, hk0, hk1, hk2, hk3, hk4, hk5, hk6, hk7, hk8, hf0, hf2, hf3, hf4, hf5, hf6, hf12, hf13⟩ := id hS
  obtain ⟨hln, hpp, hl2, hp⟩ := id hP
  obtain ⟨hkd, hkd2, hin, hin2, hns, hns2, hnm, hnm2⟩ := id hT
  obtain ⟨hhand, hhl⟩ := id hH
  cases hop2 : op with
  | none =>
    subst hop2
    have q : ∀ g : Bool, (g || decide ((none : Option Nat) = some e)) = g := fun g => by (rw [decide_eq_false (fun z => by (cases z)), Bool.or_false])
    rw [q] at hQ
    first | refine V.aload_n dR_removeFile_0 rfl ?_ | refine V.aload_nN dR_removeFile_0 rfl ?_
    refine V.iload_n dR_removeFile_1 rfl ?_
    refine V.callVk (kd := 4) 0 _ 0 _ [_] dR_removeFile_2 okR_lose n_R_90 (by omega) (by assumption) rfl imR_lose seR_lose_R (by decide) (by decide) rfl rfl (Nat.le_of_ble_eq_true rfl) (Nat.le_of_ble_eq_true rfl) (Nat.le_of_eq (Nat.zero_add _)) (Nat.le_of_eq (Nat.zero_add _)) (kR_lose hI he (fun h9 hI9 hF9 => ?_))
    obtain ⟨hSb, hPb, hTb, hHb, hOb, hgb, hEb, hBb, hopb⟩ := id hI9
    obtain ⟨hzb, hk0b, hk1b, hk2b, hk3b, hk4b, hk5b, hk6b, hk7b, hk8b, hf0b, hf2b, hf3b, hf4b, hf5b, hf6b, hf12b, hf13b⟩ := id hSb
    obtain ⟨hlnb, hppb, hl2b, hpb⟩ := id hPb
    obtain ⟨hkdb, hkd2b, hinb, hin2b, hnsb, hns2b, hnmb, hnm2b⟩ := id hTb
    obtain ⟨hhandb, hhlb⟩ := id hHb
    refine V.istore_n dR_removeFile_5 (by decide) ?_
    first | refine V.aload_n dR_removeFile_6 rfl ?_ | refine V.aload_nN dR_removeFile_6 rfl ?_
    refine V.getk dR_removeFile_7 (by omega) (by assumption) f_R_13_4 (by assumption) ?_
    refine V.iload_n dR_removeFile_10 rfl ?_
    refine V.iconst (v := (nI 0)) dR_removeFile_11 (by decide) ?_
    refine V.iastoreN dR_removeFile_12 (by omega) (by assumption) (by omega) rfl ?_
    intro h12 e12
    have hI12 : RI G h12 o (fu T.1 e 0, T.2) p len hand none gone ents (s_but bl e) := by (rw [e12]; exact hI9.kind (by omega))
    have hF12 : FrO o h h12 := by (rw [e12]; exact hF9.put (by omega))
    obtain ⟨hSc, hPc, hTc, hHc, hOc, hgc, hEc, hBc, hopc⟩ := id hI12
    obtain ⟨hzc, hk0c, hk1c, hk2c, hk3c, hk4c, hk5c, hk6c, hk7c, hk8c, hf0c, hf2c, hf3c, hf4c, hf5c, hf6c, hf12c, hf13c⟩ := id hSc
    obtain ⟨hlnc, hppc, hl2c, hpc⟩ := id hPc
    obtain ⟨hkdc, hkd2c, hinc, hin2c, hnsc, hns2c, hnmc, hnm2c⟩ := id hTc
    obtain ⟨hhandc, hhlc⟩ := id hHc
    first | refine V.aload_n dR_removeFile_13 rfl ?_ | refine V.aload_nN dR_removeFile_13 rfl ?_
    refine V.dup dR_removeFile_14 rfl ?_
    refine V.getk dR_removeFile_15 (by omega) (by assumption) f_R_28_4 (by assumption) ?_
    refine V.iconst (v := (nI 1)) dR_removeFile_18 (by decide) ?_
    refine V.isubN dR_removeFile_19 (by omega) ?_
    refine V.putk dR_removeFile_20 (by omega) (by assumption) p_R_28_4 rfl rfl ?_
    intro h20 e20
    have hI20 : RI G h20 o (fu T.1 e 0, T.2) p len hand none gone (ents - 1) (s_but bl e) := by (rw [e20]; exact hI12.ents_)
    have hF20 : FrO o h h20 := by (rw [e20]; exact hF12.put (by omega))
    obtain ⟨hSd, hPd, hTd, hHd, hOd, hgd, hEd, hBd, hopd⟩ := id hI20
    obtain ⟨hzd, hk0d, hk1d, hk2d, hk3d, hk4d, hk5d, hk6d, hk7d, hk8d, hf0d, hf2d, hf3d, hf4d, hf5d, hf6d, hf12d, hf13d⟩ := id hSd
    obtain ⟨hlnd, hppd, hl2d, hpd⟩ := id hPd
    obtain ⟨hkdd, hkd2d, hind, hin2d, hnsd, hns2d, hnmd, hnm2d⟩ := id hTd
    obtain ⟨hhandd, hhld⟩ := id hHd
    first | refine V.aload_n dR_removeFile_23 rfl ?_ | refine V.aload_nN dR_removeFile_23 rfl ?_
    first | refine V.aload_n dR_removeFile_24 rfl ?_ | refine V.aload_nN dR_removeFile_24 rfl ?_
    refine V.getk dR_removeFile_25 (by omega) (by assumption) f_R_83_4 (by assumption) ?_
    refine V.if_ne (tgt := 39) dR_removeFile_28 (by decide) (fun c_28 => ?_) (fun c_28 => ?_)
    · try simp only [bI_eq0, Bool.not_eq_false] at c_28
      refine V.iconst (v := (nI 1)) dR_removeFile_39 (by decide) ?_
      refine V.goto (tgt := 44) dR_removeFile_40 (by decide) ?_
      refine V.putk dR_removeFile_44 (by omega) (by assumption) p_R_83_4 (by decide) (by decide) ?_
      intro h44 e44
      refine V.vreturn dR_removeFile_47 rfl ?_
      refine hQ h44 ?_ (by rw [e44]; exact hF20.put (by omega))
      rw [e44]
      refine hI20.gone_ ?_
      rw [c_28]; rfl
    · try simp only [bI_eq0, Bool.not_eq_false] at c_28
      refine V.iload_n dR_removeFile_31 rfl ?_
      first | refine V.aload_n dR_removeFile_32 rfl ?_ | refine V.aload_nN dR_removeFile_32 rfl ?_
      refine V.getk dR_removeFile_33 (by omega) (by assumption) f_R_32_4 (show h20.2.1 o 9 = .int (-1) from hOd) ?_
      refine V.icmp_ne (tgt := 43) dR_removeFile_36 (by decide) (fun c_36 => ?_) (fun c_36 => ?_)
      · try simp (disch := omega) only [zz_m1eq, not_false_eq_true, not_true_eq_false] at c_36
        refine V.iconst (v := (nI 0)) dR_removeFile_43 (by decide) ?_
        refine V.putk dR_removeFile_44 (by omega) (by assumption) p_R_83_4 (by decide) (by decide) ?_
        intro h44 e44
        refine V.vreturn dR_removeFile_47 rfl ?_
        refine hQ h44 ?_ (by rw [e44]; exact hF20.put (by omega))
        rw [e44]
        refine hI20.gone_ ?_
        rw [c_28]; rfl
      · try simp (disch := omega) only [zz_m1eq, not_false_eq_true, not_true_eq_false] at c_36
        all_goals omega
  | some x =>
    subst hop2
    have hx := hop x rfl
    first | refine V.aload_n dR_removeFile_0 rfl ?_ | refine V.aload_nN dR_removeFile_0 rfl ?_
    refine V.iload_n dR_removeFile_1 rfl ?_
    refine V.callVk (kd := 4) 0 _ 0 _ [_] dR_removeFile_2 okR_lose n_R_90 (by omega) (by assumption) rfl imR_lose seR_lose_R (by decide) (by decide) rfl rfl (Nat.le_of_ble_eq_true rfl) (Nat.le_of_ble_eq_true rfl) (Nat.le_of_eq (Nat.zero_add _)) (Nat.le_of_eq (Nat.zero_add _)) (kR_lose hI he (fun h9 hI9 hF9 => ?_))
    obtain ⟨hSb, hPb, hTb, hHb, hOb, hgb, hEb, hBb, hopb⟩ := id hI9
    obtain ⟨hzb, hk0b, hk1b, hk2b, hk3b, hk4b, hk5b, hk6b, hk7b, hk8b, hf0b, hf2b, hf3b, hf4b, hf5b, hf6b, hf12b, hf13b⟩ := id hSb
    obtain ⟨hlnb, hppb, hl2b, hpb⟩ := id hPb
    obtain ⟨hkdb, hkd2b, hinb, hin2b, hnsb, hns2b, hnmb, hnm2b⟩ := id hTb
    obtain ⟨hhandb, hhlb⟩ := id hHb
    refine V.istore_n dR_removeFile_5 (by decide) ?_
    first | refine V.aload_n dR_removeFile_6 rfl ?_ | refine V.aload_nN dR_removeFile_6 rfl ?_
    refine V.getk dR_removeFile_7 (by omega) (by assumption) f_R_13_4 (by assumption) ?_
    refine V.iload_n dR_removeFile_10 rfl ?_
    refine V.iconst (v := (nI 0)) dR_removeFile_11 (by decide) ?_
    refine V.iastoreN dR_removeFile_12 (by omega) (by assumption) (by omega) rfl ?_
    intro h12 e12
    have hI12 : RI G h12 o (fu T.1 e 0, T.2) p len hand (some x) gone ents (s_but bl e) := by (rw [e12]; exact hI9.kind (by omega))
    have hF12 : FrO o h h12 := by (rw [e12]; exact hF9.put (by omega))
    obtain ⟨hSc, hPc, hTc, hHc, hOc, hgc, hEc, hBc, hopc⟩ := id hI12
    obtain ⟨hzc, hk0c, hk1c, hk2c, hk3c, hk4c, hk5c, hk6c, hk7c, hk8c, hf0c, hf2c, hf3c, hf4c, hf5c, hf6c, hf12c, hf13c⟩ := id hSc
    obtain ⟨hlnc, hppc, hl2c, hpc⟩ := id hPc
    obtain ⟨hkdc, hkd2c, hinc, hin2c, hnsc, hns2c, hnmc, hnm2c⟩ := id hTc
    obtain ⟨hhandc, hhlc⟩ := id hHc
    first | refine V.aload_n dR_removeFile_13 rfl ?_ | refine V.aload_nN dR_removeFile_13 rfl ?_
    refine V.dup dR_removeFile_14 rfl ?_
    refine V.getk dR_removeFile_15 (by omega) (by assumption) f_R_28_4 (by assumption) ?_
    refine V.iconst (v := (nI 1)) dR_removeFile_18 (by decide) ?_
    refine V.isubN dR_removeFile_19 (by omega) ?_
    refine V.putk dR_removeFile_20 (by omega) (by assumption) p_R_28_4 rfl rfl ?_
    intro h20 e20
    have hI20 : RI G h20 o (fu T.1 e 0, T.2) p len hand (some x) gone (ents - 1) (s_but bl e) := by (rw [e20]; exact hI12.ents_)
    have hF20 : FrO o h h20 := by (rw [e20]; exact hF12.put (by omega))
    obtain ⟨hSd, hPd, hTd, hHd, hOd, hgd, hEd, hBd, hopd⟩ := id hI20
    obtain ⟨hzd, hk0d, hk1d, hk2d, hk3d, hk4d, hk5d, hk6d, hk7d, hk8d, hf0d, hf2d, hf3d, hf4d, hf5d, hf6d, hf12d, hf13d⟩ := id hSd
    obtain ⟨hlnd, hppd, hl2d, hpd⟩ := id hPd
    obtain ⟨hkdd, hkd2d, hind, hin2d, hnsd, hns2d, hnmd, hnm2d⟩ := id hTd
    obtain ⟨hhandd, hhld⟩ := id hHd
    first | refine V.aload_n dR_removeFile_23 rfl ?_ | refine V.aload_nN dR_removeFile_23 rfl ?_
    first | refine V.aload_n dR_removeFile_24 rfl ?_ | refine V.aload_nN dR_removeFile_24 rfl ?_
    refine V.getk dR_removeFile_25 (by omega) (by assumption) f_R_83_4 (by assumption) ?_
    refine V.if_ne (tgt := 39) dR_removeFile_28 (by decide) (fun c_28 => ?_) (fun c_28 => ?_)
    · try simp only [bI_eq0, Bool.not_eq_false] at c_28
      refine V.iconst (v := (nI 1)) dR_removeFile_39 (by decide) ?_
      refine V.goto (tgt := 44) dR_removeFile_40 (by decide) ?_
      refine V.putk dR_removeFile_44 (by omega) (by assumption) p_R_83_4 (by decide) (by decide) ?_
      intro h44 e44
      refine V.vreturn dR_removeFile_47 rfl ?_
      refine hQ h44 ?_ (by rw [e44]; exact hF20.put (by omega))
      rw [e44]
      refine hI20.gone_ ?_
      rw [c_28]
      first | rfl | (simp [bI, show x = e from c_36.symm]; done) | (simp [bI, show ¬ x = e from fun z => c_36 z.symm]; done)
    · try simp only [bI_eq0, Bool.not_eq_false] at c_28
      refine V.iload_n dR_removeFile_31 rfl ?_
      first | refine V.aload_n dR_removeFile_32 rfl ?_ | refine V.aload_nN dR_removeFile_32 rfl ?_
      refine V.getk dR_removeFile_33 (by omega) (by assumption) f_R_32_4 (show h20.2.1 o 9 = .int (nI x) from hOd) ?_
      refine V.icmp_ne (tgt := 43) dR_removeFile_36 (by decide) (fun c_36 => ?_) (fun c_36 => ?_)
      · try simp (disch := omega) only [nI_ltI, nI_leI, nI_eq, zz_lt0, zz_ge0, zz_gt0, zz_le0, zz_eq0, zz_m1lt, zz_m1ge, zz_m1eq, bI_eq0, decide_eq_false_iff_not, decide_eq_true_eq, Decidable.not_not, not_true_eq_false, not_false_eq_true, Nat.not_lt, Nat.not_le, Bool.not_eq_false, Bool.not_eq_true] at c_36
        refine V.iconst (v := (nI 0)) dR_removeFile_43 (by decide) ?_
        refine V.putk dR_removeFile_44 (by omega) (by assumption) p_R_83_4 (by decide) (by decide) ?_
        intro h44 e44
        refine V.vreturn dR_removeFile_47 rfl ?_
        refine hQ h44 ?_ (by rw [e44]; exact hF20.put (by omega))
        rw [e44]
        refine hI20.gone_ ?_
        rw [c_28]
        first | rfl | (simp [bI, show x = e from c_36.symm]; done) | (simp [bI, show ¬ x = e from fun z => c_36 z.symm]; done)
      · try simp (disch := omega) only [nI_ltI, nI_leI, nI_eq, zz_lt0, zz_ge0, zz_gt0, zz_le0, zz_eq0, zz_m1lt, zz_m1ge, zz_m1eq, bI_eq0, decide_eq_false_iff_not, decide_eq_true_eq, Decidable.not_not, not_true_eq_false, not_false_eq_true, Nat.not_lt, Nat.not_le, Bool.not_eq_false, Bool.not_eq_true] at c_36
        refine V.iconst (v := (nI 1)) dR_removeFile_39 (by decide) ?_
        refine V.goto (tgt := 44) dR_removeFile_40 (by decide) ?_
        refine V.putk dR_removeFile_44 (by omega) (by assumption) p_R_83_4 (by decide) (by decide) ?_
        intro h44 e44
        refine V.vreturn dR_removeFile_47 rfl ?_
        refine hQ h44 ?_ (by rw [e44]; exact hF20.put (by omega))
        rw [e44]
        refine hI20.gone_ ?_
        rw [c_28]
        first | rfl | (simp [bI, show x = e from c_36.symm]; done) | (simp [bI, show ¬ x = e from fun z => c_36 z.symm]; done)
set_option maxHeartbeats 4000000 in
set_option maxRecDepth 100000 in
/-- PathTreeModel.remove -/
theorem kR_remove {G : GG} {h : HH} {o : Nat} {T : TT} {p : Nat → Nat} {len hand : Nat} {op : Option Nat} {gone : Bool} {ents : Nat} {bl : List (Nat × Nat)} {Q : Option Value → HH → Prop} (hI : RI G h o T p len hand op gone ents bl) (hen : 1 ≤ ents ∧ ents ≤ 300) (h0 : (∀ e, s_lead T p hand len = some e → T.1 e ≠ 1) → ∀ h', RI G h' o T p 0 hand op gone ents bl → FrO o h h' → Q (some (.int (nI 0))) h') (h1 : ∀ e, s_lead T p hand len = some e → T.1 e = 1 → ∀ h', RI G h' o (fu T.1 e 0, T.2) p 0 hand op (gone || decide (op = some e)) (ents - 1) (s_but bl e) → FrO o h h' → Q (some (.int (nI 1))) h') : V G mR_remove 0 (lv_args 0 [.ref o]) [] h 0 0 Q := by
  obtain ⟨hS, hP, hT, hH, hO, hg, hE, hB, hop⟩ := id hI
  obtain ⟨hz, hk0, hk1, hk2, hk3, hk4, hk5, hk6, hk7, hk8, hf0, hf2, hf3, hf4, hf5, hf6, hf12, hf13⟩ := id hS
  obtain ⟨hln, hpp, hl2, hp⟩ := id hP
  obtain ⟨hkd, hkd2, hin, hin2, hns, hns2, hnm, hnm2⟩ := id hT
  obtain ⟨hhand, hhl⟩ := id hH
  cases hr : s_lead T p hand len with
  | none =>
    first | refine V.aload_n dR_remove_0 rfl ?_ | refine V.aload_nN dR_remove_0 rfl ?_
    first | refine V.aload_n dR_remove_1 rfl ?_ | refine V.aload_nN dR_remove_1 rfl ?_
    refine V.getk dR_remove_2 (by omega) (by assumption) f_R_44_4 (by assumption) ?_
    refine V.callVk (kd := 4) 0 _ 0 _ [_] dR_remove_5 okR_lead n_R_65 (by omega) (by assumption) rfl imR_lead seR_lead_R (by decide) (by decide) rfl rfl (Nat.le_of_ble_eq_true rfl) (Nat.le_of_ble_eq_true rfl) (Nat.le_of_eq (Nat.zero_add _)) (Nat.le_of_eq (Nat.zero_add _)) (kR_lead hS hP hT hH (by omega) ?_)
    rw [hr]
    show V G mR_remove 8 _ [.int (-1)] h 0 0 Q
    refine V.istore_n dR_remove_8 (by decide) ?_
    first | refine V.aload_n dR_remove_9 rfl ?_ | refine V.aload_nN dR_remove_9 rfl ?_
    refine V.iconst (v := (nI 0)) dR_remove_10 (by decide) ?_
    refine V.putk dR_remove_11 (by omega) (by assumption) p_R_44_4 rfl rfl ?_
    intro h2 e2
    have hI2 : RI G h2 o T p 0 hand op gone ents bl := by (rw [e2]; exact hI.len)
    have hF2 : FrO o h h2 := by (rw [e2]; exact FrO.rf.put (by omega))
    obtain ⟨hSa, hPa, hTa, hHa, hOa, hga, hEa, hBa, hopa⟩ := id hI2
    obtain ⟨hza, hk0a, hk1a, hk2a, hk3a, hk4a, hk5a, hk6a, hk7a, hk8a, hf0a, hf2a, hf3a, hf4a, hf5a, hf6a, hf12a, hf13a⟩ := id hSa
    obtain ⟨hlna, hppa, hl2a, hpa⟩ := id hPa
    obtain ⟨hkda, hkd2a, hina, hin2a, hnsa, hns2a, hnma, hnm2a⟩ := id hTa
    obtain ⟨hhanda, hhla⟩ := id hHa
    refine V.iload_n dR_remove_14 rfl ?_
    refine V.if_lt (tgt := 28) dR_remove_15 (by decide) (fun c_15 => ?_) (fun c_15 => ?_)
    · try simp only [zz_m1lt, zz_m1ge, not_true_eq_false, not_false_eq_true] at c_15
      refine V.iconst (v := (nI 0)) dR_remove_28 (by decide) ?_
      refine V.ireturn dR_remove_29 rfl rfl ?_
      exact h0 (fun e z => by (rw [hr] at z; cases z)) h2 hI2 hF2
    · try simp only [zz_m1lt, zz_m1ge, not_true_eq_false, not_false_eq_true] at c_15
      all_goals omega
  | some e =>
    have he := s_lead_lt hin2 hhl hr
    have hke := hkd2 e he
    first | refine V.aload_n dR_remove_0 rfl ?_ | refine V.aload_nN dR_remove_0 rfl ?_
    first | refine V.aload_n dR_remove_1 rfl ?_ | refine V.aload_nN dR_remove_1 rfl ?_
    refine V.getk dR_remove_2 (by omega) (by assumption) f_R_44_4 (by assumption) ?_
    refine V.callVk (kd := 4) 0 _ 0 _ [_] dR_remove_5 okR_lead n_R_65 (by omega) (by assumption) rfl imR_lead seR_lead_R (by decide) (by decide) rfl rfl (Nat.le_of_ble_eq_true rfl) (Nat.le_of_ble_eq_true rfl) (Nat.le_of_eq (Nat.zero_add _)) (Nat.le_of_eq (Nat.zero_add _)) (kR_lead hS hP hT hH (by omega) ?_)
    rw [hr]
    show V G mR_remove 8 _ [.int (nI e)] h 0 0 Q
    refine V.istore_n dR_remove_8 (by decide) ?_
    first | refine V.aload_n dR_remove_9 rfl ?_ | refine V.aload_nN dR_remove_9 rfl ?_
    refine V.iconst (v := (nI 0)) dR_remove_10 (by decide) ?_
    refine V.putk dR_remove_11 (by omega) (by assumption) p_R_44_4 rfl rfl ?_
    intro h2 e2
    have hI2 : RI G h2 o T p 0 hand op gone ents bl := by (rw [e2]; exact hI.len)
    have hF2 : FrO o h h2 := by (rw [e2]; exact FrO.rf.put (by omega))
    obtain ⟨hSa, hPa, hTa, hHa, hOa, hga, hEa, hBa, hopa⟩ := id hI2
    obtain ⟨hza, hk0a, hk1a, hk2a, hk3a, hk4a, hk5a, hk6a, hk7a, hk8a, hf0a, hf2a, hf3a, hf4a, hf5a, hf6a, hf12a, hf13a⟩ := id hSa
    obtain ⟨hlna, hppa, hl2a, hpa⟩ := id hPa
    obtain ⟨hkda, hkd2a, hina, hin2a, hnsa, hns2a, hnma, hnm2a⟩ := id hTa
    obtain ⟨hhanda, hhla⟩ := id hHa
    refine V.iload_n dR_remove_14 rfl ?_
    refine V.if_lt (tgt := 28) dR_remove_15 (by decide) (fun c_15 => ?_) (fun c_15 => ?_)
    · try simp (disch := omega) only [nI_ltI, nI_leI, nI_eq, zz_lt0, zz_ge0, zz_gt0, zz_le0, zz_eq0, zz_m1lt, zz_m1ge, zz_m1eq, bI_eq0, decide_eq_false_iff_not, decide_eq_true_eq, Decidable.not_not, not_true_eq_false, not_false_eq_true, Nat.not_lt, Nat.not_le, Bool.not_eq_false, Bool.not_eq_true] at c_15
      all_goals omega
    · try simp (disch := omega) only [nI_ltI, nI_leI, nI_eq, zz_lt0, zz_ge0, zz_gt0, zz_le0, zz_eq0, zz_m1lt, zz_m1ge, zz_m1eq, bI_eq0, decide_eq_false_iff_not, decide_eq_true_eq, Decidable.not_not, not_true_eq_false, not_false_eq_true, Nat.not_lt, Nat.not_le, Bool.not_eq_false, Bool.not_eq_true] at c_15
      first | refine V.aload_n dR_remove_18 rfl ?_ | refine V.aload_nN dR_remove_18 rfl ?_
      refine V.getk dR_remove_19 (by omega) (by assumption) f_R_13_4 (by assumption) ?_
      refine V.iload_n dR_remove_22 rfl ?_
      refine V.ialoadN dR_remove_23 (by omega) (by assumption) (by omega) (hkda e he) ?_
      refine V.iconst (v := (nI 1)) dR_remove_24 (by decide) ?_
      refine V.icmp_eq (tgt := 30) dR_remove_25 (by decide) (fun c_25 => ?_) (fun c_25 => ?_)
      · try simp (disch := omega) only [nI_ltI, nI_leI, nI_eq, zz_lt0, zz_ge0, zz_gt0, zz_le0, zz_eq0, zz_m1lt, zz_m1ge, zz_m1eq, bI_eq0, decide_eq_false_iff_not, decide_eq_true_eq, Decidable.not_not, not_true_eq_false, not_false_eq_true, Nat.not_lt, Nat.not_le, Bool.not_eq_false, Bool.not_eq_true] at c_25
        first | refine V.aload_n dR_remove_30 rfl ?_ | refine V.aload_nN dR_remove_30 rfl ?_
        refine V.iload_n dR_remove_31 rfl ?_
        refine V.callVk (kd := 4) 0 _ 0 _ [_] dR_remove_32 okR_removeFile n_R_93 (by omega) (by assumption) rfl imR_removeFile seR_removeFile_R (by decide) (by decide) rfl rfl (Nat.le_of_ble_eq_true rfl) (Nat.le_of_ble_eq_true rfl) (Nat.le_of_eq (Nat.zero_add _)) (Nat.le_of_eq (Nat.zero_add _)) (kR_removeFile hI2 he hen (fun h9 hI9 hF9 => ?_))
        refine V.iconst (v := (nI 1)) dR_remove_35 (by decide) ?_
        refine V.ireturn dR_remove_36 rfl rfl ?_
        exact h1 e hr c_25 h9 hI9 (hF2.tr hF9)
      · try simp (disch := omega) only [nI_ltI, nI_leI, nI_eq, zz_lt0, zz_ge0, zz_gt0, zz_le0, zz_eq0, zz_m1lt, zz_m1ge, zz_m1eq, bI_eq0, decide_eq_false_iff_not, decide_eq_true_eq, Decidable.not_not, not_true_eq_false, not_false_eq_true, Nat.not_lt, Nat.not_le, Bool.not_eq_false, Bool.not_eq_true] at c_25
        refine V.iconst (v := (nI 0)) dR_remove_28 (by decide) ?_
        refine V.ireturn dR_remove_29 rfl rfl ?_
        exact h0 (fun x z => by (rw [hr] at z; cases z; exact c_25)) h2 hI2 hF2
set_option maxHeartbeats 4000000 in
set_option maxRecDepth 100000 in
/-- PathTreeModel.empty -/
theorem kR_empty {G : GG} {h : HH} {o : Nat} {T : TT} {p : Nat → Nat} {len hand : Nat} {op : Option Nat} {gone : Bool} {ents : Nat} {bl : List (Nat × Nat)} {Q : Option Value → HH → Prop} (hI : RI G h o T p len hand op gone ents bl) (h0 : op = none → Q (some (.int (-1))) h) (h1 : ∀ e, op = some e → gone = true → Q (some (.int (nI 0))) h) (h2 : ∀ e, op = some e → gone = false → ∀ h', RI G h' o T p len hand op gone ents (s_but bl e) → FrO o h h' → Q (some (.int (nI (s_fb bl e).length))) h') : V G mR_empty 0 (lv_args 0 [.ref o]) [] h 0 0 Q := by
  obtain ⟨hS, hP, hT, hH, hO, hg, hE, hB, hop⟩ := id hI
  obtain ⟨hz, hk0, hk1, hk2, hk3, hk4, hk5, hk6, hk7, hk8, hf0, hf2, hf3, hf4, hf5, hf6, hf12, hf13⟩ := id hS
  obtain ⟨hln, hpp, hl2, hp⟩ := id hP
  obtain ⟨hkd, hkd2, hin, hin2, hns, hns2, hnm, hnm2⟩ := id hT
  obtain ⟨hhand, hhl⟩ := id hH
  cases hop2 : op with
  | none =>
    subst hop2
    have hO9 : h.2.1 o 9 = .int (-1) := hO
    first | refine V.aload_n dR_empty_0 rfl ?_ | refine V.aload_nN dR_empty_0 rfl ?_
    refine V.getk dR_empty_1 (by omega) (by assumption) f_R_32_4 hO9 ?_
    refine V.if_ge (tgt := 9) dR_empty_4 (by decide) (fun c_4 => ?_) (fun c_4 => ?_)
    · try simp only [zz_m1lt, zz_m1ge, not_true_eq_false, not_false_eq_true] at c_4
      all_goals omega
    · try simp only [zz_m1lt, zz_m1ge, not_true_eq_false, not_false_eq_true] at c_4
      refine V.iconst (v := (-1)) dR_empty_7 (by decide) ?_
      refine V.ireturn dR_empty_8 rfl rfl ?_
      exact h0 rfl
  | some e =>
    subst hop2
    have he := hop e rfl
    have hO9 : h.2.1 o 9 = .int (nI e) := hO
    first | refine V.aload_n dR_empty_0 rfl ?_ | refine V.aload_nN dR_empty_0 rfl ?_
    refine V.getk dR_empty_1 (by omega) (by assumption) f_R_32_4 hO9 ?_
    refine V.if_ge (tgt := 9) dR_empty_4 (by decide) (fun c_4 => ?_) (fun c_4 => ?_)
    · try simp (disch := omega) only [nI_ltI, nI_leI, nI_eq, zz_lt0, zz_ge0, zz_gt0, zz_le0, zz_eq0, zz_m1lt, zz_m1ge, zz_m1eq, bI_eq0, decide_eq_false_iff_not, decide_eq_true_eq, Decidable.not_not, not_true_eq_false, not_false_eq_true, Nat.not_lt, Nat.not_le, Bool.not_eq_false, Bool.not_eq_true] at c_4
      first | refine V.aload_n dR_empty_9 rfl ?_ | refine V.aload_nN dR_empty_9 rfl ?_
      refine V.getk dR_empty_10 (by omega) (by assumption) f_R_83_4 (by assumption) ?_
      refine V.if_eq (tgt := 20) dR_empty_13 (by decide) (fun c_13 => ?_) (fun c_13 => ?_)
      · try simp only [bI_eq0, Bool.not_eq_false] at c_13
        first | refine V.aload_n dR_empty_20 rfl ?_ | refine V.aload_nN dR_empty_20 rfl ?_
        first | refine V.aload_n dR_empty_21 rfl ?_ | refine V.aload_nN dR_empty_21 rfl ?_
        refine V.getk dR_empty_22 (by omega) (by assumption) f_R_32_4 hO9 ?_
        refine V.callVk (kd := 4) 0 _ 0 _ [_] dR_empty_25 okR_lose n_R_90 (by omega) (by assumption) rfl imR_lose seR_lose_R (by decide) (by decide) rfl rfl (Nat.le_of_ble_eq_true rfl) (Nat.le_of_ble_eq_true rfl) (Nat.le_of_eq (Nat.zero_add _)) (Nat.le_of_eq (Nat.zero_add _)) (kR_lose hI he (fun h9 hI9 hF9 => ?_))
        refine V.ireturn dR_empty_28 rfl rfl ?_
        first | exact h2 e rfl c_13 h9 hI9 hF9 | exact h1 e rfl c_13
      · try simp only [bI_eq0, Bool.not_eq_false] at c_13
        refine V.iconst (v := (nI 0)) dR_empty_16 (by decide) ?_
        refine V.goto (tgt := 28) dR_empty_17 (by decide) ?_
        refine V.ireturn dR_empty_28 rfl rfl ?_
        first | exact h2 e rfl c_13 h9 hI9 hF9 | exact h1 e rfl c_13
    · try simp (disch := omega) only [nI_ltI, nI_leI, nI_eq, zz_lt0, zz_ge0, zz_gt0, zz_le0, zz_eq0, zz_m1lt, zz_m1ge, zz_m1eq, bI_eq0, decide_eq_false_iff_not, decide_eq_true_eq, Decidable.not_not, not_true_eq_false, not_false_eq_true, Nat.not_lt, Nat.not_le, Bool.not_eq_false, Bool.not_eq_true] at c_4
      all_goals omega
end
section
/-- where a file moves to: a directory that the path leads to (true), or the home of its last name (false) -/
def s_tgt (T : TT) (p : Nat → Nat) (hand len : Nat) : Option (Nat × Bool) := match s_dir T (s_lead T p hand len) with
  | some d => some (d, true)
  | none => match s_home T p hand len with
    | none => none
    | some d => if s_isName p len then some (d, false) else none
/-- what is at that place -/
def s_there (T : TT) (p : Nat → Nat) (len f : Nat) (q : Nat × Bool) : Option Nat := if q.2 = true then s_ent T (T.2.2.2 f) q.1 0 (T.2.2.1 f) else s_ent T p q.1 (s_last p len) len
def s_mok (T : TT) (f : Nat) (r : Option Nat) : Prop := r ≠ some f ∧ ∀ t, r = some t → T.1 t ≠ 2
def s_mT (T : TT) (r : Option Nat) : TT := match r with
  | none => T
  | some t => (fu T.1 t 0, T.2)
def s_mE (ents : Nat) (r : Option Nat) : Nat := match r with
  | none => ents
  | some _ => ents - 1
def s_mB (bl : List (Nat × Nat)) (r : Option Nat) : List (Nat × Nat) := match r with
  | none => bl
  | some t => s_but bl t
def s_mN (T : TT) (f : Nat) (q : Nat × Bool) (p : Nat → Nat) (len : Nat) : TT := match q.2 with
  | true => (T.1, fu T.2.1 f q.1, T.2.2)
  | false => s_put T f q.1 p len
theorem zz_m1eq2 {a : Nat} (h : a < 2 ^ 31) : (-1 : Int32) = nI a ↔ False := by rw [eq_comm, zz_m1eq h]
set_option maxHeartbeats 4000000 in
set_option maxRecDepth 100000 in
/-- PathTreeModel.moved, from the place on -/
theorem kR_moved_tail {G : GG} {h : HH} {o : Nat} {T : TT} {p : Nat → Nat} {len hand : Nat} {ents : Nat} {bl : List (Nat × Nat)} {Q : Option Value → HH → Prop} {f d : Nat} {b : Bool} {l1 : Int32} {r : Option Nat} (hI : RI G h o T p len hand (some f) false ents bl) (hf : f < 300) (hd : d < 300) (hr : ∀ t, r = some t → t < 300) (hen : 1 ≤ ents ∧ ents ≤ 300) (hnl : b = false → len - s_last p len ≤ 60) (q0 : ¬ s_mok T f r → Q (some (.int (nI 0))) h) (q1 : s_mok T f r → ∀ h', RI G h' o (s_mN (s_mT T r) f (d, b) p len) p len hand (some f) false (s_mE ents r) (s_mB bl r) → FrO o h h' → Q (some (.int (nI 1))) h') : V G mR_moved 104 [(3, .int (nI d)), (2, .int (bI b)), (1, .int l1), (0, .ref o)] [.int (oI r)] h 0 0 Q := by
  obtain ⟨hS, hP, hT, hH, hO, hg, hE, hB, hop⟩ := id hI
  obtain ⟨hz, hk0, hk1, hk2, hk3, hk4, hk5, hk6, hk7, hk8, hf0, hf2, hf3, hf4, hf5, hf6, hf12, hf13⟩ := id hS
  obtain ⟨hln, hpp, hl2, hp⟩ := id hP
  obtain ⟨hkd, hkd2, hin, hin2, hns, hns2, hnm, hnm2⟩ := id hT
  obtain ⟨hhand, hhl⟩ := id hH
  have hO9 : h.2.1 o 9 = .int (nI f) := hO
  cases r with
  | none =>
    have hok : s_mok T f none := ⟨fun z => by (cases z), fun t z => by (cases z)⟩
    show V G mR_moved 104 [(3, .int (nI d)), (2, .int (bI b)), (1, .int l1), (0, .ref o)] [.int (-1)] h 0 0 Q
    refine V.istore dR_moved_104 (by decide) ?_
    refine V.iload dR_moved_106 rfl ?_
    first | refine V.aload_n dR_moved_108 rfl ?_ | refine V.aload_nN dR_moved_108 rfl ?_
    refine V.getk dR_moved_109 (by omega) (by assumption) f_R_32_4 hO9 ?_
    refine V.icmp_eq (tgt := 131) dR_moved_112 (by decide) (fun c_112 => ?_) (fun c_112 => ?_)
    · try simp (disch := omega) only [zz_m1eq2, not_false_eq_true] at c_112
      all_goals omega
    · try simp (disch := omega) only [zz_m1eq2, not_false_eq_true] at c_112
      refine V.iload dR_moved_115 rfl ?_
      refine V.if_lt (tgt := 133) dR_moved_117 (by decide) (fun c_117 => ?_) (fun c_117 => ?_)
      · try simp only [zz_m1lt, zz_m1ge, not_true_eq_false, not_false_eq_true] at c_117
        refine V.iload dR_moved_133 rfl ?_
        refine V.if_lt (tgt := 144) dR_moved_135 (by decide) (fun c_135 => ?_) (fun c_135 => ?_)
        · try simp only [zz_m1lt, zz_m1ge, not_true_eq_false, not_false_eq_true] at c_135
          refine V.iload_n dR_moved_144 rfl ?_
          refine V.if_eq (tgt := 161) dR_moved_145 (by decide) (fun c_145 => ?_) (fun c_145 => ?_)
          · try simp only [bI_eq0, Bool.not_eq_false] at c_145
            subst c_145
            first | refine V.aload_n dR_moved_161 rfl ?_ | refine V.aload_nN dR_moved_161 rfl ?_
            first | refine V.aload_n dR_moved_162 rfl ?_ | refine V.aload_nN dR_moved_162 rfl ?_
            refine V.getk dR_moved_163 (by omega) (by assumption) f_R_32_4 hO9 ?_
            refine V.iload_n dR_moved_166 rfl ?_
            refine V.callVk (kd := 4) 0 _ 0 _ [_, _] dR_moved_167 okR_put n_R_76 (by omega) (by assumption) rfl imR_put seR_put_R (by decide) (by decide) rfl rfl (Nat.le_of_ble_eq_true rfl) (Nat.le_of_ble_eq_true rfl) (Nat.le_of_eq (Nat.zero_add _)) (Nat.le_of_eq (Nat.zero_add _)) (kR_put hI hf hd (hnl rfl) (fun hp9 hIp hFp => ?_))
            refine V.iconst (v := (nI 1)) dR_moved_170 (by decide) ?_
            refine V.ireturn dR_moved_171 rfl rfl ?_
            first | exact q1 hok hp9 hIp (FrO.rf.tr hFp) | exact q1 hok h157 (by (rw [e157]; exact hI.par hd)) (by (rw [e157]; exact FrO.rf.put (by omega)))
          · try simp only [bI_eq0, Bool.not_eq_false] at c_145
            subst c_145
            first | refine V.aload_n dR_moved_148 rfl ?_ | refine V.aload_nN dR_moved_148 rfl ?_
            refine V.getk dR_moved_149 (by omega) (by assumption) f_R_16_4 (by assumption) ?_
            first | refine V.aload_n dR_moved_152 rfl ?_ | refine V.aload_nN dR_moved_152 rfl ?_
            refine V.getk dR_moved_153 (by omega) (by assumption) f_R_32_4 hO9 ?_
            refine V.iload_n dR_moved_156 rfl ?_
            refine V.iastoreN dR_moved_157 (by omega) (by assumption) (by omega) rfl ?_
            intro h157 e157
            refine V.goto (tgt := 170) dR_moved_158 (by decide) ?_
            refine V.iconst (v := (nI 1)) dR_moved_170 (by decide) ?_
            refine V.ireturn dR_moved_171 rfl rfl ?_
            first | exact q1 hok hp9 hIp (FrO.rf.tr hFp) | exact q1 hok h157 (by (rw [e157]; exact hI.par hd)) (by (rw [e157]; exact FrO.rf.put (by omega)))
        · try simp only [zz_m1lt, zz_m1ge, not_true_eq_false, not_false_eq_true] at c_135
          all_goals omega
      · try simp only [zz_m1lt, zz_m1ge, not_true_eq_false, not_false_eq_true] at c_117
        all_goals omega
  | some t =>
    have ht := hr t rfl
    have hkt := hkd2 t ht
    show V G mR_moved 104 [(3, .int (nI d)), (2, .int (bI b)), (1, .int l1), (0, .ref o)] [.int (nI t)] h 0 0 Q
    refine V.istore dR_moved_104 (by decide) ?_
    refine V.iload dR_moved_106 rfl ?_
    first | refine V.aload_n dR_moved_108 rfl ?_ | refine V.aload_nN dR_moved_108 rfl ?_
    refine V.getk dR_moved_109 (by omega) (by assumption) f_R_32_4 hO9 ?_
    refine V.icmp_eq (tgt := 131) dR_moved_112 (by decide) (fun c_112 => ?_) (fun c_112 => ?_)
    · try simp (disch := omega) only [nI_ltI, nI_leI, nI_eq, zz_lt0, zz_ge0, zz_gt0, zz_le0, zz_eq0, zz_m1lt, zz_m1ge, zz_m1eq, bI_eq0, decide_eq_false_iff_not, decide_eq_true_eq, Decidable.not_not, not_true_eq_false, not_false_eq_true, Nat.not_lt, Nat.not_le, Bool.not_eq_false, Bool.not_eq_true] at c_112
      refine V.iconst (v := (nI 0)) dR_moved_131 (by decide) ?_
      refine V.ireturn dR_moved_132 rfl rfl ?_
      first | exact q0 (fun z => z.1 (by rw [c_112])) | exact q0 (fun z => z.2 t rfl c_128)
    · try simp (disch := omega) only [nI_ltI, nI_leI, nI_eq, zz_lt0, zz_ge0, zz_gt0, zz_le0, zz_eq0, zz_m1lt, zz_m1ge, zz_m1eq, bI_eq0, decide_eq_false_iff_not, decide_eq_true_eq, Decidable.not_not, not_true_eq_false, not_false_eq_true, Nat.not_lt, Nat.not_le, Bool.not_eq_false, Bool.not_eq_true] at c_112
      refine V.iload dR_moved_115 rfl ?_
      refine V.if_lt (tgt := 133) dR_moved_117 (by decide) (fun c_117 => ?_) (fun c_117 => ?_)
      · try simp (disch := omega) only [nI_ltI, nI_leI, nI_eq, zz_lt0, zz_ge0, zz_gt0, zz_le0, zz_eq0, zz_m1lt, zz_m1ge, zz_m1eq, bI_eq0, decide_eq_false_iff_not, decide_eq_true_eq, Decidable.not_not, not_true_eq_false, not_false_eq_true, Nat.not_lt, Nat.not_le, Bool.not_eq_false, Bool.not_eq_true] at c_117
        all_goals omega
      · try simp (disch := omega) only [nI_ltI, nI_leI, nI_eq, zz_lt0, zz_ge0, zz_gt0, zz_le0, zz_eq0, zz_m1lt, zz_m1ge, zz_m1eq, bI_eq0, decide_eq_false_iff_not, decide_eq_true_eq, Decidable.not_not, not_true_eq_false, not_false_eq_true, Nat.not_lt, Nat.not_le, Bool.not_eq_false, Bool.not_eq_true] at c_117
        first | refine V.aload_n dR_moved_120 rfl ?_ | refine V.aload_nN dR_moved_120 rfl ?_
        refine V.getk dR_moved_121 (by omega) (by assumption) f_R_13_4 (by assumption) ?_
        refine V.iload dR_moved_124 rfl ?_
        refine V.ialoadN dR_moved_126 (by omega) (by assumption) (by omega) (hkd t ht) ?_
        refine V.iconst (v := (nI 2)) dR_moved_127 (by decide) ?_
        refine V.icmp_ne (tgt := 133) dR_moved_128 (by decide) (fun c_128 => ?_) (fun c_128 => ?_)
        · try simp (disch := omega) only [nI_ltI, nI_leI, nI_eq, zz_lt0, zz_ge0, zz_gt0, zz_le0, zz_eq0, zz_m1lt, zz_m1ge, zz_m1eq, bI_eq0, decide_eq_false_iff_not, decide_eq_true_eq, Decidable.not_not, not_true_eq_false, not_false_eq_true, Nat.not_lt, Nat.not_le, Bool.not_eq_false, Bool.not_eq_true] at c_128
          have hok : s_mok T f (some t) := ⟨fun z => c_112 (Option.some.inj z), fun t2 z => by (cases z; exact c_128)⟩
          refine V.iload dR_moved_133 rfl ?_
          refine V.if_lt (tgt := 144) dR_moved_135 (by decide) (fun c_135 => ?_) (fun c_135 => ?_)
          · try simp (disch := omega) only [nI_ltI, nI_leI, nI_eq, zz_lt0, zz_ge0, zz_gt0, zz_le0, zz_eq0, zz_m1lt, zz_m1ge, zz_m1eq, bI_eq0, decide_eq_false_iff_not, decide_eq_true_eq, Decidable.not_not, not_true_eq_false, not_false_eq_true, Nat.not_lt, Nat.not_le, Bool.not_eq_false, Bool.not_eq_true] at c_135
            all_goals omega
          · try simp (disch := omega) only [nI_ltI, nI_leI, nI_eq, zz_lt0, zz_ge0, zz_gt0, zz_le0, zz_eq0, zz_m1lt, zz_m1ge, zz_m1eq, bI_eq0, decide_eq_false_iff_not, decide_eq_true_eq, Decidable.not_not, not_true_eq_false, not_false_eq_true, Nat.not_lt, Nat.not_le, Bool.not_eq_false, Bool.not_eq_true] at c_135
            first | refine V.aload_n dR_moved_138 rfl ?_ | refine V.aload_nN dR_moved_138 rfl ?_
            refine V.iload dR_moved_139 rfl ?_
            refine V.callVk (kd := 4) 0 _ 0 _ [_] dR_moved_141 okR_removeFile n_R_93 (by omega) (by assumption) rfl imR_removeFile seR_removeFile_R (by decide) (by decide) rfl rfl (Nat.le_of_ble_eq_true rfl) (Nat.le_of_ble_eq_true rfl) (Nat.le_of_eq (Nat.zero_add _)) (Nat.le_of_eq (Nat.zero_add _)) (kR_removeFile hI ht hen (fun h9 hI9 hF9 => ?_))
            have hgf : (false || decide (some f = some t)) = false := by (rw [Bool.false_or]; exact decide_eq_false (fun z => c_112 (Option.some.inj z).symm))
            rw [hgf] at hI9
            obtain ⟨hSb, hPb, hTb, hHb, hOb, hgb, hEb, hBb, hopb⟩ := id hI9
            obtain ⟨hzb, hk0b, hk1b, hk2b, hk3b, hk4b, hk5b, hk6b, hk7b, hk8b, hf0b, hf2b, hf3b, hf4b, hf5b, hf6b, hf12b, hf13b⟩ := id hSb
            obtain ⟨hlnb, hppb, hl2b, hpb⟩ := id hPb
            obtain ⟨hkdb, hkd2b, hinb, hin2b, hnsb, hns2b, hnmb, hnm2b⟩ := id hTb
            obtain ⟨hhandb, hhlb⟩ := id hHb
            have hO9b : h9.2.1 o 9 = .int (nI f) := hOb
            refine V.iload_n dR_moved_144 rfl ?_
            refine V.if_eq (tgt := 161) dR_moved_145 (by decide) (fun c_145 => ?_) (fun c_145 => ?_)
            · try simp only [bI_eq0, Bool.not_eq_false] at c_145
              subst c_145
              first | refine V.aload_n dR_moved_161 rfl ?_ | refine V.aload_nN dR_moved_161 rfl ?_
              first | refine V.aload_n dR_moved_162 rfl ?_ | refine V.aload_nN dR_moved_162 rfl ?_
              refine V.getk dR_moved_163 (by omega) (by assumption) f_R_32_4 hO9b ?_
              refine V.iload_n dR_moved_166 rfl ?_
              refine V.callVk (kd := 4) 0 _ 0 _ [_, _] dR_moved_167 okR_put n_R_76 (by omega) (by assumption) rfl imR_put seR_put_R (by decide) (by decide) rfl rfl (Nat.le_of_ble_eq_true rfl) (Nat.le_of_ble_eq_true rfl) (Nat.le_of_eq (Nat.zero_add _)) (Nat.le_of_eq (Nat.zero_add _)) (kR_put hI9 hf hd (hnl rfl) (fun hp9 hIp hFp => ?_))
              refine V.iconst (v := (nI 1)) dR_moved_170 (by decide) ?_
              refine V.ireturn dR_moved_171 rfl rfl ?_
              first | exact q1 hok hp9 hIp (hF9.tr hFp) | exact q1 hok h157 (by (rw [e157]; exact hI9.par hd)) (by (rw [e157]; exact hF9.put (by omega)))
            · try simp only [bI_eq0, Bool.not_eq_false] at c_145
              subst c_145
              first | refine V.aload_n dR_moved_148 rfl ?_ | refine V.aload_nN dR_moved_148 rfl ?_
              refine V.getk dR_moved_149 (by omega) (by assumption) f_R_16_4 (by assumption) ?_
              first | refine V.aload_n dR_moved_152 rfl ?_ | refine V.aload_nN dR_moved_152 rfl ?_
              refine V.getk dR_moved_153 (by omega) (by assumption) f_R_32_4 hO9b ?_
              refine V.iload_n dR_moved_156 rfl ?_
              refine V.iastoreN dR_moved_157 (by omega) (by assumption) (by omega) rfl ?_
              intro h157 e157
              refine V.goto (tgt := 170) dR_moved_158 (by decide) ?_
              refine V.iconst (v := (nI 1)) dR_moved_170 (by decide) ?_
              refine V.ireturn dR_moved_171 rfl rfl ?_
              first | exact q1 hok hp9 hIp (hF9.tr hFp) | exact q1 hok h157 (by (rw [e157]; exact hI9.par hd)) (by (rw [e157]; exact hF9.put (by omega)))
        · try simp (disch := omega) only [nI_ltI, nI_leI, nI_eq, zz_lt0, zz_ge0, zz_gt0, zz_le0, zz_eq0, zz_m1lt, zz_m1ge, zz_m1eq, bI_eq0, decide_eq_false_iff_not, decide_eq_true_eq, Decidable.not_not, not_true_eq_false, not_false_eq_true, Nat.not_lt, Nat.not_le, Bool.not_eq_false, Bool.not_eq_true] at c_128
          refine V.iconst (v := (nI 0)) dR_moved_131 (by decide) ?_
          refine V.ireturn dR_moved_132 rfl rfl ?_
          first | exact q0 (fun z => z.1 (by rw [c_112])) | exact q0 (fun z => z.2 t rfl c_128)
set_option maxHeartbeats 4000000 in
set_option maxRecDepth 100000 in
/-- PathTreeModel.moved -/
theorem kR_moved {G : GG} {h : HH} {o : Nat} {T : TT} {p : Nat → Nat} {len hand : Nat} {op : Option Nat} {gone : Bool} {ents : Nat} {bl : List (Nat × Nat)} {Q : Option Value → HH → Prop} (hI : RI G h o T p len hand op gone ents bl) (hhd : T.1 hand = 2) (hen : 1 ≤ ents ∧ ents ≤ 300) (qn : op = none ∨ gone = true → Q (some (.int (nI 0))) h) (q0 : ∀ f, op = some f → gone = false → (s_tgt T p hand len = none ∨ ∃ q, s_tgt T p hand len = some q ∧ ¬ s_mok T f (s_there T p len f q)) → Q (some (.int (nI 0))) h) (q1 : ∀ f, op = some f → gone = false → ∀ q, s_tgt T p hand len = some q → s_mok T f (s_there T p len f q) → ∀ h', RI G h' o (s_mN (s_mT T (s_there T p len f q)) f q p len) p len hand (some f) false (s_mE ents (s_there T p len f q)) (s_mB bl (s_there T p len f q)) → FrO o h h' → Q (some (.int (nI 1))) h') : V G mR_moved 0 (lv_args 0 [.ref o]) [] h 0 0 Q := by
  obtain ⟨hS, hP, hT, hH, hO, hg, hE, hB, hop⟩ := id hI
  obtain ⟨hz, hk0, hk1, hk2, hk3, hk4, hk5, hk6, hk7, hk8, hf0, hf2, hf3, hf4, hf5, hf6, hf12, hf13⟩ := id hS
  obtain ⟨hln, hpp, hl2, hp⟩ := id hP
  obtain ⟨hkd, hkd2, hin, hin2, hns, hns2, hnm, hnm2⟩ := id hT
  obtain ⟨hhand, hhl⟩ := id hH
  have hll := s_last_le p len
  cases hop2 : op with
  | none =>
    subst hop2
    have hO9 : h.2.1 o 9 = .int (-1) := hO
    first | refine V.aload_n dR_moved_0 rfl ?_ | refine V.aload_nN dR_moved_0 rfl ?_
    refine V.getk dR_moved_1 (by omega) (by assumption) f_R_32_4 hO9 ?_
    refine V.if_lt (tgt := 14) dR_moved_4 (by decide) (fun c_4 => ?_) (fun c_4 => ?_)
    · try simp only [zz_m1lt, zz_m1ge, not_true_eq_false, not_false_eq_true] at c_4
      refine V.iconst (v := (nI 0)) dR_moved_14 (by decide) ?_
      refine V.ireturn dR_moved_15 rfl rfl ?_
      exact qn (Or.inl rfl)
    · try simp only [zz_m1lt, zz_m1ge, not_true_eq_false, not_false_eq_true] at c_4
      all_goals omega
  | some f =>
    subst hop2
    have hf := hop f rfl
    have hO9 : h.2.1 o 9 = .int (nI f) := hO
    cases hgo : gone with
    | true =>
      subst hgo
      have hg9 : h.2.1 o 10 = .int (bI true) := hg
      first | refine V.aload_n dR_moved_0 rfl ?_ | refine V.aload_nN dR_moved_0 rfl ?_
      refine V.getk dR_moved_1 (by omega) (by assumption) f_R_32_4 hO9 ?_
      refine V.if_lt (tgt := 14) dR_moved_4 (by decide) (fun c_4 => ?_) (fun c_4 => ?_)
      · try simp (disch := omega) only [nI_ltI, nI_leI, nI_eq, zz_lt0, zz_ge0, zz_gt0, zz_le0, zz_eq0, zz_m1lt, zz_m1ge, zz_m1eq, bI_eq0, decide_eq_false_iff_not, decide_eq_true_eq, Decidable.not_not, not_true_eq_false, not_false_eq_true, Nat.not_lt, Nat.not_le, Bool.not_eq_false, Bool.not_eq_true] at c_4
        all_goals omega
      · try simp (disch := omega) only [nI_ltI, nI_leI, nI_eq, zz_lt0, zz_ge0, zz_gt0, zz_le0, zz_eq0, zz_m1lt, zz_m1ge, zz_m1eq, bI_eq0, decide_eq_false_iff_not, decide_eq_true_eq, Decidable.not_not, not_true_eq_false, not_false_eq_true, Nat.not_lt, Nat.not_le, Bool.not_eq_false, Bool.not_eq_true] at c_4
        first | refine V.aload_n dR_moved_7 rfl ?_ | refine V.aload_nN dR_moved_7 rfl ?_
        refine V.getk dR_moved_8 (by omega) (by assumption) f_R_83_4 hg9 ?_
        refine V.if_eq (tgt := 16) dR_moved_11 (by decide) (fun c_11 => ?_) (fun c_11 => ?_)
        · skip
          exact absurd c_11 (by decide)
        · skip
          refine V.iconst (v := (nI 0)) dR_moved_14 (by decide) ?_
          refine V.ireturn dR_moved_15 rfl rfl ?_
          exact qn (Or.inr rfl)
    | false =>
      subst hgo
      have q0 := q0 f rfl rfl
      have q1 := q1 f rfl rfl
      cases hr : s_lead T p hand len with
      | none =>
        have hdir : s_dir T (s_lead T p hand len) = none := by (rw [hr]; rfl)
        cases hh : s_home T p hand len with
        | none =>
          have ht : s_tgt T p hand len = none := by (unfold s_tgt; rw [hdir, hh])
          first | refine V.aload_n dR_moved_0 rfl ?_ | refine V.aload_nN dR_moved_0 rfl ?_
          refine V.getk dR_moved_1 (by omega) (by assumption) f_R_32_4 hO9 ?_
          refine V.if_lt (tgt := 14) dR_moved_4 (by decide) (fun c_4 => ?_) (fun c_4 => ?_)
          · try simp (disch := omega) only [nI_ltI, nI_leI, nI_eq, zz_lt0, zz_ge0, zz_gt0, zz_le0, zz_eq0, zz_m1lt, zz_m1ge, zz_m1eq, bI_eq0, decide_eq_false_iff_not, decide_eq_true_eq, Decidable.not_not, not_true_eq_false, not_false_eq_true, Nat.not_lt, Nat.not_le, Bool.not_eq_false, Bool.not_eq_true] at c_4
            all_goals omega
          · try simp (disch := omega) only [nI_ltI, nI_leI, nI_eq, zz_lt0, zz_ge0, zz_gt0, zz_le0, zz_eq0, zz_m1lt, zz_m1ge, zz_m1eq, bI_eq0, decide_eq_false_iff_not, decide_eq_true_eq, Decidable.not_not, not_true_eq_false, not_false_eq_true, Nat.not_lt, Nat.not_le, Bool.not_eq_false, Bool.not_eq_true] at c_4
            first | refine V.aload_n dR_moved_7 rfl ?_ | refine V.aload_nN dR_moved_7 rfl ?_
            refine V.getk dR_moved_8 (by omega) (by assumption) f_R_83_4 (show h.2.1 o 10 = .int (bI false) from hg) ?_
            refine V.if_eq (tgt := 16) dR_moved_11 (by decide) (fun c_11 => ?_) (fun c_11 => ?_)
            · skip
              first | refine V.aload_n dR_moved_16 rfl ?_ | refine V.aload_nN dR_moved_16 rfl ?_
              first | refine V.aload_n dR_moved_17 rfl ?_ | refine V.aload_nN dR_moved_17 rfl ?_
              refine V.getk dR_moved_18 (by omega) (by assumption) f_R_44_4 (by assumption) ?_
              refine V.callVk (kd := 4) 0 _ 0 _ [_] dR_moved_21 okR_lead n_R_65 (by omega) (by assumption) rfl imR_lead seR_lead_R (by decide) (by decide) rfl rfl (Nat.le_of_ble_eq_true rfl) (Nat.le_of_ble_eq_true rfl) (Nat.le_of_eq (Nat.zero_add _)) (Nat.le_of_eq (Nat.zero_add _)) (kR_lead hS hP hT hH (by omega) ?_)
              rw [hr]
              show V G mR_moved 24 _ [.int (-1)] h 0 0 Q
              refine V.istore_n dR_moved_24 (by decide) ?_
              refine V.iload_n dR_moved_25 rfl ?_
              refine V.if_lt (tgt := 43) dR_moved_26 (by decide) (fun c_26 => ?_) (fun c_26 => ?_)
              · try simp only [zz_m1lt, zz_m1ge, not_true_eq_false, not_false_eq_true] at c_26
                refine V.iconst (v := (nI 0)) dR_moved_43 (by decide) ?_
                refine V.istore_n dR_moved_44 (by decide) ?_
                refine V.iload_n dR_moved_45 rfl ?_
                refine V.if_eq (tgt := 53) dR_moved_46 (by decide) (fun c_46 => ?_) (fun c_46 => ?_)
                · try simp (disch := omega) only [nI_ltI, nI_leI, nI_eq, zz_lt0, zz_ge0, zz_gt0, zz_le0, zz_eq0, zz_m1lt, zz_m1ge, zz_m1eq, bI_eq0, decide_eq_false_iff_not, decide_eq_true_eq, Decidable.not_not, not_true_eq_false, not_false_eq_true, Nat.not_lt, Nat.not_le, Bool.not_eq_false, Bool.not_eq_true] at c_46
                  first | refine V.aload_n dR_moved_53 rfl ?_ | refine V.aload_nN dR_moved_53 rfl ?_
                  refine V.callVk (kd := 4) 0 _ 0 _ [] dR_moved_54 okR_home n_R_69 (by omega) (by assumption) rfl imR_home seR_home_R (by decide) (by decide) rfl rfl (Nat.le_of_ble_eq_true rfl) (Nat.le_of_ble_eq_true rfl) (Nat.le_of_eq (Nat.zero_add _)) (Nat.le_of_eq (Nat.zero_add _)) (kR_home hS hP hT hH hhd ?_)
                  rw [hh]
                  show V G mR_moved 57 _ [.int (-1)] h 0 0 Q
                  refine V.istore_n dR_moved_57 (by decide) ?_
                  refine V.iload_n dR_moved_58 rfl ?_
                  refine V.if_lt (tgt := 73) dR_moved_59 (by decide) (fun c_59 => ?_) (fun c_59 => ?_)
                  · try simp only [zz_m1lt, zz_m1ge, not_true_eq_false, not_false_eq_true] at c_59
                    refine V.iconst (v := (nI 0)) dR_moved_73 (by decide) ?_
                    refine V.ireturn dR_moved_74 rfl rfl ?_
                    exact q0 (Or.inl ht)
                  · try simp only [zz_m1lt, zz_m1ge, not_true_eq_false, not_false_eq_true] at c_59
                    all_goals omega
                · try simp (disch := omega) only [nI_ltI, nI_leI, nI_eq, zz_lt0, zz_ge0, zz_gt0, zz_le0, zz_eq0, zz_m1lt, zz_m1ge, zz_m1eq, bI_eq0, decide_eq_false_iff_not, decide_eq_true_eq, Decidable.not_not, not_true_eq_false, not_false_eq_true, Nat.not_lt, Nat.not_le, Bool.not_eq_false, Bool.not_eq_true] at c_46
                  all_goals omega
              · try simp only [zz_m1lt, zz_m1ge, not_true_eq_false, not_false_eq_true] at c_26
                all_goals omega
            · skip
              exact absurd (by decide) c_11
        | some d =>
          have hd := s_home_lt hin2 hhl hh
          by_cases hnm9 : s_isName p len
          · have ht : s_tgt T p hand len = some (d, false) := by (unfold s_tgt; rw [hdir, hh]; dsimp only; rw [if_pos hnm9])
            first | refine V.aload_n dR_moved_0 rfl ?_ | refine V.aload_nN dR_moved_0 rfl ?_
            refine V.getk dR_moved_1 (by omega) (by assumption) f_R_32_4 hO9 ?_
            refine V.if_lt (tgt := 14) dR_moved_4 (by decide) (fun c_4 => ?_) (fun c_4 => ?_)
            · try simp (disch := omega) only [nI_ltI, nI_leI, nI_eq, zz_lt0, zz_ge0, zz_gt0, zz_le0, zz_eq0, zz_m1lt, zz_m1ge, zz_m1eq, bI_eq0, decide_eq_false_iff_not, decide_eq_true_eq, Decidable.not_not, not_true_eq_false, not_false_eq_true, Nat.not_lt, Nat.not_le, Bool.not_eq_false, Bool.not_eq_true] at c_4
              all_goals omega
            · try simp (disch := omega) only [nI_ltI, nI_leI, nI_eq, zz_lt0, zz_ge0, zz_gt0, zz_le0, zz_eq0, zz_m1lt, zz_m1ge, zz_m1eq, bI_eq0, decide_eq_false_iff_not, decide_eq_true_eq, Decidable.not_not, not_true_eq_false, not_false_eq_true, Nat.not_lt, Nat.not_le, Bool.not_eq_false, Bool.not_eq_true] at c_4
              first | refine V.aload_n dR_moved_7 rfl ?_ | refine V.aload_nN dR_moved_7 rfl ?_
              refine V.getk dR_moved_8 (by omega) (by assumption) f_R_83_4 (show h.2.1 o 10 = .int (bI false) from hg) ?_
              refine V.if_eq (tgt := 16) dR_moved_11 (by decide) (fun c_11 => ?_) (fun c_11 => ?_)
              · skip
                first | refine V.aload_n dR_moved_16 rfl ?_ | refine V.aload_nN dR_moved_16 rfl ?_
                first | refine V.aload_n dR_moved_17 rfl ?_ | refine V.aload_nN dR_moved_17 rfl ?_
                refine V.getk dR_moved_18 (by omega) (by assumption) f_R_44_4 (by assumption) ?_
                refine V.callVk (kd := 4) 0 _ 0 _ [_] dR_moved_21 okR_lead n_R_65 (by omega) (by assumption) rfl imR_lead seR_lead_R (by decide) (by decide) rfl rfl (Nat.le_of_ble_eq_true rfl) (Nat.le_of_ble_eq_true rfl) (Nat.le_of_eq (Nat.zero_add _)) (Nat.le_of_eq (Nat.zero_add _)) (kR_lead hS hP hT hH (by omega) ?_)
                rw [hr]
                show V G mR_moved 24 _ [.int (-1)] h 0 0 Q
                refine V.istore_n dR_moved_24 (by decide) ?_
                refine V.iload_n dR_moved_25 rfl ?_
                refine V.if_lt (tgt := 43) dR_moved_26 (by decide) (fun c_26 => ?_) (fun c_26 => ?_)
                · try simp only [zz_m1lt, zz_m1ge, not_true_eq_false, not_false_eq_true] at c_26
                  refine V.iconst (v := (nI 0)) dR_moved_43 (by decide) ?_
                  refine V.istore_n dR_moved_44 (by decide) ?_
                  refine V.iload_n dR_moved_45 rfl ?_
                  refine V.if_eq (tgt := 53) dR_moved_46 (by decide) (fun c_46 => ?_) (fun c_46 => ?_)
                  · try simp (disch := omega) only [nI_ltI, nI_leI, nI_eq, zz_lt0, zz_ge0, zz_gt0, zz_le0, zz_eq0, zz_m1lt, zz_m1ge, zz_m1eq, bI_eq0, decide_eq_false_iff_not, decide_eq_true_eq, Decidable.not_not, not_true_eq_false, not_false_eq_true, Nat.not_lt, Nat.not_le, Bool.not_eq_false, Bool.not_eq_true] at c_46
                    first | refine V.aload_n dR_moved_53 rfl ?_ | refine V.aload_nN dR_moved_53 rfl ?_
                    refine V.callVk (kd := 4) 0 _ 0 _ [] dR_moved_54 okR_home n_R_69 (by omega) (by assumption) rfl imR_home seR_home_R (by decide) (by decide) rfl rfl (Nat.le_of_ble_eq_true rfl) (Nat.le_of_ble_eq_true rfl) (Nat.le_of_eq (Nat.zero_add _)) (Nat.le_of_eq (Nat.zero_add _)) (kR_home hS hP hT hH hhd ?_)
                    rw [hh]
                    show V G mR_moved 57 _ [.int (nI d)] h 0 0 Q
                    refine V.istore_n dR_moved_57 (by decide) ?_
                    refine V.iload_n dR_moved_58 rfl ?_
                    refine V.if_lt (tgt := 73) dR_moved_59 (by decide) (fun c_59 => ?_) (fun c_59 => ?_)
                    · try simp (disch := omega) only [nI_ltI, nI_leI, nI_eq, zz_lt0, zz_ge0, zz_gt0, zz_le0, zz_eq0, zz_m1lt, zz_m1ge, zz_m1eq, bI_eq0, decide_eq_false_iff_not, decide_eq_true_eq, Decidable.not_not, not_true_eq_false, not_false_eq_true, Nat.not_lt, Nat.not_le, Bool.not_eq_false, Bool.not_eq_true] at c_59
                      all_goals omega
                    · try simp (disch := omega) only [nI_ltI, nI_leI, nI_eq, zz_lt0, zz_ge0, zz_gt0, zz_le0, zz_eq0, zz_m1lt, zz_m1ge, zz_m1eq, bI_eq0, decide_eq_false_iff_not, decide_eq_true_eq, Decidable.not_not, not_true_eq_false, not_false_eq_true, Nat.not_lt, Nat.not_le, Bool.not_eq_false, Bool.not_eq_true] at c_59
                      refine V.iload_n dR_moved_62 rfl ?_
                      refine V.if_ne (tgt := 75) dR_moved_63 (by decide) (fun c_63 => ?_) (fun c_63 => ?_)
                      · try simp (disch := omega) only [nI_ltI, nI_leI, nI_eq, zz_lt0, zz_ge0, zz_gt0, zz_le0, zz_eq0, zz_m1lt, zz_m1ge, zz_m1eq, bI_eq0, decide_eq_false_iff_not, decide_eq_true_eq, Decidable.not_not, not_true_eq_false, not_false_eq_true, Nat.not_lt, Nat.not_le, Bool.not_eq_false, Bool.not_eq_true] at c_63
                        all_goals omega
                      · try simp (disch := omega) only [nI_ltI, nI_leI, nI_eq, zz_lt0, zz_ge0, zz_gt0, zz_le0, zz_eq0, zz_m1lt, zz_m1ge, zz_m1eq, bI_eq0, decide_eq_false_iff_not, decide_eq_true_eq, Decidable.not_not, not_true_eq_false, not_false_eq_true, Nat.not_lt, Nat.not_le, Bool.not_eq_false, Bool.not_eq_true] at c_63
                        first | refine V.aload_n dR_moved_66 rfl ?_ | refine V.aload_nN dR_moved_66 rfl ?_
                        refine V.callVk (kd := 4) 0 _ 0 _ [] dR_moved_67 okR_isName n_R_72 (by omega) (by assumption) rfl imR_isName seR_isName_R (by decide) (by decide) rfl rfl (Nat.le_of_ble_eq_true rfl) (Nat.le_of_ble_eq_true rfl) (Nat.le_of_eq (Nat.zero_add _)) (Nat.le_of_eq (Nat.zero_add _)) (kR_isName hS hP ?_)
                        refine V.if_ne (tgt := 75) dR_moved_70 (by decide) (fun c_70 => ?_) (fun c_70 => ?_)
                        · try simp only [bI_eq0, decide_eq_false_iff_not, Decidable.not_not] at c_70
                          refine V.iload_n dR_moved_75 rfl ?_
                          refine V.if_eq (tgt := 91) dR_moved_76 (by decide) (fun c_76 => ?_) (fun c_76 => ?_)
                          · try simp (disch := omega) only [nI_ltI, nI_leI, nI_eq, zz_lt0, zz_ge0, zz_gt0, zz_le0, zz_eq0, zz_m1lt, zz_m1ge, zz_m1eq, bI_eq0, decide_eq_false_iff_not, decide_eq_true_eq, Decidable.not_not, not_true_eq_false, not_false_eq_true, Nat.not_lt, Nat.not_le, Bool.not_eq_false, Bool.not_eq_true] at c_76
                            first | refine V.aload_n dR_moved_91 rfl ?_ | refine V.aload_nN dR_moved_91 rfl ?_
                            refine V.iload_n dR_moved_92 rfl ?_
                            first | refine V.aload_n dR_moved_93 rfl ?_ | refine V.aload_nN dR_moved_93 rfl ?_
                            refine V.callVk (kd := 4) 0 _ 0 _ [] dR_moved_94 okR_last n_R_61 (by omega) (by assumption) rfl imR_last seR_last_R (by decide) (by decide) rfl rfl (Nat.le_of_ble_eq_true rfl) (Nat.le_of_ble_eq_true rfl) (Nat.le_of_eq (Nat.zero_add _)) (Nat.le_of_eq (Nat.zero_add _)) (kR_last hS hP ?_)
                            first | refine V.aload_n dR_moved_97 rfl ?_ | refine V.aload_nN dR_moved_97 rfl ?_
                            refine V.getk dR_moved_98 (by omega) (by assumption) f_R_44_4 (by assumption) ?_
                            refine V.callVk (kd := 4) 0 _ 0 _ [_, _, _] dR_moved_101 okR_entry n_R_51 (by omega) (by assumption) rfl imR_entry seR_entry_R (by decide) (by decide) rfl rfl (Nat.le_of_ble_eq_true rfl) (Nat.le_of_ble_eq_true rfl) (Nat.le_of_eq (Nat.zero_add _)) (Nat.le_of_eq (Nat.zero_add _)) (kR_entry hS hP hT hd (by omega) (by omega) ?_)
                            exact V.re [3, 2, 1, 0] rfl (kR_moved_tail (b := false) hI hf hd (fun t z => s_ent_lt z) hen (fun _ => hnm9.2.1) (fun z => q0 (Or.inr ⟨(d, false), ht, z⟩)) (fun z h9 hI9 hF9 => q1 (d, false) ht z h9 hI9 hF9))
                          · try simp (disch := omega) only [nI_ltI, nI_leI, nI_eq, zz_lt0, zz_ge0, zz_gt0, zz_le0, zz_eq0, zz_m1lt, zz_m1ge, zz_m1eq, bI_eq0, decide_eq_false_iff_not, decide_eq_true_eq, Decidable.not_not, not_true_eq_false, not_false_eq_true, Nat.not_lt, Nat.not_le, Bool.not_eq_false, Bool.not_eq_true] at c_76
                            all_goals omega
                        · try simp only [bI_eq0, decide_eq_false_iff_not, Decidable.not_not] at c_70
                          exact absurd hnm9 c_70
                  · try simp (disch := omega) only [nI_ltI, nI_leI, nI_eq, zz_lt0, zz_ge0, zz_gt0, zz_le0, zz_eq0, zz_m1lt, zz_m1ge, zz_m1eq, bI_eq0, decide_eq_false_iff_not, decide_eq_true_eq, Decidable.not_not, not_true_eq_false, not_false_eq_true, Nat.not_lt, Nat.not_le, Bool.not_eq_false, Bool.not_eq_true] at c_46
                    all_goals omega
                · try simp only [zz_m1lt, zz_m1ge, not_true_eq_false, not_false_eq_true] at c_26
                  all_goals omega
              · skip
                exact absurd (by decide) c_11
          · have ht : s_tgt T p hand len = none := by (unfold s_tgt; rw [hdir, hh]; dsimp only; rw [if_neg hnm9])
            first | refine V.aload_n dR_moved_0 rfl ?_ | refine V.aload_nN dR_moved_0 rfl ?_
            refine V.getk dR_moved_1 (by omega) (by assumption) f_R_32_4 hO9 ?_
            refine V.if_lt (tgt := 14) dR_moved_4 (by decide) (fun c_4 => ?_) (fun c_4 => ?_)
            · try simp (disch := omega) only [nI_ltI, nI_leI, nI_eq, zz_lt0, zz_ge0, zz_gt0, zz_le0, zz_eq0, zz_m1lt, zz_m1ge, zz_m1eq, bI_eq0, decide_eq_false_iff_not, decide_eq_true_eq, Decidable.not_not, not_true_eq_false, not_false_eq_true, Nat.not_lt, Nat.not_le, Bool.not_eq_false, Bool.not_eq_true] at c_4
              all_goals omega
            · try simp (disch := omega) only [nI_ltI, nI_leI, nI_eq, zz_lt0, zz_ge0, zz_gt0, zz_le0, zz_eq0, zz_m1lt, zz_m1ge, zz_m1eq, bI_eq0, decide_eq_false_iff_not, decide_eq_true_eq, Decidable.not_not, not_true_eq_false, not_false_eq_true, Nat.not_lt, Nat.not_le, Bool.not_eq_false, Bool.not_eq_true] at c_4
              first | refine V.aload_n dR_moved_7 rfl ?_ | refine V.aload_nN dR_moved_7 rfl ?_
              refine V.getk dR_moved_8 (by omega) (by assumption) f_R_83_4 (show h.2.1 o 10 = .int (bI false) from hg) ?_
              refine V.if_eq (tgt := 16) dR_moved_11 (by decide) (fun c_11 => ?_) (fun c_11 => ?_)
              · skip
                first | refine V.aload_n dR_moved_16 rfl ?_ | refine V.aload_nN dR_moved_16 rfl ?_
                first | refine V.aload_n dR_moved_17 rfl ?_ | refine V.aload_nN dR_moved_17 rfl ?_
                refine V.getk dR_moved_18 (by omega) (by assumption) f_R_44_4 (by assumption) ?_
                refine V.callVk (kd := 4) 0 _ 0 _ [_] dR_moved_21 okR_lead n_R_65 (by omega) (by assumption) rfl imR_lead seR_lead_R (by decide) (by decide) rfl rfl (Nat.le_of_ble_eq_true rfl) (Nat.le_of_ble_eq_true rfl) (Nat.le_of_eq (Nat.zero_add _)) (Nat.le_of_eq (Nat.zero_add _)) (kR_lead hS hP hT hH (by omega) ?_)
                rw [hr]
                show V G mR_moved 24 _ [.int (-1)] h 0 0 Q
                refine V.istore_n dR_moved_24 (by decide) ?_
                refine V.iload_n dR_moved_25 rfl ?_
                refine V.if_lt (tgt := 43) dR_moved_26 (by decide) (fun c_26 => ?_) (fun c_26 => ?_)
                · try simp only [zz_m1lt, zz_m1ge, not_true_eq_false, not_false_eq_true] at c_26
                  refine V.iconst (v := (nI 0)) dR_moved_43 (by decide) ?_
                  refine V.istore_n dR_moved_44 (by decide) ?_
                  refine V.iload_n dR_moved_45 rfl ?_
                  refine V.if_eq (tgt := 53) dR_moved_46 (by decide) (fun c_46 => ?_) (fun c_46 => ?_)
                  · try simp (disch := omega) only [nI_ltI, nI_leI, nI_eq, zz_lt0, zz_ge0, zz_gt0, zz_le0, zz_eq0, zz_m1lt, zz_m1ge, zz_m1eq, bI_eq0, decide_eq_false_iff_not, decide_eq_true_eq, Decidable.not_not, not_true_eq_false, not_false_eq_true, Nat.not_lt, Nat.not_le, Bool.not_eq_false, Bool.not_eq_true] at c_46
                    first | refine V.aload_n dR_moved_53 rfl ?_ | refine V.aload_nN dR_moved_53 rfl ?_
                    refine V.callVk (kd := 4) 0 _ 0 _ [] dR_moved_54 okR_home n_R_69 (by omega) (by assumption) rfl imR_home seR_home_R (by decide) (by decide) rfl rfl (Nat.le_of_ble_eq_true rfl) (Nat.le_of_ble_eq_true rfl) (Nat.le_of_eq (Nat.zero_add _)) (Nat.le_of_eq (Nat.zero_add _)) (kR_home hS hP hT hH hhd ?_)
                    rw [hh]
                    show V G mR_moved 57 _ [.int (nI d)] h 0 0 Q
                    refine V.istore_n dR_moved_57 (by decide) ?_
                    refine V.iload_n dR_moved_58 rfl ?_
                    refine V.if_lt (tgt := 73) dR_moved_59 (by decide) (fun c_59 => ?_) (fun c_59 => ?_)
                    · try simp (disch := omega) only [nI_ltI, nI_leI, nI_eq, zz_lt0, zz_ge0, zz_gt0, zz_le0, zz_eq0, zz_m1lt, zz_m1ge, zz_m1eq, bI_eq0, decide_eq_false_iff_not, decide_eq_true_eq, Decidable.not_not, not_true_eq_false, not_false_eq_true, Nat.not_lt, Nat.not_le, Bool.not_eq_false, Bool.not_eq_true] at c_59
                      all_goals omega
                    · try simp (disch := omega) only [nI_ltI, nI_leI, nI_eq, zz_lt0, zz_ge0, zz_gt0, zz_le0, zz_eq0, zz_m1lt, zz_m1ge, zz_m1eq, bI_eq0, decide_eq_false_iff_not, decide_eq_true_eq, Decidable.not_not, not_true_eq_false, not_false_eq_true, Nat.not_lt, Nat.not_le, Bool.not_eq_false, Bool.not_eq_true] at c_59
                      refine V.iload_n dR_moved_62 rfl ?_
                      refine V.if_ne (tgt := 75) dR_moved_63 (by decide) (fun c_63 => ?_) (fun c_63 => ?_)
                      · try simp (disch := omega) only [nI_ltI, nI_leI, nI_eq, zz_lt0, zz_ge0, zz_gt0, zz_le0, zz_eq0, zz_m1lt, zz_m1ge, zz_m1eq, bI_eq0, decide_eq_false_iff_not, decide_eq_true_eq, Decidable.not_not, not_true_eq_false, not_false_eq_true, Nat.not_lt, Nat.not_le, Bool.not_eq_false, Bool.not_eq_true] at c_63
                        all_goals omega
                      · try simp (disch := omega) only [nI_ltI, nI_leI, nI_eq, zz_lt0, zz_ge0, zz_gt0, zz_le0, zz_eq0, zz_m1lt, zz_m1ge, zz_m1eq, bI_eq0, decide_eq_false_iff_not, decide_eq_true_eq, Decidable.not_not, not_true_eq_false, not_false_eq_true, Nat.not_lt, Nat.not_le, Bool.not_eq_false, Bool.not_eq_true] at c_63
                        first | refine V.aload_n dR_moved_66 rfl ?_ | refine V.aload_nN dR_moved_66 rfl ?_
                        refine V.callVk (kd := 4) 0 _ 0 _ [] dR_moved_67 okR_isName n_R_72 (by omega) (by assumption) rfl imR_isName seR_isName_R (by decide) (by decide) rfl rfl (Nat.le_of_ble_eq_true rfl) (Nat.le_of_ble_eq_true rfl) (Nat.le_of_eq (Nat.zero_add _)) (Nat.le_of_eq (Nat.zero_add _)) (kR_isName hS hP ?_)
                        refine V.if_ne (tgt := 75) dR_moved_70 (by decide) (fun c_70 => ?_) (fun c_70 => ?_)
                        · try simp only [bI_eq0, decide_eq_false_iff_not, Decidable.not_not] at c_70
                          exact absurd c_70 hnm9
                        · try simp only [bI_eq0, decide_eq_false_iff_not, Decidable.not_not] at c_70
                          refine V.iconst (v := (nI 0)) dR_moved_73 (by decide) ?_
                          refine V.ireturn dR_moved_74 rfl rfl ?_
                          exact q0 (Or.inl ht)
                  · try simp (disch := omega) only [nI_ltI, nI_leI, nI_eq, zz_lt0, zz_ge0, zz_gt0, zz_le0, zz_eq0, zz_m1lt, zz_m1ge, zz_m1eq, bI_eq0, decide_eq_false_iff_not, decide_eq_true_eq, Decidable.not_not, not_true_eq_false, not_false_eq_true, Nat.not_lt, Nat.not_le, Bool.not_eq_false, Bool.not_eq_true] at c_46
                    all_goals omega
                · try simp only [zz_m1lt, zz_m1ge, not_true_eq_false, not_false_eq_true] at c_26
                  all_goals omega
              · skip
                exact absurd (by decide) c_11
      | some e =>
        have he := s_lead_lt hin2 hhl hr
        have hke := hkd2 e he
        by_cases hk2e : T.1 e = 2
        · have hdir : s_dir T (s_lead T p hand len) = some e := by (rw [hr]; simp only [s_dir]; rw [if_pos hk2e])
          have ht : s_tgt T p hand len = some (e, true) := by (unfold s_tgt; rw [hdir])
          first | refine V.aload_n dR_moved_0 rfl ?_ | refine V.aload_nN dR_moved_0 rfl ?_
          refine V.getk dR_moved_1 (by omega) (by assumption) f_R_32_4 hO9 ?_
          refine V.if_lt (tgt := 14) dR_moved_4 (by decide) (fun c_4 => ?_) (fun c_4 => ?_)
          · try simp (disch := omega) only [nI_ltI, nI_leI, nI_eq, zz_lt0, zz_ge0, zz_gt0, zz_le0, zz_eq0, zz_m1lt, zz_m1ge, zz_m1eq, bI_eq0, decide_eq_false_iff_not, decide_eq_true_eq, Decidable.not_not, not_true_eq_false, not_false_eq_true, Nat.not_lt, Nat.not_le, Bool.not_eq_false, Bool.not_eq_true] at c_4
            all_goals omega
          · try simp (disch := omega) only [nI_ltI, nI_leI, nI_eq, zz_lt0, zz_ge0, zz_gt0, zz_le0, zz_eq0, zz_m1lt, zz_m1ge, zz_m1eq, bI_eq0, decide_eq_false_iff_not, decide_eq_true_eq, Decidable.not_not, not_true_eq_false, not_false_eq_true, Nat.not_lt, Nat.not_le, Bool.not_eq_false, Bool.not_eq_true] at c_4
            first | refine V.aload_n dR_moved_7 rfl ?_ | refine V.aload_nN dR_moved_7 rfl ?_
            refine V.getk dR_moved_8 (by omega) (by assumption) f_R_83_4 (show h.2.1 o 10 = .int (bI false) from hg) ?_
            refine V.if_eq (tgt := 16) dR_moved_11 (by decide) (fun c_11 => ?_) (fun c_11 => ?_)
            · skip
              first | refine V.aload_n dR_moved_16 rfl ?_ | refine V.aload_nN dR_moved_16 rfl ?_
              first | refine V.aload_n dR_moved_17 rfl ?_ | refine V.aload_nN dR_moved_17 rfl ?_
              refine V.getk dR_moved_18 (by omega) (by assumption) f_R_44_4 (by assumption) ?_
              refine V.callVk (kd := 4) 0 _ 0 _ [_] dR_moved_21 okR_lead n_R_65 (by omega) (by assumption) rfl imR_lead seR_lead_R (by decide) (by decide) rfl rfl (Nat.le_of_ble_eq_true rfl) (Nat.le_of_ble_eq_true rfl) (Nat.le_of_eq (Nat.zero_add _)) (Nat.le_of_eq (Nat.zero_add _)) (kR_lead hS hP hT hH (by omega) ?_)
              rw [hr]
              show V G mR_moved 24 _ [.int (nI e)] h 0 0 Q
              refine V.istore_n dR_moved_24 (by decide) ?_
              refine V.iload_n dR_moved_25 rfl ?_
              refine V.if_lt (tgt := 43) dR_moved_26 (by decide) (fun c_26 => ?_) (fun c_26 => ?_)
              · try simp (disch := omega) only [nI_ltI, nI_leI, nI_eq, zz_lt0, zz_ge0, zz_gt0, zz_le0, zz_eq0, zz_m1lt, zz_m1ge, zz_m1eq, bI_eq0, decide_eq_false_iff_not, decide_eq_true_eq, Decidable.not_not, not_true_eq_false, not_false_eq_true, Nat.not_lt, Nat.not_le, Bool.not_eq_false, Bool.not_eq_true] at c_26
                all_goals omega
              · try simp (disch := omega) only [nI_ltI, nI_leI, nI_eq, zz_lt0, zz_ge0, zz_gt0, zz_le0, zz_eq0, zz_m1lt, zz_m1ge, zz_m1eq, bI_eq0, decide_eq_false_iff_not, decide_eq_true_eq, Decidable.not_not, not_true_eq_false, not_false_eq_true, Nat.not_lt, Nat.not_le, Bool.not_eq_false, Bool.not_eq_true] at c_26
                first | refine V.aload_n dR_moved_29 rfl ?_ | refine V.aload_nN dR_moved_29 rfl ?_
                refine V.getk dR_moved_30 (by omega) (by assumption) f_R_13_4 (by assumption) ?_
                refine V.iload_n dR_moved_33 rfl ?_
                refine V.ialoadN dR_moved_34 (by omega) (by assumption) (by omega) (hkd e he) ?_
                refine V.iconst (v := (nI 2)) dR_moved_35 (by decide) ?_
                refine V.icmp_ne (tgt := 43) dR_moved_36 (by decide) (fun c_36 => ?_) (fun c_36 => ?_)
                · try simp (disch := omega) only [nI_ltI, nI_leI, nI_eq, zz_lt0, zz_ge0, zz_gt0, zz_le0, zz_eq0, zz_m1lt, zz_m1ge, zz_m1eq, bI_eq0, decide_eq_false_iff_not, decide_eq_true_eq, Decidable.not_not, not_true_eq_false, not_false_eq_true, Nat.not_lt, Nat.not_le, Bool.not_eq_false, Bool.not_eq_true] at c_36
                  all_goals omega
                · try simp (disch := omega) only [nI_ltI, nI_leI, nI_eq, zz_lt0, zz_ge0, zz_gt0, zz_le0, zz_eq0, zz_m1lt, zz_m1ge, zz_m1eq, bI_eq0, decide_eq_false_iff_not, decide_eq_true_eq, Decidable.not_not, not_true_eq_false, not_false_eq_true, Nat.not_lt, Nat.not_le, Bool.not_eq_false, Bool.not_eq_true] at c_36
                  refine V.iconst (v := (nI 1)) dR_moved_39 (by decide) ?_
                  refine V.goto (tgt := 44) dR_moved_40 (by decide) ?_
                  refine V.istore_n dR_moved_44 (by decide) ?_
                  refine V.iload_n dR_moved_45 rfl ?_
                  refine V.if_eq (tgt := 53) dR_moved_46 (by decide) (fun c_46 => ?_) (fun c_46 => ?_)
                  · try simp (disch := omega) only [nI_ltI, nI_leI, nI_eq, zz_lt0, zz_ge0, zz_gt0, zz_le0, zz_eq0, zz_m1lt, zz_m1ge, zz_m1eq, bI_eq0, decide_eq_false_iff_not, decide_eq_true_eq, Decidable.not_not, not_true_eq_false, not_false_eq_true, Nat.not_lt, Nat.not_le, Bool.not_eq_false, Bool.not_eq_true] at c_46
                    all_goals omega
                  · try simp (disch := omega) only [nI_ltI, nI_leI, nI_eq, zz_lt0, zz_ge0, zz_gt0, zz_le0, zz_eq0, zz_m1lt, zz_m1ge, zz_m1eq, bI_eq0, decide_eq_false_iff_not, decide_eq_true_eq, Decidable.not_not, not_true_eq_false, not_false_eq_true, Nat.not_lt, Nat.not_le, Bool.not_eq_false, Bool.not_eq_true] at c_46
                    refine V.iload_n dR_moved_49 rfl ?_
                    refine V.goto (tgt := 57) dR_moved_50 (by decide) ?_
                    refine V.istore_n dR_moved_57 (by decide) ?_
                    refine V.iload_n dR_moved_58 rfl ?_
                    refine V.if_lt (tgt := 73) dR_moved_59 (by decide) (fun c_59 => ?_) (fun c_59 => ?_)
                    · try simp (disch := omega) only [nI_ltI, nI_leI, nI_eq, zz_lt0, zz_ge0, zz_gt0, zz_le0, zz_eq0, zz_m1lt, zz_m1ge, zz_m1eq, bI_eq0, decide_eq_false_iff_not, decide_eq_true_eq, Decidable.not_not, not_true_eq_false, not_false_eq_true, Nat.not_lt, Nat.not_le, Bool.not_eq_false, Bool.not_eq_true] at c_59
                      all_goals omega
                    · try simp (disch := omega) only [nI_ltI, nI_leI, nI_eq, zz_lt0, zz_ge0, zz_gt0, zz_le0, zz_eq0, zz_m1lt, zz_m1ge, zz_m1eq, bI_eq0, decide_eq_false_iff_not, decide_eq_true_eq, Decidable.not_not, not_true_eq_false, not_false_eq_true, Nat.not_lt, Nat.not_le, Bool.not_eq_false, Bool.not_eq_true] at c_59
                      refine V.iload_n dR_moved_62 rfl ?_
                      refine V.if_ne (tgt := 75) dR_moved_63 (by decide) (fun c_63 => ?_) (fun c_63 => ?_)
                      · try simp (disch := omega) only [nI_ltI, nI_leI, nI_eq, zz_lt0, zz_ge0, zz_gt0, zz_le0, zz_eq0, zz_m1lt, zz_m1ge, zz_m1eq, bI_eq0, decide_eq_false_iff_not, decide_eq_true_eq, Decidable.not_not, not_true_eq_false, not_false_eq_true, Nat.not_lt, Nat.not_le, Bool.not_eq_false, Bool.not_eq_true] at c_63
                        refine V.iload_n dR_moved_75 rfl ?_
                        refine V.if_eq (tgt := 91) dR_moved_76 (by decide) (fun c_76 => ?_) (fun c_76 => ?_)
                        · try simp (disch := omega) only [nI_ltI, nI_leI, nI_eq, zz_lt0, zz_ge0, zz_gt0, zz_le0, zz_eq0, zz_m1lt, zz_m1ge, zz_m1eq, bI_eq0, decide_eq_false_iff_not, decide_eq_true_eq, Decidable.not_not, not_true_eq_false, not_false_eq_true, Nat.not_lt, Nat.not_le, Bool.not_eq_false, Bool.not_eq_true] at c_76
                          all_goals omega
                        · try simp (disch := omega) only [nI_ltI, nI_leI, nI_eq, zz_lt0, zz_ge0, zz_gt0, zz_le0, zz_eq0, zz_m1lt, zz_m1ge, zz_m1eq, bI_eq0, decide_eq_false_iff_not, decide_eq_true_eq, Decidable.not_not, not_true_eq_false, not_false_eq_true, Nat.not_lt, Nat.not_le, Bool.not_eq_false, Bool.not_eq_true] at c_76
                          first | refine V.aload_n dR_moved_79 rfl ?_ | refine V.aload_nN dR_moved_79 rfl ?_
                          refine V.iload_n dR_moved_80 rfl ?_
                          first | refine V.aload_n dR_moved_81 rfl ?_ | refine V.aload_nN dR_moved_81 rfl ?_
                          refine V.getk dR_moved_82 (by omega) (by assumption) f_R_32_4 hO9 ?_
                          refine V.callVk (kd := 4) 0 _ 0 _ [_, _] dR_moved_85 okR_namesake n_R_97 (by omega) (by assumption) rfl imR_namesake seR_namesake_R (by decide) (by decide) rfl rfl (Nat.le_of_ble_eq_true rfl) (Nat.le_of_ble_eq_true rfl) (Nat.le_of_eq (Nat.zero_add _)) (Nat.le_of_eq (Nat.zero_add _)) (kR_namesake hS hT he hf ?_)
                          refine V.goto (tgt := 104) dR_moved_88 (by decide) ?_
                          exact V.re [3, 2, 1, 0] rfl (kR_moved_tail (b := true) hI hf he (fun t z => s_ent_lt z) hen (fun z => by (cases z)) (fun z => q0 (Or.inr ⟨(e, true), ht, z⟩)) (fun z h9 hI9 hF9 => q1 (e, true) ht z h9 hI9 hF9))
                      · try simp (disch := omega) only [nI_ltI, nI_leI, nI_eq, zz_lt0, zz_ge0, zz_gt0, zz_le0, zz_eq0, zz_m1lt, zz_m1ge, zz_m1eq, bI_eq0, decide_eq_false_iff_not, decide_eq_true_eq, Decidable.not_not, not_true_eq_false, not_false_eq_true, Nat.not_lt, Nat.not_le, Bool.not_eq_false, Bool.not_eq_true] at c_63
                        all_goals omega
            · skip
              exact absurd (by decide) c_11
        · have hdir : s_dir T (s_lead T p hand len) = none := by (rw [hr]; simp only [s_dir]; rw [if_neg hk2e])
          cases hh : s_home T p hand len with
          | none =>
            have ht : s_tgt T p hand len = none := by (unfold s_tgt; rw [hdir, hh])
            first | refine V.aload_n dR_moved_0 rfl ?_ | refine V.aload_nN dR_moved_0 rfl ?_
            refine V.getk dR_moved_1 (by omega) (by assumption) f_R_32_4 hO9 ?_
            refine V.if_lt (tgt := 14) dR_moved_4 (by decide) (fun c_4 => ?_) (fun c_4 => ?_)
            · try simp (disch := omega) only [nI_ltI, nI_leI, nI_eq, zz_lt0, zz_ge0, zz_gt0, zz_le0, zz_eq0, zz_m1lt, zz_m1ge, zz_m1eq, bI_eq0, decide_eq_false_iff_not, decide_eq_true_eq, Decidable.not_not, not_true_eq_false, not_false_eq_true, Nat.not_lt, Nat.not_le, Bool.not_eq_false, Bool.not_eq_true] at c_4
              all_goals omega
            · try simp (disch := omega) only [nI_ltI, nI_leI, nI_eq, zz_lt0, zz_ge0, zz_gt0, zz_le0, zz_eq0, zz_m1lt, zz_m1ge, zz_m1eq, bI_eq0, decide_eq_false_iff_not, decide_eq_true_eq, Decidable.not_not, not_true_eq_false, not_false_eq_true, Nat.not_lt, Nat.not_le, Bool.not_eq_false, Bool.not_eq_true] at c_4
              first | refine V.aload_n dR_moved_7 rfl ?_ | refine V.aload_nN dR_moved_7 rfl ?_
              refine V.getk dR_moved_8 (by omega) (by assumption) f_R_83_4 (show h.2.1 o 10 = .int (bI false) from hg) ?_
              refine V.if_eq (tgt := 16) dR_moved_11 (by decide) (fun c_11 => ?_) (fun c_11 => ?_)
              · skip
                first | refine V.aload_n dR_moved_16 rfl ?_ | refine V.aload_nN dR_moved_16 rfl ?_
                first | refine V.aload_n dR_moved_17 rfl ?_ | refine V.aload_nN dR_moved_17 rfl ?_
                refine V.getk dR_moved_18 (by omega) (by assumption) f_R_44_4 (by assumption) ?_
                refine V.callVk (kd := 4) 0 _ 0 _ [_] dR_moved_21 okR_lead n_R_65 (by omega) (by assumption) rfl imR_lead seR_lead_R (by decide) (by decide) rfl rfl (Nat.le_of_ble_eq_true rfl) (Nat.le_of_ble_eq_true rfl) (Nat.le_of_eq (Nat.zero_add _)) (Nat.le_of_eq (Nat.zero_add _)) (kR_lead hS hP hT hH (by omega) ?_)
                rw [hr]
                show V G mR_moved 24 _ [.int (nI e)] h 0 0 Q
                refine V.istore_n dR_moved_24 (by decide) ?_
                refine V.iload_n dR_moved_25 rfl ?_
                refine V.if_lt (tgt := 43) dR_moved_26 (by decide) (fun c_26 => ?_) (fun c_26 => ?_)
                · try simp (disch := omega) only [nI_ltI, nI_leI, nI_eq, zz_lt0, zz_ge0, zz_gt0, zz_le0, zz_eq0, zz_m1lt, zz_m1ge, zz_m1eq, bI_eq0, decide_eq_false_iff_not, decide_eq_true_eq, Decidable.not_not, not_true_eq_false, not_false_eq_true, Nat.not_lt, Nat.not_le, Bool.not_eq_false, Bool.not_eq_true] at c_26
                  all_goals omega
                · try simp (disch := omega) only [nI_ltI, nI_leI, nI_eq, zz_lt0, zz_ge0, zz_gt0, zz_le0, zz_eq0, zz_m1lt, zz_m1ge, zz_m1eq, bI_eq0, decide_eq_false_iff_not, decide_eq_true_eq, Decidable.not_not, not_true_eq_false, not_false_eq_true, Nat.not_lt, Nat.not_le, Bool.not_eq_false, Bool.not_eq_true] at c_26
                  first | refine V.aload_n dR_moved_29 rfl ?_ | refine V.aload_nN dR_moved_29 rfl ?_
                  refine V.getk dR_moved_30 (by omega) (by assumption) f_R_13_4 (by assumption) ?_
                  refine V.iload_n dR_moved_33 rfl ?_
                  refine V.ialoadN dR_moved_34 (by omega) (by assumption) (by omega) (hkd e he) ?_
                  refine V.iconst (v := (nI 2)) dR_moved_35 (by decide) ?_
                  refine V.icmp_ne (tgt := 43) dR_moved_36 (by decide) (fun c_36 => ?_) (fun c_36 => ?_)
                  · try simp (disch := omega) only [nI_ltI, nI_leI, nI_eq, zz_lt0, zz_ge0, zz_gt0, zz_le0, zz_eq0, zz_m1lt, zz_m1ge, zz_m1eq, bI_eq0, decide_eq_false_iff_not, decide_eq_true_eq, Decidable.not_not, not_true_eq_false, not_false_eq_true, Nat.not_lt, Nat.not_le, Bool.not_eq_false, Bool.not_eq_true] at c_36
                    refine V.iconst (v := (nI 0)) dR_moved_43 (by decide) ?_
                    refine V.istore_n dR_moved_44 (by decide) ?_
                    refine V.iload_n dR_moved_45 rfl ?_
                    refine V.if_eq (tgt := 53) dR_moved_46 (by decide) (fun c_46 => ?_) (fun c_46 => ?_)
                    · try simp (disch := omega) only [nI_ltI, nI_leI, nI_eq, zz_lt0, zz_ge0, zz_gt0, zz_le0, zz_eq0, zz_m1lt, zz_m1ge, zz_m1eq, bI_eq0, decide_eq_false_iff_not, decide_eq_true_eq, Decidable.not_not, not_true_eq_false, not_false_eq_true, Nat.not_lt, Nat.not_le, Bool.not_eq_false, Bool.not_eq_true] at c_46
                      first | refine V.aload_n dR_moved_53 rfl ?_ | refine V.aload_nN dR_moved_53 rfl ?_
                      refine V.callVk (kd := 4) 0 _ 0 _ [] dR_moved_54 okR_home n_R_69 (by omega) (by assumption) rfl imR_home seR_home_R (by decide) (by decide) rfl rfl (Nat.le_of_ble_eq_true rfl) (Nat.le_of_ble_eq_true rfl) (Nat.le_of_eq (Nat.zero_add _)) (Nat.le_of_eq (Nat.zero_add _)) (kR_home hS hP hT hH hhd ?_)
                      rw [hh]
                      show V G mR_moved 57 _ [.int (-1)] h 0 0 Q
                      refine V.istore_n dR_moved_57 (by decide) ?_
                      refine V.iload_n dR_moved_58 rfl ?_
                      refine V.if_lt (tgt := 73) dR_moved_59 (by decide) (fun c_59 => ?_) (fun c_59 => ?_)
                      · try simp only [zz_m1lt, zz_m1ge, not_true_eq_false, not_false_eq_true] at c_59
                        refine V.iconst (v := (nI 0)) dR_moved_73 (by decide) ?_
                        refine V.ireturn dR_moved_74 rfl rfl ?_
                        exact q0 (Or.inl ht)
                      · try simp only [zz_m1lt, zz_m1ge, not_true_eq_false, not_false_eq_true] at c_59
                        all_goals omega
                    · try simp (disch := omega) only [nI_ltI, nI_leI, nI_eq, zz_lt0, zz_ge0, zz_gt0, zz_le0, zz_eq0, zz_m1lt, zz_m1ge, zz_m1eq, bI_eq0, decide_eq_false_iff_not, decide_eq_true_eq, Decidable.not_not, not_true_eq_false, not_false_eq_true, Nat.not_lt, Nat.not_le, Bool.not_eq_false, Bool.not_eq_true] at c_46
                      all_goals omega
                  · try simp (disch := omega) only [nI_ltI, nI_leI, nI_eq, zz_lt0, zz_ge0, zz_gt0, zz_le0, zz_eq0, zz_m1lt, zz_m1ge, zz_m1eq, bI_eq0, decide_eq_false_iff_not, decide_eq_true_eq, Decidable.not_not, not_true_eq_false, not_false_eq_true, Nat.not_lt, Nat.not_le, Bool.not_eq_false, Bool.not_eq_true] at c_36
                    all_goals omega
              · skip
                exact absurd (by decide) c_11
          | some d =>
            have hd := s_home_lt hin2 hhl hh
            by_cases hnm9 : s_isName p len
            · have ht : s_tgt T p hand len = some (d, false) := by (unfold s_tgt; rw [hdir, hh]; dsimp only; rw [if_pos hnm9])
              first | refine V.aload_n dR_moved_0 rfl ?_ | refine V.aload_nN dR_moved_0 rfl ?_
              refine V.getk dR_moved_1 (by omega) (by assumption) f_R_32_4 hO9 ?_
              refine V.if_lt (tgt := 14) dR_moved_4 (by decide) (fun c_4 => ?_) (fun c_4 => ?_)
              · try simp (disch := omega) only [nI_ltI, nI_leI, nI_eq, zz_lt0, zz_ge0, zz_gt0, zz_le0, zz_eq0, zz_m1lt, zz_m1ge, zz_m1eq, bI_eq0, decide_eq_false_iff_not, decide_eq_true_eq, Decidable.not_not, not_true_eq_false, not_false_eq_true, Nat.not_lt, Nat.not_le, Bool.not_eq_false, Bool.not_eq_true] at c_4
                all_goals omega
              · try simp (disch := omega) only [nI_ltI, nI_leI, nI_eq, zz_lt0, zz_ge0, zz_gt0, zz_le0, zz_eq0, zz_m1lt, zz_m1ge, zz_m1eq, bI_eq0, decide_eq_false_iff_not, decide_eq_true_eq, Decidable.not_not, not_true_eq_false, not_false_eq_true, Nat.not_lt, Nat.not_le, Bool.not_eq_false, Bool.not_eq_true] at c_4
                first | refine V.aload_n dR_moved_7 rfl ?_ | refine V.aload_nN dR_moved_7 rfl ?_
                refine V.getk dR_moved_8 (by omega) (by assumption) f_R_83_4 (show h.2.1 o 10 = .int (bI false) from hg) ?_
                refine V.if_eq (tgt := 16) dR_moved_11 (by decide) (fun c_11 => ?_) (fun c_11 => ?_)
                · skip
                  first | refine V.aload_n dR_moved_16 rfl ?_ | refine V.aload_nN dR_moved_16 rfl ?_
                  first | refine V.aload_n dR_moved_17 rfl ?_ | refine V.aload_nN dR_moved_17 rfl ?_
                  refine V.getk dR_moved_18 (by omega) (by assumption) f_R_44_4 (by assumption) ?_
                  refine V.callVk (kd := 4) 0 _ 0 _ [_] dR_moved_21 okR_lead n_R_65 (by omega) (by assumption) rfl imR_lead seR_lead_R (by decide) (by decide) rfl rfl (Nat.le_of_ble_eq_true rfl) (Nat.le_of_ble_eq_true rfl) (Nat.le_of_eq (Nat.zero_add _)) (Nat.le_of_eq (Nat.zero_add _)) (kR_lead hS hP hT hH (by omega) ?_)
                  rw [hr]
                  show V G mR_moved 24 _ [.int (nI e)] h 0 0 Q
                  refine V.istore_n dR_moved_24 (by decide) ?_
                  refine V.iload_n dR_moved_25 rfl ?_
                  refine V.if_lt (tgt := 43) dR_moved_26 (by decide) (fun c_26 => ?_) (fun c_26 => ?_)
                  · try simp (disch := omega) only [nI_ltI, nI_leI, nI_eq, zz_lt0, zz_ge0, zz_gt0, zz_le0, zz_eq0, zz_m1lt, zz_m1ge, zz_m1eq, bI_eq0, decide_eq_false_iff_not, decide_eq_true_eq, Decidable.not_not, not_true_eq_false, not_false_eq_true, Nat.not_lt, Nat.not_le, Bool.not_eq_false, Bool.not_eq_true] at c_26
                    all_goals omega
                  · try simp (disch := omega) only [nI_ltI, nI_leI, nI_eq, zz_lt0, zz_ge0, zz_gt0, zz_le0, zz_eq0, zz_m1lt, zz_m1ge, zz_m1eq, bI_eq0, decide_eq_false_iff_not, decide_eq_true_eq, Decidable.not_not, not_true_eq_false, not_false_eq_true, Nat.not_lt, Nat.not_le, Bool.not_eq_false, Bool.not_eq_true] at c_26
                    first | refine V.aload_n dR_moved_29 rfl ?_ | refine V.aload_nN dR_moved_29 rfl ?_
                    refine V.getk dR_moved_30 (by omega) (by assumption) f_R_13_4 (by assumption) ?_
                    refine V.iload_n dR_moved_33 rfl ?_
                    refine V.ialoadN dR_moved_34 (by omega) (by assumption) (by omega) (hkd e he) ?_
                    refine V.iconst (v := (nI 2)) dR_moved_35 (by decide) ?_
                    refine V.icmp_ne (tgt := 43) dR_moved_36 (by decide) (fun c_36 => ?_) (fun c_36 => ?_)
                    · try simp (disch := omega) only [nI_ltI, nI_leI, nI_eq, zz_lt0, zz_ge0, zz_gt0, zz_le0, zz_eq0, zz_m1lt, zz_m1ge, zz_m1eq, bI_eq0, decide_eq_false_iff_not, decide_eq_true_eq, Decidable.not_not, not_true_eq_false, not_false_eq_true, Nat.not_lt, Nat.not_le, Bool.not_eq_false, Bool.not_eq_true] at c_36
                      refine V.iconst (v := (nI 0)) dR_moved_43 (by decide) ?_
                      refine V.istore_n dR_moved_44 (by decide) ?_
                      refine V.iload_n dR_moved_45 rfl ?_
                      refine V.if_eq (tgt := 53) dR_moved_46 (by decide) (fun c_46 => ?_) (fun c_46 => ?_)
                      · try simp (disch := omega) only [nI_ltI, nI_leI, nI_eq, zz_lt0, zz_ge0, zz_gt0, zz_le0, zz_eq0, zz_m1lt, zz_m1ge, zz_m1eq, bI_eq0, decide_eq_false_iff_not, decide_eq_true_eq, Decidable.not_not, not_true_eq_false, not_false_eq_true, Nat.not_lt, Nat.not_le, Bool.not_eq_false, Bool.not_eq_true] at c_46
                        first | refine V.aload_n dR_moved_53 rfl ?_ | refine V.aload_nN dR_moved_53 rfl ?_
                        refine V.callVk (kd := 4) 0 _ 0 _ [] dR_moved_54 okR_home n_R_69 (by omega) (by assumption) rfl imR_home seR_home_R (by decide) (by decide) rfl rfl (Nat.le_of_ble_eq_true rfl) (Nat.le_of_ble_eq_true rfl) (Nat.le_of_eq (Nat.zero_add _)) (Nat.le_of_eq (Nat.zero_add _)) (kR_home hS hP hT hH hhd ?_)
                        rw [hh]
                        show V G mR_moved 57 _ [.int (nI d)] h 0 0 Q
                        refine V.istore_n dR_moved_57 (by decide) ?_
                        refine V.iload_n dR_moved_58 rfl ?_
                        refine V.if_lt (tgt := 73) dR_moved_59 (by decide) (fun c_59 => ?_) (fun c_59 => ?_)
                        · try simp (disch := omega) only [nI_ltI, nI_leI, nI_eq, zz_lt0, zz_ge0, zz_gt0, zz_le0, zz_eq0, zz_m1lt, zz_m1ge, zz_m1eq, bI_eq0, decide_eq_false_iff_not, decide_eq_true_eq, Decidable.not_not, not_true_eq_false, not_false_eq_true, Nat.not_lt, Nat.not_le, Bool.not_eq_false, Bool.not_eq_true] at c_59
                          all_goals omega
                        · try simp (disch := omega) only [nI_ltI, nI_leI, nI_eq, zz_lt0, zz_ge0, zz_gt0, zz_le0, zz_eq0, zz_m1lt, zz_m1ge, zz_m1eq, bI_eq0, decide_eq_false_iff_not, decide_eq_true_eq, Decidable.not_not, not_true_eq_false, not_false_eq_true, Nat.not_lt, Nat.not_le, Bool.not_eq_false, Bool.not_eq_true] at c_59
                          refine V.iload_n dR_moved_62 rfl ?_
                          refine V.if_ne (tgt := 75) dR_moved_63 (by decide) (fun c_63 => ?_) (fun c_63 => ?_)
                          · try simp (disch := omega) only [nI_ltI, nI_leI, nI_eq, zz_lt0, zz_ge0, zz_gt0, zz_le0, zz_eq0, zz_m1lt, zz_m1ge, zz_m1eq, bI_eq0, decide_eq_false_iff_not, decide_eq_true_eq, Decidable.not_not, not_true_eq_false, not_false_eq_true, Nat.not_lt, Nat.not_le, Bool.not_eq_false, Bool.not_eq_true] at c_63
                            all_goals omega
                          · try simp (disch := omega) only [nI_ltI, nI_leI, nI_eq, zz_lt0, zz_ge0, zz_gt0, zz_le0, zz_eq0, zz_m1lt, zz_m1ge, zz_m1eq, bI_eq0, decide_eq_false_iff_not, decide_eq_true_eq, Decidable.not_not, not_true_eq_false, not_false_eq_true, Nat.not_lt, Nat.not_le, Bool.not_eq_false, Bool.not_eq_true] at c_63
                            first | refine V.aload_n dR_moved_66 rfl ?_ | refine V.aload_nN dR_moved_66 rfl ?_
                            refine V.callVk (kd := 4) 0 _ 0 _ [] dR_moved_67 okR_isName n_R_72 (by omega) (by assumption) rfl imR_isName seR_isName_R (by decide) (by decide) rfl rfl (Nat.le_of_ble_eq_true rfl) (Nat.le_of_ble_eq_true rfl) (Nat.le_of_eq (Nat.zero_add _)) (Nat.le_of_eq (Nat.zero_add _)) (kR_isName hS hP ?_)
                            refine V.if_ne (tgt := 75) dR_moved_70 (by decide) (fun c_70 => ?_) (fun c_70 => ?_)
                            · try simp only [bI_eq0, decide_eq_false_iff_not, Decidable.not_not] at c_70
                              refine V.iload_n dR_moved_75 rfl ?_
                              refine V.if_eq (tgt := 91) dR_moved_76 (by decide) (fun c_76 => ?_) (fun c_76 => ?_)
                              · try simp (disch := omega) only [nI_ltI, nI_leI, nI_eq, zz_lt0, zz_ge0, zz_gt0, zz_le0, zz_eq0, zz_m1lt, zz_m1ge, zz_m1eq, bI_eq0, decide_eq_false_iff_not, decide_eq_true_eq, Decidable.not_not, not_true_eq_false, not_false_eq_true, Nat.not_lt, Nat.not_le, Bool.not_eq_false, Bool.not_eq_true] at c_76
                                first | refine V.aload_n dR_moved_91 rfl ?_ | refine V.aload_nN dR_moved_91 rfl ?_
                                refine V.iload_n dR_moved_92 rfl ?_
                                first | refine V.aload_n dR_moved_93 rfl ?_ | refine V.aload_nN dR_moved_93 rfl ?_
                                refine V.callVk (kd := 4) 0 _ 0 _ [] dR_moved_94 okR_last n_R_61 (by omega) (by assumption) rfl imR_last seR_last_R (by decide) (by decide) rfl rfl (Nat.le_of_ble_eq_true rfl) (Nat.le_of_ble_eq_true rfl) (Nat.le_of_eq (Nat.zero_add _)) (Nat.le_of_eq (Nat.zero_add _)) (kR_last hS hP ?_)
                                first | refine V.aload_n dR_moved_97 rfl ?_ | refine V.aload_nN dR_moved_97 rfl ?_
                                refine V.getk dR_moved_98 (by omega) (by assumption) f_R_44_4 (by assumption) ?_
                                refine V.callVk (kd := 4) 0 _ 0 _ [_, _, _] dR_moved_101 okR_entry n_R_51 (by omega) (by assumption) rfl imR_entry seR_entry_R (by decide) (by decide) rfl rfl (Nat.le_of_ble_eq_true rfl) (Nat.le_of_ble_eq_true rfl) (Nat.le_of_eq (Nat.zero_add _)) (Nat.le_of_eq (Nat.zero_add _)) (kR_entry hS hP hT hd (by omega) (by omega) ?_)
                                exact V.re [3, 2, 1, 0] rfl (kR_moved_tail (b := false) hI hf hd (fun t z => s_ent_lt z) hen (fun _ => hnm9.2.1) (fun z => q0 (Or.inr ⟨(d, false), ht, z⟩)) (fun z h9 hI9 hF9 => q1 (d, false) ht z h9 hI9 hF9))
                              · try simp (disch := omega) only [nI_ltI, nI_leI, nI_eq, zz_lt0, zz_ge0, zz_gt0, zz_le0, zz_eq0, zz_m1lt, zz_m1ge, zz_m1eq, bI_eq0, decide_eq_false_iff_not, decide_eq_true_eq, Decidable.not_not, not_true_eq_false, not_false_eq_true, Nat.not_lt, Nat.not_le, Bool.not_eq_false, Bool.not_eq_true] at c_76
                                all_goals omega
                            · try simp only [bI_eq0, decide_eq_false_iff_not, Decidable.not_not] at c_70
                              exact absurd hnm9 c_70
                      · try simp (disch := omega) only [nI_ltI, nI_leI, nI_eq, zz_lt0, zz_ge0, zz_gt0, zz_le0, zz_eq0, zz_m1lt, zz_m1ge, zz_m1eq, bI_eq0, decide_eq_false_iff_not, decide_eq_true_eq, Decidable.not_not, not_true_eq_false, not_false_eq_true, Nat.not_lt, Nat.not_le, Bool.not_eq_false, Bool.not_eq_true] at c_46
                        all_goals omega
                    · try simp (disch := omega) only [nI_ltI, nI_leI, nI_eq, zz_lt0, zz_ge0, zz_gt0, zz_le0, zz_eq0, zz_m1lt, zz_m1ge, zz_m1eq, bI_eq0, decide_eq_false_iff_not, decide_eq_true_eq, Decidable.not_not, not_true_eq_false, not_false_eq_true, Nat.not_lt, Nat.not_le, Bool.not_eq_false, Bool.not_eq_true] at c_36
                      all_goals omega
                · skip
                  exact absurd (by decide) c_11
            · have ht : s_tgt T p hand len = none := by (unfold s_tgt; rw [hdir, hh]; dsimp only; rw [if_neg hnm9])
              first | refine V.aload_n dR_moved_0 rfl ?_ | refine V.aload_nN dR_moved_0 rfl ?_
              refine V.getk dR_moved_1 (by omega) (by assumption) f_R_32_4 hO9 ?_
              refine V.if_lt (tgt := 14) dR_moved_4 (by decide) (fun c_4 => ?_) (fun c_4 => ?_)
              · try simp (disch := omega) only [nI_ltI, nI_leI, nI_eq, zz_lt0, zz_ge0, zz_gt0, zz_le0, zz_eq0, zz_m1lt, zz_m1ge, zz_m1eq, bI_eq0, decide_eq_false_iff_not, decide_eq_true_eq, Decidable.not_not, not_true_eq_false, not_false_eq_true, Nat.not_lt, Nat.not_le, Bool.not_eq_false, Bool.not_eq_true] at c_4
                all_goals omega
              · try simp (disch := omega) only [nI_ltI, nI_leI, nI_eq, zz_lt0, zz_ge0, zz_gt0, zz_le0, zz_eq0, zz_m1lt, zz_m1ge, zz_m1eq, bI_eq0, decide_eq_false_iff_not, decide_eq_true_eq, Decidable.not_not, not_true_eq_false, not_false_eq_true, Nat.not_lt, Nat.not_le, Bool.not_eq_false, Bool.not_eq_true] at c_4
                first | refine V.aload_n dR_moved_7 rfl ?_ | refine V.aload_nN dR_moved_7 rfl ?_
                refine V.getk dR_moved_8 (by omega) (by assumption) f_R_83_4 (show h.2.1 o 10 = .int (bI false) from hg) ?_
                refine V.if_eq (tgt := 16) dR_moved_11 (by decide) (fun c_11 => ?_) (fun c_11 => ?_)
                · skip
                  first | refine V.aload_n dR_moved_16 rfl ?_ | refine V.aload_nN dR_moved_16 rfl ?_
                  first | refine V.aload_n dR_moved_17 rfl ?_ | refine V.aload_nN dR_moved_17 rfl ?_
                  refine V.getk dR_moved_18 (by omega) (by assumption) f_R_44_4 (by assumption) ?_
                  refine V.callVk (kd := 4) 0 _ 0 _ [_] dR_moved_21 okR_lead n_R_65 (by omega) (by assumption) rfl imR_lead seR_lead_R (by decide) (by decide) rfl rfl (Nat.le_of_ble_eq_true rfl) (Nat.le_of_ble_eq_true rfl) (Nat.le_of_eq (Nat.zero_add _)) (Nat.le_of_eq (Nat.zero_add _)) (kR_lead hS hP hT hH (by omega) ?_)
                  rw [hr]
                  show V G mR_moved 24 _ [.int (nI e)] h 0 0 Q
                  refine V.istore_n dR_moved_24 (by decide) ?_
                  refine V.iload_n dR_moved_25 rfl ?_
                  refine V.if_lt (tgt := 43) dR_moved_26 (by decide) (fun c_26 => ?_) (fun c_26 => ?_)
                  · try simp (disch := omega) only [nI_ltI, nI_leI, nI_eq, zz_lt0, zz_ge0, zz_gt0, zz_le0, zz_eq0, zz_m1lt, zz_m1ge, zz_m1eq, bI_eq0, decide_eq_false_iff_not, decide_eq_true_eq, Decidable.not_not, not_true_eq_false, not_false_eq_true, Nat.not_lt, Nat.not_le, Bool.not_eq_false, Bool.not_eq_true] at c_26
                    all_goals omega
                  · try simp (disch := omega) only [nI_ltI, nI_leI, nI_eq, zz_lt0, zz_ge0, zz_gt0, zz_le0, zz_eq0, zz_m1lt, zz_m1ge, zz_m1eq, bI_eq0, decide_eq_false_iff_not, decide_eq_true_eq, Decidable.not_not, not_true_eq_false, not_false_eq_true, Nat.not_lt, Nat.not_le, Bool.not_eq_false, Bool.not_eq_true] at c_26
                    first | refine V.aload_n dR_moved_29 rfl ?_ | refine V.aload_nN dR_moved_29 rfl ?_
                    refine V.getk dR_moved_30 (by omega) (by assumption) f_R_13_4 (by assumption) ?_
                    refine V.iload_n dR_moved_33 rfl ?_
                    refine V.ialoadN dR_moved_34 (by omega) (by assumption) (by omega) (hkd e he) ?_
                    refine V.iconst (v := (nI 2)) dR_moved_35 (by decide) ?_
                    refine V.icmp_ne (tgt := 43) dR_moved_36 (by decide) (fun c_36 => ?_) (fun c_36 => ?_)
                    · try simp (disch := omega) only [nI_ltI, nI_leI, nI_eq, zz_lt0, zz_ge0, zz_gt0, zz_le0, zz_eq0, zz_m1lt, zz_m1ge, zz_m1eq, bI_eq0, decide_eq_false_iff_not, decide_eq_true_eq, Decidable.not_not, not_true_eq_false, not_false_eq_true, Nat.not_lt, Nat.not_le, Bool.not_eq_false, Bool.not_eq_true] at c_36
                      refine V.iconst (v := (nI 0)) dR_moved_43 (by decide) ?_
                      refine V.istore_n dR_moved_44 (by decide) ?_
                      refine V.iload_n dR_moved_45 rfl ?_
                      refine V.if_eq (tgt := 53) dR_moved_46 (by decide) (fun c_46 => ?_) (fun c_46 => ?_)
                      · try simp (disch := omega) only [nI_ltI, nI_leI, nI_eq, zz_lt0, zz_ge0, zz_gt0, zz_le0, zz_eq0, zz_m1lt, zz_m1ge, zz_m1eq, bI_eq0, decide_eq_false_iff_not, decide_eq_true_eq, Decidable.not_not, not_true_eq_false, not_false_eq_true, Nat.not_lt, Nat.not_le, Bool.not_eq_false, Bool.not_eq_true] at c_46
                        first | refine V.aload_n dR_moved_53 rfl ?_ | refine V.aload_nN dR_moved_53 rfl ?_
                        refine V.callVk (kd := 4) 0 _ 0 _ [] dR_moved_54 okR_home n_R_69 (by omega) (by assumption) rfl imR_home seR_home_R (by decide) (by decide) rfl rfl (Nat.le_of_ble_eq_true rfl) (Nat.le_of_ble_eq_true rfl) (Nat.le_of_eq (Nat.zero_add _)) (Nat.le_of_eq (Nat.zero_add _)) (kR_home hS hP hT hH hhd ?_)
                        rw [hh]
                        show V G mR_moved 57 _ [.int (nI d)] h 0 0 Q
                        refine V.istore_n dR_moved_57 (by decide) ?_
                        refine V.iload_n dR_moved_58 rfl ?_
                        refine V.if_lt (tgt := 73) dR_moved_59 (by decide) (fun c_59 => ?_) (fun c_59 => ?_)
                        · try simp (disch := omega) only [nI_ltI, nI_leI, nI_eq, zz_lt0, zz_ge0, zz_gt0, zz_le0, zz_eq0, zz_m1lt, zz_m1ge, zz_m1eq, bI_eq0, decide_eq_false_iff_not, decide_eq_true_eq, Decidable.not_not, not_true_eq_false, not_false_eq_true, Nat.not_lt, Nat.not_le, Bool.not_eq_false, Bool.not_eq_true] at c_59
                          all_goals omega
                        · try simp (disch := omega) only [nI_ltI, nI_leI, nI_eq, zz_lt0, zz_ge0, zz_gt0, zz_le0, zz_eq0, zz_m1lt, zz_m1ge, zz_m1eq, bI_eq0, decide_eq_false_iff_not, decide_eq_true_eq, Decidable.not_not, not_true_eq_false, not_false_eq_true, Nat.not_lt, Nat.not_le, Bool.not_eq_false, Bool.not_eq_true] at c_59
                          refine V.iload_n dR_moved_62 rfl ?_
                          refine V.if_ne (tgt := 75) dR_moved_63 (by decide) (fun c_63 => ?_) (fun c_63 => ?_)
                          · try simp (disch := omega) only [nI_ltI, nI_leI, nI_eq, zz_lt0, zz_ge0, zz_gt0, zz_le0, zz_eq0, zz_m1lt, zz_m1ge, zz_m1eq, bI_eq0, decide_eq_false_iff_not, decide_eq_true_eq, Decidable.not_not, not_true_eq_false, not_false_eq_true, Nat.not_lt, Nat.not_le, Bool.not_eq_false, Bool.not_eq_true] at c_63
                            all_goals omega
                          · try simp (disch := omega) only [nI_ltI, nI_leI, nI_eq, zz_lt0, zz_ge0, zz_gt0, zz_le0, zz_eq0, zz_m1lt, zz_m1ge, zz_m1eq, bI_eq0, decide_eq_false_iff_not, decide_eq_true_eq, Decidable.not_not, not_true_eq_false, not_false_eq_true, Nat.not_lt, Nat.not_le, Bool.not_eq_false, Bool.not_eq_true] at c_63
                            first | refine V.aload_n dR_moved_66 rfl ?_ | refine V.aload_nN dR_moved_66 rfl ?_
                            refine V.callVk (kd := 4) 0 _ 0 _ [] dR_moved_67 okR_isName n_R_72 (by omega) (by assumption) rfl imR_isName seR_isName_R (by decide) (by decide) rfl rfl (Nat.le_of_ble_eq_true rfl) (Nat.le_of_ble_eq_true rfl) (Nat.le_of_eq (Nat.zero_add _)) (Nat.le_of_eq (Nat.zero_add _)) (kR_isName hS hP ?_)
                            refine V.if_ne (tgt := 75) dR_moved_70 (by decide) (fun c_70 => ?_) (fun c_70 => ?_)
                            · try simp only [bI_eq0, decide_eq_false_iff_not, Decidable.not_not] at c_70
                              exact absurd c_70 hnm9
                            · try simp only [bI_eq0, decide_eq_false_iff_not, Decidable.not_not] at c_70
                              refine V.iconst (v := (nI 0)) dR_moved_73 (by decide) ?_
                              refine V.ireturn dR_moved_74 rfl rfl ?_
                              exact q0 (Or.inl ht)
                      · try simp (disch := omega) only [nI_ltI, nI_leI, nI_eq, zz_lt0, zz_ge0, zz_gt0, zz_le0, zz_eq0, zz_m1lt, zz_m1ge, zz_m1eq, bI_eq0, decide_eq_false_iff_not, decide_eq_true_eq, Decidable.not_not, not_true_eq_false, not_false_eq_true, Nat.not_lt, Nat.not_le, Bool.not_eq_false, Bool.not_eq_true] at c_46
                        all_goals omega
                    · try simp (disch := omega) only [nI_ltI, nI_leI, nI_eq, zz_lt0, zz_ge0, zz_gt0, zz_le0, zz_eq0, zz_m1lt, zz_m1ge, zz_m1eq, bI_eq0, decide_eq_false_iff_not, decide_eq_true_eq, Decidable.not_not, not_true_eq_false, not_false_eq_true, Nat.not_lt, Nat.not_le, Bool.not_eq_false, Bool.not_eq_true] at c_36
                      all_goals omega
                · skip
                  exact absurd (by decide) c_11
set_option maxHeartbeats 4000000 in
set_option maxRecDepth 100000 in
/-- PathTreeModel.move -/
theorem kR_move {G : GG} {h : HH} {o : Nat} {T : TT} {p : Nat → Nat} {len hand : Nat} {op : Option Nat} {gone : Bool} {ents : Nat} {bl : List (Nat × Nat)} {Q : Option Value → HH → Prop} (hI : RI G h o T p len hand op gone ents bl) (hhd : T.1 hand = 2) (hen : 1 ≤ ents ∧ ents ≤ 300) (qn : op = none ∨ gone = true → ∀ h', RI G h' o T p 0 hand op gone ents bl → FrO o h h' → Q (some (.int (nI 0))) h') (q0 : ∀ f, op = some f → gone = false → (s_tgt T p hand len = none ∨ ∃ q, s_tgt T p hand len = some q ∧ ¬ s_mok T f (s_there T p len f q)) → ∀ h', RI G h' o T p 0 hand op gone ents bl → FrO o h h' → Q (some (.int (nI 0))) h') (q1 : ∀ f, op = some f → gone = false → ∀ q, s_tgt T p hand len = some q → s_mok T f (s_there T p len f q) → ∀ h', RI G h' o (s_mN (s_mT T (s_there T p len f q)) f q p len) p 0 hand (some f) false (s_mE ents (s_there T p len f q)) (s_mB bl (s_there T p len f q)) → FrO o h h' → Q (some (.int (nI 1))) h') : V G mR_move 0 (lv_args 0 [.ref o]) [] h 0 0 Q := by
  obtain ⟨hS, hP, hT, hH, hO, hg, hE, hB, hop⟩ := id hI
  obtain ⟨hz, hk0, hk1, hk2, hk3, hk4, hk5, hk6, hk7, hk8, hf0, hf2, hf3, hf4, hf5, hf6, hf12, hf13⟩ := id hS
  obtain ⟨hln, hpp, hl2, hp⟩ := id hP
  obtain ⟨hkd, hkd2, hin, hin2, hns, hns2, hnm, hnm2⟩ := id hT
  obtain ⟨hhand, hhl⟩ := id hH
  first | refine V.aload_n dR_move_0 rfl ?_ | refine V.aload_nN dR_move_0 rfl ?_
  refine V.callVk (kd := 4) 0 _ 0 _ [] dR_move_1 okR_moved n_R_101 (by omega) (by assumption) rfl imR_moved seR_moved_R (by decide) (by decide) rfl rfl (Nat.le_of_ble_eq_true rfl) (Nat.le_of_ble_eq_true rfl) (Nat.le_of_eq (Nat.zero_add _)) (Nat.le_of_eq (Nat.zero_add _)) (kR_moved hI hhd hen (fun z => ?_) (fun f e1 e2 z => ?_) (fun f e1 e2 q e3 z h9 hI9 hF9 => ?_))
  · refine V.istore_n dR_move_4 (by decide) ?_
    first | refine V.aload_n dR_move_5 rfl ?_ | refine V.aload_nN dR_move_5 rfl ?_
    refine V.iconst (v := (nI 0)) dR_move_6 (by decide) ?_
    refine V.putk dR_move_7 (by omega) (by assumption) p_R_44_4 rfl rfl ?_
    intro h2 e2
    refine V.iload_n dR_move_10 rfl ?_
    refine V.ireturn dR_move_11 rfl rfl ?_
    exact qn z h2 (by (rw [e2]; exact hI.len)) (by (rw [e2]; exact FrO.rf.put (by omega)))
  · refine V.istore_n dR_move_4 (by decide) ?_
    first | refine V.aload_n dR_move_5 rfl ?_ | refine V.aload_nN dR_move_5 rfl ?_
    refine V.iconst (v := (nI 0)) dR_move_6 (by decide) ?_
    refine V.putk dR_move_7 (by omega) (by assumption) p_R_44_4 rfl rfl ?_
    intro h2 e5
    refine V.iload_n dR_move_10 rfl ?_
    refine V.ireturn dR_move_11 rfl rfl ?_
    exact q0 f e1 e2 z h2 (by (rw [e5]; exact hI.len)) (by (rw [e5]; exact FrO.rf.put (by omega)))
  · obtain ⟨hSb, hPb, hTb, hHb, hOb, hgb, hEb, hBb, hopb⟩ := id hI9
    obtain ⟨hzb, hk0b, hk1b, hk2b, hk3b, hk4b, hk5b, hk6b, hk7b, hk8b, hf0b, hf2b, hf3b, hf4b, hf5b, hf6b, hf12b, hf13b⟩ := id hSb
    obtain ⟨hlnb, hppb, hl2b, hpb⟩ := id hPb
    obtain ⟨hkdb, hkd2b, hinb, hin2b, hnsb, hns2b, hnmb, hnm2b⟩ := id hTb
    obtain ⟨hhandb, hhlb⟩ := id hHb
    refine V.istore_n dR_move_4 (by decide) ?_
    first | refine V.aload_n dR_move_5 rfl ?_ | refine V.aload_nN dR_move_5 rfl ?_
    refine V.iconst (v := (nI 0)) dR_move_6 (by decide) ?_
    refine V.putk dR_move_7 (by omega) (by assumption) p_R_44_4 rfl rfl ?_
    intro h2 e5
    refine V.iload_n dR_move_10 rfl ?_
    refine V.ireturn dR_move_11 rfl rfl ?_
    exact q1 f e1 e2 q e3 z h2 (by (rw [e5]; exact hI9.len)) (by (rw [e5]; exact hF9.put (by omega)))
  skip
end
section
/-- m bytes of x, the highest first, of the file e -/
def s_bs (x : Int64) (e : Nat) : Nat → List (Nat × Nat)
  | 0 => []
  | q + 1 => (s_byt x q, e) :: s_bs x e q
theorem s_bs_len (x : Int64) (e : Nat) : ∀ m, (s_bs x e m).length = m
  | 0 => rfl
  | q + 1 => by simp [s_bs, s_bs_len x e q]
theorem sh_16 : ∀ w, w < 300 → (nI w).toInt16.toInt32 = nI w := by decide +kernel
theorem fb_app {bl : List (Nat × Nat)} {b e x : Nat} : s_fb (bl ++ [(b, e)]) x = if x = e then s_fb bl x ++ [b] else s_fb bl x := by
  unfold s_fb
  rw [List.filter_append, List.map_append]
  by_cases q : x = e
  · subst q; simp
  · have : ¬ e = x := fun z => q z.symm
    simp [q, this]
theorem RI.push {G : GG} {h : HH} {o : Nat} {T : TT} {p : Nat → Nat} {len hand : Nat} {op : Option Nat} {gone : Bool} {ents : Nat} {bl : List (Nat × Nat)} {b e : Nat} (hI : RI G h o T p len hand op gone ents bl) (hb : b < 256) (he : e < 300) (hl : bl.length < 65536) :
    RI G (h_put (h_put (h_put (h_put h (o + 7) bl.length (v_b (b, e))) (o + 8) bl.length (.int (nI e))) o 11 (.int (nI (bl.length + 1)))) (o + 4) e (.int (nI ((s_fb bl e).length + 1)))) o T p len hand op gone ents (bl ++ [(b, e)]) := by
  obtain ⟨hS, hP, hT, hH, hO, hg, hE, hB, hop⟩ := hI
  obtain ⟨b1, b2, b3, b4, b5, b6⟩ := hB
  refine ⟨(((hS.put (by omega)).put (by omega)).put (by omega)).put (by omega), (((hP.put (by omega)).put (by omega)).put (by omega)).put (by omega), (((hT.put (by omega)).put (by omega)).put (by omega)).put (by omega), ⟨?_, hH.2⟩, ?_, ?_, ?_, ⟨?_, fun k hk => ?_, fun k hk => ?_, fun q hq => ?_, ?_, fun x hx => ?_⟩, hop⟩
  · exact (hp_a (by omega)).trans ((hp_j (by omega)).trans ((hp_a (by omega)).trans ((hp_a (by omega)).trans hH.1)))
  · exact (hp_a (by omega)).trans ((hp_j (by omega)).trans ((hp_a (by omega)).trans ((hp_a (by omega)).trans hO)))
  · exact (hp_a (by omega)).trans ((hp_j (by omega)).trans ((hp_a (by omega)).trans ((hp_a (by omega)).trans hg)))
  · exact (hp_a (by omega)).trans ((hp_j (by omega)).trans ((hp_a (by omega)).trans ((hp_a (by omega)).trans hE)))
  · rw [List.length_append, List.length_singleton]; exact (hp_a (by omega)).trans hp_eq
  · rw [List.length_append, List.length_singleton] at hk
    rw [hp_a (by omega), hp_a (by omega), hp_a (by omega)]
    by_cases z : k < bl.length
    · rw [getD_app_l z, hp_j (by omega)]; exact b2 k z
    · rw [show k = bl.length by omega, getD_app_r]; exact hp_eq
  · rw [List.length_append, List.length_singleton] at hk
    rw [hp_a (by omega), hp_a (by omega)]
    by_cases z : k < bl.length
    · rw [getD_app_l z, hp_j (by omega), hp_a (by omega)]; exact b3 k z
    · rw [show k = bl.length by omega, getD_app_r]; exact hp_eq
  · rcases List.mem_append.mp hq with z | z
    · exact b4 q z
    · rw [List.mem_singleton.mp z]; exact ⟨hb, he⟩
  · rw [List.length_append, List.length_singleton]; omega
  · rw [fb_app]
    by_cases z : x = e
    · subst z; rw [if_pos rfl, List.length_append, List.length_singleton]; exact hp_eq
    · rw [if_neg z, hp_j z, hp_a (by omega), hp_a (by omega), hp_a (by omega)]; exact b6 x hx
def s_byteAt (op : Option Nat) (gone : Bool) (bl : List (Nat × Nat)) (j : Int32) : Int32 := match op with
  | none => -1
  | some e => if gone = true then -1 else if ¬ (j < 0 ∨ (s_fb bl e).length ≤ j.toNatClampNeg) then nI ((s_fb bl e).getD j.toNatClampNeg 0) else -1
def s_len6 (op : Option Nat) (gone : Bool) (bl : List (Nat × Nat)) : Int32 := match op with
  | none => -1
  | some e => if gone = true then nI 0 else nI (s_fb bl e).length
def s_count (T : TT) (len hand : Nat) (op : Option Nat) (gone : Bool) (bl : List (Nat × Nat)) (dp : Nat → Nat) (w : Int32) : Int32 :=
  if w = nI 0 then nI (s_cnt (fun e => decide (T.1 e = 1)) 300) else if w = nI 1 then nI (s_cnt (fun e => decide (T.1 e = 2)) 300) else if w = nI 2 then nI bl.length else if w = nI 3 then nI (s_cnt (fun e => decide (1 ≤ e ∧ T.1 e ≠ 0 ∧ T.2.1 e = hand)) 300)
  else if w = nI 4 then nI (dp hand) else if w = nI 5 then nI len else if w = nI 6 then s_len6 op gone bl else -1
set_option maxHeartbeats 4000000 in
set_option maxRecDepth 100000 in
/-- PathTreeModel.write -/
theorem kR_write {G : GG} {h : HH} {o : Nat} {T : TT} {p : Nat → Nat} {len hand : Nat} {op : Option Nat} {gone : Bool} {ents : Nat} {bl : List (Nat × Nat)} {Q : Option Value → HH → Prop} {x : Int64} {n : Int32} (hI : RI G h o T p len hand op gone ents bl) (hbl : bl.length ≤ 16000) (q0 : op = none ∨ (¬ ∃ m, n = nI m ∧ m ≤ 8) → Q (some (.int (-1))) h) (q1 : ∀ e m, op = some e → gone = true → n = nI m → m ≤ 8 → Q (some (.int (nI 0))) h) (q2 : ∀ e m, op = some e → gone = false → n = nI m → m ≤ 8 → ∀ h', RI G h' o T p len hand op gone ents (bl ++ s_bs x e m) → FrO o h h' → Q (some (.int (nI (s_fb (bl ++ s_bs x e m) e).length))) h') : V G mR_write 0 (lv_args 0 [.ref o, .long x, .int n]) [] h 0 0 Q := by
  obtain ⟨hS, hP, hT, hH, hO, hg, hE, hB, hop⟩ := id hI
  obtain ⟨hz, hk0, hk1, hk2, hk3, hk4, hk5, hk6, hk7, hk8, hf0, hf2, hf3, hf4, hf5, hf6, hf12, hf13⟩ := id hS
  obtain ⟨hln, hpp, hl2, hp⟩ := id hP
  obtain ⟨hkd, hkd2, hin, hin2, hns, hns2, hnm, hnm2⟩ := id hT
  obtain ⟨hhand, hhl⟩ := id hH
  cases hop2 : op with
  | none =>
    subst hop2
    have hO9 : h.2.1 o 9 = .int (-1) := hO
    first | refine V.aload_n dR_write_0 rfl ?_ | refine V.aload_nN dR_write_0 rfl ?_
    refine V.getk dR_write_1 (by omega) (by assumption) f_R_32_4 hO9 ?_
    refine V.if_lt (tgt := 17) dR_write_4 (by decide) (fun c_4 => ?_) (fun c_4 => ?_)
    · try simp only [zz_m1lt, zz_m1ge, not_true_eq_false, not_false_eq_true] at c_4
      refine V.iconst (v := (-1)) dR_write_17 (by decide) ?_
      refine V.ireturn dR_write_18 rfl rfl ?_
      exact q0 (Or.inl rfl)
    · try simp only [zz_m1lt, zz_m1ge, not_true_eq_false, not_false_eq_true] at c_4
      all_goals omega
  | some e =>
    subst hop2
    have he := hop e rfl
    have hO9 : h.2.1 o 9 = .int (nI e) := hO
    rcases i8_cases n with hn | hn | ⟨m, hm, rfl⟩
    · have hno : ¬ ∃ m, n = nI m ∧ m ≤ 8 := fun ⟨m, e, z⟩ => by (subst e; exact nI_pos (by omega) hn)
      first | refine V.aload_n dR_write_0 rfl ?_ | refine V.aload_nN dR_write_0 rfl ?_
      refine V.getk dR_write_1 (by omega) (by assumption) f_R_32_4 hO9 ?_
      refine V.if_lt (tgt := 17) dR_write_4 (by decide) (fun c_4 => ?_) (fun c_4 => ?_)
      · try simp (disch := omega) only [nI_ltI, nI_leI, nI_eq, zz_lt0, zz_ge0, zz_gt0, zz_le0, zz_eq0, zz_m1lt, zz_m1ge, zz_m1eq, bI_eq0, decide_eq_false_iff_not, decide_eq_true_eq, Decidable.not_not, not_true_eq_false, not_false_eq_true, Nat.not_lt, Nat.not_le, Bool.not_eq_false, Bool.not_eq_true] at c_4
        all_goals omega
      · try simp (disch := omega) only [nI_ltI, nI_leI, nI_eq, zz_lt0, zz_ge0, zz_gt0, zz_le0, zz_eq0, zz_m1lt, zz_m1ge, zz_m1eq, bI_eq0, decide_eq_false_iff_not, decide_eq_true_eq, Decidable.not_not, not_true_eq_false, not_false_eq_true, Nat.not_lt, Nat.not_le, Bool.not_eq_false, Bool.not_eq_true] at c_4
        refine V.iload_n dR_write_7 rfl ?_
        refine V.if_lt (tgt := 17) dR_write_8 (by decide) (fun c_8 => ?_) (fun c_8 => ?_)
        · skip
          refine V.iconst (v := (-1)) dR_write_17 (by decide) ?_
          refine V.ireturn dR_write_18 rfl rfl ?_
          exact q0 (Or.inr hno)
        · skip
          exact absurd hn c_8
    · have hno : ¬ ∃ m, n = nI m ∧ m ≤ 8 := fun ⟨m, e, z⟩ => by (subst e; have := (nI_leI (by omega) (by omega)).mp hn; omega)
      have hn8 := le8 hn
      first | refine V.aload_n dR_write_0 rfl ?_ | refine V.aload_nN dR_write_0 rfl ?_
      refine V.getk dR_write_1 (by omega) (by assumption) f_R_32_4 hO9 ?_
      refine V.if_lt (tgt := 17) dR_write_4 (by decide) (fun c_4 => ?_) (fun c_4 => ?_)
      · try simp (disch := omega) only [nI_ltI, nI_leI, nI_eq, zz_lt0, zz_ge0, zz_gt0, zz_le0, zz_eq0, zz_m1lt, zz_m1ge, zz_m1eq, bI_eq0, decide_eq_false_iff_not, decide_eq_true_eq, Decidable.not_not, not_true_eq_false, not_false_eq_true, Nat.not_lt, Nat.not_le, Bool.not_eq_false, Bool.not_eq_true] at c_4
        all_goals omega
      · try simp (disch := omega) only [nI_ltI, nI_leI, nI_eq, zz_lt0, zz_ge0, zz_gt0, zz_le0, zz_eq0, zz_m1lt, zz_m1ge, zz_m1eq, bI_eq0, decide_eq_false_iff_not, decide_eq_true_eq, Decidable.not_not, not_true_eq_false, not_false_eq_true, Nat.not_lt, Nat.not_le, Bool.not_eq_false, Bool.not_eq_true] at c_4
        refine V.iload_n dR_write_7 rfl ?_
        refine V.if_lt (tgt := 17) dR_write_8 (by decide) (fun c_8 => ?_) (fun c_8 => ?_)
        · skip
          refine V.iconst (v := (-1)) dR_write_17 (by decide) ?_
          refine V.ireturn dR_write_18 rfl rfl ?_
          exact q0 (Or.inr hno)
        · skip
          refine V.iload_n dR_write_11 rfl ?_
          refine V.bipush (v := (nI 8)) dR_write_12 (by decide) ?_
          refine V.icmp_le (tgt := 19) dR_write_14 (by decide) (fun c_14 => ?_) (fun c_14 => ?_)
          · skip
            exact absurd hn8 (Int32.not_lt.mpr c_14)
          · skip
            refine V.iconst (v := (-1)) dR_write_17 (by decide) ?_
            refine V.ireturn dR_write_18 rfl rfl ?_
            exact q0 (Or.inr hno)
    · cases hgo : gone with
      | true =>
        subst hgo
        have hg9 : h.2.1 o 10 = .int (bI true) := hg
        first | refine V.aload_n dR_write_0 rfl ?_ | refine V.aload_nN dR_write_0 rfl ?_
        refine V.getk dR_write_1 (by omega) (by assumption) f_R_32_4 hO9 ?_
        refine V.if_lt (tgt := 17) dR_write_4 (by decide) (fun c_4 => ?_) (fun c_4 => ?_)
        · try simp (disch := omega) only [nI_ltI, nI_leI, nI_eq, zz_lt0, zz_ge0, zz_gt0, zz_le0, zz_eq0, zz_m1lt, zz_m1ge, zz_m1eq, bI_eq0, decide_eq_false_iff_not, decide_eq_true_eq, Decidable.not_not, not_true_eq_false, not_false_eq_true, Nat.not_lt, Nat.not_le, Bool.not_eq_false, Bool.not_eq_true] at c_4
          all_goals omega
        · try simp (disch := omega) only [nI_ltI, nI_leI, nI_eq, zz_lt0, zz_ge0, zz_gt0, zz_le0, zz_eq0, zz_m1lt, zz_m1ge, zz_m1eq, bI_eq0, decide_eq_false_iff_not, decide_eq_true_eq, Decidable.not_not, not_true_eq_false, not_false_eq_true, Nat.not_lt, Nat.not_le, Bool.not_eq_false, Bool.not_eq_true] at c_4
          refine V.iload_n dR_write_7 rfl ?_
          refine V.if_lt (tgt := 17) dR_write_8 (by decide) (fun c_8 => ?_) (fun c_8 => ?_)
          · try simp (disch := omega) only [nI_ltI, nI_leI, nI_eq, zz_lt0, zz_ge0, zz_gt0, zz_le0, zz_eq0, zz_m1lt, zz_m1ge, zz_m1eq, bI_eq0, decide_eq_false_iff_not, decide_eq_true_eq, Decidable.not_not, not_true_eq_false, not_false_eq_true, Nat.not_lt, Nat.not_le, Bool.not_eq_false, Bool.not_eq_true] at c_8
            all_goals omega
          · try simp (disch := omega) only [nI_ltI, nI_leI, nI_eq, zz_lt0, zz_ge0, zz_gt0, zz_le0, zz_eq0, zz_m1lt, zz_m1ge, zz_m1eq, bI_eq0, decide_eq_false_iff_not, decide_eq_true_eq, Decidable.not_not, not_true_eq_false, not_false_eq_true, Nat.not_lt, Nat.not_le, Bool.not_eq_false, Bool.not_eq_true] at c_8
            refine V.iload_n dR_write_11 rfl ?_
            refine V.bipush (v := (nI 8)) dR_write_12 (by decide) ?_
            refine V.icmp_le (tgt := 19) dR_write_14 (by decide) (fun c_14 => ?_) (fun c_14 => ?_)
            · try simp (disch := omega) only [nI_ltI, nI_leI, nI_eq, zz_lt0, zz_ge0, zz_gt0, zz_le0, zz_eq0, zz_m1lt, zz_m1ge, zz_m1eq, bI_eq0, decide_eq_false_iff_not, decide_eq_true_eq, Decidable.not_not, not_true_eq_false, not_false_eq_true, Nat.not_lt, Nat.not_le, Bool.not_eq_false, Bool.not_eq_true] at c_14
              refine V.iload_n dR_write_19 rfl ?_
              refine V.iconst (v := (nI 1)) dR_write_20 (by decide) ?_
              refine V.isub dR_write_21 ?_
              refine V.istore dR_write_22 (by decide) ?_
              refine V.iload dR_write_24 rfl ?_
              refine V.if_lt (tgt := 124) dR_write_26 (by decide) (fun c_26 => ?_) (fun c_26 => ?_)
              · skip
                first | refine V.aload_n dR_write_124 rfl ?_ | refine V.aload_nN dR_write_124 rfl ?_
                refine V.getk dR_write_125 (by omega) (by assumption) f_R_83_4 hg9 ?_
                refine V.if_eq (tgt := 135) dR_write_128 (by decide) (fun c_128 => ?_) (fun c_128 => ?_)
                · skip
                  exact absurd c_128 (by decide)
                · skip
                  refine V.iconst (v := (nI 0)) dR_write_131 (by decide) ?_
                  refine V.goto (tgt := 144) dR_write_132 (by decide) ?_
                  refine V.ireturn dR_write_144 rfl rfl ?_
                  exact q1 e m rfl rfl rfl (by omega)
              · skip
                first | refine V.aload_n dR_write_29 rfl ?_ | refine V.aload_nN dR_write_29 rfl ?_
                refine V.getk dR_write_30 (by omega) (by assumption) f_R_83_4 hg9 ?_
                refine V.if_ne (tgt := 124) dR_write_33 (by decide) (fun c_33 => ?_) (fun c_33 => ?_)
                · skip
                  first | refine V.aload_n dR_write_124 rfl ?_ | refine V.aload_nN dR_write_124 rfl ?_
                  refine V.getk dR_write_125 (by omega) (by assumption) f_R_83_4 hg9 ?_
                  refine V.if_eq (tgt := 135) dR_write_128 (by decide) (fun c_128 => ?_) (fun c_128 => ?_)
                  · skip
                    exact absurd c_128 (by decide)
                  · skip
                    refine V.iconst (v := (nI 0)) dR_write_131 (by decide) ?_
                    refine V.goto (tgt := 144) dR_write_132 (by decide) ?_
                    refine V.ireturn dR_write_144 rfl rfl ?_
                    exact q1 e m rfl rfl rfl (by omega)
                · skip
                  exact absurd c_33 (by decide)
            · try simp (disch := omega) only [nI_ltI, nI_leI, nI_eq, zz_lt0, zz_ge0, zz_gt0, zz_le0, zz_eq0, zz_m1lt, zz_m1ge, zz_m1eq, bI_eq0, decide_eq_false_iff_not, decide_eq_true_eq, Decidable.not_not, not_true_eq_false, not_false_eq_true, Nat.not_lt, Nat.not_le, Bool.not_eq_false, Bool.not_eq_true] at c_14
              all_goals omega
      | false =>
        subst hgo
        have loop : ∀ q hq bq, RI G hq o T p len hand (some e) false ents bq → bq.length + q ≤ 16200 → FrO o h hq → bq ++ s_bs x e q = bl ++ s_bs x e m → q ≤ 8 → V G mR_write 24 [(4, .int (lm q)), (0, .ref o), (1, .long x), (3, .int (nI m))] [] hq 0 0 Q := by
          intro q
          induction q with
          | zero =>
            intro hq bq hIq hlq hFq hbq hq8
            obtain ⟨hSq, hPq, hTq, hHq, hOq, hgq, hEq, hBq, hopq⟩ := id hIq
            obtain ⟨hzq, hk0q, hk1q, hk2q, hk3q, hk4q, hk5q, hk6q, hk7q, hk8q, hf0q, hf2q, hf3q, hf4q, hf5q, hf6q, hf12q, hf13q⟩ := id hSq
            obtain ⟨hlnq, hppq, hl2q, hpq⟩ := id hPq
            obtain ⟨hkdq, hkd2q, hinq, hin2q, hnsq, hns2q, hnmq, hnm2q⟩ := id hTq
            obtain ⟨hhandq, hhlq⟩ := id hHq
            obtain ⟨b1q, b2q, b3q, b4q, b5q, b6q⟩ := id hBq
            have hO9q : hq.2.1 o 9 = .int (nI e) := hOq
            have hg9q : hq.2.1 o 10 = .int (bI false) := hgq
            have hfbq := fb_le bq e
            refine V.iload dR_write_24 rfl ?_
            refine V.if_lt (tgt := 124) dR_write_26 (by decide) (fun c_26 => ?_) (fun c_26 => ?_)
            · try simp only [lm_0, zz_m1lt, not_true_eq_false] at c_26
              first | refine V.aload_n dR_write_124 rfl ?_ | refine V.aload_nN dR_write_124 rfl ?_
              refine V.getk dR_write_125 (by omega) (by assumption) f_R_83_4 hg9q ?_
              refine V.if_eq (tgt := 135) dR_write_128 (by decide) (fun c_128 => ?_) (fun c_128 => ?_)
              · skip
                first | refine V.aload_n dR_write_135 rfl ?_ | refine V.aload_nN dR_write_135 rfl ?_
                refine V.getk dR_write_136 (by omega) (by assumption) f_R_19_4 (by assumption) ?_
                first | refine V.aload_n dR_write_139 rfl ?_ | refine V.aload_nN dR_write_139 rfl ?_
                refine V.getk dR_write_140 (by omega) (by assumption) f_R_32_4 hO9q ?_
                refine V.ialoadN dR_write_143 (by omega) (by assumption) (by omega) (b6q e he) ?_
                refine V.ireturn dR_write_144 rfl rfl ?_
                rw [show s_bs x e 0 = [] from rfl, List.append_nil] at hbq
                subst hbq
                exact q2 e m rfl rfl rfl (by omega) hq hIq hFq
              · skip
                exact absurd (by decide) c_128
            · try simp only [lm_0, zz_m1lt, not_true_eq_false] at c_26
              all_goals omega
          | succ q ih =>
            intro hq bq hIq hlq hFq hbq hq8
            obtain ⟨hSq, hPq, hTq, hHq, hOq, hgq, hEq, hBq, hopq⟩ := id hIq
            obtain ⟨hzq, hk0q, hk1q, hk2q, hk3q, hk4q, hk5q, hk6q, hk7q, hk8q, hf0q, hf2q, hf3q, hf4q, hf5q, hf6q, hf12q, hf13q⟩ := id hSq
            obtain ⟨hlnq, hppq, hl2q, hpq⟩ := id hPq
            obtain ⟨hkdq, hkd2q, hinq, hin2q, hnsq, hns2q, hnmq, hnm2q⟩ := id hTq
            obtain ⟨hhandq, hhlq⟩ := id hHq
            obtain ⟨b1q, b2q, b3q, b4q, b5q, b6q⟩ := id hBq
            have hO9q : hq.2.1 o 9 = .int (nI e) := hOq
            have hg9q : hq.2.1 o 10 = .int (bI false) := hgq
            have hfbq := fb_le bq e
            refine V.iload dR_write_24 rfl ?_
            refine V.if_lt (tgt := 124) dR_write_26 (by decide) (fun c_26 => ?_) (fun c_26 => ?_)
            · try simp (disch := omega) only [lm_s, zz_lt0, not_false_eq_true] at c_26
              all_goals omega
            · try simp (disch := omega) only [lm_s, zz_lt0, not_false_eq_true] at c_26
              rw [lm_s]
              first | refine V.aload_n dR_write_29 rfl ?_ | refine V.aload_nN dR_write_29 rfl ?_
              refine V.getk dR_write_30 (by omega) (by assumption) f_R_83_4 hg9q ?_
              refine V.if_ne (tgt := 124) dR_write_33 (by decide) (fun c_33 => ?_) (fun c_33 => ?_)
              · skip
                exact absurd (by decide) c_33
              · skip
                first | refine V.aload_n dR_write_36 rfl ?_ | refine V.aload_nN dR_write_36 rfl ?_
                refine V.getk dR_write_37 (by omega) (by assumption) f_R_19_4 (by assumption) ?_
                first | refine V.aload_n dR_write_40 rfl ?_ | refine V.aload_nN dR_write_40 rfl ?_
                refine V.getk dR_write_41 (by omega) (by assumption) f_R_32_4 hO9q ?_
                refine V.ialoadN dR_write_44 (by omega) (by assumption) (by omega) (b6q e he) ?_
                refine V.sipush (v := (nI 16384)) dR_write_45 (by decide) ?_
                refine V.icmp_eq (tgt := 118) dR_write_48 (by decide) (fun c_48 => ?_) (fun c_48 => ?_)
                · try simp (disch := omega) only [nI_ltI, nI_leI, nI_eq, zz_lt0, zz_ge0, zz_gt0, zz_le0, zz_eq0, zz_m1lt, zz_m1ge, zz_m1eq, bI_eq0, decide_eq_false_iff_not, decide_eq_true_eq, Decidable.not_not, not_true_eq_false, not_false_eq_true, Nat.not_lt, Nat.not_le, Bool.not_eq_false, Bool.not_eq_true] at c_48
                  all_goals omega
                · try simp (disch := omega) only [nI_ltI, nI_leI, nI_eq, zz_lt0, zz_ge0, zz_gt0, zz_le0, zz_eq0, zz_m1lt, zz_m1ge, zz_m1eq, bI_eq0, decide_eq_false_iff_not, decide_eq_true_eq, Decidable.not_not, not_true_eq_false, not_false_eq_true, Nat.not_lt, Nat.not_le, Bool.not_eq_false, Bool.not_eq_true] at c_48
                  first | refine V.aload_n dR_write_51 rfl ?_ | refine V.aload_nN dR_write_51 rfl ?_
                  refine V.getk dR_write_52 (by omega) (by assumption) f_R_87_4 (by assumption) ?_
                  refine V.ldc (v := nI 65536) dR_write_55 co_R_35 ?_
                  refine V.icmp_ne (tgt := 63) dR_write_57 (by decide) (fun c_57 => ?_) (fun c_57 => ?_)
                  · try simp (disch := omega) only [nI_ltI, nI_leI, nI_eq, zz_lt0, zz_ge0, zz_gt0, zz_le0, zz_eq0, zz_m1lt, zz_m1ge, zz_m1eq, bI_eq0, decide_eq_false_iff_not, decide_eq_true_eq, Decidable.not_not, not_true_eq_false, not_false_eq_true, Nat.not_lt, Nat.not_le, Bool.not_eq_false, Bool.not_eq_true] at c_57
                    first | refine V.aload_n dR_write_63 rfl ?_ | refine V.aload_nN dR_write_63 rfl ?_
                    refine V.getk dR_write_64 (by omega) (by assumption) f_R_36_4 (by assumption) ?_
                    first | refine V.aload_n dR_write_67 rfl ?_ | refine V.aload_nN dR_write_67 rfl ?_
                    refine V.getk dR_write_68 (by omega) (by assumption) f_R_87_4 (by assumption) ?_
                    refine V.lload_n dR_write_71 rfl ?_
                    refine V.bipush (v := (nI 8)) dR_write_72 (by decide) ?_
                    refine V.iload dR_write_74 rfl ?_
                    refine V.imulN dR_write_76 ?_
                    refine V.lshr dR_write_77 rfl ?_
                    refine V.l2i dR_write_78 rfl ?_
                    refine V.i2b dR_write_79 rfl ?_
                    refine V.bastoreN dR_write_80 (by omega) (by assumption) (by omega) ((pk_nb _).trans (congrArg Value.int (by_i8 _ (s_byt_lt x q) (by_shr x (by omega))))) ?_
                    intro h80 e80
                    have hS80 : RS G h80 o := by (rw [e80]; exact hSq.put (by omega))
                    obtain ⟨hze, hk0e, hk1e, hk2e, hk3e, hk4e, hk5e, hk6e, hk7e, hk8e, hf0e, hf2e, hf3e, hf4e, hf5e, hf6e, hf12e, hf13e⟩ := id hS80
                    have hO80 : h80.2.1 o 9 = .int (nI e) := by (rw [e80]; exact (hp_a (by omega)).trans hO9q)
                    have hB80 : h80.2.1 o 11 = .int (nI bq.length) := by (rw [e80]; exact (hp_a (by omega)).trans b1q)
                    first | refine V.aload_n dR_write_81 rfl ?_ | refine V.aload_nN dR_write_81 rfl ?_
                    refine V.getk dR_write_82 (by omega) (by assumption) f_R_40_4 (by assumption) ?_
                    first | refine V.aload_n dR_write_85 rfl ?_ | refine V.aload_nN dR_write_85 rfl ?_
                    refine V.getk dR_write_86 (by omega) (by assumption) f_R_87_4 hB80 ?_
                    first | refine V.aload_n dR_write_89 rfl ?_ | refine V.aload_nN dR_write_89 rfl ?_
                    refine V.getk dR_write_90 (by omega) (by assumption) f_R_32_4 hO80 ?_
                    refine V.i2s dR_write_93 rfl ?_
                    refine V.sastoreN dR_write_94 (by omega) (by assumption) (by omega) ((pk_ns _).trans (congrArg Value.int (sh_16 e he))) ?_
                    intro h94 e94
                    have hS94 : RS G h94 o := by (rw [e94]; exact hS80.put (by omega))
                    obtain ⟨hzf, hk0f, hk1f, hk2f, hk3f, hk4f, hk5f, hk6f, hk7f, hk8f, hf0f, hf2f, hf3f, hf4f, hf5f, hf6f, hf12f, hf13f⟩ := id hS94
                    have hO94 : h94.2.1 o 9 = .int (nI e) := by (rw [e94]; exact (hp_a (by omega)).trans hO80)
                    have hB94 : h94.2.1 o 11 = .int (nI bq.length) := by (rw [e94]; exact (hp_a (by omega)).trans hB80)
                    first | refine V.aload_n dR_write_95 rfl ?_ | refine V.aload_nN dR_write_95 rfl ?_
                    refine V.dup dR_write_96 rfl ?_
                    refine V.getk dR_write_97 (by omega) (by assumption) f_R_87_4 hB94 ?_
                    refine V.iconst (v := (nI 1)) dR_write_100 (by decide) ?_
                    refine V.iaddN dR_write_101 ?_
                    refine V.putk dR_write_102 (by omega) (by assumption) p_R_87_4 rfl rfl ?_
                    intro h102 e102
                    have hS102 : RS G h102 o := by (rw [e102]; exact hS94.put (by omega))
                    obtain ⟨hzg, hk0g, hk1g, hk2g, hk3g, hk4g, hk5g, hk6g, hk7g, hk8g, hf0g, hf2g, hf3g, hf4g, hf5g, hf6g, hf12g, hf13g⟩ := id hS102
                    have hO102 : h102.2.1 o 9 = .int (nI e) := by (rw [e102]; exact (hp_j (by omega)).trans hO94)
                    have hZ102 : h102.2.1 (o + 4) e = .int (nI (s_fb bq e).length) := by (rw [e102, e94, e80]; exact (hp_a (by omega)).trans ((hp_a (by omega)).trans ((hp_a (by omega)).trans (b6q e he))))
                    first | refine V.aload_n dR_write_105 rfl ?_ | refine V.aload_nN dR_write_105 rfl ?_
                    refine V.getk dR_write_106 (by omega) (by assumption) f_R_19_4 (by assumption) ?_
                    first | refine V.aload_n dR_write_109 rfl ?_ | refine V.aload_nN dR_write_109 rfl ?_
                    refine V.getk dR_write_110 (by omega) (by assumption) f_R_32_4 hO102 ?_
                    refine V.dup2 dR_write_113 rfl rfl ?_
                    refine V.ialoadN dR_write_114 (by omega) (by assumption) (by omega) hZ102 ?_
                    refine V.iconst (v := (nI 1)) dR_write_115 (by decide) ?_
                    refine V.iaddN dR_write_116 ?_
                    refine V.iastoreN dR_write_117 (by omega) (by assumption) (by omega) rfl ?_
                    intro h117 e117
                    refine V.iinc (v := lm q) dR_write_118 rfl (by show nI q + Int32.ofInt (-1) = nI q - 1; rw [show Int32.ofInt (-1) = -1 by decide, Int32.sub_eq_add_neg]) (by decide) ?_
                    refine V.goto (tgt := 24) dR_write_121 (by decide) ?_
                    refine V.re [4, 0, 1, 3] rfl (ih h117 (bq ++ [(s_byt x q, e)]) ?_ (by rw [List.length_append, List.length_singleton]; omega) ?_ (by rw [List.append_assoc]; exact hbq) (by omega))
                    · rw [e117, e102, e94, e80]; exact hIq.push (s_byt_lt x q) he (by omega)
                    · rw [e117, e102, e94, e80]; exact (((hFq.put (by omega)).put (by omega)).put (by omega)).put (by omega)
                  · try simp (disch := omega) only [nI_ltI, nI_leI, nI_eq, zz_lt0, zz_ge0, zz_gt0, zz_le0, zz_eq0, zz_m1lt, zz_m1ge, zz_m1eq, bI_eq0, decide_eq_false_iff_not, decide_eq_true_eq, Decidable.not_not, not_true_eq_false, not_false_eq_true, Nat.not_lt, Nat.not_le, Bool.not_eq_false, Bool.not_eq_true] at c_57
                    all_goals omega
        first | refine V.aload_n dR_write_0 rfl ?_ | refine V.aload_nN dR_write_0 rfl ?_
        refine V.getk dR_write_1 (by omega) (by assumption) f_R_32_4 hO9 ?_
        refine V.if_lt (tgt := 17) dR_write_4 (by decide) (fun c_4 => ?_) (fun c_4 => ?_)
        · try simp (disch := omega) only [nI_ltI, nI_leI, nI_eq, zz_lt0, zz_ge0, zz_gt0, zz_le0, zz_eq0, zz_m1lt, zz_m1ge, zz_m1eq, bI_eq0, decide_eq_false_iff_not, decide_eq_true_eq, Decidable.not_not, not_true_eq_false, not_false_eq_true, Nat.not_lt, Nat.not_le, Bool.not_eq_false, Bool.not_eq_true] at c_4
          all_goals omega
        · try simp (disch := omega) only [nI_ltI, nI_leI, nI_eq, zz_lt0, zz_ge0, zz_gt0, zz_le0, zz_eq0, zz_m1lt, zz_m1ge, zz_m1eq, bI_eq0, decide_eq_false_iff_not, decide_eq_true_eq, Decidable.not_not, not_true_eq_false, not_false_eq_true, Nat.not_lt, Nat.not_le, Bool.not_eq_false, Bool.not_eq_true] at c_4
          refine V.iload_n dR_write_7 rfl ?_
          refine V.if_lt (tgt := 17) dR_write_8 (by decide) (fun c_8 => ?_) (fun c_8 => ?_)
          · try simp (disch := omega) only [nI_ltI, nI_leI, nI_eq, zz_lt0, zz_ge0, zz_gt0, zz_le0, zz_eq0, zz_m1lt, zz_m1ge, zz_m1eq, bI_eq0, decide_eq_false_iff_not, decide_eq_true_eq, Decidable.not_not, not_true_eq_false, not_false_eq_true, Nat.not_lt, Nat.not_le, Bool.not_eq_false, Bool.not_eq_true] at c_8
            all_goals omega
          · try simp (disch := omega) only [nI_ltI, nI_leI, nI_eq, zz_lt0, zz_ge0, zz_gt0, zz_le0, zz_eq0, zz_m1lt, zz_m1ge, zz_m1eq, bI_eq0, decide_eq_false_iff_not, decide_eq_true_eq, Decidable.not_not, not_true_eq_false, not_false_eq_true, Nat.not_lt, Nat.not_le, Bool.not_eq_false, Bool.not_eq_true] at c_8
            refine V.iload_n dR_write_11 rfl ?_
            refine V.bipush (v := (nI 8)) dR_write_12 (by decide) ?_
            refine V.icmp_le (tgt := 19) dR_write_14 (by decide) (fun c_14 => ?_) (fun c_14 => ?_)
            · try simp (disch := omega) only [nI_ltI, nI_leI, nI_eq, zz_lt0, zz_ge0, zz_gt0, zz_le0, zz_eq0, zz_m1lt, zz_m1ge, zz_m1eq, bI_eq0, decide_eq_false_iff_not, decide_eq_true_eq, Decidable.not_not, not_true_eq_false, not_false_eq_true, Nat.not_lt, Nat.not_le, Bool.not_eq_false, Bool.not_eq_true] at c_14
              refine V.iload_n dR_write_19 rfl ?_
              refine V.iconst (v := (nI 1)) dR_write_20 (by decide) ?_
              refine V.isub dR_write_21 ?_
              refine V.istore dR_write_22 (by decide) ?_
              exact V.re [4, 0, 1, 3] rfl (loop m h bl hI (by omega) FrO.rf rfl (by omega))
            · try simp (disch := omega) only [nI_ltI, nI_leI, nI_eq, zz_lt0, zz_ge0, zz_gt0, zz_le0, zz_eq0, zz_m1lt, zz_m1ge, zz_m1eq, bI_eq0, decide_eq_false_iff_not, decide_eq_true_eq, Decidable.not_not, not_true_eq_false, not_false_eq_true, Nat.not_lt, Nat.not_le, Bool.not_eq_false, Bool.not_eq_true] at c_14
              all_goals omega
end
section
theorem by_k8 {n : Nat} (h : n < 256) : (nI n).toInt8.toInt32 &&& nI 255 = nI n := sc_k8 n h
section VNW2
variable {G : GG} {i : MM} {pc : Nat} {lv : List (Nat × Value)} {st : List Value} {h : HH} {c s : Nat} {Q Q' : Option Value → HH → Prop}
theorem V.newaN {at_ : ArrayType} {kd c2 s2 q : Nat} {n : Int32} {N : Nat} (hd : decode (m_C i) pc = .ok (.newarray at_, 2)) (hk : k_ty kd = some (newarray.typeOf at_)) (hw : Cond.arrayClass (newarray.typeOf at_) ∈ tb) (hn : n = nI N) (hN : N < 2 ^ 20) (hc : c2 + 1 ≤ c) (hs : s2 + N ≤ s) (hq : h.2.2 = q)
    (kk : ∀ h', h' = h_new h kd N (fun _ => defaultValue (newarray.typeOf at_)) → h'.2.2 = q + 1 → V G i (pc + 2) lv (.ref q :: st) h' c2 s2 Q) : V G i pc lv (.int n :: st) h c s Q := by
  subst hq
  exact V.newarray hd hk hw hn hN hc hs (kk _ rfl rfl)
end VNW2
theorem hn_k {h : HH} {kd n q : Nat} {f : Nat → Value} (hq : h.2.2 = q) : (h_new h kd n f).1 q = (kd, n) := by subst hq; exact h_new_k
theorem hn_kn {h : HH} {kd n a : Nat} {f : Nat → Value} (ha : a ≠ h.2.2) : (h_new h kd n f).1 a = h.1 a := by show (if a = h.2.2 then _ else _) = _; rw [if_neg ha]
theorem hn_f {h : HH} {kd n q j : Nat} {f : Nat → Value} (hq : h.2.2 = q) : (h_new h kd n f).2.1 q j = f j := by subst hq; rw [h_new_f]
theorem hn_fn {h : HH} {kd n a j : Nat} {f : Nat → Value} (ha : a ≠ h.2.2) : (h_new h kd n f).2.1 a j = h.2.1 a j := by show (if a = h.2.2 then _ else _) = _; rw [if_neg ha]
set_option maxHeartbeats 4000000 in
set_option maxRecDepth 100000 in
/-- PathTreeModel.byteAt -/
theorem kR_byteAt {G : GG} {h : HH} {o : Nat} {T : TT} {p : Nat → Nat} {len hand : Nat} {op : Option Nat} {gone : Bool} {ents : Nat} {bl : List (Nat × Nat)} {Q : Option Value → HH → Prop} {j : Int32} (hI : RI G h o T p len hand op gone ents bl) (hQ : Q (some (.int (s_byteAt op gone bl j))) h) : V G mR_byteAt 0 (lv_args 0 [.ref o, .int j]) [] h 0 0 Q := by
  obtain ⟨hS, hP, hT, hH, hO, hg, hE, hB, hop⟩ := id hI
  obtain ⟨hz, hk0, hk1, hk2, hk3, hk4, hk5, hk6, hk7, hk8, hf0, hf2, hf3, hf4, hf5, hf6, hf12, hf13⟩ := id hS
  obtain ⟨hln, hpp, hl2, hp⟩ := id hP
  obtain ⟨hkd, hkd2, hin, hin2, hns, hns2, hnm, hnm2⟩ := id hT
  obtain ⟨hhand, hhl⟩ := id hH
  obtain ⟨b1, b2, b3, b4, b5, b6⟩ := id hB
  cases hop2 : op with
  | none =>
    subst hop2
    have hO9 : h.2.1 o 9 = .int (-1) := hO
    first | refine V.aload_n dR_byteAt_0 rfl ?_ | refine V.aload_nN dR_byteAt_0 rfl ?_
    refine V.getk dR_byteAt_1 (by omega) (by assumption) f_R_32_4 hO9 ?_
    refine V.if_lt (tgt := 31) dR_byteAt_4 (by decide) (fun c_4 => ?_) (fun c_4 => ?_)
    · try simp only [zz_m1lt, zz_m1ge, not_true_eq_false, not_false_eq_true] at c_4
      refine V.iconst (v := (-1)) dR_byteAt_31 (by decide) ?_
      refine V.ireturn dR_byteAt_32 rfl rfl ?_
      exact hQ
    · try simp only [zz_m1lt, zz_m1ge, not_true_eq_false, not_false_eq_true] at c_4
      all_goals omega
  | some e =>
    subst hop2
    have he := hop e rfl
    have hO9 : h.2.1 o 9 = .int (nI e) := hO
    cases hgo : gone with
    | true =>
      subst hgo
      have hg9 : h.2.1 o 10 = .int (bI true) := hg
      have e1 : s_byteAt (some e) true bl j = -1 := rfl
      rw [e1] at hQ
      first | refine V.aload_n dR_byteAt_0 rfl ?_ | refine V.aload_nN dR_byteAt_0 rfl ?_
      refine V.getk dR_byteAt_1 (by omega) (by assumption) f_R_32_4 hO9 ?_
      refine V.if_lt (tgt := 31) dR_byteAt_4 (by decide) (fun c_4 => ?_) (fun c_4 => ?_)
      · try simp (disch := omega) only [nI_ltI, nI_leI, nI_eq, zz_lt0, zz_ge0, zz_gt0, zz_le0, zz_eq0, zz_m1lt, zz_m1ge, zz_m1eq, bI_eq0, decide_eq_false_iff_not, decide_eq_true_eq, Decidable.not_not, not_true_eq_false, not_false_eq_true, Nat.not_lt, Nat.not_le, Bool.not_eq_false, Bool.not_eq_true] at c_4
        all_goals omega
      · try simp (disch := omega) only [nI_ltI, nI_leI, nI_eq, zz_lt0, zz_ge0, zz_gt0, zz_le0, zz_eq0, zz_m1lt, zz_m1ge, zz_m1eq, bI_eq0, decide_eq_false_iff_not, decide_eq_true_eq, Decidable.not_not, not_true_eq_false, not_false_eq_true, Nat.not_lt, Nat.not_le, Bool.not_eq_false, Bool.not_eq_true] at c_4
        first | refine V.aload_n dR_byteAt_7 rfl ?_ | refine V.aload_nN dR_byteAt_7 rfl ?_
        refine V.getk dR_byteAt_8 (by omega) (by assumption) f_R_83_4 hg9 ?_
        refine V.if_ne (tgt := 31) dR_byteAt_11 (by decide) (fun c_11 => ?_) (fun c_11 => ?_)
        · skip
          refine V.iconst (v := (-1)) dR_byteAt_31 (by decide) ?_
          refine V.ireturn dR_byteAt_32 rfl rfl ?_
          exact hQ
        · skip
          exact absurd c_11 (by decide)
    | false =>
      subst hgo
      have hg9 : h.2.1 o 10 = .int (bI false) := hg
      have hfb := fb_le bl e
      rcases pk_ix j (n := (s_fb bl e).length) (by omega) with hj | hj | ⟨y, hy, rfl⟩
      · have e1 : s_byteAt (some e) false bl j = -1 := by (simp only [s_byteAt]; rw [if_neg (by decide), if_neg (fun z => z (Or.inl hj))])
        rw [e1] at hQ
        first | refine V.aload_n dR_byteAt_0 rfl ?_ | refine V.aload_nN dR_byteAt_0 rfl ?_
        refine V.getk dR_byteAt_1 (by omega) (by assumption) f_R_32_4 hO9 ?_
        refine V.if_lt (tgt := 31) dR_byteAt_4 (by decide) (fun c_4 => ?_) (fun c_4 => ?_)
        · try simp (disch := omega) only [nI_ltI, nI_leI, nI_eq, zz_lt0, zz_ge0, zz_gt0, zz_le0, zz_eq0, zz_m1lt, zz_m1ge, zz_m1eq, bI_eq0, decide_eq_false_iff_not, decide_eq_true_eq, Decidable.not_not, not_true_eq_false, not_false_eq_true, Nat.not_lt, Nat.not_le, Bool.not_eq_false, Bool.not_eq_true] at c_4
          all_goals omega
        · try simp (disch := omega) only [nI_ltI, nI_leI, nI_eq, zz_lt0, zz_ge0, zz_gt0, zz_le0, zz_eq0, zz_m1lt, zz_m1ge, zz_m1eq, bI_eq0, decide_eq_false_iff_not, decide_eq_true_eq, Decidable.not_not, not_true_eq_false, not_false_eq_true, Nat.not_lt, Nat.not_le, Bool.not_eq_false, Bool.not_eq_true] at c_4
          first | refine V.aload_n dR_byteAt_7 rfl ?_ | refine V.aload_nN dR_byteAt_7 rfl ?_
          refine V.getk dR_byteAt_8 (by omega) (by assumption) f_R_83_4 hg9 ?_
          refine V.if_ne (tgt := 31) dR_byteAt_11 (by decide) (fun c_11 => ?_) (fun c_11 => ?_)
          · skip
            exact absurd (by decide) c_11
          · skip
            refine V.iload_n dR_byteAt_14 rfl ?_
            refine V.if_lt (tgt := 31) dR_byteAt_15 (by decide) (fun c_15 => ?_) (fun c_15 => ?_)
            · skip
              refine V.iconst (v := (-1)) dR_byteAt_31 (by decide) ?_
              refine V.ireturn dR_byteAt_32 rfl rfl ?_
              exact hQ
            · skip
              exact absurd hj c_15
      · have e1 : s_byteAt (some e) false bl j = -1 := by
          simp only [s_byteAt]
          rw [if_neg (by decide), if_neg (fun z => ?_)]
          have z2 := (vp_in_iff (n := (s_fb bl e).length)).mp z
          rw [Int32.le_iff_toInt_le, nI_toInt (by omega)] at hj
          omega
        rw [e1] at hQ
        first | refine V.aload_n dR_byteAt_0 rfl ?_ | refine V.aload_nN dR_byteAt_0 rfl ?_
        refine V.getk dR_byteAt_1 (by omega) (by assumption) f_R_32_4 hO9 ?_
        refine V.if_lt (tgt := 31) dR_byteAt_4 (by decide) (fun c_4 => ?_) (fun c_4 => ?_)
        · try simp (disch := omega) only [nI_ltI, nI_leI, nI_eq, zz_lt0, zz_ge0, zz_gt0, zz_le0, zz_eq0, zz_m1lt, zz_m1ge, zz_m1eq, bI_eq0, decide_eq_false_iff_not, decide_eq_true_eq, Decidable.not_not, not_true_eq_false, not_false_eq_true, Nat.not_lt, Nat.not_le, Bool.not_eq_false, Bool.not_eq_true] at c_4
          all_goals omega
        · try simp (disch := omega) only [nI_ltI, nI_leI, nI_eq, zz_lt0, zz_ge0, zz_gt0, zz_le0, zz_eq0, zz_m1lt, zz_m1ge, zz_m1eq, bI_eq0, decide_eq_false_iff_not, decide_eq_true_eq, Decidable.not_not, not_true_eq_false, not_false_eq_true, Nat.not_lt, Nat.not_le, Bool.not_eq_false, Bool.not_eq_true] at c_4
          first | refine V.aload_n dR_byteAt_7 rfl ?_ | refine V.aload_nN dR_byteAt_7 rfl ?_
          refine V.getk dR_byteAt_8 (by omega) (by assumption) f_R_83_4 hg9 ?_
          refine V.if_ne (tgt := 31) dR_byteAt_11 (by decide) (fun c_11 => ?_) (fun c_11 => ?_)
          · skip
            exact absurd (by decide) c_11
          · skip
            refine V.iload_n dR_byteAt_14 rfl ?_
            refine V.if_lt (tgt := 31) dR_byteAt_15 (by decide) (fun c_15 => ?_) (fun c_15 => ?_)
            · skip
              refine V.iconst (v := (-1)) dR_byteAt_31 (by decide) ?_
              refine V.ireturn dR_byteAt_32 rfl rfl ?_
              exact hQ
            · skip
              refine V.iload_n dR_byteAt_18 rfl ?_
              first | refine V.aload_n dR_byteAt_19 rfl ?_ | refine V.aload_nN dR_byteAt_19 rfl ?_
              refine V.getk dR_byteAt_20 (by omega) (by assumption) f_R_19_4 (by assumption) ?_
              first | refine V.aload_n dR_byteAt_23 rfl ?_ | refine V.aload_nN dR_byteAt_23 rfl ?_
              refine V.getk dR_byteAt_24 (by omega) (by assumption) f_R_32_4 hO9 ?_
              refine V.ialoadN dR_byteAt_27 (by omega) (by assumption) (by omega) (b6 e he) ?_
              refine V.icmp_lt (tgt := 33) dR_byteAt_28 (by decide) (fun c_28 => ?_) (fun c_28 => ?_)
              · skip
                exact absurd hj (Int32.not_le.mpr c_28)
              · skip
                refine V.iconst (v := (-1)) dR_byteAt_31 (by decide) ?_
                refine V.ireturn dR_byteAt_32 rfl rfl ?_
                exact hQ
      · have e1 : s_byteAt (some e) false bl (nI y) = nI ((s_fb bl e).getD y 0) := by
          simp only [s_byteAt]
          rw [if_neg (by decide), if_pos (show ¬ (nI y < 0 ∨ (s_fb bl e).length ≤ (nI y).toNatClampNeg) from vp_in_nI hy (by omega)), nI_clamp (by omega)]
        rw [e1] at hQ
        have loop : ∀ r k l, k + r = bl.length → (s_fb (bl.drop k) e).getD l 0 = (s_fb bl e).getD y 0 → l < (s_fb (bl.drop k) e).length → V G mR_byteAt 37 [(3, .int (nI k)), (2, .int (nI l)), (0, .ref o), (1, .int (nI y))] [] h 0 0 Q := by
          intro r
          induction r with
          | zero =>
            intro k l hr hfv hfl
            rw [show k = bl.length by omega, List.drop_length] at hfl
            exact absurd hfl (Nat.not_lt_zero l)
          | succ r ih =>
            intro k l hr hfv hfl
            have hk : k < bl.length := by omega
            have hbk := b4 _ (getD_mem hk)
            have hlb := fb_le (bl.drop k) e
            have hdl : (bl.drop k).length ≤ 65536 := by (rw [List.length_drop]; omega)
            have hl2 : l ≤ 65536 := by omega
            rw [drop_cons hk] at hfv hfl
            first | refine V.aload_n dR_byteAt_37 rfl ?_ | refine V.aload_nN dR_byteAt_37 rfl ?_
            refine V.getk dR_byteAt_38 (by omega) (by assumption) f_R_40_4 (by assumption) ?_
            refine V.iload_n dR_byteAt_41 rfl ?_
            refine V.saloadN dR_byteAt_42 (by omega) (by assumption) (by omega) (b3 k hk) ?_
            first | refine V.aload_n dR_byteAt_43 rfl ?_ | refine V.aload_nN dR_byteAt_43 rfl ?_
            refine V.getk dR_byteAt_44 (by omega) (by assumption) f_R_32_4 hO9 ?_
            refine V.icmp_ne (tgt := 54) dR_byteAt_47 (by decide) (fun c_47 => ?_) (fun c_47 => ?_)
            · try simp (disch := omega) only [nI_ltI, nI_leI, nI_eq, zz_lt0, zz_ge0, zz_gt0, zz_le0, zz_eq0, zz_m1lt, zz_m1ge, zz_m1eq, bI_eq0, decide_eq_false_iff_not, decide_eq_true_eq, Decidable.not_not, not_true_eq_false, not_false_eq_true, Nat.not_lt, Nat.not_le, Bool.not_eq_false, Bool.not_eq_true] at c_47
              refine V.iload_n dR_byteAt_54 rfl ?_
              first | refine V.aload_n dR_byteAt_55 rfl ?_ | refine V.aload_nN dR_byteAt_55 rfl ?_
              refine V.getk dR_byteAt_56 (by omega) (by assumption) f_R_40_4 (by assumption) ?_
              refine V.iload_n dR_byteAt_59 rfl ?_
              refine V.saloadN dR_byteAt_60 (by omega) (by assumption) (by omega) (b3 k hk) ?_
              first | refine V.aload_n dR_byteAt_61 rfl ?_ | refine V.aload_nN dR_byteAt_61 rfl ?_
              refine V.getk dR_byteAt_62 (by omega) (by assumption) f_R_32_4 hO9 ?_
              refine V.icmp_ne (tgt := 72) dR_byteAt_65 (by decide) (fun c_65 => ?_) (fun c_65 => ?_)
              · try simp (disch := omega) only [nI_ltI, nI_leI, nI_eq, zz_lt0, zz_ge0, zz_gt0, zz_le0, zz_eq0, zz_m1lt, zz_m1ge, zz_m1eq, bI_eq0, decide_eq_false_iff_not, decide_eq_true_eq, Decidable.not_not, not_true_eq_false, not_false_eq_true, Nat.not_lt, Nat.not_le, Bool.not_eq_false, Bool.not_eq_true] at c_65
                refine V.iconst (v := (nI 0)) dR_byteAt_72 (by decide) ?_
                refine V.isubN dR_byteAt_73 (by omega) ?_
                refine V.istore_n dR_byteAt_74 (by decide) ?_
                refine V.iincN dR_byteAt_75 rfl (by decide) ?_
                refine V.goto (tgt := 37) dR_byteAt_78 (by decide) ?_
                first | exact absurd c_65 c_47 | exact absurd c_47 c_65 | exact V.re [3, 2, 0, 1] rfl (ih (k + 1) l (by omega) (by rw [← hfv]; rw [fb_f c_47]) (by rw [fb_f c_47] at hfl; exact hfl)) | exact V.re [3, 2, 0, 1] rfl (ih (k + 1) (l - 1) (by omega) (by rw [← hfv]; rw [fb_t c_47, show l = (l - 1) + 1 by omega]; rfl) (by rw [fb_t c_47, List.length_cons] at hfl; omega))
              · try simp (disch := omega) only [nI_ltI, nI_leI, nI_eq, zz_lt0, zz_ge0, zz_gt0, zz_le0, zz_eq0, zz_m1lt, zz_m1ge, zz_m1eq, bI_eq0, decide_eq_false_iff_not, decide_eq_true_eq, Decidable.not_not, not_true_eq_false, not_false_eq_true, Nat.not_lt, Nat.not_le, Bool.not_eq_false, Bool.not_eq_true] at c_65
                refine V.iconst (v := (nI 1)) dR_byteAt_68 (by decide) ?_
                refine V.goto (tgt := 73) dR_byteAt_69 (by decide) ?_
                refine V.isubN dR_byteAt_73 (by omega) ?_
                refine V.istore_n dR_byteAt_74 (by decide) ?_
                refine V.iincN dR_byteAt_75 rfl (by decide) ?_
                refine V.goto (tgt := 37) dR_byteAt_78 (by decide) ?_
                first | exact absurd c_65 c_47 | exact absurd c_47 c_65 | exact V.re [3, 2, 0, 1] rfl (ih (k + 1) l (by omega) (by rw [← hfv]; rw [fb_f c_47]) (by rw [fb_f c_47] at hfl; exact hfl)) | exact V.re [3, 2, 0, 1] rfl (ih (k + 1) (l - 1) (by omega) (by rw [← hfv]; rw [fb_t c_47, show l = (l - 1) + 1 by omega]; rfl) (by rw [fb_t c_47, List.length_cons] at hfl; omega))
            · try simp (disch := omega) only [nI_ltI, nI_leI, nI_eq, zz_lt0, zz_ge0, zz_gt0, zz_le0, zz_eq0, zz_m1lt, zz_m1ge, zz_m1eq, bI_eq0, decide_eq_false_iff_not, decide_eq_true_eq, Decidable.not_not, not_true_eq_false, not_false_eq_true, Nat.not_lt, Nat.not_le, Bool.not_eq_false, Bool.not_eq_true] at c_47
              refine V.iload_n dR_byteAt_50 rfl ?_
              refine V.if_le (tgt := 81) dR_byteAt_51 (by decide) (fun c_51 => ?_) (fun c_51 => ?_)
              · try simp (disch := omega) only [nI_ltI, nI_leI, nI_eq, zz_lt0, zz_ge0, zz_gt0, zz_le0, zz_eq0, zz_m1lt, zz_m1ge, zz_m1eq, bI_eq0, decide_eq_false_iff_not, decide_eq_true_eq, Decidable.not_not, not_true_eq_false, not_false_eq_true, Nat.not_lt, Nat.not_le, Bool.not_eq_false, Bool.not_eq_true] at c_51
                first | refine V.aload_n dR_byteAt_81 rfl ?_ | refine V.aload_nN dR_byteAt_81 rfl ?_
                refine V.getk dR_byteAt_82 (by omega) (by assumption) f_R_36_4 (by assumption) ?_
                refine V.iload_n dR_byteAt_85 rfl ?_
                refine V.baloadN dR_byteAt_86 (by omega) (by assumption) (by omega) (b2 k hk) ?_
                refine V.sipush (v := (nI 255)) dR_byteAt_87 (by decide) ?_
                refine V.iand dR_byteAt_90 ?_
                rw [by_k8 hbk.1]
                refine V.ireturn dR_byteAt_91 rfl rfl ?_
                rw [fb_t c_47, show l = 0 by omega] at hfv
                rw [← hfv] at hQ
                exact hQ
              · try simp (disch := omega) only [nI_ltI, nI_leI, nI_eq, zz_lt0, zz_ge0, zz_gt0, zz_le0, zz_eq0, zz_m1lt, zz_m1ge, zz_m1eq, bI_eq0, decide_eq_false_iff_not, decide_eq_true_eq, Decidable.not_not, not_true_eq_false, not_false_eq_true, Nat.not_lt, Nat.not_le, Bool.not_eq_false, Bool.not_eq_true] at c_51
                refine V.iload_n dR_byteAt_54 rfl ?_
                first | refine V.aload_n dR_byteAt_55 rfl ?_ | refine V.aload_nN dR_byteAt_55 rfl ?_
                refine V.getk dR_byteAt_56 (by omega) (by assumption) f_R_40_4 (by assumption) ?_
                refine V.iload_n dR_byteAt_59 rfl ?_
                refine V.saloadN dR_byteAt_60 (by omega) (by assumption) (by omega) (b3 k hk) ?_
                first | refine V.aload_n dR_byteAt_61 rfl ?_ | refine V.aload_nN dR_byteAt_61 rfl ?_
                refine V.getk dR_byteAt_62 (by omega) (by assumption) f_R_32_4 hO9 ?_
                refine V.icmp_ne (tgt := 72) dR_byteAt_65 (by decide) (fun c_65 => ?_) (fun c_65 => ?_)
                · try simp (disch := omega) only [nI_ltI, nI_leI, nI_eq, zz_lt0, zz_ge0, zz_gt0, zz_le0, zz_eq0, zz_m1lt, zz_m1ge, zz_m1eq, bI_eq0, decide_eq_false_iff_not, decide_eq_true_eq, Decidable.not_not, not_true_eq_false, not_false_eq_true, Nat.not_lt, Nat.not_le, Bool.not_eq_false, Bool.not_eq_true] at c_65
                  refine V.iconst (v := (nI 0)) dR_byteAt_72 (by decide) ?_
                  refine V.isubN dR_byteAt_73 (by omega) ?_
                  refine V.istore_n dR_byteAt_74 (by decide) ?_
                  refine V.iincN dR_byteAt_75 rfl (by decide) ?_
                  refine V.goto (tgt := 37) dR_byteAt_78 (by decide) ?_
                  first | exact absurd c_65 c_47 | exact absurd c_47 c_65 | exact V.re [3, 2, 0, 1] rfl (ih (k + 1) l (by omega) (by rw [← hfv]; rw [fb_f c_47]) (by rw [fb_f c_47] at hfl; exact hfl)) | exact V.re [3, 2, 0, 1] rfl (ih (k + 1) (l - 1) (by omega) (by rw [← hfv]; rw [fb_t c_47, show l = (l - 1) + 1 by omega]; rfl) (by rw [fb_t c_47, List.length_cons] at hfl; omega))
                · try simp (disch := omega) only [nI_ltI, nI_leI, nI_eq, zz_lt0, zz_ge0, zz_gt0, zz_le0, zz_eq0, zz_m1lt, zz_m1ge, zz_m1eq, bI_eq0, decide_eq_false_iff_not, decide_eq_true_eq, Decidable.not_not, not_true_eq_false, not_false_eq_true, Nat.not_lt, Nat.not_le, Bool.not_eq_false, Bool.not_eq_true] at c_65
                  refine V.iconst (v := (nI 1)) dR_byteAt_68 (by decide) ?_
                  refine V.goto (tgt := 73) dR_byteAt_69 (by decide) ?_
                  refine V.isubN dR_byteAt_73 (by omega) ?_
                  refine V.istore_n dR_byteAt_74 (by decide) ?_
                  refine V.iincN dR_byteAt_75 rfl (by decide) ?_
                  refine V.goto (tgt := 37) dR_byteAt_78 (by decide) ?_
                  first | exact absurd c_65 c_47 | exact absurd c_47 c_65 | exact V.re [3, 2, 0, 1] rfl (ih (k + 1) l (by omega) (by rw [← hfv]; rw [fb_f c_47]) (by rw [fb_f c_47] at hfl; exact hfl)) | exact V.re [3, 2, 0, 1] rfl (ih (k + 1) (l - 1) (by omega) (by rw [← hfv]; rw [fb_t c_47, show l = (l - 1) + 1 by omega]; rfl) (by rw [fb_t c_47, List.length_cons] at hfl; omega))
        first | refine V.aload_n dR_byteAt_0 rfl ?_ | refine V.aload_nN dR_byteAt_0 rfl ?_
        refine V.getk dR_byteAt_1 (by omega) (by assumption) f_R_32_4 hO9 ?_
        refine V.if_lt (tgt := 31) dR_byteAt_4 (by decide) (fun c_4 => ?_) (fun c_4 => ?_)
        · try simp (disch := omega) only [nI_ltI, nI_leI, nI_eq, zz_lt0, zz_ge0, zz_gt0, zz_le0, zz_eq0, zz_m1lt, zz_m1ge, zz_m1eq, bI_eq0, decide_eq_false_iff_not, decide_eq_true_eq, Decidable.not_not, not_true_eq_false, not_false_eq_true, Nat.not_lt, Nat.not_le, Bool.not_eq_false, Bool.not_eq_true] at c_4
          all_goals omega
        · try simp (disch := omega) only [nI_ltI, nI_leI, nI_eq, zz_lt0, zz_ge0, zz_gt0, zz_le0, zz_eq0, zz_m1lt, zz_m1ge, zz_m1eq, bI_eq0, decide_eq_false_iff_not, decide_eq_true_eq, Decidable.not_not, not_true_eq_false, not_false_eq_true, Nat.not_lt, Nat.not_le, Bool.not_eq_false, Bool.not_eq_true] at c_4
          first | refine V.aload_n dR_byteAt_7 rfl ?_ | refine V.aload_nN dR_byteAt_7 rfl ?_
          refine V.getk dR_byteAt_8 (by omega) (by assumption) f_R_83_4 hg9 ?_
          refine V.if_ne (tgt := 31) dR_byteAt_11 (by decide) (fun c_11 => ?_) (fun c_11 => ?_)
          · skip
            exact absurd (by decide) c_11
          · skip
            refine V.iload_n dR_byteAt_14 rfl ?_
            refine V.if_lt (tgt := 31) dR_byteAt_15 (by decide) (fun c_15 => ?_) (fun c_15 => ?_)
            · try simp (disch := omega) only [nI_ltI, nI_leI, nI_eq, zz_lt0, zz_ge0, zz_gt0, zz_le0, zz_eq0, zz_m1lt, zz_m1ge, zz_m1eq, bI_eq0, decide_eq_false_iff_not, decide_eq_true_eq, Decidable.not_not, not_true_eq_false, not_false_eq_true, Nat.not_lt, Nat.not_le, Bool.not_eq_false, Bool.not_eq_true] at c_15
              all_goals omega
            · try simp (disch := omega) only [nI_ltI, nI_leI, nI_eq, zz_lt0, zz_ge0, zz_gt0, zz_le0, zz_eq0, zz_m1lt, zz_m1ge, zz_m1eq, bI_eq0, decide_eq_false_iff_not, decide_eq_true_eq, Decidable.not_not, not_true_eq_false, not_false_eq_true, Nat.not_lt, Nat.not_le, Bool.not_eq_false, Bool.not_eq_true] at c_15
              refine V.iload_n dR_byteAt_18 rfl ?_
              first | refine V.aload_n dR_byteAt_19 rfl ?_ | refine V.aload_nN dR_byteAt_19 rfl ?_
              refine V.getk dR_byteAt_20 (by omega) (by assumption) f_R_19_4 (by assumption) ?_
              first | refine V.aload_n dR_byteAt_23 rfl ?_ | refine V.aload_nN dR_byteAt_23 rfl ?_
              refine V.getk dR_byteAt_24 (by omega) (by assumption) f_R_32_4 hO9 ?_
              refine V.ialoadN dR_byteAt_27 (by omega) (by assumption) (by omega) (b6 e he) ?_
              refine V.icmp_lt (tgt := 33) dR_byteAt_28 (by decide) (fun c_28 => ?_) (fun c_28 => ?_)
              · try simp (disch := omega) only [nI_ltI, nI_leI, nI_eq, zz_lt0, zz_ge0, zz_gt0, zz_le0, zz_eq0, zz_m1lt, zz_m1ge, zz_m1eq, bI_eq0, decide_eq_false_iff_not, decide_eq_true_eq, Decidable.not_not, not_true_eq_false, not_false_eq_true, Nat.not_lt, Nat.not_le, Bool.not_eq_false, Bool.not_eq_true] at c_28
                refine V.iload_n dR_byteAt_33 rfl ?_
                refine V.istore_n dR_byteAt_34 (by decide) ?_
                refine V.iconst (v := (nI 0)) dR_byteAt_35 (by decide) ?_
                refine V.istore_n dR_byteAt_36 (by decide) ?_
                exact V.re [3, 2, 0, 1] rfl (loop bl.length 0 y (by omega) rfl hy)
              · try simp (disch := omega) only [nI_ltI, nI_leI, nI_eq, zz_lt0, zz_ge0, zz_gt0, zz_le0, zz_eq0, zz_m1lt, zz_m1ge, zz_m1eq, bI_eq0, decide_eq_false_iff_not, decide_eq_true_eq, Decidable.not_not, not_true_eq_false, not_false_eq_true, Nat.not_lt, Nat.not_le, Bool.not_eq_false, Bool.not_eq_true] at c_28
                all_goals omega
set_option maxHeartbeats 4000000 in
set_option maxRecDepth 100000 in
/-- PathTreeModel.count -/
theorem kR_count {G : GG} {h : HH} {o : Nat} {T : TT} {p : Nat → Nat} {len hand : Nat} {op : Option Nat} {gone : Bool} {ents : Nat} {bl : List (Nat × Nat)} {Q : Option Value → HH → Prop} {dp : Nat → Nat} {w : Int32} (hI : RI G h o T p len hand op gone ents bl) (hd0 : dp 0 = 0) (hdp : ∀ e, e < 300 → T.1 e = 2 → e ≠ 0 → T.1 (T.2.1 e) = 2 ∧ dp e = dp (T.2.1 e) + 1) (hhd : T.1 hand = 2) (hbd : dp hand < 2 ^ 20) (hQ : Q (some (.int (s_count T len hand op gone bl dp w))) h) : V G mR_count 0 (lv_args 0 [.ref o, .int w]) [] h 0 0 Q := by
  obtain ⟨hS, hP, hT, hH, hO, hg, hE, hB, hop⟩ := id hI
  obtain ⟨hz, hk0, hk1, hk2, hk3, hk4, hk5, hk6, hk7, hk8, hf0, hf2, hf3, hf4, hf5, hf6, hf12, hf13⟩ := id hS
  obtain ⟨hln, hpp, hl2, hp⟩ := id hP
  obtain ⟨hkd, hkd2, hin, hin2, hns, hns2, hnm, hnm2⟩ := id hT
  obtain ⟨hhand, hhl⟩ := id hH
  obtain ⟨b1, b2, b3, b4, b5, b6⟩ := id hB
  rcases pk_ix w (n := 7) (by decide) with hw | hw | ⟨j, hj, rfl⟩
  · have hne : ∀ k, k < 7 → ¬ w = nI k := fun k hk z => by
      rw [z] at hw
      exact nI_pos (by omega) hw
    have e1 : s_count T len hand op gone bl dp w = -1 := by (unfold s_count; rw [if_neg (hne 0 (by omega)), if_neg (hne 1 (by omega)), if_neg (hne 2 (by omega)), if_neg (hne 3 (by omega)), if_neg (hne 4 (by omega)), if_neg (hne 5 (by omega)), if_neg (hne 6 (by omega))])
    rw [e1] at hQ
    refine V.iload_n dR_count_0 rfl ?_
    refine V.tableOut (tgt := 108) dR_count_1 (Or.inl (by rw [Int32.lt_iff_toInt_lt] at hw; simpa using hw)) (by decide) ?_
    refine V.iconst (v := (-1)) dR_count_108 (by decide) ?_
    refine V.ireturn dR_count_109 rfl rfl ?_
    exact hQ
  · have hne : ∀ k, k < 7 → ¬ w = nI k := fun k hk z => by
      rw [z] at hw
      have := (nI_leI (by omega) (by omega)).mp hw; omega
    have e1 : s_count T len hand op gone bl dp w = -1 := by (unfold s_count; rw [if_neg (hne 0 (by omega)), if_neg (hne 1 (by omega)), if_neg (hne 2 (by omega)), if_neg (hne 3 (by omega)), if_neg (hne 4 (by omega)), if_neg (hne 5 (by omega)), if_neg (hne 6 (by omega))])
    rw [e1] at hQ
    refine V.iload_n dR_count_0 rfl ?_
    refine V.tableOut (tgt := 108) dR_count_1 (Or.inr (by rw [Int32.le_iff_toInt_le, nI_toInt (by decide)] at hw; omega)) (by decide) ?_
    refine V.iconst (v := (-1)) dR_count_108 (by decide) ?_
    refine V.ireturn dR_count_109 rfl rfl ?_
    exact hQ
  · rcases (show j = 0 ∨ j = 1 ∨ j = 2 ∨ j = 3 ∨ j = 4 ∨ j = 5 ∨ j = 6 by omega) with rfl | rfl | rfl | rfl | rfl | rfl | rfl
    · have e1 : s_count T len hand op gone bl dp (nI 0) = nI (s_cnt (fun e => decide (T.1 e = 1)) 300) := by (unfold s_count; rw [if_pos rfl])
      rw [e1] at hQ
      refine V.iload_n dR_count_0 rfl ?_
      refine V.tableIn (tgt := 44) dR_count_1 (by decide) (by decide) rfl (by decide) ?_
      first | refine V.aload_n dR_count_44 rfl ?_ | refine V.aload_nN dR_count_44 rfl ?_
      refine V.iconst (v := (nI 1)) dR_count_45 (by decide) ?_
      refine V.callVk (kd := 4) 0 _ 0 _ [_] dR_count_46 okR_many n_R_111 (by omega) (by assumption) rfl imR_many seR_many_R (by decide) (by decide) rfl rfl (Nat.le_of_ble_eq_true rfl) (Nat.le_of_ble_eq_true rfl) (Nat.le_of_eq (Nat.zero_add _)) (Nat.le_of_eq (Nat.zero_add _)) (kR_many hS hT (by omega) ?_)
      refine V.ireturn dR_count_49 rfl rfl ?_
      exact hQ
    · have e1 : s_count T len hand op gone bl dp (nI 1) = nI (s_cnt (fun e => decide (T.1 e = 2)) 300) := by (unfold s_count; rw [if_neg (by decide), if_pos rfl])
      rw [e1] at hQ
      refine V.iload_n dR_count_0 rfl ?_
      refine V.tableIn (tgt := 50) dR_count_1 (by decide) (by decide) rfl (by decide) ?_
      first | refine V.aload_n dR_count_50 rfl ?_ | refine V.aload_nN dR_count_50 rfl ?_
      refine V.iconst (v := (nI 2)) dR_count_51 (by decide) ?_
      refine V.callVk (kd := 4) 0 _ 0 _ [_] dR_count_52 okR_many n_R_111 (by omega) (by assumption) rfl imR_many seR_many_R (by decide) (by decide) rfl rfl (Nat.le_of_ble_eq_true rfl) (Nat.le_of_ble_eq_true rfl) (Nat.le_of_eq (Nat.zero_add _)) (Nat.le_of_eq (Nat.zero_add _)) (kR_many hS hT (by omega) ?_)
      refine V.ireturn dR_count_55 rfl rfl ?_
      exact hQ
    · have e1 : s_count T len hand op gone bl dp (nI 2) = nI bl.length := by (unfold s_count; rw [if_neg (by decide), if_neg (by decide), if_pos rfl])
      rw [e1] at hQ
      refine V.iload_n dR_count_0 rfl ?_
      refine V.tableIn (tgt := 56) dR_count_1 (by decide) (by decide) rfl (by decide) ?_
      first | refine V.aload_n dR_count_56 rfl ?_ | refine V.aload_nN dR_count_56 rfl ?_
      refine V.getk dR_count_57 (by omega) (by assumption) f_R_87_4 (by assumption) ?_
      refine V.ireturn dR_count_60 rfl rfl ?_
      exact hQ
    · have e1 : s_count T len hand op gone bl dp (nI 3) = nI (s_cnt (fun e => decide (1 ≤ e ∧ T.1 e ≠ 0 ∧ T.2.1 e = hand)) 300) := by (unfold s_count; rw [if_neg (by decide), if_neg (by decide), if_neg (by decide), if_pos rfl])
      rw [e1] at hQ
      refine V.iload_n dR_count_0 rfl ?_
      refine V.tableIn (tgt := 61) dR_count_1 (by decide) (by decide) rfl (by decide) ?_
      first | refine V.aload_n dR_count_61 rfl ?_ | refine V.aload_nN dR_count_61 rfl ?_
      refine V.callVk (kd := 4) 0 _ 0 _ [] dR_count_62 okR_atHand n_R_114 (by omega) (by assumption) rfl imR_atHand seR_atHand_R (by decide) (by decide) rfl rfl (Nat.le_of_ble_eq_true rfl) (Nat.le_of_ble_eq_true rfl) (Nat.le_of_eq (Nat.zero_add _)) (Nat.le_of_eq (Nat.zero_add _)) (kR_atHand hS hT hH ?_)
      refine V.ireturn dR_count_65 rfl rfl ?_
      exact hQ
    · have e1 : s_count T len hand op gone bl dp (nI 4) = nI (dp hand) := by (unfold s_count; rw [if_neg (by decide), if_neg (by decide), if_neg (by decide), if_neg (by decide), if_pos rfl])
      rw [e1] at hQ
      refine V.iload_n dR_count_0 rfl ?_
      refine V.tableIn (tgt := 66) dR_count_1 (by decide) (by decide) rfl (by decide) ?_
      first | refine V.aload_n dR_count_66 rfl ?_ | refine V.aload_nN dR_count_66 rfl ?_
      refine V.callVk (kd := 4) 0 _ 0 _ [] dR_count_67 okR_above n_R_117 (by omega) (by assumption) rfl imR_above seR_above_R (by decide) (by decide) rfl rfl (Nat.le_of_ble_eq_true rfl) (Nat.le_of_ble_eq_true rfl) (Nat.le_of_eq (Nat.zero_add _)) (Nat.le_of_eq (Nat.zero_add _)) (kR_above hS hT hH hd0 hdp hhd hbd ?_)
      refine V.ireturn dR_count_70 rfl rfl ?_
      exact hQ
    · have e1 : s_count T len hand op gone bl dp (nI 5) = nI len := by (unfold s_count; rw [if_neg (by decide), if_neg (by decide), if_neg (by decide), if_neg (by decide), if_neg (by decide), if_pos rfl])
      rw [e1] at hQ
      refine V.iload_n dR_count_0 rfl ?_
      refine V.tableIn (tgt := 71) dR_count_1 (by decide) (by decide) rfl (by decide) ?_
      first | refine V.aload_n dR_count_71 rfl ?_ | refine V.aload_nN dR_count_71 rfl ?_
      refine V.getk dR_count_72 (by omega) (by assumption) f_R_44_4 (by assumption) ?_
      refine V.ireturn dR_count_75 rfl rfl ?_
      exact hQ
    · have e1 : s_count T len hand op gone bl dp (nI 6) = s_len6 op gone bl := by (unfold s_count; rw [if_neg (by decide), if_neg (by decide), if_neg (by decide), if_neg (by decide), if_neg (by decide), if_neg (by decide), if_pos rfl])
      rw [e1] at hQ
      refine V.iload_n dR_count_0 rfl ?_
      refine V.tableIn (tgt := 76) dR_count_1 (by decide) (by decide) rfl (by decide) ?_
      cases hop2 : op with
      | none =>
        subst hop2
        have hO9 : h.2.1 o 9 = .int (-1) := hO
        first | refine V.aload_n dR_count_76 rfl ?_ | refine V.aload_nN dR_count_76 rfl ?_
        refine V.getk dR_count_77 (by omega) (by assumption) f_R_32_4 hO9 ?_
        refine V.if_ge (tgt := 87) dR_count_80 (by decide) (fun c_80 => ?_) (fun c_80 => ?_)
        · try simp only [zz_m1lt, zz_m1ge, not_true_eq_false, not_false_eq_true] at c_80
          all_goals omega
        · try simp only [zz_m1lt, zz_m1ge, not_true_eq_false, not_false_eq_true] at c_80
          refine V.iconst (v := (-1)) dR_count_83 (by decide) ?_
          refine V.goto (tgt := 107) dR_count_84 (by decide) ?_
          refine V.ireturn dR_count_107 rfl rfl ?_
          exact hQ
      | some e =>
        subst hop2
        have he := hop e rfl
        have hO9 : h.2.1 o 9 = .int (nI e) := hO
        cases hgo : gone with
        | true =>
          subst hgo
          have hg9 : h.2.1 o 10 = .int (bI true) := hg
          first | refine V.aload_n dR_count_76 rfl ?_ | refine V.aload_nN dR_count_76 rfl ?_
          refine V.getk dR_count_77 (by omega) (by assumption) f_R_32_4 hO9 ?_
          refine V.if_ge (tgt := 87) dR_count_80 (by decide) (fun c_80 => ?_) (fun c_80 => ?_)
          · try simp (disch := omega) only [nI_ltI, nI_leI, nI_eq, zz_lt0, zz_ge0, zz_gt0, zz_le0, zz_eq0, zz_m1lt, zz_m1ge, zz_m1eq, bI_eq0, decide_eq_false_iff_not, decide_eq_true_eq, Decidable.not_not, not_true_eq_false, not_false_eq_true, Nat.not_lt, Nat.not_le, Bool.not_eq_false, Bool.not_eq_true] at c_80
            first | refine V.aload_n dR_count_87 rfl ?_ | refine V.aload_nN dR_count_87 rfl ?_
            refine V.getk dR_count_88 (by omega) (by assumption) f_R_83_4 hg9 ?_
            refine V.if_eq (tgt := 98) dR_count_91 (by decide) (fun c_91 => ?_) (fun c_91 => ?_)
            · skip
              exact absurd c_91 (by decide)
            · skip
              refine V.iconst (v := (nI 0)) dR_count_94 (by decide) ?_
              refine V.goto (tgt := 107) dR_count_95 (by decide) ?_
              refine V.ireturn dR_count_107 rfl rfl ?_
              exact hQ
          · try simp (disch := omega) only [nI_ltI, nI_leI, nI_eq, zz_lt0, zz_ge0, zz_gt0, zz_le0, zz_eq0, zz_m1lt, zz_m1ge, zz_m1eq, bI_eq0, decide_eq_false_iff_not, decide_eq_true_eq, Decidable.not_not, not_true_eq_false, not_false_eq_true, Nat.not_lt, Nat.not_le, Bool.not_eq_false, Bool.not_eq_true] at c_80
            all_goals omega
        | false =>
          subst hgo
          have hg9 : h.2.1 o 10 = .int (bI false) := hg
          first | refine V.aload_n dR_count_76 rfl ?_ | refine V.aload_nN dR_count_76 rfl ?_
          refine V.getk dR_count_77 (by omega) (by assumption) f_R_32_4 hO9 ?_
          refine V.if_ge (tgt := 87) dR_count_80 (by decide) (fun c_80 => ?_) (fun c_80 => ?_)
          · try simp (disch := omega) only [nI_ltI, nI_leI, nI_eq, zz_lt0, zz_ge0, zz_gt0, zz_le0, zz_eq0, zz_m1lt, zz_m1ge, zz_m1eq, bI_eq0, decide_eq_false_iff_not, decide_eq_true_eq, Decidable.not_not, not_true_eq_false, not_false_eq_true, Nat.not_lt, Nat.not_le, Bool.not_eq_false, Bool.not_eq_true] at c_80
            first | refine V.aload_n dR_count_87 rfl ?_ | refine V.aload_nN dR_count_87 rfl ?_
            refine V.getk dR_count_88 (by omega) (by assumption) f_R_83_4 hg9 ?_
            refine V.if_eq (tgt := 98) dR_count_91 (by decide) (fun c_91 => ?_) (fun c_91 => ?_)
            · skip
              first | refine V.aload_n dR_count_98 rfl ?_ | refine V.aload_nN dR_count_98 rfl ?_
              refine V.getk dR_count_99 (by omega) (by assumption) f_R_19_4 (by assumption) ?_
              first | refine V.aload_n dR_count_102 rfl ?_ | refine V.aload_nN dR_count_102 rfl ?_
              refine V.getk dR_count_103 (by omega) (by assumption) f_R_32_4 hO9 ?_
              refine V.ialoadN dR_count_106 (by omega) (by assumption) (by omega) (b6 e he) ?_
              refine V.ireturn dR_count_107 rfl rfl ?_
              exact hQ
            · skip
              exact absurd (by decide) c_91
          · try simp (disch := omega) only [nI_ltI, nI_leI, nI_eq, zz_lt0, zz_ge0, zz_gt0, zz_le0, zz_eq0, zz_m1lt, zz_m1ge, zz_m1eq, bI_eq0, decide_eq_false_iff_not, decide_eq_true_eq, Decidable.not_not, not_true_eq_false, not_false_eq_true, Nat.not_lt, Nat.not_le, Bool.not_eq_false, Bool.not_eq_true] at c_80
            all_goals omega
end
section
/-- the tree at the start -/
def s_T0 : TT := (fun e => if e = 0 then 2 else 0, fun _ => 0, fun _ => 0, fun _ _ => 0)
/-- a new reference, n of its arrays made: its object's fields f; the arrays' kinds and zeros -/
def RN (G : GG) (h0 h : HH) (o n : Nat) (ks : List (Nat × Nat)) (fs : Nat → Value) : Prop := g_0 G ≤ o ∧ h.2.2 = o + 1 + n ∧ ks.length = n ∧ (h.1 o).1 = 4 ∧ (∀ j, h.2.1 o j = fs j) ∧ (∀ k q, ks[k]? = some q → h.1 (o + 1 + k) = q ∧ ∀ j, h.2.1 (o + 1 + k) j = .int 0) ∧ ∀ a, a < o → h.1 a = h0.1 a ∧ ∀ j, h.2.1 a j = h0.2.1 a j
theorem RN.arr {G : GG} {h0 h h' : HH} {o n kd N : Nat} {ks : List (Nat × Nat)} {fs g : Nat → Value} (hN : RN G h0 h o n ks fs) (hg : ∀ j, g j = .int 0) (e : h' = h_new h kd N g) : RN G h0 h' o (n + 1) (ks ++ [(kd, N)]) fs := by
  obtain ⟨a1, a2, a3, a4, a5, a6, a7⟩ := hN
  subst e
  refine ⟨a1, by show h.2.2 + 1 = _; omega, by rw [List.length_append, a3]; rfl, by rw [hn_kn (by omega)]; exact a4, fun j => by rw [hn_fn (by omega)]; exact a5 j, fun k q hq => ?_, fun a ha => ⟨by rw [hn_kn (by omega)]; exact (a7 a ha).1, fun j => by rw [hn_fn (by omega)]; exact (a7 a ha).2 j⟩⟩
  by_cases z : k < ks.length
  · rw [List.getElem?_append_left z] at hq
    have q9 := a6 k q hq
    exact ⟨by rw [hn_kn (by omega)]; exact q9.1, fun j => by rw [hn_fn (by omega)]; exact q9.2 j⟩
  · have z2 : k < (ks ++ [(kd, N)]).length := (List.getElem?_eq_some_iff.mp hq).1
    rw [List.length_append, List.length_singleton] at z2
    rw [List.getElem?_append_right (by omega), show k - ks.length = 0 by omega] at hq
    cases hq
    exact ⟨hn_k (by omega), fun j => by rw [hn_f (by omega)]; exact hg j⟩
theorem RN.fld {G : GG} {h0 h h' : HH} {o n k : Nat} {ks : List (Nat × Nat)} {fs : Nat → Value} {v : Value} (hN : RN G h0 h o n ks fs) (e : h' = h_put h o k v) : RN G h0 h' o n ks (updV fs k v) := by
  obtain ⟨a1, a2, a3, a4, a5, a6, a7⟩ := hN
  subst e
  refine ⟨a1, a2, a3, a4, fun j => ?_, fun k2 q hq => ⟨(a6 k2 q hq).1, fun j => (hp_a (by omega)).trans ((a6 k2 q hq).2 j)⟩, fun a ha => ⟨(a7 a ha).1, fun j => (hp_a (by omega)).trans ((a7 a ha).2 j)⟩⟩
  by_cases z : j = k
  · subst z; rw [hp_eq]; simp [updV]
  · rw [hp_j z, a5]; simp [updV, z]
theorem RN.ha {G : GG} {h0 h : HH} {o n : Nat} {ks : List (Nat × Nat)} {fs : Nat → Value} (hN : RN G h0 h o n ks fs) : g_0 G ≤ o ∧ o < h.2.2 := ⟨hN.1, by have := hN.2.1; omega⟩
theorem RN.done {G : GG} {h0 h : HH} {o : Nat} {p : Nat → Nat} {fs : Nat → Value} (hN : RN G h0 h o 8 [(104, 250), (104, 300), (104, 300), (104, 300), (104, 300), (104, 18000), (102, 65536), (103, 65536)] fs)
    (h_0 : fs 0 = .ref (o + 1)) (h_1 : fs 1 = .int 0) (h_2 : fs 2 = .ref (o + 2)) (h_3 : fs 3 = .ref (o + 3)) (h_4 : fs 4 = .ref (o + 4)) (h_5 : fs 5 = .ref (o + 5)) (h_6 : fs 6 = .ref (o + 6)) (h_7 : fs 7 = .int (nI 1)) (h_8 : fs 8 = .int 0) (h_9 : fs 9 = .int (-1)) (h_10 : fs 10 = .int 0) (h_11 : fs 11 = .int 0) (h_12 : fs 12 = .ref (o + 7)) (h_13 : fs 13 = .ref (o + 8)) :
    RI G (h_put h (o + 2) 0 (.int (nI 2))) o s_T0 p 0 0 none false 1 [] := by
  obtain ⟨a1, a2, a3, a4, a5, a6, a7⟩ := hN
  have k1 := a6 0 _ rfl
  have k2 := a6 1 _ rfl
  have k3 := a6 2 _ rfl
  have k4 := a6 3 _ rfl
  have k5 := a6 4 _ rfl
  have k6 := a6 5 _ rfl
  have k7 := a6 6 _ rfl
  have k8 := a6 7 _ rfl
  have f : ∀ j v, fs j = v → (h_put h (o + 2) 0 (.int (nI 2))).2.1 o j = v := fun j v e => (hp_a (by omega)).trans ((a5 j).trans e)
  refine ⟨⟨⟨a1, by show o + 9 ≤ h.2.2; omega⟩, a4, k1.1, k2.1, k3.1, k4.1, k5.1, k6.1, k7.1, k8.1, f 0 _ h_0, f 2 _ h_2, f 3 _ h_3, f 4 _ h_4, f 5 _ h_5, f 6 _ h_6, f 12 _ h_12, f 13 _ h_13⟩, ⟨f 1 _ h_1, fun j hj => absurd hj (Nat.not_lt_zero j), by omega, fun j hj => absurd hj (Nat.not_lt_zero j)⟩,
    ⟨fun e he => ?_, fun e he => ?_, fun e he => (hp_a (by omega)).trans (k3.2 e), fun e he => by (show (0 : Nat) < 300; omega), fun e he => (hp_a (by omega)).trans (k5.2 e), fun e he => by (show (0 : Nat) ≤ 60; omega), fun e k he hk => absurd hk (Nat.not_lt_zero k), fun e k he hk => absurd hk (Nat.not_lt_zero k)⟩,
    ⟨f 8 _ h_8, by omega⟩, f 9 _ h_9, f 10 _ h_10, f 7 _ h_7, ⟨f 11 _ h_11, fun k hk => absurd hk (Nat.not_lt_zero k), fun k hk => absurd hk (Nat.not_lt_zero k), fun q hq => absurd hq List.not_mem_nil, by decide, fun e he => (hp_a (by omega)).trans (k4.2 e)⟩, fun e z => by (cases z)⟩
  · show _ = Value.int (nI (if e = 0 then 2 else 0))
    by_cases z : e = 0
    · subst z; rw [if_pos rfl]; exact hp_eq
    · rw [if_neg z, hp_j z]; exact k2.2 e
  · show (if e = 0 then 2 else 0) ≤ 2
    split <;> omega
set_option maxHeartbeats 4000000 in
set_option maxRecDepth 100000 in
/-- PathTreeModel() -/
theorem kR_init {G : GG} {h : HH} {o : Nat} {p : Nat → Nat} {Q : Option Value → HH → Prop} (ho : g_0 G ≤ o) (hz : h.2.2 = o + 1) (hk : (h.1 o).1 = 4) (hf : ∀ j, h.2.1 o j = xZ_R j) (hQ : ∀ h', h'.2.2 = o + 9 → (∀ a, a < o → h'.1 a = h.1 a ∧ ∀ j, h'.2.1 a j = h.2.1 a j) → RI G h' o s_T0 p 0 0 none false 1 [] → Q none h') : V G mR_init 0 (lv_args 0 [.ref o]) [] h 8 150522 Q := by
  have n0 : RN G h h o 0 [] (h.2.1 o) := ⟨ho, hz, rfl, hk, fun _ => rfl, fun k q z => by (cases z), fun a ha => ⟨rfl, fun _ => rfl⟩⟩
  first | refine V.aload_n dR_init_0 rfl ?_ | refine V.aload_nN dR_init_0 rfl ?_
  refine V.objInit dR_init_1 nl_R_1 oi_1 oi_2 (by decide) (by decide) (Nat.le_of_ble_eq_true rfl) ?_
  first | refine V.aload_n dR_init_4 rfl ?_ | refine V.aload_nN dR_init_4 rfl ?_
  refine V.sipush (v := (nI 250)) dR_init_5 (by decide) ?_
  refine V.newaN (kd := 104) (c2 := 7) (s2 := 150272) dR_init_8 rfl ar_int rfl (by decide) (by decide) (by decide) n0.2.1 ?_
  intro x8 e8 z8
  have n8 := n0.arr (fun _ => rfl) e8
  clear e8 z8
  refine V.putk dR_init_10 n8.ha n8.2.2.2.1 (p_R_7_4 rfl) rfl rfl ?_
  intro x10 e10
  have n10 := n8.fld e10
  clear e10
  first | refine V.aload_n dR_init_13 rfl ?_ | refine V.aload_nN dR_init_13 rfl ?_
  refine V.sipush (v := (nI 300)) dR_init_14 (by decide) ?_
  refine V.newaN (kd := 104) (c2 := 6) (s2 := 149972) dR_init_17 rfl ar_int rfl (by decide) (by decide) (by decide) n10.2.1 ?_
  intro x17 e17 z17
  have n17 := n10.arr (fun _ => rfl) e17
  clear e17 z17
  refine V.putk dR_init_19 n17.ha n17.2.2.2.1 (p_R_13_4 rfl) rfl rfl ?_
  intro x19 e19
  have n19 := n17.fld e19
  clear e19
  first | refine V.aload_n dR_init_22 rfl ?_ | refine V.aload_nN dR_init_22 rfl ?_
  refine V.sipush (v := (nI 300)) dR_init_23 (by decide) ?_
  refine V.newaN (kd := 104) (c2 := 5) (s2 := 149672) dR_init_26 rfl ar_int rfl (by decide) (by decide) (by decide) n19.2.1 ?_
  intro x26 e26 z26
  have n26 := n19.arr (fun _ => rfl) e26
  clear e26 z26
  refine V.putk dR_init_28 n26.ha n26.2.2.2.1 (p_R_16_4 rfl) rfl rfl ?_
  intro x28 e28
  have n28 := n26.fld e28
  clear e28
  first | refine V.aload_n dR_init_31 rfl ?_ | refine V.aload_nN dR_init_31 rfl ?_
  refine V.sipush (v := (nI 300)) dR_init_32 (by decide) ?_
  refine V.newaN (kd := 104) (c2 := 4) (s2 := 149372) dR_init_35 rfl ar_int rfl (by decide) (by decide) (by decide) n28.2.1 ?_
  intro x35 e35 z35
  have n35 := n28.arr (fun _ => rfl) e35
  clear e35 z35
  refine V.putk dR_init_37 n35.ha n35.2.2.2.1 (p_R_19_4 rfl) rfl rfl ?_
  intro x37 e37
  have n37 := n35.fld e37
  clear e37
  first | refine V.aload_n dR_init_40 rfl ?_ | refine V.aload_nN dR_init_40 rfl ?_
  refine V.sipush (v := (nI 300)) dR_init_41 (by decide) ?_
  refine V.newaN (kd := 104) (c2 := 3) (s2 := 149072) dR_init_44 rfl ar_int rfl (by decide) (by decide) (by decide) n37.2.1 ?_
  intro x44 e44 z44
  have n44 := n37.arr (fun _ => rfl) e44
  clear e44 z44
  refine V.putk dR_init_46 n44.ha n44.2.2.2.1 (p_R_22_4 rfl) rfl rfl ?_
  intro x46 e46
  have n46 := n44.fld e46
  clear e46
  first | refine V.aload_n dR_init_49 rfl ?_ | refine V.aload_nN dR_init_49 rfl ?_
  refine V.sipush (v := (nI 18000)) dR_init_50 (by decide) ?_
  refine V.newaN (kd := 104) (c2 := 2) (s2 := 131072) dR_init_53 rfl ar_int rfl (by decide) (by decide) (by decide) n46.2.1 ?_
  intro x53 e53 z53
  have n53 := n46.arr (fun _ => rfl) e53
  clear e53 z53
  refine V.putk dR_init_55 n53.ha n53.2.2.2.1 (p_R_25_4 rfl) rfl rfl ?_
  intro x55 e55
  have n55 := n53.fld e55
  clear e55
  first | refine V.aload_n dR_init_58 rfl ?_ | refine V.aload_nN dR_init_58 rfl ?_
  refine V.iconst (v := (nI 1)) dR_init_59 (by decide) ?_
  refine V.putk dR_init_60 n55.ha n55.2.2.2.1 p_R_28_4 rfl rfl ?_
  intro x60 e60
  have n60 := n55.fld e60
  clear e60
  first | refine V.aload_n dR_init_63 rfl ?_ | refine V.aload_nN dR_init_63 rfl ?_
  refine V.iconst (v := (-1)) dR_init_64 (by decide) ?_
  refine V.putk dR_init_65 n60.ha n60.2.2.2.1 p_R_32_4 rfl rfl ?_
  intro x65 e65
  have n65 := n60.fld e65
  clear e65
  first | refine V.aload_n dR_init_68 rfl ?_ | refine V.aload_nN dR_init_68 rfl ?_
  refine V.ldc (v := nI 65536) dR_init_69 co_R_35 ?_
  refine V.newaN (kd := 102) (c2 := 1) (s2 := 65536) dR_init_71 rfl ar_byte rfl (by decide) (by decide) (by decide) n65.2.1 ?_
  intro x71 e71 z71
  have n71 := n65.arr (fun _ => rfl) e71
  clear e71 z71
  refine V.putk dR_init_73 n71.ha n71.2.2.2.1 (p_R_36_4 rfl) rfl rfl ?_
  intro x73 e73
  have n73 := n71.fld e73
  clear e73
  first | refine V.aload_n dR_init_76 rfl ?_ | refine V.aload_nN dR_init_76 rfl ?_
  refine V.ldc (v := nI 65536) dR_init_77 co_R_35 ?_
  refine V.newaN (kd := 103) (c2 := 0) (s2 := 0) dR_init_79 rfl ar_short rfl (by decide) (by decide) (by decide) n73.2.1 ?_
  intro x79 e79 z79
  have n79 := n73.arr (fun _ => rfl) e79
  clear e79 z79
  refine V.putk dR_init_81 n79.ha n79.2.2.2.1 (p_R_40_4 rfl) rfl rfl ?_
  intro x81 e81
  have n81 := n79.fld e81
  clear e81
  have g2 : x81.2.1 o 2 = .ref (o + 2) := (n81.2.2.2.2.1 2).trans rfl
  have hk2 : x81.1 (o + 2) = (104, 300) := (n81.2.2.2.2.2.1 1 (104, 300) rfl).1
  have hz9 := n81.2.1
  first | refine V.aload_n dR_init_84 rfl ?_ | refine V.aload_nN dR_init_84 rfl ?_
  refine V.getk dR_init_85 n81.ha n81.2.2.2.1 f_R_13_4 g2 ?_
  refine V.iconst (v := (nI 0)) dR_init_88 (by decide) ?_
  refine V.iconst (v := (nI 2)) dR_init_89 (by decide) ?_
  refine V.iastoreN dR_init_90 (by omega) hk2 (by omega) rfl ?_
  intro x90 e90
  refine V.vreturn dR_init_91 rfl ?_
  subst e90
  exact hQ _ hz9 (fun a ha => ⟨(n81.2.2.2.2.2.2 a ha).1, fun j => (hp_a (by omega)).trans ((n81.2.2.2.2.2.2 a ha).2 j)⟩) (n81.done rfl (hf 1) rfl rfl rfl rfl rfl rfl (hf 8) rfl (hf 10) (hf 11) rfl rfl)
end
section
set_option maxRecDepth 20000 in
theorem ml_D_17 : Cond.methodLink "PathTree$Directory" 17 (m_Y mE_order) ∈ tb := t_in 198 rfl rfl
/-- a field of an entry, of whichever kind -/
theorem fE {own : String} {idx k kd : Nat} (h2 : f_ok own idx 2 k) (h3 : f_ok own idx 3 k) (h : kd = 2 ∨ kd = 3) : f_ok own idx kd k := by
  rcases h with rfl | rfl
  · exact h2
  · exact h3
theorem pE {own : String} {idx k kd : Nat} {ty : FieldType} {ini : Prop} (h2 : p_ok own idx 2 k ty ini) (h3 : p_ok own idx 3 k ty ini) (h : kd = 2 ∨ kd = 3) : p_ok own idx kd k ty ini := by
  rcases h with rfl | rfl
  · exact h2
  · exact h3
/-- an entry at a: its name's array n, of nl characters nf -/
def EN (G : GG) (h : HH) (a n nl : Nat) (nf : Nat → Nat) : Prop := (g_0 G ≤ a ∧ a < h.2.2) ∧ ((h.1 a).1 = 2 ∨ (h.1 a).1 = 3) ∧ h.2.1 a 0 = .ref n ∧ (g_0 G ≤ n ∧ n < h.2.2) ∧ h.1 n = (101, nl) ∧ nl ≤ 60 ∧ (∀ k, k < nl → h.2.1 n k = .int (nI (nf k))) ∧ ∀ k, k < nl → nf k < 256
/-- the characters f .. t - 1 of an array c: q -/
def CS (G : GG) (h : HH) (c N : Nat) (q : Nat → Nat) (f t : Nat) : Prop := (g_0 G ≤ c ∧ c < h.2.2) ∧ h.1 c = (101, N) ∧ N < 2 ^ 20 ∧ f ≤ t ∧ t ≤ N ∧ (∀ j, f ≤ j → j < t → h.2.1 c j = .int (nI (q j))) ∧ ∀ j, f ≤ j → j < t → q j < 256
/-- the name is the characters -/
abbrev s_eq (nf : Nat → Nat) (nl : Nat) (q : Nat → Nat) (f t : Nat) : Prop := nl = t - f ∧ ∀ k, k < t - f → nf k = q (f + k)
set_option maxHeartbeats 4000000 in
set_option maxRecDepth 100000 in
/-- Entry.order -/
theorem k_order {G : GG} {h : HH} {a n nl cc N f t : Nat} {nf q : Nat → Nat} {Q : Option Value → HH → Prop} (hE : EN G h a n nl nf) (hC : CS G h cc N q f t) (hQ : ∀ r : Int32, (r = 0 ↔ s_eq nf nl q f t) → (r < 0 ↔ s_lt nf nl (fun j => q (f + j)) (t - f)) → Q (some (.int r)) h) : V G mE_order 0 (lv_args 0 [.ref a, .ref cc, .int (nI f), .int (nI t)]) [] h 0 0 Q := by
  obtain ⟨ha, hka, hna, hn, hkn, hnl, hnf, hnf2⟩ := id hE
  obtain ⟨hc, hkc, hN, hft, htN, hq, hq2⟩ := id hC
  have loop : ∀ r k, k + r = 100 → k ≤ nl → k ≤ t - f → (∀ j, j < k → nf j = q (f + j)) → V G mE_order 8 [(5, .int (nI k)), (4, .int (nI (t - f))), (0, .ref a), (1, .ref cc), (2, .int (nI f)), (3, .int (nI t))] [] h 0 0 Q := by
    intro r
    induction r with
    | zero =>
      intro k hr h1 h2
      omega
    | succ r ih =>
      intro k hr h1 h2 he
      refine V.iload dE_order_8 rfl ?_
      first | refine V.aload_n dE_order_10 rfl ?_ | refine V.aload_nN dE_order_10 rfl ?_
      refine V.getk dE_order_11 ha rfl (fE f_E_17_2 f_E_17_3 hka) hna ?_
      refine V.alenN dE_order_14 hn (by assumption) rfl ?_
      refine V.icmp_ge (tgt := 62) dE_order_15 (by decide) (fun c_15 => ?_) (fun c_15 => ?_)
      · try simp (disch := omega) only [nI_ltI, nI_leI, nI_eq, zz_lt0, zz_ge0, zz_gt0, zz_le0, zz_eq0, zz_m1lt, zz_m1ge, zz_m1eq, bI_eq0, decide_eq_false_iff_not, decide_eq_true_eq, Decidable.not_not, not_true_eq_false, not_false_eq_true, Nat.not_lt, Nat.not_le, Bool.not_eq_false, Bool.not_eq_true] at c_15
        first | refine V.aload_n dE_order_62 rfl ?_ | refine V.aload_nN dE_order_62 rfl ?_
        refine V.getk dE_order_63 ha rfl (fE f_E_17_2 f_E_17_3 hka) hna ?_
        refine V.alenN dE_order_66 hn (by assumption) rfl ?_
        refine V.iload dE_order_67 rfl ?_
        refine V.isub dE_order_69 ?_
        refine V.ireturn dE_order_70 rfl rfl ?_
        exact hQ _ ((zs_eq0 (by omega) (by omega)).trans ⟨fun z => ⟨by omega, fun j hj => he j (by omega)⟩, fun z => by omega⟩) ((zs_lt0 (by omega) (by omega)).trans (s_lt_end (n2 := fun j => q (f + j)) he (by omega) (by omega) (by omega)).symm)
      · try simp (disch := omega) only [nI_ltI, nI_leI, nI_eq, zz_lt0, zz_ge0, zz_gt0, zz_le0, zz_eq0, zz_m1lt, zz_m1ge, zz_m1eq, bI_eq0, decide_eq_false_iff_not, decide_eq_true_eq, Decidable.not_not, not_true_eq_false, not_false_eq_true, Nat.not_lt, Nat.not_le, Bool.not_eq_false, Bool.not_eq_true] at c_15
        refine V.iload dE_order_18 rfl ?_
        refine V.iload dE_order_20 rfl ?_
        refine V.icmp_ge (tgt := 62) dE_order_22 (by decide) (fun c_22 => ?_) (fun c_22 => ?_)
        · try simp (disch := omega) only [nI_ltI, nI_leI, nI_eq, zz_lt0, zz_ge0, zz_gt0, zz_le0, zz_eq0, zz_m1lt, zz_m1ge, zz_m1eq, bI_eq0, decide_eq_false_iff_not, decide_eq_true_eq, Decidable.not_not, not_true_eq_false, not_false_eq_true, Nat.not_lt, Nat.not_le, Bool.not_eq_false, Bool.not_eq_true] at c_22
          first | refine V.aload_n dE_order_62 rfl ?_ | refine V.aload_nN dE_order_62 rfl ?_
          refine V.getk dE_order_63 ha rfl (fE f_E_17_2 f_E_17_3 hka) hna ?_
          refine V.alenN dE_order_66 hn (by assumption) rfl ?_
          refine V.iload dE_order_67 rfl ?_
          refine V.isub dE_order_69 ?_
          refine V.ireturn dE_order_70 rfl rfl ?_
          exact hQ _ ((zs_eq0 (by omega) (by omega)).trans ⟨fun z => ⟨by omega, fun j hj => he j (by omega)⟩, fun z => by omega⟩) ((zs_lt0 (by omega) (by omega)).trans (s_lt_end (n2 := fun j => q (f + j)) he (by omega) (by omega) (by omega)).symm)
        · try simp (disch := omega) only [nI_ltI, nI_leI, nI_eq, zz_lt0, zz_ge0, zz_gt0, zz_le0, zz_eq0, zz_m1lt, zz_m1ge, zz_m1eq, bI_eq0, decide_eq_false_iff_not, decide_eq_true_eq, Decidable.not_not, not_true_eq_false, not_false_eq_true, Nat.not_lt, Nat.not_le, Bool.not_eq_false, Bool.not_eq_true] at c_22
          first | refine V.aload_n dE_order_25 rfl ?_ | refine V.aload_nN dE_order_25 rfl ?_
          refine V.getk dE_order_26 ha rfl (fE f_E_17_2 f_E_17_3 hka) hna ?_
          refine V.iload dE_order_29 rfl ?_
          have q1 := hnf2 k (by omega)
          have q2 := hq2 (f + k) (by omega) (by omega)
          refine V.caloadN dE_order_31 hn (by assumption) (by omega) (hnf k (by omega)) ?_
          first | refine V.aload_n dE_order_32 rfl ?_ | refine V.aload_nN dE_order_32 rfl ?_
          refine V.iload_n dE_order_33 rfl ?_
          refine V.iload dE_order_34 rfl ?_
          refine V.iaddN dE_order_36 ?_
          refine V.caloadN dE_order_37 hc (by assumption) (by omega) (hq (f + k) (by omega) (by omega)) ?_
          refine V.icmp_eq (tgt := 56) dE_order_38 (by decide) (fun c_38 => ?_) (fun c_38 => ?_)
          · try simp (disch := omega) only [nI_ltI, nI_leI, nI_eq, zz_lt0, zz_ge0, zz_gt0, zz_le0, zz_eq0, zz_m1lt, zz_m1ge, zz_m1eq, bI_eq0, decide_eq_false_iff_not, decide_eq_true_eq, Decidable.not_not, not_true_eq_false, not_false_eq_true, Nat.not_lt, Nat.not_le, Bool.not_eq_false, Bool.not_eq_true] at c_38
            refine V.iincN dE_order_56 rfl (by decide) ?_
            refine V.goto (tgt := 8) dE_order_59 (by decide) ?_
            exact V.re [5, 4, 0, 1, 2, 3] rfl (ih (k + 1) (by omega) (by omega) (by omega) (fun j hj => (Nat.lt_or_ge j k).elim (he j) (fun z => by (rw [show j = k by omega]; exact c_38))))
          · try simp (disch := omega) only [nI_ltI, nI_leI, nI_eq, zz_lt0, zz_ge0, zz_gt0, zz_le0, zz_eq0, zz_m1lt, zz_m1ge, zz_m1eq, bI_eq0, decide_eq_false_iff_not, decide_eq_true_eq, Decidable.not_not, not_true_eq_false, not_false_eq_true, Nat.not_lt, Nat.not_le, Bool.not_eq_false, Bool.not_eq_true] at c_38
            first | refine V.aload_n dE_order_41 rfl ?_ | refine V.aload_nN dE_order_41 rfl ?_
            refine V.getk dE_order_42 ha rfl (fE f_E_17_2 f_E_17_3 hka) hna ?_
            refine V.iload dE_order_45 rfl ?_
            refine V.caloadN dE_order_47 hn (by assumption) (by omega) (hnf k (by omega)) ?_
            first | refine V.aload_n dE_order_48 rfl ?_ | refine V.aload_nN dE_order_48 rfl ?_
            refine V.iload_n dE_order_49 rfl ?_
            refine V.iload dE_order_50 rfl ?_
            refine V.iaddN dE_order_52 ?_
            refine V.caloadN dE_order_53 hc (by assumption) (by omega) (hq (f + k) (by omega) (by omega)) ?_
            refine V.isub dE_order_54 ?_
            refine V.ireturn dE_order_55 rfl rfl ?_
            exact hQ _ ⟨fun z => absurd ((zs_eq0 (by omega) (by omega)).mp z) c_38, fun z => absurd (z.2 k (by omega)) c_38⟩ ((zs_lt0 (by omega) (by omega)).trans (s_lt_at (n2 := fun j => q (f + j)) he (by omega) (by omega) c_38).symm)
  refine V.iload_n dE_order_0 rfl ?_
  refine V.iload_n dE_order_1 rfl ?_
  refine V.isubN dE_order_2 (by omega) ?_
  refine V.istore dE_order_3 (by decide) ?_
  refine V.iconst (v := (nI 0)) dE_order_5 (by decide) ?_
  refine V.istore dE_order_6 (by decide) ?_
  exact loop 100 0 (by omega) (by omega) (by omega) (fun j hj => by omega)
section VORD
variable {G : GG} {i : MM} {pc : Nat} {lv : List (Nat × Value)} {st : List Value} {h : HH} {c s : Nat} {Q Q' : Option Value → HH → Prop}
theorem V.ord {idx b : Nat} {x1 : Nat} {x2 x3 : Int32} {rest : List Value} (hd : decode (m_C i) pc = .ok (.invokevirtual idx, 3)) (hw1 : Cond.methodLink (m_Y i).cls idx (m_Y mE_order) ∈ tb) (hb : g_0 G ≤ b ∧ b < h.2.2) (hkb : (h.1 b).1 = 2 ∨ (h.1 b).1 = 3) (hD : m_D mE_order < m_D i) (hW : 19 + m_L mE_order + m_W mE_order ≤ m_W i) (hw : (rest.map fun v => v.category).sum ≤ 8)
    (kk : V G mE_order 0 (lv_args 0 [.ref b, .ref x1, .int x2, .int x3]) [] h 0 0 (fun r h' => V G i (pc + 3) lv (r.toList ++ rest) h' c s Q)) : V G i pc lv (.int x3 :: .int x2 :: .ref x1 :: .ref b :: rest) h c s Q := by
  rcases hkb with e | e
  · exact V.callUk 0 _ 0 _ [.ref x1, .int x2, .int x3] hd okE_order hw1 smE_order rfl hb e rfl imE_order seE_order_D hD hW rfl rfl (Nat.le_of_ble_eq_true rfl) hw (Nat.le_of_eq (Nat.zero_add _)) (Nat.le_of_eq (Nat.zero_add _)) kk
  · exact V.callUk 0 _ 0 _ [.ref x1, .int x2, .int x3] hd okE_order hw1 smE_order rfl hb e rfl imE_order seE_order_F hD hW rfl rfl (Nat.le_of_ble_eq_true rfl) hw (Nat.le_of_eq (Nat.zero_add _)) (Nat.le_of_eq (Nat.zero_add _)) kk
end VORD
/-- a chain of entries: the numbers in l, at their addresses, from the reference v on -/
def lnk (ad : Nat → Nat) (h : HH) : Value → List Nat → Prop
  | v, [] => v = .null
  | v, x :: l => v = .ref (ad x) ∧ lnk ad h (h.2.1 (ad x) 2) l
theorem lnk_val {ad : Nat → Nat} {h : HH} {v : Value} {l : List Nat} (hl : lnk ad h v l) : v = .null ∨ ∃ a, v = .ref a := by
  cases l with
  | nil => exact Or.inl hl
  | cons x l => exact Or.inr ⟨_, hl.1⟩
set_option maxHeartbeats 4000000 in
set_option maxRecDepth 100000 in
/-- Directory.entryCalled -/
theorem k_entryCalled {G : GG} {h : HH} {d cc N f t : Nat} {q : Nat → Nat} {ad na ns : Nat → Nat} {nm : Nat → Nat → Nat} {l : List Nat} {Q : Option Value → HH → Prop} (hd : (g_0 G ≤ d ∧ d < h.2.2) ∧ (h.1 d).1 = 2) (hl : lnk ad h (h.2.1 d 3) l) (hE : ∀ x ∈ l, EN G h (ad x) (na x) (ns x) (nm x)) (hC : CS G h cc N q f t) (q0 : (∀ x ∈ l, ¬ s_eq (nm x) (ns x) q f t) → Q (some .null) h) (q1 : ∀ x ∈ l, s_eq (nm x) (ns x) q f t → Q (some (.ref (ad x))) h) : V G mD_entryCalled 0 (lv_args 0 [.ref d, .ref cc, .int (nI f), .int (nI t)]) [] h 0 0 Q := by
  obtain ⟨hda, hdk⟩ := hd
  have loop : ∀ (l : List Nat) (v : Value), lnk ad h v l → (∀ x ∈ l, EN G h (ad x) (na x) (ns x) (nm x)) → ((∀ x ∈ l, ¬ s_eq (nm x) (ns x) q f t) → Q (some .null) h) → (∀ x ∈ l, s_eq (nm x) (ns x) q f t → Q (some (.ref (ad x))) h) → V G mD_entryCalled 6 [(4, v), (0, .ref d), (1, .ref cc), (2, .int (nI f)), (3, .int (nI t))] [] h 0 0 Q := by
    intro l
    induction l with
    | nil =>
      intro v hv hE q0 q1
      obtain rfl : v = .null := hv
      first | refine V.aload dD_entryCalled_6 rfl ?_ | refine V.aloadN dD_entryCalled_6 rfl ?_
      refine V.ifnullN (tgt := 35) dD_entryCalled_8 (by decide) ?_
      refine V.null dD_entryCalled_35 ?_
      first | refine V.areturn dD_entryCalled_36 rfl (by simp) ?_ | refine V.areturnN dD_entryCalled_36 rfl (by simp) ?_
      exact q0 (fun x hx => absurd hx List.not_mem_nil)
    | cons x l ih =>
      intro v hv hE q0 q1
      obtain rfl : v = .ref (ad x) := hv.1
      have hex := hE x List.mem_cons_self
      rcases lnk_val hv.2 with e9 | ⟨b9, e9⟩
      · first | refine V.aload dD_entryCalled_6 rfl ?_ | refine V.aloadN dD_entryCalled_6 rfl ?_
        refine V.ifnull dD_entryCalled_8 ?_
        first | refine V.aload dD_entryCalled_11 rfl ?_ | refine V.aloadN dD_entryCalled_11 rfl ?_
        first | refine V.aload_n dD_entryCalled_13 rfl ?_ | refine V.aload_nN dD_entryCalled_13 rfl ?_
        refine V.iload_n dD_entryCalled_14 rfl ?_
        refine V.iload_n dD_entryCalled_15 rfl ?_
        refine V.ord dD_entryCalled_16 ml_D_17 hex.1 hex.2.1 (by decide) (by decide) (Nat.le_of_ble_eq_true rfl) (k_order hex hC (fun r hr1 hr2 => ?_))
        refine V.if_ne (tgt := 25) dD_entryCalled_19 (by decide) (fun c_19 => ?_) (fun c_19 => ?_)
        · skip
          first | refine V.aload dD_entryCalled_25 rfl ?_ | refine V.aloadN dD_entryCalled_25 rfl ?_
          refine V.getk dD_entryCalled_27 hex.1 rfl (fE f_D_21_2 f_D_21_3 hex.2.1) e9 ?_
          first | refine V.astore dD_entryCalled_30 (by decide) ?_ | refine V.astoreN dD_entryCalled_30 (by decide) ?_
          refine V.goto (tgt := 6) dD_entryCalled_32 (by decide) ?_
          exact V.re [4, 0, 1, 2, 3] rfl (ih _ (by rw [← e9]; exact hv.2) (fun y hy => hE y (List.mem_cons_of_mem _ hy)) (fun z => q0 (fun y hy => (List.mem_cons.mp hy).elim (fun e => by (rw [e]; exact fun w => c_19 (hr1.mpr w))) (z y))) (fun y hy => q1 y (List.mem_cons_of_mem _ hy)))
        · skip
          first | refine V.aload dD_entryCalled_22 rfl ?_ | refine V.aloadN dD_entryCalled_22 rfl ?_
          first | refine V.areturn dD_entryCalled_24 rfl (by simp) ?_ | refine V.areturnN dD_entryCalled_24 rfl (by simp) ?_
          exact q1 x List.mem_cons_self (hr1.mp c_19)
      · first | refine V.aload dD_entryCalled_6 rfl ?_ | refine V.aloadN dD_entryCalled_6 rfl ?_
        refine V.ifnull dD_entryCalled_8 ?_
        first | refine V.aload dD_entryCalled_11 rfl ?_ | refine V.aloadN dD_entryCalled_11 rfl ?_
        first | refine V.aload_n dD_entryCalled_13 rfl ?_ | refine V.aload_nN dD_entryCalled_13 rfl ?_
        refine V.iload_n dD_entryCalled_14 rfl ?_
        refine V.iload_n dD_entryCalled_15 rfl ?_
        refine V.ord dD_entryCalled_16 ml_D_17 hex.1 hex.2.1 (by decide) (by decide) (Nat.le_of_ble_eq_true rfl) (k_order hex hC (fun r hr1 hr2 => ?_))
        refine V.if_ne (tgt := 25) dD_entryCalled_19 (by decide) (fun c_19 => ?_) (fun c_19 => ?_)
        · skip
          first | refine V.aload dD_entryCalled_25 rfl ?_ | refine V.aloadN dD_entryCalled_25 rfl ?_
          refine V.getk dD_entryCalled_27 hex.1 rfl (fE f_D_21_2 f_D_21_3 hex.2.1) e9 ?_
          first | refine V.astore dD_entryCalled_30 (by decide) ?_ | refine V.astoreN dD_entryCalled_30 (by decide) ?_
          refine V.goto (tgt := 6) dD_entryCalled_32 (by decide) ?_
          exact V.re [4, 0, 1, 2, 3] rfl (ih _ (by rw [← e9]; exact hv.2) (fun y hy => hE y (List.mem_cons_of_mem _ hy)) (fun z => q0 (fun y hy => (List.mem_cons.mp hy).elim (fun e => by (rw [e]; exact fun w => c_19 (hr1.mpr w))) (z y))) (fun y hy => q1 y (List.mem_cons_of_mem _ hy)))
        · skip
          first | refine V.aload dD_entryCalled_22 rfl ?_ | refine V.aloadN dD_entryCalled_22 rfl ?_
          first | refine V.areturn dD_entryCalled_24 rfl (by simp) ?_ | refine V.areturnN dD_entryCalled_24 rfl (by simp) ?_
          exact q1 x List.mem_cons_self (hr1.mp c_19)
  rcases lnk_val hl with e9 | ⟨b9, e9⟩
  · first | refine V.aload_n dD_entryCalled_0 rfl ?_ | refine V.aload_nN dD_entryCalled_0 rfl ?_
    refine V.getk dD_entryCalled_1 hda hdk f_D_7_2 e9 ?_
    first | refine V.astore dD_entryCalled_4 (by decide) ?_ | refine V.astoreN dD_entryCalled_4 (by decide) ?_
    exact loop l _ (by rw [← e9]; exact hl) hE q0 q1
  · first | refine V.aload_n dD_entryCalled_0 rfl ?_ | refine V.aload_nN dD_entryCalled_0 rfl ?_
    refine V.getk dD_entryCalled_1 hda hdk f_D_7_2 e9 ?_
    first | refine V.astore dD_entryCalled_4 (by decide) ?_ | refine V.astoreN dD_entryCalled_4 (by decide) ?_
    exact loop l _ (by rw [← e9]; exact hl) hE q0 q1
set_option maxHeartbeats 4000000 in
set_option maxRecDepth 100000 in
/-- Directory.entryAt -/
theorem k_entryAt {G : GG} {h : HH} {d : Nat} {ad na ns : Nat → Nat} {nm : Nat → Nat → Nat} {l : List Nat} {j : Int32} {Q : Option Value → HH → Prop} (hd : (g_0 G ≤ d ∧ d < h.2.2) ∧ (h.1 d).1 = 2) (hl : lnk ad h (h.2.1 d 3) l) (hz : h.2.1 d 4 = .int (nI l.length)) (hl3 : l.length ≤ 300) (hE : ∀ x ∈ l, EN G h (ad x) (na x) (ns x) (nm x)) (q0 : (∀ y, y < l.length → ¬ j = nI y) → Q (some .null) h) (q1 : ∀ y x, j = nI y → l[y]? = some x → Q (some (.ref (ad x))) h) : V G mD_entryAt 0 (lv_args 0 [.ref d, .int j]) [] h 0 0 Q := by
  obtain ⟨hda, hdk⟩ := hd
  rcases pk_ix j (n := l.length) (by omega) with hj | hj | ⟨y, hy, rfl⟩
  · refine V.iload_n dD_entryAt_0 rfl ?_
    refine V.if_lt (tgt := 12) dD_entryAt_1 (by decide) (fun c_1 => ?_) (fun c_1 => ?_)
    · skip
      refine V.null dD_entryAt_12 ?_
      first | refine V.areturn dD_entryAt_13 rfl (by simp) ?_ | refine V.areturnN dD_entryAt_13 rfl (by simp) ?_
      exact q0 (fun y hy z => by (rw [z] at hj; exact nI_pos (by omega) hj))
    · skip
      exact absurd hj c_1
  · refine V.iload_n dD_entryAt_0 rfl ?_
    refine V.if_lt (tgt := 12) dD_entryAt_1 (by decide) (fun c_1 => ?_) (fun c_1 => ?_)
    · skip
      refine V.null dD_entryAt_12 ?_
      first | refine V.areturn dD_entryAt_13 rfl (by simp) ?_ | refine V.areturnN dD_entryAt_13 rfl (by simp) ?_
      exact q0 (fun y hy z => by (rw [z] at hj; have := (nI_leI (by omega) (by omega)).mp hj; omega))
    · skip
      refine V.iload_n dD_entryAt_4 rfl ?_
      first | refine V.aload_n dD_entryAt_5 rfl ?_ | refine V.aload_nN dD_entryAt_5 rfl ?_
      refine V.getk dD_entryAt_6 hda hdk f_D_13_2 hz ?_
      refine V.icmp_lt (tgt := 14) dD_entryAt_9 (by decide) (fun c_9 => ?_) (fun c_9 => ?_)
      · skip
        exact absurd hj (Int32.not_le.mpr c_9)
      · skip
        refine V.null dD_entryAt_12 ?_
        first | refine V.areturn dD_entryAt_13 rfl (by simp) ?_ | refine V.areturnN dD_entryAt_13 rfl (by simp) ?_
        exact q0 (fun y hy z => by (rw [z] at hj; have := (nI_leI (by omega) (by omega)).mp hj; omega))
  · have loop : ∀ (l : List Nat) (k : Nat) (v : Value), lnk ad h v l → (∀ x ∈ l, EN G h (ad x) (na x) (ns x) (nm x)) → k ≤ y → y < k + l.length → (∀ x, l[y - k]? = some x → Q (some (.ref (ad x))) h) → V G mD_entryAt 21 [(3, .int (nI k)), (2, v), (0, .ref d), (1, .int (nI y))] [] h 0 0 Q := by
      intro l
      induction l with
      | nil =>
        intro k v hv hE hk hly hQ
        rw [List.length_nil] at hly
        omega
      | cons x l ih =>
        intro k v hv hE hk hly hQ
        obtain rfl : v = .ref (ad x) := hv.1
        rcases lnk_val hv.2 with e9 | ⟨b9, e9⟩
        · refine V.iload_n dD_entryAt_21 rfl ?_
          refine V.iload_n dD_entryAt_22 rfl ?_
          refine V.icmp_ge (tgt := 41) dD_entryAt_23 (by decide) (fun c_23 => ?_) (fun c_23 => ?_)
          · try simp (disch := omega) only [nI_ltI, nI_leI, nI_eq, zz_lt0, zz_ge0, zz_gt0, zz_le0, zz_eq0, zz_m1lt, zz_m1ge, zz_m1eq, bI_eq0, decide_eq_false_iff_not, decide_eq_true_eq, Decidable.not_not, not_true_eq_false, not_false_eq_true, Nat.not_lt, Nat.not_le, Bool.not_eq_false, Bool.not_eq_true] at c_23
            first | refine V.aload_n dD_entryAt_41 rfl ?_ | refine V.aload_nN dD_entryAt_41 rfl ?_
            first | refine V.areturn dD_entryAt_42 rfl (by simp) ?_ | refine V.areturnN dD_entryAt_42 rfl (by simp) ?_
            exact hQ x (by rw [show y - k = 0 by omega]; rfl)
          · try simp (disch := omega) only [nI_ltI, nI_leI, nI_eq, zz_lt0, zz_ge0, zz_gt0, zz_le0, zz_eq0, zz_m1lt, zz_m1ge, zz_m1eq, bI_eq0, decide_eq_false_iff_not, decide_eq_true_eq, Decidable.not_not, not_true_eq_false, not_false_eq_true, Nat.not_lt, Nat.not_le, Bool.not_eq_false, Bool.not_eq_true] at c_23
            first | refine V.aload_n dD_entryAt_26 rfl ?_ | refine V.aload_nN dD_entryAt_26 rfl ?_
            refine V.ifnull dD_entryAt_27 ?_
            first | refine V.aload_n dD_entryAt_30 rfl ?_ | refine V.aload_nN dD_entryAt_30 rfl ?_
            refine V.getk dD_entryAt_31 (hE x List.mem_cons_self).1 rfl (fE f_D_21_2 f_D_21_3 (hE x List.mem_cons_self).2.1) e9 ?_
            first | refine V.astore_n dD_entryAt_34 (by decide) ?_ | refine V.astore_nN dD_entryAt_34 (by decide) ?_
            refine V.iincN dD_entryAt_35 rfl (by decide) ?_
            refine V.goto (tgt := 21) dD_entryAt_38 (by decide) ?_
            exact V.re [3, 2, 0, 1] rfl (ih (k + 1) _ (by rw [← e9]; exact hv.2) (fun y hy => hE y (List.mem_cons_of_mem _ hy)) (by omega) (by rw [List.length_cons] at hly; omega) (fun z hz => hQ z (by rw [show y - k = (y - (k + 1)) + 1 by omega]; exact hz)))
        · refine V.iload_n dD_entryAt_21 rfl ?_
          refine V.iload_n dD_entryAt_22 rfl ?_
          refine V.icmp_ge (tgt := 41) dD_entryAt_23 (by decide) (fun c_23 => ?_) (fun c_23 => ?_)
          · try simp (disch := omega) only [nI_ltI, nI_leI, nI_eq, zz_lt0, zz_ge0, zz_gt0, zz_le0, zz_eq0, zz_m1lt, zz_m1ge, zz_m1eq, bI_eq0, decide_eq_false_iff_not, decide_eq_true_eq, Decidable.not_not, not_true_eq_false, not_false_eq_true, Nat.not_lt, Nat.not_le, Bool.not_eq_false, Bool.not_eq_true] at c_23
            first | refine V.aload_n dD_entryAt_41 rfl ?_ | refine V.aload_nN dD_entryAt_41 rfl ?_
            first | refine V.areturn dD_entryAt_42 rfl (by simp) ?_ | refine V.areturnN dD_entryAt_42 rfl (by simp) ?_
            exact hQ x (by rw [show y - k = 0 by omega]; rfl)
          · try simp (disch := omega) only [nI_ltI, nI_leI, nI_eq, zz_lt0, zz_ge0, zz_gt0, zz_le0, zz_eq0, zz_m1lt, zz_m1ge, zz_m1eq, bI_eq0, decide_eq_false_iff_not, decide_eq_true_eq, Decidable.not_not, not_true_eq_false, not_false_eq_true, Nat.not_lt, Nat.not_le, Bool.not_eq_false, Bool.not_eq_true] at c_23
            first | refine V.aload_n dD_entryAt_26 rfl ?_ | refine V.aload_nN dD_entryAt_26 rfl ?_
            refine V.ifnull dD_entryAt_27 ?_
            first | refine V.aload_n dD_entryAt_30 rfl ?_ | refine V.aload_nN dD_entryAt_30 rfl ?_
            refine V.getk dD_entryAt_31 (hE x List.mem_cons_self).1 rfl (fE f_D_21_2 f_D_21_3 (hE x List.mem_cons_self).2.1) e9 ?_
            first | refine V.astore_n dD_entryAt_34 (by decide) ?_ | refine V.astore_nN dD_entryAt_34 (by decide) ?_
            refine V.iincN dD_entryAt_35 rfl (by decide) ?_
            refine V.goto (tgt := 21) dD_entryAt_38 (by decide) ?_
            exact V.re [3, 2, 0, 1] rfl (ih (k + 1) _ (by rw [← e9]; exact hv.2) (fun y hy => hE y (List.mem_cons_of_mem _ hy)) (by omega) (by rw [List.length_cons] at hly; omega) (fun z hz => hQ z (by rw [show y - k = (y - (k + 1)) + 1 by omega]; exact hz)))
    rcases lnk_val hl with e9 | ⟨b9, e9⟩
    · refine V.iload_n dD_entryAt_0 rfl ?_
      refine V.if_lt (tgt := 12) dD_entryAt_1 (by decide) (fun c_1 => ?_) (fun c_1 => ?_)
      · try simp (disch := omega) only [nI_ltI, nI_leI, nI_eq, zz_lt0, zz_ge0, zz_gt0, zz_le0, zz_eq0, zz_m1lt, zz_m1ge, zz_m1eq, bI_eq0, decide_eq_false_iff_not, decide_eq_true_eq, Decidable.not_not, not_true_eq_false, not_false_eq_true, Nat.not_lt, Nat.not_le, Bool.not_eq_false, Bool.not_eq_true] at c_1
        all_goals omega
      · try simp (disch := omega) only [nI_ltI, nI_leI, nI_eq, zz_lt0, zz_ge0, zz_gt0, zz_le0, zz_eq0, zz_m1lt, zz_m1ge, zz_m1eq, bI_eq0, decide_eq_false_iff_not, decide_eq_true_eq, Decidable.not_not, not_true_eq_false, not_false_eq_true, Nat.not_lt, Nat.not_le, Bool.not_eq_false, Bool.not_eq_true] at c_1
        refine V.iload_n dD_entryAt_4 rfl ?_
        first | refine V.aload_n dD_entryAt_5 rfl ?_ | refine V.aload_nN dD_entryAt_5 rfl ?_
        refine V.getk dD_entryAt_6 hda hdk f_D_13_2 hz ?_
        refine V.icmp_lt (tgt := 14) dD_entryAt_9 (by decide) (fun c_9 => ?_) (fun c_9 => ?_)
        · try simp (disch := omega) only [nI_ltI, nI_leI, nI_eq, zz_lt0, zz_ge0, zz_gt0, zz_le0, zz_eq0, zz_m1lt, zz_m1ge, zz_m1eq, bI_eq0, decide_eq_false_iff_not, decide_eq_true_eq, Decidable.not_not, not_true_eq_false, not_false_eq_true, Nat.not_lt, Nat.not_le, Bool.not_eq_false, Bool.not_eq_true] at c_9
          first | refine V.aload_n dD_entryAt_14 rfl ?_ | refine V.aload_nN dD_entryAt_14 rfl ?_
          refine V.getk dD_entryAt_15 hda hdk f_D_7_2 e9 ?_
          first | refine V.astore_n dD_entryAt_18 (by decide) ?_ | refine V.astore_nN dD_entryAt_18 (by decide) ?_
          refine V.iconst (v := (nI 0)) dD_entryAt_19 (by decide) ?_
          refine V.istore_n dD_entryAt_20 (by decide) ?_
          exact loop l 0 _ (by rw [← e9]; exact hl) hE (by omega) (by omega) (fun x hx => q1 y x rfl hx)
        · try simp (disch := omega) only [nI_ltI, nI_leI, nI_eq, zz_lt0, zz_ge0, zz_gt0, zz_le0, zz_eq0, zz_m1lt, zz_m1ge, zz_m1eq, bI_eq0, decide_eq_false_iff_not, decide_eq_true_eq, Decidable.not_not, not_true_eq_false, not_false_eq_true, Nat.not_lt, Nat.not_le, Bool.not_eq_false, Bool.not_eq_true] at c_9
          all_goals omega
    · refine V.iload_n dD_entryAt_0 rfl ?_
      refine V.if_lt (tgt := 12) dD_entryAt_1 (by decide) (fun c_1 => ?_) (fun c_1 => ?_)
      · try simp (disch := omega) only [nI_ltI, nI_leI, nI_eq, zz_lt0, zz_ge0, zz_gt0, zz_le0, zz_eq0, zz_m1lt, zz_m1ge, zz_m1eq, bI_eq0, decide_eq_false_iff_not, decide_eq_true_eq, Decidable.not_not, not_true_eq_false, not_false_eq_true, Nat.not_lt, Nat.not_le, Bool.not_eq_false, Bool.not_eq_true] at c_1
        all_goals omega
      · try simp (disch := omega) only [nI_ltI, nI_leI, nI_eq, zz_lt0, zz_ge0, zz_gt0, zz_le0, zz_eq0, zz_m1lt, zz_m1ge, zz_m1eq, bI_eq0, decide_eq_false_iff_not, decide_eq_true_eq, Decidable.not_not, not_true_eq_false, not_false_eq_true, Nat.not_lt, Nat.not_le, Bool.not_eq_false, Bool.not_eq_true] at c_1
        refine V.iload_n dD_entryAt_4 rfl ?_
        first | refine V.aload_n dD_entryAt_5 rfl ?_ | refine V.aload_nN dD_entryAt_5 rfl ?_
        refine V.getk dD_entryAt_6 hda hdk f_D_13_2 hz ?_
        refine V.icmp_lt (tgt := 14) dD_entryAt_9 (by decide) (fun c_9 => ?_) (fun c_9 => ?_)
        · try simp (disch := omega) only [nI_ltI, nI_leI, nI_eq, zz_lt0, zz_ge0, zz_gt0, zz_le0, zz_eq0, zz_m1lt, zz_m1ge, zz_m1eq, bI_eq0, decide_eq_false_iff_not, decide_eq_true_eq, Decidable.not_not, not_true_eq_false, not_false_eq_true, Nat.not_lt, Nat.not_le, Bool.not_eq_false, Bool.not_eq_true] at c_9
          first | refine V.aload_n dD_entryAt_14 rfl ?_ | refine V.aload_nN dD_entryAt_14 rfl ?_
          refine V.getk dD_entryAt_15 hda hdk f_D_7_2 e9 ?_
          first | refine V.astore_n dD_entryAt_18 (by decide) ?_ | refine V.astore_nN dD_entryAt_18 (by decide) ?_
          refine V.iconst (v := (nI 0)) dD_entryAt_19 (by decide) ?_
          refine V.istore_n dD_entryAt_20 (by decide) ?_
          exact loop l 0 _ (by rw [← e9]; exact hl) hE (by omega) (by omega) (fun x hx => q1 y x rfl hx)
        · try simp (disch := omega) only [nI_ltI, nI_leI, nI_eq, zz_lt0, zz_ge0, zz_gt0, zz_le0, zz_eq0, zz_m1lt, zz_m1ge, zz_m1eq, bI_eq0, decide_eq_false_iff_not, decide_eq_true_eq, Decidable.not_not, not_true_eq_false, not_false_eq_true, Nat.not_lt, Nat.not_le, Bool.not_eq_false, Bool.not_eq_true] at c_9
          all_goals omega
end
