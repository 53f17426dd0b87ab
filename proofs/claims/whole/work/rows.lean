section
-- ===== PART A: goes FIRST, ahead of the names: the tables' words, and 'selects' of the private methods out of them =====
/-- a private method of a class that the tables say can be made, by its rows of tables_1 -/
def lw_okq (q : MethodName × Nat) : Prop := (q.1.cls ≠ "java/lang/invoke/MethodHandle" ∧ q.1.cls ≠ "java/lang/invoke/VarHandle") ∧ Cond.instantiable q.1.cls q.2 ∈ tables_1 ∧ Cond.privateMethod q.1 ∈ tables_1 ∧ Cond.instanceMethod q.1 ∈ tables_1
theorem lw_p0 : lw_okq (⟨"PathTree$PathText", "takes", "(JI)Z"⟩, 2) := ⟨⟨by decide +kernel, by decide +kernel⟩, List.mem_of_getElem? (i := 19) (by decide +kernel), List.mem_of_getElem? (i := 102) (by decide +kernel), List.mem_of_getElem? (i := 103) (by decide +kernel)⟩
theorem lw_p1 : lw_okq (⟨"PathTree$PathText", "append", "(JI)V"⟩, 2) := ⟨⟨by decide +kernel, by decide +kernel⟩, List.mem_of_getElem? (i := 19) (by decide +kernel), List.mem_of_getElem? (i := 112) (by decide +kernel), List.mem_of_getElem? (i := 113) (by decide +kernel)⟩
theorem lw_p2 : lw_okq (⟨"PathTree", "target", "()LPathTree$Entry;"⟩, 7) := ⟨⟨by decide +kernel, by decide +kernel⟩, List.mem_of_getElem? (i := 11) (by decide +kernel), List.mem_of_getElem? (i := 120) (by decide +kernel), List.mem_of_getElem? (i := 121) (by decide +kernel)⟩
theorem lw_p3 : lw_okq (⟨"PathTree", "entryBefore", "(I)LPathTree$Entry;"⟩, 7) := ⟨⟨by decide +kernel, by decide +kernel⟩, List.mem_of_getElem? (i := 11) (by decide +kernel), List.mem_of_getElem? (i := 124) (by decide +kernel), List.mem_of_getElem? (i := 125) (by decide +kernel)⟩
theorem lw_p4 : lw_okq (⟨"PathTree$PathText", "isSlash", "(I)Z"⟩, 2) := ⟨⟨by decide +kernel, by decide +kernel⟩, List.mem_of_getElem? (i := 19) (by decide +kernel), List.mem_of_getElem? (i := 128) (by decide +kernel), List.mem_of_getElem? (i := 129) (by decide +kernel)⟩
theorem lw_p5 : lw_okq (⟨"PathTree$PathText", "is", "(CI)Z"⟩, 2) := ⟨⟨by decide +kernel, by decide +kernel⟩, List.mem_of_getElem? (i := 19) (by decide +kernel), List.mem_of_getElem? (i := 132) (by decide +kernel), List.mem_of_getElem? (i := 133) (by decide +kernel)⟩
theorem lw_p6 : lw_okq (⟨"PathTree", "step", "(LPathTree$Entry;II)LPathTree$Entry;"⟩, 7) := ⟨⟨by decide +kernel, by decide +kernel⟩, List.mem_of_getElem? (i := 11) (by decide +kernel), List.mem_of_getElem? (i := 136) (by decide +kernel), List.mem_of_getElem? (i := 137) (by decide +kernel)⟩
theorem lw_p7 : lw_okq (⟨"PathTree$PathText", "isDot", "(II)Z"⟩, 2) := ⟨⟨by decide +kernel, by decide +kernel⟩, List.mem_of_getElem? (i := 19) (by decide +kernel), List.mem_of_getElem? (i := 140) (by decide +kernel), List.mem_of_getElem? (i := 141) (by decide +kernel)⟩
theorem lw_p8 : lw_okq (⟨"PathTree$PathText", "isDotDot", "(II)Z"⟩, 2) := ⟨⟨by decide +kernel, by decide +kernel⟩, List.mem_of_getElem? (i := 19) (by decide +kernel), List.mem_of_getElem? (i := 144) (by decide +kernel), List.mem_of_getElem? (i := 145) (by decide +kernel)⟩
theorem lw_p9 : lw_okq (⟨"PathTree$Directory", "entryCalled", "([CII)LPathTree$Entry;"⟩, 5) := ⟨⟨by decide +kernel, by decide +kernel⟩, List.mem_of_getElem? (i := 35) (by decide +kernel), List.mem_of_getElem? (i := 148) (by decide +kernel), List.mem_of_getElem? (i := 149) (by decide +kernel)⟩
theorem lw_p10 : lw_okq (⟨"PathTree$PathText", "clear", "()V"⟩, 2) := ⟨⟨by decide +kernel, by decide +kernel⟩, List.mem_of_getElem? (i := 19) (by decide +kernel), List.mem_of_getElem? (i := 158) (by decide +kernel), List.mem_of_getElem? (i := 159) (by decide +kernel)⟩
theorem lw_p11 : lw_okq (⟨"PathTree", "homeOfNew", "()LPathTree$Directory;"⟩, 7) := ⟨⟨by decide +kernel, by decide +kernel⟩, List.mem_of_getElem? (i := 11) (by decide +kernel), List.mem_of_getElem? (i := 166) (by decide +kernel), List.mem_of_getElem? (i := 167) (by decide +kernel)⟩
theorem lw_p12 : lw_okq (⟨"PathTree$PathText", "lastNameCanBe", "()Z"⟩, 2) := ⟨⟨by decide +kernel, by decide +kernel⟩, List.mem_of_getElem? (i := 19) (by decide +kernel), List.mem_of_getElem? (i := 170) (by decide +kernel), List.mem_of_getElem? (i := 171) (by decide +kernel)⟩
theorem lw_p13 : lw_okq (⟨"PathTree$PathText", "lastSlash", "()I"⟩, 2) := ⟨⟨by decide +kernel, by decide +kernel⟩, List.mem_of_getElem? (i := 19) (by decide +kernel), List.mem_of_getElem? (i := 174) (by decide +kernel), List.mem_of_getElem? (i := 175) (by decide +kernel)⟩
theorem lw_p14 : lw_okq (⟨"PathTree", "home", "()LPathTree$Directory;"⟩, 7) := ⟨⟨by decide +kernel, by decide +kernel⟩, List.mem_of_getElem? (i := 11) (by decide +kernel), List.mem_of_getElem? (i := 181) (by decide +kernel), List.mem_of_getElem? (i := 182) (by decide +kernel)⟩
theorem lw_p15 : lw_okq (⟨"PathTree$PathText", "lastName", "()[C"⟩, 2) := ⟨⟨by decide +kernel, by decide +kernel⟩, List.mem_of_getElem? (i := 19) (by decide +kernel), List.mem_of_getElem? (i := 186) (by decide +kernel), List.mem_of_getElem? (i := 187) (by decide +kernel)⟩
def lw_privs_1 : List (MethodName × Nat) := [(⟨"PathTree$PathText", "takes", "(JI)Z"⟩, 2), (⟨"PathTree$PathText", "append", "(JI)V"⟩, 2), (⟨"PathTree", "target", "()LPathTree$Entry;"⟩, 7), (⟨"PathTree", "entryBefore", "(I)LPathTree$Entry;"⟩, 7), (⟨"PathTree$PathText", "isSlash", "(I)Z"⟩, 2), (⟨"PathTree$PathText", "is", "(CI)Z"⟩, 2), (⟨"PathTree", "step", "(LPathTree$Entry;II)LPathTree$Entry;"⟩, 7), (⟨"PathTree$PathText", "isDot", "(II)Z"⟩, 2), (⟨"PathTree$PathText", "isDotDot", "(II)Z"⟩, 2), (⟨"PathTree$Directory", "entryCalled", "([CII)LPathTree$Entry;"⟩, 5), (⟨"PathTree$PathText", "clear", "()V"⟩, 2), (⟨"PathTree", "homeOfNew", "()LPathTree$Directory;"⟩, 7), (⟨"PathTree$PathText", "lastNameCanBe", "()Z"⟩, 2), (⟨"PathTree$PathText", "lastSlash", "()I"⟩, 2), (⟨"PathTree", "home", "()LPathTree$Directory;"⟩, 7), (⟨"PathTree$PathText", "lastName", "()[C"⟩, 2)]
theorem lw_r1 : ∀ q ∈ lw_privs_1, lw_okq q := List.forall_mem_cons.mpr ⟨lw_p0, List.forall_mem_cons.mpr ⟨lw_p1, List.forall_mem_cons.mpr ⟨lw_p2, List.forall_mem_cons.mpr ⟨lw_p3, List.forall_mem_cons.mpr ⟨lw_p4, List.forall_mem_cons.mpr ⟨lw_p5, List.forall_mem_cons.mpr ⟨lw_p6, List.forall_mem_cons.mpr ⟨lw_p7, List.forall_mem_cons.mpr ⟨lw_p8, List.forall_mem_cons.mpr ⟨lw_p9, List.forall_mem_cons.mpr ⟨lw_p10, List.forall_mem_cons.mpr ⟨lw_p11, List.forall_mem_cons.mpr ⟨lw_p12, List.forall_mem_cons.mpr ⟨lw_p13, List.forall_mem_cons.mpr ⟨lw_p14, List.forall_mem_cons.mpr ⟨lw_p15, fun _ h => absurd h List.not_mem_nil⟩⟩⟩⟩⟩⟩⟩⟩⟩⟩⟩⟩⟩⟩⟩⟩
theorem lw_p16 : lw_okq (⟨"PathTree$Directory", "admit", "(LPathTree$Entry;)V"⟩, 5) := ⟨⟨by decide +kernel, by decide +kernel⟩, List.mem_of_getElem? (i := 35) (by decide +kernel), List.mem_of_getElem? (i := 212) (by decide +kernel), List.mem_of_getElem? (i := 213) (by decide +kernel)⟩
theorem lw_p17 : lw_okq (⟨"PathTree$Directory", "link", "(LPathTree$Entry;LPathTree$Entry;)V"⟩, 5) := ⟨⟨by decide +kernel, by decide +kernel⟩, List.mem_of_getElem? (i := 35) (by decide +kernel), List.mem_of_getElem? (i := 216) (by decide +kernel), List.mem_of_getElem? (i := 217) (by decide +kernel)⟩
theorem lw_p18 : lw_okq (⟨"PathTree", "newFile", "(LPathTree$Directory;)LPathTree$FileEntry;"⟩, 7) := ⟨⟨by decide +kernel, by decide +kernel⟩, List.mem_of_getElem? (i := 11) (by decide +kernel), List.mem_of_getElem? (i := 229) (by decide +kernel), List.mem_of_getElem? (i := 230) (by decide +kernel)⟩
theorem lw_p19 : lw_okq (⟨"PathTree", "dropBytes", "(LPathTree$FileEntry;)V"⟩, 7) := ⟨⟨by decide +kernel, by decide +kernel⟩, List.mem_of_getElem? (i := 11) (by decide +kernel), List.mem_of_getElem? (i := 254) (by decide +kernel), List.mem_of_getElem? (i := 255) (by decide +kernel)⟩
theorem lw_p20 : lw_okq (⟨"PathTree$FileEntry", "room", "()I"⟩, 5) := ⟨⟨by decide +kernel, by decide +kernel⟩, List.mem_of_getElem? (i := 232) (by decide +kernel), List.mem_of_getElem? (i := 262) (by decide +kernel), List.mem_of_getElem? (i := 263) (by decide +kernel)⟩
theorem lw_p21 : lw_okq (⟨"PathTree$FileEntry", "append", "(I)V"⟩, 5) := ⟨⟨by decide +kernel, by decide +kernel⟩, List.mem_of_getElem? (i := 232) (by decide +kernel), List.mem_of_getElem? (i := 269) (by decide +kernel), List.mem_of_getElem? (i := 270) (by decide +kernel)⟩
theorem lw_p22 : lw_okq (⟨"PathTree$FileEntry", "at", "(I)I"⟩, 5) := ⟨⟨by decide +kernel, by decide +kernel⟩, List.mem_of_getElem? (i := 232) (by decide +kernel), List.mem_of_getElem? (i := 285) (by decide +kernel), List.mem_of_getElem? (i := 286) (by decide +kernel)⟩
theorem lw_p23 : lw_okq (⟨"PathTree", "discard", "(LPathTree$FileEntry;)V"⟩, 7) := ⟨⟨by decide +kernel, by decide +kernel⟩, List.mem_of_getElem? (i := 11) (by decide +kernel), List.mem_of_getElem? (i := 293) (by decide +kernel), List.mem_of_getElem? (i := 294) (by decide +kernel)⟩
theorem lw_p24 : lw_okq (⟨"PathTree$Directory", "release", "(LPathTree$Entry;)V"⟩, 5) := ⟨⟨by decide +kernel, by decide +kernel⟩, List.mem_of_getElem? (i := 35) (by decide +kernel), List.mem_of_getElem? (i := 300) (by decide +kernel), List.mem_of_getElem? (i := 301) (by decide +kernel)⟩
theorem lw_p25 : lw_okq (⟨"PathTree", "moveToPath", "(LPathTree$FileEntry;)Z"⟩, 7) := ⟨⟨by decide +kernel, by decide +kernel⟩, List.mem_of_getElem? (i := 11) (by decide +kernel), List.mem_of_getElem? (i := 308) (by decide +kernel), List.mem_of_getElem? (i := 309) (by decide +kernel)⟩
theorem lw_p26 : lw_okq (⟨"PathTree", "moveInto", "(LPathTree$Directory;[CLPathTree$FileEntry;)Z"⟩, 7) := ⟨⟨by decide +kernel, by decide +kernel⟩, List.mem_of_getElem? (i := 11) (by decide +kernel), List.mem_of_getElem? (i := 312) (by decide +kernel), List.mem_of_getElem? (i := 313) (by decide +kernel)⟩
theorem lw_p27 : lw_okq (⟨"PathTree$Directory", "entryAt", "(I)LPathTree$Entry;"⟩, 5) := ⟨⟨by decide +kernel, by decide +kernel⟩, List.mem_of_getElem? (i := 35) (by decide +kernel), List.mem_of_getElem? (i := 320) (by decide +kernel), List.mem_of_getElem? (i := 321) (by decide +kernel)⟩
theorem lw_p28 : lw_okq (⟨"PathTree$Directory", "depth", "()I"⟩, 5) := ⟨⟨by decide +kernel, by decide +kernel⟩, List.mem_of_getElem? (i := 35) (by decide +kernel), List.mem_of_getElem? (i := 328) (by decide +kernel), List.mem_of_getElem? (i := 329) (by decide +kernel)⟩
theorem lw_p29 : lw_okq (⟨"PathTreeModel", "lead", "(I)I"⟩, 14) := ⟨⟨by decide +kernel, by decide +kernel⟩, List.mem_of_getElem? (i := 332) (by decide +kernel), List.mem_of_getElem? (i := 392) (by decide +kernel), List.mem_of_getElem? (i := 393) (by decide +kernel)⟩
theorem lw_p30 : lw_okq (⟨"PathTreeModel", "along", "(III)I"⟩, 14) := ⟨⟨by decide +kernel, by decide +kernel⟩, List.mem_of_getElem? (i := 332) (by decide +kernel), List.mem_of_getElem? (i := 396) (by decide +kernel), List.mem_of_getElem? (i := 397) (by decide +kernel)⟩
theorem lw_p31 : lw_okq (⟨"PathTreeModel", "isDots", "(III)Z"⟩, 14) := ⟨⟨by decide +kernel, by decide +kernel⟩, List.mem_of_getElem? (i := 332) (by decide +kernel), List.mem_of_getElem? (i := 400) (by decide +kernel), List.mem_of_getElem? (i := 401) (by decide +kernel)⟩
def lw_privs_2 : List (MethodName × Nat) := [(⟨"PathTree$Directory", "admit", "(LPathTree$Entry;)V"⟩, 5), (⟨"PathTree$Directory", "link", "(LPathTree$Entry;LPathTree$Entry;)V"⟩, 5), (⟨"PathTree", "newFile", "(LPathTree$Directory;)LPathTree$FileEntry;"⟩, 7), (⟨"PathTree", "dropBytes", "(LPathTree$FileEntry;)V"⟩, 7), (⟨"PathTree$FileEntry", "room", "()I"⟩, 5), (⟨"PathTree$FileEntry", "append", "(I)V"⟩, 5), (⟨"PathTree$FileEntry", "at", "(I)I"⟩, 5), (⟨"PathTree", "discard", "(LPathTree$FileEntry;)V"⟩, 7), (⟨"PathTree$Directory", "release", "(LPathTree$Entry;)V"⟩, 5), (⟨"PathTree", "moveToPath", "(LPathTree$FileEntry;)Z"⟩, 7), (⟨"PathTree", "moveInto", "(LPathTree$Directory;[CLPathTree$FileEntry;)Z"⟩, 7), (⟨"PathTree$Directory", "entryAt", "(I)LPathTree$Entry;"⟩, 5), (⟨"PathTree$Directory", "depth", "()I"⟩, 5), (⟨"PathTreeModel", "lead", "(I)I"⟩, 14), (⟨"PathTreeModel", "along", "(III)I"⟩, 14), (⟨"PathTreeModel", "isDots", "(III)Z"⟩, 14)]
theorem lw_r2 : ∀ q ∈ lw_privs_2, lw_okq q := List.forall_mem_cons.mpr ⟨lw_p16, List.forall_mem_cons.mpr ⟨lw_p17, List.forall_mem_cons.mpr ⟨lw_p18, List.forall_mem_cons.mpr ⟨lw_p19, List.forall_mem_cons.mpr ⟨lw_p20, List.forall_mem_cons.mpr ⟨lw_p21, List.forall_mem_cons.mpr ⟨lw_p22, List.forall_mem_cons.mpr ⟨lw_p23, List.forall_mem_cons.mpr ⟨lw_p24, List.forall_mem_cons.mpr ⟨lw_p25, List.forall_mem_cons.mpr ⟨lw_p26, List.forall_mem_cons.mpr ⟨lw_p27, List.forall_mem_cons.mpr ⟨lw_p28, List.forall_mem_cons.mpr ⟨lw_p29, List.forall_mem_cons.mpr ⟨lw_p30, List.forall_mem_cons.mpr ⟨lw_p31, fun _ h => absurd h List.not_mem_nil⟩⟩⟩⟩⟩⟩⟩⟩⟩⟩⟩⟩⟩⟩⟩⟩
theorem lw_p32 : lw_okq (⟨"PathTreeModel", "entry", "(III)I"⟩, 14) := ⟨⟨by decide +kernel, by decide +kernel⟩, List.mem_of_getElem? (i := 332) (by decide +kernel), List.mem_of_getElem? (i := 404) (by decide +kernel), List.mem_of_getElem? (i := 405) (by decide +kernel)⟩
theorem lw_p33 : lw_okq (⟨"PathTreeModel", "made", "(I)I"⟩, 14) := ⟨⟨by decide +kernel, by decide +kernel⟩, List.mem_of_getElem? (i := 332) (by decide +kernel), List.mem_of_getElem? (i := 412) (by decide +kernel), List.mem_of_getElem? (i := 413) (by decide +kernel)⟩
theorem lw_p34 : lw_okq (⟨"PathTreeModel", "home", "()I"⟩, 14) := ⟨⟨by decide +kernel, by decide +kernel⟩, List.mem_of_getElem? (i := 332) (by decide +kernel), List.mem_of_getElem? (i := 416) (by decide +kernel), List.mem_of_getElem? (i := 417) (by decide +kernel)⟩
theorem lw_p35 : lw_okq (⟨"PathTreeModel", "last", "()I"⟩, 14) := ⟨⟨by decide +kernel, by decide +kernel⟩, List.mem_of_getElem? (i := 332) (by decide +kernel), List.mem_of_getElem? (i := 420) (by decide +kernel), List.mem_of_getElem? (i := 421) (by decide +kernel)⟩
theorem lw_p36 : lw_okq (⟨"PathTreeModel", "isName", "()Z"⟩, 14) := ⟨⟨by decide +kernel, by decide +kernel⟩, List.mem_of_getElem? (i := 332) (by decide +kernel), List.mem_of_getElem? (i := 424) (by decide +kernel), List.mem_of_getElem? (i := 425) (by decide +kernel)⟩
theorem lw_p37 : lw_okq (⟨"PathTreeModel", "put", "(II)V"⟩, 14) := ⟨⟨by decide +kernel, by decide +kernel⟩, List.mem_of_getElem? (i := 332) (by decide +kernel), List.mem_of_getElem? (i := 428) (by decide +kernel), List.mem_of_getElem? (i := 429) (by decide +kernel)⟩
theorem lw_p38 : lw_okq (⟨"PathTreeModel", "lose", "(I)I"⟩, 14) := ⟨⟨by decide +kernel, by decide +kernel⟩, List.mem_of_getElem? (i := 332) (by decide +kernel), List.mem_of_getElem? (i := 444) (by decide +kernel), List.mem_of_getElem? (i := 445) (by decide +kernel)⟩
theorem lw_p39 : lw_okq (⟨"PathTreeModel", "removeFile", "(I)V"⟩, 14) := ⟨⟨by decide +kernel, by decide +kernel⟩, List.mem_of_getElem? (i := 332) (by decide +kernel), List.mem_of_getElem? (i := 460) (by decide +kernel), List.mem_of_getElem? (i := 461) (by decide +kernel)⟩
theorem lw_p40 : lw_okq (⟨"PathTreeModel", "moved", "()Z"⟩, 14) := ⟨⟨by decide +kernel, by decide +kernel⟩, List.mem_of_getElem? (i := 332) (by decide +kernel), List.mem_of_getElem? (i := 468) (by decide +kernel), List.mem_of_getElem? (i := 469) (by decide +kernel)⟩
theorem lw_p41 : lw_okq (⟨"PathTreeModel", "namesake", "(II)I"⟩, 14) := ⟨⟨by decide +kernel, by decide +kernel⟩, List.mem_of_getElem? (i := 332) (by decide +kernel), List.mem_of_getElem? (i := 472) (by decide +kernel), List.mem_of_getElem? (i := 473) (by decide +kernel)⟩
theorem lw_p42 : lw_okq (⟨"PathTreeModel", "inOrder", "(I)I"⟩, 14) := ⟨⟨by decide +kernel, by decide +kernel⟩, List.mem_of_getElem? (i := 332) (by decide +kernel), List.mem_of_getElem? (i := 480) (by decide +kernel), List.mem_of_getElem? (i := 481) (by decide +kernel)⟩
theorem lw_p43 : lw_okq (⟨"PathTreeModel", "isBefore", "(II)Z"⟩, 14) := ⟨⟨by decide +kernel, by decide +kernel⟩, List.mem_of_getElem? (i := 332) (by decide +kernel), List.mem_of_getElem? (i := 484) (by decide +kernel), List.mem_of_getElem? (i := 485) (by decide +kernel)⟩
theorem lw_p44 : lw_okq (⟨"PathTreeModel", "many", "(I)I"⟩, 14) := ⟨⟨by decide +kernel, by decide +kernel⟩, List.mem_of_getElem? (i := 332) (by decide +kernel), List.mem_of_getElem? (i := 492) (by decide +kernel), List.mem_of_getElem? (i := 493) (by decide +kernel)⟩
theorem lw_p45 : lw_okq (⟨"PathTreeModel", "atHand", "()I"⟩, 14) := ⟨⟨by decide +kernel, by decide +kernel⟩, List.mem_of_getElem? (i := 332) (by decide +kernel), List.mem_of_getElem? (i := 496) (by decide +kernel), List.mem_of_getElem? (i := 497) (by decide +kernel)⟩
theorem lw_p46 : lw_okq (⟨"PathTreeModel", "above", "()I"⟩, 14) := ⟨⟨by decide +kernel, by decide +kernel⟩, List.mem_of_getElem? (i := 332) (by decide +kernel), List.mem_of_getElem? (i := 500) (by decide +kernel), List.mem_of_getElem? (i := 501) (by decide +kernel)⟩
def lw_privs_3 : List (MethodName × Nat) := [(⟨"PathTreeModel", "entry", "(III)I"⟩, 14), (⟨"PathTreeModel", "made", "(I)I"⟩, 14), (⟨"PathTreeModel", "home", "()I"⟩, 14), (⟨"PathTreeModel", "last", "()I"⟩, 14), (⟨"PathTreeModel", "isName", "()Z"⟩, 14), (⟨"PathTreeModel", "put", "(II)V"⟩, 14), (⟨"PathTreeModel", "lose", "(I)I"⟩, 14), (⟨"PathTreeModel", "removeFile", "(I)V"⟩, 14), (⟨"PathTreeModel", "moved", "()Z"⟩, 14), (⟨"PathTreeModel", "namesake", "(II)I"⟩, 14), (⟨"PathTreeModel", "inOrder", "(I)I"⟩, 14), (⟨"PathTreeModel", "isBefore", "(II)Z"⟩, 14), (⟨"PathTreeModel", "many", "(I)I"⟩, 14), (⟨"PathTreeModel", "atHand", "()I"⟩, 14), (⟨"PathTreeModel", "above", "()I"⟩, 14)]
theorem lw_r3 : ∀ q ∈ lw_privs_3, lw_okq q := List.forall_mem_cons.mpr ⟨lw_p32, List.forall_mem_cons.mpr ⟨lw_p33, List.forall_mem_cons.mpr ⟨lw_p34, List.forall_mem_cons.mpr ⟨lw_p35, List.forall_mem_cons.mpr ⟨lw_p36, List.forall_mem_cons.mpr ⟨lw_p37, List.forall_mem_cons.mpr ⟨lw_p38, List.forall_mem_cons.mpr ⟨lw_p39, List.forall_mem_cons.mpr ⟨lw_p40, List.forall_mem_cons.mpr ⟨lw_p41, List.forall_mem_cons.mpr ⟨lw_p42, List.forall_mem_cons.mpr ⟨lw_p43, List.forall_mem_cons.mpr ⟨lw_p44, List.forall_mem_cons.mpr ⟨lw_p45, List.forall_mem_cons.mpr ⟨lw_p46, fun _ h => absurd h List.not_mem_nil⟩⟩⟩⟩⟩⟩⟩⟩⟩⟩⟩⟩⟩⟩⟩
def lw_privs : List (MethodName × Nat) := lw_privs_1 ++ (lw_privs_2 ++ (lw_privs_3))
def lw_tbl : List Cond := k2_sels lw_privs ++ tables_1
theorem lw_privs_ok : ∀ q ∈ lw_privs, lw_okq q := by
  show ∀ q ∈ lw_privs_1 ++ (lw_privs_2 ++ (lw_privs_3)), lw_okq q
  exact List.forall_mem_append.mpr ⟨lw_r1, List.forall_mem_append.mpr ⟨lw_r2, lw_r3⟩⟩
end
section
/-! names, tables and facts, written by gen_names.py -/
def R_law0 : String := "PathTreeLaw"
abbrev tb : List Cond := lw_tbl.filter goodWord
theorem t_in (n : Nat) {w : Cond} (h : lw_tbl[n]? = some w) (g : goodWord w = true) : w ∈ tb := List.mem_filter.mpr ⟨List.mem_of_getElem? h, g⟩
def xF_P : u_T := fun k => match k with
  | 0 => ("PathTree", "text", "LPathTree$PathText;", true)
  | 1 => ("PathTree", "root", "LPathTree$Directory;", true)
  | 2 => ("PathTree", "atHand", "LPathTree$Directory;", false)
  | 3 => ("PathTree", "opened", "LPathTree$FileEntry;", false)
  | 4 => ("PathTree", "files", "I", false)
  | 5 => ("PathTree", "directories", "I", false)
  | _ => ("PathTree", "bytesOfAll", "I", false)
def xT_P : Nat → FieldType := fun k => match k with
  | 0 => .object "PathTree$PathText"
  | 1 => .object "PathTree$Directory"
  | 2 => .object "PathTree$Directory"
  | 3 => .object "PathTree$FileEntry"
  | 4 => .int
  | 5 => .int
  | _ => .int
def xZ_P : Nat → Value := fun k => match k with
  | 0 => .null
  | 1 => .null
  | 2 => .null
  | 3 => .null
  | 4 => .int 0
  | 5 => .int 0
  | _ => .int 0
def xF_T : u_T := fun k => match k with
  | 0 => ("PathTree$PathText", "characters", "[C", true)
  | _ => ("PathTree$PathText", "length", "I", false)
def xT_T : Nat → FieldType := fun k => match k with
  | 0 => .array .char
  | _ => .int
def xZ_T : Nat → Value := fun k => match k with
  | 0 => .null
  | _ => .int 0
def xF_D : u_T := fun k => match k with
  | 0 => ("PathTree$Entry", "name", "[C", false)
  | 1 => ("PathTree$Entry", "home", "LPathTree$Directory;", false)
  | 2 => ("PathTree$Entry", "next", "LPathTree$Entry;", false)
  | 3 => ("PathTree$Directory", "first", "LPathTree$Entry;", false)
  | _ => ("PathTree$Directory", "size", "I", false)
def xT_D : Nat → FieldType := fun k => match k with
  | 0 => .array .char
  | 1 => .object "PathTree$Directory"
  | 2 => .object "PathTree$Entry"
  | 3 => .object "PathTree$Entry"
  | _ => .int
def xZ_D : Nat → Value := fun k => match k with
  | 0 => .null
  | 1 => .null
  | 2 => .null
  | 3 => .null
  | _ => .int 0
def xF_F : u_T := fun k => match k with
  | 0 => ("PathTree$Entry", "name", "[C", false)
  | 1 => ("PathTree$Entry", "home", "LPathTree$Directory;", false)
  | 2 => ("PathTree$Entry", "next", "LPathTree$Entry;", false)
  | 3 => ("PathTree$FileEntry", "bytes", "[B", false)
  | _ => ("PathTree$FileEntry", "length", "I", false)
def xT_F : Nat → FieldType := fun k => match k with
  | 0 => .array .char
  | 1 => .object "PathTree$Directory"
  | 2 => .object "PathTree$Entry"
  | 3 => .array .byte
  | _ => .int
def xZ_F : Nat → Value := fun k => match k with
  | 0 => .null
  | 1 => .null
  | 2 => .null
  | 3 => .null
  | _ => .int 0
def xF_R : u_T := fun k => match k with
  | 0 => ("PathTreeModel", "path", "[I", true)
  | 1 => ("PathTreeModel", "length", "I", false)
  | 2 => ("PathTreeModel", "kind", "[I", true)
  | 3 => ("PathTreeModel", "in", "[I", true)
  | 4 => ("PathTreeModel", "size", "[I", true)
  | 5 => ("PathTreeModel", "nameSize", "[I", true)
  | 6 => ("PathTreeModel", "names", "[I", true)
  | 7 => ("PathTreeModel", "entries", "I", false)
  | 8 => ("PathTreeModel", "hand", "I", false)
  | 9 => ("PathTreeModel", "open", "I", false)
  | 10 => ("PathTreeModel", "gone", "Z", false)
  | 11 => ("PathTreeModel", "bytes", "I", false)
  | 12 => ("PathTreeModel", "what", "[B", true)
  | _ => ("PathTreeModel", "whose", "[S", true)
def xT_R : Nat → FieldType := fun k => match k with
  | 0 => .array .int
  | 1 => .int
  | 2 => .array .int
  | 3 => .array .int
  | 4 => .array .int
  | 5 => .array .int
  | 6 => .array .int
  | 7 => .int
  | 8 => .int
  | 9 => .int
  | 10 => .boolean
  | 11 => .int
  | 12 => .array .byte
  | _ => .array .short
def xZ_R : Nat → Value := fun k => match k with
  | 0 => .null
  | 1 => .int 0
  | 2 => .null
  | 3 => .null
  | 4 => .null
  | 5 => .null
  | 6 => .null
  | 7 => .int 0
  | 8 => .int 0
  | 9 => .int 0
  | 10 => .int 0
  | 11 => .int 0
  | 12 => .null
  | _ => .null
abbrev vwCl : List vw_C := [("PathTree", xF_P, 7), ("PathTree$PathText", xF_T, 2), ("PathTree$Directory", xF_D, 5), ("PathTree$FileEntry", xF_F, 5), ("PathTreeModel", xF_R, 14)]
def k_ty (k : Nat) : Option FieldType := if k = 101 then some .char else if k = 102 then some .byte else if k = 103 then some .short else if k = 104 then some .int else none
theorem k_dis (k : Nat) (q : vw_C) (h : vwCl[k]? = some q) : k_ty k = none := by
  have hk : k < 5 := (List.getElem?_eq_some_iff.mp h).1
  unfold k_ty
  rw [if_neg (by omega), if_neg (by omega), if_neg (by omega), if_neg (by omega)]
abbrev n_F : List (String × Nat × String × String × String × String) := [("PathTree", 156, "PathTree$PathText", "characters", "[C", "PathTree"), ("PathTree", 54, "PathTree$PathText", "length", "I", "PathTree"), ("PathTree", 129, "PathTree$Directory", "size", "I", "PathTree"), ("PathTree", 82, "PathTree$FileEntry", "length", "I", "PathTree")]
abbrev n_M : List (String × Nat × MethodName × String) := [("PathTree", 9, ⟨"PathTree$PathText", "<init>", "()V"⟩, "PathTree"), ("PathTree", 18, ⟨"PathTree$Directory", "<init>", "([C)V"⟩, "PathTree"), ("PathTree", 46, ⟨"PathTree$PathText", "takes", "(JI)Z"⟩, "PathTree"), ("PathTree$PathText", 17, ⟨"PathTree", "byteOf", "(JI)I"⟩, "PathTree"), ("PathTree", 50, ⟨"PathTree$PathText", "append", "(JI)V"⟩, "PathTree"), ("PathTree", 138, ⟨"PathTree$PathText", "isSlash", "(I)Z"⟩, "PathTree"), ("PathTree", 148, ⟨"PathTree$PathText", "isDot", "(II)Z"⟩, "PathTree"), ("PathTree", 152, ⟨"PathTree$PathText", "isDotDot", "(II)Z"⟩, "PathTree"), ("PathTree", 159, ⟨"PathTree$Directory", "entryCalled", "([CII)LPathTree$Entry;"⟩, "PathTree"), ("PathTree", 61, ⟨"PathTree$PathText", "clear", "()V"⟩, "PathTree"), ("PathTree", 163, ⟨"PathTree$PathText", "lastNameCanBe", "()Z"⟩, "PathTree"), ("PathTree", 141, ⟨"PathTree$PathText", "lastSlash", "()I"⟩, "PathTree"), ("PathTree", 68, ⟨"PathTree$PathText", "lastName", "()[C"⟩, "PathTree"), ("PathTree", 72, ⟨"PathTree$Directory", "admit", "(LPathTree$Entry;)V"⟩, "PathTree"), ("PathTree", 169, ⟨"PathTree$FileEntry", "<init>", "([C)V"⟩, "PathTree"), ("PathTree", 90, ⟨"PathTree$FileEntry", "room", "()I"⟩, "PathTree"), ("PathTree", 105, ⟨"PathTree$FileEntry", "append", "(I)V"⟩, "PathTree"), ("PathTree", 108, ⟨"PathTree$FileEntry", "at", "(I)I"⟩, "PathTree"), ("PathTree", 174, ⟨"PathTree$Directory", "release", "(LPathTree$Entry;)V"⟩, "PathTree"), ("PathTree", 119, ⟨"PathTree$Directory", "entryAt", "(I)LPathTree$Entry;"⟩, "PathTree"), ("PathTree", 132, ⟨"PathTree$Directory", "depth", "()I"⟩, "PathTree")]
abbrev n_C : List (String × String) := [("PathTree$Directory", "PathTree$Directory"), ("PathTree$FileEntry", "PathTree$FileEntry")]
abbrev n_N : List (String × String) := [("PathTree", "PathTree$Directory"), ("PathTree$PathText", "PathTree$Directory"), ("PathTreeModel", "PathTree$Directory"), ("PathTree$FileEntry", "PathTree$Directory"), ("PathTree", "PathTree$FileEntry"), ("PathTree$PathText", "PathTree$FileEntry"), ("PathTree$Directory", "PathTree$FileEntry"), ("PathTreeModel", "PathTree$FileEntry")]
/-- a method: name, code, locals, answer, frames, words -/
abbrev MM : Type := MethodName × ByteArray × Nat × Option FieldType × Nat × Nat
abbrev m_Y (i : MM) : MethodName := i.1
abbrev m_C (i : MM) : ByteArray := i.2.1
abbrev m_L (i : MM) : Nat := i.2.2.1
abbrev m_R (i : MM) : Option FieldType := i.2.2.2.1
abbrev m_D (i : MM) : Nat := i.2.2.2.2.1
abbrev m_W (i : MM) : Nat := i.2.2.2.2.2
def mL_law : MM := (⟨"PathTreeLaw", "law", "([I)Z"⟩, code, 4, ret, 7, 177)
def mP_init : MM := (⟨"PathTree", "<init>", "()V"⟩, prog_1_method_1_code, 1, (Option.none : Option FieldType), 3, 87)
def mT_init : MM := (⟨"PathTree$PathText", "<init>", "()V"⟩, prog_5_method_1_code, 1, (Option.none : Option FieldType), 1, 45)
def mD_init : MM := (⟨"PathTree$Directory", "<init>", "([C)V"⟩, prog_2_method_1_code, 2, (Option.none : Option FieldType), 2, 66)
def mE_init : MM := (⟨"PathTree$Entry", "<init>", "([C)V"⟩, prog_3_method_1_code, 2, (Option.none : Option FieldType), 1, 45)
def mP_path : MM := (⟨"PathTree", "path", "(JI)I"⟩, prog_1_method_2_code, 4, (Option.some FieldType.int), 2, 46)
def mP_isByteCount : MM := (⟨"PathTree", "isByteCount", "(I)Z"⟩, prog_1_method_14_code, 1, (Option.some FieldType.boolean), 0, 0)
def mT_takes : MM := (⟨"PathTree$PathText", "takes", "(JI)Z"⟩, prog_5_method_2_code, 5, (Option.some FieldType.boolean), 1, 22)
def mP_byteOf : MM := (⟨"PathTree", "byteOf", "(JI)I"⟩, prog_1_method_15_code, 3, (Option.some FieldType.int), 0, 0)
def mT_isPathCharacter : MM := (⟨"PathTree$PathText", "isPathCharacter", "(I)Z"⟩, prog_5_method_3_code, 1, (Option.some FieldType.boolean), 0, 0)
def mT_append : MM := (⟨"PathTree$PathText", "append", "(JI)V"⟩, prog_5_method_4_code, 5, (Option.none : Option FieldType), 1, 22)
def mP_find : MM := (⟨"PathTree", "find", "()I"⟩, prog_1_method_3_code, 2, (Option.some FieldType.int), 5, 118)
def mP_target : MM := (⟨"PathTree", "target", "()LPathTree$Entry;"⟩, prog_1_method_16_code, 2, (Option.some (FieldType.object "PathTree$Entry")), 4, 97)
def mP_entryBefore : MM := (⟨"PathTree", "entryBefore", "(I)LPathTree$Entry;"⟩, prog_1_method_18_code, 5, (Option.some (FieldType.object "PathTree$Entry")), 3, 73)
def mT_isSlash : MM := (⟨"PathTree$PathText", "isSlash", "(I)Z"⟩, prog_5_method_7_code, 2, (Option.some FieldType.boolean), 1, 22)
def mT_is : MM := (⟨"PathTree$PathText", "is", "(CI)Z"⟩, prog_5_method_6_code, 3, (Option.some FieldType.boolean), 0, 0)
def mP_step : MM := (⟨"PathTree", "step", "(LPathTree$Entry;II)LPathTree$Entry;"⟩, prog_1_method_19_code, 5, (Option.some (FieldType.object "PathTree$Entry")), 2, 49)
def mT_isDot : MM := (⟨"PathTree$PathText", "isDot", "(II)Z"⟩, prog_5_method_8_code, 3, (Option.some FieldType.boolean), 1, 22)
def mT_isDotDot : MM := (⟨"PathTree$PathText", "isDotDot", "(II)Z"⟩, prog_5_method_9_code, 3, (Option.some FieldType.boolean), 1, 22)
def mD_entryCalled : MM := (⟨"PathTree$Directory", "entryCalled", "([CII)LPathTree$Entry;"⟩, prog_2_method_2_code, 5, (Option.some (FieldType.object "PathTree$Entry")), 1, 25)
def mE_order : MM := (⟨"PathTree$Entry", "order", "([CII)I"⟩, prog_3_method_2_code, 6, (Option.some FieldType.int), 0, 0)
def mT_clear : MM := (⟨"PathTree$PathText", "clear", "()V"⟩, prog_5_method_5_code, 1, (Option.none : Option FieldType), 0, 0)
def mP_make : MM := (⟨"PathTree", "make", "()Z"⟩, prog_1_method_4_code, 2, (Option.some FieldType.boolean), 6, 141)
def mP_homeOfNew : MM := (⟨"PathTree", "homeOfNew", "()LPathTree$Directory;"⟩, prog_1_method_20_code, 2, (Option.some (FieldType.object "PathTree$Directory")), 5, 120)
def mT_lastNameCanBe : MM := (⟨"PathTree$PathText", "lastNameCanBe", "()Z"⟩, prog_5_method_11_code, 3, (Option.some FieldType.boolean), 3, 64)
def mT_lastSlash : MM := (⟨"PathTree$PathText", "lastSlash", "()I"⟩, prog_5_method_10_code, 2, (Option.some FieldType.int), 2, 43)
def mP_home : MM := (⟨"PathTree", "home", "()LPathTree$Directory;"⟩, prog_1_method_17_code, 4, (Option.some (FieldType.object "PathTree$Directory")), 4, 97)
def mT_lastName : MM := (⟨"PathTree$PathText", "lastName", "()[C"⟩, prog_5_method_12_code, 1, (Option.some (FieldType.array FieldType.char)), 4, 112)
def mJ_copyOfRange : MM := (⟨"java/util/Arrays", "copyOfRange", "([CII)[C"⟩, prog_11_method_140_code, 3, (Option.some (FieldType.array FieldType.char)), 3, 90)
def mJ_copyOfRangeChar : MM := (⟨"java/util/Arrays", "copyOfRangeChar", "([CII)[C"⟩, prog_11_method_141_code, 5, (Option.some (FieldType.array FieldType.char)), 2, 66)
def mJ_checkLength : MM := (⟨"java/util/Arrays", "checkLength", "(II)V"⟩, prog_11_method_131_code, 2, (Option.none : Option FieldType), 1, 45)
def mD_admit : MM := (⟨"PathTree$Directory", "admit", "(LPathTree$Entry;)V"⟩, prog_2_method_5_code, 4, (Option.none : Option FieldType), 1, 25)
def mD_link : MM := (⟨"PathTree$Directory", "link", "(LPathTree$Entry;LPathTree$Entry;)V"⟩, prog_2_method_7_code, 3, (Option.none : Option FieldType), 0, 0)
def mP_go : MM := (⟨"PathTree", "go", "()Z"⟩, prog_1_method_5_code, 3, (Option.some FieldType.boolean), 5, 118)
def mP_open : MM := (⟨"PathTree", "open", "()Z"⟩, prog_1_method_6_code, 4, (Option.some FieldType.boolean), 6, 154)
def mP_newFile : MM := (⟨"PathTree", "newFile", "(LPathTree$Directory;)LPathTree$FileEntry;"⟩, prog_1_method_21_code, 3, (Option.some (FieldType.object "PathTree$FileEntry")), 5, 132)
def mF_init : MM := (⟨"PathTree$FileEntry", "<init>", "([C)V"⟩, prog_4_method_1_code, 2, (Option.none : Option FieldType), 2, 66)
def mP_empty : MM := (⟨"PathTree", "empty", "()I"⟩, prog_1_method_7_code, 2, (Option.some FieldType.int), 1, 21)
def mP_dropBytes : MM := (⟨"PathTree", "dropBytes", "(LPathTree$FileEntry;)V"⟩, prog_1_method_22_code, 2, (Option.none : Option FieldType), 0, 0)
def mP_write : MM := (⟨"PathTree", "write", "(JI)I"⟩, prog_1_method_8_code, 6, (Option.some FieldType.int), 3, 88)
def mF_room : MM := (⟨"PathTree$FileEntry", "room", "()I"⟩, prog_4_method_2_code, 1, (Option.some FieldType.int), 0, 0)
def mF_append : MM := (⟨"PathTree$FileEntry", "append", "(I)V"⟩, prog_4_method_3_code, 2, (Option.none : Option FieldType), 2, 67)
def mJ_copyOf : MM := (⟨"java/util/Arrays", "copyOf", "([BI)[B"⟩, prog_11_method_121_code, 3, (Option.some (FieldType.array FieldType.byte)), 1, 45)
def mP_byteAt : MM := (⟨"PathTree", "byteAt", "(I)I"⟩, prog_1_method_9_code, 2, (Option.some FieldType.int), 1, 21)
def mF_at : MM := (⟨"PathTree$FileEntry", "at", "(I)I"⟩, prog_4_method_4_code, 2, (Option.some FieldType.int), 0, 0)
def mP_remove : MM := (⟨"PathTree", "remove", "()Z"⟩, prog_1_method_10_code, 3, (Option.some FieldType.boolean), 5, 118)
def mP_discard : MM := (⟨"PathTree", "discard", "(LPathTree$FileEntry;)V"⟩, prog_1_method_23_code, 2, (Option.none : Option FieldType), 3, 65)
def mP_detach : MM := (⟨"PathTree", "detach", "(LPathTree$Entry;)V"⟩, prog_1_method_24_code, 1, (Option.none : Option FieldType), 2, 45)
def mD_release : MM := (⟨"PathTree$Directory", "release", "(LPathTree$Entry;)V"⟩, prog_2_method_6_code, 4, (Option.none : Option FieldType), 1, 22)
def mP_move : MM := (⟨"PathTree", "move", "()Z"⟩, prog_1_method_11_code, 2, (Option.some FieldType.boolean), 6, 155)
def mP_moveToPath : MM := (⟨"PathTree", "moveToPath", "(LPathTree$FileEntry;)Z"⟩, prog_1_method_25_code, 4, (Option.some FieldType.boolean), 5, 132)
def mP_moveInto : MM := (⟨"PathTree", "moveInto", "(LPathTree$Directory;[CLPathTree$FileEntry;)Z"⟩, prog_1_method_26_code, 6, (Option.some FieldType.boolean), 4, 86)
def mP_name : MM := (⟨"PathTree", "name", "(II)I"⟩, prog_1_method_12_code, 4, (Option.some FieldType.int), 1, 23)
def mD_entryAt : MM := (⟨"PathTree$Directory", "entryAt", "(I)LPathTree$Entry;"⟩, prog_2_method_3_code, 4, (Option.some (FieldType.object "PathTree$Entry")), 0, 0)
def mP_count : MM := (⟨"PathTree", "count", "(I)I"⟩, prog_1_method_13_code, 2, (Option.some FieldType.int), 1, 22)
def mD_depth : MM := (⟨"PathTree$Directory", "depth", "()I"⟩, prog_2_method_4_code, 3, (Option.some FieldType.int), 0, 0)
def mR_init : MM := (⟨"PathTreeModel", "<init>", "()V"⟩, prog_7_method_1_code, 1, (Option.none : Option FieldType), 1, 45)
def mR_path : MM := (⟨"PathTreeModel", "path", "(JI)I"⟩, prog_7_method_3_code, 6, (Option.some FieldType.int), 0, 0)
def mR_find : MM := (⟨"PathTreeModel", "find", "()I"⟩, prog_7_method_13_code, 2, (Option.some FieldType.int), 3, 73)
def mR_lead : MM := (⟨"PathTreeModel", "lead", "(I)I"⟩, prog_7_method_7_code, 5, (Option.some FieldType.int), 2, 49)
def mR_along : MM := (⟨"PathTreeModel", "along", "(III)I"⟩, prog_7_method_6_code, 4, (Option.some FieldType.int), 1, 26)
def mR_isDots : MM := (⟨"PathTreeModel", "isDots", "(III)Z"⟩, prog_7_method_5_code, 6, (Option.some FieldType.boolean), 0, 0)
def mR_entry : MM := (⟨"PathTreeModel", "entry", "(III)I"⟩, prog_7_method_4_code, 7, (Option.some FieldType.int), 0, 0)
def mR_make : MM := (⟨"PathTreeModel", "make", "()Z"⟩, prog_7_method_14_code, 2, (Option.some FieldType.boolean), 5, 118)
def mR_made : MM := (⟨"PathTreeModel", "made", "(I)I"⟩, prog_7_method_11_code, 4, (Option.some FieldType.int), 4, 95)
def mR_home : MM := (⟨"PathTreeModel", "home", "()I"⟩, prog_7_method_9_code, 3, (Option.some FieldType.int), 3, 73)
def mR_last : MM := (⟨"PathTreeModel", "last", "()I"⟩, prog_7_method_8_code, 2, (Option.some FieldType.int), 0, 0)
def mR_isName : MM := (⟨"PathTreeModel", "isName", "()Z"⟩, prog_7_method_10_code, 2, (Option.some FieldType.boolean), 1, 25)
def mR_put : MM := (⟨"PathTreeModel", "put", "(II)V"⟩, prog_7_method_12_code, 4, (Option.none : Option FieldType), 1, 21)
def mR_go : MM := (⟨"PathTreeModel", "go", "()Z"⟩, prog_7_method_15_code, 2, (Option.some FieldType.boolean), 3, 73)
def mR_open : MM := (⟨"PathTreeModel", "open", "()Z"⟩, prog_7_method_16_code, 2, (Option.some FieldType.boolean), 5, 118)
def mR_empty : MM := (⟨"PathTreeModel", "empty", "()I"⟩, prog_7_method_18_code, 1, (Option.some FieldType.int), 1, 24)
def mR_lose : MM := (⟨"PathTreeModel", "lose", "(I)I"⟩, prog_7_method_17_code, 5, (Option.some FieldType.int), 0, 0)
def mR_write : MM := (⟨"PathTreeModel", "write", "(JI)I"⟩, prog_7_method_19_code, 5, (Option.some FieldType.int), 0, 0)
def mR_byteAt : MM := (⟨"PathTreeModel", "byteAt", "(I)I"⟩, prog_7_method_20_code, 4, (Option.some FieldType.int), 0, 0)
def mR_remove : MM := (⟨"PathTreeModel", "remove", "()Z"⟩, prog_7_method_22_code, 2, (Option.some FieldType.boolean), 3, 73)
def mR_removeFile : MM := (⟨"PathTreeModel", "removeFile", "(I)V"⟩, prog_7_method_21_code, 3, (Option.none : Option FieldType), 1, 24)
def mR_move : MM := (⟨"PathTreeModel", "move", "()Z"⟩, prog_7_method_25_code, 2, (Option.some FieldType.boolean), 5, 119)
def mR_moved : MM := (⟨"PathTreeModel", "moved", "()Z"⟩, prog_7_method_24_code, 5, (Option.some FieldType.boolean), 4, 95)
def mR_namesake : MM := (⟨"PathTreeModel", "namesake", "(II)I"⟩, prog_7_method_23_code, 6, (Option.some FieldType.int), 0, 0)
def mR_name : MM := (⟨"PathTreeModel", "name", "(II)I"⟩, prog_7_method_28_code, 4, (Option.some FieldType.int), 2, 48)
def mR_inOrder : MM := (⟨"PathTreeModel", "inOrder", "(I)I"⟩, prog_7_method_27_code, 5, (Option.some FieldType.int), 1, 24)
def mR_isBefore : MM := (⟨"PathTreeModel", "isBefore", "(II)Z"⟩, prog_7_method_26_code, 5, (Option.some FieldType.boolean), 0, 0)
def mR_count : MM := (⟨"PathTreeModel", "count", "(I)I"⟩, prog_7_method_32_code, 2, (Option.some FieldType.int), 1, 23)
def mR_many : MM := (⟨"PathTreeModel", "many", "(I)I"⟩, prog_7_method_29_code, 4, (Option.some FieldType.int), 0, 0)
def mR_atHand : MM := (⟨"PathTreeModel", "atHand", "()I"⟩, prog_7_method_30_code, 3, (Option.some FieldType.int), 0, 0)
def mR_above : MM := (⟨"PathTreeModel", "above", "()I"⟩, prog_7_method_31_code, 3, (Option.some FieldType.int), 0, 0)
end
section
/-! THE MACHINE IN SHORT: heaps as functions, and one judgement V over them. V G i pc lv st h c s Q: method i, at pc, with the locals lv, the operand stack st and the heap h, comes to a return of r with a heap h' with Q r h'; it makes at most c cells of s slots. -/
/-- a heap: of an address its kind and length; what it holds; the next free address -/
abbrev HH : Type := (Nat → Nat × Nat) × (Nat → Nat → Value) × Nat
def h_put (h : HH) (a k : Nat) (v : Value) : HH := (h.1, fun b j => if b = a ∧ j = k then v else h.2.1 b j, h.2.2)
def h_new (h : HH) (kd n : Nat) (f : Nat → Value) : HH := (fun b => if b = h.2.2 then (kd, n) else h.1 b, fun b j => if b = h.2.2 then f j else h.2.1 b j, h.2.2 + 1)
def h_cpy (h : HH) (a sp d dp n : Nat) : HH := (h.1, fun b j => if b = d ∧ dp ≤ j ∧ j < dp + n then h.2.1 a (sp + (j - dp)) else h.2.1 b j, h.2.2)
/-- what is fixed for a run of the law: launch; class ids, slots, array class ids; the heap at its start; the script -/
abbrev GG : Type := Launch × (Nat → ClassId) × (Nat → Nat → Nat) × (Nat → ClassId) × Heap × Nat × Nat × (Nat → Int32)
abbrev g_l (G : GG) : Launch := G.1
abbrev g_dC (G : GG) : Nat → ClassId := G.2.1
abbrev g_dI (G : GG) : Nat → Nat → Nat := G.2.2.1
abbrev g_dA (G : GG) : Nat → ClassId := G.2.2.2.1
abbrev g_H (G : GG) : Heap := G.2.2.2.2.1
abbrev g_b (G : GG) : Nat := G.2.2.2.2.2.1
abbrev g_L (G : GG) : Nat := G.2.2.2.2.2.2.1
abbrev g_xs (G : GG) : Nat → Int32 := G.2.2.2.2.2.2.2
/-- the first address of the run's own -/
abbrev g_0 (G : GG) : Nat := (g_H G).size
/-- a cell as the heap has it -/
def c_ok (G : GG) (h : HH) (H : Heap) (a : Nat) : Prop :=
  (∀ r : vw_C, vwCl[(h.1 a).1]? = some r → t_OB a (g_dC G (h.1 a).1) r.2.2 (g_dI G (h.1 a).1) H (h.2.1 a)) ∧
  ∀ ty : FieldType, k_ty (h.1 a).1 = some ty → H[a]? = some (arrV (g_dA G (h.1 a).1) (h.1 a).2 (h.2.1 a))
def Rep (G : GG) (h : HH) (H : Heap) : Prop := H.size = h.2.2 ∧ g_0 G ≤ h.2.2 ∧ (∀ q : Nat, q < g_0 G → H[q]? = (g_H G)[q]?) ∧ ∀ a : Nat, g_0 G ≤ a → a < h.2.2 → c_ok G h H a
/-- what the tables say at a method's start -/
def KK (G : GG) (U : State) : Prop :=
  (∀ (k : Nat) (q : vw_C), vwCl[k]? = some q → u_Kn U q.1 q.2.1 q.2.2 (g_dC G k) (g_dI G k)) ∧
  (∀ (k : Nat) (ty : FieldType), k_ty k = some ty → ArrOfT U (g_dA G k) ty ∧ U.vm.findClass ("[" ++ ty.toString) = some (g_dA G k)) ∧
  (∀ q ∈ n_F, va_Nw (.fieldLinkNest q.1 q.2.1 q.2.2.1 q.2.2.2.1 q.2.2.2.2.1 q.2.2.2.2.2) U) ∧
  (∀ q ∈ n_M, va_Nw (.methodLinkNest q.1 q.2.1 q.2.2.1 q.2.2.2) U) ∧
  (∀ q ∈ n_C, va_Nw (.castable q.1 q.2) U) ∧ (∀ q ∈ n_N, va_Nc q.1 q.2 U) ∧
  va_X (g_b G) (g_L G) (g_xs G) U (g_H G)
theorem KK.moved {G : GG} {s U : State} (hW : s.WarmedH U.vm) (h : KK G s) : KK G U := by
  obtain ⟨h1, h2, h3, h4, h5, h6, h7⟩ := h
  refine ⟨fun k q hq => u_Kn_moved hW.alike (h1 k q hq), fun k ty hk => ⟨arrOfT_moved hW.alike (h2 k ty hk).1, ?_⟩, fun q hq => va_Nw.warmF hW (h3 q hq), fun q hq => va_Nw.warmM hW (h4 q hq), fun q hq => va_Nw.warmC hW (h5 q hq), fun q hq => va_Nc.moved hW.alike (h6 q hq), va_X.moved hW.alike h7⟩
  rw [hW.alike.findClass]
  exact (h2 k ty hk).2
theorem KK.same {G : GG} {s U : State} (hv : s.vm = U.vm) (h : KK G s) : KK G U := by
  obtain ⟨h1, h2, h3, h4, h5, h6, h7⟩ := h
  have ha : s.vm.Alike U.vm := by rw [← hv]; exact Vm.Alike.refl _
  refine ⟨fun k q hq => u_Kn_moved ha (h1 k q hq), fun k ty hk => ⟨arrOfT_moved ha (h2 k ty hk).1, ?_⟩, fun q hq => va_Nw.same rfl hv (h3 q hq), fun q hq => va_Nw.same rfl hv (h4 q hq), fun q hq => va_Nw.same rfl hv (h5 q hq), fun q hq => va_Nc.moved ha (h6 q hq), va_X.moved ha h7⟩
  rw [← hv]
  exact (h2 k ty hk).2
/-- a walk's fixed things: program, env, room, start state, method, arguments, frames below, method, code, goal, the cells and slots at its end -/
abbrev VX : Type := Program × Env × Room × State × MethodId × Array Value × List Frame × Method × Code × (State → Prop) × Nat × Nat
abbrev XW (G : GG) (X : VX) (H : Heap) (locs : List Loc) (cells slots : Nat) (g : JFrame) : Prop :=
  W X.1 (g_l G) X.2.1 X.2.2.1 X.2.2.2.1 X.2.2.2.2.1 X.2.2.2.2.2.1 X.2.2.2.2.2.2.1 X.2.2.2.2.2.2.2.1 X.2.2.2.2.2.2.2.2.1 H locs cells slots X.2.2.2.2.2.2.2.2.2.1 g
abbrev x_ce (X : VX) : Nat := X.2.2.2.2.2.2.2.2.2.2.1
abbrev x_se (X : VX) : Nat := X.2.2.2.2.2.2.2.2.2.2.2
abbrev x_m (X : VX) : MethodId := X.2.2.2.2.1
/-- what a walk of method i stands on -/
def Cx (G : GG) (i : MM) (X : VX) : Prop :=
  X.1.tables.exec = Jvm.exec ∧ X.2.2.2.2.2.2.2.2.1.code = m_C i ∧ X.2.2.2.2.2.2.2.1.sig.returnType = m_R i ∧ X.2.2.2.2.2.2.2.1.locks = false ∧ X.2.2.2.2.2.2.2.2.1.maxLocals = m_L i ∧
  X.2.2.2.1.vm.findClass (m_Y i).cls = some (x_m X).cls ∧ (∀ w ∈ tb, w.before X.2.2.2.2.2.1 X.2.2.2.1 = true) ∧ KK G X.2.2.2.1 ∧ ((m_Y i).name = "<init>" → X.2.2.2.2.2.2.2.1.name = "<init>") ∧
  m_D i ≤ X.2.2.1.frames ∧ m_W i ≤ X.2.2.1.locals ∧ x_ce X ≤ X.2.2.1.cells ∧ x_se X ≤ X.2.2.1.slots
/-- a return of r at pc -/
def r_ok (i : MM) (pc : Nat) (r : Option Value) : Prop := match r with
  | none => decode (m_C i) pc = .ok (.return_, 1) ∧ m_R i = none
  | some (.int v) => decode (m_C i) pc = .ok (.ireturn, 1) ∧ ∃ ty, m_R i = some ty ∧ narrow ty (.int v) = .int v
  | some (.long _) => decode (m_C i) pc = .ok (.lreturn, 1) ∧ m_R i = some .long
  | some .null => decode (m_C i) pc = .ok (.areturn, 1) ∧ ∃ rt, m_R i = some rt ∧ ((∃ n, rt = .object n) ∨ ∃ t, rt = .array t)
  | some (.ref _) => decode (m_C i) pc = .ok (.areturn, 1) ∧ ∃ rt, m_R i = some rt ∧ ((∃ n, rt = .object n) ∨ ∃ t, rt = .array t)
  | _ => False
def Ends (G : GG) (i : MM) (X : VX) (Q : Option Value → HH → Prop) : Prop :=
  ∀ (pc : Nat) (ls : Array Slot) (H : Heap) (locs : List Loc) (r : Option Value) (h : HH), Q r h → Rep G h H → (∀ q ∈ locs, g_0 G ≤ q.base) → r_ok i pc r → XW G X H locs (x_ce X) (x_se X) (F0 (x_m X) pc ls r.toList)
def V (G : GG) (i : MM) (pc : Nat) (lv : List (Nat × Value)) (st : List Value) (h : HH) (c s : Nat) (Q : Option Value → HH → Prop) : Prop :=
  ∀ X : VX, Cx G i X → Ends G i X Q → ∀ (H : Heap) (locs : List Loc) (cells slots : Nat) (ls : Array Slot), Rep G h H → (∀ q ∈ locs, g_0 G ≤ q.base) → lv_has ls (m_L i) lv → cells + c ≤ x_ce X → slots + s ≤ x_se X →
    XW G X H locs cells slots (F0 (x_m X) pc ls st)
section VB
variable {G : GG} {i : MM} {pc : Nat} {lv : List (Nat × Value)} {st : List Value} {h : HH} {c s : Nat} {Q Q' : Option Value → HH → Prop}
theorem V.mono {c' s' : Nat} (kk : V G i pc lv st h c' s' Q) (hc : c' ≤ c) (hs : s' ≤ s) : V G i pc lv st h c s Q :=
  fun X C E H locs cells slots ls hR hL hl h1 h2 => kk X C E H locs cells slots ls hR hL hl (by omega) (by omega)
theorem V.weak (kk : V G i pc lv st h c s Q) (hq : ∀ r h', Q r h' → Q' r h') : V G i pc lv st h c s Q' :=
  fun X C E => kk X C (fun pc ls H locs r h' hr => E pc ls H locs r h' (hq r h' hr))
theorem V.eqh {h' : HH} (e : h = h') (kk : V G i pc lv st h' c s Q) : V G i pc lv st h c s Q := e ▸ kk
theorem V.sub {lv' : List (Nat × Value)} (ks : List Nat) (hl : lv_pick lv ks = lv') (kk : V G i pc lv' st h c s Q) : V G i pc lv st h c s Q :=
  fun X C E H locs cells slots ls hR hL hl' h1 h2 => kk X C E H locs cells slots ls hR hL (lv_sub hl' ks hl) h1 h2
/-- a local, by its number -/
def l_at (lv : List (Nat × Value)) (n : Nat) : Option Value := (lv.find? (fun q => q.1 == n)).map (·.2)
theorem l_get {ls : Array Slot} {nL n : Nat} {v : Value} (h : lv_has ls nL lv) (hv : l_at lv n = some v) : ls[n]? = some (.val v) := by
  unfold l_at at hv
  cases hf : lv.find? (fun q => q.1 == n) with
  | none => rw [hf] at hv; cases hv
  | some q =>
    rw [hf] at hv
    have h1 := List.mem_of_find?_eq_some hf
    have h2 := List.find?_some hf
    have e1 : q.1 = n := by simpa using h2
    have e2 : q.2 = v := by simpa using hv
    rw [← e1, ← e2]
    exact h.2.2 q h1
def l_set (lv : List (Nat × Value)) (n : Nat) (v : Value) : List (Nat × Value) := (n, v) :: lv.filter (fun q => !(q.1 == n) && !(q.1 + 1 == n && q.2.category == 2))
def l_set2 (lv : List (Nat × Value)) (n : Nat) (v : Value) : List (Nat × Value) := (n, v) :: lv.filter (fun q => !(q.1 == n) && (!(q.1 == n + 1) && !(q.1 + 1 == n && q.2.category == 2)))
end VB
end
section
section VI
variable {G : GG} {i : MM} {pc : Nat} {lv : List (Nat × Value)} {st : List Value} {h : HH} {c s : Nat} {Q Q' : Option Value → HH → Prop}
theorem V.iconst {n : Int} {v : Int32} (hd : decode (m_C i) pc = .ok (.iconst n, 1)) (hv : Int32.ofInt n = v) (kk : V G i (pc + 1) lv (.int v :: st) h c s Q) : V G i pc lv (st) h c s Q :=
  fun X C E H locs cells slots ls hR hL hl h1 h2 => lv_iconst C.1 C.2.1 hd hv (kk X C E H locs cells slots ls hR hL hl h1 h2)
theorem V.bipush {n : Int} {v : Int32} (hd : decode (m_C i) pc = .ok (.bipush n, 2)) (hv : (Int8.ofInt n).toInt32 = v) (kk : V G i (pc + 2) lv (.int v :: st) h c s Q) : V G i pc lv (st) h c s Q :=
  fun X C E H locs cells slots ls hR hL hl h1 h2 => lv_bipush C.1 C.2.1 hd hv (kk X C E H locs cells slots ls hR hL hl h1 h2)
theorem V.sipush {n : Int} {v : Int32} (hd : decode (m_C i) pc = .ok (.sipush n, 3)) (hv : (Int16.ofInt n).toInt32 = v) (kk : V G i (pc + 3) lv (.int v :: st) h c s Q) : V G i pc lv (st) h c s Q :=
  fun X C E H locs cells slots ls hR hL hl h1 h2 => lv_sipush C.1 C.2.1 hd hv (kk X C E H locs cells slots ls hR hL hl h1 h2)
theorem V.lconst {n : Fin 2} {v : Int64} (hd : decode (m_C i) pc = .ok (.lconst n, 1)) (hv : Int64.ofNat (n : Nat) = v) (kk : V G i (pc + 1) lv (.long v :: st) h c s Q) : V G i pc lv (st) h c s Q :=
  fun X C E H locs cells slots ls hR hL hl h1 h2 => lv_lconst C.1 C.2.1 hd hv (kk X C E H locs cells slots ls hR hL hl h1 h2)
theorem V.null (hd : decode (m_C i) pc = .ok (.aconst_null, 1)) (kk : V G i (pc + 1) lv (.null :: st) h c s Q) : V G i pc lv (st) h c s Q :=
  fun X C E H locs cells slots ls hR hL hl h1 h2 => lv_null C.1 C.2.1 hd (kk X C E H locs cells slots ls hR hL hl h1 h2)
theorem V.iload_n {k : Fin 4} {x : Int32} (hd : decode (m_C i) pc = .ok (.iload_n k, 1)) (hv : l_at lv (k : Nat) = some (.int x)) (kk : V G i (pc + 1) lv (.int x :: st) h c s Q) : V G i pc lv (st) h c s Q :=
  fun X C E H locs cells slots ls hR hL hl h1 h2 => lv_iload_n C.1 C.2.1 hd rfl (l_get hl hv) (kk X C E H locs cells slots ls hR hL hl h1 h2)
theorem V.iload {n : Nat} {x : Int32} (hd : decode (m_C i) pc = .ok (.iload n, 2)) (hv : l_at lv n = some (.int x)) (kk : V G i (pc + 2) lv (.int x :: st) h c s Q) : V G i pc lv (st) h c s Q :=
  fun X C E H locs cells slots ls hR hL hl h1 h2 => lv_iload C.1 C.2.1 hd (l_get hl hv) (kk X C E H locs cells slots ls hR hL hl h1 h2)
theorem V.lload_n {k : Fin 4} {x : Int64} (hd : decode (m_C i) pc = .ok (.lload_n k, 1)) (hv : l_at lv (k : Nat) = some (.long x)) (kk : V G i (pc + 1) lv (.long x :: st) h c s Q) : V G i pc lv (st) h c s Q :=
  fun X C E H locs cells slots ls hR hL hl h1 h2 => lv_lload_n C.1 C.2.1 hd rfl (l_get hl hv) (kk X C E H locs cells slots ls hR hL hl h1 h2)
theorem V.lload {n : Nat} {x : Int64} (hd : decode (m_C i) pc = .ok (.lload n, 2)) (hv : l_at lv n = some (.long x)) (kk : V G i (pc + 2) lv (.long x :: st) h c s Q) : V G i pc lv (st) h c s Q :=
  fun X C E H locs cells slots ls hR hL hl h1 h2 => lv_lload C.1 C.2.1 hd (l_get hl hv) (kk X C E H locs cells slots ls hR hL hl h1 h2)
theorem V.aload_n {k : Fin 4} {x : Nat} (hd : decode (m_C i) pc = .ok (.aload_n k, 1)) (hv : l_at lv (k : Nat) = some (.ref x)) (kk : V G i (pc + 1) lv (.ref x :: st) h c s Q) : V G i pc lv (st) h c s Q :=
  fun X C E H locs cells slots ls hR hL hl h1 h2 => lv_aload_n C.1 C.2.1 hd rfl (l_get hl hv) (kk X C E H locs cells slots ls hR hL hl h1 h2)
theorem V.aload {n : Nat} {x : Nat} (hd : decode (m_C i) pc = .ok (.aload n, 2)) (hv : l_at lv n = some (.ref x)) (kk : V G i (pc + 2) lv (.ref x :: st) h c s Q) : V G i pc lv (st) h c s Q :=
  fun X C E H locs cells slots ls hR hL hl h1 h2 => lv_aload C.1 C.2.1 hd (l_get hl hv) (kk X C E H locs cells slots ls hR hL hl h1 h2)
theorem V.aload_nN {k : Fin 4} (hd : decode (m_C i) pc = .ok (.aload_n k, 1)) (hv : l_at lv (k : Nat) = some .null) (kk : V G i (pc + 1) lv (.null :: st) h c s Q) : V G i pc lv (st) h c s Q :=
  fun X C E H locs cells slots ls hR hL hl h1 h2 => lv_aload_nN C.1 C.2.1 hd rfl (l_get hl hv) (kk X C E H locs cells slots ls hR hL hl h1 h2)
theorem V.aloadN {n : Nat} (hd : decode (m_C i) pc = .ok (.aload n, 2)) (hv : l_at lv n = some .null) (kk : V G i (pc + 2) lv (.null :: st) h c s Q) : V G i pc lv (st) h c s Q :=
  fun X C E H locs cells slots ls hR hL hl h1 h2 => lv_aloadN C.1 C.2.1 hd (l_get hl hv) (kk X C E H locs cells slots ls hR hL hl h1 h2)
theorem V.istore_n {k : Fin 4} {x : Int32} (hd : decode (m_C i) pc = .ok (.istore_n k, 1)) (hn : (k : Nat) < m_L i) (kk : V G i (pc + 1) (l_set lv (k : Nat) (.int x)) st h c s Q) : V G i pc lv (.int x :: st) h c s Q :=
  fun X C E H locs cells slots ls hR hL hl h1 h2 => lv_istore_n C.1 C.2.1 hd rfl hl hn rfl (fun ls' hl' => kk X C E H locs cells slots ls' hR hL hl' h1 h2)
theorem V.istore {n : Nat} {x : Int32} (hd : decode (m_C i) pc = .ok (.istore n, 2)) (hn : n < m_L i) (kk : V G i (pc + 2) (l_set lv n (.int x)) st h c s Q) : V G i pc lv (.int x :: st) h c s Q :=
  fun X C E H locs cells slots ls hR hL hl h1 h2 => lv_istore C.1 C.2.1 hd hl hn rfl (fun ls' hl' => kk X C E H locs cells slots ls' hR hL hl' h1 h2)
theorem V.lstore_n {k : Fin 4} {x : Int64} (hd : decode (m_C i) pc = .ok (.lstore_n k, 1)) (hn : (k : Nat) + 1 < m_L i) (kk : V G i (pc + 1) (l_set2 lv (k : Nat) (.long x)) st h c s Q) : V G i pc lv (.long x :: st) h c s Q :=
  fun X C E H locs cells slots ls hR hL hl h1 h2 => lv_lstore_n C.1 C.2.1 hd rfl hl hn rfl (fun ls' hl' => kk X C E H locs cells slots ls' hR hL hl' h1 h2)
theorem V.lstore {n : Nat} {x : Int64} (hd : decode (m_C i) pc = .ok (.lstore n, 2)) (hn : n + 1 < m_L i) (kk : V G i (pc + 2) (l_set2 lv n (.long x)) st h c s Q) : V G i pc lv (.long x :: st) h c s Q :=
  fun X C E H locs cells slots ls hR hL hl h1 h2 => lv_lstore C.1 C.2.1 hd hl hn rfl (fun ls' hl' => kk X C E H locs cells slots ls' hR hL hl' h1 h2)
theorem V.astore_n {k : Fin 4} {x : Nat} (hd : decode (m_C i) pc = .ok (.astore_n k, 1)) (hn : (k : Nat) < m_L i) (kk : V G i (pc + 1) (l_set lv (k : Nat) (.ref x)) st h c s Q) : V G i pc lv (.ref x :: st) h c s Q :=
  fun X C E H locs cells slots ls hR hL hl h1 h2 => lv_astore_n C.1 C.2.1 hd rfl hl hn rfl (fun ls' hl' => kk X C E H locs cells slots ls' hR hL hl' h1 h2)
theorem V.astore {n : Nat} {x : Nat} (hd : decode (m_C i) pc = .ok (.astore n, 2)) (hn : n < m_L i) (kk : V G i (pc + 2) (l_set lv n (.ref x)) st h c s Q) : V G i pc lv (.ref x :: st) h c s Q :=
  fun X C E H locs cells slots ls hR hL hl h1 h2 => lv_astore C.1 C.2.1 hd hl hn rfl (fun ls' hl' => kk X C E H locs cells slots ls' hR hL hl' h1 h2)
theorem V.astore_nN {k : Fin 4} (hd : decode (m_C i) pc = .ok (.astore_n k, 1)) (hn : (k : Nat) < m_L i) (kk : V G i (pc + 1) (l_set lv (k : Nat) (.null)) st h c s Q) : V G i pc lv (.null :: st) h c s Q :=
  fun X C E H locs cells slots ls hR hL hl h1 h2 => lv_astore_nN C.1 C.2.1 hd rfl hl hn rfl (fun ls' hl' => kk X C E H locs cells slots ls' hR hL hl' h1 h2)
theorem V.astoreN {n : Nat} (hd : decode (m_C i) pc = .ok (.astore n, 2)) (hn : n < m_L i) (kk : V G i (pc + 2) (l_set lv n (.null)) st h c s Q) : V G i pc lv (.null :: st) h c s Q :=
  fun X C E H locs cells slots ls hR hL hl h1 h2 => lv_astoreN C.1 C.2.1 hd hl hn rfl (fun ls' hl' => kk X C E H locs cells slots ls' hR hL hl' h1 h2)
theorem V.iinc {n : Nat} {d : Int} {x v : Int32} (hd : decode (m_C i) pc = .ok (.iinc n d, 3)) (hv : l_at lv n = some (.int x)) (he : x + Int32.ofInt d = v) (hn : n < m_L i) (kk : V G i (pc + 3) (l_set lv n (.int v)) st h c s Q) : V G i pc lv st h c s Q := by
  intro X C E H locs cells slots ls hR hL hl h1 h2
  have hg : (n, Value.int x) ∈ lv := by
    unfold l_at at hv
    cases hf : lv.find? (fun q => q.1 == n) with
    | none => rw [hf] at hv; cases hv
    | some q =>
      rw [hf] at hv
      have e1 : q.1 = n := by simpa using List.find?_some hf
      have e2 : q.2 = .int x := by simpa using hv
      rw [← e1, ← e2]
      exact List.mem_of_find?_eq_some hf
  obtain ⟨k, hk⟩ := List.getElem?_of_mem hg
  exact lv_iinc C.1 C.2.1 hd hl hk he hn rfl (fun ls' hl' => kk X C E H locs cells slots ls' hR hL hl' h1 h2)
theorem V.iadd {x y : Int32} (hd : decode (m_C i) pc = .ok (.iadd, 1)) (kk : V G i (pc + 1) lv (.int (x + y) :: st) h c s Q) : V G i pc lv (.int y :: .int x :: st) h c s Q :=
  fun X C E H locs cells slots ls hR hL hl h1 h2 => lv_iadd C.1 C.2.1 hd (kk X C E H locs cells slots ls hR hL hl h1 h2)
theorem V.isub {x y : Int32} (hd : decode (m_C i) pc = .ok (.isub, 1)) (kk : V G i (pc + 1) lv (.int (x - y) :: st) h c s Q) : V G i pc lv (.int y :: .int x :: st) h c s Q :=
  fun X C E H locs cells slots ls hR hL hl h1 h2 => lv_isub C.1 C.2.1 hd (kk X C E H locs cells slots ls hR hL hl h1 h2)
theorem V.imul {x y : Int32} (hd : decode (m_C i) pc = .ok (.imul, 1)) (kk : V G i (pc + 1) lv (.int (x * y) :: st) h c s Q) : V G i pc lv (.int y :: .int x :: st) h c s Q :=
  fun X C E H locs cells slots ls hR hL hl h1 h2 => lv_imul C.1 C.2.1 hd (kk X C E H locs cells slots ls hR hL hl h1 h2)
theorem V.iand {x y : Int32} (hd : decode (m_C i) pc = .ok (.iand, 1)) (kk : V G i (pc + 1) lv (.int (x &&& y) :: st) h c s Q) : V G i pc lv (.int y :: .int x :: st) h c s Q :=
  fun X C E H locs cells slots ls hR hL hl h1 h2 => lv_iand C.1 C.2.1 hd (kk X C E H locs cells slots ls hR hL hl h1 h2)
theorem V.ior {x y : Int32} (hd : decode (m_C i) pc = .ok (.ior, 1)) (kk : V G i (pc + 1) lv (.int (x ||| y) :: st) h c s Q) : V G i pc lv (.int y :: .int x :: st) h c s Q :=
  fun X C E H locs cells slots ls hR hL hl h1 h2 => lv_ior C.1 C.2.1 hd (kk X C E H locs cells slots ls hR hL hl h1 h2)
theorem V.ixor {x y : Int32} (hd : decode (m_C i) pc = .ok (.ixor, 1)) (kk : V G i (pc + 1) lv (.int (x ^^^ y) :: st) h c s Q) : V G i pc lv (.int y :: .int x :: st) h c s Q :=
  fun X C E H locs cells slots ls hR hL hl h1 h2 => lv_ixor C.1 C.2.1 hd (kk X C E H locs cells slots ls hR hL hl h1 h2)
theorem V.ishl {x y : Int32} (hd : decode (m_C i) pc = .ok (.ishl, 1)) (kk : V G i (pc + 1) lv (.int (x <<< (y &&& 31)) :: st) h c s Q) : V G i pc lv (.int y :: .int x :: st) h c s Q :=
  fun X C E H locs cells slots ls hR hL hl h1 h2 => lv_ishl C.1 C.2.1 hd (kk X C E H locs cells slots ls hR hL hl h1 h2)
theorem V.ishr {x y : Int32} (hd : decode (m_C i) pc = .ok (.ishr, 1)) (kk : V G i (pc + 1) lv (.int (x >>> (y &&& 31)) :: st) h c s Q) : V G i pc lv (.int y :: .int x :: st) h c s Q :=
  fun X C E H locs cells slots ls hR hL hl h1 h2 => lv_ishr C.1 C.2.1 hd (kk X C E H locs cells slots ls hR hL hl h1 h2)
theorem V.idiv {x y : Int32} (hd : decode (m_C i) pc = .ok (.idiv, 1)) (hne : ¬ y = 0) (kk : V G i (pc + 1) lv (.int (x / y) :: st) h c s Q) : V G i pc lv (.int y :: .int x :: st) h c s Q :=
  fun X C E H locs cells slots ls hR hL hl h1 h2 => lv_idiv C.1 C.2.1 hd hne (kk X C E H locs cells slots ls hR hL hl h1 h2)
theorem V.irem {x y : Int32} (hd : decode (m_C i) pc = .ok (.irem, 1)) (hne : ¬ y = 0) (kk : V G i (pc + 1) lv (.int (x - x / y * y) :: st) h c s Q) : V G i pc lv (.int y :: .int x :: st) h c s Q :=
  fun X C E H locs cells slots ls hR hL hl h1 h2 => lv_irem C.1 C.2.1 hd hne (kk X C E H locs cells slots ls hR hL hl h1 h2)
theorem V.ineg {x : Int32} (hd : decode (m_C i) pc = .ok (.ineg, 1)) (kk : V G i (pc + 1) lv (.int (-x) :: st) h c s Q) : V G i pc lv (.int x :: st) h c s Q :=
  fun X C E H locs cells slots ls hR hL hl h1 h2 => lv_ineg C.1 C.2.1 hd (kk X C E H locs cells slots ls hR hL hl h1 h2)
theorem V.ladd {x y : Int64} (hd : decode (m_C i) pc = .ok (.ladd, 1)) (kk : V G i (pc + 1) lv (.long (x + y) :: st) h c s Q) : V G i pc lv (.long y :: .long x :: st) h c s Q :=
  fun X C E H locs cells slots ls hR hL hl h1 h2 => lv_ladd C.1 C.2.1 hd (kk X C E H locs cells slots ls hR hL hl h1 h2)
theorem V.lsub {x y : Int64} (hd : decode (m_C i) pc = .ok (.lsub, 1)) (kk : V G i (pc + 1) lv (.long (x - y) :: st) h c s Q) : V G i pc lv (.long y :: .long x :: st) h c s Q :=
  fun X C E H locs cells slots ls hR hL hl h1 h2 => lv_lsub C.1 C.2.1 hd (kk X C E H locs cells slots ls hR hL hl h1 h2)
theorem V.lmul {x y : Int64} (hd : decode (m_C i) pc = .ok (.lmul, 1)) (kk : V G i (pc + 1) lv (.long (x * y) :: st) h c s Q) : V G i pc lv (.long y :: .long x :: st) h c s Q :=
  fun X C E H locs cells slots ls hR hL hl h1 h2 => lv_lmul C.1 C.2.1 hd (kk X C E H locs cells slots ls hR hL hl h1 h2)
theorem V.land {x y : Int64} (hd : decode (m_C i) pc = .ok (.land, 1)) (kk : V G i (pc + 1) lv (.long (x &&& y) :: st) h c s Q) : V G i pc lv (.long y :: .long x :: st) h c s Q :=
  fun X C E H locs cells slots ls hR hL hl h1 h2 => lv_land C.1 C.2.1 hd (kk X C E H locs cells slots ls hR hL hl h1 h2)
theorem V.lor {x y : Int64} (hd : decode (m_C i) pc = .ok (.lor, 1)) (kk : V G i (pc + 1) lv (.long (x ||| y) :: st) h c s Q) : V G i pc lv (.long y :: .long x :: st) h c s Q :=
  fun X C E H locs cells slots ls hR hL hl h1 h2 => lv_lor C.1 C.2.1 hd (kk X C E H locs cells slots ls hR hL hl h1 h2)
theorem V.lxor {x y : Int64} (hd : decode (m_C i) pc = .ok (.lxor, 1)) (kk : V G i (pc + 1) lv (.long (x ^^^ y) :: st) h c s Q) : V G i pc lv (.long y :: .long x :: st) h c s Q :=
  fun X C E H locs cells slots ls hR hL hl h1 h2 => lv_lxor C.1 C.2.1 hd (kk X C E H locs cells slots ls hR hL hl h1 h2)
theorem V.lneg {x : Int64} (hd : decode (m_C i) pc = .ok (.lneg, 1)) (kk : V G i (pc + 1) lv (.long (-x) :: st) h c s Q) : V G i pc lv (.long x :: st) h c s Q :=
  fun X C E H locs cells slots ls hR hL hl h1 h2 => lv_lneg C.1 C.2.1 hd (kk X C E H locs cells slots ls hR hL hl h1 h2)
theorem V.i2l {x : Int32} {v : Int64} (hd : decode (m_C i) pc = .ok (.i2l, 1)) (hv : x.toInt64 = v) (kk : V G i (pc + 1) lv (.long v :: st) h c s Q) : V G i pc lv (.int x :: st) h c s Q :=
  fun X C E H locs cells slots ls hR hL hl h1 h2 => lv_i2l C.1 C.2.1 hd hv (kk X C E H locs cells slots ls hR hL hl h1 h2)
theorem V.l2i {x : Int64} {v : Int32} (hd : decode (m_C i) pc = .ok (.l2i, 1)) (hv : x.toInt32 = v) (kk : V G i (pc + 1) lv (.int v :: st) h c s Q) : V G i pc lv (.long x :: st) h c s Q :=
  fun X C E H locs cells slots ls hR hL hl h1 h2 => lv_l2i C.1 C.2.1 hd hv (kk X C E H locs cells slots ls hR hL hl h1 h2)
theorem V.i2b {x : Int32} {v : Int32} (hd : decode (m_C i) pc = .ok (.i2b, 1)) (hv : x.toInt8.toInt32 = v) (kk : V G i (pc + 1) lv (.int v :: st) h c s Q) : V G i pc lv (.int x :: st) h c s Q :=
  fun X C E H locs cells slots ls hR hL hl h1 h2 => lv_i2b C.1 C.2.1 hd hv (kk X C E H locs cells slots ls hR hL hl h1 h2)
theorem V.i2s {x : Int32} {v : Int32} (hd : decode (m_C i) pc = .ok (.i2s, 1)) (hv : x.toInt16.toInt32 = v) (kk : V G i (pc + 1) lv (.int v :: st) h c s Q) : V G i pc lv (.int x :: st) h c s Q :=
  fun X C E H locs cells slots ls hR hL hl h1 h2 => lv_i2s C.1 C.2.1 hd hv (kk X C E H locs cells slots ls hR hL hl h1 h2)
theorem V.i2c {x : Int32} {v : Int32} (hd : decode (m_C i) pc = .ok (.i2c, 1)) (hv : (x.toUInt32 % 65536).toInt32 = v) (kk : V G i (pc + 1) lv (.int v :: st) h c s Q) : V G i pc lv (.int x :: st) h c s Q :=
  fun X C E H locs cells slots ls hR hL hl h1 h2 => lv_i2c C.1 C.2.1 hd hv (kk X C E H locs cells slots ls hR hL hl h1 h2)
theorem V.iushr {x y v : Int32} (hd : decode (m_C i) pc = .ok (.iushr, 1)) (hv : (x.toUInt32 >>> (y.toUInt32 &&& Int32.toUInt32 31)).toInt32 = v) (kk : V G i (pc + 1) lv (.int v :: st) h c s Q) : V G i pc lv (.int y :: .int x :: st) h c s Q :=
  fun X C E H locs cells slots ls hR hL hl h1 h2 => lv_iushr C.1 C.2.1 hd hv (kk X C E H locs cells slots ls hR hL hl h1 h2)
theorem V.lushr {x v : Int64} {y : Int32} (hd : decode (m_C i) pc = .ok (.lushr, 1)) (hv : (x.toUInt64 >>> (y.toInt64.toUInt64 &&& Int64.toUInt64 63)).toInt64 = v) (kk : V G i (pc + 1) lv (.long v :: st) h c s Q) : V G i pc lv (.int y :: .long x :: st) h c s Q :=
  fun X C E H locs cells slots ls hR hL hl h1 h2 => lv_lushr C.1 C.2.1 hd hv (kk X C E H locs cells slots ls hR hL hl h1 h2)
theorem V.lshl {x v : Int64} {y : Int32} (hd : decode (m_C i) pc = .ok (.lshl, 1)) (hv : x <<< (y.toInt64 &&& 63) = v) (kk : V G i (pc + 1) lv (.long v :: st) h c s Q) : V G i pc lv (.int y :: .long x :: st) h c s Q :=
  fun X C E H locs cells slots ls hR hL hl h1 h2 => lv_lshl C.1 C.2.1 hd hv (kk X C E H locs cells slots ls hR hL hl h1 h2)
theorem V.lshr {x v : Int64} {y : Int32} (hd : decode (m_C i) pc = .ok (.lshr, 1)) (hv : x >>> (y.toInt64 &&& 63) = v) (kk : V G i (pc + 1) lv (.long v :: st) h c s Q) : V G i pc lv (.int y :: .long x :: st) h c s Q :=
  fun X C E H locs cells slots ls hR hL hl h1 h2 => lv_lshr C.1 C.2.1 hd hv (kk X C E H locs cells slots ls hR hL hl h1 h2)
theorem V.lcmp {x y : Int64} (hd : decode (m_C i) pc = .ok (.lcmp, 1)) (kk : V G i (pc + 1) lv (.int (lg_cmp x y) :: st) h c s Q) : V G i pc lv (.long y :: .long x :: st) h c s Q :=
  fun X C E H locs cells slots ls hR hL hl h1 h2 => W.lcmp C.1 C.2.1 hd (kk X C E H locs cells slots ls hR hL hl h1 h2)
theorem V.dup {v : Value} (hd : decode (m_C i) pc = .ok (.dup, 1)) (hc : v.category = 1) (kk : V G i (pc + 1) lv (v :: v :: st) h c s Q) : V G i pc lv (v :: st) h c s Q :=
  fun X C E H locs cells slots ls hR hL hl h1 h2 => lv_dup C.1 C.2.1 hd hc (kk X C E H locs cells slots ls hR hL hl h1 h2)
theorem V.pop {v : Value} (hd : decode (m_C i) pc = .ok (.pop, 1)) (hc : v.category = 1) (kk : V G i (pc + 1) lv (st) h c s Q) : V G i pc lv (v :: st) h c s Q :=
  fun X C E H locs cells slots ls hR hL hl h1 h2 => lv_pop C.1 C.2.1 hd hc (kk X C E H locs cells slots ls hR hL hl h1 h2)
theorem V.dup_x1 {v w : Value} (hd : decode (m_C i) pc = .ok (.dup_x1, 1)) (hc : v.category = 1) (hd2 : w.category = 1) (kk : V G i (pc + 1) lv (v :: w :: v :: st) h c s Q) : V G i pc lv (v :: w :: st) h c s Q :=
  fun X C E H locs cells slots ls hR hL hl h1 h2 => lv_dup_x1 C.1 C.2.1 hd hc hd2 (kk X C E H locs cells slots ls hR hL hl h1 h2)
theorem V.dup_x2 {v w z : Value} (hd : decode (m_C i) pc = .ok (.dup_x2, 1)) (hc : v.category = 1) (hd2 : w.category = 1) (hd3 : z.category = 1) (kk : V G i (pc + 1) lv (v :: w :: z :: v :: st) h c s Q) : V G i pc lv (v :: w :: z :: st) h c s Q :=
  fun X C E H locs cells slots ls hR hL hl h1 h2 => lv_dup_x2 C.1 C.2.1 hd hc hd2 hd3 (kk X C E H locs cells slots ls hR hL hl h1 h2)
theorem V.dup2 {v w : Value} (hd : decode (m_C i) pc = .ok (.dup2, 1)) (hc : v.category = 1) (hd2 : w.category = 1) (kk : V G i (pc + 1) lv (v :: w :: v :: w :: st) h c s Q) : V G i pc lv (v :: w :: st) h c s Q :=
  fun X C E H locs cells slots ls hR hL hl h1 h2 => lv_dup2_11 C.1 C.2.1 hd hc hd2 (kk X C E H locs cells slots ls hR hL hl h1 h2)
theorem V.dup2_2 {v : Value} (hd : decode (m_C i) pc = .ok (.dup2, 1)) (hc : v.category = 2) (kk : V G i (pc + 1) lv (v :: v :: st) h c s Q) : V G i pc lv (v :: st) h c s Q :=
  fun X C E H locs cells slots ls hR hL hl h1 h2 => lv_dup2_2 C.1 C.2.1 hd hc (kk X C E H locs cells slots ls hR hL hl h1 h2)
theorem V.pop2_2 {v : Value} (hd : decode (m_C i) pc = .ok (.pop2, 1)) (hc : v.category = 2) (kk : V G i (pc + 1) lv (st) h c s Q) : V G i pc lv (v :: st) h c s Q :=
  fun X C E H locs cells slots ls hR hL hl h1 h2 => lv_pop2_2 C.1 C.2.1 hd hc (kk X C E H locs cells slots ls hR hL hl h1 h2)
theorem V.if_eq {x : Int32} {off : Int} {tgt : Nat} (hd : decode (m_C i) pc = .ok (.ifCond .eq off, 3)) (ht : (pc : Int) + off = (tgt : Int)) (kt : x = 0 → V G i tgt lv st h c s Q) (kf : ¬ x = 0 → V G i (pc + 3) lv st h c s Q) : V G i pc lv (.int x :: st) h c s Q :=
  fun X C E H locs cells slots ls hR hL hl h1 h2 => lv_if_eq C.1 C.2.1 hd ht (fun z => kt z X C E H locs cells slots ls hR hL hl h1 h2) (fun z => kf z X C E H locs cells slots ls hR hL hl h1 h2)
theorem V.icmp_eq {x y : Int32} {off : Int} {tgt : Nat} (hd : decode (m_C i) pc = .ok (.if_icmp .eq off, 3)) (ht : (pc : Int) + off = (tgt : Int)) (kt : x = y → V G i tgt lv st h c s Q) (kf : ¬ x = y → V G i (pc + 3) lv st h c s Q) : V G i pc lv (.int y :: .int x :: st) h c s Q :=
  fun X C E H locs cells slots ls hR hL hl h1 h2 => lv_icmp_eq C.1 C.2.1 hd ht (fun z => kt z X C E H locs cells slots ls hR hL hl h1 h2) (fun z => kf z X C E H locs cells slots ls hR hL hl h1 h2)
theorem V.if_ne {x : Int32} {off : Int} {tgt : Nat} (hd : decode (m_C i) pc = .ok (.ifCond .ne off, 3)) (ht : (pc : Int) + off = (tgt : Int)) (kt : ¬ x = 0 → V G i tgt lv st h c s Q) (kf : x = 0 → V G i (pc + 3) lv st h c s Q) : V G i pc lv (.int x :: st) h c s Q :=
  fun X C E H locs cells slots ls hR hL hl h1 h2 => lv_if_ne C.1 C.2.1 hd ht (fun z => kt z X C E H locs cells slots ls hR hL hl h1 h2) (fun z => kf z X C E H locs cells slots ls hR hL hl h1 h2)
theorem V.icmp_ne {x y : Int32} {off : Int} {tgt : Nat} (hd : decode (m_C i) pc = .ok (.if_icmp .ne off, 3)) (ht : (pc : Int) + off = (tgt : Int)) (kt : ¬ x = y → V G i tgt lv st h c s Q) (kf : x = y → V G i (pc + 3) lv st h c s Q) : V G i pc lv (.int y :: .int x :: st) h c s Q :=
  fun X C E H locs cells slots ls hR hL hl h1 h2 => lv_icmp_ne C.1 C.2.1 hd ht (fun z => kt z X C E H locs cells slots ls hR hL hl h1 h2) (fun z => kf z X C E H locs cells slots ls hR hL hl h1 h2)
theorem V.if_lt {x : Int32} {off : Int} {tgt : Nat} (hd : decode (m_C i) pc = .ok (.ifCond .lt off, 3)) (ht : (pc : Int) + off = (tgt : Int)) (kt : x < 0 → V G i tgt lv st h c s Q) (kf : ¬ x < 0 → V G i (pc + 3) lv st h c s Q) : V G i pc lv (.int x :: st) h c s Q :=
  fun X C E H locs cells slots ls hR hL hl h1 h2 => lv_if_lt C.1 C.2.1 hd ht (fun z => kt z X C E H locs cells slots ls hR hL hl h1 h2) (fun z => kf z X C E H locs cells slots ls hR hL hl h1 h2)
theorem V.icmp_lt {x y : Int32} {off : Int} {tgt : Nat} (hd : decode (m_C i) pc = .ok (.if_icmp .lt off, 3)) (ht : (pc : Int) + off = (tgt : Int)) (kt : x < y → V G i tgt lv st h c s Q) (kf : ¬ x < y → V G i (pc + 3) lv st h c s Q) : V G i pc lv (.int y :: .int x :: st) h c s Q :=
  fun X C E H locs cells slots ls hR hL hl h1 h2 => lv_icmp_lt C.1 C.2.1 hd ht (fun z => kt z X C E H locs cells slots ls hR hL hl h1 h2) (fun z => kf z X C E H locs cells slots ls hR hL hl h1 h2)
theorem V.if_ge {x : Int32} {off : Int} {tgt : Nat} (hd : decode (m_C i) pc = .ok (.ifCond .ge off, 3)) (ht : (pc : Int) + off = (tgt : Int)) (kt : 0 ≤ x → V G i tgt lv st h c s Q) (kf : ¬ 0 ≤ x → V G i (pc + 3) lv st h c s Q) : V G i pc lv (.int x :: st) h c s Q :=
  fun X C E H locs cells slots ls hR hL hl h1 h2 => lv_if_ge C.1 C.2.1 hd ht (fun z => kt z X C E H locs cells slots ls hR hL hl h1 h2) (fun z => kf z X C E H locs cells slots ls hR hL hl h1 h2)
theorem V.icmp_ge {x y : Int32} {off : Int} {tgt : Nat} (hd : decode (m_C i) pc = .ok (.if_icmp .ge off, 3)) (ht : (pc : Int) + off = (tgt : Int)) (kt : y ≤ x → V G i tgt lv st h c s Q) (kf : ¬ y ≤ x → V G i (pc + 3) lv st h c s Q) : V G i pc lv (.int y :: .int x :: st) h c s Q :=
  fun X C E H locs cells slots ls hR hL hl h1 h2 => lv_icmp_ge C.1 C.2.1 hd ht (fun z => kt z X C E H locs cells slots ls hR hL hl h1 h2) (fun z => kf z X C E H locs cells slots ls hR hL hl h1 h2)
theorem V.if_gt {x : Int32} {off : Int} {tgt : Nat} (hd : decode (m_C i) pc = .ok (.ifCond .gt off, 3)) (ht : (pc : Int) + off = (tgt : Int)) (kt : 0 < x → V G i tgt lv st h c s Q) (kf : ¬ 0 < x → V G i (pc + 3) lv st h c s Q) : V G i pc lv (.int x :: st) h c s Q :=
  fun X C E H locs cells slots ls hR hL hl h1 h2 => lv_if_gt C.1 C.2.1 hd ht (fun z => kt z X C E H locs cells slots ls hR hL hl h1 h2) (fun z => kf z X C E H locs cells slots ls hR hL hl h1 h2)
theorem V.icmp_gt {x y : Int32} {off : Int} {tgt : Nat} (hd : decode (m_C i) pc = .ok (.if_icmp .gt off, 3)) (ht : (pc : Int) + off = (tgt : Int)) (kt : y < x → V G i tgt lv st h c s Q) (kf : ¬ y < x → V G i (pc + 3) lv st h c s Q) : V G i pc lv (.int y :: .int x :: st) h c s Q :=
  fun X C E H locs cells slots ls hR hL hl h1 h2 => lv_icmp_gt C.1 C.2.1 hd ht (fun z => kt z X C E H locs cells slots ls hR hL hl h1 h2) (fun z => kf z X C E H locs cells slots ls hR hL hl h1 h2)
theorem V.if_le {x : Int32} {off : Int} {tgt : Nat} (hd : decode (m_C i) pc = .ok (.ifCond .le off, 3)) (ht : (pc : Int) + off = (tgt : Int)) (kt : x ≤ 0 → V G i tgt lv st h c s Q) (kf : ¬ x ≤ 0 → V G i (pc + 3) lv st h c s Q) : V G i pc lv (.int x :: st) h c s Q :=
  fun X C E H locs cells slots ls hR hL hl h1 h2 => lv_if_le C.1 C.2.1 hd ht (fun z => kt z X C E H locs cells slots ls hR hL hl h1 h2) (fun z => kf z X C E H locs cells slots ls hR hL hl h1 h2)
theorem V.icmp_le {x y : Int32} {off : Int} {tgt : Nat} (hd : decode (m_C i) pc = .ok (.if_icmp .le off, 3)) (ht : (pc : Int) + off = (tgt : Int)) (kt : x ≤ y → V G i tgt lv st h c s Q) (kf : ¬ x ≤ y → V G i (pc + 3) lv st h c s Q) : V G i pc lv (.int y :: .int x :: st) h c s Q :=
  fun X C E H locs cells slots ls hR hL hl h1 h2 => lv_icmp_le C.1 C.2.1 hd ht (fun z => kt z X C E H locs cells slots ls hR hL hl h1 h2) (fun z => kf z X C E H locs cells slots ls hR hL hl h1 h2)
theorem V.acmp_eq {rx ry : Option Nat} {off : Int} {tgt : Nat} (hd : decode (m_C i) pc = .ok (.if_acmp .eq off, 3)) (ht : (pc : Int) + off = (tgt : Int)) (kt : rx = ry → V G i tgt lv st h c s Q) (kf : ¬ rx = ry → V G i (pc + 3) lv st h c s Q) : V G i pc lv (va_rf ry :: va_rf rx :: st) h c s Q :=
  fun X C E H locs cells slots ls hR hL hl h1 h2 => lv_acmp_eq C.1 C.2.1 hd ht (fun z => kt z X C E H locs cells slots ls hR hL hl h1 h2) (fun z => kf z X C E H locs cells slots ls hR hL hl h1 h2)
theorem V.acmp_ne {rx ry : Option Nat} {off : Int} {tgt : Nat} (hd : decode (m_C i) pc = .ok (.if_acmp .ne off, 3)) (ht : (pc : Int) + off = (tgt : Int)) (kt : ¬ rx = ry → V G i tgt lv st h c s Q) (kf : rx = ry → V G i (pc + 3) lv st h c s Q) : V G i pc lv (va_rf ry :: va_rf rx :: st) h c s Q :=
  fun X C E H locs cells slots ls hR hL hl h1 h2 => lv_acmp_ne C.1 C.2.1 hd ht (fun z => kt z X C E H locs cells slots ls hR hL hl h1 h2) (fun z => kf z X C E H locs cells slots ls hR hL hl h1 h2)
theorem V.goto {off : Int} {tgt : Nat} (hd : decode (m_C i) pc = .ok (.goto off, 3)) (ht : (pc : Int) + off = (tgt : Int)) (kk : V G i (tgt) lv st h c s Q) : V G i pc lv (st) h c s Q :=
  fun X C E H locs cells slots ls hR hL hl h1 h2 => lv_goto C.1 C.2.1 hd ht (kk X C E H locs cells slots ls hR hL hl h1 h2)
theorem V.ifnonnull {x : Nat} {off : Int} {tgt : Nat} (hd : decode (m_C i) pc = .ok (.ifnonnull off, 3)) (ht : (pc : Int) + off = (tgt : Int)) (kk : V G i (tgt) lv st h c s Q) : V G i pc lv (.ref x :: st) h c s Q :=
  fun X C E H locs cells slots ls hR hL hl h1 h2 => lv_ifnonnull C.1 C.2.1 hd ht (kk X C E H locs cells slots ls hR hL hl h1 h2)
theorem V.ifnull {x : Nat} {off : Int} (hd : decode (m_C i) pc = .ok (.ifnull off, 3)) (kk : V G i (pc + 3) lv st h c s Q) : V G i pc lv (.ref x :: st) h c s Q :=
  fun X C E H locs cells slots ls hR hL hl h1 h2 => lv_ifnull C.1 C.2.1 hd (kk X C E H locs cells slots ls hR hL hl h1 h2)
theorem V.ifnullN {off : Int} {tgt : Nat} (hd : decode (m_C i) pc = .ok (.ifnull off, 3)) (ht : (pc : Int) + off = (tgt : Int)) (kk : V G i (tgt) lv st h c s Q) : V G i pc lv (.null :: st) h c s Q :=
  fun X C E H locs cells slots ls hR hL hl h1 h2 => lv_ifnullN C.1 C.2.1 hd ht (kk X C E H locs cells slots ls hR hL hl h1 h2)
theorem V.ifnonnullN {off : Int} (hd : decode (m_C i) pc = .ok (.ifnonnull off, 3)) (kk : V G i (pc + 3) lv st h c s Q) : V G i pc lv (.null :: st) h c s Q :=
  fun X C E H locs cells slots ls hR hL hl h1 h2 => lv_ifnonnullN C.1 C.2.1 hd (kk X C E H locs cells slots ls hR hL hl h1 h2)
theorem V.lookup {dflt : Int} {ps : Array (Int × Int)} {len : Nat} {x : Int32} {off : Int} {tgt : Nat} (hd : decode (m_C i) pc = .ok (.lookupswitch dflt ps, len)) (hp : (ps.toList.zip (ps.toList.drop 1)).all (fun (a, next) => a.1 < next.1) = true) (ho : Op.lookupswitch.offset ps.toList dflt x.toInt = off) (ht : (pc : Int) + off = (tgt : Int)) (kk : V G i tgt lv st h c s Q) : V G i pc lv (.int x :: st) h c s Q :=
  fun X C E H locs cells slots ls hR hL hl h1 h2 => lv_lookup C.1 C.2.1 hd hp ho ht (kk X C E H locs cells slots ls hR hL hl h1 h2)
theorem V.tableOut {dflt lo hi : Int} {offs : Array Int} {len : Nat} {x : Int32} {tgt : Nat} (hd : decode (m_C i) pc = .ok (.tableswitch dflt lo hi offs, len)) (hx : x.toInt < lo ∨ hi < x.toInt) (ht : (pc : Int) + dflt = (tgt : Int)) (kk : V G i tgt lv st h c s Q) : V G i pc lv (.int x :: st) h c s Q :=
  fun X C E H locs cells slots ls hR hL hl h1 h2 => lv_tableOut C.1 C.2.1 hd hx ht (kk X C E H locs cells slots ls hR hL hl h1 h2)
theorem V.tableIn {dflt lo hi : Int} {offs : Array Int} {len : Nat} {x : Int32} {off : Int} {tgt : Nat} (hd : decode (m_C i) pc = .ok (.tableswitch dflt lo hi offs, len)) (hx1 : ¬ x.toInt < lo) (hx2 : ¬ hi < x.toInt) (ho : offs[(x.toInt - lo).toNat]? = some off) (ht : (pc : Int) + off = (tgt : Int)) (kk : V G i tgt lv st h c s Q) : V G i pc lv (.int x :: st) h c s Q :=
  fun X C E H locs cells slots ls hR hL hl h1 h2 => lv_tableIn C.1 C.2.1 hd hx1 hx2 ho ht (kk X C E H locs cells slots ls hR hL hl h1 h2)
/-- an int constant of the pool -/
theorem V.ldc {idx : Nat} {v : Int32} (hd : decode (m_C i) pc = .ok (.ldc idx, 2)) (hw : Jvm.Cond.constant (m_Y i).cls idx v ∈ tb) (kk : V G i (pc + 2) lv (.int v :: st) h c s Q) : V G i pc lv st h c s Q :=
  fun X C E H locs cells slots ls hR hL hl h1 h2 => lv_ldc C.1 C.2.1 C.2.2.2.2.2.1 (C.2.2.2.2.2.2.1 _ hw) hd (kk X C E H locs cells slots ls hR hL hl h1 h2)
theorem V.ldc2 {idx : Nat} {v : Int64} (hd : decode (m_C i) pc = .ok (.ldc2_w idx, 3)) (hw : Jvm.Cond.constantLong (m_Y i).cls idx v ∈ tb) (kk : V G i (pc + 3) lv (.long v :: st) h c s Q) : V G i pc lv st h c s Q :=
  fun X C E H locs cells slots ls hR hL hl h1 h2 => lv_ldc2 C.1 C.2.1 C.2.2.2.2.2.1 (C.2.2.2.2.2.2.1 _ hw) hd (kk X C E H locs cells slots ls hR hL hl h1 h2)
theorem V.ireturn {v : Int32} {ty : FieldType} (hd : decode (m_C i) pc = .ok (.ireturn, 1)) (hr : m_R i = some ty) (hn : narrow ty (.int v) = .int v) (hq : Q (some (.int v)) h) : V G i pc lv [.int v] h c s Q :=
  fun X C E H locs cells slots ls hR hL hl h1 h2 => W.widen (Nat.le_trans (Nat.le_add_right _ _) h1) (Nat.le_trans (Nat.le_add_right _ _) h2) (E pc ls H locs (some (.int v)) h hq hR hL ⟨hd, ty, hr, hn⟩)
theorem V.lreturn {v : Int64} (hd : decode (m_C i) pc = .ok (.lreturn, 1)) (hr : m_R i = some .long) (hq : Q (some (.long v)) h) : V G i pc lv [.long v] h c s Q :=
  fun X C E H locs cells slots ls hR hL hl h1 h2 => W.widen (Nat.le_trans (Nat.le_add_right _ _) h1) (Nat.le_trans (Nat.le_add_right _ _) h2) (E pc ls H locs (some (.long v)) h hq hR hL ⟨hd, hr⟩)
theorem V.areturn {a : Nat} {rt : FieldType} (hd : decode (m_C i) pc = .ok (.areturn, 1)) (hr : m_R i = some rt) (ho : (∃ n, rt = .object n) ∨ ∃ t, rt = .array t) (hq : Q (some (.ref a)) h) : V G i pc lv [.ref a] h c s Q :=
  fun X C E H locs cells slots ls hR hL hl h1 h2 => W.widen (Nat.le_trans (Nat.le_add_right _ _) h1) (Nat.le_trans (Nat.le_add_right _ _) h2) (E pc ls H locs (some (.ref a)) h hq hR hL ⟨hd, rt, hr, ho⟩)
theorem V.areturnN {rt : FieldType} (hd : decode (m_C i) pc = .ok (.areturn, 1)) (hr : m_R i = some rt) (ho : (∃ n, rt = .object n) ∨ ∃ t, rt = .array t) (hq : Q (some .null) h) : V G i pc lv [.null] h c s Q :=
  fun X C E H locs cells slots ls hR hL hl h1 h2 => W.widen (Nat.le_trans (Nat.le_add_right _ _) h1) (Nat.le_trans (Nat.le_add_right _ _) h2) (E pc ls H locs (some .null) h hq hR hL ⟨hd, rt, hr, ho⟩)
theorem V.vreturn (hd : decode (m_C i) pc = .ok (.return_, 1)) (hr : m_R i = none) (hq : Q (none) h) : V G i pc lv [] h c s Q :=
  fun X C E H locs cells slots ls hR hL hl h1 h2 => W.widen (Nat.le_trans (Nat.le_add_right _ _) h1) (Nat.le_trans (Nat.le_add_right _ _) h2) (E pc ls H locs (none) h hq hR hL ⟨hd, hr⟩)
end VI
end
section
section VH
variable {G : GG} {i : MM} {pc : Nat} {lv : List (Nat × Value)} {st : List Value} {h : HH} {c s : Nat} {Q Q' : Option Value → HH → Prop}
/-- entry idx of the pool of 'own' is field k of an object of kind kd -/
def f_ok (own : String) (idx kd k : Nat) : Prop := ∃ (C : String) (T : u_T) (N : Nat) (ref : String), vwCl[kd]? = some (C, T, N) ∧ (∀ w ∈ u_ws C T N, w ∈ tb) ∧ k < N ∧
  (Cond.fieldLink own idx ref (T k).2.1 (T k).2.2.1 ∈ tb ∨ ∃ host, (own, idx, ref, (T k).2.1, (T k).2.2.1, host) ∈ n_F) ∧ (ref = (T k).1 ∨ Cond.sameField ref (T k).1 (T k).2.1 (T k).2.2.1 ∈ tb)
theorem V.getf {a idx k : Nat} {v : Value} (hd : decode (m_C i) pc = .ok (.getfield idx, 3)) (ha : g_0 G ≤ a ∧ a < h.2.2) (hf : f_ok (m_Y i).cls idx (h.1 a).1 k) (hv : h.2.1 a k = v) (kk : V G i (pc + 3) lv (v :: st) h c s Q) : V G i pc lv (.ref a :: st) h c s Q := by
  intro X C E H locs cells slots ls hR hL hl h1 h2
  obtain ⟨C', T, N, ref, e1, e2, e3, e4, e5⟩ := hf
  obtain ⟨hx, hb, -, -, -, hown, hts, hK, -⟩ := id C
  obtain ⟨cell, q1, q2, q3, q4⟩ := (hR.2.2.2 a ha.1 ha.2).1 _ e1
  obtain ⟨hS, hfc, kC, hkC, hkind⟩ := hK.1 _ _ e1
  obtain ⟨cf, kf, fi, f, hi, hsl⟩ := hS k e3
  have hst := (u_facts hfc hkC (u_lays hts e2 e3) hi).1
  have hi' : X.2.2.2.1.fieldFound? ref (T k).2.1 (T k).2.2.1 = some (cf, kf, fi, f) := by
    rcases e5 with e5 | e5
    · rw [e5]; exact hi
    · exact u_same (hts _ e5) _ hi
  have hslot : cell.slots[f.slot]? = some v := by rw [hsl, q4 k e3, hv]
  have hkn : cell.vm ≠ .unknown := by rw [q3]; exact fun h => by cases h
  have kk' := kk X C E H locs cells slots ls hR hL hl h1 h2
  rcases e4 with e4 | ⟨host, e4⟩
  · exact W.getf hx hb hown (hts _ e4) hi' hst q1 hkn hslot rfl rfl hd kk'
  · exact va_Wgetf hx hb hown (va_Nw.use rfl (hK.2.2.1 _ e4)) hi' hst q1 hkn hslot rfl rfl hd kk'
theorem Rep.upd {h h' : HH} {H H' : Heap} {a : Nat} (hR : Rep G h H) (hk : h'.1 = h.1) (hz : h'.2.2 = h.2.2) (ho : ∀ b, b ≠ a → h'.2.1 b = h.2.1 b) (z : H'.size = H.size) (o : ∀ q : Nat, q ≠ a → H'[q]? = H[q]?) (ha : g_0 G ≤ a) (hc : a < h.2.2 → c_ok G h' H' a) : Rep G h' H' := by
  obtain ⟨r1, r2, r3, r4⟩ := hR
  refine ⟨by rw [z, hz]; exact r1, by rw [hz]; exact r2, fun q hq => ?_, fun b hb1 hb2 => ?_⟩
  · rw [o q (by omega)]; exact r3 q hq
  · by_cases e : b = a
    · subst e; exact hc (by rw [← hz]; exact hb2)
    · obtain ⟨c1, c2⟩ := r4 b hb1 (by rw [← hz]; exact hb2)
      refine ⟨fun r hr => ?_, fun ty hty => ?_⟩
      · rw [hk] at hr ⊢
        rw [ho b e]
        exact (c1 r hr).kept (o b e)
      · rw [hk] at hty ⊢
        rw [ho b e, o b e]
        exact c2 ty hty
theorem h_put_self {h : HH} {a k : Nat} {v : Value} : (h_put h a k v).2.1 a = updV (h.2.1 a) k v := by
  funext j
  show (if a = a ∧ j = k then v else h.2.1 a j) = if j = k then v else h.2.1 a j
  by_cases e : j = k <;> simp [e]
theorem h_put_ne {h : HH} {a b k : Nat} {v : Value} (e : b ≠ a) : (h_put h a k v).2.1 b = h.2.1 b := by
  funext j
  show (if b = a ∧ j = k then v else h.2.1 b j) = _
  simp [e]
/-- what a class's table must say, for stores -/
def t_okk (T : u_T) (N : Nat) : Prop := (∃ ty0 : Nat → FieldType, ∀ k, k < N → parseFieldDescriptor (T k).2.2.1 = some (ty0 k)) ∧ ∀ a, a < N → ∀ b, b < N → a ≠ b → (T a).2.1 ≠ (T b).2.1
def p_ok (own : String) (idx kd k : Nat) (ty : FieldType) (ini : Prop) : Prop := ∃ (C : String) (T : u_T) (N : Nat) (ref : String), vwCl[kd]? = some (C, T, N) ∧ (∀ w ∈ u_ws C T N, w ∈ tb) ∧ k < N ∧
  (Cond.fieldLink own idx ref (T k).2.1 (T k).2.2.1 ∈ tb ∨ ((T k).2.2.2 = false ∧ ∃ host, (own, idx, ref, (T k).2.1, (T k).2.2.1, host) ∈ n_F)) ∧ (ref = (T k).1 ∨ Cond.sameField ref (T k).1 (T k).2.1 (T k).2.2.1 ∈ tb) ∧
  t_okk T N ∧ parseFieldDescriptor (T k).2.2.1 = some ty ∧ ((T k).2.2.2 = false ∨ ((T k).2.2.2 = true ∧ ini ∧ (T k).1 = own))
theorem V.putf {a idx k : Nat} {v : Value} {ty : FieldType} (hd : decode (m_C i) pc = .ok (.putfield idx, 3)) (ha : g_0 G ≤ a ∧ a < h.2.2) (hf : p_ok (m_Y i).cls idx (h.1 a).1 k ty ((m_Y i).name = "<init>")) (hn : narrow ty v = v) (hfit : fits ty v = true) (kk : V G i (pc + 3) lv st (h_put h a k v) c s Q) : V G i pc lv (v :: .ref a :: st) h c s Q := by
  intro X C E H locs cells slots ls hR hL hl h1 h2
  obtain ⟨C', T, N, ref, e1, e2, e3, e4, e5, ⟨⟨ty0, e6⟩, e7⟩, e8, e9⟩ := hf
  obtain ⟨hx, hb, -, -, -, hown, hts, hK, hini, -⟩ := id C
  obtain ⟨cell, q1, q2, q3, q4⟩ := (hR.2.2.2 a ha.1 ha.2).1 _ e1
  obtain ⟨hS, hfc, kC, hkC, hkind⟩ := hK.1 _ _ e1
  have hap : ∀ x y, x < N → y < N → x ≠ y → (g_dI G (h.1 a).1) x ≠ (g_dI G (h.1 a).1) y := by
    intro x y hx hy hne
    obtain ⟨_, _, _, fa, hia, ea⟩ := hS x hx
    obtain ⟨_, _, _, fb, hib, eb⟩ := hS y hy
    rw [← ea, ← eb]
    refine u_apart (u_lays hts e2 hx) (u_lays hts e2 hy) hia hib ?_
    rw [(State.fieldFound?_type hia (e6 x hx)).1, (State.fieldFound?_type hib (e6 y hy)).1]
    exact e7 x hx y hy hne
  obtain ⟨cf, kf, fi, f, hi, hsl⟩ := hS k e3
  have hst := (u_facts hfc hkC (u_lays hts e2 e3) hi).1
  have hi' : X.2.2.2.1.fieldFound? ref (T k).2.1 (T k).2.2.1 = some (cf, kf, fi, f) := by
    rcases e5 with e5 | e5
    · rw [e5]; exact hi
    · exact u_same (hts _ e5) _ hi
  have hlt : f.slot < cell.slots.size := by rw [hsl]; exact k2_hasslot (q4 k e3)
  have go : ∀ H' : Heap, H'[a]? = some (cell.setSlot f.slot v) → H'.size = H.size → (∀ q : Nat, q ≠ a → H'[q]? = H[q]?) → XW G X H' (locs ++ [⟨a, f.slot⟩]) cells slots (F0 (x_m X) (pc + 3) ls st) := by
    intro H' g1 g2 g3
    refine kk X C E H' (locs ++ [⟨a, f.slot⟩]) cells slots ls (hR.upd (h' := h_put h a k v) (a := a) rfl rfl (fun b hb => h_put_ne hb) g2 g3 ha.1 (fun _ => ?_)) (t_lc hL ha.1) hl h1 h2
    refine ⟨fun r hr => ?_, fun ty' hty' => ?_⟩
    · have hr' : r = (C', T, N) := Option.some.inj (hr.symm.trans e1)
      subst hr'
      rw [h_put_self]
      rw [hsl] at g1
      exact ⟨_, g1, q2, q3, t_set q4 hap e3 v⟩
    · exact absurd hty' (by rw [show k_ty ((h_put h a k v).1 a).1 = none from k_dis _ _ e1]; exact fun h => by cases h)
  rcases e9 with e9 | ⟨e9, e10, e11⟩
  · have hlay := hts _ (e2 _ (u_in_lay e3))
    unfold u_lay at hlay
    rw [if_neg (by rw [e9]; decide)] at hlay
    have h6 := u_store hfc hkC hkind hlay hi e8 hn hfit
    rcases e4 with e4 | ⟨-, host, e4⟩
    · exact W.putK hx hb (f := f) ⟨hown, hts _ e4, ⟨_, _, _, hi'⟩, hst⟩ (by rw [q2]; exact h6) q1 q3 hlt rfl rfl hd go
    · exact va_WputK hx hb (f := f) hown (va_Nw.use rfl (hK.2.2.1 _ e4)) hi' hst (by rw [q2]; exact h6) q1 q3 hlt rfl rfl hd go
  · have hlay := hts _ (e2 _ (u_in_lay e3))
    unfold u_lay at hlay
    rw [if_pos e9] at hlay
    have hcf : (x_m X).cls = cf := by
      obtain ⟨_, _, c', _, _, _, -, -, hf', -, -, -, hown2, -⟩ := Cond.laysFinal_spec hlay
      have e1 : c' = cf := by have := hi.symm.trans hf'; simp at this; exact this.1.symm
      rw [e11] at hown2
      rw [← e1]; exact Option.some.inj (hown.symm.trans hown2)
    have h6 := u_fits hfc hkC hkind (Or.inr hlay) hi e8 hn hfit
    rcases e4 with e4 | ⟨e4, -⟩
    · exact W.putFinK hx hb hown (hts _ e4) hi' hst hcf (hini e10) (by rw [q2]; exact h6) q1 q3 hlt rfl rfl hd go
    · rw [e9] at e4; cases e4
theorem Rep.push {h : HH} {H H' : Heap} {kd n : Nat} {f : Nat → Value} (hR : Rep G h H) (z : H'.size = H.size + 1) (o : ∀ q : Nat, q < H.size → H'[q]? = H[q]?) (hc : c_ok G (h_new h kd n f) H' h.2.2) : Rep G (h_new h kd n f) H' := by
  obtain ⟨r1, r2, r3, r4⟩ := hR
  refine ⟨by rw [z, r1]; rfl, Nat.le_succ_of_le r2, fun q hq => ?_, fun b hb1 hb2 => ?_⟩
  · rw [o q (by omega)]; exact r3 q hq
  · by_cases e : b = h.2.2
    · subst e; exact hc
    · have hb3 : b < h.2.2 := by have : b < h.2.2 + 1 := hb2; omega
      have k1 : (h_new h kd n f).1 b = h.1 b := by show (if b = h.2.2 then _ else _) = _; rw [if_neg e]
      have k2 : (h_new h kd n f).2.1 b = h.2.1 b := by
        funext j
        show (if b = h.2.2 then _ else _) = _
        rw [if_neg e]
      obtain ⟨c1, c2⟩ := r4 b hb1 hb3
      refine ⟨fun r hr => ?_, fun ty hty => ?_⟩
      · rw [k1] at hr ⊢
        rw [k2]
        exact (c1 r hr).kept (o b (by omega))
      · rw [k1] at hty ⊢
        rw [k2, o b (by omega)]
        exact c2 ty hty
theorem h_new_k {h : HH} {kd n : Nat} {f : Nat → Value} : (h_new h kd n f).1 h.2.2 = (kd, n) := by show (if h.2.2 = h.2.2 then _ else _) = _; rw [if_pos rfl]
theorem h_new_f {h : HH} {kd n : Nat} {f : Nat → Value} : (h_new h kd n f).2.1 h.2.2 = f := by
  funext j
  show (if h.2.2 = h.2.2 then _ else _) = _
  rw [if_pos rfl]
/-- entry idx of the pool of 'own' is the class of kind kd, of N fields, whose defaults are f -/
def w_ok (own : String) (idx kd N : Nat) (f : Nat → Value) : Prop := ∃ (C : String) (T : u_T) (ty : Nat → FieldType), vwCl[kd]? = some (C, T, N) ∧ (∀ w ∈ u_ws C T N, w ∈ tb) ∧ (∀ k, k < N → parseFieldDescriptor (T k).2.2.1 = some (ty k)) ∧
  Cond.classLink own idx C ∈ tb ∧ Cond.instantiable C N ∈ tb ∧ Cond.initialized C ∈ tb ∧ ∀ j, j < N → defaultValue (ty j) = f j
theorem V.new {idx kd N c2 s2 : Nat} {f : Nat → Value} (hd : decode (m_C i) pc = .ok (.new idx, 3)) (hf : w_ok (m_Y i).cls idx kd N f) (hc : c2 + 1 ≤ c) (hs : s2 + N ≤ s) (kk : V G i (pc + 3) lv (.ref h.2.2 :: st) (h_new h kd N f) c2 s2 Q) : V G i pc lv st h c s Q := by
  intro X C E H locs cells slots ls hR hL hl h1 h2
  obtain ⟨C', T, ty, e1, e2, e3, e4, e5, e6, e7⟩ := hf
  obtain ⟨hx, hb, -, -, -, hown, hts, hK, -, -, -, hrc, hrs⟩ := id C
  have hKn := hK.1 _ _ e1
  refine W.newcK hx hb hown (hts _ e4) (hts _ e5) (hts _ e6) rfl hd (by omega) (by omega) hKn.2.1 hR.1 fun H1 kC hkC g1 g2 g3 => ?_
  refine kk X C E H1 locs (cells + 1) (slots + N) ls (hR.push (by rw [g2, hR.1]) (fun q hq => g3 q (by rw [← hR.1]; exact hq)) ⟨fun r hr => ?_, fun ty' hty' => ?_⟩) hL hl (by omega) (by omega)
  · rw [h_new_k] at hr ⊢
    rw [h_new_f]
    have hr' : r = (C', T, N) := Option.some.inj (hr.symm.trans e1)
    subst hr'
    exact (u_born ty hts e2 hKn hkC g1 e3).to e7
  · rw [h_new_k] at hty'
    exact absurd hty' (by rw [show k_ty kd = none from k_dis _ _ e1]; exact fun h => by cases h)
theorem V.newarray {at_ : ArrayType} {kd c2 s2 : Nat} {n : Int32} {N : Nat} (hd : decode (m_C i) pc = .ok (.newarray at_, 2)) (hk : k_ty kd = some (newarray.typeOf at_)) (hw : Cond.arrayClass (newarray.typeOf at_) ∈ tb) (hn : n = nI N) (hN : N < 2 ^ 20) (hc : c2 + 1 ≤ c) (hs : s2 + N ≤ s)
    (kk : V G i (pc + 2) lv (.ref h.2.2 :: st) (h_new h kd N (fun _ => defaultValue (newarray.typeOf at_))) c2 s2 Q) : V G i pc lv (.int n :: st) h c s Q := by
  intro X C E H locs cells slots ls hR hL hl h1 h2
  obtain ⟨hx, hb, -, -, -, hown, hts, hK, -, -, -, hrc, hrs⟩ := id C
  subst hn
  have hbt : N * componentBytes (newarray.typeOf at_) ≤ 536870912 := by
    have : componentBytes (newarray.typeOf at_) ≤ 8 := by cases at_ <;> decide
    have h9 := Nat.mul_le_mul_left N this
    omega
  refine va_newaK hx hb (hts _ hw) rfl hd rfl (nI_pos (by omega)) (nI_clamp (by omega)) hbt (by omega) (by omega) hR.1 fun H1 cA g1 g2 g3 hA hNm => ?_
  refine kk X C E H1 locs (cells + 1) (slots + N) ls (hR.push (by rw [g2, hR.1]) (fun q hq => g3 q (by rw [← hR.1]; exact hq)) ⟨fun r hr => ?_, fun ty' hty' => ?_⟩) hL hl (by omega) (by omega)
  · rw [h_new_k] at hr
    exact absurd hk (by rw [show k_ty kd = none from k_dis _ _ hr]; exact fun h => by cases h)
  · rw [h_new_k] at hty' ⊢
    rw [h_new_f]
    have e1 : cA = g_dA G kd := Option.some.inj (hNm.symm.trans (hK.2.1 _ _ hk).2)
    rw [← e1]
    exact g1
theorem a_in {j : Int32} {n : Nat} (h : vp_in j n) : j.toNatClampNeg < n := Nat.not_le.mp fun q => h (Or.inr q)
theorem a_sz {cA : ClassId} {n : Nat} {f : Nat → Value} {j : Int32} (h : vp_in j n) : ¬ (j < 0 ∨ (arrV cA n f).slots.size ≤ j.toNatClampNeg) := by rw [arrV_size]; exact h
theorem V.alen {a : Nat} {ty : FieldType} {n : Int32} (hd : decode (m_C i) pc = .ok (.arraylength, 1)) (ha : g_0 G ≤ a ∧ a < h.2.2) (hk : k_ty (h.1 a).1 = some ty) (hn : nI (h.1 a).2 = n) (kk : V G i (pc + 1) lv (.int n :: st) h c s Q) : V G i pc lv (.ref a :: st) h c s Q := by
  intro X C E H locs cells slots ls hR hL hl h1 h2
  obtain ⟨hx, hb, -, -, -, -, -, hK, -⟩ := id C
  exact W.alen hx hb ((hR.2.2.2 a ha.1 ha.2).2 ty hk) ((hK.2.1 _ _ hk).1 _ _) (by rw [arrV_size]; exact hn) rfl rfl hd (kk X C E H locs cells slots ls hR hL hl h1 h2)
theorem V.iaload {a : Nat} {j : Int32} {v : Value} (hd : decode (m_C i) pc = .ok (.iaload, 1)) (ha : g_0 G ≤ a ∧ a < h.2.2) (hk : k_ty (h.1 a).1 = some .int) (hin : vp_in j (h.1 a).2) (hv : h.2.1 a j.toNatClampNeg = v) (kk : V G i (pc + 1) lv (v :: st) h c s Q) : V G i pc lv (.int j :: .ref a :: st) h c s Q := by
  intro X C E H locs cells slots ls hR hL hl h1 h2
  obtain ⟨hx, hb, -, -, -, -, -, hK, -⟩ := id C
  exact W.iald hx hb ((hR.2.2.2 a ha.1 ha.2).2 _ hk) ((hK.2.1 _ _ hk).1 _ _) (fun q => by cases q) (a_sz hin) (by rw [arrV_read _ _ (a_in hin), hv]) rfl rfl hd (kk X C E H locs cells slots ls hR hL hl h1 h2)
theorem V.caload {a : Nat} {j : Int32} {v : Value} (hd : decode (m_C i) pc = .ok (.caload, 1)) (ha : g_0 G ≤ a ∧ a < h.2.2) (hk : k_ty (h.1 a).1 = some .char) (hin : vp_in j (h.1 a).2) (hv : h.2.1 a j.toNatClampNeg = v) (kk : V G i (pc + 1) lv (v :: st) h c s Q) : V G i pc lv (.int j :: .ref a :: st) h c s Q := by
  intro X C E H locs cells slots ls hR hL hl h1 h2
  obtain ⟨hx, hb, -, -, -, -, -, hK, -⟩ := id C
  exact W.cald hx hb ((hR.2.2.2 a ha.1 ha.2).2 _ hk) ((hK.2.1 _ _ hk).1 _ _) (fun q => by cases q) (a_sz hin) (by rw [arrV_read _ _ (a_in hin), hv]) rfl rfl hd (kk X C E H locs cells slots ls hR hL hl h1 h2)
theorem V.baload {a : Nat} {j : Int32} {v : Value} (hd : decode (m_C i) pc = .ok (.baload, 1)) (ha : g_0 G ≤ a ∧ a < h.2.2) (hk : k_ty (h.1 a).1 = some .byte) (hin : vp_in j (h.1 a).2) (hv : h.2.1 a j.toNatClampNeg = v) (kk : V G i (pc + 1) lv (v :: st) h c s Q) : V G i pc lv (.int j :: .ref a :: st) h c s Q := by
  intro X C E H locs cells slots ls hR hL hl h1 h2
  obtain ⟨hx, hb, -, -, -, -, -, hK, -⟩ := id C
  exact W.bald hx hb ((hR.2.2.2 a ha.1 ha.2).2 _ hk) ((hK.2.1 _ _ hk).1 _ _) (fun q => by cases q) (a_sz hin) (by rw [arrV_read _ _ (a_in hin), hv]) rfl rfl hd (kk X C E H locs cells slots ls hR hL hl h1 h2)
theorem V.zaload {a : Nat} {j : Int32} {v : Value} (hd : decode (m_C i) pc = .ok (.baload, 1)) (ha : g_0 G ≤ a ∧ a < h.2.2) (hk : k_ty (h.1 a).1 = some .boolean) (hin : vp_in j (h.1 a).2) (hv : h.2.1 a j.toNatClampNeg = v) (kk : V G i (pc + 1) lv (v :: st) h c s Q) : V G i pc lv (.int j :: .ref a :: st) h c s Q := by
  intro X C E H locs cells slots ls hR hL hl h1 h2
  obtain ⟨hx, hb, -, -, -, -, -, hK, -⟩ := id C
  exact W.zald hx hb ((hR.2.2.2 a ha.1 ha.2).2 _ hk) ((hK.2.1 _ _ hk).1 _ _) (fun q => by cases q) (a_sz hin) (by rw [arrV_read _ _ (a_in hin), hv]) rfl rfl hd (kk X C E H locs cells slots ls hR hL hl h1 h2)
theorem V.saload {a : Nat} {j : Int32} {v : Value} (hd : decode (m_C i) pc = .ok (.saload, 1)) (ha : g_0 G ≤ a ∧ a < h.2.2) (hk : k_ty (h.1 a).1 = some .short) (hin : vp_in j (h.1 a).2) (hv : h.2.1 a j.toNatClampNeg = v) (kk : V G i (pc + 1) lv (v :: st) h c s Q) : V G i pc lv (.int j :: .ref a :: st) h c s Q := by
  intro X C E H locs cells slots ls hR hL hl h1 h2
  obtain ⟨hx, hb, -, -, -, -, -, hK, -⟩ := id C
  exact W.sald hx hb ((hR.2.2.2 a ha.1 ha.2).2 _ hk) ((hK.2.1 _ _ hk).1 _ _) (fun q => by cases q) (a_sz hin) (by rw [arrV_read _ _ (a_in hin), hv]) rfl rfl hd (kk X C E H locs cells slots ls hR hL hl h1 h2)
theorem V.laload {a : Nat} {j : Int32} {v : Value} (hd : decode (m_C i) pc = .ok (.laload, 1)) (ha : g_0 G ≤ a ∧ a < h.2.2) (hk : k_ty (h.1 a).1 = some .long) (hin : vp_in j (h.1 a).2) (hv : h.2.1 a j.toNatClampNeg = v) (kk : V G i (pc + 1) lv (v :: st) h c s Q) : V G i pc lv (.int j :: .ref a :: st) h c s Q := by
  intro X C E H locs cells slots ls hR hL hl h1 h2
  obtain ⟨hx, hb, -, -, -, -, -, hK, -⟩ := id C
  exact W.lald hx hb ((hR.2.2.2 a ha.1 ha.2).2 _ hk) ((hK.2.1 _ _ hk).1 _ _) (fun q => by cases q) (a_sz hin) (by rw [arrV_read _ _ (a_in hin), hv]) rfl rfl hd (kk X C E H locs cells slots ls hR hL hl h1 h2)
theorem V.iastore {a : Nat} {j : Int32} {x : Int32} {v : Value} (hd : decode (m_C i) pc = .ok (.iastore, 1)) (ha : g_0 G ≤ a ∧ a < h.2.2) (hk : k_ty (h.1 a).1 = some .int) (hin : vp_in j (h.1 a).2) (hv : .int x = v) (kk : V G i (pc + 1) lv st (h_put h a j.toNatClampNeg v) c s Q) : V G i pc lv (.int x :: .int j :: .ref a :: st) h c s Q := by
  intro X C E H locs cells slots ls hR hL hl h1 h2
  obtain ⟨hx, hb, -, -, -, -, -, hK, -⟩ := id C
  subst hv
  refine W.iast hx hb ((hR.2.2.2 a ha.1 ha.2).2 _ hk) ((hK.2.1 _ _ hk).1 _ _) (fun q => by cases q) (a_sz hin) rfl rfl hd fun H' g1 g2 g3 => ?_
  refine kk X C E H' _ cells slots ls (hR.upd (h' := h_put h a j.toNatClampNeg _) (a := a) rfl rfl (fun b hb => h_put_ne hb) g2 g3 ha.1 (fun _ => ⟨fun r hr => ?_, fun ty' hty' => ?_⟩)) (t_lc hL ha.1) hl h1 h2
  · exact absurd hk (by rw [show k_ty (h.1 a).1 = none from k_dis _ _ hr]; exact fun h => by cases h)
  · rw [h_put_self, g1, arrV_store]
    rfl
theorem V.castore {a : Nat} {j : Int32} {x : Int32} {v : Value} (hd : decode (m_C i) pc = .ok (.castore, 1)) (ha : g_0 G ≤ a ∧ a < h.2.2) (hk : k_ty (h.1 a).1 = some .char) (hin : vp_in j (h.1 a).2) (hv : narrow .char (.int x) = v) (kk : V G i (pc + 1) lv st (h_put h a j.toNatClampNeg v) c s Q) : V G i pc lv (.int x :: .int j :: .ref a :: st) h c s Q := by
  intro X C E H locs cells slots ls hR hL hl h1 h2
  obtain ⟨hx, hb, -, -, -, -, -, hK, -⟩ := id C
  subst hv
  refine W.cast hx hb ((hR.2.2.2 a ha.1 ha.2).2 _ hk) ((hK.2.1 _ _ hk).1 _ _) (fun q => by cases q) (a_sz hin) rfl rfl hd fun H' g1 g2 g3 => ?_
  refine kk X C E H' _ cells slots ls (hR.upd (h' := h_put h a j.toNatClampNeg _) (a := a) rfl rfl (fun b hb => h_put_ne hb) g2 g3 ha.1 (fun _ => ⟨fun r hr => ?_, fun ty' hty' => ?_⟩)) (t_lc hL ha.1) hl h1 h2
  · exact absurd hk (by rw [show k_ty (h.1 a).1 = none from k_dis _ _ hr]; exact fun h => by cases h)
  · rw [h_put_self, g1, arrV_store]
    rfl
theorem V.bastore {a : Nat} {j : Int32} {x : Int32} {v : Value} (hd : decode (m_C i) pc = .ok (.bastore, 1)) (ha : g_0 G ≤ a ∧ a < h.2.2) (hk : k_ty (h.1 a).1 = some .byte) (hin : vp_in j (h.1 a).2) (hv : narrow .byte (.int x) = v) (kk : V G i (pc + 1) lv st (h_put h a j.toNatClampNeg v) c s Q) : V G i pc lv (.int x :: .int j :: .ref a :: st) h c s Q := by
  intro X C E H locs cells slots ls hR hL hl h1 h2
  obtain ⟨hx, hb, -, -, -, -, -, hK, -⟩ := id C
  subst hv
  refine W.bast hx hb ((hR.2.2.2 a ha.1 ha.2).2 _ hk) ((hK.2.1 _ _ hk).1 _ _) (fun q => by cases q) (a_sz hin) rfl rfl hd fun H' g1 g2 g3 => ?_
  refine kk X C E H' _ cells slots ls (hR.upd (h' := h_put h a j.toNatClampNeg _) (a := a) rfl rfl (fun b hb => h_put_ne hb) g2 g3 ha.1 (fun _ => ⟨fun r hr => ?_, fun ty' hty' => ?_⟩)) (t_lc hL ha.1) hl h1 h2
  · exact absurd hk (by rw [show k_ty (h.1 a).1 = none from k_dis _ _ hr]; exact fun h => by cases h)
  · rw [h_put_self, g1, arrV_store]
    rfl
theorem V.zastore {a : Nat} {j : Int32} {x : Int32} {v : Value} (hd : decode (m_C i) pc = .ok (.bastore, 1)) (ha : g_0 G ≤ a ∧ a < h.2.2) (hk : k_ty (h.1 a).1 = some .boolean) (hin : vp_in j (h.1 a).2) (hv : narrow .boolean (.int x) = v) (kk : V G i (pc + 1) lv st (h_put h a j.toNatClampNeg v) c s Q) : V G i pc lv (.int x :: .int j :: .ref a :: st) h c s Q := by
  intro X C E H locs cells slots ls hR hL hl h1 h2
  obtain ⟨hx, hb, -, -, -, -, -, hK, -⟩ := id C
  subst hv
  refine W.zast hx hb ((hR.2.2.2 a ha.1 ha.2).2 _ hk) ((hK.2.1 _ _ hk).1 _ _) (fun q => by cases q) (a_sz hin) rfl rfl hd fun H' g1 g2 g3 => ?_
  refine kk X C E H' _ cells slots ls (hR.upd (h' := h_put h a j.toNatClampNeg _) (a := a) rfl rfl (fun b hb => h_put_ne hb) g2 g3 ha.1 (fun _ => ⟨fun r hr => ?_, fun ty' hty' => ?_⟩)) (t_lc hL ha.1) hl h1 h2
  · exact absurd hk (by rw [show k_ty (h.1 a).1 = none from k_dis _ _ hr]; exact fun h => by cases h)
  · rw [h_put_self, g1, arrV_store]
    rfl
theorem V.sastore {a : Nat} {j : Int32} {x : Int32} {v : Value} (hd : decode (m_C i) pc = .ok (.sastore, 1)) (ha : g_0 G ≤ a ∧ a < h.2.2) (hk : k_ty (h.1 a).1 = some .short) (hin : vp_in j (h.1 a).2) (hv : narrow .short (.int x) = v) (kk : V G i (pc + 1) lv st (h_put h a j.toNatClampNeg v) c s Q) : V G i pc lv (.int x :: .int j :: .ref a :: st) h c s Q := by
  intro X C E H locs cells slots ls hR hL hl h1 h2
  obtain ⟨hx, hb, -, -, -, -, -, hK, -⟩ := id C
  subst hv
  refine W.sast hx hb ((hR.2.2.2 a ha.1 ha.2).2 _ hk) ((hK.2.1 _ _ hk).1 _ _) (fun q => by cases q) (a_sz hin) rfl rfl hd fun H' g1 g2 g3 => ?_
  refine kk X C E H' _ cells slots ls (hR.upd (h' := h_put h a j.toNatClampNeg _) (a := a) rfl rfl (fun b hb => h_put_ne hb) g2 g3 ha.1 (fun _ => ⟨fun r hr => ?_, fun ty' hty' => ?_⟩)) (t_lc hL ha.1) hl h1 h2
  · exact absurd hk (by rw [show k_ty (h.1 a).1 = none from k_dis _ _ hr]; exact fun h => by cases h)
  · rw [h_put_self, g1, arrV_store]
    rfl
theorem V.lastore {a : Nat} {j : Int32} {x : Int64} {v : Value} (hd : decode (m_C i) pc = .ok (.lastore, 1)) (ha : g_0 G ≤ a ∧ a < h.2.2) (hk : k_ty (h.1 a).1 = some .long) (hin : vp_in j (h.1 a).2) (hv : .long x = v) (kk : V G i (pc + 1) lv st (h_put h a j.toNatClampNeg v) c s Q) : V G i pc lv (.long x :: .int j :: .ref a :: st) h c s Q := by
  intro X C E H locs cells slots ls hR hL hl h1 h2
  obtain ⟨hx, hb, -, -, -, -, -, hK, -⟩ := id C
  subst hv
  refine W.last hx hb ((hR.2.2.2 a ha.1 ha.2).2 _ hk) ((hK.2.1 _ _ hk).1 _ _) (fun q => by cases q) (a_sz hin) rfl rfl hd fun H' g1 g2 g3 => ?_
  refine kk X C E H' _ cells slots ls (hR.upd (h' := h_put h a j.toNatClampNeg _) (a := a) rfl rfl (fun b hb => h_put_ne hb) g2 g3 ha.1 (fun _ => ⟨fun r hr => ?_, fun ty' hty' => ?_⟩)) (t_lc hL ha.1) hl h1 h2
  · exact absurd hk (by rw [show k_ty (h.1 a).1 = none from k_dis _ _ hr]; exact fun h => by cases h)
  · rw [h_put_self, g1, arrV_store]
    rfl
theorem V.slen {n : Int32} (hd : decode (m_C i) pc = .ok (.arraylength, 1)) (hn : nI (g_L G) = n) (hb0 : g_b G < g_0 G) (kk : V G i (pc + 1) lv (.int n :: st) h c s Q) : V G i pc lv (.ref (g_b G) :: st) h c s Q := by
  intro X C E H locs cells slots ls hR hL hl h1 h2
  obtain ⟨hx, hb, -, -, -, -, -, hK, -⟩ := id C
  obtain ⟨scr, z1, z2, z3, z4, z5⟩ := hK.2.2.2.2.2.2
  exact W.alen hx hb (by rw [hR.2.2.1 _ hb0]; exact z1) z2 (by rw [z4]; exact hn) rfl rfl hd (kk X C E H locs cells slots ls hR hL hl h1 h2)
theorem V.sld {j : Int32} {v : Int32} (hd : decode (m_C i) pc = .ok (.iaload, 1)) (hb0 : g_b G < g_0 G) (hin : vp_in j (g_L G)) (hv : g_xs G j.toNatClampNeg = v) (kk : V G i (pc + 1) lv (.int v :: st) h c s Q) : V G i pc lv (.int j :: .ref (g_b G) :: st) h c s Q := by
  intro X C E H locs cells slots ls hR hL hl h1 h2
  obtain ⟨hx, hb, -, -, -, -, -, hK, -⟩ := id C
  obtain ⟨scr, z1, z2, z3, z4, z5⟩ := hK.2.2.2.2.2.2
  subst hv
  exact W.iald hx hb (by rw [hR.2.2.1 _ hb0]; exact z1) z2 z3 (by rw [z4]; exact hin) (z5 _ (a_in hin)) rfl rfl hd (kk X C E H locs cells slots ls hR hL hl h1 h2)
theorem V.objInit {a idx : Nat} (hd : decode (m_C i) pc = .ok (.invokespecial idx, 3)) (hw : Cond.methodLink (m_Y i).cls idx objectInit ∈ tb) (hw2 : Cond.instanceMethod objectInit ∈ tb) (hw3 : Cond.code objectInit ⟨#[0xb1]⟩ 1 none ∈ tb) (hD : 1 ≤ m_D i) (hW : 45 ≤ m_W i) (hs : (st.map fun v => v.category).sum ≤ 8) (kk : V G i (pc + 3) lv st h c s Q) : V G i pc lv (.ref a :: st) h c s Q := by
  intro X C E H locs cells slots ls hR hL hl h1 h2
  obtain ⟨hx, hb, -, -, hml, hown, hts, hK, -, hfr, hlo, -, -⟩ := id C
  exact W.objInit hx hb hown (hts _ hw) (hts _ hw2) (hts _ hw3) rfl (by rw [hml]; exact hl.1) rfl hd (by omega) (by show 2 * 0 + _ + 12 ≤ _; omega) (kk X C E H locs cells slots ls hR hL hl h1 h2)
/-- of the class of an object of kind kd: castable to the class of pool entry idx, or not -/
theorem V.instY {a idx : Nat} {r : vw_C} {nm : String} (hd : decode (m_C i) pc = .ok (.instanceof idx, 3)) (ha : g_0 G ≤ a ∧ a < h.2.2) (hk : vwCl[(h.1 a).1]? = some r) (hw : Cond.classLink (m_Y i).cls idx nm ∈ tb) (hc : (r.1, nm) ∈ n_C) (kk : V G i (pc + 3) lv (.int 1 :: st) h c s Q) : V G i pc lv (.ref a :: st) h c s Q := by
  intro X C E H locs cells slots ls hR hL hl h1 h2
  obtain ⟨hx, hb, -, -, -, hown, hts, hK, -⟩ := id C
  obtain ⟨cell, q1, q2, q3, q4⟩ := (hR.2.2.2 a ha.1 ha.2).1 _ hk
  exact va_instY hx hb hown (hts _ hw) (hK.2.2.2.2.1 _ hc) ⟨cell, q1, by rw [q3]; rfl, by rw [q2]; exact (hK.1 _ _ hk).2.1⟩ hd (kk X C E H locs cells slots ls hR hL hl h1 h2)
theorem V.castY {a idx : Nat} {r : vw_C} {nm : String} (hd : decode (m_C i) pc = .ok (.checkcast idx, 3)) (ha : g_0 G ≤ a ∧ a < h.2.2) (hk : vwCl[(h.1 a).1]? = some r) (hw : Cond.classLink (m_Y i).cls idx nm ∈ tb) (hc : (r.1, nm) ∈ n_C) (kk : V G i (pc + 3) lv (.ref a :: st) h c s Q) : V G i pc lv (.ref a :: st) h c s Q := by
  intro X C E H locs cells slots ls hR hL hl h1 h2
  obtain ⟨hx, hb, -, -, -, hown, hts, hK, -⟩ := id C
  obtain ⟨cell, q1, q2, q3, q4⟩ := (hR.2.2.2 a ha.1 ha.2).1 _ hk
  exact va_castY hx hb hown (hts _ hw) (hK.2.2.2.2.1 _ hc) ⟨cell, q1, by rw [q3]; rfl, by rw [q2]; exact (hK.1 _ _ hk).2.1⟩ hd (kk X C E H locs cells slots ls hR hL hl h1 h2)
theorem V.instS {a idx : Nat} {r : vw_C} (hd : decode (m_C i) pc = .ok (.instanceof idx, 3)) (ha : g_0 G ≤ a ∧ a < h.2.2) (hk : vwCl[(h.1 a).1]? = some r) (hw : Cond.classLink (m_Y i).cls idx r.1 ∈ tb) (kk : V G i (pc + 3) lv (.int 1 :: st) h c s Q) : V G i pc lv (.ref a :: st) h c s Q := by
  intro X C E H locs cells slots ls hR hL hl h1 h2
  obtain ⟨hx, hb, -, -, -, hown, hts, hK, -⟩ := id C
  obtain ⟨cell, q1, q2, q3, q4⟩ := (hR.2.2.2 a ha.1 ha.2).1 _ hk
  exact va_instS hx hb hown (hts _ hw) (hK.1 _ _ hk).2 ⟨cell, q1, by rw [q3]; rfl, by rw [q2]; exact (hK.1 _ _ hk).2.1⟩ hd (kk X C E H locs cells slots ls hR hL hl h1 h2)
theorem V.castS {a idx : Nat} {r : vw_C} (hd : decode (m_C i) pc = .ok (.checkcast idx, 3)) (ha : g_0 G ≤ a ∧ a < h.2.2) (hk : vwCl[(h.1 a).1]? = some r) (hw : Cond.classLink (m_Y i).cls idx r.1 ∈ tb) (kk : V G i (pc + 3) lv (.ref a :: st) h c s Q) : V G i pc lv (.ref a :: st) h c s Q := by
  intro X C E H locs cells slots ls hR hL hl h1 h2
  obtain ⟨hx, hb, -, -, -, hown, hts, hK, -⟩ := id C
  obtain ⟨cell, q1, q2, q3, q4⟩ := (hR.2.2.2 a ha.1 ha.2).1 _ hk
  exact va_castS hx hb hown (hts _ hw) (hK.1 _ _ hk).2 ⟨cell, q1, by rw [q3]; rfl, by rw [q2]; exact (hK.1 _ _ hk).2.1⟩ hd (kk X C E H locs cells slots ls hR hL hl h1 h2)
theorem V.instNo {a idx : Nat} {r : vw_C} {nm : String} (hd : decode (m_C i) pc = .ok (.instanceof idx, 3)) (ha : g_0 G ≤ a ∧ a < h.2.2) (hk : vwCl[(h.1 a).1]? = some r) (hw : Cond.classLink (m_Y i).cls idx nm ∈ tb) (hc : (r.1, nm) ∈ n_N) (kk : V G i (pc + 3) lv (.int 0 :: st) h c s Q) : V G i pc lv (.ref a :: st) h c s Q := by
  intro X C E H locs cells slots ls hR hL hl h1 h2
  obtain ⟨hx, hb, -, -, -, hown, hts, hK, -⟩ := id C
  obtain ⟨cell, q1, q2, q3, q4⟩ := (hR.2.2.2 a ha.1 ha.2).1 _ hk
  exact va_instNo hx hb hown (hts _ hw) (hK.2.2.2.2.2.1 _ hc) ⟨cell, q1, by rw [q3]; rfl, by rw [q2]; exact (hK.1 _ _ hk).2.1⟩ hd (kk X C E H locs cells slots ls hR hL hl h1 h2)
theorem V.instN {idx : Nat} (hd : decode (m_C i) pc = .ok (.instanceof idx, 3)) (kk : V G i (pc + 3) lv (.int 0 :: st) h c s Q) : V G i pc lv (.null :: st) h c s Q :=
  fun X C E H locs cells slots ls hR hL hl h1 h2 => lv_instN C.1 C.2.1 hd (kk X C E H locs cells slots ls hR hL hl h1 h2)
theorem V.castN {idx : Nat} (hd : decode (m_C i) pc = .ok (.checkcast idx, 3)) (kk : V G i (pc + 3) lv (.null :: st) h c s Q) : V G i pc lv (.null :: st) h c s Q :=
  fun X C E H locs cells slots ls hR hL hl h1 h2 => lv_castN C.1 C.2.1 hd (kk X C E H locs cells slots ls hR hL hl h1 h2)
end VH
end
section
section VCL
variable {G : GG} {i : MM} {pc : Nat} {lv : List (Nat × Value)} {st : List Value} {h : HH} {c s : Nat} {Q Q' : Option Value → HH → Prop}
theorem tb_good : GoodIn tb tb := fun w hw => ⟨hw, good_of_word (List.mem_filter.mp hw).2⟩
/-- method j, of n parameters, can be called: its code is known, its class is ready -/
def m_ok (j : MM) (n : Nat) : Prop := Cond.code (m_Y j) (m_C j) (m_L j) (m_R j) ∈ tb ∧ Cond.initialized (m_Y j).cls ∈ tb ∧ plainName (m_Y j).cls = true ∧
  ((m_Y j).cls ≠ "java/lang/invoke/MethodHandle" ∧ (m_Y j).cls ≠ "java/lang/invoke/VarHandle" ∧ (parseMethodDescriptor (m_Y j).desc).map (fun d => d.parameters.length) = some n) ∧ m_L j ≤ 45
theorem m_ok.good {j : MM} {n : Nat} (hj : m_ok j n) : GoodIn tb (Cond.code (m_Y j) (m_C j) (m_L j) (m_R j) :: tb) := fun w hw => by
  rcases List.mem_cons.mp hw with e | e
  · subst e; exact tb_good _ hj.1
  · exact tb_good _ e
def p_r (G : GG) (As : List Value) (h : HH) : Array Value → State → Prop := fun a U => a = As.toArray ∧ Rep G h U.heap ∧ KK G U
def q_r (G : GG) (Q : Option Value → HH → Prop) : Array Value → State → Outcome → State → Prop := fun _ _ o t => ∃ r h', o = .returned r ∧ Q r h' ∧ Rep G h' t.heap
theorem Met.ofV {j : MM} {n : Nat} {As : List Value} (hj : m_ok j n) (hl : (lg_sl As).length ≤ m_L j) (kk : V G j 0 (lv_args 0 As) [] h c s Q) :
    Met (g_l G) (m_Y j) (Cond.code (m_Y j) (m_C j) (m_L j) (m_R j) :: tb) ({ frames := m_D j, cells := c, slots := s, locals := m_W j }) (p_r G As h) (q_r G Q) c s (fun q => g_0 G ≤ q) := by
  refine Met.ofW (cc := m_C j) (maxL := m_L j) (ret := m_R j) hj.2.2.1 rfl ?_
  intro p e s0 m args below meth cd s₁ B hml hv
  obtain ⟨rfl, hR, hK⟩ := hv
  have hts := atoms_spec (ws := Cond.code (m_Y j) (m_C j) (m_L j) (m_R j) :: tb) B.pre
  have hlocks := B.notSynchronized
  rw [lg_entry_eq]
  refine kk (p, e, _, s0, m, As.toArray, below, meth, cd, MQ below (q_r G Q) As.toArray s0 c s (fun q => g_0 G ≤ q), c, s)
    ⟨B.exec, B.bytes, B.returns, B.notSynchronized, hml, findClass_of_methodNamed B.named, fun w hw => hts w (List.mem_cons_of_mem _ hw), hK, fun e => (name_of_methodNamed B.named B.method).1.trans e, Nat.le_refl _, Nat.le_refl _, Nat.le_refl _, Nat.le_refl _⟩
    ?_ s0.heap [] 0 0 _ hR (fun q h => by cases h) (lv_entry As hl) (Nat.le_of_eq (Nat.zero_add _)) (Nat.le_of_eq (Nat.zero_add _))
  intro pc ls H locs r h' hq hR' hL' hr
  cases r with
  | none => exact W.vret B.exec B.bytes (B.returns.trans hr.2) (fun t ht hW => ⟨none, h', rfl, hq, by rw [ht]; exact hR'⟩) hL' hr.1
  | some v =>
    cases v with
    | int v =>
      obtain ⟨hd, ty, hr1, hr2⟩ := hr
      exact W.zret B.exec B.bytes (B.returns.trans hr1) hr2 (fun t ht hW => ⟨_, h', rfl, hq, by rw [ht]; exact hR'⟩) hL' hd
    | long v => exact W.lret B.exec B.bytes (B.returns.trans hr.2) (fun t ht hW => ⟨_, h', rfl, hq, by rw [ht]; exact hR'⟩) hL' hr.1
    | null =>
      obtain ⟨hd, rt, hr1, hr2⟩ := hr
      exact W.aret B.exec B.bytes (B.returns.trans hr1) hr2 (Or.inl rfl) (fun t ht hW => ⟨_, h', rfl, hq, by rw [ht]; exact hR'⟩) hL' hd
    | ref a =>
      obtain ⟨hd, rt, hr1, hr2⟩ := hr
      exact W.aret B.exec B.bytes (B.returns.trans hr1) hr2 (Or.inr ⟨a, rfl⟩) (fun t ht hW => ⟨_, h', rfl, hq, by rw [ht]; exact hR'⟩) hL' hd
    | float v => exact hr.elim
    | double v => exact hr.elim
    | retAddr v => exact hr.elim
theorem c_back {X : VX} (C : Cx G i X) (E : Ends G i X Q) {H : Heap} {locs : List Loc} {cells slots : Nat} {ls : Array Slot} (hL : ∀ q ∈ locs, g_0 G ≤ q.base) (hl : lv_has ls (m_L i) lv) (h1 : cells + c ≤ x_ce X) (h2 : slots + s ≤ x_se X)
    {c1 c2 s1 s2 : Nat} (hc : c1 + c2 ≤ c) (hs : s1 + s2 ≤ s) {st0 rest : List Value} {as : Array Value}
    (hr : va_Run X.1 (g_l G) X.2.1 X.2.2.1 X.2.2.2.1 X.2.2.2.2.1 X.2.2.2.2.2.1 X.2.2.2.2.2.2.1 X.2.2.2.2.2.2.2.1 X.2.2.2.2.2.2.2.2.1 H locs cells slots c1 s1 (F0 (x_m X) pc ls st0) rest (q_r G (fun r h' => V G i (pc + 3) lv (r.toList ++ rest) h' c2 s2 Q) as) (fun q => g_0 G ≤ q)) :
    XW G X H locs cells slots (F0 (x_m X) pc ls st0) := by
  intro T hT X0
  obtain ⟨v, st₀, t, T', L, h0, X', hL', e1, e2, ⟨r, h', hv, hV, hR'⟩, go⟩ := hr T hT X0
  cases hv
  obtain ⟨t2, a1, b1⟩ := hV X C E T'.heap (locs ++ L) (cells + c1) (slots + s1) ls (by rw [e1]; exact hR') (fun q hq => by
    rcases List.mem_append.mp hq with z | z
    · exact hL q z
    · exact hL' q z) hl (by omega) (by omega) T' rfl X'
  exact ⟨t2, go t2 a1, b1⟩
theorem p_rs {X : VX} {H : Heap} {As : List Value} (C : Cx G i X) (hR : Rep G h H) : PreS X.2.2.2.1 H (p_r G As h) As :=
  ⟨fun a U g mk q => ⟨q.1, q.2.1, q.2.2.same rfl⟩, fun U hU hW => ⟨rfl, by rw [hU]; exact hR, C.2.2.2.2.2.2.2.1.moved hW⟩⟩
theorem p_rv {X : VX} {H : Heap} {As : List Value} {b : Nat} {r : vw_C} (C : Cx G i X) (hR : Rep G h H) (hb : g_0 G ≤ b ∧ b < h.2.2) (hk : vwCl[(h.1 b).1]? = some r) : PreV X.2.2.2.1 H r.1 b (p_r G (.ref b :: As) h) As := by
  obtain ⟨cell, q1, q2, q3, q4⟩ := (hR.2.2.2 b hb.1 hb.2).1 _ hk
  exact ⟨fun a U g mk q => ⟨q.1, q.2.1, q.2.2.same rfl⟩, ⟨cell, q1, by rw [q3]; rfl, by rw [q2]; exact (C.2.2.2.2.2.2.2.1.1 _ _ hk).2.1⟩, fun U hU hW => ⟨rfl, by rw [hU]; exact hR, C.2.2.2.2.2.2.2.1.moved hW⟩⟩
/-- entry idx of the pool of 'own' is method j -/
def n_ok (own : String) (idx : Nat) (j : MM) : Prop := Cond.methodLink own idx (m_Y j) ∈ tb ∨ ∃ host, (own, idx, m_Y j, host) ∈ n_M
theorem V.callS {j : MM} {n idx : Nat} (c1 c2 s1 s2 : Nat) (As : List Value) {rest st0 : List Value} (hd : decode (m_C i) pc = .ok (.invokestatic idx, 3)) (hj : m_ok j n) (hk : n_ok (m_Y i).cls idx j) (hsm : Cond.static (m_Y j) ∈ tb) (hD : m_D j < m_D i) (hW : 19 + m_L j + m_W j ≤ m_W i) (hst : st0 = As.reverse ++ rest) (hn : As.length = n) (hl : (lg_sl As).length ≤ m_L j) (hw : (rest.map fun v => v.category).sum ≤ 8) (hc : c1 + c2 ≤ c) (hs : s1 + s2 ≤ s)
    (kk : V G j 0 (lv_args 0 As) [] h c1 s1 (fun r h' => V G i (pc + 3) lv (r.toList ++ rest) h' c2 s2 Q)) : V G i pc lv st0 h c s Q := by
  intro X C E H locs cells slots ls hR hL hlv h1 h2
  subst hst
  obtain ⟨hx, hb, -, -, hml, hown, hts, hK, -, hfr, hlo, hrc, hrs⟩ := id C
  have hM := Met.ofV hj hl kk
  have hRm : m_D j + 1 ≤ X.2.2.1.frames ∧ 8 + (m_L j + 11) + m_W j ≤ X.2.2.1.locals := ⟨by omega, by omega⟩
  rcases hk with e | ⟨host, e⟩
  · exact c_back C E hL hlv h1 h2 hc hs (va_runS (nL := m_L i) ⟨hx, hb, hml, hown, hts⟩ hM ⟨callB_of n hts hj.good rfl rfl rfl (hts _ hj.2.1) (hts _ e) hj.2.2.2.1 hRm, hts _ hsm⟩ (p_rs C hR) rfl hn hlv.1 rfl (lv_room hw) hd ⟨by omega, by omega⟩)
  · exact c_back C E hL hlv h1 h2 hc hs (va_runSN (nL := m_L i) ⟨hx, hb, hml, hown, hts⟩ hM ⟨va_cnB n hts hj.good rfl rfl rfl (hK.2.2.2.1 _ e) (hts _ hj.2.1) hj.2.2.2.1 hRm, hts _ hsm, trivial⟩ (p_rs C hR) rfl hn hlv.1 rfl (lv_room hw) hd ⟨by omega, by omega⟩)
theorem V.callV {j : MM} {n idx b : Nat} {r : vw_C} (c1 c2 s1 s2 : Nat) (As : List Value) {rest st0 : List Value} (hd : decode (m_C i) pc = .ok (.invokevirtual idx, 3)) (hj : m_ok j n) (hk : n_ok (m_Y i).cls idx j) (hb : g_0 G ≤ b ∧ b < h.2.2) (hkd : vwCl[(h.1 b).1]? = some r) (him : Cond.instanceMethod (m_Y j) ∈ tb) (hse : Cond.selects r.1 (m_Y j) (m_Y j) ∈ tb) (hD : m_D j < m_D i) (hW : 19 + m_L j + m_W j ≤ m_W i) (hst : st0 = As.reverse ++ .ref b :: rest) (hn : As.length = n) (hl : (lg_sl (.ref b :: As)).length ≤ m_L j) (hw : (rest.map fun v => v.category).sum ≤ 8) (hc : c1 + c2 ≤ c) (hs : s1 + s2 ≤ s)
    (kk : V G j 0 (lv_args 0 (.ref b :: As)) [] h c1 s1 (fun r h' => V G i (pc + 3) lv (r.toList ++ rest) h' c2 s2 Q)) : V G i pc lv st0 h c s Q := by
  intro X C E H locs cells slots ls hR hL hlv h1 h2
  subst hst
  obtain ⟨hx, hbc, -, -, hml, hown, hts, hK, -, hfr, hlo, hrc, hrs⟩ := id C
  have hM := Met.ofV hj hl kk
  have hRm : m_D j + 1 ≤ X.2.2.1.frames ∧ 8 + (m_L j + 11) + m_W j ≤ X.2.2.1.locals := ⟨by omega, by omega⟩
  rcases hk with e | ⟨host, e⟩
  · exact c_back C E hL hlv h1 h2 hc hs (va_runV (nL := m_L i) ⟨hx, hbc, hml, hown, hts⟩ hM ⟨callB_of n hts hj.good rfl rfl rfl (hts _ hj.2.1) (hts _ e) hj.2.2.2.1 hRm, hts _ him, hts _ hse⟩ (p_rv C hR hb hkd) rfl hn hlv.1 rfl (lv_room hw) hd ⟨by omega, by omega⟩)
  · exact c_back C E hL hlv h1 h2 hc hs (va_runVN (nL := m_L i) ⟨hx, hbc, hml, hown, hts⟩ hM ⟨va_cnB n hts hj.good rfl rfl rfl (hK.2.2.2.1 _ e) (hts _ hj.2.1) hj.2.2.2.1 hRm, hts _ him, hts _ hse⟩ (p_rv C hR hb hkd) rfl hn hlv.1 rfl (lv_room hw) hd ⟨by omega, by omega⟩)
/-- an inherited method: the reference names x, which is j's -/
theorem V.callU {j : MM} {n idx b : Nat} {r : vw_C} (c1 c2 s1 s2 : Nat) (As : List Value) {rest st0 : List Value} {x : MethodName} (hd : decode (m_C i) pc = .ok (.invokevirtual idx, 3)) (hj : m_ok j n) (hw1 : Cond.methodLink (m_Y i).cls idx x ∈ tb) (hw2 : Cond.sameMethod x.cls (m_Y j).cls x.name x.desc ∈ tb) (hxy : m_Y j = ⟨(m_Y j).cls, x.name, x.desc⟩) (hb : g_0 G ≤ b ∧ b < h.2.2) (hkd : vwCl[(h.1 b).1]? = some r) (him : Cond.instanceMethod (m_Y j) ∈ tb) (hse : Cond.selects r.1 x (m_Y j) ∈ tb) (hD : m_D j < m_D i) (hW : 19 + m_L j + m_W j ≤ m_W i) (hst : st0 = As.reverse ++ .ref b :: rest) (hn : As.length = n) (hl : (lg_sl (.ref b :: As)).length ≤ m_L j) (hw : (rest.map fun v => v.category).sum ≤ 8) (hc : c1 + c2 ≤ c) (hs : s1 + s2 ≤ s)
    (kk : V G j 0 (lv_args 0 (.ref b :: As)) [] h c1 s1 (fun r h' => V G i (pc + 3) lv (r.toList ++ rest) h' c2 s2 Q)) : V G i pc lv st0 h c s Q := by
  intro X C E H locs cells slots ls hR hL hlv h1 h2
  subst hst
  obtain ⟨hx, hbc, -, -, hml, hown, hts, hK, -, hfr, hlo, hrc, hrs⟩ := id C
  have hM := Met.ofV hj hl kk
  have hRm : m_D j + 1 ≤ X.2.2.1.frames ∧ 8 + (m_L j + 11) + m_W j ≤ X.2.2.1.locals := ⟨by omega, by omega⟩
  have hdx : (parseMethodDescriptor x.desc).map (fun d => d.parameters.length) = some n := by
    have h9 := hj.2.2.2.1.2.2
    rw [hxy] at h9
    exact h9
  have hGo : GoodIn tb (va_wsU (m_Y i).cls idx r.1 (m_Y j).cls x (m_Y j) (Cond.code (m_Y j) (m_C j) (m_L j) (m_R j) :: tb)) := by
    intro w hw
    unfold va_wsU at hw
    rcases List.mem_append.mp hw with e | e
    · simp only [List.mem_cons, List.not_mem_nil, or_false] at e
      rcases e with e | e | e | e | e
      · subst e; exact tb_good _ hw1
      · subst e; exact tb_good _ hw2
      · subst e; exact tb_good _ hse
      · subst e; exact tb_good _ him
      · subst e; exact tb_good _ hj.2.1
    · exact hj.good _ e
  exact c_back C E hL hlv h1 h2 hc hs (va_runU (nL := m_L i) ⟨hx, hbc, hml, hown, hts⟩ hM (va_cwU n hts hGo rfl rfl rfl hxy ⟨hj.2.2.2.1.1, hj.2.2.2.1.2.1, hdx⟩ hRm) (p_rv C hR hb hkd) rfl hn hlv.1 rfl (lv_room hw) hd ⟨by omega, by omega⟩)
theorem V.callI {j : MM} {n idx b : Nat} (c1 c2 s1 s2 : Nat) (As : List Value) {rest st0 : List Value} (hd : decode (m_C i) pc = .ok (.invokespecial idx, 3)) (hj : m_ok j n) (hk : n_ok (m_Y i).cls idx j) (hin : (m_Y j).name = "<init>") (hrn : m_R j = none) (him : Cond.instanceMethod (m_Y j) ∈ tb) (hD : m_D j < m_D i) (hW : 19 + m_L j + m_W j ≤ m_W i) (hst : st0 = As.reverse ++ .ref b :: rest) (hn : As.length = n) (hl : (lg_sl (.ref b :: As)).length ≤ m_L j) (hw : (rest.map fun v => v.category).sum ≤ 8) (hc : c1 + c2 ≤ c) (hs : s1 + s2 ≤ s)
    (kk : V G j 0 (lv_args 0 (.ref b :: As)) [] h c1 s1 (fun r h' => V G i (pc + 3) lv (r.toList ++ rest) h' c2 s2 Q)) : V G i pc lv st0 h c s Q := by
  intro X C E H locs cells slots ls hR hL hlv h1 h2
  subst hst
  obtain ⟨hx, hbc, -, -, hml, hown, hts, hK, -, hfr, hlo, hrc, hrs⟩ := id C
  have hM := Met.ofV hj hl kk
  have hg := hj.good
  have hRm : m_D j + 1 ≤ X.2.2.1.frames ∧ 8 + (m_L j + 11) + m_W j ≤ X.2.2.1.locals := ⟨by omega, by omega⟩
  rw [hrn] at hM hg
  rcases hk with e | ⟨host, e⟩
  · exact c_back C E hL hlv h1 h2 hc hs (va_runI (nL := m_L i) ⟨hx, hbc, hml, hown, hts⟩ hM ⟨callB_of n hts hg rfl rfl rfl (hts _ hj.2.1) (hts _ e) hj.2.2.2.1 hRm, hin, hts _ him⟩ (p_rs C hR) rfl hn hlv.1 rfl (lv_room hw) hd ⟨by omega, by omega⟩)
  · exact c_back C E hL hlv h1 h2 hc hs (va_runIN (nL := m_L i) ⟨hx, hbc, hml, hown, hts⟩ hM ⟨va_cnB n hts hg rfl rfl rfl (hK.2.2.2.1 _ e) (hts _ hj.2.1) hj.2.2.2.1 hRm, hin, hts _ him⟩ (p_rs C hR) rfl hn hlv.1 rfl (lv_room hw) hd ⟨by omega, by omega⟩)
theorem V.mmin {idx : Nat} {x y : Int32} (hd : decode (m_C i) pc = .ok (.invokestatic idx, 3)) (hw1 : Cond.methodLink (m_Y i).cls idx Lib.Math.min.name ∈ tb) (hw2 : Cond.static Lib.Math.min.name ∈ tb) (hw3 : Cond.initialized "java/lang/Math" ∈ tb) (hw4 : Cond.code Lib.Math.min.name Lib.Math.min.code 2 (some .int) ∈ tb) (hD : 1 ≤ m_D i) (hW : 45 ≤ m_W i) (hs : (st.map fun v => v.category).sum ≤ 8)
    (kk : V G i (pc + 3) lv (.int (if y < x then y else x) :: st) h c s Q) : V G i pc lv (.int y :: .int x :: st) h c s Q := by
  intro X C E H locs cells slots ls hR hL hl h1 h2
  obtain ⟨hx, hb, -, -, hml, hown, hts, hK, -, hfr, hlo, hrc, hrs⟩ := id C
  exact va_mmin hx hb (hml.trans hl.1.symm) hown (hts _ hw1) (hts _ hw2) (hts _ hw3) (hts _ hw4) (by omega) (by omega) (by omega) (by omega) hd (kk X C E H locs cells slots ls hR hL hl h1 h2)
theorem V.acopy {a0 a idx sp dp n : Nat} {ty : FieldType} (hd : decode (m_C i) pc = .ok (.invokestatic idx, 3)) (hw1 : Cond.methodLink (m_Y i).cls idx arraycopyName ∈ tb) (hw2 : Cond.native arraycopyName ∈ tb) (hw3 : Cond.static arraycopyName ∈ tb) (hw4 : Cond.initialized "java/lang/System" ∈ tb) (hD : 1 ≤ m_D i) (hW : 45 ≤ m_W i) (hs : (st.map fun v => v.category).sum ≤ 8)
    (ha0 : g_0 G ≤ a0 ∧ a0 < h.2.2) (ha : g_0 G ≤ a ∧ a < h.2.2) (hk0 : k_ty (h.1 a0).1 = some ty) (hk1 : k_ty (h.1 a).1 = some ty) (hprim : refKind ty = false) (hz0 : (h.1 a0).2 < 2 ^ 31) (hz1 : (h.1 a).2 < 2 ^ 31) (h4 : sp + n ≤ (h.1 a0).2) (h5 : dp + n ≤ (h.1 a).2) (hfit : ∀ j, j < n → ∃ z : Int32, h.2.1 a0 (sp + j) = .int z ∧ fits ty (.int z) = true)
    (kk : V G i (pc + 3) lv st (h_cpy h a0 sp a dp n) c s Q) : V G i pc lv (.int (nI n) :: .int (nI dp) :: .ref a :: .int (nI sp) :: .ref a0 :: st) h c s Q := by
  intro X C E H locs cells slots ls hR hL hl h1 h2
  obtain ⟨hx, hb, -, -, hml, hown, hts, hK, -, hfr, hlo, hrc, hrs⟩ := id C
  have hc0 := (hR.2.2.2 a0 ha0.1 ha0.2).2 _ hk0
  have hc1 := (hR.2.2.2 a ha.1 ha.2).2 _ hk1
  obtain ⟨-, k0, hkk0, cm0, hkd0⟩ := (hK.2.1 _ _ hk0).1 (h.1 a0).2 (h.2.1 a0)
  obtain ⟨-, k1, hkk1, cm1, hkd1⟩ := (hK.2.1 _ _ hk1).1 (h.1 a).2 (h.2.1 a)
  have e1 := nI_clamp (n := sp) (by omega)
  have e2 := nI_clamp (n := dp) (by omega)
  have e3 := nI_clamp (n := n) (by omega)
  have t1 := nI_toInt (n := sp) (by omega)
  have t2 := nI_toInt (n := dp) (by omega)
  have t3 := nI_toInt (n := n) (by omega)
  intro T hT X0
  obtain ⟨vm', X', step⟩ := X0.arraycopy hx hown (hts _ hw1) (hts _ hw2) (hts _ hw3) (hts _ hw4) (src := a0) (dst := a) (srcPos := nI sp) (destPos := nI dp) (n := nI n) (by rw [hT]; exact hc0) (by rw [hT]; exact hc1)
    (fun _ h => by cases h) (fun _ h => by cases h) (fun h => by cases h) (fun h => by cases h) hkk0 hkk1 hkd0 hkd1 (by simp [hprim]) (nI_pos (by omega)) (nI_pos (by omega)) (nI_pos (by omega))
    (by rw [t1, t3, arrV_size]; omega) (by rw [t2, t3, arrV_size]; omega)
    (fun vm₁ _ j hj => by
      rw [e3] at hj
      obtain ⟨z, hz, hf⟩ := hfit j hj
      have e : (arrV (g_dA G (h.1 a0).1) (h.1 a0).2 (h.2.1 a0)).slots.getD ((nI sp).toNatClampNeg + j) .null = .int z := by
        rw [e1, Array.getD_eq_getD_getElem?, arrV_read _ _ (by omega), hz]
        rfl
      rw [e]
      exact ⟨hf, trivial⟩)
    (g := F0 (x_m X) pc ls (.int (nI n) :: .int (nI dp) :: .ref a :: .int (nI sp) :: .ref a0 :: st)) rfl (by rw [hml]; exact hl.1) (rest := st) rfl (by rw [hb]; exact hd) (by omega) (by show 2 * 0 + _ + (nativeFrameWords "java/lang/System" "arraycopy" 5 + 11) ≤ _; have h9 : nativeFrameWords "java/lang/System" "arraycopy" 5 ≤ 20 := (by decide); omega)
  have ec : copied (arrV (g_dA G (h.1 a0).1) (h.1 a0).2 (h.2.1 a0)) (arrV (g_dA G (h.1 a).1) (h.1 a).2 (h.2.1 a)) (nI sp) (nI dp) (nI n) = arrV (g_dA G (h.1 a).1) (h.1 a).2 ((h_cpy h a0 sp a dp n).2.1 a) := by
    have h9 := va_copied (fun z : Value => z) (g_dA G (h.1 a0).1) (g_dA G (h.1 a).1) (n0 := (h.1 a0).2) (n1 := (h.1 a).2) (sp := sp) (dp := dp) (n := n) (h.2.1 a0) (h.2.1 a) h4
    have h8 : copied (arrV (g_dA G (h.1 a0).1) (h.1 a0).2 (h.2.1 a0)) (arrV (g_dA G (h.1 a).1) (h.1 a).2 (h.2.1 a)) (nI sp) (nI dp) (nI n) = (arrV (g_dA G (h.1 a).1) (h.1 a).2 (h.2.1 a)).storeRun (nI dp).toNatClampNeg ((arrV (g_dA G (h.1 a0).1) (h.1 a0).2 (h.2.1 a0)).stretch (nI sp).toNatClampNeg (nI n).toNatClampNeg) := rfl
    rw [h8, e1, e2, e3, h9]
    congr 1
    funext j
    show (if dp ≤ j ∧ j < dp + n then _ else _) = if a = a ∧ dp ≤ j ∧ j < dp + n then _ else _
    simp
  rw [ec] at X' step
  have hlt : a < H.size := (Array.getElem?_eq_some_iff.mp hc1).1
  have oq : ∀ q : Nat, q ≠ a → (H.setIfInBounds a (arrV (g_dA G (h.1 a).1) (h.1 a).2 ((h_cpy h a0 sp a dp n).2.1 a)))[q]? = H[q]? := fun q hq => by simp [Array.getElem?_setIfInBounds, Ne.symm hq]
  have hRn : Rep G (h_cpy h a0 sp a dp n) (H.setIfInBounds a (arrV (g_dA G (h.1 a).1) (h.1 a).2 ((h_cpy h a0 sp a dp n).2.1 a))) := by
    refine hR.upd (a := a) rfl rfl (fun b hb => ?_) (by simp) oq ha.1 (fun _ => ⟨fun r hr => ?_, fun ty' hty' => ?_⟩)
    · funext j
      show (if b = a ∧ _ then _ else _) = _
      simp [hb]
    · exact absurd hk1 (by rw [show k_ty (h.1 a).1 = none from k_dis _ _ hr]; exact fun h => by cases h)
    · simp [Array.getElem?_setIfInBounds, hlt]
      rfl
  obtain ⟨t, a1, b1⟩ := kk X C E _ _ cells slots ls hRn (fun q hq => by
      rcases List.mem_append.mp hq with z | z
      · exact hL q z
      · obtain ⟨w, -, hw⟩ := List.mem_map.mp z
        rw [← hw]
        exact ha.1) hl h1 h2 _ (by show (T.heap.setIfInBounds a _) = _; rw [hT]) X'
  exact ⟨t, step t a1, b1⟩
end VCL
end
section
set_option maxRecDepth 20000 in
theorem xu_P : ∀ w ∈ u_ws "PathTree" xF_P 7, w ∈ tb := by decide +kernel
set_option maxRecDepth 20000 in
theorem tk_P : t_okk xF_P 7 := ⟨⟨xT_P, by decide +kernel⟩, by decide +kernel⟩
set_option maxRecDepth 20000 in
theorem xu_T : ∀ w ∈ u_ws "PathTree$PathText" xF_T 2, w ∈ tb := by decide +kernel
set_option maxRecDepth 20000 in
theorem tk_T : t_okk xF_T 2 := ⟨⟨xT_T, by decide +kernel⟩, by decide +kernel⟩
set_option maxRecDepth 20000 in
theorem xu_D : ∀ w ∈ u_ws "PathTree$Directory" xF_D 5, w ∈ tb := by decide +kernel
set_option maxRecDepth 20000 in
theorem tk_D : t_okk xF_D 5 := ⟨⟨xT_D, by decide +kernel⟩, by decide +kernel⟩
set_option maxRecDepth 20000 in
theorem xu_F : ∀ w ∈ u_ws "PathTree$FileEntry" xF_F 5, w ∈ tb := by decide +kernel
set_option maxRecDepth 20000 in
theorem tk_F : t_okk xF_F 5 := ⟨⟨xT_F, by decide +kernel⟩, by decide +kernel⟩
set_option maxRecDepth 20000 in
theorem xu_R : ∀ w ∈ u_ws "PathTreeModel" xF_R 14, w ∈ tb := by decide +kernel
set_option maxRecDepth 20000 in
theorem tk_R : t_okk xF_R 14 := ⟨⟨xT_R, by decide +kernel⟩, by decide +kernel⟩
set_option maxRecDepth 20000 in
theorem f_T_9_1 : f_ok "PathTree$PathText" 9 1 0 := ⟨_, _, _, "PathTree$PathText", rfl, xu_T, by decide, Or.inl (t_in 71 rfl rfl), Or.inl rfl⟩
set_option maxRecDepth 20000 in
theorem p_T_9_1 {ini : Prop} (hi : ini) : p_ok "PathTree$PathText" 9 1 0 (.array .char) ini := ⟨_, _, _, "PathTree$PathText", rfl, xu_T, by decide, Or.inl (t_in 71 rfl rfl), Or.inl rfl, tk_T, by decide +kernel, Or.inr ⟨rfl, hi, rfl⟩⟩
set_option maxRecDepth 20000 in
theorem f_T_13_1 : f_ok "PathTree$PathText" 13 1 1 := ⟨_, _, _, "PathTree$PathText", rfl, xu_T, by decide, Or.inl (t_in 73 rfl rfl), Or.inl rfl⟩
set_option maxRecDepth 20000 in
theorem p_T_13_1 {ini : Prop} : p_ok "PathTree$PathText" 13 1 1 (.int) ini := ⟨_, _, _, "PathTree$PathText", rfl, xu_T, by decide, Or.inl (t_in 73 rfl rfl), Or.inl rfl, tk_T, by decide +kernel, Or.inl rfl⟩
set_option maxRecDepth 20000 in
theorem f_D_7_2 : f_ok "PathTree$Directory" 7 2 3 := ⟨_, _, _, "PathTree$Directory", rfl, xu_D, by decide, Or.inl (t_in 90 rfl rfl), Or.inl rfl⟩
set_option maxRecDepth 20000 in
theorem p_D_7_2 {ini : Prop} : p_ok "PathTree$Directory" 7 2 3 (.object "PathTree$Entry") ini := ⟨_, _, _, "PathTree$Directory", rfl, xu_D, by decide, Or.inl (t_in 90 rfl rfl), Or.inl rfl, tk_D, by decide +kernel, Or.inl rfl⟩
set_option maxRecDepth 20000 in
theorem f_D_13_2 : f_ok "PathTree$Directory" 13 2 4 := ⟨_, _, _, "PathTree$Directory", rfl, xu_D, by decide, Or.inl (t_in 91 rfl rfl), Or.inl rfl⟩
set_option maxRecDepth 20000 in
theorem p_D_13_2 {ini : Prop} : p_ok "PathTree$Directory" 13 2 4 (.int) ini := ⟨_, _, _, "PathTree$Directory", rfl, xu_D, by decide, Or.inl (t_in 91 rfl rfl), Or.inl rfl, tk_D, by decide +kernel, Or.inl rfl⟩
set_option maxRecDepth 20000 in
theorem f_E_17_2 : f_ok "PathTree$Entry" 17 2 0 := ⟨_, _, _, "PathTree$Entry", rfl, xu_D, by decide, Or.inl (t_in 93 rfl rfl), Or.inl rfl⟩
set_option maxRecDepth 20000 in
theorem p_E_17_2 {ini : Prop} : p_ok "PathTree$Entry" 17 2 0 (.array .char) ini := ⟨_, _, _, "PathTree$Entry", rfl, xu_D, by decide, Or.inl (t_in 93 rfl rfl), Or.inl rfl, tk_D, by decide +kernel, Or.inl rfl⟩
set_option maxRecDepth 20000 in
theorem f_E_17_3 : f_ok "PathTree$Entry" 17 3 0 := ⟨_, _, _, "PathTree$Entry", rfl, xu_F, by decide, Or.inl (t_in 93 rfl rfl), Or.inl rfl⟩
set_option maxRecDepth 20000 in
theorem p_E_17_3 {ini : Prop} : p_ok "PathTree$Entry" 17 3 0 (.array .char) ini := ⟨_, _, _, "PathTree$Entry", rfl, xu_F, by decide, Or.inl (t_in 93 rfl rfl), Or.inl rfl, tk_F, by decide +kernel, Or.inl rfl⟩
set_option maxRecDepth 20000 in
theorem f_D_28_2 : f_ok "PathTree$Directory" 28 2 0 := ⟨_, _, _, "PathTree$Entry", rfl, xu_D, by decide, Or.inl (t_in 94 rfl rfl), Or.inl rfl⟩
set_option maxRecDepth 20000 in
theorem p_D_28_2 {ini : Prop} : p_ok "PathTree$Directory" 28 2 0 (.array .char) ini := ⟨_, _, _, "PathTree$Entry", rfl, xu_D, by decide, Or.inl (t_in 94 rfl rfl), Or.inl rfl, tk_D, by decide +kernel, Or.inl rfl⟩
set_option maxRecDepth 20000 in
theorem f_D_28_3 : f_ok "PathTree$Directory" 28 3 0 := ⟨_, _, _, "PathTree$Entry", rfl, xu_F, by decide, Or.inl (t_in 94 rfl rfl), Or.inl rfl⟩
set_option maxRecDepth 20000 in
theorem p_D_28_3 {ini : Prop} : p_ok "PathTree$Directory" 28 3 0 (.array .char) ini := ⟨_, _, _, "PathTree$Entry", rfl, xu_F, by decide, Or.inl (t_in 94 rfl rfl), Or.inl rfl, tk_F, by decide +kernel, Or.inl rfl⟩
set_option maxRecDepth 20000 in
theorem f_P_123_2 : f_ok "PathTree" 123 2 0 := ⟨_, _, _, "PathTree$Entry", rfl, xu_D, by decide, Or.inl (t_in 95 rfl rfl), Or.inl rfl⟩
set_option maxRecDepth 20000 in
theorem p_P_123_2 {ini : Prop} : p_ok "PathTree" 123 2 0 (.array .char) ini := ⟨_, _, _, "PathTree$Entry", rfl, xu_D, by decide, Or.inl (t_in 95 rfl rfl), Or.inl rfl, tk_D, by decide +kernel, Or.inl rfl⟩
set_option maxRecDepth 20000 in
theorem f_P_123_3 : f_ok "PathTree" 123 3 0 := ⟨_, _, _, "PathTree$Entry", rfl, xu_F, by decide, Or.inl (t_in 95 rfl rfl), Or.inl rfl⟩
set_option maxRecDepth 20000 in
theorem p_P_123_3 {ini : Prop} : p_ok "PathTree" 123 3 0 (.array .char) ini := ⟨_, _, _, "PathTree$Entry", rfl, xu_F, by decide, Or.inl (t_in 95 rfl rfl), Or.inl rfl, tk_F, by decide +kernel, Or.inl rfl⟩
set_option maxRecDepth 20000 in
theorem f_P_177_3 : f_ok "PathTree" 177 3 0 := ⟨_, _, _, "PathTree$FileEntry", rfl, xu_F, by decide, Or.inl (t_in 96 rfl rfl), Or.inr (t_in 97 rfl rfl)⟩
set_option maxRecDepth 20000 in
theorem p_P_177_3 {ini : Prop} : p_ok "PathTree" 177 3 0 (.array .char) ini := ⟨_, _, _, "PathTree$FileEntry", rfl, xu_F, by decide, Or.inl (t_in 96 rfl rfl), Or.inr (t_in 97 rfl rfl), tk_F, by decide +kernel, Or.inl rfl⟩
set_option maxRecDepth 20000 in
theorem f_E_7_2 : f_ok "PathTree$Entry" 7 2 1 := ⟨_, _, _, "PathTree$Entry", rfl, xu_D, by decide, Or.inl (t_in 98 rfl rfl), Or.inl rfl⟩
set_option maxRecDepth 20000 in
theorem p_E_7_2 {ini : Prop} : p_ok "PathTree$Entry" 7 2 1 (.object "PathTree$Directory") ini := ⟨_, _, _, "PathTree$Entry", rfl, xu_D, by decide, Or.inl (t_in 98 rfl rfl), Or.inl rfl, tk_D, by decide +kernel, Or.inl rfl⟩
set_option maxRecDepth 20000 in
theorem f_E_7_3 : f_ok "PathTree$Entry" 7 3 1 := ⟨_, _, _, "PathTree$Entry", rfl, xu_F, by decide, Or.inl (t_in 98 rfl rfl), Or.inl rfl⟩
set_option maxRecDepth 20000 in
theorem p_E_7_3 {ini : Prop} : p_ok "PathTree$Entry" 7 3 1 (.object "PathTree$Directory") ini := ⟨_, _, _, "PathTree$Entry", rfl, xu_F, by decide, Or.inl (t_in 98 rfl rfl), Or.inl rfl, tk_F, by decide +kernel, Or.inl rfl⟩
set_option maxRecDepth 20000 in
theorem f_D_24_2 : f_ok "PathTree$Directory" 24 2 1 := ⟨_, _, _, "PathTree$Directory", rfl, xu_D, by decide, Or.inl (t_in 99 rfl rfl), Or.inr (t_in 100 rfl rfl)⟩
set_option maxRecDepth 20000 in
theorem p_D_24_2 {ini : Prop} : p_ok "PathTree$Directory" 24 2 1 (.object "PathTree$Directory") ini := ⟨_, _, _, "PathTree$Directory", rfl, xu_D, by decide, Or.inl (t_in 99 rfl rfl), Or.inr (t_in 100 rfl rfl), tk_D, by decide +kernel, Or.inl rfl⟩
set_option maxRecDepth 20000 in
theorem f_D_36_2 : f_ok "PathTree$Directory" 36 2 1 := ⟨_, _, _, "PathTree$Entry", rfl, xu_D, by decide, Or.inl (t_in 101 rfl rfl), Or.inl rfl⟩
set_option maxRecDepth 20000 in
theorem p_D_36_2 {ini : Prop} : p_ok "PathTree$Directory" 36 2 1 (.object "PathTree$Directory") ini := ⟨_, _, _, "PathTree$Entry", rfl, xu_D, by decide, Or.inl (t_in 101 rfl rfl), Or.inl rfl, tk_D, by decide +kernel, Or.inl rfl⟩
set_option maxRecDepth 20000 in
theorem f_D_36_3 : f_ok "PathTree$Directory" 36 3 1 := ⟨_, _, _, "PathTree$Entry", rfl, xu_F, by decide, Or.inl (t_in 101 rfl rfl), Or.inl rfl⟩
set_option maxRecDepth 20000 in
theorem p_D_36_3 {ini : Prop} : p_ok "PathTree$Directory" 36 3 1 (.object "PathTree$Directory") ini := ⟨_, _, _, "PathTree$Entry", rfl, xu_F, by decide, Or.inl (t_in 101 rfl rfl), Or.inl rfl, tk_F, by decide +kernel, Or.inl rfl⟩
set_option maxRecDepth 20000 in
theorem f_P_87_3 : f_ok "PathTree" 87 3 1 := ⟨_, _, _, "PathTree$FileEntry", rfl, xu_F, by decide, Or.inl (t_in 102 rfl rfl), Or.inr (t_in 103 rfl rfl)⟩
set_option maxRecDepth 20000 in
theorem p_P_87_3 {ini : Prop} : p_ok "PathTree" 87 3 1 (.object "PathTree$Directory") ini := ⟨_, _, _, "PathTree$FileEntry", rfl, xu_F, by decide, Or.inl (t_in 102 rfl rfl), Or.inr (t_in 103 rfl rfl), tk_F, by decide +kernel, Or.inl rfl⟩
set_option maxRecDepth 20000 in
theorem f_P_155_2 : f_ok "PathTree" 155 2 1 := ⟨_, _, _, "PathTree$Directory", rfl, xu_D, by decide, Or.inl (t_in 104 rfl rfl), Or.inr (t_in 100 rfl rfl)⟩
set_option maxRecDepth 20000 in
theorem p_P_155_2 {ini : Prop} : p_ok "PathTree" 155 2 1 (.object "PathTree$Directory") ini := ⟨_, _, _, "PathTree$Directory", rfl, xu_D, by decide, Or.inl (t_in 104 rfl rfl), Or.inr (t_in 100 rfl rfl), tk_D, by decide +kernel, Or.inl rfl⟩
set_option maxRecDepth 20000 in
theorem f_P_173_2 : f_ok "PathTree" 173 2 1 := ⟨_, _, _, "PathTree$Entry", rfl, xu_D, by decide, Or.inl (t_in 105 rfl rfl), Or.inl rfl⟩
set_option maxRecDepth 20000 in
theorem p_P_173_2 {ini : Prop} : p_ok "PathTree" 173 2 1 (.object "PathTree$Directory") ini := ⟨_, _, _, "PathTree$Entry", rfl, xu_D, by decide, Or.inl (t_in 105 rfl rfl), Or.inl rfl, tk_D, by decide +kernel, Or.inl rfl⟩
set_option maxRecDepth 20000 in
theorem f_P_173_3 : f_ok "PathTree" 173 3 1 := ⟨_, _, _, "PathTree$Entry", rfl, xu_F, by decide, Or.inl (t_in 105 rfl rfl), Or.inl rfl⟩
set_option maxRecDepth 20000 in
theorem p_P_173_3 {ini : Prop} : p_ok "PathTree" 173 3 1 (.object "PathTree$Directory") ini := ⟨_, _, _, "PathTree$Entry", rfl, xu_F, by decide, Or.inl (t_in 105 rfl rfl), Or.inl rfl, tk_F, by decide +kernel, Or.inl rfl⟩
set_option maxRecDepth 20000 in
theorem f_E_13_2 : f_ok "PathTree$Entry" 13 2 2 := ⟨_, _, _, "PathTree$Entry", rfl, xu_D, by decide, Or.inl (t_in 106 rfl rfl), Or.inl rfl⟩
set_option maxRecDepth 20000 in
theorem p_E_13_2 {ini : Prop} : p_ok "PathTree$Entry" 13 2 2 (.object "PathTree$Entry") ini := ⟨_, _, _, "PathTree$Entry", rfl, xu_D, by decide, Or.inl (t_in 106 rfl rfl), Or.inl rfl, tk_D, by decide +kernel, Or.inl rfl⟩
set_option maxRecDepth 20000 in
theorem f_E_13_3 : f_ok "PathTree$Entry" 13 3 2 := ⟨_, _, _, "PathTree$Entry", rfl, xu_F, by decide, Or.inl (t_in 106 rfl rfl), Or.inl rfl⟩
set_option maxRecDepth 20000 in
theorem p_E_13_3 {ini : Prop} : p_ok "PathTree$Entry" 13 3 2 (.object "PathTree$Entry") ini := ⟨_, _, _, "PathTree$Entry", rfl, xu_F, by decide, Or.inl (t_in 106 rfl rfl), Or.inl rfl, tk_F, by decide +kernel, Or.inl rfl⟩
set_option maxRecDepth 20000 in
theorem f_D_21_2 : f_ok "PathTree$Directory" 21 2 2 := ⟨_, _, _, "PathTree$Entry", rfl, xu_D, by decide, Or.inl (t_in 107 rfl rfl), Or.inl rfl⟩
set_option maxRecDepth 20000 in
theorem p_D_21_2 {ini : Prop} : p_ok "PathTree$Directory" 21 2 2 (.object "PathTree$Entry") ini := ⟨_, _, _, "PathTree$Entry", rfl, xu_D, by decide, Or.inl (t_in 107 rfl rfl), Or.inl rfl, tk_D, by decide +kernel, Or.inl rfl⟩
set_option maxRecDepth 20000 in
theorem f_D_21_3 : f_ok "PathTree$Directory" 21 3 2 := ⟨_, _, _, "PathTree$Entry", rfl, xu_F, by decide, Or.inl (t_in 107 rfl rfl), Or.inl rfl⟩
set_option maxRecDepth 20000 in
theorem p_D_21_3 {ini : Prop} : p_ok "PathTree$Directory" 21 3 2 (.object "PathTree$Entry") ini := ⟨_, _, _, "PathTree$Entry", rfl, xu_F, by decide, Or.inl (t_in 107 rfl rfl), Or.inl rfl, tk_F, by decide +kernel, Or.inl rfl⟩
set_option maxRecDepth 20000 in
theorem f_P_10_0 : f_ok "PathTree" 10 0 0 := ⟨_, _, _, "PathTree", rfl, xu_P, by decide, Or.inl (t_in 119 rfl rfl), Or.inl rfl⟩
set_option maxRecDepth 20000 in
theorem p_P_10_0 {ini : Prop} (hi : ini) : p_ok "PathTree" 10 0 0 (.object "PathTree$PathText") ini := ⟨_, _, _, "PathTree", rfl, xu_P, by decide, Or.inl (t_in 119 rfl rfl), Or.inl rfl, tk_P, by decide +kernel, Or.inr ⟨rfl, hi, rfl⟩⟩
set_option maxRecDepth 20000 in
theorem f_P_21_0 : f_ok "PathTree" 21 0 1 := ⟨_, _, _, "PathTree", rfl, xu_P, by decide, Or.inl (t_in 120 rfl rfl), Or.inl rfl⟩
set_option maxRecDepth 20000 in
theorem p_P_21_0 {ini : Prop} (hi : ini) : p_ok "PathTree" 21 0 1 (.object "PathTree$Directory") ini := ⟨_, _, _, "PathTree", rfl, xu_P, by decide, Or.inl (t_in 120 rfl rfl), Or.inl rfl, tk_P, by decide +kernel, Or.inr ⟨rfl, hi, rfl⟩⟩
set_option maxRecDepth 20000 in
theorem f_P_25_0 : f_ok "PathTree" 25 0 2 := ⟨_, _, _, "PathTree", rfl, xu_P, by decide, Or.inl (t_in 121 rfl rfl), Or.inl rfl⟩
set_option maxRecDepth 20000 in
theorem p_P_25_0 {ini : Prop} : p_ok "PathTree" 25 0 2 (.object "PathTree$Directory") ini := ⟨_, _, _, "PathTree", rfl, xu_P, by decide, Or.inl (t_in 121 rfl rfl), Or.inl rfl, tk_P, by decide +kernel, Or.inl rfl⟩
set_option maxRecDepth 20000 in
theorem f_P_28_0 : f_ok "PathTree" 28 0 3 := ⟨_, _, _, "PathTree", rfl, xu_P, by decide, Or.inl (t_in 122 rfl rfl), Or.inl rfl⟩
set_option maxRecDepth 20000 in
theorem p_P_28_0 {ini : Prop} : p_ok "PathTree" 28 0 3 (.object "PathTree$FileEntry") ini := ⟨_, _, _, "PathTree", rfl, xu_P, by decide, Or.inl (t_in 122 rfl rfl), Or.inl rfl, tk_P, by decide +kernel, Or.inl rfl⟩
set_option maxRecDepth 20000 in
theorem f_P_32_0 : f_ok "PathTree" 32 0 4 := ⟨_, _, _, "PathTree", rfl, xu_P, by decide, Or.inl (t_in 123 rfl rfl), Or.inl rfl⟩
set_option maxRecDepth 20000 in
theorem p_P_32_0 {ini : Prop} : p_ok "PathTree" 32 0 4 (.int) ini := ⟨_, _, _, "PathTree", rfl, xu_P, by decide, Or.inl (t_in 123 rfl rfl), Or.inl rfl, tk_P, by decide +kernel, Or.inl rfl⟩
set_option maxRecDepth 20000 in
theorem f_P_36_0 : f_ok "PathTree" 36 0 5 := ⟨_, _, _, "PathTree", rfl, xu_P, by decide, Or.inl (t_in 124 rfl rfl), Or.inl rfl⟩
set_option maxRecDepth 20000 in
theorem p_P_36_0 {ini : Prop} : p_ok "PathTree" 36 0 5 (.int) ini := ⟨_, _, _, "PathTree", rfl, xu_P, by decide, Or.inl (t_in 124 rfl rfl), Or.inl rfl, tk_P, by decide +kernel, Or.inl rfl⟩
set_option maxRecDepth 20000 in
theorem f_P_39_0 : f_ok "PathTree" 39 0 6 := ⟨_, _, _, "PathTree", rfl, xu_P, by decide, Or.inl (t_in 125 rfl rfl), Or.inl rfl⟩
set_option maxRecDepth 20000 in
theorem p_P_39_0 {ini : Prop} : p_ok "PathTree" 39 0 6 (.int) ini := ⟨_, _, _, "PathTree", rfl, xu_P, by decide, Or.inl (t_in 125 rfl rfl), Or.inl rfl, tk_P, by decide +kernel, Or.inl rfl⟩
set_option maxRecDepth 20000 in
theorem f_F_11_3 : f_ok "PathTree$FileEntry" 11 3 3 := ⟨_, _, _, "PathTree$FileEntry", rfl, xu_F, by decide, Or.inl (t_in 284 rfl rfl), Or.inl rfl⟩
set_option maxRecDepth 20000 in
theorem p_F_11_3 {ini : Prop} : p_ok "PathTree$FileEntry" 11 3 3 (.array .byte) ini := ⟨_, _, _, "PathTree$FileEntry", rfl, xu_F, by decide, Or.inl (t_in 284 rfl rfl), Or.inl rfl, tk_F, by decide +kernel, Or.inl rfl⟩
set_option maxRecDepth 20000 in
theorem f_F_15_3 : f_ok "PathTree$FileEntry" 15 3 4 := ⟨_, _, _, "PathTree$FileEntry", rfl, xu_F, by decide, Or.inl (t_in 285 rfl rfl), Or.inl rfl⟩
set_option maxRecDepth 20000 in
theorem p_F_15_3 {ini : Prop} : p_ok "PathTree$FileEntry" 15 3 4 (.int) ini := ⟨_, _, _, "PathTree$FileEntry", rfl, xu_F, by decide, Or.inl (t_in 285 rfl rfl), Or.inl rfl, tk_F, by decide +kernel, Or.inl rfl⟩
set_option maxRecDepth 20000 in
theorem f_R_7_4 : f_ok "PathTreeModel" 7 4 0 := ⟨_, _, _, "PathTreeModel", rfl, xu_R, by decide, Or.inl (t_in 385 rfl rfl), Or.inl rfl⟩
set_option maxRecDepth 20000 in
theorem p_R_7_4 {ini : Prop} (hi : ini) : p_ok "PathTreeModel" 7 4 0 (.array .int) ini := ⟨_, _, _, "PathTreeModel", rfl, xu_R, by decide, Or.inl (t_in 385 rfl rfl), Or.inl rfl, tk_R, by decide +kernel, Or.inr ⟨rfl, hi, rfl⟩⟩
set_option maxRecDepth 20000 in
theorem f_R_44_4 : f_ok "PathTreeModel" 44 4 1 := ⟨_, _, _, "PathTreeModel", rfl, xu_R, by decide, Or.inl (t_in 386 rfl rfl), Or.inl rfl⟩
set_option maxRecDepth 20000 in
theorem p_R_44_4 {ini : Prop} : p_ok "PathTreeModel" 44 4 1 (.int) ini := ⟨_, _, _, "PathTreeModel", rfl, xu_R, by decide, Or.inl (t_in 386 rfl rfl), Or.inl rfl, tk_R, by decide +kernel, Or.inl rfl⟩
set_option maxRecDepth 20000 in
theorem f_R_13_4 : f_ok "PathTreeModel" 13 4 2 := ⟨_, _, _, "PathTreeModel", rfl, xu_R, by decide, Or.inl (t_in 387 rfl rfl), Or.inl rfl⟩
set_option maxRecDepth 20000 in
theorem p_R_13_4 {ini : Prop} (hi : ini) : p_ok "PathTreeModel" 13 4 2 (.array .int) ini := ⟨_, _, _, "PathTreeModel", rfl, xu_R, by decide, Or.inl (t_in 387 rfl rfl), Or.inl rfl, tk_R, by decide +kernel, Or.inr ⟨rfl, hi, rfl⟩⟩
set_option maxRecDepth 20000 in
theorem f_R_16_4 : f_ok "PathTreeModel" 16 4 3 := ⟨_, _, _, "PathTreeModel", rfl, xu_R, by decide, Or.inl (t_in 388 rfl rfl), Or.inl rfl⟩
set_option maxRecDepth 20000 in
theorem p_R_16_4 {ini : Prop} (hi : ini) : p_ok "PathTreeModel" 16 4 3 (.array .int) ini := ⟨_, _, _, "PathTreeModel", rfl, xu_R, by decide, Or.inl (t_in 388 rfl rfl), Or.inl rfl, tk_R, by decide +kernel, Or.inr ⟨rfl, hi, rfl⟩⟩
set_option maxRecDepth 20000 in
theorem f_R_19_4 : f_ok "PathTreeModel" 19 4 4 := ⟨_, _, _, "PathTreeModel", rfl, xu_R, by decide, Or.inl (t_in 389 rfl rfl), Or.inl rfl⟩
set_option maxRecDepth 20000 in
theorem p_R_19_4 {ini : Prop} (hi : ini) : p_ok "PathTreeModel" 19 4 4 (.array .int) ini := ⟨_, _, _, "PathTreeModel", rfl, xu_R, by decide, Or.inl (t_in 389 rfl rfl), Or.inl rfl, tk_R, by decide +kernel, Or.inr ⟨rfl, hi, rfl⟩⟩
set_option maxRecDepth 20000 in
theorem f_R_22_4 : f_ok "PathTreeModel" 22 4 5 := ⟨_, _, _, "PathTreeModel", rfl, xu_R, by decide, Or.inl (t_in 390 rfl rfl), Or.inl rfl⟩
set_option maxRecDepth 20000 in
theorem p_R_22_4 {ini : Prop} (hi : ini) : p_ok "PathTreeModel" 22 4 5 (.array .int) ini := ⟨_, _, _, "PathTreeModel", rfl, xu_R, by decide, Or.inl (t_in 390 rfl rfl), Or.inl rfl, tk_R, by decide +kernel, Or.inr ⟨rfl, hi, rfl⟩⟩
set_option maxRecDepth 20000 in
theorem f_R_25_4 : f_ok "PathTreeModel" 25 4 6 := ⟨_, _, _, "PathTreeModel", rfl, xu_R, by decide, Or.inl (t_in 391 rfl rfl), Or.inl rfl⟩
set_option maxRecDepth 20000 in
theorem p_R_25_4 {ini : Prop} (hi : ini) : p_ok "PathTreeModel" 25 4 6 (.array .int) ini := ⟨_, _, _, "PathTreeModel", rfl, xu_R, by decide, Or.inl (t_in 391 rfl rfl), Or.inl rfl, tk_R, by decide +kernel, Or.inr ⟨rfl, hi, rfl⟩⟩
set_option maxRecDepth 20000 in
theorem f_R_28_4 : f_ok "PathTreeModel" 28 4 7 := ⟨_, _, _, "PathTreeModel", rfl, xu_R, by decide, Or.inl (t_in 392 rfl rfl), Or.inl rfl⟩
set_option maxRecDepth 20000 in
theorem p_R_28_4 {ini : Prop} : p_ok "PathTreeModel" 28 4 7 (.int) ini := ⟨_, _, _, "PathTreeModel", rfl, xu_R, by decide, Or.inl (t_in 392 rfl rfl), Or.inl rfl, tk_R, by decide +kernel, Or.inl rfl⟩
set_option maxRecDepth 20000 in
theorem f_R_55_4 : f_ok "PathTreeModel" 55 4 8 := ⟨_, _, _, "PathTreeModel", rfl, xu_R, by decide, Or.inl (t_in 393 rfl rfl), Or.inl rfl⟩
set_option maxRecDepth 20000 in
theorem p_R_55_4 {ini : Prop} : p_ok "PathTreeModel" 55 4 8 (.int) ini := ⟨_, _, _, "PathTreeModel", rfl, xu_R, by decide, Or.inl (t_in 393 rfl rfl), Or.inl rfl, tk_R, by decide +kernel, Or.inl rfl⟩
set_option maxRecDepth 20000 in
theorem f_R_32_4 : f_ok "PathTreeModel" 32 4 9 := ⟨_, _, _, "PathTreeModel", rfl, xu_R, by decide, Or.inl (t_in 394 rfl rfl), Or.inl rfl⟩
set_option maxRecDepth 20000 in
theorem p_R_32_4 {ini : Prop} : p_ok "PathTreeModel" 32 4 9 (.int) ini := ⟨_, _, _, "PathTreeModel", rfl, xu_R, by decide, Or.inl (t_in 394 rfl rfl), Or.inl rfl, tk_R, by decide +kernel, Or.inl rfl⟩
set_option maxRecDepth 20000 in
theorem f_R_83_4 : f_ok "PathTreeModel" 83 4 10 := ⟨_, _, _, "PathTreeModel", rfl, xu_R, by decide, Or.inl (t_in 395 rfl rfl), Or.inl rfl⟩
set_option maxRecDepth 20000 in
theorem p_R_83_4 {ini : Prop} : p_ok "PathTreeModel" 83 4 10 (.boolean) ini := ⟨_, _, _, "PathTreeModel", rfl, xu_R, by decide, Or.inl (t_in 395 rfl rfl), Or.inl rfl, tk_R, by decide +kernel, Or.inl rfl⟩
set_option maxRecDepth 20000 in
theorem f_R_87_4 : f_ok "PathTreeModel" 87 4 11 := ⟨_, _, _, "PathTreeModel", rfl, xu_R, by decide, Or.inl (t_in 396 rfl rfl), Or.inl rfl⟩
set_option maxRecDepth 20000 in
theorem p_R_87_4 {ini : Prop} : p_ok "PathTreeModel" 87 4 11 (.int) ini := ⟨_, _, _, "PathTreeModel", rfl, xu_R, by decide, Or.inl (t_in 396 rfl rfl), Or.inl rfl, tk_R, by decide +kernel, Or.inl rfl⟩
set_option maxRecDepth 20000 in
theorem f_R_36_4 : f_ok "PathTreeModel" 36 4 12 := ⟨_, _, _, "PathTreeModel", rfl, xu_R, by decide, Or.inl (t_in 397 rfl rfl), Or.inl rfl⟩
set_option maxRecDepth 20000 in
theorem p_R_36_4 {ini : Prop} (hi : ini) : p_ok "PathTreeModel" 36 4 12 (.array .byte) ini := ⟨_, _, _, "PathTreeModel", rfl, xu_R, by decide, Or.inl (t_in 397 rfl rfl), Or.inl rfl, tk_R, by decide +kernel, Or.inr ⟨rfl, hi, rfl⟩⟩
set_option maxRecDepth 20000 in
theorem f_R_40_4 : f_ok "PathTreeModel" 40 4 13 := ⟨_, _, _, "PathTreeModel", rfl, xu_R, by decide, Or.inl (t_in 398 rfl rfl), Or.inl rfl⟩
set_option maxRecDepth 20000 in
theorem p_R_40_4 {ini : Prop} (hi : ini) : p_ok "PathTreeModel" 40 4 13 (.array .short) ini := ⟨_, _, _, "PathTreeModel", rfl, xu_R, by decide, Or.inl (t_in 398 rfl rfl), Or.inl rfl, tk_R, by decide +kernel, Or.inr ⟨rfl, hi, rfl⟩⟩
set_option maxRecDepth 20000 in
theorem f_P_156_1 : f_ok "PathTree" 156 1 0 := ⟨_, _, _, "PathTree$PathText", rfl, xu_T, by decide, Or.inr ⟨"PathTree", by decide⟩, Or.inl rfl⟩
set_option maxRecDepth 20000 in
theorem f_P_54_1 : f_ok "PathTree" 54 1 1 := ⟨_, _, _, "PathTree$PathText", rfl, xu_T, by decide, Or.inr ⟨"PathTree", by decide⟩, Or.inl rfl⟩
set_option maxRecDepth 20000 in
theorem p_P_54_1 {ini : Prop} : p_ok "PathTree" 54 1 1 (.int) ini := ⟨_, _, _, "PathTree$PathText", rfl, xu_T, by decide, Or.inr ⟨rfl, "PathTree", by decide⟩, Or.inl rfl, tk_T, by decide +kernel, Or.inl rfl⟩
set_option maxRecDepth 20000 in
theorem f_P_129_2 : f_ok "PathTree" 129 2 4 := ⟨_, _, _, "PathTree$Directory", rfl, xu_D, by decide, Or.inr ⟨"PathTree", by decide⟩, Or.inl rfl⟩
set_option maxRecDepth 20000 in
theorem p_P_129_2 {ini : Prop} : p_ok "PathTree" 129 2 4 (.int) ini := ⟨_, _, _, "PathTree$Directory", rfl, xu_D, by decide, Or.inr ⟨rfl, "PathTree", by decide⟩, Or.inl rfl, tk_D, by decide +kernel, Or.inl rfl⟩
set_option maxRecDepth 20000 in
theorem f_P_82_3 : f_ok "PathTree" 82 3 4 := ⟨_, _, _, "PathTree$FileEntry", rfl, xu_F, by decide, Or.inr ⟨"PathTree", by decide⟩, Or.inl rfl⟩
set_option maxRecDepth 20000 in
theorem p_P_82_3 {ini : Prop} : p_ok "PathTree" 82 3 4 (.int) ini := ⟨_, _, _, "PathTree$FileEntry", rfl, xu_F, by decide, Or.inr ⟨rfl, "PathTree", by decide⟩, Or.inl rfl, tk_F, by decide +kernel, Or.inl rfl⟩
set_option maxRecDepth 20000 in
theorem cl_L_7 : Cond.classLink "PathTreeLaw" 7 "PathTree" ∈ tb := t_in 57 rfl rfl
set_option maxRecDepth 20000 in
theorem w_L_7 : w_ok "PathTreeLaw" 7 0 7 xZ_P := ⟨_, _, xT_P, rfl, xu_P, by decide +kernel, cl_L_7, t_in 58 rfl rfl, t_in 48 rfl rfl, by decide +kernel⟩
set_option maxRecDepth 20000 in
theorem cl_P_7 : Cond.classLink "PathTree" 7 "PathTree$PathText" ∈ tb := t_in 65 rfl rfl
set_option maxRecDepth 20000 in
theorem w_P_7 : w_ok "PathTree" 7 1 2 xZ_T := ⟨_, _, xT_T, rfl, xu_T, by decide +kernel, cl_P_7, t_in 66 rfl rfl, t_in 49 rfl rfl, by decide +kernel⟩
set_option maxRecDepth 20000 in
theorem cl_P_16 : Cond.classLink "PathTree" 16 "PathTree$Directory" ∈ tb := t_in 81 rfl rfl
set_option maxRecDepth 20000 in
theorem w_P_16 : w_ok "PathTree" 16 2 5 xZ_D := ⟨_, _, xT_D, rfl, xu_D, by decide +kernel, cl_P_16, t_in 82 rfl rfl, t_in 51 rfl rfl, by decide +kernel⟩
set_option maxRecDepth 20000 in
theorem cl_J_323 : Cond.classLink "java/util/Arrays" 323 "[C" ∈ tb := t_in 257 rfl rfl
set_option maxRecDepth 20000 in
theorem cl_P_76 : Cond.classLink "PathTree" 76 "PathTree$FileEntry" ∈ tb := t_in 274 rfl rfl
set_option maxRecDepth 20000 in
theorem w_P_76 : w_ok "PathTree" 76 3 5 xZ_F := ⟨_, _, xT_F, rfl, xu_F, by decide +kernel, cl_P_76, t_in 279 rfl rfl, t_in 56 rfl rfl, by decide +kernel⟩
set_option maxRecDepth 20000 in
theorem cl_J_311 : Cond.classLink "java/util/Arrays" 311 "[B" ∈ tb := t_in 326 rfl rfl
set_option maxRecDepth 20000 in
theorem cl_L_10 : Cond.classLink "PathTreeLaw" 10 "PathTreeModel" ∈ tb := t_in 378 rfl rfl
set_option maxRecDepth 20000 in
theorem w_L_10 : w_ok "PathTreeLaw" 10 4 14 xZ_R := ⟨_, _, xT_R, rfl, xu_R, by decide +kernel, cl_L_10, t_in 379 rfl rfl, t_in 52 rfl rfl, by decide +kernel⟩
set_option maxRecDepth 20000 in
theorem ar_char : Cond.arrayClass (newarray.typeOf .char) ∈ tb := t_in 80 rfl rfl
set_option maxRecDepth 20000 in
theorem ar_byte : Cond.arrayClass (newarray.typeOf .byte) ∈ tb := t_in 295 rfl rfl
set_option maxRecDepth 20000 in
theorem ar_int : Cond.arrayClass (newarray.typeOf .int) ∈ tb := t_in 428 rfl rfl
set_option maxRecDepth 20000 in
theorem ar_short : Cond.arrayClass (newarray.typeOf .short) ∈ tb := t_in 429 rfl rfl
set_option maxRecDepth 20000 in
theorem okP_init : m_ok mP_init 0 := ⟨t_in 61 rfl rfl, t_in 48 rfl rfl, by decide +kernel, by decide +kernel, by decide⟩
set_option maxRecDepth 20000 in
theorem imP_init : Cond.instanceMethod (m_Y mP_init) ∈ tb := t_in 60 rfl rfl
set_option maxRecDepth 20000 in
theorem okT_init : m_ok mT_init 0 := ⟨t_in 69 rfl rfl, t_in 49 rfl rfl, by decide +kernel, by decide +kernel, by decide⟩
set_option maxRecDepth 20000 in
theorem imT_init : Cond.instanceMethod (m_Y mT_init) ∈ tb := t_in 68 rfl rfl
set_option maxRecDepth 20000 in
theorem okD_init : m_ok mD_init 1 := ⟨t_in 85 rfl rfl, t_in 51 rfl rfl, by decide +kernel, by decide +kernel, by decide⟩
set_option maxRecDepth 20000 in
theorem imD_init : Cond.instanceMethod (m_Y mD_init) ∈ tb := t_in 84 rfl rfl
set_option maxRecDepth 20000 in
theorem okE_init : m_ok mE_init 1 := ⟨t_in 88 rfl rfl, t_in 50 rfl rfl, by decide +kernel, by decide +kernel, by decide⟩
set_option maxRecDepth 20000 in
theorem imE_init : Cond.instanceMethod (m_Y mE_init) ∈ tb := t_in 87 rfl rfl
set_option maxRecDepth 20000 in
theorem okP_path : m_ok mP_path 2 := ⟨t_in 144 rfl rfl, t_in 48 rfl rfl, by decide +kernel, by decide +kernel, by decide⟩
set_option maxRecDepth 20000 in
theorem imP_path : Cond.instanceMethod (m_Y mP_path) ∈ tb := t_in 142 rfl rfl
set_option maxRecDepth 20000 in
theorem seP_path_P : Cond.selects "PathTree" (m_Y mP_path) (m_Y mP_path) ∈ tb := t_in 143 rfl rfl
set_option maxRecDepth 20000 in
theorem okP_isByteCount : m_ok mP_isByteCount 1 := ⟨t_in 147 rfl rfl, t_in 48 rfl rfl, by decide +kernel, by decide +kernel, by decide⟩
set_option maxRecDepth 20000 in
theorem stP_isByteCount : Cond.static (m_Y mP_isByteCount) ∈ tb := t_in 146 rfl rfl
set_option maxRecDepth 20000 in
theorem okT_takes : m_ok mT_takes 2 := ⟨t_in 151 rfl rfl, t_in 49 rfl rfl, by decide +kernel, by decide +kernel, by decide⟩
set_option maxRecDepth 20000 in
theorem imT_takes : Cond.instanceMethod (m_Y mT_takes) ∈ tb := t_in 150 rfl rfl
set_option maxRecDepth 20000 in
theorem seT_takes_T : Cond.selects "PathTree$PathText" (m_Y mT_takes) (m_Y mT_takes) ∈ tb := t_in 0 rfl rfl
set_option maxRecDepth 20000 in
theorem okP_byteOf : m_ok mP_byteOf 2 := ⟨t_in 154 rfl rfl, t_in 48 rfl rfl, by decide +kernel, by decide +kernel, by decide⟩
set_option maxRecDepth 20000 in
theorem stP_byteOf : Cond.static (m_Y mP_byteOf) ∈ tb := t_in 153 rfl rfl
set_option maxRecDepth 20000 in
theorem okT_isPathCharacter : m_ok mT_isPathCharacter 1 := ⟨t_in 157 rfl rfl, t_in 49 rfl rfl, by decide +kernel, by decide +kernel, by decide⟩
set_option maxRecDepth 20000 in
theorem stT_isPathCharacter : Cond.static (m_Y mT_isPathCharacter) ∈ tb := t_in 156 rfl rfl
set_option maxRecDepth 20000 in
theorem okT_append : m_ok mT_append 2 := ⟨t_in 161 rfl rfl, t_in 49 rfl rfl, by decide +kernel, by decide +kernel, by decide⟩
set_option maxRecDepth 20000 in
theorem imT_append : Cond.instanceMethod (m_Y mT_append) ∈ tb := t_in 160 rfl rfl
set_option maxRecDepth 20000 in
theorem seT_append_T : Cond.selects "PathTree$PathText" (m_Y mT_append) (m_Y mT_append) ∈ tb := t_in 1 rfl rfl
set_option maxRecDepth 20000 in
theorem okP_find : m_ok mP_find 0 := ⟨t_in 165 rfl rfl, t_in 48 rfl rfl, by decide +kernel, by decide +kernel, by decide⟩
set_option maxRecDepth 20000 in
theorem imP_find : Cond.instanceMethod (m_Y mP_find) ∈ tb := t_in 163 rfl rfl
set_option maxRecDepth 20000 in
theorem seP_find_P : Cond.selects "PathTree" (m_Y mP_find) (m_Y mP_find) ∈ tb := t_in 164 rfl rfl
set_option maxRecDepth 20000 in
theorem okP_target : m_ok mP_target 0 := ⟨t_in 169 rfl rfl, t_in 48 rfl rfl, by decide +kernel, by decide +kernel, by decide⟩
set_option maxRecDepth 20000 in
theorem imP_target : Cond.instanceMethod (m_Y mP_target) ∈ tb := t_in 168 rfl rfl
set_option maxRecDepth 20000 in
theorem seP_target_P : Cond.selects "PathTree" (m_Y mP_target) (m_Y mP_target) ∈ tb := t_in 2 rfl rfl
set_option maxRecDepth 20000 in
theorem okP_entryBefore : m_ok mP_entryBefore 1 := ⟨t_in 173 rfl rfl, t_in 48 rfl rfl, by decide +kernel, by decide +kernel, by decide⟩
set_option maxRecDepth 20000 in
theorem imP_entryBefore : Cond.instanceMethod (m_Y mP_entryBefore) ∈ tb := t_in 172 rfl rfl
set_option maxRecDepth 20000 in
theorem seP_entryBefore_P : Cond.selects "PathTree" (m_Y mP_entryBefore) (m_Y mP_entryBefore) ∈ tb := t_in 3 rfl rfl
set_option maxRecDepth 20000 in
theorem okT_isSlash : m_ok mT_isSlash 1 := ⟨t_in 177 rfl rfl, t_in 49 rfl rfl, by decide +kernel, by decide +kernel, by decide⟩
set_option maxRecDepth 20000 in
theorem imT_isSlash : Cond.instanceMethod (m_Y mT_isSlash) ∈ tb := t_in 176 rfl rfl
set_option maxRecDepth 20000 in
theorem seT_isSlash_T : Cond.selects "PathTree$PathText" (m_Y mT_isSlash) (m_Y mT_isSlash) ∈ tb := t_in 4 rfl rfl
set_option maxRecDepth 20000 in
theorem okT_is : m_ok mT_is 2 := ⟨t_in 181 rfl rfl, t_in 49 rfl rfl, by decide +kernel, by decide +kernel, by decide⟩
set_option maxRecDepth 20000 in
theorem imT_is : Cond.instanceMethod (m_Y mT_is) ∈ tb := t_in 180 rfl rfl
set_option maxRecDepth 20000 in
theorem seT_is_T : Cond.selects "PathTree$PathText" (m_Y mT_is) (m_Y mT_is) ∈ tb := t_in 5 rfl rfl
set_option maxRecDepth 20000 in
theorem okP_step : m_ok mP_step 3 := ⟨t_in 185 rfl rfl, t_in 48 rfl rfl, by decide +kernel, by decide +kernel, by decide⟩
set_option maxRecDepth 20000 in
theorem imP_step : Cond.instanceMethod (m_Y mP_step) ∈ tb := t_in 184 rfl rfl
set_option maxRecDepth 20000 in
theorem seP_step_P : Cond.selects "PathTree" (m_Y mP_step) (m_Y mP_step) ∈ tb := t_in 6 rfl rfl
set_option maxRecDepth 20000 in
theorem okT_isDot : m_ok mT_isDot 2 := ⟨t_in 189 rfl rfl, t_in 49 rfl rfl, by decide +kernel, by decide +kernel, by decide⟩
set_option maxRecDepth 20000 in
theorem imT_isDot : Cond.instanceMethod (m_Y mT_isDot) ∈ tb := t_in 188 rfl rfl
set_option maxRecDepth 20000 in
theorem seT_isDot_T : Cond.selects "PathTree$PathText" (m_Y mT_isDot) (m_Y mT_isDot) ∈ tb := t_in 7 rfl rfl
set_option maxRecDepth 20000 in
theorem okT_isDotDot : m_ok mT_isDotDot 2 := ⟨t_in 193 rfl rfl, t_in 49 rfl rfl, by decide +kernel, by decide +kernel, by decide⟩
set_option maxRecDepth 20000 in
theorem imT_isDotDot : Cond.instanceMethod (m_Y mT_isDotDot) ∈ tb := t_in 192 rfl rfl
set_option maxRecDepth 20000 in
theorem seT_isDotDot_T : Cond.selects "PathTree$PathText" (m_Y mT_isDotDot) (m_Y mT_isDotDot) ∈ tb := t_in 8 rfl rfl
set_option maxRecDepth 20000 in
theorem okD_entryCalled : m_ok mD_entryCalled 3 := ⟨t_in 197 rfl rfl, t_in 51 rfl rfl, by decide +kernel, by decide +kernel, by decide⟩
set_option maxRecDepth 20000 in
theorem imD_entryCalled : Cond.instanceMethod (m_Y mD_entryCalled) ∈ tb := t_in 196 rfl rfl
set_option maxRecDepth 20000 in
theorem seD_entryCalled_D : Cond.selects "PathTree$Directory" (m_Y mD_entryCalled) (m_Y mD_entryCalled) ∈ tb := t_in 9 rfl rfl
set_option maxRecDepth 20000 in
theorem okE_order : m_ok mE_order 3 := ⟨t_in 203 rfl rfl, t_in 50 rfl rfl, by decide +kernel, by decide +kernel, by decide⟩
set_option maxRecDepth 20000 in
theorem imE_order : Cond.instanceMethod (m_Y mE_order) ∈ tb := t_in 199 rfl rfl
set_option maxRecDepth 20000 in
theorem seE_order_D : Cond.selects "PathTree$Directory" (m_Y mE_order) (m_Y mE_order) ∈ tb := t_in 201 rfl rfl
set_option maxRecDepth 20000 in
theorem seE_order_F : Cond.selects "PathTree$FileEntry" (m_Y mE_order) (m_Y mE_order) ∈ tb := t_in 202 rfl rfl
set_option maxRecDepth 20000 in
theorem smE_order : Cond.sameMethod "PathTree$Entry" "PathTree$Entry" "order" "([CII)I" ∈ tb := t_in 200 rfl rfl
set_option maxRecDepth 20000 in
theorem okT_clear : m_ok mT_clear 0 := ⟨t_in 207 rfl rfl, t_in 49 rfl rfl, by decide +kernel, by decide +kernel, by decide⟩
set_option maxRecDepth 20000 in
theorem imT_clear : Cond.instanceMethod (m_Y mT_clear) ∈ tb := t_in 206 rfl rfl
set_option maxRecDepth 20000 in
theorem seT_clear_T : Cond.selects "PathTree$PathText" (m_Y mT_clear) (m_Y mT_clear) ∈ tb := t_in 10 rfl rfl
set_option maxRecDepth 20000 in
theorem okP_make : m_ok mP_make 0 := ⟨t_in 211 rfl rfl, t_in 48 rfl rfl, by decide +kernel, by decide +kernel, by decide⟩
set_option maxRecDepth 20000 in
theorem imP_make : Cond.instanceMethod (m_Y mP_make) ∈ tb := t_in 209 rfl rfl
set_option maxRecDepth 20000 in
theorem seP_make_P : Cond.selects "PathTree" (m_Y mP_make) (m_Y mP_make) ∈ tb := t_in 210 rfl rfl
set_option maxRecDepth 20000 in
theorem okP_homeOfNew : m_ok mP_homeOfNew 0 := ⟨t_in 215 rfl rfl, t_in 48 rfl rfl, by decide +kernel, by decide +kernel, by decide⟩
set_option maxRecDepth 20000 in
theorem imP_homeOfNew : Cond.instanceMethod (m_Y mP_homeOfNew) ∈ tb := t_in 214 rfl rfl
set_option maxRecDepth 20000 in
theorem seP_homeOfNew_P : Cond.selects "PathTree" (m_Y mP_homeOfNew) (m_Y mP_homeOfNew) ∈ tb := t_in 11 rfl rfl
set_option maxRecDepth 20000 in
theorem okT_lastNameCanBe : m_ok mT_lastNameCanBe 0 := ⟨t_in 219 rfl rfl, t_in 49 rfl rfl, by decide +kernel, by decide +kernel, by decide⟩
set_option maxRecDepth 20000 in
theorem imT_lastNameCanBe : Cond.instanceMethod (m_Y mT_lastNameCanBe) ∈ tb := t_in 218 rfl rfl
set_option maxRecDepth 20000 in
theorem seT_lastNameCanBe_T : Cond.selects "PathTree$PathText" (m_Y mT_lastNameCanBe) (m_Y mT_lastNameCanBe) ∈ tb := t_in 12 rfl rfl
set_option maxRecDepth 20000 in
theorem okT_lastSlash : m_ok mT_lastSlash 0 := ⟨t_in 223 rfl rfl, t_in 49 rfl rfl, by decide +kernel, by decide +kernel, by decide⟩
set_option maxRecDepth 20000 in
theorem imT_lastSlash : Cond.instanceMethod (m_Y mT_lastSlash) ∈ tb := t_in 222 rfl rfl
set_option maxRecDepth 20000 in
theorem seT_lastSlash_T : Cond.selects "PathTree$PathText" (m_Y mT_lastSlash) (m_Y mT_lastSlash) ∈ tb := t_in 13 rfl rfl
set_option maxRecDepth 20000 in
theorem okP_home : m_ok mP_home 0 := ⟨t_in 230 rfl rfl, t_in 48 rfl rfl, by decide +kernel, by decide +kernel, by decide⟩
set_option maxRecDepth 20000 in
theorem imP_home : Cond.instanceMethod (m_Y mP_home) ∈ tb := t_in 229 rfl rfl
set_option maxRecDepth 20000 in
theorem seP_home_P : Cond.selects "PathTree" (m_Y mP_home) (m_Y mP_home) ∈ tb := t_in 14 rfl rfl
set_option maxRecDepth 20000 in
theorem okT_lastName : m_ok mT_lastName 0 := ⟨t_in 235 rfl rfl, t_in 49 rfl rfl, by decide +kernel, by decide +kernel, by decide⟩
set_option maxRecDepth 20000 in
theorem imT_lastName : Cond.instanceMethod (m_Y mT_lastName) ∈ tb := t_in 234 rfl rfl
set_option maxRecDepth 20000 in
theorem seT_lastName_T : Cond.selects "PathTree$PathText" (m_Y mT_lastName) (m_Y mT_lastName) ∈ tb := t_in 15 rfl rfl
set_option maxRecDepth 20000 in
theorem okJ_copyOfRange : m_ok mJ_copyOfRange 3 := ⟨t_in 238 rfl rfl, t_in 53 rfl rfl, by decide +kernel, by decide +kernel, by decide⟩
set_option maxRecDepth 20000 in
theorem stJ_copyOfRange : Cond.static (m_Y mJ_copyOfRange) ∈ tb := t_in 237 rfl rfl
set_option maxRecDepth 20000 in
theorem okJ_copyOfRangeChar : m_ok mJ_copyOfRangeChar 3 := ⟨t_in 241 rfl rfl, t_in 53 rfl rfl, by decide +kernel, by decide +kernel, by decide⟩
set_option maxRecDepth 20000 in
theorem stJ_copyOfRangeChar : Cond.static (m_Y mJ_copyOfRangeChar) ∈ tb := t_in 240 rfl rfl
set_option maxRecDepth 20000 in
theorem okJ_checkLength : m_ok mJ_checkLength 2 := ⟨t_in 244 rfl rfl, t_in 53 rfl rfl, by decide +kernel, by decide +kernel, by decide⟩
set_option maxRecDepth 20000 in
theorem stJ_checkLength : Cond.static (m_Y mJ_checkLength) ∈ tb := t_in 243 rfl rfl
set_option maxRecDepth 20000 in
theorem okD_admit : m_ok mD_admit 1 := ⟨t_in 261 rfl rfl, t_in 51 rfl rfl, by decide +kernel, by decide +kernel, by decide⟩
set_option maxRecDepth 20000 in
theorem imD_admit : Cond.instanceMethod (m_Y mD_admit) ∈ tb := t_in 260 rfl rfl
set_option maxRecDepth 20000 in
theorem seD_admit_D : Cond.selects "PathTree$Directory" (m_Y mD_admit) (m_Y mD_admit) ∈ tb := t_in 16 rfl rfl
set_option maxRecDepth 20000 in
theorem okD_link : m_ok mD_link 2 := ⟨t_in 265 rfl rfl, t_in 51 rfl rfl, by decide +kernel, by decide +kernel, by decide⟩
set_option maxRecDepth 20000 in
theorem imD_link : Cond.instanceMethod (m_Y mD_link) ∈ tb := t_in 264 rfl rfl
set_option maxRecDepth 20000 in
theorem seD_link_D : Cond.selects "PathTree$Directory" (m_Y mD_link) (m_Y mD_link) ∈ tb := t_in 17 rfl rfl
set_option maxRecDepth 20000 in
theorem okP_go : m_ok mP_go 0 := ⟨t_in 269 rfl rfl, t_in 48 rfl rfl, by decide +kernel, by decide +kernel, by decide⟩
set_option maxRecDepth 20000 in
theorem imP_go : Cond.instanceMethod (m_Y mP_go) ∈ tb := t_in 267 rfl rfl
set_option maxRecDepth 20000 in
theorem seP_go_P : Cond.selects "PathTree" (m_Y mP_go) (m_Y mP_go) ∈ tb := t_in 268 rfl rfl
set_option maxRecDepth 20000 in
theorem okP_open : m_ok mP_open 0 := ⟨t_in 273 rfl rfl, t_in 48 rfl rfl, by decide +kernel, by decide +kernel, by decide⟩
set_option maxRecDepth 20000 in
theorem imP_open : Cond.instanceMethod (m_Y mP_open) ∈ tb := t_in 271 rfl rfl
set_option maxRecDepth 20000 in
theorem seP_open_P : Cond.selects "PathTree" (m_Y mP_open) (m_Y mP_open) ∈ tb := t_in 272 rfl rfl
set_option maxRecDepth 20000 in
theorem okP_newFile : m_ok mP_newFile 1 := ⟨t_in 278 rfl rfl, t_in 48 rfl rfl, by decide +kernel, by decide +kernel, by decide⟩
set_option maxRecDepth 20000 in
theorem imP_newFile : Cond.instanceMethod (m_Y mP_newFile) ∈ tb := t_in 277 rfl rfl
set_option maxRecDepth 20000 in
theorem seP_newFile_P : Cond.selects "PathTree" (m_Y mP_newFile) (m_Y mP_newFile) ∈ tb := t_in 18 rfl rfl
set_option maxRecDepth 20000 in
theorem okF_init : m_ok mF_init 1 := ⟨t_in 282 rfl rfl, t_in 56 rfl rfl, by decide +kernel, by decide +kernel, by decide⟩
set_option maxRecDepth 20000 in
theorem imF_init : Cond.instanceMethod (m_Y mF_init) ∈ tb := t_in 281 rfl rfl
set_option maxRecDepth 20000 in
theorem okP_empty : m_ok mP_empty 0 := ⟨t_in 299 rfl rfl, t_in 48 rfl rfl, by decide +kernel, by decide +kernel, by decide⟩
set_option maxRecDepth 20000 in
theorem imP_empty : Cond.instanceMethod (m_Y mP_empty) ∈ tb := t_in 297 rfl rfl
set_option maxRecDepth 20000 in
theorem seP_empty_P : Cond.selects "PathTree" (m_Y mP_empty) (m_Y mP_empty) ∈ tb := t_in 298 rfl rfl
set_option maxRecDepth 20000 in
theorem okP_dropBytes : m_ok mP_dropBytes 1 := ⟨t_in 303 rfl rfl, t_in 48 rfl rfl, by decide +kernel, by decide +kernel, by decide⟩
set_option maxRecDepth 20000 in
theorem imP_dropBytes : Cond.instanceMethod (m_Y mP_dropBytes) ∈ tb := t_in 302 rfl rfl
set_option maxRecDepth 20000 in
theorem seP_dropBytes_P : Cond.selects "PathTree" (m_Y mP_dropBytes) (m_Y mP_dropBytes) ∈ tb := t_in 19 rfl rfl
set_option maxRecDepth 20000 in
theorem okP_write : m_ok mP_write 2 := ⟨t_in 307 rfl rfl, t_in 48 rfl rfl, by decide +kernel, by decide +kernel, by decide⟩
set_option maxRecDepth 20000 in
theorem imP_write : Cond.instanceMethod (m_Y mP_write) ∈ tb := t_in 305 rfl rfl
set_option maxRecDepth 20000 in
theorem seP_write_P : Cond.selects "PathTree" (m_Y mP_write) (m_Y mP_write) ∈ tb := t_in 306 rfl rfl
set_option maxRecDepth 20000 in
theorem okF_room : m_ok mF_room 0 := ⟨t_in 311 rfl rfl, t_in 56 rfl rfl, by decide +kernel, by decide +kernel, by decide⟩
set_option maxRecDepth 20000 in
theorem imF_room : Cond.instanceMethod (m_Y mF_room) ∈ tb := t_in 310 rfl rfl
set_option maxRecDepth 20000 in
theorem seF_room_F : Cond.selects "PathTree$FileEntry" (m_Y mF_room) (m_Y mF_room) ∈ tb := t_in 20 rfl rfl
set_option maxRecDepth 20000 in
theorem okF_append : m_ok mF_append 1 := ⟨t_in 318 rfl rfl, t_in 56 rfl rfl, by decide +kernel, by decide +kernel, by decide⟩
set_option maxRecDepth 20000 in
theorem imF_append : Cond.instanceMethod (m_Y mF_append) ∈ tb := t_in 317 rfl rfl
set_option maxRecDepth 20000 in
theorem seF_append_F : Cond.selects "PathTree$FileEntry" (m_Y mF_append) (m_Y mF_append) ∈ tb := t_in 21 rfl rfl
set_option maxRecDepth 20000 in
theorem okJ_copyOf : m_ok mJ_copyOf 2 := ⟨t_in 321 rfl rfl, t_in 53 rfl rfl, by decide +kernel, by decide +kernel, by decide⟩
set_option maxRecDepth 20000 in
theorem stJ_copyOf : Cond.static (m_Y mJ_copyOf) ∈ tb := t_in 320 rfl rfl
set_option maxRecDepth 20000 in
theorem okP_byteAt : m_ok mP_byteAt 1 := ⟨t_in 330 rfl rfl, t_in 48 rfl rfl, by decide +kernel, by decide +kernel, by decide⟩
set_option maxRecDepth 20000 in
theorem imP_byteAt : Cond.instanceMethod (m_Y mP_byteAt) ∈ tb := t_in 328 rfl rfl
set_option maxRecDepth 20000 in
theorem seP_byteAt_P : Cond.selects "PathTree" (m_Y mP_byteAt) (m_Y mP_byteAt) ∈ tb := t_in 329 rfl rfl
set_option maxRecDepth 20000 in
theorem okF_at : m_ok mF_at 1 := ⟨t_in 334 rfl rfl, t_in 56 rfl rfl, by decide +kernel, by decide +kernel, by decide⟩
set_option maxRecDepth 20000 in
theorem imF_at : Cond.instanceMethod (m_Y mF_at) ∈ tb := t_in 333 rfl rfl
set_option maxRecDepth 20000 in
theorem seF_at_F : Cond.selects "PathTree$FileEntry" (m_Y mF_at) (m_Y mF_at) ∈ tb := t_in 22 rfl rfl
set_option maxRecDepth 20000 in
theorem okP_remove : m_ok mP_remove 0 := ⟨t_in 338 rfl rfl, t_in 48 rfl rfl, by decide +kernel, by decide +kernel, by decide⟩
set_option maxRecDepth 20000 in
theorem imP_remove : Cond.instanceMethod (m_Y mP_remove) ∈ tb := t_in 336 rfl rfl
set_option maxRecDepth 20000 in
theorem seP_remove_P : Cond.selects "PathTree" (m_Y mP_remove) (m_Y mP_remove) ∈ tb := t_in 337 rfl rfl
set_option maxRecDepth 20000 in
theorem okP_discard : m_ok mP_discard 1 := ⟨t_in 342 rfl rfl, t_in 48 rfl rfl, by decide +kernel, by decide +kernel, by decide⟩
set_option maxRecDepth 20000 in
theorem imP_discard : Cond.instanceMethod (m_Y mP_discard) ∈ tb := t_in 341 rfl rfl
set_option maxRecDepth 20000 in
theorem seP_discard_P : Cond.selects "PathTree" (m_Y mP_discard) (m_Y mP_discard) ∈ tb := t_in 23 rfl rfl
set_option maxRecDepth 20000 in
theorem okP_detach : m_ok mP_detach 1 := ⟨t_in 345 rfl rfl, t_in 48 rfl rfl, by decide +kernel, by decide +kernel, by decide⟩
set_option maxRecDepth 20000 in
theorem stP_detach : Cond.static (m_Y mP_detach) ∈ tb := t_in 344 rfl rfl
set_option maxRecDepth 20000 in
theorem okD_release : m_ok mD_release 1 := ⟨t_in 349 rfl rfl, t_in 51 rfl rfl, by decide +kernel, by decide +kernel, by decide⟩
set_option maxRecDepth 20000 in
theorem imD_release : Cond.instanceMethod (m_Y mD_release) ∈ tb := t_in 348 rfl rfl
set_option maxRecDepth 20000 in
theorem seD_release_D : Cond.selects "PathTree$Directory" (m_Y mD_release) (m_Y mD_release) ∈ tb := t_in 24 rfl rfl
set_option maxRecDepth 20000 in
theorem okP_move : m_ok mP_move 0 := ⟨t_in 353 rfl rfl, t_in 48 rfl rfl, by decide +kernel, by decide +kernel, by decide⟩
set_option maxRecDepth 20000 in
theorem imP_move : Cond.instanceMethod (m_Y mP_move) ∈ tb := t_in 351 rfl rfl
set_option maxRecDepth 20000 in
theorem seP_move_P : Cond.selects "PathTree" (m_Y mP_move) (m_Y mP_move) ∈ tb := t_in 352 rfl rfl
set_option maxRecDepth 20000 in
theorem okP_moveToPath : m_ok mP_moveToPath 1 := ⟨t_in 357 rfl rfl, t_in 48 rfl rfl, by decide +kernel, by decide +kernel, by decide⟩
set_option maxRecDepth 20000 in
theorem imP_moveToPath : Cond.instanceMethod (m_Y mP_moveToPath) ∈ tb := t_in 356 rfl rfl
set_option maxRecDepth 20000 in
theorem seP_moveToPath_P : Cond.selects "PathTree" (m_Y mP_moveToPath) (m_Y mP_moveToPath) ∈ tb := t_in 25 rfl rfl
set_option maxRecDepth 20000 in
theorem okP_moveInto : m_ok mP_moveInto 3 := ⟨t_in 361 rfl rfl, t_in 48 rfl rfl, by decide +kernel, by decide +kernel, by decide⟩
set_option maxRecDepth 20000 in
theorem imP_moveInto : Cond.instanceMethod (m_Y mP_moveInto) ∈ tb := t_in 360 rfl rfl
set_option maxRecDepth 20000 in
theorem seP_moveInto_P : Cond.selects "PathTree" (m_Y mP_moveInto) (m_Y mP_moveInto) ∈ tb := t_in 26 rfl rfl
set_option maxRecDepth 20000 in
theorem okP_name : m_ok mP_name 2 := ⟨t_in 365 rfl rfl, t_in 48 rfl rfl, by decide +kernel, by decide +kernel, by decide⟩
set_option maxRecDepth 20000 in
theorem imP_name : Cond.instanceMethod (m_Y mP_name) ∈ tb := t_in 363 rfl rfl
set_option maxRecDepth 20000 in
theorem seP_name_P : Cond.selects "PathTree" (m_Y mP_name) (m_Y mP_name) ∈ tb := t_in 364 rfl rfl
set_option maxRecDepth 20000 in
theorem okD_entryAt : m_ok mD_entryAt 1 := ⟨t_in 369 rfl rfl, t_in 51 rfl rfl, by decide +kernel, by decide +kernel, by decide⟩
set_option maxRecDepth 20000 in
theorem imD_entryAt : Cond.instanceMethod (m_Y mD_entryAt) ∈ tb := t_in 368 rfl rfl
set_option maxRecDepth 20000 in
theorem seD_entryAt_D : Cond.selects "PathTree$Directory" (m_Y mD_entryAt) (m_Y mD_entryAt) ∈ tb := t_in 27 rfl rfl
set_option maxRecDepth 20000 in
theorem okP_count : m_ok mP_count 1 := ⟨t_in 373 rfl rfl, t_in 48 rfl rfl, by decide +kernel, by decide +kernel, by decide⟩
set_option maxRecDepth 20000 in
theorem imP_count : Cond.instanceMethod (m_Y mP_count) ∈ tb := t_in 371 rfl rfl
set_option maxRecDepth 20000 in
theorem seP_count_P : Cond.selects "PathTree" (m_Y mP_count) (m_Y mP_count) ∈ tb := t_in 372 rfl rfl
set_option maxRecDepth 20000 in
theorem okD_depth : m_ok mD_depth 0 := ⟨t_in 377 rfl rfl, t_in 51 rfl rfl, by decide +kernel, by decide +kernel, by decide⟩
set_option maxRecDepth 20000 in
theorem imD_depth : Cond.instanceMethod (m_Y mD_depth) ∈ tb := t_in 376 rfl rfl
set_option maxRecDepth 20000 in
theorem seD_depth_D : Cond.selects "PathTree$Directory" (m_Y mD_depth) (m_Y mD_depth) ∈ tb := t_in 28 rfl rfl
set_option maxRecDepth 20000 in
theorem okR_init : m_ok mR_init 0 := ⟨t_in 382 rfl rfl, t_in 52 rfl rfl, by decide +kernel, by decide +kernel, by decide⟩
set_option maxRecDepth 20000 in
theorem imR_init : Cond.instanceMethod (m_Y mR_init) ∈ tb := t_in 381 rfl rfl
set_option maxRecDepth 20000 in
theorem okR_path : m_ok mR_path 2 := ⟨t_in 433 rfl rfl, t_in 52 rfl rfl, by decide +kernel, by decide +kernel, by decide⟩
set_option maxRecDepth 20000 in
theorem imR_path : Cond.instanceMethod (m_Y mR_path) ∈ tb := t_in 431 rfl rfl
set_option maxRecDepth 20000 in
theorem seR_path_R : Cond.selects "PathTreeModel" (m_Y mR_path) (m_Y mR_path) ∈ tb := t_in 432 rfl rfl
set_option maxRecDepth 20000 in
theorem okR_find : m_ok mR_find 0 := ⟨t_in 437 rfl rfl, t_in 52 rfl rfl, by decide +kernel, by decide +kernel, by decide⟩
set_option maxRecDepth 20000 in
theorem imR_find : Cond.instanceMethod (m_Y mR_find) ∈ tb := t_in 435 rfl rfl
set_option maxRecDepth 20000 in
theorem seR_find_R : Cond.selects "PathTreeModel" (m_Y mR_find) (m_Y mR_find) ∈ tb := t_in 436 rfl rfl
set_option maxRecDepth 20000 in
theorem okR_lead : m_ok mR_lead 1 := ⟨t_in 441 rfl rfl, t_in 52 rfl rfl, by decide +kernel, by decide +kernel, by decide⟩
set_option maxRecDepth 20000 in
theorem imR_lead : Cond.instanceMethod (m_Y mR_lead) ∈ tb := t_in 440 rfl rfl
set_option maxRecDepth 20000 in
theorem seR_lead_R : Cond.selects "PathTreeModel" (m_Y mR_lead) (m_Y mR_lead) ∈ tb := t_in 29 rfl rfl
set_option maxRecDepth 20000 in
theorem okR_along : m_ok mR_along 3 := ⟨t_in 445 rfl rfl, t_in 52 rfl rfl, by decide +kernel, by decide +kernel, by decide⟩
set_option maxRecDepth 20000 in
theorem imR_along : Cond.instanceMethod (m_Y mR_along) ∈ tb := t_in 444 rfl rfl
set_option maxRecDepth 20000 in
theorem seR_along_R : Cond.selects "PathTreeModel" (m_Y mR_along) (m_Y mR_along) ∈ tb := t_in 30 rfl rfl
set_option maxRecDepth 20000 in
theorem okR_isDots : m_ok mR_isDots 3 := ⟨t_in 449 rfl rfl, t_in 52 rfl rfl, by decide +kernel, by decide +kernel, by decide⟩
set_option maxRecDepth 20000 in
theorem imR_isDots : Cond.instanceMethod (m_Y mR_isDots) ∈ tb := t_in 448 rfl rfl
set_option maxRecDepth 20000 in
theorem seR_isDots_R : Cond.selects "PathTreeModel" (m_Y mR_isDots) (m_Y mR_isDots) ∈ tb := t_in 31 rfl rfl
set_option maxRecDepth 20000 in
theorem okR_entry : m_ok mR_entry 3 := ⟨t_in 453 rfl rfl, t_in 52 rfl rfl, by decide +kernel, by decide +kernel, by decide⟩
set_option maxRecDepth 20000 in
theorem imR_entry : Cond.instanceMethod (m_Y mR_entry) ∈ tb := t_in 452 rfl rfl
set_option maxRecDepth 20000 in
theorem seR_entry_R : Cond.selects "PathTreeModel" (m_Y mR_entry) (m_Y mR_entry) ∈ tb := t_in 32 rfl rfl
set_option maxRecDepth 20000 in
theorem okR_make : m_ok mR_make 0 := ⟨t_in 457 rfl rfl, t_in 52 rfl rfl, by decide +kernel, by decide +kernel, by decide⟩
set_option maxRecDepth 20000 in
theorem imR_make : Cond.instanceMethod (m_Y mR_make) ∈ tb := t_in 455 rfl rfl
set_option maxRecDepth 20000 in
theorem seR_make_R : Cond.selects "PathTreeModel" (m_Y mR_make) (m_Y mR_make) ∈ tb := t_in 456 rfl rfl
set_option maxRecDepth 20000 in
theorem okR_made : m_ok mR_made 1 := ⟨t_in 461 rfl rfl, t_in 52 rfl rfl, by decide +kernel, by decide +kernel, by decide⟩
set_option maxRecDepth 20000 in
theorem imR_made : Cond.instanceMethod (m_Y mR_made) ∈ tb := t_in 460 rfl rfl
set_option maxRecDepth 20000 in
theorem seR_made_R : Cond.selects "PathTreeModel" (m_Y mR_made) (m_Y mR_made) ∈ tb := t_in 33 rfl rfl
set_option maxRecDepth 20000 in
theorem okR_home : m_ok mR_home 0 := ⟨t_in 465 rfl rfl, t_in 52 rfl rfl, by decide +kernel, by decide +kernel, by decide⟩
set_option maxRecDepth 20000 in
theorem imR_home : Cond.instanceMethod (m_Y mR_home) ∈ tb := t_in 464 rfl rfl
set_option maxRecDepth 20000 in
theorem seR_home_R : Cond.selects "PathTreeModel" (m_Y mR_home) (m_Y mR_home) ∈ tb := t_in 34 rfl rfl
set_option maxRecDepth 20000 in
theorem okR_last : m_ok mR_last 0 := ⟨t_in 469 rfl rfl, t_in 52 rfl rfl, by decide +kernel, by decide +kernel, by decide⟩
set_option maxRecDepth 20000 in
theorem imR_last : Cond.instanceMethod (m_Y mR_last) ∈ tb := t_in 468 rfl rfl
set_option maxRecDepth 20000 in
theorem seR_last_R : Cond.selects "PathTreeModel" (m_Y mR_last) (m_Y mR_last) ∈ tb := t_in 35 rfl rfl
set_option maxRecDepth 20000 in
theorem okR_isName : m_ok mR_isName 0 := ⟨t_in 473 rfl rfl, t_in 52 rfl rfl, by decide +kernel, by decide +kernel, by decide⟩
set_option maxRecDepth 20000 in
theorem imR_isName : Cond.instanceMethod (m_Y mR_isName) ∈ tb := t_in 472 rfl rfl
set_option maxRecDepth 20000 in
theorem seR_isName_R : Cond.selects "PathTreeModel" (m_Y mR_isName) (m_Y mR_isName) ∈ tb := t_in 36 rfl rfl
set_option maxRecDepth 20000 in
theorem okR_put : m_ok mR_put 2 := ⟨t_in 477 rfl rfl, t_in 52 rfl rfl, by decide +kernel, by decide +kernel, by decide⟩
set_option maxRecDepth 20000 in
theorem imR_put : Cond.instanceMethod (m_Y mR_put) ∈ tb := t_in 476 rfl rfl
set_option maxRecDepth 20000 in
theorem seR_put_R : Cond.selects "PathTreeModel" (m_Y mR_put) (m_Y mR_put) ∈ tb := t_in 37 rfl rfl
set_option maxRecDepth 20000 in
theorem okR_go : m_ok mR_go 0 := ⟨t_in 481 rfl rfl, t_in 52 rfl rfl, by decide +kernel, by decide +kernel, by decide⟩
set_option maxRecDepth 20000 in
theorem imR_go : Cond.instanceMethod (m_Y mR_go) ∈ tb := t_in 479 rfl rfl
set_option maxRecDepth 20000 in
theorem seR_go_R : Cond.selects "PathTreeModel" (m_Y mR_go) (m_Y mR_go) ∈ tb := t_in 480 rfl rfl
set_option maxRecDepth 20000 in
theorem okR_open : m_ok mR_open 0 := ⟨t_in 485 rfl rfl, t_in 52 rfl rfl, by decide +kernel, by decide +kernel, by decide⟩
set_option maxRecDepth 20000 in
theorem imR_open : Cond.instanceMethod (m_Y mR_open) ∈ tb := t_in 483 rfl rfl
set_option maxRecDepth 20000 in
theorem seR_open_R : Cond.selects "PathTreeModel" (m_Y mR_open) (m_Y mR_open) ∈ tb := t_in 484 rfl rfl
set_option maxRecDepth 20000 in
theorem okR_empty : m_ok mR_empty 0 := ⟨t_in 489 rfl rfl, t_in 52 rfl rfl, by decide +kernel, by decide +kernel, by decide⟩
set_option maxRecDepth 20000 in
theorem imR_empty : Cond.instanceMethod (m_Y mR_empty) ∈ tb := t_in 487 rfl rfl
set_option maxRecDepth 20000 in
theorem seR_empty_R : Cond.selects "PathTreeModel" (m_Y mR_empty) (m_Y mR_empty) ∈ tb := t_in 488 rfl rfl
set_option maxRecDepth 20000 in
theorem okR_lose : m_ok mR_lose 1 := ⟨t_in 493 rfl rfl, t_in 52 rfl rfl, by decide +kernel, by decide +kernel, by decide⟩
set_option maxRecDepth 20000 in
theorem imR_lose : Cond.instanceMethod (m_Y mR_lose) ∈ tb := t_in 492 rfl rfl
set_option maxRecDepth 20000 in
theorem seR_lose_R : Cond.selects "PathTreeModel" (m_Y mR_lose) (m_Y mR_lose) ∈ tb := t_in 38 rfl rfl
set_option maxRecDepth 20000 in
theorem okR_write : m_ok mR_write 2 := ⟨t_in 497 rfl rfl, t_in 52 rfl rfl, by decide +kernel, by decide +kernel, by decide⟩
set_option maxRecDepth 20000 in
theorem imR_write : Cond.instanceMethod (m_Y mR_write) ∈ tb := t_in 495 rfl rfl
set_option maxRecDepth 20000 in
theorem seR_write_R : Cond.selects "PathTreeModel" (m_Y mR_write) (m_Y mR_write) ∈ tb := t_in 496 rfl rfl
set_option maxRecDepth 20000 in
theorem okR_byteAt : m_ok mR_byteAt 1 := ⟨t_in 501 rfl rfl, t_in 52 rfl rfl, by decide +kernel, by decide +kernel, by decide⟩
set_option maxRecDepth 20000 in
theorem imR_byteAt : Cond.instanceMethod (m_Y mR_byteAt) ∈ tb := t_in 499 rfl rfl
set_option maxRecDepth 20000 in
theorem seR_byteAt_R : Cond.selects "PathTreeModel" (m_Y mR_byteAt) (m_Y mR_byteAt) ∈ tb := t_in 500 rfl rfl
set_option maxRecDepth 20000 in
theorem okR_remove : m_ok mR_remove 0 := ⟨t_in 505 rfl rfl, t_in 52 rfl rfl, by decide +kernel, by decide +kernel, by decide⟩
set_option maxRecDepth 20000 in
theorem imR_remove : Cond.instanceMethod (m_Y mR_remove) ∈ tb := t_in 503 rfl rfl
set_option maxRecDepth 20000 in
theorem seR_remove_R : Cond.selects "PathTreeModel" (m_Y mR_remove) (m_Y mR_remove) ∈ tb := t_in 504 rfl rfl
set_option maxRecDepth 20000 in
theorem okR_removeFile : m_ok mR_removeFile 1 := ⟨t_in 509 rfl rfl, t_in 52 rfl rfl, by decide +kernel, by decide +kernel, by decide⟩
set_option maxRecDepth 20000 in
theorem imR_removeFile : Cond.instanceMethod (m_Y mR_removeFile) ∈ tb := t_in 508 rfl rfl
set_option maxRecDepth 20000 in
theorem seR_removeFile_R : Cond.selects "PathTreeModel" (m_Y mR_removeFile) (m_Y mR_removeFile) ∈ tb := t_in 39 rfl rfl
set_option maxRecDepth 20000 in
theorem okR_move : m_ok mR_move 0 := ⟨t_in 513 rfl rfl, t_in 52 rfl rfl, by decide +kernel, by decide +kernel, by decide⟩
set_option maxRecDepth 20000 in
theorem imR_move : Cond.instanceMethod (m_Y mR_move) ∈ tb := t_in 511 rfl rfl
set_option maxRecDepth 20000 in
theorem seR_move_R : Cond.selects "PathTreeModel" (m_Y mR_move) (m_Y mR_move) ∈ tb := t_in 512 rfl rfl
set_option maxRecDepth 20000 in
theorem okR_moved : m_ok mR_moved 0 := ⟨t_in 517 rfl rfl, t_in 52 rfl rfl, by decide +kernel, by decide +kernel, by decide⟩
set_option maxRecDepth 20000 in
theorem imR_moved : Cond.instanceMethod (m_Y mR_moved) ∈ tb := t_in 516 rfl rfl
set_option maxRecDepth 20000 in
theorem seR_moved_R : Cond.selects "PathTreeModel" (m_Y mR_moved) (m_Y mR_moved) ∈ tb := t_in 40 rfl rfl
set_option maxRecDepth 20000 in
theorem okR_namesake : m_ok mR_namesake 2 := ⟨t_in 521 rfl rfl, t_in 52 rfl rfl, by decide +kernel, by decide +kernel, by decide⟩
set_option maxRecDepth 20000 in
theorem imR_namesake : Cond.instanceMethod (m_Y mR_namesake) ∈ tb := t_in 520 rfl rfl
set_option maxRecDepth 20000 in
theorem seR_namesake_R : Cond.selects "PathTreeModel" (m_Y mR_namesake) (m_Y mR_namesake) ∈ tb := t_in 41 rfl rfl
set_option maxRecDepth 20000 in
theorem okR_name : m_ok mR_name 2 := ⟨t_in 525 rfl rfl, t_in 52 rfl rfl, by decide +kernel, by decide +kernel, by decide⟩
set_option maxRecDepth 20000 in
theorem imR_name : Cond.instanceMethod (m_Y mR_name) ∈ tb := t_in 523 rfl rfl
set_option maxRecDepth 20000 in
theorem seR_name_R : Cond.selects "PathTreeModel" (m_Y mR_name) (m_Y mR_name) ∈ tb := t_in 524 rfl rfl
set_option maxRecDepth 20000 in
theorem okR_inOrder : m_ok mR_inOrder 1 := ⟨t_in 529 rfl rfl, t_in 52 rfl rfl, by decide +kernel, by decide +kernel, by decide⟩
set_option maxRecDepth 20000 in
theorem imR_inOrder : Cond.instanceMethod (m_Y mR_inOrder) ∈ tb := t_in 528 rfl rfl
set_option maxRecDepth 20000 in
theorem seR_inOrder_R : Cond.selects "PathTreeModel" (m_Y mR_inOrder) (m_Y mR_inOrder) ∈ tb := t_in 42 rfl rfl
set_option maxRecDepth 20000 in
theorem okR_isBefore : m_ok mR_isBefore 2 := ⟨t_in 533 rfl rfl, t_in 52 rfl rfl, by decide +kernel, by decide +kernel, by decide⟩
set_option maxRecDepth 20000 in
theorem imR_isBefore : Cond.instanceMethod (m_Y mR_isBefore) ∈ tb := t_in 532 rfl rfl
set_option maxRecDepth 20000 in
theorem seR_isBefore_R : Cond.selects "PathTreeModel" (m_Y mR_isBefore) (m_Y mR_isBefore) ∈ tb := t_in 43 rfl rfl
set_option maxRecDepth 20000 in
theorem okR_count : m_ok mR_count 1 := ⟨t_in 537 rfl rfl, t_in 52 rfl rfl, by decide +kernel, by decide +kernel, by decide⟩
set_option maxRecDepth 20000 in
theorem imR_count : Cond.instanceMethod (m_Y mR_count) ∈ tb := t_in 535 rfl rfl
set_option maxRecDepth 20000 in
theorem seR_count_R : Cond.selects "PathTreeModel" (m_Y mR_count) (m_Y mR_count) ∈ tb := t_in 536 rfl rfl
set_option maxRecDepth 20000 in
theorem okR_many : m_ok mR_many 1 := ⟨t_in 541 rfl rfl, t_in 52 rfl rfl, by decide +kernel, by decide +kernel, by decide⟩
set_option maxRecDepth 20000 in
theorem imR_many : Cond.instanceMethod (m_Y mR_many) ∈ tb := t_in 540 rfl rfl
set_option maxRecDepth 20000 in
theorem seR_many_R : Cond.selects "PathTreeModel" (m_Y mR_many) (m_Y mR_many) ∈ tb := t_in 44 rfl rfl
set_option maxRecDepth 20000 in
theorem okR_atHand : m_ok mR_atHand 0 := ⟨t_in 545 rfl rfl, t_in 52 rfl rfl, by decide +kernel, by decide +kernel, by decide⟩
set_option maxRecDepth 20000 in
theorem imR_atHand : Cond.instanceMethod (m_Y mR_atHand) ∈ tb := t_in 544 rfl rfl
set_option maxRecDepth 20000 in
theorem seR_atHand_R : Cond.selects "PathTreeModel" (m_Y mR_atHand) (m_Y mR_atHand) ∈ tb := t_in 45 rfl rfl
set_option maxRecDepth 20000 in
theorem okR_above : m_ok mR_above 0 := ⟨t_in 549 rfl rfl, t_in 52 rfl rfl, by decide +kernel, by decide +kernel, by decide⟩
set_option maxRecDepth 20000 in
theorem imR_above : Cond.instanceMethod (m_Y mR_above) ∈ tb := t_in 548 rfl rfl
set_option maxRecDepth 20000 in
theorem seR_above_R : Cond.selects "PathTreeModel" (m_Y mR_above) (m_Y mR_above) ∈ tb := t_in 46 rfl rfl
set_option maxRecDepth 20000 in
theorem n_L_9 : n_ok "PathTreeLaw" 9 mP_init := Or.inl (t_in 59 rfl rfl)
set_option maxRecDepth 20000 in
theorem nl_P_1 : Cond.methodLink "PathTree" 1 ⟨"java/lang/Object", "<init>", "()V"⟩ ∈ tb := t_in 62 rfl rfl
set_option maxRecDepth 20000 in
theorem nl_T_1 : Cond.methodLink "PathTree$PathText" 1 ⟨"java/lang/Object", "<init>", "()V"⟩ ∈ tb := t_in 70 rfl rfl
set_option maxRecDepth 20000 in
theorem n_D_1 : n_ok "PathTree$Directory" 1 mE_init := Or.inl (t_in 86 rfl rfl)
set_option maxRecDepth 20000 in
theorem nl_E_1 : Cond.methodLink "PathTree$Entry" 1 ⟨"java/lang/Object", "<init>", "()V"⟩ ∈ tb := t_in 89 rfl rfl
set_option maxRecDepth 20000 in
theorem n_L_15 : n_ok "PathTreeLaw" 15 mP_path := Or.inl (t_in 141 rfl rfl)
set_option maxRecDepth 20000 in
theorem n_P_42 : n_ok "PathTree" 42 mP_isByteCount := Or.inl (t_in 145 rfl rfl)
set_option maxRecDepth 20000 in
theorem n_T_23 : n_ok "PathTree$PathText" 23 mT_isPathCharacter := Or.inl (t_in 155 rfl rfl)
set_option maxRecDepth 20000 in
theorem n_L_20 : n_ok "PathTreeLaw" 20 mP_find := Or.inl (t_in 162 rfl rfl)
set_option maxRecDepth 20000 in
theorem n_P_57 : n_ok "PathTree" 57 mP_target := Or.inl (t_in 166 rfl rfl)
set_option maxRecDepth 20000 in
theorem n_P_135 : n_ok "PathTree" 135 mP_entryBefore := Or.inl (t_in 170 rfl rfl)
set_option maxRecDepth 20000 in
theorem n_T_27 : n_ok "PathTree$PathText" 27 mT_is := Or.inl (t_in 178 rfl rfl)
set_option maxRecDepth 20000 in
theorem n_P_144 : n_ok "PathTree" 144 mP_step := Or.inl (t_in 182 rfl rfl)
set_option maxRecDepth 20000 in
theorem n_D_17 : n_ok "PathTree$Directory" 17 mE_order := Or.inl (t_in 198 rfl rfl)
set_option maxRecDepth 20000 in
theorem n_L_25 : n_ok "PathTreeLaw" 25 mP_make := Or.inl (t_in 208 rfl rfl)
set_option maxRecDepth 20000 in
theorem n_P_64 : n_ok "PathTree" 64 mP_homeOfNew := Or.inl (t_in 212 rfl rfl)
set_option maxRecDepth 20000 in
theorem n_T_34 : n_ok "PathTree$PathText" 34 mT_lastSlash := Or.inl (t_in 220 rfl rfl)
set_option maxRecDepth 20000 in
theorem n_T_31 : n_ok "PathTree$PathText" 31 mT_isSlash := Or.inl (t_in 224 rfl rfl)
set_option maxRecDepth 20000 in
theorem n_T_38 : n_ok "PathTree$PathText" 38 mT_isDot := Or.inl (t_in 225 rfl rfl)
set_option maxRecDepth 20000 in
theorem n_T_42 : n_ok "PathTree$PathText" 42 mT_isDotDot := Or.inl (t_in 226 rfl rfl)
set_option maxRecDepth 20000 in
theorem n_P_167 : n_ok "PathTree" 167 mP_home := Or.inl (t_in 227 rfl rfl)
set_option maxRecDepth 20000 in
theorem n_T_45 : n_ok "PathTree$PathText" 45 mJ_copyOfRange := Or.inl (t_in 236 rfl rfl)
set_option maxRecDepth 20000 in
theorem n_J_359 : n_ok "java/util/Arrays" 359 mJ_copyOfRangeChar := Or.inl (t_in 239 rfl rfl)
set_option maxRecDepth 20000 in
theorem n_J_343 : n_ok "java/util/Arrays" 343 mJ_checkLength := Or.inl (t_in 242 rfl rfl)
set_option maxRecDepth 20000 in
theorem nl_J_304 : Cond.methodLink "java/util/Arrays" 304 ⟨"java/lang/Math", "min", "(II)I"⟩ ∈ tb := t_in 245 rfl rfl
set_option maxRecDepth 20000 in
theorem nl_J_150 : Cond.methodLink "java/util/Arrays" 150 ⟨"java/lang/System", "arraycopy", "(Ljava/lang/Object;ILjava/lang/Object;II)V"⟩ ∈ tb := t_in 248 rfl rfl
set_option maxRecDepth 20000 in
theorem nl_J_322 : Cond.methodLink "java/util/Arrays" 322 ⟨"[C", "clone", "()Ljava/lang/Object;"⟩ ∈ tb := t_in 251 rfl rfl
set_option maxRecDepth 20000 in
theorem n_D_32 : n_ok "PathTree$Directory" 32 mD_link := Or.inl (t_in 262 rfl rfl)
set_option maxRecDepth 20000 in
theorem n_L_30 : n_ok "PathTreeLaw" 30 mP_go := Or.inl (t_in 266 rfl rfl)
set_option maxRecDepth 20000 in
theorem n_L_34 : n_ok "PathTreeLaw" 34 mP_open := Or.inl (t_in 270 rfl rfl)
set_option maxRecDepth 20000 in
theorem n_P_78 : n_ok "PathTree" 78 mP_newFile := Or.inl (t_in 275 rfl rfl)
set_option maxRecDepth 20000 in
theorem n_F_3 : n_ok "PathTree$FileEntry" 3 mE_init := Or.inl (t_in 283 rfl rfl)
set_option maxRecDepth 20000 in
theorem n_L_38 : n_ok "PathTreeLaw" 38 mP_empty := Or.inl (t_in 296 rfl rfl)
set_option maxRecDepth 20000 in
theorem n_P_83 : n_ok "PathTree" 83 mP_dropBytes := Or.inl (t_in 300 rfl rfl)
set_option maxRecDepth 20000 in
theorem n_L_42 : n_ok "PathTreeLaw" 42 mP_write := Or.inl (t_in 304 rfl rfl)
set_option maxRecDepth 20000 in
theorem nl_P_95 : Cond.methodLink "PathTree" 95 ⟨"java/lang/Math", "min", "(II)I"⟩ ∈ tb := t_in 313 rfl rfl
set_option maxRecDepth 20000 in
theorem n_P_101 : n_ok "PathTree" 101 mP_byteOf := Or.inl (t_in 314 rfl rfl)
set_option maxRecDepth 20000 in
theorem n_F_19 : n_ok "PathTree$FileEntry" 19 mJ_copyOf := Or.inl (t_in 319 rfl rfl)
set_option maxRecDepth 20000 in
theorem nl_J_310 : Cond.methodLink "java/util/Arrays" 310 ⟨"[B", "clone", "()Ljava/lang/Object;"⟩ ∈ tb := t_in 322 rfl rfl
set_option maxRecDepth 20000 in
theorem n_L_46 : n_ok "PathTreeLaw" 46 mP_byteAt := Or.inl (t_in 327 rfl rfl)
set_option maxRecDepth 20000 in
theorem n_L_51 : n_ok "PathTreeLaw" 51 mP_remove := Or.inl (t_in 335 rfl rfl)
set_option maxRecDepth 20000 in
theorem n_P_112 : n_ok "PathTree" 112 mP_discard := Or.inl (t_in 339 rfl rfl)
set_option maxRecDepth 20000 in
theorem n_P_170 : n_ok "PathTree" 170 mP_detach := Or.inl (t_in 343 rfl rfl)
set_option maxRecDepth 20000 in
theorem n_L_55 : n_ok "PathTreeLaw" 55 mP_move := Or.inl (t_in 350 rfl rfl)
set_option maxRecDepth 20000 in
theorem n_P_115 : n_ok "PathTree" 115 mP_moveToPath := Or.inl (t_in 354 rfl rfl)
set_option maxRecDepth 20000 in
theorem n_P_178 : n_ok "PathTree" 178 mP_moveInto := Or.inl (t_in 358 rfl rfl)
set_option maxRecDepth 20000 in
theorem n_L_59 : n_ok "PathTreeLaw" 59 mP_name := Or.inl (t_in 362 rfl rfl)
set_option maxRecDepth 20000 in
theorem n_L_64 : n_ok "PathTreeLaw" 64 mP_count := Or.inl (t_in 370 rfl rfl)
set_option maxRecDepth 20000 in
theorem n_L_12 : n_ok "PathTreeLaw" 12 mR_init := Or.inl (t_in 380 rfl rfl)
set_option maxRecDepth 20000 in
theorem nl_R_1 : Cond.methodLink "PathTreeModel" 1 ⟨"java/lang/Object", "<init>", "()V"⟩ ∈ tb := t_in 383 rfl rfl
set_option maxRecDepth 20000 in
theorem n_L_19 : n_ok "PathTreeLaw" 19 mR_path := Or.inl (t_in 430 rfl rfl)
set_option maxRecDepth 20000 in
theorem n_L_24 : n_ok "PathTreeLaw" 24 mR_find := Or.inl (t_in 434 rfl rfl)
set_option maxRecDepth 20000 in
theorem n_R_65 : n_ok "PathTreeModel" 65 mR_lead := Or.inl (t_in 438 rfl rfl)
set_option maxRecDepth 20000 in
theorem n_R_58 : n_ok "PathTreeModel" 58 mR_along := Or.inl (t_in 442 rfl rfl)
set_option maxRecDepth 20000 in
theorem n_R_47 : n_ok "PathTreeModel" 47 mR_isDots := Or.inl (t_in 446 rfl rfl)
set_option maxRecDepth 20000 in
theorem n_R_51 : n_ok "PathTreeModel" 51 mR_entry := Or.inl (t_in 450 rfl rfl)
set_option maxRecDepth 20000 in
theorem n_L_29 : n_ok "PathTreeLaw" 29 mR_make := Or.inl (t_in 454 rfl rfl)
set_option maxRecDepth 20000 in
theorem n_R_80 : n_ok "PathTreeModel" 80 mR_made := Or.inl (t_in 458 rfl rfl)
set_option maxRecDepth 20000 in
theorem n_R_69 : n_ok "PathTreeModel" 69 mR_home := Or.inl (t_in 462 rfl rfl)
set_option maxRecDepth 20000 in
theorem n_R_61 : n_ok "PathTreeModel" 61 mR_last := Or.inl (t_in 466 rfl rfl)
set_option maxRecDepth 20000 in
theorem n_R_72 : n_ok "PathTreeModel" 72 mR_isName := Or.inl (t_in 470 rfl rfl)
set_option maxRecDepth 20000 in
theorem n_R_76 : n_ok "PathTreeModel" 76 mR_put := Or.inl (t_in 474 rfl rfl)
set_option maxRecDepth 20000 in
theorem n_L_33 : n_ok "PathTreeLaw" 33 mR_go := Or.inl (t_in 478 rfl rfl)
set_option maxRecDepth 20000 in
theorem n_L_37 : n_ok "PathTreeLaw" 37 mR_open := Or.inl (t_in 482 rfl rfl)
set_option maxRecDepth 20000 in
theorem n_L_41 : n_ok "PathTreeLaw" 41 mR_empty := Or.inl (t_in 486 rfl rfl)
set_option maxRecDepth 20000 in
theorem n_R_90 : n_ok "PathTreeModel" 90 mR_lose := Or.inl (t_in 490 rfl rfl)
set_option maxRecDepth 20000 in
theorem n_L_45 : n_ok "PathTreeLaw" 45 mR_write := Or.inl (t_in 494 rfl rfl)
set_option maxRecDepth 20000 in
theorem n_L_50 : n_ok "PathTreeLaw" 50 mR_byteAt := Or.inl (t_in 498 rfl rfl)
set_option maxRecDepth 20000 in
theorem n_L_54 : n_ok "PathTreeLaw" 54 mR_remove := Or.inl (t_in 502 rfl rfl)
set_option maxRecDepth 20000 in
theorem n_R_93 : n_ok "PathTreeModel" 93 mR_removeFile := Or.inl (t_in 506 rfl rfl)
set_option maxRecDepth 20000 in
theorem n_L_58 : n_ok "PathTreeLaw" 58 mR_move := Or.inl (t_in 510 rfl rfl)
set_option maxRecDepth 20000 in
theorem n_R_101 : n_ok "PathTreeModel" 101 mR_moved := Or.inl (t_in 514 rfl rfl)
set_option maxRecDepth 20000 in
theorem n_R_97 : n_ok "PathTreeModel" 97 mR_namesake := Or.inl (t_in 518 rfl rfl)
set_option maxRecDepth 20000 in
theorem n_L_63 : n_ok "PathTreeLaw" 63 mR_name := Or.inl (t_in 522 rfl rfl)
set_option maxRecDepth 20000 in
theorem n_R_108 : n_ok "PathTreeModel" 108 mR_inOrder := Or.inl (t_in 526 rfl rfl)
set_option maxRecDepth 20000 in
theorem n_R_104 : n_ok "PathTreeModel" 104 mR_isBefore := Or.inl (t_in 530 rfl rfl)
set_option maxRecDepth 20000 in
theorem n_L_67 : n_ok "PathTreeLaw" 67 mR_count := Or.inl (t_in 534 rfl rfl)
set_option maxRecDepth 20000 in
theorem n_R_111 : n_ok "PathTreeModel" 111 mR_many := Or.inl (t_in 538 rfl rfl)
set_option maxRecDepth 20000 in
theorem n_R_114 : n_ok "PathTreeModel" 114 mR_atHand := Or.inl (t_in 542 rfl rfl)
set_option maxRecDepth 20000 in
theorem n_R_117 : n_ok "PathTreeModel" 117 mR_above := Or.inl (t_in 546 rfl rfl)
set_option maxRecDepth 20000 in
theorem n_P_9 : n_ok "PathTree" 9 mT_init := Or.inr ⟨"PathTree", by decide⟩
set_option maxRecDepth 20000 in
theorem n_P_18 : n_ok "PathTree" 18 mD_init := Or.inr ⟨"PathTree", by decide⟩
set_option maxRecDepth 20000 in
theorem n_P_46 : n_ok "PathTree" 46 mT_takes := Or.inr ⟨"PathTree", by decide⟩
set_option maxRecDepth 20000 in
theorem n_T_17 : n_ok "PathTree$PathText" 17 mP_byteOf := Or.inr ⟨"PathTree", by decide⟩
set_option maxRecDepth 20000 in
theorem n_P_50 : n_ok "PathTree" 50 mT_append := Or.inr ⟨"PathTree", by decide⟩
set_option maxRecDepth 20000 in
theorem n_P_138 : n_ok "PathTree" 138 mT_isSlash := Or.inr ⟨"PathTree", by decide⟩
set_option maxRecDepth 20000 in
theorem n_P_148 : n_ok "PathTree" 148 mT_isDot := Or.inr ⟨"PathTree", by decide⟩
set_option maxRecDepth 20000 in
theorem n_P_152 : n_ok "PathTree" 152 mT_isDotDot := Or.inr ⟨"PathTree", by decide⟩
set_option maxRecDepth 20000 in
theorem n_P_159 : n_ok "PathTree" 159 mD_entryCalled := Or.inr ⟨"PathTree", by decide⟩
set_option maxRecDepth 20000 in
theorem n_P_61 : n_ok "PathTree" 61 mT_clear := Or.inr ⟨"PathTree", by decide⟩
set_option maxRecDepth 20000 in
theorem n_P_163 : n_ok "PathTree" 163 mT_lastNameCanBe := Or.inr ⟨"PathTree", by decide⟩
set_option maxRecDepth 20000 in
theorem n_P_141 : n_ok "PathTree" 141 mT_lastSlash := Or.inr ⟨"PathTree", by decide⟩
set_option maxRecDepth 20000 in
theorem n_P_68 : n_ok "PathTree" 68 mT_lastName := Or.inr ⟨"PathTree", by decide⟩
set_option maxRecDepth 20000 in
theorem n_P_72 : n_ok "PathTree" 72 mD_admit := Or.inr ⟨"PathTree", by decide⟩
set_option maxRecDepth 20000 in
theorem n_P_169 : n_ok "PathTree" 169 mF_init := Or.inr ⟨"PathTree", by decide⟩
set_option maxRecDepth 20000 in
theorem n_P_90 : n_ok "PathTree" 90 mF_room := Or.inr ⟨"PathTree", by decide⟩
set_option maxRecDepth 20000 in
theorem n_P_105 : n_ok "PathTree" 105 mF_append := Or.inr ⟨"PathTree", by decide⟩
set_option maxRecDepth 20000 in
theorem n_P_108 : n_ok "PathTree" 108 mF_at := Or.inr ⟨"PathTree", by decide⟩
set_option maxRecDepth 20000 in
theorem n_P_174 : n_ok "PathTree" 174 mD_release := Or.inr ⟨"PathTree", by decide⟩
set_option maxRecDepth 20000 in
theorem n_P_119 : n_ok "PathTree" 119 mD_entryAt := Or.inr ⟨"PathTree", by decide⟩
set_option maxRecDepth 20000 in
theorem n_P_132 : n_ok "PathTree" 132 mD_depth := Or.inr ⟨"PathTree", by decide⟩
set_option maxRecDepth 20000 in
theorem co_P_94 : Jvm.Cond.constant "PathTree" 94 65536 ∈ tb := t_in 312 rfl rfl
set_option maxRecDepth 20000 in
theorem co_R_35 : Jvm.Cond.constant "PathTreeModel" 35 65536 ∈ tb := t_in 384 rfl rfl
set_option maxRecDepth 20000 in
theorem co_L_13 : Jvm.Cond.constantLong "PathTreeLaw" 13 4294967295 ∈ tb := t_in 550 rfl rfl
set_option maxRecDepth 20000 in
theorem oi_1 : Cond.instanceMethod objectInit ∈ tb := t_in 63 rfl rfl
set_option maxRecDepth 20000 in
theorem oi_2 : Cond.code objectInit ⟨#[0xb1]⟩ 1 none ∈ tb := t_in 64 rfl rfl
set_option maxRecDepth 20000 in
theorem mi_1 : Cond.static Lib.Math.min.name ∈ tb := t_in 246 rfl rfl
set_option maxRecDepth 20000 in
theorem mi_2 : Cond.initialized "java/lang/Math" ∈ tb := t_in 54 rfl rfl
set_option maxRecDepth 20000 in
theorem mi_3 : Cond.code Lib.Math.min.name Lib.Math.min.code 2 (some .int) ∈ tb := t_in 247 rfl rfl
set_option maxRecDepth 20000 in
theorem ac_1 : Cond.native arraycopyName ∈ tb := t_in 250 rfl rfl
set_option maxRecDepth 20000 in
theorem ac_2 : Cond.static arraycopyName ∈ tb := t_in 249 rfl rfl
set_option maxRecDepth 20000 in
theorem ac_3 : Cond.initialized "java/lang/System" ∈ tb := t_in 55 rfl rfl
end
