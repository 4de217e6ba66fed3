-- ===== PART A: goes FIRST, ahead of the names: the tables' words, and 'selects' of the private methods out of them =====
/-- a private method of a class that the tables say can be made, by its rows of tables_1 -/
def lw_okq (q : MethodName × Nat) : Prop := (q.1.cls ≠ "java/lang/invoke/MethodHandle" ∧ q.1.cls ≠ "java/lang/invoke/VarHandle") ∧ Cond.instantiable q.1.cls q.2 ∈ tables_1 ∧ Cond.privateMethod q.1 ∈ tables_1 ∧ Cond.instanceMethod q.1 ∈ tables_1
set_option maxRecDepth 20000 in
theorem lw_p0 : lw_okq (⟨"CaskBook", "passYear", "()V"⟩, 9) := ⟨⟨by decide +kernel, by decide +kernel⟩, List.mem_of_getElem? (i := 9) rfl, List.mem_of_getElem? (i := 182) rfl, List.mem_of_getElem? (i := 183) rfl⟩
set_option maxRecDepth 20000 in
theorem lw_p1 : lw_okq (⟨"CaskBook", "isCask", "(I)Z"⟩, 9) := ⟨⟨by decide +kernel, by decide +kernel⟩, List.mem_of_getElem? (i := 9) rfl, List.mem_of_getElem? (i := 216) rfl, List.mem_of_getElem? (i := 217) rfl⟩
set_option maxRecDepth 20000 in
theorem lw_p2 : lw_okq (⟨"CaskBook", "isSet", "(I)Z"⟩, 9) := ⟨⟨by decide +kernel, by decide +kernel⟩, List.mem_of_getElem? (i := 9) rfl, List.mem_of_getElem? (i := 252) rfl, List.mem_of_getElem? (i := 253) rfl⟩
set_option maxRecDepth 20000 in
theorem lw_p3 : lw_okq (⟨"CaskBook", "gather", "(I)Z"⟩, 9) := ⟨⟨by decide +kernel, by decide +kernel⟩, List.mem_of_getElem? (i := 9) rfl, List.mem_of_getElem? (i := 256) rfl, List.mem_of_getElem? (i := 257) rfl⟩
set_option maxRecDepth 20000 in
theorem lw_p4 : lw_okq (⟨"CaskBook", "bestSet", "()I"⟩, 9) := ⟨⟨by decide +kernel, by decide +kernel⟩, List.mem_of_getElem? (i := 9) rfl, List.mem_of_getElem? (i := 294) rfl, List.mem_of_getElem? (i := 295) rfl⟩
set_option maxRecDepth 20000 in
theorem lw_p5 : lw_okq (⟨"CaskBook", "takeAhead", "(III)Z"⟩, 9) := ⟨⟨by decide +kernel, by decide +kernel⟩, List.mem_of_getElem? (i := 9) rfl, List.mem_of_getElem? (i := 303) rfl, List.mem_of_getElem? (i := 304) rfl⟩
set_option maxRecDepth 20000 in
theorem lw_p6 : lw_okq (⟨"CaskBook", "passYearAhead", "(I)V"⟩, 9) := ⟨⟨by decide +kernel, by decide +kernel⟩, List.mem_of_getElem? (i := 9) rfl, List.mem_of_getElem? (i := 308) rfl, List.mem_of_getElem? (i := 309) rfl⟩
set_option maxRecDepth 20000 in
theorem lw_p7 : lw_okq (⟨"CaskBook$Scale", "fit", "(III)V"⟩, 4) := ⟨⟨by decide +kernel, by decide +kernel⟩, List.mem_of_getElem? (i := 71) rfl, List.mem_of_getElem? (i := 354) rfl, List.mem_of_getElem? (i := 355) rfl⟩
set_option maxRecDepth 20000 in
theorem lw_p8 : lw_okq (⟨"CaskBook$Scale", "join", "(III)V"⟩, 4) := ⟨⟨by decide +kernel, by decide +kernel⟩, List.mem_of_getElem? (i := 71) rfl, List.mem_of_getElem? (i := 362) rfl, List.mem_of_getElem? (i := 363) rfl⟩
set_option maxRecDepth 20000 in
theorem lw_p9 : lw_okq (⟨"CaskBook", "notEmpty", "()I"⟩, 9) := ⟨⟨by decide +kernel, by decide +kernel⟩, List.mem_of_getElem? (i := 9) rfl, List.mem_of_getElem? (i := 386) rfl, List.mem_of_getElem? (i := 387) rfl⟩
set_option maxRecDepth 20000 in
theorem lw_p10 : lw_okq (⟨"CaskBook", "allDrops", "()I"⟩, 9) := ⟨⟨by decide +kernel, by decide +kernel⟩, List.mem_of_getElem? (i := 9) rfl, List.mem_of_getElem? (i := 390) rfl, List.mem_of_getElem? (i := 391) rfl⟩
set_option maxRecDepth 20000 in
theorem lw_p11 : lw_okq (⟨"CaskBookModel", "oneYear", "()V"⟩, 20) := ⟨⟨by decide +kernel, by decide +kernel⟩, List.mem_of_getElem? (i := 398) rfl, List.mem_of_getElem? (i := 477) rfl, List.mem_of_getElem? (i := 478) rfl⟩
set_option maxRecDepth 20000 in
theorem lw_p12 : lw_okq (⟨"CaskBookModel", "lossOf", "(III)I"⟩, 20) := ⟨⟨by decide +kernel, by decide +kernel⟩, List.mem_of_getElem? (i := 398) rfl, List.mem_of_getElem? (i := 481) rfl, List.mem_of_getElem? (i := 482) rfl⟩
set_option maxRecDepth 20000 in
theorem lw_p13 : lw_okq (⟨"CaskBookModel", "isCask", "(I)Z"⟩, 20) := ⟨⟨by decide +kernel, by decide +kernel⟩, List.mem_of_getElem? (i := 398) rfl, List.mem_of_getElem? (i := 492) rfl, List.mem_of_getElem? (i := 493) rfl⟩
set_option maxRecDepth 20000 in
theorem lw_p14 : lw_okq (⟨"CaskBookModel", "ageOf", "(I)I"⟩, 20) := ⟨⟨by decide +kernel, by decide +kernel⟩, List.mem_of_getElem? (i := 398) rfl, List.mem_of_getElem? (i := 502) rfl, List.mem_of_getElem? (i := 503) rfl⟩
set_option maxRecDepth 20000 in
theorem lw_p15 : lw_okq (⟨"CaskBookModel", "costOf", "(I)I"⟩, 20) := ⟨⟨by decide +kernel, by decide +kernel⟩, List.mem_of_getElem? (i := 398) rfl, List.mem_of_getElem? (i := 506) rfl, List.mem_of_getElem? (i := 507) rfl⟩
def lw_privs_1 : List (MethodName × Nat) := [(⟨"CaskBook", "passYear", "()V"⟩, 9), (⟨"CaskBook", "isCask", "(I)Z"⟩, 9), (⟨"CaskBook", "isSet", "(I)Z"⟩, 9), (⟨"CaskBook", "gather", "(I)Z"⟩, 9), (⟨"CaskBook", "bestSet", "()I"⟩, 9), (⟨"CaskBook", "takeAhead", "(III)Z"⟩, 9), (⟨"CaskBook", "passYearAhead", "(I)V"⟩, 9), (⟨"CaskBook$Scale", "fit", "(III)V"⟩, 4), (⟨"CaskBook$Scale", "join", "(III)V"⟩, 4), (⟨"CaskBook", "notEmpty", "()I"⟩, 9), (⟨"CaskBook", "allDrops", "()I"⟩, 9), (⟨"CaskBookModel", "oneYear", "()V"⟩, 20), (⟨"CaskBookModel", "lossOf", "(III)I"⟩, 20), (⟨"CaskBookModel", "isCask", "(I)Z"⟩, 20), (⟨"CaskBookModel", "ageOf", "(I)I"⟩, 20), (⟨"CaskBookModel", "costOf", "(I)I"⟩, 20)]
theorem lw_r1 : ∀ q ∈ lw_privs_1, lw_okq q := List.forall_mem_cons.mpr ⟨lw_p0, List.forall_mem_cons.mpr ⟨lw_p1, List.forall_mem_cons.mpr ⟨lw_p2, List.forall_mem_cons.mpr ⟨lw_p3, List.forall_mem_cons.mpr ⟨lw_p4, List.forall_mem_cons.mpr ⟨lw_p5, List.forall_mem_cons.mpr ⟨lw_p6, List.forall_mem_cons.mpr ⟨lw_p7, List.forall_mem_cons.mpr ⟨lw_p8, List.forall_mem_cons.mpr ⟨lw_p9, List.forall_mem_cons.mpr ⟨lw_p10, List.forall_mem_cons.mpr ⟨lw_p11, List.forall_mem_cons.mpr ⟨lw_p12, List.forall_mem_cons.mpr ⟨lw_p13, List.forall_mem_cons.mpr ⟨lw_p14, List.forall_mem_cons.mpr ⟨lw_p15, fun _ h => absurd h List.not_mem_nil⟩⟩⟩⟩⟩⟩⟩⟩⟩⟩⟩⟩⟩⟩⟩⟩
set_option maxRecDepth 20000 in
theorem lw_p16 : lw_okq (⟨"CaskBookModel", "isBlend", "(I)Z"⟩, 20) := ⟨⟨by decide +kernel, by decide +kernel⟩, List.mem_of_getElem? (i := 398) rfl, List.mem_of_getElem? (i := 527) rfl, List.mem_of_getElem? (i := 528) rfl⟩
set_option maxRecDepth 20000 in
theorem lw_p17 : lw_okq (⟨"CaskBookModel", "dropsOf", "(I)I"⟩, 20) := ⟨⟨by decide +kernel, by decide +kernel⟩, List.mem_of_getElem? (i := 398) rfl, List.mem_of_getElem? (i := 534) rfl, List.mem_of_getElem? (i := 535) rfl⟩
set_option maxRecDepth 20000 in
theorem lw_p18 : lw_okq (⟨"CaskBookModel", "partOf", "(II)I"⟩, 20) := ⟨⟨by decide +kernel, by decide +kernel⟩, List.mem_of_getElem? (i := 398) rfl, List.mem_of_getElem? (i := 538) rfl, List.mem_of_getElem? (i := 539) rfl⟩
set_option maxRecDepth 20000 in
theorem lw_p19 : lw_okq (⟨"CaskBookModel", "youngest", "(I)I"⟩, 20) := ⟨⟨by decide +kernel, by decide +kernel⟩, List.mem_of_getElem? (i := 398) rfl, List.mem_of_getElem? (i := 542) rfl, List.mem_of_getElem? (i := 543) rfl⟩
set_option maxRecDepth 20000 in
theorem lw_p20 : lw_okq (⟨"CaskBookModel", "costs", "(I)I"⟩, 20) := ⟨⟨by decide +kernel, by decide +kernel⟩, List.mem_of_getElem? (i := 398) rfl, List.mem_of_getElem? (i := 546) rfl, List.mem_of_getElem? (i := 547) rfl⟩
set_option maxRecDepth 20000 in
theorem lw_p21 : lw_okq (⟨"CaskBookModel", "isRight", "(I)Z"⟩, 20) := ⟨⟨by decide +kernel, by decide +kernel⟩, List.mem_of_getElem? (i := 398) rfl, List.mem_of_getElem? (i := 550) rfl, List.mem_of_getElem? (i := 551) rfl⟩
set_option maxRecDepth 20000 in
theorem lw_p22 : lw_okq (⟨"CaskBookModel", "firstWrong", "()I"⟩, 20) := ⟨⟨by decide +kernel, by decide +kernel⟩, List.mem_of_getElem? (i := 398) rfl, List.mem_of_getElem? (i := 599) rfl, List.mem_of_getElem? (i := 600) rfl⟩
set_option maxRecDepth 20000 in
theorem lw_p23 : lw_okq (⟨"CaskBookModel", "lead", "(II)V"⟩, 20) := ⟨⟨by decide +kernel, by decide +kernel⟩, List.mem_of_getElem? (i := 398) rfl, List.mem_of_getElem? (i := 603) rfl, List.mem_of_getElem? (i := 604) rfl⟩
def lw_privs_2 : List (MethodName × Nat) := [(⟨"CaskBookModel", "isBlend", "(I)Z"⟩, 20), (⟨"CaskBookModel", "dropsOf", "(I)I"⟩, 20), (⟨"CaskBookModel", "partOf", "(II)I"⟩, 20), (⟨"CaskBookModel", "youngest", "(I)I"⟩, 20), (⟨"CaskBookModel", "costs", "(I)I"⟩, 20), (⟨"CaskBookModel", "isRight", "(I)Z"⟩, 20), (⟨"CaskBookModel", "firstWrong", "()I"⟩, 20), (⟨"CaskBookModel", "lead", "(II)V"⟩, 20)]
theorem lw_r2 : ∀ q ∈ lw_privs_2, lw_okq q := List.forall_mem_cons.mpr ⟨lw_p16, List.forall_mem_cons.mpr ⟨lw_p17, List.forall_mem_cons.mpr ⟨lw_p18, List.forall_mem_cons.mpr ⟨lw_p19, List.forall_mem_cons.mpr ⟨lw_p20, List.forall_mem_cons.mpr ⟨lw_p21, List.forall_mem_cons.mpr ⟨lw_p22, List.forall_mem_cons.mpr ⟨lw_p23, fun _ h => absurd h List.not_mem_nil⟩⟩⟩⟩⟩⟩⟩⟩
def lw_privs : List (MethodName × Nat) := lw_privs_1 ++ (lw_privs_2)
def lw_tbl : List Cond := k2_sels lw_privs ++ tables_1
theorem lw_privs_ok : ∀ q ∈ lw_privs, lw_okq q := by
  show ∀ q ∈ lw_privs_1 ++ (lw_privs_2), lw_okq q
  exact List.forall_mem_append.mpr ⟨lw_r1, lw_r2⟩
