section
-- ===== PART A: goes FIRST, ahead of the names: the tables' words, and 'selects' of the private methods out of them =====
/-- a private method of a class that the tables say can be made, by its rows of tables_1 -/
def lw_okq (q : MethodName × Nat) : Prop := (q.1.cls ≠ "java/lang/invoke/MethodHandle" ∧ q.1.cls ≠ "java/lang/invoke/VarHandle") ∧ Cond.instantiable q.1.cls q.2 ∈ tables_1 ∧ Cond.privateMethod q.1 ∈ tables_1 ∧ Cond.instanceMethod q.1 ∈ tables_1
set_option maxRecDepth 20000 in
theorem lw_p0 : lw_okq (⟨"CaskBook", "passYear", "()V"⟩, 9) := ⟨⟨by decide +kernel, by decide +kernel⟩, List.mem_of_getElem? (i := 9) rfl, List.mem_of_getElem? (i := 182) rfl, List.mem_of_getElem? (i := 183) rfl⟩
set_option maxRecDepth 20000 in
theorem lw_p1 : lw_okq (⟨"CaskBook", "isCask", "(I)Z"⟩, 9) := ⟨⟨by decide +kernel, by decide +kernel⟩, List.mem_of_getElem? (i := 9) rfl, List.mem_of_getElem? (i := 216) rfl, List.mem_of_getElem? (i := 217) rfl⟩
set_option maxRecDepth 20000 in
theorem lw_p2 : lw_okq (⟨"CaskBook", "isSet", "(I)Z"⟩, 9) := ⟨⟨by decide +kernel, by decide +kernel⟩, List.mem_of_getElem? (i := 9) rfl, List.mem_of_getElem? (i := 252) rfl, List.mem_of_getElem? (i := 253) rfl⟩
set_option maxRecDepth 20000 in
theorem lw_p3 : lw_okq (⟨"CaskBook", "gather", "(I)Z"⟩, 9) := ⟨⟨by decide +kernel, by decide +kernel⟩, List.mem_of_getElem? (i := 9) rfl, List.mem_of_getElem? (i := 256) rfl, List.mem_of_getElem? (i := 257) rfl⟩
set_option maxRecDepth 20000 in
theorem lw_p4 : lw_okq (⟨"CaskBook", "bestSet", "()I"⟩, 9) := ⟨⟨by decide +kernel, by decide +kernel⟩, List.mem_of_getElem? (i := 9) rfl, List.mem_of_getElem? (i := 294) rfl, List.mem_of_getElem? (i := 295) rfl⟩
set_option maxRecDepth 20000 in
theorem lw_p5 : lw_okq (⟨"CaskBook", "takeAhead", "(III)Z"⟩, 9) := ⟨⟨by decide +kernel, by decide +kernel⟩, List.mem_of_getElem? (i := 9) rfl, List.mem_of_getElem? (i := 303) rfl, List.mem_of_getElem? (i := 304) rfl⟩
set_option maxRecDepth 20000 in
theorem lw_p6 : lw_okq (⟨"CaskBook", "passYearAhead", "(I)V"⟩, 9) := ⟨⟨by decide +kernel, by decide +kernel⟩, List.mem_of_getElem? (i := 9) rfl, List.mem_of_getElem? (i := 308) rfl, List.mem_of_getElem? (i := 309) rfl⟩
set_option maxRecDepth 20000 in
theorem lw_p7 : lw_okq (⟨"CaskBook$Scale", "fit", "(III)V"⟩, 4) := ⟨⟨by decide +kernel, by decide +kernel⟩, List.mem_of_getElem? (i := 71) rfl, List.mem_of_getElem? (i := 354) rfl, List.mem_of_getElem? (i := 355) rfl⟩
set_option maxRecDepth 20000 in
theorem lw_p8 : lw_okq (⟨"CaskBook$Scale", "join", "(III)V"⟩, 4) := ⟨⟨by decide +kernel, by decide +kernel⟩, List.mem_of_getElem? (i := 71) rfl, List.mem_of_getElem? (i := 362) rfl, List.mem_of_getElem? (i := 363) rfl⟩
set_option maxRecDepth 20000 in
theorem lw_p9 : lw_okq (⟨"CaskBook", "notEmpty", "()I"⟩, 9) := ⟨⟨by decide +kernel, by decide +kernel⟩, List.mem_of_getElem? (i := 9) rfl, List.mem_of_getElem? (i := 386) rfl, List.mem_of_getElem? (i := 387) rfl⟩
set_option maxRecDepth 20000 in
theorem lw_p10 : lw_okq (⟨"CaskBook", "allDrops", "()I"⟩, 9) := ⟨⟨by decide +kernel, by decide +kernel⟩, List.mem_of_getElem? (i := 9) rfl, List.mem_of_getElem? (i := 390) rfl, List.mem_of_getElem? (i := 391) rfl⟩
set_option maxRecDepth 20000 in
theorem lw_p11 : lw_okq (⟨"CaskBookModel", "oneYear", "()V"⟩, 20) := ⟨⟨by decide +kernel, by decide +kernel⟩, List.mem_of_getElem? (i := 398) rfl, List.mem_of_getElem? (i := 477) rfl, List.mem_of_getElem? (i := 478) rfl⟩
set_option maxRecDepth 20000 in
theorem lw_p12 : lw_okq (⟨"CaskBookModel", "lossOf", "(III)I"⟩, 20) := ⟨⟨by decide +kernel, by decide +kernel⟩, List.mem_of_getElem? (i := 398) rfl, List.mem_of_getElem? (i := 481) rfl, List.mem_of_getElem? (i := 482) rfl⟩
set_option maxRecDepth 20000 in
theorem lw_p13 : lw_okq (⟨"CaskBookModel", "isCask", "(I)Z"⟩, 20) := ⟨⟨by decide +kernel, by decide +kernel⟩, List.mem_of_getElem? (i := 398) rfl, List.mem_of_getElem? (i := 492) rfl, List.mem_of_getElem? (i := 493) rfl⟩
set_option maxRecDepth 20000 in
theorem lw_p14 : lw_okq (⟨"CaskBookModel", "ageOf", "(I)I"⟩, 20) := ⟨⟨by decide +kernel, by decide +kernel⟩, List.mem_of_getElem? (i := 398) rfl, List.mem_of_getElem? (i := 502) rfl, List.mem_of_getElem? (i := 503) rfl⟩
set_option maxRecDepth 20000 in
theorem lw_p15 : lw_okq (⟨"CaskBookModel", "costOf", "(I)I"⟩, 20) := ⟨⟨by decide +kernel, by decide +kernel⟩, List.mem_of_getElem? (i := 398) rfl, List.mem_of_getElem? (i := 506) rfl, List.mem_of_getElem? (i := 507) rfl⟩
def lw_privs_1 : List (MethodName × Nat) := [(⟨"CaskBook", "passYear", "()V"⟩, 9), (⟨"CaskBook", "isCask", "(I)Z"⟩, 9), (⟨"CaskBook", "isSet", "(I)Z"⟩, 9), (⟨"CaskBook", "gather", "(I)Z"⟩, 9), (⟨"CaskBook", "bestSet", "()I"⟩, 9), (⟨"CaskBook", "takeAhead", "(III)Z"⟩, 9), (⟨"CaskBook", "passYearAhead", "(I)V"⟩, 9), (⟨"CaskBook$Scale", "fit", "(III)V"⟩, 4), (⟨"CaskBook$Scale", "join", "(III)V"⟩, 4), (⟨"CaskBook", "notEmpty", "()I"⟩, 9), (⟨"CaskBook", "allDrops", "()I"⟩, 9), (⟨"CaskBookModel", "oneYear", "()V"⟩, 20), (⟨"CaskBookModel", "lossOf", "(III)I"⟩, 20), (⟨"CaskBookModel", "isCask", "(I)Z"⟩, 20), (⟨"CaskBookModel", "ageOf", "(I)I"⟩, 20), (⟨"CaskBookModel", "costOf", "(I)I"⟩, 20)]
theorem lw_r1 : ∀ q ∈ lw_privs_1, lw_okq q := List.forall_mem_cons.mpr ⟨lw_p0, List.forall_mem_cons.mpr ⟨lw_p1, List.forall_mem_cons.mpr ⟨lw_p2, List.forall_mem_cons.mpr ⟨lw_p3, List.forall_mem_cons.mpr ⟨lw_p4, List.forall_mem_cons.mpr ⟨lw_p5, List.forall_mem_cons.mpr ⟨lw_p6, List.forall_mem_cons.mpr ⟨lw_p7, List.forall_mem_cons.mpr ⟨lw_p8, List.forall_mem_cons.mpr ⟨lw_p9, List.forall_mem_cons.mpr ⟨lw_p10, List.forall_mem_cons.mpr ⟨lw_p11, List.forall_mem_cons.mpr ⟨lw_p12, List.forall_mem_cons.mpr ⟨lw_p13, List.forall_mem_cons.mpr ⟨lw_p14, List.forall_mem_cons.mpr ⟨lw_p15, fun _ h => absurd h List.not_mem_nil⟩⟩⟩⟩⟩⟩⟩⟩⟩⟩⟩⟩⟩⟩⟩⟩
set_option maxRecDepth 20000 in
theorem lw_p16 : lw_okq (⟨"CaskBookModel", "isBlend", "(I)Z"⟩, 20) := ⟨⟨by decide +kernel, by decide +kernel⟩, List.mem_of_getElem? (i := 398) rfl, List.mem_of_getElem? (i := 527) rfl, List.mem_of_getElem? (i := 528) rfl⟩
set_option maxRecDepth 20000 in
theorem lw_p17 : lw_okq (⟨"CaskBookModel", "dropsOf", "(I)I"⟩, 20) := ⟨⟨by decide +kernel, by decide +kernel⟩, List.mem_of_getElem? (i := 398) rfl, List.mem_of_getElem? (i := 534) rfl, List.mem_of_getElem? (i := 535) rfl⟩
set_option maxRecDepth 20000 in
theorem lw_p18 : lw_okq (⟨"CaskBookModel", "partOf", "(II)I"⟩, 20) := ⟨⟨by decide +kernel, by decide +kernel⟩, List.mem_of_getElem? (i := 398) rfl, List.mem_of_getElem? (i := 538) rfl, List.mem_of_getElem? (i := 539) rfl⟩
set_option maxRecDepth 20000 in
theorem lw_p19 : lw_okq (⟨"CaskBookModel", "youngest", "(I)I"⟩, 20) := ⟨⟨by decide +kernel, by decide +kernel⟩, List.mem_of_getElem? (i := 398) rfl, List.mem_of_getElem? (i := 542) rfl, List.mem_of_getElem? (i := 543) rfl⟩
set_option maxRecDepth 20000 in
theorem lw_p20 : lw_okq (⟨"CaskBookModel", "costs", "(I)I"⟩, 20) := ⟨⟨by decide +kernel, by decide +kernel⟩, List.mem_of_getElem? (i := 398) rfl, List.mem_of_getElem? (i := 546) rfl, List.mem_of_getElem? (i := 547) rfl⟩
set_option maxRecDepth 20000 in
theorem lw_p21 : lw_okq (⟨"CaskBookModel", "isRight", "(I)Z"⟩, 20) := ⟨⟨by decide +kernel, by decide +kernel⟩, List.mem_of_getElem? (i := 398) rfl, List.mem_of_getElem? (i := 550) rfl, List.mem_of_getElem? (i := 551) rfl⟩
set_option maxRecDepth 20000 in
theorem lw_p22 : lw_okq (⟨"CaskBookModel", "firstWrong", "()I"⟩, 20) := ⟨⟨by decide +kernel, by decide +kernel⟩, List.mem_of_getElem? (i := 398) rfl, List.mem_of_getElem? (i := 599) rfl, List.mem_of_getElem? (i := 600) rfl⟩
set_option maxRecDepth 20000 in
theorem lw_p23 : lw_okq (⟨"CaskBookModel", "lead", "(II)V"⟩, 20) := ⟨⟨by decide +kernel, by decide +kernel⟩, List.mem_of_getElem? (i := 398) rfl, List.mem_of_getElem? (i := 603) rfl, List.mem_of_getElem? (i := 604) rfl⟩
def lw_privs_2 : List (MethodName × Nat) := [(⟨"CaskBookModel", "isBlend", "(I)Z"⟩, 20), (⟨"CaskBookModel", "dropsOf", "(I)I"⟩, 20), (⟨"CaskBookModel", "partOf", "(II)I"⟩, 20), (⟨"CaskBookModel", "youngest", "(I)I"⟩, 20), (⟨"CaskBookModel", "costs", "(I)I"⟩, 20), (⟨"CaskBookModel", "isRight", "(I)Z"⟩, 20), (⟨"CaskBookModel", "firstWrong", "()I"⟩, 20), (⟨"CaskBookModel", "lead", "(II)V"⟩, 20)]
theorem lw_r2 : ∀ q ∈ lw_privs_2, lw_okq q := List.forall_mem_cons.mpr ⟨lw_p16, List.forall_mem_cons.mpr ⟨lw_p17, List.forall_mem_cons.mpr ⟨lw_p18, List.forall_mem_cons.mpr ⟨lw_p19, List.forall_mem_cons.mpr ⟨lw_p20, List.forall_mem_cons.mpr ⟨lw_p21, List.forall_mem_cons.mpr ⟨lw_p22, List.forall_mem_cons.mpr ⟨lw_p23, fun _ h => absurd h List.not_mem_nil⟩⟩⟩⟩⟩⟩⟩⟩
def lw_privs : List (MethodName × Nat) := lw_privs_1 ++ (lw_privs_2)
def lw_tbl : List Cond := k2_sels lw_privs ++ tables_1
theorem lw_privs_ok : ∀ q ∈ lw_privs, lw_okq q := by
  show ∀ q ∈ lw_privs_1 ++ (lw_privs_2), lw_okq q
  exact List.forall_mem_append.mpr ⟨lw_r1, lw_r2⟩
end
section
/-! ===== BEGIN words of one list among another's, by their places ===== -/
theorem goodIn_r {big : List Cond} (ws : List Cond) (ps : List Nat) (hp : ws = ps.filterMap (fun i => big[i]?)) (h : ws.all goodWord = true) : GoodIn big ws := by
  intro w hw
  have h1 := List.all_eq_true.mp h w hw
  rw [hp] at hw
  obtain ⟨i, -, hi⟩ := List.mem_filterMap.mp hw
  have hm : w ∈ big := by first | exact List.mem_of_getElem? hi | exact List.getElem?_mem hi
  exact ⟨hm, good_of_word h1⟩
theorem goodIn_app {big a b : List Cond} (ha : GoodIn big a) (hb : GoodIn big b) : GoodIn big (a ++ b) := fun w h => (List.mem_append.mp h).elim (ha w) (hb w)
theorem goodIn_ca {big a b : List Cond} {c : Cond} (ha : GoodIn big (c :: a)) (hb : GoodIn big b) : GoodIn big (c :: (a ++ b)) := fun w h => (List.mem_cons.mp h).elim (fun e => ha w (List.mem_cons.mpr (Or.inl e))) (fun h => (List.mem_append.mp h).elim (fun h => ha w (List.mem_cons.mpr (Or.inr h))) (hb w))
theorem goodIn_sub {big ws : List Cond} (hm : ∀ w ∈ ws, w ∈ big) (h : ws.all goodWord = true) : GoodIn big ws := fun w hw => ⟨hm w hw, good_of_word (List.all_eq_true.mp h w hw)⟩
/-! ===== END ===== -/

/-! ===== BEGIN printed: names, fields, word lists, decode rows ===== -/
def RX0 : String := "CaskBook$Cask"
def TX0 : u_T := fun k => match k with
  | 0 => ("CaskBook$Cask", "kind", "I", false)
  | 1 => ("CaskBook$Cask", "drops", "I", false)
  | 2 => ("CaskBook$Cask", "strength", "I", false)
  | 3 => ("CaskBook$Cask", "floor", "I", false)
  | 4 => ("CaskBook$Cask", "oak", "I", false)
  | 5 => ("CaskBook$Cask", "smoke", "I", false)
  | 6 => ("CaskBook$Cask", "sweet", "I", false)
  | _ => ("CaskBook$Cask", "laidIn", "I", false)
def tyX0 : Nat → FieldType := fun k => match k with
  | 0 => .int
  | 1 => .int
  | 2 => .int
  | 3 => .int
  | 4 => .int
  | 5 => .int
  | 6 => .int
  | _ => .int
abbrev wsX00 : List Cond := u_ws RX0 TX0 8
theorem nmX0 : ∀ a, a < 8 → ∀ b, b < 8 → a ≠ b → (TX0 a).2.1 ≠ (TX0 b).2.1 := by decide +kernel
theorem tyX0_ok : ∀ k, k < 8 → parseFieldDescriptor (TX0 k).2.2.1 = some (tyX0 k) := by decide +kernel
abbrev cX0_init : ByteArray := prog_2_method_1_code
def yX0_init : MethodName := ⟨RX0, "<init>", "()V"⟩
abbrev cX0_fill : ByteArray := prog_2_method_2_code
def yX0_fill : MethodName := ⟨RX0, "fill", "(IIIIII)V"⟩
abbrev cX0_age : ByteArray := prog_2_method_3_code
def yX0_age : MethodName := ⟨RX0, "age", "(I)I"⟩
abbrev cX0_cost : ByteArray := prog_2_method_4_code
def yX0_cost : MethodName := ⟨RX0, "cost", "(I)I"⟩
abbrev cX0_lossIn : ByteArray := prog_2_method_5_code
def yX0_lossIn : MethodName := ⟨RX0, "lossIn", "(I)I"⟩
abbrev cX0_passYear : ByteArray := prog_2_method_6_code
def yX0_passYear : MethodName := ⟨RX0, "passYear", "(I)V"⟩
def RX1 : String := "CaskBook$Mix"
def TX1 : u_T := fun k => match k with
  | 0 => ("CaskBook$Mix", "drops", "I", false)
  | 1 => ("CaskBook$Mix", "strengths", "I", false)
  | 2 => ("CaskBook$Mix", "oaks", "I", false)
  | 3 => ("CaskBook$Mix", "smokes", "I", false)
  | 4 => ("CaskBook$Mix", "sweets", "I", false)
  | 5 => ("CaskBook$Mix", "cost", "I", false)
  | _ => ("CaskBook$Mix", "age", "I", false)
def tyX1 : Nat → FieldType := fun k => match k with
  | 0 => .int
  | 1 => .int
  | 2 => .int
  | 3 => .int
  | 4 => .int
  | 5 => .int
  | _ => .int
abbrev wsX10 : List Cond := u_ws RX1 TX1 7
theorem nmX1 : ∀ a, a < 7 → ∀ b, b < 7 → a ≠ b → (TX1 a).2.1 ≠ (TX1 b).2.1 := by decide +kernel
theorem tyX1_ok : ∀ k, k < 7 → parseFieldDescriptor (TX1 k).2.2.1 = some (tyX1 k) := by decide +kernel
abbrev cX1_init : ByteArray := prog_3_method_1_code
def yX1_init : MethodName := ⟨RX1, "<init>", "()V"⟩
abbrev cX1_start : ByteArray := prog_3_method_2_code
def yX1_start : MethodName := ⟨RX1, "start", "()V"⟩
abbrev cX1_add : ByteArray := prog_3_method_3_code
def yX1_add : MethodName := ⟨RX1, "add", "(LCaskBook$Cask;I)V"⟩
abbrev cX1_evenly : ByteArray := prog_3_method_4_code
def yX1_evenly : MethodName := ⟨RX1, "evenly", "(I)I"⟩
def RX2 : String := "CaskBook$Scale"
def TX2 : u_T := fun k => match k with
  | 0 => ("CaskBook$Scale", "group", "[I", true)
  | 1 => ("CaskBook$Scale", "height", "[I", true)
  | 2 => ("CaskBook$Scale", "readings", "I", false)
  | _ => ("CaskBook$Scale", "contradiction", "I", false)
def tyX2 : Nat → FieldType := fun k => match k with
  | 0 => .array .int
  | 1 => .array .int
  | 2 => .int
  | _ => .int
abbrev wsX20 : List Cond := u_ws RX2 TX2 4
theorem nmX2 : ∀ a, a < 4 → ∀ b, b < 4 → a ≠ b → (TX2 a).2.1 ≠ (TX2 b).2.1 := by decide +kernel
theorem tyX2_ok : ∀ k, k < 4 → parseFieldDescriptor (TX2 k).2.2.1 = some (tyX2 k) := by decide +kernel
abbrev cX2_init : ByteArray := prog_4_method_1_code
def yX2_init : MethodName := ⟨RX2, "<init>", "()V"⟩
abbrev cX2_reset : ByteArray := prog_4_method_2_code
def yX2_reset : MethodName := ⟨RX2, "reset", "()V"⟩
abbrev cX2_ties : ByteArray := prog_4_method_3_code
def yX2_ties : MethodName := ⟨RX2, "ties", "(II)Z"⟩
abbrev cX2_take : ByteArray := prog_4_method_4_code
def yX2_take : MethodName := ⟨RX2, "take", "(III)V"⟩
abbrev cX2_fit : ByteArray := prog_4_method_5_code
def yX2_fit : MethodName := ⟨RX2, "fit", "(III)V"⟩
abbrev cX2_join : ByteArray := prog_4_method_6_code
def yX2_join : MethodName := ⟨RX2, "join", "(III)V"⟩
def RX3 : String := "CaskBook$Want"
def TX3 : u_T := fun k => match k with
  | _ => ("CaskBook$Want", "limits", "[I", true)
def tyX3 : Nat → FieldType := fun k => match k with
  | _ => .array .int
abbrev wsX30 : List Cond := u_ws RX3 TX3 1
theorem nmX3 : ∀ a, a < 1 → ∀ b, b < 1 → a ≠ b → (TX3 a).2.1 ≠ (TX3 b).2.1 := by decide +kernel
theorem tyX3_ok : ∀ k, k < 1 → parseFieldDescriptor (TX3 k).2.2.1 = some (tyX3 k) := by decide +kernel
abbrev cX3_init : ByteArray := prog_5_method_1_code
def yX3_init : MethodName := ⟨RX3, "<init>", "()V"⟩
abbrev cX3_most : ByteArray := prog_5_method_2_code
def yX3_most : MethodName := ⟨RX3, "most", "(I)I"⟩
abbrev cX3_isOldEnough : ByteArray := prog_5_method_3_code
def yX3_isOldEnough : MethodName := ⟨RX3, "isOldEnough", "(LCaskBook$Mix;)Z"⟩
abbrev cX3_isMetBy : ByteArray := prog_5_method_4_code
def yX3_isMetBy : MethodName := ⟨RX3, "isMetBy", "(LCaskBook$Mix;)Z"⟩
def RX4 : String := "CaskBook"
def TX4 : u_T := fun k => match k with
  | 0 => ("CaskBook", "casks", "[LCaskBook$Cask;", true)
  | 1 => ("CaskBook", "ahead", "[I", true)
  | 2 => ("CaskBook", "wanted", "LCaskBook$Want;", true)
  | 3 => ("CaskBook", "mix", "LCaskBook$Mix;", true)
  | 4 => ("CaskBook", "scale", "LCaskBook$Scale;", true)
  | 5 => ("CaskBook", "laid", "I", false)
  | 6 => ("CaskBook", "now", "I", false)
  | 7 => ("CaskBook", "dutyRate", "I", false)
  | _ => ("CaskBook", "traced", "J", false)
def tyX4 : Nat → FieldType := fun k => match k with
  | 0 => .array (.object "CaskBook$Cask")
  | 1 => .array .int
  | 2 => .object "CaskBook$Want"
  | 3 => .object "CaskBook$Mix"
  | 4 => .object "CaskBook$Scale"
  | 5 => .int
  | 6 => .int
  | 7 => .int
  | _ => .long
abbrev wsX40 : List Cond := u_ws RX4 TX4 9
theorem nmX4 : ∀ a, a < 9 → ∀ b, b < 9 → a ≠ b → (TX4 a).2.1 ≠ (TX4 b).2.1 := by decide +kernel
theorem tyX4_ok : ∀ k, k < 9 → parseFieldDescriptor (TX4 k).2.2.1 = some (tyX4 k) := by decide +kernel
abbrev cX4_init : ByteArray := prog_1_method_1_code
def yX4_init : MethodName := ⟨RX4, "<init>", "()V"⟩
abbrev cX4_lay : ByteArray := prog_1_method_2_code
def yX4_lay : MethodName := ⟨RX4, "lay", "(IIIII)I"⟩
abbrev cX4_years : ByteArray := prog_1_method_3_code
def yX4_years : MethodName := ⟨RX4, "years", "(I)I"⟩
abbrev cX4_loss : ByteArray := prog_1_method_4_code
def yX4_loss : MethodName := ⟨RX4, "loss", "(III)I"⟩
abbrev cX4_about : ByteArray := prog_1_method_5_code
def yX4_about : MethodName := ⟨RX4, "about", "(II)I"⟩
abbrev cX4_move : ByteArray := prog_1_method_6_code
def yX4_move : MethodName := ⟨RX4, "move", "(II)I"⟩
abbrev cX4_draw : ByteArray := prog_1_method_7_code
def yX4_draw : MethodName := ⟨RX4, "draw", "(II)I"⟩
abbrev cX4_want : ByteArray := prog_1_method_8_code
def yX4_want : MethodName := ⟨RX4, "want", "(II)I"⟩
abbrev cX4_blend : ByteArray := prog_1_method_9_code
def yX4_blend : MethodName := ⟨RX4, "blend", "(II)I"⟩
abbrev cX4_best : ByteArray := prog_1_method_10_code
def yX4_best : MethodName := ⟨RX4, "best", "(I)I"⟩
abbrev cX4_lasts : ByteArray := prog_1_method_11_code
def yX4_lasts : MethodName := ⟨RX4, "lasts", "(II)I"⟩
abbrev cX4_cut : ByteArray := prog_1_method_12_code
def yX4_cut : MethodName := ⟨RX4, "cut", "(II)I"⟩
abbrev cX4_rate : ByteArray := prog_1_method_13_code
def yX4_rate : MethodName := ⟨RX4, "rate", "(I)I"⟩
abbrev cX4_duty : ByteArray := prog_1_method_14_code
def yX4_duty : MethodName := ⟨RX4, "duty", "(I)I"⟩
abbrev cX4_odds : ByteArray := prog_1_method_15_code
def yX4_odds : MethodName := ⟨RX4, "odds", "(II)J"⟩
abbrev cX4_apart : ByteArray := prog_1_method_16_code
def yX4_apart : MethodName := ⟨RX4, "apart", "(II)I"⟩
abbrev cX4_read : ByteArray := prog_1_method_17_code
def yX4_read : MethodName := ⟨RX4, "read", "(III)I"⟩
abbrev cX4_clear : ByteArray := prog_1_method_18_code
def yX4_clear : MethodName := ⟨RX4, "clear", "()I"⟩
abbrev cX4_contradicts : ByteArray := prog_1_method_19_code
def yX4_contradicts : MethodName := ⟨RX4, "contradicts", "()I"⟩
abbrev cX4_hang : ByteArray := prog_1_method_20_code
def yX4_hang : MethodName := ⟨RX4, "hang", "(III)I"⟩
abbrev cX4_count : ByteArray := prog_1_method_21_code
def yX4_count : MethodName := ⟨RX4, "count", "(I)I"⟩
abbrev cX4_trace : ByteArray := prog_1_method_22_code
def yX4_trace : MethodName := ⟨RX4, "trace", "()J"⟩
abbrev cX4_isWithin : ByteArray := prog_1_method_23_code
def yX4_isWithin : MethodName := ⟨RX4, "isWithin", "(III)Z"⟩
abbrev cX4_isCask : ByteArray := prog_1_method_24_code
def yX4_isCask : MethodName := ⟨RX4, "isCask", "(I)Z"⟩
abbrev cX4_isSet : ByteArray := prog_1_method_25_code
def yX4_isSet : MethodName := ⟨RX4, "isSet", "(I)Z"⟩
abbrev cX4_holds : ByteArray := prog_1_method_26_code
def yX4_holds : MethodName := ⟨RX4, "holds", "(II)Z"⟩
abbrev cX4_isNose : ByteArray := prog_1_method_27_code
def yX4_isNose : MethodName := ⟨RX4, "isNose", "(I)Z"⟩
abbrev cX4_isTriangle : ByteArray := prog_1_method_28_code
def yX4_isTriangle : MethodName := ⟨RX4, "isTriangle", "(II)Z"⟩
abbrev cX4_dividedUp : ByteArray := prog_1_method_29_code
def yX4_dividedUp : MethodName := ⟨RX4, "dividedUp", "(II)I"⟩
abbrev cX4_lossBy : ByteArray := prog_1_method_30_code
def yX4_lossBy : MethodName := ⟨RX4, "lossBy", "(III)I"⟩
abbrev cX4_lostOf : ByteArray := prog_1_method_31_code
def yX4_lostOf : MethodName := ⟨RX4, "lostOf", "(II)I"⟩
abbrev cX4_passYear : ByteArray := prog_1_method_32_code
def yX4_passYear : MethodName := ⟨RX4, "passYear", "()V"⟩
abbrev cX4_notEmpty : ByteArray := prog_1_method_33_code
def yX4_notEmpty : MethodName := ⟨RX4, "notEmpty", "()I"⟩
abbrev cX4_allDrops : ByteArray := prog_1_method_34_code
def yX4_allDrops : MethodName := ⟨RX4, "allDrops", "()I"⟩
abbrev cX4_gather : ByteArray := prog_1_method_35_code
def yX4_gather : MethodName := ⟨RX4, "gather", "(I)Z"⟩
abbrev cX4_bestSet : ByteArray := prog_1_method_36_code
def yX4_bestSet : MethodName := ⟨RX4, "bestSet", "()I"⟩
abbrev cX4_takeAhead : ByteArray := prog_1_method_37_code
def yX4_takeAhead : MethodName := ⟨RX4, "takeAhead", "(III)Z"⟩
abbrev cX4_passYearAhead : ByteArray := prog_1_method_38_code
def yX4_passYearAhead : MethodName := ⟨RX4, "passYearAhead", "(I)V"⟩
abbrev cX4_ways : ByteArray := prog_1_method_39_code
def yX4_ways : MethodName := ⟨RX4, "ways", "(II)J"⟩
def RX5 : String := "CaskBookModel"
def TX5 : u_T := fun k => match k with
  | 0 => ("CaskBookModel", "now", "I", false)
  | 1 => ("CaskBookModel", "casks", "I", false)
  | 2 => ("CaskBookModel", "kind", "[I", true)
  | 3 => ("CaskBookModel", "drops", "[I", true)
  | 4 => ("CaskBookModel", "strength", "[I", true)
  | 5 => ("CaskBookModel", "floor", "[I", true)
  | 6 => ("CaskBookModel", "laid", "[I", true)
  | 7 => ("CaskBookModel", "oak", "[I", true)
  | 8 => ("CaskBookModel", "smoke", "[I", true)
  | 9 => ("CaskBookModel", "sweet", "[I", true)
  | 10 => ("CaskBookModel", "want", "[I", true)
  | 11 => ("CaskBookModel", "rate", "I", false)
  | 12 => ("CaskBookModel", "readings", "I", false)
  | 13 => ("CaskBookModel", "nose", "[I", true)
  | 14 => ("CaskBookModel", "sample", "[I", true)
  | 15 => ("CaskBookModel", "told", "[I", true)
  | 16 => ("CaskBookModel", "trace", "J", false)
  | 17 => ("CaskBookModel", "stock", "[I", true)
  | 18 => ("CaskBookModel", "isMet", "[Z", true)
  | _ => ("CaskBookModel", "value", "[I", true)
def tyX5 : Nat → FieldType := fun k => match k with
  | 0 => .int
  | 1 => .int
  | 2 => .array .int
  | 3 => .array .int
  | 4 => .array .int
  | 5 => .array .int
  | 6 => .array .int
  | 7 => .array .int
  | 8 => .array .int
  | 9 => .array .int
  | 10 => .array .int
  | 11 => .int
  | 12 => .int
  | 13 => .array .int
  | 14 => .array .int
  | 15 => .array .int
  | 16 => .long
  | 17 => .array .int
  | 18 => .array .boolean
  | _ => .array .int
abbrev wsX50 : List Cond := u_ws RX5 TX5 20
theorem nmX5 : ∀ a, a < 20 → ∀ b, b < 20 → a ≠ b → (TX5 a).2.1 ≠ (TX5 b).2.1 := by decide +kernel
theorem tyX5_ok : ∀ k, k < 20 → parseFieldDescriptor (TX5 k).2.2.1 = some (tyX5 k) := by decide +kernel
abbrev cX5_init : ByteArray := prog_7_method_1_code
def yX5_init : MethodName := ⟨RX5, "<init>", "()V"⟩
abbrev cX5_in : ByteArray := prog_7_method_3_code
def yX5_in : MethodName := ⟨RX5, "in", "(III)Z"⟩
abbrev cX5_isCask : ByteArray := prog_7_method_4_code
def yX5_isCask : MethodName := ⟨RX5, "isCask", "(I)Z"⟩
abbrev cX5_lay : ByteArray := prog_7_method_5_code
def yX5_lay : MethodName := ⟨RX5, "lay", "(IIIII)I"⟩
abbrev cX5_lossOf : ByteArray := prog_7_method_6_code
def yX5_lossOf : MethodName := ⟨RX5, "lossOf", "(III)I"⟩
abbrev cX5_lostOf : ByteArray := prog_7_method_7_code
def yX5_lostOf : MethodName := ⟨RX5, "lostOf", "(II)I"⟩
abbrev cX5_oneYear : ByteArray := prog_7_method_8_code
def yX5_oneYear : MethodName := ⟨RX5, "oneYear", "()V"⟩
abbrev cX5_years : ByteArray := prog_7_method_9_code
def yX5_years : MethodName := ⟨RX5, "years", "(I)I"⟩
abbrev cX5_loss : ByteArray := prog_7_method_10_code
def yX5_loss : MethodName := ⟨RX5, "loss", "(III)I"⟩
abbrev cX5_ageOf : ByteArray := prog_7_method_11_code
def yX5_ageOf : MethodName := ⟨RX5, "ageOf", "(I)I"⟩
abbrev cX5_costOf : ByteArray := prog_7_method_12_code
def yX5_costOf : MethodName := ⟨RX5, "costOf", "(I)I"⟩
abbrev cX5_about : ByteArray := prog_7_method_13_code
def yX5_about : MethodName := ⟨RX5, "about", "(II)I"⟩
abbrev cX5_move : ByteArray := prog_7_method_14_code
def yX5_move : MethodName := ⟨RX5, "move", "(II)I"⟩
abbrev cX5_draw : ByteArray := prog_7_method_15_code
def yX5_draw : MethodName := ⟨RX5, "draw", "(II)I"⟩
abbrev cX5_want : ByteArray := prog_7_method_16_code
def yX5_want : MethodName := ⟨RX5, "want", "(II)I"⟩
abbrev cX5_has : ByteArray := prog_7_method_17_code
def yX5_has : MethodName := ⟨RX5, "has", "(II)Z"⟩
abbrev cX5_isBlend : ByteArray := prog_7_method_18_code
def yX5_isBlend : MethodName := ⟨RX5, "isBlend", "(I)Z"⟩
abbrev cX5_dropsOf : ByteArray := prog_7_method_19_code
def yX5_dropsOf : MethodName := ⟨RX5, "dropsOf", "(I)I"⟩
abbrev cX5_partOf : ByteArray := prog_7_method_20_code
def yX5_partOf : MethodName := ⟨RX5, "partOf", "(II)I"⟩
abbrev cX5_youngest : ByteArray := prog_7_method_21_code
def yX5_youngest : MethodName := ⟨RX5, "youngest", "(I)I"⟩
abbrev cX5_costs : ByteArray := prog_7_method_22_code
def yX5_costs : MethodName := ⟨RX5, "costs", "(I)I"⟩
abbrev cX5_isRight : ByteArray := prog_7_method_23_code
def yX5_isRight : MethodName := ⟨RX5, "isRight", "(I)Z"⟩
abbrev cX5_blend : ByteArray := prog_7_method_24_code
def yX5_blend : MethodName := ⟨RX5, "blend", "(II)I"⟩
abbrev cX5_best : ByteArray := prog_7_method_25_code
def yX5_best : MethodName := ⟨RX5, "best", "(I)I"⟩
abbrev cX5_lasts : ByteArray := prog_7_method_26_code
def yX5_lasts : MethodName := ⟨RX5, "lasts", "(II)I"⟩
abbrev cX5_cut : ByteArray := prog_7_method_27_code
def yX5_cut : MethodName := ⟨RX5, "cut", "(II)I"⟩
abbrev cX5_rate : ByteArray := prog_7_method_28_code
def yX5_rate : MethodName := ⟨RX5, "rate", "(I)I"⟩
abbrev cX5_duty : ByteArray := prog_7_method_29_code
def yX5_duty : MethodName := ⟨RX5, "duty", "(I)I"⟩
abbrev cX5_ways : ByteArray := prog_7_method_30_code
def yX5_ways : MethodName := ⟨RX5, "ways", "(II)J"⟩
abbrev cX5_odds : ByteArray := prog_7_method_31_code
def yX5_odds : MethodName := ⟨RX5, "odds", "(II)J"⟩
abbrev cX5_apart : ByteArray := prog_7_method_32_code
def yX5_apart : MethodName := ⟨RX5, "apart", "(II)I"⟩
abbrev cX5_read : ByteArray := prog_7_method_33_code
def yX5_read : MethodName := ⟨RX5, "read", "(III)I"⟩
abbrev cX5_clear : ByteArray := prog_7_method_34_code
def yX5_clear : MethodName := ⟨RX5, "clear", "()I"⟩
abbrev cX5_lead : ByteArray := prog_7_method_35_code
def yX5_lead : MethodName := ⟨RX5, "lead", "(II)V"⟩
abbrev cX5_firstWrong : ByteArray := prog_7_method_36_code
def yX5_firstWrong : MethodName := ⟨RX5, "firstWrong", "()I"⟩
abbrev cX5_contradicts : ByteArray := prog_7_method_37_code
def yX5_contradicts : MethodName := ⟨RX5, "contradicts", "()I"⟩
abbrev cX5_hang : ByteArray := prog_7_method_38_code
def yX5_hang : MethodName := ⟨RX5, "hang", "(III)I"⟩
abbrev cX5_count : ByteArray := prog_7_method_39_code
def yX5_count : MethodName := ⟨RX5, "count", "(I)I"⟩
abbrev cX5_trace : ByteArray := prog_7_method_40_code
def yX5_trace : MethodName := ⟨RX5, "trace", "()J"⟩
def RJ9 : String := "java/lang/Math"
def TJ9 : u_T := fun k => match k with
  | _ => ("", "", "", false)
def tyJ9 : Nat → FieldType := fun k => match k with
  | _ => .int
abbrev wsJ90 : List Cond := u_ws RJ9 TJ9 0
theorem nmJ9 : ∀ a, a < 0 → ∀ b, b < 0 → a ≠ b → (TJ9 a).2.1 ≠ (TJ9 b).2.1 := by decide +kernel
theorem tyJ9_ok : ∀ k, k < 0 → parseFieldDescriptor (TJ9 k).2.2.1 = some (tyJ9 k) := by decide +kernel
abbrev cJ9_max_7cf53 : ByteArray := prog_8_method_65_code
def yJ9_max_7cf53 : MethodName := ⟨RJ9, "max", "(II)I"⟩
abbrev cJ9_min_7cf53 : ByteArray := prog_8_method_69_code
def yJ9_min_7cf53 : MethodName := ⟨RJ9, "min", "(II)I"⟩
def RL : String := "CaskBookLaw"
abbrev cL_law : ByteArray := code
def yL_law : MethodName := ⟨RL, "law", "([I)Z"⟩
def wsX0_init : List Cond := .code yX0_init cX0_init 1 none :: ([.methodLink RX0 3 objectInit, .instanceMethod objectInit, .code objectInit ⟨#[0xb1]⟩ 1 none])
def wsX0_fill : List Cond := .code yX0_fill cX0_fill 7 none :: ([.fieldLink RX0 9 "CaskBook$Cask" "kind" "I", .fieldLink RX0 15 "CaskBook$Cask" "drops" "I", .fieldLink RX0 18 "CaskBook$Cask" "strength" "I", .fieldLink RX0 21 "CaskBook$Cask" "floor" "I", .fieldLink RX0 24 "CaskBook$Cask" "smoke" "I", .fieldLink RX0 27 "CaskBook$Cask" "laidIn" "I"] ++ wsX00)
def wsX0_age : List Cond := .code yX0_age cX0_age 2 (some .int) :: ([.fieldLink RX0 27 "CaskBook$Cask" "laidIn" "I"] ++ wsX00)
def wsX4_dividedUp : List Cond := .code yX4_dividedUp cX4_dividedUp 2 (some .int) :: ([])
def wsX0_cost : List Cond := .code yX0_cost cX0_cost 2 (some .int) :: ([.fieldLink RX0 15 "CaskBook$Cask" "drops" "I", .methodLink RX0 30 yX0_age, .instanceMethod yX0_age, .selects RX0 yX0_age yX0_age, .initialized RX0, .code yX0_age cX0_age 2 (some .int), .fieldLink RX0 27 "CaskBook$Cask" "laidIn" "I", .static yX4_dividedUp, .initialized RX4, .code yX4_dividedUp cX4_dividedUp 2 (some .int)] ++ wsX00)
def wsX4_lossBy : List Cond := .code yX4_lossBy cX4_lossBy 5 (some .int) :: ([.methodLink RX4 152 Lib.Math.max.name, .static Lib.Math.max.name, .initialized "java/lang/Math", .code Lib.Math.max.name Lib.Math.max.code 2 (some .int)])
def wsX0_lossIn : List Cond := .code yX0_lossIn cX0_lossIn 2 (some .int) :: ([.fieldLink RX0 9 "CaskBook$Cask" "kind" "I", .fieldLink RX0 21 "CaskBook$Cask" "floor" "I", .methodLink RX0 30 yX0_age, .instanceMethod yX0_age, .selects RX0 yX0_age yX0_age, .initialized RX0, .code yX0_age cX0_age 2 (some .int), .fieldLink RX0 27 "CaskBook$Cask" "laidIn" "I", .static yX4_lossBy, .initialized RX4, .code yX4_lossBy cX4_lossBy 5 (some .int), .methodLink RX4 152 Lib.Math.max.name, .static Lib.Math.max.name, .initialized "java/lang/Math", .code Lib.Math.max.name Lib.Math.max.code 2 (some .int)] ++ wsX00)
def wsX4_lostOf : List Cond := .code yX4_lostOf cX4_lostOf 2 (some .int) :: ([.methodLink RX4 158 yX4_dividedUp, .static yX4_dividedUp, .initialized RX4, .code yX4_dividedUp cX4_dividedUp 2 (some .int)])
def wsX0_passYear_r1 : List Cond := [Cond.fieldLink RX0 15 "CaskBook$Cask" "drops" "I", Cond.fieldLink RX0 48 "CaskBook$Cask" "oak" "I", Cond.methodLink RX0 51 Lib.Math.max.name, Cond.static Lib.Math.max.name, Cond.initialized "java/lang/Math", Cond.code Lib.Math.max.name Lib.Math.max.code 2 (some .int), Cond.fieldLink RX0 24 "CaskBook$Cask" "smoke" "I", Cond.fieldLink RX0 56 "CaskBook$Cask" "sweet" "I", Cond.fieldLink RX0 9 "CaskBook$Cask" "kind" "I", Cond.fieldLink RX0 18 "CaskBook$Cask" "strength" "I", Cond.methodLink RX0 42 yX0_lossIn, Cond.instanceMethod yX0_lossIn, Cond.selects RX0 yX0_lossIn yX0_lossIn, Cond.initialized RX0, Cond.code yX0_lossIn cX0_lossIn 2 (some .int), Cond.fieldLink RX0 21 "CaskBook$Cask" "floor" "I", Cond.methodLink RX0 30 yX0_age, Cond.instanceMethod yX0_age, Cond.selects RX0 yX0_age yX0_age, Cond.code yX0_age cX0_age 2 (some .int), Cond.fieldLink RX0 27 "CaskBook$Cask" "laidIn" "I", Cond.static yX4_lossBy, Cond.initialized RX4, Cond.code yX4_lossBy cX4_lossBy 5 (some .int)]
def wsX0_passYear_r2 : List Cond := [Cond.methodLink RX4 152 Lib.Math.max.name, Cond.static yX4_lostOf, Cond.code yX4_lostOf cX4_lostOf 2 (some .int), Cond.methodLink RX4 158 yX4_dividedUp, Cond.static yX4_dividedUp, Cond.code yX4_dividedUp cX4_dividedUp 2 (some .int)]
def wsX0_passYear : List Cond := .code yX0_passYear cX0_passYear 3 none :: ((wsX0_passYear_r1 ++ wsX0_passYear_r2) ++ wsX00)
def wsX1_init : List Cond := .code yX1_init cX1_init 1 none :: ([.methodLink RX1 3 objectInit, .instanceMethod objectInit, .code objectInit ⟨#[0xb1]⟩ 1 none])
def wsX1_start : List Cond := .code yX1_start cX1_start 1 none :: ([.fieldLink RX1 9 "CaskBook$Mix" "drops" "I", .fieldLink RX1 15 "CaskBook$Mix" "strengths" "I", .fieldLink RX1 18 "CaskBook$Mix" "oaks" "I", .fieldLink RX1 21 "CaskBook$Mix" "smokes" "I", .fieldLink RX1 24 "CaskBook$Mix" "sweets" "I", .fieldLink RX1 27 "CaskBook$Mix" "cost" "I", .fieldLink RX1 30 "CaskBook$Mix" "age" "I"] ++ wsX10)
def wsX1_add_r1 : List Cond := [Cond.fieldLink RX1 9 "CaskBook$Mix" "drops" "I", Cond.fieldLink RX1 33 "CaskBook$Cask" "drops" "I", Cond.fieldLink RX1 15 "CaskBook$Mix" "strengths" "I", Cond.fieldLink RX1 36 "CaskBook$Cask" "strength" "I", Cond.fieldLink RX1 18 "CaskBook$Mix" "oaks" "I", Cond.fieldLink RX1 39 "CaskBook$Cask" "oak" "I", Cond.fieldLink RX1 21 "CaskBook$Mix" "smokes" "I", Cond.fieldLink RX1 42 "CaskBook$Cask" "smoke" "I", Cond.fieldLink RX1 24 "CaskBook$Mix" "sweets" "I", Cond.fieldLink RX1 45 "CaskBook$Cask" "sweet" "I", Cond.fieldLink RX1 27 "CaskBook$Mix" "cost" "I", Cond.fieldLink RX1 30 "CaskBook$Mix" "age" "I", Cond.methodLink RX1 53 Lib.Math.min.name, Cond.static Lib.Math.min.name, Cond.initialized "java/lang/Math", Cond.code Lib.Math.min.name Lib.Math.min.code 2 (some .int), Cond.methodLink RX1 48 yX0_cost, Cond.instanceMethod yX0_cost, Cond.selects RX0 yX0_cost yX0_cost, Cond.initialized RX0, Cond.code yX0_cost cX0_cost 2 (some .int), Cond.fieldLink RX0 15 "CaskBook$Cask" "drops" "I", Cond.methodLink RX0 30 yX0_age, Cond.instanceMethod yX0_age]
def wsX1_add_r2 : List Cond := [Cond.selects RX0 yX0_age yX0_age, Cond.code yX0_age cX0_age 2 (some .int), Cond.fieldLink RX0 27 "CaskBook$Cask" "laidIn" "I", Cond.static yX4_dividedUp, Cond.initialized RX4, Cond.code yX4_dividedUp cX4_dividedUp 2 (some .int), Cond.methodLink RX1 51 yX0_age]
def wsX1_add : List Cond := .code yX1_add cX1_add 3 none :: ((wsX1_add_r1 ++ wsX1_add_r2) ++ wsX10 ++ wsX00)
def wsX1_evenly : List Cond := .code yX1_evenly cX1_evenly 2 (some .int) :: ([.fieldLink RX1 9 "CaskBook$Mix" "drops" "I"] ++ wsX10)
def wsX2_reset : List Cond := .code yX2_reset cX2_reset 2 none :: ([.fieldLink RX2 9 "CaskBook$Scale" "group" "[I", .fieldLink RX2 15 "CaskBook$Scale" "height" "[I", .fieldLink RX2 21 "CaskBook$Scale" "readings" "I", .fieldLink RX2 25 "CaskBook$Scale" "contradiction" "I"] ++ wsX20)
def wsX2_init : List Cond := .code yX2_init cX2_init 1 none :: ([.methodLink RX2 3 objectInit, .instanceMethod objectInit, .code objectInit ⟨#[0xb1]⟩ 1 none, .arrayClass .int, .fieldLink RX2 9 "CaskBook$Scale" "group" "[I", .fieldLink RX2 15 "CaskBook$Scale" "height" "[I", .methodLink RX2 18 yX2_reset, .instanceMethod yX2_reset, .selects RX2 yX2_reset yX2_reset, .initialized RX2, .code yX2_reset cX2_reset 2 none, .fieldLink RX2 21 "CaskBook$Scale" "readings" "I", .fieldLink RX2 25 "CaskBook$Scale" "contradiction" "I"] ++ wsX20)
def wsX2_ties : List Cond := .code yX2_ties cX2_ties 3 (some .boolean) :: ([.fieldLink RX2 9 "CaskBook$Scale" "group" "[I"] ++ wsX20)
def wsX2_join : List Cond := .code yX2_join cX2_join 5 none :: ([.fieldLink RX2 9 "CaskBook$Scale" "group" "[I", .fieldLink RX2 15 "CaskBook$Scale" "height" "[I"] ++ wsX20)
def wsX2_fit : List Cond := .code yX2_fit cX2_fit 5 none :: ([.fieldLink RX2 15 "CaskBook$Scale" "height" "[I", .fieldLink RX2 9 "CaskBook$Scale" "group" "[I", .fieldLink RX2 21 "CaskBook$Scale" "readings" "I", .fieldLink RX2 25 "CaskBook$Scale" "contradiction" "I", .methodLink RX2 32 yX2_ties, .instanceMethod yX2_ties, .selects RX2 yX2_ties yX2_ties, .initialized RX2, .code yX2_ties cX2_ties 3 (some .boolean), .methodLink RX2 36 yX2_join, .instanceMethod yX2_join, .selects RX2 yX2_join yX2_join, .code yX2_join cX2_join 5 none] ++ wsX20)
def wsX2_take : List Cond := .code yX2_take cX2_take 4 none :: ([.fieldLink RX2 25 "CaskBook$Scale" "contradiction" "I", .fieldLink RX2 21 "CaskBook$Scale" "readings" "I", .methodLink RX2 28 yX2_fit, .instanceMethod yX2_fit, .selects RX2 yX2_fit yX2_fit, .initialized RX2, .code yX2_fit cX2_fit 5 none, .fieldLink RX2 15 "CaskBook$Scale" "height" "[I", .fieldLink RX2 9 "CaskBook$Scale" "group" "[I", .methodLink RX2 32 yX2_ties, .instanceMethod yX2_ties, .selects RX2 yX2_ties yX2_ties, .code yX2_ties cX2_ties 3 (some .boolean), .methodLink RX2 36 yX2_join, .instanceMethod yX2_join, .selects RX2 yX2_join yX2_join, .code yX2_join cX2_join 5 none] ++ wsX20)
def wsX3_init : List Cond := .code yX3_init cX3_init 1 none :: ([.methodLink RX3 3 objectInit, .instanceMethod objectInit, .code objectInit ⟨#[0xb1]⟩ 1 none, .arrayClass .int, .fieldLink RX3 9 "CaskBook$Want" "limits" "[I"] ++ wsX30)
def wsX3_most : List Cond := .code yX3_most cX3_most 1 (some .int) :: ([.constant RX3 15 (99999)])
def wsX3_isOldEnough : List Cond := .code yX3_isOldEnough cX3_isOldEnough 2 (some .boolean) :: ([.fieldLink RX3 16 "CaskBook$Mix" "age" "I", .fieldLink RX3 9 "CaskBook$Want" "limits" "[I"] ++ wsX10 ++ wsX30)
def wsX4_isWithin : List Cond := .code yX4_isWithin cX4_isWithin 3 (some .boolean) :: ([])
def wsX3_isMetBy : List Cond := .code yX3_isMetBy cX3_isMetBy 2 (some .boolean) :: ([.fieldLink RX3 22 "CaskBook$Mix" "drops" "I", .fieldLink RX3 9 "CaskBook$Want" "limits" "[I", .fieldLink RX3 29 "CaskBook$Mix" "oaks" "I", .fieldLink RX3 40 "CaskBook$Mix" "smokes" "I", .fieldLink RX3 43 "CaskBook$Mix" "sweets" "I", .methodLink RX3 25 yX3_isOldEnough, .instanceMethod yX3_isOldEnough, .selects RX3 yX3_isOldEnough yX3_isOldEnough, .initialized RX3, .code yX3_isOldEnough cX3_isOldEnough 2 (some .boolean), .fieldLink RX3 16 "CaskBook$Mix" "age" "I", .methodLink RX3 32 yX1_evenly, .instanceMethod yX1_evenly, .selects RX1 yX1_evenly yX1_evenly, .initialized RX1, .code yX1_evenly cX1_evenly 2 (some .int), .fieldLink RX1 9 "CaskBook$Mix" "drops" "I", .static yX4_isWithin, .initialized RX4, .code yX4_isWithin cX4_isWithin 3 (some .boolean)] ++ wsX10 ++ wsX30)
def wsX4_init_r1 : List Cond := [Cond.methodLink RX4 1 objectInit, Cond.instanceMethod objectInit, Cond.code objectInit ⟨#[0xb1]⟩ 1 none, Cond.classLink RX4 9 RX0, Cond.fieldLink RX4 11 "CaskBook" "casks" "[LCaskBook$Cask;", Cond.arrayClass .int, Cond.fieldLink RX4 15 "CaskBook" "ahead" "[I", Cond.classLink RX4 19 RX3, Cond.instantiable RX3 1, Cond.initialized RX3, Cond.fieldLink RX4 22 "CaskBook" "wanted" "LCaskBook$Want;", Cond.classLink RX4 26 RX1, Cond.instantiable RX1 7, Cond.initialized RX1, Cond.fieldLink RX4 29 "CaskBook" "mix" "LCaskBook$Mix;", Cond.classLink RX4 33 RX2, Cond.instantiable RX2 4, Cond.initialized RX2, Cond.fieldLink RX4 36 "CaskBook" "scale" "LCaskBook$Scale;", Cond.fieldLink RX4 40 "CaskBook" "laid" "I", Cond.fieldLink RX4 44 "CaskBook" "now" "I", Cond.fieldLink RX4 47 "CaskBook" "dutyRate" "I", Cond.fieldLink RX4 50 "CaskBook" "traced" "J", Cond.instantiable RX0 8]
def wsX4_init_r2 : List Cond := [Cond.initialized RX0, Cond.instanceMethod yX3_init, Cond.code yX3_init cX3_init 1 none, Cond.methodLink RX3 3 objectInit, Cond.fieldLink RX3 9 "CaskBook$Want" "limits" "[I", Cond.instanceMethod yX1_init, Cond.code yX1_init cX1_init 1 none, Cond.methodLink RX1 3 objectInit, Cond.methodLink RX4 35 yX2_init, Cond.instanceMethod yX2_init, Cond.code yX2_init cX2_init 1 none, Cond.methodLink RX2 3 objectInit, Cond.fieldLink RX2 9 "CaskBook$Scale" "group" "[I", Cond.fieldLink RX2 15 "CaskBook$Scale" "height" "[I", Cond.methodLink RX2 18 yX2_reset, Cond.instanceMethod yX2_reset, Cond.selects RX2 yX2_reset yX2_reset, Cond.code yX2_reset cX2_reset 2 none, Cond.fieldLink RX2 21 "CaskBook$Scale" "readings" "I", Cond.fieldLink RX2 25 "CaskBook$Scale" "contradiction" "I", Cond.instanceMethod yX0_init, Cond.code yX0_init cX0_init 1 none, Cond.methodLink RX0 3 objectInit]
def wsX4_init : List Cond := .code yX4_init cX4_init 2 none :: ((wsX4_init_r1 ++ wsX4_init_r2) ++ wsX40 ++ wsX30 ++ wsX10 ++ wsX20 ++ wsX00)
def wsX4_lay : List Cond := .code yX4_lay cX4_lay 6 (some .int) :: ([.fieldLink RX4 40 "CaskBook" "laid" "I", .fieldLink RX4 11 "CaskBook" "casks" "[LCaskBook$Cask;", .fieldLink RX4 44 "CaskBook" "now" "I", .methodLink RX4 55 yX4_isWithin, .static yX4_isWithin, .initialized RX4, .code yX4_isWithin cX4_isWithin 3 (some .boolean), .methodLink RX4 59 yX0_fill, .instanceMethod yX0_fill, .selects RX0 yX0_fill yX0_fill, .initialized RX0, .code yX0_fill cX0_fill 7 none, .fieldLink RX0 9 "CaskBook$Cask" "kind" "I", .fieldLink RX0 15 "CaskBook$Cask" "drops" "I", .fieldLink RX0 18 "CaskBook$Cask" "strength" "I", .fieldLink RX0 21 "CaskBook$Cask" "floor" "I", .fieldLink RX0 24 "CaskBook$Cask" "smoke" "I", .fieldLink RX0 27 "CaskBook$Cask" "laidIn" "I"] ++ wsX40 ++ wsX00)
def wsX4_passYear_r1 : List Cond := [Cond.fieldLink RX4 40 "CaskBook" "laid" "I", Cond.fieldLink RX4 11 "CaskBook" "casks" "[LCaskBook$Cask;", Cond.fieldLink RX4 80 "CaskBook$Cask" "drops" "I", Cond.fieldLink RX4 44 "CaskBook" "now" "I", Cond.methodLink RX4 206 yX0_passYear, Cond.instanceMethod yX0_passYear, Cond.selects RX0 yX0_passYear yX0_passYear, Cond.initialized RX0, Cond.code yX0_passYear cX0_passYear 3 none, Cond.fieldLink RX0 15 "CaskBook$Cask" "drops" "I", Cond.fieldLink RX0 48 "CaskBook$Cask" "oak" "I", Cond.methodLink RX0 51 Lib.Math.max.name, Cond.static Lib.Math.max.name, Cond.initialized "java/lang/Math", Cond.code Lib.Math.max.name Lib.Math.max.code 2 (some .int), Cond.fieldLink RX0 24 "CaskBook$Cask" "smoke" "I", Cond.fieldLink RX0 56 "CaskBook$Cask" "sweet" "I", Cond.fieldLink RX0 9 "CaskBook$Cask" "kind" "I", Cond.fieldLink RX0 18 "CaskBook$Cask" "strength" "I", Cond.methodLink RX0 42 yX0_lossIn, Cond.instanceMethod yX0_lossIn, Cond.selects RX0 yX0_lossIn yX0_lossIn, Cond.code yX0_lossIn cX0_lossIn 2 (some .int), Cond.fieldLink RX0 21 "CaskBook$Cask" "floor" "I"]
def wsX4_passYear_r2 : List Cond := [Cond.methodLink RX0 30 yX0_age, Cond.instanceMethod yX0_age, Cond.selects RX0 yX0_age yX0_age, Cond.code yX0_age cX0_age 2 (some .int), Cond.fieldLink RX0 27 "CaskBook$Cask" "laidIn" "I", Cond.static yX4_lossBy, Cond.initialized RX4, Cond.code yX4_lossBy cX4_lossBy 5 (some .int), Cond.methodLink RX4 152 Lib.Math.max.name, Cond.static yX4_lostOf, Cond.code yX4_lostOf cX4_lostOf 2 (some .int), Cond.methodLink RX4 158 yX4_dividedUp, Cond.static yX4_dividedUp, Cond.code yX4_dividedUp cX4_dividedUp 2 (some .int)]
def wsX4_passYear : List Cond := .code yX4_passYear cX4_passYear 2 none :: ((wsX4_passYear_r1 ++ wsX4_passYear_r2) ++ wsX40 ++ wsX00)
def wsX4_years_r1 : List Cond := [Cond.fieldLink RX4 44 "CaskBook" "now" "I", Cond.methodLink RX4 55 yX4_isWithin, Cond.static yX4_isWithin, Cond.initialized RX4, Cond.code yX4_isWithin cX4_isWithin 3 (some .boolean), Cond.methodLink RX4 63 yX4_passYear, Cond.instanceMethod yX4_passYear, Cond.selects RX4 yX4_passYear yX4_passYear, Cond.code yX4_passYear cX4_passYear 2 none, Cond.fieldLink RX4 40 "CaskBook" "laid" "I", Cond.fieldLink RX4 11 "CaskBook" "casks" "[LCaskBook$Cask;", Cond.fieldLink RX4 80 "CaskBook$Cask" "drops" "I", Cond.methodLink RX4 206 yX0_passYear, Cond.instanceMethod yX0_passYear, Cond.selects RX0 yX0_passYear yX0_passYear, Cond.initialized RX0, Cond.code yX0_passYear cX0_passYear 3 none, Cond.fieldLink RX0 15 "CaskBook$Cask" "drops" "I", Cond.fieldLink RX0 48 "CaskBook$Cask" "oak" "I", Cond.methodLink RX0 51 Lib.Math.max.name, Cond.static Lib.Math.max.name, Cond.initialized "java/lang/Math", Cond.code Lib.Math.max.name Lib.Math.max.code 2 (some .int), Cond.fieldLink RX0 24 "CaskBook$Cask" "smoke" "I"]
def wsX4_years_r2 : List Cond := [Cond.fieldLink RX0 56 "CaskBook$Cask" "sweet" "I", Cond.fieldLink RX0 9 "CaskBook$Cask" "kind" "I", Cond.fieldLink RX0 18 "CaskBook$Cask" "strength" "I", Cond.methodLink RX0 42 yX0_lossIn, Cond.instanceMethod yX0_lossIn, Cond.selects RX0 yX0_lossIn yX0_lossIn, Cond.code yX0_lossIn cX0_lossIn 2 (some .int), Cond.fieldLink RX0 21 "CaskBook$Cask" "floor" "I", Cond.methodLink RX0 30 yX0_age, Cond.instanceMethod yX0_age, Cond.selects RX0 yX0_age yX0_age, Cond.code yX0_age cX0_age 2 (some .int), Cond.fieldLink RX0 27 "CaskBook$Cask" "laidIn" "I", Cond.static yX4_lossBy, Cond.code yX4_lossBy cX4_lossBy 5 (some .int), Cond.methodLink RX4 152 Lib.Math.max.name, Cond.static yX4_lostOf, Cond.code yX4_lostOf cX4_lostOf 2 (some .int), Cond.methodLink RX4 158 yX4_dividedUp, Cond.static yX4_dividedUp, Cond.code yX4_dividedUp cX4_dividedUp 2 (some .int)]
def wsX4_years : List Cond := .code yX4_years cX4_years 3 (some .int) :: ((wsX4_years_r1 ++ wsX4_years_r2) ++ wsX40 ++ wsX00)
def wsX4_isCask : List Cond := .code yX4_isCask cX4_isCask 2 (some .boolean) :: ([.fieldLink RX4 40 "CaskBook" "laid" "I", .methodLink RX4 55 yX4_isWithin, .static yX4_isWithin, .initialized RX4, .code yX4_isWithin cX4_isWithin 3 (some .boolean)] ++ wsX40)
def wsX4_loss : List Cond := .code yX4_loss cX4_loss 4 (some .int) :: ([.fieldLink RX4 50 "CaskBook" "traced" "J", .fieldLink RX4 70 "CaskBook" "TRACE_MARKS" "[I", .fieldLink RX4 11 "CaskBook" "casks" "[LCaskBook$Cask;", .fieldLink RX4 73 "CaskBook$Cask" "floor" "I", .methodLink RX4 66 yX4_isCask, .instanceMethod yX4_isCask, .selects RX4 yX4_isCask yX4_isCask, .initialized RX4, .code yX4_isCask cX4_isCask 2 (some .boolean), .fieldLink RX4 40 "CaskBook" "laid" "I", .methodLink RX4 55 yX4_isWithin, .static yX4_isWithin, .code yX4_isWithin cX4_isWithin 3 (some .boolean), .methodLink RX4 76 yX4_lossBy, .static yX4_lossBy, .code yX4_lossBy cX4_lossBy 5 (some .int), .methodLink RX4 152 Lib.Math.max.name, .static Lib.Math.max.name, .initialized "java/lang/Math", .code Lib.Math.max.name Lib.Math.max.code 2 (some .int)] ++ wsX40 ++ wsX00)
def wsX4_about_r1 : List Cond := [Cond.fieldLink RX4 11 "CaskBook" "casks" "[LCaskBook$Cask;", Cond.fieldLink RX4 80 "CaskBook$Cask" "drops" "I", Cond.fieldLink RX4 83 "CaskBook$Cask" "strength" "I", Cond.fieldLink RX4 44 "CaskBook" "now" "I", Cond.fieldLink RX4 90 "CaskBook$Cask" "oak" "I", Cond.fieldLink RX4 93 "CaskBook$Cask" "smoke" "I", Cond.fieldLink RX4 96 "CaskBook$Cask" "sweet" "I", Cond.fieldLink RX4 99 "CaskBook$Cask" "kind" "I", Cond.fieldLink RX4 73 "CaskBook$Cask" "floor" "I", Cond.methodLink RX4 66 yX4_isCask, Cond.instanceMethod yX4_isCask, Cond.selects RX4 yX4_isCask yX4_isCask, Cond.initialized RX4, Cond.code yX4_isCask cX4_isCask 2 (some .boolean), Cond.fieldLink RX4 40 "CaskBook" "laid" "I", Cond.methodLink RX4 55 yX4_isWithin, Cond.static yX4_isWithin, Cond.code yX4_isWithin cX4_isWithin 3 (some .boolean), Cond.methodLink RX4 86 yX0_age, Cond.instanceMethod yX0_age, Cond.selects RX0 yX0_age yX0_age, Cond.initialized RX0, Cond.code yX0_age cX0_age 2 (some .int), Cond.fieldLink RX0 27 "CaskBook$Cask" "laidIn" "I"]
def wsX4_about_r2 : List Cond := [Cond.methodLink RX4 102 yX0_cost, Cond.instanceMethod yX0_cost, Cond.selects RX0 yX0_cost yX0_cost, Cond.code yX0_cost cX0_cost 2 (some .int), Cond.fieldLink RX0 15 "CaskBook$Cask" "drops" "I", Cond.methodLink RX0 30 yX0_age, Cond.static yX4_dividedUp, Cond.code yX4_dividedUp cX4_dividedUp 2 (some .int)]
def wsX4_about : List Cond := .code yX4_about cX4_about 4 (some .int) :: ((wsX4_about_r1 ++ wsX4_about_r2) ++ wsX40 ++ wsX00)
def wsX4_move : List Cond := .code yX4_move cX4_move 4 (some .int) :: ([.fieldLink RX4 11 "CaskBook" "casks" "[LCaskBook$Cask;", .fieldLink RX4 73 "CaskBook$Cask" "floor" "I", .methodLink RX4 66 yX4_isCask, .instanceMethod yX4_isCask, .selects RX4 yX4_isCask yX4_isCask, .initialized RX4, .code yX4_isCask cX4_isCask 2 (some .boolean), .fieldLink RX4 40 "CaskBook" "laid" "I", .methodLink RX4 55 yX4_isWithin, .static yX4_isWithin, .code yX4_isWithin cX4_isWithin 3 (some .boolean)] ++ wsX40 ++ wsX00)
def wsX4_draw : List Cond := .code yX4_draw cX4_draw 3 (some .int) :: ([.fieldLink RX4 11 "CaskBook" "casks" "[LCaskBook$Cask;", .fieldLink RX4 80 "CaskBook$Cask" "drops" "I", .methodLink RX4 66 yX4_isCask, .instanceMethod yX4_isCask, .selects RX4 yX4_isCask yX4_isCask, .initialized RX4, .code yX4_isCask cX4_isCask 2 (some .boolean), .fieldLink RX4 40 "CaskBook" "laid" "I", .methodLink RX4 55 yX4_isWithin, .static yX4_isWithin, .code yX4_isWithin cX4_isWithin 3 (some .boolean)] ++ wsX40 ++ wsX00)
def wsX4_want : List Cond := .code yX4_want cX4_want 4 (some .int) :: ([.fieldLink RX4 22 "CaskBook" "wanted" "LCaskBook$Want;", .fieldLink RX4 108 "CaskBook$Want" "limits" "[I", .methodLink RX4 55 yX4_isWithin, .static yX4_isWithin, .initialized RX4, .code yX4_isWithin cX4_isWithin 3 (some .boolean), .methodLink RX4 105 yX3_most, .static yX3_most, .initialized RX3, .code yX3_most cX3_most 1 (some .int), .constant RX3 15 (99999)] ++ wsX40 ++ wsX30)
def wsX4_isSet : List Cond := .code yX4_isSet cX4_isSet 2 (some .boolean) :: ([.fieldLink RX4 40 "CaskBook" "laid" "I", .methodLink RX4 55 yX4_isWithin, .static yX4_isWithin, .initialized RX4, .code yX4_isWithin cX4_isWithin 3 (some .boolean)] ++ wsX40)
def wsX4_holds : List Cond := .code yX4_holds cX4_holds 2 (some .boolean) :: ([])
def wsX4_gather_r1 : List Cond := [Cond.fieldLink RX4 29 "CaskBook" "mix" "LCaskBook$Mix;", Cond.fieldLink RX4 40 "CaskBook" "laid" "I", Cond.fieldLink RX4 11 "CaskBook" "casks" "[LCaskBook$Cask;", Cond.fieldLink RX4 80 "CaskBook$Cask" "drops" "I", Cond.fieldLink RX4 44 "CaskBook" "now" "I", Cond.fieldLink RX4 117 "CaskBook$Mix" "drops" "I", Cond.methodLink RX4 208 yX1_start, Cond.instanceMethod yX1_start, Cond.selects RX1 yX1_start yX1_start, Cond.initialized RX1, Cond.code yX1_start cX1_start 1 none, Cond.fieldLink RX1 9 "CaskBook$Mix" "drops" "I", Cond.fieldLink RX1 15 "CaskBook$Mix" "strengths" "I", Cond.fieldLink RX1 18 "CaskBook$Mix" "oaks" "I", Cond.fieldLink RX1 21 "CaskBook$Mix" "smokes" "I", Cond.fieldLink RX1 24 "CaskBook$Mix" "sweets" "I", Cond.fieldLink RX1 27 "CaskBook$Mix" "cost" "I", Cond.fieldLink RX1 30 "CaskBook$Mix" "age" "I", Cond.methodLink RX4 161 yX4_holds, Cond.static yX4_holds, Cond.initialized RX4, Cond.code yX4_holds cX4_holds 2 (some .boolean), Cond.methodLink RX4 211 yX1_add, Cond.instanceMethod yX1_add]
def wsX4_gather_r2 : List Cond := [Cond.selects RX1 yX1_add yX1_add, Cond.code yX1_add cX1_add 3 none, Cond.fieldLink RX1 33 "CaskBook$Cask" "drops" "I", Cond.fieldLink RX1 36 "CaskBook$Cask" "strength" "I", Cond.fieldLink RX1 39 "CaskBook$Cask" "oak" "I", Cond.fieldLink RX1 42 "CaskBook$Cask" "smoke" "I", Cond.fieldLink RX1 45 "CaskBook$Cask" "sweet" "I", Cond.methodLink RX1 53 Lib.Math.min.name, Cond.static Lib.Math.min.name, Cond.initialized "java/lang/Math", Cond.code Lib.Math.min.name Lib.Math.min.code 2 (some .int), Cond.methodLink RX1 48 yX0_cost, Cond.instanceMethod yX0_cost, Cond.selects RX0 yX0_cost yX0_cost, Cond.initialized RX0, Cond.code yX0_cost cX0_cost 2 (some .int), Cond.fieldLink RX0 15 "CaskBook$Cask" "drops" "I", Cond.methodLink RX0 30 yX0_age, Cond.instanceMethod yX0_age, Cond.selects RX0 yX0_age yX0_age, Cond.code yX0_age cX0_age 2 (some .int), Cond.fieldLink RX0 27 "CaskBook$Cask" "laidIn" "I", Cond.static yX4_dividedUp, Cond.code yX4_dividedUp cX4_dividedUp 2 (some .int)]
def wsX4_gather_r3 : List Cond := [Cond.methodLink RX1 51 yX0_age]
def wsX4_gather : List Cond := .code yX4_gather cX4_gather 3 (some .boolean) :: ((wsX4_gather_r1 ++ (wsX4_gather_r2 ++ wsX4_gather_r3)) ++ wsX40 ++ wsX00 ++ wsX10)
def wsX4_blend_r1 : List Cond := [Cond.fieldLink RX4 29 "CaskBook" "mix" "LCaskBook$Mix;", Cond.fieldLink RX4 117 "CaskBook$Mix" "drops" "I", Cond.fieldLink RX4 118 "CaskBook$Mix" "strengths" "I", Cond.fieldLink RX4 124 "CaskBook$Mix" "age" "I", Cond.fieldLink RX4 126 "CaskBook$Mix" "oaks" "I", Cond.fieldLink RX4 129 "CaskBook$Mix" "smokes" "I", Cond.fieldLink RX4 132 "CaskBook$Mix" "sweets" "I", Cond.fieldLink RX4 135 "CaskBook$Mix" "cost" "I", Cond.fieldLink RX4 22 "CaskBook" "wanted" "LCaskBook$Want;", Cond.methodLink RX4 111 yX4_isSet, Cond.instanceMethod yX4_isSet, Cond.selects RX4 yX4_isSet yX4_isSet, Cond.initialized RX4, Cond.code yX4_isSet cX4_isSet 2 (some .boolean), Cond.fieldLink RX4 40 "CaskBook" "laid" "I", Cond.methodLink RX4 55 yX4_isWithin, Cond.static yX4_isWithin, Cond.code yX4_isWithin cX4_isWithin 3 (some .boolean), Cond.methodLink RX4 114 yX4_gather, Cond.instanceMethod yX4_gather, Cond.selects RX4 yX4_gather yX4_gather, Cond.code yX4_gather cX4_gather 3 (some .boolean), Cond.fieldLink RX4 11 "CaskBook" "casks" "[LCaskBook$Cask;", Cond.fieldLink RX4 80 "CaskBook$Cask" "drops" "I"]
def wsX4_blend_r2 : List Cond := [Cond.fieldLink RX4 44 "CaskBook" "now" "I", Cond.methodLink RX4 208 yX1_start, Cond.instanceMethod yX1_start, Cond.selects RX1 yX1_start yX1_start, Cond.initialized RX1, Cond.code yX1_start cX1_start 1 none, Cond.fieldLink RX1 9 "CaskBook$Mix" "drops" "I", Cond.fieldLink RX1 15 "CaskBook$Mix" "strengths" "I", Cond.fieldLink RX1 18 "CaskBook$Mix" "oaks" "I", Cond.fieldLink RX1 21 "CaskBook$Mix" "smokes" "I", Cond.fieldLink RX1 24 "CaskBook$Mix" "sweets" "I", Cond.fieldLink RX1 27 "CaskBook$Mix" "cost" "I", Cond.fieldLink RX1 30 "CaskBook$Mix" "age" "I", Cond.methodLink RX4 161 yX4_holds, Cond.static yX4_holds, Cond.code yX4_holds cX4_holds 2 (some .boolean), Cond.methodLink RX4 211 yX1_add, Cond.instanceMethod yX1_add, Cond.selects RX1 yX1_add yX1_add, Cond.code yX1_add cX1_add 3 none, Cond.fieldLink RX1 33 "CaskBook$Cask" "drops" "I", Cond.fieldLink RX1 36 "CaskBook$Cask" "strength" "I", Cond.fieldLink RX1 39 "CaskBook$Cask" "oak" "I", Cond.fieldLink RX1 42 "CaskBook$Cask" "smoke" "I"]
def wsX4_blend_r3 : List Cond := [Cond.fieldLink RX1 45 "CaskBook$Cask" "sweet" "I", Cond.methodLink RX1 53 Lib.Math.min.name, Cond.static Lib.Math.min.name, Cond.initialized "java/lang/Math", Cond.code Lib.Math.min.name Lib.Math.min.code 2 (some .int), Cond.methodLink RX1 48 yX0_cost, Cond.instanceMethod yX0_cost, Cond.selects RX0 yX0_cost yX0_cost, Cond.initialized RX0, Cond.code yX0_cost cX0_cost 2 (some .int), Cond.fieldLink RX0 15 "CaskBook$Cask" "drops" "I", Cond.methodLink RX0 30 yX0_age, Cond.instanceMethod yX0_age, Cond.selects RX0 yX0_age yX0_age, Cond.code yX0_age cX0_age 2 (some .int), Cond.fieldLink RX0 27 "CaskBook$Cask" "laidIn" "I", Cond.static yX4_dividedUp, Cond.code yX4_dividedUp cX4_dividedUp 2 (some .int), Cond.methodLink RX1 51 yX0_age, Cond.methodLink RX4 121 yX1_evenly, Cond.instanceMethod yX1_evenly, Cond.selects RX1 yX1_evenly yX1_evenly, Cond.code yX1_evenly cX1_evenly 2 (some .int), Cond.methodLink RX4 137 yX3_isMetBy]
def wsX4_blend_r4 : List Cond := [Cond.instanceMethod yX3_isMetBy, Cond.selects RX3 yX3_isMetBy yX3_isMetBy, Cond.initialized RX3, Cond.code yX3_isMetBy cX3_isMetBy 2 (some .boolean), Cond.fieldLink RX3 22 "CaskBook$Mix" "drops" "I", Cond.fieldLink RX3 9 "CaskBook$Want" "limits" "[I", Cond.fieldLink RX3 29 "CaskBook$Mix" "oaks" "I", Cond.fieldLink RX3 40 "CaskBook$Mix" "smokes" "I", Cond.fieldLink RX3 43 "CaskBook$Mix" "sweets" "I", Cond.methodLink RX3 25 yX3_isOldEnough, Cond.instanceMethod yX3_isOldEnough, Cond.selects RX3 yX3_isOldEnough yX3_isOldEnough, Cond.code yX3_isOldEnough cX3_isOldEnough 2 (some .boolean), Cond.fieldLink RX3 16 "CaskBook$Mix" "age" "I", Cond.methodLink RX3 32 yX1_evenly]
def wsX4_blend : List Cond := .code yX4_blend cX4_blend 3 (some .int) :: ((wsX4_blend_r1 ++ (wsX4_blend_r2 ++ (wsX4_blend_r3 ++ wsX4_blend_r4))) ++ wsX40 ++ wsX10 ++ wsX00 ++ wsX30)
def wsX4_bestSet_r1 : List Cond := [Cond.fieldLink RX4 40 "CaskBook" "laid" "I", Cond.fieldLink RX4 29 "CaskBook" "mix" "LCaskBook$Mix;", Cond.fieldLink RX4 135 "CaskBook$Mix" "cost" "I", Cond.fieldLink RX4 22 "CaskBook" "wanted" "LCaskBook$Want;", Cond.methodLink RX4 114 yX4_gather, Cond.instanceMethod yX4_gather, Cond.selects RX4 yX4_gather yX4_gather, Cond.initialized RX4, Cond.code yX4_gather cX4_gather 3 (some .boolean), Cond.fieldLink RX4 11 "CaskBook" "casks" "[LCaskBook$Cask;", Cond.fieldLink RX4 80 "CaskBook$Cask" "drops" "I", Cond.fieldLink RX4 44 "CaskBook" "now" "I", Cond.fieldLink RX4 117 "CaskBook$Mix" "drops" "I", Cond.methodLink RX4 208 yX1_start, Cond.instanceMethod yX1_start, Cond.selects RX1 yX1_start yX1_start, Cond.initialized RX1, Cond.code yX1_start cX1_start 1 none, Cond.fieldLink RX1 9 "CaskBook$Mix" "drops" "I", Cond.fieldLink RX1 15 "CaskBook$Mix" "strengths" "I", Cond.fieldLink RX1 18 "CaskBook$Mix" "oaks" "I", Cond.fieldLink RX1 21 "CaskBook$Mix" "smokes" "I", Cond.fieldLink RX1 24 "CaskBook$Mix" "sweets" "I", Cond.fieldLink RX1 27 "CaskBook$Mix" "cost" "I"]
def wsX4_bestSet_r2 : List Cond := [Cond.fieldLink RX1 30 "CaskBook$Mix" "age" "I", Cond.methodLink RX4 161 yX4_holds, Cond.static yX4_holds, Cond.code yX4_holds cX4_holds 2 (some .boolean), Cond.methodLink RX4 211 yX1_add, Cond.instanceMethod yX1_add, Cond.selects RX1 yX1_add yX1_add, Cond.code yX1_add cX1_add 3 none, Cond.fieldLink RX1 33 "CaskBook$Cask" "drops" "I", Cond.fieldLink RX1 36 "CaskBook$Cask" "strength" "I", Cond.fieldLink RX1 39 "CaskBook$Cask" "oak" "I", Cond.fieldLink RX1 42 "CaskBook$Cask" "smoke" "I", Cond.fieldLink RX1 45 "CaskBook$Cask" "sweet" "I", Cond.methodLink RX1 53 Lib.Math.min.name, Cond.static Lib.Math.min.name, Cond.initialized "java/lang/Math", Cond.code Lib.Math.min.name Lib.Math.min.code 2 (some .int), Cond.methodLink RX1 48 yX0_cost, Cond.instanceMethod yX0_cost, Cond.selects RX0 yX0_cost yX0_cost, Cond.initialized RX0, Cond.code yX0_cost cX0_cost 2 (some .int), Cond.fieldLink RX0 15 "CaskBook$Cask" "drops" "I", Cond.methodLink RX0 30 yX0_age]
def wsX4_bestSet_r3 : List Cond := [Cond.instanceMethod yX0_age, Cond.selects RX0 yX0_age yX0_age, Cond.code yX0_age cX0_age 2 (some .int), Cond.fieldLink RX0 27 "CaskBook$Cask" "laidIn" "I", Cond.static yX4_dividedUp, Cond.code yX4_dividedUp cX4_dividedUp 2 (some .int), Cond.methodLink RX1 51 yX0_age, Cond.methodLink RX4 215 yX3_isOldEnough, Cond.instanceMethod yX3_isOldEnough, Cond.selects RX3 yX3_isOldEnough yX3_isOldEnough, Cond.initialized RX3, Cond.code yX3_isOldEnough cX3_isOldEnough 2 (some .boolean), Cond.fieldLink RX3 16 "CaskBook$Mix" "age" "I", Cond.fieldLink RX3 9 "CaskBook$Want" "limits" "[I", Cond.methodLink RX4 137 yX3_isMetBy, Cond.instanceMethod yX3_isMetBy, Cond.selects RX3 yX3_isMetBy yX3_isMetBy, Cond.code yX3_isMetBy cX3_isMetBy 2 (some .boolean), Cond.fieldLink RX3 22 "CaskBook$Mix" "drops" "I", Cond.fieldLink RX3 29 "CaskBook$Mix" "oaks" "I", Cond.fieldLink RX3 40 "CaskBook$Mix" "smokes" "I", Cond.fieldLink RX3 43 "CaskBook$Mix" "sweets" "I", Cond.methodLink RX3 25 yX3_isOldEnough, Cond.methodLink RX3 32 yX1_evenly]
def wsX4_bestSet_r4 : List Cond := [Cond.instanceMethod yX1_evenly, Cond.selects RX1 yX1_evenly yX1_evenly, Cond.code yX1_evenly cX1_evenly 2 (some .int), Cond.static yX4_isWithin, Cond.code yX4_isWithin cX4_isWithin 3 (some .boolean)]
def wsX4_bestSet : List Cond := .code yX4_bestSet cX4_bestSet 8 (some .int) :: ((wsX4_bestSet_r1 ++ (wsX4_bestSet_r2 ++ (wsX4_bestSet_r3 ++ wsX4_bestSet_r4))) ++ wsX40 ++ wsX10 ++ wsX00 ++ wsX30)
def wsX4_best_r1 : List Cond := [Cond.fieldLink RX4 29 "CaskBook" "mix" "LCaskBook$Mix;", Cond.fieldLink RX4 135 "CaskBook$Mix" "cost" "I", Cond.methodLink RX4 55 yX4_isWithin, Cond.static yX4_isWithin, Cond.initialized RX4, Cond.code yX4_isWithin cX4_isWithin 3 (some .boolean), Cond.methodLink RX4 141 yX4_bestSet, Cond.instanceMethod yX4_bestSet, Cond.selects RX4 yX4_bestSet yX4_bestSet, Cond.code yX4_bestSet cX4_bestSet 8 (some .int), Cond.fieldLink RX4 40 "CaskBook" "laid" "I", Cond.fieldLink RX4 22 "CaskBook" "wanted" "LCaskBook$Want;", Cond.methodLink RX4 114 yX4_gather, Cond.instanceMethod yX4_gather, Cond.selects RX4 yX4_gather yX4_gather, Cond.code yX4_gather cX4_gather 3 (some .boolean), Cond.fieldLink RX4 11 "CaskBook" "casks" "[LCaskBook$Cask;", Cond.fieldLink RX4 80 "CaskBook$Cask" "drops" "I", Cond.fieldLink RX4 44 "CaskBook" "now" "I", Cond.fieldLink RX4 117 "CaskBook$Mix" "drops" "I", Cond.methodLink RX4 208 yX1_start, Cond.instanceMethod yX1_start, Cond.selects RX1 yX1_start yX1_start, Cond.initialized RX1]
def wsX4_best_r2 : List Cond := [Cond.code yX1_start cX1_start 1 none, Cond.fieldLink RX1 9 "CaskBook$Mix" "drops" "I", Cond.fieldLink RX1 15 "CaskBook$Mix" "strengths" "I", Cond.fieldLink RX1 18 "CaskBook$Mix" "oaks" "I", Cond.fieldLink RX1 21 "CaskBook$Mix" "smokes" "I", Cond.fieldLink RX1 24 "CaskBook$Mix" "sweets" "I", Cond.fieldLink RX1 27 "CaskBook$Mix" "cost" "I", Cond.fieldLink RX1 30 "CaskBook$Mix" "age" "I", Cond.methodLink RX4 161 yX4_holds, Cond.static yX4_holds, Cond.code yX4_holds cX4_holds 2 (some .boolean), Cond.methodLink RX4 211 yX1_add, Cond.instanceMethod yX1_add, Cond.selects RX1 yX1_add yX1_add, Cond.code yX1_add cX1_add 3 none, Cond.fieldLink RX1 33 "CaskBook$Cask" "drops" "I", Cond.fieldLink RX1 36 "CaskBook$Cask" "strength" "I", Cond.fieldLink RX1 39 "CaskBook$Cask" "oak" "I", Cond.fieldLink RX1 42 "CaskBook$Cask" "smoke" "I", Cond.fieldLink RX1 45 "CaskBook$Cask" "sweet" "I", Cond.methodLink RX1 53 Lib.Math.min.name, Cond.static Lib.Math.min.name, Cond.initialized "java/lang/Math", Cond.code Lib.Math.min.name Lib.Math.min.code 2 (some .int)]
def wsX4_best_r3 : List Cond := [Cond.methodLink RX1 48 yX0_cost, Cond.instanceMethod yX0_cost, Cond.selects RX0 yX0_cost yX0_cost, Cond.initialized RX0, Cond.code yX0_cost cX0_cost 2 (some .int), Cond.fieldLink RX0 15 "CaskBook$Cask" "drops" "I", Cond.methodLink RX0 30 yX0_age, Cond.instanceMethod yX0_age, Cond.selects RX0 yX0_age yX0_age, Cond.code yX0_age cX0_age 2 (some .int), Cond.fieldLink RX0 27 "CaskBook$Cask" "laidIn" "I", Cond.static yX4_dividedUp, Cond.code yX4_dividedUp cX4_dividedUp 2 (some .int), Cond.methodLink RX1 51 yX0_age, Cond.methodLink RX4 215 yX3_isOldEnough, Cond.instanceMethod yX3_isOldEnough, Cond.selects RX3 yX3_isOldEnough yX3_isOldEnough, Cond.initialized RX3, Cond.code yX3_isOldEnough cX3_isOldEnough 2 (some .boolean), Cond.fieldLink RX3 16 "CaskBook$Mix" "age" "I", Cond.fieldLink RX3 9 "CaskBook$Want" "limits" "[I", Cond.methodLink RX4 137 yX3_isMetBy, Cond.instanceMethod yX3_isMetBy, Cond.selects RX3 yX3_isMetBy yX3_isMetBy]
def wsX4_best_r4 : List Cond := [Cond.code yX3_isMetBy cX3_isMetBy 2 (some .boolean), Cond.fieldLink RX3 22 "CaskBook$Mix" "drops" "I", Cond.fieldLink RX3 29 "CaskBook$Mix" "oaks" "I", Cond.fieldLink RX3 40 "CaskBook$Mix" "smokes" "I", Cond.fieldLink RX3 43 "CaskBook$Mix" "sweets" "I", Cond.methodLink RX3 25 yX3_isOldEnough, Cond.methodLink RX3 32 yX1_evenly, Cond.instanceMethod yX1_evenly, Cond.selects RX1 yX1_evenly yX1_evenly, Cond.code yX1_evenly cX1_evenly 2 (some .int)]
def wsX4_best : List Cond := .code yX4_best cX4_best 3 (some .int) :: ((wsX4_best_r1 ++ (wsX4_best_r2 ++ (wsX4_best_r3 ++ wsX4_best_r4))) ++ wsX40 ++ wsX10 ++ wsX00 ++ wsX30)
def wsX4_takeAhead : List Cond := .code yX4_takeAhead cX4_takeAhead 7 (some .boolean) :: ([.fieldLink RX4 40 "CaskBook" "laid" "I", .fieldLink RX4 11 "CaskBook" "casks" "[LCaskBook$Cask;", .fieldLink RX4 15 "CaskBook" "ahead" "[I", .methodLink RX4 218 Lib.Math.min.name, .static Lib.Math.min.name, .initialized "java/lang/Math", .code Lib.Math.min.name Lib.Math.min.code 2 (some .int), .methodLink RX4 86 yX0_age, .instanceMethod yX0_age, .selects RX0 yX0_age yX0_age, .initialized RX0, .code yX0_age cX0_age 2 (some .int), .fieldLink RX0 27 "CaskBook$Cask" "laidIn" "I"] ++ wsX40 ++ wsX00)
def wsX4_passYearAhead_r1 : List Cond := [Cond.fieldLink RX4 40 "CaskBook" "laid" "I", Cond.fieldLink RX4 15 "CaskBook" "ahead" "[I", Cond.fieldLink RX4 11 "CaskBook" "casks" "[LCaskBook$Cask;", Cond.methodLink RX4 221 yX0_lossIn, Cond.instanceMethod yX0_lossIn, Cond.selects RX0 yX0_lossIn yX0_lossIn, Cond.initialized RX0, Cond.code yX0_lossIn cX0_lossIn 2 (some .int), Cond.fieldLink RX0 9 "CaskBook$Cask" "kind" "I", Cond.fieldLink RX0 21 "CaskBook$Cask" "floor" "I", Cond.methodLink RX0 30 yX0_age, Cond.instanceMethod yX0_age, Cond.selects RX0 yX0_age yX0_age, Cond.code yX0_age cX0_age 2 (some .int), Cond.fieldLink RX0 27 "CaskBook$Cask" "laidIn" "I", Cond.static yX4_lossBy, Cond.initialized RX4, Cond.code yX4_lossBy cX4_lossBy 5 (some .int), Cond.methodLink RX4 152 Lib.Math.max.name, Cond.static Lib.Math.max.name, Cond.initialized "java/lang/Math", Cond.code Lib.Math.max.name Lib.Math.max.code 2 (some .int), Cond.methodLink RX4 224 yX4_lostOf, Cond.static yX4_lostOf]
def wsX4_passYearAhead_r2 : List Cond := [Cond.code yX4_lostOf cX4_lostOf 2 (some .int), Cond.methodLink RX4 158 yX4_dividedUp, Cond.static yX4_dividedUp, Cond.code yX4_dividedUp cX4_dividedUp 2 (some .int)]
def wsX4_passYearAhead : List Cond := .code yX4_passYearAhead cX4_passYearAhead 3 none :: ((wsX4_passYearAhead_r1 ++ wsX4_passYearAhead_r2) ++ wsX40 ++ wsX00)
def wsX4_lasts_r1 : List Cond := [Cond.fieldLink RX4 40 "CaskBook" "laid" "I", Cond.fieldLink RX4 15 "CaskBook" "ahead" "[I", Cond.fieldLink RX4 11 "CaskBook" "casks" "[LCaskBook$Cask;", Cond.fieldLink RX4 80 "CaskBook$Cask" "drops" "I", Cond.fieldLink RX4 44 "CaskBook" "now" "I", Cond.methodLink RX4 55 yX4_isWithin, Cond.static yX4_isWithin, Cond.initialized RX4, Cond.code yX4_isWithin cX4_isWithin 3 (some .boolean), Cond.methodLink RX4 145 yX4_takeAhead, Cond.instanceMethod yX4_takeAhead, Cond.selects RX4 yX4_takeAhead yX4_takeAhead, Cond.code yX4_takeAhead cX4_takeAhead 7 (some .boolean), Cond.methodLink RX4 218 Lib.Math.min.name, Cond.static Lib.Math.min.name, Cond.initialized "java/lang/Math", Cond.code Lib.Math.min.name Lib.Math.min.code 2 (some .int), Cond.methodLink RX4 86 yX0_age, Cond.instanceMethod yX0_age, Cond.selects RX0 yX0_age yX0_age, Cond.initialized RX0, Cond.code yX0_age cX0_age 2 (some .int), Cond.fieldLink RX0 27 "CaskBook$Cask" "laidIn" "I", Cond.methodLink RX4 148 yX4_passYearAhead]
def wsX4_lasts_r2 : List Cond := [Cond.instanceMethod yX4_passYearAhead, Cond.selects RX4 yX4_passYearAhead yX4_passYearAhead, Cond.code yX4_passYearAhead cX4_passYearAhead 3 none, Cond.methodLink RX4 221 yX0_lossIn, Cond.instanceMethod yX0_lossIn, Cond.selects RX0 yX0_lossIn yX0_lossIn, Cond.code yX0_lossIn cX0_lossIn 2 (some .int), Cond.fieldLink RX0 9 "CaskBook$Cask" "kind" "I", Cond.fieldLink RX0 21 "CaskBook$Cask" "floor" "I", Cond.methodLink RX0 30 yX0_age, Cond.static yX4_lossBy, Cond.code yX4_lossBy cX4_lossBy 5 (some .int), Cond.methodLink RX4 152 Lib.Math.max.name, Cond.static Lib.Math.max.name, Cond.code Lib.Math.max.name Lib.Math.max.code 2 (some .int), Cond.methodLink RX4 224 yX4_lostOf, Cond.static yX4_lostOf, Cond.code yX4_lostOf cX4_lostOf 2 (some .int), Cond.methodLink RX4 158 yX4_dividedUp, Cond.static yX4_dividedUp, Cond.code yX4_dividedUp cX4_dividedUp 2 (some .int)]
def wsX4_lasts : List Cond := .code yX4_lasts cX4_lasts 4 (some .int) :: ((wsX4_lasts_r1 ++ wsX4_lasts_r2) ++ wsX40 ++ wsX00)
def wsX4_cut : List Cond := .code yX4_cut cX4_cut 4 (some .int) :: ([.fieldLink RX4 11 "CaskBook" "casks" "[LCaskBook$Cask;", .fieldLink RX4 83 "CaskBook$Cask" "strength" "I", .methodLink RX4 152 Lib.Math.max.name, .static Lib.Math.max.name, .initialized "java/lang/Math", .code Lib.Math.max.name Lib.Math.max.code 2 (some .int), .fieldLink RX4 80 "CaskBook$Cask" "drops" "I", .methodLink RX4 66 yX4_isCask, .instanceMethod yX4_isCask, .selects RX4 yX4_isCask yX4_isCask, .initialized RX4, .code yX4_isCask cX4_isCask 2 (some .boolean), .fieldLink RX4 40 "CaskBook" "laid" "I", .methodLink RX4 55 yX4_isWithin, .static yX4_isWithin, .code yX4_isWithin cX4_isWithin 3 (some .boolean), .methodLink RX4 158 yX4_dividedUp, .static yX4_dividedUp, .code yX4_dividedUp cX4_dividedUp 2 (some .int)] ++ wsX40 ++ wsX00)
def wsX4_rate : List Cond := .code yX4_rate cX4_rate 3 (some .int) :: ([.fieldLink RX4 47 "CaskBook" "dutyRate" "I", .methodLink RX4 55 yX4_isWithin, .static yX4_isWithin, .initialized RX4, .code yX4_isWithin cX4_isWithin 3 (some .boolean)] ++ wsX40)
def wsX4_duty : List Cond := .code yX4_duty cX4_duty 4 (some .int) :: ([.fieldLink RX4 40 "CaskBook" "laid" "I", .fieldLink RX4 11 "CaskBook" "casks" "[LCaskBook$Cask;", .fieldLink RX4 80 "CaskBook$Cask" "drops" "I", .fieldLink RX4 83 "CaskBook$Cask" "strength" "I", .fieldLink RX4 47 "CaskBook" "dutyRate" "I", .methodLink RX4 111 yX4_isSet, .instanceMethod yX4_isSet, .selects RX4 yX4_isSet yX4_isSet, .initialized RX4, .code yX4_isSet cX4_isSet 2 (some .boolean), .methodLink RX4 55 yX4_isWithin, .static yX4_isWithin, .code yX4_isWithin cX4_isWithin 3 (some .boolean), .methodLink RX4 161 yX4_holds, .static yX4_holds, .code yX4_holds cX4_holds 2 (some .boolean)] ++ wsX40 ++ wsX00)
def wsX4_isTriangle : List Cond := .code yX4_isTriangle cX4_isTriangle 2 (some .boolean) :: ([.methodLink RX4 55 yX4_isWithin, .static yX4_isWithin, .initialized RX4, .code yX4_isWithin cX4_isWithin 3 (some .boolean)])
def wsX4_ways : List Cond := .code yX4_ways cX4_ways 8 (some .long) :: ([.constantLong RX4 227 (2)])
def wsX4_odds : List Cond := .code yX4_odds cX4_odds 3 (some .long) :: ([.constantLong RX4 172 (-1), .methodLink RX4 165 yX4_isTriangle, .static yX4_isTriangle, .initialized RX4, .code yX4_isTriangle cX4_isTriangle 2 (some .boolean), .methodLink RX4 55 yX4_isWithin, .static yX4_isWithin, .code yX4_isWithin cX4_isWithin 3 (some .boolean), .methodLink RX4 168 yX4_ways, .static yX4_ways, .code yX4_ways cX4_ways 8 (some .long), .constantLong RX4 227 (2)])
def wsX4_apart : List Cond := .code yX4_apart cX4_apart 3 (some .int) :: ([.constantLong RX4 174 (20), .methodLink RX4 165 yX4_isTriangle, .static yX4_isTriangle, .initialized RX4, .code yX4_isTriangle cX4_isTriangle 2 (some .boolean), .methodLink RX4 55 yX4_isWithin, .static yX4_isWithin, .code yX4_isWithin cX4_isWithin 3 (some .boolean), .methodLink RX4 168 yX4_ways, .static yX4_ways, .code yX4_ways cX4_ways 8 (some .long), .constantLong RX4 227 (2)])
def wsX4_isNose : List Cond := .code yX4_isNose cX4_isNose 1 (some .boolean) :: ([.methodLink RX4 55 yX4_isWithin, .static yX4_isWithin, .initialized RX4, .code yX4_isWithin cX4_isWithin 3 (some .boolean)])
def wsX4_read_r1 : List Cond := [Cond.fieldLink RX4 36 "CaskBook" "scale" "LCaskBook$Scale;", Cond.fieldLink RX4 179 "CaskBook$Scale" "readings" "I", Cond.methodLink RX4 176 yX4_isNose, Cond.static yX4_isNose, Cond.initialized RX4, Cond.code yX4_isNose cX4_isNose 1 (some .boolean), Cond.methodLink RX4 55 yX4_isWithin, Cond.static yX4_isWithin, Cond.code yX4_isWithin cX4_isWithin 3 (some .boolean), Cond.methodLink RX4 182 yX2_take, Cond.instanceMethod yX2_take, Cond.selects RX2 yX2_take yX2_take, Cond.initialized RX2, Cond.code yX2_take cX2_take 4 none, Cond.fieldLink RX2 25 "CaskBook$Scale" "contradiction" "I", Cond.fieldLink RX2 21 "CaskBook$Scale" "readings" "I", Cond.methodLink RX2 28 yX2_fit, Cond.instanceMethod yX2_fit, Cond.selects RX2 yX2_fit yX2_fit, Cond.code yX2_fit cX2_fit 5 none, Cond.fieldLink RX2 15 "CaskBook$Scale" "height" "[I", Cond.fieldLink RX2 9 "CaskBook$Scale" "group" "[I", Cond.methodLink RX2 32 yX2_ties, Cond.instanceMethod yX2_ties]
def wsX4_read_r2 : List Cond := [Cond.selects RX2 yX2_ties yX2_ties, Cond.code yX2_ties cX2_ties 3 (some .boolean), Cond.methodLink RX2 36 yX2_join, Cond.instanceMethod yX2_join, Cond.selects RX2 yX2_join yX2_join, Cond.code yX2_join cX2_join 5 none]
def wsX4_read : List Cond := .code yX4_read cX4_read 4 (some .int) :: ((wsX4_read_r1 ++ wsX4_read_r2) ++ wsX40 ++ wsX20)
def wsX4_clear : List Cond := .code yX4_clear cX4_clear 2 (some .int) :: ([.fieldLink RX4 36 "CaskBook" "scale" "LCaskBook$Scale;", .fieldLink RX4 179 "CaskBook$Scale" "readings" "I", .methodLink RX4 186 yX2_reset, .instanceMethod yX2_reset, .selects RX2 yX2_reset yX2_reset, .initialized RX2, .code yX2_reset cX2_reset 2 none, .fieldLink RX2 9 "CaskBook$Scale" "group" "[I", .fieldLink RX2 15 "CaskBook$Scale" "height" "[I", .fieldLink RX2 21 "CaskBook$Scale" "readings" "I", .fieldLink RX2 25 "CaskBook$Scale" "contradiction" "I"] ++ wsX40 ++ wsX20)
def wsX4_contradicts : List Cond := .code yX4_contradicts cX4_contradicts 1 (some .int) :: ([.fieldLink RX4 36 "CaskBook" "scale" "LCaskBook$Scale;", .fieldLink RX4 189 "CaskBook$Scale" "contradiction" "I"] ++ wsX40 ++ wsX20)
def wsX4_hang : List Cond := .code yX4_hang cX4_hang 5 (some .int) :: ([.constant RX4 192 (-1000001), .fieldLink RX4 36 "CaskBook" "scale" "LCaskBook$Scale;", .fieldLink RX4 196 "CaskBook$Scale" "height" "[I", .constant RX4 199 (-1000000), .methodLink RX4 176 yX4_isNose, .static yX4_isNose, .initialized RX4, .code yX4_isNose cX4_isNose 1 (some .boolean), .methodLink RX4 55 yX4_isWithin, .static yX4_isWithin, .code yX4_isWithin cX4_isWithin 3 (some .boolean), .methodLink RX4 193 yX2_ties, .instanceMethod yX2_ties, .selects RX2 yX2_ties yX2_ties, .initialized RX2, .code yX2_ties cX2_ties 3 (some .boolean), .fieldLink RX2 9 "CaskBook$Scale" "group" "[I"] ++ wsX40 ++ wsX20)
def wsX4_notEmpty : List Cond := .code yX4_notEmpty cX4_notEmpty 3 (some .int) :: ([.fieldLink RX4 40 "CaskBook" "laid" "I", .fieldLink RX4 11 "CaskBook" "casks" "[LCaskBook$Cask;", .fieldLink RX4 80 "CaskBook$Cask" "drops" "I"] ++ wsX40 ++ wsX00)
def wsX4_allDrops : List Cond := .code yX4_allDrops cX4_allDrops 3 (some .int) :: ([.fieldLink RX4 40 "CaskBook" "laid" "I", .fieldLink RX4 11 "CaskBook" "casks" "[LCaskBook$Cask;", .fieldLink RX4 80 "CaskBook$Cask" "drops" "I"] ++ wsX40 ++ wsX00)
def wsX4_count : List Cond := .code yX4_count cX4_count 2 (some .int) :: ([.fieldLink RX4 44 "CaskBook" "now" "I", .fieldLink RX4 40 "CaskBook" "laid" "I", .fieldLink RX4 36 "CaskBook" "scale" "LCaskBook$Scale;", .fieldLink RX4 179 "CaskBook$Scale" "readings" "I", .fieldLink RX4 47 "CaskBook" "dutyRate" "I", .methodLink RX4 200 yX4_notEmpty, .instanceMethod yX4_notEmpty, .selects RX4 yX4_notEmpty yX4_notEmpty, .initialized RX4, .code yX4_notEmpty cX4_notEmpty 3 (some .int), .fieldLink RX4 11 "CaskBook" "casks" "[LCaskBook$Cask;", .fieldLink RX4 80 "CaskBook$Cask" "drops" "I", .methodLink RX4 203 yX4_allDrops, .instanceMethod yX4_allDrops, .selects RX4 yX4_allDrops yX4_allDrops, .code yX4_allDrops cX4_allDrops 3 (some .int)] ++ wsX40 ++ wsX20 ++ wsX00)
def wsX4_trace : List Cond := .code yX4_trace cX4_trace 1 (some .long) :: ([.fieldLink RX4 50 "CaskBook" "traced" "J"] ++ wsX40)
def wsX5_init : List Cond := .code yX5_init cX5_init 1 none :: ([.methodLink RX5 1 objectInit, .instanceMethod objectInit, .code objectInit ⟨#[0xb1]⟩ 1 none, .arrayClass .int, .fieldLink RX5 7 "CaskBookModel" "kind" "[I", .fieldLink RX5 13 "CaskBookModel" "drops" "[I", .fieldLink RX5 16 "CaskBookModel" "strength" "[I", .fieldLink RX5 19 "CaskBookModel" "floor" "[I", .fieldLink RX5 22 "CaskBookModel" "laid" "[I", .fieldLink RX5 25 "CaskBookModel" "oak" "[I", .fieldLink RX5 28 "CaskBookModel" "smoke" "[I", .fieldLink RX5 31 "CaskBookModel" "sweet" "[I", .fieldLink RX5 34 "CaskBookModel" "want" "[I", .fieldLink RX5 37 "CaskBookModel" "rate" "I", .fieldLink RX5 41 "CaskBookModel" "nose" "[I", .fieldLink RX5 44 "CaskBookModel" "sample" "[I", .fieldLink RX5 47 "CaskBookModel" "told" "[I", .fieldLink RX5 50 "CaskBookModel" "stock" "[I", .arrayClass .boolean, .fieldLink RX5 53 "CaskBookModel" "isMet" "[Z", .fieldLink RX5 57 "CaskBookModel" "value" "[I", .fieldLink RX5 60 "CaskBookModel" "now" "I"] ++ wsX50)
def wsX5_in : List Cond := .code yX5_in cX5_in 3 (some .boolean) :: ([])
def wsX5_isCask : List Cond := .code yX5_isCask cX5_isCask 2 (some .boolean) :: ([.fieldLink RX5 63 "CaskBookModel" "casks" "I", .methodLink RX5 66 yX5_in, .static yX5_in, .initialized RX5, .code yX5_in cX5_in 3 (some .boolean)] ++ wsX50)
def wsX5_lay : List Cond := .code yX5_lay cX5_lay 6 (some .int) :: ([.fieldLink RX5 63 "CaskBookModel" "casks" "I", .fieldLink RX5 7 "CaskBookModel" "kind" "[I", .fieldLink RX5 13 "CaskBookModel" "drops" "[I", .fieldLink RX5 16 "CaskBookModel" "strength" "[I", .fieldLink RX5 19 "CaskBookModel" "floor" "[I", .fieldLink RX5 22 "CaskBookModel" "laid" "[I", .fieldLink RX5 60 "CaskBookModel" "now" "I", .fieldLink RX5 25 "CaskBookModel" "oak" "[I", .fieldLink RX5 28 "CaskBookModel" "smoke" "[I", .fieldLink RX5 31 "CaskBookModel" "sweet" "[I", .methodLink RX5 66 yX5_in, .static yX5_in, .initialized RX5, .code yX5_in cX5_in 3 (some .boolean)] ++ wsX50)
def wsX5_lossOf : List Cond := .code yX5_lossOf cX5_lossOf 5 (some .int) :: ([.fieldLink RX5 19 "CaskBookModel" "floor" "[I"] ++ wsX50)
def wsX5_lostOf : List Cond := .code yX5_lostOf cX5_lostOf 2 (some .int) :: ([])
def wsX5_oneYear : List Cond := .code yX5_oneYear cX5_oneYear 3 none :: ([.fieldLink RX5 63 "CaskBookModel" "casks" "I", .fieldLink RX5 13 "CaskBookModel" "drops" "[I", .fieldLink RX5 7 "CaskBookModel" "kind" "[I", .fieldLink RX5 60 "CaskBookModel" "now" "I", .fieldLink RX5 22 "CaskBookModel" "laid" "[I", .fieldLink RX5 25 "CaskBookModel" "oak" "[I", .fieldLink RX5 28 "CaskBookModel" "smoke" "[I", .fieldLink RX5 31 "CaskBookModel" "sweet" "[I", .fieldLink RX5 16 "CaskBookModel" "strength" "[I", .methodLink RX5 70 yX5_lossOf, .instanceMethod yX5_lossOf, .selects RX5 yX5_lossOf yX5_lossOf, .initialized RX5, .code yX5_lossOf cX5_lossOf 5 (some .int), .fieldLink RX5 19 "CaskBookModel" "floor" "[I", .methodLink RX5 74 yX5_lostOf, .static yX5_lostOf, .code yX5_lostOf cX5_lostOf 2 (some .int)] ++ wsX50)
def wsX5_years_r1 : List Cond := [Cond.fieldLink RX5 60 "CaskBookModel" "now" "I", Cond.methodLink RX5 66 yX5_in, Cond.static yX5_in, Cond.initialized RX5, Cond.code yX5_in cX5_in 3 (some .boolean), Cond.methodLink RX5 78 yX5_oneYear, Cond.instanceMethod yX5_oneYear, Cond.selects RX5 yX5_oneYear yX5_oneYear, Cond.code yX5_oneYear cX5_oneYear 3 none, Cond.fieldLink RX5 63 "CaskBookModel" "casks" "I", Cond.fieldLink RX5 13 "CaskBookModel" "drops" "[I", Cond.fieldLink RX5 7 "CaskBookModel" "kind" "[I", Cond.fieldLink RX5 22 "CaskBookModel" "laid" "[I", Cond.fieldLink RX5 25 "CaskBookModel" "oak" "[I", Cond.fieldLink RX5 28 "CaskBookModel" "smoke" "[I", Cond.fieldLink RX5 31 "CaskBookModel" "sweet" "[I", Cond.fieldLink RX5 16 "CaskBookModel" "strength" "[I", Cond.methodLink RX5 70 yX5_lossOf, Cond.instanceMethod yX5_lossOf, Cond.selects RX5 yX5_lossOf yX5_lossOf, Cond.code yX5_lossOf cX5_lossOf 5 (some .int), Cond.fieldLink RX5 19 "CaskBookModel" "floor" "[I", Cond.methodLink RX5 74 yX5_lostOf, Cond.static yX5_lostOf]
def wsX5_years_r2 : List Cond := [Cond.code yX5_lostOf cX5_lostOf 2 (some .int)]
def wsX5_years : List Cond := .code yX5_years cX5_years 3 (some .int) :: ((wsX5_years_r1 ++ wsX5_years_r2) ++ wsX50)
def wsX5_loss : List Cond := .code yX5_loss cX5_loss 4 (some .int) :: ([.fieldLink RX5 85 "CaskBookModel" "trace" "J", .constantLong RX5 89 (11), .constantLong RX5 91 (111), .methodLink RX5 81 yX5_isCask, .instanceMethod yX5_isCask, .selects RX5 yX5_isCask yX5_isCask, .initialized RX5, .code yX5_isCask cX5_isCask 2 (some .boolean), .fieldLink RX5 63 "CaskBookModel" "casks" "I", .methodLink RX5 66 yX5_in, .static yX5_in, .code yX5_in cX5_in 3 (some .boolean), .methodLink RX5 70 yX5_lossOf, .instanceMethod yX5_lossOf, .selects RX5 yX5_lossOf yX5_lossOf, .code yX5_lossOf cX5_lossOf 5 (some .int), .fieldLink RX5 19 "CaskBookModel" "floor" "[I"] ++ wsX50)
def wsX5_ageOf : List Cond := .code yX5_ageOf cX5_ageOf 2 (some .int) :: ([.fieldLink RX5 60 "CaskBookModel" "now" "I", .fieldLink RX5 22 "CaskBookModel" "laid" "[I"] ++ wsX50)
def wsX5_costOf : List Cond := .code yX5_costOf cX5_costOf 2 (some .int) :: ([.fieldLink RX5 13 "CaskBookModel" "drops" "[I", .methodLink RX5 93 yX5_ageOf, .instanceMethod yX5_ageOf, .selects RX5 yX5_ageOf yX5_ageOf, .initialized RX5, .code yX5_ageOf cX5_ageOf 2 (some .int), .fieldLink RX5 60 "CaskBookModel" "now" "I", .fieldLink RX5 22 "CaskBookModel" "laid" "[I"] ++ wsX50)
def wsX5_about_r1 : List Cond := [Cond.fieldLink RX5 13 "CaskBookModel" "drops" "[I", Cond.fieldLink RX5 16 "CaskBookModel" "strength" "[I", Cond.fieldLink RX5 25 "CaskBookModel" "oak" "[I", Cond.fieldLink RX5 28 "CaskBookModel" "smoke" "[I", Cond.fieldLink RX5 31 "CaskBookModel" "sweet" "[I", Cond.fieldLink RX5 7 "CaskBookModel" "kind" "[I", Cond.fieldLink RX5 19 "CaskBookModel" "floor" "[I", Cond.methodLink RX5 81 yX5_isCask, Cond.instanceMethod yX5_isCask, Cond.selects RX5 yX5_isCask yX5_isCask, Cond.initialized RX5, Cond.code yX5_isCask cX5_isCask 2 (some .boolean), Cond.fieldLink RX5 63 "CaskBookModel" "casks" "I", Cond.methodLink RX5 66 yX5_in, Cond.static yX5_in, Cond.code yX5_in cX5_in 3 (some .boolean), Cond.methodLink RX5 93 yX5_ageOf, Cond.instanceMethod yX5_ageOf, Cond.selects RX5 yX5_ageOf yX5_ageOf, Cond.code yX5_ageOf cX5_ageOf 2 (some .int), Cond.fieldLink RX5 60 "CaskBookModel" "now" "I", Cond.fieldLink RX5 22 "CaskBookModel" "laid" "[I", Cond.methodLink RX5 97 yX5_costOf, Cond.instanceMethod yX5_costOf]
def wsX5_about_r2 : List Cond := [Cond.selects RX5 yX5_costOf yX5_costOf, Cond.code yX5_costOf cX5_costOf 2 (some .int)]
def wsX5_about : List Cond := .code yX5_about cX5_about 3 (some .int) :: ((wsX5_about_r1 ++ wsX5_about_r2) ++ wsX50)
def wsX5_move : List Cond := .code yX5_move cX5_move 4 (some .int) :: ([.fieldLink RX5 19 "CaskBookModel" "floor" "[I", .methodLink RX5 81 yX5_isCask, .instanceMethod yX5_isCask, .selects RX5 yX5_isCask yX5_isCask, .initialized RX5, .code yX5_isCask cX5_isCask 2 (some .boolean), .fieldLink RX5 63 "CaskBookModel" "casks" "I", .methodLink RX5 66 yX5_in, .static yX5_in, .code yX5_in cX5_in 3 (some .boolean)] ++ wsX50)
def wsX5_draw : List Cond := .code yX5_draw cX5_draw 3 (some .int) :: ([.fieldLink RX5 13 "CaskBookModel" "drops" "[I", .methodLink RX5 81 yX5_isCask, .instanceMethod yX5_isCask, .selects RX5 yX5_isCask yX5_isCask, .initialized RX5, .code yX5_isCask cX5_isCask 2 (some .boolean), .fieldLink RX5 63 "CaskBookModel" "casks" "I", .methodLink RX5 66 yX5_in, .static yX5_in, .code yX5_in cX5_in 3 (some .boolean)] ++ wsX50)
def wsX5_want : List Cond := .code yX5_want cX5_want 5 (some .int) :: ([.constant RX5 100 (99999), .fieldLink RX5 34 "CaskBookModel" "want" "[I", .methodLink RX5 66 yX5_in, .static yX5_in, .initialized RX5, .code yX5_in cX5_in 3 (some .boolean)] ++ wsX50)
def wsX5_has : List Cond := .code yX5_has cX5_has 2 (some .boolean) :: ([])
def wsX5_isBlend : List Cond := .code yX5_isBlend cX5_isBlend 4 (some .boolean) :: ([.fieldLink RX5 63 "CaskBookModel" "casks" "I", .fieldLink RX5 13 "CaskBookModel" "drops" "[I", .methodLink RX5 66 yX5_in, .static yX5_in, .initialized RX5, .code yX5_in cX5_in 3 (some .boolean), .methodLink RX5 101 yX5_has, .static yX5_has, .code yX5_has cX5_has 2 (some .boolean)] ++ wsX50)
def wsX5_dropsOf : List Cond := .code yX5_dropsOf cX5_dropsOf 4 (some .int) :: ([.fieldLink RX5 63 "CaskBookModel" "casks" "I", .fieldLink RX5 13 "CaskBookModel" "drops" "[I", .methodLink RX5 101 yX5_has, .static yX5_has, .initialized RX5, .code yX5_has cX5_has 2 (some .boolean)] ++ wsX50)
def wsX5_partOf : List Cond := .code yX5_partOf cX5_partOf 7 (some .int) :: ([.fieldLink RX5 63 "CaskBookModel" "casks" "I", .fieldLink RX5 25 "CaskBookModel" "oak" "[I", .fieldLink RX5 28 "CaskBookModel" "smoke" "[I", .fieldLink RX5 31 "CaskBookModel" "sweet" "[I", .fieldLink RX5 16 "CaskBookModel" "strength" "[I", .fieldLink RX5 13 "CaskBookModel" "drops" "[I", .methodLink RX5 101 yX5_has, .static yX5_has, .initialized RX5, .code yX5_has cX5_has 2 (some .boolean), .methodLink RX5 105 yX5_dropsOf, .instanceMethod yX5_dropsOf, .selects RX5 yX5_dropsOf yX5_dropsOf, .code yX5_dropsOf cX5_dropsOf 4 (some .int)] ++ wsX50)
def wsX5_youngest : List Cond := .code yX5_youngest cX5_youngest 4 (some .int) :: ([.fieldLink RX5 63 "CaskBookModel" "casks" "I", .methodLink RX5 101 yX5_has, .static yX5_has, .initialized RX5, .code yX5_has cX5_has 2 (some .boolean), .methodLink RX5 93 yX5_ageOf, .instanceMethod yX5_ageOf, .selects RX5 yX5_ageOf yX5_ageOf, .code yX5_ageOf cX5_ageOf 2 (some .int), .fieldLink RX5 60 "CaskBookModel" "now" "I", .fieldLink RX5 22 "CaskBookModel" "laid" "[I"] ++ wsX50)
def wsX5_costs : List Cond := .code yX5_costs cX5_costs 4 (some .int) :: ([.fieldLink RX5 63 "CaskBookModel" "casks" "I", .methodLink RX5 101 yX5_has, .static yX5_has, .initialized RX5, .code yX5_has cX5_has 2 (some .boolean), .methodLink RX5 97 yX5_costOf, .instanceMethod yX5_costOf, .selects RX5 yX5_costOf yX5_costOf, .code yX5_costOf cX5_costOf 2 (some .int), .fieldLink RX5 13 "CaskBookModel" "drops" "[I", .methodLink RX5 93 yX5_ageOf, .instanceMethod yX5_ageOf, .selects RX5 yX5_ageOf yX5_ageOf, .code yX5_ageOf cX5_ageOf 2 (some .int), .fieldLink RX5 60 "CaskBookModel" "now" "I", .fieldLink RX5 22 "CaskBookModel" "laid" "[I"] ++ wsX50)
def wsX5_isRight_r1 : List Cond := [Cond.fieldLink RX5 34 "CaskBookModel" "want" "[I", Cond.methodLink RX5 105 yX5_dropsOf, Cond.instanceMethod yX5_dropsOf, Cond.selects RX5 yX5_dropsOf yX5_dropsOf, Cond.initialized RX5, Cond.code yX5_dropsOf cX5_dropsOf 4 (some .int), Cond.fieldLink RX5 63 "CaskBookModel" "casks" "I", Cond.fieldLink RX5 13 "CaskBookModel" "drops" "[I", Cond.methodLink RX5 101 yX5_has, Cond.static yX5_has, Cond.code yX5_has cX5_has 2 (some .boolean), Cond.methodLink RX5 108 yX5_youngest, Cond.instanceMethod yX5_youngest, Cond.selects RX5 yX5_youngest yX5_youngest, Cond.code yX5_youngest cX5_youngest 4 (some .int), Cond.methodLink RX5 93 yX5_ageOf, Cond.instanceMethod yX5_ageOf, Cond.selects RX5 yX5_ageOf yX5_ageOf, Cond.code yX5_ageOf cX5_ageOf 2 (some .int), Cond.fieldLink RX5 60 "CaskBookModel" "now" "I", Cond.fieldLink RX5 22 "CaskBookModel" "laid" "[I", Cond.methodLink RX5 111 yX5_partOf, Cond.instanceMethod yX5_partOf, Cond.selects RX5 yX5_partOf yX5_partOf]
def wsX5_isRight_r2 : List Cond := [Cond.code yX5_partOf cX5_partOf 7 (some .int), Cond.fieldLink RX5 25 "CaskBookModel" "oak" "[I", Cond.fieldLink RX5 28 "CaskBookModel" "smoke" "[I", Cond.fieldLink RX5 31 "CaskBookModel" "sweet" "[I", Cond.fieldLink RX5 16 "CaskBookModel" "strength" "[I", Cond.methodLink RX5 66 yX5_in, Cond.static yX5_in, Cond.code yX5_in cX5_in 3 (some .boolean)]
def wsX5_isRight : List Cond := .code yX5_isRight cX5_isRight 4 (some .boolean) :: ((wsX5_isRight_r1 ++ wsX5_isRight_r2) ++ wsX50)
def wsX5_blend_r1 : List Cond := [Cond.methodLink RX5 114 yX5_isBlend, Cond.instanceMethod yX5_isBlend, Cond.selects RX5 yX5_isBlend yX5_isBlend, Cond.initialized RX5, Cond.code yX5_isBlend cX5_isBlend 4 (some .boolean), Cond.fieldLink RX5 63 "CaskBookModel" "casks" "I", Cond.fieldLink RX5 13 "CaskBookModel" "drops" "[I", Cond.methodLink RX5 66 yX5_in, Cond.static yX5_in, Cond.code yX5_in cX5_in 3 (some .boolean), Cond.methodLink RX5 101 yX5_has, Cond.static yX5_has, Cond.code yX5_has cX5_has 2 (some .boolean), Cond.methodLink RX5 105 yX5_dropsOf, Cond.instanceMethod yX5_dropsOf, Cond.selects RX5 yX5_dropsOf yX5_dropsOf, Cond.code yX5_dropsOf cX5_dropsOf 4 (some .int), Cond.methodLink RX5 111 yX5_partOf, Cond.instanceMethod yX5_partOf, Cond.selects RX5 yX5_partOf yX5_partOf, Cond.code yX5_partOf cX5_partOf 7 (some .int), Cond.fieldLink RX5 25 "CaskBookModel" "oak" "[I", Cond.fieldLink RX5 28 "CaskBookModel" "smoke" "[I", Cond.fieldLink RX5 31 "CaskBookModel" "sweet" "[I"]
def wsX5_blend_r2 : List Cond := [Cond.fieldLink RX5 16 "CaskBookModel" "strength" "[I", Cond.methodLink RX5 108 yX5_youngest, Cond.instanceMethod yX5_youngest, Cond.selects RX5 yX5_youngest yX5_youngest, Cond.code yX5_youngest cX5_youngest 4 (some .int), Cond.methodLink RX5 93 yX5_ageOf, Cond.instanceMethod yX5_ageOf, Cond.selects RX5 yX5_ageOf yX5_ageOf, Cond.code yX5_ageOf cX5_ageOf 2 (some .int), Cond.fieldLink RX5 60 "CaskBookModel" "now" "I", Cond.fieldLink RX5 22 "CaskBookModel" "laid" "[I", Cond.methodLink RX5 117 yX5_costs, Cond.instanceMethod yX5_costs, Cond.selects RX5 yX5_costs yX5_costs, Cond.code yX5_costs cX5_costs 4 (some .int), Cond.methodLink RX5 97 yX5_costOf, Cond.instanceMethod yX5_costOf, Cond.selects RX5 yX5_costOf yX5_costOf, Cond.code yX5_costOf cX5_costOf 2 (some .int), Cond.methodLink RX5 120 yX5_isRight, Cond.instanceMethod yX5_isRight, Cond.selects RX5 yX5_isRight yX5_isRight, Cond.code yX5_isRight cX5_isRight 4 (some .boolean), Cond.fieldLink RX5 34 "CaskBookModel" "want" "[I"]
def wsX5_blend : List Cond := .code yX5_blend cX5_blend 3 (some .int) :: ((wsX5_blend_r1 ++ wsX5_blend_r2) ++ wsX50)
def wsX5_best_r1 : List Cond := [Cond.fieldLink RX5 63 "CaskBookModel" "casks" "I", Cond.methodLink RX5 66 yX5_in, Cond.static yX5_in, Cond.initialized RX5, Cond.code yX5_in cX5_in 3 (some .boolean), Cond.methodLink RX5 114 yX5_isBlend, Cond.instanceMethod yX5_isBlend, Cond.selects RX5 yX5_isBlend yX5_isBlend, Cond.code yX5_isBlend cX5_isBlend 4 (some .boolean), Cond.fieldLink RX5 13 "CaskBookModel" "drops" "[I", Cond.methodLink RX5 101 yX5_has, Cond.static yX5_has, Cond.code yX5_has cX5_has 2 (some .boolean), Cond.methodLink RX5 117 yX5_costs, Cond.instanceMethod yX5_costs, Cond.selects RX5 yX5_costs yX5_costs, Cond.code yX5_costs cX5_costs 4 (some .int), Cond.methodLink RX5 97 yX5_costOf, Cond.instanceMethod yX5_costOf, Cond.selects RX5 yX5_costOf yX5_costOf, Cond.code yX5_costOf cX5_costOf 2 (some .int), Cond.methodLink RX5 93 yX5_ageOf, Cond.instanceMethod yX5_ageOf, Cond.selects RX5 yX5_ageOf yX5_ageOf]
def wsX5_best_r2 : List Cond := [Cond.code yX5_ageOf cX5_ageOf 2 (some .int), Cond.fieldLink RX5 60 "CaskBookModel" "now" "I", Cond.fieldLink RX5 22 "CaskBookModel" "laid" "[I", Cond.methodLink RX5 120 yX5_isRight, Cond.instanceMethod yX5_isRight, Cond.selects RX5 yX5_isRight yX5_isRight, Cond.code yX5_isRight cX5_isRight 4 (some .boolean), Cond.fieldLink RX5 34 "CaskBookModel" "want" "[I", Cond.methodLink RX5 105 yX5_dropsOf, Cond.instanceMethod yX5_dropsOf, Cond.selects RX5 yX5_dropsOf yX5_dropsOf, Cond.code yX5_dropsOf cX5_dropsOf 4 (some .int), Cond.methodLink RX5 108 yX5_youngest, Cond.instanceMethod yX5_youngest, Cond.selects RX5 yX5_youngest yX5_youngest, Cond.code yX5_youngest cX5_youngest 4 (some .int), Cond.methodLink RX5 111 yX5_partOf, Cond.instanceMethod yX5_partOf, Cond.selects RX5 yX5_partOf yX5_partOf, Cond.code yX5_partOf cX5_partOf 7 (some .int), Cond.fieldLink RX5 25 "CaskBookModel" "oak" "[I", Cond.fieldLink RX5 28 "CaskBookModel" "smoke" "[I", Cond.fieldLink RX5 31 "CaskBookModel" "sweet" "[I", Cond.fieldLink RX5 16 "CaskBookModel" "strength" "[I"]
def wsX5_best : List Cond := .code yX5_best cX5_best 6 (some .int) :: ((wsX5_best_r1 ++ wsX5_best_r2) ++ wsX50)
def wsX5_lasts : List Cond := .code yX5_lasts cX5_lasts 9 (some .int) :: ([.fieldLink RX5 63 "CaskBookModel" "casks" "I", .fieldLink RX5 50 "CaskBookModel" "stock" "[I", .fieldLink RX5 13 "CaskBookModel" "drops" "[I", .fieldLink RX5 22 "CaskBookModel" "laid" "[I", .fieldLink RX5 7 "CaskBookModel" "kind" "[I", .methodLink RX5 66 yX5_in, .static yX5_in, .initialized RX5, .code yX5_in cX5_in 3 (some .boolean), .methodLink RX5 93 yX5_ageOf, .instanceMethod yX5_ageOf, .selects RX5 yX5_ageOf yX5_ageOf, .code yX5_ageOf cX5_ageOf 2 (some .int), .fieldLink RX5 60 "CaskBookModel" "now" "I", .methodLink RX5 70 yX5_lossOf, .instanceMethod yX5_lossOf, .selects RX5 yX5_lossOf yX5_lossOf, .code yX5_lossOf cX5_lossOf 5 (some .int), .fieldLink RX5 19 "CaskBookModel" "floor" "[I", .methodLink RX5 74 yX5_lostOf, .static yX5_lostOf, .code yX5_lostOf cX5_lostOf 2 (some .int)] ++ wsX50)
def wsX5_cut : List Cond := .code yX5_cut cX5_cut 4 (some .int) :: ([.fieldLink RX5 16 "CaskBookModel" "strength" "[I", .fieldLink RX5 13 "CaskBookModel" "drops" "[I", .methodLink RX5 81 yX5_isCask, .instanceMethod yX5_isCask, .selects RX5 yX5_isCask yX5_isCask, .initialized RX5, .code yX5_isCask cX5_isCask 2 (some .boolean), .fieldLink RX5 63 "CaskBookModel" "casks" "I", .methodLink RX5 66 yX5_in, .static yX5_in, .code yX5_in cX5_in 3 (some .boolean)] ++ wsX50)
def wsX5_rate : List Cond := .code yX5_rate cX5_rate 3 (some .int) :: ([.fieldLink RX5 37 "CaskBookModel" "rate" "I", .methodLink RX5 66 yX5_in, .static yX5_in, .initialized RX5, .code yX5_in cX5_in 3 (some .boolean)] ++ wsX50)
def wsX5_duty : List Cond := .code yX5_duty cX5_duty 4 (some .int) :: ([.fieldLink RX5 63 "CaskBookModel" "casks" "I", .fieldLink RX5 13 "CaskBookModel" "drops" "[I", .fieldLink RX5 16 "CaskBookModel" "strength" "[I", .fieldLink RX5 37 "CaskBookModel" "rate" "I", .methodLink RX5 66 yX5_in, .static yX5_in, .initialized RX5, .code yX5_in cX5_in 3 (some .boolean), .methodLink RX5 101 yX5_has, .static yX5_has, .code yX5_has cX5_has 2 (some .boolean)] ++ wsX50)
def wsX5_ways : List Cond := .code yX5_ways cX5_ways 8 (some .long) :: ([])
def wsX5_odds : List Cond := .code yX5_odds cX5_odds 3 (some .long) :: ([.constantLong RX5 127 (-1), .methodLink RX5 66 yX5_in, .static yX5_in, .initialized RX5, .code yX5_in cX5_in 3 (some .boolean), .methodLink RX5 123 yX5_ways, .static yX5_ways, .code yX5_ways cX5_ways 8 (some .long)])
def wsX5_apart : List Cond := .code yX5_apart cX5_apart 3 (some .int) :: ([.constantLong RX5 129 (20), .methodLink RX5 66 yX5_in, .static yX5_in, .initialized RX5, .code yX5_in cX5_in 3 (some .boolean), .methodLink RX5 123 yX5_ways, .static yX5_ways, .code yX5_ways cX5_ways 8 (some .long)])
def wsX5_read : List Cond := .code yX5_read cX5_read 4 (some .int) :: ([.fieldLink RX5 131 "CaskBookModel" "readings" "I", .fieldLink RX5 41 "CaskBookModel" "nose" "[I", .fieldLink RX5 44 "CaskBookModel" "sample" "[I", .fieldLink RX5 47 "CaskBookModel" "told" "[I", .methodLink RX5 66 yX5_in, .static yX5_in, .initialized RX5, .code yX5_in cX5_in 3 (some .boolean)] ++ wsX50)
def wsX5_clear : List Cond := .code yX5_clear cX5_clear 2 (some .int) :: ([.fieldLink RX5 131 "CaskBookModel" "readings" "I"] ++ wsX50)
def wsX5_lead : List Cond := .code yX5_lead cX5_lead 7 none :: ([.fieldLink RX5 53 "CaskBookModel" "isMet" "[Z", .fieldLink RX5 57 "CaskBookModel" "value" "[I", .fieldLink RX5 41 "CaskBookModel" "nose" "[I", .fieldLink RX5 44 "CaskBookModel" "sample" "[I", .fieldLink RX5 47 "CaskBookModel" "told" "[I"] ++ wsX50)
def wsX5_firstWrong : List Cond := .code yX5_firstWrong cX5_firstWrong 3 (some .int) :: ([.fieldLink RX5 131 "CaskBookModel" "readings" "I", .fieldLink RX5 41 "CaskBookModel" "nose" "[I", .fieldLink RX5 44 "CaskBookModel" "sample" "[I", .fieldLink RX5 53 "CaskBookModel" "isMet" "[Z", .fieldLink RX5 57 "CaskBookModel" "value" "[I", .fieldLink RX5 47 "CaskBookModel" "told" "[I", .methodLink RX5 134 yX5_lead, .instanceMethod yX5_lead, .selects RX5 yX5_lead yX5_lead, .initialized RX5, .code yX5_lead cX5_lead 7 none] ++ wsX50)
def wsX5_contradicts : List Cond := .code yX5_contradicts cX5_contradicts 1 (some .int) :: ([.methodLink RX5 138 yX5_firstWrong, .instanceMethod yX5_firstWrong, .selects RX5 yX5_firstWrong yX5_firstWrong, .initialized RX5, .code yX5_firstWrong cX5_firstWrong 3 (some .int), .fieldLink RX5 131 "CaskBookModel" "readings" "I", .fieldLink RX5 41 "CaskBookModel" "nose" "[I", .fieldLink RX5 44 "CaskBookModel" "sample" "[I", .fieldLink RX5 53 "CaskBookModel" "isMet" "[Z", .fieldLink RX5 57 "CaskBookModel" "value" "[I", .fieldLink RX5 47 "CaskBookModel" "told" "[I", .methodLink RX5 134 yX5_lead, .instanceMethod yX5_lead, .selects RX5 yX5_lead yX5_lead, .code yX5_lead cX5_lead 7 none] ++ wsX50)
def wsX5_hang : List Cond := .code yX5_hang cX5_hang 5 (some .int) :: ([.constant RX5 142 (-1000001), .fieldLink RX5 131 "CaskBookModel" "readings" "I", .fieldLink RX5 53 "CaskBookModel" "isMet" "[Z", .fieldLink RX5 57 "CaskBookModel" "value" "[I", .constant RX5 143 (-1000000), .methodLink RX5 66 yX5_in, .static yX5_in, .initialized RX5, .code yX5_in cX5_in 3 (some .boolean), .methodLink RX5 138 yX5_firstWrong, .instanceMethod yX5_firstWrong, .selects RX5 yX5_firstWrong yX5_firstWrong, .code yX5_firstWrong cX5_firstWrong 3 (some .int), .fieldLink RX5 41 "CaskBookModel" "nose" "[I", .fieldLink RX5 44 "CaskBookModel" "sample" "[I", .fieldLink RX5 47 "CaskBookModel" "told" "[I", .methodLink RX5 134 yX5_lead, .instanceMethod yX5_lead, .selects RX5 yX5_lead yX5_lead, .code yX5_lead cX5_lead 7 none] ++ wsX50)
def wsX5_count : List Cond := .code yX5_count cX5_count 4 (some .int) :: ([.fieldLink RX5 60 "CaskBookModel" "now" "I", .fieldLink RX5 63 "CaskBookModel" "casks" "I", .fieldLink RX5 13 "CaskBookModel" "drops" "[I", .fieldLink RX5 131 "CaskBookModel" "readings" "I", .fieldLink RX5 37 "CaskBookModel" "rate" "I"] ++ wsX50)
def wsX5_trace : List Cond := .code yX5_trace cX5_trace 1 (some .long) :: ([.fieldLink RX5 85 "CaskBookModel" "trace" "J"] ++ wsX50)
def wsJ9_max_7cf53 : List Cond := .code yJ9_max_7cf53 cJ9_max_7cf53 2 (some .int) :: ([])
def wsJ9_min_7cf53 : List Cond := .code yJ9_min_7cf53 cJ9_min_7cf53 2 (some .int) :: ([])
def wsL_law_r1 : List Cond := [Cond.classLink RL 7 RX4, Cond.instantiable RX4 9, Cond.initialized RX4, Cond.classLink RL 10 RX5, Cond.instantiable RX5 20, Cond.initialized RX5, Cond.methodLink RL 9 yX4_init, Cond.instanceMethod yX4_init, Cond.code yX4_init cX4_init 2 none, Cond.methodLink RX4 1 objectInit, Cond.instanceMethod objectInit, Cond.code objectInit ⟨#[0xb1]⟩ 1 none, Cond.classLink RX4 9 RX0, Cond.fieldLink RX4 11 "CaskBook" "casks" "[LCaskBook$Cask;", Cond.arrayClass .int, Cond.fieldLink RX4 15 "CaskBook" "ahead" "[I", Cond.classLink RX4 19 RX3, Cond.instantiable RX3 1, Cond.initialized RX3, Cond.fieldLink RX4 22 "CaskBook" "wanted" "LCaskBook$Want;", Cond.classLink RX4 26 RX1, Cond.instantiable RX1 7, Cond.initialized RX1, Cond.fieldLink RX4 29 "CaskBook" "mix" "LCaskBook$Mix;"]
def wsL_law_r2 : List Cond := [Cond.classLink RX4 33 RX2, Cond.instantiable RX2 4, Cond.initialized RX2, Cond.fieldLink RX4 36 "CaskBook" "scale" "LCaskBook$Scale;", Cond.fieldLink RX4 40 "CaskBook" "laid" "I", Cond.fieldLink RX4 44 "CaskBook" "now" "I", Cond.fieldLink RX4 47 "CaskBook" "dutyRate" "I", Cond.fieldLink RX4 50 "CaskBook" "traced" "J", Cond.instantiable RX0 8, Cond.initialized RX0, Cond.instanceMethod yX3_init, Cond.code yX3_init cX3_init 1 none, Cond.methodLink RX3 3 objectInit, Cond.fieldLink RX3 9 "CaskBook$Want" "limits" "[I", Cond.instanceMethod yX1_init, Cond.code yX1_init cX1_init 1 none, Cond.methodLink RX1 3 objectInit, Cond.methodLink RX4 35 yX2_init, Cond.instanceMethod yX2_init, Cond.code yX2_init cX2_init 1 none, Cond.methodLink RX2 3 objectInit, Cond.fieldLink RX2 9 "CaskBook$Scale" "group" "[I", Cond.fieldLink RX2 15 "CaskBook$Scale" "height" "[I", Cond.methodLink RX2 18 yX2_reset]
def wsL_law_r3 : List Cond := [Cond.instanceMethod yX2_reset, Cond.selects RX2 yX2_reset yX2_reset, Cond.code yX2_reset cX2_reset 2 none, Cond.fieldLink RX2 21 "CaskBook$Scale" "readings" "I", Cond.fieldLink RX2 25 "CaskBook$Scale" "contradiction" "I", Cond.instanceMethod yX0_init, Cond.code yX0_init cX0_init 1 none, Cond.methodLink RX0 3 objectInit, Cond.methodLink RL 12 yX5_init, Cond.instanceMethod yX5_init, Cond.code yX5_init cX5_init 1 none, Cond.methodLink RX5 1 objectInit, Cond.fieldLink RX5 7 "CaskBookModel" "kind" "[I", Cond.fieldLink RX5 13 "CaskBookModel" "drops" "[I", Cond.fieldLink RX5 16 "CaskBookModel" "strength" "[I", Cond.fieldLink RX5 19 "CaskBookModel" "floor" "[I", Cond.fieldLink RX5 22 "CaskBookModel" "laid" "[I", Cond.fieldLink RX5 25 "CaskBookModel" "oak" "[I", Cond.fieldLink RX5 28 "CaskBookModel" "smoke" "[I", Cond.fieldLink RX5 31 "CaskBookModel" "sweet" "[I", Cond.fieldLink RX5 34 "CaskBookModel" "want" "[I", Cond.fieldLink RX5 37 "CaskBookModel" "rate" "I", Cond.fieldLink RX5 41 "CaskBookModel" "nose" "[I", Cond.fieldLink RX5 44 "CaskBookModel" "sample" "[I"]
def wsL_law_r4 : List Cond := [Cond.fieldLink RX5 47 "CaskBookModel" "told" "[I", Cond.fieldLink RX5 50 "CaskBookModel" "stock" "[I", Cond.arrayClass .boolean, Cond.fieldLink RX5 53 "CaskBookModel" "isMet" "[Z", Cond.fieldLink RX5 57 "CaskBookModel" "value" "[I", Cond.fieldLink RX5 60 "CaskBookModel" "now" "I", Cond.methodLink RL 13 yX4_lay, Cond.instanceMethod yX4_lay, Cond.selects RX4 yX4_lay yX4_lay, Cond.code yX4_lay cX4_lay 6 (some .int), Cond.methodLink RX4 55 yX4_isWithin, Cond.static yX4_isWithin, Cond.code yX4_isWithin cX4_isWithin 3 (some .boolean), Cond.methodLink RX4 59 yX0_fill, Cond.instanceMethod yX0_fill, Cond.selects RX0 yX0_fill yX0_fill, Cond.code yX0_fill cX0_fill 7 none, Cond.fieldLink RX0 9 "CaskBook$Cask" "kind" "I", Cond.fieldLink RX0 15 "CaskBook$Cask" "drops" "I", Cond.fieldLink RX0 18 "CaskBook$Cask" "strength" "I", Cond.fieldLink RX0 21 "CaskBook$Cask" "floor" "I", Cond.fieldLink RX0 24 "CaskBook$Cask" "smoke" "I", Cond.fieldLink RX0 27 "CaskBook$Cask" "laidIn" "I", Cond.methodLink RL 17 yX5_lay]
def wsL_law_r5 : List Cond := [Cond.instanceMethod yX5_lay, Cond.selects RX5 yX5_lay yX5_lay, Cond.code yX5_lay cX5_lay 6 (some .int), Cond.fieldLink RX5 63 "CaskBookModel" "casks" "I", Cond.methodLink RX5 66 yX5_in, Cond.static yX5_in, Cond.code yX5_in cX5_in 3 (some .boolean), Cond.methodLink RL 18 yX4_years, Cond.instanceMethod yX4_years, Cond.selects RX4 yX4_years yX4_years, Cond.code yX4_years cX4_years 3 (some .int), Cond.methodLink RX4 63 yX4_passYear, Cond.instanceMethod yX4_passYear, Cond.selects RX4 yX4_passYear yX4_passYear, Cond.code yX4_passYear cX4_passYear 2 none, Cond.fieldLink RX4 80 "CaskBook$Cask" "drops" "I", Cond.methodLink RX4 206 yX0_passYear, Cond.instanceMethod yX0_passYear, Cond.selects RX0 yX0_passYear yX0_passYear, Cond.code yX0_passYear cX0_passYear 3 none, Cond.fieldLink RX0 48 "CaskBook$Cask" "oak" "I", Cond.methodLink RX0 51 Lib.Math.max.name, Cond.static Lib.Math.max.name, Cond.initialized "java/lang/Math"]
def wsL_law_r6 : List Cond := [Cond.code Lib.Math.max.name Lib.Math.max.code 2 (some .int), Cond.fieldLink RX0 56 "CaskBook$Cask" "sweet" "I", Cond.methodLink RX0 42 yX0_lossIn, Cond.instanceMethod yX0_lossIn, Cond.selects RX0 yX0_lossIn yX0_lossIn, Cond.code yX0_lossIn cX0_lossIn 2 (some .int), Cond.methodLink RX0 30 yX0_age, Cond.instanceMethod yX0_age, Cond.selects RX0 yX0_age yX0_age, Cond.code yX0_age cX0_age 2 (some .int), Cond.static yX4_lossBy, Cond.code yX4_lossBy cX4_lossBy 5 (some .int), Cond.methodLink RX4 152 Lib.Math.max.name, Cond.static yX4_lostOf, Cond.code yX4_lostOf cX4_lostOf 2 (some .int), Cond.methodLink RX4 158 yX4_dividedUp, Cond.static yX4_dividedUp, Cond.code yX4_dividedUp cX4_dividedUp 2 (some .int), Cond.methodLink RL 22 yX5_years, Cond.instanceMethod yX5_years, Cond.selects RX5 yX5_years yX5_years, Cond.code yX5_years cX5_years 3 (some .int), Cond.methodLink RX5 78 yX5_oneYear, Cond.instanceMethod yX5_oneYear]
def wsL_law_r7 : List Cond := [Cond.selects RX5 yX5_oneYear yX5_oneYear, Cond.code yX5_oneYear cX5_oneYear 3 none, Cond.methodLink RX5 70 yX5_lossOf, Cond.instanceMethod yX5_lossOf, Cond.selects RX5 yX5_lossOf yX5_lossOf, Cond.code yX5_lossOf cX5_lossOf 5 (some .int), Cond.methodLink RX5 74 yX5_lostOf, Cond.static yX5_lostOf, Cond.code yX5_lostOf cX5_lostOf 2 (some .int), Cond.methodLink RL 23 yX4_loss, Cond.instanceMethod yX4_loss, Cond.selects RX4 yX4_loss yX4_loss, Cond.code yX4_loss cX4_loss 4 (some .int), Cond.fieldLink RX4 70 "CaskBook" "TRACE_MARKS" "[I", Cond.fieldLink RX4 73 "CaskBook$Cask" "floor" "I", Cond.methodLink RX4 66 yX4_isCask, Cond.instanceMethod yX4_isCask, Cond.selects RX4 yX4_isCask yX4_isCask, Cond.code yX4_isCask cX4_isCask 2 (some .boolean), Cond.methodLink RX4 76 yX4_lossBy, Cond.methodLink RL 27 yX5_loss, Cond.instanceMethod yX5_loss, Cond.selects RX5 yX5_loss yX5_loss, Cond.code yX5_loss cX5_loss 4 (some .int)]
def wsL_law_r8 : List Cond := [Cond.fieldLink RX5 85 "CaskBookModel" "trace" "J", Cond.constantLong RX5 89 (11), Cond.constantLong RX5 91 (111), Cond.methodLink RX5 81 yX5_isCask, Cond.instanceMethod yX5_isCask, Cond.selects RX5 yX5_isCask yX5_isCask, Cond.code yX5_isCask cX5_isCask 2 (some .boolean), Cond.methodLink RL 28 yX4_about, Cond.instanceMethod yX4_about, Cond.selects RX4 yX4_about yX4_about, Cond.code yX4_about cX4_about 4 (some .int), Cond.fieldLink RX4 83 "CaskBook$Cask" "strength" "I", Cond.fieldLink RX4 90 "CaskBook$Cask" "oak" "I", Cond.fieldLink RX4 93 "CaskBook$Cask" "smoke" "I", Cond.fieldLink RX4 96 "CaskBook$Cask" "sweet" "I", Cond.fieldLink RX4 99 "CaskBook$Cask" "kind" "I", Cond.methodLink RX4 86 yX0_age, Cond.methodLink RX4 102 yX0_cost, Cond.instanceMethod yX0_cost, Cond.selects RX0 yX0_cost yX0_cost, Cond.code yX0_cost cX0_cost 2 (some .int), Cond.methodLink RL 32 yX5_about, Cond.instanceMethod yX5_about, Cond.selects RX5 yX5_about yX5_about]
def wsL_law_r9 : List Cond := [Cond.code yX5_about cX5_about 3 (some .int), Cond.methodLink RX5 93 yX5_ageOf, Cond.instanceMethod yX5_ageOf, Cond.selects RX5 yX5_ageOf yX5_ageOf, Cond.code yX5_ageOf cX5_ageOf 2 (some .int), Cond.methodLink RX5 97 yX5_costOf, Cond.instanceMethod yX5_costOf, Cond.selects RX5 yX5_costOf yX5_costOf, Cond.code yX5_costOf cX5_costOf 2 (some .int), Cond.methodLink RL 33 yX4_move, Cond.instanceMethod yX4_move, Cond.selects RX4 yX4_move yX4_move, Cond.code yX4_move cX4_move 4 (some .int), Cond.methodLink RL 36 yX5_move, Cond.instanceMethod yX5_move, Cond.selects RX5 yX5_move yX5_move, Cond.code yX5_move cX5_move 4 (some .int), Cond.methodLink RL 37 yX4_draw, Cond.instanceMethod yX4_draw, Cond.selects RX4 yX4_draw yX4_draw, Cond.code yX4_draw cX4_draw 3 (some .int), Cond.methodLink RL 40 yX5_draw, Cond.instanceMethod yX5_draw, Cond.selects RX5 yX5_draw yX5_draw]
def wsL_law_r10 : List Cond := [Cond.code yX5_draw cX5_draw 3 (some .int), Cond.methodLink RL 41 yX4_want, Cond.instanceMethod yX4_want, Cond.selects RX4 yX4_want yX4_want, Cond.code yX4_want cX4_want 4 (some .int), Cond.fieldLink RX4 108 "CaskBook$Want" "limits" "[I", Cond.methodLink RX4 105 yX3_most, Cond.static yX3_most, Cond.code yX3_most cX3_most 1 (some .int), Cond.constant RX3 15 (99999), Cond.methodLink RL 44 yX5_want, Cond.instanceMethod yX5_want, Cond.selects RX5 yX5_want yX5_want, Cond.code yX5_want cX5_want 5 (some .int), Cond.constant RX5 100 (99999), Cond.methodLink RL 45 yX4_blend, Cond.instanceMethod yX4_blend, Cond.selects RX4 yX4_blend yX4_blend, Cond.code yX4_blend cX4_blend 3 (some .int), Cond.fieldLink RX4 117 "CaskBook$Mix" "drops" "I", Cond.fieldLink RX4 118 "CaskBook$Mix" "strengths" "I", Cond.fieldLink RX4 124 "CaskBook$Mix" "age" "I", Cond.fieldLink RX4 126 "CaskBook$Mix" "oaks" "I", Cond.fieldLink RX4 129 "CaskBook$Mix" "smokes" "I"]
def wsL_law_r11 : List Cond := [Cond.fieldLink RX4 132 "CaskBook$Mix" "sweets" "I", Cond.fieldLink RX4 135 "CaskBook$Mix" "cost" "I", Cond.methodLink RX4 111 yX4_isSet, Cond.instanceMethod yX4_isSet, Cond.selects RX4 yX4_isSet yX4_isSet, Cond.code yX4_isSet cX4_isSet 2 (some .boolean), Cond.methodLink RX4 114 yX4_gather, Cond.instanceMethod yX4_gather, Cond.selects RX4 yX4_gather yX4_gather, Cond.code yX4_gather cX4_gather 3 (some .boolean), Cond.methodLink RX4 208 yX1_start, Cond.instanceMethod yX1_start, Cond.selects RX1 yX1_start yX1_start, Cond.code yX1_start cX1_start 1 none, Cond.fieldLink RX1 9 "CaskBook$Mix" "drops" "I", Cond.fieldLink RX1 15 "CaskBook$Mix" "strengths" "I", Cond.fieldLink RX1 18 "CaskBook$Mix" "oaks" "I", Cond.fieldLink RX1 21 "CaskBook$Mix" "smokes" "I", Cond.fieldLink RX1 24 "CaskBook$Mix" "sweets" "I", Cond.fieldLink RX1 27 "CaskBook$Mix" "cost" "I", Cond.fieldLink RX1 30 "CaskBook$Mix" "age" "I", Cond.methodLink RX4 161 yX4_holds, Cond.static yX4_holds, Cond.code yX4_holds cX4_holds 2 (some .boolean)]
def wsL_law_r12 : List Cond := [Cond.methodLink RX4 211 yX1_add, Cond.instanceMethod yX1_add, Cond.selects RX1 yX1_add yX1_add, Cond.code yX1_add cX1_add 3 none, Cond.fieldLink RX1 33 "CaskBook$Cask" "drops" "I", Cond.fieldLink RX1 36 "CaskBook$Cask" "strength" "I", Cond.fieldLink RX1 39 "CaskBook$Cask" "oak" "I", Cond.fieldLink RX1 42 "CaskBook$Cask" "smoke" "I", Cond.fieldLink RX1 45 "CaskBook$Cask" "sweet" "I", Cond.methodLink RX1 53 Lib.Math.min.name, Cond.static Lib.Math.min.name, Cond.code Lib.Math.min.name Lib.Math.min.code 2 (some .int), Cond.methodLink RX1 48 yX0_cost, Cond.methodLink RX1 51 yX0_age, Cond.methodLink RX4 121 yX1_evenly, Cond.instanceMethod yX1_evenly, Cond.selects RX1 yX1_evenly yX1_evenly, Cond.code yX1_evenly cX1_evenly 2 (some .int), Cond.methodLink RX4 137 yX3_isMetBy, Cond.instanceMethod yX3_isMetBy, Cond.selects RX3 yX3_isMetBy yX3_isMetBy, Cond.code yX3_isMetBy cX3_isMetBy 2 (some .boolean), Cond.fieldLink RX3 22 "CaskBook$Mix" "drops" "I", Cond.fieldLink RX3 29 "CaskBook$Mix" "oaks" "I"]
def wsL_law_r13 : List Cond := [Cond.fieldLink RX3 40 "CaskBook$Mix" "smokes" "I", Cond.fieldLink RX3 43 "CaskBook$Mix" "sweets" "I", Cond.methodLink RX3 25 yX3_isOldEnough, Cond.instanceMethod yX3_isOldEnough, Cond.selects RX3 yX3_isOldEnough yX3_isOldEnough, Cond.code yX3_isOldEnough cX3_isOldEnough 2 (some .boolean), Cond.fieldLink RX3 16 "CaskBook$Mix" "age" "I", Cond.methodLink RX3 32 yX1_evenly, Cond.methodLink RL 48 yX5_blend, Cond.instanceMethod yX5_blend, Cond.selects RX5 yX5_blend yX5_blend, Cond.code yX5_blend cX5_blend 3 (some .int), Cond.methodLink RX5 114 yX5_isBlend, Cond.instanceMethod yX5_isBlend, Cond.selects RX5 yX5_isBlend yX5_isBlend, Cond.code yX5_isBlend cX5_isBlend 4 (some .boolean), Cond.methodLink RX5 101 yX5_has, Cond.static yX5_has, Cond.code yX5_has cX5_has 2 (some .boolean), Cond.methodLink RX5 105 yX5_dropsOf, Cond.instanceMethod yX5_dropsOf, Cond.selects RX5 yX5_dropsOf yX5_dropsOf, Cond.code yX5_dropsOf cX5_dropsOf 4 (some .int), Cond.methodLink RX5 111 yX5_partOf]
def wsL_law_r14 : List Cond := [Cond.instanceMethod yX5_partOf, Cond.selects RX5 yX5_partOf yX5_partOf, Cond.code yX5_partOf cX5_partOf 7 (some .int), Cond.methodLink RX5 108 yX5_youngest, Cond.instanceMethod yX5_youngest, Cond.selects RX5 yX5_youngest yX5_youngest, Cond.code yX5_youngest cX5_youngest 4 (some .int), Cond.methodLink RX5 117 yX5_costs, Cond.instanceMethod yX5_costs, Cond.selects RX5 yX5_costs yX5_costs, Cond.code yX5_costs cX5_costs 4 (some .int), Cond.methodLink RX5 120 yX5_isRight, Cond.instanceMethod yX5_isRight, Cond.selects RX5 yX5_isRight yX5_isRight, Cond.code yX5_isRight cX5_isRight 4 (some .boolean), Cond.methodLink RL 49 yX4_best, Cond.instanceMethod yX4_best, Cond.selects RX4 yX4_best yX4_best, Cond.code yX4_best cX4_best 3 (some .int), Cond.methodLink RX4 141 yX4_bestSet, Cond.instanceMethod yX4_bestSet, Cond.selects RX4 yX4_bestSet yX4_bestSet, Cond.code yX4_bestSet cX4_bestSet 8 (some .int), Cond.methodLink RX4 215 yX3_isOldEnough]
def wsL_law_r15 : List Cond := [Cond.methodLink RL 52 yX5_best, Cond.instanceMethod yX5_best, Cond.selects RX5 yX5_best yX5_best, Cond.code yX5_best cX5_best 6 (some .int), Cond.methodLink RL 53 yX4_lasts, Cond.instanceMethod yX4_lasts, Cond.selects RX4 yX4_lasts yX4_lasts, Cond.code yX4_lasts cX4_lasts 4 (some .int), Cond.methodLink RX4 145 yX4_takeAhead, Cond.instanceMethod yX4_takeAhead, Cond.selects RX4 yX4_takeAhead yX4_takeAhead, Cond.code yX4_takeAhead cX4_takeAhead 7 (some .boolean), Cond.methodLink RX4 218 Lib.Math.min.name, Cond.methodLink RX4 148 yX4_passYearAhead, Cond.instanceMethod yX4_passYearAhead, Cond.selects RX4 yX4_passYearAhead yX4_passYearAhead, Cond.code yX4_passYearAhead cX4_passYearAhead 3 none, Cond.methodLink RX4 221 yX0_lossIn, Cond.methodLink RX4 224 yX4_lostOf, Cond.methodLink RL 56 yX5_lasts, Cond.instanceMethod yX5_lasts, Cond.selects RX5 yX5_lasts yX5_lasts, Cond.code yX5_lasts cX5_lasts 9 (some .int), Cond.methodLink RL 57 yX4_cut]
def wsL_law_r16 : List Cond := [Cond.instanceMethod yX4_cut, Cond.selects RX4 yX4_cut yX4_cut, Cond.code yX4_cut cX4_cut 4 (some .int), Cond.methodLink RL 60 yX5_cut, Cond.instanceMethod yX5_cut, Cond.selects RX5 yX5_cut yX5_cut, Cond.code yX5_cut cX5_cut 4 (some .int), Cond.methodLink RL 61 yX4_rate, Cond.instanceMethod yX4_rate, Cond.selects RX4 yX4_rate yX4_rate, Cond.code yX4_rate cX4_rate 3 (some .int), Cond.methodLink RL 64 yX5_rate, Cond.instanceMethod yX5_rate, Cond.selects RX5 yX5_rate yX5_rate, Cond.code yX5_rate cX5_rate 3 (some .int), Cond.methodLink RL 65 yX4_duty, Cond.instanceMethod yX4_duty, Cond.selects RX4 yX4_duty yX4_duty, Cond.code yX4_duty cX4_duty 4 (some .int), Cond.methodLink RL 68 yX5_duty, Cond.instanceMethod yX5_duty, Cond.selects RX5 yX5_duty yX5_duty, Cond.code yX5_duty cX5_duty 4 (some .int), Cond.methodLink RL 69 yX4_odds]
def wsL_law_r17 : List Cond := [Cond.instanceMethod yX4_odds, Cond.selects RX4 yX4_odds yX4_odds, Cond.code yX4_odds cX4_odds 3 (some .long), Cond.constantLong RX4 172 (-1), Cond.methodLink RX4 165 yX4_isTriangle, Cond.static yX4_isTriangle, Cond.code yX4_isTriangle cX4_isTriangle 2 (some .boolean), Cond.methodLink RX4 168 yX4_ways, Cond.static yX4_ways, Cond.code yX4_ways cX4_ways 8 (some .long), Cond.constantLong RX4 227 (2), Cond.methodLink RL 73 yX5_odds, Cond.instanceMethod yX5_odds, Cond.selects RX5 yX5_odds yX5_odds, Cond.code yX5_odds cX5_odds 3 (some .long), Cond.constantLong RX5 127 (-1), Cond.methodLink RX5 123 yX5_ways, Cond.static yX5_ways, Cond.code yX5_ways cX5_ways 8 (some .long), Cond.methodLink RL 74 yX4_apart, Cond.instanceMethod yX4_apart, Cond.selects RX4 yX4_apart yX4_apart, Cond.code yX4_apart cX4_apart 3 (some .int), Cond.constantLong RX4 174 (20)]
def wsL_law_r18 : List Cond := [Cond.methodLink RL 77 yX5_apart, Cond.instanceMethod yX5_apart, Cond.selects RX5 yX5_apart yX5_apart, Cond.code yX5_apart cX5_apart 3 (some .int), Cond.constantLong RX5 129 (20), Cond.methodLink RL 78 yX4_read, Cond.instanceMethod yX4_read, Cond.selects RX4 yX4_read yX4_read, Cond.code yX4_read cX4_read 4 (some .int), Cond.fieldLink RX4 179 "CaskBook$Scale" "readings" "I", Cond.methodLink RX4 176 yX4_isNose, Cond.static yX4_isNose, Cond.code yX4_isNose cX4_isNose 1 (some .boolean), Cond.methodLink RX4 182 yX2_take, Cond.instanceMethod yX2_take, Cond.selects RX2 yX2_take yX2_take, Cond.code yX2_take cX2_take 4 none, Cond.methodLink RX2 28 yX2_fit, Cond.instanceMethod yX2_fit, Cond.selects RX2 yX2_fit yX2_fit, Cond.code yX2_fit cX2_fit 5 none, Cond.methodLink RX2 32 yX2_ties, Cond.instanceMethod yX2_ties, Cond.selects RX2 yX2_ties yX2_ties]
def wsL_law_r19 : List Cond := [Cond.code yX2_ties cX2_ties 3 (some .boolean), Cond.methodLink RX2 36 yX2_join, Cond.instanceMethod yX2_join, Cond.selects RX2 yX2_join yX2_join, Cond.code yX2_join cX2_join 5 none, Cond.methodLink RL 81 yX5_read, Cond.instanceMethod yX5_read, Cond.selects RX5 yX5_read yX5_read, Cond.code yX5_read cX5_read 4 (some .int), Cond.fieldLink RX5 131 "CaskBookModel" "readings" "I", Cond.methodLink RL 82 yX4_clear, Cond.instanceMethod yX4_clear, Cond.selects RX4 yX4_clear yX4_clear, Cond.code yX4_clear cX4_clear 2 (some .int), Cond.methodLink RX4 186 yX2_reset, Cond.methodLink RL 86 yX5_clear, Cond.instanceMethod yX5_clear, Cond.selects RX5 yX5_clear yX5_clear, Cond.code yX5_clear cX5_clear 2 (some .int), Cond.methodLink RL 87 yX4_contradicts, Cond.instanceMethod yX4_contradicts, Cond.selects RX4 yX4_contradicts yX4_contradicts, Cond.code yX4_contradicts cX4_contradicts 1 (some .int), Cond.fieldLink RX4 189 "CaskBook$Scale" "contradiction" "I"]
def wsL_law_r20 : List Cond := [Cond.methodLink RL 90 yX5_contradicts, Cond.instanceMethod yX5_contradicts, Cond.selects RX5 yX5_contradicts yX5_contradicts, Cond.code yX5_contradicts cX5_contradicts 1 (some .int), Cond.methodLink RX5 138 yX5_firstWrong, Cond.instanceMethod yX5_firstWrong, Cond.selects RX5 yX5_firstWrong yX5_firstWrong, Cond.code yX5_firstWrong cX5_firstWrong 3 (some .int), Cond.methodLink RX5 134 yX5_lead, Cond.instanceMethod yX5_lead, Cond.selects RX5 yX5_lead yX5_lead, Cond.code yX5_lead cX5_lead 7 none, Cond.methodLink RL 91 yX4_hang, Cond.instanceMethod yX4_hang, Cond.selects RX4 yX4_hang yX4_hang, Cond.code yX4_hang cX4_hang 5 (some .int), Cond.constant RX4 192 (-1000001), Cond.fieldLink RX4 196 "CaskBook$Scale" "height" "[I", Cond.constant RX4 199 (-1000000), Cond.methodLink RX4 193 yX2_ties, Cond.methodLink RL 94 yX5_hang, Cond.instanceMethod yX5_hang, Cond.selects RX5 yX5_hang yX5_hang, Cond.code yX5_hang cX5_hang 5 (some .int)]
def wsL_law_r21 : List Cond := [Cond.constant RX5 142 (-1000001), Cond.constant RX5 143 (-1000000), Cond.methodLink RL 95 yX4_count, Cond.instanceMethod yX4_count, Cond.selects RX4 yX4_count yX4_count, Cond.code yX4_count cX4_count 2 (some .int), Cond.methodLink RX4 200 yX4_notEmpty, Cond.instanceMethod yX4_notEmpty, Cond.selects RX4 yX4_notEmpty yX4_notEmpty, Cond.code yX4_notEmpty cX4_notEmpty 3 (some .int), Cond.methodLink RX4 203 yX4_allDrops, Cond.instanceMethod yX4_allDrops, Cond.selects RX4 yX4_allDrops yX4_allDrops, Cond.code yX4_allDrops cX4_allDrops 3 (some .int), Cond.methodLink RL 98 yX5_count, Cond.instanceMethod yX5_count, Cond.selects RX5 yX5_count yX5_count, Cond.code yX5_count cX5_count 4 (some .int), Cond.methodLink RL 99 yX4_trace, Cond.instanceMethod yX4_trace, Cond.selects RX4 yX4_trace yX4_trace, Cond.code yX4_trace cX4_trace 1 (some .long), Cond.methodLink RL 103 yX5_trace, Cond.instanceMethod yX5_trace]
def wsL_law_r22 : List Cond := [Cond.selects RX5 yX5_trace yX5_trace, Cond.code yX5_trace cX5_trace 1 (some .long)]
def wsL_law : List Cond := (wsL_law_r1 ++ (wsL_law_r2 ++ (wsL_law_r3 ++ (wsL_law_r4 ++ (wsL_law_r5 ++ (wsL_law_r6 ++ (wsL_law_r7 ++ (wsL_law_r8 ++ (wsL_law_r9 ++ (wsL_law_r10 ++ (wsL_law_r11 ++ (wsL_law_r12 ++ (wsL_law_r13 ++ (wsL_law_r14 ++ (wsL_law_r15 ++ (wsL_law_r16 ++ (wsL_law_r17 ++ (wsL_law_r18 ++ (wsL_law_r19 ++ (wsL_law_r20 ++ (wsL_law_r21 ++ wsL_law_r22))))))))))))))))))))) ++ wsX40 ++ wsX50 ++ wsX30 ++ wsX10 ++ wsX20 ++ wsX00 ++ ([] : List Cond)
abbrev vwCl : List vw_C := [(RX0, TX0, 8), (RX1, TX1, 7), (RX2, TX2, 4), (RX3, TX3, 1), (RX4, TX4, 9), (RX5, TX5, 20)]
end
section
theorem mem_pl {big ws : List Cond} (ps : List Nat) (h : ws = ps.filterMap (fun i => big[i]?)) : ∀ w ∈ ws, w ∈ big := by
  intro w hw
  rw [h] at hw
  obtain ⟨i, -, hi⟩ := List.mem_filterMap.mp hw
  exact List.mem_of_getElem? hi
set_option maxRecDepth 20000 in
theorem in_wsL_law_r1 : ∀ w ∈ wsL_law_r1, w ∈ lw_tbl := mem_pl [32, 33, 25, 421, 422, 30, 34, 35, 36, 37, 38, 39, 40, 162, 53, 163, 42, 43, 26, 164, 54, 55, 27, 165] rfl
set_option maxRecDepth 20000 in
theorem in_wsL_law_r2 : ∀ w ∈ wsL_law_r2, w ∈ lw_tbl := mem_pl [94, 95, 28, 166, 167, 168, 169, 170, 120, 29, 45, 46, 47, 48, 57, 58, 59, 96, 97, 98, 99, 104, 105, 100] rfl
set_option maxRecDepth 20000 in
theorem in_wsL_law_r3 : ∀ w ∈ wsL_law_r3, w ∈ lw_tbl := mem_pl [101, 102, 103, 107, 109, 122, 123, 124, 423, 424, 425, 426, 429, 430, 431, 432, 433, 434, 435, 436, 437, 438, 440, 441] rfl
set_option maxRecDepth 20000 in
theorem in_wsL_law_r4 : ∀ w ∈ wsL_law_r4, w ∈ lw_tbl := mem_pl [442, 444, 488, 445, 446, 427, 190, 191, 192, 193, 194, 195, 196, 197, 198, 199, 200, 125, 127, 130, 133, 138, 144, 489] rfl
set_option maxRecDepth 20000 in
theorem in_wsL_law_r5 : ∀ w ∈ wsL_law_r5, w ∈ lw_tbl := mem_pl [490, 491, 492, 428, 493, 494, 495, 201, 202, 203, 204, 205, 207, 0, 208, 129, 209, 210, 211, 212, 137, 233, 225, 31] rfl
set_option maxRecDepth 20000 in
theorem in_wsL_law_r6 : ∀ w ∈ wsL_law_r6, w ∈ lw_tbl := mem_pl [226, 143, 213, 214, 215, 216, 217, 218, 219, 220, 222, 223, 224, 228, 229, 230, 231, 232, 496, 497, 498, 499, 500, 502] rfl
set_option maxRecDepth 20000 in
theorem in_wsL_law_r7 : ∀ w ∈ wsL_law_r7, w ∈ lw_tbl := mem_pl [11, 503, 504, 506, 12, 507, 508, 509, 510, 235, 236, 237, 238, 243, 134, 239, 241, 1, 242, 245, 511, 512, 513, 514] rfl
set_option maxRecDepth 20000 in
theorem in_wsL_law_r8 : ∀ w ∈ wsL_law_r8, w ∈ lw_tbl := mem_pl [443, 519, 520, 515, 517, 13, 518, 246, 247, 248, 249, 132, 136, 140, 142, 126, 250, 251, 252, 253, 254, 521, 522, 523] rfl
set_option maxRecDepth 20000 in
theorem in_wsL_law_r9 : ∀ w ∈ wsL_law_r9, w ∈ lw_tbl := mem_pl [524, 525, 527, 14, 528, 529, 531, 15, 532, 255, 256, 257, 258, 533, 534, 535, 536, 259, 260, 261, 262, 537, 538, 539] rfl
set_option maxRecDepth 20000 in
theorem in_wsL_law_r10 : ∀ w ∈ wsL_law_r10, w ∈ lw_tbl := mem_pl [540, 263, 264, 265, 266, 49, 267, 268, 269, 270, 541, 542, 543, 544, 545, 271, 272, 273, 274, 62, 64, 78, 67, 70] rfl
set_option maxRecDepth 20000 in
theorem in_wsL_law_r11 : ∀ w ∈ wsL_law_r11, w ∈ lw_tbl := mem_pl [73, 75, 275, 277, 2, 278, 279, 281, 3, 282, 283, 284, 285, 286, 60, 63, 65, 68, 71, 74, 76, 287, 288, 289] rfl
set_option maxRecDepth 20000 in
theorem in_wsL_law_r12 : ∀ w ∈ wsL_law_r12, w ∈ lw_tbl := mem_pl [290, 291, 292, 293, 128, 131, 135, 139, 141, 296, 297, 298, 294, 295, 299, 300, 301, 302, 303, 304, 305, 306, 61, 66] rfl
set_option maxRecDepth 20000 in
theorem in_wsL_law_r13 : ∀ w ∈ wsL_law_r13, w ∈ lw_tbl := mem_pl [69, 72, 307, 308, 309, 310, 77, 311, 546, 547, 548, 549, 550, 552, 16, 553, 554, 555, 556, 557, 559, 17, 560, 561] rfl
set_option maxRecDepth 20000 in
theorem in_wsL_law_r14 : ∀ w ∈ wsL_law_r14, w ∈ lw_tbl := mem_pl [563, 18, 564, 565, 567, 19, 568, 569, 571, 20, 572, 573, 575, 21, 576, 313, 314, 315, 316, 317, 319, 4, 320, 321] rfl
set_option maxRecDepth 20000 in
theorem in_wsL_law_r15 : ∀ w ∈ wsL_law_r15, w ∈ lw_tbl := mem_pl [577, 578, 579, 580, 322, 323, 324, 325, 326, 328, 5, 329, 330, 331, 333, 6, 334, 335, 336, 581, 582, 583, 584, 337] rfl
set_option maxRecDepth 20000 in
theorem in_wsL_law_r16 : ∀ w ∈ wsL_law_r16, w ∈ lw_tbl := mem_pl [338, 339, 340, 585, 586, 587, 588, 341, 342, 343, 344, 589, 590, 591, 592, 345, 346, 347, 348, 593, 594, 595, 596, 349] rfl
set_option maxRecDepth 20000 in
theorem in_wsL_law_r17 : ∀ w ∈ wsL_law_r17, w ∈ lw_tbl := mem_pl [350, 351, 352, 360, 353, 354, 355, 356, 357, 358, 359, 597, 598, 599, 600, 604, 601, 602, 603, 361, 362, 363, 364, 365] rfl
set_option maxRecDepth 20000 in
theorem in_wsL_law_r18 : ∀ w ∈ wsL_law_r18, w ∈ lw_tbl := mem_pl [605, 606, 607, 608, 609, 366, 367, 368, 369, 108, 370, 371, 372, 373, 374, 375, 376, 377, 379, 7, 380, 381, 382, 383] rfl
set_option maxRecDepth 20000 in
theorem in_wsL_law_r19 : ∀ w ∈ wsL_law_r19, w ∈ lw_tbl := mem_pl [384, 385, 387, 8, 388, 610, 611, 612, 613, 439, 389, 390, 391, 392, 393, 614, 615, 616, 617, 394, 395, 396, 397, 110] rfl
set_option maxRecDepth 20000 in
theorem in_wsL_law_r20 : ∀ w ∈ wsL_law_r20, w ∈ lw_tbl := mem_pl [618, 619, 620, 621, 622, 624, 22, 625, 626, 628, 23, 629, 398, 399, 400, 401, 402, 106, 404, 403, 630, 631, 632, 633] rfl
set_option maxRecDepth 20000 in
theorem in_wsL_law_r21 : ∀ w ∈ wsL_law_r21, w ∈ lw_tbl := mem_pl [634, 635, 405, 406, 407, 408, 409, 411, 9, 412, 413, 415, 10, 416, 636, 637, 638, 639, 417, 418, 419, 420, 640, 641] rfl
set_option maxRecDepth 20000 in
theorem in_wsL_law_r22 : ∀ w ∈ wsL_law_r22, w ∈ lw_tbl := mem_pl [642, 643] rfl
set_option maxRecDepth 20000 in
theorem in_wsX00 : ∀ w ∈ wsX00, w ∈ lw_tbl := mem_pl [145, 147, 149, 151, 153, 155, 157, 159] rfl
set_option maxRecDepth 20000 in
theorem in_wsX10 : ∀ w ∈ wsX10, w ∈ lw_tbl := mem_pl [79, 81, 83, 85, 87, 89, 91] rfl
set_option maxRecDepth 20000 in
theorem in_wsX20 : ∀ w ∈ wsX20, w ∈ lw_tbl := mem_pl [111, 113, 115, 117] rfl
set_option maxRecDepth 20000 in
theorem in_wsX30 : ∀ w ∈ wsX30, w ∈ lw_tbl := mem_pl [50] rfl
set_option maxRecDepth 20000 in
theorem in_wsX40 : ∀ w ∈ wsX40, w ∈ lw_tbl := mem_pl [171, 173, 175, 177, 179, 181, 183, 185, 187] rfl
set_option maxRecDepth 20000 in
theorem in_wsX50 : ∀ w ∈ wsX50, w ∈ lw_tbl := mem_pl [447, 449, 451, 453, 455, 457, 459, 461, 463, 465, 467, 469, 471, 473, 475, 477, 479, 481, 483, 485] rfl
theorem wsL_law_in : ∀ w ∈ wsL_law, w ∈ lw_tbl := List.forall_mem_append.mpr ⟨List.forall_mem_append.mpr ⟨List.forall_mem_append.mpr ⟨List.forall_mem_append.mpr ⟨List.forall_mem_append.mpr ⟨List.forall_mem_append.mpr ⟨List.forall_mem_append.mpr ⟨List.forall_mem_append.mpr ⟨in_wsL_law_r1, List.forall_mem_append.mpr ⟨in_wsL_law_r2, List.forall_mem_append.mpr ⟨in_wsL_law_r3, List.forall_mem_append.mpr ⟨in_wsL_law_r4, List.forall_mem_append.mpr ⟨in_wsL_law_r5, List.forall_mem_append.mpr ⟨in_wsL_law_r6, List.forall_mem_append.mpr ⟨in_wsL_law_r7, List.forall_mem_append.mpr ⟨in_wsL_law_r8, List.forall_mem_append.mpr ⟨in_wsL_law_r9, List.forall_mem_append.mpr ⟨in_wsL_law_r10, List.forall_mem_append.mpr ⟨in_wsL_law_r11, List.forall_mem_append.mpr ⟨in_wsL_law_r12, List.forall_mem_append.mpr ⟨in_wsL_law_r13, List.forall_mem_append.mpr ⟨in_wsL_law_r14, List.forall_mem_append.mpr ⟨in_wsL_law_r15, List.forall_mem_append.mpr ⟨in_wsL_law_r16, List.forall_mem_append.mpr ⟨in_wsL_law_r17, List.forall_mem_append.mpr ⟨in_wsL_law_r18, List.forall_mem_append.mpr ⟨in_wsL_law_r19, List.forall_mem_append.mpr ⟨in_wsL_law_r20, List.forall_mem_append.mpr ⟨in_wsL_law_r21, in_wsL_law_r22⟩⟩⟩⟩⟩⟩⟩⟩⟩⟩⟩⟩⟩⟩⟩⟩⟩⟩⟩⟩⟩, in_wsX40⟩, in_wsX50⟩, in_wsX30⟩, in_wsX10⟩, in_wsX20⟩, in_wsX00⟩, fun _ h => absurd h List.not_mem_nil⟩
theorem inlX0 : ∀ w ∈ wsX00, w ∈ wsL_law := fun _ h => List.mem_append_left _ (List.mem_append_right _ h)
theorem inX0 : ∀ w ∈ wsX00, w ∈ lw_tbl := fun w h => wsL_law_in w (inlX0 w h)
theorem inlX1 : ∀ w ∈ wsX10, w ∈ wsL_law := fun _ h => List.mem_append_left _ (List.mem_append_left _ (List.mem_append_left _ (List.mem_append_right _ h)))
theorem inX1 : ∀ w ∈ wsX10, w ∈ lw_tbl := fun w h => wsL_law_in w (inlX1 w h)
theorem inlX2 : ∀ w ∈ wsX20, w ∈ wsL_law := fun _ h => List.mem_append_left _ (List.mem_append_left _ (List.mem_append_right _ h))
theorem inX2 : ∀ w ∈ wsX20, w ∈ lw_tbl := fun w h => wsL_law_in w (inlX2 w h)
theorem inlX3 : ∀ w ∈ wsX30, w ∈ wsL_law := fun _ h => List.mem_append_left _ (List.mem_append_left _ (List.mem_append_left _ (List.mem_append_left _ (List.mem_append_right _ h))))
theorem inX3 : ∀ w ∈ wsX30, w ∈ lw_tbl := fun w h => wsL_law_in w (inlX3 w h)
theorem inlX4 : ∀ w ∈ wsX40, w ∈ wsL_law := fun _ h => List.mem_append_left _ (List.mem_append_left _ (List.mem_append_left _ (List.mem_append_left _ (List.mem_append_left _ (List.mem_append_left _ (List.mem_append_right _ h))))))
theorem inX4 : ∀ w ∈ wsX40, w ∈ lw_tbl := fun w h => wsL_law_in w (inlX4 w h)
theorem inlX5 : ∀ w ∈ wsX50, w ∈ wsL_law := fun _ h => List.mem_append_left _ (List.mem_append_left _ (List.mem_append_left _ (List.mem_append_left _ (List.mem_append_left _ (List.mem_append_right _ h)))))
theorem inX5 : ∀ w ∈ wsX50, w ∈ lw_tbl := fun w h => wsL_law_in w (inlX5 w h)
theorem inJ9 : ∀ w ∈ wsJ90, w ∈ lw_tbl := by decide +kernel
end
section
set_option maxRecDepth 20000 in
theorem ggX0_cost_X0_age : GoodIn wsX0_cost wsX0_age := goodIn_r _ [6, 7, 11, 12, 13, 14, 15, 16, 17, 18] rfl (by decide +kernel)
set_option maxRecDepth 20000 in
theorem gX0_cost_X0_age : GoodIn wsX0_cost (wsV RX0 30 RX0 yX0_age wsX0_age) := goodIn_app (goodIn_r _ [2, 3, 4, 5] rfl (by decide +kernel)) ggX0_cost_X0_age
set_option maxRecDepth 20000 in
theorem ggX0_cost_X4_dividedUp : GoodIn wsX0_cost wsX4_dividedUp := goodIn_r _ [10] rfl (by decide +kernel)
set_option maxRecDepth 20000 in
theorem gX0_cost_X4_dividedUp_n34 : GoodIn wsX0_cost (wsX4_dividedUp) := ggX0_cost_X4_dividedUp
set_option maxRecDepth 20000 in
theorem ggX0_lossIn_X0_age : GoodIn wsX0_lossIn wsX0_age := goodIn_r _ [7, 8, 16, 17, 18, 19, 20, 21, 22, 23] rfl (by decide +kernel)
set_option maxRecDepth 20000 in
theorem gX0_lossIn_X0_age : GoodIn wsX0_lossIn (wsV RX0 30 RX0 yX0_age wsX0_age) := goodIn_app (goodIn_r _ [3, 4, 5, 6] rfl (by decide +kernel)) ggX0_lossIn_X0_age
set_option maxRecDepth 20000 in
theorem ggX0_lossIn_X4_lossBy : GoodIn wsX0_lossIn wsX4_lossBy := goodIn_r _ [11, 12, 13, 14, 15] rfl (by decide +kernel)
set_option maxRecDepth 20000 in
theorem gX0_lossIn_X4_lossBy_n38 : GoodIn wsX0_lossIn (wsX4_lossBy) := ggX0_lossIn_X4_lossBy
set_option maxRecDepth 20000 in
theorem ggX0_passYear_X0_lossIn : GoodIn wsX0_passYear wsX0_lossIn := goodIn_r _ [15, 9, 16, 17, 18, 19, 14, 20, 21, 22, 23, 24, 25, 4, 5, 6, 31, 32, 33, 34, 35, 36, 37, 38] rfl (by decide +kernel)
set_option maxRecDepth 20000 in
theorem gX0_passYear_X0_lossIn : GoodIn wsX0_passYear (wsV RX0 42 RX0 yX0_lossIn wsX0_lossIn) := goodIn_app (goodIn_r _ [11, 12, 13, 14] rfl (by decide +kernel)) ggX0_passYear_X0_lossIn
set_option maxRecDepth 20000 in
theorem ggX0_passYear_X4_lostOf : GoodIn wsX0_passYear wsX4_lostOf := goodIn_r _ [27, 28, 29, 23, 30] rfl (by decide +kernel)
set_option maxRecDepth 20000 in
theorem gX0_passYear_X4_lostOf_n45 : GoodIn wsX0_passYear (wsX4_lostOf) := ggX0_passYear_X4_lostOf
set_option maxRecDepth 20000 in
theorem ggX0_passYear_X4_dividedUp : GoodIn wsX0_passYear wsX4_dividedUp := goodIn_r _ [30] rfl (by decide +kernel)
set_option maxRecDepth 20000 in
theorem gX0_passYear_X4_dividedUp_n34 : GoodIn wsX0_passYear (wsX4_dividedUp) := ggX0_passYear_X4_dividedUp
set_option maxRecDepth 20000 in
theorem ggX1_add_X0_cost : GoodIn wsX1_add wsX0_cost := goodIn_r _ [21, 22, 23, 24, 25, 20, 26, 27, 28, 29, 30, 39, 40, 41, 42, 43, 44, 45, 46] rfl (by decide +kernel)
set_option maxRecDepth 20000 in
theorem gX1_add_X0_cost : GoodIn wsX1_add (wsV RX1 48 RX0 yX0_cost wsX0_cost) := goodIn_app (goodIn_r _ [17, 18, 19, 20] rfl (by decide +kernel)) ggX1_add_X0_cost
set_option maxRecDepth 20000 in
theorem ggX1_add_X0_age : GoodIn wsX1_add wsX0_age := goodIn_r _ [26, 27, 39, 40, 41, 42, 43, 44, 45, 46] rfl (by decide +kernel)
set_option maxRecDepth 20000 in
theorem gX1_add_X0_age : GoodIn wsX1_add (wsV RX1 51 RX0 yX0_age wsX0_age) := goodIn_app (goodIn_r _ [31, 24, 25, 20] rfl (by decide +kernel)) ggX1_add_X0_age
set_option maxRecDepth 20000 in
theorem ggX2_init_X2_reset : GoodIn wsX2_init wsX2_reset := goodIn_r _ [11, 5, 6, 12, 13, 14, 15, 16, 17] rfl (by decide +kernel)
set_option maxRecDepth 20000 in
theorem gX2_init_X2_reset : GoodIn wsX2_init (wsV RX2 18 RX2 yX2_reset wsX2_reset) := goodIn_app (goodIn_r _ [7, 8, 9, 10] rfl (by decide +kernel)) ggX2_init_X2_reset
set_option maxRecDepth 20000 in
theorem ggX2_take_X2_fit : GoodIn wsX2_take wsX2_fit := goodIn_r _ [7, 8, 9, 2, 1, 10, 11, 12, 6, 13, 14, 15, 16, 17, 18, 19, 20, 21] rfl (by decide +kernel)
set_option maxRecDepth 20000 in
theorem gX2_take_X2_fit : GoodIn wsX2_take (wsV RX2 28 RX2 yX2_fit wsX2_fit) := goodIn_app (goodIn_r _ [3, 4, 5, 6] rfl (by decide +kernel)) ggX2_take_X2_fit
set_option maxRecDepth 20000 in
theorem ggX2_fit_X2_ties : GoodIn wsX2_fit wsX2_ties := goodIn_r _ [9, 2, 14, 15, 16, 17] rfl (by decide +kernel)
set_option maxRecDepth 20000 in
theorem gX2_fit_X2_ties : GoodIn wsX2_fit (wsV RX2 32 RX2 yX2_ties wsX2_ties) := goodIn_app (goodIn_r _ [5, 6, 7, 8] rfl (by decide +kernel)) ggX2_fit_X2_ties
set_option maxRecDepth 20000 in
theorem ggX2_fit_X2_join : GoodIn wsX2_fit wsX2_join := goodIn_r _ [13, 2, 1, 14, 15, 16, 17] rfl (by decide +kernel)
set_option maxRecDepth 20000 in
theorem gX2_fit_X2_join : GoodIn wsX2_fit (wsV RX2 36 RX2 yX2_join wsX2_join) := goodIn_app (goodIn_r _ [10, 11, 12, 8] rfl (by decide +kernel)) ggX2_fit_X2_join
set_option maxRecDepth 20000 in
theorem ggX3_isMetBy_X3_isOldEnough : GoodIn wsX3_isMetBy wsX3_isOldEnough := goodIn_r _ [10, 11, 2, 21, 22, 23, 24, 25, 26, 27, 28] rfl (by decide +kernel)
set_option maxRecDepth 20000 in
theorem gX3_isMetBy_X3_isOldEnough : GoodIn wsX3_isMetBy (wsV RX3 25 RX3 yX3_isOldEnough wsX3_isOldEnough) := goodIn_app (goodIn_r _ [6, 7, 8, 9] rfl (by decide +kernel)) ggX3_isMetBy_X3_isOldEnough
set_option maxRecDepth 20000 in
theorem ggX3_isMetBy_X1_evenly : GoodIn wsX3_isMetBy wsX1_evenly := goodIn_r _ [16, 17, 21, 22, 23, 24, 25, 26, 27] rfl (by decide +kernel)
set_option maxRecDepth 20000 in
theorem gX3_isMetBy_X1_evenly : GoodIn wsX3_isMetBy (wsV RX3 32 RX1 yX1_evenly wsX1_evenly) := goodIn_app (goodIn_r _ [12, 13, 14, 15] rfl (by decide +kernel)) ggX3_isMetBy_X1_evenly
set_option maxRecDepth 20000 in
theorem ggX3_isMetBy_X4_isWithin : GoodIn wsX3_isMetBy wsX4_isWithin := goodIn_r _ [20] rfl (by decide +kernel)
set_option maxRecDepth 20000 in
theorem gX3_isMetBy_X4_isWithin_n36 : GoodIn wsX3_isMetBy (wsX4_isWithin) := ggX3_isMetBy_X4_isWithin
set_option maxRecDepth 20000 in
theorem ggX4_init_X3_init : GoodIn wsX4_init wsX3_init := goodIn_r _ [27, 28, 2, 3, 6, 29, 57] rfl (by decide +kernel)
set_option maxRecDepth 20000 in
theorem gX4_init_X3_init_n21 : GoodIn wsX4_init (wsX3_init) := ggX4_init_X3_init
set_option maxRecDepth 20000 in
theorem ggX4_init_X1_init : GoodIn wsX4_init wsX1_init := goodIn_r _ [31, 32, 2, 3] rfl (by decide +kernel)
set_option maxRecDepth 20000 in
theorem gX4_init_X1_init_n28 : GoodIn wsX4_init (wsX1_init) := ggX4_init_X1_init
set_option maxRecDepth 20000 in
theorem ggX4_init_X2_init : GoodIn wsX4_init wsX2_init := goodIn_r _ [35, 36, 2, 3, 6, 37, 38, 39, 40, 41, 18, 42, 43, 44, 65, 66, 67, 68] rfl (by decide +kernel)
set_option maxRecDepth 20000 in
theorem gX4_init_X2_init : GoodIn wsX4_init (wsX2_init) := ggX4_init_X2_init
set_option maxRecDepth 20000 in
theorem ggX4_init_X0_init : GoodIn wsX4_init wsX0_init := goodIn_r _ [46, 47, 2, 3] rfl (by decide +kernel)
set_option maxRecDepth 20000 in
theorem gX4_init_X0_init_n54 : GoodIn wsX4_init (wsX0_init) := ggX4_init_X0_init
set_option maxRecDepth 20000 in
theorem ggX4_lay_X4_isWithin : GoodIn wsX4_lay wsX4_isWithin := goodIn_r _ [7] rfl (by decide +kernel)
set_option maxRecDepth 20000 in
theorem gX4_lay_X4_isWithin : GoodIn wsX4_lay (va_wsS RX4 55 yX4_isWithin wsX4_isWithin) := goodIn_app (goodIn_r _ [4, 5, 6] rfl (by decide +kernel)) ggX4_lay_X4_isWithin
set_option maxRecDepth 20000 in
theorem ggX4_lay_X0_fill : GoodIn wsX4_lay wsX0_fill := goodIn_r _ [12, 13, 14, 15, 16, 17, 18, 28, 29, 30, 31, 32, 33, 34, 35] rfl (by decide +kernel)
set_option maxRecDepth 20000 in
theorem gX4_lay_X0_fill : GoodIn wsX4_lay (wsV RX4 59 RX0 yX0_fill wsX0_fill) := goodIn_app (goodIn_r _ [8, 9, 10, 11] rfl (by decide +kernel)) ggX4_lay_X0_fill
set_option maxRecDepth 20000 in
theorem ggX4_years_X4_isWithin : GoodIn wsX4_years wsX4_isWithin := goodIn_r _ [5] rfl (by decide +kernel)
set_option maxRecDepth 20000 in
theorem gX4_years_X4_isWithin : GoodIn wsX4_years (va_wsS RX4 55 yX4_isWithin wsX4_isWithin) := goodIn_app (goodIn_r _ [2, 3, 4] rfl (by decide +kernel)) ggX4_years_X4_isWithin
set_option maxRecDepth 20000 in
theorem ggX4_years_X4_passYear : GoodIn wsX4_years wsX4_passYear := goodIn_r _ [9, 10, 11, 12, 1, 13, 14, 15, 16, 17, 18, 19, 20, 21, 22, 23, 24, 25, 26, 27, 28, 29, 30, 31, 32, 33, 34, 35, 36, 37, 38, 4, 39, 40, 41, 42, 43, 44, 45, 46, 47, 48, 49, 50, 51, 52, 53, 54, 55, 56, 57, 58, 59, 60, 61, 62] rfl (by decide +kernel)
set_option maxRecDepth 20000 in
theorem gX4_years_X4_passYear : GoodIn wsX4_years (wsV RX4 63 RX4 yX4_passYear wsX4_passYear) := goodIn_app (goodIn_r _ [6, 7, 8, 4] rfl (by decide +kernel)) ggX4_years_X4_passYear
set_option maxRecDepth 20000 in
theorem ggX4_loss_X4_isCask : GoodIn wsX4_loss wsX4_isCask := goodIn_r _ [9, 10, 11, 12, 8, 13, 21, 22, 23, 24, 25, 26, 27, 28, 29] rfl (by decide +kernel)
set_option maxRecDepth 20000 in
theorem gX4_loss_X4_isCask : GoodIn wsX4_loss (wsV RX4 66 RX4 yX4_isCask wsX4_isCask) := goodIn_app (goodIn_r _ [5, 6, 7, 8] rfl (by decide +kernel)) ggX4_loss_X4_isCask
set_option maxRecDepth 20000 in
theorem ggX4_loss_X4_isWithin : GoodIn wsX4_loss wsX4_isWithin := goodIn_r _ [13] rfl (by decide +kernel)
set_option maxRecDepth 20000 in
theorem gX4_loss_X4_isWithin : GoodIn wsX4_loss (va_wsS RX4 55 yX4_isWithin wsX4_isWithin) := goodIn_app (goodIn_r _ [11, 12, 8] rfl (by decide +kernel)) ggX4_loss_X4_isWithin
set_option maxRecDepth 20000 in
theorem ggX4_loss_X4_lossBy : GoodIn wsX4_loss wsX4_lossBy := goodIn_r _ [16, 17, 18, 19, 20] rfl (by decide +kernel)
set_option maxRecDepth 20000 in
theorem gX4_loss_X4_lossBy : GoodIn wsX4_loss (va_wsS RX4 76 yX4_lossBy wsX4_lossBy) := goodIn_app (goodIn_r _ [14, 15, 8] rfl (by decide +kernel)) ggX4_loss_X4_lossBy
set_option maxRecDepth 20000 in
theorem ggX4_about_X4_isCask : GoodIn wsX4_about wsX4_isCask := goodIn_r _ [14, 15, 16, 17, 13, 18, 33, 34, 35, 36, 37, 38, 39, 40, 41] rfl (by decide +kernel)
set_option maxRecDepth 20000 in
theorem gX4_about_X4_isCask : GoodIn wsX4_about (wsV RX4 66 RX4 yX4_isCask wsX4_isCask) := goodIn_app (goodIn_r _ [10, 11, 12, 13] rfl (by decide +kernel)) ggX4_about_X4_isCask
set_option maxRecDepth 20000 in
theorem ggX4_about_X0_age : GoodIn wsX4_about wsX0_age := goodIn_r _ [23, 24, 42, 43, 44, 45, 46, 47, 48, 49] rfl (by decide +kernel)
set_option maxRecDepth 20000 in
theorem gX4_about_X0_age : GoodIn wsX4_about (wsV RX4 86 RX0 yX0_age wsX0_age) := goodIn_app (goodIn_r _ [19, 20, 21, 22] rfl (by decide +kernel)) ggX4_about_X0_age
set_option maxRecDepth 20000 in
theorem ggX4_about_X0_cost : GoodIn wsX4_about wsX0_cost := goodIn_r _ [28, 29, 30, 20, 21, 22, 23, 24, 31, 13, 32, 42, 43, 44, 45, 46, 47, 48, 49] rfl (by decide +kernel)
set_option maxRecDepth 20000 in
theorem gX4_about_X0_cost : GoodIn wsX4_about (wsV RX4 102 RX0 yX0_cost wsX0_cost) := goodIn_app (goodIn_r _ [25, 26, 27, 22] rfl (by decide +kernel)) ggX4_about_X0_cost
set_option maxRecDepth 20000 in
theorem ggX4_move_X4_isCask : GoodIn wsX4_move wsX4_isCask := goodIn_r _ [7, 8, 9, 10, 6, 11, 12, 13, 14, 15, 16, 17, 18, 19, 20] rfl (by decide +kernel)
set_option maxRecDepth 20000 in
theorem gX4_move_X4_isCask : GoodIn wsX4_move (wsV RX4 66 RX4 yX4_isCask wsX4_isCask) := goodIn_app (goodIn_r _ [3, 4, 5, 6] rfl (by decide +kernel)) ggX4_move_X4_isCask
set_option maxRecDepth 20000 in
theorem ggX4_move_X4_isWithin : GoodIn wsX4_move wsX4_isWithin := goodIn_r _ [11] rfl (by decide +kernel)
set_option maxRecDepth 20000 in
theorem gX4_move_X4_isWithin : GoodIn wsX4_move (va_wsS RX4 55 yX4_isWithin wsX4_isWithin) := goodIn_app (goodIn_r _ [9, 10, 6] rfl (by decide +kernel)) ggX4_move_X4_isWithin
set_option maxRecDepth 20000 in
theorem ggX4_draw_X4_isCask : GoodIn wsX4_draw wsX4_isCask := goodIn_r _ [7, 8, 9, 10, 6, 11, 12, 13, 14, 15, 16, 17, 18, 19, 20] rfl (by decide +kernel)
set_option maxRecDepth 20000 in
theorem gX4_draw_X4_isCask : GoodIn wsX4_draw (wsV RX4 66 RX4 yX4_isCask wsX4_isCask) := goodIn_app (goodIn_r _ [3, 4, 5, 6] rfl (by decide +kernel)) ggX4_draw_X4_isCask
set_option maxRecDepth 20000 in
theorem ggX4_draw_X4_isWithin : GoodIn wsX4_draw wsX4_isWithin := goodIn_r _ [11] rfl (by decide +kernel)
set_option maxRecDepth 20000 in
theorem gX4_draw_X4_isWithin : GoodIn wsX4_draw (va_wsS RX4 55 yX4_isWithin wsX4_isWithin) := goodIn_app (goodIn_r _ [9, 10, 6] rfl (by decide +kernel)) ggX4_draw_X4_isWithin
set_option maxRecDepth 20000 in
theorem ggX4_want_X4_isWithin : GoodIn wsX4_want wsX4_isWithin := goodIn_r _ [6] rfl (by decide +kernel)
set_option maxRecDepth 20000 in
theorem gX4_want_X4_isWithin : GoodIn wsX4_want (va_wsS RX4 55 yX4_isWithin wsX4_isWithin) := goodIn_app (goodIn_r _ [3, 4, 5] rfl (by decide +kernel)) ggX4_want_X4_isWithin
set_option maxRecDepth 20000 in
theorem ggX4_want_X3_most : GoodIn wsX4_want wsX3_most := goodIn_r _ [10, 11] rfl (by decide +kernel)
set_option maxRecDepth 20000 in
theorem gX4_want_X3_most : GoodIn wsX4_want (va_wsS RX4 105 yX3_most wsX3_most) := goodIn_app (goodIn_r _ [7, 8, 9] rfl (by decide +kernel)) ggX4_want_X3_most
set_option maxRecDepth 20000 in
theorem ggX4_blend_X4_isSet : GoodIn wsX4_blend wsX4_isSet := goodIn_r _ [14, 15, 16, 17, 13, 18, 88, 89, 90, 91, 92, 93, 94, 95, 96] rfl (by decide +kernel)
set_option maxRecDepth 20000 in
theorem gX4_blend_X4_isSet : GoodIn wsX4_blend (wsV RX4 111 RX4 yX4_isSet wsX4_isSet) := goodIn_app (goodIn_r _ [10, 11, 12, 13] rfl (by decide +kernel)) ggX4_blend_X4_isSet
set_option maxRecDepth 20000 in
theorem ggX4_blend_X4_gather : GoodIn wsX4_blend wsX4_gather := goodIn_r _ [22, 1, 15, 23, 24, 25, 2, 26, 27, 28, 29, 30, 31, 32, 33, 34, 35, 36, 37, 38, 39, 13, 40, 41, 42, 43, 44, 45, 46, 47, 48, 49, 50, 51, 52, 53, 54, 55, 56, 57, 58, 59, 60, 61, 62, 63, 64, 65, 66, 67, 88, 89, 90, 91, 92, 93, 94, 95, 96, 104, 105, 106, 107, 108, 109, 110, 111, 97, 98, 99, 100, 101, 102, 103] rfl (by decide +kernel)
set_option maxRecDepth 20000 in
theorem gX4_blend_X4_gather : GoodIn wsX4_blend (wsV RX4 114 RX4 yX4_gather wsX4_gather) := goodIn_app (goodIn_r _ [19, 20, 21, 13] rfl (by decide +kernel)) ggX4_blend_X4_gather
set_option maxRecDepth 20000 in
theorem ggX4_blend_X1_evenly : GoodIn wsX4_blend wsX1_evenly := goodIn_r _ [71, 31, 97, 98, 99, 100, 101, 102, 103] rfl (by decide +kernel)
set_option maxRecDepth 20000 in
theorem gX4_blend_X1_evenly : GoodIn wsX4_blend (wsV RX4 121 RX1 yX1_evenly wsX1_evenly) := goodIn_app (goodIn_r _ [68, 69, 70, 29] rfl (by decide +kernel)) ggX4_blend_X1_evenly
set_option maxRecDepth 20000 in
theorem ggX4_blend_X3_isMetBy : GoodIn wsX4_blend wsX3_isMetBy := goodIn_r _ [76, 77, 78, 79, 80, 81, 82, 83, 84, 75, 85, 86, 87, 69, 70, 29, 71, 31, 17, 13, 18, 97, 98, 99, 100, 101, 102, 103, 112] rfl (by decide +kernel)
set_option maxRecDepth 20000 in
theorem gX4_blend_X3_isMetBy : GoodIn wsX4_blend (wsV RX4 137 RX3 yX3_isMetBy wsX3_isMetBy) := goodIn_app (goodIn_r _ [72, 73, 74, 75] rfl (by decide +kernel)) ggX4_blend_X3_isMetBy
set_option maxRecDepth 20000 in
theorem ggX4_best_X4_isWithin : GoodIn wsX4_best wsX4_isWithin := goodIn_r _ [6] rfl (by decide +kernel)
set_option maxRecDepth 20000 in
theorem gX4_best_X4_isWithin : GoodIn wsX4_best (va_wsS RX4 55 yX4_isWithin wsX4_isWithin) := goodIn_app (goodIn_r _ [3, 4, 5] rfl (by decide +kernel)) ggX4_best_X4_isWithin
set_option maxRecDepth 20000 in
theorem ggX4_best_X4_bestSet : GoodIn wsX4_best wsX4_bestSet := goodIn_r _ [10, 11, 1, 2, 12, 13, 14, 15, 5, 16, 17, 18, 19, 20, 21, 22, 23, 24, 25, 26, 27, 28, 29, 30, 31, 32, 33, 34, 35, 36, 37, 38, 39, 40, 41, 42, 43, 44, 45, 46, 47, 48, 49, 50, 51, 52, 53, 54, 55, 56, 57, 58, 59, 60, 61, 62, 63, 64, 65, 66, 67, 68, 69, 70, 71, 72, 73, 74, 75, 76, 77, 78, 79, 80, 81, 82, 4, 6, 83, 84, 85, 86, 87, 88, 89, 90, 91, 92, 93, 94, 95, 96, 97, 98, 99, 100, 101, 102, 103, 104, 105, 106, 107] rfl (by decide +kernel)
set_option maxRecDepth 20000 in
theorem gX4_best_X4_bestSet : GoodIn wsX4_best (wsV RX4 141 RX4 yX4_bestSet wsX4_bestSet) := goodIn_app (goodIn_r _ [7, 8, 9, 5] rfl (by decide +kernel)) ggX4_best_X4_bestSet
set_option maxRecDepth 20000 in
theorem ggX4_best_X4_gather : GoodIn wsX4_best wsX4_gather := goodIn_r _ [16, 1, 11, 17, 18, 19, 20, 21, 22, 23, 24, 25, 26, 27, 28, 29, 30, 31, 32, 33, 34, 5, 35, 36, 37, 38, 39, 40, 41, 42, 43, 44, 45, 46, 47, 48, 49, 50, 51, 52, 53, 54, 55, 56, 57, 58, 59, 60, 61, 62, 83, 84, 85, 86, 87, 88, 89, 90, 91, 99, 100, 101, 102, 103, 104, 105, 106, 92, 93, 94, 95, 96, 97, 98] rfl (by decide +kernel)
set_option maxRecDepth 20000 in
theorem gX4_best_X4_gather : GoodIn wsX4_best (wsV RX4 114 RX4 yX4_gather wsX4_gather) := goodIn_app (goodIn_r _ [13, 14, 15, 5] rfl (by decide +kernel)) ggX4_best_X4_gather
set_option maxRecDepth 20000 in
theorem ggX4_lasts_X4_isWithin : GoodIn wsX4_lasts wsX4_isWithin := goodIn_r _ [9] rfl (by decide +kernel)
set_option maxRecDepth 20000 in
theorem gX4_lasts_X4_isWithin : GoodIn wsX4_lasts (va_wsS RX4 55 yX4_isWithin wsX4_isWithin) := goodIn_app (goodIn_r _ [6, 7, 8] rfl (by decide +kernel)) ggX4_lasts_X4_isWithin
set_option maxRecDepth 20000 in
theorem ggX4_lasts_X4_takeAhead : GoodIn wsX4_lasts wsX4_takeAhead := goodIn_r _ [13, 1, 3, 2, 14, 15, 16, 17, 18, 19, 20, 21, 22, 23, 46, 47, 48, 49, 50, 51, 52, 53, 54, 55, 56, 57, 58, 59, 60, 61, 62] rfl (by decide +kernel)
set_option maxRecDepth 20000 in
theorem gX4_lasts_X4_takeAhead : GoodIn wsX4_lasts (wsV RX4 145 RX4 yX4_takeAhead wsX4_takeAhead) := goodIn_app (goodIn_r _ [10, 11, 12, 8] rfl (by decide +kernel)) ggX4_lasts_X4_takeAhead
set_option maxRecDepth 20000 in
theorem ggX4_lasts_X4_passYearAhead : GoodIn wsX4_lasts wsX4_passYearAhead := goodIn_r _ [27, 1, 2, 3, 28, 29, 30, 21, 31, 32, 33, 34, 19, 20, 22, 23, 35, 8, 36, 37, 38, 16, 39, 40, 41, 42, 43, 44, 45, 46, 47, 48, 49, 50, 51, 52, 53, 54, 55, 56, 57, 58, 59, 60, 61, 62] rfl (by decide +kernel)
set_option maxRecDepth 20000 in
theorem gX4_lasts_X4_passYearAhead : GoodIn wsX4_lasts (wsV RX4 148 RX4 yX4_passYearAhead wsX4_passYearAhead) := goodIn_app (goodIn_r _ [24, 25, 26, 8] rfl (by decide +kernel)) ggX4_lasts_X4_passYearAhead
set_option maxRecDepth 20000 in
theorem ggX4_cut_X4_isCask : GoodIn wsX4_cut wsX4_isCask := goodIn_r _ [12, 13, 14, 15, 11, 16, 20, 21, 22, 23, 24, 25, 26, 27, 28] rfl (by decide +kernel)
set_option maxRecDepth 20000 in
theorem gX4_cut_X4_isCask : GoodIn wsX4_cut (wsV RX4 66 RX4 yX4_isCask wsX4_isCask) := goodIn_app (goodIn_r _ [8, 9, 10, 11] rfl (by decide +kernel)) ggX4_cut_X4_isCask
set_option maxRecDepth 20000 in
theorem ggX4_cut_X4_isWithin : GoodIn wsX4_cut wsX4_isWithin := goodIn_r _ [16] rfl (by decide +kernel)
set_option maxRecDepth 20000 in
theorem gX4_cut_X4_isWithin : GoodIn wsX4_cut (va_wsS RX4 55 yX4_isWithin wsX4_isWithin) := goodIn_app (goodIn_r _ [14, 15, 11] rfl (by decide +kernel)) ggX4_cut_X4_isWithin
set_option maxRecDepth 20000 in
theorem ggX4_cut_X4_dividedUp : GoodIn wsX4_cut wsX4_dividedUp := goodIn_r _ [19] rfl (by decide +kernel)
set_option maxRecDepth 20000 in
theorem gX4_cut_X4_dividedUp : GoodIn wsX4_cut (va_wsS RX4 158 yX4_dividedUp wsX4_dividedUp) := goodIn_app (goodIn_r _ [17, 18, 11] rfl (by decide +kernel)) ggX4_cut_X4_dividedUp
set_option maxRecDepth 20000 in
theorem ggX4_rate_X4_isWithin : GoodIn wsX4_rate wsX4_isWithin := goodIn_r _ [5] rfl (by decide +kernel)
set_option maxRecDepth 20000 in
theorem gX4_rate_X4_isWithin : GoodIn wsX4_rate (va_wsS RX4 55 yX4_isWithin wsX4_isWithin) := goodIn_app (goodIn_r _ [2, 3, 4] rfl (by decide +kernel)) ggX4_rate_X4_isWithin
set_option maxRecDepth 20000 in
theorem ggX4_duty_X4_isSet : GoodIn wsX4_duty wsX4_isSet := goodIn_r _ [10, 1, 11, 12, 9, 13, 17, 18, 19, 20, 21, 22, 23, 24, 25] rfl (by decide +kernel)
set_option maxRecDepth 20000 in
theorem gX4_duty_X4_isSet : GoodIn wsX4_duty (wsV RX4 111 RX4 yX4_isSet wsX4_isSet) := goodIn_app (goodIn_r _ [6, 7, 8, 9] rfl (by decide +kernel)) ggX4_duty_X4_isSet
set_option maxRecDepth 20000 in
theorem ggX4_duty_X4_holds : GoodIn wsX4_duty wsX4_holds := goodIn_r _ [16] rfl (by decide +kernel)
set_option maxRecDepth 20000 in
theorem gX4_duty_X4_holds : GoodIn wsX4_duty (va_wsS RX4 161 yX4_holds wsX4_holds) := goodIn_app (goodIn_r _ [14, 15, 9] rfl (by decide +kernel)) ggX4_duty_X4_holds
set_option maxRecDepth 20000 in
theorem ggX4_odds_X4_isTriangle : GoodIn wsX4_odds wsX4_isTriangle := goodIn_r _ [5, 6, 7, 4, 8] rfl (by decide +kernel)
set_option maxRecDepth 20000 in
theorem gX4_odds_X4_isTriangle : GoodIn wsX4_odds (va_wsS RX4 165 yX4_isTriangle wsX4_isTriangle) := goodIn_app (goodIn_r _ [2, 3, 4] rfl (by decide +kernel)) ggX4_odds_X4_isTriangle
set_option maxRecDepth 20000 in
theorem ggX4_odds_X4_ways : GoodIn wsX4_odds wsX4_ways := goodIn_r _ [11, 12] rfl (by decide +kernel)
set_option maxRecDepth 20000 in
theorem gX4_odds_X4_ways : GoodIn wsX4_odds (va_wsS RX4 168 yX4_ways wsX4_ways) := goodIn_app (goodIn_r _ [9, 10, 4] rfl (by decide +kernel)) ggX4_odds_X4_ways
set_option maxRecDepth 20000 in
theorem ggX4_apart_X4_isTriangle : GoodIn wsX4_apart wsX4_isTriangle := goodIn_r _ [5, 6, 7, 4, 8] rfl (by decide +kernel)
set_option maxRecDepth 20000 in
theorem gX4_apart_X4_isTriangle : GoodIn wsX4_apart (va_wsS RX4 165 yX4_isTriangle wsX4_isTriangle) := goodIn_app (goodIn_r _ [2, 3, 4] rfl (by decide +kernel)) ggX4_apart_X4_isTriangle
set_option maxRecDepth 20000 in
theorem ggX4_apart_X4_ways : GoodIn wsX4_apart wsX4_ways := goodIn_r _ [11, 12] rfl (by decide +kernel)
set_option maxRecDepth 20000 in
theorem gX4_apart_X4_ways : GoodIn wsX4_apart (va_wsS RX4 168 yX4_ways wsX4_ways) := goodIn_app (goodIn_r _ [9, 10, 4] rfl (by decide +kernel)) ggX4_apart_X4_ways
set_option maxRecDepth 20000 in
theorem ggX4_read_X4_isNose : GoodIn wsX4_read wsX4_isNose := goodIn_r _ [6, 7, 8, 5, 9] rfl (by decide +kernel)
set_option maxRecDepth 20000 in
theorem gX4_read_X4_isNose : GoodIn wsX4_read (va_wsS RX4 176 yX4_isNose wsX4_isNose) := goodIn_app (goodIn_r _ [3, 4, 5] rfl (by decide +kernel)) ggX4_read_X4_isNose
set_option maxRecDepth 20000 in
theorem ggX4_read_X4_isWithin : GoodIn wsX4_read wsX4_isWithin := goodIn_r _ [9] rfl (by decide +kernel)
set_option maxRecDepth 20000 in
theorem gX4_read_X4_isWithin : GoodIn wsX4_read (va_wsS RX4 55 yX4_isWithin wsX4_isWithin) := goodIn_app (goodIn_r _ [7, 8, 5] rfl (by decide +kernel)) ggX4_read_X4_isWithin
set_option maxRecDepth 20000 in
theorem ggX4_read_X2_take : GoodIn wsX4_read wsX2_take := goodIn_r _ [14, 15, 16, 17, 18, 19, 13, 20, 21, 22, 23, 24, 25, 26, 27, 28, 29, 30, 40, 41, 42, 43] rfl (by decide +kernel)
set_option maxRecDepth 20000 in
theorem gX4_read_X2_take : GoodIn wsX4_read (wsV RX4 182 RX2 yX2_take wsX2_take) := goodIn_app (goodIn_r _ [10, 11, 12, 13] rfl (by decide +kernel)) ggX4_read_X2_take
set_option maxRecDepth 20000 in
theorem ggX4_clear_X2_reset : GoodIn wsX4_clear wsX2_reset := goodIn_r _ [7, 8, 9, 10, 11, 21, 22, 23, 24] rfl (by decide +kernel)
set_option maxRecDepth 20000 in
theorem gX4_clear_X2_reset : GoodIn wsX4_clear (wsV RX4 186 RX2 yX2_reset wsX2_reset) := goodIn_app (goodIn_r _ [3, 4, 5, 6] rfl (by decide +kernel)) ggX4_clear_X2_reset
set_option maxRecDepth 20000 in
theorem ggX4_hang_X4_isNose : GoodIn wsX4_hang wsX4_isNose := goodIn_r _ [8, 9, 10, 7, 11] rfl (by decide +kernel)
set_option maxRecDepth 20000 in
theorem gX4_hang_X4_isNose : GoodIn wsX4_hang (va_wsS RX4 176 yX4_isNose wsX4_isNose) := goodIn_app (goodIn_r _ [5, 6, 7] rfl (by decide +kernel)) ggX4_hang_X4_isNose
set_option maxRecDepth 20000 in
theorem ggX4_hang_X4_isWithin : GoodIn wsX4_hang wsX4_isWithin := goodIn_r _ [11] rfl (by decide +kernel)
set_option maxRecDepth 20000 in
theorem gX4_hang_X4_isWithin : GoodIn wsX4_hang (va_wsS RX4 55 yX4_isWithin wsX4_isWithin) := goodIn_app (goodIn_r _ [9, 10, 7] rfl (by decide +kernel)) ggX4_hang_X4_isWithin
set_option maxRecDepth 20000 in
theorem ggX4_hang_X2_ties : GoodIn wsX4_hang wsX2_ties := goodIn_r _ [16, 17, 27, 28, 29, 30] rfl (by decide +kernel)
set_option maxRecDepth 20000 in
theorem gX4_hang_X2_ties : GoodIn wsX4_hang (wsV RX4 193 RX2 yX2_ties wsX2_ties) := goodIn_app (goodIn_r _ [12, 13, 14, 15] rfl (by decide +kernel)) ggX4_hang_X2_ties
set_option maxRecDepth 20000 in
theorem ggX4_count_X4_notEmpty : GoodIn wsX4_count wsX4_notEmpty := goodIn_r _ [10, 2, 11, 12, 17, 18, 19, 20, 21, 22, 23, 24, 25, 30, 31, 32, 33, 34, 35, 36, 37] rfl (by decide +kernel)
set_option maxRecDepth 20000 in
theorem gX4_count_X4_notEmpty : GoodIn wsX4_count (wsV RX4 200 RX4 yX4_notEmpty wsX4_notEmpty) := goodIn_app (goodIn_r _ [6, 7, 8, 9] rfl (by decide +kernel)) ggX4_count_X4_notEmpty
set_option maxRecDepth 20000 in
theorem ggX4_count_X4_allDrops : GoodIn wsX4_count wsX4_allDrops := goodIn_r _ [16, 2, 11, 12, 17, 18, 19, 20, 21, 22, 23, 24, 25, 30, 31, 32, 33, 34, 35, 36, 37] rfl (by decide +kernel)
set_option maxRecDepth 20000 in
theorem gX4_count_X4_allDrops : GoodIn wsX4_count (wsV RX4 203 RX4 yX4_allDrops wsX4_allDrops) := goodIn_app (goodIn_r _ [13, 14, 15, 9] rfl (by decide +kernel)) ggX4_count_X4_allDrops
set_option maxRecDepth 20000 in
theorem ggX4_isCask_X4_isWithin : GoodIn wsX4_isCask wsX4_isWithin := goodIn_r _ [5] rfl (by decide +kernel)
set_option maxRecDepth 20000 in
theorem gX4_isCask_X4_isWithin : GoodIn wsX4_isCask (va_wsS RX4 55 yX4_isWithin wsX4_isWithin) := goodIn_app (goodIn_r _ [2, 3, 4] rfl (by decide +kernel)) ggX4_isCask_X4_isWithin
set_option maxRecDepth 20000 in
theorem ggX4_isSet_X4_isWithin : GoodIn wsX4_isSet wsX4_isWithin := goodIn_r _ [5] rfl (by decide +kernel)
set_option maxRecDepth 20000 in
theorem gX4_isSet_X4_isWithin : GoodIn wsX4_isSet (va_wsS RX4 55 yX4_isWithin wsX4_isWithin) := goodIn_app (goodIn_r _ [2, 3, 4] rfl (by decide +kernel)) ggX4_isSet_X4_isWithin
set_option maxRecDepth 20000 in
theorem ggX4_isNose_X4_isWithin : GoodIn wsX4_isNose wsX4_isWithin := goodIn_r _ [4] rfl (by decide +kernel)
set_option maxRecDepth 20000 in
theorem gX4_isNose_X4_isWithin : GoodIn wsX4_isNose (va_wsS RX4 55 yX4_isWithin wsX4_isWithin) := goodIn_app (goodIn_r _ [1, 2, 3] rfl (by decide +kernel)) ggX4_isNose_X4_isWithin
set_option maxRecDepth 20000 in
theorem ggX4_isTriangle_X4_isWithin : GoodIn wsX4_isTriangle wsX4_isWithin := goodIn_r _ [4] rfl (by decide +kernel)
set_option maxRecDepth 20000 in
theorem gX4_isTriangle_X4_isWithin : GoodIn wsX4_isTriangle (va_wsS RX4 55 yX4_isWithin wsX4_isWithin) := goodIn_app (goodIn_r _ [1, 2, 3] rfl (by decide +kernel)) ggX4_isTriangle_X4_isWithin
set_option maxRecDepth 20000 in
theorem ggX4_lostOf_X4_dividedUp : GoodIn wsX4_lostOf wsX4_dividedUp := goodIn_r _ [4] rfl (by decide +kernel)
set_option maxRecDepth 20000 in
theorem gX4_lostOf_X4_dividedUp : GoodIn wsX4_lostOf (va_wsS RX4 158 yX4_dividedUp wsX4_dividedUp) := goodIn_app (goodIn_r _ [1, 2, 3] rfl (by decide +kernel)) ggX4_lostOf_X4_dividedUp
set_option maxRecDepth 20000 in
theorem ggX4_passYear_X0_passYear : GoodIn wsX4_passYear wsX0_passYear := goodIn_r _ [9, 10, 11, 12, 13, 14, 15, 16, 17, 18, 19, 20, 21, 22, 8, 23, 24, 25, 26, 27, 28, 29, 30, 31, 32, 33, 34, 35, 36, 37, 38, 48, 49, 50, 51, 52, 53, 54, 55] rfl (by decide +kernel)
set_option maxRecDepth 20000 in
theorem gX4_passYear_X0_passYear : GoodIn wsX4_passYear (wsV RX4 206 RX0 yX0_passYear wsX0_passYear) := goodIn_app (goodIn_r _ [5, 6, 7, 8] rfl (by decide +kernel)) ggX4_passYear_X0_passYear
set_option maxRecDepth 20000 in
theorem ggX4_gather_X1_start : GoodIn wsX4_gather wsX1_start := goodIn_r _ [11, 12, 13, 14, 15, 16, 17, 18, 67, 68, 69, 70, 71, 72, 73] rfl (by decide +kernel)
set_option maxRecDepth 20000 in
theorem gX4_gather_X1_start : GoodIn wsX4_gather (wsV RX4 208 RX1 yX1_start wsX1_start) := goodIn_app (goodIn_r _ [7, 8, 9, 10] rfl (by decide +kernel)) ggX4_gather_X1_start
set_option maxRecDepth 20000 in
theorem ggX4_gather_X4_holds : GoodIn wsX4_gather wsX4_holds := goodIn_r _ [22] rfl (by decide +kernel)
set_option maxRecDepth 20000 in
theorem gX4_gather_X4_holds : GoodIn wsX4_gather (va_wsS RX4 161 yX4_holds wsX4_holds) := goodIn_app (goodIn_r _ [19, 20, 21] rfl (by decide +kernel)) ggX4_gather_X4_holds
set_option maxRecDepth 20000 in
theorem ggX4_gather_X1_add : GoodIn wsX4_gather wsX1_add := goodIn_r _ [26, 12, 27, 13, 28, 14, 29, 15, 30, 16, 31, 17, 18, 32, 33, 34, 35, 36, 37, 38, 39, 40, 41, 42, 43, 44, 45, 46, 47, 21, 48, 49, 67, 68, 69, 70, 71, 72, 73, 59, 60, 61, 62, 63, 64, 65, 66] rfl (by decide +kernel)
set_option maxRecDepth 20000 in
theorem gX4_gather_X1_add : GoodIn wsX4_gather (wsV RX4 211 RX1 yX1_add wsX1_add) := goodIn_app (goodIn_r _ [23, 24, 25, 10] rfl (by decide +kernel)) ggX4_gather_X1_add
set_option maxRecDepth 20000 in
theorem ggX4_bestSet_X4_gather : GoodIn wsX4_bestSet wsX4_gather := goodIn_r _ [9, 2, 1, 10, 11, 12, 13, 14, 15, 16, 17, 18, 19, 20, 21, 22, 23, 24, 25, 26, 27, 8, 28, 29, 30, 31, 32, 33, 34, 35, 36, 37, 38, 39, 40, 41, 42, 43, 44, 45, 46, 47, 48, 49, 50, 51, 52, 53, 54, 55, 78, 79, 80, 81, 82, 83, 84, 85, 86, 94, 95, 96, 97, 98, 99, 100, 101, 87, 88, 89, 90, 91, 92, 93] rfl (by decide +kernel)
set_option maxRecDepth 20000 in
theorem gX4_bestSet_X4_gather : GoodIn wsX4_bestSet (wsV RX4 114 RX4 yX4_gather wsX4_gather) := goodIn_app (goodIn_r _ [5, 6, 7, 8] rfl (by decide +kernel)) ggX4_bestSet_X4_gather
set_option maxRecDepth 20000 in
theorem ggX4_bestSet_X3_isOldEnough : GoodIn wsX4_bestSet wsX3_isOldEnough := goodIn_r _ [60, 61, 62, 87, 88, 89, 90, 91, 92, 93, 102] rfl (by decide +kernel)
set_option maxRecDepth 20000 in
theorem gX4_bestSet_X3_isOldEnough : GoodIn wsX4_bestSet (wsV RX4 215 RX3 yX3_isOldEnough wsX3_isOldEnough) := goodIn_app (goodIn_r _ [56, 57, 58, 59] rfl (by decide +kernel)) ggX4_bestSet_X3_isOldEnough
set_option maxRecDepth 20000 in
theorem ggX4_bestSet_X3_isMetBy : GoodIn wsX4_bestSet wsX3_isMetBy := goodIn_r _ [66, 67, 62, 68, 69, 70, 71, 57, 58, 59, 60, 61, 72, 73, 74, 17, 75, 19, 76, 8, 77, 87, 88, 89, 90, 91, 92, 93, 102] rfl (by decide +kernel)
set_option maxRecDepth 20000 in
theorem gX4_bestSet_X3_isMetBy : GoodIn wsX4_bestSet (wsV RX4 137 RX3 yX3_isMetBy wsX3_isMetBy) := goodIn_app (goodIn_r _ [63, 64, 65, 59] rfl (by decide +kernel)) ggX4_bestSet_X3_isMetBy
set_option maxRecDepth 20000 in
theorem ggX4_takeAhead_X0_age : GoodIn wsX4_takeAhead wsX0_age := goodIn_r _ [12, 13, 23, 24, 25, 26, 27, 28, 29, 30] rfl (by decide +kernel)
set_option maxRecDepth 20000 in
theorem gX4_takeAhead_X0_age : GoodIn wsX4_takeAhead (wsV RX4 86 RX0 yX0_age wsX0_age) := goodIn_app (goodIn_r _ [8, 9, 10, 11] rfl (by decide +kernel)) ggX4_takeAhead_X0_age
set_option maxRecDepth 20000 in
theorem ggX4_passYearAhead_X0_lossIn : GoodIn wsX4_passYearAhead wsX0_lossIn := goodIn_r _ [8, 9, 10, 11, 12, 13, 7, 14, 15, 16, 17, 18, 19, 20, 21, 22, 38, 39, 40, 41, 42, 43, 44, 45] rfl (by decide +kernel)
set_option maxRecDepth 20000 in
theorem gX4_passYearAhead_X0_lossIn : GoodIn wsX4_passYearAhead (wsV RX4 221 RX0 yX0_lossIn wsX0_lossIn) := goodIn_app (goodIn_r _ [4, 5, 6, 7] rfl (by decide +kernel)) ggX4_passYearAhead_X0_lossIn
set_option maxRecDepth 20000 in
theorem ggX4_passYearAhead_X4_lostOf : GoodIn wsX4_passYearAhead wsX4_lostOf := goodIn_r _ [25, 26, 27, 17, 28] rfl (by decide +kernel)
set_option maxRecDepth 20000 in
theorem gX4_passYearAhead_X4_lostOf : GoodIn wsX4_passYearAhead (va_wsS RX4 224 yX4_lostOf wsX4_lostOf) := goodIn_app (goodIn_r _ [23, 24, 17] rfl (by decide +kernel)) ggX4_passYearAhead_X4_lostOf
set_option maxRecDepth 20000 in
theorem ggX5_isCask_X5_in : GoodIn wsX5_isCask wsX5_in := goodIn_r _ [5] rfl (by decide +kernel)
set_option maxRecDepth 20000 in
theorem gX5_isCask_X5_in : GoodIn wsX5_isCask (va_wsS RX5 66 yX5_in wsX5_in) := goodIn_app (goodIn_r _ [2, 3, 4] rfl (by decide +kernel)) ggX5_isCask_X5_in
set_option maxRecDepth 20000 in
theorem ggX5_lay_X5_in : GoodIn wsX5_lay wsX5_in := goodIn_r _ [14] rfl (by decide +kernel)
set_option maxRecDepth 20000 in
theorem gX5_lay_X5_in : GoodIn wsX5_lay (va_wsS RX5 66 yX5_in wsX5_in) := goodIn_app (goodIn_r _ [11, 12, 13] rfl (by decide +kernel)) ggX5_lay_X5_in
set_option maxRecDepth 20000 in
theorem ggX5_oneYear_X5_lossOf : GoodIn wsX5_oneYear wsX5_lossOf := goodIn_r _ [14, 15, 19, 20, 21, 22, 23, 24, 25, 26, 27, 28, 29, 30, 31, 32, 33, 34, 35, 36, 37, 38] rfl (by decide +kernel)
set_option maxRecDepth 20000 in
theorem gX5_oneYear_X5_lossOf : GoodIn wsX5_oneYear (wsV RX5 70 RX5 yX5_lossOf wsX5_lossOf) := goodIn_app (goodIn_r _ [10, 11, 12, 13] rfl (by decide +kernel)) ggX5_oneYear_X5_lossOf
set_option maxRecDepth 20000 in
theorem ggX5_oneYear_X5_lostOf : GoodIn wsX5_oneYear wsX5_lostOf := goodIn_r _ [18] rfl (by decide +kernel)
set_option maxRecDepth 20000 in
theorem gX5_oneYear_X5_lostOf : GoodIn wsX5_oneYear (va_wsS RX5 74 yX5_lostOf wsX5_lostOf) := goodIn_app (goodIn_r _ [16, 17, 13] rfl (by decide +kernel)) ggX5_oneYear_X5_lostOf
set_option maxRecDepth 20000 in
theorem ggX5_years_X5_in : GoodIn wsX5_years wsX5_in := goodIn_r _ [5] rfl (by decide +kernel)
set_option maxRecDepth 20000 in
theorem gX5_years_X5_in : GoodIn wsX5_years (va_wsS RX5 66 yX5_in wsX5_in) := goodIn_app (goodIn_r _ [2, 3, 4] rfl (by decide +kernel)) ggX5_years_X5_in
set_option maxRecDepth 20000 in
theorem ggX5_years_X5_oneYear : GoodIn wsX5_years wsX5_oneYear := goodIn_r _ [9, 10, 11, 12, 1, 13, 14, 15, 16, 17, 18, 19, 20, 4, 21, 22, 23, 24, 25, 26, 27, 28, 29, 30, 31, 32, 33, 34, 35, 36, 37, 38, 39, 40, 41, 42, 43, 44, 45] rfl (by decide +kernel)
set_option maxRecDepth 20000 in
theorem gX5_years_X5_oneYear : GoodIn wsX5_years (wsV RX5 78 RX5 yX5_oneYear wsX5_oneYear) := goodIn_app (goodIn_r _ [6, 7, 8, 4] rfl (by decide +kernel)) ggX5_years_X5_oneYear
set_option maxRecDepth 20000 in
theorem ggX5_loss_X5_isCask : GoodIn wsX5_loss wsX5_isCask := goodIn_r _ [8, 9, 10, 11, 7, 12, 18, 19, 20, 21, 22, 23, 24, 25, 26, 27, 28, 29, 30, 31, 32, 33, 34, 35, 36, 37] rfl (by decide +kernel)
set_option maxRecDepth 20000 in
theorem gX5_loss_X5_isCask : GoodIn wsX5_loss (wsV RX5 81 RX5 yX5_isCask wsX5_isCask) := goodIn_app (goodIn_r _ [4, 5, 6, 7] rfl (by decide +kernel)) ggX5_loss_X5_isCask
set_option maxRecDepth 20000 in
theorem ggX5_loss_X5_in : GoodIn wsX5_loss wsX5_in := goodIn_r _ [12] rfl (by decide +kernel)
set_option maxRecDepth 20000 in
theorem gX5_loss_X5_in : GoodIn wsX5_loss (va_wsS RX5 66 yX5_in wsX5_in) := goodIn_app (goodIn_r _ [10, 11, 7] rfl (by decide +kernel)) ggX5_loss_X5_in
set_option maxRecDepth 20000 in
theorem ggX5_loss_X5_lossOf : GoodIn wsX5_loss wsX5_lossOf := goodIn_r _ [16, 17, 18, 19, 20, 21, 22, 23, 24, 25, 26, 27, 28, 29, 30, 31, 32, 33, 34, 35, 36, 37] rfl (by decide +kernel)
set_option maxRecDepth 20000 in
theorem gX5_loss_X5_lossOf : GoodIn wsX5_loss (wsV RX5 70 RX5 yX5_lossOf wsX5_lossOf) := goodIn_app (goodIn_r _ [13, 14, 15, 7] rfl (by decide +kernel)) ggX5_loss_X5_lossOf
set_option maxRecDepth 20000 in
theorem ggX5_costOf_X5_ageOf : GoodIn wsX5_costOf wsX5_ageOf := goodIn_r _ [6, 7, 8, 9, 10, 11, 12, 13, 14, 15, 16, 17, 18, 19, 20, 21, 22, 23, 24, 25, 26, 27, 28] rfl (by decide +kernel)
set_option maxRecDepth 20000 in
theorem gX5_costOf_X5_ageOf : GoodIn wsX5_costOf (wsV RX5 93 RX5 yX5_ageOf wsX5_ageOf) := goodIn_app (goodIn_r _ [2, 3, 4, 5] rfl (by decide +kernel)) ggX5_costOf_X5_ageOf
set_option maxRecDepth 20000 in
theorem ggX5_about_X5_isCask : GoodIn wsX5_about wsX5_isCask := goodIn_r _ [12, 13, 14, 15, 11, 16, 27, 28, 29, 30, 31, 32, 33, 34, 35, 36, 37, 38, 39, 40, 41, 42, 43, 44, 45, 46] rfl (by decide +kernel)
set_option maxRecDepth 20000 in
theorem gX5_about_X5_isCask : GoodIn wsX5_about (wsV RX5 81 RX5 yX5_isCask wsX5_isCask) := goodIn_app (goodIn_r _ [8, 9, 10, 11] rfl (by decide +kernel)) ggX5_about_X5_isCask
set_option maxRecDepth 20000 in
theorem ggX5_about_X5_ageOf : GoodIn wsX5_about wsX5_ageOf := goodIn_r _ [20, 21, 22, 27, 28, 29, 30, 31, 32, 33, 34, 35, 36, 37, 38, 39, 40, 41, 42, 43, 44, 45, 46] rfl (by decide +kernel)
set_option maxRecDepth 20000 in
theorem gX5_about_X5_ageOf : GoodIn wsX5_about (wsV RX5 93 RX5 yX5_ageOf wsX5_ageOf) := goodIn_app (goodIn_r _ [17, 18, 19, 11] rfl (by decide +kernel)) ggX5_about_X5_ageOf
set_option maxRecDepth 20000 in
theorem ggX5_about_X5_costOf : GoodIn wsX5_about wsX5_costOf := goodIn_r _ [26, 1, 17, 18, 19, 11, 20, 21, 22, 27, 28, 29, 30, 31, 32, 33, 34, 35, 36, 37, 38, 39, 40, 41, 42, 43, 44, 45, 46] rfl (by decide +kernel)
set_option maxRecDepth 20000 in
theorem gX5_about_X5_costOf : GoodIn wsX5_about (wsV RX5 97 RX5 yX5_costOf wsX5_costOf) := goodIn_app (goodIn_r _ [23, 24, 25, 11] rfl (by decide +kernel)) ggX5_about_X5_costOf
set_option maxRecDepth 20000 in
theorem ggX5_move_X5_isCask : GoodIn wsX5_move wsX5_isCask := goodIn_r _ [6, 7, 8, 9, 5, 10, 11, 12, 13, 14, 15, 16, 17, 18, 19, 20, 21, 22, 23, 24, 25, 26, 27, 28, 29, 30] rfl (by decide +kernel)
set_option maxRecDepth 20000 in
theorem gX5_move_X5_isCask : GoodIn wsX5_move (wsV RX5 81 RX5 yX5_isCask wsX5_isCask) := goodIn_app (goodIn_r _ [2, 3, 4, 5] rfl (by decide +kernel)) ggX5_move_X5_isCask
set_option maxRecDepth 20000 in
theorem ggX5_move_X5_in : GoodIn wsX5_move wsX5_in := goodIn_r _ [10] rfl (by decide +kernel)
set_option maxRecDepth 20000 in
theorem gX5_move_X5_in : GoodIn wsX5_move (va_wsS RX5 66 yX5_in wsX5_in) := goodIn_app (goodIn_r _ [8, 9, 5] rfl (by decide +kernel)) ggX5_move_X5_in
set_option maxRecDepth 20000 in
theorem ggX5_draw_X5_isCask : GoodIn wsX5_draw wsX5_isCask := goodIn_r _ [6, 7, 8, 9, 5, 10, 11, 12, 13, 14, 15, 16, 17, 18, 19, 20, 21, 22, 23, 24, 25, 26, 27, 28, 29, 30] rfl (by decide +kernel)
set_option maxRecDepth 20000 in
theorem gX5_draw_X5_isCask : GoodIn wsX5_draw (wsV RX5 81 RX5 yX5_isCask wsX5_isCask) := goodIn_app (goodIn_r _ [2, 3, 4, 5] rfl (by decide +kernel)) ggX5_draw_X5_isCask
set_option maxRecDepth 20000 in
theorem ggX5_draw_X5_in : GoodIn wsX5_draw wsX5_in := goodIn_r _ [10] rfl (by decide +kernel)
set_option maxRecDepth 20000 in
theorem gX5_draw_X5_in : GoodIn wsX5_draw (va_wsS RX5 66 yX5_in wsX5_in) := goodIn_app (goodIn_r _ [8, 9, 5] rfl (by decide +kernel)) ggX5_draw_X5_in
set_option maxRecDepth 20000 in
theorem ggX5_want_X5_in : GoodIn wsX5_want wsX5_in := goodIn_r _ [6] rfl (by decide +kernel)
set_option maxRecDepth 20000 in
theorem gX5_want_X5_in : GoodIn wsX5_want (va_wsS RX5 66 yX5_in wsX5_in) := goodIn_app (goodIn_r _ [3, 4, 5] rfl (by decide +kernel)) ggX5_want_X5_in
set_option maxRecDepth 20000 in
theorem ggX5_isBlend_X5_in : GoodIn wsX5_isBlend wsX5_in := goodIn_r _ [6] rfl (by decide +kernel)
set_option maxRecDepth 20000 in
theorem gX5_isBlend_X5_in : GoodIn wsX5_isBlend (va_wsS RX5 66 yX5_in wsX5_in) := goodIn_app (goodIn_r _ [3, 4, 5] rfl (by decide +kernel)) ggX5_isBlend_X5_in
set_option maxRecDepth 20000 in
theorem ggX5_isBlend_X5_has : GoodIn wsX5_isBlend wsX5_has := goodIn_r _ [9] rfl (by decide +kernel)
set_option maxRecDepth 20000 in
theorem gX5_isBlend_X5_has : GoodIn wsX5_isBlend (va_wsS RX5 101 yX5_has wsX5_has) := goodIn_app (goodIn_r _ [7, 8, 5] rfl (by decide +kernel)) ggX5_isBlend_X5_has
set_option maxRecDepth 20000 in
theorem ggX5_dropsOf_X5_has : GoodIn wsX5_dropsOf wsX5_has := goodIn_r _ [6] rfl (by decide +kernel)
set_option maxRecDepth 20000 in
theorem gX5_dropsOf_X5_has : GoodIn wsX5_dropsOf (va_wsS RX5 101 yX5_has wsX5_has) := goodIn_app (goodIn_r _ [3, 4, 5] rfl (by decide +kernel)) ggX5_dropsOf_X5_has
set_option maxRecDepth 20000 in
theorem ggX5_partOf_X5_has : GoodIn wsX5_partOf wsX5_has := goodIn_r _ [10] rfl (by decide +kernel)
set_option maxRecDepth 20000 in
theorem gX5_partOf_X5_has : GoodIn wsX5_partOf (va_wsS RX5 101 yX5_has wsX5_has) := goodIn_app (goodIn_r _ [7, 8, 9] rfl (by decide +kernel)) ggX5_partOf_X5_has
set_option maxRecDepth 20000 in
theorem ggX5_partOf_X5_dropsOf : GoodIn wsX5_partOf wsX5_dropsOf := goodIn_r _ [14, 1, 6, 7, 8, 9, 10, 15, 16, 17, 18, 19, 20, 21, 22, 23, 24, 25, 26, 27, 28, 29, 30, 31, 32, 33, 34] rfl (by decide +kernel)
set_option maxRecDepth 20000 in
theorem gX5_partOf_X5_dropsOf : GoodIn wsX5_partOf (wsV RX5 105 RX5 yX5_dropsOf wsX5_dropsOf) := goodIn_app (goodIn_r _ [11, 12, 13, 9] rfl (by decide +kernel)) ggX5_partOf_X5_dropsOf
set_option maxRecDepth 20000 in
theorem ggX5_youngest_X5_has : GoodIn wsX5_youngest wsX5_has := goodIn_r _ [5] rfl (by decide +kernel)
set_option maxRecDepth 20000 in
theorem gX5_youngest_X5_has : GoodIn wsX5_youngest (va_wsS RX5 101 yX5_has wsX5_has) := goodIn_app (goodIn_r _ [2, 3, 4] rfl (by decide +kernel)) ggX5_youngest_X5_has
set_option maxRecDepth 20000 in
theorem ggX5_youngest_X5_ageOf : GoodIn wsX5_youngest wsX5_ageOf := goodIn_r _ [9, 10, 11, 12, 13, 14, 15, 16, 17, 18, 19, 20, 21, 22, 23, 24, 25, 26, 27, 28, 29, 30, 31] rfl (by decide +kernel)
set_option maxRecDepth 20000 in
theorem gX5_youngest_X5_ageOf : GoodIn wsX5_youngest (wsV RX5 93 RX5 yX5_ageOf wsX5_ageOf) := goodIn_app (goodIn_r _ [6, 7, 8, 4] rfl (by decide +kernel)) ggX5_youngest_X5_ageOf
set_option maxRecDepth 20000 in
theorem ggX5_costs_X5_has : GoodIn wsX5_costs wsX5_has := goodIn_r _ [5] rfl (by decide +kernel)
set_option maxRecDepth 20000 in
theorem gX5_costs_X5_has : GoodIn wsX5_costs (va_wsS RX5 101 yX5_has wsX5_has) := goodIn_app (goodIn_r _ [2, 3, 4] rfl (by decide +kernel)) ggX5_costs_X5_has
set_option maxRecDepth 20000 in
theorem ggX5_costs_X5_costOf : GoodIn wsX5_costs wsX5_costOf := goodIn_r _ [9, 10, 11, 12, 13, 4, 14, 15, 16, 17, 18, 19, 20, 21, 22, 23, 24, 25, 26, 27, 28, 29, 30, 31, 32, 33, 34, 35, 36] rfl (by decide +kernel)
set_option maxRecDepth 20000 in
theorem gX5_costs_X5_costOf : GoodIn wsX5_costs (wsV RX5 97 RX5 yX5_costOf wsX5_costOf) := goodIn_app (goodIn_r _ [6, 7, 8, 4] rfl (by decide +kernel)) ggX5_costs_X5_costOf
set_option maxRecDepth 20000 in
theorem ggX5_isRight_X5_dropsOf : GoodIn wsX5_isRight wsX5_dropsOf := goodIn_r _ [6, 7, 8, 9, 10, 5, 11, 33, 34, 35, 36, 37, 38, 39, 40, 41, 42, 43, 44, 45, 46, 47, 48, 49, 50, 51, 52] rfl (by decide +kernel)
set_option maxRecDepth 20000 in
theorem gX5_isRight_X5_dropsOf : GoodIn wsX5_isRight (wsV RX5 105 RX5 yX5_dropsOf wsX5_dropsOf) := goodIn_app (goodIn_r _ [2, 3, 4, 5] rfl (by decide +kernel)) ggX5_isRight_X5_dropsOf
set_option maxRecDepth 20000 in
theorem ggX5_isRight_X5_youngest : GoodIn wsX5_isRight wsX5_youngest := goodIn_r _ [15, 7, 9, 10, 5, 11, 16, 17, 18, 19, 20, 21, 33, 34, 35, 36, 37, 38, 39, 40, 41, 42, 43, 44, 45, 46, 47, 48, 49, 50, 51, 52] rfl (by decide +kernel)
set_option maxRecDepth 20000 in
theorem gX5_isRight_X5_youngest : GoodIn wsX5_isRight (wsV RX5 108 RX5 yX5_youngest wsX5_youngest) := goodIn_app (goodIn_r _ [12, 13, 14, 5] rfl (by decide +kernel)) ggX5_isRight_X5_youngest
set_option maxRecDepth 20000 in
theorem ggX5_isRight_X5_partOf : GoodIn wsX5_isRight wsX5_partOf := goodIn_r _ [25, 7, 26, 27, 28, 29, 8, 9, 10, 5, 11, 2, 3, 4, 6, 33, 34, 35, 36, 37, 38, 39, 40, 41, 42, 43, 44, 45, 46, 47, 48, 49, 50, 51, 52] rfl (by decide +kernel)
set_option maxRecDepth 20000 in
theorem gX5_isRight_X5_partOf : GoodIn wsX5_isRight (wsV RX5 111 RX5 yX5_partOf wsX5_partOf) := goodIn_app (goodIn_r _ [22, 23, 24, 5] rfl (by decide +kernel)) ggX5_isRight_X5_partOf
set_option maxRecDepth 20000 in
theorem ggX5_isRight_X5_in : GoodIn wsX5_isRight wsX5_in := goodIn_r _ [32] rfl (by decide +kernel)
set_option maxRecDepth 20000 in
theorem gX5_isRight_X5_in : GoodIn wsX5_isRight (va_wsS RX5 66 yX5_in wsX5_in) := goodIn_app (goodIn_r _ [30, 31, 5] rfl (by decide +kernel)) ggX5_isRight_X5_in
set_option maxRecDepth 20000 in
theorem ggX5_blend_X5_isBlend : GoodIn wsX5_blend wsX5_isBlend := goodIn_r _ [5, 6, 7, 8, 9, 4, 10, 11, 12, 13, 49, 50, 51, 52, 53, 54, 55, 56, 57, 58, 59, 60, 61, 62, 63, 64, 65, 66, 67, 68] rfl (by decide +kernel)
set_option maxRecDepth 20000 in
theorem gX5_blend_X5_isBlend : GoodIn wsX5_blend (wsV RX5 114 RX5 yX5_isBlend wsX5_isBlend) := goodIn_app (goodIn_r _ [1, 2, 3, 4] rfl (by decide +kernel)) ggX5_blend_X5_isBlend
set_option maxRecDepth 20000 in
theorem ggX5_blend_X5_dropsOf : GoodIn wsX5_blend wsX5_dropsOf := goodIn_r _ [17, 6, 7, 11, 12, 4, 13, 49, 50, 51, 52, 53, 54, 55, 56, 57, 58, 59, 60, 61, 62, 63, 64, 65, 66, 67, 68] rfl (by decide +kernel)
set_option maxRecDepth 20000 in
theorem gX5_blend_X5_dropsOf : GoodIn wsX5_blend (wsV RX5 105 RX5 yX5_dropsOf wsX5_dropsOf) := goodIn_app (goodIn_r _ [14, 15, 16, 4] rfl (by decide +kernel)) ggX5_blend_X5_dropsOf
set_option maxRecDepth 20000 in
theorem ggX5_blend_X5_partOf : GoodIn wsX5_blend wsX5_partOf := goodIn_r _ [21, 6, 22, 23, 24, 25, 7, 11, 12, 4, 13, 14, 15, 16, 17, 49, 50, 51, 52, 53, 54, 55, 56, 57, 58, 59, 60, 61, 62, 63, 64, 65, 66, 67, 68] rfl (by decide +kernel)
set_option maxRecDepth 20000 in
theorem gX5_blend_X5_partOf : GoodIn wsX5_blend (wsV RX5 111 RX5 yX5_partOf wsX5_partOf) := goodIn_app (goodIn_r _ [18, 19, 20, 4] rfl (by decide +kernel)) ggX5_blend_X5_partOf
set_option maxRecDepth 20000 in
theorem ggX5_blend_X5_youngest : GoodIn wsX5_blend wsX5_youngest := goodIn_r _ [29, 6, 11, 12, 4, 13, 30, 31, 32, 33, 34, 35, 49, 50, 51, 52, 53, 54, 55, 56, 57, 58, 59, 60, 61, 62, 63, 64, 65, 66, 67, 68] rfl (by decide +kernel)
set_option maxRecDepth 20000 in
theorem gX5_blend_X5_youngest : GoodIn wsX5_blend (wsV RX5 108 RX5 yX5_youngest wsX5_youngest) := goodIn_app (goodIn_r _ [26, 27, 28, 4] rfl (by decide +kernel)) ggX5_blend_X5_youngest
set_option maxRecDepth 20000 in
theorem ggX5_blend_X5_costs : GoodIn wsX5_blend wsX5_costs := goodIn_r _ [39, 6, 11, 12, 4, 13, 40, 41, 42, 43, 7, 30, 31, 32, 33, 34, 35, 49, 50, 51, 52, 53, 54, 55, 56, 57, 58, 59, 60, 61, 62, 63, 64, 65, 66, 67, 68] rfl (by decide +kernel)
set_option maxRecDepth 20000 in
theorem gX5_blend_X5_costs : GoodIn wsX5_blend (wsV RX5 117 RX5 yX5_costs wsX5_costs) := goodIn_app (goodIn_r _ [36, 37, 38, 4] rfl (by decide +kernel)) ggX5_blend_X5_costs
set_option maxRecDepth 20000 in
theorem ggX5_blend_X5_isRight : GoodIn wsX5_blend wsX5_isRight := goodIn_r _ [47, 48, 14, 15, 16, 4, 17, 6, 7, 11, 12, 13, 26, 27, 28, 29, 30, 31, 32, 33, 34, 35, 18, 19, 20, 21, 22, 23, 24, 25, 8, 9, 10, 49, 50, 51, 52, 53, 54, 55, 56, 57, 58, 59, 60, 61, 62, 63, 64, 65, 66, 67, 68] rfl (by decide +kernel)
set_option maxRecDepth 20000 in
theorem gX5_blend_X5_isRight : GoodIn wsX5_blend (wsV RX5 120 RX5 yX5_isRight wsX5_isRight) := goodIn_app (goodIn_r _ [44, 45, 46, 4] rfl (by decide +kernel)) ggX5_blend_X5_isRight
set_option maxRecDepth 20000 in
theorem ggX5_best_X5_in : GoodIn wsX5_best wsX5_in := goodIn_r _ [5] rfl (by decide +kernel)
set_option maxRecDepth 20000 in
theorem gX5_best_X5_in : GoodIn wsX5_best (va_wsS RX5 66 yX5_in wsX5_in) := goodIn_app (goodIn_r _ [2, 3, 4] rfl (by decide +kernel)) ggX5_best_X5_in
set_option maxRecDepth 20000 in
theorem ggX5_best_X5_isBlend : GoodIn wsX5_best wsX5_isBlend := goodIn_r _ [9, 1, 10, 2, 3, 4, 5, 11, 12, 13, 49, 50, 51, 52, 53, 54, 55, 56, 57, 58, 59, 60, 61, 62, 63, 64, 65, 66, 67, 68] rfl (by decide +kernel)
set_option maxRecDepth 20000 in
theorem gX5_best_X5_isBlend : GoodIn wsX5_best (wsV RX5 114 RX5 yX5_isBlend wsX5_isBlend) := goodIn_app (goodIn_r _ [6, 7, 8, 4] rfl (by decide +kernel)) ggX5_best_X5_isBlend
set_option maxRecDepth 20000 in
theorem ggX5_best_X5_costs : GoodIn wsX5_best wsX5_costs := goodIn_r _ [17, 1, 11, 12, 4, 13, 18, 19, 20, 21, 10, 22, 23, 24, 25, 26, 27, 49, 50, 51, 52, 53, 54, 55, 56, 57, 58, 59, 60, 61, 62, 63, 64, 65, 66, 67, 68] rfl (by decide +kernel)
set_option maxRecDepth 20000 in
theorem gX5_best_X5_costs : GoodIn wsX5_best (wsV RX5 117 RX5 yX5_costs wsX5_costs) := goodIn_app (goodIn_r _ [14, 15, 16, 4] rfl (by decide +kernel)) ggX5_best_X5_costs
set_option maxRecDepth 20000 in
theorem ggX5_best_X5_isRight : GoodIn wsX5_best wsX5_isRight := goodIn_r _ [31, 32, 33, 34, 35, 4, 36, 1, 10, 11, 12, 13, 37, 38, 39, 40, 22, 23, 24, 25, 26, 27, 41, 42, 43, 44, 45, 46, 47, 48, 2, 3, 5, 49, 50, 51, 52, 53, 54, 55, 56, 57, 58, 59, 60, 61, 62, 63, 64, 65, 66, 67, 68] rfl (by decide +kernel)
set_option maxRecDepth 20000 in
theorem gX5_best_X5_isRight : GoodIn wsX5_best (wsV RX5 120 RX5 yX5_isRight wsX5_isRight) := goodIn_app (goodIn_r _ [28, 29, 30, 4] rfl (by decide +kernel)) ggX5_best_X5_isRight
set_option maxRecDepth 20000 in
theorem ggX5_lasts_X5_in : GoodIn wsX5_lasts wsX5_in := goodIn_r _ [9] rfl (by decide +kernel)
set_option maxRecDepth 20000 in
theorem gX5_lasts_X5_in : GoodIn wsX5_lasts (va_wsS RX5 66 yX5_in wsX5_in) := goodIn_app (goodIn_r _ [6, 7, 8] rfl (by decide +kernel)) ggX5_lasts_X5_in
set_option maxRecDepth 20000 in
theorem ggX5_lasts_X5_ageOf : GoodIn wsX5_lasts wsX5_ageOf := goodIn_r _ [13, 14, 4, 23, 24, 25, 26, 27, 28, 29, 30, 31, 32, 33, 34, 35, 36, 37, 38, 39, 40, 41, 42] rfl (by decide +kernel)
set_option maxRecDepth 20000 in
theorem gX5_lasts_X5_ageOf : GoodIn wsX5_lasts (wsV RX5 93 RX5 yX5_ageOf wsX5_ageOf) := goodIn_app (goodIn_r _ [10, 11, 12, 8] rfl (by decide +kernel)) ggX5_lasts_X5_ageOf
set_option maxRecDepth 20000 in
theorem ggX5_lasts_X5_lossOf : GoodIn wsX5_lasts wsX5_lossOf := goodIn_r _ [18, 19, 23, 24, 25, 26, 27, 28, 29, 30, 31, 32, 33, 34, 35, 36, 37, 38, 39, 40, 41, 42] rfl (by decide +kernel)
set_option maxRecDepth 20000 in
theorem gX5_lasts_X5_lossOf : GoodIn wsX5_lasts (wsV RX5 70 RX5 yX5_lossOf wsX5_lossOf) := goodIn_app (goodIn_r _ [15, 16, 17, 8] rfl (by decide +kernel)) ggX5_lasts_X5_lossOf
set_option maxRecDepth 20000 in
theorem ggX5_lasts_X5_lostOf : GoodIn wsX5_lasts wsX5_lostOf := goodIn_r _ [22] rfl (by decide +kernel)
set_option maxRecDepth 20000 in
theorem gX5_lasts_X5_lostOf : GoodIn wsX5_lasts (va_wsS RX5 74 yX5_lostOf wsX5_lostOf) := goodIn_app (goodIn_r _ [20, 21, 8] rfl (by decide +kernel)) ggX5_lasts_X5_lostOf
set_option maxRecDepth 20000 in
theorem ggX5_cut_X5_isCask : GoodIn wsX5_cut wsX5_isCask := goodIn_r _ [7, 8, 9, 10, 6, 11, 12, 13, 14, 15, 16, 17, 18, 19, 20, 21, 22, 23, 24, 25, 26, 27, 28, 29, 30, 31] rfl (by decide +kernel)
set_option maxRecDepth 20000 in
theorem gX5_cut_X5_isCask : GoodIn wsX5_cut (wsV RX5 81 RX5 yX5_isCask wsX5_isCask) := goodIn_app (goodIn_r _ [3, 4, 5, 6] rfl (by decide +kernel)) ggX5_cut_X5_isCask
set_option maxRecDepth 20000 in
theorem ggX5_cut_X5_in : GoodIn wsX5_cut wsX5_in := goodIn_r _ [11] rfl (by decide +kernel)
set_option maxRecDepth 20000 in
theorem gX5_cut_X5_in : GoodIn wsX5_cut (va_wsS RX5 66 yX5_in wsX5_in) := goodIn_app (goodIn_r _ [9, 10, 6] rfl (by decide +kernel)) ggX5_cut_X5_in
set_option maxRecDepth 20000 in
theorem ggX5_rate_X5_in : GoodIn wsX5_rate wsX5_in := goodIn_r _ [5] rfl (by decide +kernel)
set_option maxRecDepth 20000 in
theorem gX5_rate_X5_in : GoodIn wsX5_rate (va_wsS RX5 66 yX5_in wsX5_in) := goodIn_app (goodIn_r _ [2, 3, 4] rfl (by decide +kernel)) ggX5_rate_X5_in
set_option maxRecDepth 20000 in
theorem ggX5_duty_X5_in : GoodIn wsX5_duty wsX5_in := goodIn_r _ [8] rfl (by decide +kernel)
set_option maxRecDepth 20000 in
theorem gX5_duty_X5_in : GoodIn wsX5_duty (va_wsS RX5 66 yX5_in wsX5_in) := goodIn_app (goodIn_r _ [5, 6, 7] rfl (by decide +kernel)) ggX5_duty_X5_in
set_option maxRecDepth 20000 in
theorem ggX5_duty_X5_has : GoodIn wsX5_duty wsX5_has := goodIn_r _ [11] rfl (by decide +kernel)
set_option maxRecDepth 20000 in
theorem gX5_duty_X5_has : GoodIn wsX5_duty (va_wsS RX5 101 yX5_has wsX5_has) := goodIn_app (goodIn_r _ [9, 10, 7] rfl (by decide +kernel)) ggX5_duty_X5_has
set_option maxRecDepth 20000 in
theorem ggX5_odds_X5_in : GoodIn wsX5_odds wsX5_in := goodIn_r _ [5] rfl (by decide +kernel)
set_option maxRecDepth 20000 in
theorem gX5_odds_X5_in : GoodIn wsX5_odds (va_wsS RX5 66 yX5_in wsX5_in) := goodIn_app (goodIn_r _ [2, 3, 4] rfl (by decide +kernel)) ggX5_odds_X5_in
set_option maxRecDepth 20000 in
theorem ggX5_odds_X5_ways : GoodIn wsX5_odds wsX5_ways := goodIn_r _ [8] rfl (by decide +kernel)
set_option maxRecDepth 20000 in
theorem gX5_odds_X5_ways : GoodIn wsX5_odds (va_wsS RX5 123 yX5_ways wsX5_ways) := goodIn_app (goodIn_r _ [6, 7, 4] rfl (by decide +kernel)) ggX5_odds_X5_ways
set_option maxRecDepth 20000 in
theorem ggX5_apart_X5_in : GoodIn wsX5_apart wsX5_in := goodIn_r _ [5] rfl (by decide +kernel)
set_option maxRecDepth 20000 in
theorem gX5_apart_X5_in : GoodIn wsX5_apart (va_wsS RX5 66 yX5_in wsX5_in) := goodIn_app (goodIn_r _ [2, 3, 4] rfl (by decide +kernel)) ggX5_apart_X5_in
set_option maxRecDepth 20000 in
theorem ggX5_apart_X5_ways : GoodIn wsX5_apart wsX5_ways := goodIn_r _ [8] rfl (by decide +kernel)
set_option maxRecDepth 20000 in
theorem gX5_apart_X5_ways : GoodIn wsX5_apart (va_wsS RX5 123 yX5_ways wsX5_ways) := goodIn_app (goodIn_r _ [6, 7, 4] rfl (by decide +kernel)) ggX5_apart_X5_ways
set_option maxRecDepth 20000 in
theorem ggX5_read_X5_in : GoodIn wsX5_read wsX5_in := goodIn_r _ [8] rfl (by decide +kernel)
set_option maxRecDepth 20000 in
theorem gX5_read_X5_in : GoodIn wsX5_read (va_wsS RX5 66 yX5_in wsX5_in) := goodIn_app (goodIn_r _ [5, 6, 7] rfl (by decide +kernel)) ggX5_read_X5_in
set_option maxRecDepth 20000 in
theorem ggX5_firstWrong_X5_lead : GoodIn wsX5_firstWrong wsX5_lead := goodIn_r _ [11, 4, 5, 2, 3, 6, 12, 13, 14, 15, 16, 17, 18, 19, 20, 21, 22, 23, 24, 25, 26, 27, 28, 29, 30, 31] rfl (by decide +kernel)
set_option maxRecDepth 20000 in
theorem gX5_firstWrong_X5_lead : GoodIn wsX5_firstWrong (wsV RX5 134 RX5 yX5_lead wsX5_lead) := goodIn_app (goodIn_r _ [7, 8, 9, 10] rfl (by decide +kernel)) ggX5_firstWrong_X5_lead
set_option maxRecDepth 20000 in
theorem ggX5_contradicts_X5_firstWrong : GoodIn wsX5_contradicts wsX5_firstWrong := goodIn_r _ [5, 6, 7, 8, 9, 10, 11, 12, 13, 14, 4, 15, 16, 17, 18, 19, 20, 21, 22, 23, 24, 25, 26, 27, 28, 29, 30, 31, 32, 33, 34, 35] rfl (by decide +kernel)
set_option maxRecDepth 20000 in
theorem gX5_contradicts_X5_firstWrong : GoodIn wsX5_contradicts (wsV RX5 138 RX5 yX5_firstWrong wsX5_firstWrong) := goodIn_app (goodIn_r _ [1, 2, 3, 4] rfl (by decide +kernel)) ggX5_contradicts_X5_firstWrong
set_option maxRecDepth 20000 in
theorem ggX5_hang_X5_in : GoodIn wsX5_hang wsX5_in := goodIn_r _ [9] rfl (by decide +kernel)
set_option maxRecDepth 20000 in
theorem gX5_hang_X5_in : GoodIn wsX5_hang (va_wsS RX5 66 yX5_in wsX5_in) := goodIn_app (goodIn_r _ [6, 7, 8] rfl (by decide +kernel)) ggX5_hang_X5_in
set_option maxRecDepth 20000 in
theorem ggX5_hang_X5_firstWrong : GoodIn wsX5_hang wsX5_firstWrong := goodIn_r _ [13, 2, 14, 15, 3, 4, 16, 17, 18, 19, 8, 20, 21, 22, 23, 24, 25, 26, 27, 28, 29, 30, 31, 32, 33, 34, 35, 36, 37, 38, 39, 40] rfl (by decide +kernel)
set_option maxRecDepth 20000 in
theorem gX5_hang_X5_firstWrong : GoodIn wsX5_hang (wsV RX5 138 RX5 yX5_firstWrong wsX5_firstWrong) := goodIn_app (goodIn_r _ [10, 11, 12, 8] rfl (by decide +kernel)) ggX5_hang_X5_firstWrong
set_option maxRecDepth 20000 in
theorem ggX5_hang_X5_lead : GoodIn wsX5_hang wsX5_lead := goodIn_r _ [20, 3, 4, 14, 15, 16, 21, 22, 23, 24, 25, 26, 27, 28, 29, 30, 31, 32, 33, 34, 35, 36, 37, 38, 39, 40] rfl (by decide +kernel)
set_option maxRecDepth 20000 in
theorem gX5_hang_X5_lead : GoodIn wsX5_hang (wsV RX5 134 RX5 yX5_lead wsX5_lead) := goodIn_app (goodIn_r _ [17, 18, 19, 8] rfl (by decide +kernel)) ggX5_hang_X5_lead
set_option maxRecDepth 20000 in
theorem ggL_law_X4_init : GoodIn wsL_law wsX4_init := goodIn_r _ [8, 9, 10, 11, 12, 13, 14, 15, 16, 17, 18, 19, 20, 21, 22, 23, 24, 25, 26, 27, 28, 29, 30, 31, 32, 33, 34, 35, 36, 37, 38, 39, 40, 41, 42, 43, 44, 45, 46, 47, 48, 49, 50, 51, 52, 53, 54, 55, 506, 507, 508, 509, 510, 511, 512, 513, 514, 535, 536, 537, 538, 539, 540, 541, 542, 543, 544, 545, 546, 547, 548, 549, 550, 551, 552, 553, 554] rfl (by decide +kernel)
set_option maxRecDepth 20000 in
theorem gL_law_X4_init : GoodIn wsL_law (wsX4_init) := ggL_law_X4_init
set_option maxRecDepth 20000 in
theorem ggL_law_X5_init : GoodIn wsL_law wsX5_init := goodIn_r _ [58, 59, 10, 11, 14, 60, 61, 62, 63, 64, 65, 66, 67, 68, 69, 70, 71, 72, 73, 74, 75, 76, 77, 515, 516, 517, 518, 519, 520, 521, 522, 523, 524, 525, 526, 527, 528, 529, 530, 531, 532, 533, 534] rfl (by decide +kernel)
set_option maxRecDepth 20000 in
theorem gL_law_X5_init : GoodIn wsL_law (wsX5_init) := ggL_law_X5_init
set_option maxRecDepth 20000 in
theorem ggL_law_X4_lay : GoodIn wsL_law wsX4_lay := goodIn_r _ [81, 28, 13, 29, 82, 83, 2, 84, 85, 86, 87, 33, 88, 89, 90, 91, 92, 93, 94, 506, 507, 508, 509, 510, 511, 512, 513, 514, 547, 548, 549, 550, 551, 552, 553, 554] rfl (by decide +kernel)
set_option maxRecDepth 20000 in
theorem gL_law_X4_lay : GoodIn wsL_law (wsV RL 13 RX4 yX4_lay wsX4_lay) := goodIn_app (goodIn_r _ [78, 79, 80, 2] rfl (by decide +kernel)) ggL_law_X4_lay
set_option maxRecDepth 20000 in
theorem ggL_law_X5_lay : GoodIn wsL_law wsX5_lay := goodIn_r _ [98, 99, 60, 61, 62, 63, 64, 77, 65, 66, 67, 100, 101, 5, 102, 515, 516, 517, 518, 519, 520, 521, 522, 523, 524, 525, 526, 527, 528, 529, 530, 531, 532, 533, 534] rfl (by decide +kernel)
set_option maxRecDepth 20000 in
theorem gL_law_X5_lay : GoodIn wsL_law (wsV RL 17 RX5 yX5_lay wsX5_lay) := goodIn_app (goodIn_r _ [95, 96, 97, 5] rfl (by decide +kernel)) ggL_law_X5_lay
set_option maxRecDepth 20000 in
theorem ggL_law_X4_years : GoodIn wsL_law wsX4_years := goodIn_r _ [106, 29, 82, 83, 2, 84, 107, 108, 109, 110, 28, 13, 111, 112, 113, 114, 33, 115, 90, 116, 117, 118, 119, 120, 93, 121, 89, 91, 122, 123, 124, 125, 92, 126, 127, 128, 129, 94, 130, 131, 132, 133, 134, 135, 136, 137, 506, 507, 508, 509, 510, 511, 512, 513, 514, 547, 548, 549, 550, 551, 552, 553, 554] rfl (by decide +kernel)
set_option maxRecDepth 20000 in
theorem gL_law_X4_years : GoodIn wsL_law (wsV RL 18 RX4 yX4_years wsX4_years) := goodIn_app (goodIn_r _ [103, 104, 105, 2] rfl (by decide +kernel)) ggL_law_X4_years
set_option maxRecDepth 20000 in
theorem ggL_law_X5_years : GoodIn wsL_law wsX5_years := goodIn_r _ [141, 77, 100, 101, 5, 102, 142, 143, 144, 145, 99, 61, 60, 64, 65, 66, 67, 62, 146, 147, 148, 149, 63, 150, 151, 152, 515, 516, 517, 518, 519, 520, 521, 522, 523, 524, 525, 526, 527, 528, 529, 530, 531, 532, 533, 534] rfl (by decide +kernel)
set_option maxRecDepth 20000 in
theorem gL_law_X5_years : GoodIn wsL_law (wsV RL 22 RX5 yX5_years wsX5_years) := goodIn_app (goodIn_r _ [138, 139, 140, 5] rfl (by decide +kernel)) ggL_law_X5_years
set_option maxRecDepth 20000 in
theorem ggL_law_X4_loss : GoodIn wsL_law wsX4_loss := goodIn_r _ [156, 31, 157, 13, 158, 159, 160, 161, 2, 162, 28, 82, 83, 84, 163, 130, 131, 132, 118, 119, 120, 506, 507, 508, 509, 510, 511, 512, 513, 514, 547, 548, 549, 550, 551, 552, 553, 554] rfl (by decide +kernel)
set_option maxRecDepth 20000 in
theorem gL_law_X4_loss : GoodIn wsL_law (wsV RL 23 RX4 yX4_loss wsX4_loss) := goodIn_app (goodIn_r _ [153, 154, 155, 2] rfl (by decide +kernel)) ggL_law_X4_loss
set_option maxRecDepth 20000 in
theorem ggL_law_X5_loss : GoodIn wsL_law wsX5_loss := goodIn_r _ [167, 168, 169, 170, 171, 172, 173, 5, 174, 99, 100, 101, 102, 146, 147, 148, 149, 63, 515, 516, 517, 518, 519, 520, 521, 522, 523, 524, 525, 526, 527, 528, 529, 530, 531, 532, 533, 534] rfl (by decide +kernel)
set_option maxRecDepth 20000 in
theorem gL_law_X5_loss : GoodIn wsL_law (wsV RL 27 RX5 yX5_loss wsX5_loss) := goodIn_app (goodIn_r _ [164, 165, 166, 5] rfl (by decide +kernel)) ggL_law_X5_loss
set_option maxRecDepth 20000 in
theorem ggL_law_X4_about : GoodIn wsL_law wsX4_about := goodIn_r _ [178, 13, 111, 179, 29, 180, 181, 182, 183, 158, 159, 160, 161, 2, 162, 28, 82, 83, 84, 184, 127, 128, 33, 129, 94, 185, 186, 187, 188, 90, 126, 136, 137, 506, 507, 508, 509, 510, 511, 512, 513, 514, 547, 548, 549, 550, 551, 552, 553, 554] rfl (by decide +kernel)
set_option maxRecDepth 20000 in
theorem gL_law_X4_about : GoodIn wsL_law (wsV RL 28 RX4 yX4_about wsX4_about) := goodIn_app (goodIn_r _ [175, 176, 177, 2] rfl (by decide +kernel)) ggL_law_X4_about
set_option maxRecDepth 20000 in
theorem ggL_law_X5_about : GoodIn wsL_law wsX5_about := goodIn_r _ [192, 61, 62, 65, 66, 67, 60, 63, 171, 172, 173, 5, 174, 99, 100, 101, 102, 193, 194, 195, 196, 77, 64, 197, 198, 199, 200, 515, 516, 517, 518, 519, 520, 521, 522, 523, 524, 525, 526, 527, 528, 529, 530, 531, 532, 533, 534] rfl (by decide +kernel)
set_option maxRecDepth 20000 in
theorem gL_law_X5_about : GoodIn wsL_law (wsV RL 32 RX5 yX5_about wsX5_about) := goodIn_app (goodIn_r _ [189, 190, 191, 5] rfl (by decide +kernel)) ggL_law_X5_about
set_option maxRecDepth 20000 in
theorem ggL_law_X4_move : GoodIn wsL_law wsX4_move := goodIn_r _ [204, 13, 158, 159, 160, 161, 2, 162, 28, 82, 83, 84, 506, 507, 508, 509, 510, 511, 512, 513, 514, 547, 548, 549, 550, 551, 552, 553, 554] rfl (by decide +kernel)
set_option maxRecDepth 20000 in
theorem gL_law_X4_move : GoodIn wsL_law (wsV RL 33 RX4 yX4_move wsX4_move) := goodIn_app (goodIn_r _ [201, 202, 203, 2] rfl (by decide +kernel)) ggL_law_X4_move
set_option maxRecDepth 20000 in
theorem ggL_law_X5_move : GoodIn wsL_law wsX5_move := goodIn_r _ [208, 63, 171, 172, 173, 5, 174, 99, 100, 101, 102, 515, 516, 517, 518, 519, 520, 521, 522, 523, 524, 525, 526, 527, 528, 529, 530, 531, 532, 533, 534] rfl (by decide +kernel)
set_option maxRecDepth 20000 in
theorem gL_law_X5_move : GoodIn wsL_law (wsV RL 36 RX5 yX5_move wsX5_move) := goodIn_app (goodIn_r _ [205, 206, 207, 5] rfl (by decide +kernel)) ggL_law_X5_move
set_option maxRecDepth 20000 in
theorem ggL_law_X4_draw : GoodIn wsL_law wsX4_draw := goodIn_r _ [212, 13, 111, 159, 160, 161, 2, 162, 28, 82, 83, 84, 506, 507, 508, 509, 510, 511, 512, 513, 514, 547, 548, 549, 550, 551, 552, 553, 554] rfl (by decide +kernel)
set_option maxRecDepth 20000 in
theorem gL_law_X4_draw : GoodIn wsL_law (wsV RL 37 RX4 yX4_draw wsX4_draw) := goodIn_app (goodIn_r _ [209, 210, 211, 2] rfl (by decide +kernel)) ggL_law_X4_draw
set_option maxRecDepth 20000 in
theorem ggL_law_X5_draw : GoodIn wsL_law wsX5_draw := goodIn_r _ [216, 61, 171, 172, 173, 5, 174, 99, 100, 101, 102, 515, 516, 517, 518, 519, 520, 521, 522, 523, 524, 525, 526, 527, 528, 529, 530, 531, 532, 533, 534] rfl (by decide +kernel)
set_option maxRecDepth 20000 in
theorem gL_law_X5_draw : GoodIn wsL_law (wsV RL 40 RX5 yX5_draw wsX5_draw) := goodIn_app (goodIn_r _ [213, 214, 215, 5] rfl (by decide +kernel)) ggL_law_X5_draw
set_option maxRecDepth 20000 in
theorem ggL_law_X4_want : GoodIn wsL_law wsX4_want := goodIn_r _ [220, 19, 221, 82, 83, 2, 84, 222, 223, 18, 224, 225, 506, 507, 508, 509, 510, 511, 512, 513, 514, 535] rfl (by decide +kernel)
set_option maxRecDepth 20000 in
theorem gL_law_X4_want : GoodIn wsL_law (wsV RL 41 RX4 yX4_want wsX4_want) := goodIn_app (goodIn_r _ [217, 218, 219, 2] rfl (by decide +kernel)) ggL_law_X4_want
set_option maxRecDepth 20000 in
theorem ggL_law_X5_want : GoodIn wsL_law wsX5_want := goodIn_r _ [229, 230, 68, 100, 101, 5, 102, 515, 516, 517, 518, 519, 520, 521, 522, 523, 524, 525, 526, 527, 528, 529, 530, 531, 532, 533, 534] rfl (by decide +kernel)
set_option maxRecDepth 20000 in
theorem gL_law_X5_want : GoodIn wsL_law (wsV RL 44 RX5 yX5_want wsX5_want) := goodIn_app (goodIn_r _ [226, 227, 228, 5] rfl (by decide +kernel)) ggL_law_X5_want
set_option maxRecDepth 20000 in
theorem ggL_law_X4_blend : GoodIn wsL_law wsX4_blend := goodIn_r _ [234, 23, 235, 236, 237, 238, 239, 240, 241, 19, 242, 243, 244, 2, 245, 28, 82, 83, 84, 246, 247, 248, 249, 13, 111, 29, 250, 251, 252, 22, 253, 254, 255, 256, 257, 258, 259, 260, 261, 262, 263, 264, 265, 266, 267, 268, 269, 270, 271, 272, 273, 274, 119, 275, 276, 186, 187, 33, 188, 90, 126, 127, 128, 129, 94, 136, 137, 277, 278, 279, 280, 281, 282, 283, 284, 18, 285, 286, 37, 287, 288, 289, 290, 291, 292, 293, 294, 295, 506, 507, 508, 509, 510, 511, 512, 513, 514, 536, 537, 538, 539, 540, 541, 542, 547, 548, 549, 550, 551, 552, 553, 554, 535] rfl (by decide +kernel)
set_option maxRecDepth 20000 in
theorem gL_law_X4_blend : GoodIn wsL_law (wsV RL 45 RX4 yX4_blend wsX4_blend) := goodIn_app (goodIn_r _ [231, 232, 233, 2] rfl (by decide +kernel)) ggL_law_X4_blend
set_option maxRecDepth 20000 in
theorem ggL_law_X5_blend : GoodIn wsL_law wsX5_blend := goodIn_r _ [299, 300, 301, 302, 5, 303, 99, 61, 100, 101, 102, 304, 305, 306, 307, 308, 309, 310, 311, 312, 313, 314, 65, 66, 67, 62, 315, 316, 317, 318, 193, 194, 195, 196, 77, 64, 319, 320, 321, 322, 197, 198, 199, 200, 323, 324, 325, 326, 68, 515, 516, 517, 518, 519, 520, 521, 522, 523, 524, 525, 526, 527, 528, 529, 530, 531, 532, 533, 534] rfl (by decide +kernel)
set_option maxRecDepth 20000 in
theorem gL_law_X5_blend : GoodIn wsL_law (wsV RL 48 RX5 yX5_blend wsX5_blend) := goodIn_app (goodIn_r _ [296, 297, 298, 5] rfl (by decide +kernel)) ggL_law_X5_blend
set_option maxRecDepth 20000 in
theorem ggL_law_X4_best : GoodIn wsL_law wsX4_best := goodIn_r _ [330, 23, 241, 82, 83, 2, 84, 331, 332, 333, 334, 28, 19, 246, 247, 248, 249, 13, 111, 29, 235, 250, 251, 252, 22, 253, 254, 255, 256, 257, 258, 259, 260, 261, 262, 263, 264, 265, 266, 267, 268, 269, 270, 271, 272, 273, 274, 119, 275, 276, 186, 187, 33, 188, 90, 126, 127, 128, 129, 94, 136, 137, 277, 335, 291, 292, 18, 293, 294, 37, 282, 283, 284, 285, 286, 287, 288, 289, 290, 295, 279, 280, 281, 506, 507, 508, 509, 510, 511, 512, 513, 514, 536, 537, 538, 539, 540, 541, 542, 547, 548, 549, 550, 551, 552, 553, 554, 535] rfl (by decide +kernel)
set_option maxRecDepth 20000 in
theorem gL_law_X4_best : GoodIn wsL_law (wsV RL 49 RX4 yX4_best wsX4_best) := goodIn_app (goodIn_r _ [327, 328, 329, 2] rfl (by decide +kernel)) ggL_law_X4_best
set_option maxRecDepth 20000 in
theorem ggL_law_X5_best : GoodIn wsL_law wsX5_best := goodIn_r _ [339, 99, 100, 101, 5, 102, 300, 301, 302, 303, 61, 304, 305, 306, 319, 320, 321, 322, 197, 198, 199, 200, 193, 194, 195, 196, 77, 64, 323, 324, 325, 326, 68, 307, 308, 309, 310, 315, 316, 317, 318, 311, 312, 313, 314, 65, 66, 67, 62, 515, 516, 517, 518, 519, 520, 521, 522, 523, 524, 525, 526, 527, 528, 529, 530, 531, 532, 533, 534] rfl (by decide +kernel)
set_option maxRecDepth 20000 in
theorem gL_law_X5_best : GoodIn wsL_law (wsV RL 52 RX5 yX5_best wsX5_best) := goodIn_app (goodIn_r _ [336, 337, 338, 5] rfl (by decide +kernel)) ggL_law_X5_best
set_option maxRecDepth 20000 in
theorem ggL_law_X4_lasts : GoodIn wsL_law wsX4_lasts := goodIn_r _ [343, 28, 15, 13, 111, 29, 82, 83, 2, 84, 344, 345, 346, 347, 348, 274, 119, 275, 184, 127, 128, 33, 129, 94, 349, 350, 351, 352, 353, 123, 124, 125, 89, 92, 126, 130, 131, 132, 118, 120, 354, 133, 134, 135, 136, 137, 506, 507, 508, 509, 510, 511, 512, 513, 514, 547, 548, 549, 550, 551, 552, 553, 554] rfl (by decide +kernel)
set_option maxRecDepth 20000 in
theorem gL_law_X4_lasts : GoodIn wsL_law (wsV RL 53 RX4 yX4_lasts wsX4_lasts) := goodIn_app (goodIn_r _ [340, 341, 342, 2] rfl (by decide +kernel)) ggL_law_X4_lasts
set_option maxRecDepth 20000 in
theorem ggL_law_X5_lasts : GoodIn wsL_law wsX5_lasts := goodIn_r _ [358, 99, 73, 61, 64, 60, 100, 101, 5, 102, 193, 194, 195, 196, 77, 146, 147, 148, 149, 63, 150, 151, 152, 515, 516, 517, 518, 519, 520, 521, 522, 523, 524, 525, 526, 527, 528, 529, 530, 531, 532, 533, 534] rfl (by decide +kernel)
set_option maxRecDepth 20000 in
theorem gL_law_X5_lasts : GoodIn wsL_law (wsV RL 56 RX5 yX5_lasts wsX5_lasts) := goodIn_app (goodIn_r _ [355, 356, 357, 5] rfl (by decide +kernel)) ggL_law_X5_lasts
set_option maxRecDepth 20000 in
theorem ggL_law_X4_cut : GoodIn wsL_law wsX4_cut := goodIn_r _ [362, 13, 179, 132, 118, 119, 120, 111, 159, 160, 161, 2, 162, 28, 82, 83, 84, 135, 136, 137, 506, 507, 508, 509, 510, 511, 512, 513, 514, 547, 548, 549, 550, 551, 552, 553, 554] rfl (by decide +kernel)
set_option maxRecDepth 20000 in
theorem gL_law_X4_cut : GoodIn wsL_law (wsV RL 57 RX4 yX4_cut wsX4_cut) := goodIn_app (goodIn_r _ [359, 360, 361, 2] rfl (by decide +kernel)) ggL_law_X4_cut
set_option maxRecDepth 20000 in
theorem ggL_law_X5_cut : GoodIn wsL_law wsX5_cut := goodIn_r _ [366, 62, 61, 171, 172, 173, 5, 174, 99, 100, 101, 102, 515, 516, 517, 518, 519, 520, 521, 522, 523, 524, 525, 526, 527, 528, 529, 530, 531, 532, 533, 534] rfl (by decide +kernel)
set_option maxRecDepth 20000 in
theorem gL_law_X5_cut : GoodIn wsL_law (wsV RL 60 RX5 yX5_cut wsX5_cut) := goodIn_app (goodIn_r _ [363, 364, 365, 5] rfl (by decide +kernel)) ggL_law_X5_cut
set_option maxRecDepth 20000 in
theorem ggL_law_X4_rate : GoodIn wsL_law wsX4_rate := goodIn_r _ [370, 30, 82, 83, 2, 84, 506, 507, 508, 509, 510, 511, 512, 513, 514] rfl (by decide +kernel)
set_option maxRecDepth 20000 in
theorem gL_law_X4_rate : GoodIn wsL_law (wsV RL 61 RX4 yX4_rate wsX4_rate) := goodIn_app (goodIn_r _ [367, 368, 369, 2] rfl (by decide +kernel)) ggL_law_X4_rate
set_option maxRecDepth 20000 in
theorem ggL_law_X5_rate : GoodIn wsL_law wsX5_rate := goodIn_r _ [374, 69, 100, 101, 5, 102, 515, 516, 517, 518, 519, 520, 521, 522, 523, 524, 525, 526, 527, 528, 529, 530, 531, 532, 533, 534] rfl (by decide +kernel)
set_option maxRecDepth 20000 in
theorem gL_law_X5_rate : GoodIn wsL_law (wsV RL 64 RX5 yX5_rate wsX5_rate) := goodIn_app (goodIn_r _ [371, 372, 373, 5] rfl (by decide +kernel)) ggL_law_X5_rate
set_option maxRecDepth 20000 in
theorem ggL_law_X4_duty : GoodIn wsL_law wsX4_duty := goodIn_r _ [378, 28, 13, 111, 179, 30, 242, 243, 244, 2, 245, 82, 83, 84, 261, 262, 263, 506, 507, 508, 509, 510, 511, 512, 513, 514, 547, 548, 549, 550, 551, 552, 553, 554] rfl (by decide +kernel)
set_option maxRecDepth 20000 in
theorem gL_law_X4_duty : GoodIn wsL_law (wsV RL 65 RX4 yX4_duty wsX4_duty) := goodIn_app (goodIn_r _ [375, 376, 377, 2] rfl (by decide +kernel)) ggL_law_X4_duty
set_option maxRecDepth 20000 in
theorem ggL_law_X5_duty : GoodIn wsL_law wsX5_duty := goodIn_r _ [382, 99, 61, 62, 69, 100, 101, 5, 102, 304, 305, 306, 515, 516, 517, 518, 519, 520, 521, 522, 523, 524, 525, 526, 527, 528, 529, 530, 531, 532, 533, 534] rfl (by decide +kernel)
set_option maxRecDepth 20000 in
theorem gL_law_X5_duty : GoodIn wsL_law (wsV RL 68 RX5 yX5_duty wsX5_duty) := goodIn_app (goodIn_r _ [379, 380, 381, 5] rfl (by decide +kernel)) ggL_law_X5_duty
set_option maxRecDepth 20000 in
theorem ggL_law_X4_odds : GoodIn wsL_law wsX4_odds := goodIn_r _ [386, 387, 388, 389, 2, 390, 82, 83, 84, 391, 392, 393, 394] rfl (by decide +kernel)
set_option maxRecDepth 20000 in
theorem gL_law_X4_odds : GoodIn wsL_law (wsV RL 69 RX4 yX4_odds wsX4_odds) := goodIn_app (goodIn_r _ [383, 384, 385, 2] rfl (by decide +kernel)) ggL_law_X4_odds
set_option maxRecDepth 20000 in
theorem ggL_law_X5_odds : GoodIn wsL_law wsX5_odds := goodIn_r _ [398, 399, 100, 101, 5, 102, 400, 401, 402] rfl (by decide +kernel)
set_option maxRecDepth 20000 in
theorem gL_law_X5_odds : GoodIn wsL_law (wsV RL 73 RX5 yX5_odds wsX5_odds) := goodIn_app (goodIn_r _ [395, 396, 397, 5] rfl (by decide +kernel)) ggL_law_X5_odds
set_option maxRecDepth 20000 in
theorem ggL_law_X4_apart : GoodIn wsL_law wsX4_apart := goodIn_r _ [406, 407, 388, 389, 2, 390, 82, 83, 84, 391, 392, 393, 394] rfl (by decide +kernel)
set_option maxRecDepth 20000 in
theorem gL_law_X4_apart : GoodIn wsL_law (wsV RL 74 RX4 yX4_apart wsX4_apart) := goodIn_app (goodIn_r _ [403, 404, 405, 2] rfl (by decide +kernel)) ggL_law_X4_apart
set_option maxRecDepth 20000 in
theorem ggL_law_X5_apart : GoodIn wsL_law wsX5_apart := goodIn_r _ [411, 412, 100, 101, 5, 102, 400, 401, 402] rfl (by decide +kernel)
set_option maxRecDepth 20000 in
theorem gL_law_X5_apart : GoodIn wsL_law (wsV RL 77 RX5 yX5_apart wsX5_apart) := goodIn_app (goodIn_r _ [408, 409, 410, 5] rfl (by decide +kernel)) ggL_law_X5_apart
set_option maxRecDepth 20000 in
theorem ggL_law_X4_read : GoodIn wsL_law wsX4_read := goodIn_r _ [416, 27, 417, 418, 419, 2, 420, 82, 83, 84, 421, 422, 423, 26, 424, 52, 51, 425, 426, 427, 428, 46, 45, 429, 430, 431, 432, 433, 434, 435, 436, 506, 507, 508, 509, 510, 511, 512, 513, 514, 543, 544, 545, 546] rfl (by decide +kernel)
set_option maxRecDepth 20000 in
theorem gL_law_X4_read : GoodIn wsL_law (wsV RL 78 RX4 yX4_read wsX4_read) := goodIn_app (goodIn_r _ [413, 414, 415, 2] rfl (by decide +kernel)) ggL_law_X4_read
set_option maxRecDepth 20000 in
theorem ggL_law_X5_read : GoodIn wsL_law wsX5_read := goodIn_r _ [440, 441, 70, 71, 72, 100, 101, 5, 102, 515, 516, 517, 518, 519, 520, 521, 522, 523, 524, 525, 526, 527, 528, 529, 530, 531, 532, 533, 534] rfl (by decide +kernel)
set_option maxRecDepth 20000 in
theorem gL_law_X5_read : GoodIn wsL_law (wsV RL 81 RX5 yX5_read wsX5_read) := goodIn_app (goodIn_r _ [437, 438, 439, 5] rfl (by decide +kernel)) ggL_law_X5_read
set_option maxRecDepth 20000 in
theorem ggL_law_X4_clear : GoodIn wsL_law wsX4_clear := goodIn_r _ [445, 27, 417, 446, 48, 49, 26, 50, 45, 46, 51, 52, 506, 507, 508, 509, 510, 511, 512, 513, 514, 543, 544, 545, 546] rfl (by decide +kernel)
set_option maxRecDepth 20000 in
theorem gL_law_X4_clear : GoodIn wsL_law (wsV RL 82 RX4 yX4_clear wsX4_clear) := goodIn_app (goodIn_r _ [442, 443, 444, 2] rfl (by decide +kernel)) ggL_law_X4_clear
set_option maxRecDepth 20000 in
theorem ggL_law_X5_clear : GoodIn wsL_law wsX5_clear := goodIn_r _ [450, 441, 515, 516, 517, 518, 519, 520, 521, 522, 523, 524, 525, 526, 527, 528, 529, 530, 531, 532, 533, 534] rfl (by decide +kernel)
set_option maxRecDepth 20000 in
theorem gL_law_X5_clear : GoodIn wsL_law (wsV RL 86 RX5 yX5_clear wsX5_clear) := goodIn_app (goodIn_r _ [447, 448, 449, 5] rfl (by decide +kernel)) ggL_law_X5_clear
set_option maxRecDepth 20000 in
theorem ggL_law_X4_contradicts : GoodIn wsL_law wsX4_contradicts := goodIn_r _ [454, 27, 455, 506, 507, 508, 509, 510, 511, 512, 513, 514, 543, 544, 545, 546] rfl (by decide +kernel)
set_option maxRecDepth 20000 in
theorem gL_law_X4_contradicts : GoodIn wsL_law (wsV RL 87 RX4 yX4_contradicts wsX4_contradicts) := goodIn_app (goodIn_r _ [451, 452, 453, 2] rfl (by decide +kernel)) ggL_law_X4_contradicts
set_option maxRecDepth 20000 in
theorem ggL_law_X5_contradicts : GoodIn wsL_law wsX5_contradicts := goodIn_r _ [459, 460, 461, 462, 5, 463, 441, 70, 71, 75, 76, 72, 464, 465, 466, 467, 515, 516, 517, 518, 519, 520, 521, 522, 523, 524, 525, 526, 527, 528, 529, 530, 531, 532, 533, 534] rfl (by decide +kernel)
set_option maxRecDepth 20000 in
theorem gL_law_X5_contradicts : GoodIn wsL_law (wsV RL 90 RX5 yX5_contradicts wsX5_contradicts) := goodIn_app (goodIn_r _ [456, 457, 458, 5] rfl (by decide +kernel)) ggL_law_X5_contradicts
set_option maxRecDepth 20000 in
theorem ggL_law_X4_hang : GoodIn wsL_law wsX4_hang := goodIn_r _ [471, 472, 27, 473, 474, 418, 419, 2, 420, 82, 83, 84, 475, 430, 431, 26, 432, 45, 506, 507, 508, 509, 510, 511, 512, 513, 514, 543, 544, 545, 546] rfl (by decide +kernel)
set_option maxRecDepth 20000 in
theorem gL_law_X4_hang : GoodIn wsL_law (wsV RL 91 RX4 yX4_hang wsX4_hang) := goodIn_app (goodIn_r _ [468, 469, 470, 2] rfl (by decide +kernel)) ggL_law_X4_hang
set_option maxRecDepth 20000 in
theorem ggL_law_X5_hang : GoodIn wsL_law wsX5_hang := goodIn_r _ [479, 480, 441, 75, 76, 481, 100, 101, 5, 102, 460, 461, 462, 463, 70, 71, 72, 464, 465, 466, 467, 515, 516, 517, 518, 519, 520, 521, 522, 523, 524, 525, 526, 527, 528, 529, 530, 531, 532, 533, 534] rfl (by decide +kernel)
set_option maxRecDepth 20000 in
theorem gL_law_X5_hang : GoodIn wsL_law (wsV RL 94 RX5 yX5_hang wsX5_hang) := goodIn_app (goodIn_r _ [476, 477, 478, 5] rfl (by decide +kernel)) ggL_law_X5_hang
set_option maxRecDepth 20000 in
theorem ggL_law_X4_count : GoodIn wsL_law wsX4_count := goodIn_r _ [485, 29, 28, 27, 417, 30, 486, 487, 488, 2, 489, 13, 111, 490, 491, 492, 493, 506, 507, 508, 509, 510, 511, 512, 513, 514, 543, 544, 545, 546, 547, 548, 549, 550, 551, 552, 553, 554] rfl (by decide +kernel)
set_option maxRecDepth 20000 in
theorem gL_law_X4_count : GoodIn wsL_law (wsV RL 95 RX4 yX4_count wsX4_count) := goodIn_app (goodIn_r _ [482, 483, 484, 2] rfl (by decide +kernel)) ggL_law_X4_count
set_option maxRecDepth 20000 in
theorem ggL_law_X5_count : GoodIn wsL_law wsX5_count := goodIn_r _ [497, 77, 99, 61, 441, 69, 515, 516, 517, 518, 519, 520, 521, 522, 523, 524, 525, 526, 527, 528, 529, 530, 531, 532, 533, 534] rfl (by decide +kernel)
set_option maxRecDepth 20000 in
theorem gL_law_X5_count : GoodIn wsL_law (wsV RL 98 RX5 yX5_count wsX5_count) := goodIn_app (goodIn_r _ [494, 495, 496, 5] rfl (by decide +kernel)) ggL_law_X5_count
set_option maxRecDepth 20000 in
theorem ggL_law_X4_trace : GoodIn wsL_law wsX4_trace := goodIn_r _ [501, 31, 506, 507, 508, 509, 510, 511, 512, 513, 514] rfl (by decide +kernel)
set_option maxRecDepth 20000 in
theorem gL_law_X4_trace : GoodIn wsL_law (wsV RL 99 RX4 yX4_trace wsX4_trace) := goodIn_app (goodIn_r _ [498, 499, 500, 2] rfl (by decide +kernel)) ggL_law_X4_trace
set_option maxRecDepth 20000 in
theorem ggL_law_X5_trace : GoodIn wsL_law wsX5_trace := goodIn_r _ [505, 168, 515, 516, 517, 518, 519, 520, 521, 522, 523, 524, 525, 526, 527, 528, 529, 530, 531, 532, 533, 534] rfl (by decide +kernel)
set_option maxRecDepth 20000 in
theorem gL_law_X5_trace : GoodIn wsL_law (wsV RL 103 RX5 yX5_trace wsX5_trace) := goodIn_app (goodIn_r _ [502, 503, 504, 5] rfl (by decide +kernel)) ggL_law_X5_trace
end
section
theorem dX0_init_0 : decode cX0_init 0 = .ok (.aload_n 0, 1) := by decide +kernel
theorem dX0_init_1 : decode cX0_init 1 = .ok (.invokespecial 3, 3) := by decide +kernel
theorem dX0_init_4 : decode cX0_init 4 = .ok (.return_, 1) := by decide +kernel
theorem dX0_fill_0 : decode cX0_fill 0 = .ok (.aload_n 0, 1) := by decide +kernel
theorem dX0_fill_1 : decode cX0_fill 1 = .ok (.iload_n 1, 1) := by decide +kernel
theorem dX0_fill_2 : decode cX0_fill 2 = .ok (.putfield 9, 3) := by decide +kernel
theorem dX0_fill_5 : decode cX0_fill 5 = .ok (.aload_n 0, 1) := by decide +kernel
theorem dX0_fill_6 : decode cX0_fill 6 = .ok (.iload_n 2, 1) := by decide +kernel
theorem dX0_fill_7 : decode cX0_fill 7 = .ok (.putfield 15, 3) := by decide +kernel
theorem dX0_fill_10 : decode cX0_fill 10 = .ok (.aload_n 0, 1) := by decide +kernel
theorem dX0_fill_11 : decode cX0_fill 11 = .ok (.iload_n 3, 1) := by decide +kernel
theorem dX0_fill_12 : decode cX0_fill 12 = .ok (.putfield 18, 3) := by decide +kernel
theorem dX0_fill_15 : decode cX0_fill 15 = .ok (.aload_n 0, 1) := by decide +kernel
theorem dX0_fill_16 : decode cX0_fill 16 = .ok (.iload 4, 2) := by decide +kernel
theorem dX0_fill_18 : decode cX0_fill 18 = .ok (.putfield 21, 3) := by decide +kernel
theorem dX0_fill_21 : decode cX0_fill 21 = .ok (.aload_n 0, 1) := by decide +kernel
theorem dX0_fill_22 : decode cX0_fill 22 = .ok (.iload 5, 2) := by decide +kernel
theorem dX0_fill_24 : decode cX0_fill 24 = .ok (.putfield 24, 3) := by decide +kernel
theorem dX0_fill_27 : decode cX0_fill 27 = .ok (.aload_n 0, 1) := by decide +kernel
theorem dX0_fill_28 : decode cX0_fill 28 = .ok (.iload 6, 2) := by decide +kernel
theorem dX0_fill_30 : decode cX0_fill 30 = .ok (.putfield 27, 3) := by decide +kernel
theorem dX0_fill_33 : decode cX0_fill 33 = .ok (.return_, 1) := by decide +kernel
theorem dX0_age_0 : decode cX0_age 0 = .ok (.iload_n 1, 1) := by decide +kernel
theorem dX0_age_1 : decode cX0_age 1 = .ok (.aload_n 0, 1) := by decide +kernel
theorem dX0_age_2 : decode cX0_age 2 = .ok (.getfield 27, 3) := by decide +kernel
theorem dX0_age_5 : decode cX0_age 5 = .ok (.isub, 1) := by decide +kernel
theorem dX0_age_6 : decode cX0_age 6 = .ok (.ireturn, 1) := by decide +kernel
theorem dX0_cost_0 : decode cX0_cost 0 = .ok (.bipush 20, 2) := by decide +kernel
theorem dX0_cost_2 : decode cX0_cost 2 = .ok (.iconst 3, 1) := by decide +kernel
theorem dX0_cost_3 : decode cX0_cost 3 = .ok (.aload_n 0, 1) := by decide +kernel
theorem dX0_cost_4 : decode cX0_cost 4 = .ok (.iload_n 1, 1) := by decide +kernel
theorem dX0_cost_5 : decode cX0_cost 5 = .ok (.invokevirtual 30, 3) := by decide +kernel
theorem dX0_cost_8 : decode cX0_cost 8 = .ok (.imul, 1) := by decide +kernel
theorem dX0_cost_9 : decode cX0_cost 9 = .ok (.iadd, 1) := by decide +kernel
theorem dX0_cost_10 : decode cX0_cost 10 = .ok (.aload_n 0, 1) := by decide +kernel
theorem dX0_cost_11 : decode cX0_cost 11 = .ok (.getfield 15, 3) := by decide +kernel
theorem dX0_cost_14 : decode cX0_cost 14 = .ok (.imul, 1) := by decide +kernel
theorem dX0_cost_15 : decode cX0_cost 15 = .ok (.bipush 100, 2) := by decide +kernel
theorem dX0_cost_17 : decode cX0_cost 17 = .ok (.invokestatic 34, 3) := by decide +kernel
theorem dX0_cost_20 : decode cX0_cost 20 = .ok (.ireturn, 1) := by decide +kernel
theorem dX0_lossIn_0 : decode cX0_lossIn 0 = .ok (.aload_n 0, 1) := by decide +kernel
theorem dX0_lossIn_1 : decode cX0_lossIn 1 = .ok (.getfield 9, 3) := by decide +kernel
theorem dX0_lossIn_4 : decode cX0_lossIn 4 = .ok (.aload_n 0, 1) := by decide +kernel
theorem dX0_lossIn_5 : decode cX0_lossIn 5 = .ok (.getfield 21, 3) := by decide +kernel
theorem dX0_lossIn_8 : decode cX0_lossIn 8 = .ok (.aload_n 0, 1) := by decide +kernel
theorem dX0_lossIn_9 : decode cX0_lossIn 9 = .ok (.iload_n 1, 1) := by decide +kernel
theorem dX0_lossIn_10 : decode cX0_lossIn 10 = .ok (.invokevirtual 30, 3) := by decide +kernel
theorem dX0_lossIn_13 : decode cX0_lossIn 13 = .ok (.invokestatic 38, 3) := by decide +kernel
theorem dX0_lossIn_16 : decode cX0_lossIn 16 = .ok (.ireturn, 1) := by decide +kernel
theorem dX0_passYear_0 : decode cX0_passYear 0 = .ok (.aload_n 0, 1) := by decide +kernel
theorem dX0_passYear_1 : decode cX0_passYear 1 = .ok (.iload_n 1, 1) := by decide +kernel
theorem dX0_passYear_2 : decode cX0_passYear 2 = .ok (.invokevirtual 42, 3) := by decide +kernel
theorem dX0_passYear_5 : decode cX0_passYear 5 = .ok (.istore_n 2, 1) := by decide +kernel
theorem dX0_passYear_6 : decode cX0_passYear 6 = .ok (.aload_n 0, 1) := by decide +kernel
theorem dX0_passYear_7 : decode cX0_passYear 7 = .ok (.dup, 1) := by decide +kernel
theorem dX0_passYear_8 : decode cX0_passYear 8 = .ok (.getfield 15, 3) := by decide +kernel
theorem dX0_passYear_11 : decode cX0_passYear 11 = .ok (.aload_n 0, 1) := by decide +kernel
theorem dX0_passYear_12 : decode cX0_passYear 12 = .ok (.getfield 15, 3) := by decide +kernel
theorem dX0_passYear_15 : decode cX0_passYear 15 = .ok (.iload_n 2, 1) := by decide +kernel
theorem dX0_passYear_16 : decode cX0_passYear 16 = .ok (.invokestatic 45, 3) := by decide +kernel
theorem dX0_passYear_19 : decode cX0_passYear 19 = .ok (.isub, 1) := by decide +kernel
theorem dX0_passYear_20 : decode cX0_passYear 20 = .ok (.putfield 15, 3) := by decide +kernel
theorem dX0_passYear_23 : decode cX0_passYear 23 = .ok (.aload_n 0, 1) := by decide +kernel
theorem dX0_passYear_24 : decode cX0_passYear 24 = .ok (.dup, 1) := by decide +kernel
theorem dX0_passYear_25 : decode cX0_passYear 25 = .ok (.getfield 48, 3) := by decide +kernel
theorem dX0_passYear_28 : decode cX0_passYear 28 = .ok (.iconst 0, 1) := by decide +kernel
theorem dX0_passYear_29 : decode cX0_passYear 29 = .ok (.iload_n 2, 1) := by decide +kernel
theorem dX0_passYear_30 : decode cX0_passYear 30 = .ok (.bipush 10, 2) := by decide +kernel
theorem dX0_passYear_32 : decode cX0_passYear 32 = .ok (.isub, 1) := by decide +kernel
theorem dX0_passYear_33 : decode cX0_passYear 33 = .ok (.invokestatic 51, 3) := by decide +kernel
theorem dX0_passYear_36 : decode cX0_passYear 36 = .ok (.iadd, 1) := by decide +kernel
theorem dX0_passYear_37 : decode cX0_passYear 37 = .ok (.putfield 48, 3) := by decide +kernel
theorem dX0_passYear_40 : decode cX0_passYear 40 = .ok (.aload_n 0, 1) := by decide +kernel
theorem dX0_passYear_41 : decode cX0_passYear 41 = .ok (.dup, 1) := by decide +kernel
theorem dX0_passYear_42 : decode cX0_passYear 42 = .ok (.getfield 24, 3) := by decide +kernel
theorem dX0_passYear_45 : decode cX0_passYear 45 = .ok (.aload_n 0, 1) := by decide +kernel
theorem dX0_passYear_46 : decode cX0_passYear 46 = .ok (.getfield 24, 3) := by decide +kernel
theorem dX0_passYear_49 : decode cX0_passYear 49 = .ok (.bipush 10, 2) := by decide +kernel
theorem dX0_passYear_51 : decode cX0_passYear 51 = .ok (.invokestatic 34, 3) := by decide +kernel
theorem dX0_passYear_54 : decode cX0_passYear 54 = .ok (.isub, 1) := by decide +kernel
theorem dX0_passYear_55 : decode cX0_passYear 55 = .ok (.putfield 24, 3) := by decide +kernel
theorem dX0_passYear_58 : decode cX0_passYear 58 = .ok (.aload_n 0, 1) := by decide +kernel
theorem dX0_passYear_59 : decode cX0_passYear 59 = .ok (.dup, 1) := by decide +kernel
theorem dX0_passYear_60 : decode cX0_passYear 60 = .ok (.getfield 56, 3) := by decide +kernel
theorem dX0_passYear_63 : decode cX0_passYear 63 = .ok (.bipush 6, 2) := by decide +kernel
theorem dX0_passYear_65 : decode cX0_passYear 65 = .ok (.iconst 2, 1) := by decide +kernel
theorem dX0_passYear_66 : decode cX0_passYear 66 = .ok (.aload_n 0, 1) := by decide +kernel
theorem dX0_passYear_67 : decode cX0_passYear 67 = .ok (.getfield 9, 3) := by decide +kernel
theorem dX0_passYear_70 : decode cX0_passYear 70 = .ok (.imul, 1) := by decide +kernel
theorem dX0_passYear_71 : decode cX0_passYear 71 = .ok (.isub, 1) := by decide +kernel
theorem dX0_passYear_72 : decode cX0_passYear 72 = .ok (.iadd, 1) := by decide +kernel
theorem dX0_passYear_73 : decode cX0_passYear 73 = .ok (.putfield 56, 3) := by decide +kernel
theorem dX0_passYear_76 : decode cX0_passYear 76 = .ok (.aload_n 0, 1) := by decide +kernel
theorem dX0_passYear_77 : decode cX0_passYear 77 = .ok (.sipush 400, 3) := by decide +kernel
theorem dX0_passYear_80 : decode cX0_passYear 80 = .ok (.aload_n 0, 1) := by decide +kernel
theorem dX0_passYear_81 : decode cX0_passYear 81 = .ok (.getfield 18, 3) := by decide +kernel
theorem dX0_passYear_84 : decode cX0_passYear 84 = .ok (.iconst 3, 1) := by decide +kernel
theorem dX0_passYear_85 : decode cX0_passYear 85 = .ok (.isub, 1) := by decide +kernel
theorem dX0_passYear_86 : decode cX0_passYear 86 = .ok (.invokestatic 51, 3) := by decide +kernel
theorem dX0_passYear_89 : decode cX0_passYear 89 = .ok (.putfield 18, 3) := by decide +kernel
theorem dX0_passYear_92 : decode cX0_passYear 92 = .ok (.return_, 1) := by decide +kernel
theorem dX1_init_0 : decode cX1_init 0 = .ok (.aload_n 0, 1) := by decide +kernel
theorem dX1_init_1 : decode cX1_init 1 = .ok (.invokespecial 3, 3) := by decide +kernel
theorem dX1_init_4 : decode cX1_init 4 = .ok (.return_, 1) := by decide +kernel
theorem dX1_start_0 : decode cX1_start 0 = .ok (.aload_n 0, 1) := by decide +kernel
theorem dX1_start_1 : decode cX1_start 1 = .ok (.iconst 0, 1) := by decide +kernel
theorem dX1_start_2 : decode cX1_start 2 = .ok (.putfield 9, 3) := by decide +kernel
theorem dX1_start_5 : decode cX1_start 5 = .ok (.aload_n 0, 1) := by decide +kernel
theorem dX1_start_6 : decode cX1_start 6 = .ok (.iconst 0, 1) := by decide +kernel
theorem dX1_start_7 : decode cX1_start 7 = .ok (.putfield 15, 3) := by decide +kernel
theorem dX1_start_10 : decode cX1_start 10 = .ok (.aload_n 0, 1) := by decide +kernel
theorem dX1_start_11 : decode cX1_start 11 = .ok (.iconst 0, 1) := by decide +kernel
theorem dX1_start_12 : decode cX1_start 12 = .ok (.putfield 18, 3) := by decide +kernel
theorem dX1_start_15 : decode cX1_start 15 = .ok (.aload_n 0, 1) := by decide +kernel
theorem dX1_start_16 : decode cX1_start 16 = .ok (.iconst 0, 1) := by decide +kernel
theorem dX1_start_17 : decode cX1_start 17 = .ok (.putfield 21, 3) := by decide +kernel
theorem dX1_start_20 : decode cX1_start 20 = .ok (.aload_n 0, 1) := by decide +kernel
theorem dX1_start_21 : decode cX1_start 21 = .ok (.iconst 0, 1) := by decide +kernel
theorem dX1_start_22 : decode cX1_start 22 = .ok (.putfield 24, 3) := by decide +kernel
theorem dX1_start_25 : decode cX1_start 25 = .ok (.aload_n 0, 1) := by decide +kernel
theorem dX1_start_26 : decode cX1_start 26 = .ok (.iconst 0, 1) := by decide +kernel
theorem dX1_start_27 : decode cX1_start 27 = .ok (.putfield 27, 3) := by decide +kernel
theorem dX1_start_30 : decode cX1_start 30 = .ok (.aload_n 0, 1) := by decide +kernel
theorem dX1_start_31 : decode cX1_start 31 = .ok (.bipush 60, 2) := by decide +kernel
theorem dX1_start_33 : decode cX1_start 33 = .ok (.putfield 30, 3) := by decide +kernel
theorem dX1_start_36 : decode cX1_start 36 = .ok (.return_, 1) := by decide +kernel
theorem dX1_add_0 : decode cX1_add 0 = .ok (.aload_n 0, 1) := by decide +kernel
theorem dX1_add_1 : decode cX1_add 1 = .ok (.dup, 1) := by decide +kernel
theorem dX1_add_2 : decode cX1_add 2 = .ok (.getfield 9, 3) := by decide +kernel
theorem dX1_add_5 : decode cX1_add 5 = .ok (.aload_n 1, 1) := by decide +kernel
theorem dX1_add_6 : decode cX1_add 6 = .ok (.getfield 33, 3) := by decide +kernel
theorem dX1_add_9 : decode cX1_add 9 = .ok (.iadd, 1) := by decide +kernel
theorem dX1_add_10 : decode cX1_add 10 = .ok (.putfield 9, 3) := by decide +kernel
theorem dX1_add_13 : decode cX1_add 13 = .ok (.aload_n 0, 1) := by decide +kernel
theorem dX1_add_14 : decode cX1_add 14 = .ok (.dup, 1) := by decide +kernel
theorem dX1_add_15 : decode cX1_add 15 = .ok (.getfield 15, 3) := by decide +kernel
theorem dX1_add_18 : decode cX1_add 18 = .ok (.aload_n 1, 1) := by decide +kernel
theorem dX1_add_19 : decode cX1_add 19 = .ok (.getfield 33, 3) := by decide +kernel
theorem dX1_add_22 : decode cX1_add 22 = .ok (.aload_n 1, 1) := by decide +kernel
theorem dX1_add_23 : decode cX1_add 23 = .ok (.getfield 36, 3) := by decide +kernel
theorem dX1_add_26 : decode cX1_add 26 = .ok (.imul, 1) := by decide +kernel
theorem dX1_add_27 : decode cX1_add 27 = .ok (.iadd, 1) := by decide +kernel
theorem dX1_add_28 : decode cX1_add 28 = .ok (.putfield 15, 3) := by decide +kernel
theorem dX1_add_31 : decode cX1_add 31 = .ok (.aload_n 0, 1) := by decide +kernel
theorem dX1_add_32 : decode cX1_add 32 = .ok (.dup, 1) := by decide +kernel
theorem dX1_add_33 : decode cX1_add 33 = .ok (.getfield 18, 3) := by decide +kernel
theorem dX1_add_36 : decode cX1_add 36 = .ok (.aload_n 1, 1) := by decide +kernel
theorem dX1_add_37 : decode cX1_add 37 = .ok (.getfield 33, 3) := by decide +kernel
theorem dX1_add_40 : decode cX1_add 40 = .ok (.aload_n 1, 1) := by decide +kernel
theorem dX1_add_41 : decode cX1_add 41 = .ok (.getfield 39, 3) := by decide +kernel
theorem dX1_add_44 : decode cX1_add 44 = .ok (.imul, 1) := by decide +kernel
theorem dX1_add_45 : decode cX1_add 45 = .ok (.iadd, 1) := by decide +kernel
theorem dX1_add_46 : decode cX1_add 46 = .ok (.putfield 18, 3) := by decide +kernel
theorem dX1_add_49 : decode cX1_add 49 = .ok (.aload_n 0, 1) := by decide +kernel
theorem dX1_add_50 : decode cX1_add 50 = .ok (.dup, 1) := by decide +kernel
theorem dX1_add_51 : decode cX1_add 51 = .ok (.getfield 21, 3) := by decide +kernel
theorem dX1_add_54 : decode cX1_add 54 = .ok (.aload_n 1, 1) := by decide +kernel
theorem dX1_add_55 : decode cX1_add 55 = .ok (.getfield 33, 3) := by decide +kernel
theorem dX1_add_58 : decode cX1_add 58 = .ok (.aload_n 1, 1) := by decide +kernel
theorem dX1_add_59 : decode cX1_add 59 = .ok (.getfield 42, 3) := by decide +kernel
theorem dX1_add_62 : decode cX1_add 62 = .ok (.imul, 1) := by decide +kernel
theorem dX1_add_63 : decode cX1_add 63 = .ok (.iadd, 1) := by decide +kernel
theorem dX1_add_64 : decode cX1_add 64 = .ok (.putfield 21, 3) := by decide +kernel
theorem dX1_add_67 : decode cX1_add 67 = .ok (.aload_n 0, 1) := by decide +kernel
theorem dX1_add_68 : decode cX1_add 68 = .ok (.dup, 1) := by decide +kernel
theorem dX1_add_69 : decode cX1_add 69 = .ok (.getfield 24, 3) := by decide +kernel
theorem dX1_add_72 : decode cX1_add 72 = .ok (.aload_n 1, 1) := by decide +kernel
theorem dX1_add_73 : decode cX1_add 73 = .ok (.getfield 33, 3) := by decide +kernel
theorem dX1_add_76 : decode cX1_add 76 = .ok (.aload_n 1, 1) := by decide +kernel
theorem dX1_add_77 : decode cX1_add 77 = .ok (.getfield 45, 3) := by decide +kernel
theorem dX1_add_80 : decode cX1_add 80 = .ok (.imul, 1) := by decide +kernel
theorem dX1_add_81 : decode cX1_add 81 = .ok (.iadd, 1) := by decide +kernel
theorem dX1_add_82 : decode cX1_add 82 = .ok (.putfield 24, 3) := by decide +kernel
theorem dX1_add_85 : decode cX1_add 85 = .ok (.aload_n 0, 1) := by decide +kernel
theorem dX1_add_86 : decode cX1_add 86 = .ok (.dup, 1) := by decide +kernel
theorem dX1_add_87 : decode cX1_add 87 = .ok (.getfield 27, 3) := by decide +kernel
theorem dX1_add_90 : decode cX1_add 90 = .ok (.aload_n 1, 1) := by decide +kernel
theorem dX1_add_91 : decode cX1_add 91 = .ok (.iload_n 2, 1) := by decide +kernel
theorem dX1_add_92 : decode cX1_add 92 = .ok (.invokevirtual 48, 3) := by decide +kernel
theorem dX1_add_95 : decode cX1_add 95 = .ok (.iadd, 1) := by decide +kernel
theorem dX1_add_96 : decode cX1_add 96 = .ok (.putfield 27, 3) := by decide +kernel
theorem dX1_add_99 : decode cX1_add 99 = .ok (.aload_n 0, 1) := by decide +kernel
theorem dX1_add_100 : decode cX1_add 100 = .ok (.aload_n 0, 1) := by decide +kernel
theorem dX1_add_101 : decode cX1_add 101 = .ok (.getfield 30, 3) := by decide +kernel
theorem dX1_add_104 : decode cX1_add 104 = .ok (.aload_n 1, 1) := by decide +kernel
theorem dX1_add_105 : decode cX1_add 105 = .ok (.iload_n 2, 1) := by decide +kernel
theorem dX1_add_106 : decode cX1_add 106 = .ok (.invokevirtual 51, 3) := by decide +kernel
theorem dX1_add_109 : decode cX1_add 109 = .ok (.invokestatic 53, 3) := by decide +kernel
theorem dX1_add_112 : decode cX1_add 112 = .ok (.putfield 30, 3) := by decide +kernel
theorem dX1_add_115 : decode cX1_add 115 = .ok (.return_, 1) := by decide +kernel
theorem dX1_evenly_0 : decode cX1_evenly 0 = .ok (.aload_n 0, 1) := by decide +kernel
theorem dX1_evenly_1 : decode cX1_evenly 1 = .ok (.getfield 9, 3) := by decide +kernel
theorem dX1_evenly_4 : decode cX1_evenly 4 = .ok (.iconst 1, 1) := by decide +kernel
theorem dX1_evenly_5 : decode cX1_evenly 5 = .ok (.if_icmp .ge 7, 3) := by decide +kernel
theorem dX1_evenly_8 : decode cX1_evenly 8 = .ok (.iconst 0, 1) := by decide +kernel
theorem dX1_evenly_9 : decode cX1_evenly 9 = .ok (.goto 9, 3) := by decide +kernel
theorem dX1_evenly_12 : decode cX1_evenly 12 = .ok (.iload_n 1, 1) := by decide +kernel
theorem dX1_evenly_13 : decode cX1_evenly 13 = .ok (.aload_n 0, 1) := by decide +kernel
theorem dX1_evenly_14 : decode cX1_evenly 14 = .ok (.getfield 9, 3) := by decide +kernel
theorem dX1_evenly_17 : decode cX1_evenly 17 = .ok (.idiv, 1) := by decide +kernel
theorem dX1_evenly_18 : decode cX1_evenly 18 = .ok (.ireturn, 1) := by decide +kernel
theorem dX2_init_0 : decode cX2_init 0 = .ok (.aload_n 0, 1) := by decide +kernel
theorem dX2_init_1 : decode cX2_init 1 = .ok (.invokespecial 3, 3) := by decide +kernel
theorem dX2_init_4 : decode cX2_init 4 = .ok (.aload_n 0, 1) := by decide +kernel
theorem dX2_init_5 : decode cX2_init 5 = .ok (.bipush 16, 2) := by decide +kernel
theorem dX2_init_7 : decode cX2_init 7 = .ok (.newarray .int, 2) := by decide +kernel
theorem dX2_init_9 : decode cX2_init 9 = .ok (.putfield 9, 3) := by decide +kernel
theorem dX2_init_12 : decode cX2_init 12 = .ok (.aload_n 0, 1) := by decide +kernel
theorem dX2_init_13 : decode cX2_init 13 = .ok (.bipush 16, 2) := by decide +kernel
theorem dX2_init_15 : decode cX2_init 15 = .ok (.newarray .int, 2) := by decide +kernel
theorem dX2_init_17 : decode cX2_init 17 = .ok (.putfield 15, 3) := by decide +kernel
theorem dX2_init_20 : decode cX2_init 20 = .ok (.aload_n 0, 1) := by decide +kernel
theorem dX2_init_21 : decode cX2_init 21 = .ok (.invokevirtual 18, 3) := by decide +kernel
theorem dX2_init_24 : decode cX2_init 24 = .ok (.return_, 1) := by decide +kernel
theorem dX2_reset_0 : decode cX2_reset 0 = .ok (.iconst 0, 1) := by decide +kernel
theorem dX2_reset_1 : decode cX2_reset 1 = .ok (.istore_n 1, 1) := by decide +kernel
theorem dX2_reset_2 : decode cX2_reset 2 = .ok (.iload_n 1, 1) := by decide +kernel
theorem dX2_reset_3 : decode cX2_reset 3 = .ok (.bipush 16, 2) := by decide +kernel
theorem dX2_reset_5 : decode cX2_reset 5 = .ok (.if_icmp .ge 23, 3) := by decide +kernel
theorem dX2_reset_8 : decode cX2_reset 8 = .ok (.aload_n 0, 1) := by decide +kernel
theorem dX2_reset_9 : decode cX2_reset 9 = .ok (.getfield 9, 3) := by decide +kernel
theorem dX2_reset_12 : decode cX2_reset 12 = .ok (.iload_n 1, 1) := by decide +kernel
theorem dX2_reset_13 : decode cX2_reset 13 = .ok (.iload_n 1, 1) := by decide +kernel
theorem dX2_reset_14 : decode cX2_reset 14 = .ok (.iastore, 1) := by decide +kernel
theorem dX2_reset_15 : decode cX2_reset 15 = .ok (.aload_n 0, 1) := by decide +kernel
theorem dX2_reset_16 : decode cX2_reset 16 = .ok (.getfield 15, 3) := by decide +kernel
theorem dX2_reset_19 : decode cX2_reset 19 = .ok (.iload_n 1, 1) := by decide +kernel
theorem dX2_reset_20 : decode cX2_reset 20 = .ok (.iconst 0, 1) := by decide +kernel
theorem dX2_reset_21 : decode cX2_reset 21 = .ok (.iastore, 1) := by decide +kernel
theorem dX2_reset_22 : decode cX2_reset 22 = .ok (.iinc 1 1, 3) := by decide +kernel
theorem dX2_reset_25 : decode cX2_reset 25 = .ok (.goto (-23), 3) := by decide +kernel
theorem dX2_reset_28 : decode cX2_reset 28 = .ok (.aload_n 0, 1) := by decide +kernel
theorem dX2_reset_29 : decode cX2_reset 29 = .ok (.iconst 0, 1) := by decide +kernel
theorem dX2_reset_30 : decode cX2_reset 30 = .ok (.putfield 21, 3) := by decide +kernel
theorem dX2_reset_33 : decode cX2_reset 33 = .ok (.aload_n 0, 1) := by decide +kernel
theorem dX2_reset_34 : decode cX2_reset 34 = .ok (.bipush (-9), 2) := by decide +kernel
theorem dX2_reset_36 : decode cX2_reset 36 = .ok (.putfield 25, 3) := by decide +kernel
theorem dX2_reset_39 : decode cX2_reset 39 = .ok (.return_, 1) := by decide +kernel
theorem dX2_ties_0 : decode cX2_ties 0 = .ok (.aload_n 0, 1) := by decide +kernel
theorem dX2_ties_1 : decode cX2_ties 1 = .ok (.getfield 9, 3) := by decide +kernel
theorem dX2_ties_4 : decode cX2_ties 4 = .ok (.iload_n 1, 1) := by decide +kernel
theorem dX2_ties_5 : decode cX2_ties 5 = .ok (.iaload, 1) := by decide +kernel
theorem dX2_ties_6 : decode cX2_ties 6 = .ok (.aload_n 0, 1) := by decide +kernel
theorem dX2_ties_7 : decode cX2_ties 7 = .ok (.getfield 9, 3) := by decide +kernel
theorem dX2_ties_10 : decode cX2_ties 10 = .ok (.iload_n 2, 1) := by decide +kernel
theorem dX2_ties_11 : decode cX2_ties 11 = .ok (.iaload, 1) := by decide +kernel
theorem dX2_ties_12 : decode cX2_ties 12 = .ok (.if_icmp .ne 7, 3) := by decide +kernel
theorem dX2_ties_15 : decode cX2_ties 15 = .ok (.iconst 1, 1) := by decide +kernel
theorem dX2_ties_16 : decode cX2_ties 16 = .ok (.goto 4, 3) := by decide +kernel
theorem dX2_ties_19 : decode cX2_ties 19 = .ok (.iconst 0, 1) := by decide +kernel
theorem dX2_ties_20 : decode cX2_ties 20 = .ok (.ireturn, 1) := by decide +kernel
theorem dX2_take_0 : decode cX2_take 0 = .ok (.aload_n 0, 1) := by decide +kernel
theorem dX2_take_1 : decode cX2_take 1 = .ok (.getfield 25, 3) := by decide +kernel
theorem dX2_take_4 : decode cX2_take 4 = .ok (.bipush (-9), 2) := by decide +kernel
theorem dX2_take_6 : decode cX2_take 6 = .ok (.if_icmp .ne 13, 3) := by decide +kernel
theorem dX2_take_9 : decode cX2_take 9 = .ok (.aload_n 0, 1) := by decide +kernel
theorem dX2_take_10 : decode cX2_take 10 = .ok (.iload_n 1, 1) := by decide +kernel
theorem dX2_take_11 : decode cX2_take 11 = .ok (.bipush 6, 2) := by decide +kernel
theorem dX2_take_13 : decode cX2_take 13 = .ok (.iload_n 2, 1) := by decide +kernel
theorem dX2_take_14 : decode cX2_take 14 = .ok (.iadd, 1) := by decide +kernel
theorem dX2_take_15 : decode cX2_take 15 = .ok (.iload_n 3, 1) := by decide +kernel
theorem dX2_take_16 : decode cX2_take 16 = .ok (.invokevirtual 28, 3) := by decide +kernel
theorem dX2_take_19 : decode cX2_take 19 = .ok (.aload_n 0, 1) := by decide +kernel
theorem dX2_take_20 : decode cX2_take 20 = .ok (.dup, 1) := by decide +kernel
theorem dX2_take_21 : decode cX2_take 21 = .ok (.getfield 21, 3) := by decide +kernel
theorem dX2_take_24 : decode cX2_take 24 = .ok (.iconst 1, 1) := by decide +kernel
theorem dX2_take_25 : decode cX2_take 25 = .ok (.iadd, 1) := by decide +kernel
theorem dX2_take_26 : decode cX2_take 26 = .ok (.putfield 21, 3) := by decide +kernel
theorem dX2_take_29 : decode cX2_take 29 = .ok (.return_, 1) := by decide +kernel
theorem dX2_fit_0 : decode cX2_fit 0 = .ok (.aload_n 0, 1) := by decide +kernel
theorem dX2_fit_1 : decode cX2_fit 1 = .ok (.getfield 15, 3) := by decide +kernel
theorem dX2_fit_4 : decode cX2_fit 4 = .ok (.iload_n 1, 1) := by decide +kernel
theorem dX2_fit_5 : decode cX2_fit 5 = .ok (.iaload, 1) := by decide +kernel
theorem dX2_fit_6 : decode cX2_fit 6 = .ok (.aload_n 0, 1) := by decide +kernel
theorem dX2_fit_7 : decode cX2_fit 7 = .ok (.getfield 15, 3) := by decide +kernel
theorem dX2_fit_10 : decode cX2_fit 10 = .ok (.iload_n 2, 1) := by decide +kernel
theorem dX2_fit_11 : decode cX2_fit 11 = .ok (.iaload, 1) := by decide +kernel
theorem dX2_fit_12 : decode cX2_fit 12 = .ok (.isub, 1) := by decide +kernel
theorem dX2_fit_13 : decode cX2_fit 13 = .ok (.iload_n 3, 1) := by decide +kernel
theorem dX2_fit_14 : decode cX2_fit 14 = .ok (.isub, 1) := by decide +kernel
theorem dX2_fit_15 : decode cX2_fit 15 = .ok (.istore 4, 2) := by decide +kernel
theorem dX2_fit_17 : decode cX2_fit 17 = .ok (.aload_n 0, 1) := by decide +kernel
theorem dX2_fit_18 : decode cX2_fit 18 = .ok (.iload_n 1, 1) := by decide +kernel
theorem dX2_fit_19 : decode cX2_fit 19 = .ok (.iload_n 2, 1) := by decide +kernel
theorem dX2_fit_20 : decode cX2_fit 20 = .ok (.invokevirtual 32, 3) := by decide +kernel
theorem dX2_fit_23 : decode cX2_fit 23 = .ok (.ifCond .ne 24, 3) := by decide +kernel
theorem dX2_fit_26 : decode cX2_fit 26 = .ok (.aload_n 0, 1) := by decide +kernel
theorem dX2_fit_27 : decode cX2_fit 27 = .ok (.aload_n 0, 1) := by decide +kernel
theorem dX2_fit_28 : decode cX2_fit 28 = .ok (.getfield 9, 3) := by decide +kernel
theorem dX2_fit_31 : decode cX2_fit 31 = .ok (.iload_n 1, 1) := by decide +kernel
theorem dX2_fit_32 : decode cX2_fit 32 = .ok (.iaload, 1) := by decide +kernel
theorem dX2_fit_33 : decode cX2_fit 33 = .ok (.aload_n 0, 1) := by decide +kernel
theorem dX2_fit_34 : decode cX2_fit 34 = .ok (.getfield 9, 3) := by decide +kernel
theorem dX2_fit_37 : decode cX2_fit 37 = .ok (.iload_n 2, 1) := by decide +kernel
theorem dX2_fit_38 : decode cX2_fit 38 = .ok (.iaload, 1) := by decide +kernel
theorem dX2_fit_39 : decode cX2_fit 39 = .ok (.iload 4, 2) := by decide +kernel
theorem dX2_fit_41 : decode cX2_fit 41 = .ok (.invokevirtual 36, 3) := by decide +kernel
theorem dX2_fit_44 : decode cX2_fit 44 = .ok (.goto 16, 3) := by decide +kernel
theorem dX2_fit_47 : decode cX2_fit 47 = .ok (.iload 4, 2) := by decide +kernel
theorem dX2_fit_49 : decode cX2_fit 49 = .ok (.ifCond .eq 11, 3) := by decide +kernel
theorem dX2_fit_52 : decode cX2_fit 52 = .ok (.aload_n 0, 1) := by decide +kernel
theorem dX2_fit_53 : decode cX2_fit 53 = .ok (.aload_n 0, 1) := by decide +kernel
theorem dX2_fit_54 : decode cX2_fit 54 = .ok (.getfield 21, 3) := by decide +kernel
theorem dX2_fit_57 : decode cX2_fit 57 = .ok (.putfield 25, 3) := by decide +kernel
theorem dX2_fit_60 : decode cX2_fit 60 = .ok (.return_, 1) := by decide +kernel
theorem dX2_join_0 : decode cX2_join 0 = .ok (.iconst 0, 1) := by decide +kernel
theorem dX2_join_1 : decode cX2_join 1 = .ok (.istore 4, 2) := by decide +kernel
theorem dX2_join_3 : decode cX2_join 3 = .ok (.iload 4, 2) := by decide +kernel
theorem dX2_join_5 : decode cX2_join 5 = .ok (.bipush 16, 2) := by decide +kernel
theorem dX2_join_7 : decode cX2_join 7 = .ok (.if_icmp .ge 39, 3) := by decide +kernel
theorem dX2_join_10 : decode cX2_join 10 = .ok (.aload_n 0, 1) := by decide +kernel
theorem dX2_join_11 : decode cX2_join 11 = .ok (.getfield 9, 3) := by decide +kernel
theorem dX2_join_14 : decode cX2_join 14 = .ok (.iload 4, 2) := by decide +kernel
theorem dX2_join_16 : decode cX2_join 16 = .ok (.iaload, 1) := by decide +kernel
theorem dX2_join_17 : decode cX2_join 17 = .ok (.iload_n 1, 1) := by decide +kernel
theorem dX2_join_18 : decode cX2_join 18 = .ok (.if_icmp .ne 22, 3) := by decide +kernel
theorem dX2_join_21 : decode cX2_join 21 = .ok (.aload_n 0, 1) := by decide +kernel
theorem dX2_join_22 : decode cX2_join 22 = .ok (.getfield 9, 3) := by decide +kernel
theorem dX2_join_25 : decode cX2_join 25 = .ok (.iload 4, 2) := by decide +kernel
theorem dX2_join_27 : decode cX2_join 27 = .ok (.iload_n 2, 1) := by decide +kernel
theorem dX2_join_28 : decode cX2_join 28 = .ok (.iastore, 1) := by decide +kernel
theorem dX2_join_29 : decode cX2_join 29 = .ok (.aload_n 0, 1) := by decide +kernel
theorem dX2_join_30 : decode cX2_join 30 = .ok (.getfield 15, 3) := by decide +kernel
theorem dX2_join_33 : decode cX2_join 33 = .ok (.iload 4, 2) := by decide +kernel
theorem dX2_join_35 : decode cX2_join 35 = .ok (.dup2, 1) := by decide +kernel
theorem dX2_join_36 : decode cX2_join 36 = .ok (.iaload, 1) := by decide +kernel
theorem dX2_join_37 : decode cX2_join 37 = .ok (.iload_n 3, 1) := by decide +kernel
theorem dX2_join_38 : decode cX2_join 38 = .ok (.isub, 1) := by decide +kernel
theorem dX2_join_39 : decode cX2_join 39 = .ok (.iastore, 1) := by decide +kernel
theorem dX2_join_40 : decode cX2_join 40 = .ok (.iinc 4 1, 3) := by decide +kernel
theorem dX2_join_43 : decode cX2_join 43 = .ok (.goto (-40), 3) := by decide +kernel
theorem dX2_join_46 : decode cX2_join 46 = .ok (.return_, 1) := by decide +kernel
theorem dX3_init_0 : decode cX3_init 0 = .ok (.aload_n 0, 1) := by decide +kernel
theorem dX3_init_1 : decode cX3_init 1 = .ok (.invokespecial 3, 3) := by decide +kernel
theorem dX3_init_4 : decode cX3_init 4 = .ok (.aload_n 0, 1) := by decide +kernel
theorem dX3_init_5 : decode cX3_init 5 = .ok (.bipush 8, 2) := by decide +kernel
theorem dX3_init_7 : decode cX3_init 7 = .ok (.newarray .int, 2) := by decide +kernel
theorem dX3_init_9 : decode cX3_init 9 = .ok (.dup, 1) := by decide +kernel
theorem dX3_init_10 : decode cX3_init 10 = .ok (.iconst 0, 1) := by decide +kernel
theorem dX3_init_11 : decode cX3_init 11 = .ok (.iconst 0, 1) := by decide +kernel
theorem dX3_init_12 : decode cX3_init 12 = .ok (.iastore, 1) := by decide +kernel
theorem dX3_init_13 : decode cX3_init 13 = .ok (.dup, 1) := by decide +kernel
theorem dX3_init_14 : decode cX3_init 14 = .ok (.iconst 1, 1) := by decide +kernel
theorem dX3_init_15 : decode cX3_init 15 = .ok (.iconst 0, 1) := by decide +kernel
theorem dX3_init_16 : decode cX3_init 16 = .ok (.iastore, 1) := by decide +kernel
theorem dX3_init_17 : decode cX3_init 17 = .ok (.dup, 1) := by decide +kernel
theorem dX3_init_18 : decode cX3_init 18 = .ok (.iconst 2, 1) := by decide +kernel
theorem dX3_init_19 : decode cX3_init 19 = .ok (.iconst 0, 1) := by decide +kernel
theorem dX3_init_20 : decode cX3_init 20 = .ok (.iastore, 1) := by decide +kernel
theorem dX3_init_21 : decode cX3_init 21 = .ok (.dup, 1) := by decide +kernel
theorem dX3_init_22 : decode cX3_init 22 = .ok (.iconst 3, 1) := by decide +kernel
theorem dX3_init_23 : decode cX3_init 23 = .ok (.sipush 9999, 3) := by decide +kernel
theorem dX3_init_26 : decode cX3_init 26 = .ok (.iastore, 1) := by decide +kernel
theorem dX3_init_27 : decode cX3_init 27 = .ok (.dup, 1) := by decide +kernel
theorem dX3_init_28 : decode cX3_init 28 = .ok (.iconst 4, 1) := by decide +kernel
theorem dX3_init_29 : decode cX3_init 29 = .ok (.iconst 0, 1) := by decide +kernel
theorem dX3_init_30 : decode cX3_init 30 = .ok (.iastore, 1) := by decide +kernel
theorem dX3_init_31 : decode cX3_init 31 = .ok (.dup, 1) := by decide +kernel
theorem dX3_init_32 : decode cX3_init 32 = .ok (.iconst 5, 1) := by decide +kernel
theorem dX3_init_33 : decode cX3_init 33 = .ok (.sipush 9999, 3) := by decide +kernel
theorem dX3_init_36 : decode cX3_init 36 = .ok (.iastore, 1) := by decide +kernel
theorem dX3_init_37 : decode cX3_init 37 = .ok (.dup, 1) := by decide +kernel
theorem dX3_init_38 : decode cX3_init 38 = .ok (.bipush 6, 2) := by decide +kernel
theorem dX3_init_40 : decode cX3_init 40 = .ok (.iconst 0, 1) := by decide +kernel
theorem dX3_init_41 : decode cX3_init 41 = .ok (.iastore, 1) := by decide +kernel
theorem dX3_init_42 : decode cX3_init 42 = .ok (.dup, 1) := by decide +kernel
theorem dX3_init_43 : decode cX3_init 43 = .ok (.bipush 7, 2) := by decide +kernel
theorem dX3_init_45 : decode cX3_init 45 = .ok (.sipush 9999, 3) := by decide +kernel
theorem dX3_init_48 : decode cX3_init 48 = .ok (.iastore, 1) := by decide +kernel
theorem dX3_init_49 : decode cX3_init 49 = .ok (.putfield 9, 3) := by decide +kernel
theorem dX3_init_52 : decode cX3_init 52 = .ok (.return_, 1) := by decide +kernel
theorem dX3_most_0 : decode cX3_most 0 = .ok (.iload_n 0, 1) := by decide +kernel
theorem dX3_most_1 : decode cX3_most 1 = .ok (.ifCond .ne 6, 3) := by decide +kernel
theorem dX3_most_4 : decode cX3_most 4 = .ok (.ldc 15, 2) := by decide +kernel
theorem dX3_most_6 : decode cX3_most 6 = .ok (.ireturn, 1) := by decide +kernel
theorem dX3_most_7 : decode cX3_most 7 = .ok (.iload_n 0, 1) := by decide +kernel
theorem dX3_most_8 : decode cX3_most 8 = .ok (.iconst 1, 1) := by decide +kernel
theorem dX3_most_9 : decode cX3_most 9 = .ok (.if_icmp .ne 8, 3) := by decide +kernel
theorem dX3_most_12 : decode cX3_most 12 = .ok (.bipush 60, 2) := by decide +kernel
theorem dX3_most_14 : decode cX3_most 14 = .ok (.goto 6, 3) := by decide +kernel
theorem dX3_most_17 : decode cX3_most 17 = .ok (.sipush 9999, 3) := by decide +kernel
theorem dX3_most_20 : decode cX3_most 20 = .ok (.ireturn, 1) := by decide +kernel
theorem dX3_isOldEnough_0 : decode cX3_isOldEnough 0 = .ok (.aload_n 1, 1) := by decide +kernel
theorem dX3_isOldEnough_1 : decode cX3_isOldEnough 1 = .ok (.getfield 16, 3) := by decide +kernel
theorem dX3_isOldEnough_4 : decode cX3_isOldEnough 4 = .ok (.aload_n 0, 1) := by decide +kernel
theorem dX3_isOldEnough_5 : decode cX3_isOldEnough 5 = .ok (.getfield 9, 3) := by decide +kernel
theorem dX3_isOldEnough_8 : decode cX3_isOldEnough 8 = .ok (.iconst 1, 1) := by decide +kernel
theorem dX3_isOldEnough_9 : decode cX3_isOldEnough 9 = .ok (.iaload, 1) := by decide +kernel
theorem dX3_isOldEnough_10 : decode cX3_isOldEnough 10 = .ok (.if_icmp .lt 7, 3) := by decide +kernel
theorem dX3_isOldEnough_13 : decode cX3_isOldEnough 13 = .ok (.iconst 1, 1) := by decide +kernel
theorem dX3_isOldEnough_14 : decode cX3_isOldEnough 14 = .ok (.goto 4, 3) := by decide +kernel
theorem dX3_isOldEnough_17 : decode cX3_isOldEnough 17 = .ok (.iconst 0, 1) := by decide +kernel
theorem dX3_isOldEnough_18 : decode cX3_isOldEnough 18 = .ok (.ireturn, 1) := by decide +kernel
theorem dX3_isMetBy_0 : decode cX3_isMetBy 0 = .ok (.aload_n 1, 1) := by decide +kernel
theorem dX3_isMetBy_1 : decode cX3_isMetBy 1 = .ok (.getfield 22, 3) := by decide +kernel
theorem dX3_isMetBy_4 : decode cX3_isMetBy 4 = .ok (.aload_n 0, 1) := by decide +kernel
theorem dX3_isMetBy_5 : decode cX3_isMetBy 5 = .ok (.getfield 9, 3) := by decide +kernel
theorem dX3_isMetBy_8 : decode cX3_isMetBy 8 = .ok (.iconst 0, 1) := by decide +kernel
theorem dX3_isMetBy_9 : decode cX3_isMetBy 9 = .ok (.iaload, 1) := by decide +kernel
theorem dX3_isMetBy_10 : decode cX3_isMetBy 10 = .ok (.if_icmp .lt 95, 3) := by decide +kernel
theorem dX3_isMetBy_13 : decode cX3_isMetBy 13 = .ok (.aload_n 0, 1) := by decide +kernel
theorem dX3_isMetBy_14 : decode cX3_isMetBy 14 = .ok (.aload_n 1, 1) := by decide +kernel
theorem dX3_isMetBy_15 : decode cX3_isMetBy 15 = .ok (.invokevirtual 25, 3) := by decide +kernel
theorem dX3_isMetBy_18 : decode cX3_isMetBy 18 = .ok (.ifCond .eq 87, 3) := by decide +kernel
theorem dX3_isMetBy_21 : decode cX3_isMetBy 21 = .ok (.aload_n 1, 1) := by decide +kernel
theorem dX3_isMetBy_22 : decode cX3_isMetBy 22 = .ok (.aload_n 1, 1) := by decide +kernel
theorem dX3_isMetBy_23 : decode cX3_isMetBy 23 = .ok (.getfield 29, 3) := by decide +kernel
theorem dX3_isMetBy_26 : decode cX3_isMetBy 26 = .ok (.invokevirtual 32, 3) := by decide +kernel
theorem dX3_isMetBy_29 : decode cX3_isMetBy 29 = .ok (.aload_n 0, 1) := by decide +kernel
theorem dX3_isMetBy_30 : decode cX3_isMetBy 30 = .ok (.getfield 9, 3) := by decide +kernel
theorem dX3_isMetBy_33 : decode cX3_isMetBy 33 = .ok (.iconst 2, 1) := by decide +kernel
theorem dX3_isMetBy_34 : decode cX3_isMetBy 34 = .ok (.iaload, 1) := by decide +kernel
theorem dX3_isMetBy_35 : decode cX3_isMetBy 35 = .ok (.aload_n 0, 1) := by decide +kernel
theorem dX3_isMetBy_36 : decode cX3_isMetBy 36 = .ok (.getfield 9, 3) := by decide +kernel
theorem dX3_isMetBy_39 : decode cX3_isMetBy 39 = .ok (.iconst 3, 1) := by decide +kernel
theorem dX3_isMetBy_40 : decode cX3_isMetBy 40 = .ok (.iaload, 1) := by decide +kernel
theorem dX3_isMetBy_41 : decode cX3_isMetBy 41 = .ok (.invokestatic 36, 3) := by decide +kernel
theorem dX3_isMetBy_44 : decode cX3_isMetBy 44 = .ok (.ifCond .eq 61, 3) := by decide +kernel
theorem dX3_isMetBy_47 : decode cX3_isMetBy 47 = .ok (.aload_n 1, 1) := by decide +kernel
theorem dX3_isMetBy_48 : decode cX3_isMetBy 48 = .ok (.aload_n 1, 1) := by decide +kernel
theorem dX3_isMetBy_49 : decode cX3_isMetBy 49 = .ok (.getfield 40, 3) := by decide +kernel
theorem dX3_isMetBy_52 : decode cX3_isMetBy 52 = .ok (.invokevirtual 32, 3) := by decide +kernel
theorem dX3_isMetBy_55 : decode cX3_isMetBy 55 = .ok (.aload_n 0, 1) := by decide +kernel
theorem dX3_isMetBy_56 : decode cX3_isMetBy 56 = .ok (.getfield 9, 3) := by decide +kernel
theorem dX3_isMetBy_59 : decode cX3_isMetBy 59 = .ok (.iconst 4, 1) := by decide +kernel
theorem dX3_isMetBy_60 : decode cX3_isMetBy 60 = .ok (.iaload, 1) := by decide +kernel
theorem dX3_isMetBy_61 : decode cX3_isMetBy 61 = .ok (.aload_n 0, 1) := by decide +kernel
theorem dX3_isMetBy_62 : decode cX3_isMetBy 62 = .ok (.getfield 9, 3) := by decide +kernel
theorem dX3_isMetBy_65 : decode cX3_isMetBy 65 = .ok (.iconst 5, 1) := by decide +kernel
theorem dX3_isMetBy_66 : decode cX3_isMetBy 66 = .ok (.iaload, 1) := by decide +kernel
theorem dX3_isMetBy_67 : decode cX3_isMetBy 67 = .ok (.invokestatic 36, 3) := by decide +kernel
theorem dX3_isMetBy_70 : decode cX3_isMetBy 70 = .ok (.ifCond .eq 35, 3) := by decide +kernel
theorem dX3_isMetBy_73 : decode cX3_isMetBy 73 = .ok (.aload_n 1, 1) := by decide +kernel
theorem dX3_isMetBy_74 : decode cX3_isMetBy 74 = .ok (.aload_n 1, 1) := by decide +kernel
theorem dX3_isMetBy_75 : decode cX3_isMetBy 75 = .ok (.getfield 43, 3) := by decide +kernel
theorem dX3_isMetBy_78 : decode cX3_isMetBy 78 = .ok (.invokevirtual 32, 3) := by decide +kernel
theorem dX3_isMetBy_81 : decode cX3_isMetBy 81 = .ok (.aload_n 0, 1) := by decide +kernel
theorem dX3_isMetBy_82 : decode cX3_isMetBy 82 = .ok (.getfield 9, 3) := by decide +kernel
theorem dX3_isMetBy_85 : decode cX3_isMetBy 85 = .ok (.bipush 6, 2) := by decide +kernel
theorem dX3_isMetBy_87 : decode cX3_isMetBy 87 = .ok (.iaload, 1) := by decide +kernel
theorem dX3_isMetBy_88 : decode cX3_isMetBy 88 = .ok (.aload_n 0, 1) := by decide +kernel
theorem dX3_isMetBy_89 : decode cX3_isMetBy 89 = .ok (.getfield 9, 3) := by decide +kernel
theorem dX3_isMetBy_92 : decode cX3_isMetBy 92 = .ok (.bipush 7, 2) := by decide +kernel
theorem dX3_isMetBy_94 : decode cX3_isMetBy 94 = .ok (.iaload, 1) := by decide +kernel
theorem dX3_isMetBy_95 : decode cX3_isMetBy 95 = .ok (.invokestatic 36, 3) := by decide +kernel
theorem dX3_isMetBy_98 : decode cX3_isMetBy 98 = .ok (.ifCond .eq 7, 3) := by decide +kernel
theorem dX3_isMetBy_101 : decode cX3_isMetBy 101 = .ok (.iconst 1, 1) := by decide +kernel
theorem dX3_isMetBy_102 : decode cX3_isMetBy 102 = .ok (.goto 4, 3) := by decide +kernel
theorem dX3_isMetBy_105 : decode cX3_isMetBy 105 = .ok (.iconst 0, 1) := by decide +kernel
theorem dX3_isMetBy_106 : decode cX3_isMetBy 106 = .ok (.ireturn, 1) := by decide +kernel
theorem dX4_init_0 : decode cX4_init 0 = .ok (.aload_n 0, 1) := by decide +kernel
theorem dX4_init_1 : decode cX4_init 1 = .ok (.invokespecial 1, 3) := by decide +kernel
theorem dX4_init_4 : decode cX4_init 4 = .ok (.aload_n 0, 1) := by decide +kernel
theorem dX4_init_5 : decode cX4_init 5 = .ok (.bipush 12, 2) := by decide +kernel
theorem dX4_init_7 : decode cX4_init 7 = .ok (.anewarray 9, 3) := by decide +kernel
theorem dX4_init_10 : decode cX4_init 10 = .ok (.putfield 11, 3) := by decide +kernel
theorem dX4_init_13 : decode cX4_init 13 = .ok (.aload_n 0, 1) := by decide +kernel
theorem dX4_init_14 : decode cX4_init 14 = .ok (.bipush 12, 2) := by decide +kernel
theorem dX4_init_16 : decode cX4_init 16 = .ok (.newarray .int, 2) := by decide +kernel
theorem dX4_init_18 : decode cX4_init 18 = .ok (.putfield 15, 3) := by decide +kernel
theorem dX4_init_21 : decode cX4_init 21 = .ok (.aload_n 0, 1) := by decide +kernel
end
section
theorem dX4_init_22 : decode cX4_init 22 = .ok (.new 19, 3) := by decide +kernel
theorem dX4_init_25 : decode cX4_init 25 = .ok (.dup, 1) := by decide +kernel
theorem dX4_init_26 : decode cX4_init 26 = .ok (.invokespecial 21, 3) := by decide +kernel
theorem dX4_init_29 : decode cX4_init 29 = .ok (.putfield 22, 3) := by decide +kernel
theorem dX4_init_32 : decode cX4_init 32 = .ok (.aload_n 0, 1) := by decide +kernel
theorem dX4_init_33 : decode cX4_init 33 = .ok (.new 26, 3) := by decide +kernel
theorem dX4_init_36 : decode cX4_init 36 = .ok (.dup, 1) := by decide +kernel
theorem dX4_init_37 : decode cX4_init 37 = .ok (.invokespecial 28, 3) := by decide +kernel
theorem dX4_init_40 : decode cX4_init 40 = .ok (.putfield 29, 3) := by decide +kernel
theorem dX4_init_43 : decode cX4_init 43 = .ok (.aload_n 0, 1) := by decide +kernel
theorem dX4_init_44 : decode cX4_init 44 = .ok (.new 33, 3) := by decide +kernel
theorem dX4_init_47 : decode cX4_init 47 = .ok (.dup, 1) := by decide +kernel
theorem dX4_init_48 : decode cX4_init 48 = .ok (.invokespecial 35, 3) := by decide +kernel
theorem dX4_init_51 : decode cX4_init 51 = .ok (.putfield 36, 3) := by decide +kernel
theorem dX4_init_54 : decode cX4_init 54 = .ok (.aload_n 0, 1) := by decide +kernel
theorem dX4_init_55 : decode cX4_init 55 = .ok (.iconst 0, 1) := by decide +kernel
theorem dX4_init_56 : decode cX4_init 56 = .ok (.putfield 40, 3) := by decide +kernel
theorem dX4_init_59 : decode cX4_init 59 = .ok (.aload_n 0, 1) := by decide +kernel
theorem dX4_init_60 : decode cX4_init 60 = .ok (.iconst 0, 1) := by decide +kernel
theorem dX4_init_61 : decode cX4_init 61 = .ok (.putfield 44, 3) := by decide +kernel
theorem dX4_init_64 : decode cX4_init 64 = .ok (.aload_n 0, 1) := by decide +kernel
theorem dX4_init_65 : decode cX4_init 65 = .ok (.bipush 28, 2) := by decide +kernel
theorem dX4_init_67 : decode cX4_init 67 = .ok (.putfield 47, 3) := by decide +kernel
theorem dX4_init_70 : decode cX4_init 70 = .ok (.aload_n 0, 1) := by decide +kernel
theorem dX4_init_71 : decode cX4_init 71 = .ok (.lconst 0, 1) := by decide +kernel
theorem dX4_init_72 : decode cX4_init 72 = .ok (.putfield 50, 3) := by decide +kernel
theorem dX4_init_75 : decode cX4_init 75 = .ok (.iconst 0, 1) := by decide +kernel
theorem dX4_init_76 : decode cX4_init 76 = .ok (.istore_n 1, 1) := by decide +kernel
theorem dX4_init_77 : decode cX4_init 77 = .ok (.iload_n 1, 1) := by decide +kernel
theorem dX4_init_78 : decode cX4_init 78 = .ok (.bipush 12, 2) := by decide +kernel
theorem dX4_init_80 : decode cX4_init 80 = .ok (.if_icmp .ge 22, 3) := by decide +kernel
theorem dX4_init_83 : decode cX4_init 83 = .ok (.aload_n 0, 1) := by decide +kernel
theorem dX4_init_84 : decode cX4_init 84 = .ok (.getfield 11, 3) := by decide +kernel
theorem dX4_init_87 : decode cX4_init 87 = .ok (.iload_n 1, 1) := by decide +kernel
theorem dX4_init_88 : decode cX4_init 88 = .ok (.new 9, 3) := by decide +kernel
theorem dX4_init_91 : decode cX4_init 91 = .ok (.dup, 1) := by decide +kernel
theorem dX4_init_92 : decode cX4_init 92 = .ok (.invokespecial 54, 3) := by decide +kernel
theorem dX4_init_95 : decode cX4_init 95 = .ok (.aastore, 1) := by decide +kernel
theorem dX4_init_96 : decode cX4_init 96 = .ok (.iinc 1 1, 3) := by decide +kernel
theorem dX4_init_99 : decode cX4_init 99 = .ok (.goto (-22), 3) := by decide +kernel
theorem dX4_init_102 : decode cX4_init 102 = .ok (.return_, 1) := by decide +kernel
theorem dX4_lay_0 : decode cX4_lay 0 = .ok (.iload_n 1, 1) := by decide +kernel
theorem dX4_lay_1 : decode cX4_lay 1 = .ok (.iconst 0, 1) := by decide +kernel
theorem dX4_lay_2 : decode cX4_lay 2 = .ok (.iconst 2, 1) := by decide +kernel
theorem dX4_lay_3 : decode cX4_lay 3 = .ok (.invokestatic 55, 3) := by decide +kernel
theorem dX4_lay_6 : decode cX4_lay 6 = .ok (.ifCond .eq 49, 3) := by decide +kernel
theorem dX4_lay_9 : decode cX4_lay 9 = .ok (.iload_n 2, 1) := by decide +kernel
theorem dX4_lay_10 : decode cX4_lay 10 = .ok (.iconst 1, 1) := by decide +kernel
theorem dX4_lay_11 : decode cX4_lay 11 = .ok (.sipush 9000, 3) := by decide +kernel
theorem dX4_lay_14 : decode cX4_lay 14 = .ok (.invokestatic 55, 3) := by decide +kernel
theorem dX4_lay_17 : decode cX4_lay 17 = .ok (.ifCond .eq 38, 3) := by decide +kernel
theorem dX4_lay_20 : decode cX4_lay 20 = .ok (.iload_n 3, 1) := by decide +kernel
theorem dX4_lay_21 : decode cX4_lay 21 = .ok (.sipush 400, 3) := by decide +kernel
theorem dX4_lay_24 : decode cX4_lay 24 = .ok (.sipush 700, 3) := by decide +kernel
theorem dX4_lay_27 : decode cX4_lay 27 = .ok (.invokestatic 55, 3) := by decide +kernel
theorem dX4_lay_30 : decode cX4_lay 30 = .ok (.ifCond .eq 25, 3) := by decide +kernel
theorem dX4_lay_33 : decode cX4_lay 33 = .ok (.iload 4, 2) := by decide +kernel
theorem dX4_lay_35 : decode cX4_lay 35 = .ok (.iconst 0, 1) := by decide +kernel
theorem dX4_lay_36 : decode cX4_lay 36 = .ok (.iconst 3, 1) := by decide +kernel
theorem dX4_lay_37 : decode cX4_lay 37 = .ok (.invokestatic 55, 3) := by decide +kernel
theorem dX4_lay_40 : decode cX4_lay 40 = .ok (.ifCond .eq 15, 3) := by decide +kernel
theorem dX4_lay_43 : decode cX4_lay 43 = .ok (.iload 5, 2) := by decide +kernel
theorem dX4_lay_45 : decode cX4_lay 45 = .ok (.iconst 0, 1) := by decide +kernel
theorem dX4_lay_46 : decode cX4_lay 46 = .ok (.sipush 500, 3) := by decide +kernel
theorem dX4_lay_49 : decode cX4_lay 49 = .ok (.invokestatic 55, 3) := by decide +kernel
theorem dX4_lay_52 : decode cX4_lay 52 = .ok (.ifCond .ne 5, 3) := by decide +kernel
theorem dX4_lay_55 : decode cX4_lay 55 = .ok (.iconst (-1), 1) := by decide +kernel
theorem dX4_lay_56 : decode cX4_lay 56 = .ok (.ireturn, 1) := by decide +kernel
theorem dX4_lay_57 : decode cX4_lay 57 = .ok (.aload_n 0, 1) := by decide +kernel
theorem dX4_lay_58 : decode cX4_lay 58 = .ok (.getfield 40, 3) := by decide +kernel
theorem dX4_lay_61 : decode cX4_lay 61 = .ok (.bipush 12, 2) := by decide +kernel
theorem dX4_lay_63 : decode cX4_lay 63 = .ok (.if_icmp .lt 6, 3) := by decide +kernel
theorem dX4_lay_66 : decode cX4_lay 66 = .ok (.bipush (-3), 2) := by decide +kernel
theorem dX4_lay_68 : decode cX4_lay 68 = .ok (.ireturn, 1) := by decide +kernel
theorem dX4_lay_69 : decode cX4_lay 69 = .ok (.aload_n 0, 1) := by decide +kernel
theorem dX4_lay_70 : decode cX4_lay 70 = .ok (.getfield 11, 3) := by decide +kernel
theorem dX4_lay_73 : decode cX4_lay 73 = .ok (.aload_n 0, 1) := by decide +kernel
theorem dX4_lay_74 : decode cX4_lay 74 = .ok (.getfield 40, 3) := by decide +kernel
theorem dX4_lay_77 : decode cX4_lay 77 = .ok (.aaload, 1) := by decide +kernel
theorem dX4_lay_78 : decode cX4_lay 78 = .ok (.iload_n 1, 1) := by decide +kernel
theorem dX4_lay_79 : decode cX4_lay 79 = .ok (.iload_n 2, 1) := by decide +kernel
theorem dX4_lay_80 : decode cX4_lay 80 = .ok (.iload_n 3, 1) := by decide +kernel
theorem dX4_lay_81 : decode cX4_lay 81 = .ok (.iload 4, 2) := by decide +kernel
theorem dX4_lay_83 : decode cX4_lay 83 = .ok (.iload 5, 2) := by decide +kernel
theorem dX4_lay_85 : decode cX4_lay 85 = .ok (.aload_n 0, 1) := by decide +kernel
theorem dX4_lay_86 : decode cX4_lay 86 = .ok (.getfield 44, 3) := by decide +kernel
theorem dX4_lay_89 : decode cX4_lay 89 = .ok (.invokevirtual 59, 3) := by decide +kernel
theorem dX4_lay_92 : decode cX4_lay 92 = .ok (.aload_n 0, 1) := by decide +kernel
theorem dX4_lay_93 : decode cX4_lay 93 = .ok (.dup, 1) := by decide +kernel
theorem dX4_lay_94 : decode cX4_lay 94 = .ok (.getfield 40, 3) := by decide +kernel
theorem dX4_lay_97 : decode cX4_lay 97 = .ok (.iconst 1, 1) := by decide +kernel
theorem dX4_lay_98 : decode cX4_lay 98 = .ok (.iadd, 1) := by decide +kernel
theorem dX4_lay_99 : decode cX4_lay 99 = .ok (.putfield 40, 3) := by decide +kernel
theorem dX4_lay_102 : decode cX4_lay 102 = .ok (.aload_n 0, 1) := by decide +kernel
theorem dX4_lay_103 : decode cX4_lay 103 = .ok (.getfield 40, 3) := by decide +kernel
theorem dX4_lay_106 : decode cX4_lay 106 = .ok (.iconst 1, 1) := by decide +kernel
theorem dX4_lay_107 : decode cX4_lay 107 = .ok (.isub, 1) := by decide +kernel
theorem dX4_lay_108 : decode cX4_lay 108 = .ok (.ireturn, 1) := by decide +kernel
theorem dX4_years_0 : decode cX4_years 0 = .ok (.iload_n 1, 1) := by decide +kernel
theorem dX4_years_1 : decode cX4_years 1 = .ok (.iconst 1, 1) := by decide +kernel
theorem dX4_years_2 : decode cX4_years 2 = .ok (.bipush 30, 2) := by decide +kernel
theorem dX4_years_4 : decode cX4_years 4 = .ok (.invokestatic 55, 3) := by decide +kernel
theorem dX4_years_7 : decode cX4_years 7 = .ok (.ifCond .ne 5, 3) := by decide +kernel
theorem dX4_years_10 : decode cX4_years 10 = .ok (.iconst (-1), 1) := by decide +kernel
theorem dX4_years_11 : decode cX4_years 11 = .ok (.ireturn, 1) := by decide +kernel
theorem dX4_years_12 : decode cX4_years 12 = .ok (.aload_n 0, 1) := by decide +kernel
theorem dX4_years_13 : decode cX4_years 13 = .ok (.getfield 44, 3) := by decide +kernel
theorem dX4_years_16 : decode cX4_years 16 = .ok (.iload_n 1, 1) := by decide +kernel
theorem dX4_years_17 : decode cX4_years 17 = .ok (.iadd, 1) := by decide +kernel
theorem dX4_years_18 : decode cX4_years 18 = .ok (.bipush 60, 2) := by decide +kernel
theorem dX4_years_20 : decode cX4_years 20 = .ok (.if_icmp .le 6, 3) := by decide +kernel
theorem dX4_years_23 : decode cX4_years 23 = .ok (.bipush (-2), 2) := by decide +kernel
theorem dX4_years_25 : decode cX4_years 25 = .ok (.ireturn, 1) := by decide +kernel
theorem dX4_years_26 : decode cX4_years 26 = .ok (.iconst 0, 1) := by decide +kernel
theorem dX4_years_27 : decode cX4_years 27 = .ok (.istore_n 2, 1) := by decide +kernel
theorem dX4_years_28 : decode cX4_years 28 = .ok (.iload_n 2, 1) := by decide +kernel
theorem dX4_years_29 : decode cX4_years 29 = .ok (.iload_n 1, 1) := by decide +kernel
theorem dX4_years_30 : decode cX4_years 30 = .ok (.if_icmp .ge 13, 3) := by decide +kernel
theorem dX4_years_33 : decode cX4_years 33 = .ok (.aload_n 0, 1) := by decide +kernel
theorem dX4_years_34 : decode cX4_years 34 = .ok (.invokevirtual 63, 3) := by decide +kernel
theorem dX4_years_37 : decode cX4_years 37 = .ok (.iinc 2 1, 3) := by decide +kernel
theorem dX4_years_40 : decode cX4_years 40 = .ok (.goto (-12), 3) := by decide +kernel
theorem dX4_years_43 : decode cX4_years 43 = .ok (.aload_n 0, 1) := by decide +kernel
theorem dX4_years_44 : decode cX4_years 44 = .ok (.getfield 44, 3) := by decide +kernel
theorem dX4_years_47 : decode cX4_years 47 = .ok (.ireturn, 1) := by decide +kernel
theorem dX4_loss_0 : decode cX4_loss 0 = .ok (.aload_n 0, 1) := by decide +kernel
theorem dX4_loss_1 : decode cX4_loss 1 = .ok (.iload_n 1, 1) := by decide +kernel
theorem dX4_loss_2 : decode cX4_loss 2 = .ok (.invokevirtual 66, 3) := by decide +kernel
theorem dX4_loss_5 : decode cX4_loss 5 = .ok (.ifCond .eq 22, 3) := by decide +kernel
theorem dX4_loss_8 : decode cX4_loss 8 = .ok (.iload_n 2, 1) := by decide +kernel
theorem dX4_loss_9 : decode cX4_loss 9 = .ok (.iconst 0, 1) := by decide +kernel
theorem dX4_loss_10 : decode cX4_loss 10 = .ok (.iconst 2, 1) := by decide +kernel
theorem dX4_loss_11 : decode cX4_loss 11 = .ok (.invokestatic 55, 3) := by decide +kernel
theorem dX4_loss_14 : decode cX4_loss 14 = .ok (.ifCond .eq 13, 3) := by decide +kernel
theorem dX4_loss_17 : decode cX4_loss 17 = .ok (.iload_n 3, 1) := by decide +kernel
theorem dX4_loss_18 : decode cX4_loss 18 = .ok (.iconst 0, 1) := by decide +kernel
theorem dX4_loss_19 : decode cX4_loss 19 = .ok (.bipush 60, 2) := by decide +kernel
theorem dX4_loss_21 : decode cX4_loss 21 = .ok (.invokestatic 55, 3) := by decide +kernel
theorem dX4_loss_24 : decode cX4_loss 24 = .ok (.ifCond .ne 5, 3) := by decide +kernel
theorem dX4_loss_27 : decode cX4_loss 27 = .ok (.iconst (-1), 1) := by decide +kernel
theorem dX4_loss_28 : decode cX4_loss 28 = .ok (.ireturn, 1) := by decide +kernel
theorem dX4_loss_29 : decode cX4_loss 29 = .ok (.aload_n 0, 1) := by decide +kernel
theorem dX4_loss_30 : decode cX4_loss 30 = .ok (.dup, 1) := by decide +kernel
theorem dX4_loss_31 : decode cX4_loss 31 = .ok (.getfield 50, 3) := by decide +kernel
theorem dX4_loss_34 : decode cX4_loss 34 = .ok (.getstatic 70, 3) := by decide +kernel
theorem dX4_loss_37 : decode cX4_loss 37 = .ok (.iload_n 2, 1) := by decide +kernel
theorem dX4_loss_38 : decode cX4_loss 38 = .ok (.iaload, 1) := by decide +kernel
theorem dX4_loss_39 : decode cX4_loss 39 = .ok (.i2l, 1) := by decide +kernel
theorem dX4_loss_40 : decode cX4_loss 40 = .ok (.ladd, 1) := by decide +kernel
theorem dX4_loss_41 : decode cX4_loss 41 = .ok (.putfield 50, 3) := by decide +kernel
theorem dX4_loss_44 : decode cX4_loss 44 = .ok (.iload_n 2, 1) := by decide +kernel
theorem dX4_loss_45 : decode cX4_loss 45 = .ok (.aload_n 0, 1) := by decide +kernel
theorem dX4_loss_46 : decode cX4_loss 46 = .ok (.getfield 11, 3) := by decide +kernel
theorem dX4_loss_49 : decode cX4_loss 49 = .ok (.iload_n 1, 1) := by decide +kernel
theorem dX4_loss_50 : decode cX4_loss 50 = .ok (.aaload, 1) := by decide +kernel
theorem dX4_loss_51 : decode cX4_loss 51 = .ok (.getfield 73, 3) := by decide +kernel
theorem dX4_loss_54 : decode cX4_loss 54 = .ok (.iload_n 3, 1) := by decide +kernel
theorem dX4_loss_55 : decode cX4_loss 55 = .ok (.invokestatic 76, 3) := by decide +kernel
theorem dX4_loss_58 : decode cX4_loss 58 = .ok (.ireturn, 1) := by decide +kernel
theorem dX4_about_0 : decode cX4_about 0 = .ok (.aload_n 0, 1) := by decide +kernel
theorem dX4_about_1 : decode cX4_about 1 = .ok (.iload_n 1, 1) := by decide +kernel
theorem dX4_about_2 : decode cX4_about 2 = .ok (.invokevirtual 66, 3) := by decide +kernel
theorem dX4_about_5 : decode cX4_about 5 = .ok (.ifCond .ne 5, 3) := by decide +kernel
theorem dX4_about_8 : decode cX4_about 8 = .ok (.iconst (-1), 1) := by decide +kernel
theorem dX4_about_9 : decode cX4_about 9 = .ok (.ireturn, 1) := by decide +kernel
theorem dX4_about_10 : decode cX4_about 10 = .ok (.aload_n 0, 1) := by decide +kernel
theorem dX4_about_11 : decode cX4_about 11 = .ok (.getfield 11, 3) := by decide +kernel
theorem dX4_about_14 : decode cX4_about 14 = .ok (.iload_n 1, 1) := by decide +kernel
theorem dX4_about_15 : decode cX4_about 15 = .ok (.aaload, 1) := by decide +kernel
theorem dX4_about_16 : decode cX4_about 16 = .ok (.astore_n 3, 1) := by decide +kernel
theorem dX4_about_17 : decode cX4_about 17 = .ok (.iload_n 2, 1) := by decide +kernel
theorem dX4_about_18 : decode cX4_about 18 = .ok (.tableswitch 103 0 8 #[50, 55, 60, 69, 74, 79, 84, 89, 94], 50) := by decide +kernel
theorem dX4_about_68 : decode cX4_about 68 = .ok (.aload_n 3, 1) := by decide +kernel
theorem dX4_about_69 : decode cX4_about 69 = .ok (.getfield 80, 3) := by decide +kernel
theorem dX4_about_72 : decode cX4_about 72 = .ok (.ireturn, 1) := by decide +kernel
theorem dX4_about_73 : decode cX4_about 73 = .ok (.aload_n 3, 1) := by decide +kernel
theorem dX4_about_74 : decode cX4_about 74 = .ok (.getfield 83, 3) := by decide +kernel
theorem dX4_about_77 : decode cX4_about 77 = .ok (.ireturn, 1) := by decide +kernel
theorem dX4_about_78 : decode cX4_about 78 = .ok (.aload_n 3, 1) := by decide +kernel
theorem dX4_about_79 : decode cX4_about 79 = .ok (.aload_n 0, 1) := by decide +kernel
theorem dX4_about_80 : decode cX4_about 80 = .ok (.getfield 44, 3) := by decide +kernel
theorem dX4_about_83 : decode cX4_about 83 = .ok (.invokevirtual 86, 3) := by decide +kernel
theorem dX4_about_86 : decode cX4_about 86 = .ok (.ireturn, 1) := by decide +kernel
theorem dX4_about_87 : decode cX4_about 87 = .ok (.aload_n 3, 1) := by decide +kernel
theorem dX4_about_88 : decode cX4_about 88 = .ok (.getfield 90, 3) := by decide +kernel
theorem dX4_about_91 : decode cX4_about 91 = .ok (.ireturn, 1) := by decide +kernel
theorem dX4_about_92 : decode cX4_about 92 = .ok (.aload_n 3, 1) := by decide +kernel
theorem dX4_about_93 : decode cX4_about 93 = .ok (.getfield 93, 3) := by decide +kernel
theorem dX4_about_96 : decode cX4_about 96 = .ok (.ireturn, 1) := by decide +kernel
theorem dX4_about_97 : decode cX4_about 97 = .ok (.aload_n 3, 1) := by decide +kernel
theorem dX4_about_98 : decode cX4_about 98 = .ok (.getfield 96, 3) := by decide +kernel
theorem dX4_about_101 : decode cX4_about 101 = .ok (.ireturn, 1) := by decide +kernel
theorem dX4_about_102 : decode cX4_about 102 = .ok (.aload_n 3, 1) := by decide +kernel
theorem dX4_about_103 : decode cX4_about 103 = .ok (.getfield 99, 3) := by decide +kernel
theorem dX4_about_106 : decode cX4_about 106 = .ok (.ireturn, 1) := by decide +kernel
theorem dX4_about_107 : decode cX4_about 107 = .ok (.aload_n 3, 1) := by decide +kernel
theorem dX4_about_108 : decode cX4_about 108 = .ok (.getfield 73, 3) := by decide +kernel
theorem dX4_about_111 : decode cX4_about 111 = .ok (.ireturn, 1) := by decide +kernel
theorem dX4_about_112 : decode cX4_about 112 = .ok (.aload_n 3, 1) := by decide +kernel
theorem dX4_about_113 : decode cX4_about 113 = .ok (.aload_n 0, 1) := by decide +kernel
theorem dX4_about_114 : decode cX4_about 114 = .ok (.getfield 44, 3) := by decide +kernel
theorem dX4_about_117 : decode cX4_about 117 = .ok (.invokevirtual 102, 3) := by decide +kernel
theorem dX4_about_120 : decode cX4_about 120 = .ok (.ireturn, 1) := by decide +kernel
theorem dX4_about_121 : decode cX4_about 121 = .ok (.iconst (-1), 1) := by decide +kernel
theorem dX4_about_122 : decode cX4_about 122 = .ok (.ireturn, 1) := by decide +kernel
theorem dX4_move_0 : decode cX4_move 0 = .ok (.aload_n 0, 1) := by decide +kernel
theorem dX4_move_1 : decode cX4_move 1 = .ok (.iload_n 1, 1) := by decide +kernel
theorem dX4_move_2 : decode cX4_move 2 = .ok (.invokevirtual 66, 3) := by decide +kernel
theorem dX4_move_5 : decode cX4_move 5 = .ok (.ifCond .eq 12, 3) := by decide +kernel
theorem dX4_move_8 : decode cX4_move 8 = .ok (.iload_n 2, 1) := by decide +kernel
theorem dX4_move_9 : decode cX4_move 9 = .ok (.iconst 0, 1) := by decide +kernel
theorem dX4_move_10 : decode cX4_move 10 = .ok (.iconst 3, 1) := by decide +kernel
theorem dX4_move_11 : decode cX4_move 11 = .ok (.invokestatic 55, 3) := by decide +kernel
theorem dX4_move_14 : decode cX4_move 14 = .ok (.ifCond .ne 5, 3) := by decide +kernel
theorem dX4_move_17 : decode cX4_move 17 = .ok (.iconst (-1), 1) := by decide +kernel
theorem dX4_move_18 : decode cX4_move 18 = .ok (.ireturn, 1) := by decide +kernel
theorem dX4_move_19 : decode cX4_move 19 = .ok (.aload_n 0, 1) := by decide +kernel
theorem dX4_move_20 : decode cX4_move 20 = .ok (.getfield 11, 3) := by decide +kernel
theorem dX4_move_23 : decode cX4_move 23 = .ok (.iload_n 1, 1) := by decide +kernel
theorem dX4_move_24 : decode cX4_move 24 = .ok (.aaload, 1) := by decide +kernel
theorem dX4_move_25 : decode cX4_move 25 = .ok (.getfield 73, 3) := by decide +kernel
theorem dX4_move_28 : decode cX4_move 28 = .ok (.istore_n 3, 1) := by decide +kernel
theorem dX4_move_29 : decode cX4_move 29 = .ok (.aload_n 0, 1) := by decide +kernel
theorem dX4_move_30 : decode cX4_move 30 = .ok (.getfield 11, 3) := by decide +kernel
theorem dX4_move_33 : decode cX4_move 33 = .ok (.iload_n 1, 1) := by decide +kernel
theorem dX4_move_34 : decode cX4_move 34 = .ok (.aaload, 1) := by decide +kernel
theorem dX4_move_35 : decode cX4_move 35 = .ok (.iload_n 2, 1) := by decide +kernel
theorem dX4_move_36 : decode cX4_move 36 = .ok (.putfield 73, 3) := by decide +kernel
theorem dX4_move_39 : decode cX4_move 39 = .ok (.iload_n 3, 1) := by decide +kernel
theorem dX4_move_40 : decode cX4_move 40 = .ok (.ireturn, 1) := by decide +kernel
theorem dX4_draw_0 : decode cX4_draw 0 = .ok (.aload_n 0, 1) := by decide +kernel
theorem dX4_draw_1 : decode cX4_draw 1 = .ok (.iload_n 1, 1) := by decide +kernel
theorem dX4_draw_2 : decode cX4_draw 2 = .ok (.invokevirtual 66, 3) := by decide +kernel
theorem dX4_draw_5 : decode cX4_draw 5 = .ok (.ifCond .eq 20, 3) := by decide +kernel
theorem dX4_draw_8 : decode cX4_draw 8 = .ok (.iload_n 2, 1) := by decide +kernel
theorem dX4_draw_9 : decode cX4_draw 9 = .ok (.iconst 0, 1) := by decide +kernel
theorem dX4_draw_10 : decode cX4_draw 10 = .ok (.aload_n 0, 1) := by decide +kernel
theorem dX4_draw_11 : decode cX4_draw 11 = .ok (.getfield 11, 3) := by decide +kernel
theorem dX4_draw_14 : decode cX4_draw 14 = .ok (.iload_n 1, 1) := by decide +kernel
theorem dX4_draw_15 : decode cX4_draw 15 = .ok (.aaload, 1) := by decide +kernel
theorem dX4_draw_16 : decode cX4_draw 16 = .ok (.getfield 80, 3) := by decide +kernel
theorem dX4_draw_19 : decode cX4_draw 19 = .ok (.invokestatic 55, 3) := by decide +kernel
theorem dX4_draw_22 : decode cX4_draw 22 = .ok (.ifCond .ne 5, 3) := by decide +kernel
theorem dX4_draw_25 : decode cX4_draw 25 = .ok (.iconst (-1), 1) := by decide +kernel
theorem dX4_draw_26 : decode cX4_draw 26 = .ok (.ireturn, 1) := by decide +kernel
theorem dX4_draw_27 : decode cX4_draw 27 = .ok (.aload_n 0, 1) := by decide +kernel
theorem dX4_draw_28 : decode cX4_draw 28 = .ok (.getfield 11, 3) := by decide +kernel
theorem dX4_draw_31 : decode cX4_draw 31 = .ok (.iload_n 1, 1) := by decide +kernel
theorem dX4_draw_32 : decode cX4_draw 32 = .ok (.aaload, 1) := by decide +kernel
theorem dX4_draw_33 : decode cX4_draw 33 = .ok (.dup, 1) := by decide +kernel
theorem dX4_draw_34 : decode cX4_draw 34 = .ok (.getfield 80, 3) := by decide +kernel
theorem dX4_draw_37 : decode cX4_draw 37 = .ok (.iload_n 2, 1) := by decide +kernel
theorem dX4_draw_38 : decode cX4_draw 38 = .ok (.isub, 1) := by decide +kernel
theorem dX4_draw_39 : decode cX4_draw 39 = .ok (.putfield 80, 3) := by decide +kernel
theorem dX4_draw_42 : decode cX4_draw 42 = .ok (.aload_n 0, 1) := by decide +kernel
theorem dX4_draw_43 : decode cX4_draw 43 = .ok (.getfield 11, 3) := by decide +kernel
theorem dX4_draw_46 : decode cX4_draw 46 = .ok (.iload_n 1, 1) := by decide +kernel
theorem dX4_draw_47 : decode cX4_draw 47 = .ok (.aaload, 1) := by decide +kernel
theorem dX4_draw_48 : decode cX4_draw 48 = .ok (.getfield 80, 3) := by decide +kernel
theorem dX4_draw_51 : decode cX4_draw 51 = .ok (.ireturn, 1) := by decide +kernel
theorem dX4_want_0 : decode cX4_want 0 = .ok (.iload_n 1, 1) := by decide +kernel
theorem dX4_want_1 : decode cX4_want 1 = .ok (.iconst 0, 1) := by decide +kernel
theorem dX4_want_2 : decode cX4_want 2 = .ok (.bipush 7, 2) := by decide +kernel
theorem dX4_want_4 : decode cX4_want 4 = .ok (.invokestatic 55, 3) := by decide +kernel
theorem dX4_want_7 : decode cX4_want 7 = .ok (.ifCond .eq 15, 3) := by decide +kernel
theorem dX4_want_10 : decode cX4_want 10 = .ok (.iload_n 2, 1) := by decide +kernel
theorem dX4_want_11 : decode cX4_want 11 = .ok (.iconst 0, 1) := by decide +kernel
theorem dX4_want_12 : decode cX4_want 12 = .ok (.iload_n 1, 1) := by decide +kernel
theorem dX4_want_13 : decode cX4_want 13 = .ok (.invokestatic 105, 3) := by decide +kernel
theorem dX4_want_16 : decode cX4_want 16 = .ok (.invokestatic 55, 3) := by decide +kernel
theorem dX4_want_19 : decode cX4_want 19 = .ok (.ifCond .ne 5, 3) := by decide +kernel
theorem dX4_want_22 : decode cX4_want 22 = .ok (.iconst (-1), 1) := by decide +kernel
theorem dX4_want_23 : decode cX4_want 23 = .ok (.ireturn, 1) := by decide +kernel
theorem dX4_want_24 : decode cX4_want 24 = .ok (.aload_n 0, 1) := by decide +kernel
theorem dX4_want_25 : decode cX4_want 25 = .ok (.getfield 22, 3) := by decide +kernel
theorem dX4_want_28 : decode cX4_want 28 = .ok (.getfield 108, 3) := by decide +kernel
theorem dX4_want_31 : decode cX4_want 31 = .ok (.iload_n 1, 1) := by decide +kernel
theorem dX4_want_32 : decode cX4_want 32 = .ok (.iaload, 1) := by decide +kernel
theorem dX4_want_33 : decode cX4_want 33 = .ok (.istore_n 3, 1) := by decide +kernel
theorem dX4_want_34 : decode cX4_want 34 = .ok (.aload_n 0, 1) := by decide +kernel
theorem dX4_want_35 : decode cX4_want 35 = .ok (.getfield 22, 3) := by decide +kernel
theorem dX4_want_38 : decode cX4_want 38 = .ok (.getfield 108, 3) := by decide +kernel
theorem dX4_want_41 : decode cX4_want 41 = .ok (.iload_n 1, 1) := by decide +kernel
theorem dX4_want_42 : decode cX4_want 42 = .ok (.iload_n 2, 1) := by decide +kernel
theorem dX4_want_43 : decode cX4_want 43 = .ok (.iastore, 1) := by decide +kernel
theorem dX4_want_44 : decode cX4_want 44 = .ok (.iload_n 3, 1) := by decide +kernel
theorem dX4_want_45 : decode cX4_want 45 = .ok (.ireturn, 1) := by decide +kernel
theorem dX4_blend_0 : decode cX4_blend 0 = .ok (.aload_n 0, 1) := by decide +kernel
theorem dX4_blend_1 : decode cX4_blend 1 = .ok (.iload_n 1, 1) := by decide +kernel
theorem dX4_blend_2 : decode cX4_blend 2 = .ok (.invokevirtual 111, 3) := by decide +kernel
theorem dX4_blend_5 : decode cX4_blend 5 = .ok (.ifCond .eq 11, 3) := by decide +kernel
theorem dX4_blend_8 : decode cX4_blend 8 = .ok (.aload_n 0, 1) := by decide +kernel
theorem dX4_blend_9 : decode cX4_blend 9 = .ok (.iload_n 1, 1) := by decide +kernel
theorem dX4_blend_10 : decode cX4_blend 10 = .ok (.invokevirtual 114, 3) := by decide +kernel
theorem dX4_blend_13 : decode cX4_blend 13 = .ok (.ifCond .ne 5, 3) := by decide +kernel
theorem dX4_blend_16 : decode cX4_blend 16 = .ok (.iconst (-1), 1) := by decide +kernel
theorem dX4_blend_17 : decode cX4_blend 17 = .ok (.ireturn, 1) := by decide +kernel
theorem dX4_blend_18 : decode cX4_blend 18 = .ok (.iload_n 2, 1) := by decide +kernel
theorem dX4_blend_19 : decode cX4_blend 19 = .ok (.tableswitch 149 0 7 #[45, 53, 68, 76, 91, 106, 121, 129], 45) := by decide +kernel
theorem dX4_blend_64 : decode cX4_blend 64 = .ok (.aload_n 0, 1) := by decide +kernel
theorem dX4_blend_65 : decode cX4_blend 65 = .ok (.getfield 29, 3) := by decide +kernel
theorem dX4_blend_68 : decode cX4_blend 68 = .ok (.getfield 117, 3) := by decide +kernel
theorem dX4_blend_71 : decode cX4_blend 71 = .ok (.ireturn, 1) := by decide +kernel
theorem dX4_blend_72 : decode cX4_blend 72 = .ok (.aload_n 0, 1) := by decide +kernel
theorem dX4_blend_73 : decode cX4_blend 73 = .ok (.getfield 29, 3) := by decide +kernel
theorem dX4_blend_76 : decode cX4_blend 76 = .ok (.aload_n 0, 1) := by decide +kernel
theorem dX4_blend_77 : decode cX4_blend 77 = .ok (.getfield 29, 3) := by decide +kernel
theorem dX4_blend_80 : decode cX4_blend 80 = .ok (.getfield 118, 3) := by decide +kernel
theorem dX4_blend_83 : decode cX4_blend 83 = .ok (.invokevirtual 121, 3) := by decide +kernel
theorem dX4_blend_86 : decode cX4_blend 86 = .ok (.ireturn, 1) := by decide +kernel
theorem dX4_blend_87 : decode cX4_blend 87 = .ok (.aload_n 0, 1) := by decide +kernel
theorem dX4_blend_88 : decode cX4_blend 88 = .ok (.getfield 29, 3) := by decide +kernel
theorem dX4_blend_91 : decode cX4_blend 91 = .ok (.getfield 124, 3) := by decide +kernel
theorem dX4_blend_94 : decode cX4_blend 94 = .ok (.ireturn, 1) := by decide +kernel
theorem dX4_blend_95 : decode cX4_blend 95 = .ok (.aload_n 0, 1) := by decide +kernel
theorem dX4_blend_96 : decode cX4_blend 96 = .ok (.getfield 29, 3) := by decide +kernel
theorem dX4_blend_99 : decode cX4_blend 99 = .ok (.aload_n 0, 1) := by decide +kernel
theorem dX4_blend_100 : decode cX4_blend 100 = .ok (.getfield 29, 3) := by decide +kernel
theorem dX4_blend_103 : decode cX4_blend 103 = .ok (.getfield 126, 3) := by decide +kernel
theorem dX4_blend_106 : decode cX4_blend 106 = .ok (.invokevirtual 121, 3) := by decide +kernel
theorem dX4_blend_109 : decode cX4_blend 109 = .ok (.ireturn, 1) := by decide +kernel
theorem dX4_blend_110 : decode cX4_blend 110 = .ok (.aload_n 0, 1) := by decide +kernel
theorem dX4_blend_111 : decode cX4_blend 111 = .ok (.getfield 29, 3) := by decide +kernel
theorem dX4_blend_114 : decode cX4_blend 114 = .ok (.aload_n 0, 1) := by decide +kernel
theorem dX4_blend_115 : decode cX4_blend 115 = .ok (.getfield 29, 3) := by decide +kernel
theorem dX4_blend_118 : decode cX4_blend 118 = .ok (.getfield 129, 3) := by decide +kernel
theorem dX4_blend_121 : decode cX4_blend 121 = .ok (.invokevirtual 121, 3) := by decide +kernel
theorem dX4_blend_124 : decode cX4_blend 124 = .ok (.ireturn, 1) := by decide +kernel
theorem dX4_blend_125 : decode cX4_blend 125 = .ok (.aload_n 0, 1) := by decide +kernel
theorem dX4_blend_126 : decode cX4_blend 126 = .ok (.getfield 29, 3) := by decide +kernel
theorem dX4_blend_129 : decode cX4_blend 129 = .ok (.aload_n 0, 1) := by decide +kernel
theorem dX4_blend_130 : decode cX4_blend 130 = .ok (.getfield 29, 3) := by decide +kernel
theorem dX4_blend_133 : decode cX4_blend 133 = .ok (.getfield 132, 3) := by decide +kernel
theorem dX4_blend_136 : decode cX4_blend 136 = .ok (.invokevirtual 121, 3) := by decide +kernel
theorem dX4_blend_139 : decode cX4_blend 139 = .ok (.ireturn, 1) := by decide +kernel
theorem dX4_blend_140 : decode cX4_blend 140 = .ok (.aload_n 0, 1) := by decide +kernel
theorem dX4_blend_141 : decode cX4_blend 141 = .ok (.getfield 29, 3) := by decide +kernel
theorem dX4_blend_144 : decode cX4_blend 144 = .ok (.getfield 135, 3) := by decide +kernel
theorem dX4_blend_147 : decode cX4_blend 147 = .ok (.ireturn, 1) := by decide +kernel
theorem dX4_blend_148 : decode cX4_blend 148 = .ok (.aload_n 0, 1) := by decide +kernel
theorem dX4_blend_149 : decode cX4_blend 149 = .ok (.getfield 22, 3) := by decide +kernel
theorem dX4_blend_152 : decode cX4_blend 152 = .ok (.aload_n 0, 1) := by decide +kernel
theorem dX4_blend_153 : decode cX4_blend 153 = .ok (.getfield 29, 3) := by decide +kernel
theorem dX4_blend_156 : decode cX4_blend 156 = .ok (.invokevirtual 137, 3) := by decide +kernel
theorem dX4_blend_159 : decode cX4_blend 159 = .ok (.ifCond .eq 7, 3) := by decide +kernel
theorem dX4_blend_162 : decode cX4_blend 162 = .ok (.iconst 1, 1) := by decide +kernel
theorem dX4_blend_163 : decode cX4_blend 163 = .ok (.goto 4, 3) := by decide +kernel
theorem dX4_blend_166 : decode cX4_blend 166 = .ok (.iconst 0, 1) := by decide +kernel
theorem dX4_blend_167 : decode cX4_blend 167 = .ok (.ireturn, 1) := by decide +kernel
theorem dX4_blend_168 : decode cX4_blend 168 = .ok (.iconst (-1), 1) := by decide +kernel
theorem dX4_blend_169 : decode cX4_blend 169 = .ok (.ireturn, 1) := by decide +kernel
theorem dX4_best_0 : decode cX4_best 0 = .ok (.iload_n 1, 1) := by decide +kernel
theorem dX4_best_1 : decode cX4_best 1 = .ok (.iconst 0, 1) := by decide +kernel
theorem dX4_best_2 : decode cX4_best 2 = .ok (.iconst 1, 1) := by decide +kernel
theorem dX4_best_3 : decode cX4_best 3 = .ok (.invokestatic 55, 3) := by decide +kernel
theorem dX4_best_6 : decode cX4_best 6 = .ok (.ifCond .ne 5, 3) := by decide +kernel
theorem dX4_best_9 : decode cX4_best 9 = .ok (.iconst (-1), 1) := by decide +kernel
theorem dX4_best_10 : decode cX4_best 10 = .ok (.ireturn, 1) := by decide +kernel
theorem dX4_best_11 : decode cX4_best 11 = .ok (.aload_n 0, 1) := by decide +kernel
theorem dX4_best_12 : decode cX4_best 12 = .ok (.invokevirtual 141, 3) := by decide +kernel
theorem dX4_best_15 : decode cX4_best 15 = .ok (.istore_n 2, 1) := by decide +kernel
theorem dX4_best_16 : decode cX4_best 16 = .ok (.iload_n 1, 1) := by decide +kernel
theorem dX4_best_17 : decode cX4_best 17 = .ok (.ifCond .eq 9, 3) := by decide +kernel
theorem dX4_best_20 : decode cX4_best 20 = .ok (.iload_n 2, 1) := by decide +kernel
theorem dX4_best_21 : decode cX4_best 21 = .ok (.bipush (-9), 2) := by decide +kernel
theorem dX4_best_23 : decode cX4_best 23 = .ok (.if_icmp .ne 5, 3) := by decide +kernel
theorem dX4_best_26 : decode cX4_best 26 = .ok (.iload_n 2, 1) := by decide +kernel
theorem dX4_best_27 : decode cX4_best 27 = .ok (.ireturn, 1) := by decide +kernel
theorem dX4_best_28 : decode cX4_best 28 = .ok (.aload_n 0, 1) := by decide +kernel
theorem dX4_best_29 : decode cX4_best 29 = .ok (.iload_n 2, 1) := by decide +kernel
theorem dX4_best_30 : decode cX4_best 30 = .ok (.invokevirtual 114, 3) := by decide +kernel
theorem dX4_best_33 : decode cX4_best 33 = .ok (.ifCond .eq 13, 3) := by decide +kernel
theorem dX4_best_36 : decode cX4_best 36 = .ok (.aload_n 0, 1) := by decide +kernel
theorem dX4_best_37 : decode cX4_best 37 = .ok (.getfield 29, 3) := by decide +kernel
theorem dX4_best_40 : decode cX4_best 40 = .ok (.getfield 135, 3) := by decide +kernel
theorem dX4_best_43 : decode cX4_best 43 = .ok (.goto 5, 3) := by decide +kernel
theorem dX4_best_46 : decode cX4_best 46 = .ok (.bipush (-9), 2) := by decide +kernel
theorem dX4_best_48 : decode cX4_best 48 = .ok (.ireturn, 1) := by decide +kernel
theorem dX4_lasts_0 : decode cX4_lasts 0 = .ok (.iload_n 1, 1) := by decide +kernel
theorem dX4_lasts_1 : decode cX4_lasts 1 = .ok (.iconst 1, 1) := by decide +kernel
theorem dX4_lasts_2 : decode cX4_lasts 2 = .ok (.sipush 9999, 3) := by decide +kernel
theorem dX4_lasts_5 : decode cX4_lasts 5 = .ok (.invokestatic 55, 3) := by decide +kernel
theorem dX4_lasts_8 : decode cX4_lasts 8 = .ok (.ifCond .eq 13, 3) := by decide +kernel
theorem dX4_lasts_11 : decode cX4_lasts 11 = .ok (.iload_n 2, 1) := by decide +kernel
theorem dX4_lasts_12 : decode cX4_lasts 12 = .ok (.iconst 0, 1) := by decide +kernel
theorem dX4_lasts_13 : decode cX4_lasts 13 = .ok (.bipush 60, 2) := by decide +kernel
theorem dX4_lasts_15 : decode cX4_lasts 15 = .ok (.invokestatic 55, 3) := by decide +kernel
theorem dX4_lasts_18 : decode cX4_lasts 18 = .ok (.ifCond .ne 5, 3) := by decide +kernel
theorem dX4_lasts_21 : decode cX4_lasts 21 = .ok (.iconst (-1), 1) := by decide +kernel
theorem dX4_lasts_22 : decode cX4_lasts 22 = .ok (.ireturn, 1) := by decide +kernel
theorem dX4_lasts_23 : decode cX4_lasts 23 = .ok (.iconst 0, 1) := by decide +kernel
theorem dX4_lasts_24 : decode cX4_lasts 24 = .ok (.istore_n 3, 1) := by decide +kernel
theorem dX4_lasts_25 : decode cX4_lasts 25 = .ok (.iload_n 3, 1) := by decide +kernel
theorem dX4_lasts_26 : decode cX4_lasts 26 = .ok (.aload_n 0, 1) := by decide +kernel
theorem dX4_lasts_27 : decode cX4_lasts 27 = .ok (.getfield 40, 3) := by decide +kernel
theorem dX4_lasts_30 : decode cX4_lasts 30 = .ok (.if_icmp .ge 24, 3) := by decide +kernel
theorem dX4_lasts_33 : decode cX4_lasts 33 = .ok (.aload_n 0, 1) := by decide +kernel
theorem dX4_lasts_34 : decode cX4_lasts 34 = .ok (.getfield 15, 3) := by decide +kernel
theorem dX4_lasts_37 : decode cX4_lasts 37 = .ok (.iload_n 3, 1) := by decide +kernel
theorem dX4_lasts_38 : decode cX4_lasts 38 = .ok (.aload_n 0, 1) := by decide +kernel
theorem dX4_lasts_39 : decode cX4_lasts 39 = .ok (.getfield 11, 3) := by decide +kernel
theorem dX4_lasts_42 : decode cX4_lasts 42 = .ok (.iload_n 3, 1) := by decide +kernel
theorem dX4_lasts_43 : decode cX4_lasts 43 = .ok (.aaload, 1) := by decide +kernel
theorem dX4_lasts_44 : decode cX4_lasts 44 = .ok (.getfield 80, 3) := by decide +kernel
theorem dX4_lasts_47 : decode cX4_lasts 47 = .ok (.iastore, 1) := by decide +kernel
theorem dX4_lasts_48 : decode cX4_lasts 48 = .ok (.iinc 3 1, 3) := by decide +kernel
theorem dX4_lasts_51 : decode cX4_lasts 51 = .ok (.goto (-26), 3) := by decide +kernel
theorem dX4_lasts_54 : decode cX4_lasts 54 = .ok (.iconst 0, 1) := by decide +kernel
theorem dX4_lasts_55 : decode cX4_lasts 55 = .ok (.istore_n 3, 1) := by decide +kernel
theorem dX4_lasts_56 : decode cX4_lasts 56 = .ok (.iload_n 3, 1) := by decide +kernel
theorem dX4_lasts_57 : decode cX4_lasts 57 = .ok (.bipush 30, 2) := by decide +kernel
theorem dX4_lasts_59 : decode cX4_lasts 59 = .ok (.if_icmp .ge 36, 3) := by decide +kernel
theorem dX4_lasts_62 : decode cX4_lasts 62 = .ok (.aload_n 0, 1) := by decide +kernel
theorem dX4_lasts_63 : decode cX4_lasts 63 = .ok (.iload_n 1, 1) := by decide +kernel
theorem dX4_lasts_64 : decode cX4_lasts 64 = .ok (.iload_n 2, 1) := by decide +kernel
theorem dX4_lasts_65 : decode cX4_lasts 65 = .ok (.aload_n 0, 1) := by decide +kernel
theorem dX4_lasts_66 : decode cX4_lasts 66 = .ok (.getfield 44, 3) := by decide +kernel
theorem dX4_lasts_69 : decode cX4_lasts 69 = .ok (.iload_n 3, 1) := by decide +kernel
theorem dX4_lasts_70 : decode cX4_lasts 70 = .ok (.iadd, 1) := by decide +kernel
theorem dX4_lasts_71 : decode cX4_lasts 71 = .ok (.invokevirtual 145, 3) := by decide +kernel
theorem dX4_lasts_74 : decode cX4_lasts 74 = .ok (.ifCond .ne 5, 3) := by decide +kernel
theorem dX4_lasts_77 : decode cX4_lasts 77 = .ok (.iload_n 3, 1) := by decide +kernel
theorem dX4_lasts_78 : decode cX4_lasts 78 = .ok (.ireturn, 1) := by decide +kernel
theorem dX4_lasts_79 : decode cX4_lasts 79 = .ok (.aload_n 0, 1) := by decide +kernel
theorem dX4_lasts_80 : decode cX4_lasts 80 = .ok (.aload_n 0, 1) := by decide +kernel
theorem dX4_lasts_81 : decode cX4_lasts 81 = .ok (.getfield 44, 3) := by decide +kernel
theorem dX4_lasts_84 : decode cX4_lasts 84 = .ok (.iload_n 3, 1) := by decide +kernel
theorem dX4_lasts_85 : decode cX4_lasts 85 = .ok (.iadd, 1) := by decide +kernel
theorem dX4_lasts_86 : decode cX4_lasts 86 = .ok (.invokevirtual 148, 3) := by decide +kernel
theorem dX4_lasts_89 : decode cX4_lasts 89 = .ok (.iinc 3 1, 3) := by decide +kernel
theorem dX4_lasts_92 : decode cX4_lasts 92 = .ok (.goto (-36), 3) := by decide +kernel
theorem dX4_lasts_95 : decode cX4_lasts 95 = .ok (.bipush 30, 2) := by decide +kernel
theorem dX4_lasts_97 : decode cX4_lasts 97 = .ok (.ireturn, 1) := by decide +kernel
theorem dX4_cut_0 : decode cX4_cut 0 = .ok (.aload_n 0, 1) := by decide +kernel
theorem dX4_cut_1 : decode cX4_cut 1 = .ok (.iload_n 1, 1) := by decide +kernel
theorem dX4_cut_2 : decode cX4_cut 2 = .ok (.invokevirtual 66, 3) := by decide +kernel
theorem dX4_cut_5 : decode cX4_cut 5 = .ok (.ifCond .eq 16, 3) := by decide +kernel
theorem dX4_cut_8 : decode cX4_cut 8 = .ok (.iload_n 2, 1) := by decide +kernel
theorem dX4_cut_9 : decode cX4_cut 9 = .ok (.sipush 300, 3) := by decide +kernel
theorem dX4_cut_12 : decode cX4_cut 12 = .ok (.sipush 700, 3) := by decide +kernel
theorem dX4_cut_15 : decode cX4_cut 15 = .ok (.invokestatic 55, 3) := by decide +kernel
theorem dX4_cut_18 : decode cX4_cut 18 = .ok (.ifCond .ne 5, 3) := by decide +kernel
theorem dX4_cut_21 : decode cX4_cut 21 = .ok (.iconst (-1), 1) := by decide +kernel
theorem dX4_cut_22 : decode cX4_cut 22 = .ok (.ireturn, 1) := by decide +kernel
theorem dX4_cut_23 : decode cX4_cut 23 = .ok (.iconst 0, 1) := by decide +kernel
theorem dX4_cut_24 : decode cX4_cut 24 = .ok (.aload_n 0, 1) := by decide +kernel
theorem dX4_cut_25 : decode cX4_cut 25 = .ok (.getfield 11, 3) := by decide +kernel
theorem dX4_cut_28 : decode cX4_cut 28 = .ok (.iload_n 1, 1) := by decide +kernel
theorem dX4_cut_29 : decode cX4_cut 29 = .ok (.aaload, 1) := by decide +kernel
theorem dX4_cut_30 : decode cX4_cut 30 = .ok (.getfield 83, 3) := by decide +kernel
theorem dX4_cut_33 : decode cX4_cut 33 = .ok (.iload_n 2, 1) := by decide +kernel
theorem dX4_cut_34 : decode cX4_cut 34 = .ok (.isub, 1) := by decide +kernel
theorem dX4_cut_35 : decode cX4_cut 35 = .ok (.invokestatic 152, 3) := by decide +kernel
theorem dX4_cut_38 : decode cX4_cut 38 = .ok (.istore_n 3, 1) := by decide +kernel
theorem dX4_cut_39 : decode cX4_cut 39 = .ok (.aload_n 0, 1) := by decide +kernel
theorem dX4_cut_40 : decode cX4_cut 40 = .ok (.getfield 11, 3) := by decide +kernel
theorem dX4_cut_43 : decode cX4_cut 43 = .ok (.iload_n 1, 1) := by decide +kernel
theorem dX4_cut_44 : decode cX4_cut 44 = .ok (.aaload, 1) := by decide +kernel
theorem dX4_cut_45 : decode cX4_cut 45 = .ok (.getfield 80, 3) := by decide +kernel
theorem dX4_cut_48 : decode cX4_cut 48 = .ok (.iload_n 3, 1) := by decide +kernel
theorem dX4_cut_49 : decode cX4_cut 49 = .ok (.imul, 1) := by decide +kernel
end
section
theorem dX4_cut_50 : decode cX4_cut 50 = .ok (.iload_n 2, 1) := by decide +kernel
theorem dX4_cut_51 : decode cX4_cut 51 = .ok (.invokestatic 158, 3) := by decide +kernel
theorem dX4_cut_54 : decode cX4_cut 54 = .ok (.ireturn, 1) := by decide +kernel
theorem dX4_rate_0 : decode cX4_rate 0 = .ok (.iload_n 1, 1) := by decide +kernel
theorem dX4_rate_1 : decode cX4_rate 1 = .ok (.iconst 0, 1) := by decide +kernel
theorem dX4_rate_2 : decode cX4_rate 2 = .ok (.bipush 100, 2) := by decide +kernel
theorem dX4_rate_4 : decode cX4_rate 4 = .ok (.invokestatic 55, 3) := by decide +kernel
theorem dX4_rate_7 : decode cX4_rate 7 = .ok (.ifCond .ne 5, 3) := by decide +kernel
theorem dX4_rate_10 : decode cX4_rate 10 = .ok (.iconst (-1), 1) := by decide +kernel
theorem dX4_rate_11 : decode cX4_rate 11 = .ok (.ireturn, 1) := by decide +kernel
theorem dX4_rate_12 : decode cX4_rate 12 = .ok (.aload_n 0, 1) := by decide +kernel
theorem dX4_rate_13 : decode cX4_rate 13 = .ok (.getfield 47, 3) := by decide +kernel
theorem dX4_rate_16 : decode cX4_rate 16 = .ok (.istore_n 2, 1) := by decide +kernel
theorem dX4_rate_17 : decode cX4_rate 17 = .ok (.aload_n 0, 1) := by decide +kernel
theorem dX4_rate_18 : decode cX4_rate 18 = .ok (.iload_n 1, 1) := by decide +kernel
theorem dX4_rate_19 : decode cX4_rate 19 = .ok (.putfield 47, 3) := by decide +kernel
theorem dX4_rate_22 : decode cX4_rate 22 = .ok (.iload_n 2, 1) := by decide +kernel
theorem dX4_rate_23 : decode cX4_rate 23 = .ok (.ireturn, 1) := by decide +kernel
theorem dX4_duty_0 : decode cX4_duty 0 = .ok (.aload_n 0, 1) := by decide +kernel
theorem dX4_duty_1 : decode cX4_duty 1 = .ok (.iload_n 1, 1) := by decide +kernel
theorem dX4_duty_2 : decode cX4_duty 2 = .ok (.invokevirtual 111, 3) := by decide +kernel
theorem dX4_duty_5 : decode cX4_duty 5 = .ok (.ifCond .ne 5, 3) := by decide +kernel
theorem dX4_duty_8 : decode cX4_duty 8 = .ok (.iconst (-1), 1) := by decide +kernel
theorem dX4_duty_9 : decode cX4_duty 9 = .ok (.ireturn, 1) := by decide +kernel
theorem dX4_duty_10 : decode cX4_duty 10 = .ok (.iconst 0, 1) := by decide +kernel
theorem dX4_duty_11 : decode cX4_duty 11 = .ok (.istore_n 2, 1) := by decide +kernel
theorem dX4_duty_12 : decode cX4_duty 12 = .ok (.iconst 0, 1) := by decide +kernel
theorem dX4_duty_13 : decode cX4_duty 13 = .ok (.istore_n 3, 1) := by decide +kernel
theorem dX4_duty_14 : decode cX4_duty 14 = .ok (.iload_n 3, 1) := by decide +kernel
theorem dX4_duty_15 : decode cX4_duty 15 = .ok (.aload_n 0, 1) := by decide +kernel
theorem dX4_duty_16 : decode cX4_duty 16 = .ok (.getfield 40, 3) := by decide +kernel
theorem dX4_duty_19 : decode cX4_duty 19 = .ok (.if_icmp .ge 48, 3) := by decide +kernel
theorem dX4_duty_22 : decode cX4_duty 22 = .ok (.iload_n 1, 1) := by decide +kernel
theorem dX4_duty_23 : decode cX4_duty 23 = .ok (.iload_n 3, 1) := by decide +kernel
theorem dX4_duty_24 : decode cX4_duty 24 = .ok (.invokestatic 161, 3) := by decide +kernel
theorem dX4_duty_27 : decode cX4_duty 27 = .ok (.ifCond .eq 34, 3) := by decide +kernel
theorem dX4_duty_30 : decode cX4_duty 30 = .ok (.iload_n 2, 1) := by decide +kernel
theorem dX4_duty_31 : decode cX4_duty 31 = .ok (.aload_n 0, 1) := by decide +kernel
theorem dX4_duty_32 : decode cX4_duty 32 = .ok (.getfield 11, 3) := by decide +kernel
theorem dX4_duty_35 : decode cX4_duty 35 = .ok (.iload_n 3, 1) := by decide +kernel
theorem dX4_duty_36 : decode cX4_duty 36 = .ok (.aaload, 1) := by decide +kernel
theorem dX4_duty_37 : decode cX4_duty 37 = .ok (.getfield 80, 3) := by decide +kernel
theorem dX4_duty_40 : decode cX4_duty 40 = .ok (.aload_n 0, 1) := by decide +kernel
theorem dX4_duty_41 : decode cX4_duty 41 = .ok (.getfield 11, 3) := by decide +kernel
theorem dX4_duty_44 : decode cX4_duty 44 = .ok (.iload_n 3, 1) := by decide +kernel
theorem dX4_duty_45 : decode cX4_duty 45 = .ok (.aaload, 1) := by decide +kernel
theorem dX4_duty_46 : decode cX4_duty 46 = .ok (.getfield 83, 3) := by decide +kernel
theorem dX4_duty_49 : decode cX4_duty 49 = .ok (.imul, 1) := by decide +kernel
theorem dX4_duty_50 : decode cX4_duty 50 = .ok (.sipush 1000, 3) := by decide +kernel
theorem dX4_duty_53 : decode cX4_duty 53 = .ok (.idiv, 1) := by decide +kernel
theorem dX4_duty_54 : decode cX4_duty 54 = .ok (.aload_n 0, 1) := by decide +kernel
theorem dX4_duty_55 : decode cX4_duty 55 = .ok (.getfield 47, 3) := by decide +kernel
theorem dX4_duty_58 : decode cX4_duty 58 = .ok (.imul, 1) := by decide +kernel
theorem dX4_duty_59 : decode cX4_duty 59 = .ok (.iadd, 1) := by decide +kernel
theorem dX4_duty_60 : decode cX4_duty 60 = .ok (.istore_n 2, 1) := by decide +kernel
theorem dX4_duty_61 : decode cX4_duty 61 = .ok (.iinc 3 1, 3) := by decide +kernel
theorem dX4_duty_64 : decode cX4_duty 64 = .ok (.goto (-50), 3) := by decide +kernel
theorem dX4_duty_67 : decode cX4_duty 67 = .ok (.iload_n 2, 1) := by decide +kernel
theorem dX4_duty_68 : decode cX4_duty 68 = .ok (.ireturn, 1) := by decide +kernel
theorem dX4_odds_0 : decode cX4_odds 0 = .ok (.iload_n 1, 1) := by decide +kernel
theorem dX4_odds_1 : decode cX4_odds 1 = .ok (.iload_n 2, 1) := by decide +kernel
theorem dX4_odds_2 : decode cX4_odds 2 = .ok (.invokestatic 165, 3) := by decide +kernel
theorem dX4_odds_5 : decode cX4_odds 5 = .ok (.ifCond .eq 11, 3) := by decide +kernel
theorem dX4_odds_8 : decode cX4_odds 8 = .ok (.iload_n 1, 1) := by decide +kernel
theorem dX4_odds_9 : decode cX4_odds 9 = .ok (.iload_n 2, 1) := by decide +kernel
theorem dX4_odds_10 : decode cX4_odds 10 = .ok (.invokestatic 168, 3) := by decide +kernel
theorem dX4_odds_13 : decode cX4_odds 13 = .ok (.goto 6, 3) := by decide +kernel
theorem dX4_odds_16 : decode cX4_odds 16 = .ok (.ldc2_w 172, 3) := by decide +kernel
theorem dX4_odds_19 : decode cX4_odds 19 = .ok (.lreturn, 1) := by decide +kernel
theorem dX4_apart_0 : decode cX4_apart 0 = .ok (.iload_n 1, 1) := by decide +kernel
theorem dX4_apart_1 : decode cX4_apart 1 = .ok (.iload_n 2, 1) := by decide +kernel
theorem dX4_apart_2 : decode cX4_apart 2 = .ok (.invokestatic 165, 3) := by decide +kernel
theorem dX4_apart_5 : decode cX4_apart 5 = .ok (.ifCond .ne 5, 3) := by decide +kernel
theorem dX4_apart_8 : decode cX4_apart 8 = .ok (.iconst (-1), 1) := by decide +kernel
theorem dX4_apart_9 : decode cX4_apart 9 = .ok (.ireturn, 1) := by decide +kernel
theorem dX4_apart_10 : decode cX4_apart 10 = .ok (.ldc2_w 174, 3) := by decide +kernel
theorem dX4_apart_13 : decode cX4_apart 13 = .ok (.iload_n 1, 1) := by decide +kernel
theorem dX4_apart_14 : decode cX4_apart 14 = .ok (.iload_n 2, 1) := by decide +kernel
theorem dX4_apart_15 : decode cX4_apart 15 = .ok (.invokestatic 168, 3) := by decide +kernel
theorem dX4_apart_18 : decode cX4_apart 18 = .ok (.lmul, 1) := by decide +kernel
theorem dX4_apart_19 : decode cX4_apart 19 = .ok (.iload_n 1, 1) := by decide +kernel
theorem dX4_apart_20 : decode cX4_apart 20 = .ok (.iconst 0, 1) := by decide +kernel
theorem dX4_apart_21 : decode cX4_apart 21 = .ok (.invokestatic 168, 3) := by decide +kernel
theorem dX4_apart_24 : decode cX4_apart 24 = .ok (.lcmp, 1) := by decide +kernel
theorem dX4_apart_25 : decode cX4_apart 25 = .ok (.ifCond .gt 7, 3) := by decide +kernel
theorem dX4_apart_28 : decode cX4_apart 28 = .ok (.iconst 1, 1) := by decide +kernel
theorem dX4_apart_29 : decode cX4_apart 29 = .ok (.goto 4, 3) := by decide +kernel
theorem dX4_apart_32 : decode cX4_apart 32 = .ok (.iconst 0, 1) := by decide +kernel
theorem dX4_apart_33 : decode cX4_apart 33 = .ok (.ireturn, 1) := by decide +kernel
theorem dX4_read_0 : decode cX4_read 0 = .ok (.iload_n 1, 1) := by decide +kernel
theorem dX4_read_1 : decode cX4_read 1 = .ok (.invokestatic 176, 3) := by decide +kernel
theorem dX4_read_4 : decode cX4_read 4 = .ok (.ifCond .eq 23, 3) := by decide +kernel
theorem dX4_read_7 : decode cX4_read 7 = .ok (.iload_n 2, 1) := by decide +kernel
theorem dX4_read_8 : decode cX4_read 8 = .ok (.iconst 0, 1) := by decide +kernel
theorem dX4_read_9 : decode cX4_read 9 = .ok (.bipush 9, 2) := by decide +kernel
theorem dX4_read_11 : decode cX4_read 11 = .ok (.invokestatic 55, 3) := by decide +kernel
theorem dX4_read_14 : decode cX4_read 14 = .ok (.ifCond .eq 13, 3) := by decide +kernel
theorem dX4_read_17 : decode cX4_read 17 = .ok (.iload_n 3, 1) := by decide +kernel
theorem dX4_read_18 : decode cX4_read 18 = .ok (.iconst 0, 1) := by decide +kernel
theorem dX4_read_19 : decode cX4_read 19 = .ok (.bipush 99, 2) := by decide +kernel
theorem dX4_read_21 : decode cX4_read 21 = .ok (.invokestatic 55, 3) := by decide +kernel
theorem dX4_read_24 : decode cX4_read 24 = .ok (.ifCond .ne 5, 3) := by decide +kernel
theorem dX4_read_27 : decode cX4_read 27 = .ok (.iconst (-1), 1) := by decide +kernel
theorem dX4_read_28 : decode cX4_read 28 = .ok (.ireturn, 1) := by decide +kernel
theorem dX4_read_29 : decode cX4_read 29 = .ok (.aload_n 0, 1) := by decide +kernel
theorem dX4_read_30 : decode cX4_read 30 = .ok (.getfield 36, 3) := by decide +kernel
theorem dX4_read_33 : decode cX4_read 33 = .ok (.getfield 179, 3) := by decide +kernel
theorem dX4_read_36 : decode cX4_read 36 = .ok (.bipush 30, 2) := by decide +kernel
theorem dX4_read_38 : decode cX4_read 38 = .ok (.if_icmp .lt 6, 3) := by decide +kernel
theorem dX4_read_41 : decode cX4_read 41 = .ok (.bipush (-3), 2) := by decide +kernel
theorem dX4_read_43 : decode cX4_read 43 = .ok (.ireturn, 1) := by decide +kernel
theorem dX4_read_44 : decode cX4_read 44 = .ok (.aload_n 0, 1) := by decide +kernel
theorem dX4_read_45 : decode cX4_read 45 = .ok (.getfield 36, 3) := by decide +kernel
theorem dX4_read_48 : decode cX4_read 48 = .ok (.iload_n 1, 1) := by decide +kernel
theorem dX4_read_49 : decode cX4_read 49 = .ok (.iload_n 2, 1) := by decide +kernel
theorem dX4_read_50 : decode cX4_read 50 = .ok (.iload_n 3, 1) := by decide +kernel
theorem dX4_read_51 : decode cX4_read 51 = .ok (.invokevirtual 182, 3) := by decide +kernel
theorem dX4_read_54 : decode cX4_read 54 = .ok (.aload_n 0, 1) := by decide +kernel
theorem dX4_read_55 : decode cX4_read 55 = .ok (.getfield 36, 3) := by decide +kernel
theorem dX4_read_58 : decode cX4_read 58 = .ok (.getfield 179, 3) := by decide +kernel
theorem dX4_read_61 : decode cX4_read 61 = .ok (.ireturn, 1) := by decide +kernel
theorem dX4_clear_0 : decode cX4_clear 0 = .ok (.aload_n 0, 1) := by decide +kernel
theorem dX4_clear_1 : decode cX4_clear 1 = .ok (.getfield 36, 3) := by decide +kernel
theorem dX4_clear_4 : decode cX4_clear 4 = .ok (.getfield 179, 3) := by decide +kernel
theorem dX4_clear_7 : decode cX4_clear 7 = .ok (.istore_n 1, 1) := by decide +kernel
theorem dX4_clear_8 : decode cX4_clear 8 = .ok (.aload_n 0, 1) := by decide +kernel
theorem dX4_clear_9 : decode cX4_clear 9 = .ok (.getfield 36, 3) := by decide +kernel
theorem dX4_clear_12 : decode cX4_clear 12 = .ok (.invokevirtual 186, 3) := by decide +kernel
theorem dX4_clear_15 : decode cX4_clear 15 = .ok (.iload_n 1, 1) := by decide +kernel
theorem dX4_clear_16 : decode cX4_clear 16 = .ok (.ireturn, 1) := by decide +kernel
theorem dX4_contradicts_0 : decode cX4_contradicts 0 = .ok (.aload_n 0, 1) := by decide +kernel
theorem dX4_contradicts_1 : decode cX4_contradicts 1 = .ok (.getfield 36, 3) := by decide +kernel
theorem dX4_contradicts_4 : decode cX4_contradicts 4 = .ok (.getfield 189, 3) := by decide +kernel
theorem dX4_contradicts_7 : decode cX4_contradicts 7 = .ok (.ireturn, 1) := by decide +kernel
theorem dX4_hang_0 : decode cX4_hang 0 = .ok (.iload_n 1, 1) := by decide +kernel
theorem dX4_hang_1 : decode cX4_hang 1 = .ok (.invokestatic 176, 3) := by decide +kernel
theorem dX4_hang_4 : decode cX4_hang 4 = .ok (.ifCond .eq 19, 3) := by decide +kernel
theorem dX4_hang_7 : decode cX4_hang 7 = .ok (.iload_n 2, 1) := by decide +kernel
theorem dX4_hang_8 : decode cX4_hang 8 = .ok (.invokestatic 176, 3) := by decide +kernel
theorem dX4_hang_11 : decode cX4_hang 11 = .ok (.ifCond .eq 12, 3) := by decide +kernel
theorem dX4_hang_14 : decode cX4_hang 14 = .ok (.iload_n 3, 1) := by decide +kernel
theorem dX4_hang_15 : decode cX4_hang 15 = .ok (.iconst 0, 1) := by decide +kernel
theorem dX4_hang_16 : decode cX4_hang 16 = .ok (.iconst 1, 1) := by decide +kernel
theorem dX4_hang_17 : decode cX4_hang 17 = .ok (.invokestatic 55, 3) := by decide +kernel
theorem dX4_hang_20 : decode cX4_hang 20 = .ok (.ifCond .ne 6, 3) := by decide +kernel
theorem dX4_hang_23 : decode cX4_hang 23 = .ok (.ldc 192, 2) := by decide +kernel
theorem dX4_hang_25 : decode cX4_hang 25 = .ok (.ireturn, 1) := by decide +kernel
theorem dX4_hang_26 : decode cX4_hang 26 = .ok (.aload_n 0, 1) := by decide +kernel
theorem dX4_hang_27 : decode cX4_hang 27 = .ok (.getfield 36, 3) := by decide +kernel
theorem dX4_hang_30 : decode cX4_hang 30 = .ok (.iload_n 1, 1) := by decide +kernel
theorem dX4_hang_31 : decode cX4_hang 31 = .ok (.iload_n 2, 1) := by decide +kernel
theorem dX4_hang_32 : decode cX4_hang 32 = .ok (.invokevirtual 193, 3) := by decide +kernel
theorem dX4_hang_35 : decode cX4_hang 35 = .ok (.istore 4, 2) := by decide +kernel
theorem dX4_hang_37 : decode cX4_hang 37 = .ok (.iload_n 3, 1) := by decide +kernel
theorem dX4_hang_38 : decode cX4_hang 38 = .ok (.ifCond .ne 14, 3) := by decide +kernel
theorem dX4_hang_41 : decode cX4_hang 41 = .ok (.iload 4, 2) := by decide +kernel
theorem dX4_hang_43 : decode cX4_hang 43 = .ok (.ifCond .eq 7, 3) := by decide +kernel
theorem dX4_hang_46 : decode cX4_hang 46 = .ok (.iconst 1, 1) := by decide +kernel
theorem dX4_hang_47 : decode cX4_hang 47 = .ok (.goto 4, 3) := by decide +kernel
theorem dX4_hang_50 : decode cX4_hang 50 = .ok (.iconst 0, 1) := by decide +kernel
theorem dX4_hang_51 : decode cX4_hang 51 = .ok (.ireturn, 1) := by decide +kernel
theorem dX4_hang_52 : decode cX4_hang 52 = .ok (.iload 4, 2) := by decide +kernel
theorem dX4_hang_54 : decode cX4_hang 54 = .ok (.ifCond .eq 25, 3) := by decide +kernel
theorem dX4_hang_57 : decode cX4_hang 57 = .ok (.aload_n 0, 1) := by decide +kernel
theorem dX4_hang_58 : decode cX4_hang 58 = .ok (.getfield 36, 3) := by decide +kernel
theorem dX4_hang_61 : decode cX4_hang 61 = .ok (.getfield 196, 3) := by decide +kernel
theorem dX4_hang_64 : decode cX4_hang 64 = .ok (.iload_n 1, 1) := by decide +kernel
theorem dX4_hang_65 : decode cX4_hang 65 = .ok (.iaload, 1) := by decide +kernel
theorem dX4_hang_66 : decode cX4_hang 66 = .ok (.aload_n 0, 1) := by decide +kernel
theorem dX4_hang_67 : decode cX4_hang 67 = .ok (.getfield 36, 3) := by decide +kernel
theorem dX4_hang_70 : decode cX4_hang 70 = .ok (.getfield 196, 3) := by decide +kernel
theorem dX4_hang_73 : decode cX4_hang 73 = .ok (.iload_n 2, 1) := by decide +kernel
theorem dX4_hang_74 : decode cX4_hang 74 = .ok (.iaload, 1) := by decide +kernel
theorem dX4_hang_75 : decode cX4_hang 75 = .ok (.isub, 1) := by decide +kernel
theorem dX4_hang_76 : decode cX4_hang 76 = .ok (.goto 5, 3) := by decide +kernel
theorem dX4_hang_79 : decode cX4_hang 79 = .ok (.ldc 199, 2) := by decide +kernel
theorem dX4_hang_81 : decode cX4_hang 81 = .ok (.ireturn, 1) := by decide +kernel
theorem dX4_count_0 : decode cX4_count 0 = .ok (.iload_n 1, 1) := by decide +kernel
theorem dX4_count_1 : decode cX4_count 1 = .ok (.tableswitch 72 0 5 #[39, 44, 49, 54, 62, 67], 39) := by decide +kernel
theorem dX4_count_40 : decode cX4_count 40 = .ok (.aload_n 0, 1) := by decide +kernel
theorem dX4_count_41 : decode cX4_count 41 = .ok (.getfield 44, 3) := by decide +kernel
theorem dX4_count_44 : decode cX4_count 44 = .ok (.ireturn, 1) := by decide +kernel
theorem dX4_count_45 : decode cX4_count 45 = .ok (.aload_n 0, 1) := by decide +kernel
theorem dX4_count_46 : decode cX4_count 46 = .ok (.getfield 40, 3) := by decide +kernel
theorem dX4_count_49 : decode cX4_count 49 = .ok (.ireturn, 1) := by decide +kernel
theorem dX4_count_50 : decode cX4_count 50 = .ok (.aload_n 0, 1) := by decide +kernel
theorem dX4_count_51 : decode cX4_count 51 = .ok (.invokevirtual 200, 3) := by decide +kernel
theorem dX4_count_54 : decode cX4_count 54 = .ok (.ireturn, 1) := by decide +kernel
theorem dX4_count_55 : decode cX4_count 55 = .ok (.aload_n 0, 1) := by decide +kernel
theorem dX4_count_56 : decode cX4_count 56 = .ok (.getfield 36, 3) := by decide +kernel
theorem dX4_count_59 : decode cX4_count 59 = .ok (.getfield 179, 3) := by decide +kernel
theorem dX4_count_62 : decode cX4_count 62 = .ok (.ireturn, 1) := by decide +kernel
theorem dX4_count_63 : decode cX4_count 63 = .ok (.aload_n 0, 1) := by decide +kernel
theorem dX4_count_64 : decode cX4_count 64 = .ok (.getfield 47, 3) := by decide +kernel
theorem dX4_count_67 : decode cX4_count 67 = .ok (.ireturn, 1) := by decide +kernel
theorem dX4_count_68 : decode cX4_count 68 = .ok (.aload_n 0, 1) := by decide +kernel
theorem dX4_count_69 : decode cX4_count 69 = .ok (.invokevirtual 203, 3) := by decide +kernel
theorem dX4_count_72 : decode cX4_count 72 = .ok (.ireturn, 1) := by decide +kernel
theorem dX4_count_73 : decode cX4_count 73 = .ok (.iconst (-1), 1) := by decide +kernel
theorem dX4_count_74 : decode cX4_count 74 = .ok (.ireturn, 1) := by decide +kernel
theorem dX4_trace_0 : decode cX4_trace 0 = .ok (.aload_n 0, 1) := by decide +kernel
theorem dX4_trace_1 : decode cX4_trace 1 = .ok (.getfield 50, 3) := by decide +kernel
theorem dX4_trace_4 : decode cX4_trace 4 = .ok (.lreturn, 1) := by decide +kernel
theorem dX4_isWithin_0 : decode cX4_isWithin 0 = .ok (.iload_n 0, 1) := by decide +kernel
theorem dX4_isWithin_1 : decode cX4_isWithin 1 = .ok (.iload_n 1, 1) := by decide +kernel
theorem dX4_isWithin_2 : decode cX4_isWithin 2 = .ok (.if_icmp .lt 12, 3) := by decide +kernel
theorem dX4_isWithin_5 : decode cX4_isWithin 5 = .ok (.iload_n 0, 1) := by decide +kernel
theorem dX4_isWithin_6 : decode cX4_isWithin 6 = .ok (.iload_n 2, 1) := by decide +kernel
theorem dX4_isWithin_7 : decode cX4_isWithin 7 = .ok (.if_icmp .gt 7, 3) := by decide +kernel
theorem dX4_isWithin_10 : decode cX4_isWithin 10 = .ok (.iconst 1, 1) := by decide +kernel
theorem dX4_isWithin_11 : decode cX4_isWithin 11 = .ok (.goto 4, 3) := by decide +kernel
theorem dX4_isWithin_14 : decode cX4_isWithin 14 = .ok (.iconst 0, 1) := by decide +kernel
theorem dX4_isWithin_15 : decode cX4_isWithin 15 = .ok (.ireturn, 1) := by decide +kernel
theorem dX4_isCask_0 : decode cX4_isCask 0 = .ok (.iload_n 1, 1) := by decide +kernel
theorem dX4_isCask_1 : decode cX4_isCask 1 = .ok (.iconst 0, 1) := by decide +kernel
theorem dX4_isCask_2 : decode cX4_isCask 2 = .ok (.aload_n 0, 1) := by decide +kernel
theorem dX4_isCask_3 : decode cX4_isCask 3 = .ok (.getfield 40, 3) := by decide +kernel
theorem dX4_isCask_6 : decode cX4_isCask 6 = .ok (.iconst 1, 1) := by decide +kernel
theorem dX4_isCask_7 : decode cX4_isCask 7 = .ok (.isub, 1) := by decide +kernel
theorem dX4_isCask_8 : decode cX4_isCask 8 = .ok (.invokestatic 55, 3) := by decide +kernel
theorem dX4_isCask_11 : decode cX4_isCask 11 = .ok (.ireturn, 1) := by decide +kernel
theorem dX4_isSet_0 : decode cX4_isSet 0 = .ok (.iload_n 1, 1) := by decide +kernel
theorem dX4_isSet_1 : decode cX4_isSet 1 = .ok (.iconst 0, 1) := by decide +kernel
theorem dX4_isSet_2 : decode cX4_isSet 2 = .ok (.iconst 1, 1) := by decide +kernel
theorem dX4_isSet_3 : decode cX4_isSet 3 = .ok (.aload_n 0, 1) := by decide +kernel
theorem dX4_isSet_4 : decode cX4_isSet 4 = .ok (.getfield 40, 3) := by decide +kernel
theorem dX4_isSet_7 : decode cX4_isSet 7 = .ok (.ishl, 1) := by decide +kernel
theorem dX4_isSet_8 : decode cX4_isSet 8 = .ok (.iconst 1, 1) := by decide +kernel
theorem dX4_isSet_9 : decode cX4_isSet 9 = .ok (.isub, 1) := by decide +kernel
theorem dX4_isSet_10 : decode cX4_isSet 10 = .ok (.invokestatic 55, 3) := by decide +kernel
theorem dX4_isSet_13 : decode cX4_isSet 13 = .ok (.ireturn, 1) := by decide +kernel
theorem dX4_holds_0 : decode cX4_holds 0 = .ok (.iload_n 0, 1) := by decide +kernel
theorem dX4_holds_1 : decode cX4_holds 1 = .ok (.iload_n 1, 1) := by decide +kernel
theorem dX4_holds_2 : decode cX4_holds 2 = .ok (.ishr, 1) := by decide +kernel
theorem dX4_holds_3 : decode cX4_holds 3 = .ok (.iconst 1, 1) := by decide +kernel
theorem dX4_holds_4 : decode cX4_holds 4 = .ok (.iand, 1) := by decide +kernel
theorem dX4_holds_5 : decode cX4_holds 5 = .ok (.iconst 1, 1) := by decide +kernel
theorem dX4_holds_6 : decode cX4_holds 6 = .ok (.if_icmp .ne 7, 3) := by decide +kernel
theorem dX4_holds_9 : decode cX4_holds 9 = .ok (.iconst 1, 1) := by decide +kernel
theorem dX4_holds_10 : decode cX4_holds 10 = .ok (.goto 4, 3) := by decide +kernel
theorem dX4_holds_13 : decode cX4_holds 13 = .ok (.iconst 0, 1) := by decide +kernel
theorem dX4_holds_14 : decode cX4_holds 14 = .ok (.ireturn, 1) := by decide +kernel
theorem dX4_isNose_0 : decode cX4_isNose 0 = .ok (.iload_n 0, 1) := by decide +kernel
theorem dX4_isNose_1 : decode cX4_isNose 1 = .ok (.iconst 0, 1) := by decide +kernel
theorem dX4_isNose_2 : decode cX4_isNose 2 = .ok (.iconst 5, 1) := by decide +kernel
theorem dX4_isNose_3 : decode cX4_isNose 3 = .ok (.invokestatic 55, 3) := by decide +kernel
theorem dX4_isNose_6 : decode cX4_isNose 6 = .ok (.ireturn, 1) := by decide +kernel
theorem dX4_isTriangle_0 : decode cX4_isTriangle 0 = .ok (.iload_n 0, 1) := by decide +kernel
theorem dX4_isTriangle_1 : decode cX4_isTriangle 1 = .ok (.iconst 1, 1) := by decide +kernel
theorem dX4_isTriangle_2 : decode cX4_isTriangle 2 = .ok (.bipush 20, 2) := by decide +kernel
theorem dX4_isTriangle_4 : decode cX4_isTriangle 4 = .ok (.invokestatic 55, 3) := by decide +kernel
theorem dX4_isTriangle_7 : decode cX4_isTriangle 7 = .ok (.ifCond .eq 16, 3) := by decide +kernel
theorem dX4_isTriangle_10 : decode cX4_isTriangle 10 = .ok (.iload_n 1, 1) := by decide +kernel
theorem dX4_isTriangle_11 : decode cX4_isTriangle 11 = .ok (.iconst 0, 1) := by decide +kernel
theorem dX4_isTriangle_12 : decode cX4_isTriangle 12 = .ok (.iload_n 0, 1) := by decide +kernel
theorem dX4_isTriangle_13 : decode cX4_isTriangle 13 = .ok (.invokestatic 55, 3) := by decide +kernel
theorem dX4_isTriangle_16 : decode cX4_isTriangle 16 = .ok (.ifCond .eq 7, 3) := by decide +kernel
theorem dX4_isTriangle_19 : decode cX4_isTriangle 19 = .ok (.iconst 1, 1) := by decide +kernel
theorem dX4_isTriangle_20 : decode cX4_isTriangle 20 = .ok (.goto 4, 3) := by decide +kernel
theorem dX4_isTriangle_23 : decode cX4_isTriangle 23 = .ok (.iconst 0, 1) := by decide +kernel
theorem dX4_isTriangle_24 : decode cX4_isTriangle 24 = .ok (.ireturn, 1) := by decide +kernel
theorem dX4_dividedUp_0 : decode cX4_dividedUp 0 = .ok (.iload_n 1, 1) := by decide +kernel
theorem dX4_dividedUp_1 : decode cX4_dividedUp 1 = .ok (.iconst 1, 1) := by decide +kernel
theorem dX4_dividedUp_2 : decode cX4_dividedUp 2 = .ok (.if_icmp .ge 7, 3) := by decide +kernel
theorem dX4_dividedUp_5 : decode cX4_dividedUp 5 = .ok (.iconst 0, 1) := by decide +kernel
theorem dX4_dividedUp_6 : decode cX4_dividedUp 6 = .ok (.goto 10, 3) := by decide +kernel
theorem dX4_dividedUp_9 : decode cX4_dividedUp 9 = .ok (.iload_n 0, 1) := by decide +kernel
theorem dX4_dividedUp_10 : decode cX4_dividedUp 10 = .ok (.iload_n 1, 1) := by decide +kernel
theorem dX4_dividedUp_11 : decode cX4_dividedUp 11 = .ok (.iadd, 1) := by decide +kernel
theorem dX4_dividedUp_12 : decode cX4_dividedUp 12 = .ok (.iconst 1, 1) := by decide +kernel
theorem dX4_dividedUp_13 : decode cX4_dividedUp 13 = .ok (.isub, 1) := by decide +kernel
theorem dX4_dividedUp_14 : decode cX4_dividedUp 14 = .ok (.iload_n 1, 1) := by decide +kernel
theorem dX4_dividedUp_15 : decode cX4_dividedUp 15 = .ok (.idiv, 1) := by decide +kernel
theorem dX4_dividedUp_16 : decode cX4_dividedUp 16 = .ok (.ireturn, 1) := by decide +kernel
theorem dX4_lossBy_0 : decode cX4_lossBy 0 = .ok (.bipush 15, 2) := by decide +kernel
theorem dX4_lossBy_2 : decode cX4_lossBy 2 = .ok (.iconst 5, 1) := by decide +kernel
theorem dX4_lossBy_3 : decode cX4_lossBy 3 = .ok (.iload_n 1, 1) := by decide +kernel
theorem dX4_lossBy_4 : decode cX4_lossBy 4 = .ok (.imul, 1) := by decide +kernel
theorem dX4_lossBy_5 : decode cX4_lossBy 5 = .ok (.iadd, 1) := by decide +kernel
theorem dX4_lossBy_6 : decode cX4_lossBy 6 = .ok (.iconst 0, 1) := by decide +kernel
theorem dX4_lossBy_7 : decode cX4_lossBy 7 = .ok (.bipush 20, 2) := by decide +kernel
theorem dX4_lossBy_9 : decode cX4_lossBy 9 = .ok (.iconst 2, 1) := by decide +kernel
theorem dX4_lossBy_10 : decode cX4_lossBy 10 = .ok (.iload_n 2, 1) := by decide +kernel
theorem dX4_lossBy_11 : decode cX4_lossBy 11 = .ok (.imul, 1) := by decide +kernel
theorem dX4_lossBy_12 : decode cX4_lossBy 12 = .ok (.isub, 1) := by decide +kernel
theorem dX4_lossBy_13 : decode cX4_lossBy 13 = .ok (.invokestatic 152, 3) := by decide +kernel
theorem dX4_lossBy_16 : decode cX4_lossBy 16 = .ok (.iadd, 1) := by decide +kernel
theorem dX4_lossBy_17 : decode cX4_lossBy 17 = .ok (.istore_n 3, 1) := by decide +kernel
theorem dX4_lossBy_18 : decode cX4_lossBy 18 = .ok (.iload_n 0, 1) := by decide +kernel
theorem dX4_lossBy_19 : decode cX4_lossBy 19 = .ok (.ifCond .ne 5, 3) := by decide +kernel
theorem dX4_lossBy_22 : decode cX4_lossBy 22 = .ok (.iload_n 3, 1) := by decide +kernel
theorem dX4_lossBy_23 : decode cX4_lossBy 23 = .ok (.ireturn, 1) := by decide +kernel
theorem dX4_lossBy_24 : decode cX4_lossBy 24 = .ok (.iload_n 3, 1) := by decide +kernel
theorem dX4_lossBy_25 : decode cX4_lossBy 25 = .ok (.iconst 3, 1) := by decide +kernel
theorem dX4_lossBy_26 : decode cX4_lossBy 26 = .ok (.imul, 1) := by decide +kernel
theorem dX4_lossBy_27 : decode cX4_lossBy 27 = .ok (.iconst 4, 1) := by decide +kernel
theorem dX4_lossBy_28 : decode cX4_lossBy 28 = .ok (.idiv, 1) := by decide +kernel
theorem dX4_lossBy_29 : decode cX4_lossBy 29 = .ok (.istore 4, 2) := by decide +kernel
theorem dX4_lossBy_31 : decode cX4_lossBy 31 = .ok (.iload_n 0, 1) := by decide +kernel
theorem dX4_lossBy_32 : decode cX4_lossBy 32 = .ok (.iconst 1, 1) := by decide +kernel
theorem dX4_lossBy_33 : decode cX4_lossBy 33 = .ok (.if_icmp .ne 8, 3) := by decide +kernel
theorem dX4_lossBy_36 : decode cX4_lossBy 36 = .ok (.iload 4, 2) := by decide +kernel
theorem dX4_lossBy_38 : decode cX4_lossBy 38 = .ok (.goto 11, 3) := by decide +kernel
theorem dX4_lossBy_41 : decode cX4_lossBy 41 = .ok (.iconst 1, 1) := by decide +kernel
theorem dX4_lossBy_42 : decode cX4_lossBy 42 = .ok (.iload 4, 2) := by decide +kernel
theorem dX4_lossBy_44 : decode cX4_lossBy 44 = .ok (.iconst 4, 1) := by decide +kernel
theorem dX4_lossBy_45 : decode cX4_lossBy 45 = .ok (.isub, 1) := by decide +kernel
theorem dX4_lossBy_46 : decode cX4_lossBy 46 = .ok (.invokestatic 152, 3) := by decide +kernel
theorem dX4_lossBy_49 : decode cX4_lossBy 49 = .ok (.ireturn, 1) := by decide +kernel
theorem dX4_lostOf_0 : decode cX4_lostOf 0 = .ok (.iload_n 0, 1) := by decide +kernel
theorem dX4_lostOf_1 : decode cX4_lostOf 1 = .ok (.iload_n 1, 1) := by decide +kernel
theorem dX4_lostOf_2 : decode cX4_lostOf 2 = .ok (.imul, 1) := by decide +kernel
theorem dX4_lostOf_3 : decode cX4_lostOf 3 = .ok (.sipush 1000, 3) := by decide +kernel
theorem dX4_lostOf_6 : decode cX4_lostOf 6 = .ok (.invokestatic 158, 3) := by decide +kernel
theorem dX4_lostOf_9 : decode cX4_lostOf 9 = .ok (.ireturn, 1) := by decide +kernel
theorem dX4_passYear_0 : decode cX4_passYear 0 = .ok (.iconst 0, 1) := by decide +kernel
theorem dX4_passYear_1 : decode cX4_passYear 1 = .ok (.istore_n 1, 1) := by decide +kernel
theorem dX4_passYear_2 : decode cX4_passYear 2 = .ok (.iload_n 1, 1) := by decide +kernel
theorem dX4_passYear_3 : decode cX4_passYear 3 = .ok (.aload_n 0, 1) := by decide +kernel
theorem dX4_passYear_4 : decode cX4_passYear 4 = .ok (.getfield 40, 3) := by decide +kernel
theorem dX4_passYear_7 : decode cX4_passYear 7 = .ok (.if_icmp .ge 34, 3) := by decide +kernel
theorem dX4_passYear_10 : decode cX4_passYear 10 = .ok (.aload_n 0, 1) := by decide +kernel
theorem dX4_passYear_11 : decode cX4_passYear 11 = .ok (.getfield 11, 3) := by decide +kernel
theorem dX4_passYear_14 : decode cX4_passYear 14 = .ok (.iload_n 1, 1) := by decide +kernel
theorem dX4_passYear_15 : decode cX4_passYear 15 = .ok (.aaload, 1) := by decide +kernel
theorem dX4_passYear_16 : decode cX4_passYear 16 = .ok (.getfield 80, 3) := by decide +kernel
theorem dX4_passYear_19 : decode cX4_passYear 19 = .ok (.ifCond .le 16, 3) := by decide +kernel
theorem dX4_passYear_22 : decode cX4_passYear 22 = .ok (.aload_n 0, 1) := by decide +kernel
theorem dX4_passYear_23 : decode cX4_passYear 23 = .ok (.getfield 11, 3) := by decide +kernel
theorem dX4_passYear_26 : decode cX4_passYear 26 = .ok (.iload_n 1, 1) := by decide +kernel
theorem dX4_passYear_27 : decode cX4_passYear 27 = .ok (.aaload, 1) := by decide +kernel
theorem dX4_passYear_28 : decode cX4_passYear 28 = .ok (.aload_n 0, 1) := by decide +kernel
theorem dX4_passYear_29 : decode cX4_passYear 29 = .ok (.getfield 44, 3) := by decide +kernel
theorem dX4_passYear_32 : decode cX4_passYear 32 = .ok (.invokevirtual 206, 3) := by decide +kernel
theorem dX4_passYear_35 : decode cX4_passYear 35 = .ok (.iinc 1 1, 3) := by decide +kernel
theorem dX4_passYear_38 : decode cX4_passYear 38 = .ok (.goto (-36), 3) := by decide +kernel
theorem dX4_passYear_41 : decode cX4_passYear 41 = .ok (.aload_n 0, 1) := by decide +kernel
theorem dX4_passYear_42 : decode cX4_passYear 42 = .ok (.dup, 1) := by decide +kernel
theorem dX4_passYear_43 : decode cX4_passYear 43 = .ok (.getfield 44, 3) := by decide +kernel
theorem dX4_passYear_46 : decode cX4_passYear 46 = .ok (.iconst 1, 1) := by decide +kernel
theorem dX4_passYear_47 : decode cX4_passYear 47 = .ok (.iadd, 1) := by decide +kernel
theorem dX4_passYear_48 : decode cX4_passYear 48 = .ok (.putfield 44, 3) := by decide +kernel
theorem dX4_passYear_51 : decode cX4_passYear 51 = .ok (.return_, 1) := by decide +kernel
theorem dX4_notEmpty_0 : decode cX4_notEmpty 0 = .ok (.iconst 0, 1) := by decide +kernel
theorem dX4_notEmpty_1 : decode cX4_notEmpty 1 = .ok (.istore_n 1, 1) := by decide +kernel
theorem dX4_notEmpty_2 : decode cX4_notEmpty 2 = .ok (.iconst 0, 1) := by decide +kernel
theorem dX4_notEmpty_3 : decode cX4_notEmpty 3 = .ok (.istore_n 2, 1) := by decide +kernel
theorem dX4_notEmpty_4 : decode cX4_notEmpty 4 = .ok (.iload_n 2, 1) := by decide +kernel
theorem dX4_notEmpty_5 : decode cX4_notEmpty 5 = .ok (.aload_n 0, 1) := by decide +kernel
theorem dX4_notEmpty_6 : decode cX4_notEmpty 6 = .ok (.getfield 40, 3) := by decide +kernel
theorem dX4_notEmpty_9 : decode cX4_notEmpty 9 = .ok (.if_icmp .ge 24, 3) := by decide +kernel
theorem dX4_notEmpty_12 : decode cX4_notEmpty 12 = .ok (.aload_n 0, 1) := by decide +kernel
theorem dX4_notEmpty_13 : decode cX4_notEmpty 13 = .ok (.getfield 11, 3) := by decide +kernel
theorem dX4_notEmpty_16 : decode cX4_notEmpty 16 = .ok (.iload_n 2, 1) := by decide +kernel
theorem dX4_notEmpty_17 : decode cX4_notEmpty 17 = .ok (.aaload, 1) := by decide +kernel
theorem dX4_notEmpty_18 : decode cX4_notEmpty 18 = .ok (.getfield 80, 3) := by decide +kernel
theorem dX4_notEmpty_21 : decode cX4_notEmpty 21 = .ok (.ifCond .le 6, 3) := by decide +kernel
theorem dX4_notEmpty_24 : decode cX4_notEmpty 24 = .ok (.iinc 1 1, 3) := by decide +kernel
theorem dX4_notEmpty_27 : decode cX4_notEmpty 27 = .ok (.iinc 2 1, 3) := by decide +kernel
theorem dX4_notEmpty_30 : decode cX4_notEmpty 30 = .ok (.goto (-26), 3) := by decide +kernel
theorem dX4_notEmpty_33 : decode cX4_notEmpty 33 = .ok (.iload_n 1, 1) := by decide +kernel
theorem dX4_notEmpty_34 : decode cX4_notEmpty 34 = .ok (.ireturn, 1) := by decide +kernel
theorem dX4_allDrops_0 : decode cX4_allDrops 0 = .ok (.iconst 0, 1) := by decide +kernel
theorem dX4_allDrops_1 : decode cX4_allDrops 1 = .ok (.istore_n 1, 1) := by decide +kernel
theorem dX4_allDrops_2 : decode cX4_allDrops 2 = .ok (.iconst 0, 1) := by decide +kernel
theorem dX4_allDrops_3 : decode cX4_allDrops 3 = .ok (.istore_n 2, 1) := by decide +kernel
theorem dX4_allDrops_4 : decode cX4_allDrops 4 = .ok (.iload_n 2, 1) := by decide +kernel
theorem dX4_allDrops_5 : decode cX4_allDrops 5 = .ok (.aload_n 0, 1) := by decide +kernel
theorem dX4_allDrops_6 : decode cX4_allDrops 6 = .ok (.getfield 40, 3) := by decide +kernel
theorem dX4_allDrops_9 : decode cX4_allDrops 9 = .ok (.if_icmp .ge 21, 3) := by decide +kernel
theorem dX4_allDrops_12 : decode cX4_allDrops 12 = .ok (.iload_n 1, 1) := by decide +kernel
theorem dX4_allDrops_13 : decode cX4_allDrops 13 = .ok (.aload_n 0, 1) := by decide +kernel
theorem dX4_allDrops_14 : decode cX4_allDrops 14 = .ok (.getfield 11, 3) := by decide +kernel
theorem dX4_allDrops_17 : decode cX4_allDrops 17 = .ok (.iload_n 2, 1) := by decide +kernel
theorem dX4_allDrops_18 : decode cX4_allDrops 18 = .ok (.aaload, 1) := by decide +kernel
theorem dX4_allDrops_19 : decode cX4_allDrops 19 = .ok (.getfield 80, 3) := by decide +kernel
theorem dX4_allDrops_22 : decode cX4_allDrops 22 = .ok (.iadd, 1) := by decide +kernel
theorem dX4_allDrops_23 : decode cX4_allDrops 23 = .ok (.istore_n 1, 1) := by decide +kernel
theorem dX4_allDrops_24 : decode cX4_allDrops 24 = .ok (.iinc 2 1, 3) := by decide +kernel
theorem dX4_allDrops_27 : decode cX4_allDrops 27 = .ok (.goto (-23), 3) := by decide +kernel
theorem dX4_allDrops_30 : decode cX4_allDrops 30 = .ok (.iload_n 1, 1) := by decide +kernel
theorem dX4_allDrops_31 : decode cX4_allDrops 31 = .ok (.ireturn, 1) := by decide +kernel
theorem dX4_gather_0 : decode cX4_gather 0 = .ok (.aload_n 0, 1) := by decide +kernel
theorem dX4_gather_1 : decode cX4_gather 1 = .ok (.getfield 29, 3) := by decide +kernel
theorem dX4_gather_4 : decode cX4_gather 4 = .ok (.invokevirtual 208, 3) := by decide +kernel
theorem dX4_gather_7 : decode cX4_gather 7 = .ok (.iconst 0, 1) := by decide +kernel
theorem dX4_gather_8 : decode cX4_gather 8 = .ok (.istore_n 2, 1) := by decide +kernel
theorem dX4_gather_9 : decode cX4_gather 9 = .ok (.iload_n 2, 1) := by decide +kernel
theorem dX4_gather_10 : decode cX4_gather 10 = .ok (.aload_n 0, 1) := by decide +kernel
theorem dX4_gather_11 : decode cX4_gather 11 = .ok (.getfield 40, 3) := by decide +kernel
theorem dX4_gather_14 : decode cX4_gather 14 = .ok (.if_icmp .ge 49, 3) := by decide +kernel
theorem dX4_gather_17 : decode cX4_gather 17 = .ok (.iload_n 1, 1) := by decide +kernel
theorem dX4_gather_18 : decode cX4_gather 18 = .ok (.iload_n 2, 1) := by decide +kernel
theorem dX4_gather_19 : decode cX4_gather 19 = .ok (.invokestatic 161, 3) := by decide +kernel
theorem dX4_gather_22 : decode cX4_gather 22 = .ok (.ifCond .eq 35, 3) := by decide +kernel
theorem dX4_gather_25 : decode cX4_gather 25 = .ok (.aload_n 0, 1) := by decide +kernel
theorem dX4_gather_26 : decode cX4_gather 26 = .ok (.getfield 11, 3) := by decide +kernel
theorem dX4_gather_29 : decode cX4_gather 29 = .ok (.iload_n 2, 1) := by decide +kernel
theorem dX4_gather_30 : decode cX4_gather 30 = .ok (.aaload, 1) := by decide +kernel
theorem dX4_gather_31 : decode cX4_gather 31 = .ok (.getfield 80, 3) := by decide +kernel
theorem dX4_gather_34 : decode cX4_gather 34 = .ok (.iconst 1, 1) := by decide +kernel
theorem dX4_gather_35 : decode cX4_gather 35 = .ok (.if_icmp .ge 5, 3) := by decide +kernel
theorem dX4_gather_38 : decode cX4_gather 38 = .ok (.iconst 0, 1) := by decide +kernel
theorem dX4_gather_39 : decode cX4_gather 39 = .ok (.ireturn, 1) := by decide +kernel
theorem dX4_gather_40 : decode cX4_gather 40 = .ok (.aload_n 0, 1) := by decide +kernel
theorem dX4_gather_41 : decode cX4_gather 41 = .ok (.getfield 29, 3) := by decide +kernel
theorem dX4_gather_44 : decode cX4_gather 44 = .ok (.aload_n 0, 1) := by decide +kernel
theorem dX4_gather_45 : decode cX4_gather 45 = .ok (.getfield 11, 3) := by decide +kernel
theorem dX4_gather_48 : decode cX4_gather 48 = .ok (.iload_n 2, 1) := by decide +kernel
theorem dX4_gather_49 : decode cX4_gather 49 = .ok (.aaload, 1) := by decide +kernel
theorem dX4_gather_50 : decode cX4_gather 50 = .ok (.aload_n 0, 1) := by decide +kernel
theorem dX4_gather_51 : decode cX4_gather 51 = .ok (.getfield 44, 3) := by decide +kernel
theorem dX4_gather_54 : decode cX4_gather 54 = .ok (.invokevirtual 211, 3) := by decide +kernel
theorem dX4_gather_57 : decode cX4_gather 57 = .ok (.iinc 2 1, 3) := by decide +kernel
theorem dX4_gather_60 : decode cX4_gather 60 = .ok (.goto (-51), 3) := by decide +kernel
theorem dX4_gather_63 : decode cX4_gather 63 = .ok (.aload_n 0, 1) := by decide +kernel
theorem dX4_gather_64 : decode cX4_gather 64 = .ok (.getfield 29, 3) := by decide +kernel
theorem dX4_gather_67 : decode cX4_gather 67 = .ok (.getfield 117, 3) := by decide +kernel
theorem dX4_gather_70 : decode cX4_gather 70 = .ok (.ifCond .le 7, 3) := by decide +kernel
theorem dX4_gather_73 : decode cX4_gather 73 = .ok (.iconst 1, 1) := by decide +kernel
theorem dX4_gather_74 : decode cX4_gather 74 = .ok (.goto 4, 3) := by decide +kernel
theorem dX4_gather_77 : decode cX4_gather 77 = .ok (.iconst 0, 1) := by decide +kernel
theorem dX4_gather_78 : decode cX4_gather 78 = .ok (.ireturn, 1) := by decide +kernel
theorem dX4_bestSet_0 : decode cX4_bestSet 0 = .ok (.bipush (-9), 2) := by decide +kernel
theorem dX4_bestSet_2 : decode cX4_bestSet 2 = .ok (.istore_n 1, 1) := by decide +kernel
theorem dX4_bestSet_3 : decode cX4_bestSet 3 = .ok (.iconst 0, 1) := by decide +kernel
theorem dX4_bestSet_4 : decode cX4_bestSet 4 = .ok (.istore_n 2, 1) := by decide +kernel
theorem dX4_bestSet_5 : decode cX4_bestSet 5 = .ok (.iconst 1, 1) := by decide +kernel
theorem dX4_bestSet_6 : decode cX4_bestSet 6 = .ok (.aload_n 0, 1) := by decide +kernel
theorem dX4_bestSet_7 : decode cX4_bestSet 7 = .ok (.getfield 40, 3) := by decide +kernel
theorem dX4_bestSet_10 : decode cX4_bestSet 10 = .ok (.ishl, 1) := by decide +kernel
theorem dX4_bestSet_11 : decode cX4_bestSet 11 = .ok (.istore_n 3, 1) := by decide +kernel
theorem dX4_bestSet_12 : decode cX4_bestSet 12 = .ok (.iconst 1, 1) := by decide +kernel
theorem dX4_bestSet_13 : decode cX4_bestSet 13 = .ok (.istore 4, 2) := by decide +kernel
theorem dX4_bestSet_15 : decode cX4_bestSet 15 = .ok (.iconst 1, 1) := by decide +kernel
theorem dX4_bestSet_16 : decode cX4_bestSet 16 = .ok (.istore 5, 2) := by decide +kernel
theorem dX4_bestSet_18 : decode cX4_bestSet 18 = .ok (.iload 5, 2) := by decide +kernel
theorem dX4_bestSet_20 : decode cX4_bestSet 20 = .ok (.iload_n 3, 1) := by decide +kernel
theorem dX4_bestSet_21 : decode cX4_bestSet 21 = .ok (.if_icmp .ge 111, 3) := by decide +kernel
theorem dX4_bestSet_24 : decode cX4_bestSet 24 = .ok (.iload 5, 2) := by decide +kernel
theorem dX4_bestSet_26 : decode cX4_bestSet 26 = .ok (.iload 5, 2) := by decide +kernel
theorem dX4_bestSet_28 : decode cX4_bestSet 28 = .ok (.ineg, 1) := by decide +kernel
theorem dX4_bestSet_29 : decode cX4_bestSet 29 = .ok (.iand, 1) := by decide +kernel
theorem dX4_bestSet_30 : decode cX4_bestSet 30 = .ok (.istore 4, 2) := by decide +kernel
theorem dX4_bestSet_32 : decode cX4_bestSet 32 = .ok (.aload_n 0, 1) := by decide +kernel
theorem dX4_bestSet_33 : decode cX4_bestSet 33 = .ok (.iload 5, 2) := by decide +kernel
theorem dX4_bestSet_35 : decode cX4_bestSet 35 = .ok (.invokevirtual 114, 3) := by decide +kernel
theorem dX4_bestSet_38 : decode cX4_bestSet 38 = .ok (.istore 6, 2) := by decide +kernel
theorem dX4_bestSet_40 : decode cX4_bestSet 40 = .ok (.iload_n 1, 1) := by decide +kernel
theorem dX4_bestSet_41 : decode cX4_bestSet 41 = .ok (.bipush (-9), 2) := by decide +kernel
theorem dX4_bestSet_43 : decode cX4_bestSet 43 = .ok (.if_icmp .eq 18, 3) := by decide +kernel
theorem dX4_bestSet_46 : decode cX4_bestSet 46 = .ok (.aload_n 0, 1) := by decide +kernel
theorem dX4_bestSet_47 : decode cX4_bestSet 47 = .ok (.getfield 29, 3) := by decide +kernel
theorem dX4_bestSet_50 : decode cX4_bestSet 50 = .ok (.getfield 135, 3) := by decide +kernel
theorem dX4_bestSet_53 : decode cX4_bestSet 53 = .ok (.iload_n 2, 1) := by decide +kernel
theorem dX4_bestSet_54 : decode cX4_bestSet 54 = .ok (.if_icmp .lt 7, 3) := by decide +kernel
theorem dX4_bestSet_57 : decode cX4_bestSet 57 = .ok (.iconst 1, 1) := by decide +kernel
theorem dX4_bestSet_58 : decode cX4_bestSet 58 = .ok (.goto 4, 3) := by decide +kernel
theorem dX4_bestSet_61 : decode cX4_bestSet 61 = .ok (.iconst 0, 1) := by decide +kernel
theorem dX4_bestSet_62 : decode cX4_bestSet 62 = .ok (.istore 7, 2) := by decide +kernel
theorem dX4_bestSet_64 : decode cX4_bestSet 64 = .ok (.iload 6, 2) := by decide +kernel
end
section
theorem dX4_bestSet_66 : decode cX4_bestSet 66 = .ok (.ifCond .eq 56, 3) := by decide +kernel
theorem dX4_bestSet_69 : decode cX4_bestSet 69 = .ok (.iload 7, 2) := by decide +kernel
theorem dX4_bestSet_71 : decode cX4_bestSet 71 = .ok (.ifCond .ne 51, 3) := by decide +kernel
theorem dX4_bestSet_74 : decode cX4_bestSet 74 = .ok (.aload_n 0, 1) := by decide +kernel
theorem dX4_bestSet_75 : decode cX4_bestSet 75 = .ok (.getfield 22, 3) := by decide +kernel
theorem dX4_bestSet_78 : decode cX4_bestSet 78 = .ok (.aload_n 0, 1) := by decide +kernel
theorem dX4_bestSet_79 : decode cX4_bestSet 79 = .ok (.getfield 29, 3) := by decide +kernel
theorem dX4_bestSet_82 : decode cX4_bestSet 82 = .ok (.invokevirtual 215, 3) := by decide +kernel
theorem dX4_bestSet_85 : decode cX4_bestSet 85 = .ok (.ifCond .ne 6, 3) := by decide +kernel
theorem dX4_bestSet_88 : decode cX4_bestSet 88 = .ok (.goto 34, 3) := by decide +kernel
theorem dX4_bestSet_91 : decode cX4_bestSet 91 = .ok (.aload_n 0, 1) := by decide +kernel
theorem dX4_bestSet_92 : decode cX4_bestSet 92 = .ok (.getfield 22, 3) := by decide +kernel
theorem dX4_bestSet_95 : decode cX4_bestSet 95 = .ok (.aload_n 0, 1) := by decide +kernel
theorem dX4_bestSet_96 : decode cX4_bestSet 96 = .ok (.getfield 29, 3) := by decide +kernel
theorem dX4_bestSet_99 : decode cX4_bestSet 99 = .ok (.invokevirtual 137, 3) := by decide +kernel
theorem dX4_bestSet_102 : decode cX4_bestSet 102 = .ok (.ifCond .eq 17, 3) := by decide +kernel
theorem dX4_bestSet_105 : decode cX4_bestSet 105 = .ok (.iload 5, 2) := by decide +kernel
theorem dX4_bestSet_107 : decode cX4_bestSet 107 = .ok (.istore_n 1, 1) := by decide +kernel
theorem dX4_bestSet_108 : decode cX4_bestSet 108 = .ok (.aload_n 0, 1) := by decide +kernel
theorem dX4_bestSet_109 : decode cX4_bestSet 109 = .ok (.getfield 29, 3) := by decide +kernel
theorem dX4_bestSet_112 : decode cX4_bestSet 112 = .ok (.getfield 135, 3) := by decide +kernel
theorem dX4_bestSet_115 : decode cX4_bestSet 115 = .ok (.istore_n 2, 1) := by decide +kernel
theorem dX4_bestSet_116 : decode cX4_bestSet 116 = .ok (.goto 6, 3) := by decide +kernel
theorem dX4_bestSet_119 : decode cX4_bestSet 119 = .ok (.iconst 1, 1) := by decide +kernel
theorem dX4_bestSet_120 : decode cX4_bestSet 120 = .ok (.istore 4, 2) := by decide +kernel
theorem dX4_bestSet_122 : decode cX4_bestSet 122 = .ok (.iload 5, 2) := by decide +kernel
theorem dX4_bestSet_124 : decode cX4_bestSet 124 = .ok (.iload 4, 2) := by decide +kernel
theorem dX4_bestSet_126 : decode cX4_bestSet 126 = .ok (.iadd, 1) := by decide +kernel
theorem dX4_bestSet_127 : decode cX4_bestSet 127 = .ok (.istore 5, 2) := by decide +kernel
theorem dX4_bestSet_129 : decode cX4_bestSet 129 = .ok (.goto (-111), 3) := by decide +kernel
theorem dX4_bestSet_132 : decode cX4_bestSet 132 = .ok (.iload_n 1, 1) := by decide +kernel
theorem dX4_bestSet_133 : decode cX4_bestSet 133 = .ok (.ireturn, 1) := by decide +kernel
theorem dX4_takeAhead_0 : decode cX4_takeAhead 0 = .ok (.iload_n 1, 1) := by decide +kernel
theorem dX4_takeAhead_1 : decode cX4_takeAhead 1 = .ok (.istore 4, 2) := by decide +kernel
theorem dX4_takeAhead_3 : decode cX4_takeAhead 3 = .ok (.iconst 0, 1) := by decide +kernel
theorem dX4_takeAhead_4 : decode cX4_takeAhead 4 = .ok (.istore 5, 2) := by decide +kernel
theorem dX4_takeAhead_6 : decode cX4_takeAhead 6 = .ok (.iload 5, 2) := by decide +kernel
theorem dX4_takeAhead_8 : decode cX4_takeAhead 8 = .ok (.aload_n 0, 1) := by decide +kernel
theorem dX4_takeAhead_9 : decode cX4_takeAhead 9 = .ok (.getfield 40, 3) := by decide +kernel
theorem dX4_takeAhead_12 : decode cX4_takeAhead 12 = .ok (.if_icmp .ge 57, 3) := by decide +kernel
theorem dX4_takeAhead_15 : decode cX4_takeAhead 15 = .ok (.aload_n 0, 1) := by decide +kernel
theorem dX4_takeAhead_16 : decode cX4_takeAhead 16 = .ok (.getfield 11, 3) := by decide +kernel
theorem dX4_takeAhead_19 : decode cX4_takeAhead 19 = .ok (.iload 5, 2) := by decide +kernel
theorem dX4_takeAhead_21 : decode cX4_takeAhead 21 = .ok (.aaload, 1) := by decide +kernel
theorem dX4_takeAhead_22 : decode cX4_takeAhead 22 = .ok (.iload_n 3, 1) := by decide +kernel
theorem dX4_takeAhead_23 : decode cX4_takeAhead 23 = .ok (.invokevirtual 86, 3) := by decide +kernel
theorem dX4_takeAhead_26 : decode cX4_takeAhead 26 = .ok (.iload_n 2, 1) := by decide +kernel
theorem dX4_takeAhead_27 : decode cX4_takeAhead 27 = .ok (.if_icmp .lt 36, 3) := by decide +kernel
theorem dX4_takeAhead_30 : decode cX4_takeAhead 30 = .ok (.iload 4, 2) := by decide +kernel
theorem dX4_takeAhead_32 : decode cX4_takeAhead 32 = .ok (.aload_n 0, 1) := by decide +kernel
theorem dX4_takeAhead_33 : decode cX4_takeAhead 33 = .ok (.getfield 15, 3) := by decide +kernel
theorem dX4_takeAhead_36 : decode cX4_takeAhead 36 = .ok (.iload 5, 2) := by decide +kernel
theorem dX4_takeAhead_38 : decode cX4_takeAhead 38 = .ok (.iaload, 1) := by decide +kernel
theorem dX4_takeAhead_39 : decode cX4_takeAhead 39 = .ok (.invokestatic 218, 3) := by decide +kernel
theorem dX4_takeAhead_42 : decode cX4_takeAhead 42 = .ok (.istore 6, 2) := by decide +kernel
theorem dX4_takeAhead_44 : decode cX4_takeAhead 44 = .ok (.aload_n 0, 1) := by decide +kernel
theorem dX4_takeAhead_45 : decode cX4_takeAhead 45 = .ok (.getfield 15, 3) := by decide +kernel
theorem dX4_takeAhead_48 : decode cX4_takeAhead 48 = .ok (.iload 5, 2) := by decide +kernel
theorem dX4_takeAhead_50 : decode cX4_takeAhead 50 = .ok (.dup2, 1) := by decide +kernel
theorem dX4_takeAhead_51 : decode cX4_takeAhead 51 = .ok (.iaload, 1) := by decide +kernel
theorem dX4_takeAhead_52 : decode cX4_takeAhead 52 = .ok (.iload 6, 2) := by decide +kernel
theorem dX4_takeAhead_54 : decode cX4_takeAhead 54 = .ok (.isub, 1) := by decide +kernel
theorem dX4_takeAhead_55 : decode cX4_takeAhead 55 = .ok (.iastore, 1) := by decide +kernel
theorem dX4_takeAhead_56 : decode cX4_takeAhead 56 = .ok (.iload 4, 2) := by decide +kernel
theorem dX4_takeAhead_58 : decode cX4_takeAhead 58 = .ok (.iload 6, 2) := by decide +kernel
theorem dX4_takeAhead_60 : decode cX4_takeAhead 60 = .ok (.isub, 1) := by decide +kernel
theorem dX4_takeAhead_61 : decode cX4_takeAhead 61 = .ok (.istore 4, 2) := by decide +kernel
theorem dX4_takeAhead_63 : decode cX4_takeAhead 63 = .ok (.iinc 5 1, 3) := by decide +kernel
theorem dX4_takeAhead_66 : decode cX4_takeAhead 66 = .ok (.goto (-60), 3) := by decide +kernel
theorem dX4_takeAhead_69 : decode cX4_takeAhead 69 = .ok (.iload 4, 2) := by decide +kernel
theorem dX4_takeAhead_71 : decode cX4_takeAhead 71 = .ok (.ifCond .ne 7, 3) := by decide +kernel
theorem dX4_takeAhead_74 : decode cX4_takeAhead 74 = .ok (.iconst 1, 1) := by decide +kernel
theorem dX4_takeAhead_75 : decode cX4_takeAhead 75 = .ok (.goto 4, 3) := by decide +kernel
theorem dX4_takeAhead_78 : decode cX4_takeAhead 78 = .ok (.iconst 0, 1) := by decide +kernel
theorem dX4_takeAhead_79 : decode cX4_takeAhead 79 = .ok (.ireturn, 1) := by decide +kernel
theorem dX4_passYearAhead_0 : decode cX4_passYearAhead 0 = .ok (.iconst 0, 1) := by decide +kernel
theorem dX4_passYearAhead_1 : decode cX4_passYearAhead 1 = .ok (.istore_n 2, 1) := by decide +kernel
theorem dX4_passYearAhead_2 : decode cX4_passYearAhead 2 = .ok (.iload_n 2, 1) := by decide +kernel
theorem dX4_passYearAhead_3 : decode cX4_passYearAhead 3 = .ok (.aload_n 0, 1) := by decide +kernel
theorem dX4_passYearAhead_4 : decode cX4_passYearAhead 4 = .ok (.getfield 40, 3) := by decide +kernel
theorem dX4_passYearAhead_7 : decode cX4_passYearAhead 7 = .ok (.if_icmp .ge 37, 3) := by decide +kernel
theorem dX4_passYearAhead_10 : decode cX4_passYearAhead 10 = .ok (.aload_n 0, 1) := by decide +kernel
theorem dX4_passYearAhead_11 : decode cX4_passYearAhead 11 = .ok (.getfield 15, 3) := by decide +kernel
theorem dX4_passYearAhead_14 : decode cX4_passYearAhead 14 = .ok (.iload_n 2, 1) := by decide +kernel
theorem dX4_passYearAhead_15 : decode cX4_passYearAhead 15 = .ok (.dup2, 1) := by decide +kernel
theorem dX4_passYearAhead_16 : decode cX4_passYearAhead 16 = .ok (.iaload, 1) := by decide +kernel
theorem dX4_passYearAhead_17 : decode cX4_passYearAhead 17 = .ok (.aload_n 0, 1) := by decide +kernel
theorem dX4_passYearAhead_18 : decode cX4_passYearAhead 18 = .ok (.getfield 15, 3) := by decide +kernel
theorem dX4_passYearAhead_21 : decode cX4_passYearAhead 21 = .ok (.iload_n 2, 1) := by decide +kernel
theorem dX4_passYearAhead_22 : decode cX4_passYearAhead 22 = .ok (.iaload, 1) := by decide +kernel
theorem dX4_passYearAhead_23 : decode cX4_passYearAhead 23 = .ok (.aload_n 0, 1) := by decide +kernel
theorem dX4_passYearAhead_24 : decode cX4_passYearAhead 24 = .ok (.getfield 11, 3) := by decide +kernel
theorem dX4_passYearAhead_27 : decode cX4_passYearAhead 27 = .ok (.iload_n 2, 1) := by decide +kernel
theorem dX4_passYearAhead_28 : decode cX4_passYearAhead 28 = .ok (.aaload, 1) := by decide +kernel
theorem dX4_passYearAhead_29 : decode cX4_passYearAhead 29 = .ok (.iload_n 1, 1) := by decide +kernel
theorem dX4_passYearAhead_30 : decode cX4_passYearAhead 30 = .ok (.invokevirtual 221, 3) := by decide +kernel
theorem dX4_passYearAhead_33 : decode cX4_passYearAhead 33 = .ok (.invokestatic 224, 3) := by decide +kernel
theorem dX4_passYearAhead_36 : decode cX4_passYearAhead 36 = .ok (.isub, 1) := by decide +kernel
theorem dX4_passYearAhead_37 : decode cX4_passYearAhead 37 = .ok (.iastore, 1) := by decide +kernel
theorem dX4_passYearAhead_38 : decode cX4_passYearAhead 38 = .ok (.iinc 2 1, 3) := by decide +kernel
theorem dX4_passYearAhead_41 : decode cX4_passYearAhead 41 = .ok (.goto (-39), 3) := by decide +kernel
theorem dX4_passYearAhead_44 : decode cX4_passYearAhead 44 = .ok (.return_, 1) := by decide +kernel
theorem dX4_ways_0 : decode cX4_ways 0 = .ok (.lconst 1, 1) := by decide +kernel
theorem dX4_ways_1 : decode cX4_ways 1 = .ok (.lstore_n 2, 1) := by decide +kernel
theorem dX4_ways_2 : decode cX4_ways 2 = .ok (.lconst 1, 1) := by decide +kernel
theorem dX4_ways_3 : decode cX4_ways 3 = .ok (.lstore 4, 2) := by decide +kernel
theorem dX4_ways_5 : decode cX4_ways 5 = .ok (.iload_n 0, 1) := by decide +kernel
theorem dX4_ways_6 : decode cX4_ways 6 = .ok (.istore 6, 2) := by decide +kernel
theorem dX4_ways_8 : decode cX4_ways 8 = .ok (.iload 6, 2) := by decide +kernel
theorem dX4_ways_10 : decode cX4_ways 10 = .ok (.iload_n 1, 1) := by decide +kernel
theorem dX4_ways_11 : decode cX4_ways 11 = .ok (.if_icmp .le 42, 3) := by decide +kernel
theorem dX4_ways_14 : decode cX4_ways 14 = .ok (.iload_n 0, 1) := by decide +kernel
theorem dX4_ways_15 : decode cX4_ways 15 = .ok (.iload 6, 2) := by decide +kernel
theorem dX4_ways_17 : decode cX4_ways 17 = .ok (.isub, 1) := by decide +kernel
theorem dX4_ways_18 : decode cX4_ways 18 = .ok (.iconst 1, 1) := by decide +kernel
theorem dX4_ways_19 : decode cX4_ways 19 = .ok (.iadd, 1) := by decide +kernel
theorem dX4_ways_20 : decode cX4_ways 20 = .ok (.istore 7, 2) := by decide +kernel
theorem dX4_ways_22 : decode cX4_ways 22 = .ok (.iload 7, 2) := by decide +kernel
theorem dX4_ways_24 : decode cX4_ways 24 = .ok (.ifCond .le 17, 3) := by decide +kernel
theorem dX4_ways_27 : decode cX4_ways 27 = .ok (.lload_n 2, 1) := by decide +kernel
theorem dX4_ways_28 : decode cX4_ways 28 = .ok (.ldc2_w 227, 3) := by decide +kernel
theorem dX4_ways_31 : decode cX4_ways 31 = .ok (.lmul, 1) := by decide +kernel
theorem dX4_ways_32 : decode cX4_ways 32 = .ok (.iload 6, 2) := by decide +kernel
theorem dX4_ways_34 : decode cX4_ways 34 = .ok (.i2l, 1) := by decide +kernel
theorem dX4_ways_35 : decode cX4_ways 35 = .ok (.lmul, 1) := by decide +kernel
theorem dX4_ways_36 : decode cX4_ways 36 = .ok (.iload 7, 2) := by decide +kernel
theorem dX4_ways_38 : decode cX4_ways 38 = .ok (.i2l, 1) := by decide +kernel
theorem dX4_ways_39 : decode cX4_ways 39 = .ok (.ldiv, 1) := by decide +kernel
theorem dX4_ways_40 : decode cX4_ways 40 = .ok (.lstore_n 2, 1) := by decide +kernel
theorem dX4_ways_41 : decode cX4_ways 41 = .ok (.lload 4, 2) := by decide +kernel
theorem dX4_ways_43 : decode cX4_ways 43 = .ok (.lload_n 2, 1) := by decide +kernel
theorem dX4_ways_44 : decode cX4_ways 44 = .ok (.ladd, 1) := by decide +kernel
theorem dX4_ways_45 : decode cX4_ways 45 = .ok (.lstore 4, 2) := by decide +kernel
theorem dX4_ways_47 : decode cX4_ways 47 = .ok (.iinc 6 (-1), 3) := by decide +kernel
theorem dX4_ways_50 : decode cX4_ways 50 = .ok (.goto (-42), 3) := by decide +kernel
theorem dX4_ways_53 : decode cX4_ways 53 = .ok (.lload 4, 2) := by decide +kernel
theorem dX4_ways_55 : decode cX4_ways 55 = .ok (.lreturn, 1) := by decide +kernel
theorem dX5_init_0 : decode cX5_init 0 = .ok (.aload_n 0, 1) := by decide +kernel
theorem dX5_init_1 : decode cX5_init 1 = .ok (.invokespecial 1, 3) := by decide +kernel
theorem dX5_init_4 : decode cX5_init 4 = .ok (.aload_n 0, 1) := by decide +kernel
theorem dX5_init_5 : decode cX5_init 5 = .ok (.bipush 12, 2) := by decide +kernel
theorem dX5_init_7 : decode cX5_init 7 = .ok (.newarray .int, 2) := by decide +kernel
theorem dX5_init_9 : decode cX5_init 9 = .ok (.putfield 7, 3) := by decide +kernel
theorem dX5_init_12 : decode cX5_init 12 = .ok (.aload_n 0, 1) := by decide +kernel
theorem dX5_init_13 : decode cX5_init 13 = .ok (.bipush 12, 2) := by decide +kernel
theorem dX5_init_15 : decode cX5_init 15 = .ok (.newarray .int, 2) := by decide +kernel
theorem dX5_init_17 : decode cX5_init 17 = .ok (.putfield 13, 3) := by decide +kernel
theorem dX5_init_20 : decode cX5_init 20 = .ok (.aload_n 0, 1) := by decide +kernel
theorem dX5_init_21 : decode cX5_init 21 = .ok (.bipush 12, 2) := by decide +kernel
theorem dX5_init_23 : decode cX5_init 23 = .ok (.newarray .int, 2) := by decide +kernel
theorem dX5_init_25 : decode cX5_init 25 = .ok (.putfield 16, 3) := by decide +kernel
theorem dX5_init_28 : decode cX5_init 28 = .ok (.aload_n 0, 1) := by decide +kernel
theorem dX5_init_29 : decode cX5_init 29 = .ok (.bipush 12, 2) := by decide +kernel
theorem dX5_init_31 : decode cX5_init 31 = .ok (.newarray .int, 2) := by decide +kernel
theorem dX5_init_33 : decode cX5_init 33 = .ok (.putfield 19, 3) := by decide +kernel
theorem dX5_init_36 : decode cX5_init 36 = .ok (.aload_n 0, 1) := by decide +kernel
theorem dX5_init_37 : decode cX5_init 37 = .ok (.bipush 12, 2) := by decide +kernel
theorem dX5_init_39 : decode cX5_init 39 = .ok (.newarray .int, 2) := by decide +kernel
theorem dX5_init_41 : decode cX5_init 41 = .ok (.putfield 22, 3) := by decide +kernel
theorem dX5_init_44 : decode cX5_init 44 = .ok (.aload_n 0, 1) := by decide +kernel
theorem dX5_init_45 : decode cX5_init 45 = .ok (.bipush 12, 2) := by decide +kernel
theorem dX5_init_47 : decode cX5_init 47 = .ok (.newarray .int, 2) := by decide +kernel
theorem dX5_init_49 : decode cX5_init 49 = .ok (.putfield 25, 3) := by decide +kernel
theorem dX5_init_52 : decode cX5_init 52 = .ok (.aload_n 0, 1) := by decide +kernel
theorem dX5_init_53 : decode cX5_init 53 = .ok (.bipush 12, 2) := by decide +kernel
theorem dX5_init_55 : decode cX5_init 55 = .ok (.newarray .int, 2) := by decide +kernel
theorem dX5_init_57 : decode cX5_init 57 = .ok (.putfield 28, 3) := by decide +kernel
theorem dX5_init_60 : decode cX5_init 60 = .ok (.aload_n 0, 1) := by decide +kernel
theorem dX5_init_61 : decode cX5_init 61 = .ok (.bipush 12, 2) := by decide +kernel
theorem dX5_init_63 : decode cX5_init 63 = .ok (.newarray .int, 2) := by decide +kernel
theorem dX5_init_65 : decode cX5_init 65 = .ok (.putfield 31, 3) := by decide +kernel
theorem dX5_init_68 : decode cX5_init 68 = .ok (.aload_n 0, 1) := by decide +kernel
theorem dX5_init_69 : decode cX5_init 69 = .ok (.bipush 8, 2) := by decide +kernel
theorem dX5_init_71 : decode cX5_init 71 = .ok (.newarray .int, 2) := by decide +kernel
theorem dX5_init_73 : decode cX5_init 73 = .ok (.dup, 1) := by decide +kernel
theorem dX5_init_74 : decode cX5_init 74 = .ok (.iconst 0, 1) := by decide +kernel
theorem dX5_init_75 : decode cX5_init 75 = .ok (.iconst 0, 1) := by decide +kernel
theorem dX5_init_76 : decode cX5_init 76 = .ok (.iastore, 1) := by decide +kernel
theorem dX5_init_77 : decode cX5_init 77 = .ok (.dup, 1) := by decide +kernel
theorem dX5_init_78 : decode cX5_init 78 = .ok (.iconst 1, 1) := by decide +kernel
theorem dX5_init_79 : decode cX5_init 79 = .ok (.iconst 0, 1) := by decide +kernel
theorem dX5_init_80 : decode cX5_init 80 = .ok (.iastore, 1) := by decide +kernel
theorem dX5_init_81 : decode cX5_init 81 = .ok (.dup, 1) := by decide +kernel
theorem dX5_init_82 : decode cX5_init 82 = .ok (.iconst 2, 1) := by decide +kernel
theorem dX5_init_83 : decode cX5_init 83 = .ok (.iconst 0, 1) := by decide +kernel
theorem dX5_init_84 : decode cX5_init 84 = .ok (.iastore, 1) := by decide +kernel
theorem dX5_init_85 : decode cX5_init 85 = .ok (.dup, 1) := by decide +kernel
theorem dX5_init_86 : decode cX5_init 86 = .ok (.iconst 3, 1) := by decide +kernel
theorem dX5_init_87 : decode cX5_init 87 = .ok (.sipush 9999, 3) := by decide +kernel
theorem dX5_init_90 : decode cX5_init 90 = .ok (.iastore, 1) := by decide +kernel
theorem dX5_init_91 : decode cX5_init 91 = .ok (.dup, 1) := by decide +kernel
theorem dX5_init_92 : decode cX5_init 92 = .ok (.iconst 4, 1) := by decide +kernel
theorem dX5_init_93 : decode cX5_init 93 = .ok (.iconst 0, 1) := by decide +kernel
theorem dX5_init_94 : decode cX5_init 94 = .ok (.iastore, 1) := by decide +kernel
theorem dX5_init_95 : decode cX5_init 95 = .ok (.dup, 1) := by decide +kernel
theorem dX5_init_96 : decode cX5_init 96 = .ok (.iconst 5, 1) := by decide +kernel
theorem dX5_init_97 : decode cX5_init 97 = .ok (.sipush 9999, 3) := by decide +kernel
theorem dX5_init_100 : decode cX5_init 100 = .ok (.iastore, 1) := by decide +kernel
theorem dX5_init_101 : decode cX5_init 101 = .ok (.dup, 1) := by decide +kernel
theorem dX5_init_102 : decode cX5_init 102 = .ok (.bipush 6, 2) := by decide +kernel
theorem dX5_init_104 : decode cX5_init 104 = .ok (.iconst 0, 1) := by decide +kernel
theorem dX5_init_105 : decode cX5_init 105 = .ok (.iastore, 1) := by decide +kernel
theorem dX5_init_106 : decode cX5_init 106 = .ok (.dup, 1) := by decide +kernel
theorem dX5_init_107 : decode cX5_init 107 = .ok (.bipush 7, 2) := by decide +kernel
theorem dX5_init_109 : decode cX5_init 109 = .ok (.sipush 9999, 3) := by decide +kernel
theorem dX5_init_112 : decode cX5_init 112 = .ok (.iastore, 1) := by decide +kernel
theorem dX5_init_113 : decode cX5_init 113 = .ok (.putfield 34, 3) := by decide +kernel
theorem dX5_init_116 : decode cX5_init 116 = .ok (.aload_n 0, 1) := by decide +kernel
theorem dX5_init_117 : decode cX5_init 117 = .ok (.bipush 28, 2) := by decide +kernel
theorem dX5_init_119 : decode cX5_init 119 = .ok (.putfield 37, 3) := by decide +kernel
theorem dX5_init_122 : decode cX5_init 122 = .ok (.aload_n 0, 1) := by decide +kernel
theorem dX5_init_123 : decode cX5_init 123 = .ok (.bipush 30, 2) := by decide +kernel
theorem dX5_init_125 : decode cX5_init 125 = .ok (.newarray .int, 2) := by decide +kernel
theorem dX5_init_127 : decode cX5_init 127 = .ok (.putfield 41, 3) := by decide +kernel
theorem dX5_init_130 : decode cX5_init 130 = .ok (.aload_n 0, 1) := by decide +kernel
theorem dX5_init_131 : decode cX5_init 131 = .ok (.bipush 30, 2) := by decide +kernel
theorem dX5_init_133 : decode cX5_init 133 = .ok (.newarray .int, 2) := by decide +kernel
theorem dX5_init_135 : decode cX5_init 135 = .ok (.putfield 44, 3) := by decide +kernel
theorem dX5_init_138 : decode cX5_init 138 = .ok (.aload_n 0, 1) := by decide +kernel
theorem dX5_init_139 : decode cX5_init 139 = .ok (.bipush 30, 2) := by decide +kernel
theorem dX5_init_141 : decode cX5_init 141 = .ok (.newarray .int, 2) := by decide +kernel
theorem dX5_init_143 : decode cX5_init 143 = .ok (.putfield 47, 3) := by decide +kernel
theorem dX5_init_146 : decode cX5_init 146 = .ok (.aload_n 0, 1) := by decide +kernel
theorem dX5_init_147 : decode cX5_init 147 = .ok (.bipush 12, 2) := by decide +kernel
theorem dX5_init_149 : decode cX5_init 149 = .ok (.newarray .int, 2) := by decide +kernel
theorem dX5_init_151 : decode cX5_init 151 = .ok (.putfield 50, 3) := by decide +kernel
theorem dX5_init_154 : decode cX5_init 154 = .ok (.aload_n 0, 1) := by decide +kernel
theorem dX5_init_155 : decode cX5_init 155 = .ok (.bipush 16, 2) := by decide +kernel
theorem dX5_init_157 : decode cX5_init 157 = .ok (.newarray .boolean, 2) := by decide +kernel
theorem dX5_init_159 : decode cX5_init 159 = .ok (.putfield 53, 3) := by decide +kernel
theorem dX5_init_162 : decode cX5_init 162 = .ok (.aload_n 0, 1) := by decide +kernel
theorem dX5_init_163 : decode cX5_init 163 = .ok (.bipush 16, 2) := by decide +kernel
theorem dX5_init_165 : decode cX5_init 165 = .ok (.newarray .int, 2) := by decide +kernel
theorem dX5_init_167 : decode cX5_init 167 = .ok (.putfield 57, 3) := by decide +kernel
theorem dX5_init_170 : decode cX5_init 170 = .ok (.aload_n 0, 1) := by decide +kernel
theorem dX5_init_171 : decode cX5_init 171 = .ok (.iconst 0, 1) := by decide +kernel
theorem dX5_init_172 : decode cX5_init 172 = .ok (.putfield 60, 3) := by decide +kernel
theorem dX5_init_175 : decode cX5_init 175 = .ok (.return_, 1) := by decide +kernel
theorem dX5_in_0 : decode cX5_in 0 = .ok (.iload_n 0, 1) := by decide +kernel
theorem dX5_in_1 : decode cX5_in 1 = .ok (.iload_n 1, 1) := by decide +kernel
theorem dX5_in_2 : decode cX5_in 2 = .ok (.if_icmp .lt 12, 3) := by decide +kernel
theorem dX5_in_5 : decode cX5_in 5 = .ok (.iload_n 0, 1) := by decide +kernel
theorem dX5_in_6 : decode cX5_in 6 = .ok (.iload_n 2, 1) := by decide +kernel
theorem dX5_in_7 : decode cX5_in 7 = .ok (.if_icmp .gt 7, 3) := by decide +kernel
theorem dX5_in_10 : decode cX5_in 10 = .ok (.iconst 1, 1) := by decide +kernel
theorem dX5_in_11 : decode cX5_in 11 = .ok (.goto 4, 3) := by decide +kernel
theorem dX5_in_14 : decode cX5_in 14 = .ok (.iconst 0, 1) := by decide +kernel
theorem dX5_in_15 : decode cX5_in 15 = .ok (.ireturn, 1) := by decide +kernel
theorem dX5_isCask_0 : decode cX5_isCask 0 = .ok (.iload_n 1, 1) := by decide +kernel
theorem dX5_isCask_1 : decode cX5_isCask 1 = .ok (.iconst 0, 1) := by decide +kernel
theorem dX5_isCask_2 : decode cX5_isCask 2 = .ok (.aload_n 0, 1) := by decide +kernel
theorem dX5_isCask_3 : decode cX5_isCask 3 = .ok (.getfield 63, 3) := by decide +kernel
theorem dX5_isCask_6 : decode cX5_isCask 6 = .ok (.iconst 1, 1) := by decide +kernel
theorem dX5_isCask_7 : decode cX5_isCask 7 = .ok (.isub, 1) := by decide +kernel
theorem dX5_isCask_8 : decode cX5_isCask 8 = .ok (.invokestatic 66, 3) := by decide +kernel
theorem dX5_isCask_11 : decode cX5_isCask 11 = .ok (.ireturn, 1) := by decide +kernel
theorem dX5_lay_0 : decode cX5_lay 0 = .ok (.iload_n 1, 1) := by decide +kernel
theorem dX5_lay_1 : decode cX5_lay 1 = .ok (.iconst 0, 1) := by decide +kernel
theorem dX5_lay_2 : decode cX5_lay 2 = .ok (.iconst 2, 1) := by decide +kernel
theorem dX5_lay_3 : decode cX5_lay 3 = .ok (.invokestatic 66, 3) := by decide +kernel
theorem dX5_lay_6 : decode cX5_lay 6 = .ok (.ifCond .eq 49, 3) := by decide +kernel
theorem dX5_lay_9 : decode cX5_lay 9 = .ok (.iload_n 2, 1) := by decide +kernel
theorem dX5_lay_10 : decode cX5_lay 10 = .ok (.iconst 1, 1) := by decide +kernel
theorem dX5_lay_11 : decode cX5_lay 11 = .ok (.sipush 9000, 3) := by decide +kernel
theorem dX5_lay_14 : decode cX5_lay 14 = .ok (.invokestatic 66, 3) := by decide +kernel
theorem dX5_lay_17 : decode cX5_lay 17 = .ok (.ifCond .eq 38, 3) := by decide +kernel
theorem dX5_lay_20 : decode cX5_lay 20 = .ok (.iload_n 3, 1) := by decide +kernel
theorem dX5_lay_21 : decode cX5_lay 21 = .ok (.sipush 400, 3) := by decide +kernel
theorem dX5_lay_24 : decode cX5_lay 24 = .ok (.sipush 700, 3) := by decide +kernel
theorem dX5_lay_27 : decode cX5_lay 27 = .ok (.invokestatic 66, 3) := by decide +kernel
theorem dX5_lay_30 : decode cX5_lay 30 = .ok (.ifCond .eq 25, 3) := by decide +kernel
theorem dX5_lay_33 : decode cX5_lay 33 = .ok (.iload 4, 2) := by decide +kernel
theorem dX5_lay_35 : decode cX5_lay 35 = .ok (.iconst 0, 1) := by decide +kernel
theorem dX5_lay_36 : decode cX5_lay 36 = .ok (.iconst 3, 1) := by decide +kernel
theorem dX5_lay_37 : decode cX5_lay 37 = .ok (.invokestatic 66, 3) := by decide +kernel
theorem dX5_lay_40 : decode cX5_lay 40 = .ok (.ifCond .eq 15, 3) := by decide +kernel
theorem dX5_lay_43 : decode cX5_lay 43 = .ok (.iload 5, 2) := by decide +kernel
theorem dX5_lay_45 : decode cX5_lay 45 = .ok (.iconst 0, 1) := by decide +kernel
theorem dX5_lay_46 : decode cX5_lay 46 = .ok (.sipush 500, 3) := by decide +kernel
theorem dX5_lay_49 : decode cX5_lay 49 = .ok (.invokestatic 66, 3) := by decide +kernel
theorem dX5_lay_52 : decode cX5_lay 52 = .ok (.ifCond .ne 5, 3) := by decide +kernel
theorem dX5_lay_55 : decode cX5_lay 55 = .ok (.iconst (-1), 1) := by decide +kernel
theorem dX5_lay_56 : decode cX5_lay 56 = .ok (.ireturn, 1) := by decide +kernel
theorem dX5_lay_57 : decode cX5_lay 57 = .ok (.aload_n 0, 1) := by decide +kernel
theorem dX5_lay_58 : decode cX5_lay 58 = .ok (.getfield 63, 3) := by decide +kernel
theorem dX5_lay_61 : decode cX5_lay 61 = .ok (.bipush 12, 2) := by decide +kernel
theorem dX5_lay_63 : decode cX5_lay 63 = .ok (.if_icmp .ne 6, 3) := by decide +kernel
theorem dX5_lay_66 : decode cX5_lay 66 = .ok (.bipush (-3), 2) := by decide +kernel
theorem dX5_lay_68 : decode cX5_lay 68 = .ok (.ireturn, 1) := by decide +kernel
theorem dX5_lay_69 : decode cX5_lay 69 = .ok (.aload_n 0, 1) := by decide +kernel
theorem dX5_lay_70 : decode cX5_lay 70 = .ok (.getfield 7, 3) := by decide +kernel
theorem dX5_lay_73 : decode cX5_lay 73 = .ok (.aload_n 0, 1) := by decide +kernel
theorem dX5_lay_74 : decode cX5_lay 74 = .ok (.getfield 63, 3) := by decide +kernel
theorem dX5_lay_77 : decode cX5_lay 77 = .ok (.iload_n 1, 1) := by decide +kernel
theorem dX5_lay_78 : decode cX5_lay 78 = .ok (.iastore, 1) := by decide +kernel
theorem dX5_lay_79 : decode cX5_lay 79 = .ok (.aload_n 0, 1) := by decide +kernel
theorem dX5_lay_80 : decode cX5_lay 80 = .ok (.getfield 13, 3) := by decide +kernel
theorem dX5_lay_83 : decode cX5_lay 83 = .ok (.aload_n 0, 1) := by decide +kernel
theorem dX5_lay_84 : decode cX5_lay 84 = .ok (.getfield 63, 3) := by decide +kernel
theorem dX5_lay_87 : decode cX5_lay 87 = .ok (.iload_n 2, 1) := by decide +kernel
theorem dX5_lay_88 : decode cX5_lay 88 = .ok (.iastore, 1) := by decide +kernel
theorem dX5_lay_89 : decode cX5_lay 89 = .ok (.aload_n 0, 1) := by decide +kernel
theorem dX5_lay_90 : decode cX5_lay 90 = .ok (.getfield 16, 3) := by decide +kernel
theorem dX5_lay_93 : decode cX5_lay 93 = .ok (.aload_n 0, 1) := by decide +kernel
theorem dX5_lay_94 : decode cX5_lay 94 = .ok (.getfield 63, 3) := by decide +kernel
theorem dX5_lay_97 : decode cX5_lay 97 = .ok (.iload_n 3, 1) := by decide +kernel
theorem dX5_lay_98 : decode cX5_lay 98 = .ok (.iastore, 1) := by decide +kernel
theorem dX5_lay_99 : decode cX5_lay 99 = .ok (.aload_n 0, 1) := by decide +kernel
theorem dX5_lay_100 : decode cX5_lay 100 = .ok (.getfield 19, 3) := by decide +kernel
theorem dX5_lay_103 : decode cX5_lay 103 = .ok (.aload_n 0, 1) := by decide +kernel
theorem dX5_lay_104 : decode cX5_lay 104 = .ok (.getfield 63, 3) := by decide +kernel
theorem dX5_lay_107 : decode cX5_lay 107 = .ok (.iload 4, 2) := by decide +kernel
theorem dX5_lay_109 : decode cX5_lay 109 = .ok (.iastore, 1) := by decide +kernel
theorem dX5_lay_110 : decode cX5_lay 110 = .ok (.aload_n 0, 1) := by decide +kernel
theorem dX5_lay_111 : decode cX5_lay 111 = .ok (.getfield 22, 3) := by decide +kernel
theorem dX5_lay_114 : decode cX5_lay 114 = .ok (.aload_n 0, 1) := by decide +kernel
theorem dX5_lay_115 : decode cX5_lay 115 = .ok (.getfield 63, 3) := by decide +kernel
theorem dX5_lay_118 : decode cX5_lay 118 = .ok (.aload_n 0, 1) := by decide +kernel
theorem dX5_lay_119 : decode cX5_lay 119 = .ok (.getfield 60, 3) := by decide +kernel
theorem dX5_lay_122 : decode cX5_lay 122 = .ok (.iastore, 1) := by decide +kernel
theorem dX5_lay_123 : decode cX5_lay 123 = .ok (.aload_n 0, 1) := by decide +kernel
theorem dX5_lay_124 : decode cX5_lay 124 = .ok (.getfield 25, 3) := by decide +kernel
theorem dX5_lay_127 : decode cX5_lay 127 = .ok (.aload_n 0, 1) := by decide +kernel
theorem dX5_lay_128 : decode cX5_lay 128 = .ok (.getfield 63, 3) := by decide +kernel
theorem dX5_lay_131 : decode cX5_lay 131 = .ok (.iconst 0, 1) := by decide +kernel
theorem dX5_lay_132 : decode cX5_lay 132 = .ok (.iastore, 1) := by decide +kernel
theorem dX5_lay_133 : decode cX5_lay 133 = .ok (.aload_n 0, 1) := by decide +kernel
theorem dX5_lay_134 : decode cX5_lay 134 = .ok (.getfield 28, 3) := by decide +kernel
theorem dX5_lay_137 : decode cX5_lay 137 = .ok (.aload_n 0, 1) := by decide +kernel
theorem dX5_lay_138 : decode cX5_lay 138 = .ok (.getfield 63, 3) := by decide +kernel
theorem dX5_lay_141 : decode cX5_lay 141 = .ok (.iload 5, 2) := by decide +kernel
theorem dX5_lay_143 : decode cX5_lay 143 = .ok (.iastore, 1) := by decide +kernel
theorem dX5_lay_144 : decode cX5_lay 144 = .ok (.aload_n 0, 1) := by decide +kernel
theorem dX5_lay_145 : decode cX5_lay 145 = .ok (.getfield 31, 3) := by decide +kernel
theorem dX5_lay_148 : decode cX5_lay 148 = .ok (.aload_n 0, 1) := by decide +kernel
theorem dX5_lay_149 : decode cX5_lay 149 = .ok (.getfield 63, 3) := by decide +kernel
theorem dX5_lay_152 : decode cX5_lay 152 = .ok (.iconst 0, 1) := by decide +kernel
theorem dX5_lay_153 : decode cX5_lay 153 = .ok (.iastore, 1) := by decide +kernel
theorem dX5_lay_154 : decode cX5_lay 154 = .ok (.aload_n 0, 1) := by decide +kernel
theorem dX5_lay_155 : decode cX5_lay 155 = .ok (.dup, 1) := by decide +kernel
theorem dX5_lay_156 : decode cX5_lay 156 = .ok (.getfield 63, 3) := by decide +kernel
theorem dX5_lay_159 : decode cX5_lay 159 = .ok (.iconst 1, 1) := by decide +kernel
theorem dX5_lay_160 : decode cX5_lay 160 = .ok (.iadd, 1) := by decide +kernel
theorem dX5_lay_161 : decode cX5_lay 161 = .ok (.putfield 63, 3) := by decide +kernel
theorem dX5_lay_164 : decode cX5_lay 164 = .ok (.aload_n 0, 1) := by decide +kernel
theorem dX5_lay_165 : decode cX5_lay 165 = .ok (.getfield 63, 3) := by decide +kernel
theorem dX5_lay_168 : decode cX5_lay 168 = .ok (.iconst 1, 1) := by decide +kernel
theorem dX5_lay_169 : decode cX5_lay 169 = .ok (.isub, 1) := by decide +kernel
theorem dX5_lay_170 : decode cX5_lay 170 = .ok (.ireturn, 1) := by decide +kernel
theorem dX5_lossOf_0 : decode cX5_lossOf 0 = .ok (.bipush 15, 2) := by decide +kernel
theorem dX5_lossOf_2 : decode cX5_lossOf 2 = .ok (.iconst 5, 1) := by decide +kernel
theorem dX5_lossOf_3 : decode cX5_lossOf 3 = .ok (.aload_n 0, 1) := by decide +kernel
theorem dX5_lossOf_4 : decode cX5_lossOf 4 = .ok (.getfield 19, 3) := by decide +kernel
theorem dX5_lossOf_7 : decode cX5_lossOf 7 = .ok (.iload_n 1, 1) := by decide +kernel
theorem dX5_lossOf_8 : decode cX5_lossOf 8 = .ok (.iaload, 1) := by decide +kernel
theorem dX5_lossOf_9 : decode cX5_lossOf 9 = .ok (.imul, 1) := by decide +kernel
theorem dX5_lossOf_10 : decode cX5_lossOf 10 = .ok (.iadd, 1) := by decide +kernel
theorem dX5_lossOf_11 : decode cX5_lossOf 11 = .ok (.iload_n 3, 1) := by decide +kernel
theorem dX5_lossOf_12 : decode cX5_lossOf 12 = .ok (.bipush 10, 2) := by decide +kernel
theorem dX5_lossOf_14 : decode cX5_lossOf 14 = .ok (.if_icmp .ge 12, 3) := by decide +kernel
theorem dX5_lossOf_17 : decode cX5_lossOf 17 = .ok (.bipush 20, 2) := by decide +kernel
theorem dX5_lossOf_19 : decode cX5_lossOf 19 = .ok (.iconst 2, 1) := by decide +kernel
theorem dX5_lossOf_20 : decode cX5_lossOf 20 = .ok (.iload_n 3, 1) := by decide +kernel
theorem dX5_lossOf_21 : decode cX5_lossOf 21 = .ok (.imul, 1) := by decide +kernel
theorem dX5_lossOf_22 : decode cX5_lossOf 22 = .ok (.isub, 1) := by decide +kernel
theorem dX5_lossOf_23 : decode cX5_lossOf 23 = .ok (.goto 4, 3) := by decide +kernel
theorem dX5_lossOf_26 : decode cX5_lossOf 26 = .ok (.iconst 0, 1) := by decide +kernel
theorem dX5_lossOf_27 : decode cX5_lossOf 27 = .ok (.iadd, 1) := by decide +kernel
theorem dX5_lossOf_28 : decode cX5_lossOf 28 = .ok (.istore 4, 2) := by decide +kernel
theorem dX5_lossOf_30 : decode cX5_lossOf 30 = .ok (.iload_n 2, 1) := by decide +kernel
theorem dX5_lossOf_31 : decode cX5_lossOf 31 = .ok (.ifCond .le 12, 3) := by decide +kernel
theorem dX5_lossOf_34 : decode cX5_lossOf 34 = .ok (.iconst 3, 1) := by decide +kernel
theorem dX5_lossOf_35 : decode cX5_lossOf 35 = .ok (.iload 4, 2) := by decide +kernel
theorem dX5_lossOf_37 : decode cX5_lossOf 37 = .ok (.imul, 1) := by decide +kernel
theorem dX5_lossOf_38 : decode cX5_lossOf 38 = .ok (.iconst 4, 1) := by decide +kernel
theorem dX5_lossOf_39 : decode cX5_lossOf 39 = .ok (.idiv, 1) := by decide +kernel
theorem dX5_lossOf_40 : decode cX5_lossOf 40 = .ok (.goto 5, 3) := by decide +kernel
theorem dX5_lossOf_43 : decode cX5_lossOf 43 = .ok (.iload 4, 2) := by decide +kernel
theorem dX5_lossOf_45 : decode cX5_lossOf 45 = .ok (.istore 4, 2) := by decide +kernel
theorem dX5_lossOf_47 : decode cX5_lossOf 47 = .ok (.iload_n 2, 1) := by decide +kernel
theorem dX5_lossOf_48 : decode cX5_lossOf 48 = .ok (.iconst 2, 1) := by decide +kernel
theorem dX5_lossOf_49 : decode cX5_lossOf 49 = .ok (.if_icmp .ge 8, 3) := by decide +kernel
theorem dX5_lossOf_52 : decode cX5_lossOf 52 = .ok (.iload 4, 2) := by decide +kernel
theorem dX5_lossOf_54 : decode cX5_lossOf 54 = .ok (.goto 17, 3) := by decide +kernel
theorem dX5_lossOf_57 : decode cX5_lossOf 57 = .ok (.iload 4, 2) := by decide +kernel
theorem dX5_lossOf_59 : decode cX5_lossOf 59 = .ok (.iconst 5, 1) := by decide +kernel
theorem dX5_lossOf_60 : decode cX5_lossOf 60 = .ok (.if_icmp .le 10, 3) := by decide +kernel
theorem dX5_lossOf_63 : decode cX5_lossOf 63 = .ok (.iload 4, 2) := by decide +kernel
theorem dX5_lossOf_65 : decode cX5_lossOf 65 = .ok (.iconst 4, 1) := by decide +kernel
theorem dX5_lossOf_66 : decode cX5_lossOf 66 = .ok (.isub, 1) := by decide +kernel
theorem dX5_lossOf_67 : decode cX5_lossOf 67 = .ok (.goto 4, 3) := by decide +kernel
theorem dX5_lossOf_70 : decode cX5_lossOf 70 = .ok (.iconst 1, 1) := by decide +kernel
theorem dX5_lossOf_71 : decode cX5_lossOf 71 = .ok (.ireturn, 1) := by decide +kernel
theorem dX5_lostOf_0 : decode cX5_lostOf 0 = .ok (.iload_n 0, 1) := by decide +kernel
theorem dX5_lostOf_1 : decode cX5_lostOf 1 = .ok (.iload_n 1, 1) := by decide +kernel
theorem dX5_lostOf_2 : decode cX5_lostOf 2 = .ok (.imul, 1) := by decide +kernel
theorem dX5_lostOf_3 : decode cX5_lostOf 3 = .ok (.sipush 999, 3) := by decide +kernel
theorem dX5_lostOf_6 : decode cX5_lostOf 6 = .ok (.iadd, 1) := by decide +kernel
theorem dX5_lostOf_7 : decode cX5_lostOf 7 = .ok (.sipush 1000, 3) := by decide +kernel
theorem dX5_lostOf_10 : decode cX5_lostOf 10 = .ok (.idiv, 1) := by decide +kernel
theorem dX5_lostOf_11 : decode cX5_lostOf 11 = .ok (.ireturn, 1) := by decide +kernel
theorem dX5_oneYear_0 : decode cX5_oneYear 0 = .ok (.iconst 0, 1) := by decide +kernel
theorem dX5_oneYear_1 : decode cX5_oneYear 1 = .ok (.istore_n 1, 1) := by decide +kernel
theorem dX5_oneYear_2 : decode cX5_oneYear 2 = .ok (.iload_n 1, 1) := by decide +kernel
theorem dX5_oneYear_3 : decode cX5_oneYear 3 = .ok (.aload_n 0, 1) := by decide +kernel
theorem dX5_oneYear_4 : decode cX5_oneYear 4 = .ok (.getfield 63, 3) := by decide +kernel
theorem dX5_oneYear_7 : decode cX5_oneYear 7 = .ok (.if_icmp .ge 156, 3) := by decide +kernel
theorem dX5_oneYear_10 : decode cX5_oneYear 10 = .ok (.aload_n 0, 1) := by decide +kernel
theorem dX5_oneYear_11 : decode cX5_oneYear 11 = .ok (.getfield 13, 3) := by decide +kernel
theorem dX5_oneYear_14 : decode cX5_oneYear 14 = .ok (.iload_n 1, 1) := by decide +kernel
theorem dX5_oneYear_15 : decode cX5_oneYear 15 = .ok (.iaload, 1) := by decide +kernel
theorem dX5_oneYear_16 : decode cX5_oneYear 16 = .ok (.ifCond .le 141, 3) := by decide +kernel
theorem dX5_oneYear_19 : decode cX5_oneYear 19 = .ok (.aload_n 0, 1) := by decide +kernel
theorem dX5_oneYear_20 : decode cX5_oneYear 20 = .ok (.iload_n 1, 1) := by decide +kernel
theorem dX5_oneYear_21 : decode cX5_oneYear 21 = .ok (.aload_n 0, 1) := by decide +kernel
theorem dX5_oneYear_22 : decode cX5_oneYear 22 = .ok (.getfield 7, 3) := by decide +kernel
theorem dX5_oneYear_25 : decode cX5_oneYear 25 = .ok (.iload_n 1, 1) := by decide +kernel
theorem dX5_oneYear_26 : decode cX5_oneYear 26 = .ok (.iaload, 1) := by decide +kernel
theorem dX5_oneYear_27 : decode cX5_oneYear 27 = .ok (.aload_n 0, 1) := by decide +kernel
theorem dX5_oneYear_28 : decode cX5_oneYear 28 = .ok (.getfield 60, 3) := by decide +kernel
theorem dX5_oneYear_31 : decode cX5_oneYear 31 = .ok (.aload_n 0, 1) := by decide +kernel
theorem dX5_oneYear_32 : decode cX5_oneYear 32 = .ok (.getfield 22, 3) := by decide +kernel
theorem dX5_oneYear_35 : decode cX5_oneYear 35 = .ok (.iload_n 1, 1) := by decide +kernel
theorem dX5_oneYear_36 : decode cX5_oneYear 36 = .ok (.iaload, 1) := by decide +kernel
theorem dX5_oneYear_37 : decode cX5_oneYear 37 = .ok (.isub, 1) := by decide +kernel
theorem dX5_oneYear_38 : decode cX5_oneYear 38 = .ok (.invokevirtual 70, 3) := by decide +kernel
theorem dX5_oneYear_41 : decode cX5_oneYear 41 = .ok (.istore_n 2, 1) := by decide +kernel
theorem dX5_oneYear_42 : decode cX5_oneYear 42 = .ok (.aload_n 0, 1) := by decide +kernel
theorem dX5_oneYear_43 : decode cX5_oneYear 43 = .ok (.getfield 13, 3) := by decide +kernel
theorem dX5_oneYear_46 : decode cX5_oneYear 46 = .ok (.iload_n 1, 1) := by decide +kernel
theorem dX5_oneYear_47 : decode cX5_oneYear 47 = .ok (.dup2, 1) := by decide +kernel
theorem dX5_oneYear_48 : decode cX5_oneYear 48 = .ok (.iaload, 1) := by decide +kernel
theorem dX5_oneYear_49 : decode cX5_oneYear 49 = .ok (.aload_n 0, 1) := by decide +kernel
theorem dX5_oneYear_50 : decode cX5_oneYear 50 = .ok (.getfield 13, 3) := by decide +kernel
theorem dX5_oneYear_53 : decode cX5_oneYear 53 = .ok (.iload_n 1, 1) := by decide +kernel
theorem dX5_oneYear_54 : decode cX5_oneYear 54 = .ok (.iaload, 1) := by decide +kernel
theorem dX5_oneYear_55 : decode cX5_oneYear 55 = .ok (.iload_n 2, 1) := by decide +kernel
theorem dX5_oneYear_56 : decode cX5_oneYear 56 = .ok (.invokestatic 74, 3) := by decide +kernel
theorem dX5_oneYear_59 : decode cX5_oneYear 59 = .ok (.isub, 1) := by decide +kernel
theorem dX5_oneYear_60 : decode cX5_oneYear 60 = .ok (.iastore, 1) := by decide +kernel
theorem dX5_oneYear_61 : decode cX5_oneYear 61 = .ok (.aload_n 0, 1) := by decide +kernel
theorem dX5_oneYear_62 : decode cX5_oneYear 62 = .ok (.getfield 25, 3) := by decide +kernel
theorem dX5_oneYear_65 : decode cX5_oneYear 65 = .ok (.iload_n 1, 1) := by decide +kernel
theorem dX5_oneYear_66 : decode cX5_oneYear 66 = .ok (.dup2, 1) := by decide +kernel
theorem dX5_oneYear_67 : decode cX5_oneYear 67 = .ok (.iaload, 1) := by decide +kernel
theorem dX5_oneYear_68 : decode cX5_oneYear 68 = .ok (.iload_n 2, 1) := by decide +kernel
theorem dX5_oneYear_69 : decode cX5_oneYear 69 = .ok (.bipush 10, 2) := by decide +kernel
theorem dX5_oneYear_71 : decode cX5_oneYear 71 = .ok (.if_icmp .le 10, 3) := by decide +kernel
theorem dX5_oneYear_74 : decode cX5_oneYear 74 = .ok (.iload_n 2, 1) := by decide +kernel
theorem dX5_oneYear_75 : decode cX5_oneYear 75 = .ok (.bipush 10, 2) := by decide +kernel
theorem dX5_oneYear_77 : decode cX5_oneYear 77 = .ok (.isub, 1) := by decide +kernel
theorem dX5_oneYear_78 : decode cX5_oneYear 78 = .ok (.goto 4, 3) := by decide +kernel
theorem dX5_oneYear_81 : decode cX5_oneYear 81 = .ok (.iconst 0, 1) := by decide +kernel
theorem dX5_oneYear_82 : decode cX5_oneYear 82 = .ok (.iadd, 1) := by decide +kernel
theorem dX5_oneYear_83 : decode cX5_oneYear 83 = .ok (.iastore, 1) := by decide +kernel
theorem dX5_oneYear_84 : decode cX5_oneYear 84 = .ok (.aload_n 0, 1) := by decide +kernel
theorem dX5_oneYear_85 : decode cX5_oneYear 85 = .ok (.getfield 28, 3) := by decide +kernel
theorem dX5_oneYear_88 : decode cX5_oneYear 88 = .ok (.iload_n 1, 1) := by decide +kernel
theorem dX5_oneYear_89 : decode cX5_oneYear 89 = .ok (.dup2, 1) := by decide +kernel
theorem dX5_oneYear_90 : decode cX5_oneYear 90 = .ok (.iaload, 1) := by decide +kernel
theorem dX5_oneYear_91 : decode cX5_oneYear 91 = .ok (.aload_n 0, 1) := by decide +kernel
end
section
theorem dX5_oneYear_92 : decode cX5_oneYear 92 = .ok (.getfield 28, 3) := by decide +kernel
theorem dX5_oneYear_95 : decode cX5_oneYear 95 = .ok (.iload_n 1, 1) := by decide +kernel
theorem dX5_oneYear_96 : decode cX5_oneYear 96 = .ok (.iaload, 1) := by decide +kernel
theorem dX5_oneYear_97 : decode cX5_oneYear 97 = .ok (.bipush 9, 2) := by decide +kernel
theorem dX5_oneYear_99 : decode cX5_oneYear 99 = .ok (.iadd, 1) := by decide +kernel
theorem dX5_oneYear_100 : decode cX5_oneYear 100 = .ok (.bipush 10, 2) := by decide +kernel
theorem dX5_oneYear_102 : decode cX5_oneYear 102 = .ok (.idiv, 1) := by decide +kernel
theorem dX5_oneYear_103 : decode cX5_oneYear 103 = .ok (.isub, 1) := by decide +kernel
theorem dX5_oneYear_104 : decode cX5_oneYear 104 = .ok (.iastore, 1) := by decide +kernel
theorem dX5_oneYear_105 : decode cX5_oneYear 105 = .ok (.aload_n 0, 1) := by decide +kernel
theorem dX5_oneYear_106 : decode cX5_oneYear 106 = .ok (.getfield 31, 3) := by decide +kernel
theorem dX5_oneYear_109 : decode cX5_oneYear 109 = .ok (.iload_n 1, 1) := by decide +kernel
theorem dX5_oneYear_110 : decode cX5_oneYear 110 = .ok (.dup2, 1) := by decide +kernel
theorem dX5_oneYear_111 : decode cX5_oneYear 111 = .ok (.iaload, 1) := by decide +kernel
theorem dX5_oneYear_112 : decode cX5_oneYear 112 = .ok (.bipush 6, 2) := by decide +kernel
theorem dX5_oneYear_114 : decode cX5_oneYear 114 = .ok (.iconst 2, 1) := by decide +kernel
theorem dX5_oneYear_115 : decode cX5_oneYear 115 = .ok (.aload_n 0, 1) := by decide +kernel
theorem dX5_oneYear_116 : decode cX5_oneYear 116 = .ok (.getfield 7, 3) := by decide +kernel
theorem dX5_oneYear_119 : decode cX5_oneYear 119 = .ok (.iload_n 1, 1) := by decide +kernel
theorem dX5_oneYear_120 : decode cX5_oneYear 120 = .ok (.iaload, 1) := by decide +kernel
theorem dX5_oneYear_121 : decode cX5_oneYear 121 = .ok (.imul, 1) := by decide +kernel
theorem dX5_oneYear_122 : decode cX5_oneYear 122 = .ok (.isub, 1) := by decide +kernel
theorem dX5_oneYear_123 : decode cX5_oneYear 123 = .ok (.iadd, 1) := by decide +kernel
theorem dX5_oneYear_124 : decode cX5_oneYear 124 = .ok (.iastore, 1) := by decide +kernel
theorem dX5_oneYear_125 : decode cX5_oneYear 125 = .ok (.aload_n 0, 1) := by decide +kernel
theorem dX5_oneYear_126 : decode cX5_oneYear 126 = .ok (.getfield 16, 3) := by decide +kernel
theorem dX5_oneYear_129 : decode cX5_oneYear 129 = .ok (.iload_n 1, 1) := by decide +kernel
theorem dX5_oneYear_130 : decode cX5_oneYear 130 = .ok (.aload_n 0, 1) := by decide +kernel
theorem dX5_oneYear_131 : decode cX5_oneYear 131 = .ok (.getfield 16, 3) := by decide +kernel
theorem dX5_oneYear_134 : decode cX5_oneYear 134 = .ok (.iload_n 1, 1) := by decide +kernel
theorem dX5_oneYear_135 : decode cX5_oneYear 135 = .ok (.iaload, 1) := by decide +kernel
theorem dX5_oneYear_136 : decode cX5_oneYear 136 = .ok (.sipush 403, 3) := by decide +kernel
theorem dX5_oneYear_139 : decode cX5_oneYear 139 = .ok (.if_icmp .le 14, 3) := by decide +kernel
theorem dX5_oneYear_142 : decode cX5_oneYear 142 = .ok (.aload_n 0, 1) := by decide +kernel
theorem dX5_oneYear_143 : decode cX5_oneYear 143 = .ok (.getfield 16, 3) := by decide +kernel
theorem dX5_oneYear_146 : decode cX5_oneYear 146 = .ok (.iload_n 1, 1) := by decide +kernel
theorem dX5_oneYear_147 : decode cX5_oneYear 147 = .ok (.iaload, 1) := by decide +kernel
theorem dX5_oneYear_148 : decode cX5_oneYear 148 = .ok (.iconst 3, 1) := by decide +kernel
theorem dX5_oneYear_149 : decode cX5_oneYear 149 = .ok (.isub, 1) := by decide +kernel
theorem dX5_oneYear_150 : decode cX5_oneYear 150 = .ok (.goto 6, 3) := by decide +kernel
theorem dX5_oneYear_153 : decode cX5_oneYear 153 = .ok (.sipush 400, 3) := by decide +kernel
theorem dX5_oneYear_156 : decode cX5_oneYear 156 = .ok (.iastore, 1) := by decide +kernel
theorem dX5_oneYear_157 : decode cX5_oneYear 157 = .ok (.iinc 1 1, 3) := by decide +kernel
theorem dX5_oneYear_160 : decode cX5_oneYear 160 = .ok (.goto (-158), 3) := by decide +kernel
theorem dX5_oneYear_163 : decode cX5_oneYear 163 = .ok (.aload_n 0, 1) := by decide +kernel
theorem dX5_oneYear_164 : decode cX5_oneYear 164 = .ok (.dup, 1) := by decide +kernel
theorem dX5_oneYear_165 : decode cX5_oneYear 165 = .ok (.getfield 60, 3) := by decide +kernel
theorem dX5_oneYear_168 : decode cX5_oneYear 168 = .ok (.iconst 1, 1) := by decide +kernel
theorem dX5_oneYear_169 : decode cX5_oneYear 169 = .ok (.iadd, 1) := by decide +kernel
theorem dX5_oneYear_170 : decode cX5_oneYear 170 = .ok (.putfield 60, 3) := by decide +kernel
theorem dX5_oneYear_173 : decode cX5_oneYear 173 = .ok (.return_, 1) := by decide +kernel
theorem dX5_years_0 : decode cX5_years 0 = .ok (.iload_n 1, 1) := by decide +kernel
theorem dX5_years_1 : decode cX5_years 1 = .ok (.iconst 1, 1) := by decide +kernel
theorem dX5_years_2 : decode cX5_years 2 = .ok (.bipush 30, 2) := by decide +kernel
theorem dX5_years_4 : decode cX5_years 4 = .ok (.invokestatic 66, 3) := by decide +kernel
theorem dX5_years_7 : decode cX5_years 7 = .ok (.ifCond .ne 5, 3) := by decide +kernel
theorem dX5_years_10 : decode cX5_years 10 = .ok (.iconst (-1), 1) := by decide +kernel
theorem dX5_years_11 : decode cX5_years 11 = .ok (.ireturn, 1) := by decide +kernel
theorem dX5_years_12 : decode cX5_years 12 = .ok (.aload_n 0, 1) := by decide +kernel
theorem dX5_years_13 : decode cX5_years 13 = .ok (.getfield 60, 3) := by decide +kernel
theorem dX5_years_16 : decode cX5_years 16 = .ok (.iload_n 1, 1) := by decide +kernel
theorem dX5_years_17 : decode cX5_years 17 = .ok (.iadd, 1) := by decide +kernel
theorem dX5_years_18 : decode cX5_years 18 = .ok (.bipush 60, 2) := by decide +kernel
theorem dX5_years_20 : decode cX5_years 20 = .ok (.if_icmp .le 6, 3) := by decide +kernel
theorem dX5_years_23 : decode cX5_years 23 = .ok (.bipush (-2), 2) := by decide +kernel
theorem dX5_years_25 : decode cX5_years 25 = .ok (.ireturn, 1) := by decide +kernel
theorem dX5_years_26 : decode cX5_years 26 = .ok (.iconst 0, 1) := by decide +kernel
theorem dX5_years_27 : decode cX5_years 27 = .ok (.istore_n 2, 1) := by decide +kernel
theorem dX5_years_28 : decode cX5_years 28 = .ok (.iload_n 2, 1) := by decide +kernel
theorem dX5_years_29 : decode cX5_years 29 = .ok (.iload_n 1, 1) := by decide +kernel
theorem dX5_years_30 : decode cX5_years 30 = .ok (.if_icmp .ge 13, 3) := by decide +kernel
theorem dX5_years_33 : decode cX5_years 33 = .ok (.aload_n 0, 1) := by decide +kernel
theorem dX5_years_34 : decode cX5_years 34 = .ok (.invokevirtual 78, 3) := by decide +kernel
theorem dX5_years_37 : decode cX5_years 37 = .ok (.iinc 2 1, 3) := by decide +kernel
theorem dX5_years_40 : decode cX5_years 40 = .ok (.goto (-12), 3) := by decide +kernel
theorem dX5_years_43 : decode cX5_years 43 = .ok (.aload_n 0, 1) := by decide +kernel
theorem dX5_years_44 : decode cX5_years 44 = .ok (.getfield 60, 3) := by decide +kernel
theorem dX5_years_47 : decode cX5_years 47 = .ok (.ireturn, 1) := by decide +kernel
theorem dX5_loss_0 : decode cX5_loss 0 = .ok (.aload_n 0, 1) := by decide +kernel
theorem dX5_loss_1 : decode cX5_loss 1 = .ok (.iload_n 1, 1) := by decide +kernel
theorem dX5_loss_2 : decode cX5_loss 2 = .ok (.invokevirtual 81, 3) := by decide +kernel
theorem dX5_loss_5 : decode cX5_loss 5 = .ok (.ifCond .eq 22, 3) := by decide +kernel
theorem dX5_loss_8 : decode cX5_loss 8 = .ok (.iload_n 2, 1) := by decide +kernel
theorem dX5_loss_9 : decode cX5_loss 9 = .ok (.iconst 0, 1) := by decide +kernel
theorem dX5_loss_10 : decode cX5_loss 10 = .ok (.iconst 2, 1) := by decide +kernel
theorem dX5_loss_11 : decode cX5_loss 11 = .ok (.invokestatic 66, 3) := by decide +kernel
theorem dX5_loss_14 : decode cX5_loss 14 = .ok (.ifCond .eq 13, 3) := by decide +kernel
theorem dX5_loss_17 : decode cX5_loss 17 = .ok (.iload_n 3, 1) := by decide +kernel
theorem dX5_loss_18 : decode cX5_loss 18 = .ok (.iconst 0, 1) := by decide +kernel
theorem dX5_loss_19 : decode cX5_loss 19 = .ok (.bipush 60, 2) := by decide +kernel
theorem dX5_loss_21 : decode cX5_loss 21 = .ok (.invokestatic 66, 3) := by decide +kernel
theorem dX5_loss_24 : decode cX5_loss 24 = .ok (.ifCond .ne 5, 3) := by decide +kernel
theorem dX5_loss_27 : decode cX5_loss 27 = .ok (.iconst (-1), 1) := by decide +kernel
theorem dX5_loss_28 : decode cX5_loss 28 = .ok (.ireturn, 1) := by decide +kernel
theorem dX5_loss_29 : decode cX5_loss 29 = .ok (.aload_n 0, 1) := by decide +kernel
theorem dX5_loss_30 : decode cX5_loss 30 = .ok (.dup, 1) := by decide +kernel
theorem dX5_loss_31 : decode cX5_loss 31 = .ok (.getfield 85, 3) := by decide +kernel
theorem dX5_loss_34 : decode cX5_loss 34 = .ok (.iload_n 2, 1) := by decide +kernel
theorem dX5_loss_35 : decode cX5_loss 35 = .ok (.ifCond .ne 7, 3) := by decide +kernel
theorem dX5_loss_38 : decode cX5_loss 38 = .ok (.lconst 1, 1) := by decide +kernel
theorem dX5_loss_39 : decode cX5_loss 39 = .ok (.goto 17, 3) := by decide +kernel
theorem dX5_loss_42 : decode cX5_loss 42 = .ok (.iload_n 2, 1) := by decide +kernel
theorem dX5_loss_43 : decode cX5_loss 43 = .ok (.iconst 1, 1) := by decide +kernel
theorem dX5_loss_44 : decode cX5_loss 44 = .ok (.if_icmp .ne 9, 3) := by decide +kernel
theorem dX5_loss_47 : decode cX5_loss 47 = .ok (.ldc2_w 89, 3) := by decide +kernel
theorem dX5_loss_50 : decode cX5_loss 50 = .ok (.goto 6, 3) := by decide +kernel
theorem dX5_loss_53 : decode cX5_loss 53 = .ok (.ldc2_w 91, 3) := by decide +kernel
theorem dX5_loss_56 : decode cX5_loss 56 = .ok (.ladd, 1) := by decide +kernel
theorem dX5_loss_57 : decode cX5_loss 57 = .ok (.putfield 85, 3) := by decide +kernel
theorem dX5_loss_60 : decode cX5_loss 60 = .ok (.aload_n 0, 1) := by decide +kernel
theorem dX5_loss_61 : decode cX5_loss 61 = .ok (.iload_n 1, 1) := by decide +kernel
theorem dX5_loss_62 : decode cX5_loss 62 = .ok (.iload_n 2, 1) := by decide +kernel
theorem dX5_loss_63 : decode cX5_loss 63 = .ok (.iload_n 3, 1) := by decide +kernel
theorem dX5_loss_64 : decode cX5_loss 64 = .ok (.invokevirtual 70, 3) := by decide +kernel
theorem dX5_loss_67 : decode cX5_loss 67 = .ok (.ireturn, 1) := by decide +kernel
theorem dX5_ageOf_0 : decode cX5_ageOf 0 = .ok (.aload_n 0, 1) := by decide +kernel
theorem dX5_ageOf_1 : decode cX5_ageOf 1 = .ok (.getfield 60, 3) := by decide +kernel
theorem dX5_ageOf_4 : decode cX5_ageOf 4 = .ok (.aload_n 0, 1) := by decide +kernel
theorem dX5_ageOf_5 : decode cX5_ageOf 5 = .ok (.getfield 22, 3) := by decide +kernel
theorem dX5_ageOf_8 : decode cX5_ageOf 8 = .ok (.iload_n 1, 1) := by decide +kernel
theorem dX5_ageOf_9 : decode cX5_ageOf 9 = .ok (.iaload, 1) := by decide +kernel
theorem dX5_ageOf_10 : decode cX5_ageOf 10 = .ok (.isub, 1) := by decide +kernel
theorem dX5_ageOf_11 : decode cX5_ageOf 11 = .ok (.ireturn, 1) := by decide +kernel
theorem dX5_costOf_0 : decode cX5_costOf 0 = .ok (.aload_n 0, 1) := by decide +kernel
theorem dX5_costOf_1 : decode cX5_costOf 1 = .ok (.getfield 13, 3) := by decide +kernel
theorem dX5_costOf_4 : decode cX5_costOf 4 = .ok (.iload_n 1, 1) := by decide +kernel
theorem dX5_costOf_5 : decode cX5_costOf 5 = .ok (.iaload, 1) := by decide +kernel
theorem dX5_costOf_6 : decode cX5_costOf 6 = .ok (.bipush 20, 2) := by decide +kernel
theorem dX5_costOf_8 : decode cX5_costOf 8 = .ok (.iconst 3, 1) := by decide +kernel
theorem dX5_costOf_9 : decode cX5_costOf 9 = .ok (.aload_n 0, 1) := by decide +kernel
theorem dX5_costOf_10 : decode cX5_costOf 10 = .ok (.iload_n 1, 1) := by decide +kernel
theorem dX5_costOf_11 : decode cX5_costOf 11 = .ok (.invokevirtual 93, 3) := by decide +kernel
theorem dX5_costOf_14 : decode cX5_costOf 14 = .ok (.imul, 1) := by decide +kernel
theorem dX5_costOf_15 : decode cX5_costOf 15 = .ok (.iadd, 1) := by decide +kernel
theorem dX5_costOf_16 : decode cX5_costOf 16 = .ok (.imul, 1) := by decide +kernel
theorem dX5_costOf_17 : decode cX5_costOf 17 = .ok (.bipush 99, 2) := by decide +kernel
theorem dX5_costOf_19 : decode cX5_costOf 19 = .ok (.iadd, 1) := by decide +kernel
theorem dX5_costOf_20 : decode cX5_costOf 20 = .ok (.bipush 100, 2) := by decide +kernel
theorem dX5_costOf_22 : decode cX5_costOf 22 = .ok (.idiv, 1) := by decide +kernel
theorem dX5_costOf_23 : decode cX5_costOf 23 = .ok (.ireturn, 1) := by decide +kernel
theorem dX5_about_0 : decode cX5_about 0 = .ok (.aload_n 0, 1) := by decide +kernel
theorem dX5_about_1 : decode cX5_about 1 = .ok (.iload_n 1, 1) := by decide +kernel
theorem dX5_about_2 : decode cX5_about 2 = .ok (.invokevirtual 81, 3) := by decide +kernel
theorem dX5_about_5 : decode cX5_about 5 = .ok (.ifCond .ne 5, 3) := by decide +kernel
theorem dX5_about_8 : decode cX5_about 8 = .ok (.iconst (-1), 1) := by decide +kernel
theorem dX5_about_9 : decode cX5_about 9 = .ok (.ireturn, 1) := by decide +kernel
theorem dX5_about_10 : decode cX5_about 10 = .ok (.iload_n 2, 1) := by decide +kernel
theorem dX5_about_11 : decode cX5_about 11 = .ok (.tableswitch 110 0 8 #[49, 56, 63, 69, 76, 83, 90, 97, 104], 49) := by decide +kernel
theorem dX5_about_60 : decode cX5_about 60 = .ok (.aload_n 0, 1) := by decide +kernel
theorem dX5_about_61 : decode cX5_about 61 = .ok (.getfield 13, 3) := by decide +kernel
theorem dX5_about_64 : decode cX5_about 64 = .ok (.iload_n 1, 1) := by decide +kernel
theorem dX5_about_65 : decode cX5_about 65 = .ok (.iaload, 1) := by decide +kernel
theorem dX5_about_66 : decode cX5_about 66 = .ok (.ireturn, 1) := by decide +kernel
theorem dX5_about_67 : decode cX5_about 67 = .ok (.aload_n 0, 1) := by decide +kernel
theorem dX5_about_68 : decode cX5_about 68 = .ok (.getfield 16, 3) := by decide +kernel
theorem dX5_about_71 : decode cX5_about 71 = .ok (.iload_n 1, 1) := by decide +kernel
theorem dX5_about_72 : decode cX5_about 72 = .ok (.iaload, 1) := by decide +kernel
theorem dX5_about_73 : decode cX5_about 73 = .ok (.ireturn, 1) := by decide +kernel
theorem dX5_about_74 : decode cX5_about 74 = .ok (.aload_n 0, 1) := by decide +kernel
theorem dX5_about_75 : decode cX5_about 75 = .ok (.iload_n 1, 1) := by decide +kernel
theorem dX5_about_76 : decode cX5_about 76 = .ok (.invokevirtual 93, 3) := by decide +kernel
theorem dX5_about_79 : decode cX5_about 79 = .ok (.ireturn, 1) := by decide +kernel
theorem dX5_about_80 : decode cX5_about 80 = .ok (.aload_n 0, 1) := by decide +kernel
theorem dX5_about_81 : decode cX5_about 81 = .ok (.getfield 25, 3) := by decide +kernel
theorem dX5_about_84 : decode cX5_about 84 = .ok (.iload_n 1, 1) := by decide +kernel
theorem dX5_about_85 : decode cX5_about 85 = .ok (.iaload, 1) := by decide +kernel
theorem dX5_about_86 : decode cX5_about 86 = .ok (.ireturn, 1) := by decide +kernel
theorem dX5_about_87 : decode cX5_about 87 = .ok (.aload_n 0, 1) := by decide +kernel
theorem dX5_about_88 : decode cX5_about 88 = .ok (.getfield 28, 3) := by decide +kernel
theorem dX5_about_91 : decode cX5_about 91 = .ok (.iload_n 1, 1) := by decide +kernel
theorem dX5_about_92 : decode cX5_about 92 = .ok (.iaload, 1) := by decide +kernel
theorem dX5_about_93 : decode cX5_about 93 = .ok (.ireturn, 1) := by decide +kernel
theorem dX5_about_94 : decode cX5_about 94 = .ok (.aload_n 0, 1) := by decide +kernel
theorem dX5_about_95 : decode cX5_about 95 = .ok (.getfield 31, 3) := by decide +kernel
theorem dX5_about_98 : decode cX5_about 98 = .ok (.iload_n 1, 1) := by decide +kernel
theorem dX5_about_99 : decode cX5_about 99 = .ok (.iaload, 1) := by decide +kernel
theorem dX5_about_100 : decode cX5_about 100 = .ok (.ireturn, 1) := by decide +kernel
theorem dX5_about_101 : decode cX5_about 101 = .ok (.aload_n 0, 1) := by decide +kernel
theorem dX5_about_102 : decode cX5_about 102 = .ok (.getfield 7, 3) := by decide +kernel
theorem dX5_about_105 : decode cX5_about 105 = .ok (.iload_n 1, 1) := by decide +kernel
theorem dX5_about_106 : decode cX5_about 106 = .ok (.iaload, 1) := by decide +kernel
theorem dX5_about_107 : decode cX5_about 107 = .ok (.ireturn, 1) := by decide +kernel
theorem dX5_about_108 : decode cX5_about 108 = .ok (.aload_n 0, 1) := by decide +kernel
theorem dX5_about_109 : decode cX5_about 109 = .ok (.getfield 19, 3) := by decide +kernel
theorem dX5_about_112 : decode cX5_about 112 = .ok (.iload_n 1, 1) := by decide +kernel
theorem dX5_about_113 : decode cX5_about 113 = .ok (.iaload, 1) := by decide +kernel
theorem dX5_about_114 : decode cX5_about 114 = .ok (.ireturn, 1) := by decide +kernel
theorem dX5_about_115 : decode cX5_about 115 = .ok (.aload_n 0, 1) := by decide +kernel
theorem dX5_about_116 : decode cX5_about 116 = .ok (.iload_n 1, 1) := by decide +kernel
theorem dX5_about_117 : decode cX5_about 117 = .ok (.invokevirtual 97, 3) := by decide +kernel
theorem dX5_about_120 : decode cX5_about 120 = .ok (.ireturn, 1) := by decide +kernel
theorem dX5_about_121 : decode cX5_about 121 = .ok (.iconst (-1), 1) := by decide +kernel
theorem dX5_about_122 : decode cX5_about 122 = .ok (.ireturn, 1) := by decide +kernel
theorem dX5_move_0 : decode cX5_move 0 = .ok (.aload_n 0, 1) := by decide +kernel
theorem dX5_move_1 : decode cX5_move 1 = .ok (.iload_n 1, 1) := by decide +kernel
theorem dX5_move_2 : decode cX5_move 2 = .ok (.invokevirtual 81, 3) := by decide +kernel
theorem dX5_move_5 : decode cX5_move 5 = .ok (.ifCond .eq 12, 3) := by decide +kernel
theorem dX5_move_8 : decode cX5_move 8 = .ok (.iload_n 2, 1) := by decide +kernel
theorem dX5_move_9 : decode cX5_move 9 = .ok (.iconst 0, 1) := by decide +kernel
theorem dX5_move_10 : decode cX5_move 10 = .ok (.iconst 3, 1) := by decide +kernel
theorem dX5_move_11 : decode cX5_move 11 = .ok (.invokestatic 66, 3) := by decide +kernel
theorem dX5_move_14 : decode cX5_move 14 = .ok (.ifCond .ne 5, 3) := by decide +kernel
theorem dX5_move_17 : decode cX5_move 17 = .ok (.iconst (-1), 1) := by decide +kernel
theorem dX5_move_18 : decode cX5_move 18 = .ok (.ireturn, 1) := by decide +kernel
theorem dX5_move_19 : decode cX5_move 19 = .ok (.aload_n 0, 1) := by decide +kernel
theorem dX5_move_20 : decode cX5_move 20 = .ok (.getfield 19, 3) := by decide +kernel
theorem dX5_move_23 : decode cX5_move 23 = .ok (.iload_n 1, 1) := by decide +kernel
theorem dX5_move_24 : decode cX5_move 24 = .ok (.iaload, 1) := by decide +kernel
theorem dX5_move_25 : decode cX5_move 25 = .ok (.istore_n 3, 1) := by decide +kernel
theorem dX5_move_26 : decode cX5_move 26 = .ok (.aload_n 0, 1) := by decide +kernel
theorem dX5_move_27 : decode cX5_move 27 = .ok (.getfield 19, 3) := by decide +kernel
theorem dX5_move_30 : decode cX5_move 30 = .ok (.iload_n 1, 1) := by decide +kernel
theorem dX5_move_31 : decode cX5_move 31 = .ok (.iload_n 2, 1) := by decide +kernel
theorem dX5_move_32 : decode cX5_move 32 = .ok (.iastore, 1) := by decide +kernel
theorem dX5_move_33 : decode cX5_move 33 = .ok (.iload_n 3, 1) := by decide +kernel
theorem dX5_move_34 : decode cX5_move 34 = .ok (.ireturn, 1) := by decide +kernel
theorem dX5_draw_0 : decode cX5_draw 0 = .ok (.aload_n 0, 1) := by decide +kernel
theorem dX5_draw_1 : decode cX5_draw 1 = .ok (.iload_n 1, 1) := by decide +kernel
theorem dX5_draw_2 : decode cX5_draw 2 = .ok (.invokevirtual 81, 3) := by decide +kernel
theorem dX5_draw_5 : decode cX5_draw 5 = .ok (.ifCond .eq 17, 3) := by decide +kernel
theorem dX5_draw_8 : decode cX5_draw 8 = .ok (.iload_n 2, 1) := by decide +kernel
theorem dX5_draw_9 : decode cX5_draw 9 = .ok (.iconst 0, 1) := by decide +kernel
theorem dX5_draw_10 : decode cX5_draw 10 = .ok (.aload_n 0, 1) := by decide +kernel
theorem dX5_draw_11 : decode cX5_draw 11 = .ok (.getfield 13, 3) := by decide +kernel
theorem dX5_draw_14 : decode cX5_draw 14 = .ok (.iload_n 1, 1) := by decide +kernel
theorem dX5_draw_15 : decode cX5_draw 15 = .ok (.iaload, 1) := by decide +kernel
theorem dX5_draw_16 : decode cX5_draw 16 = .ok (.invokestatic 66, 3) := by decide +kernel
theorem dX5_draw_19 : decode cX5_draw 19 = .ok (.ifCond .ne 5, 3) := by decide +kernel
theorem dX5_draw_22 : decode cX5_draw 22 = .ok (.iconst (-1), 1) := by decide +kernel
theorem dX5_draw_23 : decode cX5_draw 23 = .ok (.ireturn, 1) := by decide +kernel
theorem dX5_draw_24 : decode cX5_draw 24 = .ok (.aload_n 0, 1) := by decide +kernel
theorem dX5_draw_25 : decode cX5_draw 25 = .ok (.getfield 13, 3) := by decide +kernel
theorem dX5_draw_28 : decode cX5_draw 28 = .ok (.iload_n 1, 1) := by decide +kernel
theorem dX5_draw_29 : decode cX5_draw 29 = .ok (.dup2, 1) := by decide +kernel
theorem dX5_draw_30 : decode cX5_draw 30 = .ok (.iaload, 1) := by decide +kernel
theorem dX5_draw_31 : decode cX5_draw 31 = .ok (.iload_n 2, 1) := by decide +kernel
theorem dX5_draw_32 : decode cX5_draw 32 = .ok (.isub, 1) := by decide +kernel
theorem dX5_draw_33 : decode cX5_draw 33 = .ok (.iastore, 1) := by decide +kernel
theorem dX5_draw_34 : decode cX5_draw 34 = .ok (.aload_n 0, 1) := by decide +kernel
theorem dX5_draw_35 : decode cX5_draw 35 = .ok (.getfield 13, 3) := by decide +kernel
theorem dX5_draw_38 : decode cX5_draw 38 = .ok (.iload_n 1, 1) := by decide +kernel
theorem dX5_draw_39 : decode cX5_draw 39 = .ok (.iaload, 1) := by decide +kernel
theorem dX5_draw_40 : decode cX5_draw 40 = .ok (.ireturn, 1) := by decide +kernel
theorem dX5_want_0 : decode cX5_want 0 = .ok (.iload_n 1, 1) := by decide +kernel
theorem dX5_want_1 : decode cX5_want 1 = .ok (.ifCond .ne 8, 3) := by decide +kernel
theorem dX5_want_4 : decode cX5_want 4 = .ok (.ldc 100, 2) := by decide +kernel
theorem dX5_want_6 : decode cX5_want 6 = .ok (.goto 16, 3) := by decide +kernel
theorem dX5_want_9 : decode cX5_want 9 = .ok (.iload_n 1, 1) := by decide +kernel
theorem dX5_want_10 : decode cX5_want 10 = .ok (.iconst 1, 1) := by decide +kernel
theorem dX5_want_11 : decode cX5_want 11 = .ok (.if_icmp .ne 8, 3) := by decide +kernel
theorem dX5_want_14 : decode cX5_want 14 = .ok (.bipush 60, 2) := by decide +kernel
theorem dX5_want_16 : decode cX5_want 16 = .ok (.goto 6, 3) := by decide +kernel
theorem dX5_want_19 : decode cX5_want 19 = .ok (.sipush 9999, 3) := by decide +kernel
theorem dX5_want_22 : decode cX5_want 22 = .ok (.istore_n 3, 1) := by decide +kernel
theorem dX5_want_23 : decode cX5_want 23 = .ok (.iload_n 1, 1) := by decide +kernel
theorem dX5_want_24 : decode cX5_want 24 = .ok (.iconst 0, 1) := by decide +kernel
theorem dX5_want_25 : decode cX5_want 25 = .ok (.bipush 7, 2) := by decide +kernel
theorem dX5_want_27 : decode cX5_want 27 = .ok (.invokestatic 66, 3) := by decide +kernel
theorem dX5_want_30 : decode cX5_want 30 = .ok (.ifCond .eq 12, 3) := by decide +kernel
theorem dX5_want_33 : decode cX5_want 33 = .ok (.iload_n 2, 1) := by decide +kernel
theorem dX5_want_34 : decode cX5_want 34 = .ok (.iconst 0, 1) := by decide +kernel
theorem dX5_want_35 : decode cX5_want 35 = .ok (.iload_n 3, 1) := by decide +kernel
theorem dX5_want_36 : decode cX5_want 36 = .ok (.invokestatic 66, 3) := by decide +kernel
theorem dX5_want_39 : decode cX5_want 39 = .ok (.ifCond .ne 5, 3) := by decide +kernel
theorem dX5_want_42 : decode cX5_want 42 = .ok (.iconst (-1), 1) := by decide +kernel
theorem dX5_want_43 : decode cX5_want 43 = .ok (.ireturn, 1) := by decide +kernel
theorem dX5_want_44 : decode cX5_want 44 = .ok (.aload_n 0, 1) := by decide +kernel
theorem dX5_want_45 : decode cX5_want 45 = .ok (.getfield 34, 3) := by decide +kernel
theorem dX5_want_48 : decode cX5_want 48 = .ok (.iload_n 1, 1) := by decide +kernel
theorem dX5_want_49 : decode cX5_want 49 = .ok (.iaload, 1) := by decide +kernel
theorem dX5_want_50 : decode cX5_want 50 = .ok (.istore 4, 2) := by decide +kernel
theorem dX5_want_52 : decode cX5_want 52 = .ok (.aload_n 0, 1) := by decide +kernel
theorem dX5_want_53 : decode cX5_want 53 = .ok (.getfield 34, 3) := by decide +kernel
theorem dX5_want_56 : decode cX5_want 56 = .ok (.iload_n 1, 1) := by decide +kernel
theorem dX5_want_57 : decode cX5_want 57 = .ok (.iload_n 2, 1) := by decide +kernel
theorem dX5_want_58 : decode cX5_want 58 = .ok (.iastore, 1) := by decide +kernel
theorem dX5_want_59 : decode cX5_want 59 = .ok (.iload 4, 2) := by decide +kernel
theorem dX5_want_61 : decode cX5_want 61 = .ok (.ireturn, 1) := by decide +kernel
theorem dX5_has_0 : decode cX5_has 0 = .ok (.iload_n 0, 1) := by decide +kernel
theorem dX5_has_1 : decode cX5_has 1 = .ok (.iload_n 1, 1) := by decide +kernel
theorem dX5_has_2 : decode cX5_has 2 = .ok (.ishr, 1) := by decide +kernel
theorem dX5_has_3 : decode cX5_has 3 = .ok (.iconst 1, 1) := by decide +kernel
theorem dX5_has_4 : decode cX5_has 4 = .ok (.iand, 1) := by decide +kernel
theorem dX5_has_5 : decode cX5_has 5 = .ok (.iconst 1, 1) := by decide +kernel
theorem dX5_has_6 : decode cX5_has 6 = .ok (.if_icmp .ne 7, 3) := by decide +kernel
theorem dX5_has_9 : decode cX5_has 9 = .ok (.iconst 1, 1) := by decide +kernel
theorem dX5_has_10 : decode cX5_has 10 = .ok (.goto 4, 3) := by decide +kernel
theorem dX5_has_13 : decode cX5_has 13 = .ok (.iconst 0, 1) := by decide +kernel
theorem dX5_has_14 : decode cX5_has 14 = .ok (.ireturn, 1) := by decide +kernel
theorem dX5_isBlend_0 : decode cX5_isBlend 0 = .ok (.iload_n 1, 1) := by decide +kernel
theorem dX5_isBlend_1 : decode cX5_isBlend 1 = .ok (.iconst 1, 1) := by decide +kernel
theorem dX5_isBlend_2 : decode cX5_isBlend 2 = .ok (.iconst 1, 1) := by decide +kernel
theorem dX5_isBlend_3 : decode cX5_isBlend 3 = .ok (.aload_n 0, 1) := by decide +kernel
theorem dX5_isBlend_4 : decode cX5_isBlend 4 = .ok (.getfield 63, 3) := by decide +kernel
theorem dX5_isBlend_7 : decode cX5_isBlend 7 = .ok (.ishl, 1) := by decide +kernel
theorem dX5_isBlend_8 : decode cX5_isBlend 8 = .ok (.iconst 1, 1) := by decide +kernel
theorem dX5_isBlend_9 : decode cX5_isBlend 9 = .ok (.isub, 1) := by decide +kernel
theorem dX5_isBlend_10 : decode cX5_isBlend 10 = .ok (.invokestatic 66, 3) := by decide +kernel
theorem dX5_isBlend_13 : decode cX5_isBlend 13 = .ok (.istore_n 2, 1) := by decide +kernel
theorem dX5_isBlend_14 : decode cX5_isBlend 14 = .ok (.iconst 0, 1) := by decide +kernel
theorem dX5_isBlend_15 : decode cX5_isBlend 15 = .ok (.istore_n 3, 1) := by decide +kernel
theorem dX5_isBlend_16 : decode cX5_isBlend 16 = .ok (.iload_n 3, 1) := by decide +kernel
theorem dX5_isBlend_17 : decode cX5_isBlend 17 = .ok (.aload_n 0, 1) := by decide +kernel
theorem dX5_isBlend_18 : decode cX5_isBlend 18 = .ok (.getfield 63, 3) := by decide +kernel
theorem dX5_isBlend_21 : decode cX5_isBlend 21 = .ok (.if_icmp .ge 36, 3) := by decide +kernel
theorem dX5_isBlend_24 : decode cX5_isBlend 24 = .ok (.iload_n 2, 1) := by decide +kernel
theorem dX5_isBlend_25 : decode cX5_isBlend 25 = .ok (.ifCond .eq 32, 3) := by decide +kernel
theorem dX5_isBlend_28 : decode cX5_isBlend 28 = .ok (.iload_n 1, 1) := by decide +kernel
theorem dX5_isBlend_29 : decode cX5_isBlend 29 = .ok (.iload_n 3, 1) := by decide +kernel
theorem dX5_isBlend_30 : decode cX5_isBlend 30 = .ok (.invokestatic 101, 3) := by decide +kernel
theorem dX5_isBlend_33 : decode cX5_isBlend 33 = .ok (.ifCond .eq 12, 3) := by decide +kernel
theorem dX5_isBlend_36 : decode cX5_isBlend 36 = .ok (.aload_n 0, 1) := by decide +kernel
theorem dX5_isBlend_37 : decode cX5_isBlend 37 = .ok (.getfield 13, 3) := by decide +kernel
theorem dX5_isBlend_40 : decode cX5_isBlend 40 = .ok (.iload_n 3, 1) := by decide +kernel
theorem dX5_isBlend_41 : decode cX5_isBlend 41 = .ok (.iaload, 1) := by decide +kernel
theorem dX5_isBlend_42 : decode cX5_isBlend 42 = .ok (.ifCond .le 7, 3) := by decide +kernel
theorem dX5_isBlend_45 : decode cX5_isBlend 45 = .ok (.iconst 1, 1) := by decide +kernel
theorem dX5_isBlend_46 : decode cX5_isBlend 46 = .ok (.goto 4, 3) := by decide +kernel
theorem dX5_isBlend_49 : decode cX5_isBlend 49 = .ok (.iconst 0, 1) := by decide +kernel
theorem dX5_isBlend_50 : decode cX5_isBlend 50 = .ok (.istore_n 2, 1) := by decide +kernel
theorem dX5_isBlend_51 : decode cX5_isBlend 51 = .ok (.iinc 3 1, 3) := by decide +kernel
theorem dX5_isBlend_54 : decode cX5_isBlend 54 = .ok (.goto (-38), 3) := by decide +kernel
theorem dX5_isBlend_57 : decode cX5_isBlend 57 = .ok (.iload_n 2, 1) := by decide +kernel
theorem dX5_isBlend_58 : decode cX5_isBlend 58 = .ok (.ireturn, 1) := by decide +kernel
theorem dX5_dropsOf_0 : decode cX5_dropsOf 0 = .ok (.iconst 0, 1) := by decide +kernel
theorem dX5_dropsOf_1 : decode cX5_dropsOf 1 = .ok (.istore_n 2, 1) := by decide +kernel
theorem dX5_dropsOf_2 : decode cX5_dropsOf 2 = .ok (.iconst 0, 1) := by decide +kernel
theorem dX5_dropsOf_3 : decode cX5_dropsOf 3 = .ok (.istore_n 3, 1) := by decide +kernel
theorem dX5_dropsOf_4 : decode cX5_dropsOf 4 = .ok (.iload_n 3, 1) := by decide +kernel
theorem dX5_dropsOf_5 : decode cX5_dropsOf 5 = .ok (.aload_n 0, 1) := by decide +kernel
theorem dX5_dropsOf_6 : decode cX5_dropsOf 6 = .ok (.getfield 63, 3) := by decide +kernel
theorem dX5_dropsOf_9 : decode cX5_dropsOf 9 = .ok (.if_icmp .ge 30, 3) := by decide +kernel
theorem dX5_dropsOf_12 : decode cX5_dropsOf 12 = .ok (.iload_n 2, 1) := by decide +kernel
theorem dX5_dropsOf_13 : decode cX5_dropsOf 13 = .ok (.iload_n 1, 1) := by decide +kernel
theorem dX5_dropsOf_14 : decode cX5_dropsOf 14 = .ok (.iload_n 3, 1) := by decide +kernel
theorem dX5_dropsOf_15 : decode cX5_dropsOf 15 = .ok (.invokestatic 101, 3) := by decide +kernel
theorem dX5_dropsOf_18 : decode cX5_dropsOf 18 = .ok (.ifCond .eq 12, 3) := by decide +kernel
theorem dX5_dropsOf_21 : decode cX5_dropsOf 21 = .ok (.aload_n 0, 1) := by decide +kernel
theorem dX5_dropsOf_22 : decode cX5_dropsOf 22 = .ok (.getfield 13, 3) := by decide +kernel
theorem dX5_dropsOf_25 : decode cX5_dropsOf 25 = .ok (.iload_n 3, 1) := by decide +kernel
theorem dX5_dropsOf_26 : decode cX5_dropsOf 26 = .ok (.iaload, 1) := by decide +kernel
theorem dX5_dropsOf_27 : decode cX5_dropsOf 27 = .ok (.goto 4, 3) := by decide +kernel
theorem dX5_dropsOf_30 : decode cX5_dropsOf 30 = .ok (.iconst 0, 1) := by decide +kernel
theorem dX5_dropsOf_31 : decode cX5_dropsOf 31 = .ok (.iadd, 1) := by decide +kernel
theorem dX5_dropsOf_32 : decode cX5_dropsOf 32 = .ok (.istore_n 2, 1) := by decide +kernel
theorem dX5_dropsOf_33 : decode cX5_dropsOf 33 = .ok (.iinc 3 1, 3) := by decide +kernel
theorem dX5_dropsOf_36 : decode cX5_dropsOf 36 = .ok (.goto (-32), 3) := by decide +kernel
theorem dX5_dropsOf_39 : decode cX5_dropsOf 39 = .ok (.iload_n 2, 1) := by decide +kernel
theorem dX5_dropsOf_40 : decode cX5_dropsOf 40 = .ok (.ireturn, 1) := by decide +kernel
theorem dX5_partOf_0 : decode cX5_partOf 0 = .ok (.lconst 0, 1) := by decide +kernel
theorem dX5_partOf_1 : decode cX5_partOf 1 = .ok (.lstore_n 3, 1) := by decide +kernel
theorem dX5_partOf_2 : decode cX5_partOf 2 = .ok (.iconst 0, 1) := by decide +kernel
theorem dX5_partOf_3 : decode cX5_partOf 3 = .ok (.istore 5, 2) := by decide +kernel
theorem dX5_partOf_5 : decode cX5_partOf 5 = .ok (.iload 5, 2) := by decide +kernel
theorem dX5_partOf_7 : decode cX5_partOf 7 = .ok (.aload_n 0, 1) := by decide +kernel
theorem dX5_partOf_8 : decode cX5_partOf 8 = .ok (.getfield 63, 3) := by decide +kernel
theorem dX5_partOf_11 : decode cX5_partOf 11 = .ok (.if_icmp .ge 90, 3) := by decide +kernel
theorem dX5_partOf_14 : decode cX5_partOf 14 = .ok (.iload_n 2, 1) := by decide +kernel
theorem dX5_partOf_15 : decode cX5_partOf 15 = .ok (.ifCond .ne 13, 3) := by decide +kernel
theorem dX5_partOf_18 : decode cX5_partOf 18 = .ok (.aload_n 0, 1) := by decide +kernel
theorem dX5_partOf_19 : decode cX5_partOf 19 = .ok (.getfield 25, 3) := by decide +kernel
theorem dX5_partOf_22 : decode cX5_partOf 22 = .ok (.iload 5, 2) := by decide +kernel
theorem dX5_partOf_24 : decode cX5_partOf 24 = .ok (.iaload, 1) := by decide +kernel
theorem dX5_partOf_25 : decode cX5_partOf 25 = .ok (.goto 40, 3) := by decide +kernel
theorem dX5_partOf_28 : decode cX5_partOf 28 = .ok (.iload_n 2, 1) := by decide +kernel
theorem dX5_partOf_29 : decode cX5_partOf 29 = .ok (.iconst 1, 1) := by decide +kernel
theorem dX5_partOf_30 : decode cX5_partOf 30 = .ok (.if_icmp .ne 13, 3) := by decide +kernel
theorem dX5_partOf_33 : decode cX5_partOf 33 = .ok (.aload_n 0, 1) := by decide +kernel
theorem dX5_partOf_34 : decode cX5_partOf 34 = .ok (.getfield 28, 3) := by decide +kernel
theorem dX5_partOf_37 : decode cX5_partOf 37 = .ok (.iload 5, 2) := by decide +kernel
theorem dX5_partOf_39 : decode cX5_partOf 39 = .ok (.iaload, 1) := by decide +kernel
theorem dX5_partOf_40 : decode cX5_partOf 40 = .ok (.goto 25, 3) := by decide +kernel
theorem dX5_partOf_43 : decode cX5_partOf 43 = .ok (.iload_n 2, 1) := by decide +kernel
theorem dX5_partOf_44 : decode cX5_partOf 44 = .ok (.iconst 2, 1) := by decide +kernel
theorem dX5_partOf_45 : decode cX5_partOf 45 = .ok (.if_icmp .ne 13, 3) := by decide +kernel
theorem dX5_partOf_48 : decode cX5_partOf 48 = .ok (.aload_n 0, 1) := by decide +kernel
theorem dX5_partOf_49 : decode cX5_partOf 49 = .ok (.getfield 31, 3) := by decide +kernel
theorem dX5_partOf_52 : decode cX5_partOf 52 = .ok (.iload 5, 2) := by decide +kernel
theorem dX5_partOf_54 : decode cX5_partOf 54 = .ok (.iaload, 1) := by decide +kernel
theorem dX5_partOf_55 : decode cX5_partOf 55 = .ok (.goto 10, 3) := by decide +kernel
theorem dX5_partOf_58 : decode cX5_partOf 58 = .ok (.aload_n 0, 1) := by decide +kernel
theorem dX5_partOf_59 : decode cX5_partOf 59 = .ok (.getfield 16, 3) := by decide +kernel
theorem dX5_partOf_62 : decode cX5_partOf 62 = .ok (.iload 5, 2) := by decide +kernel
theorem dX5_partOf_64 : decode cX5_partOf 64 = .ok (.iaload, 1) := by decide +kernel
theorem dX5_partOf_65 : decode cX5_partOf 65 = .ok (.istore 6, 2) := by decide +kernel
theorem dX5_partOf_67 : decode cX5_partOf 67 = .ok (.lload_n 3, 1) := by decide +kernel
theorem dX5_partOf_68 : decode cX5_partOf 68 = .ok (.iload_n 1, 1) := by decide +kernel
theorem dX5_partOf_69 : decode cX5_partOf 69 = .ok (.iload 5, 2) := by decide +kernel
theorem dX5_partOf_71 : decode cX5_partOf 71 = .ok (.invokestatic 101, 3) := by decide +kernel
theorem dX5_partOf_74 : decode cX5_partOf 74 = .ok (.ifCond .eq 18, 3) := by decide +kernel
theorem dX5_partOf_77 : decode cX5_partOf 77 = .ok (.aload_n 0, 1) := by decide +kernel
theorem dX5_partOf_78 : decode cX5_partOf 78 = .ok (.getfield 13, 3) := by decide +kernel
theorem dX5_partOf_81 : decode cX5_partOf 81 = .ok (.iload 5, 2) := by decide +kernel
theorem dX5_partOf_83 : decode cX5_partOf 83 = .ok (.iaload, 1) := by decide +kernel
theorem dX5_partOf_84 : decode cX5_partOf 84 = .ok (.i2l, 1) := by decide +kernel
theorem dX5_partOf_85 : decode cX5_partOf 85 = .ok (.iload 6, 2) := by decide +kernel
theorem dX5_partOf_87 : decode cX5_partOf 87 = .ok (.i2l, 1) := by decide +kernel
theorem dX5_partOf_88 : decode cX5_partOf 88 = .ok (.lmul, 1) := by decide +kernel
theorem dX5_partOf_89 : decode cX5_partOf 89 = .ok (.goto 4, 3) := by decide +kernel
theorem dX5_partOf_92 : decode cX5_partOf 92 = .ok (.lconst 0, 1) := by decide +kernel
theorem dX5_partOf_93 : decode cX5_partOf 93 = .ok (.ladd, 1) := by decide +kernel
theorem dX5_partOf_94 : decode cX5_partOf 94 = .ok (.lstore_n 3, 1) := by decide +kernel
theorem dX5_partOf_95 : decode cX5_partOf 95 = .ok (.iinc 5 1, 3) := by decide +kernel
theorem dX5_partOf_98 : decode cX5_partOf 98 = .ok (.goto (-93), 3) := by decide +kernel
theorem dX5_partOf_101 : decode cX5_partOf 101 = .ok (.lload_n 3, 1) := by decide +kernel
theorem dX5_partOf_102 : decode cX5_partOf 102 = .ok (.aload_n 0, 1) := by decide +kernel
theorem dX5_partOf_103 : decode cX5_partOf 103 = .ok (.iload_n 1, 1) := by decide +kernel
theorem dX5_partOf_104 : decode cX5_partOf 104 = .ok (.invokevirtual 105, 3) := by decide +kernel
theorem dX5_partOf_107 : decode cX5_partOf 107 = .ok (.i2l, 1) := by decide +kernel
theorem dX5_partOf_108 : decode cX5_partOf 108 = .ok (.ldiv, 1) := by decide +kernel
theorem dX5_partOf_109 : decode cX5_partOf 109 = .ok (.l2i, 1) := by decide +kernel
theorem dX5_partOf_110 : decode cX5_partOf 110 = .ok (.ireturn, 1) := by decide +kernel
theorem dX5_youngest_0 : decode cX5_youngest 0 = .ok (.bipush 61, 2) := by decide +kernel
theorem dX5_youngest_2 : decode cX5_youngest 2 = .ok (.istore_n 2, 1) := by decide +kernel
theorem dX5_youngest_3 : decode cX5_youngest 3 = .ok (.iconst 0, 1) := by decide +kernel
theorem dX5_youngest_4 : decode cX5_youngest 4 = .ok (.istore_n 3, 1) := by decide +kernel
theorem dX5_youngest_5 : decode cX5_youngest 5 = .ok (.iload_n 3, 1) := by decide +kernel
theorem dX5_youngest_6 : decode cX5_youngest 6 = .ok (.aload_n 0, 1) := by decide +kernel
theorem dX5_youngest_7 : decode cX5_youngest 7 = .ok (.getfield 63, 3) := by decide +kernel
theorem dX5_youngest_10 : decode cX5_youngest 10 = .ok (.if_icmp .ge 36, 3) := by decide +kernel
theorem dX5_youngest_13 : decode cX5_youngest 13 = .ok (.iload_n 1, 1) := by decide +kernel
theorem dX5_youngest_14 : decode cX5_youngest 14 = .ok (.iload_n 3, 1) := by decide +kernel
theorem dX5_youngest_15 : decode cX5_youngest 15 = .ok (.invokestatic 101, 3) := by decide +kernel
theorem dX5_youngest_18 : decode cX5_youngest 18 = .ok (.ifCond .eq 20, 3) := by decide +kernel
theorem dX5_youngest_21 : decode cX5_youngest 21 = .ok (.aload_n 0, 1) := by decide +kernel
theorem dX5_youngest_22 : decode cX5_youngest 22 = .ok (.iload_n 3, 1) := by decide +kernel
theorem dX5_youngest_23 : decode cX5_youngest 23 = .ok (.invokevirtual 93, 3) := by decide +kernel
theorem dX5_youngest_26 : decode cX5_youngest 26 = .ok (.iload_n 2, 1) := by decide +kernel
theorem dX5_youngest_27 : decode cX5_youngest 27 = .ok (.if_icmp .ge 11, 3) := by decide +kernel
theorem dX5_youngest_30 : decode cX5_youngest 30 = .ok (.aload_n 0, 1) := by decide +kernel
theorem dX5_youngest_31 : decode cX5_youngest 31 = .ok (.iload_n 3, 1) := by decide +kernel
theorem dX5_youngest_32 : decode cX5_youngest 32 = .ok (.invokevirtual 93, 3) := by decide +kernel
theorem dX5_youngest_35 : decode cX5_youngest 35 = .ok (.goto 4, 3) := by decide +kernel
theorem dX5_youngest_38 : decode cX5_youngest 38 = .ok (.iload_n 2, 1) := by decide +kernel
theorem dX5_youngest_39 : decode cX5_youngest 39 = .ok (.istore_n 2, 1) := by decide +kernel
theorem dX5_youngest_40 : decode cX5_youngest 40 = .ok (.iinc 3 1, 3) := by decide +kernel
theorem dX5_youngest_43 : decode cX5_youngest 43 = .ok (.goto (-38), 3) := by decide +kernel
theorem dX5_youngest_46 : decode cX5_youngest 46 = .ok (.iload_n 2, 1) := by decide +kernel
theorem dX5_youngest_47 : decode cX5_youngest 47 = .ok (.ireturn, 1) := by decide +kernel
theorem dX5_costs_0 : decode cX5_costs 0 = .ok (.iconst 0, 1) := by decide +kernel
theorem dX5_costs_1 : decode cX5_costs 1 = .ok (.istore_n 2, 1) := by decide +kernel
theorem dX5_costs_2 : decode cX5_costs 2 = .ok (.iconst 0, 1) := by decide +kernel
theorem dX5_costs_3 : decode cX5_costs 3 = .ok (.istore_n 3, 1) := by decide +kernel
theorem dX5_costs_4 : decode cX5_costs 4 = .ok (.iload_n 3, 1) := by decide +kernel
theorem dX5_costs_5 : decode cX5_costs 5 = .ok (.aload_n 0, 1) := by decide +kernel
theorem dX5_costs_6 : decode cX5_costs 6 = .ok (.getfield 63, 3) := by decide +kernel
theorem dX5_costs_9 : decode cX5_costs 9 = .ok (.if_icmp .ge 29, 3) := by decide +kernel
theorem dX5_costs_12 : decode cX5_costs 12 = .ok (.iload_n 2, 1) := by decide +kernel
theorem dX5_costs_13 : decode cX5_costs 13 = .ok (.iload_n 1, 1) := by decide +kernel
theorem dX5_costs_14 : decode cX5_costs 14 = .ok (.iload_n 3, 1) := by decide +kernel
theorem dX5_costs_15 : decode cX5_costs 15 = .ok (.invokestatic 101, 3) := by decide +kernel
theorem dX5_costs_18 : decode cX5_costs 18 = .ok (.ifCond .eq 11, 3) := by decide +kernel
theorem dX5_costs_21 : decode cX5_costs 21 = .ok (.aload_n 0, 1) := by decide +kernel
theorem dX5_costs_22 : decode cX5_costs 22 = .ok (.iload_n 3, 1) := by decide +kernel
theorem dX5_costs_23 : decode cX5_costs 23 = .ok (.invokevirtual 97, 3) := by decide +kernel
theorem dX5_costs_26 : decode cX5_costs 26 = .ok (.goto 4, 3) := by decide +kernel
theorem dX5_costs_29 : decode cX5_costs 29 = .ok (.iconst 0, 1) := by decide +kernel
theorem dX5_costs_30 : decode cX5_costs 30 = .ok (.iadd, 1) := by decide +kernel
theorem dX5_costs_31 : decode cX5_costs 31 = .ok (.istore_n 2, 1) := by decide +kernel
theorem dX5_costs_32 : decode cX5_costs 32 = .ok (.iinc 3 1, 3) := by decide +kernel
theorem dX5_costs_35 : decode cX5_costs 35 = .ok (.goto (-31), 3) := by decide +kernel
end
section
theorem dX5_costs_38 : decode cX5_costs 38 = .ok (.iload_n 2, 1) := by decide +kernel
theorem dX5_costs_39 : decode cX5_costs 39 = .ok (.ireturn, 1) := by decide +kernel
theorem dX5_isRight_0 : decode cX5_isRight 0 = .ok (.aload_n 0, 1) := by decide +kernel
theorem dX5_isRight_1 : decode cX5_isRight 1 = .ok (.iload_n 1, 1) := by decide +kernel
theorem dX5_isRight_2 : decode cX5_isRight 2 = .ok (.invokevirtual 105, 3) := by decide +kernel
theorem dX5_isRight_5 : decode cX5_isRight 5 = .ok (.aload_n 0, 1) := by decide +kernel
theorem dX5_isRight_6 : decode cX5_isRight 6 = .ok (.getfield 34, 3) := by decide +kernel
theorem dX5_isRight_9 : decode cX5_isRight 9 = .ok (.iconst 0, 1) := by decide +kernel
theorem dX5_isRight_10 : decode cX5_isRight 10 = .ok (.iaload, 1) := by decide +kernel
theorem dX5_isRight_11 : decode cX5_isRight 11 = .ok (.if_icmp .lt 21, 3) := by decide +kernel
theorem dX5_isRight_14 : decode cX5_isRight 14 = .ok (.aload_n 0, 1) := by decide +kernel
theorem dX5_isRight_15 : decode cX5_isRight 15 = .ok (.iload_n 1, 1) := by decide +kernel
theorem dX5_isRight_16 : decode cX5_isRight 16 = .ok (.invokevirtual 108, 3) := by decide +kernel
theorem dX5_isRight_19 : decode cX5_isRight 19 = .ok (.aload_n 0, 1) := by decide +kernel
theorem dX5_isRight_20 : decode cX5_isRight 20 = .ok (.getfield 34, 3) := by decide +kernel
theorem dX5_isRight_23 : decode cX5_isRight 23 = .ok (.iconst 1, 1) := by decide +kernel
theorem dX5_isRight_24 : decode cX5_isRight 24 = .ok (.iaload, 1) := by decide +kernel
theorem dX5_isRight_25 : decode cX5_isRight 25 = .ok (.if_icmp .lt 7, 3) := by decide +kernel
theorem dX5_isRight_28 : decode cX5_isRight 28 = .ok (.iconst 1, 1) := by decide +kernel
theorem dX5_isRight_29 : decode cX5_isRight 29 = .ok (.goto 4, 3) := by decide +kernel
theorem dX5_isRight_32 : decode cX5_isRight 32 = .ok (.iconst 0, 1) := by decide +kernel
theorem dX5_isRight_33 : decode cX5_isRight 33 = .ok (.istore_n 2, 1) := by decide +kernel
theorem dX5_isRight_34 : decode cX5_isRight 34 = .ok (.iconst 0, 1) := by decide +kernel
theorem dX5_isRight_35 : decode cX5_isRight 35 = .ok (.istore_n 3, 1) := by decide +kernel
theorem dX5_isRight_36 : decode cX5_isRight 36 = .ok (.iload_n 3, 1) := by decide +kernel
theorem dX5_isRight_37 : decode cX5_isRight 37 = .ok (.iconst 3, 1) := by decide +kernel
theorem dX5_isRight_38 : decode cX5_isRight 38 = .ok (.if_icmp .ge 43, 3) := by decide +kernel
theorem dX5_isRight_41 : decode cX5_isRight 41 = .ok (.iload_n 2, 1) := by decide +kernel
theorem dX5_isRight_42 : decode cX5_isRight 42 = .ok (.ifCond .eq 39, 3) := by decide +kernel
theorem dX5_isRight_45 : decode cX5_isRight 45 = .ok (.aload_n 0, 1) := by decide +kernel
theorem dX5_isRight_46 : decode cX5_isRight 46 = .ok (.iload_n 1, 1) := by decide +kernel
theorem dX5_isRight_47 : decode cX5_isRight 47 = .ok (.iload_n 3, 1) := by decide +kernel
theorem dX5_isRight_48 : decode cX5_isRight 48 = .ok (.invokevirtual 111, 3) := by decide +kernel
theorem dX5_isRight_51 : decode cX5_isRight 51 = .ok (.aload_n 0, 1) := by decide +kernel
theorem dX5_isRight_52 : decode cX5_isRight 52 = .ok (.getfield 34, 3) := by decide +kernel
theorem dX5_isRight_55 : decode cX5_isRight 55 = .ok (.iconst 2, 1) := by decide +kernel
theorem dX5_isRight_56 : decode cX5_isRight 56 = .ok (.iconst 2, 1) := by decide +kernel
theorem dX5_isRight_57 : decode cX5_isRight 57 = .ok (.iload_n 3, 1) := by decide +kernel
theorem dX5_isRight_58 : decode cX5_isRight 58 = .ok (.imul, 1) := by decide +kernel
theorem dX5_isRight_59 : decode cX5_isRight 59 = .ok (.iadd, 1) := by decide +kernel
theorem dX5_isRight_60 : decode cX5_isRight 60 = .ok (.iaload, 1) := by decide +kernel
theorem dX5_isRight_61 : decode cX5_isRight 61 = .ok (.aload_n 0, 1) := by decide +kernel
theorem dX5_isRight_62 : decode cX5_isRight 62 = .ok (.getfield 34, 3) := by decide +kernel
theorem dX5_isRight_65 : decode cX5_isRight 65 = .ok (.iconst 3, 1) := by decide +kernel
theorem dX5_isRight_66 : decode cX5_isRight 66 = .ok (.iconst 2, 1) := by decide +kernel
theorem dX5_isRight_67 : decode cX5_isRight 67 = .ok (.iload_n 3, 1) := by decide +kernel
theorem dX5_isRight_68 : decode cX5_isRight 68 = .ok (.imul, 1) := by decide +kernel
theorem dX5_isRight_69 : decode cX5_isRight 69 = .ok (.iadd, 1) := by decide +kernel
theorem dX5_isRight_70 : decode cX5_isRight 70 = .ok (.iaload, 1) := by decide +kernel
theorem dX5_isRight_71 : decode cX5_isRight 71 = .ok (.invokestatic 66, 3) := by decide +kernel
theorem dX5_isRight_74 : decode cX5_isRight 74 = .ok (.istore_n 2, 1) := by decide +kernel
theorem dX5_isRight_75 : decode cX5_isRight 75 = .ok (.iinc 3 1, 3) := by decide +kernel
theorem dX5_isRight_78 : decode cX5_isRight 78 = .ok (.goto (-42), 3) := by decide +kernel
theorem dX5_isRight_81 : decode cX5_isRight 81 = .ok (.iload_n 2, 1) := by decide +kernel
theorem dX5_isRight_82 : decode cX5_isRight 82 = .ok (.ireturn, 1) := by decide +kernel
theorem dX5_blend_0 : decode cX5_blend 0 = .ok (.aload_n 0, 1) := by decide +kernel
theorem dX5_blend_1 : decode cX5_blend 1 = .ok (.iload_n 1, 1) := by decide +kernel
theorem dX5_blend_2 : decode cX5_blend 2 = .ok (.invokevirtual 114, 3) := by decide +kernel
theorem dX5_blend_5 : decode cX5_blend 5 = .ok (.ifCond .ne 5, 3) := by decide +kernel
theorem dX5_blend_8 : decode cX5_blend 8 = .ok (.iconst (-1), 1) := by decide +kernel
theorem dX5_blend_9 : decode cX5_blend 9 = .ok (.ireturn, 1) := by decide +kernel
theorem dX5_blend_10 : decode cX5_blend 10 = .ok (.iload_n 2, 1) := by decide +kernel
theorem dX5_blend_11 : decode cX5_blend 11 = .ok (.tableswitch 93 0 7 #[45, 51, 58, 64, 64, 64, 73, 79], 45) := by decide +kernel
theorem dX5_blend_56 : decode cX5_blend 56 = .ok (.aload_n 0, 1) := by decide +kernel
theorem dX5_blend_57 : decode cX5_blend 57 = .ok (.iload_n 1, 1) := by decide +kernel
theorem dX5_blend_58 : decode cX5_blend 58 = .ok (.invokevirtual 105, 3) := by decide +kernel
theorem dX5_blend_61 : decode cX5_blend 61 = .ok (.ireturn, 1) := by decide +kernel
theorem dX5_blend_62 : decode cX5_blend 62 = .ok (.aload_n 0, 1) := by decide +kernel
theorem dX5_blend_63 : decode cX5_blend 63 = .ok (.iload_n 1, 1) := by decide +kernel
theorem dX5_blend_64 : decode cX5_blend 64 = .ok (.iconst 3, 1) := by decide +kernel
theorem dX5_blend_65 : decode cX5_blend 65 = .ok (.invokevirtual 111, 3) := by decide +kernel
theorem dX5_blend_68 : decode cX5_blend 68 = .ok (.ireturn, 1) := by decide +kernel
theorem dX5_blend_69 : decode cX5_blend 69 = .ok (.aload_n 0, 1) := by decide +kernel
theorem dX5_blend_70 : decode cX5_blend 70 = .ok (.iload_n 1, 1) := by decide +kernel
theorem dX5_blend_71 : decode cX5_blend 71 = .ok (.invokevirtual 108, 3) := by decide +kernel
theorem dX5_blend_74 : decode cX5_blend 74 = .ok (.ireturn, 1) := by decide +kernel
theorem dX5_blend_75 : decode cX5_blend 75 = .ok (.aload_n 0, 1) := by decide +kernel
theorem dX5_blend_76 : decode cX5_blend 76 = .ok (.iload_n 1, 1) := by decide +kernel
theorem dX5_blend_77 : decode cX5_blend 77 = .ok (.iload_n 2, 1) := by decide +kernel
theorem dX5_blend_78 : decode cX5_blend 78 = .ok (.iconst 3, 1) := by decide +kernel
theorem dX5_blend_79 : decode cX5_blend 79 = .ok (.isub, 1) := by decide +kernel
theorem dX5_blend_80 : decode cX5_blend 80 = .ok (.invokevirtual 111, 3) := by decide +kernel
theorem dX5_blend_83 : decode cX5_blend 83 = .ok (.ireturn, 1) := by decide +kernel
theorem dX5_blend_84 : decode cX5_blend 84 = .ok (.aload_n 0, 1) := by decide +kernel
theorem dX5_blend_85 : decode cX5_blend 85 = .ok (.iload_n 1, 1) := by decide +kernel
theorem dX5_blend_86 : decode cX5_blend 86 = .ok (.invokevirtual 117, 3) := by decide +kernel
theorem dX5_blend_89 : decode cX5_blend 89 = .ok (.ireturn, 1) := by decide +kernel
theorem dX5_blend_90 : decode cX5_blend 90 = .ok (.aload_n 0, 1) := by decide +kernel
theorem dX5_blend_91 : decode cX5_blend 91 = .ok (.iload_n 1, 1) := by decide +kernel
theorem dX5_blend_92 : decode cX5_blend 92 = .ok (.invokevirtual 120, 3) := by decide +kernel
theorem dX5_blend_95 : decode cX5_blend 95 = .ok (.ifCond .eq 7, 3) := by decide +kernel
theorem dX5_blend_98 : decode cX5_blend 98 = .ok (.iconst 1, 1) := by decide +kernel
theorem dX5_blend_99 : decode cX5_blend 99 = .ok (.goto 4, 3) := by decide +kernel
theorem dX5_blend_102 : decode cX5_blend 102 = .ok (.iconst 0, 1) := by decide +kernel
theorem dX5_blend_103 : decode cX5_blend 103 = .ok (.ireturn, 1) := by decide +kernel
theorem dX5_blend_104 : decode cX5_blend 104 = .ok (.iconst (-1), 1) := by decide +kernel
theorem dX5_blend_105 : decode cX5_blend 105 = .ok (.ireturn, 1) := by decide +kernel
theorem dX5_best_0 : decode cX5_best 0 = .ok (.iload_n 1, 1) := by decide +kernel
theorem dX5_best_1 : decode cX5_best 1 = .ok (.iconst 0, 1) := by decide +kernel
theorem dX5_best_2 : decode cX5_best 2 = .ok (.iconst 1, 1) := by decide +kernel
theorem dX5_best_3 : decode cX5_best 3 = .ok (.invokestatic 66, 3) := by decide +kernel
theorem dX5_best_6 : decode cX5_best 6 = .ok (.ifCond .ne 5, 3) := by decide +kernel
theorem dX5_best_9 : decode cX5_best 9 = .ok (.iconst (-1), 1) := by decide +kernel
theorem dX5_best_10 : decode cX5_best 10 = .ok (.ireturn, 1) := by decide +kernel
theorem dX5_best_11 : decode cX5_best 11 = .ok (.bipush (-9), 2) := by decide +kernel
theorem dX5_best_13 : decode cX5_best 13 = .ok (.istore_n 2, 1) := by decide +kernel
theorem dX5_best_14 : decode cX5_best 14 = .ok (.bipush (-9), 2) := by decide +kernel
theorem dX5_best_16 : decode cX5_best 16 = .ok (.istore_n 3, 1) := by decide +kernel
theorem dX5_best_17 : decode cX5_best 17 = .ok (.iconst 1, 1) := by decide +kernel
theorem dX5_best_18 : decode cX5_best 18 = .ok (.istore 4, 2) := by decide +kernel
theorem dX5_best_20 : decode cX5_best 20 = .ok (.iload 4, 2) := by decide +kernel
theorem dX5_best_22 : decode cX5_best 22 = .ok (.iconst 1, 1) := by decide +kernel
theorem dX5_best_23 : decode cX5_best 23 = .ok (.aload_n 0, 1) := by decide +kernel
theorem dX5_best_24 : decode cX5_best 24 = .ok (.getfield 63, 3) := by decide +kernel
theorem dX5_best_27 : decode cX5_best 27 = .ok (.ishl, 1) := by decide +kernel
theorem dX5_best_28 : decode cX5_best 28 = .ok (.if_icmp .ge 53, 3) := by decide +kernel
theorem dX5_best_31 : decode cX5_best 31 = .ok (.aload_n 0, 1) := by decide +kernel
theorem dX5_best_32 : decode cX5_best 32 = .ok (.iload 4, 2) := by decide +kernel
theorem dX5_best_34 : decode cX5_best 34 = .ok (.invokevirtual 114, 3) := by decide +kernel
theorem dX5_best_37 : decode cX5_best 37 = .ok (.ifCond .eq 38, 3) := by decide +kernel
theorem dX5_best_40 : decode cX5_best 40 = .ok (.aload_n 0, 1) := by decide +kernel
theorem dX5_best_41 : decode cX5_best 41 = .ok (.iload 4, 2) := by decide +kernel
theorem dX5_best_43 : decode cX5_best 43 = .ok (.invokevirtual 117, 3) := by decide +kernel
theorem dX5_best_46 : decode cX5_best 46 = .ok (.istore 5, 2) := by decide +kernel
theorem dX5_best_48 : decode cX5_best 48 = .ok (.iload_n 2, 1) := by decide +kernel
theorem dX5_best_49 : decode cX5_best 49 = .ok (.bipush (-9), 2) := by decide +kernel
theorem dX5_best_51 : decode cX5_best 51 = .ok (.if_icmp .eq 9, 3) := by decide +kernel
theorem dX5_best_54 : decode cX5_best 54 = .ok (.iload 5, 2) := by decide +kernel
theorem dX5_best_56 : decode cX5_best 56 = .ok (.iload_n 3, 1) := by decide +kernel
theorem dX5_best_57 : decode cX5_best 57 = .ok (.if_icmp .ge 18, 3) := by decide +kernel
theorem dX5_best_60 : decode cX5_best 60 = .ok (.aload_n 0, 1) := by decide +kernel
theorem dX5_best_61 : decode cX5_best 61 = .ok (.iload 4, 2) := by decide +kernel
theorem dX5_best_63 : decode cX5_best 63 = .ok (.invokevirtual 120, 3) := by decide +kernel
theorem dX5_best_66 : decode cX5_best 66 = .ok (.ifCond .eq 9, 3) := by decide +kernel
theorem dX5_best_69 : decode cX5_best 69 = .ok (.iload 4, 2) := by decide +kernel
theorem dX5_best_71 : decode cX5_best 71 = .ok (.istore_n 2, 1) := by decide +kernel
theorem dX5_best_72 : decode cX5_best 72 = .ok (.iload 5, 2) := by decide +kernel
theorem dX5_best_74 : decode cX5_best 74 = .ok (.istore_n 3, 1) := by decide +kernel
theorem dX5_best_75 : decode cX5_best 75 = .ok (.iinc 4 1, 3) := by decide +kernel
theorem dX5_best_78 : decode cX5_best 78 = .ok (.goto (-58), 3) := by decide +kernel
theorem dX5_best_81 : decode cX5_best 81 = .ok (.iload_n 1, 1) := by decide +kernel
theorem dX5_best_82 : decode cX5_best 82 = .ok (.ifCond .ne 7, 3) := by decide +kernel
theorem dX5_best_85 : decode cX5_best 85 = .ok (.iload_n 2, 1) := by decide +kernel
theorem dX5_best_86 : decode cX5_best 86 = .ok (.goto 4, 3) := by decide +kernel
theorem dX5_best_89 : decode cX5_best 89 = .ok (.iload_n 3, 1) := by decide +kernel
theorem dX5_best_90 : decode cX5_best 90 = .ok (.ireturn, 1) := by decide +kernel
theorem dX5_lasts_0 : decode cX5_lasts 0 = .ok (.iload_n 1, 1) := by decide +kernel
theorem dX5_lasts_1 : decode cX5_lasts 1 = .ok (.iconst 1, 1) := by decide +kernel
theorem dX5_lasts_2 : decode cX5_lasts 2 = .ok (.sipush 9999, 3) := by decide +kernel
theorem dX5_lasts_5 : decode cX5_lasts 5 = .ok (.invokestatic 66, 3) := by decide +kernel
theorem dX5_lasts_8 : decode cX5_lasts 8 = .ok (.ifCond .eq 13, 3) := by decide +kernel
theorem dX5_lasts_11 : decode cX5_lasts 11 = .ok (.iload_n 2, 1) := by decide +kernel
theorem dX5_lasts_12 : decode cX5_lasts 12 = .ok (.iconst 0, 1) := by decide +kernel
theorem dX5_lasts_13 : decode cX5_lasts 13 = .ok (.bipush 60, 2) := by decide +kernel
theorem dX5_lasts_15 : decode cX5_lasts 15 = .ok (.invokestatic 66, 3) := by decide +kernel
theorem dX5_lasts_18 : decode cX5_lasts 18 = .ok (.ifCond .ne 5, 3) := by decide +kernel
theorem dX5_lasts_21 : decode cX5_lasts 21 = .ok (.iconst (-1), 1) := by decide +kernel
theorem dX5_lasts_22 : decode cX5_lasts 22 = .ok (.ireturn, 1) := by decide +kernel
theorem dX5_lasts_23 : decode cX5_lasts 23 = .ok (.iconst 0, 1) := by decide +kernel
theorem dX5_lasts_24 : decode cX5_lasts 24 = .ok (.istore_n 3, 1) := by decide +kernel
theorem dX5_lasts_25 : decode cX5_lasts 25 = .ok (.iload_n 3, 1) := by decide +kernel
theorem dX5_lasts_26 : decode cX5_lasts 26 = .ok (.aload_n 0, 1) := by decide +kernel
theorem dX5_lasts_27 : decode cX5_lasts 27 = .ok (.getfield 63, 3) := by decide +kernel
theorem dX5_lasts_30 : decode cX5_lasts 30 = .ok (.if_icmp .ge 21, 3) := by decide +kernel
theorem dX5_lasts_33 : decode cX5_lasts 33 = .ok (.aload_n 0, 1) := by decide +kernel
theorem dX5_lasts_34 : decode cX5_lasts 34 = .ok (.getfield 50, 3) := by decide +kernel
theorem dX5_lasts_37 : decode cX5_lasts 37 = .ok (.iload_n 3, 1) := by decide +kernel
theorem dX5_lasts_38 : decode cX5_lasts 38 = .ok (.aload_n 0, 1) := by decide +kernel
theorem dX5_lasts_39 : decode cX5_lasts 39 = .ok (.getfield 13, 3) := by decide +kernel
theorem dX5_lasts_42 : decode cX5_lasts 42 = .ok (.iload_n 3, 1) := by decide +kernel
theorem dX5_lasts_43 : decode cX5_lasts 43 = .ok (.iaload, 1) := by decide +kernel
theorem dX5_lasts_44 : decode cX5_lasts 44 = .ok (.iastore, 1) := by decide +kernel
theorem dX5_lasts_45 : decode cX5_lasts 45 = .ok (.iinc 3 1, 3) := by decide +kernel
theorem dX5_lasts_48 : decode cX5_lasts 48 = .ok (.goto (-23), 3) := by decide +kernel
theorem dX5_lasts_51 : decode cX5_lasts 51 = .ok (.iconst 0, 1) := by decide +kernel
theorem dX5_lasts_52 : decode cX5_lasts 52 = .ok (.istore_n 3, 1) := by decide +kernel
theorem dX5_lasts_53 : decode cX5_lasts 53 = .ok (.iload_n 3, 1) := by decide +kernel
theorem dX5_lasts_54 : decode cX5_lasts 54 = .ok (.bipush 30, 2) := by decide +kernel
theorem dX5_lasts_56 : decode cX5_lasts 56 = .ok (.if_icmp .ge 267, 3) := by decide +kernel
theorem dX5_lasts_59 : decode cX5_lasts 59 = .ok (.iconst 0, 1) := by decide +kernel
theorem dX5_lasts_60 : decode cX5_lasts 60 = .ok (.istore 4, 2) := by decide +kernel
theorem dX5_lasts_62 : decode cX5_lasts 62 = .ok (.iconst 0, 1) := by decide +kernel
theorem dX5_lasts_63 : decode cX5_lasts 63 = .ok (.istore 5, 2) := by decide +kernel
theorem dX5_lasts_65 : decode cX5_lasts 65 = .ok (.iload 5, 2) := by decide +kernel
theorem dX5_lasts_67 : decode cX5_lasts 67 = .ok (.aload_n 0, 1) := by decide +kernel
theorem dX5_lasts_68 : decode cX5_lasts 68 = .ok (.getfield 63, 3) := by decide +kernel
theorem dX5_lasts_71 : decode cX5_lasts 71 = .ok (.if_icmp .ge 37, 3) := by decide +kernel
theorem dX5_lasts_74 : decode cX5_lasts 74 = .ok (.iload 4, 2) := by decide +kernel
theorem dX5_lasts_76 : decode cX5_lasts 76 = .ok (.aload_n 0, 1) := by decide +kernel
theorem dX5_lasts_77 : decode cX5_lasts 77 = .ok (.iload 5, 2) := by decide +kernel
theorem dX5_lasts_79 : decode cX5_lasts 79 = .ok (.invokevirtual 93, 3) := by decide +kernel
theorem dX5_lasts_82 : decode cX5_lasts 82 = .ok (.iload_n 3, 1) := by decide +kernel
theorem dX5_lasts_83 : decode cX5_lasts 83 = .ok (.iadd, 1) := by decide +kernel
theorem dX5_lasts_84 : decode cX5_lasts 84 = .ok (.iload_n 2, 1) := by decide +kernel
theorem dX5_lasts_85 : decode cX5_lasts 85 = .ok (.if_icmp .lt 13, 3) := by decide +kernel
theorem dX5_lasts_88 : decode cX5_lasts 88 = .ok (.aload_n 0, 1) := by decide +kernel
theorem dX5_lasts_89 : decode cX5_lasts 89 = .ok (.getfield 50, 3) := by decide +kernel
theorem dX5_lasts_92 : decode cX5_lasts 92 = .ok (.iload 5, 2) := by decide +kernel
theorem dX5_lasts_94 : decode cX5_lasts 94 = .ok (.iaload, 1) := by decide +kernel
theorem dX5_lasts_95 : decode cX5_lasts 95 = .ok (.goto 4, 3) := by decide +kernel
theorem dX5_lasts_98 : decode cX5_lasts 98 = .ok (.iconst 0, 1) := by decide +kernel
theorem dX5_lasts_99 : decode cX5_lasts 99 = .ok (.iadd, 1) := by decide +kernel
theorem dX5_lasts_100 : decode cX5_lasts 100 = .ok (.istore 4, 2) := by decide +kernel
theorem dX5_lasts_102 : decode cX5_lasts 102 = .ok (.iinc 5 1, 3) := by decide +kernel
theorem dX5_lasts_105 : decode cX5_lasts 105 = .ok (.goto (-40), 3) := by decide +kernel
theorem dX5_lasts_108 : decode cX5_lasts 108 = .ok (.iload 4, 2) := by decide +kernel
theorem dX5_lasts_110 : decode cX5_lasts 110 = .ok (.iload_n 1, 1) := by decide +kernel
theorem dX5_lasts_111 : decode cX5_lasts 111 = .ok (.if_icmp .ge 5, 3) := by decide +kernel
theorem dX5_lasts_114 : decode cX5_lasts 114 = .ok (.iload_n 3, 1) := by decide +kernel
theorem dX5_lasts_115 : decode cX5_lasts 115 = .ok (.ireturn, 1) := by decide +kernel
theorem dX5_lasts_116 : decode cX5_lasts 116 = .ok (.iload_n 1, 1) := by decide +kernel
theorem dX5_lasts_117 : decode cX5_lasts 117 = .ok (.istore 5, 2) := by decide +kernel
theorem dX5_lasts_119 : decode cX5_lasts 119 = .ok (.iload 5, 2) := by decide +kernel
theorem dX5_lasts_121 : decode cX5_lasts 121 = .ok (.ifCond .le 137, 3) := by decide +kernel
theorem dX5_lasts_124 : decode cX5_lasts 124 = .ok (.iconst (-1), 1) := by decide +kernel
theorem dX5_lasts_125 : decode cX5_lasts 125 = .ok (.istore 6, 2) := by decide +kernel
theorem dX5_lasts_127 : decode cX5_lasts 127 = .ok (.iconst 0, 1) := by decide +kernel
theorem dX5_lasts_128 : decode cX5_lasts 128 = .ok (.istore 7, 2) := by decide +kernel
theorem dX5_lasts_130 : decode cX5_lasts 130 = .ok (.iload 7, 2) := by decide +kernel
theorem dX5_lasts_132 : decode cX5_lasts 132 = .ok (.aload_n 0, 1) := by decide +kernel
theorem dX5_lasts_133 : decode cX5_lasts 133 = .ok (.getfield 63, 3) := by decide +kernel
theorem dX5_lasts_136 : decode cX5_lasts 136 = .ok (.if_icmp .ge 74, 3) := by decide +kernel
theorem dX5_lasts_139 : decode cX5_lasts 139 = .ok (.aload_n 0, 1) := by decide +kernel
theorem dX5_lasts_140 : decode cX5_lasts 140 = .ok (.getfield 50, 3) := by decide +kernel
theorem dX5_lasts_143 : decode cX5_lasts 143 = .ok (.iload 7, 2) := by decide +kernel
theorem dX5_lasts_145 : decode cX5_lasts 145 = .ok (.iaload, 1) := by decide +kernel
theorem dX5_lasts_146 : decode cX5_lasts 146 = .ok (.ifCond .le 19, 3) := by decide +kernel
theorem dX5_lasts_149 : decode cX5_lasts 149 = .ok (.aload_n 0, 1) := by decide +kernel
theorem dX5_lasts_150 : decode cX5_lasts 150 = .ok (.iload 7, 2) := by decide +kernel
theorem dX5_lasts_152 : decode cX5_lasts 152 = .ok (.invokevirtual 93, 3) := by decide +kernel
theorem dX5_lasts_155 : decode cX5_lasts 155 = .ok (.iload_n 3, 1) := by decide +kernel
theorem dX5_lasts_156 : decode cX5_lasts 156 = .ok (.iadd, 1) := by decide +kernel
theorem dX5_lasts_157 : decode cX5_lasts 157 = .ok (.iload_n 2, 1) := by decide +kernel
theorem dX5_lasts_158 : decode cX5_lasts 158 = .ok (.if_icmp .lt 7, 3) := by decide +kernel
theorem dX5_lasts_161 : decode cX5_lasts 161 = .ok (.iconst 1, 1) := by decide +kernel
theorem dX5_lasts_162 : decode cX5_lasts 162 = .ok (.goto 4, 3) := by decide +kernel
theorem dX5_lasts_165 : decode cX5_lasts 165 = .ok (.iconst 0, 1) := by decide +kernel
theorem dX5_lasts_166 : decode cX5_lasts 166 = .ok (.istore 8, 2) := by decide +kernel
theorem dX5_lasts_168 : decode cX5_lasts 168 = .ok (.iload 8, 2) := by decide +kernel
theorem dX5_lasts_170 : decode cX5_lasts 170 = .ok (.ifCond .eq 30, 3) := by decide +kernel
theorem dX5_lasts_173 : decode cX5_lasts 173 = .ok (.iload 6, 2) := by decide +kernel
theorem dX5_lasts_175 : decode cX5_lasts 175 = .ok (.ifCond .lt 20, 3) := by decide +kernel
theorem dX5_lasts_178 : decode cX5_lasts 178 = .ok (.aload_n 0, 1) := by decide +kernel
theorem dX5_lasts_179 : decode cX5_lasts 179 = .ok (.getfield 22, 3) := by decide +kernel
theorem dX5_lasts_182 : decode cX5_lasts 182 = .ok (.iload 7, 2) := by decide +kernel
theorem dX5_lasts_184 : decode cX5_lasts 184 = .ok (.iaload, 1) := by decide +kernel
theorem dX5_lasts_185 : decode cX5_lasts 185 = .ok (.aload_n 0, 1) := by decide +kernel
theorem dX5_lasts_186 : decode cX5_lasts 186 = .ok (.getfield 22, 3) := by decide +kernel
theorem dX5_lasts_189 : decode cX5_lasts 189 = .ok (.iload 6, 2) := by decide +kernel
theorem dX5_lasts_191 : decode cX5_lasts 191 = .ok (.iaload, 1) := by decide +kernel
theorem dX5_lasts_192 : decode cX5_lasts 192 = .ok (.if_icmp .ge 8, 3) := by decide +kernel
theorem dX5_lasts_195 : decode cX5_lasts 195 = .ok (.iload 7, 2) := by decide +kernel
theorem dX5_lasts_197 : decode cX5_lasts 197 = .ok (.goto 5, 3) := by decide +kernel
theorem dX5_lasts_200 : decode cX5_lasts 200 = .ok (.iload 6, 2) := by decide +kernel
theorem dX5_lasts_202 : decode cX5_lasts 202 = .ok (.istore 6, 2) := by decide +kernel
theorem dX5_lasts_204 : decode cX5_lasts 204 = .ok (.iinc 7 1, 3) := by decide +kernel
theorem dX5_lasts_207 : decode cX5_lasts 207 = .ok (.goto (-77), 3) := by decide +kernel
theorem dX5_lasts_210 : decode cX5_lasts 210 = .ok (.aload_n 0, 1) := by decide +kernel
theorem dX5_lasts_211 : decode cX5_lasts 211 = .ok (.getfield 50, 3) := by decide +kernel
theorem dX5_lasts_214 : decode cX5_lasts 214 = .ok (.iload 6, 2) := by decide +kernel
theorem dX5_lasts_216 : decode cX5_lasts 216 = .ok (.iaload, 1) := by decide +kernel
theorem dX5_lasts_217 : decode cX5_lasts 217 = .ok (.iload 5, 2) := by decide +kernel
theorem dX5_lasts_219 : decode cX5_lasts 219 = .ok (.if_icmp .ge 13, 3) := by decide +kernel
theorem dX5_lasts_222 : decode cX5_lasts 222 = .ok (.aload_n 0, 1) := by decide +kernel
theorem dX5_lasts_223 : decode cX5_lasts 223 = .ok (.getfield 50, 3) := by decide +kernel
theorem dX5_lasts_226 : decode cX5_lasts 226 = .ok (.iload 6, 2) := by decide +kernel
theorem dX5_lasts_228 : decode cX5_lasts 228 = .ok (.iaload, 1) := by decide +kernel
theorem dX5_lasts_229 : decode cX5_lasts 229 = .ok (.goto 5, 3) := by decide +kernel
theorem dX5_lasts_232 : decode cX5_lasts 232 = .ok (.iload 5, 2) := by decide +kernel
theorem dX5_lasts_234 : decode cX5_lasts 234 = .ok (.istore 7, 2) := by decide +kernel
theorem dX5_lasts_236 : decode cX5_lasts 236 = .ok (.aload_n 0, 1) := by decide +kernel
theorem dX5_lasts_237 : decode cX5_lasts 237 = .ok (.getfield 50, 3) := by decide +kernel
theorem dX5_lasts_240 : decode cX5_lasts 240 = .ok (.iload 6, 2) := by decide +kernel
theorem dX5_lasts_242 : decode cX5_lasts 242 = .ok (.dup2, 1) := by decide +kernel
theorem dX5_lasts_243 : decode cX5_lasts 243 = .ok (.iaload, 1) := by decide +kernel
theorem dX5_lasts_244 : decode cX5_lasts 244 = .ok (.iload 7, 2) := by decide +kernel
theorem dX5_lasts_246 : decode cX5_lasts 246 = .ok (.isub, 1) := by decide +kernel
theorem dX5_lasts_247 : decode cX5_lasts 247 = .ok (.iastore, 1) := by decide +kernel
theorem dX5_lasts_248 : decode cX5_lasts 248 = .ok (.iload 5, 2) := by decide +kernel
theorem dX5_lasts_250 : decode cX5_lasts 250 = .ok (.iload 7, 2) := by decide +kernel
theorem dX5_lasts_252 : decode cX5_lasts 252 = .ok (.isub, 1) := by decide +kernel
theorem dX5_lasts_253 : decode cX5_lasts 253 = .ok (.istore 5, 2) := by decide +kernel
theorem dX5_lasts_255 : decode cX5_lasts 255 = .ok (.goto (-136), 3) := by decide +kernel
theorem dX5_lasts_258 : decode cX5_lasts 258 = .ok (.iconst 0, 1) := by decide +kernel
theorem dX5_lasts_259 : decode cX5_lasts 259 = .ok (.istore 6, 2) := by decide +kernel
theorem dX5_lasts_261 : decode cX5_lasts 261 = .ok (.iload 6, 2) := by decide +kernel
theorem dX5_lasts_263 : decode cX5_lasts 263 = .ok (.aload_n 0, 1) := by decide +kernel
theorem dX5_lasts_264 : decode cX5_lasts 264 = .ok (.getfield 63, 3) := by decide +kernel
theorem dX5_lasts_267 : decode cX5_lasts 267 = .ok (.if_icmp .ge 50, 3) := by decide +kernel
theorem dX5_lasts_270 : decode cX5_lasts 270 = .ok (.aload_n 0, 1) := by decide +kernel
theorem dX5_lasts_271 : decode cX5_lasts 271 = .ok (.getfield 50, 3) := by decide +kernel
theorem dX5_lasts_274 : decode cX5_lasts 274 = .ok (.iload 6, 2) := by decide +kernel
theorem dX5_lasts_276 : decode cX5_lasts 276 = .ok (.dup2, 1) := by decide +kernel
theorem dX5_lasts_277 : decode cX5_lasts 277 = .ok (.iaload, 1) := by decide +kernel
theorem dX5_lasts_278 : decode cX5_lasts 278 = .ok (.aload_n 0, 1) := by decide +kernel
theorem dX5_lasts_279 : decode cX5_lasts 279 = .ok (.getfield 50, 3) := by decide +kernel
theorem dX5_lasts_282 : decode cX5_lasts 282 = .ok (.iload 6, 2) := by decide +kernel
theorem dX5_lasts_284 : decode cX5_lasts 284 = .ok (.iaload, 1) := by decide +kernel
theorem dX5_lasts_285 : decode cX5_lasts 285 = .ok (.aload_n 0, 1) := by decide +kernel
theorem dX5_lasts_286 : decode cX5_lasts 286 = .ok (.iload 6, 2) := by decide +kernel
theorem dX5_lasts_288 : decode cX5_lasts 288 = .ok (.aload_n 0, 1) := by decide +kernel
theorem dX5_lasts_289 : decode cX5_lasts 289 = .ok (.getfield 7, 3) := by decide +kernel
theorem dX5_lasts_292 : decode cX5_lasts 292 = .ok (.iload 6, 2) := by decide +kernel
theorem dX5_lasts_294 : decode cX5_lasts 294 = .ok (.iaload, 1) := by decide +kernel
theorem dX5_lasts_295 : decode cX5_lasts 295 = .ok (.aload_n 0, 1) := by decide +kernel
theorem dX5_lasts_296 : decode cX5_lasts 296 = .ok (.iload 6, 2) := by decide +kernel
theorem dX5_lasts_298 : decode cX5_lasts 298 = .ok (.invokevirtual 93, 3) := by decide +kernel
theorem dX5_lasts_301 : decode cX5_lasts 301 = .ok (.iload_n 3, 1) := by decide +kernel
theorem dX5_lasts_302 : decode cX5_lasts 302 = .ok (.iadd, 1) := by decide +kernel
theorem dX5_lasts_303 : decode cX5_lasts 303 = .ok (.invokevirtual 70, 3) := by decide +kernel
theorem dX5_lasts_306 : decode cX5_lasts 306 = .ok (.invokestatic 74, 3) := by decide +kernel
theorem dX5_lasts_309 : decode cX5_lasts 309 = .ok (.isub, 1) := by decide +kernel
theorem dX5_lasts_310 : decode cX5_lasts 310 = .ok (.iastore, 1) := by decide +kernel
theorem dX5_lasts_311 : decode cX5_lasts 311 = .ok (.iinc 6 1, 3) := by decide +kernel
theorem dX5_lasts_314 : decode cX5_lasts 314 = .ok (.goto (-53), 3) := by decide +kernel
theorem dX5_lasts_317 : decode cX5_lasts 317 = .ok (.iinc 3 1, 3) := by decide +kernel
theorem dX5_lasts_320 : decode cX5_lasts 320 = .ok (.goto (-267), 3) := by decide +kernel
theorem dX5_lasts_323 : decode cX5_lasts 323 = .ok (.bipush 30, 2) := by decide +kernel
theorem dX5_lasts_325 : decode cX5_lasts 325 = .ok (.ireturn, 1) := by decide +kernel
theorem dX5_cut_0 : decode cX5_cut 0 = .ok (.aload_n 0, 1) := by decide +kernel
theorem dX5_cut_1 : decode cX5_cut 1 = .ok (.iload_n 1, 1) := by decide +kernel
theorem dX5_cut_2 : decode cX5_cut 2 = .ok (.invokevirtual 81, 3) := by decide +kernel
theorem dX5_cut_5 : decode cX5_cut 5 = .ok (.ifCond .eq 16, 3) := by decide +kernel
theorem dX5_cut_8 : decode cX5_cut 8 = .ok (.iload_n 2, 1) := by decide +kernel
theorem dX5_cut_9 : decode cX5_cut 9 = .ok (.sipush 300, 3) := by decide +kernel
theorem dX5_cut_12 : decode cX5_cut 12 = .ok (.sipush 700, 3) := by decide +kernel
theorem dX5_cut_15 : decode cX5_cut 15 = .ok (.invokestatic 66, 3) := by decide +kernel
theorem dX5_cut_18 : decode cX5_cut 18 = .ok (.ifCond .ne 5, 3) := by decide +kernel
theorem dX5_cut_21 : decode cX5_cut 21 = .ok (.iconst (-1), 1) := by decide +kernel
theorem dX5_cut_22 : decode cX5_cut 22 = .ok (.ireturn, 1) := by decide +kernel
theorem dX5_cut_23 : decode cX5_cut 23 = .ok (.aload_n 0, 1) := by decide +kernel
theorem dX5_cut_24 : decode cX5_cut 24 = .ok (.getfield 16, 3) := by decide +kernel
theorem dX5_cut_27 : decode cX5_cut 27 = .ok (.iload_n 1, 1) := by decide +kernel
theorem dX5_cut_28 : decode cX5_cut 28 = .ok (.iaload, 1) := by decide +kernel
theorem dX5_cut_29 : decode cX5_cut 29 = .ok (.iload_n 2, 1) := by decide +kernel
theorem dX5_cut_30 : decode cX5_cut 30 = .ok (.isub, 1) := by decide +kernel
theorem dX5_cut_31 : decode cX5_cut 31 = .ok (.istore_n 3, 1) := by decide +kernel
theorem dX5_cut_32 : decode cX5_cut 32 = .ok (.iload_n 3, 1) := by decide +kernel
theorem dX5_cut_33 : decode cX5_cut 33 = .ok (.ifCond .gt 7, 3) := by decide +kernel
theorem dX5_cut_36 : decode cX5_cut 36 = .ok (.iconst 0, 1) := by decide +kernel
theorem dX5_cut_37 : decode cX5_cut 37 = .ok (.goto 17, 3) := by decide +kernel
theorem dX5_cut_40 : decode cX5_cut 40 = .ok (.aload_n 0, 1) := by decide +kernel
theorem dX5_cut_41 : decode cX5_cut 41 = .ok (.getfield 13, 3) := by decide +kernel
theorem dX5_cut_44 : decode cX5_cut 44 = .ok (.iload_n 1, 1) := by decide +kernel
theorem dX5_cut_45 : decode cX5_cut 45 = .ok (.iaload, 1) := by decide +kernel
theorem dX5_cut_46 : decode cX5_cut 46 = .ok (.iload_n 3, 1) := by decide +kernel
theorem dX5_cut_47 : decode cX5_cut 47 = .ok (.imul, 1) := by decide +kernel
theorem dX5_cut_48 : decode cX5_cut 48 = .ok (.iload_n 2, 1) := by decide +kernel
theorem dX5_cut_49 : decode cX5_cut 49 = .ok (.iadd, 1) := by decide +kernel
theorem dX5_cut_50 : decode cX5_cut 50 = .ok (.iconst 1, 1) := by decide +kernel
theorem dX5_cut_51 : decode cX5_cut 51 = .ok (.isub, 1) := by decide +kernel
theorem dX5_cut_52 : decode cX5_cut 52 = .ok (.iload_n 2, 1) := by decide +kernel
theorem dX5_cut_53 : decode cX5_cut 53 = .ok (.idiv, 1) := by decide +kernel
theorem dX5_cut_54 : decode cX5_cut 54 = .ok (.ireturn, 1) := by decide +kernel
theorem dX5_rate_0 : decode cX5_rate 0 = .ok (.iload_n 1, 1) := by decide +kernel
theorem dX5_rate_1 : decode cX5_rate 1 = .ok (.iconst 0, 1) := by decide +kernel
theorem dX5_rate_2 : decode cX5_rate 2 = .ok (.bipush 100, 2) := by decide +kernel
theorem dX5_rate_4 : decode cX5_rate 4 = .ok (.invokestatic 66, 3) := by decide +kernel
theorem dX5_rate_7 : decode cX5_rate 7 = .ok (.ifCond .ne 5, 3) := by decide +kernel
theorem dX5_rate_10 : decode cX5_rate 10 = .ok (.iconst (-1), 1) := by decide +kernel
theorem dX5_rate_11 : decode cX5_rate 11 = .ok (.ireturn, 1) := by decide +kernel
theorem dX5_rate_12 : decode cX5_rate 12 = .ok (.aload_n 0, 1) := by decide +kernel
theorem dX5_rate_13 : decode cX5_rate 13 = .ok (.getfield 37, 3) := by decide +kernel
theorem dX5_rate_16 : decode cX5_rate 16 = .ok (.istore_n 2, 1) := by decide +kernel
theorem dX5_rate_17 : decode cX5_rate 17 = .ok (.aload_n 0, 1) := by decide +kernel
theorem dX5_rate_18 : decode cX5_rate 18 = .ok (.iload_n 1, 1) := by decide +kernel
theorem dX5_rate_19 : decode cX5_rate 19 = .ok (.putfield 37, 3) := by decide +kernel
theorem dX5_rate_22 : decode cX5_rate 22 = .ok (.iload_n 2, 1) := by decide +kernel
theorem dX5_rate_23 : decode cX5_rate 23 = .ok (.ireturn, 1) := by decide +kernel
theorem dX5_duty_0 : decode cX5_duty 0 = .ok (.iload_n 1, 1) := by decide +kernel
theorem dX5_duty_1 : decode cX5_duty 1 = .ok (.iconst 0, 1) := by decide +kernel
theorem dX5_duty_2 : decode cX5_duty 2 = .ok (.iconst 1, 1) := by decide +kernel
theorem dX5_duty_3 : decode cX5_duty 3 = .ok (.aload_n 0, 1) := by decide +kernel
theorem dX5_duty_4 : decode cX5_duty 4 = .ok (.getfield 63, 3) := by decide +kernel
theorem dX5_duty_7 : decode cX5_duty 7 = .ok (.ishl, 1) := by decide +kernel
theorem dX5_duty_8 : decode cX5_duty 8 = .ok (.iconst 1, 1) := by decide +kernel
theorem dX5_duty_9 : decode cX5_duty 9 = .ok (.isub, 1) := by decide +kernel
theorem dX5_duty_10 : decode cX5_duty 10 = .ok (.invokestatic 66, 3) := by decide +kernel
theorem dX5_duty_13 : decode cX5_duty 13 = .ok (.ifCond .ne 5, 3) := by decide +kernel
theorem dX5_duty_16 : decode cX5_duty 16 = .ok (.iconst (-1), 1) := by decide +kernel
theorem dX5_duty_17 : decode cX5_duty 17 = .ok (.ireturn, 1) := by decide +kernel
theorem dX5_duty_18 : decode cX5_duty 18 = .ok (.iconst 0, 1) := by decide +kernel
theorem dX5_duty_19 : decode cX5_duty 19 = .ok (.istore_n 2, 1) := by decide +kernel
theorem dX5_duty_20 : decode cX5_duty 20 = .ok (.iconst 0, 1) := by decide +kernel
theorem dX5_duty_21 : decode cX5_duty 21 = .ok (.istore_n 3, 1) := by decide +kernel
theorem dX5_duty_22 : decode cX5_duty 22 = .ok (.iload_n 3, 1) := by decide +kernel
theorem dX5_duty_23 : decode cX5_duty 23 = .ok (.aload_n 0, 1) := by decide +kernel
theorem dX5_duty_24 : decode cX5_duty 24 = .ok (.getfield 63, 3) := by decide +kernel
theorem dX5_duty_27 : decode cX5_duty 27 = .ok (.if_icmp .ge 46, 3) := by decide +kernel
theorem dX5_duty_30 : decode cX5_duty 30 = .ok (.iload_n 2, 1) := by decide +kernel
theorem dX5_duty_31 : decode cX5_duty 31 = .ok (.iload_n 1, 1) := by decide +kernel
theorem dX5_duty_32 : decode cX5_duty 32 = .ok (.iload_n 3, 1) := by decide +kernel
theorem dX5_duty_33 : decode cX5_duty 33 = .ok (.invokestatic 101, 3) := by decide +kernel
theorem dX5_duty_36 : decode cX5_duty 36 = .ok (.ifCond .eq 28, 3) := by decide +kernel
theorem dX5_duty_39 : decode cX5_duty 39 = .ok (.aload_n 0, 1) := by decide +kernel
theorem dX5_duty_40 : decode cX5_duty 40 = .ok (.getfield 13, 3) := by decide +kernel
theorem dX5_duty_43 : decode cX5_duty 43 = .ok (.iload_n 3, 1) := by decide +kernel
theorem dX5_duty_44 : decode cX5_duty 44 = .ok (.iaload, 1) := by decide +kernel
theorem dX5_duty_45 : decode cX5_duty 45 = .ok (.aload_n 0, 1) := by decide +kernel
theorem dX5_duty_46 : decode cX5_duty 46 = .ok (.getfield 16, 3) := by decide +kernel
theorem dX5_duty_49 : decode cX5_duty 49 = .ok (.iload_n 3, 1) := by decide +kernel
theorem dX5_duty_50 : decode cX5_duty 50 = .ok (.iaload, 1) := by decide +kernel
theorem dX5_duty_51 : decode cX5_duty 51 = .ok (.imul, 1) := by decide +kernel
theorem dX5_duty_52 : decode cX5_duty 52 = .ok (.sipush 1000, 3) := by decide +kernel
theorem dX5_duty_55 : decode cX5_duty 55 = .ok (.idiv, 1) := by decide +kernel
theorem dX5_duty_56 : decode cX5_duty 56 = .ok (.aload_n 0, 1) := by decide +kernel
theorem dX5_duty_57 : decode cX5_duty 57 = .ok (.getfield 37, 3) := by decide +kernel
theorem dX5_duty_60 : decode cX5_duty 60 = .ok (.imul, 1) := by decide +kernel
theorem dX5_duty_61 : decode cX5_duty 61 = .ok (.goto 4, 3) := by decide +kernel
theorem dX5_duty_64 : decode cX5_duty 64 = .ok (.iconst 0, 1) := by decide +kernel
theorem dX5_duty_65 : decode cX5_duty 65 = .ok (.iadd, 1) := by decide +kernel
theorem dX5_duty_66 : decode cX5_duty 66 = .ok (.istore_n 2, 1) := by decide +kernel
theorem dX5_duty_67 : decode cX5_duty 67 = .ok (.iinc 3 1, 3) := by decide +kernel
theorem dX5_duty_70 : decode cX5_duty 70 = .ok (.goto (-48), 3) := by decide +kernel
theorem dX5_duty_73 : decode cX5_duty 73 = .ok (.iload_n 2, 1) := by decide +kernel
theorem dX5_duty_74 : decode cX5_duty 74 = .ok (.ireturn, 1) := by decide +kernel
theorem dX5_ways_0 : decode cX5_ways 0 = .ok (.lconst 0, 1) := by decide +kernel
theorem dX5_ways_1 : decode cX5_ways 1 = .ok (.lstore_n 2, 1) := by decide +kernel
theorem dX5_ways_2 : decode cX5_ways 2 = .ok (.iload_n 1, 1) := by decide +kernel
theorem dX5_ways_3 : decode cX5_ways 3 = .ok (.istore 4, 2) := by decide +kernel
theorem dX5_ways_5 : decode cX5_ways 5 = .ok (.iload 4, 2) := by decide +kernel
theorem dX5_ways_7 : decode cX5_ways 7 = .ok (.iload_n 0, 1) := by decide +kernel
theorem dX5_ways_8 : decode cX5_ways 8 = .ok (.if_icmp .gt 55, 3) := by decide +kernel
theorem dX5_ways_11 : decode cX5_ways 11 = .ok (.lconst 1, 1) := by decide +kernel
theorem dX5_ways_12 : decode cX5_ways 12 = .ok (.lstore 5, 2) := by decide +kernel
theorem dX5_ways_14 : decode cX5_ways 14 = .ok (.iconst 1, 1) := by decide +kernel
theorem dX5_ways_15 : decode cX5_ways 15 = .ok (.istore 7, 2) := by decide +kernel
theorem dX5_ways_17 : decode cX5_ways 17 = .ok (.iload 7, 2) := by decide +kernel
theorem dX5_ways_19 : decode cX5_ways 19 = .ok (.iload 4, 2) := by decide +kernel
theorem dX5_ways_21 : decode cX5_ways 21 = .ok (.if_icmp .gt 26, 3) := by decide +kernel
theorem dX5_ways_24 : decode cX5_ways 24 = .ok (.lload 5, 2) := by decide +kernel
theorem dX5_ways_26 : decode cX5_ways 26 = .ok (.iload_n 0, 1) := by decide +kernel
theorem dX5_ways_27 : decode cX5_ways 27 = .ok (.iload 4, 2) := by decide +kernel
theorem dX5_ways_29 : decode cX5_ways 29 = .ok (.isub, 1) := by decide +kernel
theorem dX5_ways_30 : decode cX5_ways 30 = .ok (.iload 7, 2) := by decide +kernel
theorem dX5_ways_32 : decode cX5_ways 32 = .ok (.iadd, 1) := by decide +kernel
theorem dX5_ways_33 : decode cX5_ways 33 = .ok (.i2l, 1) := by decide +kernel
theorem dX5_ways_34 : decode cX5_ways 34 = .ok (.lmul, 1) := by decide +kernel
theorem dX5_ways_35 : decode cX5_ways 35 = .ok (.iload 7, 2) := by decide +kernel
theorem dX5_ways_37 : decode cX5_ways 37 = .ok (.i2l, 1) := by decide +kernel
theorem dX5_ways_38 : decode cX5_ways 38 = .ok (.ldiv, 1) := by decide +kernel
theorem dX5_ways_39 : decode cX5_ways 39 = .ok (.lstore 5, 2) := by decide +kernel
theorem dX5_ways_41 : decode cX5_ways 41 = .ok (.iinc 7 1, 3) := by decide +kernel
theorem dX5_ways_44 : decode cX5_ways 44 = .ok (.goto (-27), 3) := by decide +kernel
theorem dX5_ways_47 : decode cX5_ways 47 = .ok (.lload_n 2, 1) := by decide +kernel
theorem dX5_ways_48 : decode cX5_ways 48 = .ok (.lload 5, 2) := by decide +kernel
theorem dX5_ways_50 : decode cX5_ways 50 = .ok (.iload_n 0, 1) := by decide +kernel
theorem dX5_ways_51 : decode cX5_ways 51 = .ok (.iload 4, 2) := by decide +kernel
theorem dX5_ways_53 : decode cX5_ways 53 = .ok (.isub, 1) := by decide +kernel
theorem dX5_ways_54 : decode cX5_ways 54 = .ok (.lshl, 1) := by decide +kernel
theorem dX5_ways_55 : decode cX5_ways 55 = .ok (.ladd, 1) := by decide +kernel
theorem dX5_ways_56 : decode cX5_ways 56 = .ok (.lstore_n 2, 1) := by decide +kernel
theorem dX5_ways_57 : decode cX5_ways 57 = .ok (.iinc 4 1, 3) := by decide +kernel
theorem dX5_ways_60 : decode cX5_ways 60 = .ok (.goto (-55), 3) := by decide +kernel
theorem dX5_ways_63 : decode cX5_ways 63 = .ok (.lload_n 2, 1) := by decide +kernel
theorem dX5_ways_64 : decode cX5_ways 64 = .ok (.lreturn, 1) := by decide +kernel
theorem dX5_odds_0 : decode cX5_odds 0 = .ok (.iload_n 1, 1) := by decide +kernel
theorem dX5_odds_1 : decode cX5_odds 1 = .ok (.iconst 1, 1) := by decide +kernel
theorem dX5_odds_2 : decode cX5_odds 2 = .ok (.bipush 20, 2) := by decide +kernel
theorem dX5_odds_4 : decode cX5_odds 4 = .ok (.invokestatic 66, 3) := by decide +kernel
theorem dX5_odds_7 : decode cX5_odds 7 = .ok (.ifCond .eq 20, 3) := by decide +kernel
end
section
theorem dX5_odds_10 : decode cX5_odds 10 = .ok (.iload_n 2, 1) := by decide +kernel
theorem dX5_odds_11 : decode cX5_odds 11 = .ok (.iconst 0, 1) := by decide +kernel
theorem dX5_odds_12 : decode cX5_odds 12 = .ok (.iload_n 1, 1) := by decide +kernel
theorem dX5_odds_13 : decode cX5_odds 13 = .ok (.invokestatic 66, 3) := by decide +kernel
theorem dX5_odds_16 : decode cX5_odds 16 = .ok (.ifCond .eq 11, 3) := by decide +kernel
theorem dX5_odds_19 : decode cX5_odds 19 = .ok (.iload_n 1, 1) := by decide +kernel
theorem dX5_odds_20 : decode cX5_odds 20 = .ok (.iload_n 2, 1) := by decide +kernel
theorem dX5_odds_21 : decode cX5_odds 21 = .ok (.invokestatic 123, 3) := by decide +kernel
theorem dX5_odds_24 : decode cX5_odds 24 = .ok (.goto 6, 3) := by decide +kernel
theorem dX5_odds_27 : decode cX5_odds 27 = .ok (.ldc2_w 127, 3) := by decide +kernel
theorem dX5_odds_30 : decode cX5_odds 30 = .ok (.lreturn, 1) := by decide +kernel
theorem dX5_apart_0 : decode cX5_apart 0 = .ok (.iload_n 1, 1) := by decide +kernel
theorem dX5_apart_1 : decode cX5_apart 1 = .ok (.iconst 1, 1) := by decide +kernel
theorem dX5_apart_2 : decode cX5_apart 2 = .ok (.bipush 20, 2) := by decide +kernel
theorem dX5_apart_4 : decode cX5_apart 4 = .ok (.invokestatic 66, 3) := by decide +kernel
theorem dX5_apart_7 : decode cX5_apart 7 = .ok (.ifCond .eq 12, 3) := by decide +kernel
theorem dX5_apart_10 : decode cX5_apart 10 = .ok (.iload_n 2, 1) := by decide +kernel
theorem dX5_apart_11 : decode cX5_apart 11 = .ok (.iconst 0, 1) := by decide +kernel
theorem dX5_apart_12 : decode cX5_apart 12 = .ok (.iload_n 1, 1) := by decide +kernel
theorem dX5_apart_13 : decode cX5_apart 13 = .ok (.invokestatic 66, 3) := by decide +kernel
theorem dX5_apart_16 : decode cX5_apart 16 = .ok (.ifCond .ne 7, 3) := by decide +kernel
theorem dX5_apart_19 : decode cX5_apart 19 = .ok (.iconst (-1), 1) := by decide +kernel
theorem dX5_apart_20 : decode cX5_apart 20 = .ok (.goto 26, 3) := by decide +kernel
theorem dX5_apart_23 : decode cX5_apart 23 = .ok (.ldc2_w 129, 3) := by decide +kernel
theorem dX5_apart_26 : decode cX5_apart 26 = .ok (.iload_n 1, 1) := by decide +kernel
theorem dX5_apart_27 : decode cX5_apart 27 = .ok (.iload_n 2, 1) := by decide +kernel
theorem dX5_apart_28 : decode cX5_apart 28 = .ok (.invokestatic 123, 3) := by decide +kernel
theorem dX5_apart_31 : decode cX5_apart 31 = .ok (.lmul, 1) := by decide +kernel
theorem dX5_apart_32 : decode cX5_apart 32 = .ok (.iload_n 1, 1) := by decide +kernel
theorem dX5_apart_33 : decode cX5_apart 33 = .ok (.iconst 0, 1) := by decide +kernel
theorem dX5_apart_34 : decode cX5_apart 34 = .ok (.invokestatic 123, 3) := by decide +kernel
theorem dX5_apart_37 : decode cX5_apart 37 = .ok (.lcmp, 1) := by decide +kernel
theorem dX5_apart_38 : decode cX5_apart 38 = .ok (.ifCond .gt 7, 3) := by decide +kernel
theorem dX5_apart_41 : decode cX5_apart 41 = .ok (.iconst 1, 1) := by decide +kernel
theorem dX5_apart_42 : decode cX5_apart 42 = .ok (.goto 4, 3) := by decide +kernel
theorem dX5_apart_45 : decode cX5_apart 45 = .ok (.iconst 0, 1) := by decide +kernel
theorem dX5_apart_46 : decode cX5_apart 46 = .ok (.ireturn, 1) := by decide +kernel
theorem dX5_read_0 : decode cX5_read 0 = .ok (.iload_n 1, 1) := by decide +kernel
theorem dX5_read_1 : decode cX5_read 1 = .ok (.iconst 0, 1) := by decide +kernel
theorem dX5_read_2 : decode cX5_read 2 = .ok (.iconst 5, 1) := by decide +kernel
theorem dX5_read_3 : decode cX5_read 3 = .ok (.invokestatic 66, 3) := by decide +kernel
theorem dX5_read_6 : decode cX5_read 6 = .ok (.ifCond .eq 23, 3) := by decide +kernel
theorem dX5_read_9 : decode cX5_read 9 = .ok (.iload_n 2, 1) := by decide +kernel
theorem dX5_read_10 : decode cX5_read 10 = .ok (.iconst 0, 1) := by decide +kernel
theorem dX5_read_11 : decode cX5_read 11 = .ok (.bipush 9, 2) := by decide +kernel
theorem dX5_read_13 : decode cX5_read 13 = .ok (.invokestatic 66, 3) := by decide +kernel
theorem dX5_read_16 : decode cX5_read 16 = .ok (.ifCond .eq 13, 3) := by decide +kernel
theorem dX5_read_19 : decode cX5_read 19 = .ok (.iload_n 3, 1) := by decide +kernel
theorem dX5_read_20 : decode cX5_read 20 = .ok (.iconst 0, 1) := by decide +kernel
theorem dX5_read_21 : decode cX5_read 21 = .ok (.bipush 99, 2) := by decide +kernel
theorem dX5_read_23 : decode cX5_read 23 = .ok (.invokestatic 66, 3) := by decide +kernel
theorem dX5_read_26 : decode cX5_read 26 = .ok (.ifCond .ne 5, 3) := by decide +kernel
theorem dX5_read_29 : decode cX5_read 29 = .ok (.iconst (-1), 1) := by decide +kernel
theorem dX5_read_30 : decode cX5_read 30 = .ok (.ireturn, 1) := by decide +kernel
theorem dX5_read_31 : decode cX5_read 31 = .ok (.aload_n 0, 1) := by decide +kernel
theorem dX5_read_32 : decode cX5_read 32 = .ok (.getfield 131, 3) := by decide +kernel
theorem dX5_read_35 : decode cX5_read 35 = .ok (.bipush 30, 2) := by decide +kernel
theorem dX5_read_37 : decode cX5_read 37 = .ok (.if_icmp .ne 6, 3) := by decide +kernel
theorem dX5_read_40 : decode cX5_read 40 = .ok (.bipush (-3), 2) := by decide +kernel
theorem dX5_read_42 : decode cX5_read 42 = .ok (.ireturn, 1) := by decide +kernel
theorem dX5_read_43 : decode cX5_read 43 = .ok (.aload_n 0, 1) := by decide +kernel
theorem dX5_read_44 : decode cX5_read 44 = .ok (.getfield 41, 3) := by decide +kernel
theorem dX5_read_47 : decode cX5_read 47 = .ok (.aload_n 0, 1) := by decide +kernel
theorem dX5_read_48 : decode cX5_read 48 = .ok (.getfield 131, 3) := by decide +kernel
theorem dX5_read_51 : decode cX5_read 51 = .ok (.iload_n 1, 1) := by decide +kernel
theorem dX5_read_52 : decode cX5_read 52 = .ok (.iastore, 1) := by decide +kernel
theorem dX5_read_53 : decode cX5_read 53 = .ok (.aload_n 0, 1) := by decide +kernel
theorem dX5_read_54 : decode cX5_read 54 = .ok (.getfield 44, 3) := by decide +kernel
theorem dX5_read_57 : decode cX5_read 57 = .ok (.aload_n 0, 1) := by decide +kernel
theorem dX5_read_58 : decode cX5_read 58 = .ok (.getfield 131, 3) := by decide +kernel
theorem dX5_read_61 : decode cX5_read 61 = .ok (.iload_n 2, 1) := by decide +kernel
theorem dX5_read_62 : decode cX5_read 62 = .ok (.iastore, 1) := by decide +kernel
theorem dX5_read_63 : decode cX5_read 63 = .ok (.aload_n 0, 1) := by decide +kernel
theorem dX5_read_64 : decode cX5_read 64 = .ok (.getfield 47, 3) := by decide +kernel
theorem dX5_read_67 : decode cX5_read 67 = .ok (.aload_n 0, 1) := by decide +kernel
theorem dX5_read_68 : decode cX5_read 68 = .ok (.getfield 131, 3) := by decide +kernel
theorem dX5_read_71 : decode cX5_read 71 = .ok (.iload_n 3, 1) := by decide +kernel
theorem dX5_read_72 : decode cX5_read 72 = .ok (.iastore, 1) := by decide +kernel
theorem dX5_read_73 : decode cX5_read 73 = .ok (.aload_n 0, 1) := by decide +kernel
theorem dX5_read_74 : decode cX5_read 74 = .ok (.dup, 1) := by decide +kernel
theorem dX5_read_75 : decode cX5_read 75 = .ok (.getfield 131, 3) := by decide +kernel
theorem dX5_read_78 : decode cX5_read 78 = .ok (.iconst 1, 1) := by decide +kernel
theorem dX5_read_79 : decode cX5_read 79 = .ok (.iadd, 1) := by decide +kernel
theorem dX5_read_80 : decode cX5_read 80 = .ok (.putfield 131, 3) := by decide +kernel
theorem dX5_read_83 : decode cX5_read 83 = .ok (.aload_n 0, 1) := by decide +kernel
theorem dX5_read_84 : decode cX5_read 84 = .ok (.getfield 131, 3) := by decide +kernel
theorem dX5_read_87 : decode cX5_read 87 = .ok (.ireturn, 1) := by decide +kernel
theorem dX5_clear_0 : decode cX5_clear 0 = .ok (.aload_n 0, 1) := by decide +kernel
theorem dX5_clear_1 : decode cX5_clear 1 = .ok (.getfield 131, 3) := by decide +kernel
theorem dX5_clear_4 : decode cX5_clear 4 = .ok (.istore_n 1, 1) := by decide +kernel
theorem dX5_clear_5 : decode cX5_clear 5 = .ok (.aload_n 0, 1) := by decide +kernel
theorem dX5_clear_6 : decode cX5_clear 6 = .ok (.iconst 0, 1) := by decide +kernel
theorem dX5_clear_7 : decode cX5_clear 7 = .ok (.putfield 131, 3) := by decide +kernel
theorem dX5_clear_10 : decode cX5_clear 10 = .ok (.iload_n 1, 1) := by decide +kernel
theorem dX5_clear_11 : decode cX5_clear 11 = .ok (.ireturn, 1) := by decide +kernel
theorem dX5_lead_0 : decode cX5_lead 0 = .ok (.iconst 0, 1) := by decide +kernel
theorem dX5_lead_1 : decode cX5_lead 1 = .ok (.istore_n 3, 1) := by decide +kernel
theorem dX5_lead_2 : decode cX5_lead 2 = .ok (.iload_n 3, 1) := by decide +kernel
theorem dX5_lead_3 : decode cX5_lead 3 = .ok (.bipush 16, 2) := by decide +kernel
theorem dX5_lead_5 : decode cX5_lead 5 = .ok (.if_icmp .ge 32, 3) := by decide +kernel
theorem dX5_lead_8 : decode cX5_lead 8 = .ok (.aload_n 0, 1) := by decide +kernel
theorem dX5_lead_9 : decode cX5_lead 9 = .ok (.getfield 53, 3) := by decide +kernel
theorem dX5_lead_12 : decode cX5_lead 12 = .ok (.iload_n 3, 1) := by decide +kernel
theorem dX5_lead_13 : decode cX5_lead 13 = .ok (.iload_n 3, 1) := by decide +kernel
theorem dX5_lead_14 : decode cX5_lead 14 = .ok (.iload_n 1, 1) := by decide +kernel
theorem dX5_lead_15 : decode cX5_lead 15 = .ok (.if_icmp .ne 7, 3) := by decide +kernel
theorem dX5_lead_18 : decode cX5_lead 18 = .ok (.iconst 1, 1) := by decide +kernel
theorem dX5_lead_19 : decode cX5_lead 19 = .ok (.goto 4, 3) := by decide +kernel
theorem dX5_lead_22 : decode cX5_lead 22 = .ok (.iconst 0, 1) := by decide +kernel
theorem dX5_lead_23 : decode cX5_lead 23 = .ok (.bastore, 1) := by decide +kernel
theorem dX5_lead_24 : decode cX5_lead 24 = .ok (.aload_n 0, 1) := by decide +kernel
theorem dX5_lead_25 : decode cX5_lead 25 = .ok (.getfield 57, 3) := by decide +kernel
theorem dX5_lead_28 : decode cX5_lead 28 = .ok (.iload_n 3, 1) := by decide +kernel
theorem dX5_lead_29 : decode cX5_lead 29 = .ok (.iconst 0, 1) := by decide +kernel
theorem dX5_lead_30 : decode cX5_lead 30 = .ok (.iastore, 1) := by decide +kernel
theorem dX5_lead_31 : decode cX5_lead 31 = .ok (.iinc 3 1, 3) := by decide +kernel
theorem dX5_lead_34 : decode cX5_lead 34 = .ok (.goto (-32), 3) := by decide +kernel
theorem dX5_lead_37 : decode cX5_lead 37 = .ok (.iconst 1, 1) := by decide +kernel
theorem dX5_lead_38 : decode cX5_lead 38 = .ok (.istore_n 3, 1) := by decide +kernel
theorem dX5_lead_39 : decode cX5_lead 39 = .ok (.iload_n 3, 1) := by decide +kernel
theorem dX5_lead_40 : decode cX5_lead 40 = .ok (.ifCond .eq 148, 3) := by decide +kernel
theorem dX5_lead_43 : decode cX5_lead 43 = .ok (.iconst 0, 1) := by decide +kernel
theorem dX5_lead_44 : decode cX5_lead 44 = .ok (.istore_n 3, 1) := by decide +kernel
theorem dX5_lead_45 : decode cX5_lead 45 = .ok (.iconst 0, 1) := by decide +kernel
theorem dX5_lead_46 : decode cX5_lead 46 = .ok (.istore 4, 2) := by decide +kernel
theorem dX5_lead_48 : decode cX5_lead 48 = .ok (.iload 4, 2) := by decide +kernel
theorem dX5_lead_50 : decode cX5_lead 50 = .ok (.iload_n 2, 1) := by decide +kernel
theorem dX5_lead_51 : decode cX5_lead 51 = .ok (.if_icmp .ge 134, 3) := by decide +kernel
theorem dX5_lead_54 : decode cX5_lead 54 = .ok (.aload_n 0, 1) := by decide +kernel
theorem dX5_lead_55 : decode cX5_lead 55 = .ok (.getfield 41, 3) := by decide +kernel
theorem dX5_lead_58 : decode cX5_lead 58 = .ok (.iload 4, 2) := by decide +kernel
theorem dX5_lead_60 : decode cX5_lead 60 = .ok (.iaload, 1) := by decide +kernel
theorem dX5_lead_61 : decode cX5_lead 61 = .ok (.istore 5, 2) := by decide +kernel
theorem dX5_lead_63 : decode cX5_lead 63 = .ok (.bipush 6, 2) := by decide +kernel
theorem dX5_lead_65 : decode cX5_lead 65 = .ok (.aload_n 0, 1) := by decide +kernel
theorem dX5_lead_66 : decode cX5_lead 66 = .ok (.getfield 44, 3) := by decide +kernel
theorem dX5_lead_69 : decode cX5_lead 69 = .ok (.iload 4, 2) := by decide +kernel
theorem dX5_lead_71 : decode cX5_lead 71 = .ok (.iaload, 1) := by decide +kernel
theorem dX5_lead_72 : decode cX5_lead 72 = .ok (.iadd, 1) := by decide +kernel
theorem dX5_lead_73 : decode cX5_lead 73 = .ok (.istore 6, 2) := by decide +kernel
theorem dX5_lead_75 : decode cX5_lead 75 = .ok (.aload_n 0, 1) := by decide +kernel
theorem dX5_lead_76 : decode cX5_lead 76 = .ok (.getfield 53, 3) := by decide +kernel
theorem dX5_lead_79 : decode cX5_lead 79 = .ok (.iload 5, 2) := by decide +kernel
theorem dX5_lead_81 : decode cX5_lead 81 = .ok (.baload, 1) := by decide +kernel
theorem dX5_lead_82 : decode cX5_lead 82 = .ok (.ifCond .eq 45, 3) := by decide +kernel
theorem dX5_lead_85 : decode cX5_lead 85 = .ok (.aload_n 0, 1) := by decide +kernel
theorem dX5_lead_86 : decode cX5_lead 86 = .ok (.getfield 53, 3) := by decide +kernel
theorem dX5_lead_89 : decode cX5_lead 89 = .ok (.iload 6, 2) := by decide +kernel
theorem dX5_lead_91 : decode cX5_lead 91 = .ok (.baload, 1) := by decide +kernel
theorem dX5_lead_92 : decode cX5_lead 92 = .ok (.ifCond .ne 35, 3) := by decide +kernel
theorem dX5_lead_95 : decode cX5_lead 95 = .ok (.aload_n 0, 1) := by decide +kernel
theorem dX5_lead_96 : decode cX5_lead 96 = .ok (.getfield 53, 3) := by decide +kernel
theorem dX5_lead_99 : decode cX5_lead 99 = .ok (.iload 6, 2) := by decide +kernel
theorem dX5_lead_101 : decode cX5_lead 101 = .ok (.iconst 1, 1) := by decide +kernel
theorem dX5_lead_102 : decode cX5_lead 102 = .ok (.bastore, 1) := by decide +kernel
theorem dX5_lead_103 : decode cX5_lead 103 = .ok (.aload_n 0, 1) := by decide +kernel
theorem dX5_lead_104 : decode cX5_lead 104 = .ok (.getfield 57, 3) := by decide +kernel
theorem dX5_lead_107 : decode cX5_lead 107 = .ok (.iload 6, 2) := by decide +kernel
theorem dX5_lead_109 : decode cX5_lead 109 = .ok (.aload_n 0, 1) := by decide +kernel
theorem dX5_lead_110 : decode cX5_lead 110 = .ok (.getfield 47, 3) := by decide +kernel
theorem dX5_lead_113 : decode cX5_lead 113 = .ok (.iload 4, 2) := by decide +kernel
theorem dX5_lead_115 : decode cX5_lead 115 = .ok (.iaload, 1) := by decide +kernel
theorem dX5_lead_116 : decode cX5_lead 116 = .ok (.aload_n 0, 1) := by decide +kernel
theorem dX5_lead_117 : decode cX5_lead 117 = .ok (.getfield 57, 3) := by decide +kernel
theorem dX5_lead_120 : decode cX5_lead 120 = .ok (.iload 5, 2) := by decide +kernel
theorem dX5_lead_122 : decode cX5_lead 122 = .ok (.iaload, 1) := by decide +kernel
theorem dX5_lead_123 : decode cX5_lead 123 = .ok (.isub, 1) := by decide +kernel
theorem dX5_lead_124 : decode cX5_lead 124 = .ok (.iastore, 1) := by decide +kernel
theorem dX5_lead_125 : decode cX5_lead 125 = .ok (.iconst 1, 1) := by decide +kernel
theorem dX5_lead_126 : decode cX5_lead 126 = .ok (.istore_n 3, 1) := by decide +kernel
theorem dX5_lead_127 : decode cX5_lead 127 = .ok (.aload_n 0, 1) := by decide +kernel
theorem dX5_lead_128 : decode cX5_lead 128 = .ok (.getfield 53, 3) := by decide +kernel
theorem dX5_lead_131 : decode cX5_lead 131 = .ok (.iload 6, 2) := by decide +kernel
theorem dX5_lead_133 : decode cX5_lead 133 = .ok (.baload, 1) := by decide +kernel
theorem dX5_lead_134 : decode cX5_lead 134 = .ok (.ifCond .eq 45, 3) := by decide +kernel
theorem dX5_lead_137 : decode cX5_lead 137 = .ok (.aload_n 0, 1) := by decide +kernel
theorem dX5_lead_138 : decode cX5_lead 138 = .ok (.getfield 53, 3) := by decide +kernel
theorem dX5_lead_141 : decode cX5_lead 141 = .ok (.iload 5, 2) := by decide +kernel
theorem dX5_lead_143 : decode cX5_lead 143 = .ok (.baload, 1) := by decide +kernel
theorem dX5_lead_144 : decode cX5_lead 144 = .ok (.ifCond .ne 35, 3) := by decide +kernel
theorem dX5_lead_147 : decode cX5_lead 147 = .ok (.aload_n 0, 1) := by decide +kernel
theorem dX5_lead_148 : decode cX5_lead 148 = .ok (.getfield 53, 3) := by decide +kernel
theorem dX5_lead_151 : decode cX5_lead 151 = .ok (.iload 5, 2) := by decide +kernel
theorem dX5_lead_153 : decode cX5_lead 153 = .ok (.iconst 1, 1) := by decide +kernel
theorem dX5_lead_154 : decode cX5_lead 154 = .ok (.bastore, 1) := by decide +kernel
theorem dX5_lead_155 : decode cX5_lead 155 = .ok (.aload_n 0, 1) := by decide +kernel
theorem dX5_lead_156 : decode cX5_lead 156 = .ok (.getfield 57, 3) := by decide +kernel
theorem dX5_lead_159 : decode cX5_lead 159 = .ok (.iload 5, 2) := by decide +kernel
theorem dX5_lead_161 : decode cX5_lead 161 = .ok (.aload_n 0, 1) := by decide +kernel
theorem dX5_lead_162 : decode cX5_lead 162 = .ok (.getfield 47, 3) := by decide +kernel
theorem dX5_lead_165 : decode cX5_lead 165 = .ok (.iload 4, 2) := by decide +kernel
theorem dX5_lead_167 : decode cX5_lead 167 = .ok (.iaload, 1) := by decide +kernel
theorem dX5_lead_168 : decode cX5_lead 168 = .ok (.aload_n 0, 1) := by decide +kernel
theorem dX5_lead_169 : decode cX5_lead 169 = .ok (.getfield 57, 3) := by decide +kernel
theorem dX5_lead_172 : decode cX5_lead 172 = .ok (.iload 6, 2) := by decide +kernel
theorem dX5_lead_174 : decode cX5_lead 174 = .ok (.iaload, 1) := by decide +kernel
theorem dX5_lead_175 : decode cX5_lead 175 = .ok (.isub, 1) := by decide +kernel
theorem dX5_lead_176 : decode cX5_lead 176 = .ok (.iastore, 1) := by decide +kernel
theorem dX5_lead_177 : decode cX5_lead 177 = .ok (.iconst 1, 1) := by decide +kernel
theorem dX5_lead_178 : decode cX5_lead 178 = .ok (.istore_n 3, 1) := by decide +kernel
theorem dX5_lead_179 : decode cX5_lead 179 = .ok (.iinc 4 1, 3) := by decide +kernel
theorem dX5_lead_182 : decode cX5_lead 182 = .ok (.goto (-134), 3) := by decide +kernel
theorem dX5_lead_185 : decode cX5_lead 185 = .ok (.goto (-146), 3) := by decide +kernel
theorem dX5_lead_188 : decode cX5_lead 188 = .ok (.return_, 1) := by decide +kernel
theorem dX5_firstWrong_0 : decode cX5_firstWrong 0 = .ok (.iconst 0, 1) := by decide +kernel
theorem dX5_firstWrong_1 : decode cX5_firstWrong 1 = .ok (.istore_n 1, 1) := by decide +kernel
theorem dX5_firstWrong_2 : decode cX5_firstWrong 2 = .ok (.iload_n 1, 1) := by decide +kernel
theorem dX5_firstWrong_3 : decode cX5_firstWrong 3 = .ok (.aload_n 0, 1) := by decide +kernel
theorem dX5_firstWrong_4 : decode cX5_firstWrong 4 = .ok (.getfield 131, 3) := by decide +kernel
theorem dX5_firstWrong_7 : decode cX5_firstWrong 7 = .ok (.if_icmp .ge 56, 3) := by decide +kernel
theorem dX5_firstWrong_10 : decode cX5_firstWrong 10 = .ok (.aload_n 0, 1) := by decide +kernel
theorem dX5_firstWrong_11 : decode cX5_firstWrong 11 = .ok (.aload_n 0, 1) := by decide +kernel
theorem dX5_firstWrong_12 : decode cX5_firstWrong 12 = .ok (.getfield 41, 3) := by decide +kernel
theorem dX5_firstWrong_15 : decode cX5_firstWrong 15 = .ok (.iload_n 1, 1) := by decide +kernel
theorem dX5_firstWrong_16 : decode cX5_firstWrong 16 = .ok (.iaload, 1) := by decide +kernel
theorem dX5_firstWrong_17 : decode cX5_firstWrong 17 = .ok (.iload_n 1, 1) := by decide +kernel
theorem dX5_firstWrong_18 : decode cX5_firstWrong 18 = .ok (.invokevirtual 134, 3) := by decide +kernel
theorem dX5_firstWrong_21 : decode cX5_firstWrong 21 = .ok (.bipush 6, 2) := by decide +kernel
theorem dX5_firstWrong_23 : decode cX5_firstWrong 23 = .ok (.aload_n 0, 1) := by decide +kernel
theorem dX5_firstWrong_24 : decode cX5_firstWrong 24 = .ok (.getfield 44, 3) := by decide +kernel
theorem dX5_firstWrong_27 : decode cX5_firstWrong 27 = .ok (.iload_n 1, 1) := by decide +kernel
theorem dX5_firstWrong_28 : decode cX5_firstWrong 28 = .ok (.iaload, 1) := by decide +kernel
theorem dX5_firstWrong_29 : decode cX5_firstWrong 29 = .ok (.iadd, 1) := by decide +kernel
theorem dX5_firstWrong_30 : decode cX5_firstWrong 30 = .ok (.istore_n 2, 1) := by decide +kernel
theorem dX5_firstWrong_31 : decode cX5_firstWrong 31 = .ok (.aload_n 0, 1) := by decide +kernel
theorem dX5_firstWrong_32 : decode cX5_firstWrong 32 = .ok (.getfield 53, 3) := by decide +kernel
theorem dX5_firstWrong_35 : decode cX5_firstWrong 35 = .ok (.iload_n 2, 1) := by decide +kernel
theorem dX5_firstWrong_36 : decode cX5_firstWrong 36 = .ok (.baload, 1) := by decide +kernel
theorem dX5_firstWrong_37 : decode cX5_firstWrong 37 = .ok (.ifCond .eq 20, 3) := by decide +kernel
theorem dX5_firstWrong_40 : decode cX5_firstWrong 40 = .ok (.aload_n 0, 1) := by decide +kernel
theorem dX5_firstWrong_41 : decode cX5_firstWrong 41 = .ok (.getfield 57, 3) := by decide +kernel
theorem dX5_firstWrong_44 : decode cX5_firstWrong 44 = .ok (.iload_n 2, 1) := by decide +kernel
theorem dX5_firstWrong_45 : decode cX5_firstWrong 45 = .ok (.iaload, 1) := by decide +kernel
theorem dX5_firstWrong_46 : decode cX5_firstWrong 46 = .ok (.aload_n 0, 1) := by decide +kernel
theorem dX5_firstWrong_47 : decode cX5_firstWrong 47 = .ok (.getfield 47, 3) := by decide +kernel
theorem dX5_firstWrong_50 : decode cX5_firstWrong 50 = .ok (.iload_n 1, 1) := by decide +kernel
theorem dX5_firstWrong_51 : decode cX5_firstWrong 51 = .ok (.iaload, 1) := by decide +kernel
theorem dX5_firstWrong_52 : decode cX5_firstWrong 52 = .ok (.if_icmp .eq 5, 3) := by decide +kernel
theorem dX5_firstWrong_55 : decode cX5_firstWrong 55 = .ok (.iload_n 1, 1) := by decide +kernel
theorem dX5_firstWrong_56 : decode cX5_firstWrong 56 = .ok (.ireturn, 1) := by decide +kernel
theorem dX5_firstWrong_57 : decode cX5_firstWrong 57 = .ok (.iinc 1 1, 3) := by decide +kernel
theorem dX5_firstWrong_60 : decode cX5_firstWrong 60 = .ok (.goto (-58), 3) := by decide +kernel
theorem dX5_firstWrong_63 : decode cX5_firstWrong 63 = .ok (.bipush (-9), 2) := by decide +kernel
theorem dX5_firstWrong_65 : decode cX5_firstWrong 65 = .ok (.ireturn, 1) := by decide +kernel
theorem dX5_contradicts_0 : decode cX5_contradicts 0 = .ok (.aload_n 0, 1) := by decide +kernel
theorem dX5_contradicts_1 : decode cX5_contradicts 1 = .ok (.invokevirtual 138, 3) := by decide +kernel
theorem dX5_contradicts_4 : decode cX5_contradicts 4 = .ok (.ireturn, 1) := by decide +kernel
theorem dX5_hang_0 : decode cX5_hang 0 = .ok (.iload_n 1, 1) := by decide +kernel
theorem dX5_hang_1 : decode cX5_hang 1 = .ok (.iconst 0, 1) := by decide +kernel
theorem dX5_hang_2 : decode cX5_hang 2 = .ok (.iconst 5, 1) := by decide +kernel
theorem dX5_hang_3 : decode cX5_hang 3 = .ok (.invokestatic 66, 3) := by decide +kernel
theorem dX5_hang_6 : decode cX5_hang 6 = .ok (.ifCond .eq 21, 3) := by decide +kernel
theorem dX5_hang_9 : decode cX5_hang 9 = .ok (.iload_n 2, 1) := by decide +kernel
theorem dX5_hang_10 : decode cX5_hang 10 = .ok (.iconst 0, 1) := by decide +kernel
theorem dX5_hang_11 : decode cX5_hang 11 = .ok (.iconst 5, 1) := by decide +kernel
theorem dX5_hang_12 : decode cX5_hang 12 = .ok (.invokestatic 66, 3) := by decide +kernel
theorem dX5_hang_15 : decode cX5_hang 15 = .ok (.ifCond .eq 12, 3) := by decide +kernel
theorem dX5_hang_18 : decode cX5_hang 18 = .ok (.iload_n 3, 1) := by decide +kernel
theorem dX5_hang_19 : decode cX5_hang 19 = .ok (.iconst 0, 1) := by decide +kernel
theorem dX5_hang_20 : decode cX5_hang 20 = .ok (.iconst 1, 1) := by decide +kernel
theorem dX5_hang_21 : decode cX5_hang 21 = .ok (.invokestatic 66, 3) := by decide +kernel
theorem dX5_hang_24 : decode cX5_hang 24 = .ok (.ifCond .ne 6, 3) := by decide +kernel
theorem dX5_hang_27 : decode cX5_hang 27 = .ok (.ldc 142, 2) := by decide +kernel
theorem dX5_hang_29 : decode cX5_hang 29 = .ok (.ireturn, 1) := by decide +kernel
theorem dX5_hang_30 : decode cX5_hang 30 = .ok (.aload_n 0, 1) := by decide +kernel
theorem dX5_hang_31 : decode cX5_hang 31 = .ok (.invokevirtual 138, 3) := by decide +kernel
theorem dX5_hang_34 : decode cX5_hang 34 = .ok (.istore 4, 2) := by decide +kernel
theorem dX5_hang_36 : decode cX5_hang 36 = .ok (.aload_n 0, 1) := by decide +kernel
theorem dX5_hang_37 : decode cX5_hang 37 = .ok (.iload_n 2, 1) := by decide +kernel
theorem dX5_hang_38 : decode cX5_hang 38 = .ok (.iload 4, 2) := by decide +kernel
theorem dX5_hang_40 : decode cX5_hang 40 = .ok (.bipush (-9), 2) := by decide +kernel
theorem dX5_hang_42 : decode cX5_hang 42 = .ok (.if_icmp .ne 10, 3) := by decide +kernel
theorem dX5_hang_45 : decode cX5_hang 45 = .ok (.aload_n 0, 1) := by decide +kernel
theorem dX5_hang_46 : decode cX5_hang 46 = .ok (.getfield 131, 3) := by decide +kernel
theorem dX5_hang_49 : decode cX5_hang 49 = .ok (.goto 5, 3) := by decide +kernel
theorem dX5_hang_52 : decode cX5_hang 52 = .ok (.iload 4, 2) := by decide +kernel
theorem dX5_hang_54 : decode cX5_hang 54 = .ok (.invokevirtual 134, 3) := by decide +kernel
theorem dX5_hang_57 : decode cX5_hang 57 = .ok (.iload_n 3, 1) := by decide +kernel
theorem dX5_hang_58 : decode cX5_hang 58 = .ok (.ifCond .ne 20, 3) := by decide +kernel
theorem dX5_hang_61 : decode cX5_hang 61 = .ok (.aload_n 0, 1) := by decide +kernel
theorem dX5_hang_62 : decode cX5_hang 62 = .ok (.getfield 53, 3) := by decide +kernel
theorem dX5_hang_65 : decode cX5_hang 65 = .ok (.iload_n 1, 1) := by decide +kernel
theorem dX5_hang_66 : decode cX5_hang 66 = .ok (.baload, 1) := by decide +kernel
theorem dX5_hang_67 : decode cX5_hang 67 = .ok (.ifCond .eq 7, 3) := by decide +kernel
theorem dX5_hang_70 : decode cX5_hang 70 = .ok (.iconst 1, 1) := by decide +kernel
theorem dX5_hang_71 : decode cX5_hang 71 = .ok (.goto 27, 3) := by decide +kernel
theorem dX5_hang_74 : decode cX5_hang 74 = .ok (.iconst 0, 1) := by decide +kernel
theorem dX5_hang_75 : decode cX5_hang 75 = .ok (.goto 23, 3) := by decide +kernel
theorem dX5_hang_78 : decode cX5_hang 78 = .ok (.aload_n 0, 1) := by decide +kernel
theorem dX5_hang_79 : decode cX5_hang 79 = .ok (.getfield 53, 3) := by decide +kernel
theorem dX5_hang_82 : decode cX5_hang 82 = .ok (.iload_n 1, 1) := by decide +kernel
theorem dX5_hang_83 : decode cX5_hang 83 = .ok (.baload, 1) := by decide +kernel
theorem dX5_hang_84 : decode cX5_hang 84 = .ok (.ifCond .eq 12, 3) := by decide +kernel
theorem dX5_hang_87 : decode cX5_hang 87 = .ok (.aload_n 0, 1) := by decide +kernel
theorem dX5_hang_88 : decode cX5_hang 88 = .ok (.getfield 57, 3) := by decide +kernel
theorem dX5_hang_91 : decode cX5_hang 91 = .ok (.iload_n 1, 1) := by decide +kernel
theorem dX5_hang_92 : decode cX5_hang 92 = .ok (.iaload, 1) := by decide +kernel
theorem dX5_hang_93 : decode cX5_hang 93 = .ok (.goto 5, 3) := by decide +kernel
theorem dX5_hang_96 : decode cX5_hang 96 = .ok (.ldc 143, 2) := by decide +kernel
theorem dX5_hang_98 : decode cX5_hang 98 = .ok (.ireturn, 1) := by decide +kernel
theorem dX5_count_0 : decode cX5_count 0 = .ok (.iconst 0, 1) := by decide +kernel
theorem dX5_count_1 : decode cX5_count 1 = .ok (.istore_n 2, 1) := by decide +kernel
theorem dX5_count_2 : decode cX5_count 2 = .ok (.iload_n 1, 1) := by decide +kernel
theorem dX5_count_3 : decode cX5_count 3 = .ok (.tableswitch 119 0 5 #[37, 42, 47, 82, 87, 92], 37) := by decide +kernel
theorem dX5_count_40 : decode cX5_count 40 = .ok (.aload_n 0, 1) := by decide +kernel
theorem dX5_count_41 : decode cX5_count 41 = .ok (.getfield 60, 3) := by decide +kernel
theorem dX5_count_44 : decode cX5_count 44 = .ok (.ireturn, 1) := by decide +kernel
theorem dX5_count_45 : decode cX5_count 45 = .ok (.aload_n 0, 1) := by decide +kernel
theorem dX5_count_46 : decode cX5_count 46 = .ok (.getfield 63, 3) := by decide +kernel
theorem dX5_count_49 : decode cX5_count 49 = .ok (.ireturn, 1) := by decide +kernel
theorem dX5_count_50 : decode cX5_count 50 = .ok (.iconst 0, 1) := by decide +kernel
theorem dX5_count_51 : decode cX5_count 51 = .ok (.istore_n 3, 1) := by decide +kernel
theorem dX5_count_52 : decode cX5_count 52 = .ok (.iload_n 3, 1) := by decide +kernel
theorem dX5_count_53 : decode cX5_count 53 = .ok (.aload_n 0, 1) := by decide +kernel
theorem dX5_count_54 : decode cX5_count 54 = .ok (.getfield 63, 3) := by decide +kernel
theorem dX5_count_57 : decode cX5_count 57 = .ok (.if_icmp .ge 26, 3) := by decide +kernel
theorem dX5_count_60 : decode cX5_count 60 = .ok (.iload_n 2, 1) := by decide +kernel
theorem dX5_count_61 : decode cX5_count 61 = .ok (.aload_n 0, 1) := by decide +kernel
theorem dX5_count_62 : decode cX5_count 62 = .ok (.getfield 13, 3) := by decide +kernel
theorem dX5_count_65 : decode cX5_count 65 = .ok (.iload_n 3, 1) := by decide +kernel
theorem dX5_count_66 : decode cX5_count 66 = .ok (.iaload, 1) := by decide +kernel
theorem dX5_count_67 : decode cX5_count 67 = .ok (.ifCond .le 7, 3) := by decide +kernel
theorem dX5_count_70 : decode cX5_count 70 = .ok (.iconst 1, 1) := by decide +kernel
theorem dX5_count_71 : decode cX5_count 71 = .ok (.goto 4, 3) := by decide +kernel
theorem dX5_count_74 : decode cX5_count 74 = .ok (.iconst 0, 1) := by decide +kernel
theorem dX5_count_75 : decode cX5_count 75 = .ok (.iadd, 1) := by decide +kernel
theorem dX5_count_76 : decode cX5_count 76 = .ok (.istore_n 2, 1) := by decide +kernel
theorem dX5_count_77 : decode cX5_count 77 = .ok (.iinc 3 1, 3) := by decide +kernel
theorem dX5_count_80 : decode cX5_count 80 = .ok (.goto (-28), 3) := by decide +kernel
theorem dX5_count_83 : decode cX5_count 83 = .ok (.iload_n 2, 1) := by decide +kernel
theorem dX5_count_84 : decode cX5_count 84 = .ok (.ireturn, 1) := by decide +kernel
theorem dX5_count_85 : decode cX5_count 85 = .ok (.aload_n 0, 1) := by decide +kernel
theorem dX5_count_86 : decode cX5_count 86 = .ok (.getfield 131, 3) := by decide +kernel
theorem dX5_count_89 : decode cX5_count 89 = .ok (.ireturn, 1) := by decide +kernel
theorem dX5_count_90 : decode cX5_count 90 = .ok (.aload_n 0, 1) := by decide +kernel
theorem dX5_count_91 : decode cX5_count 91 = .ok (.getfield 37, 3) := by decide +kernel
theorem dX5_count_94 : decode cX5_count 94 = .ok (.ireturn, 1) := by decide +kernel
theorem dX5_count_95 : decode cX5_count 95 = .ok (.iconst 0, 1) := by decide +kernel
theorem dX5_count_96 : decode cX5_count 96 = .ok (.istore_n 3, 1) := by decide +kernel
theorem dX5_count_97 : decode cX5_count 97 = .ok (.iload_n 3, 1) := by decide +kernel
theorem dX5_count_98 : decode cX5_count 98 = .ok (.aload_n 0, 1) := by decide +kernel
theorem dX5_count_99 : decode cX5_count 99 = .ok (.getfield 63, 3) := by decide +kernel
theorem dX5_count_102 : decode cX5_count 102 = .ok (.if_icmp .ge 18, 3) := by decide +kernel
theorem dX5_count_105 : decode cX5_count 105 = .ok (.iload_n 2, 1) := by decide +kernel
theorem dX5_count_106 : decode cX5_count 106 = .ok (.aload_n 0, 1) := by decide +kernel
theorem dX5_count_107 : decode cX5_count 107 = .ok (.getfield 13, 3) := by decide +kernel
theorem dX5_count_110 : decode cX5_count 110 = .ok (.iload_n 3, 1) := by decide +kernel
theorem dX5_count_111 : decode cX5_count 111 = .ok (.iaload, 1) := by decide +kernel
theorem dX5_count_112 : decode cX5_count 112 = .ok (.iadd, 1) := by decide +kernel
theorem dX5_count_113 : decode cX5_count 113 = .ok (.istore_n 2, 1) := by decide +kernel
theorem dX5_count_114 : decode cX5_count 114 = .ok (.iinc 3 1, 3) := by decide +kernel
theorem dX5_count_117 : decode cX5_count 117 = .ok (.goto (-20), 3) := by decide +kernel
theorem dX5_count_120 : decode cX5_count 120 = .ok (.iload_n 2, 1) := by decide +kernel
theorem dX5_count_121 : decode cX5_count 121 = .ok (.ireturn, 1) := by decide +kernel
theorem dX5_count_122 : decode cX5_count 122 = .ok (.iconst (-1), 1) := by decide +kernel
theorem dX5_count_123 : decode cX5_count 123 = .ok (.ireturn, 1) := by decide +kernel
theorem dX5_trace_0 : decode cX5_trace 0 = .ok (.aload_n 0, 1) := by decide +kernel
theorem dX5_trace_1 : decode cX5_trace 1 = .ok (.getfield 85, 3) := by decide +kernel
theorem dX5_trace_4 : decode cX5_trace 4 = .ok (.lreturn, 1) := by decide +kernel
theorem dJ9_max_7cf53_0 : decode cJ9_max_7cf53 0 = .ok (.iload_n 0, 1) := by decide +kernel
theorem dJ9_max_7cf53_1 : decode cJ9_max_7cf53 1 = .ok (.iload_n 1, 1) := by decide +kernel
theorem dJ9_max_7cf53_2 : decode cJ9_max_7cf53 2 = .ok (.if_icmp .lt 7, 3) := by decide +kernel
theorem dJ9_max_7cf53_5 : decode cJ9_max_7cf53 5 = .ok (.iload_n 0, 1) := by decide +kernel
theorem dJ9_max_7cf53_6 : decode cJ9_max_7cf53 6 = .ok (.goto 4, 3) := by decide +kernel
theorem dJ9_max_7cf53_9 : decode cJ9_max_7cf53 9 = .ok (.iload_n 1, 1) := by decide +kernel
theorem dJ9_max_7cf53_10 : decode cJ9_max_7cf53 10 = .ok (.ireturn, 1) := by decide +kernel
theorem dJ9_min_7cf53_0 : decode cJ9_min_7cf53 0 = .ok (.iload_n 0, 1) := by decide +kernel
theorem dJ9_min_7cf53_1 : decode cJ9_min_7cf53 1 = .ok (.iload_n 1, 1) := by decide +kernel
theorem dJ9_min_7cf53_2 : decode cJ9_min_7cf53 2 = .ok (.if_icmp .gt 7, 3) := by decide +kernel
theorem dJ9_min_7cf53_5 : decode cJ9_min_7cf53 5 = .ok (.iload_n 0, 1) := by decide +kernel
theorem dJ9_min_7cf53_6 : decode cJ9_min_7cf53 6 = .ok (.goto 4, 3) := by decide +kernel
theorem dJ9_min_7cf53_9 : decode cJ9_min_7cf53 9 = .ok (.iload_n 1, 1) := by decide +kernel
theorem dJ9_min_7cf53_10 : decode cJ9_min_7cf53 10 = .ok (.ireturn, 1) := by decide +kernel
theorem dL_law_0 : decode cL_law 0 = .ok (.new 7, 3) := by decide +kernel
theorem dL_law_3 : decode cL_law 3 = .ok (.dup, 1) := by decide +kernel
theorem dL_law_4 : decode cL_law 4 = .ok (.invokespecial 9, 3) := by decide +kernel
theorem dL_law_7 : decode cL_law 7 = .ok (.astore_n 1, 1) := by decide +kernel
theorem dL_law_8 : decode cL_law 8 = .ok (.new 10, 3) := by decide +kernel
theorem dL_law_11 : decode cL_law 11 = .ok (.dup, 1) := by decide +kernel
theorem dL_law_12 : decode cL_law 12 = .ok (.invokespecial 12, 3) := by decide +kernel
theorem dL_law_15 : decode cL_law 15 = .ok (.astore_n 2, 1) := by decide +kernel
theorem dL_law_16 : decode cL_law 16 = .ok (.iconst 0, 1) := by decide +kernel
theorem dL_law_17 : decode cL_law 17 = .ok (.istore_n 3, 1) := by decide +kernel
theorem dL_law_18 : decode cL_law 18 = .ok (.iload_n 3, 1) := by decide +kernel
theorem dL_law_19 : decode cL_law 19 = .ok (.aload_n 0, 1) := by decide +kernel
theorem dL_law_20 : decode cL_law 20 = .ok (.arraylength, 1) := by decide +kernel
theorem dL_law_21 : decode cL_law 21 = .ok (.bipush 6, 2) := by decide +kernel
theorem dL_law_23 : decode cL_law 23 = .ok (.isub, 1) := by decide +kernel
theorem dL_law_24 : decode cL_law 24 = .ok (.if_icmp .gt 759, 3) := by decide +kernel
theorem dL_law_27 : decode cL_law 27 = .ok (.aload_n 0, 1) := by decide +kernel
theorem dL_law_28 : decode cL_law 28 = .ok (.iload_n 3, 1) := by decide +kernel
theorem dL_law_29 : decode cL_law 29 = .ok (.iaload, 1) := by decide +kernel
theorem dL_law_30 : decode cL_law 30 = .ok (.bipush 31, 2) := by decide +kernel
theorem dL_law_32 : decode cL_law 32 = .ok (.iand, 1) := by decide +kernel
theorem dL_law_33 : decode cL_law 33 = .ok (.tableswitch 744 0 20 #[99, 162, 185, 228, 261, 294, 327, 360, 393, 416, 449, 482, 505, 528, 562, 595, 638, 651, 664, 707, 730], 99) := by decide +kernel
theorem dL_law_132 : decode cL_law 132 = .ok (.aload_n 1, 1) := by decide +kernel
theorem dL_law_133 : decode cL_law 133 = .ok (.aload_n 0, 1) := by decide +kernel
theorem dL_law_134 : decode cL_law 134 = .ok (.iload_n 3, 1) := by decide +kernel
theorem dL_law_135 : decode cL_law 135 = .ok (.iconst 1, 1) := by decide +kernel
theorem dL_law_136 : decode cL_law 136 = .ok (.iadd, 1) := by decide +kernel
theorem dL_law_137 : decode cL_law 137 = .ok (.iaload, 1) := by decide +kernel
theorem dL_law_138 : decode cL_law 138 = .ok (.aload_n 0, 1) := by decide +kernel
theorem dL_law_139 : decode cL_law 139 = .ok (.iload_n 3, 1) := by decide +kernel
theorem dL_law_140 : decode cL_law 140 = .ok (.iconst 2, 1) := by decide +kernel
theorem dL_law_141 : decode cL_law 141 = .ok (.iadd, 1) := by decide +kernel
theorem dL_law_142 : decode cL_law 142 = .ok (.iaload, 1) := by decide +kernel
theorem dL_law_143 : decode cL_law 143 = .ok (.aload_n 0, 1) := by decide +kernel
theorem dL_law_144 : decode cL_law 144 = .ok (.iload_n 3, 1) := by decide +kernel
theorem dL_law_145 : decode cL_law 145 = .ok (.iconst 3, 1) := by decide +kernel
theorem dL_law_146 : decode cL_law 146 = .ok (.iadd, 1) := by decide +kernel
theorem dL_law_147 : decode cL_law 147 = .ok (.iaload, 1) := by decide +kernel
theorem dL_law_148 : decode cL_law 148 = .ok (.aload_n 0, 1) := by decide +kernel
theorem dL_law_149 : decode cL_law 149 = .ok (.iload_n 3, 1) := by decide +kernel
theorem dL_law_150 : decode cL_law 150 = .ok (.iconst 4, 1) := by decide +kernel
theorem dL_law_151 : decode cL_law 151 = .ok (.iadd, 1) := by decide +kernel
theorem dL_law_152 : decode cL_law 152 = .ok (.iaload, 1) := by decide +kernel
theorem dL_law_153 : decode cL_law 153 = .ok (.aload_n 0, 1) := by decide +kernel
theorem dL_law_154 : decode cL_law 154 = .ok (.iload_n 3, 1) := by decide +kernel
theorem dL_law_155 : decode cL_law 155 = .ok (.iconst 5, 1) := by decide +kernel
theorem dL_law_156 : decode cL_law 156 = .ok (.iadd, 1) := by decide +kernel
theorem dL_law_157 : decode cL_law 157 = .ok (.iaload, 1) := by decide +kernel
theorem dL_law_158 : decode cL_law 158 = .ok (.invokevirtual 13, 3) := by decide +kernel
theorem dL_law_161 : decode cL_law 161 = .ok (.aload_n 2, 1) := by decide +kernel
theorem dL_law_162 : decode cL_law 162 = .ok (.aload_n 0, 1) := by decide +kernel
theorem dL_law_163 : decode cL_law 163 = .ok (.iload_n 3, 1) := by decide +kernel
theorem dL_law_164 : decode cL_law 164 = .ok (.iconst 1, 1) := by decide +kernel
theorem dL_law_165 : decode cL_law 165 = .ok (.iadd, 1) := by decide +kernel
theorem dL_law_166 : decode cL_law 166 = .ok (.iaload, 1) := by decide +kernel
theorem dL_law_167 : decode cL_law 167 = .ok (.aload_n 0, 1) := by decide +kernel
theorem dL_law_168 : decode cL_law 168 = .ok (.iload_n 3, 1) := by decide +kernel
theorem dL_law_169 : decode cL_law 169 = .ok (.iconst 2, 1) := by decide +kernel
theorem dL_law_170 : decode cL_law 170 = .ok (.iadd, 1) := by decide +kernel
theorem dL_law_171 : decode cL_law 171 = .ok (.iaload, 1) := by decide +kernel
theorem dL_law_172 : decode cL_law 172 = .ok (.aload_n 0, 1) := by decide +kernel
theorem dL_law_173 : decode cL_law 173 = .ok (.iload_n 3, 1) := by decide +kernel
theorem dL_law_174 : decode cL_law 174 = .ok (.iconst 3, 1) := by decide +kernel
theorem dL_law_175 : decode cL_law 175 = .ok (.iadd, 1) := by decide +kernel
theorem dL_law_176 : decode cL_law 176 = .ok (.iaload, 1) := by decide +kernel
theorem dL_law_177 : decode cL_law 177 = .ok (.aload_n 0, 1) := by decide +kernel
theorem dL_law_178 : decode cL_law 178 = .ok (.iload_n 3, 1) := by decide +kernel
theorem dL_law_179 : decode cL_law 179 = .ok (.iconst 4, 1) := by decide +kernel
theorem dL_law_180 : decode cL_law 180 = .ok (.iadd, 1) := by decide +kernel
theorem dL_law_181 : decode cL_law 181 = .ok (.iaload, 1) := by decide +kernel
theorem dL_law_182 : decode cL_law 182 = .ok (.aload_n 0, 1) := by decide +kernel
theorem dL_law_183 : decode cL_law 183 = .ok (.iload_n 3, 1) := by decide +kernel
theorem dL_law_184 : decode cL_law 184 = .ok (.iconst 5, 1) := by decide +kernel
theorem dL_law_185 : decode cL_law 185 = .ok (.iadd, 1) := by decide +kernel
theorem dL_law_186 : decode cL_law 186 = .ok (.iaload, 1) := by decide +kernel
theorem dL_law_187 : decode cL_law 187 = .ok (.invokevirtual 17, 3) := by decide +kernel
theorem dL_law_190 : decode cL_law 190 = .ok (.if_icmp .eq 587, 3) := by decide +kernel
theorem dL_law_193 : decode cL_law 193 = .ok (.iconst 0, 1) := by decide +kernel
theorem dL_law_194 : decode cL_law 194 = .ok (.ireturn, 1) := by decide +kernel
theorem dL_law_195 : decode cL_law 195 = .ok (.aload_n 1, 1) := by decide +kernel
theorem dL_law_196 : decode cL_law 196 = .ok (.aload_n 0, 1) := by decide +kernel
theorem dL_law_197 : decode cL_law 197 = .ok (.iload_n 3, 1) := by decide +kernel
theorem dL_law_198 : decode cL_law 198 = .ok (.iconst 1, 1) := by decide +kernel
theorem dL_law_199 : decode cL_law 199 = .ok (.iadd, 1) := by decide +kernel
theorem dL_law_200 : decode cL_law 200 = .ok (.iaload, 1) := by decide +kernel
theorem dL_law_201 : decode cL_law 201 = .ok (.invokevirtual 18, 3) := by decide +kernel
theorem dL_law_204 : decode cL_law 204 = .ok (.aload_n 2, 1) := by decide +kernel
theorem dL_law_205 : decode cL_law 205 = .ok (.aload_n 0, 1) := by decide +kernel
end
section
theorem dL_law_206 : decode cL_law 206 = .ok (.iload_n 3, 1) := by decide +kernel
theorem dL_law_207 : decode cL_law 207 = .ok (.iconst 1, 1) := by decide +kernel
theorem dL_law_208 : decode cL_law 208 = .ok (.iadd, 1) := by decide +kernel
theorem dL_law_209 : decode cL_law 209 = .ok (.iaload, 1) := by decide +kernel
theorem dL_law_210 : decode cL_law 210 = .ok (.invokevirtual 22, 3) := by decide +kernel
theorem dL_law_213 : decode cL_law 213 = .ok (.if_icmp .eq 564, 3) := by decide +kernel
theorem dL_law_216 : decode cL_law 216 = .ok (.iconst 0, 1) := by decide +kernel
theorem dL_law_217 : decode cL_law 217 = .ok (.ireturn, 1) := by decide +kernel
theorem dL_law_218 : decode cL_law 218 = .ok (.aload_n 1, 1) := by decide +kernel
theorem dL_law_219 : decode cL_law 219 = .ok (.aload_n 0, 1) := by decide +kernel
theorem dL_law_220 : decode cL_law 220 = .ok (.iload_n 3, 1) := by decide +kernel
theorem dL_law_221 : decode cL_law 221 = .ok (.iconst 1, 1) := by decide +kernel
theorem dL_law_222 : decode cL_law 222 = .ok (.iadd, 1) := by decide +kernel
theorem dL_law_223 : decode cL_law 223 = .ok (.iaload, 1) := by decide +kernel
theorem dL_law_224 : decode cL_law 224 = .ok (.aload_n 0, 1) := by decide +kernel
theorem dL_law_225 : decode cL_law 225 = .ok (.iload_n 3, 1) := by decide +kernel
theorem dL_law_226 : decode cL_law 226 = .ok (.iconst 2, 1) := by decide +kernel
theorem dL_law_227 : decode cL_law 227 = .ok (.iadd, 1) := by decide +kernel
theorem dL_law_228 : decode cL_law 228 = .ok (.iaload, 1) := by decide +kernel
theorem dL_law_229 : decode cL_law 229 = .ok (.aload_n 0, 1) := by decide +kernel
theorem dL_law_230 : decode cL_law 230 = .ok (.iload_n 3, 1) := by decide +kernel
theorem dL_law_231 : decode cL_law 231 = .ok (.iconst 3, 1) := by decide +kernel
theorem dL_law_232 : decode cL_law 232 = .ok (.iadd, 1) := by decide +kernel
theorem dL_law_233 : decode cL_law 233 = .ok (.iaload, 1) := by decide +kernel
theorem dL_law_234 : decode cL_law 234 = .ok (.invokevirtual 23, 3) := by decide +kernel
theorem dL_law_237 : decode cL_law 237 = .ok (.aload_n 2, 1) := by decide +kernel
theorem dL_law_238 : decode cL_law 238 = .ok (.aload_n 0, 1) := by decide +kernel
theorem dL_law_239 : decode cL_law 239 = .ok (.iload_n 3, 1) := by decide +kernel
theorem dL_law_240 : decode cL_law 240 = .ok (.iconst 1, 1) := by decide +kernel
theorem dL_law_241 : decode cL_law 241 = .ok (.iadd, 1) := by decide +kernel
theorem dL_law_242 : decode cL_law 242 = .ok (.iaload, 1) := by decide +kernel
theorem dL_law_243 : decode cL_law 243 = .ok (.aload_n 0, 1) := by decide +kernel
theorem dL_law_244 : decode cL_law 244 = .ok (.iload_n 3, 1) := by decide +kernel
theorem dL_law_245 : decode cL_law 245 = .ok (.iconst 2, 1) := by decide +kernel
theorem dL_law_246 : decode cL_law 246 = .ok (.iadd, 1) := by decide +kernel
theorem dL_law_247 : decode cL_law 247 = .ok (.iaload, 1) := by decide +kernel
theorem dL_law_248 : decode cL_law 248 = .ok (.aload_n 0, 1) := by decide +kernel
theorem dL_law_249 : decode cL_law 249 = .ok (.iload_n 3, 1) := by decide +kernel
theorem dL_law_250 : decode cL_law 250 = .ok (.iconst 3, 1) := by decide +kernel
theorem dL_law_251 : decode cL_law 251 = .ok (.iadd, 1) := by decide +kernel
theorem dL_law_252 : decode cL_law 252 = .ok (.iaload, 1) := by decide +kernel
theorem dL_law_253 : decode cL_law 253 = .ok (.invokevirtual 27, 3) := by decide +kernel
theorem dL_law_256 : decode cL_law 256 = .ok (.if_icmp .eq 521, 3) := by decide +kernel
theorem dL_law_259 : decode cL_law 259 = .ok (.iconst 0, 1) := by decide +kernel
theorem dL_law_260 : decode cL_law 260 = .ok (.ireturn, 1) := by decide +kernel
theorem dL_law_261 : decode cL_law 261 = .ok (.aload_n 1, 1) := by decide +kernel
theorem dL_law_262 : decode cL_law 262 = .ok (.aload_n 0, 1) := by decide +kernel
theorem dL_law_263 : decode cL_law 263 = .ok (.iload_n 3, 1) := by decide +kernel
theorem dL_law_264 : decode cL_law 264 = .ok (.iconst 1, 1) := by decide +kernel
theorem dL_law_265 : decode cL_law 265 = .ok (.iadd, 1) := by decide +kernel
theorem dL_law_266 : decode cL_law 266 = .ok (.iaload, 1) := by decide +kernel
theorem dL_law_267 : decode cL_law 267 = .ok (.aload_n 0, 1) := by decide +kernel
theorem dL_law_268 : decode cL_law 268 = .ok (.iload_n 3, 1) := by decide +kernel
theorem dL_law_269 : decode cL_law 269 = .ok (.iconst 2, 1) := by decide +kernel
theorem dL_law_270 : decode cL_law 270 = .ok (.iadd, 1) := by decide +kernel
theorem dL_law_271 : decode cL_law 271 = .ok (.iaload, 1) := by decide +kernel
theorem dL_law_272 : decode cL_law 272 = .ok (.invokevirtual 28, 3) := by decide +kernel
theorem dL_law_275 : decode cL_law 275 = .ok (.aload_n 2, 1) := by decide +kernel
theorem dL_law_276 : decode cL_law 276 = .ok (.aload_n 0, 1) := by decide +kernel
theorem dL_law_277 : decode cL_law 277 = .ok (.iload_n 3, 1) := by decide +kernel
theorem dL_law_278 : decode cL_law 278 = .ok (.iconst 1, 1) := by decide +kernel
theorem dL_law_279 : decode cL_law 279 = .ok (.iadd, 1) := by decide +kernel
theorem dL_law_280 : decode cL_law 280 = .ok (.iaload, 1) := by decide +kernel
theorem dL_law_281 : decode cL_law 281 = .ok (.aload_n 0, 1) := by decide +kernel
theorem dL_law_282 : decode cL_law 282 = .ok (.iload_n 3, 1) := by decide +kernel
theorem dL_law_283 : decode cL_law 283 = .ok (.iconst 2, 1) := by decide +kernel
theorem dL_law_284 : decode cL_law 284 = .ok (.iadd, 1) := by decide +kernel
theorem dL_law_285 : decode cL_law 285 = .ok (.iaload, 1) := by decide +kernel
theorem dL_law_286 : decode cL_law 286 = .ok (.invokevirtual 32, 3) := by decide +kernel
theorem dL_law_289 : decode cL_law 289 = .ok (.if_icmp .eq 488, 3) := by decide +kernel
theorem dL_law_292 : decode cL_law 292 = .ok (.iconst 0, 1) := by decide +kernel
theorem dL_law_293 : decode cL_law 293 = .ok (.ireturn, 1) := by decide +kernel
theorem dL_law_294 : decode cL_law 294 = .ok (.aload_n 1, 1) := by decide +kernel
theorem dL_law_295 : decode cL_law 295 = .ok (.aload_n 0, 1) := by decide +kernel
theorem dL_law_296 : decode cL_law 296 = .ok (.iload_n 3, 1) := by decide +kernel
theorem dL_law_297 : decode cL_law 297 = .ok (.iconst 1, 1) := by decide +kernel
theorem dL_law_298 : decode cL_law 298 = .ok (.iadd, 1) := by decide +kernel
theorem dL_law_299 : decode cL_law 299 = .ok (.iaload, 1) := by decide +kernel
theorem dL_law_300 : decode cL_law 300 = .ok (.aload_n 0, 1) := by decide +kernel
theorem dL_law_301 : decode cL_law 301 = .ok (.iload_n 3, 1) := by decide +kernel
theorem dL_law_302 : decode cL_law 302 = .ok (.iconst 2, 1) := by decide +kernel
theorem dL_law_303 : decode cL_law 303 = .ok (.iadd, 1) := by decide +kernel
theorem dL_law_304 : decode cL_law 304 = .ok (.iaload, 1) := by decide +kernel
theorem dL_law_305 : decode cL_law 305 = .ok (.invokevirtual 33, 3) := by decide +kernel
theorem dL_law_308 : decode cL_law 308 = .ok (.aload_n 2, 1) := by decide +kernel
theorem dL_law_309 : decode cL_law 309 = .ok (.aload_n 0, 1) := by decide +kernel
theorem dL_law_310 : decode cL_law 310 = .ok (.iload_n 3, 1) := by decide +kernel
theorem dL_law_311 : decode cL_law 311 = .ok (.iconst 1, 1) := by decide +kernel
theorem dL_law_312 : decode cL_law 312 = .ok (.iadd, 1) := by decide +kernel
theorem dL_law_313 : decode cL_law 313 = .ok (.iaload, 1) := by decide +kernel
theorem dL_law_314 : decode cL_law 314 = .ok (.aload_n 0, 1) := by decide +kernel
theorem dL_law_315 : decode cL_law 315 = .ok (.iload_n 3, 1) := by decide +kernel
theorem dL_law_316 : decode cL_law 316 = .ok (.iconst 2, 1) := by decide +kernel
theorem dL_law_317 : decode cL_law 317 = .ok (.iadd, 1) := by decide +kernel
theorem dL_law_318 : decode cL_law 318 = .ok (.iaload, 1) := by decide +kernel
theorem dL_law_319 : decode cL_law 319 = .ok (.invokevirtual 36, 3) := by decide +kernel
theorem dL_law_322 : decode cL_law 322 = .ok (.if_icmp .eq 455, 3) := by decide +kernel
theorem dL_law_325 : decode cL_law 325 = .ok (.iconst 0, 1) := by decide +kernel
theorem dL_law_326 : decode cL_law 326 = .ok (.ireturn, 1) := by decide +kernel
theorem dL_law_327 : decode cL_law 327 = .ok (.aload_n 1, 1) := by decide +kernel
theorem dL_law_328 : decode cL_law 328 = .ok (.aload_n 0, 1) := by decide +kernel
theorem dL_law_329 : decode cL_law 329 = .ok (.iload_n 3, 1) := by decide +kernel
theorem dL_law_330 : decode cL_law 330 = .ok (.iconst 1, 1) := by decide +kernel
theorem dL_law_331 : decode cL_law 331 = .ok (.iadd, 1) := by decide +kernel
theorem dL_law_332 : decode cL_law 332 = .ok (.iaload, 1) := by decide +kernel
theorem dL_law_333 : decode cL_law 333 = .ok (.aload_n 0, 1) := by decide +kernel
theorem dL_law_334 : decode cL_law 334 = .ok (.iload_n 3, 1) := by decide +kernel
theorem dL_law_335 : decode cL_law 335 = .ok (.iconst 2, 1) := by decide +kernel
theorem dL_law_336 : decode cL_law 336 = .ok (.iadd, 1) := by decide +kernel
theorem dL_law_337 : decode cL_law 337 = .ok (.iaload, 1) := by decide +kernel
theorem dL_law_338 : decode cL_law 338 = .ok (.invokevirtual 37, 3) := by decide +kernel
theorem dL_law_341 : decode cL_law 341 = .ok (.aload_n 2, 1) := by decide +kernel
theorem dL_law_342 : decode cL_law 342 = .ok (.aload_n 0, 1) := by decide +kernel
theorem dL_law_343 : decode cL_law 343 = .ok (.iload_n 3, 1) := by decide +kernel
theorem dL_law_344 : decode cL_law 344 = .ok (.iconst 1, 1) := by decide +kernel
theorem dL_law_345 : decode cL_law 345 = .ok (.iadd, 1) := by decide +kernel
theorem dL_law_346 : decode cL_law 346 = .ok (.iaload, 1) := by decide +kernel
theorem dL_law_347 : decode cL_law 347 = .ok (.aload_n 0, 1) := by decide +kernel
theorem dL_law_348 : decode cL_law 348 = .ok (.iload_n 3, 1) := by decide +kernel
theorem dL_law_349 : decode cL_law 349 = .ok (.iconst 2, 1) := by decide +kernel
theorem dL_law_350 : decode cL_law 350 = .ok (.iadd, 1) := by decide +kernel
theorem dL_law_351 : decode cL_law 351 = .ok (.iaload, 1) := by decide +kernel
theorem dL_law_352 : decode cL_law 352 = .ok (.invokevirtual 40, 3) := by decide +kernel
theorem dL_law_355 : decode cL_law 355 = .ok (.if_icmp .eq 422, 3) := by decide +kernel
theorem dL_law_358 : decode cL_law 358 = .ok (.iconst 0, 1) := by decide +kernel
theorem dL_law_359 : decode cL_law 359 = .ok (.ireturn, 1) := by decide +kernel
theorem dL_law_360 : decode cL_law 360 = .ok (.aload_n 1, 1) := by decide +kernel
theorem dL_law_361 : decode cL_law 361 = .ok (.aload_n 0, 1) := by decide +kernel
theorem dL_law_362 : decode cL_law 362 = .ok (.iload_n 3, 1) := by decide +kernel
theorem dL_law_363 : decode cL_law 363 = .ok (.iconst 1, 1) := by decide +kernel
theorem dL_law_364 : decode cL_law 364 = .ok (.iadd, 1) := by decide +kernel
theorem dL_law_365 : decode cL_law 365 = .ok (.iaload, 1) := by decide +kernel
theorem dL_law_366 : decode cL_law 366 = .ok (.aload_n 0, 1) := by decide +kernel
theorem dL_law_367 : decode cL_law 367 = .ok (.iload_n 3, 1) := by decide +kernel
theorem dL_law_368 : decode cL_law 368 = .ok (.iconst 2, 1) := by decide +kernel
theorem dL_law_369 : decode cL_law 369 = .ok (.iadd, 1) := by decide +kernel
theorem dL_law_370 : decode cL_law 370 = .ok (.iaload, 1) := by decide +kernel
theorem dL_law_371 : decode cL_law 371 = .ok (.invokevirtual 41, 3) := by decide +kernel
theorem dL_law_374 : decode cL_law 374 = .ok (.aload_n 2, 1) := by decide +kernel
theorem dL_law_375 : decode cL_law 375 = .ok (.aload_n 0, 1) := by decide +kernel
theorem dL_law_376 : decode cL_law 376 = .ok (.iload_n 3, 1) := by decide +kernel
theorem dL_law_377 : decode cL_law 377 = .ok (.iconst 1, 1) := by decide +kernel
theorem dL_law_378 : decode cL_law 378 = .ok (.iadd, 1) := by decide +kernel
theorem dL_law_379 : decode cL_law 379 = .ok (.iaload, 1) := by decide +kernel
theorem dL_law_380 : decode cL_law 380 = .ok (.aload_n 0, 1) := by decide +kernel
theorem dL_law_381 : decode cL_law 381 = .ok (.iload_n 3, 1) := by decide +kernel
theorem dL_law_382 : decode cL_law 382 = .ok (.iconst 2, 1) := by decide +kernel
theorem dL_law_383 : decode cL_law 383 = .ok (.iadd, 1) := by decide +kernel
theorem dL_law_384 : decode cL_law 384 = .ok (.iaload, 1) := by decide +kernel
theorem dL_law_385 : decode cL_law 385 = .ok (.invokevirtual 44, 3) := by decide +kernel
theorem dL_law_388 : decode cL_law 388 = .ok (.if_icmp .eq 389, 3) := by decide +kernel
theorem dL_law_391 : decode cL_law 391 = .ok (.iconst 0, 1) := by decide +kernel
theorem dL_law_392 : decode cL_law 392 = .ok (.ireturn, 1) := by decide +kernel
theorem dL_law_393 : decode cL_law 393 = .ok (.aload_n 1, 1) := by decide +kernel
theorem dL_law_394 : decode cL_law 394 = .ok (.aload_n 0, 1) := by decide +kernel
theorem dL_law_395 : decode cL_law 395 = .ok (.iload_n 3, 1) := by decide +kernel
theorem dL_law_396 : decode cL_law 396 = .ok (.iconst 1, 1) := by decide +kernel
theorem dL_law_397 : decode cL_law 397 = .ok (.iadd, 1) := by decide +kernel
theorem dL_law_398 : decode cL_law 398 = .ok (.iaload, 1) := by decide +kernel
theorem dL_law_399 : decode cL_law 399 = .ok (.aload_n 0, 1) := by decide +kernel
theorem dL_law_400 : decode cL_law 400 = .ok (.iload_n 3, 1) := by decide +kernel
theorem dL_law_401 : decode cL_law 401 = .ok (.iconst 2, 1) := by decide +kernel
theorem dL_law_402 : decode cL_law 402 = .ok (.iadd, 1) := by decide +kernel
theorem dL_law_403 : decode cL_law 403 = .ok (.iaload, 1) := by decide +kernel
theorem dL_law_404 : decode cL_law 404 = .ok (.invokevirtual 45, 3) := by decide +kernel
theorem dL_law_407 : decode cL_law 407 = .ok (.aload_n 2, 1) := by decide +kernel
theorem dL_law_408 : decode cL_law 408 = .ok (.aload_n 0, 1) := by decide +kernel
theorem dL_law_409 : decode cL_law 409 = .ok (.iload_n 3, 1) := by decide +kernel
theorem dL_law_410 : decode cL_law 410 = .ok (.iconst 1, 1) := by decide +kernel
theorem dL_law_411 : decode cL_law 411 = .ok (.iadd, 1) := by decide +kernel
theorem dL_law_412 : decode cL_law 412 = .ok (.iaload, 1) := by decide +kernel
theorem dL_law_413 : decode cL_law 413 = .ok (.aload_n 0, 1) := by decide +kernel
theorem dL_law_414 : decode cL_law 414 = .ok (.iload_n 3, 1) := by decide +kernel
theorem dL_law_415 : decode cL_law 415 = .ok (.iconst 2, 1) := by decide +kernel
theorem dL_law_416 : decode cL_law 416 = .ok (.iadd, 1) := by decide +kernel
theorem dL_law_417 : decode cL_law 417 = .ok (.iaload, 1) := by decide +kernel
theorem dL_law_418 : decode cL_law 418 = .ok (.invokevirtual 48, 3) := by decide +kernel
theorem dL_law_421 : decode cL_law 421 = .ok (.if_icmp .eq 356, 3) := by decide +kernel
theorem dL_law_424 : decode cL_law 424 = .ok (.iconst 0, 1) := by decide +kernel
theorem dL_law_425 : decode cL_law 425 = .ok (.ireturn, 1) := by decide +kernel
theorem dL_law_426 : decode cL_law 426 = .ok (.aload_n 1, 1) := by decide +kernel
theorem dL_law_427 : decode cL_law 427 = .ok (.aload_n 0, 1) := by decide +kernel
theorem dL_law_428 : decode cL_law 428 = .ok (.iload_n 3, 1) := by decide +kernel
theorem dL_law_429 : decode cL_law 429 = .ok (.iconst 1, 1) := by decide +kernel
theorem dL_law_430 : decode cL_law 430 = .ok (.iadd, 1) := by decide +kernel
theorem dL_law_431 : decode cL_law 431 = .ok (.iaload, 1) := by decide +kernel
theorem dL_law_432 : decode cL_law 432 = .ok (.invokevirtual 49, 3) := by decide +kernel
theorem dL_law_435 : decode cL_law 435 = .ok (.aload_n 2, 1) := by decide +kernel
theorem dL_law_436 : decode cL_law 436 = .ok (.aload_n 0, 1) := by decide +kernel
theorem dL_law_437 : decode cL_law 437 = .ok (.iload_n 3, 1) := by decide +kernel
theorem dL_law_438 : decode cL_law 438 = .ok (.iconst 1, 1) := by decide +kernel
theorem dL_law_439 : decode cL_law 439 = .ok (.iadd, 1) := by decide +kernel
theorem dL_law_440 : decode cL_law 440 = .ok (.iaload, 1) := by decide +kernel
theorem dL_law_441 : decode cL_law 441 = .ok (.invokevirtual 52, 3) := by decide +kernel
theorem dL_law_444 : decode cL_law 444 = .ok (.if_icmp .eq 333, 3) := by decide +kernel
theorem dL_law_447 : decode cL_law 447 = .ok (.iconst 0, 1) := by decide +kernel
theorem dL_law_448 : decode cL_law 448 = .ok (.ireturn, 1) := by decide +kernel
theorem dL_law_449 : decode cL_law 449 = .ok (.aload_n 1, 1) := by decide +kernel
theorem dL_law_450 : decode cL_law 450 = .ok (.aload_n 0, 1) := by decide +kernel
theorem dL_law_451 : decode cL_law 451 = .ok (.iload_n 3, 1) := by decide +kernel
theorem dL_law_452 : decode cL_law 452 = .ok (.iconst 1, 1) := by decide +kernel
theorem dL_law_453 : decode cL_law 453 = .ok (.iadd, 1) := by decide +kernel
theorem dL_law_454 : decode cL_law 454 = .ok (.iaload, 1) := by decide +kernel
theorem dL_law_455 : decode cL_law 455 = .ok (.aload_n 0, 1) := by decide +kernel
theorem dL_law_456 : decode cL_law 456 = .ok (.iload_n 3, 1) := by decide +kernel
theorem dL_law_457 : decode cL_law 457 = .ok (.iconst 2, 1) := by decide +kernel
theorem dL_law_458 : decode cL_law 458 = .ok (.iadd, 1) := by decide +kernel
theorem dL_law_459 : decode cL_law 459 = .ok (.iaload, 1) := by decide +kernel
theorem dL_law_460 : decode cL_law 460 = .ok (.invokevirtual 53, 3) := by decide +kernel
theorem dL_law_463 : decode cL_law 463 = .ok (.aload_n 2, 1) := by decide +kernel
theorem dL_law_464 : decode cL_law 464 = .ok (.aload_n 0, 1) := by decide +kernel
theorem dL_law_465 : decode cL_law 465 = .ok (.iload_n 3, 1) := by decide +kernel
theorem dL_law_466 : decode cL_law 466 = .ok (.iconst 1, 1) := by decide +kernel
theorem dL_law_467 : decode cL_law 467 = .ok (.iadd, 1) := by decide +kernel
theorem dL_law_468 : decode cL_law 468 = .ok (.iaload, 1) := by decide +kernel
theorem dL_law_469 : decode cL_law 469 = .ok (.aload_n 0, 1) := by decide +kernel
theorem dL_law_470 : decode cL_law 470 = .ok (.iload_n 3, 1) := by decide +kernel
theorem dL_law_471 : decode cL_law 471 = .ok (.iconst 2, 1) := by decide +kernel
theorem dL_law_472 : decode cL_law 472 = .ok (.iadd, 1) := by decide +kernel
theorem dL_law_473 : decode cL_law 473 = .ok (.iaload, 1) := by decide +kernel
theorem dL_law_474 : decode cL_law 474 = .ok (.invokevirtual 56, 3) := by decide +kernel
theorem dL_law_477 : decode cL_law 477 = .ok (.if_icmp .eq 300, 3) := by decide +kernel
theorem dL_law_480 : decode cL_law 480 = .ok (.iconst 0, 1) := by decide +kernel
theorem dL_law_481 : decode cL_law 481 = .ok (.ireturn, 1) := by decide +kernel
theorem dL_law_482 : decode cL_law 482 = .ok (.aload_n 1, 1) := by decide +kernel
theorem dL_law_483 : decode cL_law 483 = .ok (.aload_n 0, 1) := by decide +kernel
theorem dL_law_484 : decode cL_law 484 = .ok (.iload_n 3, 1) := by decide +kernel
theorem dL_law_485 : decode cL_law 485 = .ok (.iconst 1, 1) := by decide +kernel
theorem dL_law_486 : decode cL_law 486 = .ok (.iadd, 1) := by decide +kernel
theorem dL_law_487 : decode cL_law 487 = .ok (.iaload, 1) := by decide +kernel
theorem dL_law_488 : decode cL_law 488 = .ok (.aload_n 0, 1) := by decide +kernel
theorem dL_law_489 : decode cL_law 489 = .ok (.iload_n 3, 1) := by decide +kernel
theorem dL_law_490 : decode cL_law 490 = .ok (.iconst 2, 1) := by decide +kernel
theorem dL_law_491 : decode cL_law 491 = .ok (.iadd, 1) := by decide +kernel
theorem dL_law_492 : decode cL_law 492 = .ok (.iaload, 1) := by decide +kernel
theorem dL_law_493 : decode cL_law 493 = .ok (.invokevirtual 57, 3) := by decide +kernel
theorem dL_law_496 : decode cL_law 496 = .ok (.aload_n 2, 1) := by decide +kernel
theorem dL_law_497 : decode cL_law 497 = .ok (.aload_n 0, 1) := by decide +kernel
theorem dL_law_498 : decode cL_law 498 = .ok (.iload_n 3, 1) := by decide +kernel
theorem dL_law_499 : decode cL_law 499 = .ok (.iconst 1, 1) := by decide +kernel
theorem dL_law_500 : decode cL_law 500 = .ok (.iadd, 1) := by decide +kernel
theorem dL_law_501 : decode cL_law 501 = .ok (.iaload, 1) := by decide +kernel
theorem dL_law_502 : decode cL_law 502 = .ok (.aload_n 0, 1) := by decide +kernel
theorem dL_law_503 : decode cL_law 503 = .ok (.iload_n 3, 1) := by decide +kernel
theorem dL_law_504 : decode cL_law 504 = .ok (.iconst 2, 1) := by decide +kernel
theorem dL_law_505 : decode cL_law 505 = .ok (.iadd, 1) := by decide +kernel
theorem dL_law_506 : decode cL_law 506 = .ok (.iaload, 1) := by decide +kernel
theorem dL_law_507 : decode cL_law 507 = .ok (.invokevirtual 60, 3) := by decide +kernel
theorem dL_law_510 : decode cL_law 510 = .ok (.if_icmp .eq 267, 3) := by decide +kernel
theorem dL_law_513 : decode cL_law 513 = .ok (.iconst 0, 1) := by decide +kernel
theorem dL_law_514 : decode cL_law 514 = .ok (.ireturn, 1) := by decide +kernel
theorem dL_law_515 : decode cL_law 515 = .ok (.aload_n 1, 1) := by decide +kernel
theorem dL_law_516 : decode cL_law 516 = .ok (.aload_n 0, 1) := by decide +kernel
theorem dL_law_517 : decode cL_law 517 = .ok (.iload_n 3, 1) := by decide +kernel
theorem dL_law_518 : decode cL_law 518 = .ok (.iconst 1, 1) := by decide +kernel
theorem dL_law_519 : decode cL_law 519 = .ok (.iadd, 1) := by decide +kernel
theorem dL_law_520 : decode cL_law 520 = .ok (.iaload, 1) := by decide +kernel
theorem dL_law_521 : decode cL_law 521 = .ok (.invokevirtual 61, 3) := by decide +kernel
theorem dL_law_524 : decode cL_law 524 = .ok (.aload_n 2, 1) := by decide +kernel
theorem dL_law_525 : decode cL_law 525 = .ok (.aload_n 0, 1) := by decide +kernel
theorem dL_law_526 : decode cL_law 526 = .ok (.iload_n 3, 1) := by decide +kernel
theorem dL_law_527 : decode cL_law 527 = .ok (.iconst 1, 1) := by decide +kernel
theorem dL_law_528 : decode cL_law 528 = .ok (.iadd, 1) := by decide +kernel
theorem dL_law_529 : decode cL_law 529 = .ok (.iaload, 1) := by decide +kernel
theorem dL_law_530 : decode cL_law 530 = .ok (.invokevirtual 64, 3) := by decide +kernel
theorem dL_law_533 : decode cL_law 533 = .ok (.if_icmp .eq 244, 3) := by decide +kernel
theorem dL_law_536 : decode cL_law 536 = .ok (.iconst 0, 1) := by decide +kernel
theorem dL_law_537 : decode cL_law 537 = .ok (.ireturn, 1) := by decide +kernel
theorem dL_law_538 : decode cL_law 538 = .ok (.aload_n 1, 1) := by decide +kernel
theorem dL_law_539 : decode cL_law 539 = .ok (.aload_n 0, 1) := by decide +kernel
theorem dL_law_540 : decode cL_law 540 = .ok (.iload_n 3, 1) := by decide +kernel
theorem dL_law_541 : decode cL_law 541 = .ok (.iconst 1, 1) := by decide +kernel
theorem dL_law_542 : decode cL_law 542 = .ok (.iadd, 1) := by decide +kernel
theorem dL_law_543 : decode cL_law 543 = .ok (.iaload, 1) := by decide +kernel
theorem dL_law_544 : decode cL_law 544 = .ok (.invokevirtual 65, 3) := by decide +kernel
theorem dL_law_547 : decode cL_law 547 = .ok (.aload_n 2, 1) := by decide +kernel
theorem dL_law_548 : decode cL_law 548 = .ok (.aload_n 0, 1) := by decide +kernel
theorem dL_law_549 : decode cL_law 549 = .ok (.iload_n 3, 1) := by decide +kernel
theorem dL_law_550 : decode cL_law 550 = .ok (.iconst 1, 1) := by decide +kernel
theorem dL_law_551 : decode cL_law 551 = .ok (.iadd, 1) := by decide +kernel
theorem dL_law_552 : decode cL_law 552 = .ok (.iaload, 1) := by decide +kernel
theorem dL_law_553 : decode cL_law 553 = .ok (.invokevirtual 68, 3) := by decide +kernel
theorem dL_law_556 : decode cL_law 556 = .ok (.if_icmp .eq 221, 3) := by decide +kernel
theorem dL_law_559 : decode cL_law 559 = .ok (.iconst 0, 1) := by decide +kernel
theorem dL_law_560 : decode cL_law 560 = .ok (.ireturn, 1) := by decide +kernel
theorem dL_law_561 : decode cL_law 561 = .ok (.aload_n 1, 1) := by decide +kernel
theorem dL_law_562 : decode cL_law 562 = .ok (.aload_n 0, 1) := by decide +kernel
theorem dL_law_563 : decode cL_law 563 = .ok (.iload_n 3, 1) := by decide +kernel
theorem dL_law_564 : decode cL_law 564 = .ok (.iconst 1, 1) := by decide +kernel
theorem dL_law_565 : decode cL_law 565 = .ok (.iadd, 1) := by decide +kernel
theorem dL_law_566 : decode cL_law 566 = .ok (.iaload, 1) := by decide +kernel
theorem dL_law_567 : decode cL_law 567 = .ok (.aload_n 0, 1) := by decide +kernel
theorem dL_law_568 : decode cL_law 568 = .ok (.iload_n 3, 1) := by decide +kernel
theorem dL_law_569 : decode cL_law 569 = .ok (.iconst 2, 1) := by decide +kernel
theorem dL_law_570 : decode cL_law 570 = .ok (.iadd, 1) := by decide +kernel
theorem dL_law_571 : decode cL_law 571 = .ok (.iaload, 1) := by decide +kernel
theorem dL_law_572 : decode cL_law 572 = .ok (.invokevirtual 69, 3) := by decide +kernel
theorem dL_law_575 : decode cL_law 575 = .ok (.aload_n 2, 1) := by decide +kernel
theorem dL_law_576 : decode cL_law 576 = .ok (.aload_n 0, 1) := by decide +kernel
theorem dL_law_577 : decode cL_law 577 = .ok (.iload_n 3, 1) := by decide +kernel
theorem dL_law_578 : decode cL_law 578 = .ok (.iconst 1, 1) := by decide +kernel
theorem dL_law_579 : decode cL_law 579 = .ok (.iadd, 1) := by decide +kernel
theorem dL_law_580 : decode cL_law 580 = .ok (.iaload, 1) := by decide +kernel
theorem dL_law_581 : decode cL_law 581 = .ok (.aload_n 0, 1) := by decide +kernel
theorem dL_law_582 : decode cL_law 582 = .ok (.iload_n 3, 1) := by decide +kernel
theorem dL_law_583 : decode cL_law 583 = .ok (.iconst 2, 1) := by decide +kernel
theorem dL_law_584 : decode cL_law 584 = .ok (.iadd, 1) := by decide +kernel
theorem dL_law_585 : decode cL_law 585 = .ok (.iaload, 1) := by decide +kernel
theorem dL_law_586 : decode cL_law 586 = .ok (.invokevirtual 73, 3) := by decide +kernel
theorem dL_law_589 : decode cL_law 589 = .ok (.lcmp, 1) := by decide +kernel
theorem dL_law_590 : decode cL_law 590 = .ok (.ifCond .eq 187, 3) := by decide +kernel
theorem dL_law_593 : decode cL_law 593 = .ok (.iconst 0, 1) := by decide +kernel
theorem dL_law_594 : decode cL_law 594 = .ok (.ireturn, 1) := by decide +kernel
theorem dL_law_595 : decode cL_law 595 = .ok (.aload_n 1, 1) := by decide +kernel
theorem dL_law_596 : decode cL_law 596 = .ok (.aload_n 0, 1) := by decide +kernel
theorem dL_law_597 : decode cL_law 597 = .ok (.iload_n 3, 1) := by decide +kernel
theorem dL_law_598 : decode cL_law 598 = .ok (.iconst 1, 1) := by decide +kernel
theorem dL_law_599 : decode cL_law 599 = .ok (.iadd, 1) := by decide +kernel
theorem dL_law_600 : decode cL_law 600 = .ok (.iaload, 1) := by decide +kernel
theorem dL_law_601 : decode cL_law 601 = .ok (.aload_n 0, 1) := by decide +kernel
theorem dL_law_602 : decode cL_law 602 = .ok (.iload_n 3, 1) := by decide +kernel
theorem dL_law_603 : decode cL_law 603 = .ok (.iconst 2, 1) := by decide +kernel
theorem dL_law_604 : decode cL_law 604 = .ok (.iadd, 1) := by decide +kernel
theorem dL_law_605 : decode cL_law 605 = .ok (.iaload, 1) := by decide +kernel
theorem dL_law_606 : decode cL_law 606 = .ok (.invokevirtual 74, 3) := by decide +kernel
theorem dL_law_609 : decode cL_law 609 = .ok (.aload_n 2, 1) := by decide +kernel
theorem dL_law_610 : decode cL_law 610 = .ok (.aload_n 0, 1) := by decide +kernel
theorem dL_law_611 : decode cL_law 611 = .ok (.iload_n 3, 1) := by decide +kernel
theorem dL_law_612 : decode cL_law 612 = .ok (.iconst 1, 1) := by decide +kernel
theorem dL_law_613 : decode cL_law 613 = .ok (.iadd, 1) := by decide +kernel
theorem dL_law_614 : decode cL_law 614 = .ok (.iaload, 1) := by decide +kernel
theorem dL_law_615 : decode cL_law 615 = .ok (.aload_n 0, 1) := by decide +kernel
theorem dL_law_616 : decode cL_law 616 = .ok (.iload_n 3, 1) := by decide +kernel
theorem dL_law_617 : decode cL_law 617 = .ok (.iconst 2, 1) := by decide +kernel
theorem dL_law_618 : decode cL_law 618 = .ok (.iadd, 1) := by decide +kernel
theorem dL_law_619 : decode cL_law 619 = .ok (.iaload, 1) := by decide +kernel
theorem dL_law_620 : decode cL_law 620 = .ok (.invokevirtual 77, 3) := by decide +kernel
theorem dL_law_623 : decode cL_law 623 = .ok (.if_icmp .eq 154, 3) := by decide +kernel
theorem dL_law_626 : decode cL_law 626 = .ok (.iconst 0, 1) := by decide +kernel
theorem dL_law_627 : decode cL_law 627 = .ok (.ireturn, 1) := by decide +kernel
theorem dL_law_628 : decode cL_law 628 = .ok (.aload_n 1, 1) := by decide +kernel
theorem dL_law_629 : decode cL_law 629 = .ok (.aload_n 0, 1) := by decide +kernel
theorem dL_law_630 : decode cL_law 630 = .ok (.iload_n 3, 1) := by decide +kernel
theorem dL_law_631 : decode cL_law 631 = .ok (.iconst 1, 1) := by decide +kernel
theorem dL_law_632 : decode cL_law 632 = .ok (.iadd, 1) := by decide +kernel
theorem dL_law_633 : decode cL_law 633 = .ok (.iaload, 1) := by decide +kernel
theorem dL_law_634 : decode cL_law 634 = .ok (.aload_n 0, 1) := by decide +kernel
theorem dL_law_635 : decode cL_law 635 = .ok (.iload_n 3, 1) := by decide +kernel
theorem dL_law_636 : decode cL_law 636 = .ok (.iconst 2, 1) := by decide +kernel
theorem dL_law_637 : decode cL_law 637 = .ok (.iadd, 1) := by decide +kernel
theorem dL_law_638 : decode cL_law 638 = .ok (.iaload, 1) := by decide +kernel
theorem dL_law_639 : decode cL_law 639 = .ok (.aload_n 0, 1) := by decide +kernel
theorem dL_law_640 : decode cL_law 640 = .ok (.iload_n 3, 1) := by decide +kernel
theorem dL_law_641 : decode cL_law 641 = .ok (.iconst 3, 1) := by decide +kernel
theorem dL_law_642 : decode cL_law 642 = .ok (.iadd, 1) := by decide +kernel
theorem dL_law_643 : decode cL_law 643 = .ok (.iaload, 1) := by decide +kernel
theorem dL_law_644 : decode cL_law 644 = .ok (.invokevirtual 78, 3) := by decide +kernel
theorem dL_law_647 : decode cL_law 647 = .ok (.aload_n 2, 1) := by decide +kernel
theorem dL_law_648 : decode cL_law 648 = .ok (.aload_n 0, 1) := by decide +kernel
theorem dL_law_649 : decode cL_law 649 = .ok (.iload_n 3, 1) := by decide +kernel
theorem dL_law_650 : decode cL_law 650 = .ok (.iconst 1, 1) := by decide +kernel
theorem dL_law_651 : decode cL_law 651 = .ok (.iadd, 1) := by decide +kernel
theorem dL_law_652 : decode cL_law 652 = .ok (.iaload, 1) := by decide +kernel
theorem dL_law_653 : decode cL_law 653 = .ok (.aload_n 0, 1) := by decide +kernel
theorem dL_law_654 : decode cL_law 654 = .ok (.iload_n 3, 1) := by decide +kernel
theorem dL_law_655 : decode cL_law 655 = .ok (.iconst 2, 1) := by decide +kernel
theorem dL_law_656 : decode cL_law 656 = .ok (.iadd, 1) := by decide +kernel
theorem dL_law_657 : decode cL_law 657 = .ok (.iaload, 1) := by decide +kernel
theorem dL_law_658 : decode cL_law 658 = .ok (.aload_n 0, 1) := by decide +kernel
theorem dL_law_659 : decode cL_law 659 = .ok (.iload_n 3, 1) := by decide +kernel
theorem dL_law_660 : decode cL_law 660 = .ok (.iconst 3, 1) := by decide +kernel
theorem dL_law_661 : decode cL_law 661 = .ok (.iadd, 1) := by decide +kernel
theorem dL_law_662 : decode cL_law 662 = .ok (.iaload, 1) := by decide +kernel
theorem dL_law_663 : decode cL_law 663 = .ok (.invokevirtual 81, 3) := by decide +kernel
theorem dL_law_666 : decode cL_law 666 = .ok (.if_icmp .eq 111, 3) := by decide +kernel
theorem dL_law_669 : decode cL_law 669 = .ok (.iconst 0, 1) := by decide +kernel
theorem dL_law_670 : decode cL_law 670 = .ok (.ireturn, 1) := by decide +kernel
theorem dL_law_671 : decode cL_law 671 = .ok (.aload_n 1, 1) := by decide +kernel
theorem dL_law_672 : decode cL_law 672 = .ok (.invokevirtual 82, 3) := by decide +kernel
theorem dL_law_675 : decode cL_law 675 = .ok (.aload_n 2, 1) := by decide +kernel
theorem dL_law_676 : decode cL_law 676 = .ok (.invokevirtual 86, 3) := by decide +kernel
theorem dL_law_679 : decode cL_law 679 = .ok (.if_icmp .eq 98, 3) := by decide +kernel
theorem dL_law_682 : decode cL_law 682 = .ok (.iconst 0, 1) := by decide +kernel
theorem dL_law_683 : decode cL_law 683 = .ok (.ireturn, 1) := by decide +kernel
theorem dL_law_684 : decode cL_law 684 = .ok (.aload_n 1, 1) := by decide +kernel
theorem dL_law_685 : decode cL_law 685 = .ok (.invokevirtual 87, 3) := by decide +kernel
theorem dL_law_688 : decode cL_law 688 = .ok (.aload_n 2, 1) := by decide +kernel
theorem dL_law_689 : decode cL_law 689 = .ok (.invokevirtual 90, 3) := by decide +kernel
theorem dL_law_692 : decode cL_law 692 = .ok (.if_icmp .eq 85, 3) := by decide +kernel
theorem dL_law_695 : decode cL_law 695 = .ok (.iconst 0, 1) := by decide +kernel
theorem dL_law_696 : decode cL_law 696 = .ok (.ireturn, 1) := by decide +kernel
theorem dL_law_697 : decode cL_law 697 = .ok (.aload_n 1, 1) := by decide +kernel
theorem dL_law_698 : decode cL_law 698 = .ok (.aload_n 0, 1) := by decide +kernel
theorem dL_law_699 : decode cL_law 699 = .ok (.iload_n 3, 1) := by decide +kernel
theorem dL_law_700 : decode cL_law 700 = .ok (.iconst 1, 1) := by decide +kernel
theorem dL_law_701 : decode cL_law 701 = .ok (.iadd, 1) := by decide +kernel
theorem dL_law_702 : decode cL_law 702 = .ok (.iaload, 1) := by decide +kernel
theorem dL_law_703 : decode cL_law 703 = .ok (.aload_n 0, 1) := by decide +kernel
theorem dL_law_704 : decode cL_law 704 = .ok (.iload_n 3, 1) := by decide +kernel
theorem dL_law_705 : decode cL_law 705 = .ok (.iconst 2, 1) := by decide +kernel
theorem dL_law_706 : decode cL_law 706 = .ok (.iadd, 1) := by decide +kernel
theorem dL_law_707 : decode cL_law 707 = .ok (.iaload, 1) := by decide +kernel
theorem dL_law_708 : decode cL_law 708 = .ok (.aload_n 0, 1) := by decide +kernel
theorem dL_law_709 : decode cL_law 709 = .ok (.iload_n 3, 1) := by decide +kernel
theorem dL_law_710 : decode cL_law 710 = .ok (.iconst 3, 1) := by decide +kernel
theorem dL_law_711 : decode cL_law 711 = .ok (.iadd, 1) := by decide +kernel
theorem dL_law_712 : decode cL_law 712 = .ok (.iaload, 1) := by decide +kernel
theorem dL_law_713 : decode cL_law 713 = .ok (.invokevirtual 91, 3) := by decide +kernel
theorem dL_law_716 : decode cL_law 716 = .ok (.aload_n 2, 1) := by decide +kernel
theorem dL_law_717 : decode cL_law 717 = .ok (.aload_n 0, 1) := by decide +kernel
theorem dL_law_718 : decode cL_law 718 = .ok (.iload_n 3, 1) := by decide +kernel
theorem dL_law_719 : decode cL_law 719 = .ok (.iconst 1, 1) := by decide +kernel
theorem dL_law_720 : decode cL_law 720 = .ok (.iadd, 1) := by decide +kernel
theorem dL_law_721 : decode cL_law 721 = .ok (.iaload, 1) := by decide +kernel
theorem dL_law_722 : decode cL_law 722 = .ok (.aload_n 0, 1) := by decide +kernel
theorem dL_law_723 : decode cL_law 723 = .ok (.iload_n 3, 1) := by decide +kernel
theorem dL_law_724 : decode cL_law 724 = .ok (.iconst 2, 1) := by decide +kernel
theorem dL_law_725 : decode cL_law 725 = .ok (.iadd, 1) := by decide +kernel
theorem dL_law_726 : decode cL_law 726 = .ok (.iaload, 1) := by decide +kernel
theorem dL_law_727 : decode cL_law 727 = .ok (.aload_n 0, 1) := by decide +kernel
theorem dL_law_728 : decode cL_law 728 = .ok (.iload_n 3, 1) := by decide +kernel
theorem dL_law_729 : decode cL_law 729 = .ok (.iconst 3, 1) := by decide +kernel
theorem dL_law_730 : decode cL_law 730 = .ok (.iadd, 1) := by decide +kernel
theorem dL_law_731 : decode cL_law 731 = .ok (.iaload, 1) := by decide +kernel
theorem dL_law_732 : decode cL_law 732 = .ok (.invokevirtual 94, 3) := by decide +kernel
theorem dL_law_735 : decode cL_law 735 = .ok (.if_icmp .eq 42, 3) := by decide +kernel
theorem dL_law_738 : decode cL_law 738 = .ok (.iconst 0, 1) := by decide +kernel
theorem dL_law_739 : decode cL_law 739 = .ok (.ireturn, 1) := by decide +kernel
theorem dL_law_740 : decode cL_law 740 = .ok (.aload_n 1, 1) := by decide +kernel
theorem dL_law_741 : decode cL_law 741 = .ok (.aload_n 0, 1) := by decide +kernel
theorem dL_law_742 : decode cL_law 742 = .ok (.iload_n 3, 1) := by decide +kernel
theorem dL_law_743 : decode cL_law 743 = .ok (.iconst 1, 1) := by decide +kernel
theorem dL_law_744 : decode cL_law 744 = .ok (.iadd, 1) := by decide +kernel
theorem dL_law_745 : decode cL_law 745 = .ok (.iaload, 1) := by decide +kernel
theorem dL_law_746 : decode cL_law 746 = .ok (.invokevirtual 95, 3) := by decide +kernel
theorem dL_law_749 : decode cL_law 749 = .ok (.aload_n 2, 1) := by decide +kernel
theorem dL_law_750 : decode cL_law 750 = .ok (.aload_n 0, 1) := by decide +kernel
theorem dL_law_751 : decode cL_law 751 = .ok (.iload_n 3, 1) := by decide +kernel
theorem dL_law_752 : decode cL_law 752 = .ok (.iconst 1, 1) := by decide +kernel
theorem dL_law_753 : decode cL_law 753 = .ok (.iadd, 1) := by decide +kernel
theorem dL_law_754 : decode cL_law 754 = .ok (.iaload, 1) := by decide +kernel
theorem dL_law_755 : decode cL_law 755 = .ok (.invokevirtual 98, 3) := by decide +kernel
theorem dL_law_758 : decode cL_law 758 = .ok (.if_icmp .eq 19, 3) := by decide +kernel
theorem dL_law_761 : decode cL_law 761 = .ok (.iconst 0, 1) := by decide +kernel
theorem dL_law_762 : decode cL_law 762 = .ok (.ireturn, 1) := by decide +kernel
theorem dL_law_763 : decode cL_law 763 = .ok (.aload_n 1, 1) := by decide +kernel
theorem dL_law_764 : decode cL_law 764 = .ok (.invokevirtual 99, 3) := by decide +kernel
theorem dL_law_767 : decode cL_law 767 = .ok (.aload_n 2, 1) := by decide +kernel
theorem dL_law_768 : decode cL_law 768 = .ok (.invokevirtual 103, 3) := by decide +kernel
theorem dL_law_771 : decode cL_law 771 = .ok (.lcmp, 1) := by decide +kernel
theorem dL_law_772 : decode cL_law 772 = .ok (.ifCond .eq 5, 3) := by decide +kernel
theorem dL_law_775 : decode cL_law 775 = .ok (.iconst 0, 1) := by decide +kernel
theorem dL_law_776 : decode cL_law 776 = .ok (.ireturn, 1) := by decide +kernel
theorem dL_law_777 : decode cL_law 777 = .ok (.iinc 3 6, 3) := by decide +kernel
theorem dL_law_780 : decode cL_law 780 = .ok (.goto (-762), 3) := by decide +kernel
theorem dL_law_783 : decode cL_law 783 = .ok (.iconst 1, 1) := by decide +kernel
theorem dL_law_784 : decode cL_law 784 = .ok (.ireturn, 1) := by decide +kernel
end
section
/-! my own base: shapes of contracts, calls, loops -/
/-- the links between nest mates that the methods use -/
def NW (U : State) : Prop := va_Nw (.methodLinkNest RX0 34 yX4_dividedUp RX4) U ∧ va_Nw (.methodLinkNest RX0 38 yX4_lossBy RX4) U ∧ va_Nw (.methodLinkNest RX0 45 yX4_lostOf RX4) U ∧ va_Nw (.methodLinkNest RX3 36 yX4_isWithin RX4) U ∧ va_Nw (.methodLinkNest RX4 21 yX3_init RX4) U ∧ va_Nw (.methodLinkNest RX4 28 yX1_init RX4) U ∧ va_Nw (.methodLinkNest RX4 54 yX0_init RX4) U
theorem NW.warm {s U : State} (hW : s.WarmedH U.vm) (h : NW s) : NW U := ⟨va_Nw.warmM hW h.1, va_Nw.warmM hW h.2.1, va_Nw.warmM hW h.2.2.1, va_Nw.warmM hW h.2.2.2.1, va_Nw.warmM hW h.2.2.2.2.1, va_Nw.warmM hW h.2.2.2.2.2.1, va_Nw.warmM hW h.2.2.2.2.2.2⟩
theorem NW.same {s U : State} (e : s.vm = U.vm) (h : NW s) : NW U := ⟨va_Nw.same rfl e h.1, va_Nw.same rfl e h.2.1, va_Nw.same rfl e h.2.2.1, va_Nw.same rfl e h.2.2.2.1, va_Nw.same rfl e h.2.2.2.2.1, va_Nw.same rfl e h.2.2.2.2.2.1, va_Nw.same rfl e h.2.2.2.2.2.2⟩
/-- what a reading method needs -/
def rdB (D : va_G) (tys : List (ClassId × FieldType)) (ws : va_W) (U : State) : Prop := va_P D vwCl ws U.heap ∧ va_K D vwCl tys U ∧ NW U
theorem rdB_blind {D : va_G} {tys : List (ClassId × FieldType)} {ws : va_W} {av : List Value} : FrameBlind (va_Pc av (rdB D tys ws)) := fun a U g mk h => ⟨h.1, h.2.1, va_K.moved (u := U) (U := U.calling g mk a) (Vm.Alike.refl U.vm) h.2.2.1, NW.same rfl h.2.2.2⟩
theorem tr_blind {av : List Value} : FrameBlind (va_Pc av (fun _ => True)) := fun _ _ _ _ h => h
theorem rdB_pre {D : va_G} {tys : List (ClassId × FieldType)} {ws : va_W} {s : State} {H : Heap} {av : List Value} (hP : va_P D vwCl ws H) (hK : va_K D vwCl tys s) (hN : NW s) : ∀ U : State, U.heap = H → s.WarmedH U.vm → va_Pc av (rdB D tys ws) av.toArray U := fun U hU hW => ⟨rfl, by rw [hU]; exact hP, va_K.moved hW.alike hK, hN.warm hW⟩
theorem tr_pre {s : State} {H : Heap} {av : List Value} : ∀ U : State, U.heap = H → s.WarmedH U.vm → va_Pc av (fun _ => True) av.toArray U := fun _ _ _ => ⟨rfl, trivial⟩
/-- what a writing method needs -/
def muB (D : va_G) (tys : List (ClassId × FieldType)) (ws : va_W) (sz : Nat) (E : State → Prop) (U : State) : Prop := U.heap.size = sz ∧ va_P D vwCl ws U.heap ∧ va_K D vwCl tys U ∧ NW U ∧ va_D (fun _ => True) ws ∧ E U
theorem muB_blind {D : va_G} {tys : List (ClassId × FieldType)} {ws : va_W} {sz : Nat} {av : List Value} {E : State → Prop} (hE : ∀ (U : State) (g : JFrame) (mk : MethodId) (a : Array Value), E U → E (U.calling g mk a)) : FrameBlind (va_Pc av (muB D tys ws sz E)) := fun a U g mk h => ⟨h.1, h.2.1, h.2.2.1, va_K.moved (u := U) (U := U.calling g mk a) (Vm.Alike.refl U.vm) h.2.2.2.1, NW.same rfl h.2.2.2.2.1, h.2.2.2.2.2.1, hE _ _ _ _ h.2.2.2.2.2.2⟩
abbrev eT : State → Prop := fun _ => True
abbrev QI {σ : Type} (D : va_G) (post : Int32 → σ → Prop) (w1 : σ → va_W) (A : Nat → Prop) : Array Value → State → Outcome → State → Prop := va_Qi (S := σ) post (fun u t => va_P D vwCl (w1 u) t.heap ∧ va_D A (w1 u)) A
abbrev QV {σ : Type} (D : va_G) (post : σ → Prop) (w1 : σ → va_W) (A : Nat → Prop) : Array Value → State → Outcome → State → Prop := va_Qv (S := σ) post (fun u t => va_P D vwCl (w1 u) t.heap ∧ va_D A (w1 u)) A
abbrev nF : Addr → Prop := fun _ => False
section
variable {p : Program} {l : Launch} {e : Env} {R : Room} {s : State} {m : MethodId} {args : Array Value} {below : List Frame} {meth : Method} {c : Code} {H : Heap} {locs : List Loc} {cells slots : Nat} {Q : State → Prop} {pc : Nat} {ls : Array Slot} {rest st0 : List Value} {cc : ByteArray}
/-- entry of a reading method -/
theorem ro_start {y : MethodName} {ws ws' : List Cond} {rm : Room} {av : List Value} {B : State → Prop} {Qc : Array Value → State → Outcome → State → Prop} {maxL : Nat} {ret : Option FieldType} {free : Addr → Prop} {mc ms : Nat}
    (hy : plainName y.cls = true) (hw : ws = Cond.code y cc maxL ret :: ws') (hlen : (lg_sl av).length ≤ maxL)
    (body : ∀ (p : Program) (e : Env) (s : State) (m : MethodId) (below : List Frame) (meth : Method) (c : Code) (ls : Array Slot), p.tables.exec = Jvm.exec → c.code = cc → meth.sig.returnType = ret → c.maxLocals = maxL → s.vm.findClass y.cls = some m.cls → meth.locks = false → (∀ w ∈ ws, w.before av.toArray s = true) → (meth.name = y.name) → B s → lv_has ls maxL (lv_args 0 av) →
      W p l e rm s m av.toArray below meth c s.heap [] 0 0 (MQ below Qc av.toArray s mc ms free) (F0 m 0 ls [])) : Met l y ws rm (va_Pc av B) Qc mc ms free := by
  refine Met.ofW (cc := cc) (maxL := maxL) (ret := ret) hy hw ?_
  intro p e s m args below meth c s₁ B0 hml hv
  obtain ⟨rfl, hB⟩ := hv
  have hl := lv_entry av (n := maxL) hlen
  rw [lg_entry_eq]
  generalize (lg_sl av ++ List.replicate (maxL - (lg_sl av).length) Slot.unset).toArray = ls at hl ⊢
  exact body p e s m below meth c ls B0.exec B0.bytes B0.returns hml (findClass_of_methodNamed B0.named) B0.notSynchronized (atoms_spec (ws := ws) B0.pre) (name_of_methodNamed B0.named B0.method).1 hB hl
/-- entry of a writing method -/
theorem mu_start {y : MethodName} {ws ws' : List Cond} {rm : Room} {av : List Value} {D : va_G} {tys : List (ClassId × FieldType)} {w0 : va_W} {sz : Nat} {E : State → Prop} {Qc : (Nat → Prop) → Array Value → State → Outcome → State → Prop} {maxL : Nat} {ret : Option FieldType} {mc ms : Nat}
    (hy : plainName y.cls = true) (hw : ws = Cond.code y cc maxL ret :: ws') (hlen : (lg_sl av).length ≤ maxL)
    (body : ∀ (p : Program) (e : Env) (s : State) (m : MethodId) (below : List Frame) (meth : Method) (c : Code) (ls : Array Slot) (A : Nat → Prop), p.tables.exec = Jvm.exec → c.code = cc → meth.sig.returnType = ret → c.maxLocals = maxL → s.vm.findClass y.cls = some m.cls → meth.locks = false → (∀ w ∈ ws, w.before av.toArray s = true) → (meth.name = y.name) → (∀ q : Nat, s.heap.size ≤ q → A q) → va_P D vwCl w0 s.heap → va_K D vwCl tys s → NW s → va_D A w0 → E s → (∀ q : Nat, A q → va_A w0 s.heap.size q) → s.heap.size = sz → lv_has ls maxL (lv_args 0 av) →
      W p l e rm s m av.toArray below meth c s.heap [] 0 0 (MQ below (Qc A) av.toArray s mc ms A) (F0 m 0 ls [])) : Met l y ws rm (va_Pc av (muB D tys w0 sz E)) (Qc (va_A w0 sz)) mc ms (va_A w0 sz) := by
  refine ro_start hy hw hlen ?_
  intro p e s m below meth c ls hx hb hr hml hown hlocks hts hnm hB hl
  obtain ⟨rfl, hP, hK, hN, hD, hE⟩ := hB
  exact body p e s m below meth c ls _ hx hb hr hml hown hlocks hts hnm (fun q h => Or.inr h) hP hK hN hD.self hE (fun _ h => h) rfl hl
theorem ro_iret {v r : Int32} (hx : p.tables.exec = Jvm.exec) (hb : c.code = cc) (hr : meth.sig.returnType = some .int) (hlocks : meth.locks = false) (hd : decode cc pc = .ok (.ireturn, 1)) (h : v = r) : W p l e R s m args below meth c s.heap [] 0 0 (MQ below (vp_Si (fun x => x = r)) args s 0 0 nF) (F0 m pc ls [.int v]) :=
  W.iret hx hb hr (fun t ht hW => ⟨v, rfl, h, ht⟩) (fun q h => by cases h) hd
theorem ro_zret {v r : Int32} (hx : p.tables.exec = Jvm.exec) (hb : c.code = cc) (hr : meth.sig.returnType = some .boolean) (hlocks : meth.locks = false) (hn : narrow .boolean (.int v) = .int v) (hd : decode cc pc = .ok (.ireturn, 1)) (h : v = r) : W p l e R s m args below meth c s.heap [] 0 0 (MQ below (vp_Si (fun x => x = r)) args s 0 0 nF) (F0 m pc ls [.int v]) :=
  W.zret hx hb hr hn (fun t ht hW => ⟨v, rfl, h, ht⟩) (fun q h => by cases h) hd
theorem ro_lret {v r : Int64} (hx : p.tables.exec = Jvm.exec) (hb : c.code = cc) (hr : meth.sig.returnType = some .long) (hlocks : meth.locks = false) (hd : decode cc pc = .ok (.lreturn, 1)) (h : v = r) : W p l e R s m args below meth c s.heap [] 0 0 (MQ below (vp_Sl (fun x => x = r)) args s 0 0 nF) (F0 m pc ls [.long v]) :=
  W.lret hx hb hr (fun t ht hW => ⟨v, rfl, h, ht⟩) (fun q h => by cases h) hd
theorem mu_iret {σ : Type} {D : va_G} {post : Int32 → σ → Prop} {w1 : σ → va_W} {A : Nat → Prop} {v : Int32} (u : σ) (hx : p.tables.exec = Jvm.exec) (hb : c.code = cc) (hr : meth.sig.returnType = some .int) (hlocks : meth.locks = false) (hP : va_P D vwCl (w1 u) H) (hD : va_D A (w1 u)) (hS : va_S A s.heap H locs) (hd : decode cc pc = .ok (.ireturn, 1)) (h : post v u) : W p l e R s m args below meth c H locs 0 0 (MQ below (QI D post w1 A) args s 0 0 A) (F0 m pc ls [.int v]) :=
  W.iret hx hb hr (fun t ht hW => ⟨⟨v, u, rfl, h, by rw [ht]; exact hP, hD⟩, hS.F ht⟩) hS.2.2 hd
theorem mu_zret {σ : Type} {D : va_G} {post : Int32 → σ → Prop} {w1 : σ → va_W} {A : Nat → Prop} {v : Int32} (u : σ) (hx : p.tables.exec = Jvm.exec) (hb : c.code = cc) (hr : meth.sig.returnType = some .boolean) (hlocks : meth.locks = false) (hn : narrow .boolean (.int v) = .int v) (hP : va_P D vwCl (w1 u) H) (hD : va_D A (w1 u)) (hS : va_S A s.heap H locs) (hd : decode cc pc = .ok (.ireturn, 1)) (h : post v u) : W p l e R s m args below meth c H locs 0 0 (MQ below (QI D post w1 A) args s 0 0 A) (F0 m pc ls [.int v]) :=
  W.zret hx hb hr hn (fun t ht hW => ⟨⟨v, u, rfl, h, by rw [ht]; exact hP, hD⟩, hS.F ht⟩) hS.2.2 hd
theorem mu_vret {σ : Type} {D : va_G} {post : σ → Prop} {w1 : σ → va_W} {A : Nat → Prop} {k n : Nat} (u : σ) (hx : p.tables.exec = Jvm.exec) (hb : c.code = cc) (hr : meth.sig.returnType = none) (hlocks : meth.locks = false) (hP : va_P D vwCl (w1 u) H) (hD : va_D A (w1 u)) (hS : va_S A s.heap H locs) (hd : decode cc pc = .ok (.return_, 1)) (h : post u) : W p l e R s m args below meth c H locs k n (MQ below (QV D post w1 A) args s k n A) (F0 m pc ls []) :=
  W.vret hx hb hr (fun t ht hW => ⟨⟨u, rfl, h, by rw [ht]; exact hP, hD⟩, hS.F ht⟩) hS.2.2 hd
/-- a call of a reading method -/
theorem ro_i {a : Array Value} {r : Int32} (hr : va_Run p l e R s m args below meth c H locs cells slots 0 0 (F0 m pc ls st0) rest (vp_Si (fun x => x = r) a) nF)
    (kk : W p l e R s m args below meth c H locs cells slots Q (F0 m (pc + 3) ls (.int r :: rest))) : W p l e R s m args below meth c H locs cells slots Q (F0 m pc ls st0) :=
  vp_callSi hr.run (fun _ h => by rw [h]; exact kk)
theorem ro_l {a : Array Value} {r : Int64} (hr : va_Run p l e R s m args below meth c H locs cells slots 0 0 (F0 m pc ls st0) rest (vp_Sl (fun x => x = r) a) nF)
    (kk : W p l e R s m args below meth c H locs cells slots Q (F0 m (pc + 3) ls (.long r :: rest))) : W p l e R s m args below meth c H locs cells slots Q (F0 m pc ls st0) :=
  vp_callSl hr.run (fun _ h => by rw [h]; exact kk)
end
/-- the cells in the middle are replaced by what a call left there -/
theorem wj_mid {D : va_G} {cl : List vw_C} {A : Nat → Prop} {X Y Z Y' : va_W} {H H1 : Heap} (hP : va_P D cl (X ++ Y ++ Z) H) (hD : va_D A (X ++ Y ++ Z)) (hk : ∀ q : Nat, q < H.size → ¬ va_A Y H.size q → H1[q]? = H[q]?) (hF : ∀ q : Nat, va_A Y H.size q → A q) (hP1 : va_P D cl Y' H1) (hD1 : va_D (va_A Y H.size) Y') : va_P D cl (X ++ Y' ++ Z) H1 ∧ va_D A (X ++ Y' ++ Z) := by
  have hX : ∀ (i : Nat) (q : Nat × va_E), X[i]? = some q → (X ++ Y ++ Z)[i]? = some q := fun i q h => by
    have hi : i < X.length := (List.getElem?_eq_some_iff.mp h).1
    rw [List.append_assoc, List.getElem?_append_left hi]; exact h
  have hZ : ∀ (i : Nat) (q : Nat × va_E), Z[i]? = some q → (X ++ Y ++ Z)[(X ++ Y).length + i]? = some q := fun i q h => by
    rw [List.getElem?_append_right (Nat.le_add_right _ _), Nat.add_sub_cancel_left]; exact h
  have hY : ∀ (i : Nat) (q : Nat × va_E), Y[i]? = some q → (X ++ Y ++ Z)[X.length + i]? = some q := fun i q h => by
    have hi : i < Y.length := (List.getElem?_eq_some_iff.mp h).1
    rw [List.getElem?_append_left (by rw [List.length_append]; omega), List.getElem?_append_right (Nat.le_add_right _ _), Nat.add_sub_cancel_left]; exact h
  have nX : ∀ (i : Nat) (q : Nat × va_E), X[i]? = some q → ¬ va_A Y H.size q.1 := fun i q h hh => by
    rcases hh with ⟨k, e, hk2⟩ | hh
    · have h1 := hD.1 _ _ _ _ (hX i q h) (hY k _ hk2) rfl
      have hi : i < X.length := (List.getElem?_eq_some_iff.mp h).1
      omega
    · exact absurd (hP _ _ (hX i q h)).lt (Nat.not_lt.mpr hh)
  have nZ : ∀ (i : Nat) (q : Nat × va_E), Z[i]? = some q → ¬ va_A Y H.size q.1 := fun i q h hh => by
    rcases hh with ⟨k, e, hk2⟩ | hh
    · have h1 := hD.1 _ _ _ _ (hZ i q h) (hY k _ hk2) rfl
      have hi : k < Y.length := (List.getElem?_eq_some_iff.mp hk2).1
      rw [List.length_append] at h1
      omega
    · exact absurd (hP _ _ (hZ i q h)).lt (Nat.not_lt.mpr hh)
  have pX : va_P D cl X H1 := fun i q h => (hP _ _ (hX i q h)).kept (hk _ (hP _ _ (hX i q h)).lt (nX i q h))
  have pZ : va_P D cl Z H1 := fun i q h => (hP _ _ (hZ i q h)).kept (hk _ (hP _ _ (hZ i q h)).lt (nZ i q h))
  have dX : va_D A X := ⟨fun i j p q h1 h2 h3 => hD.1 _ _ _ _ (hX i p h1) (hX j q h2) h3, fun k q h => hD.2 _ _ (hX k q h)⟩
  have dZ : va_D A Z := ⟨fun i j p q h1 h2 h3 => by have := hD.1 _ _ _ _ (hZ i p h1) (hZ j q h2) h3; omega, fun k q h => hD.2 _ _ (hZ k q h)⟩
  have dY : va_D A Y' := hD1.weaken (fun _ _ _ h => hF _ h)
  refine ⟨(pX.app hP1).app pZ, (dX.app dY (fun i j p q h1 h2 h3 => nX i p h1 (by rw [h3]; exact hD1.2 _ _ h2))).app dZ (fun i j p q h1 h2 h3 => ?_)⟩
  rcases Nat.lt_or_ge i X.length with hi | hi
  · rw [List.getElem?_append_left hi] at h1
    have h4 := hD.1 _ _ _ _ (hX i p h1) (hZ j q h2) h3
    rw [List.length_append] at h4
    omega
  · rw [List.getElem?_append_right hi] at h1
    exact nZ j q h2 (by rw [← h3]; exact hD1.2 _ _ h1)
theorem wj_free {D : va_G} {cl : List vw_C} {A : Nat → Prop} {X Y Z : va_W} {H0 H : Heap} {locs : List Loc} (hD : va_D A (X ++ Y ++ Z)) (hS : va_S A H0 H locs) (hA : ∀ q : Nat, H0.size ≤ q → A q) : ∀ q : Nat, va_A Y H.size q → A q := by
  intro q hh
  rcases hh with ⟨k, e, hk⟩ | hh
  · have hi : k < Y.length := (List.getElem?_eq_some_iff.mp hk).1
    have : (X ++ Y ++ Z)[X.length + k]? = some (q, e) := by
      rw [List.getElem?_append_left (by rw [List.length_append]; omega), List.getElem?_append_right (Nat.le_add_right _ _), Nat.add_sub_cancel_left]; exact hk
    exact hD.2 _ _ this
  · exact hA q (Nat.le_trans hS.1 hh)
theorem wj_P {D : va_G} {cl : List vw_C} {X Y Z : va_W} {H : Heap} (hP : va_P D cl (X ++ Y ++ Z) H) : va_P D cl Y H := fun k q hk => by
  have hi : k < Y.length := (List.getElem?_eq_some_iff.mp hk).1
  refine hP (X.length + k) q ?_
  rw [List.getElem?_append_left (by rw [List.length_append]; omega), List.getElem?_append_right (Nat.le_add_right _ _), Nat.add_sub_cancel_left]; exact hk
theorem wj_D {A : Nat → Prop} {X Y Z : va_W} (hD : va_D A (X ++ Y ++ Z)) : va_D (fun _ => True) Y := by
  have hY : ∀ (i : Nat) (q : Nat × va_E), Y[i]? = some q → (X ++ Y ++ Z)[X.length + i]? = some q := fun i q h => by
    have hi : i < Y.length := (List.getElem?_eq_some_iff.mp h).1
    rw [List.getElem?_append_left (by rw [List.length_append]; omega), List.getElem?_append_right (Nat.le_add_right _ _), Nat.add_sub_cancel_left]; exact h
  exact ⟨fun i j p q h1 h2 h3 => by have := hD.1 _ _ _ _ (hY i p h1) (hY j q h2) h3; omega, fun _ _ _ => trivial⟩
theorem muB_pre {D : va_G} {tys : List (ClassId × FieldType)} {X Y Z : va_W} {s : State} {H : Heap} {av : List Value} {A : Nat → Prop} {E : State → Prop} (hP : va_P D vwCl (X ++ Y ++ Z) H) (hK : va_K D vwCl tys s) (hN : NW s) (hD : va_D A (X ++ Y ++ Z)) (hE : ∀ U : State, U.heap = H → s.WarmedH U.vm → E U) : ∀ U : State, U.heap = H → s.WarmedH U.vm → va_Pc av (muB D tys Y H.size E) av.toArray U := fun U hU hW => ⟨rfl, by rw [hU], by rw [hU]; exact wj_P hP, va_K.moved hW.alike hK, hN.warm hW, wj_D hD, hE U hU hW⟩
section
variable {p : Program} {l : Launch} {e : Env} {R : Room} {s : State} {m : MethodId} {args : Array Value} {below : List Frame} {meth : Method} {c : Code} {H : Heap} {locs : List Loc} {cells slots : Nat} {Q : State → Prop} {pc : Nat} {ls : Array Slot} {rest st0 : List Value} {cc : ByteArray}
/-- a call of a writing method, on the cells Y of the world -/
theorem mu_i {σ : Type} {D : va_G} {post : Int32 → σ → Prop} {w1 : σ → va_W} {A : Nat → Prop} {X Y Z : va_W} {a : Array Value} (hr : va_Run p l e R s m args below meth c H locs cells slots 0 0 (F0 m pc ls st0) rest (QI D post w1 (va_A Y H.size) a) (va_A Y H.size)) (hP : va_P D vwCl (X ++ Y ++ Z) H) (hD : va_D A (X ++ Y ++ Z)) (hS : va_S A s.heap H locs) (hA : ∀ q : Nat, s.heap.size ≤ q → A q)
    (kk : ∀ (r : Int32) (u : σ) (H1 : Heap) (locs1 : List Loc), post r u → va_P D vwCl (X ++ w1 u ++ Z) H1 → va_D A (X ++ w1 u ++ Z) → va_S A s.heap H1 locs1 → W p l e R s m args below meth c H1 locs1 cells slots Q (F0 m (pc + 3) ls (.int r :: rest))) : W p l e R s m args below meth c H locs cells slots Q (F0 m pc ls st0) := by
  have hF : ∀ q : Nat, va_A Y H.size q → A q := wj_free (D := D) (cl := vwCl) hD hS hA
  refine va_calli hr hS (fun q _ h => hF q h) hF (fun r u t H1 locs1 ht hvm hw hB hz1 hk1 hS1 => ?_)
  obtain ⟨hP1, hD1⟩ := hB
  rw [ht] at hP1
  obtain ⟨hP2, hD2⟩ := wj_mid hP hD hk1 hF hP1 hD1
  exact kk r u H1 locs1 hw hP2 hD2 hS1
theorem mu_v {σ : Type} {D : va_G} {post : σ → Prop} {w1 : σ → va_W} {A : Nat → Prop} {X Y Z : va_W} {a : Array Value} {mc ms : Nat} (hr : va_Run p l e R s m args below meth c H locs cells slots mc ms (F0 m pc ls st0) rest (QV D post w1 (va_A Y H.size) a) (va_A Y H.size)) (hP : va_P D vwCl (X ++ Y ++ Z) H) (hD : va_D A (X ++ Y ++ Z)) (hS : va_S A s.heap H locs) (hA : ∀ q : Nat, s.heap.size ≤ q → A q)
    (kk : ∀ (u : σ) (H1 : Heap) (locs1 : List Loc), post u → va_P D vwCl (X ++ w1 u ++ Z) H1 → va_D A (X ++ w1 u ++ Z) → va_S A s.heap H1 locs1 → W p l e R s m args below meth c H1 locs1 (cells + mc) (slots + ms) Q (F0 m (pc + 3) ls rest)) : W p l e R s m args below meth c H locs cells slots Q (F0 m pc ls st0) := by
  have hF : ∀ q : Nat, va_A Y H.size q → A q := wj_free (D := D) (cl := vwCl) hD hS hA
  refine va_callv hr hS (fun q _ h => hF q h) hF (fun u t H1 locs1 ht hvm hw hB hz1 hk1 hS1 => ?_)
  obtain ⟨hP1, hD1⟩ := hB
  rw [ht] at hP1
  obtain ⟨hP2, hD2⟩ := wj_mid hP hD hk1 hF hP1 hD1
  exact kk u H1 locs1 hw hP2 hD2 hS1
/-- two roads come together at frame J x -/
theorem W.join {τ : Type} {g : JFrame} (φ : τ → Prop) (J : τ → JFrame) (h1 : (∀ x, φ x → W p l e R s m args below meth c H locs cells slots Q (J x)) → W p l e R s m args below meth c H locs cells slots Q g) (h2 : ∀ x, φ x → W p l e R s m args below meth c H locs cells slots Q (J x)) : W p l e R s m args below meth c H locs cells slots Q g := h1 h2
/-- a loop that reads: by a measure that falls -/
theorem W.lpR {τ : Type} (φ : τ → Prop) (J : τ → Array Slot → Prop) (μ : τ → Nat) (hs : ∀ (x : τ) (ls : Array Slot), φ x → J x ls → (∀ (x' : τ) (ls' : Array Slot), μ x' < μ x → φ x' → J x' ls' → W p l e R s m args below meth c H locs cells slots Q (F0 m pc ls' [])) → W p l e R s m args below meth c H locs cells slots Q (F0 m pc ls [])) : ∀ (x : τ) (ls : Array Slot), φ x → J x ls → W p l e R s m args below meth c H locs cells slots Q (F0 m pc ls []) := by
  intro x ls hφ hJ
  have key : ∀ (n : Nat) (x : τ) (ls : Array Slot), μ x < n → φ x → J x ls → W p l e R s m args below meth c H locs cells slots Q (F0 m pc ls []) := by
    intro n
    induction n with
    | zero => intro x ls h; exact absurd h (Nat.not_lt_zero _)
    | succ n ih => intro x ls h hφ hJ; exact hs x ls hφ hJ (fun x' ls' h' hφ' hJ' => ih x' ls' (by omega) hφ' hJ')
  exact key (μ x + 1) x ls (Nat.lt_succ_self _) hφ hJ
/-- a loop that writes -/
theorem W.lpW {τ : Type} {D : va_G} {A : Nat → Prop} {H0 : Heap} {cl : List vw_C} (φ : τ → Prop) (ws : τ → va_W) (J : τ → Array Slot → Prop) (μ : τ → Nat) (hs : ∀ (x : τ) (ls : Array Slot) (H : Heap) (locs : List Loc), φ x → J x ls → va_P D cl (ws x) H → va_D A (ws x) → va_S A H0 H locs → (∀ (x' : τ) (ls' : Array Slot) (H' : Heap) (locs' : List Loc), μ x' < μ x → φ x' → J x' ls' → va_P D cl (ws x') H' → va_D A (ws x') → va_S A H0 H' locs' → W p l e R s m args below meth c H' locs' cells slots Q (F0 m pc ls' [])) → W p l e R s m args below meth c H locs cells slots Q (F0 m pc ls [])) : ∀ (x : τ) (ls : Array Slot), φ x → J x ls → va_P D cl (ws x) H → va_D A (ws x) → va_S A H0 H locs → W p l e R s m args below meth c H locs cells slots Q (F0 m pc ls []) := by
  intro x ls hφ hJ hP hD hS
  have key : ∀ (n : Nat) (x : τ) (ls : Array Slot) (H : Heap) (locs : List Loc), μ x < n → φ x → J x ls → va_P D cl (ws x) H → va_D A (ws x) → va_S A H0 H locs → W p l e R s m args below meth c H locs cells slots Q (F0 m pc ls []) := by
    intro n
    induction n with
    | zero => intro x ls H locs h; exact absurd h (Nat.not_lt_zero _)
    | succ n ih => intro x ls H locs h hφ hJ hP hD hS; exact hs x ls H locs hφ hJ hP hD hS (fun x' ls' H' locs' h' hφ' hJ' hP' hD' hS' => ih x' ls' H' locs' (by omega) hφ' hJ' hP' hD' hS')
  exact key (μ x + 1) x ls H locs (Nat.lt_succ_self _) hφ hJ hP hD hS
end
end
section
/-! rows for arrays at an index nI i -/
section
variable {p : Program} {l : Launch} {e : Env} {R : Room} {s : State} {m : MethodId} {args : Array Value} {below : List Frame} {meth : Method} {c : Code} {H H0 : Heap} {locs : List Loc} {cells slots : Nat} {Q : State → Prop} {pc : Nat} {ls : Array Slot} {rest : List Value} {cc : ByteArray} {D : va_G} {cl : List vw_C} {tys : List (ClassId × FieldType)} {ws : va_W} {A : Nat → Prop} {a : Nat}
theorem wa_iald (hexec : p.tables.exec = Jvm.exec) (hb : c.code = cc) (hK : va_K D cl tys s) (hP : va_P D cl ws H) (q0 t0 : Nat) {cA : ClassId} {n : Nat} {f : Nat → Int32} (ha : ws[q0]? = some (a, .inl (cA, n, .inl f))) (ht : tys[t0]? = some (cA, .int)) {x : Int32} (i : Nat) (hxi : x = nI i) (hi : i < n) (hn : n < 2 ^ 31) (hdg : decode cc pc = .ok (.iaload, 1))
    (kk : W p l e R s m args below meth c H locs cells slots Q (F0 m (pc + 1) ls (.int (f i) :: rest))) : W p l e R s m args below meth c H locs cells slots Q (F0 m pc ls (.int x :: .ref a :: rest)) := by
  subst hxi
  refine va_iald hexec hb hK hP q0 t0 ha ht (vp_in_nI hi hn) hdg ?_
  rw [nI_clamp (Nat.lt_trans hi hn)]; exact kk
theorem wa_zald (hexec : p.tables.exec = Jvm.exec) (hb : c.code = cc) (hK : va_K D cl tys s) (hP : va_P D cl ws H) (q0 t0 : Nat) {cA : ClassId} {n : Nat} {f : Nat → Int32} (ha : ws[q0]? = some (a, .inl (cA, n, .inl f))) (ht : tys[t0]? = some (cA, .boolean)) {x : Int32} (i : Nat) (hxi : x = nI i) (hi : i < n) (hn : n < 2 ^ 31) (hdg : decode cc pc = .ok (.baload, 1))
    (kk : W p l e R s m args below meth c H locs cells slots Q (F0 m (pc + 1) ls (.int (f i) :: rest))) : W p l e R s m args below meth c H locs cells slots Q (F0 m pc ls (.int x :: .ref a :: rest)) := by
  subst hxi
  refine va_zald hexec hb hK hP q0 t0 ha ht (vp_in_nI hi hn) hdg ?_
  rw [nI_clamp (Nat.lt_trans hi hn)]; exact kk
theorem wa_iast (hexec : p.tables.exec = Jvm.exec) (hb : c.code = cc) (hK : va_K D cl tys s) (hP : va_P D cl ws H) (hD : va_D A ws) (hS : va_S A H0 H locs) (q0 t0 : Nat) {cA : ClassId} {n : Nat} {f : Nat → Int32} (ha : ws[q0]? = some (a, .inl (cA, n, .inl f))) (ht : tys[t0]? = some (cA, .int)) {x v : Int32} (i : Nat) (hxi : x = nI i) (hi : i < n) (hn : n < 2 ^ 31) (hdg : decode cc pc = .ok (.iastore, 1))
    (kk : ∀ (H1 : Heap) (locs1 : List Loc), va_P D cl (ws.set q0 (a, .inl (cA, n, .inl (upd f i v)))) H1 → va_D A (ws.set q0 (a, .inl (cA, n, .inl (upd f i v)))) → va_S A H0 H1 locs1 → W p l e R s m args below meth c H1 locs1 cells slots Q (F0 m (pc + 1) ls rest)) : W p l e R s m args below meth c H locs cells slots Q (F0 m pc ls (.int v :: .int x :: .ref a :: rest)) := by
  subst hxi
  refine va_iast hexec hb hK hP hD hS q0 t0 ha ht (vp_in_nI hi hn) hdg ?_
  rw [nI_clamp (Nat.lt_trans hi hn)]; exact kk
theorem wa_zast (hexec : p.tables.exec = Jvm.exec) (hb : c.code = cc) (hK : va_K D cl tys s) (hP : va_P D cl ws H) (hD : va_D A ws) (hS : va_S A H0 H locs) (q0 t0 : Nat) {cA : ClassId} {n : Nat} {f : Nat → Int32} (ha : ws[q0]? = some (a, .inl (cA, n, .inl f))) (ht : tys[t0]? = some (cA, .boolean)) {x v : Int32} (i : Nat) (hxi : x = nI i) (hi : i < n) (hn : n < 2 ^ 31) (hv : vp_nar .boolean v = v) (hdg : decode cc pc = .ok (.bastore, 1))
    (kk : ∀ (H1 : Heap) (locs1 : List Loc), va_P D cl (ws.set q0 (a, .inl (cA, n, .inl (upd f i v)))) H1 → va_D A (ws.set q0 (a, .inl (cA, n, .inl (upd f i v)))) → va_S A H0 H1 locs1 → W p l e R s m args below meth c H1 locs1 cells slots Q (F0 m (pc + 1) ls rest)) : W p l e R s m args below meth c H locs cells slots Q (F0 m pc ls (.int v :: .int x :: .ref a :: rest)) := by
  subst hxi
  refine va_zast hexec hb hK hP hD hS q0 t0 ha ht (vp_in_nI hi hn) hdg ?_
  rw [nI_clamp (Nat.lt_trans hi hn), hv]; exact kk
theorem wa_aldq (hexec : p.tables.exec = Jvm.exec) (hb : c.code = cc) (hK : va_K D cl tys s) (hP : va_P D cl ws H) (q0 t0 : Nat) {cA : ClassId} {C : String} {n : Nat} {f : Nat → Option Nat} (ha : ws[q0]? = some (a, .inl (cA, n, .inr (.inr (.inr (.inr f)))))) (ht : tys[t0]? = some (cA, .object C)) {x : Int32} (i : Nat) (hxi : x = nI i) (hi : i < n) (hn : n < 2 ^ 31) {b : Nat} (hf : f i = some b) (hdg : decode cc pc = .ok (.aaload, 1))
    (kk : W p l e R s m args below meth c H locs cells slots Q (F0 m (pc + 1) ls (.ref b :: rest))) : W p l e R s m args below meth c H locs cells slots Q (F0 m pc ls (.int x :: .ref a :: rest)) := by
  subst hxi
  refine va_aldq hexec hb hK hP q0 t0 ha ht (vp_in_nI hi hn) hdg ?_
  rw [nI_clamp (Nat.lt_trans hi hn), hf]; exact kk
end
/-! plain values -/
def zI (b : Bool) : Int32 := if b = true then 1 else 0
theorem zI_t : zI true = 1 := rfl
theorem zI_f : zI false = 0 := rfl
theorem zI_0 {b : Bool} (h : zI b = 0) : b = false := by cases b with
  | false => rfl
  | true => exact absurd h (by decide)
theorem zI_1 {b : Bool} (h : ¬ zI b = 0) : b = true := by cases b with
  | true => rfl
  | false => exact absurd rfl h
theorem zI_nar (b : Bool) : narrow .boolean (.int (zI b)) = .int (zI b) := by cases b <;> rfl
theorem zI_var (b : Bool) : vp_nar .boolean (zI b) = zI b := by cases b <;> rfl
def inR (v a b : Int32) : Bool := decide (a ≤ v) && decide (v ≤ b)
def hasB (set i : Int32) : Bool := decide ((set >>> (i &&& 31)) &&& 1 = 1)
def dUp (a b : Int32) : Int32 := if b < 1 then 0 else (a + b - 1) / b
def mxI (x y : Int32) : Int32 := if x < y then y else x
def mnI (x y : Int32) : Int32 := if y < x then y else x
def lossX (kind floor k : Int32) : Int32 := if kind = 0 then 15 + 5 * floor + mxI 0 (20 - 2 * k) else if kind = 1 then (15 + 5 * floor + mxI 0 (20 - 2 * k)) * 3 / 4 else mxI 1 ((15 + 5 * floor + mxI 0 (20 - 2 * k)) * 3 / 4 - 4)
def lostX (d loss : Int32) : Int32 := dUp (d * loss) 1000
/-- the fold of a counting loop -/
def fN {σ : Type} (f : Nat → σ → σ) : Nat → σ → σ
  | 0, s => s
  | n + 1, s => f n (fN f n s)
theorem fN_s {σ : Type} (f : Nat → σ → σ) (n : Nat) (s : σ) : fN f (n + 1) s = f n (fN f n s) := rfl
theorem nI_of_in {x : Int32} {n : Nat} (hn : n ≤ 4096) (h : inR x 0 (nI n - 1) = true) : ∃ j : Nat, j < n ∧ x = nI j := by
  unfold inR at h
  rw [Bool.and_eq_true, decide_eq_true_eq, decide_eq_true_eq, Int32.le_iff_toInt_le, Int32.le_iff_toInt_le] at h
  have h1 : (nI n - 1).toInt = (n : Int) - 1 := by
    have := pk_sub_toInt (a := n) (b := 1) (by omega) (by omega)
    exact this
  rw [h1] at h
  have h0 : (0 : Int32).toInt = 0 := rfl
  rw [h0] at h
  obtain ⟨j, hj, e⟩ := nI_of (x := x) (by rw [Int32.lt_iff_toInt_lt, h0]; omega)
  refine ⟨j, ?_, e⟩
  rw [e, nI_toInt hj] at h
  omega
end
section
/-! the worlds: a cask, a mix, the class's own cells, the reference's own cells -/
abbrev CT : Type := Int32 × Int32 × Int32 × Int32 × Int32 × Int32 × Int32 × Int32
abbrev c_kd (c : CT) : Int32 := c.1
abbrev c_dr (c : CT) : Int32 := c.2.1
abbrev c_sg (c : CT) : Int32 := c.2.2.1
abbrev c_fl (c : CT) : Int32 := c.2.2.2.1
abbrev c_ok (c : CT) : Int32 := c.2.2.2.2.1
abbrev c_sm (c : CT) : Int32 := c.2.2.2.2.2.1
abbrev c_sw (c : CT) : Int32 := c.2.2.2.2.2.2.1
abbrev c_la (c : CT) : Int32 := c.2.2.2.2.2.2.2
abbrev ckE (c : CT) : va_E := .inr (0, [.int (c_kd c), .int (c_dr c), .int (c_sg c), .int (c_fl c), .int (c_ok c), .int (c_sm c), .int (c_sw c), .int (c_la c)])
abbrev MT : Type := Int32 × Int32 × Int32 × Int32 × Int32 × Int32 × Int32
abbrev m_dr (c : MT) : Int32 := c.1
abbrev m_sg (c : MT) : Int32 := c.2.1
abbrev m_ok (c : MT) : Int32 := c.2.2.1
abbrev m_sm (c : MT) : Int32 := c.2.2.2.1
abbrev m_sw (c : MT) : Int32 := c.2.2.2.2.1
abbrev m_co (c : MT) : Int32 := c.2.2.2.2.2.1
abbrev m_ag (c : MT) : Int32 := c.2.2.2.2.2.2
abbrev mxE (c : MT) : va_E := .inr (1, [.int (m_dr c), .int (m_sg c), .int (m_ok c), .int (m_sm c), .int (m_sw c), .int (m_co c), .int (m_ag c)])
abbrev xPool (q : Nat → Nat) (C : Nat → CT) : va_W := (List.range 12).map (fun i => (q (9 + i), ckE (C i)))
/-- the class's cells: L casks laid, now, rate, trace, casks, ahead, limits, mix, readings, contradiction, group, height -/
abbrev xW (y : Nat → ClassId) (q : Nat → Nat) (L now rt : Int32) (tr : Int64) (C : Nat → CT) (ah w : Nat → Int32) (mx : MT) (rd ct : Int32) (g h : Nat → Int32) : va_W :=
  [(q 0, .inr (4, [.ref (q 1), .ref (q 2), .ref (q 3), .ref (q 5), .ref (q 6), .int L, .int now, .int rt, .long tr])), (q 1, .inl (y 1, 12, .inr (.inr (.inr (.inr (fun i => some (q (9 + i)))))))), (q 2, .inl (y 2, 12, .inl ah)), (q 3, .inr (3, [.ref (q 4)])), (q 4, .inl (y 4, 8, .inl w)), (q 5, mxE mx), (q 6, .inr (2, [.ref (q 7), .ref (q 8), .int rd, .int ct])), (q 7, .inl (y 7, 16, .inl g)), (q 8, .inl (y 8, 16, .inl h))] ++ xPool q C
abbrev xT (y : Nat → ClassId) : List (ClassId × FieldType) := [(y 1, .object "CaskBook$Cask"), (y 2, .int), (y 4, .int), (y 7, .int), (y 8, .int)]
/-- the Scale's cells alone -/
abbrev sW (y : Nat → ClassId) (q : Nat → Nat) (rd ct : Int32) (g h : Nat → Int32) : va_W := [(q 6, .inr (2, [.ref (q 7), .ref (q 8), .int rd, .int ct])), (q 7, .inl (y 7, 16, .inl g)), (q 8, .inl (y 8, 16, .inl h))]
abbrev sT (y : Nat → ClassId) : List (ClassId × FieldType) := [(y 7, .int), (y 8, .int)]
/-- the reference's cells -/
abbrev mW (y : Nat → ClassId) (q : Nat → Nat) (now L : Int32) (kd dr sg fl la ok sm sw w : Nat → Int32) (rt rd : Int32) (no sa to : Nat → Int32) (tr : Int64) (st im va : Nat → Int32) : va_W :=
  [(q 0, .inr (5, [.int now, .int L, .ref (q 1), .ref (q 2), .ref (q 3), .ref (q 4), .ref (q 5), .ref (q 6), .ref (q 7), .ref (q 8), .ref (q 9), .int rt, .int rd, .ref (q 10), .ref (q 11), .ref (q 12), .long tr, .ref (q 13), .ref (q 14), .ref (q 15)])), (q 1, .inl (y 1, 12, .inl kd)), (q 2, .inl (y 2, 12, .inl dr)), (q 3, .inl (y 3, 12, .inl sg)), (q 4, .inl (y 4, 12, .inl fl)), (q 5, .inl (y 5, 12, .inl la)), (q 6, .inl (y 6, 12, .inl ok)), (q 7, .inl (y 7, 12, .inl sm)), (q 8, .inl (y 8, 12, .inl sw)), (q 9, .inl (y 9, 8, .inl w)), (q 10, .inl (y 10, 30, .inl no)), (q 11, .inl (y 11, 30, .inl sa)), (q 12, .inl (y 12, 30, .inl to)), (q 13, .inl (y 13, 12, .inl st)), (q 14, .inl (y 14, 16, .inl im)), (q 15, .inl (y 15, 16, .inl va))]
abbrev mTy (y : Nat → ClassId) : List (ClassId × FieldType) := [(y 1, .int), (y 2, .int), (y 3, .int), (y 4, .int), (y 5, .int), (y 6, .int), (y 7, .int), (y 8, .int), (y 9, .int), (y 10, .int), (y 11, .int), (y 12, .int), (y 13, .int), (y 14, .boolean), (y 15, .int)]
theorem xp_at {X : va_W} {q : Nat → Nat} {C : Nat → CT} {k i : Nat} (hX : X.length = k) (hi : i < 12) : (X ++ xPool q C)[k + i]? = some (q (9 + i), ckE (C i)) := by
  subst hX
  rw [List.getElem?_append_right (Nat.le_add_right _ _), Nat.add_sub_cancel_left, List.getElem?_map, List.getElem?_range hi]
  rfl
theorem xp_eq {X : va_W} {q : Nat → Nat} {C : Nat → CT} {k i : Nat} {c : CT} (hX : X.length = k) (hi : i < 12) : (X ++ xPool q C).set (k + i) (q (9 + i), ckE c) = X ++ xPool q (va_up C i c) := by
  subst hX
  rw [List.set_append_right _ _ (Nat.le_add_right _ _), Nat.add_sub_cancel_left]
  congr 1
  apply List.ext_getElem?
  intro j
  rw [List.getElem?_set]
  by_cases hj : i = j
  · subst hj
    rw [if_pos rfl, List.length_map, List.length_range, if_pos hi, List.getElem?_map, List.getElem?_range hi]
    show some (q (9 + i), ckE c) = some (q (9 + i), ckE (va_up C i c i))
    rw [va_up_self]
  · rw [if_neg hj, List.getElem?_map, List.getElem?_map]
    cases h : (List.range 12)[j]? with
    | none => rfl
    | some z =>
      have hz : z = j := by
        have h2 := List.getElem?_eq_some_iff.mp h
        obtain ⟨h3, h4⟩ := h2
        rw [List.getElem_range] at h4
        exact h4.symm
      subst hz
      show some (q (9 + z), ckE (C z)) = some (q (9 + z), ckE (va_up C i c z))
      rw [va_up_ne _ _ (Ne.symm hj)]
theorem xp_P {D : va_G} {cl : List vw_C} {X : va_W} {q : Nat → Nat} {C : Nat → CT} {k i : Nat} {c : CT} {H : Heap} (hX : X.length = k) (hi : i < 12) (h : va_P D cl ((X ++ xPool q C).set (k + i) (q (9 + i), ckE c)) H) : va_P D cl (X ++ xPool q (va_up C i c)) H := by
  rw [← xp_eq hX hi]; exact h
theorem xp_D {A : Nat → Prop} {X : va_W} {q : Nat → Nat} {C : Nat → CT} {k i : Nat} {c : CT} (hX : X.length = k) (hi : i < 12) (h : va_D A ((X ++ xPool q C).set (k + i) (q (9 + i), ckE c))) : va_D A (X ++ xPool q (va_up C i c)) := by
  rw [← xp_eq hX hi]; exact h
section
variable {p : Program} {l : Launch} {e : Env} {R : Room} {s : State} {m : MethodId} {args : Array Value} {below : List Frame} {meth : Method} {c : Code} {H : Heap} {locs : List Loc} {cells slots : Nat} {Q : State → Prop} {pc : Nat} {ls : Array Slot} {rest st0 : List Value} {cc : ByteArray}
/-- a call of a writing method on the whole world -/
theorem muF_i {σ : Type} {D : va_G} {post : Int32 → σ → Prop} {w1 : σ → va_W} {A : Nat → Prop} {Y : va_W} {a : Array Value} (hr : va_Run p l e R s m args below meth c H locs cells slots 0 0 (F0 m pc ls st0) rest (QI D post w1 (va_A Y H.size) a) (va_A Y H.size)) (hP : va_P D vwCl Y H) (hD : va_D A Y) (hS : va_S A s.heap H locs) (hA : ∀ q : Nat, s.heap.size ≤ q → A q)
    (kk : ∀ (r : Int32) (u : σ) (H1 : Heap) (locs1 : List Loc), post r u → va_P D vwCl (w1 u) H1 → va_D A (w1 u) → va_S A s.heap H1 locs1 → W p l e R s m args below meth c H1 locs1 cells slots Q (F0 m (pc + 3) ls (.int r :: rest))) : W p l e R s m args below meth c H locs cells slots Q (F0 m pc ls st0) :=
  mu_i (X := []) (Z := []) hr (by rw [List.append_nil]; exact hP) (by rw [List.append_nil]; exact hD) hS hA (fun r u H1 locs1 h1 h2 h3 h4 => kk r u H1 locs1 h1 (by rw [List.append_nil] at h2; exact h2) (by rw [List.append_nil] at h3; exact h3) h4)
theorem muF_v {σ : Type} {D : va_G} {post : σ → Prop} {w1 : σ → va_W} {A : Nat → Prop} {Y : va_W} {a : Array Value} (hr : va_Run p l e R s m args below meth c H locs cells slots 0 0 (F0 m pc ls st0) rest (QV D post w1 (va_A Y H.size) a) (va_A Y H.size)) (hP : va_P D vwCl Y H) (hD : va_D A Y) (hS : va_S A s.heap H locs) (hA : ∀ q : Nat, s.heap.size ≤ q → A q)
    (kk : ∀ (u : σ) (H1 : Heap) (locs1 : List Loc), post u → va_P D vwCl (w1 u) H1 → va_D A (w1 u) → va_S A s.heap H1 locs1 → W p l e R s m args below meth c H1 locs1 cells slots Q (F0 m (pc + 3) ls rest)) : W p l e R s m args below meth c H locs cells slots Q (F0 m pc ls st0) :=
  mu_v (X := []) (Z := []) hr (by rw [List.append_nil]; exact hP) (by rw [List.append_nil]; exact hD) hS hA (fun u H1 locs1 h1 h2 h3 h4 => kk u H1 locs1 h1 (by rw [List.append_nil] at h2; exact h2) (by rw [List.append_nil] at h3; exact h3) h4)
end
theorem muF_pre {D : va_G} {tys : List (ClassId × FieldType)} {Y : va_W} {s : State} {H : Heap} {av : List Value} {A : Nat → Prop} {E : State → Prop} (hP : va_P D vwCl Y H) (hK : va_K D vwCl tys s) (hN : NW s) (hD : va_D A Y) (hE : ∀ U : State, U.heap = H → s.WarmedH U.vm → E U) : ∀ U : State, U.heap = H → s.WarmedH U.vm → va_Pc av (muB D tys Y H.size E) av.toArray U := fun U hU hW => ⟨rfl, by rw [hU], by rw [hU]; exact hP, va_K.moved hW.alike hK, hN.warm hW, hD.weaken (fun _ _ _ _ => trivial), hE U hU hW⟩
theorem xp_atF {X : va_W} {q : Nat → Nat} {C : Nat → CT} {k i : Nat} {c : CT} (hX : X.length = k) (hi : i < 12) : (X ++ xPool q (va_up C i c))[k + i]? = some (q (9 + i), ckE c) := by
  rw [xp_at hX hi, va_up_self]
theorem xp_PF {D : va_G} {cl : List vw_C} {X : va_W} {q : Nat → Nat} {C : Nat → CT} {k i : Nat} {c c0 : CT} {H : Heap} (hX : X.length = k) (hi : i < 12) (h : va_P D cl ((X ++ xPool q (va_up C i c0)).set (k + i) (q (9 + i), ckE c)) H) : va_P D cl (X ++ xPool q (va_up C i c)) H := by
  rw [xp_eq hX hi, bx_uu] at h; exact h
theorem xp_DF {A : Nat → Prop} {X : va_W} {q : Nat → Nat} {C : Nat → CT} {k i : Nat} {c c0 : CT} (hX : X.length = k) (hi : i < 12) (h : va_D A ((X ++ xPool q (va_up C i c0)).set (k + i) (q (9 + i), ckE c))) : va_D A (X ++ xPool q (va_up C i c)) := by
  rw [xp_eq hX hi, bx_uu] at h; exact h
section
variable {p : Program} {l : Launch} {e : Env} {R : Room} {s : State} {m : MethodId} {args : Array Value} {below : List Frame} {meth : Method} {c : Code} {H : Heap} {locs : List Loc} {cells slots : Nat} {Q : State → Prop} {pc : Nat} {ls : Array Slot} {rest st0 : List Value} {cc : ByteArray}
theorem wm_max (hexec : p.tables.exec = Jvm.exec) (hb : c.code = cc) (hml : c.maxLocals = ls.size) {own : String} {index : Nat} (hown : s.vm.findClass own = some m.cls) (hlink : (Cond.methodLink own index Lib.Math.max.name).before args s = true) (hstat : (Cond.static Lib.Math.max.name).before args s = true) (hini : (Cond.initialized "java/lang/Math").before args s = true) (hcode : (Cond.code Lib.Math.max.name Lib.Math.max.code 2 (some .int)).before args s = true)
    (hframes : 1 ≤ R.frames) (hlocals : (rest.map fun v => v.category).sum + 13 ≤ R.locals) (hc : cells ≤ R.cells) (hs : slots ≤ R.slots) {x y : Int32} (hdg : decode cc pc = .ok (.invokestatic index, 3))
    (kk : W p l e R s m args below meth c H locs cells slots Q (F0 m (pc + 3) ls (.int (mxI x y) :: rest))) : W p l e R s m args below meth c H locs cells slots Q (F0 m pc ls (.int y :: .int x :: rest)) :=
  va_mmax hexec hb hml hown hlink hstat hini hcode hframes hlocals hc hs hdg kk
theorem wm_min (hexec : p.tables.exec = Jvm.exec) (hb : c.code = cc) (hml : c.maxLocals = ls.size) {own : String} {index : Nat} (hown : s.vm.findClass own = some m.cls) (hlink : (Cond.methodLink own index Lib.Math.min.name).before args s = true) (hstat : (Cond.static Lib.Math.min.name).before args s = true) (hini : (Cond.initialized "java/lang/Math").before args s = true) (hcode : (Cond.code Lib.Math.min.name Lib.Math.min.code 2 (some .int)).before args s = true)
    (hframes : 1 ≤ R.frames) (hlocals : (rest.map fun v => v.category).sum + 13 ≤ R.locals) (hc : cells ≤ R.cells) (hs : slots ≤ R.slots) {x y : Int32} (hdg : decode cc pc = .ok (.invokestatic index, 3))
    (kk : W p l e R s m args below meth c H locs cells slots Q (F0 m (pc + 3) ls (.int (mnI x y) :: rest))) : W p l e R s m args below meth c H locs cells slots Q (F0 m pc ls (.int y :: .int x :: rest)) :=
  va_mmin hexec hb hml hown hlink hstat hini hcode hframes hlocals hc hs hdg kk
end
theorem hdX0_age : yX0_age.cls ≠ "java/lang/invoke/MethodHandle" ∧ yX0_age.cls ≠ "java/lang/invoke/VarHandle" ∧ (parseMethodDescriptor yX0_age.desc).map (fun d => d.parameters.length) = some 1 := by decide +kernel
theorem hdX0_cost : yX0_cost.cls ≠ "java/lang/invoke/MethodHandle" ∧ yX0_cost.cls ≠ "java/lang/invoke/VarHandle" ∧ (parseMethodDescriptor yX0_cost.desc).map (fun d => d.parameters.length) = some 1 := by decide +kernel
theorem hdX0_fill : yX0_fill.cls ≠ "java/lang/invoke/MethodHandle" ∧ yX0_fill.cls ≠ "java/lang/invoke/VarHandle" ∧ (parseMethodDescriptor yX0_fill.desc).map (fun d => d.parameters.length) = some 6 := by decide +kernel
theorem hdX0_init : yX0_init.cls ≠ "java/lang/invoke/MethodHandle" ∧ yX0_init.cls ≠ "java/lang/invoke/VarHandle" ∧ (parseMethodDescriptor yX0_init.desc).map (fun d => d.parameters.length) = some 0 := by decide +kernel
theorem hdX0_lossIn : yX0_lossIn.cls ≠ "java/lang/invoke/MethodHandle" ∧ yX0_lossIn.cls ≠ "java/lang/invoke/VarHandle" ∧ (parseMethodDescriptor yX0_lossIn.desc).map (fun d => d.parameters.length) = some 1 := by decide +kernel
theorem hdX0_passYear : yX0_passYear.cls ≠ "java/lang/invoke/MethodHandle" ∧ yX0_passYear.cls ≠ "java/lang/invoke/VarHandle" ∧ (parseMethodDescriptor yX0_passYear.desc).map (fun d => d.parameters.length) = some 1 := by decide +kernel
theorem hdX1_add : yX1_add.cls ≠ "java/lang/invoke/MethodHandle" ∧ yX1_add.cls ≠ "java/lang/invoke/VarHandle" ∧ (parseMethodDescriptor yX1_add.desc).map (fun d => d.parameters.length) = some 2 := by decide +kernel
theorem hdX1_evenly : yX1_evenly.cls ≠ "java/lang/invoke/MethodHandle" ∧ yX1_evenly.cls ≠ "java/lang/invoke/VarHandle" ∧ (parseMethodDescriptor yX1_evenly.desc).map (fun d => d.parameters.length) = some 1 := by decide +kernel
theorem hdX1_init : yX1_init.cls ≠ "java/lang/invoke/MethodHandle" ∧ yX1_init.cls ≠ "java/lang/invoke/VarHandle" ∧ (parseMethodDescriptor yX1_init.desc).map (fun d => d.parameters.length) = some 0 := by decide +kernel
theorem hdX1_start : yX1_start.cls ≠ "java/lang/invoke/MethodHandle" ∧ yX1_start.cls ≠ "java/lang/invoke/VarHandle" ∧ (parseMethodDescriptor yX1_start.desc).map (fun d => d.parameters.length) = some 0 := by decide +kernel
theorem hdX2_fit : yX2_fit.cls ≠ "java/lang/invoke/MethodHandle" ∧ yX2_fit.cls ≠ "java/lang/invoke/VarHandle" ∧ (parseMethodDescriptor yX2_fit.desc).map (fun d => d.parameters.length) = some 3 := by decide +kernel
theorem hdX2_init : yX2_init.cls ≠ "java/lang/invoke/MethodHandle" ∧ yX2_init.cls ≠ "java/lang/invoke/VarHandle" ∧ (parseMethodDescriptor yX2_init.desc).map (fun d => d.parameters.length) = some 0 := by decide +kernel
theorem hdX2_join : yX2_join.cls ≠ "java/lang/invoke/MethodHandle" ∧ yX2_join.cls ≠ "java/lang/invoke/VarHandle" ∧ (parseMethodDescriptor yX2_join.desc).map (fun d => d.parameters.length) = some 3 := by decide +kernel
theorem hdX2_reset : yX2_reset.cls ≠ "java/lang/invoke/MethodHandle" ∧ yX2_reset.cls ≠ "java/lang/invoke/VarHandle" ∧ (parseMethodDescriptor yX2_reset.desc).map (fun d => d.parameters.length) = some 0 := by decide +kernel
theorem hdX2_take : yX2_take.cls ≠ "java/lang/invoke/MethodHandle" ∧ yX2_take.cls ≠ "java/lang/invoke/VarHandle" ∧ (parseMethodDescriptor yX2_take.desc).map (fun d => d.parameters.length) = some 3 := by decide +kernel
theorem hdX2_ties : yX2_ties.cls ≠ "java/lang/invoke/MethodHandle" ∧ yX2_ties.cls ≠ "java/lang/invoke/VarHandle" ∧ (parseMethodDescriptor yX2_ties.desc).map (fun d => d.parameters.length) = some 2 := by decide +kernel
theorem hdX3_init : yX3_init.cls ≠ "java/lang/invoke/MethodHandle" ∧ yX3_init.cls ≠ "java/lang/invoke/VarHandle" ∧ (parseMethodDescriptor yX3_init.desc).map (fun d => d.parameters.length) = some 0 := by decide +kernel
theorem hdX3_isMetBy : yX3_isMetBy.cls ≠ "java/lang/invoke/MethodHandle" ∧ yX3_isMetBy.cls ≠ "java/lang/invoke/VarHandle" ∧ (parseMethodDescriptor yX3_isMetBy.desc).map (fun d => d.parameters.length) = some 1 := by decide +kernel
theorem hdX3_isOldEnough : yX3_isOldEnough.cls ≠ "java/lang/invoke/MethodHandle" ∧ yX3_isOldEnough.cls ≠ "java/lang/invoke/VarHandle" ∧ (parseMethodDescriptor yX3_isOldEnough.desc).map (fun d => d.parameters.length) = some 1 := by decide +kernel
theorem hdX3_most : yX3_most.cls ≠ "java/lang/invoke/MethodHandle" ∧ yX3_most.cls ≠ "java/lang/invoke/VarHandle" ∧ (parseMethodDescriptor yX3_most.desc).map (fun d => d.parameters.length) = some 1 := by decide +kernel
theorem hdX4_about : yX4_about.cls ≠ "java/lang/invoke/MethodHandle" ∧ yX4_about.cls ≠ "java/lang/invoke/VarHandle" ∧ (parseMethodDescriptor yX4_about.desc).map (fun d => d.parameters.length) = some 2 := by decide +kernel
theorem hdX4_allDrops : yX4_allDrops.cls ≠ "java/lang/invoke/MethodHandle" ∧ yX4_allDrops.cls ≠ "java/lang/invoke/VarHandle" ∧ (parseMethodDescriptor yX4_allDrops.desc).map (fun d => d.parameters.length) = some 0 := by decide +kernel
theorem hdX4_apart : yX4_apart.cls ≠ "java/lang/invoke/MethodHandle" ∧ yX4_apart.cls ≠ "java/lang/invoke/VarHandle" ∧ (parseMethodDescriptor yX4_apart.desc).map (fun d => d.parameters.length) = some 2 := by decide +kernel
theorem hdX4_best : yX4_best.cls ≠ "java/lang/invoke/MethodHandle" ∧ yX4_best.cls ≠ "java/lang/invoke/VarHandle" ∧ (parseMethodDescriptor yX4_best.desc).map (fun d => d.parameters.length) = some 1 := by decide +kernel
theorem hdX4_bestSet : yX4_bestSet.cls ≠ "java/lang/invoke/MethodHandle" ∧ yX4_bestSet.cls ≠ "java/lang/invoke/VarHandle" ∧ (parseMethodDescriptor yX4_bestSet.desc).map (fun d => d.parameters.length) = some 0 := by decide +kernel
theorem hdX4_blend : yX4_blend.cls ≠ "java/lang/invoke/MethodHandle" ∧ yX4_blend.cls ≠ "java/lang/invoke/VarHandle" ∧ (parseMethodDescriptor yX4_blend.desc).map (fun d => d.parameters.length) = some 2 := by decide +kernel
theorem hdX4_clear : yX4_clear.cls ≠ "java/lang/invoke/MethodHandle" ∧ yX4_clear.cls ≠ "java/lang/invoke/VarHandle" ∧ (parseMethodDescriptor yX4_clear.desc).map (fun d => d.parameters.length) = some 0 := by decide +kernel
theorem hdX4_contradicts : yX4_contradicts.cls ≠ "java/lang/invoke/MethodHandle" ∧ yX4_contradicts.cls ≠ "java/lang/invoke/VarHandle" ∧ (parseMethodDescriptor yX4_contradicts.desc).map (fun d => d.parameters.length) = some 0 := by decide +kernel
theorem hdX4_count : yX4_count.cls ≠ "java/lang/invoke/MethodHandle" ∧ yX4_count.cls ≠ "java/lang/invoke/VarHandle" ∧ (parseMethodDescriptor yX4_count.desc).map (fun d => d.parameters.length) = some 1 := by decide +kernel
theorem hdX4_cut : yX4_cut.cls ≠ "java/lang/invoke/MethodHandle" ∧ yX4_cut.cls ≠ "java/lang/invoke/VarHandle" ∧ (parseMethodDescriptor yX4_cut.desc).map (fun d => d.parameters.length) = some 2 := by decide +kernel
theorem hdX4_dividedUp : yX4_dividedUp.cls ≠ "java/lang/invoke/MethodHandle" ∧ yX4_dividedUp.cls ≠ "java/lang/invoke/VarHandle" ∧ (parseMethodDescriptor yX4_dividedUp.desc).map (fun d => d.parameters.length) = some 2 := by decide +kernel
theorem hdX4_draw : yX4_draw.cls ≠ "java/lang/invoke/MethodHandle" ∧ yX4_draw.cls ≠ "java/lang/invoke/VarHandle" ∧ (parseMethodDescriptor yX4_draw.desc).map (fun d => d.parameters.length) = some 2 := by decide +kernel
theorem hdX4_duty : yX4_duty.cls ≠ "java/lang/invoke/MethodHandle" ∧ yX4_duty.cls ≠ "java/lang/invoke/VarHandle" ∧ (parseMethodDescriptor yX4_duty.desc).map (fun d => d.parameters.length) = some 1 := by decide +kernel
theorem hdX4_gather : yX4_gather.cls ≠ "java/lang/invoke/MethodHandle" ∧ yX4_gather.cls ≠ "java/lang/invoke/VarHandle" ∧ (parseMethodDescriptor yX4_gather.desc).map (fun d => d.parameters.length) = some 1 := by decide +kernel
theorem hdX4_hang : yX4_hang.cls ≠ "java/lang/invoke/MethodHandle" ∧ yX4_hang.cls ≠ "java/lang/invoke/VarHandle" ∧ (parseMethodDescriptor yX4_hang.desc).map (fun d => d.parameters.length) = some 3 := by decide +kernel
theorem hdX4_holds : yX4_holds.cls ≠ "java/lang/invoke/MethodHandle" ∧ yX4_holds.cls ≠ "java/lang/invoke/VarHandle" ∧ (parseMethodDescriptor yX4_holds.desc).map (fun d => d.parameters.length) = some 2 := by decide +kernel
theorem hdX4_init : yX4_init.cls ≠ "java/lang/invoke/MethodHandle" ∧ yX4_init.cls ≠ "java/lang/invoke/VarHandle" ∧ (parseMethodDescriptor yX4_init.desc).map (fun d => d.parameters.length) = some 0 := by decide +kernel
theorem hdX4_isCask : yX4_isCask.cls ≠ "java/lang/invoke/MethodHandle" ∧ yX4_isCask.cls ≠ "java/lang/invoke/VarHandle" ∧ (parseMethodDescriptor yX4_isCask.desc).map (fun d => d.parameters.length) = some 1 := by decide +kernel
theorem hdX4_isNose : yX4_isNose.cls ≠ "java/lang/invoke/MethodHandle" ∧ yX4_isNose.cls ≠ "java/lang/invoke/VarHandle" ∧ (parseMethodDescriptor yX4_isNose.desc).map (fun d => d.parameters.length) = some 1 := by decide +kernel
theorem hdX4_isSet : yX4_isSet.cls ≠ "java/lang/invoke/MethodHandle" ∧ yX4_isSet.cls ≠ "java/lang/invoke/VarHandle" ∧ (parseMethodDescriptor yX4_isSet.desc).map (fun d => d.parameters.length) = some 1 := by decide +kernel
theorem hdX4_isTriangle : yX4_isTriangle.cls ≠ "java/lang/invoke/MethodHandle" ∧ yX4_isTriangle.cls ≠ "java/lang/invoke/VarHandle" ∧ (parseMethodDescriptor yX4_isTriangle.desc).map (fun d => d.parameters.length) = some 2 := by decide +kernel
theorem hdX4_isWithin : yX4_isWithin.cls ≠ "java/lang/invoke/MethodHandle" ∧ yX4_isWithin.cls ≠ "java/lang/invoke/VarHandle" ∧ (parseMethodDescriptor yX4_isWithin.desc).map (fun d => d.parameters.length) = some 3 := by decide +kernel
theorem hdX4_lasts : yX4_lasts.cls ≠ "java/lang/invoke/MethodHandle" ∧ yX4_lasts.cls ≠ "java/lang/invoke/VarHandle" ∧ (parseMethodDescriptor yX4_lasts.desc).map (fun d => d.parameters.length) = some 2 := by decide +kernel
theorem hdX4_lay : yX4_lay.cls ≠ "java/lang/invoke/MethodHandle" ∧ yX4_lay.cls ≠ "java/lang/invoke/VarHandle" ∧ (parseMethodDescriptor yX4_lay.desc).map (fun d => d.parameters.length) = some 5 := by decide +kernel
theorem hdX4_loss : yX4_loss.cls ≠ "java/lang/invoke/MethodHandle" ∧ yX4_loss.cls ≠ "java/lang/invoke/VarHandle" ∧ (parseMethodDescriptor yX4_loss.desc).map (fun d => d.parameters.length) = some 3 := by decide +kernel
theorem hdX4_lossBy : yX4_lossBy.cls ≠ "java/lang/invoke/MethodHandle" ∧ yX4_lossBy.cls ≠ "java/lang/invoke/VarHandle" ∧ (parseMethodDescriptor yX4_lossBy.desc).map (fun d => d.parameters.length) = some 3 := by decide +kernel
theorem hdX4_lostOf : yX4_lostOf.cls ≠ "java/lang/invoke/MethodHandle" ∧ yX4_lostOf.cls ≠ "java/lang/invoke/VarHandle" ∧ (parseMethodDescriptor yX4_lostOf.desc).map (fun d => d.parameters.length) = some 2 := by decide +kernel
theorem hdX4_move : yX4_move.cls ≠ "java/lang/invoke/MethodHandle" ∧ yX4_move.cls ≠ "java/lang/invoke/VarHandle" ∧ (parseMethodDescriptor yX4_move.desc).map (fun d => d.parameters.length) = some 2 := by decide +kernel
theorem hdX4_notEmpty : yX4_notEmpty.cls ≠ "java/lang/invoke/MethodHandle" ∧ yX4_notEmpty.cls ≠ "java/lang/invoke/VarHandle" ∧ (parseMethodDescriptor yX4_notEmpty.desc).map (fun d => d.parameters.length) = some 0 := by decide +kernel
theorem hdX4_odds : yX4_odds.cls ≠ "java/lang/invoke/MethodHandle" ∧ yX4_odds.cls ≠ "java/lang/invoke/VarHandle" ∧ (parseMethodDescriptor yX4_odds.desc).map (fun d => d.parameters.length) = some 2 := by decide +kernel
theorem hdX4_passYear : yX4_passYear.cls ≠ "java/lang/invoke/MethodHandle" ∧ yX4_passYear.cls ≠ "java/lang/invoke/VarHandle" ∧ (parseMethodDescriptor yX4_passYear.desc).map (fun d => d.parameters.length) = some 0 := by decide +kernel
theorem hdX4_passYearAhead : yX4_passYearAhead.cls ≠ "java/lang/invoke/MethodHandle" ∧ yX4_passYearAhead.cls ≠ "java/lang/invoke/VarHandle" ∧ (parseMethodDescriptor yX4_passYearAhead.desc).map (fun d => d.parameters.length) = some 1 := by decide +kernel
theorem hdX4_rate : yX4_rate.cls ≠ "java/lang/invoke/MethodHandle" ∧ yX4_rate.cls ≠ "java/lang/invoke/VarHandle" ∧ (parseMethodDescriptor yX4_rate.desc).map (fun d => d.parameters.length) = some 1 := by decide +kernel
theorem hdX4_read : yX4_read.cls ≠ "java/lang/invoke/MethodHandle" ∧ yX4_read.cls ≠ "java/lang/invoke/VarHandle" ∧ (parseMethodDescriptor yX4_read.desc).map (fun d => d.parameters.length) = some 3 := by decide +kernel
theorem hdX4_takeAhead : yX4_takeAhead.cls ≠ "java/lang/invoke/MethodHandle" ∧ yX4_takeAhead.cls ≠ "java/lang/invoke/VarHandle" ∧ (parseMethodDescriptor yX4_takeAhead.desc).map (fun d => d.parameters.length) = some 3 := by decide +kernel
theorem hdX4_trace : yX4_trace.cls ≠ "java/lang/invoke/MethodHandle" ∧ yX4_trace.cls ≠ "java/lang/invoke/VarHandle" ∧ (parseMethodDescriptor yX4_trace.desc).map (fun d => d.parameters.length) = some 0 := by decide +kernel
theorem hdX4_want : yX4_want.cls ≠ "java/lang/invoke/MethodHandle" ∧ yX4_want.cls ≠ "java/lang/invoke/VarHandle" ∧ (parseMethodDescriptor yX4_want.desc).map (fun d => d.parameters.length) = some 2 := by decide +kernel
theorem hdX4_ways : yX4_ways.cls ≠ "java/lang/invoke/MethodHandle" ∧ yX4_ways.cls ≠ "java/lang/invoke/VarHandle" ∧ (parseMethodDescriptor yX4_ways.desc).map (fun d => d.parameters.length) = some 2 := by decide +kernel
theorem hdX4_years : yX4_years.cls ≠ "java/lang/invoke/MethodHandle" ∧ yX4_years.cls ≠ "java/lang/invoke/VarHandle" ∧ (parseMethodDescriptor yX4_years.desc).map (fun d => d.parameters.length) = some 1 := by decide +kernel
theorem hdX5_about : yX5_about.cls ≠ "java/lang/invoke/MethodHandle" ∧ yX5_about.cls ≠ "java/lang/invoke/VarHandle" ∧ (parseMethodDescriptor yX5_about.desc).map (fun d => d.parameters.length) = some 2 := by decide +kernel
theorem hdX5_ageOf : yX5_ageOf.cls ≠ "java/lang/invoke/MethodHandle" ∧ yX5_ageOf.cls ≠ "java/lang/invoke/VarHandle" ∧ (parseMethodDescriptor yX5_ageOf.desc).map (fun d => d.parameters.length) = some 1 := by decide +kernel
theorem hdX5_apart : yX5_apart.cls ≠ "java/lang/invoke/MethodHandle" ∧ yX5_apart.cls ≠ "java/lang/invoke/VarHandle" ∧ (parseMethodDescriptor yX5_apart.desc).map (fun d => d.parameters.length) = some 2 := by decide +kernel
theorem hdX5_best : yX5_best.cls ≠ "java/lang/invoke/MethodHandle" ∧ yX5_best.cls ≠ "java/lang/invoke/VarHandle" ∧ (parseMethodDescriptor yX5_best.desc).map (fun d => d.parameters.length) = some 1 := by decide +kernel
theorem hdX5_blend : yX5_blend.cls ≠ "java/lang/invoke/MethodHandle" ∧ yX5_blend.cls ≠ "java/lang/invoke/VarHandle" ∧ (parseMethodDescriptor yX5_blend.desc).map (fun d => d.parameters.length) = some 2 := by decide +kernel
theorem hdX5_clear : yX5_clear.cls ≠ "java/lang/invoke/MethodHandle" ∧ yX5_clear.cls ≠ "java/lang/invoke/VarHandle" ∧ (parseMethodDescriptor yX5_clear.desc).map (fun d => d.parameters.length) = some 0 := by decide +kernel
theorem hdX5_contradicts : yX5_contradicts.cls ≠ "java/lang/invoke/MethodHandle" ∧ yX5_contradicts.cls ≠ "java/lang/invoke/VarHandle" ∧ (parseMethodDescriptor yX5_contradicts.desc).map (fun d => d.parameters.length) = some 0 := by decide +kernel
theorem hdX5_costOf : yX5_costOf.cls ≠ "java/lang/invoke/MethodHandle" ∧ yX5_costOf.cls ≠ "java/lang/invoke/VarHandle" ∧ (parseMethodDescriptor yX5_costOf.desc).map (fun d => d.parameters.length) = some 1 := by decide +kernel
theorem hdX5_costs : yX5_costs.cls ≠ "java/lang/invoke/MethodHandle" ∧ yX5_costs.cls ≠ "java/lang/invoke/VarHandle" ∧ (parseMethodDescriptor yX5_costs.desc).map (fun d => d.parameters.length) = some 1 := by decide +kernel
theorem hdX5_count : yX5_count.cls ≠ "java/lang/invoke/MethodHandle" ∧ yX5_count.cls ≠ "java/lang/invoke/VarHandle" ∧ (parseMethodDescriptor yX5_count.desc).map (fun d => d.parameters.length) = some 1 := by decide +kernel
theorem hdX5_cut : yX5_cut.cls ≠ "java/lang/invoke/MethodHandle" ∧ yX5_cut.cls ≠ "java/lang/invoke/VarHandle" ∧ (parseMethodDescriptor yX5_cut.desc).map (fun d => d.parameters.length) = some 2 := by decide +kernel
theorem hdX5_draw : yX5_draw.cls ≠ "java/lang/invoke/MethodHandle" ∧ yX5_draw.cls ≠ "java/lang/invoke/VarHandle" ∧ (parseMethodDescriptor yX5_draw.desc).map (fun d => d.parameters.length) = some 2 := by decide +kernel
theorem hdX5_dropsOf : yX5_dropsOf.cls ≠ "java/lang/invoke/MethodHandle" ∧ yX5_dropsOf.cls ≠ "java/lang/invoke/VarHandle" ∧ (parseMethodDescriptor yX5_dropsOf.desc).map (fun d => d.parameters.length) = some 1 := by decide +kernel
theorem hdX5_duty : yX5_duty.cls ≠ "java/lang/invoke/MethodHandle" ∧ yX5_duty.cls ≠ "java/lang/invoke/VarHandle" ∧ (parseMethodDescriptor yX5_duty.desc).map (fun d => d.parameters.length) = some 1 := by decide +kernel
theorem hdX5_firstWrong : yX5_firstWrong.cls ≠ "java/lang/invoke/MethodHandle" ∧ yX5_firstWrong.cls ≠ "java/lang/invoke/VarHandle" ∧ (parseMethodDescriptor yX5_firstWrong.desc).map (fun d => d.parameters.length) = some 0 := by decide +kernel
theorem hdX5_hang : yX5_hang.cls ≠ "java/lang/invoke/MethodHandle" ∧ yX5_hang.cls ≠ "java/lang/invoke/VarHandle" ∧ (parseMethodDescriptor yX5_hang.desc).map (fun d => d.parameters.length) = some 3 := by decide +kernel
theorem hdX5_has : yX5_has.cls ≠ "java/lang/invoke/MethodHandle" ∧ yX5_has.cls ≠ "java/lang/invoke/VarHandle" ∧ (parseMethodDescriptor yX5_has.desc).map (fun d => d.parameters.length) = some 2 := by decide +kernel
theorem hdX5_in : yX5_in.cls ≠ "java/lang/invoke/MethodHandle" ∧ yX5_in.cls ≠ "java/lang/invoke/VarHandle" ∧ (parseMethodDescriptor yX5_in.desc).map (fun d => d.parameters.length) = some 3 := by decide +kernel
theorem hdX5_init : yX5_init.cls ≠ "java/lang/invoke/MethodHandle" ∧ yX5_init.cls ≠ "java/lang/invoke/VarHandle" ∧ (parseMethodDescriptor yX5_init.desc).map (fun d => d.parameters.length) = some 0 := by decide +kernel
theorem hdX5_isBlend : yX5_isBlend.cls ≠ "java/lang/invoke/MethodHandle" ∧ yX5_isBlend.cls ≠ "java/lang/invoke/VarHandle" ∧ (parseMethodDescriptor yX5_isBlend.desc).map (fun d => d.parameters.length) = some 1 := by decide +kernel
theorem hdX5_isCask : yX5_isCask.cls ≠ "java/lang/invoke/MethodHandle" ∧ yX5_isCask.cls ≠ "java/lang/invoke/VarHandle" ∧ (parseMethodDescriptor yX5_isCask.desc).map (fun d => d.parameters.length) = some 1 := by decide +kernel
theorem hdX5_isRight : yX5_isRight.cls ≠ "java/lang/invoke/MethodHandle" ∧ yX5_isRight.cls ≠ "java/lang/invoke/VarHandle" ∧ (parseMethodDescriptor yX5_isRight.desc).map (fun d => d.parameters.length) = some 1 := by decide +kernel
theorem hdX5_lasts : yX5_lasts.cls ≠ "java/lang/invoke/MethodHandle" ∧ yX5_lasts.cls ≠ "java/lang/invoke/VarHandle" ∧ (parseMethodDescriptor yX5_lasts.desc).map (fun d => d.parameters.length) = some 2 := by decide +kernel
theorem hdX5_lay : yX5_lay.cls ≠ "java/lang/invoke/MethodHandle" ∧ yX5_lay.cls ≠ "java/lang/invoke/VarHandle" ∧ (parseMethodDescriptor yX5_lay.desc).map (fun d => d.parameters.length) = some 5 := by decide +kernel
theorem hdX5_lead : yX5_lead.cls ≠ "java/lang/invoke/MethodHandle" ∧ yX5_lead.cls ≠ "java/lang/invoke/VarHandle" ∧ (parseMethodDescriptor yX5_lead.desc).map (fun d => d.parameters.length) = some 2 := by decide +kernel
theorem hdX5_loss : yX5_loss.cls ≠ "java/lang/invoke/MethodHandle" ∧ yX5_loss.cls ≠ "java/lang/invoke/VarHandle" ∧ (parseMethodDescriptor yX5_loss.desc).map (fun d => d.parameters.length) = some 3 := by decide +kernel
theorem hdX5_lossOf : yX5_lossOf.cls ≠ "java/lang/invoke/MethodHandle" ∧ yX5_lossOf.cls ≠ "java/lang/invoke/VarHandle" ∧ (parseMethodDescriptor yX5_lossOf.desc).map (fun d => d.parameters.length) = some 3 := by decide +kernel
theorem hdX5_lostOf : yX5_lostOf.cls ≠ "java/lang/invoke/MethodHandle" ∧ yX5_lostOf.cls ≠ "java/lang/invoke/VarHandle" ∧ (parseMethodDescriptor yX5_lostOf.desc).map (fun d => d.parameters.length) = some 2 := by decide +kernel
theorem hdX5_move : yX5_move.cls ≠ "java/lang/invoke/MethodHandle" ∧ yX5_move.cls ≠ "java/lang/invoke/VarHandle" ∧ (parseMethodDescriptor yX5_move.desc).map (fun d => d.parameters.length) = some 2 := by decide +kernel
theorem hdX5_odds : yX5_odds.cls ≠ "java/lang/invoke/MethodHandle" ∧ yX5_odds.cls ≠ "java/lang/invoke/VarHandle" ∧ (parseMethodDescriptor yX5_odds.desc).map (fun d => d.parameters.length) = some 2 := by decide +kernel
theorem hdX5_oneYear : yX5_oneYear.cls ≠ "java/lang/invoke/MethodHandle" ∧ yX5_oneYear.cls ≠ "java/lang/invoke/VarHandle" ∧ (parseMethodDescriptor yX5_oneYear.desc).map (fun d => d.parameters.length) = some 0 := by decide +kernel
theorem hdX5_partOf : yX5_partOf.cls ≠ "java/lang/invoke/MethodHandle" ∧ yX5_partOf.cls ≠ "java/lang/invoke/VarHandle" ∧ (parseMethodDescriptor yX5_partOf.desc).map (fun d => d.parameters.length) = some 2 := by decide +kernel
theorem hdX5_rate : yX5_rate.cls ≠ "java/lang/invoke/MethodHandle" ∧ yX5_rate.cls ≠ "java/lang/invoke/VarHandle" ∧ (parseMethodDescriptor yX5_rate.desc).map (fun d => d.parameters.length) = some 1 := by decide +kernel
theorem hdX5_read : yX5_read.cls ≠ "java/lang/invoke/MethodHandle" ∧ yX5_read.cls ≠ "java/lang/invoke/VarHandle" ∧ (parseMethodDescriptor yX5_read.desc).map (fun d => d.parameters.length) = some 3 := by decide +kernel
theorem hdX5_trace : yX5_trace.cls ≠ "java/lang/invoke/MethodHandle" ∧ yX5_trace.cls ≠ "java/lang/invoke/VarHandle" ∧ (parseMethodDescriptor yX5_trace.desc).map (fun d => d.parameters.length) = some 0 := by decide +kernel
theorem hdX5_want : yX5_want.cls ≠ "java/lang/invoke/MethodHandle" ∧ yX5_want.cls ≠ "java/lang/invoke/VarHandle" ∧ (parseMethodDescriptor yX5_want.desc).map (fun d => d.parameters.length) = some 2 := by decide +kernel
theorem hdX5_ways : yX5_ways.cls ≠ "java/lang/invoke/MethodHandle" ∧ yX5_ways.cls ≠ "java/lang/invoke/VarHandle" ∧ (parseMethodDescriptor yX5_ways.desc).map (fun d => d.parameters.length) = some 2 := by decide +kernel
theorem hdX5_years : yX5_years.cls ≠ "java/lang/invoke/MethodHandle" ∧ yX5_years.cls ≠ "java/lang/invoke/VarHandle" ∧ (parseMethodDescriptor yX5_years.desc).map (fun d => d.parameters.length) = some 1 := by decide +kernel
theorem hdX5_youngest : yX5_youngest.cls ≠ "java/lang/invoke/MethodHandle" ∧ yX5_youngest.cls ≠ "java/lang/invoke/VarHandle" ∧ (parseMethodDescriptor yX5_youngest.desc).map (fun d => d.parameters.length) = some 1 := by decide +kernel
section
variable {p : Program} {l : Launch} {e : Env} {R : Room} {s : State} {m : MethodId} {args : Array Value} {below : List Frame} {meth : Method} {c : Code} {H : Heap} {locs : List Loc} {cells slots : Nat} {Q : State → Prop} {pc : Nat} {ls : Array Slot} {rest st0 : List Value} {cc : ByteArray}
theorem lv_cst {x v : Int32} (h : x = v) (k : W p l e R s m args below meth c H locs cells slots Q (F0 m pc ls (.int v :: rest))) : W p l e R s m args below meth c H locs cells slots Q (F0 m pc ls (.int x :: rest)) := by
  rw [h]; exact k
end
end
section
theorem inR_lo {v a b : Int32} (h : v < a) : 0 = zI (inR v a b) := by
  have : inR v a b = false := by unfold inR; rw [decide_eq_false (Int32.not_le.mpr h)]; rfl
  rw [this]; rfl
theorem inR_hi {v a b : Int32} (h : b < v) : 0 = zI (inR v a b) := by
  have : inR v a b = false := by unfold inR; rw [decide_eq_false (p := v ≤ b) (Int32.not_le.mpr h)]; exact Bool.and_false _
  rw [this]; rfl
theorem inR_ok {v a b : Int32} (h1 : ¬ v < a) (h2 : ¬ b < v) : 1 = zI (inR v a b) := by
  have : inR v a b = true := by unfold inR; rw [decide_eq_true (Int32.not_lt.mp h1), decide_eq_true (Int32.not_lt.mp h2)]; rfl
  rw [this]; rfl

set_option maxHeartbeats 4000000 in
set_option maxRecDepth 100000 in
theorem kX4_isWithin (l : Launch) (v0 : Int32) (a0 : Int32) (b0 : Int32) : Met l yX4_isWithin wsX4_isWithin ({ frames := 0, cells := 0, slots := 0, locals := 0 }) (va_Pc [.int v0, .int a0, .int b0] (fun _ => True)) (vp_Si (fun x => x = (zI (inR v0 a0 b0)))) 0 0 nF := by
  refine ro_start (cc := cX4_isWithin) (maxL := 3) (ret := (some .boolean)) (by decide) rfl (Nat.le_of_ble_eq_true rfl) ?_
  intro p e s m below meth c ls hx hb hr hml hown hlocks hts hnm hB hl
  have hown : s.vm.findClass RX4 = some m.cls := hown
  have F : CallFix p m c cX4_isWithin 3 s [.int v0, .int a0, .int b0].toArray wsX4_isWithin RX4 := ⟨hx, hb, hml, hown, hts⟩
  have hl : lv_has ls 3 [(0, .int v0), (1, .int a0), (2, .int b0)] := hl
  refine lv_iload_n hx hb dX4_isWithin_0 rfl (lv_at hl 0 rfl) ?_
  refine lv_iload_n hx hb dX4_isWithin_1 rfl (lv_at hl 1 rfl) ?_
  refine lv_icmp_lt (tgt := 14) hx hb dX4_isWithin_2 (by decide) (fun c_1 => ?_) (fun c_1 => ?_)
  · skip
    refine lv_iconst (v := 0) hx hb dX4_isWithin_14 (by decide) ?_
    exact ro_zret hx hb hr hlocks rfl dX4_isWithin_15 (inR_lo c_1)
  · skip
    refine lv_iload_n hx hb dX4_isWithin_5 rfl (lv_at hl 0 rfl) ?_
    refine lv_iload_n hx hb dX4_isWithin_6 rfl (lv_at hl 2 rfl) ?_
    refine lv_icmp_gt (tgt := 14) hx hb dX4_isWithin_7 (by decide) (fun c_2 => ?_) (fun c_2 => ?_)
    · skip
      refine lv_iconst (v := 0) hx hb dX4_isWithin_14 (by decide) ?_
      exact ro_zret hx hb hr hlocks rfl dX4_isWithin_15 (inR_hi c_2)
    · skip
      refine lv_iconst (v := 1) hx hb dX4_isWithin_10 (by decide) ?_
      refine lv_goto (tgt := 15) hx hb dX4_isWithin_11 (by decide) ?_
      exact ro_zret hx hb hr hlocks rfl dX4_isWithin_15 (inR_ok c_1 c_2)

set_option maxHeartbeats 4000000 in
set_option maxRecDepth 100000 in
theorem kX5_in (l : Launch) (v0 : Int32) (a0 : Int32) (b0 : Int32) : Met l yX5_in wsX5_in ({ frames := 0, cells := 0, slots := 0, locals := 0 }) (va_Pc [.int v0, .int a0, .int b0] (fun _ => True)) (vp_Si (fun x => x = (zI (inR v0 a0 b0)))) 0 0 nF := by
  refine ro_start (cc := cX5_in) (maxL := 3) (ret := (some .boolean)) (by decide) rfl (Nat.le_of_ble_eq_true rfl) ?_
  intro p e s m below meth c ls hx hb hr hml hown hlocks hts hnm hB hl
  have hown : s.vm.findClass RX5 = some m.cls := hown
  have F : CallFix p m c cX5_in 3 s [.int v0, .int a0, .int b0].toArray wsX5_in RX5 := ⟨hx, hb, hml, hown, hts⟩
  have hl : lv_has ls 3 [(0, .int v0), (1, .int a0), (2, .int b0)] := hl
  refine lv_iload_n hx hb dX5_in_0 rfl (lv_at hl 0 rfl) ?_
  refine lv_iload_n hx hb dX5_in_1 rfl (lv_at hl 1 rfl) ?_
  refine lv_icmp_lt (tgt := 14) hx hb dX5_in_2 (by decide) (fun c_1 => ?_) (fun c_1 => ?_)
  · skip
    refine lv_iconst (v := 0) hx hb dX5_in_14 (by decide) ?_
    exact ro_zret hx hb hr hlocks rfl dX5_in_15 (inR_lo c_1)
  · skip
    refine lv_iload_n hx hb dX5_in_5 rfl (lv_at hl 0 rfl) ?_
    refine lv_iload_n hx hb dX5_in_6 rfl (lv_at hl 2 rfl) ?_
    refine lv_icmp_gt (tgt := 14) hx hb dX5_in_7 (by decide) (fun c_2 => ?_) (fun c_2 => ?_)
    · skip
      refine lv_iconst (v := 0) hx hb dX5_in_14 (by decide) ?_
      exact ro_zret hx hb hr hlocks rfl dX5_in_15 (inR_hi c_2)
    · skip
      refine lv_iconst (v := 1) hx hb dX5_in_10 (by decide) ?_
      refine lv_goto (tgt := 15) hx hb dX5_in_11 (by decide) ?_
      exact ro_zret hx hb hr hlocks rfl dX5_in_15 (inR_ok c_1 c_2)

set_option maxHeartbeats 4000000 in
set_option maxRecDepth 100000 in
theorem kX4_holds (l : Launch) (s0 : Int32) (i0 : Int32) : Met l yX4_holds wsX4_holds ({ frames := 0, cells := 0, slots := 0, locals := 0 }) (va_Pc [.int s0, .int i0] (fun _ => True)) (vp_Si (fun x => x = (zI (hasB s0 i0)))) 0 0 nF := by
  refine ro_start (cc := cX4_holds) (maxL := 2) (ret := (some .boolean)) (by decide) rfl (Nat.le_of_ble_eq_true rfl) ?_
  intro p e s m below meth c ls hx hb hr hml hown hlocks hts hnm hB hl
  have hown : s.vm.findClass RX4 = some m.cls := hown
  have F : CallFix p m c cX4_holds 2 s [.int s0, .int i0].toArray wsX4_holds RX4 := ⟨hx, hb, hml, hown, hts⟩
  have hl : lv_has ls 2 [(0, .int s0), (1, .int i0)] := hl
  refine lv_iload_n hx hb dX4_holds_0 rfl (lv_at hl 0 rfl) ?_
  refine lv_iload_n hx hb dX4_holds_1 rfl (lv_at hl 1 rfl) ?_
  refine lv_ishr hx hb dX4_holds_2 ?_
  refine lv_iconst (v := 1) hx hb dX4_holds_3 (by decide) ?_
  refine lv_iand hx hb dX4_holds_4 ?_
  refine lv_iconst (v := 1) hx hb dX4_holds_5 (by decide) ?_
  refine lv_icmp_ne (tgt := 13) hx hb dX4_holds_6 (by decide) (fun c_1 => ?_) (fun c_1 => ?_)
  · skip
    refine lv_iconst (v := 0) hx hb dX4_holds_13 (by decide) ?_
    exact ro_zret hx hb hr hlocks rfl dX4_holds_14 (by simp [hasB, zI, c_1])
  · skip
    refine lv_iconst (v := 1) hx hb dX4_holds_9 (by decide) ?_
    refine lv_goto (tgt := 14) hx hb dX4_holds_10 (by decide) ?_
    exact ro_zret hx hb hr hlocks rfl dX4_holds_14 (by simp [hasB, zI, c_1])

set_option maxHeartbeats 4000000 in
set_option maxRecDepth 100000 in
theorem kX5_has (l : Launch) (s0 : Int32) (i0 : Int32) : Met l yX5_has wsX5_has ({ frames := 0, cells := 0, slots := 0, locals := 0 }) (va_Pc [.int s0, .int i0] (fun _ => True)) (vp_Si (fun x => x = (zI (hasB s0 i0)))) 0 0 nF := by
  refine ro_start (cc := cX5_has) (maxL := 2) (ret := (some .boolean)) (by decide) rfl (Nat.le_of_ble_eq_true rfl) ?_
  intro p e s m below meth c ls hx hb hr hml hown hlocks hts hnm hB hl
  have hown : s.vm.findClass RX5 = some m.cls := hown
  have F : CallFix p m c cX5_has 2 s [.int s0, .int i0].toArray wsX5_has RX5 := ⟨hx, hb, hml, hown, hts⟩
  have hl : lv_has ls 2 [(0, .int s0), (1, .int i0)] := hl
  refine lv_iload_n hx hb dX5_has_0 rfl (lv_at hl 0 rfl) ?_
  refine lv_iload_n hx hb dX5_has_1 rfl (lv_at hl 1 rfl) ?_
  refine lv_ishr hx hb dX5_has_2 ?_
  refine lv_iconst (v := 1) hx hb dX5_has_3 (by decide) ?_
  refine lv_iand hx hb dX5_has_4 ?_
  refine lv_iconst (v := 1) hx hb dX5_has_5 (by decide) ?_
  refine lv_icmp_ne (tgt := 13) hx hb dX5_has_6 (by decide) (fun c_1 => ?_) (fun c_1 => ?_)
  · skip
    refine lv_iconst (v := 0) hx hb dX5_has_13 (by decide) ?_
    exact ro_zret hx hb hr hlocks rfl dX5_has_14 (by simp [hasB, zI, c_1])
  · skip
    refine lv_iconst (v := 1) hx hb dX5_has_9 (by decide) ?_
    refine lv_goto (tgt := 14) hx hb dX5_has_10 (by decide) ?_
    exact ro_zret hx hb hr hlocks rfl dX5_has_14 (by simp [hasB, zI, c_1])

set_option maxHeartbeats 4000000 in
set_option maxRecDepth 100000 in
theorem kX4_isNose (l : Launch) (v0 : Int32) : Met l yX4_isNose wsX4_isNose ({ frames := 1, cells := 0, slots := 0, locals := 22 }) (va_Pc [.int v0] (fun _ => True)) (vp_Si (fun x => x = (zI (inR v0 0 5)))) 0 0 nF := by
  refine ro_start (cc := cX4_isNose) (maxL := 1) (ret := (some .boolean)) (by decide) rfl (Nat.le_of_ble_eq_true rfl) ?_
  intro p e s m below meth c ls hx hb hr hml hown hlocks hts hnm hB hl
  have hown : s.vm.findClass RX4 = some m.cls := hown
  have F : CallFix p m c cX4_isNose 1 s [.int v0].toArray wsX4_isNose RX4 := ⟨hx, hb, hml, hown, hts⟩
  have hl : lv_has ls 1 [(0, .int v0)] := hl
  refine lv_iload_n hx hb dX4_isNose_0 rfl (lv_at hl 0 rfl) ?_
  refine lv_iconst (v := 0) hx hb dX4_isNose_1 (by decide) ?_
  refine lv_iconst (v := 5) hx hb dX4_isNose_2 (by decide) ?_
  refine ro_i (va_runS (As := [.int v0, .int 0, .int 5]) (rest := []) F (kX4_isWithin l v0 0 5) (va_cwS 3 hts gX4_isNose_X4_isWithin rfl rfl rfl hdX4_isWithin ⟨(Nat.le_of_ble_eq_true rfl), (Nat.le_of_ble_eq_true rfl)⟩) ⟨tr_blind, tr_pre⟩ rfl rfl hl.1 rfl (lv_room (Nat.le_of_ble_eq_true rfl)) dX4_isNose_3 ⟨Nat.zero_le _, Nat.zero_le _⟩) ?_
  exact ro_zret hx hb hr hlocks (zI_nar _) dX4_isNose_6 rfl

set_option maxHeartbeats 4000000 in
set_option maxRecDepth 100000 in
theorem kX4_isTriangle (l : Launch) (n0 : Int32) (c0 : Int32) : Met l yX4_isTriangle wsX4_isTriangle ({ frames := 1, cells := 0, slots := 0, locals := 22 }) (va_Pc [.int n0, .int c0] (fun _ => True)) (vp_Si (fun x => x = (zI (inR n0 1 20 && inR c0 0 n0)))) 0 0 nF := by
  refine ro_start (cc := cX4_isTriangle) (maxL := 2) (ret := (some .boolean)) (by decide) rfl (Nat.le_of_ble_eq_true rfl) ?_
  intro p e s m below meth c ls hx hb hr hml hown hlocks hts hnm hB hl
  have hown : s.vm.findClass RX4 = some m.cls := hown
  have F : CallFix p m c cX4_isTriangle 2 s [.int n0, .int c0].toArray wsX4_isTriangle RX4 := ⟨hx, hb, hml, hown, hts⟩
  have hl : lv_has ls 2 [(0, .int n0), (1, .int c0)] := hl
  refine lv_iload_n hx hb dX4_isTriangle_0 rfl (lv_at hl 0 rfl) ?_
  refine lv_iconst (v := 1) hx hb dX4_isTriangle_1 (by decide) ?_
  refine lv_bipush (v := 20) hx hb dX4_isTriangle_2 (by decide) ?_
  refine ro_i (va_runS (As := [.int n0, .int 1, .int 20]) (rest := []) F (kX4_isWithin l n0 1 20) (va_cwS 3 hts gX4_isTriangle_X4_isWithin rfl rfl rfl hdX4_isWithin ⟨(Nat.le_of_ble_eq_true rfl), (Nat.le_of_ble_eq_true rfl)⟩) ⟨tr_blind, tr_pre⟩ rfl rfl hl.1 rfl (lv_room (Nat.le_of_ble_eq_true rfl)) dX4_isTriangle_4 ⟨Nat.zero_le _, Nat.zero_le _⟩) ?_
  refine lv_if_eq (tgt := 23) hx hb dX4_isTriangle_7 (by decide) (fun c_1 => ?_) (fun c_1 => ?_)
  · skip
    have c_1 := zI_0 c_1
    refine lv_iconst (v := 0) hx hb dX4_isTriangle_23 (by decide) ?_
    exact ro_zret hx hb hr hlocks rfl dX4_isTriangle_24 (by simp [zI, c_1])
  · skip
    have c_1 := zI_1 c_1
    refine lv_iload_n hx hb dX4_isTriangle_10 rfl (lv_at hl 1 rfl) ?_
    refine lv_iconst (v := 0) hx hb dX4_isTriangle_11 (by decide) ?_
    refine lv_iload_n hx hb dX4_isTriangle_12 rfl (lv_at hl 0 rfl) ?_
    refine ro_i (va_runS (As := [.int c0, .int 0, .int n0]) (rest := []) F (kX4_isWithin l c0 0 n0) (va_cwS 3 hts gX4_isTriangle_X4_isWithin rfl rfl rfl hdX4_isWithin ⟨(Nat.le_of_ble_eq_true rfl), (Nat.le_of_ble_eq_true rfl)⟩) ⟨tr_blind, tr_pre⟩ rfl rfl hl.1 rfl (lv_room (Nat.le_of_ble_eq_true rfl)) dX4_isTriangle_13 ⟨Nat.zero_le _, Nat.zero_le _⟩) ?_
    refine lv_if_eq (tgt := 23) hx hb dX4_isTriangle_16 (by decide) (fun c_2 => ?_) (fun c_2 => ?_)
    · skip
      have c_2 := zI_0 c_2
      refine lv_iconst (v := 0) hx hb dX4_isTriangle_23 (by decide) ?_
      exact ro_zret hx hb hr hlocks rfl dX4_isTriangle_24 (by simp [zI, c_1, c_2])
    · skip
      have c_2 := zI_1 c_2
      refine lv_iconst (v := 1) hx hb dX4_isTriangle_19 (by decide) ?_
      refine lv_goto (tgt := 24) hx hb dX4_isTriangle_20 (by decide) ?_
      exact ro_zret hx hb hr hlocks rfl dX4_isTriangle_24 (by simp [zI, c_1, c_2])

set_option maxHeartbeats 4000000 in
set_option maxRecDepth 100000 in
theorem kX4_dividedUp (l : Launch) (a0 : Int32) (b0 : Int32) : Met l yX4_dividedUp wsX4_dividedUp ({ frames := 0, cells := 0, slots := 0, locals := 0 }) (va_Pc [.int a0, .int b0] (fun _ => True)) (vp_Si (fun x => x = (dUp a0 b0))) 0 0 nF := by
  refine ro_start (cc := cX4_dividedUp) (maxL := 2) (ret := (some .int)) (by decide) rfl (Nat.le_of_ble_eq_true rfl) ?_
  intro p e s m below meth c ls hx hb hr hml hown hlocks hts hnm hB hl
  have hown : s.vm.findClass RX4 = some m.cls := hown
  have F : CallFix p m c cX4_dividedUp 2 s [.int a0, .int b0].toArray wsX4_dividedUp RX4 := ⟨hx, hb, hml, hown, hts⟩
  have hl : lv_has ls 2 [(0, .int a0), (1, .int b0)] := hl
  refine lv_iload_n hx hb dX4_dividedUp_0 rfl (lv_at hl 1 rfl) ?_
  refine lv_iconst (v := 1) hx hb dX4_dividedUp_1 (by decide) ?_
  refine lv_icmp_ge (tgt := 9) hx hb dX4_dividedUp_2 (by decide) (fun c_1 => ?_) (fun c_1 => ?_)
  · skip
    refine lv_iload_n hx hb dX4_dividedUp_9 rfl (lv_at hl 0 rfl) ?_
    refine lv_iload_n hx hb dX4_dividedUp_10 rfl (lv_at hl 1 rfl) ?_
    refine lv_iadd hx hb dX4_dividedUp_11 ?_
    refine lv_iconst (v := 1) hx hb dX4_dividedUp_12 (by decide) ?_
    refine lv_isub hx hb dX4_dividedUp_13 ?_
    refine lv_iload_n hx hb dX4_dividedUp_14 rfl (lv_at hl 1 rfl) ?_
    refine lv_idiv hx hb dX4_dividedUp_15 (fun h => by rw [h] at c_1; exact absurd c_1 (by decide)) ?_
    exact ro_iret hx hb hr hlocks dX4_dividedUp_16 (by unfold dUp; rw [if_neg (Int32.not_lt.mpr c_1)])
  · skip
    refine lv_iconst (v := 0) hx hb dX4_dividedUp_5 (by decide) ?_
    refine lv_goto (tgt := 16) hx hb dX4_dividedUp_6 (by decide) ?_
    exact ro_iret hx hb hr hlocks dX4_dividedUp_16 (by unfold dUp; rw [if_pos (Int32.not_le.mp c_1)])

set_option maxHeartbeats 4000000 in
set_option maxRecDepth 100000 in
theorem kX4_lossBy (l : Launch) (k0 : Int32) (f0 : Int32) (y0 : Int32) : Met l yX4_lossBy wsX4_lossBy ({ frames := 1, cells := 0, slots := 0, locals := 21 }) (va_Pc [.int k0, .int f0, .int y0] (fun _ => True)) (vp_Si (fun x => x = (lossX k0 f0 y0))) 0 0 nF := by
  refine ro_start (cc := cX4_lossBy) (maxL := 5) (ret := (some .int)) (by decide) rfl (Nat.le_of_ble_eq_true rfl) ?_
  intro p e s m below meth c ls hx hb hr hml hown hlocks hts hnm hB hl
  have hown : s.vm.findClass RX4 = some m.cls := hown
  have F : CallFix p m c cX4_lossBy 5 s [.int k0, .int f0, .int y0].toArray wsX4_lossBy RX4 := ⟨hx, hb, hml, hown, hts⟩
  have hl : lv_has ls 5 [(0, .int k0), (1, .int f0), (2, .int y0)] := hl
  refine lv_bipush (v := 15) hx hb dX4_lossBy_0 (by decide) ?_
  refine lv_iconst (v := 5) hx hb dX4_lossBy_2 (by decide) ?_
  refine lv_iload_n hx hb dX4_lossBy_3 rfl (lv_at hl 1 rfl) ?_
  refine lv_imul hx hb dX4_lossBy_4 ?_
  refine lv_iadd hx hb dX4_lossBy_5 ?_
  refine lv_iconst (v := 0) hx hb dX4_lossBy_6 (by decide) ?_
  refine lv_bipush (v := 20) hx hb dX4_lossBy_7 (by decide) ?_
  refine lv_iconst (v := 2) hx hb dX4_lossBy_9 (by decide) ?_
  refine lv_iload_n hx hb dX4_lossBy_10 rfl (lv_at hl 2 rfl) ?_
  refine lv_imul hx hb dX4_lossBy_11 ?_
  refine lv_isub hx hb dX4_lossBy_12 ?_
  refine wm_max hx hb (hml.trans hl.1.symm) hown (hts _ (List.mem_of_getElem? (i := 1) rfl)) (hts _ (List.mem_of_getElem? (i := 2) rfl)) (hts _ (List.mem_of_getElem? (i := 3) rfl)) (hts _ (List.mem_of_getElem? (i := 4) rfl)) (Nat.le_of_ble_eq_true rfl) (Nat.le_of_ble_eq_true rfl) (Nat.zero_le _) (Nat.zero_le _) dX4_lossBy_13 ?_
  refine lv_iadd hx hb dX4_lossBy_16 ?_
  refine lv_istore_n (lv' := [(3, .int ((15 + (5 * f0)) + (mxI 0 (20 - (2 * y0))))), (0, .int k0), (1, .int f0), (2, .int y0)]) hx hb dX4_lossBy_17 rfl hl (by decide) rfl (fun ls hl => ?_)
  refine lv_iload_n hx hb dX4_lossBy_18 rfl (lv_at hl 1 rfl) ?_
  refine lv_if_ne (tgt := 24) hx hb dX4_lossBy_19 (by decide) (fun c_1 => ?_) (fun c_1 => ?_)
  · skip
    refine lv_iload_n hx hb dX4_lossBy_24 rfl (lv_at hl 0 rfl) ?_
    refine lv_iconst (v := 3) hx hb dX4_lossBy_25 (by decide) ?_
    refine lv_imul hx hb dX4_lossBy_26 ?_
    refine lv_iconst (v := 4) hx hb dX4_lossBy_27 (by decide) ?_
    refine lv_idiv hx hb dX4_lossBy_28 (by decide) ?_
    refine lv_istore (lv' := [(4, .int ((((15 + (5 * f0)) + (mxI 0 (20 - (2 * y0)))) * 3) / 4)), (3, .int ((15 + (5 * f0)) + (mxI 0 (20 - (2 * y0))))), (0, .int k0), (1, .int f0), (2, .int y0)]) hx hb dX4_lossBy_29 hl (by decide) rfl (fun ls hl => ?_)
    refine lv_iload_n hx hb dX4_lossBy_31 rfl (lv_at hl 2 rfl) ?_
    refine lv_iconst (v := 1) hx hb dX4_lossBy_32 (by decide) ?_
    refine lv_icmp_ne (tgt := 41) hx hb dX4_lossBy_33 (by decide) (fun c_2 => ?_) (fun c_2 => ?_)
    · skip
      refine lv_iconst (v := 1) hx hb dX4_lossBy_41 (by decide) ?_
      refine lv_iload hx hb dX4_lossBy_42 (lv_at hl 0 rfl) ?_
      refine lv_iconst (v := 4) hx hb dX4_lossBy_44 (by decide) ?_
      refine lv_isub hx hb dX4_lossBy_45 ?_
      refine wm_max hx hb (hml.trans hl.1.symm) hown (hts _ (List.mem_of_getElem? (i := 1) rfl)) (hts _ (List.mem_of_getElem? (i := 2) rfl)) (hts _ (List.mem_of_getElem? (i := 3) rfl)) (hts _ (List.mem_of_getElem? (i := 4) rfl)) (Nat.le_of_ble_eq_true rfl) (Nat.le_of_ble_eq_true rfl) (Nat.zero_le _) (Nat.zero_le _) dX4_lossBy_46 ?_
      exact ro_iret hx hb hr hlocks dX4_lossBy_49 (by simp [lossX, c_1, c_2])
    · skip
      refine lv_iload hx hb dX4_lossBy_36 (lv_at hl 0 rfl) ?_
      refine lv_goto (tgt := 49) hx hb dX4_lossBy_38 (by decide) ?_
      exact ro_iret hx hb hr hlocks dX4_lossBy_49 (by simp [lossX, c_1, c_2])
  · skip
    refine lv_iload_n hx hb dX4_lossBy_22 rfl (lv_at hl 0 rfl) ?_
    exact ro_iret hx hb hr hlocks dX4_lossBy_23 (by simp [lossX, c_1])

set_option maxHeartbeats 4000000 in
set_option maxRecDepth 100000 in
theorem kX4_lostOf (l : Launch) (d0 : Int32) (s0 : Int32) : Met l yX4_lostOf wsX4_lostOf ({ frames := 1, cells := 0, slots := 0, locals := 21 }) (va_Pc [.int d0, .int s0] (fun _ => True)) (vp_Si (fun x => x = (lostX d0 s0))) 0 0 nF := by
  refine ro_start (cc := cX4_lostOf) (maxL := 2) (ret := (some .int)) (by decide) rfl (Nat.le_of_ble_eq_true rfl) ?_
  intro p e s m below meth c ls hx hb hr hml hown hlocks hts hnm hB hl
  have hown : s.vm.findClass RX4 = some m.cls := hown
  have F : CallFix p m c cX4_lostOf 2 s [.int d0, .int s0].toArray wsX4_lostOf RX4 := ⟨hx, hb, hml, hown, hts⟩
  have hl : lv_has ls 2 [(0, .int d0), (1, .int s0)] := hl
  refine lv_iload_n hx hb dX4_lostOf_0 rfl (lv_at hl 0 rfl) ?_
  refine lv_iload_n hx hb dX4_lostOf_1 rfl (lv_at hl 1 rfl) ?_
  refine lv_imul hx hb dX4_lostOf_2 ?_
  refine lv_sipush (v := 1000) hx hb dX4_lostOf_3 (by decide) ?_
  refine ro_i (va_runS (As := [.int (d0 * s0), .int 1000]) (rest := []) F (kX4_dividedUp l (d0 * s0) 1000) (va_cwS 2 hts gX4_lostOf_X4_dividedUp rfl rfl rfl hdX4_dividedUp ⟨(Nat.le_of_ble_eq_true rfl), (Nat.le_of_ble_eq_true rfl)⟩) ⟨tr_blind, tr_pre⟩ rfl rfl hl.1 rfl (lv_room (Nat.le_of_ble_eq_true rfl)) dX4_lostOf_6 ⟨Nat.zero_le _, Nat.zero_le _⟩) ?_
  exact ro_iret hx hb hr hlocks dX4_lostOf_9 rfl

set_option maxHeartbeats 4000000 in
set_option maxRecDepth 100000 in
theorem kX5_lostOf (l : Launch) (d0 : Int32) (s0 : Int32) : Met l yX5_lostOf wsX5_lostOf ({ frames := 0, cells := 0, slots := 0, locals := 0 }) (va_Pc [.int d0, .int s0] (fun _ => True)) (vp_Si (fun x => x = ((d0 * s0 + 999) / 1000))) 0 0 nF := by
  refine ro_start (cc := cX5_lostOf) (maxL := 2) (ret := (some .int)) (by decide) rfl (Nat.le_of_ble_eq_true rfl) ?_
  intro p e s m below meth c ls hx hb hr hml hown hlocks hts hnm hB hl
  have hown : s.vm.findClass RX5 = some m.cls := hown
  have F : CallFix p m c cX5_lostOf 2 s [.int d0, .int s0].toArray wsX5_lostOf RX5 := ⟨hx, hb, hml, hown, hts⟩
  have hl : lv_has ls 2 [(0, .int d0), (1, .int s0)] := hl
  refine lv_iload_n hx hb dX5_lostOf_0 rfl (lv_at hl 0 rfl) ?_
  refine lv_iload_n hx hb dX5_lostOf_1 rfl (lv_at hl 1 rfl) ?_
  refine lv_imul hx hb dX5_lostOf_2 ?_
  refine lv_sipush (v := 999) hx hb dX5_lostOf_3 (by decide) ?_
  refine lv_iadd hx hb dX5_lostOf_6 ?_
  refine lv_sipush (v := 1000) hx hb dX5_lostOf_7 (by decide) ?_
  refine lv_idiv hx hb dX5_lostOf_10 (by decide) ?_
  exact ro_iret hx hb hr hlocks dX5_lostOf_11 rfl

set_option maxHeartbeats 4000000 in
set_option maxRecDepth 100000 in
theorem kX3_most (l : Launch) (w0 : Int32) : Met l yX3_most wsX3_most ({ frames := 0, cells := 0, slots := 0, locals := 0 }) (va_Pc [.int w0] (fun _ => True)) (vp_Si (fun x => x = (if w0 = 0 then 99999 else if w0 = 1 then 60 else 9999))) 0 0 nF := by
  refine ro_start (cc := cX3_most) (maxL := 1) (ret := (some .int)) (by decide) rfl (Nat.le_of_ble_eq_true rfl) ?_
  intro p e s m below meth c ls hx hb hr hml hown hlocks hts hnm hB hl
  have hown : s.vm.findClass RX3 = some m.cls := hown
  have F : CallFix p m c cX3_most 1 s [.int w0].toArray wsX3_most RX3 := ⟨hx, hb, hml, hown, hts⟩
  have hl : lv_has ls 1 [(0, .int w0)] := hl
  refine lv_iload_n hx hb dX3_most_0 rfl (lv_at hl 0 rfl) ?_
  refine lv_if_ne (tgt := 7) hx hb dX3_most_1 (by decide) (fun c_1 => ?_) (fun c_1 => ?_)
  · skip
    refine lv_iload_n hx hb dX3_most_7 rfl (lv_at hl 0 rfl) ?_
    refine lv_iconst (v := 1) hx hb dX3_most_8 (by decide) ?_
    refine lv_icmp_ne (tgt := 17) hx hb dX3_most_9 (by decide) (fun c_2 => ?_) (fun c_2 => ?_)
    · skip
      refine lv_sipush (v := 9999) hx hb dX3_most_17 (by decide) ?_
      exact ro_iret hx hb hr hlocks dX3_most_20 (by simp [c_1, c_2])
    · skip
      refine lv_bipush (v := 60) hx hb dX3_most_12 (by decide) ?_
      refine lv_goto (tgt := 20) hx hb dX3_most_14 (by decide) ?_
      exact ro_iret hx hb hr hlocks dX3_most_20 (by simp [c_1, c_2])
  · skip
    refine lv_ldc (v := 99999) hx hb hown (hts _ (List.mem_of_getElem? (i := 1) rfl)) dX3_most_4 ?_
    exact ro_iret hx hb hr hlocks dX3_most_6 (by simp [c_1])
end
section
def costX (c : CT) (now : Int32) : Int32 := dUp ((20 + 3 * (now - c_la c)) * c_dr c) 100
def lossC (c : CT) (yr : Int32) : Int32 := lossX (c_kd c) (c_fl c) (yr - c_la c)
def evX (mx : MT) (s : Int32) : Int32 := if m_dr mx < 1 then 0 else s / m_dr mx
def oldX (w : Nat → Int32) (mx : MT) : Bool := decide (w 1 ≤ m_ag mx)
def metX (w : Nat → Int32) (mx : MT) : Bool := decide (w 0 ≤ m_dr mx) && (oldX w mx && (inR (evX mx (m_ok mx)) (w 2) (w 3) && (inR (evX mx (m_sm mx)) (w 4) (w 5) && inR (evX mx (m_sw mx)) (w 6) (w 7))))
def isC (n : Nat) (c : Int32) : Bool := inR c 0 (nI n - 1)
def isS (n : Nat) (s : Int32) : Bool := inR s 0 ((1 <<< (nI n &&& 31)) - 1)
def nEf (C : Nat → CT) (i : Nat) (a : Int32) : Int32 := if c_dr (C i) ≤ 0 then a else a + 1
def allf (C : Nat → CT) (i : Nat) (a : Int32) : Int32 := a + c_dr (C i)
def dutf (C : Nat → CT) (rt s : Int32) (i : Nat) (a : Int32) : Int32 := if hasB s (nI i) = true then a + c_dr (C i) * c_sg (C i) / 1000 * rt else a
def aboutX (c : CT) (now w : Int32) : Int32 := if w = 0 then c_dr c else if w = 1 then c_sg c else if w = 2 then now - c_la c else if w = 3 then c_ok c else if w = 4 then c_sm c else if w = 5 then c_sw c else if w = 6 then c_kd c else if w = 7 then c_fl c else if w = 8 then costX c now else -1
def aboutF (n : Nat) (C : Nat → CT) (now c w : Int32) : Int32 := if isC n c = true then aboutX (C c.toNatClampNeg) now w else -1
def cutF (n : Nat) (C : Nat → CT) (c t : Int32) : Int32 := if isC n c = true ∧ inR t 300 700 = true then dUp (c_dr (C c.toNatClampNeg) * mxI 0 (c_sg (C c.toNatClampNeg) - t)) t else -1
def dutyF (n : Nat) (C : Nat → CT) (rt s : Int32) : Int32 := if isS n s = true then fN (dutf C rt s) n 0 else -1
def tieX (g : Nat → Int32) (a b : Int32) : Bool := decide (g a.toNatClampNeg = g (6 + b.toNatClampNeg))
def countF (n : Nat) (now rd rt : Int32) (C : Nat → CT) (w : Int32) : Int32 := if w = 0 then now else if w = 1 then nI n else if w = 2 then fN (nEf C) n 0 else if w = 3 then rd else if w = 4 then rt else if w = 5 then fN (allf C) n 0 else -1
def hangX (g h : Nat → Int32) (a b w : Int32) : Int32 := if inR a 0 5 = true ∧ inR b 0 5 = true ∧ inR w 0 1 = true then (if w = 0 then zI (decide (g a.toNatClampNeg = g b.toNatClampNeg)) else if g a.toNatClampNeg = g b.toNatClampNeg then h a.toNatClampNeg - h b.toNatClampNeg else -1000000) else -1000001
theorem isC_of {x : Int32} {n : Nat} (hn : n ≤ 12) (h : isC n x = true) : ∃ j : Nat, j < n ∧ x = nI j := nI_of_in (by omega) h
theorem inR_of {x : Int32} {a : Int32} {k : Nat} (ha : a = nI k) (hk : k < 4096) (h : inR x 0 a = true) : ∃ j : Nat, j ≤ k ∧ x = nI j := by
  have h2 : inR x 0 (nI (k + 1) - 1) = true := by rw [nI_pred]; rw [← ha]; exact h
  obtain ⟨j, hj, e⟩ := nI_of_in (by omega) h2
  exact ⟨j, by omega, e⟩

set_option maxHeartbeats 4000000 in
set_option maxRecDepth 100000 in
theorem kX0_age (l : Launch) (D : va_G) (y : Nat → ClassId) (q : Nat → Nat) (n : Nat) (now rt : Int32) (tr : Int64) (C : Nat → CT) (ah w : Nat → Int32) (mx : MT) (rd ct : Int32) (g h : Nat → Int32) (y0 : Int32) (j : Nat) (hj : j < 12) : Met l yX0_age wsX0_age ({ frames := 0, cells := 0, slots := 0, locals := 0 }) (va_Pc [.ref (q (9 + j)), .int y0] (rdB D (xT y) (xW y q (nI n) now rt tr C ah w mx rd ct g h))) (vp_Si (fun x => x = (y0 - c_la (C j)))) 0 0 nF := by
  refine ro_start (cc := cX0_age) (maxL := 2) (ret := (some .int)) (by decide) rfl (Nat.le_of_ble_eq_true rfl) ?_
  intro p e s m below meth c ls hx hb hr hml hown hlocks hts hnm hB hl
  obtain ⟨hP, hK, hN⟩ := hB
  have hown : s.vm.findClass RX0 = some m.cls := hown
  have F : CallFix p m c cX0_age 2 s [.ref (q (9 + j)), .int y0].toArray wsX0_age RX0 := ⟨hx, hb, hml, hown, hts⟩
  have hl : lv_has ls 2 [(0, .ref (q (9 + j))), (1, .int y0)] := hl
  have iX0 : ∀ w ∈ u_ws RX0 TX0 8, w ∈ wsX0_age := mem_pl [2, 3, 4, 5, 6, 7, 8, 9] rfl
  refine lv_iload_n hx hb dX0_age_0 rfl (lv_at hl 1 rfl) ?_
  refine lv_aload_n hx hb dX0_age_1 rfl (lv_at hl 0 rfl) ?_
  refine va_get (D := D) (ci := 0) (v := .int (c_la (C j))) (C := RX0) (T := TX0) (N := 8) hx hb hts iX0 hown hK hP (9 + j) (xp_at rfl hj) rfl 7 (by decide) (hts _ (List.mem_of_getElem? (i := 1) rfl)) (fun _ h9 => h9) rfl dX0_age_2 ?_
  refine lv_isub hx hb dX0_age_5 ?_
  exact ro_iret hx hb hr hlocks dX0_age_6 rfl

set_option maxHeartbeats 4000000 in
set_option maxRecDepth 100000 in
theorem kX0_cost (l : Launch) (D : va_G) (y : Nat → ClassId) (q : Nat → Nat) (n : Nat) (now rt : Int32) (tr : Int64) (C : Nat → CT) (ah w : Nat → Int32) (mx : MT) (rd ct : Int32) (g h : Nat → Int32) (y0 : Int32) (j : Nat) (hj : j < 12) : Met l yX0_cost wsX0_cost ({ frames := 1, cells := 0, slots := 0, locals := 21 }) (va_Pc [.ref (q (9 + j)), .int y0] (rdB D (xT y) (xW y q (nI n) now rt tr C ah w mx rd ct g h))) (vp_Si (fun x => x = (costX (C j) y0))) 0 0 nF := by
  refine ro_start (cc := cX0_cost) (maxL := 2) (ret := (some .int)) (by decide) rfl (Nat.le_of_ble_eq_true rfl) ?_
  intro p e s m below meth c ls hx hb hr hml hown hlocks hts hnm hB hl
  obtain ⟨hP, hK, hN⟩ := hB
  have hown : s.vm.findClass RX0 = some m.cls := hown
  have F : CallFix p m c cX0_cost 2 s [.ref (q (9 + j)), .int y0].toArray wsX0_cost RX0 := ⟨hx, hb, hml, hown, hts⟩
  have hl : lv_has ls 2 [(0, .ref (q (9 + j))), (1, .int y0)] := hl
  have iX0 : ∀ w ∈ u_ws RX0 TX0 8, w ∈ wsX0_cost := mem_pl [11, 12, 13, 14, 15, 16, 17, 18] rfl
  refine lv_bipush (v := 20) hx hb dX0_cost_0 (by decide) ?_
  refine lv_iconst (v := 3) hx hb dX0_cost_2 (by decide) ?_
  refine lv_aload_n hx hb dX0_cost_3 rfl (lv_at hl 0 rfl) ?_
  refine lv_iload_n hx hb dX0_cost_4 rfl (lv_at hl 1 rfl) ?_
  refine ro_i (va_runV (As := [.int y0]) (rest := [.int 3, .int 20]) F (kX0_age l D y q n now rt tr C ah w mx rd ct g h y0 j hj) (cwV 1 hts gX0_cost_X0_age rfl rfl rfl ⟨rfl, hdX0_age⟩ ⟨(Nat.le_of_ble_eq_true rfl), (Nat.le_of_ble_eq_true rfl)⟩) ⟨rdB_blind, va_recv hK hP (ci := 0) (q0 := (9 + j)) rfl (xp_at rfl hj), rdB_pre hP hK hN⟩ rfl rfl hl.1 rfl (lv_room (Nat.le_of_ble_eq_true rfl)) dX0_cost_5 ⟨Nat.zero_le _, Nat.zero_le _⟩) ?_
  refine lv_imul hx hb dX0_cost_8 ?_
  refine lv_iadd hx hb dX0_cost_9 ?_
  refine lv_aload_n hx hb dX0_cost_10 rfl (lv_at hl 0 rfl) ?_
  refine va_get (D := D) (ci := 0) (v := .int (c_dr (C j))) (C := RX0) (T := TX0) (N := 8) hx hb hts iX0 hown hK hP (9 + j) (xp_at rfl hj) rfl 1 (by decide) (hts _ (List.mem_of_getElem? (i := 1) rfl)) (fun _ h9 => h9) rfl dX0_cost_11 ?_
  refine lv_imul hx hb dX0_cost_14 ?_
  refine lv_bipush (v := 100) hx hb dX0_cost_15 (by decide) ?_
  refine ro_i (va_runSN (As := [.int ((20 + (3 * (y0 - c_la (C j)))) * (c_dr (C j))), .int 100]) (rest := []) F (kX4_dividedUp l ((20 + (3 * (y0 - c_la (C j)))) * (c_dr (C j))) 100) ⟨va_cnB 2 hts gX0_cost_X4_dividedUp_n34 rfl rfl rfl hN.1 (hts _ (List.mem_of_getElem? (i := 9) rfl)) hdX4_dividedUp ⟨(Nat.le_of_ble_eq_true rfl), (Nat.le_of_ble_eq_true rfl)⟩, (hts _ (List.mem_of_getElem? (i := 8) rfl)), trivial⟩ ⟨tr_blind, tr_pre⟩ rfl rfl hl.1 rfl (lv_room (Nat.le_of_ble_eq_true rfl)) dX0_cost_17 ⟨Nat.zero_le _, Nat.zero_le _⟩) ?_
  exact ro_iret hx hb hr hlocks dX0_cost_20 rfl

set_option maxHeartbeats 4000000 in
set_option maxRecDepth 100000 in
theorem kX0_lossIn (l : Launch) (D : va_G) (y : Nat → ClassId) (q : Nat → Nat) (n : Nat) (now rt : Int32) (tr : Int64) (C : Nat → CT) (ah w : Nat → Int32) (mx : MT) (rd ct : Int32) (g h : Nat → Int32) (y0 : Int32) (j : Nat) (hj : j < 12) : Met l yX0_lossIn wsX0_lossIn ({ frames := 2, cells := 0, slots := 0, locals := 45 }) (va_Pc [.ref (q (9 + j)), .int y0] (rdB D (xT y) (xW y q (nI n) now rt tr C ah w mx rd ct g h))) (vp_Si (fun x => x = (lossC (C j) y0))) 0 0 nF := by
  refine ro_start (cc := cX0_lossIn) (maxL := 2) (ret := (some .int)) (by decide) rfl (Nat.le_of_ble_eq_true rfl) ?_
  intro p e s m below meth c ls hx hb hr hml hown hlocks hts hnm hB hl
  obtain ⟨hP, hK, hN⟩ := hB
  have hown : s.vm.findClass RX0 = some m.cls := hown
  have F : CallFix p m c cX0_lossIn 2 s [.ref (q (9 + j)), .int y0].toArray wsX0_lossIn RX0 := ⟨hx, hb, hml, hown, hts⟩
  have hl : lv_has ls 2 [(0, .ref (q (9 + j))), (1, .int y0)] := hl
  have iX0 : ∀ w ∈ u_ws RX0 TX0 8, w ∈ wsX0_lossIn := mem_pl [16, 17, 18, 19, 20, 21, 22, 23] rfl
  refine lv_aload_n hx hb dX0_lossIn_0 rfl (lv_at hl 0 rfl) ?_
  refine va_get (D := D) (ci := 0) (v := .int (c_kd (C j))) (C := RX0) (T := TX0) (N := 8) hx hb hts iX0 hown hK hP (9 + j) (xp_at rfl hj) rfl 0 (by decide) (hts _ (List.mem_of_getElem? (i := 1) rfl)) (fun _ h9 => h9) rfl dX0_lossIn_1 ?_
  refine lv_aload_n hx hb dX0_lossIn_4 rfl (lv_at hl 0 rfl) ?_
  refine va_get (D := D) (ci := 0) (v := .int (c_fl (C j))) (C := RX0) (T := TX0) (N := 8) hx hb hts iX0 hown hK hP (9 + j) (xp_at rfl hj) rfl 3 (by decide) (hts _ (List.mem_of_getElem? (i := 2) rfl)) (fun _ h9 => h9) rfl dX0_lossIn_5 ?_
  refine lv_aload_n hx hb dX0_lossIn_8 rfl (lv_at hl 0 rfl) ?_
  refine lv_iload_n hx hb dX0_lossIn_9 rfl (lv_at hl 1 rfl) ?_
  refine ro_i (va_runV (As := [.int y0]) (rest := [.int (c_fl (C j)), .int (c_kd (C j))]) F (kX0_age l D y q n now rt tr C ah w mx rd ct g h y0 j hj) (cwV 1 hts gX0_lossIn_X0_age rfl rfl rfl ⟨rfl, hdX0_age⟩ ⟨(Nat.le_of_ble_eq_true rfl), (Nat.le_of_ble_eq_true rfl)⟩) ⟨rdB_blind, va_recv hK hP (ci := 0) (q0 := (9 + j)) rfl (xp_at rfl hj), rdB_pre hP hK hN⟩ rfl rfl hl.1 rfl (lv_room (Nat.le_of_ble_eq_true rfl)) dX0_lossIn_10 ⟨Nat.zero_le _, Nat.zero_le _⟩) ?_
  refine ro_i (va_runSN (As := [.int (c_kd (C j)), .int (c_fl (C j)), .int (y0 - c_la (C j))]) (rest := []) F (kX4_lossBy l (c_kd (C j)) (c_fl (C j)) (y0 - c_la (C j))) ⟨va_cnB 3 hts gX0_lossIn_X4_lossBy_n38 rfl rfl rfl hN.2.1 (hts _ (List.mem_of_getElem? (i := 10) rfl)) hdX4_lossBy ⟨(Nat.le_of_ble_eq_true rfl), (Nat.le_of_ble_eq_true rfl)⟩, (hts _ (List.mem_of_getElem? (i := 9) rfl)), trivial⟩ ⟨tr_blind, tr_pre⟩ rfl rfl hl.1 rfl (lv_room (Nat.le_of_ble_eq_true rfl)) dX0_lossIn_13 ⟨Nat.zero_le _, Nat.zero_le _⟩) ?_
  exact ro_iret hx hb hr hlocks dX0_lossIn_16 rfl

set_option maxHeartbeats 4000000 in
set_option maxRecDepth 100000 in
theorem kX1_evenly (l : Launch) (D : va_G) (y : Nat → ClassId) (q : Nat → Nat) (n : Nat) (now rt : Int32) (tr : Int64) (C : Nat → CT) (ah w : Nat → Int32) (mx : MT) (rd ct : Int32) (g h : Nat → Int32) (s0 : Int32) : Met l yX1_evenly wsX1_evenly ({ frames := 0, cells := 0, slots := 0, locals := 0 }) (va_Pc [.ref (q 5), .int s0] (rdB D (xT y) (xW y q (nI n) now rt tr C ah w mx rd ct g h))) (vp_Si (fun x => x = (evX mx s0))) 0 0 nF := by
  refine ro_start (cc := cX1_evenly) (maxL := 2) (ret := (some .int)) (by decide) rfl (Nat.le_of_ble_eq_true rfl) ?_
  intro p e s m below meth c ls hx hb hr hml hown hlocks hts hnm hB hl
  obtain ⟨hP, hK, hN⟩ := hB
  have hown : s.vm.findClass RX1 = some m.cls := hown
  have F : CallFix p m c cX1_evenly 2 s [.ref (q 5), .int s0].toArray wsX1_evenly RX1 := ⟨hx, hb, hml, hown, hts⟩
  have hl : lv_has ls 2 [(0, .ref (q 5)), (1, .int s0)] := hl
  have iX1 : ∀ w ∈ u_ws RX1 TX1 7, w ∈ wsX1_evenly := mem_pl [2, 3, 4, 5, 6, 7, 8] rfl
  refine lv_aload_n hx hb dX1_evenly_0 rfl (lv_at hl 0 rfl) ?_
  refine va_get (D := D) (ci := 1) (v := .int (m_dr mx)) (C := RX1) (T := TX1) (N := 7) hx hb hts iX1 hown hK hP 5 rfl rfl 0 (by decide) (hts _ (List.mem_of_getElem? (i := 1) rfl)) (fun _ h9 => h9) rfl dX1_evenly_1 ?_
  refine lv_iconst (v := 1) hx hb dX1_evenly_4 (by decide) ?_
  refine lv_icmp_ge (tgt := 12) hx hb dX1_evenly_5 (by decide) (fun c_1 => ?_) (fun c_1 => ?_)
  · skip
    refine lv_iload_n hx hb dX1_evenly_12 rfl (lv_at hl 1 rfl) ?_
    refine lv_aload_n hx hb dX1_evenly_13 rfl (lv_at hl 0 rfl) ?_
    refine va_get (D := D) (ci := 1) (v := .int (m_dr mx)) (C := RX1) (T := TX1) (N := 7) hx hb hts iX1 hown hK hP 5 rfl rfl 0 (by decide) (hts _ (List.mem_of_getElem? (i := 1) rfl)) (fun _ h9 => h9) rfl dX1_evenly_14 ?_
    refine lv_idiv hx hb dX1_evenly_17 (fun h => by rw [h] at c_1; exact absurd c_1 (by decide)) ?_
    exact ro_iret hx hb hr hlocks dX1_evenly_18 (by unfold evX; rw [if_neg (Int32.not_lt.mpr c_1)])
  · skip
    refine lv_iconst (v := 0) hx hb dX1_evenly_8 (by decide) ?_
    refine lv_goto (tgt := 18) hx hb dX1_evenly_9 (by decide) ?_
    exact ro_iret hx hb hr hlocks dX1_evenly_18 (by unfold evX; rw [if_pos (Int32.not_le.mp c_1)])

set_option maxHeartbeats 4000000 in
set_option maxRecDepth 100000 in
theorem kX3_isOldEnough (l : Launch) (D : va_G) (y : Nat → ClassId) (q : Nat → Nat) (n : Nat) (now rt : Int32) (tr : Int64) (C : Nat → CT) (ah w : Nat → Int32) (mx : MT) (rd ct : Int32) (g h : Nat → Int32) : Met l yX3_isOldEnough wsX3_isOldEnough ({ frames := 0, cells := 0, slots := 0, locals := 0 }) (va_Pc [.ref (q 3), .ref (q 5)] (rdB D (xT y) (xW y q (nI n) now rt tr C ah w mx rd ct g h))) (vp_Si (fun x => x = (zI (oldX w mx)))) 0 0 nF := by
  refine ro_start (cc := cX3_isOldEnough) (maxL := 2) (ret := (some .boolean)) (by decide) rfl (Nat.le_of_ble_eq_true rfl) ?_
  intro p e s m below meth c ls hx hb hr hml hown hlocks hts hnm hB hl
  obtain ⟨hP, hK, hN⟩ := hB
  have hown : s.vm.findClass RX3 = some m.cls := hown
  have F : CallFix p m c cX3_isOldEnough 2 s [.ref (q 3), .ref (q 5)].toArray wsX3_isOldEnough RX3 := ⟨hx, hb, hml, hown, hts⟩
  have hl : lv_has ls 2 [(0, .ref (q 3)), (1, .ref (q 5))] := hl
  have iX1 : ∀ w ∈ u_ws RX1 TX1 7, w ∈ wsX3_isOldEnough := mem_pl [3, 4, 5, 6, 7, 8, 9] rfl
  have iX3 : ∀ w ∈ u_ws RX3 TX3 1, w ∈ wsX3_isOldEnough := mem_pl [10] rfl
  refine lv_aload_n hx hb dX3_isOldEnough_0 rfl (lv_at hl 1 rfl) ?_
  refine va_get (D := D) (ci := 1) (v := .int (m_ag mx)) (C := RX1) (T := TX1) (N := 7) hx hb hts iX1 hown hK hP 5 rfl rfl 6 (by decide) (hts _ (List.mem_of_getElem? (i := 1) rfl)) (fun _ h9 => h9) rfl dX3_isOldEnough_1 ?_
  refine lv_aload_n hx hb dX3_isOldEnough_4 rfl (lv_at hl 0 rfl) ?_
  refine va_get (D := D) (ci := 3) (v := .ref (q 4)) (C := RX3) (T := TX3) (N := 1) hx hb hts iX3 hown hK hP 3 rfl rfl 0 (by decide) (hts _ (List.mem_of_getElem? (i := 2) rfl)) (fun _ h9 => h9) rfl dX3_isOldEnough_5 ?_
  refine lv_iconst (v := 1) hx hb dX3_isOldEnough_8 (by decide) ?_
  refine wa_iald hx hb hK hP 4 2 rfl rfl 1 (by decide) (by omega) (by decide) dX3_isOldEnough_9 ?_
  refine lv_icmp_lt (tgt := 17) hx hb dX3_isOldEnough_10 (by decide) (fun c_1 => ?_) (fun c_1 => ?_)
  · skip
    refine lv_iconst (v := 0) hx hb dX3_isOldEnough_17 (by decide) ?_
    exact ro_zret hx hb hr hlocks rfl dX3_isOldEnough_18 (by unfold oldX; rw [decide_eq_false (Int32.not_le.mpr c_1)]; rfl)
  · skip
    refine lv_iconst (v := 1) hx hb dX3_isOldEnough_13 (by decide) ?_
    refine lv_goto (tgt := 18) hx hb dX3_isOldEnough_14 (by decide) ?_
    exact ro_zret hx hb hr hlocks rfl dX3_isOldEnough_18 (by unfold oldX; rw [decide_eq_true (Int32.not_lt.mp c_1)]; rfl)

set_option maxHeartbeats 4000000 in
set_option maxRecDepth 100000 in
theorem kX3_isMetBy (l : Launch) (D : va_G) (y : Nat → ClassId) (q : Nat → Nat) (n : Nat) (now rt : Int32) (tr : Int64) (C : Nat → CT) (ah w : Nat → Int32) (mx : MT) (rd ct : Int32) (g h : Nat → Int32) : Met l yX3_isMetBy wsX3_isMetBy ({ frames := 1, cells := 0, slots := 0, locals := 22 }) (va_Pc [.ref (q 3), .ref (q 5)] (rdB D (xT y) (xW y q (nI n) now rt tr C ah w mx rd ct g h))) (vp_Si (fun x => x = (zI (metX w mx)))) 0 0 nF := by
  refine ro_start (cc := cX3_isMetBy) (maxL := 2) (ret := (some .boolean)) (by decide) rfl (Nat.le_of_ble_eq_true rfl) ?_
  intro p e s m below meth c ls hx hb hr hml hown hlocks hts hnm hB hl
  obtain ⟨hP, hK, hN⟩ := hB
  have hown : s.vm.findClass RX3 = some m.cls := hown
  have F : CallFix p m c cX3_isMetBy 2 s [.ref (q 3), .ref (q 5)].toArray wsX3_isMetBy RX3 := ⟨hx, hb, hml, hown, hts⟩
  have hl : lv_has ls 2 [(0, .ref (q 3)), (1, .ref (q 5))] := hl
  have iX1 : ∀ w ∈ u_ws RX1 TX1 7, w ∈ wsX3_isMetBy := mem_pl [21, 22, 23, 24, 25, 26, 27] rfl
  have iX3 : ∀ w ∈ u_ws RX3 TX3 1, w ∈ wsX3_isMetBy := mem_pl [28] rfl
  refine lv_aload_n hx hb dX3_isMetBy_0 rfl (lv_at hl 1 rfl) ?_
  refine va_get (D := D) (ci := 1) (v := .int (m_dr mx)) (C := RX1) (T := TX1) (N := 7) hx hb hts iX1 hown hK hP 5 rfl rfl 0 (by decide) (hts _ (List.mem_of_getElem? (i := 1) rfl)) (fun _ h9 => h9) rfl dX3_isMetBy_1 ?_
  refine lv_aload_n hx hb dX3_isMetBy_4 rfl (lv_at hl 0 rfl) ?_
  refine va_get (D := D) (ci := 3) (v := .ref (q 4)) (C := RX3) (T := TX3) (N := 1) hx hb hts iX3 hown hK hP 3 rfl rfl 0 (by decide) (hts _ (List.mem_of_getElem? (i := 2) rfl)) (fun _ h9 => h9) rfl dX3_isMetBy_5 ?_
  refine lv_iconst (v := 0) hx hb dX3_isMetBy_8 (by decide) ?_
  refine wa_iald hx hb hK hP 4 2 rfl rfl 0 (by decide) (by omega) (by decide) dX3_isMetBy_9 ?_
  refine lv_icmp_lt (tgt := 105) hx hb dX3_isMetBy_10 (by decide) (fun c_1 => ?_) (fun c_1 => ?_)
  · skip
    refine lv_iconst (v := 0) hx hb dX3_isMetBy_105 (by decide) ?_
    exact ro_zret hx hb hr hlocks rfl dX3_isMetBy_106 (by unfold metX; rw [decide_eq_false (Int32.not_le.mpr c_1)]; rfl)
  · skip
    refine lv_aload_n hx hb dX3_isMetBy_13 rfl (lv_at hl 0 rfl) ?_
    refine lv_aload_n hx hb dX3_isMetBy_14 rfl (lv_at hl 1 rfl) ?_
    refine ro_i (va_runV (As := [.ref (q 5)]) (rest := []) F (kX3_isOldEnough l D y q n now rt tr C ah w mx rd ct g h) (cwV 1 hts gX3_isMetBy_X3_isOldEnough rfl rfl rfl ⟨rfl, hdX3_isOldEnough⟩ ⟨(Nat.le_of_ble_eq_true rfl), (Nat.le_of_ble_eq_true rfl)⟩) ⟨rdB_blind, va_recv hK hP (ci := 3) (q0 := 3) rfl rfl, rdB_pre hP hK hN⟩ rfl rfl hl.1 rfl (lv_room (Nat.le_of_ble_eq_true rfl)) dX3_isMetBy_15 ⟨Nat.zero_le _, Nat.zero_le _⟩) ?_
    refine lv_if_eq (tgt := 105) hx hb dX3_isMetBy_18 (by decide) (fun c_2 => ?_) (fun c_2 => ?_)
    · skip
      have c_2 := zI_0 c_2
      refine lv_iconst (v := 0) hx hb dX3_isMetBy_105 (by decide) ?_
      exact ro_zret hx hb hr hlocks rfl dX3_isMetBy_106 (by unfold metX; rw [decide_eq_true (Int32.not_lt.mp c_1)]; simp [zI, c_2])
    · skip
      have c_2 := zI_1 c_2
      refine lv_aload_n hx hb dX3_isMetBy_21 rfl (lv_at hl 1 rfl) ?_
      refine lv_aload_n hx hb dX3_isMetBy_22 rfl (lv_at hl 1 rfl) ?_
      refine va_get (D := D) (ci := 1) (v := .int (m_ok mx)) (C := RX1) (T := TX1) (N := 7) hx hb hts iX1 hown hK hP 5 rfl rfl 2 (by decide) (hts _ (List.mem_of_getElem? (i := 3) rfl)) (fun _ h9 => h9) rfl dX3_isMetBy_23 ?_
      refine ro_i (va_runV (As := [.int (m_ok mx)]) (rest := []) F (kX1_evenly l D y q n now rt tr C ah w mx rd ct g h (m_ok mx)) (cwV 1 hts gX3_isMetBy_X1_evenly rfl rfl rfl ⟨rfl, hdX1_evenly⟩ ⟨(Nat.le_of_ble_eq_true rfl), (Nat.le_of_ble_eq_true rfl)⟩) ⟨rdB_blind, va_recv hK hP (ci := 1) (q0 := 5) rfl rfl, rdB_pre hP hK hN⟩ rfl rfl hl.1 rfl (lv_room (Nat.le_of_ble_eq_true rfl)) dX3_isMetBy_26 ⟨Nat.zero_le _, Nat.zero_le _⟩) ?_
      refine lv_aload_n hx hb dX3_isMetBy_29 rfl (lv_at hl 0 rfl) ?_
      refine va_get (D := D) (ci := 3) (v := .ref (q 4)) (C := RX3) (T := TX3) (N := 1) hx hb hts iX3 hown hK hP 3 rfl rfl 0 (by decide) (hts _ (List.mem_of_getElem? (i := 2) rfl)) (fun _ h9 => h9) rfl dX3_isMetBy_30 ?_
      refine lv_iconst (v := 2) hx hb dX3_isMetBy_33 (by decide) ?_
      refine wa_iald hx hb hK hP 4 2 rfl rfl 2 (by decide) (by omega) (by decide) dX3_isMetBy_34 ?_
      refine lv_aload_n hx hb dX3_isMetBy_35 rfl (lv_at hl 0 rfl) ?_
      refine va_get (D := D) (ci := 3) (v := .ref (q 4)) (C := RX3) (T := TX3) (N := 1) hx hb hts iX3 hown hK hP 3 rfl rfl 0 (by decide) (hts _ (List.mem_of_getElem? (i := 2) rfl)) (fun _ h9 => h9) rfl dX3_isMetBy_36 ?_
      refine lv_iconst (v := 3) hx hb dX3_isMetBy_39 (by decide) ?_
      refine wa_iald hx hb hK hP 4 2 rfl rfl 3 (by decide) (by omega) (by decide) dX3_isMetBy_40 ?_
      refine ro_i (va_runSN (As := [.int (evX mx (m_ok mx)), .int (w 2), .int (w 3)]) (rest := []) F (kX4_isWithin l (evX mx (m_ok mx)) (w 2) (w 3)) ⟨va_cnB 3 hts gX3_isMetBy_X4_isWithin_n36 rfl rfl rfl hN.2.2.2.1 (hts _ (List.mem_of_getElem? (i := 19) rfl)) hdX4_isWithin ⟨(Nat.le_of_ble_eq_true rfl), (Nat.le_of_ble_eq_true rfl)⟩, (hts _ (List.mem_of_getElem? (i := 18) rfl)), trivial⟩ ⟨tr_blind, tr_pre⟩ rfl rfl hl.1 rfl (lv_room (Nat.le_of_ble_eq_true rfl)) dX3_isMetBy_41 ⟨Nat.zero_le _, Nat.zero_le _⟩) ?_
      refine lv_if_eq (tgt := 105) hx hb dX3_isMetBy_44 (by decide) (fun c_3 => ?_) (fun c_3 => ?_)
      · skip
        have c_3 := zI_0 c_3
        refine lv_iconst (v := 0) hx hb dX3_isMetBy_105 (by decide) ?_
        exact ro_zret hx hb hr hlocks rfl dX3_isMetBy_106 (by unfold metX; rw [decide_eq_true (Int32.not_lt.mp c_1)]; simp [zI, c_2, c_3])
      · skip
        have c_3 := zI_1 c_3
        refine lv_aload_n hx hb dX3_isMetBy_47 rfl (lv_at hl 1 rfl) ?_
        refine lv_aload_n hx hb dX3_isMetBy_48 rfl (lv_at hl 1 rfl) ?_
        refine va_get (D := D) (ci := 1) (v := .int (m_sm mx)) (C := RX1) (T := TX1) (N := 7) hx hb hts iX1 hown hK hP 5 rfl rfl 3 (by decide) (hts _ (List.mem_of_getElem? (i := 4) rfl)) (fun _ h9 => h9) rfl dX3_isMetBy_49 ?_
        refine ro_i (va_runV (As := [.int (m_sm mx)]) (rest := []) F (kX1_evenly l D y q n now rt tr C ah w mx rd ct g h (m_sm mx)) (cwV 1 hts gX3_isMetBy_X1_evenly rfl rfl rfl ⟨rfl, hdX1_evenly⟩ ⟨(Nat.le_of_ble_eq_true rfl), (Nat.le_of_ble_eq_true rfl)⟩) ⟨rdB_blind, va_recv hK hP (ci := 1) (q0 := 5) rfl rfl, rdB_pre hP hK hN⟩ rfl rfl hl.1 rfl (lv_room (Nat.le_of_ble_eq_true rfl)) dX3_isMetBy_52 ⟨Nat.zero_le _, Nat.zero_le _⟩) ?_
        refine lv_aload_n hx hb dX3_isMetBy_55 rfl (lv_at hl 0 rfl) ?_
        refine va_get (D := D) (ci := 3) (v := .ref (q 4)) (C := RX3) (T := TX3) (N := 1) hx hb hts iX3 hown hK hP 3 rfl rfl 0 (by decide) (hts _ (List.mem_of_getElem? (i := 2) rfl)) (fun _ h9 => h9) rfl dX3_isMetBy_56 ?_
        refine lv_iconst (v := 4) hx hb dX3_isMetBy_59 (by decide) ?_
        refine wa_iald hx hb hK hP 4 2 rfl rfl 4 (by decide) (by omega) (by decide) dX3_isMetBy_60 ?_
        refine lv_aload_n hx hb dX3_isMetBy_61 rfl (lv_at hl 0 rfl) ?_
        refine va_get (D := D) (ci := 3) (v := .ref (q 4)) (C := RX3) (T := TX3) (N := 1) hx hb hts iX3 hown hK hP 3 rfl rfl 0 (by decide) (hts _ (List.mem_of_getElem? (i := 2) rfl)) (fun _ h9 => h9) rfl dX3_isMetBy_62 ?_
        refine lv_iconst (v := 5) hx hb dX3_isMetBy_65 (by decide) ?_
        refine wa_iald hx hb hK hP 4 2 rfl rfl 5 (by decide) (by omega) (by decide) dX3_isMetBy_66 ?_
        refine ro_i (va_runSN (As := [.int (evX mx (m_sm mx)), .int (w 4), .int (w 5)]) (rest := []) F (kX4_isWithin l (evX mx (m_sm mx)) (w 4) (w 5)) ⟨va_cnB 3 hts gX3_isMetBy_X4_isWithin_n36 rfl rfl rfl hN.2.2.2.1 (hts _ (List.mem_of_getElem? (i := 19) rfl)) hdX4_isWithin ⟨(Nat.le_of_ble_eq_true rfl), (Nat.le_of_ble_eq_true rfl)⟩, (hts _ (List.mem_of_getElem? (i := 18) rfl)), trivial⟩ ⟨tr_blind, tr_pre⟩ rfl rfl hl.1 rfl (lv_room (Nat.le_of_ble_eq_true rfl)) dX3_isMetBy_67 ⟨Nat.zero_le _, Nat.zero_le _⟩) ?_
        refine lv_if_eq (tgt := 105) hx hb dX3_isMetBy_70 (by decide) (fun c_4 => ?_) (fun c_4 => ?_)
        · skip
          have c_4 := zI_0 c_4
          refine lv_iconst (v := 0) hx hb dX3_isMetBy_105 (by decide) ?_
          exact ro_zret hx hb hr hlocks rfl dX3_isMetBy_106 (by unfold metX; rw [decide_eq_true (Int32.not_lt.mp c_1)]; simp [zI, c_2, c_3, c_4])
        · skip
          have c_4 := zI_1 c_4
          refine lv_aload_n hx hb dX3_isMetBy_73 rfl (lv_at hl 1 rfl) ?_
          refine lv_aload_n hx hb dX3_isMetBy_74 rfl (lv_at hl 1 rfl) ?_
          refine va_get (D := D) (ci := 1) (v := .int (m_sw mx)) (C := RX1) (T := TX1) (N := 7) hx hb hts iX1 hown hK hP 5 rfl rfl 4 (by decide) (hts _ (List.mem_of_getElem? (i := 5) rfl)) (fun _ h9 => h9) rfl dX3_isMetBy_75 ?_
          refine ro_i (va_runV (As := [.int (m_sw mx)]) (rest := []) F (kX1_evenly l D y q n now rt tr C ah w mx rd ct g h (m_sw mx)) (cwV 1 hts gX3_isMetBy_X1_evenly rfl rfl rfl ⟨rfl, hdX1_evenly⟩ ⟨(Nat.le_of_ble_eq_true rfl), (Nat.le_of_ble_eq_true rfl)⟩) ⟨rdB_blind, va_recv hK hP (ci := 1) (q0 := 5) rfl rfl, rdB_pre hP hK hN⟩ rfl rfl hl.1 rfl (lv_room (Nat.le_of_ble_eq_true rfl)) dX3_isMetBy_78 ⟨Nat.zero_le _, Nat.zero_le _⟩) ?_
          refine lv_aload_n hx hb dX3_isMetBy_81 rfl (lv_at hl 0 rfl) ?_
          refine va_get (D := D) (ci := 3) (v := .ref (q 4)) (C := RX3) (T := TX3) (N := 1) hx hb hts iX3 hown hK hP 3 rfl rfl 0 (by decide) (hts _ (List.mem_of_getElem? (i := 2) rfl)) (fun _ h9 => h9) rfl dX3_isMetBy_82 ?_
          refine lv_bipush (v := 6) hx hb dX3_isMetBy_85 (by decide) ?_
          refine wa_iald hx hb hK hP 4 2 rfl rfl 6 (by decide) (by omega) (by decide) dX3_isMetBy_87 ?_
          refine lv_aload_n hx hb dX3_isMetBy_88 rfl (lv_at hl 0 rfl) ?_
          refine va_get (D := D) (ci := 3) (v := .ref (q 4)) (C := RX3) (T := TX3) (N := 1) hx hb hts iX3 hown hK hP 3 rfl rfl 0 (by decide) (hts _ (List.mem_of_getElem? (i := 2) rfl)) (fun _ h9 => h9) rfl dX3_isMetBy_89 ?_
          refine lv_bipush (v := 7) hx hb dX3_isMetBy_92 (by decide) ?_
          refine wa_iald hx hb hK hP 4 2 rfl rfl 7 (by decide) (by omega) (by decide) dX3_isMetBy_94 ?_
          refine ro_i (va_runSN (As := [.int (evX mx (m_sw mx)), .int (w 6), .int (w 7)]) (rest := []) F (kX4_isWithin l (evX mx (m_sw mx)) (w 6) (w 7)) ⟨va_cnB 3 hts gX3_isMetBy_X4_isWithin_n36 rfl rfl rfl hN.2.2.2.1 (hts _ (List.mem_of_getElem? (i := 19) rfl)) hdX4_isWithin ⟨(Nat.le_of_ble_eq_true rfl), (Nat.le_of_ble_eq_true rfl)⟩, (hts _ (List.mem_of_getElem? (i := 18) rfl)), trivial⟩ ⟨tr_blind, tr_pre⟩ rfl rfl hl.1 rfl (lv_room (Nat.le_of_ble_eq_true rfl)) dX3_isMetBy_95 ⟨Nat.zero_le _, Nat.zero_le _⟩) ?_
          refine lv_if_eq (tgt := 105) hx hb dX3_isMetBy_98 (by decide) (fun c_5 => ?_) (fun c_5 => ?_)
          · skip
            have c_5 := zI_0 c_5
            refine lv_iconst (v := 0) hx hb dX3_isMetBy_105 (by decide) ?_
            exact ro_zret hx hb hr hlocks rfl dX3_isMetBy_106 (by unfold metX; rw [decide_eq_true (Int32.not_lt.mp c_1)]; simp [zI, c_2, c_3, c_4, c_5])
          · skip
            have c_5 := zI_1 c_5
            refine lv_iconst (v := 1) hx hb dX3_isMetBy_101 (by decide) ?_
            refine lv_goto (tgt := 106) hx hb dX3_isMetBy_102 (by decide) ?_
            exact ro_zret hx hb hr hlocks rfl dX3_isMetBy_106 (by unfold metX; rw [decide_eq_true (Int32.not_lt.mp c_1)]; simp [zI, c_2, c_3, c_4, c_5])

set_option maxHeartbeats 4000000 in
set_option maxRecDepth 100000 in
theorem kX4_isCask (l : Launch) (D : va_G) (y : Nat → ClassId) (q : Nat → Nat) (n : Nat) (now rt : Int32) (tr : Int64) (C : Nat → CT) (ah w : Nat → Int32) (mx : MT) (rd ct : Int32) (g h : Nat → Int32) (c0 : Int32) : Met l yX4_isCask wsX4_isCask ({ frames := 1, cells := 0, slots := 0, locals := 22 }) (va_Pc [.ref (q 0), .int c0] (rdB D (xT y) (xW y q (nI n) now rt tr C ah w mx rd ct g h))) (vp_Si (fun x => x = (zI (isC n c0)))) 0 0 nF := by
  refine ro_start (cc := cX4_isCask) (maxL := 2) (ret := (some .boolean)) (by decide) rfl (Nat.le_of_ble_eq_true rfl) ?_
  intro p e s m below meth c ls hx hb hr hml hown hlocks hts hnm hB hl
  obtain ⟨hP, hK, hN⟩ := hB
  have hown : s.vm.findClass RX4 = some m.cls := hown
  have F : CallFix p m c cX4_isCask 2 s [.ref (q 0), .int c0].toArray wsX4_isCask RX4 := ⟨hx, hb, hml, hown, hts⟩
  have hl : lv_has ls 2 [(0, .ref (q 0)), (1, .int c0)] := hl
  have iX4 : ∀ w ∈ u_ws RX4 TX4 9, w ∈ wsX4_isCask := mem_pl [6, 7, 8, 9, 10, 11, 12, 13, 14] rfl
  refine lv_iload_n hx hb dX4_isCask_0 rfl (lv_at hl 1 rfl) ?_
  refine lv_iconst (v := 0) hx hb dX4_isCask_1 (by decide) ?_
  refine lv_aload_n hx hb dX4_isCask_2 rfl (lv_at hl 0 rfl) ?_
  refine va_get (D := D) (ci := 4) (v := .int (nI n)) (C := RX4) (T := TX4) (N := 9) hx hb hts iX4 hown hK hP 0 rfl rfl 5 (by decide) (hts _ (List.mem_of_getElem? (i := 1) rfl)) (fun _ h9 => h9) rfl dX4_isCask_3 ?_
  refine lv_iconst (v := 1) hx hb dX4_isCask_6 (by decide) ?_
  refine lv_isub hx hb dX4_isCask_7 ?_
  refine ro_i (va_runS (As := [.int c0, .int 0, .int ((nI n) - 1)]) (rest := []) F (kX4_isWithin l c0 0 ((nI n) - 1)) (va_cwS 3 hts gX4_isCask_X4_isWithin rfl rfl rfl hdX4_isWithin ⟨(Nat.le_of_ble_eq_true rfl), (Nat.le_of_ble_eq_true rfl)⟩) ⟨tr_blind, tr_pre⟩ rfl rfl hl.1 rfl (lv_room (Nat.le_of_ble_eq_true rfl)) dX4_isCask_8 ⟨Nat.zero_le _, Nat.zero_le _⟩) ?_
  exact ro_zret hx hb hr hlocks (zI_nar _) dX4_isCask_11 rfl

set_option maxHeartbeats 4000000 in
set_option maxRecDepth 100000 in
theorem kX4_isSet (l : Launch) (D : va_G) (y : Nat → ClassId) (q : Nat → Nat) (n : Nat) (now rt : Int32) (tr : Int64) (C : Nat → CT) (ah w : Nat → Int32) (mx : MT) (rd ct : Int32) (g h : Nat → Int32) (s0 : Int32) : Met l yX4_isSet wsX4_isSet ({ frames := 1, cells := 0, slots := 0, locals := 22 }) (va_Pc [.ref (q 0), .int s0] (rdB D (xT y) (xW y q (nI n) now rt tr C ah w mx rd ct g h))) (vp_Si (fun x => x = (zI (isS n s0)))) 0 0 nF := by
  refine ro_start (cc := cX4_isSet) (maxL := 2) (ret := (some .boolean)) (by decide) rfl (Nat.le_of_ble_eq_true rfl) ?_
  intro p e s m below meth c ls hx hb hr hml hown hlocks hts hnm hB hl
  obtain ⟨hP, hK, hN⟩ := hB
  have hown : s.vm.findClass RX4 = some m.cls := hown
  have F : CallFix p m c cX4_isSet 2 s [.ref (q 0), .int s0].toArray wsX4_isSet RX4 := ⟨hx, hb, hml, hown, hts⟩
  have hl : lv_has ls 2 [(0, .ref (q 0)), (1, .int s0)] := hl
  have iX4 : ∀ w ∈ u_ws RX4 TX4 9, w ∈ wsX4_isSet := mem_pl [6, 7, 8, 9, 10, 11, 12, 13, 14] rfl
  refine lv_iload_n hx hb dX4_isSet_0 rfl (lv_at hl 1 rfl) ?_
  refine lv_iconst (v := 0) hx hb dX4_isSet_1 (by decide) ?_
  refine lv_iconst (v := 1) hx hb dX4_isSet_2 (by decide) ?_
  refine lv_aload_n hx hb dX4_isSet_3 rfl (lv_at hl 0 rfl) ?_
  refine va_get (D := D) (ci := 4) (v := .int (nI n)) (C := RX4) (T := TX4) (N := 9) hx hb hts iX4 hown hK hP 0 rfl rfl 5 (by decide) (hts _ (List.mem_of_getElem? (i := 1) rfl)) (fun _ h9 => h9) rfl dX4_isSet_4 ?_
  refine lv_ishl hx hb dX4_isSet_7 ?_
  refine lv_iconst (v := 1) hx hb dX4_isSet_8 (by decide) ?_
  refine lv_isub hx hb dX4_isSet_9 ?_
  refine ro_i (va_runS (As := [.int s0, .int 0, .int ((1 <<< ((nI n) &&& 31)) - 1)]) (rest := []) F (kX4_isWithin l s0 0 ((1 <<< ((nI n) &&& 31)) - 1)) (va_cwS 3 hts gX4_isSet_X4_isWithin rfl rfl rfl hdX4_isWithin ⟨(Nat.le_of_ble_eq_true rfl), (Nat.le_of_ble_eq_true rfl)⟩) ⟨tr_blind, tr_pre⟩ rfl rfl hl.1 rfl (lv_room (Nat.le_of_ble_eq_true rfl)) dX4_isSet_10 ⟨Nat.zero_le _, Nat.zero_le _⟩) ?_
  exact ro_zret hx hb hr hlocks (zI_nar _) dX4_isSet_13 rfl

set_option maxHeartbeats 4000000 in
set_option maxRecDepth 100000 in
theorem kX4_notEmpty (l : Launch) (D : va_G) (y : Nat → ClassId) (q : Nat → Nat) (n : Nat) (now rt : Int32) (tr : Int64) (C : Nat → CT) (ah w : Nat → Int32) (mx : MT) (rd ct : Int32) (g h : Nat → Int32) (hn : n ≤ 12) : Met l yX4_notEmpty wsX4_notEmpty ({ frames := 0, cells := 0, slots := 0, locals := 0 }) (va_Pc [.ref (q 0)] (rdB D (xT y) (xW y q (nI n) now rt tr C ah w mx rd ct g h))) (vp_Si (fun x => x = (fN (nEf C) n 0))) 0 0 nF := by
  refine ro_start (cc := cX4_notEmpty) (maxL := 3) (ret := (some .int)) (by decide) rfl (Nat.le_of_ble_eq_true rfl) ?_
  intro p e s m below meth c ls hx hb hr hml hown hlocks hts hnm hB hl
  obtain ⟨hP, hK, hN⟩ := hB
  have hown : s.vm.findClass RX4 = some m.cls := hown
  have F : CallFix p m c cX4_notEmpty 3 s [.ref (q 0)].toArray wsX4_notEmpty RX4 := ⟨hx, hb, hml, hown, hts⟩
  have hl : lv_has ls 3 [(0, .ref (q 0))] := hl
  have iX0 : ∀ w ∈ u_ws RX0 TX0 8, w ∈ wsX4_notEmpty := mem_pl [13, 14, 15, 16, 17, 18, 19, 20] rfl
  have iX4 : ∀ w ∈ u_ws RX4 TX4 9, w ∈ wsX4_notEmpty := mem_pl [4, 5, 6, 7, 8, 9, 10, 11, 12] rfl
  refine lv_iconst (v := 0) hx hb dX4_notEmpty_0 (by decide) ?_
  refine lv_istore_n (lv' := [(1, .int 0), (0, .ref (q 0))]) hx hb dX4_notEmpty_1 rfl hl (by decide) rfl (fun ls hl => ?_)
  refine lv_iconst (v := 0) hx hb dX4_notEmpty_2 (by decide) ?_
  refine lv_istore_n (lv' := [(2, .int 0), (1, .int 0), (0, .ref (q 0))]) hx hb dX4_notEmpty_3 rfl hl (by decide) rfl (fun ls hl => ?_)
  refine W.lpR (pc := 4) (τ := Nat) (fun i => i ≤ n) (fun i ls => lv_has ls 3 [(0, .ref (q 0)), (1, .int (fN (nEf C) i 0)), (2, .int (nI i))]) (fun i => n - i) ?_ 0 ls (Nat.zero_le _) (lv_sub hl [2, 1, 0] rfl)
  intro i ls hi hl ihi
  have hi : i ≤ n := hi
  have hl : lv_has ls 3 [(0, .ref (q 0)), (1, .int (fN (nEf C) i 0)), (2, .int (nI i))] := hl
  refine lv_iload_n hx hb dX4_notEmpty_4 rfl (lv_at hl 2 rfl) ?_
  refine lv_aload_n hx hb dX4_notEmpty_5 rfl (lv_at hl 0 rfl) ?_
  refine va_get (D := D) (ci := 4) (v := .int (nI n)) (C := RX4) (T := TX4) (N := 9) hx hb hts iX4 hown hK hP 0 rfl rfl 5 (by decide) (hts _ (List.mem_of_getElem? (i := 1) rfl)) (fun _ h9 => h9) rfl dX4_notEmpty_6 ?_
  refine lv_icmp_ge (tgt := 33) hx hb dX4_notEmpty_9 (by decide) (fun c_1 => ?_) (fun c_1 => ?_)
  · skip
    have c_1 : n ≤ i := (nI_leI (a := n) (b := i) (by omega) (by omega)).mp c_1
    refine lv_iload_n hx hb dX4_notEmpty_33 rfl (lv_at hl 1 rfl) ?_
    exact ro_iret hx hb hr hlocks dX4_notEmpty_34 (by rw [Nat.le_antisymm hi c_1])
  · skip
    have c_1 : ¬ n ≤ i := fun h => c_1 ((nI_leI (a := n) (b := i) (by omega) (by omega)).mpr h)
    refine lv_aload_n hx hb dX4_notEmpty_12 rfl (lv_at hl 0 rfl) ?_
    refine va_get (D := D) (ci := 4) (v := .ref (q 1)) (C := RX4) (T := TX4) (N := 9) hx hb hts iX4 hown hK hP 0 rfl rfl 0 (by decide) (hts _ (List.mem_of_getElem? (i := 2) rfl)) (fun _ h9 => h9) rfl dX4_notEmpty_13 ?_
    refine lv_iload_n hx hb dX4_notEmpty_16 rfl (lv_at hl 2 rfl) ?_
    refine wa_aldq hx hb hK hP 1 0 rfl rfl i rfl (by omega) (by decide) rfl dX4_notEmpty_17 ?_
    refine va_get (D := D) (ci := 0) (v := .int (c_dr (C i))) (C := RX0) (T := TX0) (N := 8) hx hb hts iX0 hown hK hP (9 + i) (xp_at rfl (by omega)) rfl 1 (by decide) (hts _ (List.mem_of_getElem? (i := 3) rfl)) (fun _ h9 => h9) rfl dX4_notEmpty_18 ?_
    refine lv_if_le (tgt := 27) hx hb dX4_notEmpty_21 (by decide) (fun c_2 => ?_) (fun c_2 => ?_)
    · skip
      refine lv_iinc (v := (nI i + 1)) (lv' := [(2, .int (nI i + 1)), (0, .ref (q 0)), (1, .int (fN (nEf C) i 0))]) hx hb dX4_notEmpty_27 hl (k := 2) rfl rfl (by decide) rfl (fun ls hl => ?_)
      refine lv_goto (tgt := 4) hx hb dX4_notEmpty_30 (by decide) ?_
      exact ihi (i + 1) ls (by show n - (i + 1) < n - i; omega) (by show i + 1 ≤ n; omega) (lv_sub hl [1, 2, 0] (by
        show ([(0, .ref (q 0)), (1, .int (fN (nEf C) i 0)), (2, .int (nI i + 1))] : List (Nat × Value)) = [(0, .ref (q 0)), (1, .int (fN (nEf C) (i + 1) 0)), (2, .int (nI (i + 1)))]
        have e1 : fN (nEf C) (i + 1) 0 = fN (nEf C) i 0 := by rw [fN_s]; unfold nEf; simp [c_2]
        rw [e1]
        rw [← nI_1]))
    · skip
      refine lv_iinc (v := (fN (nEf C) i 0 + 1)) (lv' := [(1, .int (fN (nEf C) i 0 + 1)), (0, .ref (q 0)), (2, .int (nI i))]) hx hb dX4_notEmpty_24 hl (k := 1) rfl rfl (by decide) rfl (fun ls hl => ?_)
      refine lv_iinc (v := (nI i + 1)) (lv' := [(2, .int (nI i + 1)), (1, .int (fN (nEf C) i 0 + 1)), (0, .ref (q 0))]) hx hb dX4_notEmpty_27 hl (k := 2) rfl rfl (by decide) rfl (fun ls hl => ?_)
      refine lv_goto (tgt := 4) hx hb dX4_notEmpty_30 (by decide) ?_
      exact ihi (i + 1) ls (by show n - (i + 1) < n - i; omega) (by show i + 1 ≤ n; omega) (lv_sub hl [2, 1, 0] (by
        show ([(0, .ref (q 0)), (1, .int (fN (nEf C) i 0 + 1)), (2, .int (nI i + 1))] : List (Nat × Value)) = [(0, .ref (q 0)), (1, .int (fN (nEf C) (i + 1) 0)), (2, .int (nI (i + 1)))]
        have e1 : fN (nEf C) (i + 1) 0 = (fN (nEf C) i 0 + 1) := by rw [fN_s]; unfold nEf; simp [c_2]
        rw [e1]
        rw [← nI_1]))

set_option maxHeartbeats 4000000 in
set_option maxRecDepth 100000 in
theorem kX4_allDrops (l : Launch) (D : va_G) (y : Nat → ClassId) (q : Nat → Nat) (n : Nat) (now rt : Int32) (tr : Int64) (C : Nat → CT) (ah w : Nat → Int32) (mx : MT) (rd ct : Int32) (g h : Nat → Int32) (hn : n ≤ 12) : Met l yX4_allDrops wsX4_allDrops ({ frames := 0, cells := 0, slots := 0, locals := 0 }) (va_Pc [.ref (q 0)] (rdB D (xT y) (xW y q (nI n) now rt tr C ah w mx rd ct g h))) (vp_Si (fun x => x = (fN (allf C) n 0))) 0 0 nF := by
  refine ro_start (cc := cX4_allDrops) (maxL := 3) (ret := (some .int)) (by decide) rfl (Nat.le_of_ble_eq_true rfl) ?_
  intro p e s m below meth c ls hx hb hr hml hown hlocks hts hnm hB hl
  obtain ⟨hP, hK, hN⟩ := hB
  have hown : s.vm.findClass RX4 = some m.cls := hown
  have F : CallFix p m c cX4_allDrops 3 s [.ref (q 0)].toArray wsX4_allDrops RX4 := ⟨hx, hb, hml, hown, hts⟩
  have hl : lv_has ls 3 [(0, .ref (q 0))] := hl
  have iX0 : ∀ w ∈ u_ws RX0 TX0 8, w ∈ wsX4_allDrops := mem_pl [13, 14, 15, 16, 17, 18, 19, 20] rfl
  have iX4 : ∀ w ∈ u_ws RX4 TX4 9, w ∈ wsX4_allDrops := mem_pl [4, 5, 6, 7, 8, 9, 10, 11, 12] rfl
  refine lv_iconst (v := 0) hx hb dX4_allDrops_0 (by decide) ?_
  refine lv_istore_n (lv' := [(1, .int 0), (0, .ref (q 0))]) hx hb dX4_allDrops_1 rfl hl (by decide) rfl (fun ls hl => ?_)
  refine lv_iconst (v := 0) hx hb dX4_allDrops_2 (by decide) ?_
  refine lv_istore_n (lv' := [(2, .int 0), (1, .int 0), (0, .ref (q 0))]) hx hb dX4_allDrops_3 rfl hl (by decide) rfl (fun ls hl => ?_)
  refine W.lpR (pc := 4) (τ := Nat) (fun i => i ≤ n) (fun i ls => lv_has ls 3 [(0, .ref (q 0)), (1, .int (fN (allf C) i 0)), (2, .int (nI i))]) (fun i => n - i) ?_ 0 ls (Nat.zero_le _) (lv_sub hl [2, 1, 0] rfl)
  intro i ls hi hl ihi
  have hi : i ≤ n := hi
  have hl : lv_has ls 3 [(0, .ref (q 0)), (1, .int (fN (allf C) i 0)), (2, .int (nI i))] := hl
  refine lv_iload_n hx hb dX4_allDrops_4 rfl (lv_at hl 2 rfl) ?_
  refine lv_aload_n hx hb dX4_allDrops_5 rfl (lv_at hl 0 rfl) ?_
  refine va_get (D := D) (ci := 4) (v := .int (nI n)) (C := RX4) (T := TX4) (N := 9) hx hb hts iX4 hown hK hP 0 rfl rfl 5 (by decide) (hts _ (List.mem_of_getElem? (i := 1) rfl)) (fun _ h9 => h9) rfl dX4_allDrops_6 ?_
  refine lv_icmp_ge (tgt := 30) hx hb dX4_allDrops_9 (by decide) (fun c_1 => ?_) (fun c_1 => ?_)
  · skip
    have c_1 : n ≤ i := (nI_leI (a := n) (b := i) (by omega) (by omega)).mp c_1
    refine lv_iload_n hx hb dX4_allDrops_30 rfl (lv_at hl 1 rfl) ?_
    exact ro_iret hx hb hr hlocks dX4_allDrops_31 (by rw [Nat.le_antisymm hi c_1])
  · skip
    have c_1 : ¬ n ≤ i := fun h => c_1 ((nI_leI (a := n) (b := i) (by omega) (by omega)).mpr h)
    refine lv_iload_n hx hb dX4_allDrops_12 rfl (lv_at hl 1 rfl) ?_
    refine lv_aload_n hx hb dX4_allDrops_13 rfl (lv_at hl 0 rfl) ?_
    refine va_get (D := D) (ci := 4) (v := .ref (q 1)) (C := RX4) (T := TX4) (N := 9) hx hb hts iX4 hown hK hP 0 rfl rfl 0 (by decide) (hts _ (List.mem_of_getElem? (i := 2) rfl)) (fun _ h9 => h9) rfl dX4_allDrops_14 ?_
    refine lv_iload_n hx hb dX4_allDrops_17 rfl (lv_at hl 2 rfl) ?_
    refine wa_aldq hx hb hK hP 1 0 rfl rfl i rfl (by omega) (by decide) rfl dX4_allDrops_18 ?_
    refine va_get (D := D) (ci := 0) (v := .int (c_dr (C i))) (C := RX0) (T := TX0) (N := 8) hx hb hts iX0 hown hK hP (9 + i) (xp_at rfl (by omega)) rfl 1 (by decide) (hts _ (List.mem_of_getElem? (i := 3) rfl)) (fun _ h9 => h9) rfl dX4_allDrops_19 ?_
    refine lv_iadd hx hb dX4_allDrops_22 ?_
    refine lv_istore_n (lv' := [(1, .int ((fN (allf C) i 0) + (c_dr (C i)))), (0, .ref (q 0)), (2, .int (nI i))]) hx hb dX4_allDrops_23 rfl hl (by decide) rfl (fun ls hl => ?_)
    refine lv_iinc (v := (nI i + 1)) (lv' := [(2, .int (nI i + 1)), (1, .int ((fN (allf C) i 0) + (c_dr (C i)))), (0, .ref (q 0))]) hx hb dX4_allDrops_24 hl (k := 2) rfl rfl (by decide) rfl (fun ls hl => ?_)
    refine lv_goto (tgt := 4) hx hb dX4_allDrops_27 (by decide) ?_
    exact ihi (i + 1) ls (by show n - (i + 1) < n - i; omega) (by show i + 1 ≤ n; omega) (lv_sub hl [2, 1, 0] (by
      show ([(0, .ref (q 0)), (1, .int ((fN (allf C) i 0) + (c_dr (C i)))), (2, .int (nI i + 1))] : List (Nat × Value)) = [(0, .ref (q 0)), (1, .int (fN (allf C) (i + 1) 0)), (2, .int (nI (i + 1)))]
      have e1 : fN (allf C) (i + 1) 0 = ((fN (allf C) i 0) + (c_dr (C i))) := rfl
      rw [e1]
      rw [← nI_1]))

set_option maxHeartbeats 4000000 in
set_option maxRecDepth 100000 in
theorem kX4_about (l : Launch) (D : va_G) (y : Nat → ClassId) (q : Nat → Nat) (n : Nat) (now rt : Int32) (tr : Int64) (C : Nat → CT) (ah w : Nat → Int32) (mx : MT) (rd ct : Int32) (g h : Nat → Int32) (c0 : Int32) (w0 : Int32) (hn : n ≤ 12) : Met l yX4_about wsX4_about ({ frames := 2, cells := 0, slots := 0, locals := 43 }) (va_Pc [.ref (q 0), .int c0, .int w0] (rdB D (xT y) (xW y q (nI n) now rt tr C ah w mx rd ct g h))) (vp_Si (fun x => x = (aboutF n C now c0 w0))) 0 0 nF := by
  refine ro_start (cc := cX4_about) (maxL := 4) (ret := (some .int)) (by decide) rfl (Nat.le_of_ble_eq_true rfl) ?_
  intro p e s m below meth c ls hx hb hr hml hown hlocks hts hnm hB hl
  obtain ⟨hP, hK, hN⟩ := hB
  have hown : s.vm.findClass RX4 = some m.cls := hown
  have F : CallFix p m c cX4_about 4 s [.ref (q 0), .int c0, .int w0].toArray wsX4_about RX4 := ⟨hx, hb, hml, hown, hts⟩
  have hl : lv_has ls 4 [(0, .ref (q 0)), (1, .int c0), (2, .int w0)] := hl
  have iX0 : ∀ w ∈ u_ws RX0 TX0 8, w ∈ wsX4_about := mem_pl [42, 43, 44, 45, 46, 47, 48, 49] rfl
  have iX4 : ∀ w ∈ u_ws RX4 TX4 9, w ∈ wsX4_about := mem_pl [33, 34, 35, 36, 37, 38, 39, 40, 41] rfl
  refine lv_aload_n hx hb dX4_about_0 rfl (lv_at hl 0 rfl) ?_
  refine lv_iload_n hx hb dX4_about_1 rfl (lv_at hl 1 rfl) ?_
  refine ro_i (va_runV (As := [.int c0]) (rest := []) F (kX4_isCask l D y q n now rt tr C ah w mx rd ct g h c0) (cwV 1 hts gX4_about_X4_isCask rfl rfl rfl ⟨rfl, hdX4_isCask⟩ ⟨(Nat.le_of_ble_eq_true rfl), (Nat.le_of_ble_eq_true rfl)⟩) ⟨rdB_blind, va_recv hK hP (ci := 4) (q0 := 0) rfl rfl, rdB_pre hP hK hN⟩ rfl rfl hl.1 rfl (lv_room (Nat.le_of_ble_eq_true rfl)) dX4_about_2 ⟨Nat.zero_le _, Nat.zero_le _⟩) ?_
  refine lv_if_ne (tgt := 10) hx hb dX4_about_5 (by decide) (fun c_1 => ?_) (fun c_1 => ?_)
  · skip
    have c_1 := zI_1 c_1
    obtain ⟨j, hzj, rfl⟩ := isC_of hn c_1
    have ej : (nI j).toNatClampNeg = j := nI_clamp (by omega)
    refine lv_aload_n hx hb dX4_about_10 rfl (lv_at hl 0 rfl) ?_
    refine va_get (D := D) (ci := 4) (v := .ref (q 1)) (C := RX4) (T := TX4) (N := 9) hx hb hts iX4 hown hK hP 0 rfl rfl 0 (by decide) (hts _ (List.mem_of_getElem? (i := 1) rfl)) (fun _ h9 => h9) rfl dX4_about_11 ?_
    refine lv_iload_n hx hb dX4_about_14 rfl (lv_at hl 1 rfl) ?_
    refine wa_aldq hx hb hK hP 1 0 rfl rfl j rfl (by omega) (by decide) rfl dX4_about_15 ?_
    refine lv_astore_n (lv' := [(3, .ref (q (9 + j))), (0, .ref (q 0)), (1, .int (nI j)), (2, .int w0)]) hx hb dX4_about_16 rfl hl (by decide) rfl (fun ls hl => ?_)
    refine lv_iload_n hx hb dX4_about_17 rfl (lv_at hl 3 rfl) ?_
    by_cases t_2 : w0 = 0
    · skip
      subst t_2
      refine lv_tableIn (off := 50) (tgt := 68) hx hb dX4_about_18 (by decide) (by decide) rfl (by decide) ?_
      refine lv_aload_n hx hb dX4_about_68 rfl (lv_at hl 0 rfl) ?_
      refine va_get (D := D) (ci := 0) (v := .int (c_dr (C j))) (C := RX0) (T := TX0) (N := 8) hx hb hts iX0 hown hK hP (9 + j) (xp_at rfl (by omega)) rfl 1 (by decide) (hts _ (List.mem_of_getElem? (i := 2) rfl)) (fun _ h9 => h9) rfl dX4_about_69 ?_
      exact ro_iret hx hb hr hlocks dX4_about_72 (by simp [aboutF, aboutX, costX, c_1, ej])
    by_cases t_3 : w0 = 1
    · skip
      subst t_3
      refine lv_tableIn (off := 55) (tgt := 73) hx hb dX4_about_18 (by decide) (by decide) rfl (by decide) ?_
      refine lv_aload_n hx hb dX4_about_73 rfl (lv_at hl 0 rfl) ?_
      refine va_get (D := D) (ci := 0) (v := .int (c_sg (C j))) (C := RX0) (T := TX0) (N := 8) hx hb hts iX0 hown hK hP (9 + j) (xp_at rfl (by omega)) rfl 2 (by decide) (hts _ (List.mem_of_getElem? (i := 3) rfl)) (fun _ h9 => h9) rfl dX4_about_74 ?_
      exact ro_iret hx hb hr hlocks dX4_about_77 (by simp [aboutF, aboutX, costX, c_1, ej])
    by_cases t_4 : w0 = 2
    · skip
      subst t_4
      refine lv_tableIn (off := 60) (tgt := 78) hx hb dX4_about_18 (by decide) (by decide) rfl (by decide) ?_
      refine lv_aload_n hx hb dX4_about_78 rfl (lv_at hl 0 rfl) ?_
      refine lv_aload_n hx hb dX4_about_79 rfl (lv_at hl 1 rfl) ?_
      refine va_get (D := D) (ci := 4) (v := .int now) (C := RX4) (T := TX4) (N := 9) hx hb hts iX4 hown hK hP 0 rfl rfl 6 (by decide) (hts _ (List.mem_of_getElem? (i := 4) rfl)) (fun _ h9 => h9) rfl dX4_about_80 ?_
      refine ro_i (va_runV (As := [.int now]) (rest := []) F (kX0_age l D y q n now rt tr C ah w mx rd ct g h now j (by omega)) (cwV 1 hts gX4_about_X0_age rfl rfl rfl ⟨rfl, hdX0_age⟩ ⟨(Nat.le_of_ble_eq_true rfl), (Nat.le_of_ble_eq_true rfl)⟩) ⟨rdB_blind, va_recv hK hP (ci := 0) (q0 := (9 + j)) rfl (xp_at rfl (by omega)), rdB_pre hP hK hN⟩ rfl rfl hl.1 rfl (lv_room (Nat.le_of_ble_eq_true rfl)) dX4_about_83 ⟨Nat.zero_le _, Nat.zero_le _⟩) ?_
      exact ro_iret hx hb hr hlocks dX4_about_86 (by simp [aboutF, aboutX, costX, c_1, ej])
    by_cases t_5 : w0 = 3
    · skip
      subst t_5
      refine lv_tableIn (off := 69) (tgt := 87) hx hb dX4_about_18 (by decide) (by decide) rfl (by decide) ?_
      refine lv_aload_n hx hb dX4_about_87 rfl (lv_at hl 0 rfl) ?_
      refine va_get (D := D) (ci := 0) (v := .int (c_ok (C j))) (C := RX0) (T := TX0) (N := 8) hx hb hts iX0 hown hK hP (9 + j) (xp_at rfl (by omega)) rfl 4 (by decide) (hts _ (List.mem_of_getElem? (i := 5) rfl)) (fun _ h9 => h9) rfl dX4_about_88 ?_
      exact ro_iret hx hb hr hlocks dX4_about_91 (by simp [aboutF, aboutX, costX, c_1, ej])
    by_cases t_6 : w0 = 4
    · skip
      subst t_6
      refine lv_tableIn (off := 74) (tgt := 92) hx hb dX4_about_18 (by decide) (by decide) rfl (by decide) ?_
      refine lv_aload_n hx hb dX4_about_92 rfl (lv_at hl 0 rfl) ?_
      refine va_get (D := D) (ci := 0) (v := .int (c_sm (C j))) (C := RX0) (T := TX0) (N := 8) hx hb hts iX0 hown hK hP (9 + j) (xp_at rfl (by omega)) rfl 5 (by decide) (hts _ (List.mem_of_getElem? (i := 6) rfl)) (fun _ h9 => h9) rfl dX4_about_93 ?_
      exact ro_iret hx hb hr hlocks dX4_about_96 (by simp [aboutF, aboutX, costX, c_1, ej])
    by_cases t_7 : w0 = 5
    · skip
      subst t_7
      refine lv_tableIn (off := 79) (tgt := 97) hx hb dX4_about_18 (by decide) (by decide) rfl (by decide) ?_
      refine lv_aload_n hx hb dX4_about_97 rfl (lv_at hl 0 rfl) ?_
      refine va_get (D := D) (ci := 0) (v := .int (c_sw (C j))) (C := RX0) (T := TX0) (N := 8) hx hb hts iX0 hown hK hP (9 + j) (xp_at rfl (by omega)) rfl 6 (by decide) (hts _ (List.mem_of_getElem? (i := 7) rfl)) (fun _ h9 => h9) rfl dX4_about_98 ?_
      exact ro_iret hx hb hr hlocks dX4_about_101 (by simp [aboutF, aboutX, costX, c_1, ej])
    by_cases t_8 : w0 = 6
    · skip
      subst t_8
      refine lv_tableIn (off := 84) (tgt := 102) hx hb dX4_about_18 (by decide) (by decide) rfl (by decide) ?_
      refine lv_aload_n hx hb dX4_about_102 rfl (lv_at hl 0 rfl) ?_
      refine va_get (D := D) (ci := 0) (v := .int (c_kd (C j))) (C := RX0) (T := TX0) (N := 8) hx hb hts iX0 hown hK hP (9 + j) (xp_at rfl (by omega)) rfl 0 (by decide) (hts _ (List.mem_of_getElem? (i := 8) rfl)) (fun _ h9 => h9) rfl dX4_about_103 ?_
      exact ro_iret hx hb hr hlocks dX4_about_106 (by simp [aboutF, aboutX, costX, c_1, ej])
    by_cases t_9 : w0 = 7
    · skip
      subst t_9
      refine lv_tableIn (off := 89) (tgt := 107) hx hb dX4_about_18 (by decide) (by decide) rfl (by decide) ?_
      refine lv_aload_n hx hb dX4_about_107 rfl (lv_at hl 0 rfl) ?_
      refine va_get (D := D) (ci := 0) (v := .int (c_fl (C j))) (C := RX0) (T := TX0) (N := 8) hx hb hts iX0 hown hK hP (9 + j) (xp_at rfl (by omega)) rfl 3 (by decide) (hts _ (List.mem_of_getElem? (i := 9) rfl)) (fun _ h9 => h9) rfl dX4_about_108 ?_
      exact ro_iret hx hb hr hlocks dX4_about_111 (by simp [aboutF, aboutX, costX, c_1, ej])
    by_cases t_10 : w0 = 8
    · skip
      subst t_10
      refine lv_tableIn (off := 94) (tgt := 112) hx hb dX4_about_18 (by decide) (by decide) rfl (by decide) ?_
      refine lv_aload_n hx hb dX4_about_112 rfl (lv_at hl 0 rfl) ?_
      refine lv_aload_n hx hb dX4_about_113 rfl (lv_at hl 1 rfl) ?_
      refine va_get (D := D) (ci := 4) (v := .int now) (C := RX4) (T := TX4) (N := 9) hx hb hts iX4 hown hK hP 0 rfl rfl 6 (by decide) (hts _ (List.mem_of_getElem? (i := 4) rfl)) (fun _ h9 => h9) rfl dX4_about_114 ?_
      refine ro_i (va_runV (As := [.int now]) (rest := []) F (kX0_cost l D y q n now rt tr C ah w mx rd ct g h now j (by omega)) (cwV 1 hts gX4_about_X0_cost rfl rfl rfl ⟨rfl, hdX0_cost⟩ ⟨(Nat.le_of_ble_eq_true rfl), (Nat.le_of_ble_eq_true rfl)⟩) ⟨rdB_blind, va_recv hK hP (ci := 0) (q0 := (9 + j)) rfl (xp_at rfl (by omega)), rdB_pre hP hK hN⟩ rfl rfl hl.1 rfl (lv_room (Nat.le_of_ble_eq_true rfl)) dX4_about_117 ⟨Nat.zero_le _, Nat.zero_le _⟩) ?_
      exact ro_iret hx hb hr hlocks dX4_about_120 (by simp [aboutF, aboutX, costX, c_1, ej])
    have u_2 : ¬ (w0).toInt = 0 := fun h => t_2 (Int32.toInt_inj.mp h)
    have u_3 : ¬ (w0).toInt = 1 := fun h => t_3 (Int32.toInt_inj.mp h)
    have u_4 : ¬ (w0).toInt = 2 := fun h => t_4 (Int32.toInt_inj.mp h)
    have u_5 : ¬ (w0).toInt = 3 := fun h => t_5 (Int32.toInt_inj.mp h)
    have u_6 : ¬ (w0).toInt = 4 := fun h => t_6 (Int32.toInt_inj.mp h)
    have u_7 : ¬ (w0).toInt = 5 := fun h => t_7 (Int32.toInt_inj.mp h)
    have u_8 : ¬ (w0).toInt = 6 := fun h => t_8 (Int32.toInt_inj.mp h)
    have u_9 : ¬ (w0).toInt = 7 := fun h => t_9 (Int32.toInt_inj.mp h)
    have u_10 : ¬ (w0).toInt = 8 := fun h => t_10 (Int32.toInt_inj.mp h)
    refine lv_tableOut (tgt := 121) hx hb dX4_about_18 (by omega) (by decide) ?_
    refine lv_iconst (v := (-1)) hx hb dX4_about_121 (by decide) ?_
    exact ro_iret hx hb hr hlocks dX4_about_122 (by simp [aboutF, aboutX, costX, c_1, ej, t_2, t_3, t_4, t_5, t_6, t_7, t_8, t_9, t_10])
  · skip
    have c_1 := zI_0 c_1
    refine lv_iconst (v := (-1)) hx hb dX4_about_8 (by decide) ?_
    exact ro_iret hx hb hr hlocks dX4_about_9 (by simp [aboutF, aboutX, costX, c_1])

set_option maxHeartbeats 4000000 in
set_option maxRecDepth 100000 in
theorem kX4_cut (l : Launch) (D : va_G) (y : Nat → ClassId) (q : Nat → Nat) (n : Nat) (now rt : Int32) (tr : Int64) (C : Nat → CT) (ah w : Nat → Int32) (mx : MT) (rd ct : Int32) (g h : Nat → Int32) (c0 : Int32) (t0 : Int32) (hn : n ≤ 12) : Met l yX4_cut wsX4_cut ({ frames := 2, cells := 0, slots := 0, locals := 43 }) (va_Pc [.ref (q 0), .int c0, .int t0] (rdB D (xT y) (xW y q (nI n) now rt tr C ah w mx rd ct g h))) (vp_Si (fun x => x = (cutF n C c0 t0))) 0 0 nF := by
  refine ro_start (cc := cX4_cut) (maxL := 4) (ret := (some .int)) (by decide) rfl (Nat.le_of_ble_eq_true rfl) ?_
  intro p e s m below meth c ls hx hb hr hml hown hlocks hts hnm hB hl
  obtain ⟨hP, hK, hN⟩ := hB
  have hown : s.vm.findClass RX4 = some m.cls := hown
  have F : CallFix p m c cX4_cut 4 s [.ref (q 0), .int c0, .int t0].toArray wsX4_cut RX4 := ⟨hx, hb, hml, hown, hts⟩
  have hl : lv_has ls 4 [(0, .ref (q 0)), (1, .int c0), (2, .int t0)] := hl
  have iX0 : ∀ w ∈ u_ws RX0 TX0 8, w ∈ wsX4_cut := mem_pl [29, 30, 31, 32, 33, 34, 35, 36] rfl
  have iX4 : ∀ w ∈ u_ws RX4 TX4 9, w ∈ wsX4_cut := mem_pl [20, 21, 22, 23, 24, 25, 26, 27, 28] rfl
  refine lv_aload_n hx hb dX4_cut_0 rfl (lv_at hl 0 rfl) ?_
  refine lv_iload_n hx hb dX4_cut_1 rfl (lv_at hl 1 rfl) ?_
  refine ro_i (va_runV (As := [.int c0]) (rest := []) F (kX4_isCask l D y q n now rt tr C ah w mx rd ct g h c0) (cwV 1 hts gX4_cut_X4_isCask rfl rfl rfl ⟨rfl, hdX4_isCask⟩ ⟨(Nat.le_of_ble_eq_true rfl), (Nat.le_of_ble_eq_true rfl)⟩) ⟨rdB_blind, va_recv hK hP (ci := 4) (q0 := 0) rfl rfl, rdB_pre hP hK hN⟩ rfl rfl hl.1 rfl (lv_room (Nat.le_of_ble_eq_true rfl)) dX4_cut_2 ⟨Nat.zero_le _, Nat.zero_le _⟩) ?_
  refine lv_if_eq (tgt := 21) hx hb dX4_cut_5 (by decide) (fun c_1 => ?_) (fun c_1 => ?_)
  · skip
    have c_1 := zI_0 c_1
    refine lv_iconst (v := (-1)) hx hb dX4_cut_21 (by decide) ?_
    exact ro_iret hx hb hr hlocks dX4_cut_22 (by simp [cutF, c_1])
  · skip
    have c_1 := zI_1 c_1
    obtain ⟨j, hzj, rfl⟩ := isC_of hn c_1
    have ej : (nI j).toNatClampNeg = j := nI_clamp (by omega)
    refine lv_iload_n hx hb dX4_cut_8 rfl (lv_at hl 2 rfl) ?_
    refine lv_sipush (v := 300) hx hb dX4_cut_9 (by decide) ?_
    refine lv_sipush (v := 700) hx hb dX4_cut_12 (by decide) ?_
    refine ro_i (va_runS (As := [.int t0, .int 300, .int 700]) (rest := []) F (kX4_isWithin l t0 300 700) (va_cwS 3 hts gX4_cut_X4_isWithin rfl rfl rfl hdX4_isWithin ⟨(Nat.le_of_ble_eq_true rfl), (Nat.le_of_ble_eq_true rfl)⟩) ⟨tr_blind, tr_pre⟩ rfl rfl hl.1 rfl (lv_room (Nat.le_of_ble_eq_true rfl)) dX4_cut_15 ⟨Nat.zero_le _, Nat.zero_le _⟩) ?_
    refine lv_if_ne (tgt := 23) hx hb dX4_cut_18 (by decide) (fun c_2 => ?_) (fun c_2 => ?_)
    · skip
      have c_2 := zI_1 c_2
      refine lv_iconst (v := 0) hx hb dX4_cut_23 (by decide) ?_
      refine lv_aload_n hx hb dX4_cut_24 rfl (lv_at hl 0 rfl) ?_
      refine va_get (D := D) (ci := 4) (v := .ref (q 1)) (C := RX4) (T := TX4) (N := 9) hx hb hts iX4 hown hK hP 0 rfl rfl 0 (by decide) (hts _ (List.mem_of_getElem? (i := 1) rfl)) (fun _ h9 => h9) rfl dX4_cut_25 ?_
      refine lv_iload_n hx hb dX4_cut_28 rfl (lv_at hl 1 rfl) ?_
      refine wa_aldq hx hb hK hP 1 0 rfl rfl j rfl (by omega) (by decide) rfl dX4_cut_29 ?_
      refine va_get (D := D) (ci := 0) (v := .int (c_sg (C j))) (C := RX0) (T := TX0) (N := 8) hx hb hts iX0 hown hK hP (9 + j) (xp_at rfl (by omega)) rfl 2 (by decide) (hts _ (List.mem_of_getElem? (i := 2) rfl)) (fun _ h9 => h9) rfl dX4_cut_30 ?_
      refine lv_iload_n hx hb dX4_cut_33 rfl (lv_at hl 2 rfl) ?_
      refine lv_isub hx hb dX4_cut_34 ?_
      refine wm_max hx hb (hml.trans hl.1.symm) hown (hts _ (List.mem_of_getElem? (i := 3) rfl)) (hts _ (List.mem_of_getElem? (i := 4) rfl)) (hts _ (List.mem_of_getElem? (i := 5) rfl)) (hts _ (List.mem_of_getElem? (i := 6) rfl)) (Nat.le_of_ble_eq_true rfl) (Nat.le_of_ble_eq_true rfl) (Nat.zero_le _) (Nat.zero_le _) dX4_cut_35 ?_
      refine lv_istore_n (lv' := [(3, .int (mxI 0 ((c_sg (C j)) - t0))), (0, .ref (q 0)), (1, .int (nI j)), (2, .int t0)]) hx hb dX4_cut_38 rfl hl (by decide) rfl (fun ls hl => ?_)
      refine lv_aload_n hx hb dX4_cut_39 rfl (lv_at hl 1 rfl) ?_
      refine va_get (D := D) (ci := 4) (v := .ref (q 1)) (C := RX4) (T := TX4) (N := 9) hx hb hts iX4 hown hK hP 0 rfl rfl 0 (by decide) (hts _ (List.mem_of_getElem? (i := 1) rfl)) (fun _ h9 => h9) rfl dX4_cut_40 ?_
      refine lv_iload_n hx hb dX4_cut_43 rfl (lv_at hl 2 rfl) ?_
      refine wa_aldq hx hb hK hP 1 0 rfl rfl j rfl (by omega) (by decide) rfl dX4_cut_44 ?_
      refine va_get (D := D) (ci := 0) (v := .int (c_dr (C j))) (C := RX0) (T := TX0) (N := 8) hx hb hts iX0 hown hK hP (9 + j) (xp_at rfl (by omega)) rfl 1 (by decide) (hts _ (List.mem_of_getElem? (i := 7) rfl)) (fun _ h9 => h9) rfl dX4_cut_45 ?_
      refine lv_iload_n hx hb dX4_cut_48 rfl (lv_at hl 0 rfl) ?_
      refine lv_imul hx hb dX4_cut_49 ?_
      refine lv_iload_n hx hb dX4_cut_50 rfl (lv_at hl 3 rfl) ?_
      refine ro_i (va_runS (As := [.int ((c_dr (C j)) * (mxI 0 ((c_sg (C j)) - t0))), .int t0]) (rest := []) F (kX4_dividedUp l ((c_dr (C j)) * (mxI 0 ((c_sg (C j)) - t0))) t0) (va_cwS 2 hts gX4_cut_X4_dividedUp rfl rfl rfl hdX4_dividedUp ⟨(Nat.le_of_ble_eq_true rfl), (Nat.le_of_ble_eq_true rfl)⟩) ⟨tr_blind, tr_pre⟩ rfl rfl hl.1 rfl (lv_room (Nat.le_of_ble_eq_true rfl)) dX4_cut_51 ⟨Nat.zero_le _, Nat.zero_le _⟩) ?_
      exact ro_iret hx hb hr hlocks dX4_cut_54 (by simp [cutF, c_1, ej, c_2])
    · skip
      have c_2 := zI_0 c_2
      refine lv_iconst (v := (-1)) hx hb dX4_cut_21 (by decide) ?_
      exact ro_iret hx hb hr hlocks dX4_cut_22 (by simp [cutF, c_1, ej, c_2])

set_option maxHeartbeats 4000000 in
set_option maxRecDepth 100000 in
theorem kX4_duty (l : Launch) (D : va_G) (y : Nat → ClassId) (q : Nat → Nat) (n : Nat) (now rt : Int32) (tr : Int64) (C : Nat → CT) (ah w : Nat → Int32) (mx : MT) (rd ct : Int32) (g h : Nat → Int32) (s0 : Int32) (hn : n ≤ 12) : Met l yX4_duty wsX4_duty ({ frames := 2, cells := 0, slots := 0, locals := 43 }) (va_Pc [.ref (q 0), .int s0] (rdB D (xT y) (xW y q (nI n) now rt tr C ah w mx rd ct g h))) (vp_Si (fun x => x = (dutyF n C rt s0))) 0 0 nF := by
  refine ro_start (cc := cX4_duty) (maxL := 4) (ret := (some .int)) (by decide) rfl (Nat.le_of_ble_eq_true rfl) ?_
  intro p e s m below meth c ls hx hb hr hml hown hlocks hts hnm hB hl
  obtain ⟨hP, hK, hN⟩ := hB
  have hown : s.vm.findClass RX4 = some m.cls := hown
  have F : CallFix p m c cX4_duty 4 s [.ref (q 0), .int s0].toArray wsX4_duty RX4 := ⟨hx, hb, hml, hown, hts⟩
  have hl : lv_has ls 4 [(0, .ref (q 0)), (1, .int s0)] := hl
  have iX0 : ∀ w ∈ u_ws RX0 TX0 8, w ∈ wsX4_duty := mem_pl [26, 27, 28, 29, 30, 31, 32, 33] rfl
  have iX4 : ∀ w ∈ u_ws RX4 TX4 9, w ∈ wsX4_duty := mem_pl [17, 18, 19, 20, 21, 22, 23, 24, 25] rfl
  refine lv_aload_n hx hb dX4_duty_0 rfl (lv_at hl 0 rfl) ?_
  refine lv_iload_n hx hb dX4_duty_1 rfl (lv_at hl 1 rfl) ?_
  refine ro_i (va_runV (As := [.int s0]) (rest := []) F (kX4_isSet l D y q n now rt tr C ah w mx rd ct g h s0) (cwV 1 hts gX4_duty_X4_isSet rfl rfl rfl ⟨rfl, hdX4_isSet⟩ ⟨(Nat.le_of_ble_eq_true rfl), (Nat.le_of_ble_eq_true rfl)⟩) ⟨rdB_blind, va_recv hK hP (ci := 4) (q0 := 0) rfl rfl, rdB_pre hP hK hN⟩ rfl rfl hl.1 rfl (lv_room (Nat.le_of_ble_eq_true rfl)) dX4_duty_2 ⟨Nat.zero_le _, Nat.zero_le _⟩) ?_
  refine lv_if_ne (tgt := 10) hx hb dX4_duty_5 (by decide) (fun c_1 => ?_) (fun c_1 => ?_)
  · skip
    have c_1 := zI_1 c_1
    refine lv_iconst (v := 0) hx hb dX4_duty_10 (by decide) ?_
    refine lv_istore_n (lv' := [(2, .int 0), (0, .ref (q 0)), (1, .int s0)]) hx hb dX4_duty_11 rfl hl (by decide) rfl (fun ls hl => ?_)
    refine lv_iconst (v := 0) hx hb dX4_duty_12 (by decide) ?_
    refine lv_istore_n (lv' := [(3, .int 0), (2, .int 0), (0, .ref (q 0)), (1, .int s0)]) hx hb dX4_duty_13 rfl hl (by decide) rfl (fun ls hl => ?_)
    refine W.lpR (pc := 14) (τ := Nat) (fun i => i ≤ n) (fun i ls => lv_has ls 4 [(0, .ref (q 0)), (1, .int s0), (2, .int (fN (dutf C rt s0) i 0)), (3, .int (nI i))]) (fun i => n - i) ?_ 0 ls (Nat.zero_le _) (lv_sub hl [2, 3, 1, 0] rfl)
    intro i ls hi hl ihi
    have hi : i ≤ n := hi
    have hl : lv_has ls 4 [(0, .ref (q 0)), (1, .int s0), (2, .int (fN (dutf C rt s0) i 0)), (3, .int (nI i))] := hl
    refine lv_iload_n hx hb dX4_duty_14 rfl (lv_at hl 3 rfl) ?_
    refine lv_aload_n hx hb dX4_duty_15 rfl (lv_at hl 0 rfl) ?_
    refine va_get (D := D) (ci := 4) (v := .int (nI n)) (C := RX4) (T := TX4) (N := 9) hx hb hts iX4 hown hK hP 0 rfl rfl 5 (by decide) (hts _ (List.mem_of_getElem? (i := 1) rfl)) (fun _ h9 => h9) rfl dX4_duty_16 ?_
    refine lv_icmp_ge (tgt := 67) hx hb dX4_duty_19 (by decide) (fun c_2 => ?_) (fun c_2 => ?_)
    · skip
      have c_2 : n ≤ i := (nI_leI (a := n) (b := i) (by omega) (by omega)).mp c_2
      refine lv_iload_n hx hb dX4_duty_67 rfl (lv_at hl 2 rfl) ?_
      exact ro_iret hx hb hr hlocks dX4_duty_68 (by unfold dutyF; rw [if_pos c_1, Nat.le_antisymm hi c_2])
    · skip
      have c_2 : ¬ n ≤ i := fun h => c_2 ((nI_leI (a := n) (b := i) (by omega) (by omega)).mpr h)
      refine lv_iload_n hx hb dX4_duty_22 rfl (lv_at hl 1 rfl) ?_
      refine lv_iload_n hx hb dX4_duty_23 rfl (lv_at hl 3 rfl) ?_
      refine ro_i (va_runS (As := [.int s0, .int (nI i)]) (rest := []) F (kX4_holds l s0 (nI i)) (va_cwS 2 hts gX4_duty_X4_holds rfl rfl rfl hdX4_holds ⟨(Nat.le_of_ble_eq_true rfl), (Nat.le_of_ble_eq_true rfl)⟩) ⟨tr_blind, tr_pre⟩ rfl rfl hl.1 rfl (lv_room (Nat.le_of_ble_eq_true rfl)) dX4_duty_24 ⟨Nat.zero_le _, Nat.zero_le _⟩) ?_
      refine lv_if_eq (tgt := 61) hx hb dX4_duty_27 (by decide) (fun c_3 => ?_) (fun c_3 => ?_)
      · skip
        have c_3 := zI_0 c_3
        refine lv_iinc (v := (nI i + 1)) (lv' := [(3, .int (nI i + 1)), (0, .ref (q 0)), (1, .int s0), (2, .int (fN (dutf C rt s0) i 0))]) hx hb dX4_duty_61 hl (k := 3) rfl rfl (by decide) rfl (fun ls hl => ?_)
        refine lv_goto (tgt := 14) hx hb dX4_duty_64 (by decide) ?_
        exact ihi (i + 1) ls (by show n - (i + 1) < n - i; omega) (by show i + 1 ≤ n; omega) (lv_sub hl [1, 2, 3, 0] (by
          show ([(0, .ref (q 0)), (1, .int s0), (2, .int (fN (dutf C rt s0) i 0)), (3, .int (nI i + 1))] : List (Nat × Value)) = [(0, .ref (q 0)), (1, .int s0), (2, .int (fN (dutf C rt s0) (i + 1) 0)), (3, .int (nI (i + 1)))]
          have e1 : fN (dutf C rt s0) (i + 1) 0 = fN (dutf C rt s0) i 0 := by rw [fN_s]; unfold dutf; simp [c_3]
          rw [e1]
          rw [← nI_1]))
      · skip
        have c_3 := zI_1 c_3
        refine lv_iload_n hx hb dX4_duty_30 rfl (lv_at hl 2 rfl) ?_
        refine lv_aload_n hx hb dX4_duty_31 rfl (lv_at hl 0 rfl) ?_
        refine va_get (D := D) (ci := 4) (v := .ref (q 1)) (C := RX4) (T := TX4) (N := 9) hx hb hts iX4 hown hK hP 0 rfl rfl 0 (by decide) (hts _ (List.mem_of_getElem? (i := 2) rfl)) (fun _ h9 => h9) rfl dX4_duty_32 ?_
        refine lv_iload_n hx hb dX4_duty_35 rfl (lv_at hl 3 rfl) ?_
        refine wa_aldq hx hb hK hP 1 0 rfl rfl i rfl (by omega) (by decide) rfl dX4_duty_36 ?_
        refine va_get (D := D) (ci := 0) (v := .int (c_dr (C i))) (C := RX0) (T := TX0) (N := 8) hx hb hts iX0 hown hK hP (9 + i) (xp_at rfl (by omega)) rfl 1 (by decide) (hts _ (List.mem_of_getElem? (i := 3) rfl)) (fun _ h9 => h9) rfl dX4_duty_37 ?_
        refine lv_aload_n hx hb dX4_duty_40 rfl (lv_at hl 0 rfl) ?_
        refine va_get (D := D) (ci := 4) (v := .ref (q 1)) (C := RX4) (T := TX4) (N := 9) hx hb hts iX4 hown hK hP 0 rfl rfl 0 (by decide) (hts _ (List.mem_of_getElem? (i := 2) rfl)) (fun _ h9 => h9) rfl dX4_duty_41 ?_
        refine lv_iload_n hx hb dX4_duty_44 rfl (lv_at hl 3 rfl) ?_
        refine wa_aldq hx hb hK hP 1 0 rfl rfl i rfl (by omega) (by decide) rfl dX4_duty_45 ?_
        refine va_get (D := D) (ci := 0) (v := .int (c_sg (C i))) (C := RX0) (T := TX0) (N := 8) hx hb hts iX0 hown hK hP (9 + i) (xp_at rfl (by omega)) rfl 2 (by decide) (hts _ (List.mem_of_getElem? (i := 4) rfl)) (fun _ h9 => h9) rfl dX4_duty_46 ?_
        refine lv_imul hx hb dX4_duty_49 ?_
        refine lv_sipush (v := 1000) hx hb dX4_duty_50 (by decide) ?_
        refine lv_idiv hx hb dX4_duty_53 (by decide) ?_
        refine lv_aload_n hx hb dX4_duty_54 rfl (lv_at hl 0 rfl) ?_
        refine va_get (D := D) (ci := 4) (v := .int rt) (C := RX4) (T := TX4) (N := 9) hx hb hts iX4 hown hK hP 0 rfl rfl 7 (by decide) (hts _ (List.mem_of_getElem? (i := 5) rfl)) (fun _ h9 => h9) rfl dX4_duty_55 ?_
        refine lv_imul hx hb dX4_duty_58 ?_
        refine lv_iadd hx hb dX4_duty_59 ?_
        refine lv_istore_n (lv' := [(2, .int ((fN (dutf C rt s0) i 0) + ((((c_dr (C i)) * (c_sg (C i))) / 1000) * rt))), (0, .ref (q 0)), (1, .int s0), (3, .int (nI i))]) hx hb dX4_duty_60 rfl hl (by decide) rfl (fun ls hl => ?_)
        refine lv_iinc (v := (nI i + 1)) (lv' := [(3, .int (nI i + 1)), (2, .int ((fN (dutf C rt s0) i 0) + ((((c_dr (C i)) * (c_sg (C i))) / 1000) * rt))), (0, .ref (q 0)), (1, .int s0)]) hx hb dX4_duty_61 hl (k := 3) rfl rfl (by decide) rfl (fun ls hl => ?_)
        refine lv_goto (tgt := 14) hx hb dX4_duty_64 (by decide) ?_
        exact ihi (i + 1) ls (by show n - (i + 1) < n - i; omega) (by show i + 1 ≤ n; omega) (lv_sub hl [2, 3, 1, 0] (by
          show ([(0, .ref (q 0)), (1, .int s0), (2, .int ((fN (dutf C rt s0) i 0) + ((((c_dr (C i)) * (c_sg (C i))) / 1000) * rt))), (3, .int (nI i + 1))] : List (Nat × Value)) = [(0, .ref (q 0)), (1, .int s0), (2, .int (fN (dutf C rt s0) (i + 1) 0)), (3, .int (nI (i + 1)))]
          have e1 : fN (dutf C rt s0) (i + 1) 0 = ((fN (dutf C rt s0) i 0) + ((((c_dr (C i)) * (c_sg (C i))) / 1000) * rt)) := by rw [fN_s]; unfold dutf; simp [c_3]
          rw [e1]
          rw [← nI_1]))
  · skip
    have c_1 := zI_0 c_1
    refine lv_iconst (v := (-1)) hx hb dX4_duty_8 (by decide) ?_
    exact ro_iret hx hb hr hlocks dX4_duty_9 (by simp [dutyF, c_1])

set_option maxHeartbeats 4000000 in
set_option maxRecDepth 100000 in
theorem kX4_count (l : Launch) (D : va_G) (y : Nat → ClassId) (q : Nat → Nat) (n : Nat) (now rt : Int32) (tr : Int64) (C : Nat → CT) (ah w : Nat → Int32) (mx : MT) (rd ct : Int32) (g h : Nat → Int32) (w0 : Int32) (hn : n ≤ 12) : Met l yX4_count wsX4_count ({ frames := 1, cells := 0, slots := 0, locals := 22 }) (va_Pc [.ref (q 0), .int w0] (rdB D (xT y) (xW y q (nI n) now rt tr C ah w mx rd ct g h))) (vp_Si (fun x => x = (countF n now rd rt C w0))) 0 0 nF := by
  refine ro_start (cc := cX4_count) (maxL := 2) (ret := (some .int)) (by decide) rfl (Nat.le_of_ble_eq_true rfl) ?_
  intro p e s m below meth c ls hx hb hr hml hown hlocks hts hnm hB hl
  obtain ⟨hP, hK, hN⟩ := hB
  have hown : s.vm.findClass RX4 = some m.cls := hown
  have F : CallFix p m c cX4_count 2 s [.ref (q 0), .int w0].toArray wsX4_count RX4 := ⟨hx, hb, hml, hown, hts⟩
  have hl : lv_has ls 2 [(0, .ref (q 0)), (1, .int w0)] := hl
  have iX2 : ∀ w ∈ u_ws RX2 TX2 4, w ∈ wsX4_count := mem_pl [26, 27, 28, 29] rfl
  have iX4 : ∀ w ∈ u_ws RX4 TX4 9, w ∈ wsX4_count := mem_pl [17, 18, 19, 20, 21, 22, 23, 24, 25] rfl
  refine lv_iload_n hx hb dX4_count_0 rfl (lv_at hl 1 rfl) ?_
  by_cases t_1 : w0 = 0
  · skip
    subst t_1
    refine lv_tableIn (off := 39) (tgt := 40) hx hb dX4_count_1 (by decide) (by decide) rfl (by decide) ?_
    refine lv_aload_n hx hb dX4_count_40 rfl (lv_at hl 0 rfl) ?_
    refine va_get (D := D) (ci := 4) (v := .int now) (C := RX4) (T := TX4) (N := 9) hx hb hts iX4 hown hK hP 0 rfl rfl 6 (by decide) (hts _ (List.mem_of_getElem? (i := 1) rfl)) (fun _ h9 => h9) rfl dX4_count_41 ?_
    exact ro_iret hx hb hr hlocks dX4_count_44 (by simp [countF])
  by_cases t_2 : w0 = 1
  · skip
    subst t_2
    refine lv_tableIn (off := 44) (tgt := 45) hx hb dX4_count_1 (by decide) (by decide) rfl (by decide) ?_
    refine lv_aload_n hx hb dX4_count_45 rfl (lv_at hl 0 rfl) ?_
    refine va_get (D := D) (ci := 4) (v := .int (nI n)) (C := RX4) (T := TX4) (N := 9) hx hb hts iX4 hown hK hP 0 rfl rfl 5 (by decide) (hts _ (List.mem_of_getElem? (i := 2) rfl)) (fun _ h9 => h9) rfl dX4_count_46 ?_
    exact ro_iret hx hb hr hlocks dX4_count_49 (by simp [countF])
  by_cases t_3 : w0 = 2
  · skip
    subst t_3
    refine lv_tableIn (off := 49) (tgt := 50) hx hb dX4_count_1 (by decide) (by decide) rfl (by decide) ?_
    refine lv_aload_n hx hb dX4_count_50 rfl (lv_at hl 0 rfl) ?_
    refine ro_i (va_runV (As := []) (rest := []) F (kX4_notEmpty l D y q n now rt tr C ah w mx rd ct g h hn) (cwV 0 hts gX4_count_X4_notEmpty rfl rfl rfl ⟨rfl, hdX4_notEmpty⟩ ⟨(Nat.le_of_ble_eq_true rfl), (Nat.le_of_ble_eq_true rfl)⟩) ⟨rdB_blind, va_recv hK hP (ci := 4) (q0 := 0) rfl rfl, rdB_pre hP hK hN⟩ rfl rfl hl.1 rfl (lv_room (Nat.le_of_ble_eq_true rfl)) dX4_count_51 ⟨Nat.zero_le _, Nat.zero_le _⟩) ?_
    exact ro_iret hx hb hr hlocks dX4_count_54 (by simp [countF])
  by_cases t_4 : w0 = 3
  · skip
    subst t_4
    refine lv_tableIn (off := 54) (tgt := 55) hx hb dX4_count_1 (by decide) (by decide) rfl (by decide) ?_
    refine lv_aload_n hx hb dX4_count_55 rfl (lv_at hl 0 rfl) ?_
    refine va_get (D := D) (ci := 4) (v := .ref (q 6)) (C := RX4) (T := TX4) (N := 9) hx hb hts iX4 hown hK hP 0 rfl rfl 4 (by decide) (hts _ (List.mem_of_getElem? (i := 3) rfl)) (fun _ h9 => h9) rfl dX4_count_56 ?_
    refine va_get (D := D) (ci := 2) (v := .int rd) (C := RX2) (T := TX2) (N := 4) hx hb hts iX2 hown hK hP 6 rfl rfl 2 (by decide) (hts _ (List.mem_of_getElem? (i := 4) rfl)) (fun _ h9 => h9) rfl dX4_count_59 ?_
    exact ro_iret hx hb hr hlocks dX4_count_62 (by simp [countF])
  by_cases t_5 : w0 = 4
  · skip
    subst t_5
    refine lv_tableIn (off := 62) (tgt := 63) hx hb dX4_count_1 (by decide) (by decide) rfl (by decide) ?_
    refine lv_aload_n hx hb dX4_count_63 rfl (lv_at hl 0 rfl) ?_
    refine va_get (D := D) (ci := 4) (v := .int rt) (C := RX4) (T := TX4) (N := 9) hx hb hts iX4 hown hK hP 0 rfl rfl 7 (by decide) (hts _ (List.mem_of_getElem? (i := 5) rfl)) (fun _ h9 => h9) rfl dX4_count_64 ?_
    exact ro_iret hx hb hr hlocks dX4_count_67 (by simp [countF])
  by_cases t_6 : w0 = 5
  · skip
    subst t_6
    refine lv_tableIn (off := 67) (tgt := 68) hx hb dX4_count_1 (by decide) (by decide) rfl (by decide) ?_
    refine lv_aload_n hx hb dX4_count_68 rfl (lv_at hl 0 rfl) ?_
    refine ro_i (va_runV (As := []) (rest := []) F (kX4_allDrops l D y q n now rt tr C ah w mx rd ct g h hn) (cwV 0 hts gX4_count_X4_allDrops rfl rfl rfl ⟨rfl, hdX4_allDrops⟩ ⟨(Nat.le_of_ble_eq_true rfl), (Nat.le_of_ble_eq_true rfl)⟩) ⟨rdB_blind, va_recv hK hP (ci := 4) (q0 := 0) rfl rfl, rdB_pre hP hK hN⟩ rfl rfl hl.1 rfl (lv_room (Nat.le_of_ble_eq_true rfl)) dX4_count_69 ⟨Nat.zero_le _, Nat.zero_le _⟩) ?_
    exact ro_iret hx hb hr hlocks dX4_count_72 (by simp [countF])
  have u_1 : ¬ (w0).toInt = 0 := fun h => t_1 (Int32.toInt_inj.mp h)
  have u_2 : ¬ (w0).toInt = 1 := fun h => t_2 (Int32.toInt_inj.mp h)
  have u_3 : ¬ (w0).toInt = 2 := fun h => t_3 (Int32.toInt_inj.mp h)
  have u_4 : ¬ (w0).toInt = 3 := fun h => t_4 (Int32.toInt_inj.mp h)
  have u_5 : ¬ (w0).toInt = 4 := fun h => t_5 (Int32.toInt_inj.mp h)
  have u_6 : ¬ (w0).toInt = 5 := fun h => t_6 (Int32.toInt_inj.mp h)
  refine lv_tableOut (tgt := 73) hx hb dX4_count_1 (by omega) (by decide) ?_
  refine lv_iconst (v := (-1)) hx hb dX4_count_73 (by decide) ?_
  exact ro_iret hx hb hr hlocks dX4_count_74 (by simp [countF, t_1, t_2, t_3, t_4, t_5, t_6])

set_option maxHeartbeats 4000000 in
set_option maxRecDepth 100000 in
theorem kX4_trace (l : Launch) (D : va_G) (y : Nat → ClassId) (q : Nat → Nat) (n : Nat) (now rt : Int32) (tr : Int64) (C : Nat → CT) (ah w : Nat → Int32) (mx : MT) (rd ct : Int32) (g h : Nat → Int32) : Met l yX4_trace wsX4_trace ({ frames := 0, cells := 0, slots := 0, locals := 0 }) (va_Pc [.ref (q 0)] (rdB D (xT y) (xW y q (nI n) now rt tr C ah w mx rd ct g h))) (vp_Sl (fun x => x = tr)) 0 0 nF := by
  refine ro_start (cc := cX4_trace) (maxL := 1) (ret := (some .long)) (by decide) rfl (Nat.le_of_ble_eq_true rfl) ?_
  intro p e s m below meth c ls hx hb hr hml hown hlocks hts hnm hB hl
  obtain ⟨hP, hK, hN⟩ := hB
  have hown : s.vm.findClass RX4 = some m.cls := hown
  have F : CallFix p m c cX4_trace 1 s [.ref (q 0)].toArray wsX4_trace RX4 := ⟨hx, hb, hml, hown, hts⟩
  have hl : lv_has ls 1 [(0, .ref (q 0))] := hl
  have iX4 : ∀ w ∈ u_ws RX4 TX4 9, w ∈ wsX4_trace := mem_pl [2, 3, 4, 5, 6, 7, 8, 9, 10] rfl
  refine lv_aload_n hx hb dX4_trace_0 rfl (lv_at hl 0 rfl) ?_
  refine va_get (D := D) (ci := 4) (v := .long tr) (C := RX4) (T := TX4) (N := 9) hx hb hts iX4 hown hK hP 0 rfl rfl 8 (by decide) (hts _ (List.mem_of_getElem? (i := 1) rfl)) (fun _ h9 => h9) rfl dX4_trace_1 ?_
  exact ro_lret hx hb hr hlocks dX4_trace_4 rfl

set_option maxHeartbeats 4000000 in
set_option maxRecDepth 100000 in
theorem kX4_contradicts (l : Launch) (D : va_G) (y : Nat → ClassId) (q : Nat → Nat) (n : Nat) (now rt : Int32) (tr : Int64) (C : Nat → CT) (ah w : Nat → Int32) (mx : MT) (rd ct : Int32) (g h : Nat → Int32) : Met l yX4_contradicts wsX4_contradicts ({ frames := 0, cells := 0, slots := 0, locals := 0 }) (va_Pc [.ref (q 0)] (rdB D (xT y) (xW y q (nI n) now rt tr C ah w mx rd ct g h))) (vp_Si (fun x => x = ct)) 0 0 nF := by
  refine ro_start (cc := cX4_contradicts) (maxL := 1) (ret := (some .int)) (by decide) rfl (Nat.le_of_ble_eq_true rfl) ?_
  intro p e s m below meth c ls hx hb hr hml hown hlocks hts hnm hB hl
  obtain ⟨hP, hK, hN⟩ := hB
  have hown : s.vm.findClass RX4 = some m.cls := hown
  have F : CallFix p m c cX4_contradicts 1 s [.ref (q 0)].toArray wsX4_contradicts RX4 := ⟨hx, hb, hml, hown, hts⟩
  have hl : lv_has ls 1 [(0, .ref (q 0))] := hl
  have iX2 : ∀ w ∈ u_ws RX2 TX2 4, w ∈ wsX4_contradicts := mem_pl [12, 13, 14, 15] rfl
  have iX4 : ∀ w ∈ u_ws RX4 TX4 9, w ∈ wsX4_contradicts := mem_pl [3, 4, 5, 6, 7, 8, 9, 10, 11] rfl
  refine lv_aload_n hx hb dX4_contradicts_0 rfl (lv_at hl 0 rfl) ?_
  refine va_get (D := D) (ci := 4) (v := .ref (q 6)) (C := RX4) (T := TX4) (N := 9) hx hb hts iX4 hown hK hP 0 rfl rfl 4 (by decide) (hts _ (List.mem_of_getElem? (i := 1) rfl)) (fun _ h9 => h9) rfl dX4_contradicts_1 ?_
  refine va_get (D := D) (ci := 2) (v := .int ct) (C := RX2) (T := TX2) (N := 4) hx hb hts iX2 hown hK hP 6 rfl rfl 3 (by decide) (hts _ (List.mem_of_getElem? (i := 2) rfl)) (fun _ h9 => h9) rfl dX4_contradicts_4 ?_
  exact ro_iret hx hb hr hlocks dX4_contradicts_7 rfl
end
section
abbrev xHead (y : Nat → ClassId) (q : Nat → Nat) (L now rt : Int32) (tr : Int64) (ah w : Nat → Int32) (mx : MT) : va_W :=
  [(q 0, .inr (4, [.ref (q 1), .ref (q 2), .ref (q 3), .ref (q 5), .ref (q 6), .int L, .int now, .int rt, .long tr])), (q 1, .inl (y 1, 12, .inr (.inr (.inr (.inr (fun i => some (q (9 + i)))))))), (q 2, .inl (y 2, 12, .inl ah)), (q 3, .inr (3, [.ref (q 4)])), (q 4, .inl (y 4, 8, .inl w)), (q 5, mxE mx)]
def jG (g : Nat → Int32) (f t : Int32) (i : Nat) : Nat → Int32 := fun k => if k < i ∧ g k = f then t else g k
def jH (g h : Nat → Int32) (f x : Int32) (i : Nat) : Nat → Int32 := fun k => if k < i ∧ g k = f then h k - x else h k
def rG (g : Nat → Int32) (i : Nat) : Nat → Int32 := fun k => if k < i then nI k else g k
def rH (h : Nat → Int32) (i : Nat) : Nat → Int32 := fun k => if k < i then 0 else h k
theorem jG_0 (g : Nat → Int32) (f t : Int32) : jG g f t 0 = g := by funext k; simp [jG]
theorem jH_0 (g h : Nat → Int32) (f x : Int32) : jH g h f x 0 = h := by funext k; simp [jH]
theorem rG_0 (g : Nat → Int32) : rG g 0 = g := by funext k; simp [rG]
theorem rH_0 (g : Nat → Int32) : rH g 0 = g := by funext k; simp [rH]
theorem jG_i (g : Nat → Int32) (f t : Int32) (i : Nat) : jG g f t i i = g i := by simp [jG]
theorem jH_i (g h : Nat → Int32) (f x : Int32) (i : Nat) : jH g h f x i i = h i := by simp [jH]
theorem upd_ap (f : Nat → Int32) (i k : Nat) (x : Int32) : upd f i x k = if k = i then x else f k := rfl
theorem jG_t {g : Nat → Int32} {f t : Int32} {i : Nat} (c : g i = f) : upd (jG g f t i) i t = jG g f t (i + 1) := by
  funext k
  rw [upd_ap]
  by_cases h : k = i
  · subst h; simp [jG, c]
  · have : k < i + 1 ↔ k < i := by omega
    simp [jG, h, this]
theorem jH_t {g h : Nat → Int32} {f x : Int32} {i : Nat} (c : g i = f) : upd (jH g h f x i) i (jH g h f x i i - x) = jH g h f x (i + 1) := by
  funext k
  rw [upd_ap]
  by_cases hk : k = i
  · subst hk; simp [jH, c]
  · have : k < i + 1 ↔ k < i := by omega
    simp [jH, hk, this]
theorem jG_n {g : Nat → Int32} {f t : Int32} {i : Nat} (c : ¬ g i = f) : jG g f t i = jG g f t (i + 1) := by
  funext k
  by_cases h : k = i
  · subst h; simp [jG, c]
  · have : k < i + 1 ↔ k < i := by omega
    simp [jG, this]
theorem jH_n {g h : Nat → Int32} {f x : Int32} {i : Nat} (c : ¬ g i = f) : jH g h f x i = jH g h f x (i + 1) := by
  funext k
  by_cases hk : k = i
  · subst hk; simp [jH, c]
  · have : k < i + 1 ↔ k < i := by omega
    simp [jH, this]
theorem rG_t (g : Nat → Int32) (i : Nat) : upd (rG g i) i (nI i) = rG g (i + 1) := by
  funext k
  rw [upd_ap]
  by_cases h : k = i
  · subst h; simp [rG]
  · have : k < i + 1 ↔ k < i := by omega
    simp [rG, h, this]
theorem rH_t (g : Nat → Int32) (i : Nat) : upd (rH g i) i 0 = rH g (i + 1) := by
  funext k
  rw [upd_ap]
  by_cases h : k = i
  · subst h; simp [rH]
  · have : k < i + 1 ↔ k < i := by omega
    simp [rH, h, this]
def fitF (rd ct : Int32) (g h : Nat → Int32) (a b : Nat) (v : Int32) : Int32 × (Nat → Int32) × (Nat → Int32) := if g a = g b then (if h a - h b - v = 0 then (ct, g, h) else (rd, g, h)) else (ct, jG g (g a) (g b) 16, jH g h (g a) (h a - h b - v) 16)
def takeF (rd ct : Int32) (g h : Nat → Int32) (a b : Nat) (v : Int32) : Int32 × (Nat → Int32) × (Nat → Int32) := if ct = -9 then fitF rd ct g h a (6 + b) v else (ct, g, h)
def readF (rd ct : Int32) (g h : Nat → Int32) (a b v : Int32) : Int32 × Int32 × Int32 × (Nat → Int32) × (Nat → Int32) := if inR a 0 5 = true ∧ inR b 0 9 = true ∧ inR v 0 99 = true then (if rd < 30 then (rd + 1, rd + 1, takeF rd ct g h a.toNatClampNeg b.toNatClampNeg v) else (-3, rd, ct, g, h)) else (-1, rd, ct, g, h)

set_option maxHeartbeats 4000000 in
set_option maxRecDepth 100000 in
theorem kX2_ties (l : Launch) (D : va_G) (y : Nat → ClassId) (q : Nat → Nat) (rd ct : Int32) (g h : Nat → Int32) (a : Nat) (b : Nat) (ha : a < 16) (hb2 : b < 16) : Met l yX2_ties wsX2_ties ({ frames := 0, cells := 0, slots := 0, locals := 0 }) (va_Pc [.ref (q 6), .int (nI a), .int (nI b)] (rdB D (sT y) (sW y q rd ct g h))) (vp_Si (fun x => x = (zI (decide (g a = g b))))) 0 0 nF := by
  refine ro_start (cc := cX2_ties) (maxL := 3) (ret := (some .boolean)) (by decide) rfl (Nat.le_of_ble_eq_true rfl) ?_
  intro p e s m below meth c ls hx hb hr hml hown hlocks hts hnm hB hl
  obtain ⟨hP, hK, hN⟩ := hB
  have hown : s.vm.findClass RX2 = some m.cls := hown
  have F : CallFix p m c cX2_ties 3 s [.ref (q 6), .int (nI a), .int (nI b)].toArray wsX2_ties RX2 := ⟨hx, hb, hml, hown, hts⟩
  have hl : lv_has ls 3 [(0, .ref (q 6)), (1, .int (nI a)), (2, .int (nI b))] := hl
  have iX2 : ∀ w ∈ u_ws RX2 TX2 4, w ∈ wsX2_ties := mem_pl [2, 3, 4, 5] rfl
  refine lv_aload_n hx hb dX2_ties_0 rfl (lv_at hl 0 rfl) ?_
  refine va_get (D := D) (ci := 2) (v := .ref (q 7)) (C := RX2) (T := TX2) (N := 4) hx hb hts iX2 hown hK hP 0 rfl rfl 0 (by decide) (hts _ (List.mem_of_getElem? (i := 1) rfl)) (fun _ h9 => h9) rfl dX2_ties_1 ?_
  refine lv_iload_n hx hb dX2_ties_4 rfl (lv_at hl 1 rfl) ?_
  refine wa_iald hx hb hK hP 1 0 rfl rfl a rfl (by omega) (by decide) dX2_ties_5 ?_
  refine lv_aload_n hx hb dX2_ties_6 rfl (lv_at hl 0 rfl) ?_
  refine va_get (D := D) (ci := 2) (v := .ref (q 7)) (C := RX2) (T := TX2) (N := 4) hx hb hts iX2 hown hK hP 0 rfl rfl 0 (by decide) (hts _ (List.mem_of_getElem? (i := 1) rfl)) (fun _ h9 => h9) rfl dX2_ties_7 ?_
  refine lv_iload_n hx hb dX2_ties_10 rfl (lv_at hl 2 rfl) ?_
  refine wa_iald hx hb hK hP 1 0 rfl rfl b rfl (by omega) (by decide) dX2_ties_11 ?_
  refine lv_icmp_ne (tgt := 19) hx hb dX2_ties_12 (by decide) (fun c_1 => ?_) (fun c_1 => ?_)
  · skip
    refine lv_iconst (v := 0) hx hb dX2_ties_19 (by decide) ?_
    exact ro_zret hx hb hr hlocks rfl dX2_ties_20 (by simp [zI, c_1])
  · skip
    refine lv_iconst (v := 1) hx hb dX2_ties_15 (by decide) ?_
    refine lv_goto (tgt := 20) hx hb dX2_ties_16 (by decide) ?_
    exact ro_zret hx hb hr hlocks rfl dX2_ties_20 (by simp [zI, c_1])

set_option maxHeartbeats 4000000 in
set_option maxRecDepth 100000 in
theorem kX2_reset (l : Launch) (D : va_G) (y : Nat → ClassId) (q : Nat → Nat) (rd ct : Int32) (g h : Nat → Int32) (sz : Nat) : Met l yX2_reset wsX2_reset ({ frames := 0, cells := 0, slots := 0, locals := 0 }) (va_Pc [.ref (q 6)] (muB D (sT y) (sW y q rd ct g h) sz eT)) (QV (σ := Unit) D (fun u => True) (fun u => (sW y q 0 (-9) (rG g 16) (rH h 16))) (va_A (sW y q rd ct g h) sz)) 0 0 (va_A (sW y q rd ct g h) sz) := by
  refine mu_start (Qc := QV (σ := Unit) D (fun u => True) (fun u => (sW y q 0 (-9) (rG g 16) (rH h 16)))) (cc := cX2_reset) (maxL := 2) (ret := none) (by decide) rfl (Nat.le_of_ble_eq_true rfl) ?_
  intro p e s m below meth c ls A hx hb hr hml hown hlocks hts hnm hA hP hK hN hD hE hAA hsz hl
  have hS : va_S A s.heap s.heap [] := va_S.rf
  have hown : s.vm.findClass RX2 = some m.cls := hown
  have F : CallFix p m c cX2_reset 2 s [.ref (q 6)].toArray wsX2_reset RX2 := ⟨hx, hb, hml, hown, hts⟩
  have hl : lv_has ls 2 [(0, .ref (q 6))] := hl
  have iX2 : ∀ w ∈ u_ws RX2 TX2 4, w ∈ wsX2_reset := mem_pl [5, 6, 7, 8] rfl
  refine lv_iconst (v := 0) hx hb dX2_reset_0 (by decide) ?_
  refine lv_istore_n (lv' := [(1, .int 0), (0, .ref (q 6))]) hx hb dX2_reset_1 rfl hl (by decide) rfl (fun ls hl => ?_)
  refine W.lpW (pc := 2) (τ := Nat) (D := D) (A := A) (H0 := s.heap) (cl := vwCl) (fun i => i ≤ 16) (fun i => (sW y q rd ct (rG g i) (rH h i))) (fun i ls => lv_has ls 2 [(0, .ref (q 6)), (1, .int (nI i))]) (fun i => 16 - i) ?_ 0 ls (Nat.zero_le _) (lv_sub hl [1, 0] rfl) (by show va_P D vwCl (sW y q rd ct (rG g 0) (rH h 0)) _; rw [rG_0, rH_0]; exact hP) (by show va_D A (sW y q rd ct (rG g 0) (rH h 0)); rw [rG_0, rH_0]; exact hD) hS
  intro i ls H locs hi hl hP hD hS ihi
  have hi : i ≤ 16 := hi
  have hl : lv_has ls 2 [(0, .ref (q 6)), (1, .int (nI i))] := hl
  have hP : va_P D vwCl (sW y q rd ct (rG g i) (rH h i)) H := hP
  have hD : va_D A (sW y q rd ct (rG g i) (rH h i)) := hD
  refine lv_iload_n hx hb dX2_reset_2 rfl (lv_at hl 1 rfl) ?_
  refine lv_bipush (v := 16) hx hb dX2_reset_3 (by decide) ?_
  refine lv_icmp_ge (tgt := 28) hx hb dX2_reset_5 (by decide) (fun c_1 => ?_) (fun c_1 => ?_)
  · skip
    have c_1 : 16 ≤ i := (nI_leI (a := 16) (b := i) (by omega) (by omega)).mp c_1
    have hin : i = 16 := Nat.le_antisymm hi c_1
    rw [hin] at hP hD
    refine lv_aload_n hx hb dX2_reset_28 rfl (lv_at hl 0 rfl) ?_
    refine lv_iconst (v := 0) hx hb dX2_reset_29 (by decide) ?_
    refine va_put (D := D) (ci := 2) (v := .int 0) (ty := .int) (C := RX2) (T := TX2) (N := 4) hx hb hts iX2 tyX2 tyX2_ok nmX2 hown hK hP hD hS 0 rfl rfl 2 (by decide) (hts _ (List.mem_of_getElem? (i := 3) rfl)) (fun _ h9 => h9) rfl (by decide +kernel) rfl rfl (Nat.le_of_ble_eq_true rfl) dX2_reset_30 (fun H locs hP hD hS => ?_)
    have hP : va_P D vwCl (sW y q 0 ct (rG g 16) (rH h 16)) H := hP
    have hD : va_D A (sW y q 0 ct (rG g 16) (rH h 16)) := hD
    refine lv_aload_n hx hb dX2_reset_33 rfl (lv_at hl 0 rfl) ?_
    refine lv_bipush (v := (-9)) hx hb dX2_reset_34 (by decide) ?_
    refine va_put (D := D) (ci := 2) (v := .int (-9)) (ty := .int) (C := RX2) (T := TX2) (N := 4) hx hb hts iX2 tyX2 tyX2_ok nmX2 hown hK hP hD hS 0 rfl rfl 3 (by decide) (hts _ (List.mem_of_getElem? (i := 4) rfl)) (fun _ h9 => h9) rfl (by decide +kernel) rfl rfl (Nat.le_of_ble_eq_true rfl) dX2_reset_36 (fun H locs hP hD hS => ?_)
    have hP : va_P D vwCl (sW y q 0 (-9) (rG g 16) (rH h 16)) H := hP
    have hD : va_D A (sW y q 0 (-9) (rG g 16) (rH h 16)) := hD
    exact mu_vret () hx hb hr hlocks hP hD hS dX2_reset_39 trivial
  · skip
    have c_1 : ¬ 16 ≤ i := fun h => c_1 ((nI_leI (a := 16) (b := i) (by omega) (by omega)).mpr h)
    refine lv_aload_n hx hb dX2_reset_8 rfl (lv_at hl 0 rfl) ?_
    refine va_get (D := D) (ci := 2) (v := .ref (q 7)) (C := RX2) (T := TX2) (N := 4) hx hb hts iX2 hown hK hP 0 rfl rfl 0 (by decide) (hts _ (List.mem_of_getElem? (i := 1) rfl)) (fun _ h9 => h9) rfl dX2_reset_9 ?_
    refine lv_iload_n hx hb dX2_reset_12 rfl (lv_at hl 1 rfl) ?_
    refine lv_iload_n hx hb dX2_reset_13 rfl (lv_at hl 1 rfl) ?_
    refine wa_iast (v := nI i) hx hb hK hP hD hS 1 0 rfl rfl i rfl (by omega) (by decide) dX2_reset_14 (fun H locs hP hD hS => ?_)
    have hP : va_P D vwCl (sW y q rd ct (upd (rG g i) i (nI i)) (rH h i)) H := hP
    have hD : va_D A (sW y q rd ct (upd (rG g i) i (nI i)) (rH h i)) := hD
    refine lv_aload_n hx hb dX2_reset_15 rfl (lv_at hl 0 rfl) ?_
    refine va_get (D := D) (ci := 2) (v := .ref (q 8)) (C := RX2) (T := TX2) (N := 4) hx hb hts iX2 hown hK hP 0 rfl rfl 1 (by decide) (hts _ (List.mem_of_getElem? (i := 2) rfl)) (fun _ h9 => h9) rfl dX2_reset_16 ?_
    refine lv_iload_n hx hb dX2_reset_19 rfl (lv_at hl 1 rfl) ?_
    refine lv_iconst (v := 0) hx hb dX2_reset_20 (by decide) ?_
    refine wa_iast (v := 0) hx hb hK hP hD hS 2 1 rfl rfl i rfl (by omega) (by decide) dX2_reset_21 (fun H locs hP hD hS => ?_)
    have hP : va_P D vwCl (sW y q rd ct (upd (rG g i) i (nI i)) (upd (rH h i) i 0)) H := hP
    have hD : va_D A (sW y q rd ct (upd (rG g i) i (nI i)) (upd (rH h i) i 0)) := hD
    refine lv_iinc (v := (nI i + 1)) (lv' := [(1, .int (nI i + 1)), (0, .ref (q 6))]) hx hb dX2_reset_22 hl (k := 1) rfl rfl (by decide) rfl (fun ls hl => ?_)
    refine lv_goto (tgt := 2) hx hb dX2_reset_25 (by decide) ?_
    rw [rG_t, rH_t] at hP hD
    have hP : va_P D vwCl (sW y q rd ct (rG g (i + 1)) (rH h (i + 1))) H := hP
    have hD : va_D A (sW y q rd ct (rG g (i + 1)) (rH h (i + 1))) := hD
    exact ihi (i + 1) ls H locs (by show 16 - (i + 1) < 16 - i; omega) (by show i + 1 ≤ 16; omega) (lv_sub hl [1, 0] (by
      show ([(0, .ref (q 6)), (1, .int (nI i + 1))] : List (Nat × Value)) = [(0, .ref (q 6)), (1, .int (nI (i + 1)))]
      rw [← nI_1])) hP hD hS

set_option maxHeartbeats 4000000 in
set_option maxRecDepth 100000 in
theorem kX2_join (l : Launch) (D : va_G) (y : Nat → ClassId) (q : Nat → Nat) (rd ct : Int32) (g h : Nat → Int32) (f0 : Int32) (t0 : Int32) (x0 : Int32) (sz : Nat) : Met l yX2_join wsX2_join ({ frames := 0, cells := 0, slots := 0, locals := 0 }) (va_Pc [.ref (q 6), .int f0, .int t0, .int x0] (muB D (sT y) (sW y q rd ct g h) sz eT)) (QV (σ := Unit) D (fun u => True) (fun u => (sW y q rd ct (jG g f0 t0 16) (jH g h f0 x0 16))) (va_A (sW y q rd ct g h) sz)) 0 0 (va_A (sW y q rd ct g h) sz) := by
  refine mu_start (Qc := QV (σ := Unit) D (fun u => True) (fun u => (sW y q rd ct (jG g f0 t0 16) (jH g h f0 x0 16)))) (cc := cX2_join) (maxL := 5) (ret := none) (by decide) rfl (Nat.le_of_ble_eq_true rfl) ?_
  intro p e s m below meth c ls A hx hb hr hml hown hlocks hts hnm hA hP hK hN hD hE hAA hsz hl
  have hS : va_S A s.heap s.heap [] := va_S.rf
  have hown : s.vm.findClass RX2 = some m.cls := hown
  have F : CallFix p m c cX2_join 5 s [.ref (q 6), .int f0, .int t0, .int x0].toArray wsX2_join RX2 := ⟨hx, hb, hml, hown, hts⟩
  have hl : lv_has ls 5 [(0, .ref (q 6)), (1, .int f0), (2, .int t0), (3, .int x0)] := hl
  have iX2 : ∀ w ∈ u_ws RX2 TX2 4, w ∈ wsX2_join := mem_pl [3, 4, 5, 6] rfl
  refine lv_iconst (v := 0) hx hb dX2_join_0 (by decide) ?_
  refine lv_istore (lv' := [(4, .int 0), (0, .ref (q 6)), (1, .int f0), (2, .int t0), (3, .int x0)]) hx hb dX2_join_1 hl (by decide) rfl (fun ls hl => ?_)
  refine W.lpW (pc := 3) (τ := Nat) (D := D) (A := A) (H0 := s.heap) (cl := vwCl) (fun i => i ≤ 16) (fun i => (sW y q rd ct (jG g f0 t0 i) (jH g h f0 x0 i))) (fun i ls => lv_has ls 5 [(0, .ref (q 6)), (1, .int f0), (2, .int t0), (3, .int x0), (4, .int (nI i))]) (fun i => 16 - i) ?_ 0 ls (Nat.zero_le _) (lv_sub hl [1, 2, 3, 4, 0] rfl) (by show va_P D vwCl (sW y q rd ct (jG g f0 t0 0) (jH g h f0 x0 0)) _; rw [jG_0, jH_0]; exact hP) (by show va_D A (sW y q rd ct (jG g f0 t0 0) (jH g h f0 x0 0)); rw [jG_0, jH_0]; exact hD) hS
  intro i ls H locs hi hl hP hD hS ihi
  have hi : i ≤ 16 := hi
  have hl : lv_has ls 5 [(0, .ref (q 6)), (1, .int f0), (2, .int t0), (3, .int x0), (4, .int (nI i))] := hl
  have hP : va_P D vwCl (sW y q rd ct (jG g f0 t0 i) (jH g h f0 x0 i)) H := hP
  have hD : va_D A (sW y q rd ct (jG g f0 t0 i) (jH g h f0 x0 i)) := hD
  refine lv_iload hx hb dX2_join_3 (lv_at hl 4 rfl) ?_
  refine lv_bipush (v := 16) hx hb dX2_join_5 (by decide) ?_
  refine lv_icmp_ge (tgt := 46) hx hb dX2_join_7 (by decide) (fun c_1 => ?_) (fun c_1 => ?_)
  · skip
    have c_1 : 16 ≤ i := (nI_leI (a := 16) (b := i) (by omega) (by omega)).mp c_1
    have hin : i = 16 := Nat.le_antisymm hi c_1
    rw [hin] at hP hD
    exact mu_vret () hx hb hr hlocks hP hD hS dX2_join_46 trivial
  · skip
    have c_1 : ¬ 16 ≤ i := fun h => c_1 ((nI_leI (a := 16) (b := i) (by omega) (by omega)).mpr h)
    refine lv_aload_n hx hb dX2_join_10 rfl (lv_at hl 0 rfl) ?_
    refine va_get (D := D) (ci := 2) (v := .ref (q 7)) (C := RX2) (T := TX2) (N := 4) hx hb hts iX2 hown hK hP 0 rfl rfl 0 (by decide) (hts _ (List.mem_of_getElem? (i := 1) rfl)) (fun _ h9 => h9) rfl dX2_join_11 ?_
    refine lv_iload hx hb dX2_join_14 (lv_at hl 4 rfl) ?_
    refine wa_iald hx hb hK hP 1 0 rfl rfl i rfl (by omega) (by decide) dX2_join_16 ?_
    refine lv_iload_n hx hb dX2_join_17 rfl (lv_at hl 1 rfl) ?_
    refine lv_icmp_ne (tgt := 40) hx hb dX2_join_18 (by decide) (fun c_2 => ?_) (fun c_2 => ?_)
    · skip
      refine lv_iinc (v := (nI i + 1)) (lv' := [(4, .int (nI i + 1)), (0, .ref (q 6)), (1, .int f0), (2, .int t0), (3, .int x0)]) hx hb dX2_join_40 hl (k := 4) rfl rfl (by decide) rfl (fun ls hl => ?_)
      refine lv_goto (tgt := 3) hx hb dX2_join_43 (by decide) ?_
      rw [jG_i] at c_2
      rw [jG_n c_2, jH_n c_2] at hP hD
      have hP : va_P D vwCl (sW y q rd ct (jG g f0 t0 (i + 1)) (jH g h f0 x0 (i + 1))) H := hP
      have hD : va_D A (sW y q rd ct (jG g f0 t0 (i + 1)) (jH g h f0 x0 (i + 1))) := hD
      exact ihi (i + 1) ls H locs (by show 16 - (i + 1) < 16 - i; omega) (by show i + 1 ≤ 16; omega) (lv_sub hl [1, 2, 3, 4, 0] (by
        show ([(0, .ref (q 6)), (1, .int f0), (2, .int t0), (3, .int x0), (4, .int (nI i + 1))] : List (Nat × Value)) = [(0, .ref (q 6)), (1, .int f0), (2, .int t0), (3, .int x0), (4, .int (nI (i + 1)))]
        rw [← nI_1])) hP hD hS
    · skip
      refine lv_aload_n hx hb dX2_join_21 rfl (lv_at hl 0 rfl) ?_
      refine va_get (D := D) (ci := 2) (v := .ref (q 7)) (C := RX2) (T := TX2) (N := 4) hx hb hts iX2 hown hK hP 0 rfl rfl 0 (by decide) (hts _ (List.mem_of_getElem? (i := 1) rfl)) (fun _ h9 => h9) rfl dX2_join_22 ?_
      refine lv_iload hx hb dX2_join_25 (lv_at hl 4 rfl) ?_
      refine lv_iload_n hx hb dX2_join_27 rfl (lv_at hl 2 rfl) ?_
      refine wa_iast (v := t0) hx hb hK hP hD hS 1 0 rfl rfl i rfl (by omega) (by decide) dX2_join_28 (fun H locs hP hD hS => ?_)
      have hP : va_P D vwCl (sW y q rd ct (upd (jG g f0 t0 i) i t0) (jH g h f0 x0 i)) H := hP
      have hD : va_D A (sW y q rd ct (upd (jG g f0 t0 i) i t0) (jH g h f0 x0 i)) := hD
      refine lv_aload_n hx hb dX2_join_29 rfl (lv_at hl 0 rfl) ?_
      refine va_get (D := D) (ci := 2) (v := .ref (q 8)) (C := RX2) (T := TX2) (N := 4) hx hb hts iX2 hown hK hP 0 rfl rfl 1 (by decide) (hts _ (List.mem_of_getElem? (i := 2) rfl)) (fun _ h9 => h9) rfl dX2_join_30 ?_
      refine lv_iload hx hb dX2_join_33 (lv_at hl 4 rfl) ?_
      refine lv_dup2_11 hx hb dX2_join_35 rfl rfl ?_
      refine wa_iald hx hb hK hP 2 1 rfl rfl i rfl (by omega) (by decide) dX2_join_36 ?_
      refine lv_iload_n hx hb dX2_join_37 rfl (lv_at hl 3 rfl) ?_
      refine lv_isub hx hb dX2_join_38 ?_
      refine wa_iast (v := (((jH g h f0 x0 i) i) - x0)) hx hb hK hP hD hS 2 1 rfl rfl i rfl (by omega) (by decide) dX2_join_39 (fun H locs hP hD hS => ?_)
      have hP : va_P D vwCl (sW y q rd ct (upd (jG g f0 t0 i) i t0) (upd (jH g h f0 x0 i) i (((jH g h f0 x0 i) i) - x0))) H := hP
      have hD : va_D A (sW y q rd ct (upd (jG g f0 t0 i) i t0) (upd (jH g h f0 x0 i) i (((jH g h f0 x0 i) i) - x0))) := hD
      refine lv_iinc (v := (nI i + 1)) (lv' := [(4, .int (nI i + 1)), (0, .ref (q 6)), (1, .int f0), (2, .int t0), (3, .int x0)]) hx hb dX2_join_40 hl (k := 4) rfl rfl (by decide) rfl (fun ls hl => ?_)
      refine lv_goto (tgt := 3) hx hb dX2_join_43 (by decide) ?_
      rw [jG_i] at c_2
      rw [jG_t c_2, jH_t c_2] at hP hD
      have hP : va_P D vwCl (sW y q rd ct (jG g f0 t0 (i + 1)) (jH g h f0 x0 (i + 1))) H := hP
      have hD : va_D A (sW y q rd ct (jG g f0 t0 (i + 1)) (jH g h f0 x0 (i + 1))) := hD
      exact ihi (i + 1) ls H locs (by show 16 - (i + 1) < 16 - i; omega) (by show i + 1 ≤ 16; omega) (lv_sub hl [1, 2, 3, 4, 0] (by
        show ([(0, .ref (q 6)), (1, .int f0), (2, .int t0), (3, .int x0), (4, .int (nI i + 1))] : List (Nat × Value)) = [(0, .ref (q 6)), (1, .int f0), (2, .int t0), (3, .int x0), (4, .int (nI (i + 1)))]
        rw [← nI_1])) hP hD hS

set_option maxHeartbeats 4000000 in
set_option maxRecDepth 100000 in
theorem kX2_fit (l : Launch) (D : va_G) (y : Nat → ClassId) (q : Nat → Nat) (rd ct : Int32) (g h : Nat → Int32) (a : Nat) (b : Nat) (v0 : Int32) (sz : Nat) (ha : a < 16) (hb2 : b < 16) : Met l yX2_fit wsX2_fit ({ frames := 1, cells := 0, slots := 0, locals := 24 }) (va_Pc [.ref (q 6), .int (nI a), .int (nI b), .int v0] (muB D (sT y) (sW y q rd ct g h) sz eT)) (QV (σ := Int32 × (Nat → Int32) × (Nat → Int32)) D (fun u => u = fitF rd ct g h a b v0) (fun u => (sW y q rd u.1 u.2.1 u.2.2)) (va_A (sW y q rd ct g h) sz)) 0 0 (va_A (sW y q rd ct g h) sz) := by
  refine mu_start (Qc := QV (σ := Int32 × (Nat → Int32) × (Nat → Int32)) D (fun u => u = fitF rd ct g h a b v0) (fun u => (sW y q rd u.1 u.2.1 u.2.2))) (cc := cX2_fit) (maxL := 5) (ret := none) (by decide) rfl (Nat.le_of_ble_eq_true rfl) ?_
  intro p e s m below meth c ls A hx hb hr hml hown hlocks hts hnm hA hP hK hN hD hE hAA hsz hl
  have hS : va_S A s.heap s.heap [] := va_S.rf
  have hown : s.vm.findClass RX2 = some m.cls := hown
  have F : CallFix p m c cX2_fit 5 s [.ref (q 6), .int (nI a), .int (nI b), .int v0].toArray wsX2_fit RX2 := ⟨hx, hb, hml, hown, hts⟩
  have hl : lv_has ls 5 [(0, .ref (q 6)), (1, .int (nI a)), (2, .int (nI b)), (3, .int v0)] := hl
  have iX2 : ∀ w ∈ u_ws RX2 TX2 4, w ∈ wsX2_fit := mem_pl [14, 15, 16, 17] rfl
  refine lv_aload_n hx hb dX2_fit_0 rfl (lv_at hl 0 rfl) ?_
  refine va_get (D := D) (ci := 2) (v := .ref (q 8)) (C := RX2) (T := TX2) (N := 4) hx hb hts iX2 hown hK hP 0 rfl rfl 1 (by decide) (hts _ (List.mem_of_getElem? (i := 1) rfl)) (fun _ h9 => h9) rfl dX2_fit_1 ?_
  refine lv_iload_n hx hb dX2_fit_4 rfl (lv_at hl 1 rfl) ?_
  refine wa_iald hx hb hK hP 2 1 rfl rfl a rfl (by omega) (by decide) dX2_fit_5 ?_
  refine lv_aload_n hx hb dX2_fit_6 rfl (lv_at hl 0 rfl) ?_
  refine va_get (D := D) (ci := 2) (v := .ref (q 8)) (C := RX2) (T := TX2) (N := 4) hx hb hts iX2 hown hK hP 0 rfl rfl 1 (by decide) (hts _ (List.mem_of_getElem? (i := 1) rfl)) (fun _ h9 => h9) rfl dX2_fit_7 ?_
  refine lv_iload_n hx hb dX2_fit_10 rfl (lv_at hl 2 rfl) ?_
  refine wa_iald hx hb hK hP 2 1 rfl rfl b rfl (by omega) (by decide) dX2_fit_11 ?_
  refine lv_isub hx hb dX2_fit_12 ?_
  refine lv_iload_n hx hb dX2_fit_13 rfl (lv_at hl 3 rfl) ?_
  refine lv_isub hx hb dX2_fit_14 ?_
  refine lv_istore (lv' := [(4, .int (((h a) - (h b)) - v0)), (0, .ref (q 6)), (1, .int (nI a)), (2, .int (nI b)), (3, .int v0)]) hx hb dX2_fit_15 hl (by decide) rfl (fun ls hl => ?_)
  refine lv_aload_n hx hb dX2_fit_17 rfl (lv_at hl 1 rfl) ?_
  refine lv_iload_n hx hb dX2_fit_18 rfl (lv_at hl 2 rfl) ?_
  refine lv_iload_n hx hb dX2_fit_19 rfl (lv_at hl 3 rfl) ?_
  refine ro_i (va_runV (As := [.int (nI a), .int (nI b)]) (rest := []) F (kX2_ties l D y q rd ct g h a b (by omega) (by omega)) (cwV 2 hts gX2_fit_X2_ties rfl rfl rfl ⟨rfl, hdX2_ties⟩ ⟨(Nat.le_of_ble_eq_true rfl), (Nat.le_of_ble_eq_true rfl)⟩) ⟨rdB_blind, va_recv hK hP (ci := 2) (q0 := 0) rfl rfl, rdB_pre hP hK hN⟩ rfl rfl hl.1 rfl (lv_room (Nat.le_of_ble_eq_true rfl)) dX2_fit_20 ⟨Nat.zero_le _, Nat.zero_le _⟩) ?_
  refine lv_if_ne (tgt := 47) hx hb dX2_fit_23 (by decide) (fun c_1 => ?_) (fun c_1 => ?_)
  · skip
    have c_1 := zI_1 c_1
    refine lv_iload hx hb dX2_fit_47 (lv_at hl 0 rfl) ?_
    refine lv_if_eq (tgt := 60) hx hb dX2_fit_49 (by decide) (fun c_2 => ?_) (fun c_2 => ?_)
    · skip
      exact mu_vret (ct, g, h) hx hb hr hlocks hP hD hS dX2_fit_60 (by have := c_1; simp_all [fitF])
    · skip
      refine lv_aload_n hx hb dX2_fit_52 rfl (lv_at hl 1 rfl) ?_
      refine lv_aload_n hx hb dX2_fit_53 rfl (lv_at hl 1 rfl) ?_
      refine va_get (D := D) (ci := 2) (v := .int rd) (C := RX2) (T := TX2) (N := 4) hx hb hts iX2 hown hK hP 0 rfl rfl 2 (by decide) (hts _ (List.mem_of_getElem? (i := 3) rfl)) (fun _ h9 => h9) rfl dX2_fit_54 ?_
      refine va_put (D := D) (ci := 2) (v := .int rd) (ty := .int) (C := RX2) (T := TX2) (N := 4) hx hb hts iX2 tyX2 tyX2_ok nmX2 hown hK hP hD hS 0 rfl rfl 3 (by decide) (hts _ (List.mem_of_getElem? (i := 4) rfl)) (fun _ h9 => h9) rfl (by decide +kernel) rfl rfl (Nat.le_of_ble_eq_true rfl) dX2_fit_57 (fun H locs hP hD hS => ?_)
      have hP : va_P D vwCl (sW y q rd rd g h) H := hP
      have hD : va_D A (sW y q rd rd g h) := hD
      exact mu_vret (rd, g, h) hx hb hr hlocks hP hD hS dX2_fit_60 (by have := c_1; simp_all [fitF])
  · skip
    have c_1 := zI_0 c_1
    refine lv_aload_n hx hb dX2_fit_26 rfl (lv_at hl 1 rfl) ?_
    refine lv_aload_n hx hb dX2_fit_27 rfl (lv_at hl 1 rfl) ?_
    refine va_get (D := D) (ci := 2) (v := .ref (q 7)) (C := RX2) (T := TX2) (N := 4) hx hb hts iX2 hown hK hP 0 rfl rfl 0 (by decide) (hts _ (List.mem_of_getElem? (i := 2) rfl)) (fun _ h9 => h9) rfl dX2_fit_28 ?_
    refine lv_iload_n hx hb dX2_fit_31 rfl (lv_at hl 2 rfl) ?_
    refine wa_iald hx hb hK hP 1 0 rfl rfl a rfl (by omega) (by decide) dX2_fit_32 ?_
    refine lv_aload_n hx hb dX2_fit_33 rfl (lv_at hl 1 rfl) ?_
    refine va_get (D := D) (ci := 2) (v := .ref (q 7)) (C := RX2) (T := TX2) (N := 4) hx hb hts iX2 hown hK hP 0 rfl rfl 0 (by decide) (hts _ (List.mem_of_getElem? (i := 2) rfl)) (fun _ h9 => h9) rfl dX2_fit_34 ?_
    refine lv_iload_n hx hb dX2_fit_37 rfl (lv_at hl 3 rfl) ?_
    refine wa_iald hx hb hK hP 1 0 rfl rfl b rfl (by omega) (by decide) dX2_fit_38 ?_
    refine lv_iload hx hb dX2_fit_39 (lv_at hl 0 rfl) ?_
    refine muF_v (va_runV (As := [.int (g a), .int (g b), .int (((h a) - (h b)) - v0)]) (rest := []) F (kX2_join l D y q rd ct g h (g a) (g b) (((h a) - (h b)) - v0) _) (cwV 3 hts gX2_fit_X2_join rfl rfl rfl ⟨rfl, hdX2_join⟩ ⟨(Nat.le_of_ble_eq_true rfl), (Nat.le_of_ble_eq_true rfl)⟩) ⟨(muB_blind (fun _ _ _ _ _ => trivial)), va_recv hK hP (ci := 2) (q0 := 0) rfl rfl, muF_pre hP hK hN hD (fun _ _ _ => trivial)⟩ rfl rfl hl.1 rfl (lv_room (Nat.le_of_ble_eq_true rfl)) dX2_fit_41 ⟨Nat.zero_le _, Nat.zero_le _⟩) hP hD hS hA (fun u_4 H locs w_5 hP hD hS => ?_)
    have hP : va_P D vwCl (sW y q rd ct (jG g (g a) (g b) 16) (jH g h (g a) (((h a) - (h b)) - v0) 16)) H := hP
    have hD : va_D A (sW y q rd ct (jG g (g a) (g b) 16) (jH g h (g a) (((h a) - (h b)) - v0) 16)) := hD
    refine lv_goto (tgt := 60) hx hb dX2_fit_44 (by decide) ?_
    exact mu_vret (ct, jG g (g a) (g b) 16, jH g h (g a) (((h a) - (h b)) - v0) 16) hx hb hr hlocks hP hD hS dX2_fit_60 (by have := c_1; simp_all [fitF])

set_option maxHeartbeats 4000000 in
set_option maxRecDepth 100000 in
theorem kX2_take (l : Launch) (D : va_G) (y : Nat → ClassId) (q : Nat → Nat) (rd ct : Int32) (g h : Nat → Int32) (a : Nat) (b : Nat) (v0 : Int32) (sz : Nat) (ha : a < 6) (hb2 : b < 10) : Met l yX2_take wsX2_take ({ frames := 2, cells := 0, slots := 0, locals := 48 }) (va_Pc [.ref (q 6), .int (nI a), .int (nI b), .int v0] (muB D (sT y) (sW y q rd ct g h) sz eT)) (QV (σ := Int32 × (Nat → Int32) × (Nat → Int32)) D (fun u => u = takeF rd ct g h a b v0) (fun u => (sW y q (rd + 1) u.1 u.2.1 u.2.2)) (va_A (sW y q rd ct g h) sz)) 0 0 (va_A (sW y q rd ct g h) sz) := by
  refine mu_start (Qc := QV (σ := Int32 × (Nat → Int32) × (Nat → Int32)) D (fun u => u = takeF rd ct g h a b v0) (fun u => (sW y q (rd + 1) u.1 u.2.1 u.2.2))) (cc := cX2_take) (maxL := 4) (ret := none) (by decide) rfl (Nat.le_of_ble_eq_true rfl) ?_
  intro p e s m below meth c ls A hx hb hr hml hown hlocks hts hnm hA hP hK hN hD hE hAA hsz hl
  have hS : va_S A s.heap s.heap [] := va_S.rf
  have hown : s.vm.findClass RX2 = some m.cls := hown
  have F : CallFix p m c cX2_take 4 s [.ref (q 6), .int (nI a), .int (nI b), .int v0].toArray wsX2_take RX2 := ⟨hx, hb, hml, hown, hts⟩
  have hl : lv_has ls 4 [(0, .ref (q 6)), (1, .int (nI a)), (2, .int (nI b)), (3, .int v0)] := hl
  have iX2 : ∀ w ∈ u_ws RX2 TX2 4, w ∈ wsX2_take := mem_pl [18, 19, 20, 21] rfl
  refine lv_aload_n hx hb dX2_take_0 rfl (lv_at hl 0 rfl) ?_
  refine va_get (D := D) (ci := 2) (v := .int ct) (C := RX2) (T := TX2) (N := 4) hx hb hts iX2 hown hK hP 0 rfl rfl 3 (by decide) (hts _ (List.mem_of_getElem? (i := 1) rfl)) (fun _ h9 => h9) rfl dX2_take_1 ?_
  refine lv_bipush (v := (-9)) hx hb dX2_take_4 (by decide) ?_
  refine lv_icmp_ne (tgt := 19) hx hb dX2_take_6 (by decide) (fun c_1 => ?_) (fun c_1 => ?_)
  · skip
    refine lv_aload_n hx hb dX2_take_19 rfl (lv_at hl 0 rfl) ?_
    refine lv_dup hx hb dX2_take_20 rfl ?_
    refine va_get (D := D) (ci := 2) (v := .int rd) (C := RX2) (T := TX2) (N := 4) hx hb hts iX2 hown hK hP 0 rfl rfl 2 (by decide) (hts _ (List.mem_of_getElem? (i := 2) rfl)) (fun _ h9 => h9) rfl dX2_take_21 ?_
    refine lv_iconst (v := 1) hx hb dX2_take_24 (by decide) ?_
    refine lv_iadd hx hb dX2_take_25 ?_
    refine va_put (D := D) (ci := 2) (v := .int (rd + 1)) (ty := .int) (C := RX2) (T := TX2) (N := 4) hx hb hts iX2 tyX2 tyX2_ok nmX2 hown hK hP hD hS 0 rfl rfl 2 (by decide) (hts _ (List.mem_of_getElem? (i := 2) rfl)) (fun _ h9 => h9) rfl (by decide +kernel) rfl rfl (Nat.le_of_ble_eq_true rfl) dX2_take_26 (fun H locs hP hD hS => ?_)
    have hP : va_P D vwCl (sW y q (rd + 1) ct g h) H := hP
    have hD : va_D A (sW y q (rd + 1) ct g h) := hD
    exact mu_vret (ct, g, h) hx hb hr hlocks hP hD hS dX2_take_29 (by simp [takeF, c_1])
  · skip
    refine lv_aload_n hx hb dX2_take_9 rfl (lv_at hl 0 rfl) ?_
    refine lv_iload_n hx hb dX2_take_10 rfl (lv_at hl 1 rfl) ?_
    refine lv_bipush (v := 6) hx hb dX2_take_11 (by decide) ?_
    refine lv_iload_n hx hb dX2_take_13 rfl (lv_at hl 2 rfl) ?_
    refine lv_iadd hx hb dX2_take_14 ?_
    refine lv_cst (v := nI (6 + b)) (nI_add 6 b) ?_
    refine lv_iload_n hx hb dX2_take_15 rfl (lv_at hl 3 rfl) ?_
    refine muF_v (va_runV (As := [.int (nI a), .int (nI (6 + b)), .int v0]) (rest := []) F (kX2_fit l D y q rd ct g h a (6 + b) v0 _ (by omega) (by omega)) (cwV 3 hts gX2_take_X2_fit rfl rfl rfl ⟨rfl, hdX2_fit⟩ ⟨(Nat.le_of_ble_eq_true rfl), (Nat.le_of_ble_eq_true rfl)⟩) ⟨(muB_blind (fun _ _ _ _ _ => trivial)), va_recv hK hP (ci := 2) (q0 := 0) rfl rfl, muF_pre hP hK hN hD (fun _ _ _ => trivial)⟩ rfl rfl hl.1 rfl (lv_room (Nat.le_of_ble_eq_true rfl)) dX2_take_16 ⟨Nat.zero_le _, Nat.zero_le _⟩) hP hD hS hA (fun u_3 H locs w_4 hP hD hS => ?_)
    subst w_4
    have hP : va_P D vwCl (sW y q rd ((fitF rd ct g h a (6 + b) v0).1) ((fitF rd ct g h a (6 + b) v0).2.1) ((fitF rd ct g h a (6 + b) v0).2.2)) H := hP
    have hD : va_D A (sW y q rd ((fitF rd ct g h a (6 + b) v0).1) ((fitF rd ct g h a (6 + b) v0).2.1) ((fitF rd ct g h a (6 + b) v0).2.2)) := hD
    refine lv_aload_n hx hb dX2_take_19 rfl (lv_at hl 0 rfl) ?_
    refine lv_dup hx hb dX2_take_20 rfl ?_
    refine va_get (D := D) (ci := 2) (v := .int rd) (C := RX2) (T := TX2) (N := 4) hx hb hts iX2 hown hK hP 0 rfl rfl 2 (by decide) (hts _ (List.mem_of_getElem? (i := 2) rfl)) (fun _ h9 => h9) rfl dX2_take_21 ?_
    refine lv_iconst (v := 1) hx hb dX2_take_24 (by decide) ?_
    refine lv_iadd hx hb dX2_take_25 ?_
    refine va_put (D := D) (ci := 2) (v := .int (rd + 1)) (ty := .int) (C := RX2) (T := TX2) (N := 4) hx hb hts iX2 tyX2 tyX2_ok nmX2 hown hK hP hD hS 0 rfl rfl 2 (by decide) (hts _ (List.mem_of_getElem? (i := 2) rfl)) (fun _ h9 => h9) rfl (by decide +kernel) rfl rfl (Nat.le_of_ble_eq_true rfl) dX2_take_26 (fun H locs hP hD hS => ?_)
    have hP : va_P D vwCl (sW y q (rd + 1) ((fitF rd ct g h a (6 + b) v0).1) ((fitF rd ct g h a (6 + b) v0).2.1) ((fitF rd ct g h a (6 + b) v0).2.2)) H := hP
    have hD : va_D A (sW y q (rd + 1) ((fitF rd ct g h a (6 + b) v0).1) ((fitF rd ct g h a (6 + b) v0).2.1) ((fitF rd ct g h a (6 + b) v0).2.2)) := hD
    exact mu_vret ((fitF rd ct g h a (6 + b) v0).1, (fitF rd ct g h a (6 + b) v0).2.1, (fitF rd ct g h a (6 + b) v0).2.2) hx hb hr hlocks hP hD hS dX2_take_29 (by simp [takeF, c_1])

set_option maxHeartbeats 4000000 in
set_option maxRecDepth 100000 in
theorem kX4_read (l : Launch) (D : va_G) (y : Nat → ClassId) (q : Nat → Nat) (n : Nat) (now rt : Int32) (tr : Int64) (C : Nat → CT) (ah w : Nat → Int32) (mx : MT) (rd ct : Int32) (g h : Nat → Int32) (a0 : Int32) (b0 : Int32) (v0 : Int32) (sz : Nat) : Met l yX4_read wsX4_read ({ frames := 3, cells := 0, slots := 0, locals := 71 }) (va_Pc [.ref (q 0), .int a0, .int b0, .int v0] (muB D (xT y) (xW y q (nI n) now rt tr C ah w mx rd ct g h) sz eT)) (QI (σ := Int32 × Int32 × (Nat → Int32) × (Nat → Int32)) D (fun r u => (r, u) = readF rd ct g h a0 b0 v0) (fun u => (xW y q (nI n) now rt tr C ah w mx u.1 u.2.1 u.2.2.1 u.2.2.2)) (va_A (xW y q (nI n) now rt tr C ah w mx rd ct g h) sz)) 0 0 (va_A (xW y q (nI n) now rt tr C ah w mx rd ct g h) sz) := by
  refine mu_start (Qc := QI (σ := Int32 × Int32 × (Nat → Int32) × (Nat → Int32)) D (fun r u => (r, u) = readF rd ct g h a0 b0 v0) (fun u => (xW y q (nI n) now rt tr C ah w mx u.1 u.2.1 u.2.2.1 u.2.2.2))) (cc := cX4_read) (maxL := 4) (ret := (some .int)) (by decide) rfl (Nat.le_of_ble_eq_true rfl) ?_
  intro p e s m below meth c ls A hx hb hr hml hown hlocks hts hnm hA hP hK hN hD hE hAA hsz hl
  have hS : va_S A s.heap s.heap [] := va_S.rf
  have hown : s.vm.findClass RX4 = some m.cls := hown
  have F : CallFix p m c cX4_read 4 s [.ref (q 0), .int a0, .int b0, .int v0].toArray wsX4_read RX4 := ⟨hx, hb, hml, hown, hts⟩
  have hl : lv_has ls 4 [(0, .ref (q 0)), (1, .int a0), (2, .int b0), (3, .int v0)] := hl
  have iX2 : ∀ w ∈ u_ws RX2 TX2 4, w ∈ wsX4_read := mem_pl [40, 41, 42, 43] rfl
  have iX4 : ∀ w ∈ u_ws RX4 TX4 9, w ∈ wsX4_read := mem_pl [31, 32, 33, 34, 35, 36, 37, 38, 39] rfl
  refine lv_iload_n hx hb dX4_read_0 rfl (lv_at hl 1 rfl) ?_
  refine ro_i (va_runS (As := [.int a0]) (rest := []) F (kX4_isNose l a0) (va_cwS 1 hts gX4_read_X4_isNose rfl rfl rfl hdX4_isNose ⟨(Nat.le_of_ble_eq_true rfl), (Nat.le_of_ble_eq_true rfl)⟩) ⟨tr_blind, tr_pre⟩ rfl rfl hl.1 rfl (lv_room (Nat.le_of_ble_eq_true rfl)) dX4_read_1 ⟨Nat.zero_le _, Nat.zero_le _⟩) ?_
  refine lv_if_eq (tgt := 27) hx hb dX4_read_4 (by decide) (fun c_1 => ?_) (fun c_1 => ?_)
  · skip
    have c_1 := zI_0 c_1
    refine lv_iconst (v := (-1)) hx hb dX4_read_27 (by decide) ?_
    exact mu_iret (rd, ct, g, h) hx hb hr hlocks hP hD hS dX4_read_28 (by simp [readF, c_1])
  · skip
    have c_1 := zI_1 c_1
    obtain ⟨a, hza, rfl⟩ := inR_of (k := 5) (by decide) (by decide) c_1
    have ea : (nI a).toNatClampNeg = a := nI_clamp (by omega)
    refine lv_iload_n hx hb dX4_read_7 rfl (lv_at hl 2 rfl) ?_
    refine lv_iconst (v := 0) hx hb dX4_read_8 (by decide) ?_
    refine lv_bipush (v := 9) hx hb dX4_read_9 (by decide) ?_
    refine ro_i (va_runS (As := [.int b0, .int 0, .int 9]) (rest := []) F (kX4_isWithin l b0 0 9) (va_cwS 3 hts gX4_read_X4_isWithin rfl rfl rfl hdX4_isWithin ⟨(Nat.le_of_ble_eq_true rfl), (Nat.le_of_ble_eq_true rfl)⟩) ⟨tr_blind, tr_pre⟩ rfl rfl hl.1 rfl (lv_room (Nat.le_of_ble_eq_true rfl)) dX4_read_11 ⟨Nat.zero_le _, Nat.zero_le _⟩) ?_
    refine lv_if_eq (tgt := 27) hx hb dX4_read_14 (by decide) (fun c_2 => ?_) (fun c_2 => ?_)
    · skip
      have c_2 := zI_0 c_2
      refine lv_iconst (v := (-1)) hx hb dX4_read_27 (by decide) ?_
      exact mu_iret (rd, ct, g, h) hx hb hr hlocks hP hD hS dX4_read_28 (by simp [readF, c_1, ea, c_2])
    · skip
      have c_2 := zI_1 c_2
      obtain ⟨b, hzb, rfl⟩ := inR_of (k := 9) (by decide) (by decide) c_2
      have eb : (nI b).toNatClampNeg = b := nI_clamp (by omega)
      refine lv_iload_n hx hb dX4_read_17 rfl (lv_at hl 3 rfl) ?_
      refine lv_iconst (v := 0) hx hb dX4_read_18 (by decide) ?_
      refine lv_bipush (v := 99) hx hb dX4_read_19 (by decide) ?_
      refine ro_i (va_runS (As := [.int v0, .int 0, .int 99]) (rest := []) F (kX4_isWithin l v0 0 99) (va_cwS 3 hts gX4_read_X4_isWithin rfl rfl rfl hdX4_isWithin ⟨(Nat.le_of_ble_eq_true rfl), (Nat.le_of_ble_eq_true rfl)⟩) ⟨tr_blind, tr_pre⟩ rfl rfl hl.1 rfl (lv_room (Nat.le_of_ble_eq_true rfl)) dX4_read_21 ⟨Nat.zero_le _, Nat.zero_le _⟩) ?_
      refine lv_if_ne (tgt := 29) hx hb dX4_read_24 (by decide) (fun c_3 => ?_) (fun c_3 => ?_)
      · skip
        have c_3 := zI_1 c_3
        refine lv_aload_n hx hb dX4_read_29 rfl (lv_at hl 0 rfl) ?_
        refine va_get (D := D) (ci := 4) (v := .ref (q 6)) (C := RX4) (T := TX4) (N := 9) hx hb hts iX4 hown hK hP 0 rfl rfl 4 (by decide) (hts _ (List.mem_of_getElem? (i := 1) rfl)) (fun _ h9 => h9) rfl dX4_read_30 ?_
        refine va_get (D := D) (ci := 2) (v := .int rd) (C := RX2) (T := TX2) (N := 4) hx hb hts iX2 hown hK hP 6 rfl rfl 2 (by decide) (hts _ (List.mem_of_getElem? (i := 2) rfl)) (fun _ h9 => h9) rfl dX4_read_33 ?_
        refine lv_bipush (v := 30) hx hb dX4_read_36 (by decide) ?_
        refine lv_icmp_lt (tgt := 44) hx hb dX4_read_38 (by decide) (fun c_4 => ?_) (fun c_4 => ?_)
        · skip
          refine lv_aload_n hx hb dX4_read_44 rfl (lv_at hl 0 rfl) ?_
          refine va_get (D := D) (ci := 4) (v := .ref (q 6)) (C := RX4) (T := TX4) (N := 9) hx hb hts iX4 hown hK hP 0 rfl rfl 4 (by decide) (hts _ (List.mem_of_getElem? (i := 1) rfl)) (fun _ h9 => h9) rfl dX4_read_45 ?_
          refine lv_iload_n hx hb dX4_read_48 rfl (lv_at hl 1 rfl) ?_
          refine lv_iload_n hx hb dX4_read_49 rfl (lv_at hl 2 rfl) ?_
          refine lv_iload_n hx hb dX4_read_50 rfl (lv_at hl 3 rfl) ?_
          refine mu_v (X := (xHead y q (nI n) now rt tr ah w mx)) (Y := (sW y q rd ct g h)) (Z := xPool q C) (va_runV (As := [.int (nI a), .int (nI b), .int v0]) (rest := []) F (kX2_take l D y q rd ct g h a b v0 _ (by omega) (by omega)) (cwV 3 hts gX4_read_X2_take rfl rfl rfl ⟨rfl, hdX2_take⟩ ⟨(Nat.le_of_ble_eq_true rfl), (Nat.le_of_ble_eq_true rfl)⟩) ⟨(muB_blind (fun _ _ _ _ _ => trivial)), va_recv hK hP (ci := 2) (q0 := 6) rfl rfl, muB_pre (X := (xHead y q (nI n) now rt tr ah w mx)) (Y := (sW y q rd ct g h)) (Z := xPool q C) hP (hK.sub [3, 4] rfl) hN hD (fun _ _ _ => trivial)⟩ rfl rfl hl.1 rfl (lv_room (Nat.le_of_ble_eq_true rfl)) dX4_read_51 ⟨Nat.zero_le _, Nat.zero_le _⟩) hP hD hS hA (fun u_6 H locs w_7 hP hD hS => ?_)
          subst w_7
          have hP : va_P D vwCl (xW y q (nI n) now rt tr C ah w mx (rd + 1) ((takeF rd ct g h a b v0).1) ((takeF rd ct g h a b v0).2.1) ((takeF rd ct g h a b v0).2.2)) H := hP
          have hD : va_D A (xW y q (nI n) now rt tr C ah w mx (rd + 1) ((takeF rd ct g h a b v0).1) ((takeF rd ct g h a b v0).2.1) ((takeF rd ct g h a b v0).2.2)) := hD
          refine lv_aload_n hx hb dX4_read_54 rfl (lv_at hl 0 rfl) ?_
          refine va_get (D := D) (ci := 4) (v := .ref (q 6)) (C := RX4) (T := TX4) (N := 9) hx hb hts iX4 hown hK hP 0 rfl rfl 4 (by decide) (hts _ (List.mem_of_getElem? (i := 1) rfl)) (fun _ h9 => h9) rfl dX4_read_55 ?_
          refine va_get (D := D) (ci := 2) (v := .int (rd + 1)) (C := RX2) (T := TX2) (N := 4) hx hb hts iX2 hown hK hP 6 rfl rfl 2 (by decide) (hts _ (List.mem_of_getElem? (i := 2) rfl)) (fun _ h9 => h9) rfl dX4_read_58 ?_
          exact mu_iret ((rd + 1), (takeF rd ct g h a b v0).1, (takeF rd ct g h a b v0).2.1, (takeF rd ct g h a b v0).2.2) hx hb hr hlocks hP hD hS dX4_read_61 (by simp [readF, c_1, ea, c_2, eb, c_3, c_4])
        · skip
          refine lv_bipush (v := (-3)) hx hb dX4_read_41 (by decide) ?_
          exact mu_iret (rd, ct, g, h) hx hb hr hlocks hP hD hS dX4_read_43 (by simp [readF, c_1, ea, c_2, eb, c_3, c_4])
      · skip
        have c_3 := zI_0 c_3
        refine lv_iconst (v := (-1)) hx hb dX4_read_27 (by decide) ?_
        exact mu_iret (rd, ct, g, h) hx hb hr hlocks hP hD hS dX4_read_28 (by simp [readF, c_1, ea, c_2, eb, c_3])

set_option maxHeartbeats 4000000 in
set_option maxRecDepth 100000 in
theorem kX4_clear (l : Launch) (D : va_G) (y : Nat → ClassId) (q : Nat → Nat) (n : Nat) (now rt : Int32) (tr : Int64) (C : Nat → CT) (ah w : Nat → Int32) (mx : MT) (rd ct : Int32) (g h : Nat → Int32) (sz : Nat) : Met l yX4_clear wsX4_clear ({ frames := 1, cells := 0, slots := 0, locals := 21 }) (va_Pc [.ref (q 0)] (muB D (xT y) (xW y q (nI n) now rt tr C ah w mx rd ct g h) sz eT)) (QI (σ := Unit) D (fun r u => r = rd) (fun u => (xW y q (nI n) now rt tr C ah w mx 0 (-9) (rG g 16) (rH h 16))) (va_A (xW y q (nI n) now rt tr C ah w mx rd ct g h) sz)) 0 0 (va_A (xW y q (nI n) now rt tr C ah w mx rd ct g h) sz) := by
  refine mu_start (Qc := QI (σ := Unit) D (fun r u => r = rd) (fun u => (xW y q (nI n) now rt tr C ah w mx 0 (-9) (rG g 16) (rH h 16)))) (cc := cX4_clear) (maxL := 2) (ret := (some .int)) (by decide) rfl (Nat.le_of_ble_eq_true rfl) ?_
  intro p e s m below meth c ls A hx hb hr hml hown hlocks hts hnm hA hP hK hN hD hE hAA hsz hl
  have hS : va_S A s.heap s.heap [] := va_S.rf
  have hown : s.vm.findClass RX4 = some m.cls := hown
  have F : CallFix p m c cX4_clear 2 s [.ref (q 0)].toArray wsX4_clear RX4 := ⟨hx, hb, hml, hown, hts⟩
  have hl : lv_has ls 2 [(0, .ref (q 0))] := hl
  have iX2 : ∀ w ∈ u_ws RX2 TX2 4, w ∈ wsX4_clear := mem_pl [21, 22, 23, 24] rfl
  have iX4 : ∀ w ∈ u_ws RX4 TX4 9, w ∈ wsX4_clear := mem_pl [12, 13, 14, 15, 16, 17, 18, 19, 20] rfl
  refine lv_aload_n hx hb dX4_clear_0 rfl (lv_at hl 0 rfl) ?_
  refine va_get (D := D) (ci := 4) (v := .ref (q 6)) (C := RX4) (T := TX4) (N := 9) hx hb hts iX4 hown hK hP 0 rfl rfl 4 (by decide) (hts _ (List.mem_of_getElem? (i := 1) rfl)) (fun _ h9 => h9) rfl dX4_clear_1 ?_
  refine va_get (D := D) (ci := 2) (v := .int rd) (C := RX2) (T := TX2) (N := 4) hx hb hts iX2 hown hK hP 6 rfl rfl 2 (by decide) (hts _ (List.mem_of_getElem? (i := 2) rfl)) (fun _ h9 => h9) rfl dX4_clear_4 ?_
  refine lv_istore_n (lv' := [(1, .int rd), (0, .ref (q 0))]) hx hb dX4_clear_7 rfl hl (by decide) rfl (fun ls hl => ?_)
  refine lv_aload_n hx hb dX4_clear_8 rfl (lv_at hl 1 rfl) ?_
  refine va_get (D := D) (ci := 4) (v := .ref (q 6)) (C := RX4) (T := TX4) (N := 9) hx hb hts iX4 hown hK hP 0 rfl rfl 4 (by decide) (hts _ (List.mem_of_getElem? (i := 1) rfl)) (fun _ h9 => h9) rfl dX4_clear_9 ?_
  refine mu_v (X := (xHead y q (nI n) now rt tr ah w mx)) (Y := (sW y q rd ct g h)) (Z := xPool q C) (va_runV (As := []) (rest := []) F (kX2_reset l D y q rd ct g h _) (cwV 0 hts gX4_clear_X2_reset rfl rfl rfl ⟨rfl, hdX2_reset⟩ ⟨(Nat.le_of_ble_eq_true rfl), (Nat.le_of_ble_eq_true rfl)⟩) ⟨(muB_blind (fun _ _ _ _ _ => trivial)), va_recv hK hP (ci := 2) (q0 := 6) rfl rfl, muB_pre (X := (xHead y q (nI n) now rt tr ah w mx)) (Y := (sW y q rd ct g h)) (Z := xPool q C) hP (hK.sub [3, 4] rfl) hN hD (fun _ _ _ => trivial)⟩ rfl rfl hl.1 rfl (lv_room (Nat.le_of_ble_eq_true rfl)) dX4_clear_12 ⟨Nat.zero_le _, Nat.zero_le _⟩) hP hD hS hA (fun u_2 H locs w_3 hP hD hS => ?_)
  have hP : va_P D vwCl (xW y q (nI n) now rt tr C ah w mx 0 (-9) (rG g 16) (rH h 16)) H := hP
  have hD : va_D A (xW y q (nI n) now rt tr C ah w mx 0 (-9) (rG g 16) (rH h 16)) := hD
  refine lv_iload_n hx hb dX4_clear_15 rfl (lv_at hl 0 rfl) ?_
  exact mu_iret () hx hb hr hlocks hP hD hS dX4_clear_16 rfl

set_option maxHeartbeats 4000000 in
set_option maxRecDepth 100000 in
theorem kX4_hang (l : Launch) (D : va_G) (y : Nat → ClassId) (q : Nat → Nat) (n : Nat) (now rt : Int32) (tr : Int64) (C : Nat → CT) (ah w : Nat → Int32) (mx : MT) (rd ct : Int32) (g h : Nat → Int32) (a0 : Int32) (b0 : Int32) (w0 : Int32) : Met l yX4_hang wsX4_hang ({ frames := 2, cells := 0, slots := 0, locals := 42 }) (va_Pc [.ref (q 0), .int a0, .int b0, .int w0] (rdB D (xT y) (xW y q (nI n) now rt tr C ah w mx rd ct g h))) (vp_Si (fun x => x = (hangX g h a0 b0 w0))) 0 0 nF := by
  refine ro_start (cc := cX4_hang) (maxL := 5) (ret := (some .int)) (by decide) rfl (Nat.le_of_ble_eq_true rfl) ?_
  intro p e s m below meth c ls hx hb hr hml hown hlocks hts hnm hB hl
  obtain ⟨hP, hK, hN⟩ := hB
  have hown : s.vm.findClass RX4 = some m.cls := hown
  have F : CallFix p m c cX4_hang 5 s [.ref (q 0), .int a0, .int b0, .int w0].toArray wsX4_hang RX4 := ⟨hx, hb, hml, hown, hts⟩
  have hl : lv_has ls 5 [(0, .ref (q 0)), (1, .int a0), (2, .int b0), (3, .int w0)] := hl
  have iX2 : ∀ w ∈ u_ws RX2 TX2 4, w ∈ wsX4_hang := mem_pl [27, 28, 29, 30] rfl
  have iX4 : ∀ w ∈ u_ws RX4 TX4 9, w ∈ wsX4_hang := mem_pl [18, 19, 20, 21, 22, 23, 24, 25, 26] rfl
  refine lv_iload_n hx hb dX4_hang_0 rfl (lv_at hl 1 rfl) ?_
  refine ro_i (va_runS (As := [.int a0]) (rest := []) F (kX4_isNose l a0) (va_cwS 1 hts gX4_hang_X4_isNose rfl rfl rfl hdX4_isNose ⟨(Nat.le_of_ble_eq_true rfl), (Nat.le_of_ble_eq_true rfl)⟩) ⟨tr_blind, tr_pre⟩ rfl rfl hl.1 rfl (lv_room (Nat.le_of_ble_eq_true rfl)) dX4_hang_1 ⟨Nat.zero_le _, Nat.zero_le _⟩) ?_
  refine lv_if_eq (tgt := 23) hx hb dX4_hang_4 (by decide) (fun c_1 => ?_) (fun c_1 => ?_)
  · skip
    have c_1 := zI_0 c_1
    refine lv_ldc (v := (-1000001)) hx hb hown (hts _ (List.mem_of_getElem? (i := 1) rfl)) dX4_hang_23 ?_
    exact ro_iret hx hb hr hlocks dX4_hang_25 (by simp [hangX, zI, (by decide : inR 0 0 1 = true), c_1])
  · skip
    have c_1 := zI_1 c_1
    obtain ⟨a, hza, rfl⟩ := inR_of (k := 5) (by decide) (by decide) c_1
    have ea : (nI a).toNatClampNeg = a := nI_clamp (by omega)
    refine lv_iload_n hx hb dX4_hang_7 rfl (lv_at hl 2 rfl) ?_
    refine ro_i (va_runS (As := [.int b0]) (rest := []) F (kX4_isNose l b0) (va_cwS 1 hts gX4_hang_X4_isNose rfl rfl rfl hdX4_isNose ⟨(Nat.le_of_ble_eq_true rfl), (Nat.le_of_ble_eq_true rfl)⟩) ⟨tr_blind, tr_pre⟩ rfl rfl hl.1 rfl (lv_room (Nat.le_of_ble_eq_true rfl)) dX4_hang_8 ⟨Nat.zero_le _, Nat.zero_le _⟩) ?_
    refine lv_if_eq (tgt := 23) hx hb dX4_hang_11 (by decide) (fun c_2 => ?_) (fun c_2 => ?_)
    · skip
      have c_2 := zI_0 c_2
      refine lv_ldc (v := (-1000001)) hx hb hown (hts _ (List.mem_of_getElem? (i := 1) rfl)) dX4_hang_23 ?_
      exact ro_iret hx hb hr hlocks dX4_hang_25 (by simp [hangX, zI, (by decide : inR 0 0 1 = true), c_1, ea, c_2])
    · skip
      have c_2 := zI_1 c_2
      obtain ⟨b, hzb, rfl⟩ := inR_of (k := 5) (by decide) (by decide) c_2
      have eb : (nI b).toNatClampNeg = b := nI_clamp (by omega)
      refine lv_iload_n hx hb dX4_hang_14 rfl (lv_at hl 3 rfl) ?_
      refine lv_iconst (v := 0) hx hb dX4_hang_15 (by decide) ?_
      refine lv_iconst (v := 1) hx hb dX4_hang_16 (by decide) ?_
      refine ro_i (va_runS (As := [.int w0, .int 0, .int 1]) (rest := []) F (kX4_isWithin l w0 0 1) (va_cwS 3 hts gX4_hang_X4_isWithin rfl rfl rfl hdX4_isWithin ⟨(Nat.le_of_ble_eq_true rfl), (Nat.le_of_ble_eq_true rfl)⟩) ⟨tr_blind, tr_pre⟩ rfl rfl hl.1 rfl (lv_room (Nat.le_of_ble_eq_true rfl)) dX4_hang_17 ⟨Nat.zero_le _, Nat.zero_le _⟩) ?_
      refine lv_if_ne (tgt := 26) hx hb dX4_hang_20 (by decide) (fun c_3 => ?_) (fun c_3 => ?_)
      · skip
        have c_3 := zI_1 c_3
        refine lv_aload_n hx hb dX4_hang_26 rfl (lv_at hl 0 rfl) ?_
        refine va_get (D := D) (ci := 4) (v := .ref (q 6)) (C := RX4) (T := TX4) (N := 9) hx hb hts iX4 hown hK hP 0 rfl rfl 4 (by decide) (hts _ (List.mem_of_getElem? (i := 2) rfl)) (fun _ h9 => h9) rfl dX4_hang_27 ?_
        refine lv_iload_n hx hb dX4_hang_30 rfl (lv_at hl 1 rfl) ?_
        refine lv_iload_n hx hb dX4_hang_31 rfl (lv_at hl 2 rfl) ?_
        refine ro_i (va_runV (As := [.int (nI a), .int (nI b)]) (rest := []) F (kX2_ties l D y q rd ct g h a b (by omega) (by omega)) (cwV 2 hts gX4_hang_X2_ties rfl rfl rfl ⟨rfl, hdX2_ties⟩ ⟨(Nat.le_of_ble_eq_true rfl), (Nat.le_of_ble_eq_true rfl)⟩) ⟨rdB_blind, va_recv hK hP (ci := 2) (q0 := 6) rfl rfl, rdB_pre (hP.sub [6, 7, 8] rfl) (hK.sub [3, 4] rfl) hN⟩ rfl rfl hl.1 rfl (lv_room (Nat.le_of_ble_eq_true rfl)) dX4_hang_32 ⟨Nat.zero_le _, Nat.zero_le _⟩) ?_
        refine lv_istore (lv' := [(4, .int (zI (decide (g a = g b)))), (0, .ref (q 0)), (1, .int (nI a)), (2, .int (nI b)), (3, .int w0)]) hx hb dX4_hang_35 hl (by decide) rfl (fun ls hl => ?_)
        refine lv_iload_n hx hb dX4_hang_37 rfl (lv_at hl 4 rfl) ?_
        refine lv_if_ne (tgt := 52) hx hb dX4_hang_38 (by decide) (fun c_4 => ?_) (fun c_4 => ?_)
        · skip
          refine lv_iload hx hb dX4_hang_52 (lv_at hl 0 rfl) ?_
          refine lv_if_eq (tgt := 79) hx hb dX4_hang_54 (by decide) (fun c_5 => ?_) (fun c_5 => ?_)
          · skip
            have c_5 := zI_0 c_5
            have c_5 := of_decide_eq_false c_5
            refine lv_ldc (v := (-1000000)) hx hb hown (hts _ (List.mem_of_getElem? (i := 4) rfl)) dX4_hang_79 ?_
            exact ro_iret hx hb hr hlocks dX4_hang_81 (by simp [hangX, zI, (by decide : inR 0 0 1 = true), c_1, ea, c_2, eb, c_3, c_4, c_5])
          · skip
            have c_5 := zI_1 c_5
            have c_5 := of_decide_eq_true c_5
            refine lv_aload_n hx hb dX4_hang_57 rfl (lv_at hl 1 rfl) ?_
            refine va_get (D := D) (ci := 4) (v := .ref (q 6)) (C := RX4) (T := TX4) (N := 9) hx hb hts iX4 hown hK hP 0 rfl rfl 4 (by decide) (hts _ (List.mem_of_getElem? (i := 2) rfl)) (fun _ h9 => h9) rfl dX4_hang_58 ?_
            refine va_get (D := D) (ci := 2) (v := .ref (q 8)) (C := RX2) (T := TX2) (N := 4) hx hb hts iX2 hown hK hP 6 rfl rfl 1 (by decide) (hts _ (List.mem_of_getElem? (i := 3) rfl)) (fun _ h9 => h9) rfl dX4_hang_61 ?_
            refine lv_iload_n hx hb dX4_hang_64 rfl (lv_at hl 2 rfl) ?_
            refine wa_iald hx hb hK hP 8 4 rfl rfl a rfl (by omega) (by decide) dX4_hang_65 ?_
            refine lv_aload_n hx hb dX4_hang_66 rfl (lv_at hl 1 rfl) ?_
            refine va_get (D := D) (ci := 4) (v := .ref (q 6)) (C := RX4) (T := TX4) (N := 9) hx hb hts iX4 hown hK hP 0 rfl rfl 4 (by decide) (hts _ (List.mem_of_getElem? (i := 2) rfl)) (fun _ h9 => h9) rfl dX4_hang_67 ?_
            refine va_get (D := D) (ci := 2) (v := .ref (q 8)) (C := RX2) (T := TX2) (N := 4) hx hb hts iX2 hown hK hP 6 rfl rfl 1 (by decide) (hts _ (List.mem_of_getElem? (i := 3) rfl)) (fun _ h9 => h9) rfl dX4_hang_70 ?_
            refine lv_iload_n hx hb dX4_hang_73 rfl (lv_at hl 3 rfl) ?_
            refine wa_iald hx hb hK hP 8 4 rfl rfl b rfl (by omega) (by decide) dX4_hang_74 ?_
            refine lv_isub hx hb dX4_hang_75 ?_
            refine lv_goto (tgt := 81) hx hb dX4_hang_76 (by decide) ?_
            exact ro_iret hx hb hr hlocks dX4_hang_81 (by simp [hangX, zI, (by decide : inR 0 0 1 = true), c_1, ea, c_2, eb, c_3, c_4, c_5])
        · skip
          refine lv_iload hx hb dX4_hang_41 (lv_at hl 0 rfl) ?_
          refine lv_if_eq (tgt := 50) hx hb dX4_hang_43 (by decide) (fun c_6 => ?_) (fun c_6 => ?_)
          · skip
            have c_6 := zI_0 c_6
            have c_6 := of_decide_eq_false c_6
            refine lv_iconst (v := 0) hx hb dX4_hang_50 (by decide) ?_
            exact ro_iret hx hb hr hlocks dX4_hang_51 (by simp [hangX, zI, (by decide : inR 0 0 1 = true), c_1, ea, c_2, eb, c_3, c_4, c_6])
          · skip
            have c_6 := zI_1 c_6
            have c_6 := of_decide_eq_true c_6
            refine lv_iconst (v := 1) hx hb dX4_hang_46 (by decide) ?_
            refine lv_goto (tgt := 51) hx hb dX4_hang_47 (by decide) ?_
            exact ro_iret hx hb hr hlocks dX4_hang_51 (by simp [hangX, zI, (by decide : inR 0 0 1 = true), c_1, ea, c_2, eb, c_3, c_4, c_6])
      · skip
        have c_3 := zI_0 c_3
        refine lv_ldc (v := (-1000001)) hx hb hown (hts _ (List.mem_of_getElem? (i := 1) rfl)) dX4_hang_23 ?_
        exact ro_iret hx hb hr hlocks dX4_hang_25 (by simp [hangX, zI, (by decide : inR 0 0 1 = true), c_1, ea, c_2, eb, c_3])
end
section
def yearC (c : CT) (now : Int32) : CT := (c_kd c, c_dr c - lostX (c_dr c) (lossC c now), mxI 400 (c_sg c - 3), c_fl c, c_ok c + mxI 0 (lossC c now - 10), c_sm c - dUp (c_sm c) 10, c_sw c + (6 - 2 * c_kd c), c_la c)
def addX (mx : MT) (c : CT) (now : Int32) : MT := (m_dr mx + c_dr c, m_sg mx + c_dr c * c_sg c, m_ok mx + c_dr c * c_ok c, m_sm mx + c_dr c * c_sm c, m_sw mx + c_dr c * c_sw c, m_co mx + costX c now, mnI (m_ag mx) (now - c_la c))
def yrC (C : Nat → CT) (now : Int32) (i : Nat) : Nat → CT := fun k => if k < i then (if c_dr (C k) ≤ 0 then C k else yearC (C k) now) else C k
theorem yrC_0 (C : Nat → CT) (now : Int32) : yrC C now 0 = C := by funext k; simp [yrC]
theorem yrC_i (C : Nat → CT) (now : Int32) (i : Nat) : yrC C now i i = C i := by simp [yrC]
theorem va_ap {α : Type} (f : Nat → α) (i k : Nat) (x : α) : va_up f i x k = if k = i then x else f k := rfl
theorem yrC_t {C : Nat → CT} {now : Int32} {i : Nat} (c : ¬ c_dr (C i) ≤ 0) : va_up (yrC C now i) i (yearC (yrC C now i i) now) = yrC C now (i + 1) := by
  funext k
  rw [va_ap, yrC_i]
  by_cases h : k = i
  · subst h; simp [yrC, c]
  · have : k < i + 1 ↔ k < i := by omega
    simp [yrC, h, this]
theorem yrC_n {C : Nat → CT} {now : Int32} {i : Nat} (c : c_dr (C i) ≤ 0) : yrC C now i = yrC C now (i + 1) := by
  funext k
  by_cases h : k = i
  · subst h; simp [yrC, c]
  · have : k < i + 1 ↔ k < i := by omega
    simp [yrC, this]
def yrs (n : Nat) (now : Int32) (C : Nat → CT) (i : Nat) : Int32 × (Nat → CT) := fN (fun _ s => (s.1 + 1, yrC s.2 s.1 n)) i (now, C)
def yearsF (n : Nat) (now : Int32) (C : Nat → CT) (k : Int32) : Int32 × Int32 × (Nat → CT) := if inR k 1 30 = true then (if now + k ≤ 60 then ((yrs n now C k.toNatClampNeg).1, yrs n now C k.toNatClampNeg) else (-2, now, C)) else (-1, now, C)
def layF (n : Nat) (now : Int32) (C : Nat → CT) (k d s f m : Int32) : Int32 × Int32 × (Nat → CT) := if inR k 0 2 = true ∧ inR d 1 9000 = true ∧ inR s 400 700 = true ∧ inR f 0 3 = true ∧ inR m 0 500 = true then (if n < 12 then (nI n + 1 - 1, nI n + 1, va_up C n (k, d, s, f, c_ok (C n), m, c_sw (C n), now)) else (-3, nI n, C)) else (-1, nI n, C)
def setF (c : CT) (v : Int32) : CT := (c_kd c, c_dr c, c_sg c, v, c_ok c, c_sm c, c_sw c, c_la c)
def setD (c : CT) (v : Int32) : CT := (c_kd c, v, c_sg c, c_fl c, c_ok c, c_sm c, c_sw c, c_la c)
def moveF (n : Nat) (C : Nat → CT) (c f : Int32) : Int32 × (Nat → CT) := if isC n c = true ∧ inR f 0 3 = true then (c_fl (C c.toNatClampNeg), va_up C c.toNatClampNeg (setF (C c.toNatClampNeg) f)) else (-1, C)
def drawF (n : Nat) (C : Nat → CT) (c v : Int32) : Int32 × (Nat → CT) := if isC n c = true ∧ inR v 0 (c_dr (C c.toNatClampNeg)) = true then (c_dr (C c.toNatClampNeg) - v, va_up C c.toNatClampNeg (setD (C c.toNatClampNeg) (c_dr (C c.toNatClampNeg) - v))) else (-1, C)
def mostW (k : Int32) : Int32 := if k = 0 then 99999 else if k = 1 then 60 else 9999
def wantF (w : Nat → Int32) (k v : Int32) : Int32 × (Nat → Int32) := if inR k 0 7 = true ∧ inR v 0 (mostW k) = true then (w k.toNatClampNeg, upd w k.toNatClampNeg v) else (-1, w)
def rateF (rt v : Int32) : Int32 × Int32 := if inR v 0 100 = true then (rt, v) else (-1, rt)
abbrev mx0 : MT := (0, 0, 0, 0, 0, 0, 60)
def gMf (C : Nat → CT) (now s : Int32) (i : Nat) (mx : MT) : MT := if hasB s (nI i) = true then addX mx (C i) now else mx
def gMx (n : Nat) (C : Nat → CT) (now s : Int32) : MT := fN (gMf C now s) n mx0
def okf (C : Nat → CT) (s : Int32) (i : Nat) (b : Bool) : Bool := b && (!hasB s (nI i) || decide (1 ≤ c_dr (C i)))
def okG (n : Nat) (C : Nat → CT) (s : Int32) : Bool := fN (okf C s) n true
def bOK (n : Nat) (C : Nat → CT) (now s : Int32) : Bool := okG n C s && decide (0 < m_dr (gMx n C now s))
theorem okG_f {C : Nat → CT} {s : Int32} {i : Nat} (h : okG i C s = false) : ∀ n, i ≤ n → okG n C s = false := by
  intro n hn
  induction n with
  | zero => rw [Nat.le_zero.mp hn] at h; exact h
  | succ n ih =>
    rcases Nat.lt_or_ge n i with h2 | h2
    · have : i = n + 1 := by omega
      rw [← this]; exact h
    · show okf C s n (okG n C s) = false
      rw [ih h2]; rfl
theorem ga_bad {n : Nat} {C : Nat → CT} {now s : Int32} {u : MT} (h : okG n C s = false) : 0 = zI (bOK n C now s) ∧ (bOK n C now s = true → u = gMx n C now s) := by
  have h2 : bOK n C now s = false := by unfold bOK; rw [h]; rfl
  rw [h2]; exact ⟨rfl, fun h => absurd h (by decide)⟩
def blX (w : Nat → Int32) (mx : MT) (k : Int32) : Int32 := if k = 0 then m_dr mx else if k = 1 then evX mx (m_sg mx) else if k = 2 then m_ag mx else if k = 3 then evX mx (m_ok mx) else if k = 4 then evX mx (m_sm mx) else if k = 5 then evX mx (m_sw mx) else if k = 6 then m_co mx else if k = 7 then zI (metX w mx) else -1
def blendF (n : Nat) (C : Nat → CT) (now : Int32) (w : Nat → Int32) (s k : Int32) : Int32 := if isS n s = true ∧ bOK n C now s = true then blX w (gMx n C now s) k else -1

set_option maxHeartbeats 4000000 in
set_option maxRecDepth 100000 in
theorem kX0_fill (l : Launch) (D : va_G) (y : Nat → ClassId) (q : Nat → Nat) (n : Nat) (now rt : Int32) (tr : Int64) (C : Nat → CT) (ah w : Nat → Int32) (mx : MT) (rd ct : Int32) (g h : Nat → Int32) (k0 : Int32) (d0 : Int32) (s0 : Int32) (f0 : Int32) (m0 : Int32) (y0 : Int32) (j : Nat) (hj : j < 12) (sz : Nat) : Met l yX0_fill wsX0_fill ({ frames := 0, cells := 0, slots := 0, locals := 0 }) (va_Pc [.ref (q (9 + j)), .int k0, .int d0, .int s0, .int f0, .int m0, .int y0] (muB D (xT y) (xW y q (nI n) now rt tr C ah w mx rd ct g h) sz eT)) (QV (σ := Unit) D (fun u => True) (fun u => (xW y q (nI n) now rt tr (va_up C j (k0, d0, s0, f0, c_ok (C j), m0, c_sw (C j), y0)) ah w mx rd ct g h)) (va_A (xW y q (nI n) now rt tr C ah w mx rd ct g h) sz)) 0 0 (va_A (xW y q (nI n) now rt tr C ah w mx rd ct g h) sz) := by
  refine mu_start (Qc := QV (σ := Unit) D (fun u => True) (fun u => (xW y q (nI n) now rt tr (va_up C j (k0, d0, s0, f0, c_ok (C j), m0, c_sw (C j), y0)) ah w mx rd ct g h))) (cc := cX0_fill) (maxL := 7) (ret := none) (by decide) rfl (Nat.le_of_ble_eq_true rfl) ?_
  intro p e s m below meth c ls A hx hb hr hml hown hlocks hts hnm hA hP hK hN hD hE hAA hsz hl
  have hS : va_S A s.heap s.heap [] := va_S.rf
  have hown : s.vm.findClass RX0 = some m.cls := hown
  have F : CallFix p m c cX0_fill 7 s [.ref (q (9 + j)), .int k0, .int d0, .int s0, .int f0, .int m0, .int y0].toArray wsX0_fill RX0 := ⟨hx, hb, hml, hown, hts⟩
  have hl : lv_has ls 7 [(0, .ref (q (9 + j))), (1, .int k0), (2, .int d0), (3, .int s0), (4, .int f0), (5, .int m0), (6, .int y0)] := hl
  have iX0 : ∀ w ∈ u_ws RX0 TX0 8, w ∈ wsX0_fill := mem_pl [7, 8, 9, 10, 11, 12, 13, 14] rfl
  refine lv_aload_n hx hb dX0_fill_0 rfl (lv_at hl 0 rfl) ?_
  refine lv_iload_n hx hb dX0_fill_1 rfl (lv_at hl 1 rfl) ?_
  refine va_put (D := D) (ci := 0) (v := .int k0) (ty := .int) (C := RX0) (T := TX0) (N := 8) hx hb hts iX0 tyX0 tyX0_ok nmX0 hown hK hP hD hS (9 + j) (xp_at rfl hj) rfl 0 (by decide) (hts _ (List.mem_of_getElem? (i := 1) rfl)) (fun _ h9 => h9) rfl (by decide +kernel) rfl rfl (Nat.le_of_ble_eq_true rfl) dX0_fill_2 (fun H locs hP hD hS => ?_)
  have hP : va_P D vwCl (xW y q (nI n) now rt tr (va_up C j (k0, c_dr (C j), c_sg (C j), c_fl (C j), c_ok (C j), c_sm (C j), c_sw (C j), c_la (C j))) ah w mx rd ct g h) H := xp_P rfl hj hP
  have hD : va_D A (xW y q (nI n) now rt tr (va_up C j (k0, c_dr (C j), c_sg (C j), c_fl (C j), c_ok (C j), c_sm (C j), c_sw (C j), c_la (C j))) ah w mx rd ct g h) := xp_D rfl hj hD
  refine lv_aload_n hx hb dX0_fill_5 rfl (lv_at hl 0 rfl) ?_
  refine lv_iload_n hx hb dX0_fill_6 rfl (lv_at hl 2 rfl) ?_
  refine va_put (D := D) (ci := 0) (v := .int d0) (ty := .int) (C := RX0) (T := TX0) (N := 8) hx hb hts iX0 tyX0 tyX0_ok nmX0 hown hK hP hD hS (9 + j) (xp_atF rfl hj) rfl 1 (by decide) (hts _ (List.mem_of_getElem? (i := 2) rfl)) (fun _ h9 => h9) rfl (by decide +kernel) rfl rfl (Nat.le_of_ble_eq_true rfl) dX0_fill_7 (fun H locs hP hD hS => ?_)
  have hP : va_P D vwCl (xW y q (nI n) now rt tr (va_up C j (k0, d0, c_sg (C j), c_fl (C j), c_ok (C j), c_sm (C j), c_sw (C j), c_la (C j))) ah w mx rd ct g h) H := xp_PF rfl hj hP
  have hD : va_D A (xW y q (nI n) now rt tr (va_up C j (k0, d0, c_sg (C j), c_fl (C j), c_ok (C j), c_sm (C j), c_sw (C j), c_la (C j))) ah w mx rd ct g h) := xp_DF rfl hj hD
  refine lv_aload_n hx hb dX0_fill_10 rfl (lv_at hl 0 rfl) ?_
  refine lv_iload_n hx hb dX0_fill_11 rfl (lv_at hl 3 rfl) ?_
  refine va_put (D := D) (ci := 0) (v := .int s0) (ty := .int) (C := RX0) (T := TX0) (N := 8) hx hb hts iX0 tyX0 tyX0_ok nmX0 hown hK hP hD hS (9 + j) (xp_atF rfl hj) rfl 2 (by decide) (hts _ (List.mem_of_getElem? (i := 3) rfl)) (fun _ h9 => h9) rfl (by decide +kernel) rfl rfl (Nat.le_of_ble_eq_true rfl) dX0_fill_12 (fun H locs hP hD hS => ?_)
  have hP : va_P D vwCl (xW y q (nI n) now rt tr (va_up C j (k0, d0, s0, c_fl (C j), c_ok (C j), c_sm (C j), c_sw (C j), c_la (C j))) ah w mx rd ct g h) H := xp_PF rfl hj hP
  have hD : va_D A (xW y q (nI n) now rt tr (va_up C j (k0, d0, s0, c_fl (C j), c_ok (C j), c_sm (C j), c_sw (C j), c_la (C j))) ah w mx rd ct g h) := xp_DF rfl hj hD
  refine lv_aload_n hx hb dX0_fill_15 rfl (lv_at hl 0 rfl) ?_
  refine lv_iload hx hb dX0_fill_16 (lv_at hl 4 rfl) ?_
  refine va_put (D := D) (ci := 0) (v := .int f0) (ty := .int) (C := RX0) (T := TX0) (N := 8) hx hb hts iX0 tyX0 tyX0_ok nmX0 hown hK hP hD hS (9 + j) (xp_atF rfl hj) rfl 3 (by decide) (hts _ (List.mem_of_getElem? (i := 4) rfl)) (fun _ h9 => h9) rfl (by decide +kernel) rfl rfl (Nat.le_of_ble_eq_true rfl) dX0_fill_18 (fun H locs hP hD hS => ?_)
  have hP : va_P D vwCl (xW y q (nI n) now rt tr (va_up C j (k0, d0, s0, f0, c_ok (C j), c_sm (C j), c_sw (C j), c_la (C j))) ah w mx rd ct g h) H := xp_PF rfl hj hP
  have hD : va_D A (xW y q (nI n) now rt tr (va_up C j (k0, d0, s0, f0, c_ok (C j), c_sm (C j), c_sw (C j), c_la (C j))) ah w mx rd ct g h) := xp_DF rfl hj hD
  refine lv_aload_n hx hb dX0_fill_21 rfl (lv_at hl 0 rfl) ?_
  refine lv_iload hx hb dX0_fill_22 (lv_at hl 5 rfl) ?_
  refine va_put (D := D) (ci := 0) (v := .int m0) (ty := .int) (C := RX0) (T := TX0) (N := 8) hx hb hts iX0 tyX0 tyX0_ok nmX0 hown hK hP hD hS (9 + j) (xp_atF rfl hj) rfl 5 (by decide) (hts _ (List.mem_of_getElem? (i := 5) rfl)) (fun _ h9 => h9) rfl (by decide +kernel) rfl rfl (Nat.le_of_ble_eq_true rfl) dX0_fill_24 (fun H locs hP hD hS => ?_)
  have hP : va_P D vwCl (xW y q (nI n) now rt tr (va_up C j (k0, d0, s0, f0, c_ok (C j), m0, c_sw (C j), c_la (C j))) ah w mx rd ct g h) H := xp_PF rfl hj hP
  have hD : va_D A (xW y q (nI n) now rt tr (va_up C j (k0, d0, s0, f0, c_ok (C j), m0, c_sw (C j), c_la (C j))) ah w mx rd ct g h) := xp_DF rfl hj hD
  refine lv_aload_n hx hb dX0_fill_27 rfl (lv_at hl 0 rfl) ?_
  refine lv_iload hx hb dX0_fill_28 (lv_at hl 6 rfl) ?_
  refine va_put (D := D) (ci := 0) (v := .int y0) (ty := .int) (C := RX0) (T := TX0) (N := 8) hx hb hts iX0 tyX0 tyX0_ok nmX0 hown hK hP hD hS (9 + j) (xp_atF rfl hj) rfl 7 (by decide) (hts _ (List.mem_of_getElem? (i := 6) rfl)) (fun _ h9 => h9) rfl (by decide +kernel) rfl rfl (Nat.le_of_ble_eq_true rfl) dX0_fill_30 (fun H locs hP hD hS => ?_)
  have hP : va_P D vwCl (xW y q (nI n) now rt tr (va_up C j (k0, d0, s0, f0, c_ok (C j), m0, c_sw (C j), y0)) ah w mx rd ct g h) H := xp_PF rfl hj hP
  have hD : va_D A (xW y q (nI n) now rt tr (va_up C j (k0, d0, s0, f0, c_ok (C j), m0, c_sw (C j), y0)) ah w mx rd ct g h) := xp_DF rfl hj hD
  exact mu_vret () hx hb hr hlocks hP hD hS dX0_fill_33 trivial

set_option maxHeartbeats 4000000 in
set_option maxRecDepth 100000 in
theorem kX0_passYear (l : Launch) (D : va_G) (y : Nat → ClassId) (q : Nat → Nat) (n : Nat) (now rt : Int32) (tr : Int64) (C : Nat → CT) (ah w : Nat → Int32) (mx : MT) (rd ct : Int32) (g h : Nat → Int32) (y0 : Int32) (j : Nat) (hj : j < 12) (sz : Nat) : Met l yX0_passYear wsX0_passYear ({ frames := 3, cells := 0, slots := 0, locals := 66 }) (va_Pc [.ref (q (9 + j)), .int y0] (muB D (xT y) (xW y q (nI n) now rt tr C ah w mx rd ct g h) sz eT)) (QV (σ := Unit) D (fun u => True) (fun u => (xW y q (nI n) now rt tr (va_up C j (yearC (C j) y0)) ah w mx rd ct g h)) (va_A (xW y q (nI n) now rt tr C ah w mx rd ct g h) sz)) 0 0 (va_A (xW y q (nI n) now rt tr C ah w mx rd ct g h) sz) := by
  refine mu_start (Qc := QV (σ := Unit) D (fun u => True) (fun u => (xW y q (nI n) now rt tr (va_up C j (yearC (C j) y0)) ah w mx rd ct g h))) (cc := cX0_passYear) (maxL := 3) (ret := none) (by decide) rfl (Nat.le_of_ble_eq_true rfl) ?_
  intro p e s m below meth c ls A hx hb hr hml hown hlocks hts hnm hA hP hK hN hD hE hAA hsz hl
  have hS : va_S A s.heap s.heap [] := va_S.rf
  have hown : s.vm.findClass RX0 = some m.cls := hown
  have F : CallFix p m c cX0_passYear 3 s [.ref (q (9 + j)), .int y0].toArray wsX0_passYear RX0 := ⟨hx, hb, hml, hown, hts⟩
  have hl : lv_has ls 3 [(0, .ref (q (9 + j))), (1, .int y0)] := hl
  have iX0 : ∀ w ∈ u_ws RX0 TX0 8, w ∈ wsX0_passYear := mem_pl [31, 32, 33, 34, 35, 36, 37, 38] rfl
  refine lv_aload_n hx hb dX0_passYear_0 rfl (lv_at hl 0 rfl) ?_
  refine lv_iload_n hx hb dX0_passYear_1 rfl (lv_at hl 1 rfl) ?_
  refine ro_i (va_runV (As := [.int y0]) (rest := []) F (kX0_lossIn l D y q n now rt tr C ah w mx rd ct g h y0 j hj) (cwV 1 hts gX0_passYear_X0_lossIn rfl rfl rfl ⟨rfl, hdX0_lossIn⟩ ⟨(Nat.le_of_ble_eq_true rfl), (Nat.le_of_ble_eq_true rfl)⟩) ⟨rdB_blind, va_recv hK hP (ci := 0) (q0 := (9 + j)) rfl (xp_at rfl hj), rdB_pre hP hK hN⟩ rfl rfl hl.1 rfl (lv_room (Nat.le_of_ble_eq_true rfl)) dX0_passYear_2 ⟨Nat.zero_le _, Nat.zero_le _⟩) ?_
  refine lv_istore_n (lv' := [(2, .int (lossC (C j) y0)), (0, .ref (q (9 + j))), (1, .int y0)]) hx hb dX0_passYear_5 rfl hl (by decide) rfl (fun ls hl => ?_)
  refine lv_aload_n hx hb dX0_passYear_6 rfl (lv_at hl 1 rfl) ?_
  refine lv_dup hx hb dX0_passYear_7 rfl ?_
  refine va_get (D := D) (ci := 0) (v := .int (c_dr (C j))) (C := RX0) (T := TX0) (N := 8) hx hb hts iX0 hown hK hP (9 + j) (xp_at rfl hj) rfl 1 (by decide) (hts _ (List.mem_of_getElem? (i := 1) rfl)) (fun _ h9 => h9) rfl dX0_passYear_8 ?_
  refine lv_aload_n hx hb dX0_passYear_11 rfl (lv_at hl 1 rfl) ?_
  refine va_get (D := D) (ci := 0) (v := .int (c_dr (C j))) (C := RX0) (T := TX0) (N := 8) hx hb hts iX0 hown hK hP (9 + j) (xp_at rfl hj) rfl 1 (by decide) (hts _ (List.mem_of_getElem? (i := 1) rfl)) (fun _ h9 => h9) rfl dX0_passYear_12 ?_
  refine lv_iload_n hx hb dX0_passYear_15 rfl (lv_at hl 0 rfl) ?_
  refine ro_i (va_runSN (As := [.int (c_dr (C j)), .int (lossC (C j) y0)]) (rest := [.int (c_dr (C j)), .ref (q (9 + j))]) F (kX4_lostOf l (c_dr (C j)) (lossC (C j) y0)) ⟨va_cnB 2 hts gX0_passYear_X4_lostOf_n45 rfl rfl rfl hN.2.2.1 (hts _ (List.mem_of_getElem? (i := 23) rfl)) hdX4_lostOf ⟨(Nat.le_of_ble_eq_true rfl), (Nat.le_of_ble_eq_true rfl)⟩, (hts _ (List.mem_of_getElem? (i := 26) rfl)), trivial⟩ ⟨tr_blind, tr_pre⟩ rfl rfl hl.1 rfl (lv_room (Nat.le_of_ble_eq_true rfl)) dX0_passYear_16 ⟨Nat.zero_le _, Nat.zero_le _⟩) ?_
  refine lv_isub hx hb dX0_passYear_19 ?_
  refine va_put (D := D) (ci := 0) (v := .int ((c_dr (C j)) - (lostX (c_dr (C j)) (lossC (C j) y0)))) (ty := .int) (C := RX0) (T := TX0) (N := 8) hx hb hts iX0 tyX0 tyX0_ok nmX0 hown hK hP hD hS (9 + j) (xp_at rfl hj) rfl 1 (by decide) (hts _ (List.mem_of_getElem? (i := 1) rfl)) (fun _ h9 => h9) rfl (by decide +kernel) rfl rfl (Nat.le_of_ble_eq_true rfl) dX0_passYear_20 (fun H locs hP hD hS => ?_)
  have hP : va_P D vwCl (xW y q (nI n) now rt tr (va_up C j (c_kd (C j), ((c_dr (C j)) - (lostX (c_dr (C j)) (lossC (C j) y0))), c_sg (C j), c_fl (C j), c_ok (C j), c_sm (C j), c_sw (C j), c_la (C j))) ah w mx rd ct g h) H := xp_P rfl hj hP
  have hD : va_D A (xW y q (nI n) now rt tr (va_up C j (c_kd (C j), ((c_dr (C j)) - (lostX (c_dr (C j)) (lossC (C j) y0))), c_sg (C j), c_fl (C j), c_ok (C j), c_sm (C j), c_sw (C j), c_la (C j))) ah w mx rd ct g h) := xp_D rfl hj hD
  refine lv_aload_n hx hb dX0_passYear_23 rfl (lv_at hl 1 rfl) ?_
  refine lv_dup hx hb dX0_passYear_24 rfl ?_
  refine va_get (D := D) (ci := 0) (v := .int (c_ok (C j))) (C := RX0) (T := TX0) (N := 8) hx hb hts iX0 hown hK hP (9 + j) (xp_atF rfl hj) rfl 4 (by decide) (hts _ (List.mem_of_getElem? (i := 2) rfl)) (fun _ h9 => h9) rfl dX0_passYear_25 ?_
  refine lv_iconst (v := 0) hx hb dX0_passYear_28 (by decide) ?_
  refine lv_iload_n hx hb dX0_passYear_29 rfl (lv_at hl 0 rfl) ?_
  refine lv_bipush (v := 10) hx hb dX0_passYear_30 (by decide) ?_
  refine lv_isub hx hb dX0_passYear_32 ?_
  refine wm_max hx hb (hml.trans hl.1.symm) hown (hts _ (List.mem_of_getElem? (i := 3) rfl)) (hts _ (List.mem_of_getElem? (i := 4) rfl)) (hts _ (List.mem_of_getElem? (i := 5) rfl)) (hts _ (List.mem_of_getElem? (i := 6) rfl)) (Nat.le_of_ble_eq_true rfl) (Nat.le_of_ble_eq_true rfl) (Nat.zero_le _) (Nat.zero_le _) dX0_passYear_33 ?_
  refine lv_iadd hx hb dX0_passYear_36 ?_
  refine va_put (D := D) (ci := 0) (v := .int ((c_ok (C j)) + (mxI 0 ((lossC (C j) y0) - 10)))) (ty := .int) (C := RX0) (T := TX0) (N := 8) hx hb hts iX0 tyX0 tyX0_ok nmX0 hown hK hP hD hS (9 + j) (xp_atF rfl hj) rfl 4 (by decide) (hts _ (List.mem_of_getElem? (i := 2) rfl)) (fun _ h9 => h9) rfl (by decide +kernel) rfl rfl (Nat.le_of_ble_eq_true rfl) dX0_passYear_37 (fun H locs hP hD hS => ?_)
  have hP : va_P D vwCl (xW y q (nI n) now rt tr (va_up C j (c_kd (C j), ((c_dr (C j)) - (lostX (c_dr (C j)) (lossC (C j) y0))), c_sg (C j), c_fl (C j), ((c_ok (C j)) + (mxI 0 ((lossC (C j) y0) - 10))), c_sm (C j), c_sw (C j), c_la (C j))) ah w mx rd ct g h) H := xp_PF rfl hj hP
  have hD : va_D A (xW y q (nI n) now rt tr (va_up C j (c_kd (C j), ((c_dr (C j)) - (lostX (c_dr (C j)) (lossC (C j) y0))), c_sg (C j), c_fl (C j), ((c_ok (C j)) + (mxI 0 ((lossC (C j) y0) - 10))), c_sm (C j), c_sw (C j), c_la (C j))) ah w mx rd ct g h) := xp_DF rfl hj hD
  refine lv_aload_n hx hb dX0_passYear_40 rfl (lv_at hl 1 rfl) ?_
  refine lv_dup hx hb dX0_passYear_41 rfl ?_
  refine va_get (D := D) (ci := 0) (v := .int (c_sm (C j))) (C := RX0) (T := TX0) (N := 8) hx hb hts iX0 hown hK hP (9 + j) (xp_atF rfl hj) rfl 5 (by decide) (hts _ (List.mem_of_getElem? (i := 7) rfl)) (fun _ h9 => h9) rfl dX0_passYear_42 ?_
  refine lv_aload_n hx hb dX0_passYear_45 rfl (lv_at hl 1 rfl) ?_
  refine va_get (D := D) (ci := 0) (v := .int (c_sm (C j))) (C := RX0) (T := TX0) (N := 8) hx hb hts iX0 hown hK hP (9 + j) (xp_atF rfl hj) rfl 5 (by decide) (hts _ (List.mem_of_getElem? (i := 7) rfl)) (fun _ h9 => h9) rfl dX0_passYear_46 ?_
  refine lv_bipush (v := 10) hx hb dX0_passYear_49 (by decide) ?_
  refine ro_i (va_runSN (As := [.int (c_sm (C j)), .int 10]) (rest := [.int (c_sm (C j)), .ref (q (9 + j))]) F (kX4_dividedUp l (c_sm (C j)) 10) ⟨va_cnB 2 hts gX0_passYear_X4_dividedUp_n34 rfl rfl rfl hN.1 (hts _ (List.mem_of_getElem? (i := 23) rfl)) hdX4_dividedUp ⟨(Nat.le_of_ble_eq_true rfl), (Nat.le_of_ble_eq_true rfl)⟩, (hts _ (List.mem_of_getElem? (i := 29) rfl)), trivial⟩ ⟨tr_blind, tr_pre⟩ rfl rfl hl.1 rfl (lv_room (Nat.le_of_ble_eq_true rfl)) dX0_passYear_51 ⟨Nat.zero_le _, Nat.zero_le _⟩) ?_
  refine lv_isub hx hb dX0_passYear_54 ?_
  refine va_put (D := D) (ci := 0) (v := .int ((c_sm (C j)) - (dUp (c_sm (C j)) 10))) (ty := .int) (C := RX0) (T := TX0) (N := 8) hx hb hts iX0 tyX0 tyX0_ok nmX0 hown hK hP hD hS (9 + j) (xp_atF rfl hj) rfl 5 (by decide) (hts _ (List.mem_of_getElem? (i := 7) rfl)) (fun _ h9 => h9) rfl (by decide +kernel) rfl rfl (Nat.le_of_ble_eq_true rfl) dX0_passYear_55 (fun H locs hP hD hS => ?_)
  have hP : va_P D vwCl (xW y q (nI n) now rt tr (va_up C j (c_kd (C j), ((c_dr (C j)) - (lostX (c_dr (C j)) (lossC (C j) y0))), c_sg (C j), c_fl (C j), ((c_ok (C j)) + (mxI 0 ((lossC (C j) y0) - 10))), ((c_sm (C j)) - (dUp (c_sm (C j)) 10)), c_sw (C j), c_la (C j))) ah w mx rd ct g h) H := xp_PF rfl hj hP
  have hD : va_D A (xW y q (nI n) now rt tr (va_up C j (c_kd (C j), ((c_dr (C j)) - (lostX (c_dr (C j)) (lossC (C j) y0))), c_sg (C j), c_fl (C j), ((c_ok (C j)) + (mxI 0 ((lossC (C j) y0) - 10))), ((c_sm (C j)) - (dUp (c_sm (C j)) 10)), c_sw (C j), c_la (C j))) ah w mx rd ct g h) := xp_DF rfl hj hD
  refine lv_aload_n hx hb dX0_passYear_58 rfl (lv_at hl 1 rfl) ?_
  refine lv_dup hx hb dX0_passYear_59 rfl ?_
  refine va_get (D := D) (ci := 0) (v := .int (c_sw (C j))) (C := RX0) (T := TX0) (N := 8) hx hb hts iX0 hown hK hP (9 + j) (xp_atF rfl hj) rfl 6 (by decide) (hts _ (List.mem_of_getElem? (i := 8) rfl)) (fun _ h9 => h9) rfl dX0_passYear_60 ?_
  refine lv_bipush (v := 6) hx hb dX0_passYear_63 (by decide) ?_
  refine lv_iconst (v := 2) hx hb dX0_passYear_65 (by decide) ?_
  refine lv_aload_n hx hb dX0_passYear_66 rfl (lv_at hl 1 rfl) ?_
  refine va_get (D := D) (ci := 0) (v := .int (c_kd (C j))) (C := RX0) (T := TX0) (N := 8) hx hb hts iX0 hown hK hP (9 + j) (xp_atF rfl hj) rfl 0 (by decide) (hts _ (List.mem_of_getElem? (i := 9) rfl)) (fun _ h9 => h9) rfl dX0_passYear_67 ?_
  refine lv_imul hx hb dX0_passYear_70 ?_
  refine lv_isub hx hb dX0_passYear_71 ?_
  refine lv_iadd hx hb dX0_passYear_72 ?_
  refine va_put (D := D) (ci := 0) (v := .int ((c_sw (C j)) + (6 - (2 * (c_kd (C j)))))) (ty := .int) (C := RX0) (T := TX0) (N := 8) hx hb hts iX0 tyX0 tyX0_ok nmX0 hown hK hP hD hS (9 + j) (xp_atF rfl hj) rfl 6 (by decide) (hts _ (List.mem_of_getElem? (i := 8) rfl)) (fun _ h9 => h9) rfl (by decide +kernel) rfl rfl (Nat.le_of_ble_eq_true rfl) dX0_passYear_73 (fun H locs hP hD hS => ?_)
  have hP : va_P D vwCl (xW y q (nI n) now rt tr (va_up C j (c_kd (C j), ((c_dr (C j)) - (lostX (c_dr (C j)) (lossC (C j) y0))), c_sg (C j), c_fl (C j), ((c_ok (C j)) + (mxI 0 ((lossC (C j) y0) - 10))), ((c_sm (C j)) - (dUp (c_sm (C j)) 10)), ((c_sw (C j)) + (6 - (2 * (c_kd (C j))))), c_la (C j))) ah w mx rd ct g h) H := xp_PF rfl hj hP
  have hD : va_D A (xW y q (nI n) now rt tr (va_up C j (c_kd (C j), ((c_dr (C j)) - (lostX (c_dr (C j)) (lossC (C j) y0))), c_sg (C j), c_fl (C j), ((c_ok (C j)) + (mxI 0 ((lossC (C j) y0) - 10))), ((c_sm (C j)) - (dUp (c_sm (C j)) 10)), ((c_sw (C j)) + (6 - (2 * (c_kd (C j))))), c_la (C j))) ah w mx rd ct g h) := xp_DF rfl hj hD
  refine lv_aload_n hx hb dX0_passYear_76 rfl (lv_at hl 1 rfl) ?_
  refine lv_sipush (v := 400) hx hb dX0_passYear_77 (by decide) ?_
  refine lv_aload_n hx hb dX0_passYear_80 rfl (lv_at hl 1 rfl) ?_
  refine va_get (D := D) (ci := 0) (v := .int (c_sg (C j))) (C := RX0) (T := TX0) (N := 8) hx hb hts iX0 hown hK hP (9 + j) (xp_atF rfl hj) rfl 2 (by decide) (hts _ (List.mem_of_getElem? (i := 10) rfl)) (fun _ h9 => h9) rfl dX0_passYear_81 ?_
  refine lv_iconst (v := 3) hx hb dX0_passYear_84 (by decide) ?_
  refine lv_isub hx hb dX0_passYear_85 ?_
  refine wm_max hx hb (hml.trans hl.1.symm) hown (hts _ (List.mem_of_getElem? (i := 3) rfl)) (hts _ (List.mem_of_getElem? (i := 4) rfl)) (hts _ (List.mem_of_getElem? (i := 5) rfl)) (hts _ (List.mem_of_getElem? (i := 6) rfl)) (Nat.le_of_ble_eq_true rfl) (Nat.le_of_ble_eq_true rfl) (Nat.zero_le _) (Nat.zero_le _) dX0_passYear_86 ?_
  refine va_put (D := D) (ci := 0) (v := .int (mxI 400 ((c_sg (C j)) - 3))) (ty := .int) (C := RX0) (T := TX0) (N := 8) hx hb hts iX0 tyX0 tyX0_ok nmX0 hown hK hP hD hS (9 + j) (xp_atF rfl hj) rfl 2 (by decide) (hts _ (List.mem_of_getElem? (i := 10) rfl)) (fun _ h9 => h9) rfl (by decide +kernel) rfl rfl (Nat.le_of_ble_eq_true rfl) dX0_passYear_89 (fun H locs hP hD hS => ?_)
  have hP : va_P D vwCl (xW y q (nI n) now rt tr (va_up C j (c_kd (C j), ((c_dr (C j)) - (lostX (c_dr (C j)) (lossC (C j) y0))), (mxI 400 ((c_sg (C j)) - 3)), c_fl (C j), ((c_ok (C j)) + (mxI 0 ((lossC (C j) y0) - 10))), ((c_sm (C j)) - (dUp (c_sm (C j)) 10)), ((c_sw (C j)) + (6 - (2 * (c_kd (C j))))), c_la (C j))) ah w mx rd ct g h) H := xp_PF rfl hj hP
  have hD : va_D A (xW y q (nI n) now rt tr (va_up C j (c_kd (C j), ((c_dr (C j)) - (lostX (c_dr (C j)) (lossC (C j) y0))), (mxI 400 ((c_sg (C j)) - 3)), c_fl (C j), ((c_ok (C j)) + (mxI 0 ((lossC (C j) y0) - 10))), ((c_sm (C j)) - (dUp (c_sm (C j)) 10)), ((c_sw (C j)) + (6 - (2 * (c_kd (C j))))), c_la (C j))) ah w mx rd ct g h) := xp_DF rfl hj hD
  exact mu_vret () hx hb hr hlocks hP hD hS dX0_passYear_92 trivial

set_option maxHeartbeats 4000000 in
set_option maxRecDepth 100000 in
theorem kX1_start (l : Launch) (D : va_G) (y : Nat → ClassId) (q : Nat → Nat) (n : Nat) (now rt : Int32) (tr : Int64) (C : Nat → CT) (ah w : Nat → Int32) (mx : MT) (rd ct : Int32) (g h : Nat → Int32) (sz : Nat) : Met l yX1_start wsX1_start ({ frames := 0, cells := 0, slots := 0, locals := 0 }) (va_Pc [.ref (q 5)] (muB D (xT y) (xW y q (nI n) now rt tr C ah w mx rd ct g h) sz eT)) (QV (σ := Unit) D (fun u => True) (fun u => (xW y q (nI n) now rt tr C ah w mx0 rd ct g h)) (va_A (xW y q (nI n) now rt tr C ah w mx rd ct g h) sz)) 0 0 (va_A (xW y q (nI n) now rt tr C ah w mx rd ct g h) sz) := by
  refine mu_start (Qc := QV (σ := Unit) D (fun u => True) (fun u => (xW y q (nI n) now rt tr C ah w mx0 rd ct g h))) (cc := cX1_start) (maxL := 1) (ret := none) (by decide) rfl (Nat.le_of_ble_eq_true rfl) ?_
  intro p e s m below meth c ls A hx hb hr hml hown hlocks hts hnm hA hP hK hN hD hE hAA hsz hl
  have hS : va_S A s.heap s.heap [] := va_S.rf
  have hown : s.vm.findClass RX1 = some m.cls := hown
  have F : CallFix p m c cX1_start 1 s [.ref (q 5)].toArray wsX1_start RX1 := ⟨hx, hb, hml, hown, hts⟩
  have hl : lv_has ls 1 [(0, .ref (q 5))] := hl
  have iX1 : ∀ w ∈ u_ws RX1 TX1 7, w ∈ wsX1_start := mem_pl [8, 9, 10, 11, 12, 13, 14] rfl
  refine lv_aload_n hx hb dX1_start_0 rfl (lv_at hl 0 rfl) ?_
  refine lv_iconst (v := 0) hx hb dX1_start_1 (by decide) ?_
  refine va_put (D := D) (ci := 1) (v := .int 0) (ty := .int) (C := RX1) (T := TX1) (N := 7) hx hb hts iX1 tyX1 tyX1_ok nmX1 hown hK hP hD hS 5 rfl rfl 0 (by decide) (hts _ (List.mem_of_getElem? (i := 1) rfl)) (fun _ h9 => h9) rfl (by decide +kernel) rfl rfl (Nat.le_of_ble_eq_true rfl) dX1_start_2 (fun H locs hP hD hS => ?_)
  have hP : va_P D vwCl (xW y q (nI n) now rt tr C ah w (0, m_sg mx, m_ok mx, m_sm mx, m_sw mx, m_co mx, m_ag mx) rd ct g h) H := hP
  have hD : va_D A (xW y q (nI n) now rt tr C ah w (0, m_sg mx, m_ok mx, m_sm mx, m_sw mx, m_co mx, m_ag mx) rd ct g h) := hD
  refine lv_aload_n hx hb dX1_start_5 rfl (lv_at hl 0 rfl) ?_
  refine lv_iconst (v := 0) hx hb dX1_start_6 (by decide) ?_
  refine va_put (D := D) (ci := 1) (v := .int 0) (ty := .int) (C := RX1) (T := TX1) (N := 7) hx hb hts iX1 tyX1 tyX1_ok nmX1 hown hK hP hD hS 5 rfl rfl 1 (by decide) (hts _ (List.mem_of_getElem? (i := 2) rfl)) (fun _ h9 => h9) rfl (by decide +kernel) rfl rfl (Nat.le_of_ble_eq_true rfl) dX1_start_7 (fun H locs hP hD hS => ?_)
  have hP : va_P D vwCl (xW y q (nI n) now rt tr C ah w (0, 0, m_ok mx, m_sm mx, m_sw mx, m_co mx, m_ag mx) rd ct g h) H := hP
  have hD : va_D A (xW y q (nI n) now rt tr C ah w (0, 0, m_ok mx, m_sm mx, m_sw mx, m_co mx, m_ag mx) rd ct g h) := hD
  refine lv_aload_n hx hb dX1_start_10 rfl (lv_at hl 0 rfl) ?_
  refine lv_iconst (v := 0) hx hb dX1_start_11 (by decide) ?_
  refine va_put (D := D) (ci := 1) (v := .int 0) (ty := .int) (C := RX1) (T := TX1) (N := 7) hx hb hts iX1 tyX1 tyX1_ok nmX1 hown hK hP hD hS 5 rfl rfl 2 (by decide) (hts _ (List.mem_of_getElem? (i := 3) rfl)) (fun _ h9 => h9) rfl (by decide +kernel) rfl rfl (Nat.le_of_ble_eq_true rfl) dX1_start_12 (fun H locs hP hD hS => ?_)
  have hP : va_P D vwCl (xW y q (nI n) now rt tr C ah w (0, 0, 0, m_sm mx, m_sw mx, m_co mx, m_ag mx) rd ct g h) H := hP
  have hD : va_D A (xW y q (nI n) now rt tr C ah w (0, 0, 0, m_sm mx, m_sw mx, m_co mx, m_ag mx) rd ct g h) := hD
  refine lv_aload_n hx hb dX1_start_15 rfl (lv_at hl 0 rfl) ?_
  refine lv_iconst (v := 0) hx hb dX1_start_16 (by decide) ?_
  refine va_put (D := D) (ci := 1) (v := .int 0) (ty := .int) (C := RX1) (T := TX1) (N := 7) hx hb hts iX1 tyX1 tyX1_ok nmX1 hown hK hP hD hS 5 rfl rfl 3 (by decide) (hts _ (List.mem_of_getElem? (i := 4) rfl)) (fun _ h9 => h9) rfl (by decide +kernel) rfl rfl (Nat.le_of_ble_eq_true rfl) dX1_start_17 (fun H locs hP hD hS => ?_)
  have hP : va_P D vwCl (xW y q (nI n) now rt tr C ah w (0, 0, 0, 0, m_sw mx, m_co mx, m_ag mx) rd ct g h) H := hP
  have hD : va_D A (xW y q (nI n) now rt tr C ah w (0, 0, 0, 0, m_sw mx, m_co mx, m_ag mx) rd ct g h) := hD
  refine lv_aload_n hx hb dX1_start_20 rfl (lv_at hl 0 rfl) ?_
  refine lv_iconst (v := 0) hx hb dX1_start_21 (by decide) ?_
  refine va_put (D := D) (ci := 1) (v := .int 0) (ty := .int) (C := RX1) (T := TX1) (N := 7) hx hb hts iX1 tyX1 tyX1_ok nmX1 hown hK hP hD hS 5 rfl rfl 4 (by decide) (hts _ (List.mem_of_getElem? (i := 5) rfl)) (fun _ h9 => h9) rfl (by decide +kernel) rfl rfl (Nat.le_of_ble_eq_true rfl) dX1_start_22 (fun H locs hP hD hS => ?_)
  have hP : va_P D vwCl (xW y q (nI n) now rt tr C ah w (0, 0, 0, 0, 0, m_co mx, m_ag mx) rd ct g h) H := hP
  have hD : va_D A (xW y q (nI n) now rt tr C ah w (0, 0, 0, 0, 0, m_co mx, m_ag mx) rd ct g h) := hD
  refine lv_aload_n hx hb dX1_start_25 rfl (lv_at hl 0 rfl) ?_
  refine lv_iconst (v := 0) hx hb dX1_start_26 (by decide) ?_
  refine va_put (D := D) (ci := 1) (v := .int 0) (ty := .int) (C := RX1) (T := TX1) (N := 7) hx hb hts iX1 tyX1 tyX1_ok nmX1 hown hK hP hD hS 5 rfl rfl 5 (by decide) (hts _ (List.mem_of_getElem? (i := 6) rfl)) (fun _ h9 => h9) rfl (by decide +kernel) rfl rfl (Nat.le_of_ble_eq_true rfl) dX1_start_27 (fun H locs hP hD hS => ?_)
  have hP : va_P D vwCl (xW y q (nI n) now rt tr C ah w (0, 0, 0, 0, 0, 0, m_ag mx) rd ct g h) H := hP
  have hD : va_D A (xW y q (nI n) now rt tr C ah w (0, 0, 0, 0, 0, 0, m_ag mx) rd ct g h) := hD
  refine lv_aload_n hx hb dX1_start_30 rfl (lv_at hl 0 rfl) ?_
  refine lv_bipush (v := 60) hx hb dX1_start_31 (by decide) ?_
  refine va_put (D := D) (ci := 1) (v := .int 60) (ty := .int) (C := RX1) (T := TX1) (N := 7) hx hb hts iX1 tyX1 tyX1_ok nmX1 hown hK hP hD hS 5 rfl rfl 6 (by decide) (hts _ (List.mem_of_getElem? (i := 7) rfl)) (fun _ h9 => h9) rfl (by decide +kernel) rfl rfl (Nat.le_of_ble_eq_true rfl) dX1_start_33 (fun H locs hP hD hS => ?_)
  have hP : va_P D vwCl (xW y q (nI n) now rt tr C ah w (0, 0, 0, 0, 0, 0, 60) rd ct g h) H := hP
  have hD : va_D A (xW y q (nI n) now rt tr C ah w (0, 0, 0, 0, 0, 0, 60) rd ct g h) := hD
  exact mu_vret () hx hb hr hlocks hP hD hS dX1_start_36 trivial

set_option maxHeartbeats 4000000 in
set_option maxRecDepth 100000 in
theorem kX1_add (l : Launch) (D : va_G) (y : Nat → ClassId) (q : Nat → Nat) (n : Nat) (now rt : Int32) (tr : Int64) (C : Nat → CT) (ah w : Nat → Int32) (mx : MT) (rd ct : Int32) (g h : Nat → Int32) (y0 : Int32) (j : Nat) (hj : j < 12) (sz : Nat) : Met l yX1_add wsX1_add ({ frames := 2, cells := 0, slots := 0, locals := 42 }) (va_Pc [.ref (q 5), .ref (q (9 + j)), .int y0] (muB D (xT y) (xW y q (nI n) now rt tr C ah w mx rd ct g h) sz eT)) (QV (σ := Unit) D (fun u => True) (fun u => (xW y q (nI n) now rt tr C ah w (addX mx (C j) y0) rd ct g h)) (va_A (xW y q (nI n) now rt tr C ah w mx rd ct g h) sz)) 0 0 (va_A (xW y q (nI n) now rt tr C ah w mx rd ct g h) sz) := by
  refine mu_start (Qc := QV (σ := Unit) D (fun u => True) (fun u => (xW y q (nI n) now rt tr C ah w (addX mx (C j) y0) rd ct g h))) (cc := cX1_add) (maxL := 3) (ret := none) (by decide) rfl (Nat.le_of_ble_eq_true rfl) ?_
  intro p e s m below meth c ls A hx hb hr hml hown hlocks hts hnm hA hP hK hN hD hE hAA hsz hl
  have hS : va_S A s.heap s.heap [] := va_S.rf
  have hown : s.vm.findClass RX1 = some m.cls := hown
  have F : CallFix p m c cX1_add 3 s [.ref (q 5), .ref (q (9 + j)), .int y0].toArray wsX1_add RX1 := ⟨hx, hb, hml, hown, hts⟩
  have hl : lv_has ls 3 [(0, .ref (q 5)), (1, .ref (q (9 + j))), (2, .int y0)] := hl
  have iX0 : ∀ w ∈ u_ws RX0 TX0 8, w ∈ wsX1_add := mem_pl [39, 40, 41, 42, 43, 44, 45, 46] rfl
  have iX1 : ∀ w ∈ u_ws RX1 TX1 7, w ∈ wsX1_add := mem_pl [32, 33, 34, 35, 36, 37, 38] rfl
  refine lv_aload_n hx hb dX1_add_0 rfl (lv_at hl 0 rfl) ?_
  refine lv_dup hx hb dX1_add_1 rfl ?_
  refine va_get (D := D) (ci := 1) (v := .int (m_dr mx)) (C := RX1) (T := TX1) (N := 7) hx hb hts iX1 hown hK hP 5 rfl rfl 0 (by decide) (hts _ (List.mem_of_getElem? (i := 1) rfl)) (fun _ h9 => h9) rfl dX1_add_2 ?_
  refine lv_aload_n hx hb dX1_add_5 rfl (lv_at hl 1 rfl) ?_
  refine va_get (D := D) (ci := 0) (v := .int (c_dr (C j))) (C := RX0) (T := TX0) (N := 8) hx hb hts iX0 hown hK hP (9 + j) (xp_at rfl hj) rfl 1 (by decide) (hts _ (List.mem_of_getElem? (i := 2) rfl)) (fun _ h9 => h9) rfl dX1_add_6 ?_
  refine lv_iadd hx hb dX1_add_9 ?_
  refine va_put (D := D) (ci := 1) (v := .int ((m_dr mx) + (c_dr (C j)))) (ty := .int) (C := RX1) (T := TX1) (N := 7) hx hb hts iX1 tyX1 tyX1_ok nmX1 hown hK hP hD hS 5 rfl rfl 0 (by decide) (hts _ (List.mem_of_getElem? (i := 1) rfl)) (fun _ h9 => h9) rfl (by decide +kernel) rfl rfl (Nat.le_of_ble_eq_true rfl) dX1_add_10 (fun H locs hP hD hS => ?_)
  have hP : va_P D vwCl (xW y q (nI n) now rt tr C ah w (((m_dr mx) + (c_dr (C j))), m_sg mx, m_ok mx, m_sm mx, m_sw mx, m_co mx, m_ag mx) rd ct g h) H := hP
  have hD : va_D A (xW y q (nI n) now rt tr C ah w (((m_dr mx) + (c_dr (C j))), m_sg mx, m_ok mx, m_sm mx, m_sw mx, m_co mx, m_ag mx) rd ct g h) := hD
  refine lv_aload_n hx hb dX1_add_13 rfl (lv_at hl 0 rfl) ?_
  refine lv_dup hx hb dX1_add_14 rfl ?_
  refine va_get (D := D) (ci := 1) (v := .int (m_sg mx)) (C := RX1) (T := TX1) (N := 7) hx hb hts iX1 hown hK hP 5 rfl rfl 1 (by decide) (hts _ (List.mem_of_getElem? (i := 3) rfl)) (fun _ h9 => h9) rfl dX1_add_15 ?_
  refine lv_aload_n hx hb dX1_add_18 rfl (lv_at hl 1 rfl) ?_
  refine va_get (D := D) (ci := 0) (v := .int (c_dr (C j))) (C := RX0) (T := TX0) (N := 8) hx hb hts iX0 hown hK hP (9 + j) (xp_at rfl hj) rfl 1 (by decide) (hts _ (List.mem_of_getElem? (i := 2) rfl)) (fun _ h9 => h9) rfl dX1_add_19 ?_
  refine lv_aload_n hx hb dX1_add_22 rfl (lv_at hl 1 rfl) ?_
  refine va_get (D := D) (ci := 0) (v := .int (c_sg (C j))) (C := RX0) (T := TX0) (N := 8) hx hb hts iX0 hown hK hP (9 + j) (xp_at rfl hj) rfl 2 (by decide) (hts _ (List.mem_of_getElem? (i := 4) rfl)) (fun _ h9 => h9) rfl dX1_add_23 ?_
  refine lv_imul hx hb dX1_add_26 ?_
  refine lv_iadd hx hb dX1_add_27 ?_
  refine va_put (D := D) (ci := 1) (v := .int ((m_sg mx) + ((c_dr (C j)) * (c_sg (C j))))) (ty := .int) (C := RX1) (T := TX1) (N := 7) hx hb hts iX1 tyX1 tyX1_ok nmX1 hown hK hP hD hS 5 rfl rfl 1 (by decide) (hts _ (List.mem_of_getElem? (i := 3) rfl)) (fun _ h9 => h9) rfl (by decide +kernel) rfl rfl (Nat.le_of_ble_eq_true rfl) dX1_add_28 (fun H locs hP hD hS => ?_)
  have hP : va_P D vwCl (xW y q (nI n) now rt tr C ah w (((m_dr mx) + (c_dr (C j))), ((m_sg mx) + ((c_dr (C j)) * (c_sg (C j)))), m_ok mx, m_sm mx, m_sw mx, m_co mx, m_ag mx) rd ct g h) H := hP
  have hD : va_D A (xW y q (nI n) now rt tr C ah w (((m_dr mx) + (c_dr (C j))), ((m_sg mx) + ((c_dr (C j)) * (c_sg (C j)))), m_ok mx, m_sm mx, m_sw mx, m_co mx, m_ag mx) rd ct g h) := hD
  refine lv_aload_n hx hb dX1_add_31 rfl (lv_at hl 0 rfl) ?_
  refine lv_dup hx hb dX1_add_32 rfl ?_
  refine va_get (D := D) (ci := 1) (v := .int (m_ok mx)) (C := RX1) (T := TX1) (N := 7) hx hb hts iX1 hown hK hP 5 rfl rfl 2 (by decide) (hts _ (List.mem_of_getElem? (i := 5) rfl)) (fun _ h9 => h9) rfl dX1_add_33 ?_
  refine lv_aload_n hx hb dX1_add_36 rfl (lv_at hl 1 rfl) ?_
  refine va_get (D := D) (ci := 0) (v := .int (c_dr (C j))) (C := RX0) (T := TX0) (N := 8) hx hb hts iX0 hown hK hP (9 + j) (xp_at rfl hj) rfl 1 (by decide) (hts _ (List.mem_of_getElem? (i := 2) rfl)) (fun _ h9 => h9) rfl dX1_add_37 ?_
  refine lv_aload_n hx hb dX1_add_40 rfl (lv_at hl 1 rfl) ?_
  refine va_get (D := D) (ci := 0) (v := .int (c_ok (C j))) (C := RX0) (T := TX0) (N := 8) hx hb hts iX0 hown hK hP (9 + j) (xp_at rfl hj) rfl 4 (by decide) (hts _ (List.mem_of_getElem? (i := 6) rfl)) (fun _ h9 => h9) rfl dX1_add_41 ?_
  refine lv_imul hx hb dX1_add_44 ?_
  refine lv_iadd hx hb dX1_add_45 ?_
  refine va_put (D := D) (ci := 1) (v := .int ((m_ok mx) + ((c_dr (C j)) * (c_ok (C j))))) (ty := .int) (C := RX1) (T := TX1) (N := 7) hx hb hts iX1 tyX1 tyX1_ok nmX1 hown hK hP hD hS 5 rfl rfl 2 (by decide) (hts _ (List.mem_of_getElem? (i := 5) rfl)) (fun _ h9 => h9) rfl (by decide +kernel) rfl rfl (Nat.le_of_ble_eq_true rfl) dX1_add_46 (fun H locs hP hD hS => ?_)
  have hP : va_P D vwCl (xW y q (nI n) now rt tr C ah w (((m_dr mx) + (c_dr (C j))), ((m_sg mx) + ((c_dr (C j)) * (c_sg (C j)))), ((m_ok mx) + ((c_dr (C j)) * (c_ok (C j)))), m_sm mx, m_sw mx, m_co mx, m_ag mx) rd ct g h) H := hP
  have hD : va_D A (xW y q (nI n) now rt tr C ah w (((m_dr mx) + (c_dr (C j))), ((m_sg mx) + ((c_dr (C j)) * (c_sg (C j)))), ((m_ok mx) + ((c_dr (C j)) * (c_ok (C j)))), m_sm mx, m_sw mx, m_co mx, m_ag mx) rd ct g h) := hD
  refine lv_aload_n hx hb dX1_add_49 rfl (lv_at hl 0 rfl) ?_
  refine lv_dup hx hb dX1_add_50 rfl ?_
  refine va_get (D := D) (ci := 1) (v := .int (m_sm mx)) (C := RX1) (T := TX1) (N := 7) hx hb hts iX1 hown hK hP 5 rfl rfl 3 (by decide) (hts _ (List.mem_of_getElem? (i := 7) rfl)) (fun _ h9 => h9) rfl dX1_add_51 ?_
  refine lv_aload_n hx hb dX1_add_54 rfl (lv_at hl 1 rfl) ?_
  refine va_get (D := D) (ci := 0) (v := .int (c_dr (C j))) (C := RX0) (T := TX0) (N := 8) hx hb hts iX0 hown hK hP (9 + j) (xp_at rfl hj) rfl 1 (by decide) (hts _ (List.mem_of_getElem? (i := 2) rfl)) (fun _ h9 => h9) rfl dX1_add_55 ?_
  refine lv_aload_n hx hb dX1_add_58 rfl (lv_at hl 1 rfl) ?_
  refine va_get (D := D) (ci := 0) (v := .int (c_sm (C j))) (C := RX0) (T := TX0) (N := 8) hx hb hts iX0 hown hK hP (9 + j) (xp_at rfl hj) rfl 5 (by decide) (hts _ (List.mem_of_getElem? (i := 8) rfl)) (fun _ h9 => h9) rfl dX1_add_59 ?_
  refine lv_imul hx hb dX1_add_62 ?_
  refine lv_iadd hx hb dX1_add_63 ?_
  refine va_put (D := D) (ci := 1) (v := .int ((m_sm mx) + ((c_dr (C j)) * (c_sm (C j))))) (ty := .int) (C := RX1) (T := TX1) (N := 7) hx hb hts iX1 tyX1 tyX1_ok nmX1 hown hK hP hD hS 5 rfl rfl 3 (by decide) (hts _ (List.mem_of_getElem? (i := 7) rfl)) (fun _ h9 => h9) rfl (by decide +kernel) rfl rfl (Nat.le_of_ble_eq_true rfl) dX1_add_64 (fun H locs hP hD hS => ?_)
  have hP : va_P D vwCl (xW y q (nI n) now rt tr C ah w (((m_dr mx) + (c_dr (C j))), ((m_sg mx) + ((c_dr (C j)) * (c_sg (C j)))), ((m_ok mx) + ((c_dr (C j)) * (c_ok (C j)))), ((m_sm mx) + ((c_dr (C j)) * (c_sm (C j)))), m_sw mx, m_co mx, m_ag mx) rd ct g h) H := hP
  have hD : va_D A (xW y q (nI n) now rt tr C ah w (((m_dr mx) + (c_dr (C j))), ((m_sg mx) + ((c_dr (C j)) * (c_sg (C j)))), ((m_ok mx) + ((c_dr (C j)) * (c_ok (C j)))), ((m_sm mx) + ((c_dr (C j)) * (c_sm (C j)))), m_sw mx, m_co mx, m_ag mx) rd ct g h) := hD
  refine lv_aload_n hx hb dX1_add_67 rfl (lv_at hl 0 rfl) ?_
  refine lv_dup hx hb dX1_add_68 rfl ?_
  refine va_get (D := D) (ci := 1) (v := .int (m_sw mx)) (C := RX1) (T := TX1) (N := 7) hx hb hts iX1 hown hK hP 5 rfl rfl 4 (by decide) (hts _ (List.mem_of_getElem? (i := 9) rfl)) (fun _ h9 => h9) rfl dX1_add_69 ?_
  refine lv_aload_n hx hb dX1_add_72 rfl (lv_at hl 1 rfl) ?_
  refine va_get (D := D) (ci := 0) (v := .int (c_dr (C j))) (C := RX0) (T := TX0) (N := 8) hx hb hts iX0 hown hK hP (9 + j) (xp_at rfl hj) rfl 1 (by decide) (hts _ (List.mem_of_getElem? (i := 2) rfl)) (fun _ h9 => h9) rfl dX1_add_73 ?_
  refine lv_aload_n hx hb dX1_add_76 rfl (lv_at hl 1 rfl) ?_
  refine va_get (D := D) (ci := 0) (v := .int (c_sw (C j))) (C := RX0) (T := TX0) (N := 8) hx hb hts iX0 hown hK hP (9 + j) (xp_at rfl hj) rfl 6 (by decide) (hts _ (List.mem_of_getElem? (i := 10) rfl)) (fun _ h9 => h9) rfl dX1_add_77 ?_
  refine lv_imul hx hb dX1_add_80 ?_
  refine lv_iadd hx hb dX1_add_81 ?_
  refine va_put (D := D) (ci := 1) (v := .int ((m_sw mx) + ((c_dr (C j)) * (c_sw (C j))))) (ty := .int) (C := RX1) (T := TX1) (N := 7) hx hb hts iX1 tyX1 tyX1_ok nmX1 hown hK hP hD hS 5 rfl rfl 4 (by decide) (hts _ (List.mem_of_getElem? (i := 9) rfl)) (fun _ h9 => h9) rfl (by decide +kernel) rfl rfl (Nat.le_of_ble_eq_true rfl) dX1_add_82 (fun H locs hP hD hS => ?_)
  have hP : va_P D vwCl (xW y q (nI n) now rt tr C ah w (((m_dr mx) + (c_dr (C j))), ((m_sg mx) + ((c_dr (C j)) * (c_sg (C j)))), ((m_ok mx) + ((c_dr (C j)) * (c_ok (C j)))), ((m_sm mx) + ((c_dr (C j)) * (c_sm (C j)))), ((m_sw mx) + ((c_dr (C j)) * (c_sw (C j)))), m_co mx, m_ag mx) rd ct g h) H := hP
  have hD : va_D A (xW y q (nI n) now rt tr C ah w (((m_dr mx) + (c_dr (C j))), ((m_sg mx) + ((c_dr (C j)) * (c_sg (C j)))), ((m_ok mx) + ((c_dr (C j)) * (c_ok (C j)))), ((m_sm mx) + ((c_dr (C j)) * (c_sm (C j)))), ((m_sw mx) + ((c_dr (C j)) * (c_sw (C j)))), m_co mx, m_ag mx) rd ct g h) := hD
  refine lv_aload_n hx hb dX1_add_85 rfl (lv_at hl 0 rfl) ?_
  refine lv_dup hx hb dX1_add_86 rfl ?_
  refine va_get (D := D) (ci := 1) (v := .int (m_co mx)) (C := RX1) (T := TX1) (N := 7) hx hb hts iX1 hown hK hP 5 rfl rfl 5 (by decide) (hts _ (List.mem_of_getElem? (i := 11) rfl)) (fun _ h9 => h9) rfl dX1_add_87 ?_
  refine lv_aload_n hx hb dX1_add_90 rfl (lv_at hl 1 rfl) ?_
  refine lv_iload_n hx hb dX1_add_91 rfl (lv_at hl 2 rfl) ?_
  refine ro_i (va_runV (As := [.int y0]) (rest := [.int (m_co mx), .ref (q 5)]) F (kX0_cost l D y q n now rt tr C ah w (((m_dr mx) + (c_dr (C j))), ((m_sg mx) + ((c_dr (C j)) * (c_sg (C j)))), ((m_ok mx) + ((c_dr (C j)) * (c_ok (C j)))), ((m_sm mx) + ((c_dr (C j)) * (c_sm (C j)))), ((m_sw mx) + ((c_dr (C j)) * (c_sw (C j)))), m_co mx, m_ag mx) rd ct g h y0 j hj) (cwV 1 hts gX1_add_X0_cost rfl rfl rfl ⟨rfl, hdX0_cost⟩ ⟨(Nat.le_of_ble_eq_true rfl), (Nat.le_of_ble_eq_true rfl)⟩) ⟨rdB_blind, va_recv hK hP (ci := 0) (q0 := (9 + j)) rfl (xp_at rfl hj), rdB_pre hP hK hN⟩ rfl rfl hl.1 rfl (lv_room (Nat.le_of_ble_eq_true rfl)) dX1_add_92 ⟨Nat.zero_le _, Nat.zero_le _⟩) ?_
  refine lv_iadd hx hb dX1_add_95 ?_
  refine va_put (D := D) (ci := 1) (v := .int ((m_co mx) + (costX (C j) y0))) (ty := .int) (C := RX1) (T := TX1) (N := 7) hx hb hts iX1 tyX1 tyX1_ok nmX1 hown hK hP hD hS 5 rfl rfl 5 (by decide) (hts _ (List.mem_of_getElem? (i := 11) rfl)) (fun _ h9 => h9) rfl (by decide +kernel) rfl rfl (Nat.le_of_ble_eq_true rfl) dX1_add_96 (fun H locs hP hD hS => ?_)
  have hP : va_P D vwCl (xW y q (nI n) now rt tr C ah w (((m_dr mx) + (c_dr (C j))), ((m_sg mx) + ((c_dr (C j)) * (c_sg (C j)))), ((m_ok mx) + ((c_dr (C j)) * (c_ok (C j)))), ((m_sm mx) + ((c_dr (C j)) * (c_sm (C j)))), ((m_sw mx) + ((c_dr (C j)) * (c_sw (C j)))), ((m_co mx) + (costX (C j) y0)), m_ag mx) rd ct g h) H := hP
  have hD : va_D A (xW y q (nI n) now rt tr C ah w (((m_dr mx) + (c_dr (C j))), ((m_sg mx) + ((c_dr (C j)) * (c_sg (C j)))), ((m_ok mx) + ((c_dr (C j)) * (c_ok (C j)))), ((m_sm mx) + ((c_dr (C j)) * (c_sm (C j)))), ((m_sw mx) + ((c_dr (C j)) * (c_sw (C j)))), ((m_co mx) + (costX (C j) y0)), m_ag mx) rd ct g h) := hD
  refine lv_aload_n hx hb dX1_add_99 rfl (lv_at hl 0 rfl) ?_
  refine lv_aload_n hx hb dX1_add_100 rfl (lv_at hl 0 rfl) ?_
  refine va_get (D := D) (ci := 1) (v := .int (m_ag mx)) (C := RX1) (T := TX1) (N := 7) hx hb hts iX1 hown hK hP 5 rfl rfl 6 (by decide) (hts _ (List.mem_of_getElem? (i := 12) rfl)) (fun _ h9 => h9) rfl dX1_add_101 ?_
  refine lv_aload_n hx hb dX1_add_104 rfl (lv_at hl 1 rfl) ?_
  refine lv_iload_n hx hb dX1_add_105 rfl (lv_at hl 2 rfl) ?_
  refine ro_i (va_runV (As := [.int y0]) (rest := [.int (m_ag mx), .ref (q 5)]) F (kX0_age l D y q n now rt tr C ah w (((m_dr mx) + (c_dr (C j))), ((m_sg mx) + ((c_dr (C j)) * (c_sg (C j)))), ((m_ok mx) + ((c_dr (C j)) * (c_ok (C j)))), ((m_sm mx) + ((c_dr (C j)) * (c_sm (C j)))), ((m_sw mx) + ((c_dr (C j)) * (c_sw (C j)))), ((m_co mx) + (costX (C j) y0)), m_ag mx) rd ct g h y0 j hj) (cwV 1 hts gX1_add_X0_age rfl rfl rfl ⟨rfl, hdX0_age⟩ ⟨(Nat.le_of_ble_eq_true rfl), (Nat.le_of_ble_eq_true rfl)⟩) ⟨rdB_blind, va_recv hK hP (ci := 0) (q0 := (9 + j)) rfl (xp_at rfl hj), rdB_pre hP hK hN⟩ rfl rfl hl.1 rfl (lv_room (Nat.le_of_ble_eq_true rfl)) dX1_add_106 ⟨Nat.zero_le _, Nat.zero_le _⟩) ?_
  refine wm_min hx hb (hml.trans hl.1.symm) hown (hts _ (List.mem_of_getElem? (i := 13) rfl)) (hts _ (List.mem_of_getElem? (i := 14) rfl)) (hts _ (List.mem_of_getElem? (i := 15) rfl)) (hts _ (List.mem_of_getElem? (i := 16) rfl)) (Nat.le_of_ble_eq_true rfl) (Nat.le_of_ble_eq_true rfl) (Nat.zero_le _) (Nat.zero_le _) dX1_add_109 ?_
  refine va_put (D := D) (ci := 1) (v := .int (mnI (m_ag mx) (y0 - c_la (C j)))) (ty := .int) (C := RX1) (T := TX1) (N := 7) hx hb hts iX1 tyX1 tyX1_ok nmX1 hown hK hP hD hS 5 rfl rfl 6 (by decide) (hts _ (List.mem_of_getElem? (i := 12) rfl)) (fun _ h9 => h9) rfl (by decide +kernel) rfl rfl (Nat.le_of_ble_eq_true rfl) dX1_add_112 (fun H locs hP hD hS => ?_)
  have hP : va_P D vwCl (xW y q (nI n) now rt tr C ah w (((m_dr mx) + (c_dr (C j))), ((m_sg mx) + ((c_dr (C j)) * (c_sg (C j)))), ((m_ok mx) + ((c_dr (C j)) * (c_ok (C j)))), ((m_sm mx) + ((c_dr (C j)) * (c_sm (C j)))), ((m_sw mx) + ((c_dr (C j)) * (c_sw (C j)))), ((m_co mx) + (costX (C j) y0)), (mnI (m_ag mx) (y0 - c_la (C j)))) rd ct g h) H := hP
  have hD : va_D A (xW y q (nI n) now rt tr C ah w (((m_dr mx) + (c_dr (C j))), ((m_sg mx) + ((c_dr (C j)) * (c_sg (C j)))), ((m_ok mx) + ((c_dr (C j)) * (c_ok (C j)))), ((m_sm mx) + ((c_dr (C j)) * (c_sm (C j)))), ((m_sw mx) + ((c_dr (C j)) * (c_sw (C j)))), ((m_co mx) + (costX (C j) y0)), (mnI (m_ag mx) (y0 - c_la (C j)))) rd ct g h) := hD
  exact mu_vret () hx hb hr hlocks hP hD hS dX1_add_115 trivial

set_option maxHeartbeats 4000000 in
set_option maxRecDepth 100000 in
theorem kX4_passYear (l : Launch) (D : va_G) (y : Nat → ClassId) (q : Nat → Nat) (n : Nat) (now rt : Int32) (tr : Int64) (C : Nat → CT) (ah w : Nat → Int32) (mx : MT) (rd ct : Int32) (g h : Nat → Int32) (sz : Nat) (hn : n ≤ 12) : Met l yX4_passYear wsX4_passYear ({ frames := 4, cells := 0, slots := 0, locals := 88 }) (va_Pc [.ref (q 0)] (muB D (xT y) (xW y q (nI n) now rt tr C ah w mx rd ct g h) sz eT)) (QV (σ := Unit) D (fun u => True) (fun u => (xW y q (nI n) (now + 1) rt tr (yrC C now n) ah w mx rd ct g h)) (va_A (xW y q (nI n) now rt tr C ah w mx rd ct g h) sz)) 0 0 (va_A (xW y q (nI n) now rt tr C ah w mx rd ct g h) sz) := by
  refine mu_start (Qc := QV (σ := Unit) D (fun u => True) (fun u => (xW y q (nI n) (now + 1) rt tr (yrC C now n) ah w mx rd ct g h))) (cc := cX4_passYear) (maxL := 2) (ret := none) (by decide) rfl (Nat.le_of_ble_eq_true rfl) ?_
  intro p e s m below meth c ls A hx hb hr hml hown hlocks hts hnm hA hP hK hN hD hE hAA hsz hl
  have hS : va_S A s.heap s.heap [] := va_S.rf
  have hown : s.vm.findClass RX4 = some m.cls := hown
  have F : CallFix p m c cX4_passYear 2 s [.ref (q 0)].toArray wsX4_passYear RX4 := ⟨hx, hb, hml, hown, hts⟩
  have hl : lv_has ls 2 [(0, .ref (q 0))] := hl
  have iX0 : ∀ w ∈ u_ws RX0 TX0 8, w ∈ wsX4_passYear := mem_pl [48, 49, 50, 51, 52, 53, 54, 55] rfl
  have iX4 : ∀ w ∈ u_ws RX4 TX4 9, w ∈ wsX4_passYear := mem_pl [39, 40, 41, 42, 43, 44, 45, 46, 47] rfl
  refine lv_iconst (v := 0) hx hb dX4_passYear_0 (by decide) ?_
  refine lv_istore_n (lv' := [(1, .int 0), (0, .ref (q 0))]) hx hb dX4_passYear_1 rfl hl (by decide) rfl (fun ls hl => ?_)
  refine W.lpW (pc := 2) (τ := Nat) (D := D) (A := A) (H0 := s.heap) (cl := vwCl) (fun i => i ≤ n) (fun i => (xW y q (nI n) now rt tr (yrC C now i) ah w mx rd ct g h)) (fun i ls => lv_has ls 2 [(0, .ref (q 0)), (1, .int (nI i))]) (fun i => n - i) ?_ 0 ls (Nat.zero_le _) (lv_sub hl [1, 0] rfl) (by show va_P D vwCl (xW y q (nI n) now rt tr (yrC C now 0) ah w mx rd ct g h) _; rw [yrC_0]; exact hP) (by show va_D A (xW y q (nI n) now rt tr (yrC C now 0) ah w mx rd ct g h); rw [yrC_0]; exact hD) hS
  intro i ls H locs hi hl hP hD hS ihi
  have hi : i ≤ n := hi
  have hl : lv_has ls 2 [(0, .ref (q 0)), (1, .int (nI i))] := hl
  have hP : va_P D vwCl (xW y q (nI n) now rt tr (yrC C now i) ah w mx rd ct g h) H := hP
  have hD : va_D A (xW y q (nI n) now rt tr (yrC C now i) ah w mx rd ct g h) := hD
  refine lv_iload_n hx hb dX4_passYear_2 rfl (lv_at hl 1 rfl) ?_
  refine lv_aload_n hx hb dX4_passYear_3 rfl (lv_at hl 0 rfl) ?_
  refine va_get (D := D) (ci := 4) (v := .int (nI n)) (C := RX4) (T := TX4) (N := 9) hx hb hts iX4 hown hK hP 0 rfl rfl 5 (by decide) (hts _ (List.mem_of_getElem? (i := 1) rfl)) (fun _ h9 => h9) rfl dX4_passYear_4 ?_
  refine lv_icmp_ge (tgt := 41) hx hb dX4_passYear_7 (by decide) (fun c_1 => ?_) (fun c_1 => ?_)
  · skip
    have c_1 : n ≤ i := (nI_leI (a := n) (b := i) (by omega) (by omega)).mp c_1
    have hin : i = n := Nat.le_antisymm hi c_1
    rw [hin] at hP hD
    refine lv_aload_n hx hb dX4_passYear_41 rfl (lv_at hl 0 rfl) ?_
    refine lv_dup hx hb dX4_passYear_42 rfl ?_
    refine va_get (D := D) (ci := 4) (v := .int now) (C := RX4) (T := TX4) (N := 9) hx hb hts iX4 hown hK hP 0 rfl rfl 6 (by decide) (hts _ (List.mem_of_getElem? (i := 4) rfl)) (fun _ h9 => h9) rfl dX4_passYear_43 ?_
    refine lv_iconst (v := 1) hx hb dX4_passYear_46 (by decide) ?_
    refine lv_iadd hx hb dX4_passYear_47 ?_
    refine va_put (D := D) (ci := 4) (v := .int (now + 1)) (ty := .int) (C := RX4) (T := TX4) (N := 9) hx hb hts iX4 tyX4 tyX4_ok nmX4 hown hK hP hD hS 0 rfl rfl 6 (by decide) (hts _ (List.mem_of_getElem? (i := 4) rfl)) (fun _ h9 => h9) rfl (by decide +kernel) rfl rfl (Nat.le_of_ble_eq_true rfl) dX4_passYear_48 (fun H locs hP hD hS => ?_)
    have hP : va_P D vwCl (xW y q (nI n) (now + 1) rt tr (yrC C now n) ah w mx rd ct g h) H := hP
    have hD : va_D A (xW y q (nI n) (now + 1) rt tr (yrC C now n) ah w mx rd ct g h) := hD
    exact mu_vret () hx hb hr hlocks hP hD hS dX4_passYear_51 trivial
  · skip
    have c_1 : ¬ n ≤ i := fun h => c_1 ((nI_leI (a := n) (b := i) (by omega) (by omega)).mpr h)
    refine lv_aload_n hx hb dX4_passYear_10 rfl (lv_at hl 0 rfl) ?_
    refine va_get (D := D) (ci := 4) (v := .ref (q 1)) (C := RX4) (T := TX4) (N := 9) hx hb hts iX4 hown hK hP 0 rfl rfl 0 (by decide) (hts _ (List.mem_of_getElem? (i := 2) rfl)) (fun _ h9 => h9) rfl dX4_passYear_11 ?_
    refine lv_iload_n hx hb dX4_passYear_14 rfl (lv_at hl 1 rfl) ?_
    refine wa_aldq hx hb hK hP 1 0 rfl rfl i rfl (by omega) (by decide) rfl dX4_passYear_15 ?_
    refine va_get (D := D) (ci := 0) (v := .int (c_dr ((yrC C now i) i))) (C := RX0) (T := TX0) (N := 8) hx hb hts iX0 hown hK hP (9 + i) (xp_at rfl (by omega)) rfl 1 (by decide) (hts _ (List.mem_of_getElem? (i := 3) rfl)) (fun _ h9 => h9) rfl dX4_passYear_16 ?_
    refine lv_if_le (tgt := 35) hx hb dX4_passYear_19 (by decide) (fun c_2 => ?_) (fun c_2 => ?_)
    · skip
      refine lv_iinc (v := (nI i + 1)) (lv' := [(1, .int (nI i + 1)), (0, .ref (q 0))]) hx hb dX4_passYear_35 hl (k := 1) rfl rfl (by decide) rfl (fun ls hl => ?_)
      refine lv_goto (tgt := 2) hx hb dX4_passYear_38 (by decide) ?_
      rw [yrC_i] at c_2
      rw [yrC_n c_2] at hP hD
      have hP : va_P D vwCl (xW y q (nI n) now rt tr (yrC C now (i + 1)) ah w mx rd ct g h) H := hP
      have hD : va_D A (xW y q (nI n) now rt tr (yrC C now (i + 1)) ah w mx rd ct g h) := hD
      exact ihi (i + 1) ls H locs (by show n - (i + 1) < n - i; omega) (by show i + 1 ≤ n; omega) (lv_sub hl [1, 0] (by
        show ([(0, .ref (q 0)), (1, .int (nI i + 1))] : List (Nat × Value)) = [(0, .ref (q 0)), (1, .int (nI (i + 1)))]
        rw [← nI_1])) hP hD hS
    · skip
      refine lv_aload_n hx hb dX4_passYear_22 rfl (lv_at hl 0 rfl) ?_
      refine va_get (D := D) (ci := 4) (v := .ref (q 1)) (C := RX4) (T := TX4) (N := 9) hx hb hts iX4 hown hK hP 0 rfl rfl 0 (by decide) (hts _ (List.mem_of_getElem? (i := 2) rfl)) (fun _ h9 => h9) rfl dX4_passYear_23 ?_
      refine lv_iload_n hx hb dX4_passYear_26 rfl (lv_at hl 1 rfl) ?_
      refine wa_aldq hx hb hK hP 1 0 rfl rfl i rfl (by omega) (by decide) rfl dX4_passYear_27 ?_
      refine lv_aload_n hx hb dX4_passYear_28 rfl (lv_at hl 0 rfl) ?_
      refine va_get (D := D) (ci := 4) (v := .int now) (C := RX4) (T := TX4) (N := 9) hx hb hts iX4 hown hK hP 0 rfl rfl 6 (by decide) (hts _ (List.mem_of_getElem? (i := 4) rfl)) (fun _ h9 => h9) rfl dX4_passYear_29 ?_
      refine muF_v (va_runV (As := [.int now]) (rest := []) F (kX0_passYear l D y q n now rt tr (yrC C now i) ah w mx rd ct g h now i (by omega) _) (cwV 1 hts gX4_passYear_X0_passYear rfl rfl rfl ⟨rfl, hdX0_passYear⟩ ⟨(Nat.le_of_ble_eq_true rfl), (Nat.le_of_ble_eq_true rfl)⟩) ⟨(muB_blind (fun _ _ _ _ _ => trivial)), va_recv hK hP (ci := 0) (q0 := (9 + i)) rfl (xp_at rfl (by omega)), muF_pre hP hK hN hD (fun _ _ _ => trivial)⟩ rfl rfl hl.1 rfl (lv_room (Nat.le_of_ble_eq_true rfl)) dX4_passYear_32 ⟨Nat.zero_le _, Nat.zero_le _⟩) hP hD hS hA (fun u_4 H locs w_5 hP hD hS => ?_)
      have hP : va_P D vwCl (xW y q (nI n) now rt tr (va_up (yrC C now i) i (yearC ((yrC C now i) i) now)) ah w mx rd ct g h) H := hP
      have hD : va_D A (xW y q (nI n) now rt tr (va_up (yrC C now i) i (yearC ((yrC C now i) i) now)) ah w mx rd ct g h) := hD
      refine lv_iinc (v := (nI i + 1)) (lv' := [(1, .int (nI i + 1)), (0, .ref (q 0))]) hx hb dX4_passYear_35 hl (k := 1) rfl rfl (by decide) rfl (fun ls hl => ?_)
      refine lv_goto (tgt := 2) hx hb dX4_passYear_38 (by decide) ?_
      rw [yrC_i] at c_2
      rw [yrC_t c_2] at hP hD
      have hP : va_P D vwCl (xW y q (nI n) now rt tr (yrC C now (i + 1)) ah w mx rd ct g h) H := hP
      have hD : va_D A (xW y q (nI n) now rt tr (yrC C now (i + 1)) ah w mx rd ct g h) := hD
      exact ihi (i + 1) ls H locs (by show n - (i + 1) < n - i; omega) (by show i + 1 ≤ n; omega) (lv_sub hl [1, 0] (by
        show ([(0, .ref (q 0)), (1, .int (nI i + 1))] : List (Nat × Value)) = [(0, .ref (q 0)), (1, .int (nI (i + 1)))]
        rw [← nI_1])) hP hD hS

theorem in1_of {x : Int32} (h : inR x 1 30 = true) : ∃ j : Nat, j ≤ 30 ∧ x = nI j := by
  unfold inR at h
  rw [Bool.and_eq_true, decide_eq_true_eq, decide_eq_true_eq, Int32.le_iff_toInt_le, Int32.le_iff_toInt_le] at h
  have h0 : (1 : Int32).toInt = 1 := rfl
  have h1 : (30 : Int32).toInt = 30 := rfl
  have h2 : (0 : Int32).toInt = 0 := rfl
  rw [h0, h1] at h
  obtain ⟨j, hj, e⟩ := nI_of (x := x) (by rw [Int32.lt_iff_toInt_lt, h2]; omega)
  refine ⟨j, ?_, e⟩
  rw [e, nI_toInt hj] at h
  omega

set_option maxHeartbeats 4000000 in
set_option maxRecDepth 100000 in
theorem kX4_years (l : Launch) (D : va_G) (y : Nat → ClassId) (q : Nat → Nat) (n : Nat) (now rt : Int32) (tr : Int64) (C : Nat → CT) (ah w : Nat → Int32) (mx : MT) (rd ct : Int32) (g h : Nat → Int32) (k0 : Int32) (sz : Nat) (hn : n ≤ 12) : Met l yX4_years wsX4_years ({ frames := 5, cells := 0, slots := 0, locals := 109 }) (va_Pc [.ref (q 0), .int k0] (muB D (xT y) (xW y q (nI n) now rt tr C ah w mx rd ct g h) sz eT)) (QI (σ := Int32 × (Nat → CT)) D (fun r u => (r, u) = yearsF n now C k0) (fun u => (xW y q (nI n) u.1 rt tr u.2 ah w mx rd ct g h)) (va_A (xW y q (nI n) now rt tr C ah w mx rd ct g h) sz)) 0 0 (va_A (xW y q (nI n) now rt tr C ah w mx rd ct g h) sz) := by
  refine mu_start (Qc := QI (σ := Int32 × (Nat → CT)) D (fun r u => (r, u) = yearsF n now C k0) (fun u => (xW y q (nI n) u.1 rt tr u.2 ah w mx rd ct g h))) (cc := cX4_years) (maxL := 3) (ret := (some .int)) (by decide) rfl (Nat.le_of_ble_eq_true rfl) ?_
  intro p e s m below meth c ls A hx hb hr hml hown hlocks hts hnm hA hP hK hN hD hE hAA hsz hl
  have hS : va_S A s.heap s.heap [] := va_S.rf
  have hown : s.vm.findClass RX4 = some m.cls := hown
  have F : CallFix p m c cX4_years 3 s [.ref (q 0), .int k0].toArray wsX4_years RX4 := ⟨hx, hb, hml, hown, hts⟩
  have hl : lv_has ls 3 [(0, .ref (q 0)), (1, .int k0)] := hl
  have iX4 : ∀ w ∈ u_ws RX4 TX4 9, w ∈ wsX4_years := mem_pl [46, 47, 48, 49, 50, 51, 52, 53, 54] rfl
  refine lv_iload_n hx hb dX4_years_0 rfl (lv_at hl 1 rfl) ?_
  refine lv_iconst (v := 1) hx hb dX4_years_1 (by decide) ?_
  refine lv_bipush (v := 30) hx hb dX4_years_2 (by decide) ?_
  refine ro_i (va_runS (As := [.int k0, .int 1, .int 30]) (rest := []) F (kX4_isWithin l k0 1 30) (va_cwS 3 hts gX4_years_X4_isWithin rfl rfl rfl hdX4_isWithin ⟨(Nat.le_of_ble_eq_true rfl), (Nat.le_of_ble_eq_true rfl)⟩) ⟨tr_blind, tr_pre⟩ rfl rfl hl.1 rfl (lv_room (Nat.le_of_ble_eq_true rfl)) dX4_years_4 ⟨Nat.zero_le _, Nat.zero_le _⟩) ?_
  refine lv_if_ne (tgt := 12) hx hb dX4_years_7 (by decide) (fun c_1 => ?_) (fun c_1 => ?_)
  · skip
    have c_1 := zI_1 c_1
    obtain ⟨k, hk, rfl⟩ := in1_of c_1
    have ek : (nI k).toNatClampNeg = k := nI_clamp (by omega)
    refine lv_aload_n hx hb dX4_years_12 rfl (lv_at hl 0 rfl) ?_
    refine va_get (D := D) (ci := 4) (v := .int now) (C := RX4) (T := TX4) (N := 9) hx hb hts iX4 hown hK hP 0 rfl rfl 6 (by decide) (hts _ (List.mem_of_getElem? (i := 1) rfl)) (fun _ h9 => h9) rfl dX4_years_13 ?_
    refine lv_iload_n hx hb dX4_years_16 rfl (lv_at hl 1 rfl) ?_
    refine lv_iadd hx hb dX4_years_17 ?_
    refine lv_bipush (v := 60) hx hb dX4_years_18 (by decide) ?_
    refine lv_icmp_le (tgt := 26) hx hb dX4_years_20 (by decide) (fun c_2 => ?_) (fun c_2 => ?_)
    · skip
      refine lv_iconst (v := 0) hx hb dX4_years_26 (by decide) ?_
      refine lv_istore_n (lv' := [(2, .int 0), (0, .ref (q 0)), (1, .int (nI k))]) hx hb dX4_years_27 rfl hl (by decide) rfl (fun ls hl => ?_)
      refine W.lpW (pc := 28) (τ := Nat) (D := D) (A := A) (H0 := s.heap) (cl := vwCl) (fun i => i ≤ k) (fun i => (xW y q (nI n) ((yrs n now C i).1) rt tr ((yrs n now C i).2) ah w mx rd ct g h)) (fun i ls => lv_has ls 3 [(0, .ref (q 0)), (1, .int (nI k)), (2, .int (nI i))]) (fun i => k - i) ?_ 0 ls (Nat.zero_le _) (lv_sub hl [1, 2, 0] rfl) hP hD hS
      intro i ls H locs hi hl hP hD hS ihi
      have hi : i ≤ k := hi
      have hl : lv_has ls 3 [(0, .ref (q 0)), (1, .int (nI k)), (2, .int (nI i))] := hl
      have hP : va_P D vwCl (xW y q (nI n) ((yrs n now C i).1) rt tr ((yrs n now C i).2) ah w mx rd ct g h) H := hP
      have hD : va_D A (xW y q (nI n) ((yrs n now C i).1) rt tr ((yrs n now C i).2) ah w mx rd ct g h) := hD
      refine lv_iload_n hx hb dX4_years_28 rfl (lv_at hl 2 rfl) ?_
      refine lv_iload_n hx hb dX4_years_29 rfl (lv_at hl 1 rfl) ?_
      refine lv_icmp_ge (tgt := 43) hx hb dX4_years_30 (by decide) (fun c_3 => ?_) (fun c_3 => ?_)
      · skip
        have c_3 : k ≤ i := (nI_leI (a := k) (b := i) (by omega) (by omega)).mp c_3
        have hin : i = k := Nat.le_antisymm hi c_3
        rw [hin] at hP hD
        refine lv_aload_n hx hb dX4_years_43 rfl (lv_at hl 0 rfl) ?_
        refine va_get (D := D) (ci := 4) (v := .int ((yrs n now C k).1)) (C := RX4) (T := TX4) (N := 9) hx hb hts iX4 hown hK hP 0 rfl rfl 6 (by decide) (hts _ (List.mem_of_getElem? (i := 1) rfl)) (fun _ h9 => h9) rfl dX4_years_44 ?_
        exact mu_iret ((yrs n now C k).1, (yrs n now C k).2) hx hb hr hlocks hP hD hS dX4_years_47 (by simp [yearsF, c_1, ek, c_2])
      · skip
        have c_3 : ¬ k ≤ i := fun h => c_3 ((nI_leI (a := k) (b := i) (by omega) (by omega)).mpr h)
        refine lv_aload_n hx hb dX4_years_33 rfl (lv_at hl 0 rfl) ?_
        refine muF_v (va_runV (As := []) (rest := []) F (kX4_passYear l D y q n ((yrs n now C i).1) rt tr ((yrs n now C i).2) ah w mx rd ct g h _ hn) (cwV 0 hts gX4_years_X4_passYear rfl rfl rfl ⟨rfl, hdX4_passYear⟩ ⟨(Nat.le_of_ble_eq_true rfl), (Nat.le_of_ble_eq_true rfl)⟩) ⟨(muB_blind (fun _ _ _ _ _ => trivial)), va_recv hK hP (ci := 4) (q0 := 0) rfl rfl, muF_pre hP hK hN hD (fun _ _ _ => trivial)⟩ rfl rfl hl.1 rfl (lv_room (Nat.le_of_ble_eq_true rfl)) dX4_years_34 ⟨Nat.zero_le _, Nat.zero_le _⟩) hP hD hS hA (fun u_5 H locs w_6 hP hD hS => ?_)
        have hP : va_P D vwCl (xW y q (nI n) (((yrs n now C i).1) + 1) rt tr (yrC ((yrs n now C i).2) ((yrs n now C i).1) n) ah w mx rd ct g h) H := hP
        have hD : va_D A (xW y q (nI n) (((yrs n now C i).1) + 1) rt tr (yrC ((yrs n now C i).2) ((yrs n now C i).1) n) ah w mx rd ct g h) := hD
        refine lv_iinc (v := (nI i + 1)) (lv' := [(2, .int (nI i + 1)), (0, .ref (q 0)), (1, .int (nI k))]) hx hb dX4_years_37 hl (k := 2) rfl rfl (by decide) rfl (fun ls hl => ?_)
        refine lv_goto (tgt := 28) hx hb dX4_years_40 (by decide) ?_
        have hP : va_P D vwCl (xW y q (nI n) ((yrs n now C (i + 1)).1) rt tr ((yrs n now C (i + 1)).2) ah w mx rd ct g h) H := hP
        have hD : va_D A (xW y q (nI n) ((yrs n now C (i + 1)).1) rt tr ((yrs n now C (i + 1)).2) ah w mx rd ct g h) := hD
        exact ihi (i + 1) ls H locs (by show k - (i + 1) < k - i; omega) (by show i + 1 ≤ k; omega) (lv_sub hl [1, 2, 0] (by
          show ([(0, .ref (q 0)), (1, .int (nI k)), (2, .int (nI i + 1))] : List (Nat × Value)) = [(0, .ref (q 0)), (1, .int (nI k)), (2, .int (nI (i + 1)))]
          rw [← nI_1])) hP hD hS
    · skip
      refine lv_bipush (v := (-2)) hx hb dX4_years_23 (by decide) ?_
      exact mu_iret (now, C) hx hb hr hlocks hP hD hS dX4_years_25 (by simp [yearsF, c_1, ek, c_2])
  · skip
    have c_1 := zI_0 c_1
    refine lv_iconst (v := (-1)) hx hb dX4_years_10 (by decide) ?_
    exact mu_iret (now, C) hx hb hr hlocks hP hD hS dX4_years_11 (by simp [yearsF, c_1])

set_option maxHeartbeats 4000000 in
set_option maxRecDepth 100000 in
theorem kX4_lay (l : Launch) (D : va_G) (y : Nat → ClassId) (q : Nat → Nat) (n : Nat) (now rt : Int32) (tr : Int64) (C : Nat → CT) (ah w : Nat → Int32) (mx : MT) (rd ct : Int32) (g h : Nat → Int32) (k0 : Int32) (d0 : Int32) (s0 : Int32) (f0 : Int32) (m0 : Int32) (sz : Nat) (hn : n ≤ 12) : Met l yX4_lay wsX4_lay ({ frames := 1, cells := 0, slots := 0, locals := 26 }) (va_Pc [.ref (q 0), .int k0, .int d0, .int s0, .int f0, .int m0] (muB D (xT y) (xW y q (nI n) now rt tr C ah w mx rd ct g h) sz eT)) (QI (σ := Int32 × (Nat → CT)) D (fun r u => (r, u) = layF n now C k0 d0 s0 f0 m0) (fun u => (xW y q u.1 now rt tr u.2 ah w mx rd ct g h)) (va_A (xW y q (nI n) now rt tr C ah w mx rd ct g h) sz)) 0 0 (va_A (xW y q (nI n) now rt tr C ah w mx rd ct g h) sz) := by
  refine mu_start (Qc := QI (σ := Int32 × (Nat → CT)) D (fun r u => (r, u) = layF n now C k0 d0 s0 f0 m0) (fun u => (xW y q u.1 now rt tr u.2 ah w mx rd ct g h))) (cc := cX4_lay) (maxL := 6) (ret := (some .int)) (by decide) rfl (Nat.le_of_ble_eq_true rfl) ?_
  intro p e s m below meth c ls A hx hb hr hml hown hlocks hts hnm hA hP hK hN hD hE hAA hsz hl
  have hS : va_S A s.heap s.heap [] := va_S.rf
  have hown : s.vm.findClass RX4 = some m.cls := hown
  have F : CallFix p m c cX4_lay 6 s [.ref (q 0), .int k0, .int d0, .int s0, .int f0, .int m0].toArray wsX4_lay RX4 := ⟨hx, hb, hml, hown, hts⟩
  have hl : lv_has ls 6 [(0, .ref (q 0)), (1, .int k0), (2, .int d0), (3, .int s0), (4, .int f0), (5, .int m0)] := hl
  have iX4 : ∀ w ∈ u_ws RX4 TX4 9, w ∈ wsX4_lay := mem_pl [19, 20, 21, 22, 23, 24, 25, 26, 27] rfl
  refine lv_iload_n hx hb dX4_lay_0 rfl (lv_at hl 1 rfl) ?_
  refine lv_iconst (v := 0) hx hb dX4_lay_1 (by decide) ?_
  refine lv_iconst (v := 2) hx hb dX4_lay_2 (by decide) ?_
  refine ro_i (va_runS (As := [.int k0, .int 0, .int 2]) (rest := []) F (kX4_isWithin l k0 0 2) (va_cwS 3 hts gX4_lay_X4_isWithin rfl rfl rfl hdX4_isWithin ⟨(Nat.le_of_ble_eq_true rfl), (Nat.le_of_ble_eq_true rfl)⟩) ⟨tr_blind, tr_pre⟩ rfl rfl hl.1 rfl (lv_room (Nat.le_of_ble_eq_true rfl)) dX4_lay_3 ⟨Nat.zero_le _, Nat.zero_le _⟩) ?_
  refine lv_if_eq (tgt := 55) hx hb dX4_lay_6 (by decide) (fun c_1 => ?_) (fun c_1 => ?_)
  · skip
    have c_1 := zI_0 c_1
    refine lv_iconst (v := (-1)) hx hb dX4_lay_55 (by decide) ?_
    exact mu_iret (nI n, C) hx hb hr hlocks hP hD hS dX4_lay_56 (by simp [layF, c_1])
  · skip
    have c_1 := zI_1 c_1
    refine lv_iload_n hx hb dX4_lay_9 rfl (lv_at hl 2 rfl) ?_
    refine lv_iconst (v := 1) hx hb dX4_lay_10 (by decide) ?_
    refine lv_sipush (v := 9000) hx hb dX4_lay_11 (by decide) ?_
    refine ro_i (va_runS (As := [.int d0, .int 1, .int 9000]) (rest := []) F (kX4_isWithin l d0 1 9000) (va_cwS 3 hts gX4_lay_X4_isWithin rfl rfl rfl hdX4_isWithin ⟨(Nat.le_of_ble_eq_true rfl), (Nat.le_of_ble_eq_true rfl)⟩) ⟨tr_blind, tr_pre⟩ rfl rfl hl.1 rfl (lv_room (Nat.le_of_ble_eq_true rfl)) dX4_lay_14 ⟨Nat.zero_le _, Nat.zero_le _⟩) ?_
    refine lv_if_eq (tgt := 55) hx hb dX4_lay_17 (by decide) (fun c_2 => ?_) (fun c_2 => ?_)
    · skip
      have c_2 := zI_0 c_2
      refine lv_iconst (v := (-1)) hx hb dX4_lay_55 (by decide) ?_
      exact mu_iret (nI n, C) hx hb hr hlocks hP hD hS dX4_lay_56 (by simp [layF, c_1, c_2])
    · skip
      have c_2 := zI_1 c_2
      refine lv_iload_n hx hb dX4_lay_20 rfl (lv_at hl 3 rfl) ?_
      refine lv_sipush (v := 400) hx hb dX4_lay_21 (by decide) ?_
      refine lv_sipush (v := 700) hx hb dX4_lay_24 (by decide) ?_
      refine ro_i (va_runS (As := [.int s0, .int 400, .int 700]) (rest := []) F (kX4_isWithin l s0 400 700) (va_cwS 3 hts gX4_lay_X4_isWithin rfl rfl rfl hdX4_isWithin ⟨(Nat.le_of_ble_eq_true rfl), (Nat.le_of_ble_eq_true rfl)⟩) ⟨tr_blind, tr_pre⟩ rfl rfl hl.1 rfl (lv_room (Nat.le_of_ble_eq_true rfl)) dX4_lay_27 ⟨Nat.zero_le _, Nat.zero_le _⟩) ?_
      refine lv_if_eq (tgt := 55) hx hb dX4_lay_30 (by decide) (fun c_3 => ?_) (fun c_3 => ?_)
      · skip
        have c_3 := zI_0 c_3
        refine lv_iconst (v := (-1)) hx hb dX4_lay_55 (by decide) ?_
        exact mu_iret (nI n, C) hx hb hr hlocks hP hD hS dX4_lay_56 (by simp [layF, c_1, c_2, c_3])
      · skip
        have c_3 := zI_1 c_3
        refine lv_iload hx hb dX4_lay_33 (lv_at hl 4 rfl) ?_
        refine lv_iconst (v := 0) hx hb dX4_lay_35 (by decide) ?_
        refine lv_iconst (v := 3) hx hb dX4_lay_36 (by decide) ?_
        refine ro_i (va_runS (As := [.int f0, .int 0, .int 3]) (rest := []) F (kX4_isWithin l f0 0 3) (va_cwS 3 hts gX4_lay_X4_isWithin rfl rfl rfl hdX4_isWithin ⟨(Nat.le_of_ble_eq_true rfl), (Nat.le_of_ble_eq_true rfl)⟩) ⟨tr_blind, tr_pre⟩ rfl rfl hl.1 rfl (lv_room (Nat.le_of_ble_eq_true rfl)) dX4_lay_37 ⟨Nat.zero_le _, Nat.zero_le _⟩) ?_
        refine lv_if_eq (tgt := 55) hx hb dX4_lay_40 (by decide) (fun c_4 => ?_) (fun c_4 => ?_)
        · skip
          have c_4 := zI_0 c_4
          refine lv_iconst (v := (-1)) hx hb dX4_lay_55 (by decide) ?_
          exact mu_iret (nI n, C) hx hb hr hlocks hP hD hS dX4_lay_56 (by simp [layF, c_1, c_2, c_3, c_4])
        · skip
          have c_4 := zI_1 c_4
          refine lv_iload hx hb dX4_lay_43 (lv_at hl 5 rfl) ?_
          refine lv_iconst (v := 0) hx hb dX4_lay_45 (by decide) ?_
          refine lv_sipush (v := 500) hx hb dX4_lay_46 (by decide) ?_
          refine ro_i (va_runS (As := [.int m0, .int 0, .int 500]) (rest := []) F (kX4_isWithin l m0 0 500) (va_cwS 3 hts gX4_lay_X4_isWithin rfl rfl rfl hdX4_isWithin ⟨(Nat.le_of_ble_eq_true rfl), (Nat.le_of_ble_eq_true rfl)⟩) ⟨tr_blind, tr_pre⟩ rfl rfl hl.1 rfl (lv_room (Nat.le_of_ble_eq_true rfl)) dX4_lay_49 ⟨Nat.zero_le _, Nat.zero_le _⟩) ?_
          refine lv_if_ne (tgt := 57) hx hb dX4_lay_52 (by decide) (fun c_5 => ?_) (fun c_5 => ?_)
          · skip
            have c_5 := zI_1 c_5
            refine lv_aload_n hx hb dX4_lay_57 rfl (lv_at hl 0 rfl) ?_
            refine va_get (D := D) (ci := 4) (v := .int (nI n)) (C := RX4) (T := TX4) (N := 9) hx hb hts iX4 hown hK hP 0 rfl rfl 5 (by decide) (hts _ (List.mem_of_getElem? (i := 1) rfl)) (fun _ h9 => h9) rfl dX4_lay_58 ?_
            refine lv_bipush (v := 12) hx hb dX4_lay_61 (by decide) ?_
            refine lv_icmp_lt (tgt := 69) hx hb dX4_lay_63 (by decide) (fun c_6 => ?_) (fun c_6 => ?_)
            · skip
              have c_6 : n < 12 := (nI_ltI (a := n) (b := 12) (by omega) (by omega)).mp c_6
              refine lv_aload_n hx hb dX4_lay_69 rfl (lv_at hl 0 rfl) ?_
              refine va_get (D := D) (ci := 4) (v := .ref (q 1)) (C := RX4) (T := TX4) (N := 9) hx hb hts iX4 hown hK hP 0 rfl rfl 0 (by decide) (hts _ (List.mem_of_getElem? (i := 2) rfl)) (fun _ h9 => h9) rfl dX4_lay_70 ?_
              refine lv_aload_n hx hb dX4_lay_73 rfl (lv_at hl 0 rfl) ?_
              refine va_get (D := D) (ci := 4) (v := .int (nI n)) (C := RX4) (T := TX4) (N := 9) hx hb hts iX4 hown hK hP 0 rfl rfl 5 (by decide) (hts _ (List.mem_of_getElem? (i := 1) rfl)) (fun _ h9 => h9) rfl dX4_lay_74 ?_
              refine wa_aldq hx hb hK hP 1 0 rfl rfl n rfl (by omega) (by decide) rfl dX4_lay_77 ?_
              refine lv_iload_n hx hb dX4_lay_78 rfl (lv_at hl 1 rfl) ?_
              refine lv_iload_n hx hb dX4_lay_79 rfl (lv_at hl 2 rfl) ?_
              refine lv_iload_n hx hb dX4_lay_80 rfl (lv_at hl 3 rfl) ?_
              refine lv_iload hx hb dX4_lay_81 (lv_at hl 4 rfl) ?_
              refine lv_iload hx hb dX4_lay_83 (lv_at hl 5 rfl) ?_
              refine lv_aload_n hx hb dX4_lay_85 rfl (lv_at hl 0 rfl) ?_
              refine va_get (D := D) (ci := 4) (v := .int now) (C := RX4) (T := TX4) (N := 9) hx hb hts iX4 hown hK hP 0 rfl rfl 6 (by decide) (hts _ (List.mem_of_getElem? (i := 3) rfl)) (fun _ h9 => h9) rfl dX4_lay_86 ?_
              refine muF_v (va_runV (As := [.int k0, .int d0, .int s0, .int f0, .int m0, .int now]) (rest := []) F (kX0_fill l D y q n now rt tr C ah w mx rd ct g h k0 d0 s0 f0 m0 now n (by omega) _) (cwV 6 hts gX4_lay_X0_fill rfl rfl rfl ⟨rfl, hdX0_fill⟩ ⟨(Nat.le_of_ble_eq_true rfl), (Nat.le_of_ble_eq_true rfl)⟩) ⟨(muB_blind (fun _ _ _ _ _ => trivial)), va_recv hK hP (ci := 0) (q0 := (9 + n)) rfl (xp_at rfl (by omega)), muF_pre hP hK hN hD (fun _ _ _ => trivial)⟩ rfl rfl hl.1 rfl (lv_room (Nat.le_of_ble_eq_true rfl)) dX4_lay_89 ⟨Nat.zero_le _, Nat.zero_le _⟩) hP hD hS hA (fun u_8 H locs w_9 hP hD hS => ?_)
              have hP : va_P D vwCl (xW y q (nI n) now rt tr (va_up C n (k0, d0, s0, f0, c_ok (C n), m0, c_sw (C n), now)) ah w mx rd ct g h) H := hP
              have hD : va_D A (xW y q (nI n) now rt tr (va_up C n (k0, d0, s0, f0, c_ok (C n), m0, c_sw (C n), now)) ah w mx rd ct g h) := hD
              refine lv_aload_n hx hb dX4_lay_92 rfl (lv_at hl 0 rfl) ?_
              refine lv_dup hx hb dX4_lay_93 rfl ?_
              refine va_get (D := D) (ci := 4) (v := .int (nI n)) (C := RX4) (T := TX4) (N := 9) hx hb hts iX4 hown hK hP 0 rfl rfl 5 (by decide) (hts _ (List.mem_of_getElem? (i := 1) rfl)) (fun _ h9 => h9) rfl dX4_lay_94 ?_
              refine lv_iconst (v := 1) hx hb dX4_lay_97 (by decide) ?_
              refine lv_iadd hx hb dX4_lay_98 ?_
              refine va_put (D := D) (ci := 4) (v := .int ((nI n) + 1)) (ty := .int) (C := RX4) (T := TX4) (N := 9) hx hb hts iX4 tyX4 tyX4_ok nmX4 hown hK hP hD hS 0 rfl rfl 5 (by decide) (hts _ (List.mem_of_getElem? (i := 1) rfl)) (fun _ h9 => h9) rfl (by decide +kernel) rfl rfl (Nat.le_of_ble_eq_true rfl) dX4_lay_99 (fun H locs hP hD hS => ?_)
              have hP : va_P D vwCl (xW y q ((nI n) + 1) now rt tr (va_up C n (k0, d0, s0, f0, c_ok (C n), m0, c_sw (C n), now)) ah w mx rd ct g h) H := hP
              have hD : va_D A (xW y q ((nI n) + 1) now rt tr (va_up C n (k0, d0, s0, f0, c_ok (C n), m0, c_sw (C n), now)) ah w mx rd ct g h) := hD
              refine lv_aload_n hx hb dX4_lay_102 rfl (lv_at hl 0 rfl) ?_
              refine va_get (D := D) (ci := 4) (v := .int ((nI n) + 1)) (C := RX4) (T := TX4) (N := 9) hx hb hts iX4 hown hK hP 0 rfl rfl 5 (by decide) (hts _ (List.mem_of_getElem? (i := 1) rfl)) (fun _ h9 => h9) rfl dX4_lay_103 ?_
              refine lv_iconst (v := 1) hx hb dX4_lay_106 (by decide) ?_
              refine lv_isub hx hb dX4_lay_107 ?_
              exact mu_iret (((nI n) + 1), (va_up C n (k0, d0, s0, f0, c_ok (C n), m0, c_sw (C n), now))) hx hb hr hlocks hP hD hS dX4_lay_108 (by simp [layF, c_1, c_2, c_3, c_4, c_5, c_6])
            · skip
              have c_6 : ¬ n < 12 := fun h => c_6 ((nI_ltI (a := n) (b := 12) (by omega) (by omega)).mpr h)
              refine lv_bipush (v := (-3)) hx hb dX4_lay_66 (by decide) ?_
              exact mu_iret (nI n, C) hx hb hr hlocks hP hD hS dX4_lay_68 (by simp [layF, c_1, c_2, c_3, c_4, c_5, c_6])
          · skip
            have c_5 := zI_0 c_5
            refine lv_iconst (v := (-1)) hx hb dX4_lay_55 (by decide) ?_
            exact mu_iret (nI n, C) hx hb hr hlocks hP hD hS dX4_lay_56 (by simp [layF, c_1, c_2, c_3, c_4, c_5])

set_option maxHeartbeats 4000000 in
set_option maxRecDepth 100000 in
theorem kX4_move (l : Launch) (D : va_G) (y : Nat → ClassId) (q : Nat → Nat) (n : Nat) (now rt : Int32) (tr : Int64) (C : Nat → CT) (ah w : Nat → Int32) (mx : MT) (rd ct : Int32) (g h : Nat → Int32) (c0 : Int32) (f0 : Int32) (sz : Nat) (hn : n ≤ 12) : Met l yX4_move wsX4_move ({ frames := 2, cells := 0, slots := 0, locals := 43 }) (va_Pc [.ref (q 0), .int c0, .int f0] (muB D (xT y) (xW y q (nI n) now rt tr C ah w mx rd ct g h) sz eT)) (QI (σ := Nat → CT) D (fun r u => (r, u) = moveF n C c0 f0) (fun u => (xW y q (nI n) now rt tr u ah w mx rd ct g h)) (va_A (xW y q (nI n) now rt tr C ah w mx rd ct g h) sz)) 0 0 (va_A (xW y q (nI n) now rt tr C ah w mx rd ct g h) sz) := by
  refine mu_start (Qc := QI (σ := Nat → CT) D (fun r u => (r, u) = moveF n C c0 f0) (fun u => (xW y q (nI n) now rt tr u ah w mx rd ct g h))) (cc := cX4_move) (maxL := 4) (ret := (some .int)) (by decide) rfl (Nat.le_of_ble_eq_true rfl) ?_
  intro p e s m below meth c ls A hx hb hr hml hown hlocks hts hnm hA hP hK hN hD hE hAA hsz hl
  have hS : va_S A s.heap s.heap [] := va_S.rf
  have hown : s.vm.findClass RX4 = some m.cls := hown
  have F : CallFix p m c cX4_move 4 s [.ref (q 0), .int c0, .int f0].toArray wsX4_move RX4 := ⟨hx, hb, hml, hown, hts⟩
  have hl : lv_has ls 4 [(0, .ref (q 0)), (1, .int c0), (2, .int f0)] := hl
  have iX0 : ∀ w ∈ u_ws RX0 TX0 8, w ∈ wsX4_move := mem_pl [21, 22, 23, 24, 25, 26, 27, 28] rfl
  have iX4 : ∀ w ∈ u_ws RX4 TX4 9, w ∈ wsX4_move := mem_pl [12, 13, 14, 15, 16, 17, 18, 19, 20] rfl
  refine lv_aload_n hx hb dX4_move_0 rfl (lv_at hl 0 rfl) ?_
  refine lv_iload_n hx hb dX4_move_1 rfl (lv_at hl 1 rfl) ?_
  refine ro_i (va_runV (As := [.int c0]) (rest := []) F (kX4_isCask l D y q n now rt tr C ah w mx rd ct g h c0) (cwV 1 hts gX4_move_X4_isCask rfl rfl rfl ⟨rfl, hdX4_isCask⟩ ⟨(Nat.le_of_ble_eq_true rfl), (Nat.le_of_ble_eq_true rfl)⟩) ⟨rdB_blind, va_recv hK hP (ci := 4) (q0 := 0) rfl rfl, rdB_pre hP hK hN⟩ rfl rfl hl.1 rfl (lv_room (Nat.le_of_ble_eq_true rfl)) dX4_move_2 ⟨Nat.zero_le _, Nat.zero_le _⟩) ?_
  refine lv_if_eq (tgt := 17) hx hb dX4_move_5 (by decide) (fun c_1 => ?_) (fun c_1 => ?_)
  · skip
    have c_1 := zI_0 c_1
    refine lv_iconst (v := (-1)) hx hb dX4_move_17 (by decide) ?_
    exact mu_iret C hx hb hr hlocks hP hD hS dX4_move_18 (by simp [moveF, setF, c_1])
  · skip
    have c_1 := zI_1 c_1
    obtain ⟨j, hzj, rfl⟩ := isC_of hn c_1
    have ej : (nI j).toNatClampNeg = j := nI_clamp (by omega)
    refine lv_iload_n hx hb dX4_move_8 rfl (lv_at hl 2 rfl) ?_
    refine lv_iconst (v := 0) hx hb dX4_move_9 (by decide) ?_
    refine lv_iconst (v := 3) hx hb dX4_move_10 (by decide) ?_
    refine ro_i (va_runS (As := [.int f0, .int 0, .int 3]) (rest := []) F (kX4_isWithin l f0 0 3) (va_cwS 3 hts gX4_move_X4_isWithin rfl rfl rfl hdX4_isWithin ⟨(Nat.le_of_ble_eq_true rfl), (Nat.le_of_ble_eq_true rfl)⟩) ⟨tr_blind, tr_pre⟩ rfl rfl hl.1 rfl (lv_room (Nat.le_of_ble_eq_true rfl)) dX4_move_11 ⟨Nat.zero_le _, Nat.zero_le _⟩) ?_
    refine lv_if_ne (tgt := 19) hx hb dX4_move_14 (by decide) (fun c_2 => ?_) (fun c_2 => ?_)
    · skip
      have c_2 := zI_1 c_2
      refine lv_aload_n hx hb dX4_move_19 rfl (lv_at hl 0 rfl) ?_
      refine va_get (D := D) (ci := 4) (v := .ref (q 1)) (C := RX4) (T := TX4) (N := 9) hx hb hts iX4 hown hK hP 0 rfl rfl 0 (by decide) (hts _ (List.mem_of_getElem? (i := 1) rfl)) (fun _ h9 => h9) rfl dX4_move_20 ?_
      refine lv_iload_n hx hb dX4_move_23 rfl (lv_at hl 1 rfl) ?_
      refine wa_aldq hx hb hK hP 1 0 rfl rfl j rfl (by omega) (by decide) rfl dX4_move_24 ?_
      refine va_get (D := D) (ci := 0) (v := .int (c_fl (C j))) (C := RX0) (T := TX0) (N := 8) hx hb hts iX0 hown hK hP (9 + j) (xp_at rfl (by omega)) rfl 3 (by decide) (hts _ (List.mem_of_getElem? (i := 2) rfl)) (fun _ h9 => h9) rfl dX4_move_25 ?_
      refine lv_istore_n (lv' := [(3, .int (c_fl (C j))), (0, .ref (q 0)), (1, .int (nI j)), (2, .int f0)]) hx hb dX4_move_28 rfl hl (by decide) rfl (fun ls hl => ?_)
      refine lv_aload_n hx hb dX4_move_29 rfl (lv_at hl 1 rfl) ?_
      refine va_get (D := D) (ci := 4) (v := .ref (q 1)) (C := RX4) (T := TX4) (N := 9) hx hb hts iX4 hown hK hP 0 rfl rfl 0 (by decide) (hts _ (List.mem_of_getElem? (i := 1) rfl)) (fun _ h9 => h9) rfl dX4_move_30 ?_
      refine lv_iload_n hx hb dX4_move_33 rfl (lv_at hl 2 rfl) ?_
      refine wa_aldq hx hb hK hP 1 0 rfl rfl j rfl (by omega) (by decide) rfl dX4_move_34 ?_
      refine lv_iload_n hx hb dX4_move_35 rfl (lv_at hl 3 rfl) ?_
      refine va_put (D := D) (ci := 0) (v := .int f0) (ty := .int) (C := RX0) (T := TX0) (N := 8) hx hb hts iX0 tyX0 tyX0_ok nmX0 hown hK hP hD hS (9 + j) (xp_at rfl (by omega)) rfl 3 (by decide) (hts _ (List.mem_of_getElem? (i := 2) rfl)) (fun _ h9 => h9) rfl (by decide +kernel) rfl rfl (Nat.le_of_ble_eq_true rfl) dX4_move_36 (fun H locs hP hD hS => ?_)
      have hP : va_P D vwCl (xW y q (nI n) now rt tr (va_up C j (c_kd (C j), c_dr (C j), c_sg (C j), f0, c_ok (C j), c_sm (C j), c_sw (C j), c_la (C j))) ah w mx rd ct g h) H := xp_P rfl (by omega) hP
      have hD : va_D A (xW y q (nI n) now rt tr (va_up C j (c_kd (C j), c_dr (C j), c_sg (C j), f0, c_ok (C j), c_sm (C j), c_sw (C j), c_la (C j))) ah w mx rd ct g h) := xp_D rfl (by omega) hD
      refine lv_iload_n hx hb dX4_move_39 rfl (lv_at hl 0 rfl) ?_
      exact mu_iret (va_up C j (c_kd (C j), c_dr (C j), c_sg (C j), f0, c_ok (C j), c_sm (C j), c_sw (C j), c_la (C j))) hx hb hr hlocks hP hD hS dX4_move_40 (by simp [moveF, setF, c_1, ej, c_2])
    · skip
      have c_2 := zI_0 c_2
      refine lv_iconst (v := (-1)) hx hb dX4_move_17 (by decide) ?_
      exact mu_iret C hx hb hr hlocks hP hD hS dX4_move_18 (by simp [moveF, setF, c_1, ej, c_2])

set_option maxHeartbeats 4000000 in
set_option maxRecDepth 100000 in
theorem kX4_draw (l : Launch) (D : va_G) (y : Nat → ClassId) (q : Nat → Nat) (n : Nat) (now rt : Int32) (tr : Int64) (C : Nat → CT) (ah w : Nat → Int32) (mx : MT) (rd ct : Int32) (g h : Nat → Int32) (c0 : Int32) (v0 : Int32) (sz : Nat) (hn : n ≤ 12) : Met l yX4_draw wsX4_draw ({ frames := 2, cells := 0, slots := 0, locals := 43 }) (va_Pc [.ref (q 0), .int c0, .int v0] (muB D (xT y) (xW y q (nI n) now rt tr C ah w mx rd ct g h) sz eT)) (QI (σ := Nat → CT) D (fun r u => (r, u) = drawF n C c0 v0) (fun u => (xW y q (nI n) now rt tr u ah w mx rd ct g h)) (va_A (xW y q (nI n) now rt tr C ah w mx rd ct g h) sz)) 0 0 (va_A (xW y q (nI n) now rt tr C ah w mx rd ct g h) sz) := by
  refine mu_start (Qc := QI (σ := Nat → CT) D (fun r u => (r, u) = drawF n C c0 v0) (fun u => (xW y q (nI n) now rt tr u ah w mx rd ct g h))) (cc := cX4_draw) (maxL := 3) (ret := (some .int)) (by decide) rfl (Nat.le_of_ble_eq_true rfl) ?_
  intro p e s m below meth c ls A hx hb hr hml hown hlocks hts hnm hA hP hK hN hD hE hAA hsz hl
  have hS : va_S A s.heap s.heap [] := va_S.rf
  have hown : s.vm.findClass RX4 = some m.cls := hown
  have F : CallFix p m c cX4_draw 3 s [.ref (q 0), .int c0, .int v0].toArray wsX4_draw RX4 := ⟨hx, hb, hml, hown, hts⟩
  have hl : lv_has ls 3 [(0, .ref (q 0)), (1, .int c0), (2, .int v0)] := hl
  have iX0 : ∀ w ∈ u_ws RX0 TX0 8, w ∈ wsX4_draw := mem_pl [21, 22, 23, 24, 25, 26, 27, 28] rfl
  have iX4 : ∀ w ∈ u_ws RX4 TX4 9, w ∈ wsX4_draw := mem_pl [12, 13, 14, 15, 16, 17, 18, 19, 20] rfl
  refine lv_aload_n hx hb dX4_draw_0 rfl (lv_at hl 0 rfl) ?_
  refine lv_iload_n hx hb dX4_draw_1 rfl (lv_at hl 1 rfl) ?_
  refine ro_i (va_runV (As := [.int c0]) (rest := []) F (kX4_isCask l D y q n now rt tr C ah w mx rd ct g h c0) (cwV 1 hts gX4_draw_X4_isCask rfl rfl rfl ⟨rfl, hdX4_isCask⟩ ⟨(Nat.le_of_ble_eq_true rfl), (Nat.le_of_ble_eq_true rfl)⟩) ⟨rdB_blind, va_recv hK hP (ci := 4) (q0 := 0) rfl rfl, rdB_pre hP hK hN⟩ rfl rfl hl.1 rfl (lv_room (Nat.le_of_ble_eq_true rfl)) dX4_draw_2 ⟨Nat.zero_le _, Nat.zero_le _⟩) ?_
  refine lv_if_eq (tgt := 25) hx hb dX4_draw_5 (by decide) (fun c_1 => ?_) (fun c_1 => ?_)
  · skip
    have c_1 := zI_0 c_1
    refine lv_iconst (v := (-1)) hx hb dX4_draw_25 (by decide) ?_
    exact mu_iret C hx hb hr hlocks hP hD hS dX4_draw_26 (by simp [drawF, setD, c_1])
  · skip
    have c_1 := zI_1 c_1
    obtain ⟨j, hzj, rfl⟩ := isC_of hn c_1
    have ej : (nI j).toNatClampNeg = j := nI_clamp (by omega)
    refine lv_iload_n hx hb dX4_draw_8 rfl (lv_at hl 2 rfl) ?_
    refine lv_iconst (v := 0) hx hb dX4_draw_9 (by decide) ?_
    refine lv_aload_n hx hb dX4_draw_10 rfl (lv_at hl 0 rfl) ?_
    refine va_get (D := D) (ci := 4) (v := .ref (q 1)) (C := RX4) (T := TX4) (N := 9) hx hb hts iX4 hown hK hP 0 rfl rfl 0 (by decide) (hts _ (List.mem_of_getElem? (i := 1) rfl)) (fun _ h9 => h9) rfl dX4_draw_11 ?_
    refine lv_iload_n hx hb dX4_draw_14 rfl (lv_at hl 1 rfl) ?_
    refine wa_aldq hx hb hK hP 1 0 rfl rfl j rfl (by omega) (by decide) rfl dX4_draw_15 ?_
    refine va_get (D := D) (ci := 0) (v := .int (c_dr (C j))) (C := RX0) (T := TX0) (N := 8) hx hb hts iX0 hown hK hP (9 + j) (xp_at rfl (by omega)) rfl 1 (by decide) (hts _ (List.mem_of_getElem? (i := 2) rfl)) (fun _ h9 => h9) rfl dX4_draw_16 ?_
    refine ro_i (va_runS (As := [.int v0, .int 0, .int (c_dr (C j))]) (rest := []) F (kX4_isWithin l v0 0 (c_dr (C j))) (va_cwS 3 hts gX4_draw_X4_isWithin rfl rfl rfl hdX4_isWithin ⟨(Nat.le_of_ble_eq_true rfl), (Nat.le_of_ble_eq_true rfl)⟩) ⟨tr_blind, tr_pre⟩ rfl rfl hl.1 rfl (lv_room (Nat.le_of_ble_eq_true rfl)) dX4_draw_19 ⟨Nat.zero_le _, Nat.zero_le _⟩) ?_
    refine lv_if_ne (tgt := 27) hx hb dX4_draw_22 (by decide) (fun c_2 => ?_) (fun c_2 => ?_)
    · skip
      have c_2 := zI_1 c_2
      refine lv_aload_n hx hb dX4_draw_27 rfl (lv_at hl 0 rfl) ?_
      refine va_get (D := D) (ci := 4) (v := .ref (q 1)) (C := RX4) (T := TX4) (N := 9) hx hb hts iX4 hown hK hP 0 rfl rfl 0 (by decide) (hts _ (List.mem_of_getElem? (i := 1) rfl)) (fun _ h9 => h9) rfl dX4_draw_28 ?_
      refine lv_iload_n hx hb dX4_draw_31 rfl (lv_at hl 1 rfl) ?_
      refine wa_aldq hx hb hK hP 1 0 rfl rfl j rfl (by omega) (by decide) rfl dX4_draw_32 ?_
      refine lv_dup hx hb dX4_draw_33 rfl ?_
      refine va_get (D := D) (ci := 0) (v := .int (c_dr (C j))) (C := RX0) (T := TX0) (N := 8) hx hb hts iX0 hown hK hP (9 + j) (xp_at rfl (by omega)) rfl 1 (by decide) (hts _ (List.mem_of_getElem? (i := 2) rfl)) (fun _ h9 => h9) rfl dX4_draw_34 ?_
      refine lv_iload_n hx hb dX4_draw_37 rfl (lv_at hl 2 rfl) ?_
      refine lv_isub hx hb dX4_draw_38 ?_
      refine va_put (D := D) (ci := 0) (v := .int ((c_dr (C j)) - v0)) (ty := .int) (C := RX0) (T := TX0) (N := 8) hx hb hts iX0 tyX0 tyX0_ok nmX0 hown hK hP hD hS (9 + j) (xp_at rfl (by omega)) rfl 1 (by decide) (hts _ (List.mem_of_getElem? (i := 2) rfl)) (fun _ h9 => h9) rfl (by decide +kernel) rfl rfl (Nat.le_of_ble_eq_true rfl) dX4_draw_39 (fun H locs hP hD hS => ?_)
      have hP : va_P D vwCl (xW y q (nI n) now rt tr (va_up C j (c_kd (C j), ((c_dr (C j)) - v0), c_sg (C j), c_fl (C j), c_ok (C j), c_sm (C j), c_sw (C j), c_la (C j))) ah w mx rd ct g h) H := xp_P rfl (by omega) hP
      have hD : va_D A (xW y q (nI n) now rt tr (va_up C j (c_kd (C j), ((c_dr (C j)) - v0), c_sg (C j), c_fl (C j), c_ok (C j), c_sm (C j), c_sw (C j), c_la (C j))) ah w mx rd ct g h) := xp_D rfl (by omega) hD
      refine lv_aload_n hx hb dX4_draw_42 rfl (lv_at hl 0 rfl) ?_
      refine va_get (D := D) (ci := 4) (v := .ref (q 1)) (C := RX4) (T := TX4) (N := 9) hx hb hts iX4 hown hK hP 0 rfl rfl 0 (by decide) (hts _ (List.mem_of_getElem? (i := 1) rfl)) (fun _ h9 => h9) rfl dX4_draw_43 ?_
      refine lv_iload_n hx hb dX4_draw_46 rfl (lv_at hl 1 rfl) ?_
      refine wa_aldq hx hb hK hP 1 0 rfl rfl j rfl (by omega) (by decide) rfl dX4_draw_47 ?_
      refine va_get (D := D) (ci := 0) (v := .int ((c_dr (C j)) - v0)) (C := RX0) (T := TX0) (N := 8) hx hb hts iX0 hown hK hP (9 + j) (xp_atF rfl (by omega)) rfl 1 (by decide) (hts _ (List.mem_of_getElem? (i := 2) rfl)) (fun _ h9 => h9) rfl dX4_draw_48 ?_
      exact mu_iret (va_up C j (c_kd (C j), ((c_dr (C j)) - v0), c_sg (C j), c_fl (C j), c_ok (C j), c_sm (C j), c_sw (C j), c_la (C j))) hx hb hr hlocks hP hD hS dX4_draw_51 (by simp [drawF, setD, c_1, ej, c_2])
    · skip
      have c_2 := zI_0 c_2
      refine lv_iconst (v := (-1)) hx hb dX4_draw_25 (by decide) ?_
      exact mu_iret C hx hb hr hlocks hP hD hS dX4_draw_26 (by simp [drawF, setD, c_1, ej, c_2])

set_option maxHeartbeats 4000000 in
set_option maxRecDepth 100000 in
theorem kX4_want (l : Launch) (D : va_G) (y : Nat → ClassId) (q : Nat → Nat) (n : Nat) (now rt : Int32) (tr : Int64) (C : Nat → CT) (ah w : Nat → Int32) (mx : MT) (rd ct : Int32) (g h : Nat → Int32) (k0 : Int32) (v0 : Int32) (sz : Nat) : Met l yX4_want wsX4_want ({ frames := 1, cells := 0, slots := 0, locals := 22 }) (va_Pc [.ref (q 0), .int k0, .int v0] (muB D (xT y) (xW y q (nI n) now rt tr C ah w mx rd ct g h) sz eT)) (QI (σ := Nat → Int32) D (fun r u => (r, u) = wantF w k0 v0) (fun u => (xW y q (nI n) now rt tr C ah u mx rd ct g h)) (va_A (xW y q (nI n) now rt tr C ah w mx rd ct g h) sz)) 0 0 (va_A (xW y q (nI n) now rt tr C ah w mx rd ct g h) sz) := by
  refine mu_start (Qc := QI (σ := Nat → Int32) D (fun r u => (r, u) = wantF w k0 v0) (fun u => (xW y q (nI n) now rt tr C ah u mx rd ct g h))) (cc := cX4_want) (maxL := 4) (ret := (some .int)) (by decide) rfl (Nat.le_of_ble_eq_true rfl) ?_
  intro p e s m below meth c ls A hx hb hr hml hown hlocks hts hnm hA hP hK hN hD hE hAA hsz hl
  have hS : va_S A s.heap s.heap [] := va_S.rf
  have hown : s.vm.findClass RX4 = some m.cls := hown
  have F : CallFix p m c cX4_want 4 s [.ref (q 0), .int k0, .int v0].toArray wsX4_want RX4 := ⟨hx, hb, hml, hown, hts⟩
  have hl : lv_has ls 4 [(0, .ref (q 0)), (1, .int k0), (2, .int v0)] := hl
  have iX3 : ∀ w ∈ u_ws RX3 TX3 1, w ∈ wsX4_want := mem_pl [21] rfl
  have iX4 : ∀ w ∈ u_ws RX4 TX4 9, w ∈ wsX4_want := mem_pl [12, 13, 14, 15, 16, 17, 18, 19, 20] rfl
  refine lv_iload_n hx hb dX4_want_0 rfl (lv_at hl 1 rfl) ?_
  refine lv_iconst (v := 0) hx hb dX4_want_1 (by decide) ?_
  refine lv_bipush (v := 7) hx hb dX4_want_2 (by decide) ?_
  refine ro_i (va_runS (As := [.int k0, .int 0, .int 7]) (rest := []) F (kX4_isWithin l k0 0 7) (va_cwS 3 hts gX4_want_X4_isWithin rfl rfl rfl hdX4_isWithin ⟨(Nat.le_of_ble_eq_true rfl), (Nat.le_of_ble_eq_true rfl)⟩) ⟨tr_blind, tr_pre⟩ rfl rfl hl.1 rfl (lv_room (Nat.le_of_ble_eq_true rfl)) dX4_want_4 ⟨Nat.zero_le _, Nat.zero_le _⟩) ?_
  refine lv_if_eq (tgt := 22) hx hb dX4_want_7 (by decide) (fun c_1 => ?_) (fun c_1 => ?_)
  · skip
    have c_1 := zI_0 c_1
    refine lv_iconst (v := (-1)) hx hb dX4_want_22 (by decide) ?_
    exact mu_iret w hx hb hr hlocks hP hD hS dX4_want_23 (by simp [wantF, mostW, c_1])
  · skip
    have c_1 := zI_1 c_1
    obtain ⟨k, hzk, rfl⟩ := inR_of (k := 7) (by decide) (by decide) c_1
    have ek : (nI k).toNatClampNeg = k := nI_clamp (by omega)
    refine lv_iload_n hx hb dX4_want_10 rfl (lv_at hl 2 rfl) ?_
    refine lv_iconst (v := 0) hx hb dX4_want_11 (by decide) ?_
    refine lv_iload_n hx hb dX4_want_12 rfl (lv_at hl 1 rfl) ?_
    refine ro_i (va_runS (As := [.int (nI k)]) (rest := [.int 0, .int v0]) F (kX3_most l (nI k)) (va_cwS 1 hts gX4_want_X3_most rfl rfl rfl hdX3_most ⟨(Nat.le_of_ble_eq_true rfl), (Nat.le_of_ble_eq_true rfl)⟩) ⟨tr_blind, tr_pre⟩ rfl rfl hl.1 rfl (lv_room (Nat.le_of_ble_eq_true rfl)) dX4_want_13 ⟨Nat.zero_le _, Nat.zero_le _⟩) ?_
    refine ro_i (va_runS (As := [.int v0, .int 0, .int (if (nI k) = 0 then 99999 else if (nI k) = 1 then 60 else 9999)]) (rest := []) F (kX4_isWithin l v0 0 (if (nI k) = 0 then 99999 else if (nI k) = 1 then 60 else 9999)) (va_cwS 3 hts gX4_want_X4_isWithin rfl rfl rfl hdX4_isWithin ⟨(Nat.le_of_ble_eq_true rfl), (Nat.le_of_ble_eq_true rfl)⟩) ⟨tr_blind, tr_pre⟩ rfl rfl hl.1 rfl (lv_room (Nat.le_of_ble_eq_true rfl)) dX4_want_16 ⟨Nat.zero_le _, Nat.zero_le _⟩) ?_
    refine lv_if_ne (tgt := 24) hx hb dX4_want_19 (by decide) (fun c_2 => ?_) (fun c_2 => ?_)
    · skip
      have c_2 := zI_1 c_2
      refine lv_aload_n hx hb dX4_want_24 rfl (lv_at hl 0 rfl) ?_
      refine va_get (D := D) (ci := 4) (v := .ref (q 3)) (C := RX4) (T := TX4) (N := 9) hx hb hts iX4 hown hK hP 0 rfl rfl 2 (by decide) (hts _ (List.mem_of_getElem? (i := 1) rfl)) (fun _ h9 => h9) rfl dX4_want_25 ?_
      refine va_get (D := D) (ci := 3) (v := .ref (q 4)) (C := RX3) (T := TX3) (N := 1) hx hb hts iX3 hown hK hP 3 rfl rfl 0 (by decide) (hts _ (List.mem_of_getElem? (i := 2) rfl)) (fun _ h9 => h9) rfl dX4_want_28 ?_
      refine lv_iload_n hx hb dX4_want_31 rfl (lv_at hl 1 rfl) ?_
      refine wa_iald hx hb hK hP 4 2 rfl rfl k rfl (by omega) (by decide) dX4_want_32 ?_
      refine lv_istore_n (lv' := [(3, .int (w k)), (0, .ref (q 0)), (1, .int (nI k)), (2, .int v0)]) hx hb dX4_want_33 rfl hl (by decide) rfl (fun ls hl => ?_)
      refine lv_aload_n hx hb dX4_want_34 rfl (lv_at hl 1 rfl) ?_
      refine va_get (D := D) (ci := 4) (v := .ref (q 3)) (C := RX4) (T := TX4) (N := 9) hx hb hts iX4 hown hK hP 0 rfl rfl 2 (by decide) (hts _ (List.mem_of_getElem? (i := 1) rfl)) (fun _ h9 => h9) rfl dX4_want_35 ?_
      refine va_get (D := D) (ci := 3) (v := .ref (q 4)) (C := RX3) (T := TX3) (N := 1) hx hb hts iX3 hown hK hP 3 rfl rfl 0 (by decide) (hts _ (List.mem_of_getElem? (i := 2) rfl)) (fun _ h9 => h9) rfl dX4_want_38 ?_
      refine lv_iload_n hx hb dX4_want_41 rfl (lv_at hl 2 rfl) ?_
      refine lv_iload_n hx hb dX4_want_42 rfl (lv_at hl 3 rfl) ?_
      refine wa_iast (v := v0) hx hb hK hP hD hS 4 2 rfl rfl k rfl (by omega) (by decide) dX4_want_43 (fun H locs hP hD hS => ?_)
      have hP : va_P D vwCl (xW y q (nI n) now rt tr C ah (upd w k v0) mx rd ct g h) H := hP
      have hD : va_D A (xW y q (nI n) now rt tr C ah (upd w k v0) mx rd ct g h) := hD
      refine lv_iload_n hx hb dX4_want_44 rfl (lv_at hl 0 rfl) ?_
      exact mu_iret (upd w k v0) hx hb hr hlocks hP hD hS dX4_want_45 (by simp [wantF, mostW, c_1, ek, c_2])
    · skip
      have c_2 := zI_0 c_2
      refine lv_iconst (v := (-1)) hx hb dX4_want_22 (by decide) ?_
      exact mu_iret w hx hb hr hlocks hP hD hS dX4_want_23 (by simp [wantF, mostW, c_1, ek, c_2])

set_option maxHeartbeats 4000000 in
set_option maxRecDepth 100000 in
theorem kX4_rate (l : Launch) (D : va_G) (y : Nat → ClassId) (q : Nat → Nat) (n : Nat) (now rt : Int32) (tr : Int64) (C : Nat → CT) (ah w : Nat → Int32) (mx : MT) (rd ct : Int32) (g h : Nat → Int32) (v0 : Int32) (sz : Nat) : Met l yX4_rate wsX4_rate ({ frames := 1, cells := 0, slots := 0, locals := 22 }) (va_Pc [.ref (q 0), .int v0] (muB D (xT y) (xW y q (nI n) now rt tr C ah w mx rd ct g h) sz eT)) (QI (σ := Int32) D (fun r u => (r, u) = rateF rt v0) (fun u => (xW y q (nI n) now u tr C ah w mx rd ct g h)) (va_A (xW y q (nI n) now rt tr C ah w mx rd ct g h) sz)) 0 0 (va_A (xW y q (nI n) now rt tr C ah w mx rd ct g h) sz) := by
  refine mu_start (Qc := QI (σ := Int32) D (fun r u => (r, u) = rateF rt v0) (fun u => (xW y q (nI n) now u tr C ah w mx rd ct g h))) (cc := cX4_rate) (maxL := 3) (ret := (some .int)) (by decide) rfl (Nat.le_of_ble_eq_true rfl) ?_
  intro p e s m below meth c ls A hx hb hr hml hown hlocks hts hnm hA hP hK hN hD hE hAA hsz hl
  have hS : va_S A s.heap s.heap [] := va_S.rf
  have hown : s.vm.findClass RX4 = some m.cls := hown
  have F : CallFix p m c cX4_rate 3 s [.ref (q 0), .int v0].toArray wsX4_rate RX4 := ⟨hx, hb, hml, hown, hts⟩
  have hl : lv_has ls 3 [(0, .ref (q 0)), (1, .int v0)] := hl
  have iX4 : ∀ w ∈ u_ws RX4 TX4 9, w ∈ wsX4_rate := mem_pl [6, 7, 8, 9, 10, 11, 12, 13, 14] rfl
  refine lv_iload_n hx hb dX4_rate_0 rfl (lv_at hl 1 rfl) ?_
  refine lv_iconst (v := 0) hx hb dX4_rate_1 (by decide) ?_
  refine lv_bipush (v := 100) hx hb dX4_rate_2 (by decide) ?_
  refine ro_i (va_runS (As := [.int v0, .int 0, .int 100]) (rest := []) F (kX4_isWithin l v0 0 100) (va_cwS 3 hts gX4_rate_X4_isWithin rfl rfl rfl hdX4_isWithin ⟨(Nat.le_of_ble_eq_true rfl), (Nat.le_of_ble_eq_true rfl)⟩) ⟨tr_blind, tr_pre⟩ rfl rfl hl.1 rfl (lv_room (Nat.le_of_ble_eq_true rfl)) dX4_rate_4 ⟨Nat.zero_le _, Nat.zero_le _⟩) ?_
  refine lv_if_ne (tgt := 12) hx hb dX4_rate_7 (by decide) (fun c_1 => ?_) (fun c_1 => ?_)
  · skip
    have c_1 := zI_1 c_1
    refine lv_aload_n hx hb dX4_rate_12 rfl (lv_at hl 0 rfl) ?_
    refine va_get (D := D) (ci := 4) (v := .int rt) (C := RX4) (T := TX4) (N := 9) hx hb hts iX4 hown hK hP 0 rfl rfl 7 (by decide) (hts _ (List.mem_of_getElem? (i := 1) rfl)) (fun _ h9 => h9) rfl dX4_rate_13 ?_
    refine lv_istore_n (lv' := [(2, .int rt), (0, .ref (q 0)), (1, .int v0)]) hx hb dX4_rate_16 rfl hl (by decide) rfl (fun ls hl => ?_)
    refine lv_aload_n hx hb dX4_rate_17 rfl (lv_at hl 1 rfl) ?_
    refine lv_iload_n hx hb dX4_rate_18 rfl (lv_at hl 2 rfl) ?_
    refine va_put (D := D) (ci := 4) (v := .int v0) (ty := .int) (C := RX4) (T := TX4) (N := 9) hx hb hts iX4 tyX4 tyX4_ok nmX4 hown hK hP hD hS 0 rfl rfl 7 (by decide) (hts _ (List.mem_of_getElem? (i := 1) rfl)) (fun _ h9 => h9) rfl (by decide +kernel) rfl rfl (Nat.le_of_ble_eq_true rfl) dX4_rate_19 (fun H locs hP hD hS => ?_)
    have hP : va_P D vwCl (xW y q (nI n) now v0 tr C ah w mx rd ct g h) H := hP
    have hD : va_D A (xW y q (nI n) now v0 tr C ah w mx rd ct g h) := hD
    refine lv_iload_n hx hb dX4_rate_22 rfl (lv_at hl 0 rfl) ?_
    exact mu_iret v0 hx hb hr hlocks hP hD hS dX4_rate_23 (by simp [rateF, c_1])
  · skip
    have c_1 := zI_0 c_1
    refine lv_iconst (v := (-1)) hx hb dX4_rate_10 (by decide) ?_
    exact mu_iret rt hx hb hr hlocks hP hD hS dX4_rate_11 (by simp [rateF, c_1])

set_option maxHeartbeats 4000000 in
set_option maxRecDepth 100000 in
theorem kX4_gather (l : Launch) (D : va_G) (y : Nat → ClassId) (q : Nat → Nat) (n : Nat) (now rt : Int32) (tr : Int64) (C : Nat → CT) (ah w : Nat → Int32) (mx : MT) (rd ct : Int32) (g h : Nat → Int32) (s0 : Int32) (sz : Nat) (hn : n ≤ 12) : Met l yX4_gather wsX4_gather ({ frames := 3, cells := 0, slots := 0, locals := 64 }) (va_Pc [.ref (q 0), .int s0] (muB D (xT y) (xW y q (nI n) now rt tr C ah w mx rd ct g h) sz eT)) (QI (σ := MT) D (fun r u => r = zI (bOK n C now s0) ∧ (bOK n C now s0 = true → u = gMx n C now s0)) (fun u => (xW y q (nI n) now rt tr C ah w u rd ct g h)) (va_A (xW y q (nI n) now rt tr C ah w mx rd ct g h) sz)) 0 0 (va_A (xW y q (nI n) now rt tr C ah w mx rd ct g h) sz) := by
  refine mu_start (Qc := QI (σ := MT) D (fun r u => r = zI (bOK n C now s0) ∧ (bOK n C now s0 = true → u = gMx n C now s0)) (fun u => (xW y q (nI n) now rt tr C ah w u rd ct g h))) (cc := cX4_gather) (maxL := 3) (ret := (some .boolean)) (by decide) rfl (Nat.le_of_ble_eq_true rfl) ?_
  intro p e s m below meth c ls A hx hb hr hml hown hlocks hts hnm hA hP hK hN hD hE hAA hsz hl
  have hS : va_S A s.heap s.heap [] := va_S.rf
  have hown : s.vm.findClass RX4 = some m.cls := hown
  have F : CallFix p m c cX4_gather 3 s [.ref (q 0), .int s0].toArray wsX4_gather RX4 := ⟨hx, hb, hml, hown, hts⟩
  have hl : lv_has ls 3 [(0, .ref (q 0)), (1, .int s0)] := hl
  have iX0 : ∀ w ∈ u_ws RX0 TX0 8, w ∈ wsX4_gather := mem_pl [59, 60, 61, 62, 63, 64, 65, 66] rfl
  have iX1 : ∀ w ∈ u_ws RX1 TX1 7, w ∈ wsX4_gather := mem_pl [67, 68, 69, 70, 71, 72, 73] rfl
  have iX4 : ∀ w ∈ u_ws RX4 TX4 9, w ∈ wsX4_gather := mem_pl [50, 51, 52, 53, 54, 55, 56, 57, 58] rfl
  refine lv_aload_n hx hb dX4_gather_0 rfl (lv_at hl 0 rfl) ?_
  refine va_get (D := D) (ci := 4) (v := .ref (q 5)) (C := RX4) (T := TX4) (N := 9) hx hb hts iX4 hown hK hP 0 rfl rfl 3 (by decide) (hts _ (List.mem_of_getElem? (i := 1) rfl)) (fun _ h9 => h9) rfl dX4_gather_1 ?_
  refine muF_v (va_runV (As := []) (rest := []) F (kX1_start l D y q n now rt tr C ah w mx rd ct g h _) (cwV 0 hts gX4_gather_X1_start rfl rfl rfl ⟨rfl, hdX1_start⟩ ⟨(Nat.le_of_ble_eq_true rfl), (Nat.le_of_ble_eq_true rfl)⟩) ⟨(muB_blind (fun _ _ _ _ _ => trivial)), va_recv hK hP (ci := 1) (q0 := 5) rfl rfl, muF_pre hP hK hN hD (fun _ _ _ => trivial)⟩ rfl rfl hl.1 rfl (lv_room (Nat.le_of_ble_eq_true rfl)) dX4_gather_4 ⟨Nat.zero_le _, Nat.zero_le _⟩) hP hD hS hA (fun u_2 H locs w_3 hP hD hS => ?_)
  have hP : va_P D vwCl (xW y q (nI n) now rt tr C ah w mx0 rd ct g h) H := hP
  have hD : va_D A (xW y q (nI n) now rt tr C ah w mx0 rd ct g h) := hD
  refine lv_iconst (v := 0) hx hb dX4_gather_7 (by decide) ?_
  refine lv_istore_n (lv' := [(2, .int 0), (0, .ref (q 0)), (1, .int s0)]) hx hb dX4_gather_8 rfl hl (by decide) rfl (fun ls hl => ?_)
  refine W.lpW (pc := 9) (τ := Nat) (D := D) (A := A) (H0 := s.heap) (cl := vwCl) (fun i => i ≤ n ∧ okG i C s0 = true) (fun i => (xW y q (nI n) now rt tr C ah w (fN (gMf C now s0) i mx0) rd ct g h)) (fun i ls => lv_has ls 3 [(0, .ref (q 0)), (1, .int s0), (2, .int (nI i))]) (fun i => n - i) ?_ 0 ls ⟨Nat.zero_le _, rfl⟩ (lv_sub hl [1, 2, 0] rfl) hP hD hS
  intro i ls H locs hi hl hP hD hS ihi
  have fi : okG i C s0 = true := hi.2
  have hi := hi.1
  have hi : i ≤ n := hi
  have hl : lv_has ls 3 [(0, .ref (q 0)), (1, .int s0), (2, .int (nI i))] := hl
  have hP : va_P D vwCl (xW y q (nI n) now rt tr C ah w (fN (gMf C now s0) i mx0) rd ct g h) H := hP
  have hD : va_D A (xW y q (nI n) now rt tr C ah w (fN (gMf C now s0) i mx0) rd ct g h) := hD
  refine lv_iload_n hx hb dX4_gather_9 rfl (lv_at hl 2 rfl) ?_
  refine lv_aload_n hx hb dX4_gather_10 rfl (lv_at hl 0 rfl) ?_
  refine va_get (D := D) (ci := 4) (v := .int (nI n)) (C := RX4) (T := TX4) (N := 9) hx hb hts iX4 hown hK hP 0 rfl rfl 5 (by decide) (hts _ (List.mem_of_getElem? (i := 2) rfl)) (fun _ h9 => h9) rfl dX4_gather_11 ?_
  refine lv_icmp_ge (tgt := 63) hx hb dX4_gather_14 (by decide) (fun c_4 => ?_) (fun c_4 => ?_)
  · skip
    have c_4 : n ≤ i := (nI_leI (a := n) (b := i) (by omega) (by omega)).mp c_4
    have hin : i = n := Nat.le_antisymm hi c_4
    rw [hin] at hP hD fi
    have fi : okG n C s0 = true := fi
    refine lv_aload_n hx hb dX4_gather_63 rfl (lv_at hl 0 rfl) ?_
    refine va_get (D := D) (ci := 4) (v := .ref (q 5)) (C := RX4) (T := TX4) (N := 9) hx hb hts iX4 hown hK hP 0 rfl rfl 3 (by decide) (hts _ (List.mem_of_getElem? (i := 1) rfl)) (fun _ h9 => h9) rfl dX4_gather_64 ?_
    refine va_get (D := D) (ci := 1) (v := .int (m_dr (fN (gMf C now s0) n mx0))) (C := RX1) (T := TX1) (N := 7) hx hb hts iX1 hown hK hP 5 rfl rfl 0 (by decide) (hts _ (List.mem_of_getElem? (i := 6) rfl)) (fun _ h9 => h9) rfl dX4_gather_67 ?_
    refine lv_if_le (tgt := 77) hx hb dX4_gather_70 (by decide) (fun c_5 => ?_) (fun c_5 => ?_)
    · skip
      refine lv_iconst (v := 0) hx hb dX4_gather_77 (by decide) ?_
      exact mu_zret (fN (gMf C now s0) n mx0) hx hb hr hlocks rfl hP hD hS dX4_gather_78 ⟨by unfold bOK; rw [fi, show decide (0 < m_dr (gMx n C now s0)) = false from decide_eq_false (Int32.not_lt.mpr c_5)]; rfl, fun _ => rfl⟩
    · skip
      refine lv_iconst (v := 1) hx hb dX4_gather_73 (by decide) ?_
      refine lv_goto (tgt := 78) hx hb dX4_gather_74 (by decide) ?_
      exact mu_zret (fN (gMf C now s0) n mx0) hx hb hr hlocks rfl hP hD hS dX4_gather_78 ⟨by unfold bOK; rw [fi, show decide (0 < m_dr (gMx n C now s0)) = true from decide_eq_true (Int32.not_le.mp c_5)]; rfl, fun _ => rfl⟩
  · skip
    have c_4 : ¬ n ≤ i := fun h => c_4 ((nI_leI (a := n) (b := i) (by omega) (by omega)).mpr h)
    refine lv_iload_n hx hb dX4_gather_17 rfl (lv_at hl 1 rfl) ?_
    refine lv_iload_n hx hb dX4_gather_18 rfl (lv_at hl 2 rfl) ?_
    refine ro_i (va_runS (As := [.int s0, .int (nI i)]) (rest := []) F (kX4_holds l s0 (nI i)) (va_cwS 2 hts gX4_gather_X4_holds rfl rfl rfl hdX4_holds ⟨(Nat.le_of_ble_eq_true rfl), (Nat.le_of_ble_eq_true rfl)⟩) ⟨tr_blind, tr_pre⟩ rfl rfl hl.1 rfl (lv_room (Nat.le_of_ble_eq_true rfl)) dX4_gather_19 ⟨Nat.zero_le _, Nat.zero_le _⟩) ?_
    refine lv_if_eq (tgt := 57) hx hb dX4_gather_22 (by decide) (fun c_6 => ?_) (fun c_6 => ?_)
    · skip
      have c_6 := zI_0 c_6
      refine lv_iinc (v := (nI i + 1)) (lv' := [(2, .int (nI i + 1)), (0, .ref (q 0)), (1, .int s0)]) hx hb dX4_gather_57 hl (k := 2) rfl rfl (by decide) rfl (fun ls hl => ?_)
      refine lv_goto (tgt := 9) hx hb dX4_gather_60 (by decide) ?_
      have em : fN (gMf C now s0) i mx0 = fN (gMf C now s0) (i + 1) mx0 := by rw [fN_s]; unfold gMf; rw [if_neg (by rw [c_6]; decide)]
      rw [em] at hP hD
      have hP : va_P D vwCl (xW y q (nI n) now rt tr C ah w (fN (gMf C now s0) (i + 1) mx0) rd ct g h) H := hP
      have hD : va_D A (xW y q (nI n) now rt tr C ah w (fN (gMf C now s0) (i + 1) mx0) rd ct g h) := hD
      exact ihi (i + 1) ls H locs (by show n - (i + 1) < n - i; omega) ⟨by omega, (by show okf C s0 i (okG i C s0) = true; rw [fi]; unfold okf; simp [c_6])⟩ (lv_sub hl [1, 2, 0] (by
        show ([(0, .ref (q 0)), (1, .int s0), (2, .int (nI i + 1))] : List (Nat × Value)) = [(0, .ref (q 0)), (1, .int s0), (2, .int (nI (i + 1)))]
        rw [← nI_1])) hP hD hS
    · skip
      have c_6 := zI_1 c_6
      refine lv_aload_n hx hb dX4_gather_25 rfl (lv_at hl 0 rfl) ?_
      refine va_get (D := D) (ci := 4) (v := .ref (q 1)) (C := RX4) (T := TX4) (N := 9) hx hb hts iX4 hown hK hP 0 rfl rfl 0 (by decide) (hts _ (List.mem_of_getElem? (i := 3) rfl)) (fun _ h9 => h9) rfl dX4_gather_26 ?_
      refine lv_iload_n hx hb dX4_gather_29 rfl (lv_at hl 2 rfl) ?_
      refine wa_aldq hx hb hK hP 1 0 rfl rfl i rfl (by omega) (by decide) rfl dX4_gather_30 ?_
      refine va_get (D := D) (ci := 0) (v := .int (c_dr (C i))) (C := RX0) (T := TX0) (N := 8) hx hb hts iX0 hown hK hP (9 + i) (xp_at rfl (by omega)) rfl 1 (by decide) (hts _ (List.mem_of_getElem? (i := 4) rfl)) (fun _ h9 => h9) rfl dX4_gather_31 ?_
      refine lv_iconst (v := 1) hx hb dX4_gather_34 (by decide) ?_
      refine lv_icmp_ge (tgt := 40) hx hb dX4_gather_35 (by decide) (fun c_7 => ?_) (fun c_7 => ?_)
      · skip
        refine lv_aload_n hx hb dX4_gather_40 rfl (lv_at hl 0 rfl) ?_
        refine va_get (D := D) (ci := 4) (v := .ref (q 5)) (C := RX4) (T := TX4) (N := 9) hx hb hts iX4 hown hK hP 0 rfl rfl 3 (by decide) (hts _ (List.mem_of_getElem? (i := 1) rfl)) (fun _ h9 => h9) rfl dX4_gather_41 ?_
        refine lv_aload_n hx hb dX4_gather_44 rfl (lv_at hl 0 rfl) ?_
        refine va_get (D := D) (ci := 4) (v := .ref (q 1)) (C := RX4) (T := TX4) (N := 9) hx hb hts iX4 hown hK hP 0 rfl rfl 0 (by decide) (hts _ (List.mem_of_getElem? (i := 3) rfl)) (fun _ h9 => h9) rfl dX4_gather_45 ?_
        refine lv_iload_n hx hb dX4_gather_48 rfl (lv_at hl 2 rfl) ?_
        refine wa_aldq hx hb hK hP 1 0 rfl rfl i rfl (by omega) (by decide) rfl dX4_gather_49 ?_
        refine lv_aload_n hx hb dX4_gather_50 rfl (lv_at hl 0 rfl) ?_
        refine va_get (D := D) (ci := 4) (v := .int now) (C := RX4) (T := TX4) (N := 9) hx hb hts iX4 hown hK hP 0 rfl rfl 6 (by decide) (hts _ (List.mem_of_getElem? (i := 5) rfl)) (fun _ h9 => h9) rfl dX4_gather_51 ?_
        refine muF_v (va_runV (As := [.ref (q (9 + i)), .int now]) (rest := []) F (kX1_add l D y q n now rt tr C ah w (fN (gMf C now s0) i mx0) rd ct g h now i (by omega) _) (cwV 2 hts gX4_gather_X1_add rfl rfl rfl ⟨rfl, hdX1_add⟩ ⟨(Nat.le_of_ble_eq_true rfl), (Nat.le_of_ble_eq_true rfl)⟩) ⟨(muB_blind (fun _ _ _ _ _ => trivial)), va_recv hK hP (ci := 1) (q0 := 5) rfl rfl, muF_pre hP hK hN hD (fun _ _ _ => trivial)⟩ rfl rfl hl.1 rfl (lv_room (Nat.le_of_ble_eq_true rfl)) dX4_gather_54 ⟨Nat.zero_le _, Nat.zero_le _⟩) hP hD hS hA (fun u_9 H locs w_10 hP hD hS => ?_)
        have hP : va_P D vwCl (xW y q (nI n) now rt tr C ah w (addX (fN (gMf C now s0) i mx0) (C i) now) rd ct g h) H := hP
        have hD : va_D A (xW y q (nI n) now rt tr C ah w (addX (fN (gMf C now s0) i mx0) (C i) now) rd ct g h) := hD
        refine lv_iinc (v := (nI i + 1)) (lv' := [(2, .int (nI i + 1)), (0, .ref (q 0)), (1, .int s0)]) hx hb dX4_gather_57 hl (k := 2) rfl rfl (by decide) rfl (fun ls hl => ?_)
        refine lv_goto (tgt := 9) hx hb dX4_gather_60 (by decide) ?_
        have em : addX (fN (gMf C now s0) i mx0) (C i) now = fN (gMf C now s0) (i + 1) mx0 := by rw [fN_s]; unfold gMf; rw [if_pos c_6]
        rw [em] at hP hD
        have hP : va_P D vwCl (xW y q (nI n) now rt tr C ah w (fN (gMf C now s0) (i + 1) mx0) rd ct g h) H := hP
        have hD : va_D A (xW y q (nI n) now rt tr C ah w (fN (gMf C now s0) (i + 1) mx0) rd ct g h) := hD
        exact ihi (i + 1) ls H locs (by show n - (i + 1) < n - i; omega) ⟨by omega, (by show okf C s0 i (okG i C s0) = true; rw [fi]; unfold okf; simp [c_6, c_7])⟩ (lv_sub hl [1, 2, 0] (by
          show ([(0, .ref (q 0)), (1, .int s0), (2, .int (nI i + 1))] : List (Nat × Value)) = [(0, .ref (q 0)), (1, .int s0), (2, .int (nI (i + 1)))]
          rw [← nI_1])) hP hD hS
      · skip
        refine lv_iconst (v := 0) hx hb dX4_gather_38 (by decide) ?_
        exact mu_zret (fN (gMf C now s0) i mx0) hx hb hr hlocks rfl hP hD hS dX4_gather_39 (ga_bad (okG_f (i := i + 1) (by show okf C s0 i (okG i C s0) = false; rw [fi]; unfold okf; simp [c_6, c_7]) n (by omega)))

set_option maxHeartbeats 4000000 in
set_option maxRecDepth 100000 in
theorem kX4_blend (l : Launch) (D : va_G) (y : Nat → ClassId) (q : Nat → Nat) (n : Nat) (now rt : Int32) (tr : Int64) (C : Nat → CT) (ah w : Nat → Int32) (mx : MT) (rd ct : Int32) (g h : Nat → Int32) (s0 : Int32) (k0 : Int32) (sz : Nat) (hn : n ≤ 12) : Met l yX4_blend wsX4_blend ({ frames := 4, cells := 0, slots := 0, locals := 86 }) (va_Pc [.ref (q 0), .int s0, .int k0] (muB D (xT y) (xW y q (nI n) now rt tr C ah w mx rd ct g h) sz eT)) (QI (σ := MT) D (fun r u => r = blendF n C now w s0 k0) (fun u => (xW y q (nI n) now rt tr C ah w u rd ct g h)) (va_A (xW y q (nI n) now rt tr C ah w mx rd ct g h) sz)) 0 0 (va_A (xW y q (nI n) now rt tr C ah w mx rd ct g h) sz) := by
  refine mu_start (Qc := QI (σ := MT) D (fun r u => r = blendF n C now w s0 k0) (fun u => (xW y q (nI n) now rt tr C ah w u rd ct g h))) (cc := cX4_blend) (maxL := 3) (ret := (some .int)) (by decide) rfl (Nat.le_of_ble_eq_true rfl) ?_
  intro p e s m below meth c ls A hx hb hr hml hown hlocks hts hnm hA hP hK hN hD hE hAA hsz hl
  have hS : va_S A s.heap s.heap [] := va_S.rf
  have hown : s.vm.findClass RX4 = some m.cls := hown
  have F : CallFix p m c cX4_blend 3 s [.ref (q 0), .int s0, .int k0].toArray wsX4_blend RX4 := ⟨hx, hb, hml, hown, hts⟩
  have hl : lv_has ls 3 [(0, .ref (q 0)), (1, .int s0), (2, .int k0)] := hl
  have iX1 : ∀ w ∈ u_ws RX1 TX1 7, w ∈ wsX4_blend := mem_pl [97, 98, 99, 100, 101, 102, 103] rfl
  have iX4 : ∀ w ∈ u_ws RX4 TX4 9, w ∈ wsX4_blend := mem_pl [88, 89, 90, 91, 92, 93, 94, 95, 96] rfl
  refine lv_aload_n hx hb dX4_blend_0 rfl (lv_at hl 0 rfl) ?_
  refine lv_iload_n hx hb dX4_blend_1 rfl (lv_at hl 1 rfl) ?_
  refine ro_i (va_runV (As := [.int s0]) (rest := []) F (kX4_isSet l D y q n now rt tr C ah w mx rd ct g h s0) (cwV 1 hts gX4_blend_X4_isSet rfl rfl rfl ⟨rfl, hdX4_isSet⟩ ⟨(Nat.le_of_ble_eq_true rfl), (Nat.le_of_ble_eq_true rfl)⟩) ⟨rdB_blind, va_recv hK hP (ci := 4) (q0 := 0) rfl rfl, rdB_pre hP hK hN⟩ rfl rfl hl.1 rfl (lv_room (Nat.le_of_ble_eq_true rfl)) dX4_blend_2 ⟨Nat.zero_le _, Nat.zero_le _⟩) ?_
  refine lv_if_eq (tgt := 16) hx hb dX4_blend_5 (by decide) (fun c_1 => ?_) (fun c_1 => ?_)
  · skip
    have c_1 := zI_0 c_1
    refine lv_iconst (v := (-1)) hx hb dX4_blend_16 (by decide) ?_
    exact mu_iret mx hx hb hr hlocks hP hD hS dX4_blend_17 (by simp [blendF, blX, zI, c_1])
  · skip
    have c_1 := zI_1 c_1
    refine lv_aload_n hx hb dX4_blend_8 rfl (lv_at hl 0 rfl) ?_
    refine lv_iload_n hx hb dX4_blend_9 rfl (lv_at hl 1 rfl) ?_
    refine muF_i (va_runV (As := [.int s0]) (rest := []) F (kX4_gather l D y q n now rt tr C ah w mx rd ct g h s0 _ hn) (cwV 1 hts gX4_blend_X4_gather rfl rfl rfl ⟨rfl, hdX4_gather⟩ ⟨(Nat.le_of_ble_eq_true rfl), (Nat.le_of_ble_eq_true rfl)⟩) ⟨(muB_blind (fun _ _ _ _ _ => trivial)), va_recv hK hP (ci := 4) (q0 := 0) rfl rfl, muF_pre hP hK hN hD (fun _ _ _ => trivial)⟩ rfl rfl hl.1 rfl (lv_room (Nat.le_of_ble_eq_true rfl)) dX4_blend_10 ⟨Nat.zero_le _, Nat.zero_le _⟩) hP hD hS hA (fun r_2 u_3 H locs w_4 hP hD hS => ?_)
    obtain ⟨rfl, w_4⟩ := w_4
    have hP : va_P D vwCl (xW y q (nI n) now rt tr C ah w u_3 rd ct g h) H := hP
    have hD : va_D A (xW y q (nI n) now rt tr C ah w u_3 rd ct g h) := hD
    refine lv_if_ne (tgt := 18) hx hb dX4_blend_13 (by decide) (fun c_5 => ?_) (fun c_5 => ?_)
    · skip
      have c_5 := zI_1 c_5
      obtain rfl := w_4 c_5
      refine lv_iload_n hx hb dX4_blend_18 rfl (lv_at hl 2 rfl) ?_
      by_cases t_6 : k0 = 0
      · skip
        subst t_6
        refine lv_tableIn (off := 45) (tgt := 64) hx hb dX4_blend_19 (by decide) (by decide) rfl (by decide) ?_
        refine lv_aload_n hx hb dX4_blend_64 rfl (lv_at hl 0 rfl) ?_
        refine va_get (D := D) (ci := 4) (v := .ref (q 5)) (C := RX4) (T := TX4) (N := 9) hx hb hts iX4 hown hK hP 0 rfl rfl 3 (by decide) (hts _ (List.mem_of_getElem? (i := 1) rfl)) (fun _ h9 => h9) rfl dX4_blend_65 ?_
        refine va_get (D := D) (ci := 1) (v := .int (m_dr (gMx n C now s0))) (C := RX1) (T := TX1) (N := 7) hx hb hts iX1 hown hK hP 5 rfl rfl 0 (by decide) (hts _ (List.mem_of_getElem? (i := 2) rfl)) (fun _ h9 => h9) rfl dX4_blend_68 ?_
        exact mu_iret (gMx n C now s0) hx hb hr hlocks hP hD hS dX4_blend_71 (by simp [blendF, blX, zI, c_1, c_5])
      by_cases t_7 : k0 = 1
      · skip
        subst t_7
        refine lv_tableIn (off := 53) (tgt := 72) hx hb dX4_blend_19 (by decide) (by decide) rfl (by decide) ?_
        refine lv_aload_n hx hb dX4_blend_72 rfl (lv_at hl 0 rfl) ?_
        refine va_get (D := D) (ci := 4) (v := .ref (q 5)) (C := RX4) (T := TX4) (N := 9) hx hb hts iX4 hown hK hP 0 rfl rfl 3 (by decide) (hts _ (List.mem_of_getElem? (i := 1) rfl)) (fun _ h9 => h9) rfl dX4_blend_73 ?_
        refine lv_aload_n hx hb dX4_blend_76 rfl (lv_at hl 0 rfl) ?_
        refine va_get (D := D) (ci := 4) (v := .ref (q 5)) (C := RX4) (T := TX4) (N := 9) hx hb hts iX4 hown hK hP 0 rfl rfl 3 (by decide) (hts _ (List.mem_of_getElem? (i := 1) rfl)) (fun _ h9 => h9) rfl dX4_blend_77 ?_
        refine va_get (D := D) (ci := 1) (v := .int (m_sg (gMx n C now s0))) (C := RX1) (T := TX1) (N := 7) hx hb hts iX1 hown hK hP 5 rfl rfl 1 (by decide) (hts _ (List.mem_of_getElem? (i := 3) rfl)) (fun _ h9 => h9) rfl dX4_blend_80 ?_
        refine ro_i (va_runV (As := [.int (m_sg (gMx n C now s0))]) (rest := []) F (kX1_evenly l D y q n now rt tr C ah w (gMx n C now s0) rd ct g h (m_sg (gMx n C now s0))) (cwV 1 hts gX4_blend_X1_evenly rfl rfl rfl ⟨rfl, hdX1_evenly⟩ ⟨(Nat.le_of_ble_eq_true rfl), (Nat.le_of_ble_eq_true rfl)⟩) ⟨rdB_blind, va_recv hK hP (ci := 1) (q0 := 5) rfl rfl, rdB_pre hP hK hN⟩ rfl rfl hl.1 rfl (lv_room (Nat.le_of_ble_eq_true rfl)) dX4_blend_83 ⟨Nat.zero_le _, Nat.zero_le _⟩) ?_
        exact mu_iret (gMx n C now s0) hx hb hr hlocks hP hD hS dX4_blend_86 (by simp [blendF, blX, zI, c_1, c_5])
      by_cases t_8 : k0 = 2
      · skip
        subst t_8
        refine lv_tableIn (off := 68) (tgt := 87) hx hb dX4_blend_19 (by decide) (by decide) rfl (by decide) ?_
        refine lv_aload_n hx hb dX4_blend_87 rfl (lv_at hl 0 rfl) ?_
        refine va_get (D := D) (ci := 4) (v := .ref (q 5)) (C := RX4) (T := TX4) (N := 9) hx hb hts iX4 hown hK hP 0 rfl rfl 3 (by decide) (hts _ (List.mem_of_getElem? (i := 1) rfl)) (fun _ h9 => h9) rfl dX4_blend_88 ?_
        refine va_get (D := D) (ci := 1) (v := .int (m_ag (gMx n C now s0))) (C := RX1) (T := TX1) (N := 7) hx hb hts iX1 hown hK hP 5 rfl rfl 6 (by decide) (hts _ (List.mem_of_getElem? (i := 4) rfl)) (fun _ h9 => h9) rfl dX4_blend_91 ?_
        exact mu_iret (gMx n C now s0) hx hb hr hlocks hP hD hS dX4_blend_94 (by simp [blendF, blX, zI, c_1, c_5])
      by_cases t_9 : k0 = 3
      · skip
        subst t_9
        refine lv_tableIn (off := 76) (tgt := 95) hx hb dX4_blend_19 (by decide) (by decide) rfl (by decide) ?_
        refine lv_aload_n hx hb dX4_blend_95 rfl (lv_at hl 0 rfl) ?_
        refine va_get (D := D) (ci := 4) (v := .ref (q 5)) (C := RX4) (T := TX4) (N := 9) hx hb hts iX4 hown hK hP 0 rfl rfl 3 (by decide) (hts _ (List.mem_of_getElem? (i := 1) rfl)) (fun _ h9 => h9) rfl dX4_blend_96 ?_
        refine lv_aload_n hx hb dX4_blend_99 rfl (lv_at hl 0 rfl) ?_
        refine va_get (D := D) (ci := 4) (v := .ref (q 5)) (C := RX4) (T := TX4) (N := 9) hx hb hts iX4 hown hK hP 0 rfl rfl 3 (by decide) (hts _ (List.mem_of_getElem? (i := 1) rfl)) (fun _ h9 => h9) rfl dX4_blend_100 ?_
        refine va_get (D := D) (ci := 1) (v := .int (m_ok (gMx n C now s0))) (C := RX1) (T := TX1) (N := 7) hx hb hts iX1 hown hK hP 5 rfl rfl 2 (by decide) (hts _ (List.mem_of_getElem? (i := 5) rfl)) (fun _ h9 => h9) rfl dX4_blend_103 ?_
        refine ro_i (va_runV (As := [.int (m_ok (gMx n C now s0))]) (rest := []) F (kX1_evenly l D y q n now rt tr C ah w (gMx n C now s0) rd ct g h (m_ok (gMx n C now s0))) (cwV 1 hts gX4_blend_X1_evenly rfl rfl rfl ⟨rfl, hdX1_evenly⟩ ⟨(Nat.le_of_ble_eq_true rfl), (Nat.le_of_ble_eq_true rfl)⟩) ⟨rdB_blind, va_recv hK hP (ci := 1) (q0 := 5) rfl rfl, rdB_pre hP hK hN⟩ rfl rfl hl.1 rfl (lv_room (Nat.le_of_ble_eq_true rfl)) dX4_blend_106 ⟨Nat.zero_le _, Nat.zero_le _⟩) ?_
        exact mu_iret (gMx n C now s0) hx hb hr hlocks hP hD hS dX4_blend_109 (by simp [blendF, blX, zI, c_1, c_5])
      by_cases t_10 : k0 = 4
      · skip
        subst t_10
        refine lv_tableIn (off := 91) (tgt := 110) hx hb dX4_blend_19 (by decide) (by decide) rfl (by decide) ?_
        refine lv_aload_n hx hb dX4_blend_110 rfl (lv_at hl 0 rfl) ?_
        refine va_get (D := D) (ci := 4) (v := .ref (q 5)) (C := RX4) (T := TX4) (N := 9) hx hb hts iX4 hown hK hP 0 rfl rfl 3 (by decide) (hts _ (List.mem_of_getElem? (i := 1) rfl)) (fun _ h9 => h9) rfl dX4_blend_111 ?_
        refine lv_aload_n hx hb dX4_blend_114 rfl (lv_at hl 0 rfl) ?_
        refine va_get (D := D) (ci := 4) (v := .ref (q 5)) (C := RX4) (T := TX4) (N := 9) hx hb hts iX4 hown hK hP 0 rfl rfl 3 (by decide) (hts _ (List.mem_of_getElem? (i := 1) rfl)) (fun _ h9 => h9) rfl dX4_blend_115 ?_
        refine va_get (D := D) (ci := 1) (v := .int (m_sm (gMx n C now s0))) (C := RX1) (T := TX1) (N := 7) hx hb hts iX1 hown hK hP 5 rfl rfl 3 (by decide) (hts _ (List.mem_of_getElem? (i := 6) rfl)) (fun _ h9 => h9) rfl dX4_blend_118 ?_
        refine ro_i (va_runV (As := [.int (m_sm (gMx n C now s0))]) (rest := []) F (kX1_evenly l D y q n now rt tr C ah w (gMx n C now s0) rd ct g h (m_sm (gMx n C now s0))) (cwV 1 hts gX4_blend_X1_evenly rfl rfl rfl ⟨rfl, hdX1_evenly⟩ ⟨(Nat.le_of_ble_eq_true rfl), (Nat.le_of_ble_eq_true rfl)⟩) ⟨rdB_blind, va_recv hK hP (ci := 1) (q0 := 5) rfl rfl, rdB_pre hP hK hN⟩ rfl rfl hl.1 rfl (lv_room (Nat.le_of_ble_eq_true rfl)) dX4_blend_121 ⟨Nat.zero_le _, Nat.zero_le _⟩) ?_
        exact mu_iret (gMx n C now s0) hx hb hr hlocks hP hD hS dX4_blend_124 (by simp [blendF, blX, zI, c_1, c_5])
      by_cases t_11 : k0 = 5
      · skip
        subst t_11
        refine lv_tableIn (off := 106) (tgt := 125) hx hb dX4_blend_19 (by decide) (by decide) rfl (by decide) ?_
        refine lv_aload_n hx hb dX4_blend_125 rfl (lv_at hl 0 rfl) ?_
        refine va_get (D := D) (ci := 4) (v := .ref (q 5)) (C := RX4) (T := TX4) (N := 9) hx hb hts iX4 hown hK hP 0 rfl rfl 3 (by decide) (hts _ (List.mem_of_getElem? (i := 1) rfl)) (fun _ h9 => h9) rfl dX4_blend_126 ?_
        refine lv_aload_n hx hb dX4_blend_129 rfl (lv_at hl 0 rfl) ?_
        refine va_get (D := D) (ci := 4) (v := .ref (q 5)) (C := RX4) (T := TX4) (N := 9) hx hb hts iX4 hown hK hP 0 rfl rfl 3 (by decide) (hts _ (List.mem_of_getElem? (i := 1) rfl)) (fun _ h9 => h9) rfl dX4_blend_130 ?_
        refine va_get (D := D) (ci := 1) (v := .int (m_sw (gMx n C now s0))) (C := RX1) (T := TX1) (N := 7) hx hb hts iX1 hown hK hP 5 rfl rfl 4 (by decide) (hts _ (List.mem_of_getElem? (i := 7) rfl)) (fun _ h9 => h9) rfl dX4_blend_133 ?_
        refine ro_i (va_runV (As := [.int (m_sw (gMx n C now s0))]) (rest := []) F (kX1_evenly l D y q n now rt tr C ah w (gMx n C now s0) rd ct g h (m_sw (gMx n C now s0))) (cwV 1 hts gX4_blend_X1_evenly rfl rfl rfl ⟨rfl, hdX1_evenly⟩ ⟨(Nat.le_of_ble_eq_true rfl), (Nat.le_of_ble_eq_true rfl)⟩) ⟨rdB_blind, va_recv hK hP (ci := 1) (q0 := 5) rfl rfl, rdB_pre hP hK hN⟩ rfl rfl hl.1 rfl (lv_room (Nat.le_of_ble_eq_true rfl)) dX4_blend_136 ⟨Nat.zero_le _, Nat.zero_le _⟩) ?_
        exact mu_iret (gMx n C now s0) hx hb hr hlocks hP hD hS dX4_blend_139 (by simp [blendF, blX, zI, c_1, c_5])
      by_cases t_12 : k0 = 6
      · skip
        subst t_12
        refine lv_tableIn (off := 121) (tgt := 140) hx hb dX4_blend_19 (by decide) (by decide) rfl (by decide) ?_
        refine lv_aload_n hx hb dX4_blend_140 rfl (lv_at hl 0 rfl) ?_
        refine va_get (D := D) (ci := 4) (v := .ref (q 5)) (C := RX4) (T := TX4) (N := 9) hx hb hts iX4 hown hK hP 0 rfl rfl 3 (by decide) (hts _ (List.mem_of_getElem? (i := 1) rfl)) (fun _ h9 => h9) rfl dX4_blend_141 ?_
        refine va_get (D := D) (ci := 1) (v := .int (m_co (gMx n C now s0))) (C := RX1) (T := TX1) (N := 7) hx hb hts iX1 hown hK hP 5 rfl rfl 5 (by decide) (hts _ (List.mem_of_getElem? (i := 8) rfl)) (fun _ h9 => h9) rfl dX4_blend_144 ?_
        exact mu_iret (gMx n C now s0) hx hb hr hlocks hP hD hS dX4_blend_147 (by simp [blendF, blX, zI, c_1, c_5])
      by_cases t_13 : k0 = 7
      · skip
        subst t_13
        refine lv_tableIn (off := 129) (tgt := 148) hx hb dX4_blend_19 (by decide) (by decide) rfl (by decide) ?_
        refine lv_aload_n hx hb dX4_blend_148 rfl (lv_at hl 0 rfl) ?_
        refine va_get (D := D) (ci := 4) (v := .ref (q 3)) (C := RX4) (T := TX4) (N := 9) hx hb hts iX4 hown hK hP 0 rfl rfl 2 (by decide) (hts _ (List.mem_of_getElem? (i := 9) rfl)) (fun _ h9 => h9) rfl dX4_blend_149 ?_
        refine lv_aload_n hx hb dX4_blend_152 rfl (lv_at hl 0 rfl) ?_
        refine va_get (D := D) (ci := 4) (v := .ref (q 5)) (C := RX4) (T := TX4) (N := 9) hx hb hts iX4 hown hK hP 0 rfl rfl 3 (by decide) (hts _ (List.mem_of_getElem? (i := 1) rfl)) (fun _ h9 => h9) rfl dX4_blend_153 ?_
        refine ro_i (va_runV (As := [.ref (q 5)]) (rest := []) F (kX3_isMetBy l D y q n now rt tr C ah w (gMx n C now s0) rd ct g h) (cwV 1 hts gX4_blend_X3_isMetBy rfl rfl rfl ⟨rfl, hdX3_isMetBy⟩ ⟨(Nat.le_of_ble_eq_true rfl), (Nat.le_of_ble_eq_true rfl)⟩) ⟨rdB_blind, va_recv hK hP (ci := 3) (q0 := 3) rfl rfl, rdB_pre hP hK hN⟩ rfl rfl hl.1 rfl (lv_room (Nat.le_of_ble_eq_true rfl)) dX4_blend_156 ⟨Nat.zero_le _, Nat.zero_le _⟩) ?_
        refine lv_if_eq (tgt := 166) hx hb dX4_blend_159 (by decide) (fun c_14 => ?_) (fun c_14 => ?_)
        · skip
          have c_14 := zI_0 c_14
          refine lv_iconst (v := 0) hx hb dX4_blend_166 (by decide) ?_
          exact mu_iret (gMx n C now s0) hx hb hr hlocks hP hD hS dX4_blend_167 (by simp [blendF, blX, zI, c_1, c_5, c_14])
        · skip
          have c_14 := zI_1 c_14
          refine lv_iconst (v := 1) hx hb dX4_blend_162 (by decide) ?_
          refine lv_goto (tgt := 167) hx hb dX4_blend_163 (by decide) ?_
          exact mu_iret (gMx n C now s0) hx hb hr hlocks hP hD hS dX4_blend_167 (by simp [blendF, blX, zI, c_1, c_5, c_14])
      have u_6 : ¬ (k0).toInt = 0 := fun h => t_6 (Int32.toInt_inj.mp h)
      have u_7 : ¬ (k0).toInt = 1 := fun h => t_7 (Int32.toInt_inj.mp h)
      have u_8 : ¬ (k0).toInt = 2 := fun h => t_8 (Int32.toInt_inj.mp h)
      have u_9 : ¬ (k0).toInt = 3 := fun h => t_9 (Int32.toInt_inj.mp h)
      have u_10 : ¬ (k0).toInt = 4 := fun h => t_10 (Int32.toInt_inj.mp h)
      have u_11 : ¬ (k0).toInt = 5 := fun h => t_11 (Int32.toInt_inj.mp h)
      have u_12 : ¬ (k0).toInt = 6 := fun h => t_12 (Int32.toInt_inj.mp h)
      have u_13 : ¬ (k0).toInt = 7 := fun h => t_13 (Int32.toInt_inj.mp h)
      refine lv_tableOut (tgt := 168) hx hb dX4_blend_19 (by omega) (by decide) ?_
      refine lv_iconst (v := (-1)) hx hb dX4_blend_168 (by decide) ?_
      exact mu_iret (gMx n C now s0) hx hb hr hlocks hP hD hS dX4_blend_169 (by simp [blendF, blX, zI, c_1, c_5, t_6, t_7, t_8, t_9, t_10, t_11, t_12, t_13])
    · skip
      have c_5 := zI_0 c_5
      refine lv_iconst (v := (-1)) hx hb dX4_blend_16 (by decide) ?_
      exact mu_iret u_3 hx hb hr hlocks hP hD hS dX4_blend_17 (by simp [blendF, blX, zI, c_1, c_5])
end
section
def mkI (j : Nat) : Int32 := if j = 0 then 1 else if j = 1 then 11 else 111
def mkV (j : Nat) : Value := .int (mkI j)
def trE (A : Nat → Prop) (U : State) : Prop := ∃ t : Nat, va_Z "CaskBook" "TRACE_MARKS" "[I" (.ref t) A U U.heap ∧ va_T .int t 3 mkV A U U.heap
def tkf (C : Nat → CT) (a y : Int32) (i : Nat) (s : Int32 × (Nat → Int32)) : Int32 × (Nat → Int32) := if y - c_la (C i) < a then s else (s.1 - mnI s.1 (s.2 i), upd s.2 i (s.2 i - mnI s.1 (s.2 i)))
def tkA (n : Nat) (C : Nat → CT) (w a y : Int32) (ah : Nat → Int32) : Int32 × (Nat → Int32) := fN (tkf C a y) n (w, ah)
def pyA (C : Nat → CT) (ah : Nat → Int32) (y : Int32) (i : Nat) : Nat → Int32 := fun k => if k < i then ah k - lostX (ah k) (lossC (C k) y) else ah k
theorem pyA_0 (C : Nat → CT) (ah : Nat → Int32) (y : Int32) : pyA C ah y 0 = ah := by funext k; simp [pyA]
theorem pyA_t (C : Nat → CT) (ah : Nat → Int32) (y : Int32) (i : Nat) : upd (pyA C ah y i) i (pyA C ah y i i - lostX (pyA C ah y i i) (lossC (C i) y)) = pyA C ah y (i + 1) := by
  funext k
  rw [upd_ap]
  by_cases h : k = i
  · subst h; simp [pyA]
  · have : k < i + 1 ↔ k < i := by omega
    simp [pyA, h, this]
def cpA (C : Nat → CT) (ah : Nat → Int32) (i : Nat) : Nat → Int32 := fun k => if k < i then c_dr (C k) else ah k
theorem cpA_0 (C : Nat → CT) (ah : Nat → Int32) : cpA C ah 0 = ah := by funext k; simp [cpA]
theorem cpA_t (C : Nat → CT) (ah : Nat → Int32) (i : Nat) : upd (cpA C ah i) i (c_dr (C i)) = cpA C ah (i + 1) := by
  funext k
  rw [upd_ap]
  by_cases h : k = i
  · subst h; simp [cpA]
  · have : k < i + 1 ↔ k < i := by omega
    simp [cpA, h, this]
/-- the stock after i years that it lasted -/
def laA (n : Nat) (C : Nat → CT) (w a now : Int32) (f0 : Nat → Int32) : Nat → (Nat → Int32)
  | 0 => f0
  | i + 1 => pyA C (tkA n C w a (now + nI i) (laA n C w a now f0 i)).2 (now + nI i) n
def okL (n : Nat) (C : Nat → CT) (w a now : Int32) (f0 : Nat → Int32) (i : Nat) : Bool := decide ((tkA n C w a (now + nI i) (laA n C w a now f0 i)).1 = 0)
def fBad (ok : Nat → Bool) : Nat → Nat → Nat
  | 0, i => i
  | f + 1, i => if ok i = true then fBad ok f (i + 1) else i
theorem fBad_go {ok : Nat → Bool} : ∀ (k f i : Nat), (∀ j, i ≤ j → j < i + k → ok j = true) → fBad ok (k + f) i = fBad ok f (i + k) := by
  intro k
  induction k with
  | zero => intro f i _; rw [Nat.zero_add, Nat.add_zero]
  | succ k ih =>
    intro f i h
    rw [show k + 1 + f = (k + f) + 1 by omega]
    show (if ok i = true then fBad ok (k + f) (i + 1) else i) = _
    rw [if_pos (h i (Nat.le_refl _) (by omega)), ih f (i + 1) (fun j h1 h2 => h j (by omega) (by omega)), show i + 1 + k = i + (k + 1) by omega]
theorem fBad_at {ok : Nat → Bool} {i : Nat} (hi : i < 30) (h : ∀ j, j < i → ok j = true) (hb : ok i = false) : fBad ok 30 0 = i := by
  have h1 := fBad_go (ok := ok) i (29 - i + 1) 0 (fun j _ h2 => h j (by omega))
  rw [show i + (29 - i + 1) = 30 by omega] at h1
  rw [h1, Nat.zero_add]
  show (if ok i = true then _ else i) = i
  rw [if_neg (by rw [hb]; decide)]
theorem fBad_all {ok : Nat → Bool} (h : ∀ j, j < 30 → ok j = true) : fBad ok 30 0 = 30 := by
  have h1 := fBad_go (ok := ok) 30 0 0 (fun j _ h2 => h j (by omega))
  rw [h1]; rfl
def lastsF (n : Nat) (C : Nat → CT) (now : Int32) (f0 : Nat → Int32) (w a : Int32) : Int32 := if inR w 1 9999 = true ∧ inR a 0 60 = true then nI (fBad (okL n C w a now f0) 30 0) else -1
def lossF (n : Nat) (C : Nat → CT) (tr : Int64) (c k y : Int32) : Int32 × Int64 := if isC n c = true ∧ inR k 0 2 = true ∧ inR y 0 60 = true then (lossX k (c_fl (C c.toNatClampNeg)) y, tr + (mkI k.toNatClampNeg).toInt64) else (-1, tr)
def wyf (a : Nat) (k : Nat) (s : Int64 × Int64) : Int64 × Int64 := (s.1 * 2 * (nI (a - k)).toInt64 / (nI (k + 1)).toInt64, s.2 + s.1 * 2 * (nI (a - k)).toInt64 / (nI (k + 1)).toInt64)
def wyS (a k : Nat) : Int64 × Int64 := fN (wyf a) k (1, 1)
def waysX (a b : Nat) : Int64 := (wyS a (a - b)).2
def oddsF (n c : Int32) : Int64 := if (inR n 1 20 && inR c 0 n) = true then waysX n.toNatClampNeg c.toNatClampNeg else -1
def apartF (n c : Int32) : Int32 := if (inR n 1 20 && inR c 0 n) = true then (if 20 * waysX n.toNatClampNeg c.toNatClampNeg ≤ waysX n.toNatClampNeg 0 then 1 else 0) else -1
theorem lne0 {k : Nat} (h : k < 2 ^ 30) : ¬ (nI (k + 1)).toInt64 = 0 := by
  rw [nI_l (by omega)]
  intro h2
  have h3 := (pk_lEQ (a := k + 1) (b := 0) (by omega) (by omega)).mp h2
  omega
theorem tri_of {x y : Int32} (h : (inR x 1 20 && inR y 0 x) = true) : ∃ a b : Nat, a ≤ 20 ∧ b ≤ a ∧ x = nI a ∧ y = nI b := by
  rw [Bool.and_eq_true] at h
  obtain ⟨h1, h2⟩ := h
  unfold inR at h1
  rw [Bool.and_eq_true, decide_eq_true_eq, decide_eq_true_eq, Int32.le_iff_toInt_le, Int32.le_iff_toInt_le] at h1
  have k0 : (1 : Int32).toInt = 1 := rfl
  have k1 : (20 : Int32).toInt = 20 := rfl
  have k2 : (0 : Int32).toInt = 0 := rfl
  rw [k0, k1] at h1
  obtain ⟨a, ha, e⟩ := nI_of (x := x) (by rw [Int32.lt_iff_toInt_lt, k2]; omega)
  rw [e, nI_toInt ha] at h1
  obtain ⟨b, hb, e2⟩ := inR_of (k := a) e (by omega) h2
  exact ⟨a, b, by omega, hb, e, e2⟩
theorem lg_gt {x y : Int64} : 0 < lg_cmp x y ↔ ¬ x ≤ y := by
  unfold lg_cmp
  rw [Int64.not_le]
  by_cases h : x > y
  · rw [if_pos h]; exact ⟨fun _ => h, fun _ => by decide⟩
  · rw [if_neg h]
    by_cases h2 : x = y
    · rw [if_pos h2]; exact ⟨fun h3 => absurd h3 (by decide), fun h3 => absurd h3 h⟩
    · rw [if_neg h2]; exact ⟨fun h3 => absurd h3 (by decide), fun h3 => absurd h3 h⟩

set_option maxHeartbeats 4000000 in
set_option maxRecDepth 100000 in
theorem kX4_takeAhead (l : Launch) (D : va_G) (y : Nat → ClassId) (q : Nat → Nat) (n : Nat) (now rt : Int32) (tr : Int64) (C : Nat → CT) (ah w : Nat → Int32) (mx : MT) (rd ct : Int32) (g h : Nat → Int32) (w0 : Int32) (a0 : Int32) (y0 : Int32) (sz : Nat) (hn : n ≤ 12) : Met l yX4_takeAhead wsX4_takeAhead ({ frames := 1, cells := 0, slots := 0, locals := 21 }) (va_Pc [.ref (q 0), .int w0, .int a0, .int y0] (muB D (xT y) (xW y q (nI n) now rt tr C ah w mx rd ct g h) sz eT)) (QI (σ := Unit) D (fun r u => r = zI (decide ((tkA n C w0 a0 y0 ah).1 = 0))) (fun u => (xW y q (nI n) now rt tr C ((tkA n C w0 a0 y0 ah).2) w mx rd ct g h)) (va_A (xW y q (nI n) now rt tr C ah w mx rd ct g h) sz)) 0 0 (va_A (xW y q (nI n) now rt tr C ah w mx rd ct g h) sz) := by
  refine mu_start (Qc := QI (σ := Unit) D (fun r u => r = zI (decide ((tkA n C w0 a0 y0 ah).1 = 0))) (fun u => (xW y q (nI n) now rt tr C ((tkA n C w0 a0 y0 ah).2) w mx rd ct g h))) (cc := cX4_takeAhead) (maxL := 7) (ret := (some .boolean)) (by decide) rfl (Nat.le_of_ble_eq_true rfl) ?_
  intro p e s m below meth c ls A hx hb hr hml hown hlocks hts hnm hA hP hK hN hD hE hAA hsz hl
  have hS : va_S A s.heap s.heap [] := va_S.rf
  have hown : s.vm.findClass RX4 = some m.cls := hown
  have F : CallFix p m c cX4_takeAhead 7 s [.ref (q 0), .int w0, .int a0, .int y0].toArray wsX4_takeAhead RX4 := ⟨hx, hb, hml, hown, hts⟩
  have hl : lv_has ls 7 [(0, .ref (q 0)), (1, .int w0), (2, .int a0), (3, .int y0)] := hl
  have iX4 : ∀ w ∈ u_ws RX4 TX4 9, w ∈ wsX4_takeAhead := mem_pl [14, 15, 16, 17, 18, 19, 20, 21, 22] rfl
  refine lv_iload_n hx hb dX4_takeAhead_0 rfl (lv_at hl 1 rfl) ?_
  refine lv_istore (lv' := [(4, .int w0), (0, .ref (q 0)), (1, .int w0), (2, .int a0), (3, .int y0)]) hx hb dX4_takeAhead_1 hl (by decide) rfl (fun ls hl => ?_)
  refine lv_iconst (v := 0) hx hb dX4_takeAhead_3 (by decide) ?_
  refine lv_istore (lv' := [(5, .int 0), (4, .int w0), (0, .ref (q 0)), (1, .int w0), (2, .int a0), (3, .int y0)]) hx hb dX4_takeAhead_4 hl (by decide) rfl (fun ls hl => ?_)
  refine W.lpW (pc := 6) (τ := Nat) (D := D) (A := A) (H0 := s.heap) (cl := vwCl) (fun i => i ≤ n) (fun i => (xW y q (nI n) now rt tr C ((fN (tkf C a0 y0) i (w0, ah)).2) w mx rd ct g h)) (fun i ls => lv_has ls 7 [(0, .ref (q 0)), (1, .int w0), (2, .int a0), (3, .int y0), (4, .int ((fN (tkf C a0 y0) i (w0, ah)).1)), (5, .int (nI i))]) (fun i => n - i) ?_ 0 ls (Nat.zero_le _) (lv_sub hl [2, 3, 4, 5, 1, 0] rfl) hP hD hS
  intro i ls H locs hi hl hP hD hS ihi
  have hi : i ≤ n := hi
  have hl : lv_has ls 7 [(0, .ref (q 0)), (1, .int w0), (2, .int a0), (3, .int y0), (4, .int ((fN (tkf C a0 y0) i (w0, ah)).1)), (5, .int (nI i))] := hl
  have hP : va_P D vwCl (xW y q (nI n) now rt tr C ((fN (tkf C a0 y0) i (w0, ah)).2) w mx rd ct g h) H := hP
  have hD : va_D A (xW y q (nI n) now rt tr C ((fN (tkf C a0 y0) i (w0, ah)).2) w mx rd ct g h) := hD
  refine lv_iload hx hb dX4_takeAhead_6 (lv_at hl 5 rfl) ?_
  refine lv_aload_n hx hb dX4_takeAhead_8 rfl (lv_at hl 0 rfl) ?_
  refine va_get (D := D) (ci := 4) (v := .int (nI n)) (C := RX4) (T := TX4) (N := 9) hx hb hts iX4 hown hK hP 0 rfl rfl 5 (by decide) (hts _ (List.mem_of_getElem? (i := 1) rfl)) (fun _ h9 => h9) rfl dX4_takeAhead_9 ?_
  refine lv_icmp_ge (tgt := 69) hx hb dX4_takeAhead_12 (by decide) (fun c_1 => ?_) (fun c_1 => ?_)
  · skip
    have c_1 : n ≤ i := (nI_leI (a := n) (b := i) (by omega) (by omega)).mp c_1
    have hin : i = n := Nat.le_antisymm hi c_1
    rw [hin] at hP hD hl
    refine lv_iload hx hb dX4_takeAhead_69 (lv_at hl 4 rfl) ?_
    refine lv_if_ne (tgt := 78) hx hb dX4_takeAhead_71 (by decide) (fun c_2 => ?_) (fun c_2 => ?_)
    · skip
      refine lv_iconst (v := 0) hx hb dX4_takeAhead_78 (by decide) ?_
      exact mu_zret () hx hb hr hlocks rfl hP hD hS dX4_takeAhead_79 (by rw [show (tkA n C w0 a0 y0 ah).1 = (fN (tkf C a0 y0) n (w0, ah)).1 from rfl]; simp [zI, c_2])
    · skip
      refine lv_iconst (v := 1) hx hb dX4_takeAhead_74 (by decide) ?_
      refine lv_goto (tgt := 79) hx hb dX4_takeAhead_75 (by decide) ?_
      exact mu_zret () hx hb hr hlocks rfl hP hD hS dX4_takeAhead_79 (by rw [show (tkA n C w0 a0 y0 ah).1 = (fN (tkf C a0 y0) n (w0, ah)).1 from rfl]; simp [zI, c_2])
  · skip
    have c_1 : ¬ n ≤ i := fun h => c_1 ((nI_leI (a := n) (b := i) (by omega) (by omega)).mpr h)
    refine lv_aload_n hx hb dX4_takeAhead_15 rfl (lv_at hl 0 rfl) ?_
    refine va_get (D := D) (ci := 4) (v := .ref (q 1)) (C := RX4) (T := TX4) (N := 9) hx hb hts iX4 hown hK hP 0 rfl rfl 0 (by decide) (hts _ (List.mem_of_getElem? (i := 2) rfl)) (fun _ h9 => h9) rfl dX4_takeAhead_16 ?_
    refine lv_iload hx hb dX4_takeAhead_19 (lv_at hl 5 rfl) ?_
    refine wa_aldq hx hb hK hP 1 0 rfl rfl i rfl (by omega) (by decide) rfl dX4_takeAhead_21 ?_
    refine lv_iload_n hx hb dX4_takeAhead_22 rfl (lv_at hl 3 rfl) ?_
    refine ro_i (va_runV (As := [.int y0]) (rest := []) F (kX0_age l D y q n now rt tr C ((fN (tkf C a0 y0) i (w0, ah)).2) w mx rd ct g h y0 i (by omega)) (cwV 1 hts gX4_takeAhead_X0_age rfl rfl rfl ⟨rfl, hdX0_age⟩ ⟨(Nat.le_of_ble_eq_true rfl), (Nat.le_of_ble_eq_true rfl)⟩) ⟨rdB_blind, va_recv hK hP (ci := 0) (q0 := (9 + i)) rfl (xp_at rfl (by omega)), rdB_pre hP hK hN⟩ rfl rfl hl.1 rfl (lv_room (Nat.le_of_ble_eq_true rfl)) dX4_takeAhead_23 ⟨Nat.zero_le _, Nat.zero_le _⟩) ?_
    refine lv_iload_n hx hb dX4_takeAhead_26 rfl (lv_at hl 2 rfl) ?_
    refine lv_icmp_lt (tgt := 63) hx hb dX4_takeAhead_27 (by decide) (fun c_3 => ?_) (fun c_3 => ?_)
    · skip
      refine lv_iinc (v := (nI i + 1)) (lv' := [(5, .int (nI i + 1)), (0, .ref (q 0)), (1, .int w0), (2, .int a0), (3, .int y0), (4, .int ((fN (tkf C a0 y0) i (w0, ah)).1))]) hx hb dX4_takeAhead_63 hl (k := 5) rfl rfl (by decide) rfl (fun ls hl => ?_)
      refine lv_goto (tgt := 6) hx hb dX4_takeAhead_66 (by decide) ?_
      have et : fN (tkf C a0 y0) (i + 1) (w0, ah) = (fN (tkf C a0 y0) i (w0, ah)) := by rw [fN_s]; unfold tkf; rw [if_pos c_3]
      have hP : va_P D vwCl (xW y q (nI n) now rt tr C ((fN (tkf C a0 y0) (i + 1) (w0, ah)).2) w mx rd ct g h) H := by rw [et]; exact hP
      have hD : va_D A (xW y q (nI n) now rt tr C ((fN (tkf C a0 y0) (i + 1) (w0, ah)).2) w mx rd ct g h) := by rw [et]; exact hD
      have hP : va_P D vwCl (xW y q (nI n) now rt tr C ((fN (tkf C a0 y0) (i + 1) (w0, ah)).2) w mx rd ct g h) H := hP
      have hD : va_D A (xW y q (nI n) now rt tr C ((fN (tkf C a0 y0) (i + 1) (w0, ah)).2) w mx rd ct g h) := hD
      exact ihi (i + 1) ls H locs (by show n - (i + 1) < n - i; omega) (by show i + 1 ≤ n; omega) (lv_sub hl [1, 2, 3, 4, 5, 0] (by
        show ([(0, .ref (q 0)), (1, .int w0), (2, .int a0), (3, .int y0), (4, .int ((fN (tkf C a0 y0) i (w0, ah)).1)), (5, .int (nI i + 1))] : List (Nat × Value)) = [(0, .ref (q 0)), (1, .int w0), (2, .int a0), (3, .int y0), (4, .int ((fN (tkf C a0 y0) (i + 1) (w0, ah)).1)), (5, .int (nI (i + 1)))]
        rw [et]
        rw [← nI_1])) hP hD hS
    · skip
      refine lv_iload hx hb dX4_takeAhead_30 (lv_at hl 4 rfl) ?_
      refine lv_aload_n hx hb dX4_takeAhead_32 rfl (lv_at hl 0 rfl) ?_
      refine va_get (D := D) (ci := 4) (v := .ref (q 2)) (C := RX4) (T := TX4) (N := 9) hx hb hts iX4 hown hK hP 0 rfl rfl 1 (by decide) (hts _ (List.mem_of_getElem? (i := 3) rfl)) (fun _ h9 => h9) rfl dX4_takeAhead_33 ?_
      refine lv_iload hx hb dX4_takeAhead_36 (lv_at hl 5 rfl) ?_
      refine wa_iald hx hb hK hP 2 1 rfl rfl i rfl (by omega) (by decide) dX4_takeAhead_38 ?_
      refine wm_min hx hb (hml.trans hl.1.symm) hown (hts _ (List.mem_of_getElem? (i := 4) rfl)) (hts _ (List.mem_of_getElem? (i := 5) rfl)) (hts _ (List.mem_of_getElem? (i := 6) rfl)) (hts _ (List.mem_of_getElem? (i := 7) rfl)) (Nat.le_of_ble_eq_true rfl) (Nat.le_of_ble_eq_true rfl) (Nat.zero_le _) (Nat.zero_le _) dX4_takeAhead_39 ?_
      refine lv_istore (lv' := [(6, .int (mnI ((fN (tkf C a0 y0) i (w0, ah)).1) (((fN (tkf C a0 y0) i (w0, ah)).2) i))), (0, .ref (q 0)), (1, .int w0), (2, .int a0), (3, .int y0), (4, .int ((fN (tkf C a0 y0) i (w0, ah)).1)), (5, .int (nI i))]) hx hb dX4_takeAhead_42 hl (by decide) rfl (fun ls hl => ?_)
      refine lv_aload_n hx hb dX4_takeAhead_44 rfl (lv_at hl 1 rfl) ?_
      refine va_get (D := D) (ci := 4) (v := .ref (q 2)) (C := RX4) (T := TX4) (N := 9) hx hb hts iX4 hown hK hP 0 rfl rfl 1 (by decide) (hts _ (List.mem_of_getElem? (i := 3) rfl)) (fun _ h9 => h9) rfl dX4_takeAhead_45 ?_
      refine lv_iload hx hb dX4_takeAhead_48 (lv_at hl 6 rfl) ?_
      refine lv_dup2_11 hx hb dX4_takeAhead_50 rfl rfl ?_
      refine wa_iald hx hb hK hP 2 1 rfl rfl i rfl (by omega) (by decide) dX4_takeAhead_51 ?_
      refine lv_iload hx hb dX4_takeAhead_52 (lv_at hl 0 rfl) ?_
      refine lv_isub hx hb dX4_takeAhead_54 ?_
      refine wa_iast (v := ((((fN (tkf C a0 y0) i (w0, ah)).2) i) - (mnI ((fN (tkf C a0 y0) i (w0, ah)).1) (((fN (tkf C a0 y0) i (w0, ah)).2) i)))) hx hb hK hP hD hS 2 1 rfl rfl i rfl (by omega) (by decide) dX4_takeAhead_55 (fun H locs hP hD hS => ?_)
      have hP : va_P D vwCl (xW y q (nI n) now rt tr C (upd ((fN (tkf C a0 y0) i (w0, ah)).2) i ((((fN (tkf C a0 y0) i (w0, ah)).2) i) - (mnI ((fN (tkf C a0 y0) i (w0, ah)).1) (((fN (tkf C a0 y0) i (w0, ah)).2) i)))) w mx rd ct g h) H := hP
      have hD : va_D A (xW y q (nI n) now rt tr C (upd ((fN (tkf C a0 y0) i (w0, ah)).2) i ((((fN (tkf C a0 y0) i (w0, ah)).2) i) - (mnI ((fN (tkf C a0 y0) i (w0, ah)).1) (((fN (tkf C a0 y0) i (w0, ah)).2) i)))) w mx rd ct g h) := hD
      refine lv_iload hx hb dX4_takeAhead_56 (lv_at hl 5 rfl) ?_
      refine lv_iload hx hb dX4_takeAhead_58 (lv_at hl 0 rfl) ?_
      refine lv_isub hx hb dX4_takeAhead_60 ?_
      refine lv_istore (lv' := [(4, .int (((fN (tkf C a0 y0) i (w0, ah)).1) - (mnI ((fN (tkf C a0 y0) i (w0, ah)).1) (((fN (tkf C a0 y0) i (w0, ah)).2) i)))), (6, .int (mnI ((fN (tkf C a0 y0) i (w0, ah)).1) (((fN (tkf C a0 y0) i (w0, ah)).2) i))), (0, .ref (q 0)), (1, .int w0), (2, .int a0), (3, .int y0), (5, .int (nI i))]) hx hb dX4_takeAhead_61 hl (by decide) rfl (fun ls hl => ?_)
      refine lv_iinc (v := (nI i + 1)) (lv' := [(5, .int (nI i + 1)), (4, .int (((fN (tkf C a0 y0) i (w0, ah)).1) - (mnI ((fN (tkf C a0 y0) i (w0, ah)).1) (((fN (tkf C a0 y0) i (w0, ah)).2) i)))), (6, .int (mnI ((fN (tkf C a0 y0) i (w0, ah)).1) (((fN (tkf C a0 y0) i (w0, ah)).2) i))), (0, .ref (q 0)), (1, .int w0), (2, .int a0), (3, .int y0)]) hx hb dX4_takeAhead_63 hl (k := 6) rfl rfl (by decide) rfl (fun ls hl => ?_)
      refine lv_goto (tgt := 6) hx hb dX4_takeAhead_66 (by decide) ?_
      have et : fN (tkf C a0 y0) (i + 1) (w0, ah) = ((((fN (tkf C a0 y0) i (w0, ah)).1) - (mnI ((fN (tkf C a0 y0) i (w0, ah)).1) (((fN (tkf C a0 y0) i (w0, ah)).2) i))), (upd ((fN (tkf C a0 y0) i (w0, ah)).2) i ((((fN (tkf C a0 y0) i (w0, ah)).2) i) - (mnI ((fN (tkf C a0 y0) i (w0, ah)).1) (((fN (tkf C a0 y0) i (w0, ah)).2) i))))) := by rw [fN_s]; unfold tkf; rw [if_neg c_3]
      have hP : va_P D vwCl (xW y q (nI n) now rt tr C ((fN (tkf C a0 y0) (i + 1) (w0, ah)).2) w mx rd ct g h) H := by rw [et]; exact hP
      have hD : va_D A (xW y q (nI n) now rt tr C ((fN (tkf C a0 y0) (i + 1) (w0, ah)).2) w mx rd ct g h) := by rw [et]; exact hD
      have hP : va_P D vwCl (xW y q (nI n) now rt tr C ((fN (tkf C a0 y0) (i + 1) (w0, ah)).2) w mx rd ct g h) H := hP
      have hD : va_D A (xW y q (nI n) now rt tr C ((fN (tkf C a0 y0) (i + 1) (w0, ah)).2) w mx rd ct g h) := hD
      exact ihi (i + 1) ls H locs (by show n - (i + 1) < n - i; omega) (by show i + 1 ≤ n; omega) (lv_sub hl [3, 4, 5, 6, 1, 0] (by
        show ([(0, .ref (q 0)), (1, .int w0), (2, .int a0), (3, .int y0), (4, .int (((fN (tkf C a0 y0) i (w0, ah)).1) - (mnI ((fN (tkf C a0 y0) i (w0, ah)).1) (((fN (tkf C a0 y0) i (w0, ah)).2) i)))), (5, .int (nI i + 1))] : List (Nat × Value)) = [(0, .ref (q 0)), (1, .int w0), (2, .int a0), (3, .int y0), (4, .int ((fN (tkf C a0 y0) (i + 1) (w0, ah)).1)), (5, .int (nI (i + 1)))]
        rw [et]
        rw [← nI_1])) hP hD hS

set_option maxHeartbeats 4000000 in
set_option maxRecDepth 100000 in
theorem kX4_passYearAhead (l : Launch) (D : va_G) (y : Nat → ClassId) (q : Nat → Nat) (n : Nat) (now rt : Int32) (tr : Int64) (C : Nat → CT) (ah w : Nat → Int32) (mx : MT) (rd ct : Int32) (g h : Nat → Int32) (y0 : Int32) (sz : Nat) (hn : n ≤ 12) : Met l yX4_passYearAhead wsX4_passYearAhead ({ frames := 3, cells := 0, slots := 0, locals := 66 }) (va_Pc [.ref (q 0), .int y0] (muB D (xT y) (xW y q (nI n) now rt tr C ah w mx rd ct g h) sz eT)) (QV (σ := Unit) D (fun u => True) (fun u => (xW y q (nI n) now rt tr C (pyA C ah y0 n) w mx rd ct g h)) (va_A (xW y q (nI n) now rt tr C ah w mx rd ct g h) sz)) 0 0 (va_A (xW y q (nI n) now rt tr C ah w mx rd ct g h) sz) := by
  refine mu_start (Qc := QV (σ := Unit) D (fun u => True) (fun u => (xW y q (nI n) now rt tr C (pyA C ah y0 n) w mx rd ct g h))) (cc := cX4_passYearAhead) (maxL := 3) (ret := none) (by decide) rfl (Nat.le_of_ble_eq_true rfl) ?_
  intro p e s m below meth c ls A hx hb hr hml hown hlocks hts hnm hA hP hK hN hD hE hAA hsz hl
  have hS : va_S A s.heap s.heap [] := va_S.rf
  have hown : s.vm.findClass RX4 = some m.cls := hown
  have F : CallFix p m c cX4_passYearAhead 3 s [.ref (q 0), .int y0].toArray wsX4_passYearAhead RX4 := ⟨hx, hb, hml, hown, hts⟩
  have hl : lv_has ls 3 [(0, .ref (q 0)), (1, .int y0)] := hl
  have iX4 : ∀ w ∈ u_ws RX4 TX4 9, w ∈ wsX4_passYearAhead := mem_pl [29, 30, 31, 32, 33, 34, 35, 36, 37] rfl
  refine lv_iconst (v := 0) hx hb dX4_passYearAhead_0 (by decide) ?_
  refine lv_istore_n (lv' := [(2, .int 0), (0, .ref (q 0)), (1, .int y0)]) hx hb dX4_passYearAhead_1 rfl hl (by decide) rfl (fun ls hl => ?_)
  refine W.lpW (pc := 2) (τ := Nat) (D := D) (A := A) (H0 := s.heap) (cl := vwCl) (fun i => i ≤ n) (fun i => (xW y q (nI n) now rt tr C (pyA C ah y0 i) w mx rd ct g h)) (fun i ls => lv_has ls 3 [(0, .ref (q 0)), (1, .int y0), (2, .int (nI i))]) (fun i => n - i) ?_ 0 ls (Nat.zero_le _) (lv_sub hl [1, 2, 0] rfl) (by show va_P D vwCl (xW y q (nI n) now rt tr C (pyA C ah y0 0) w mx rd ct g h) _; rw [pyA_0]; exact hP) (by show va_D A (xW y q (nI n) now rt tr C (pyA C ah y0 0) w mx rd ct g h); rw [pyA_0]; exact hD) hS
  intro i ls H locs hi hl hP hD hS ihi
  have hi : i ≤ n := hi
  have hl : lv_has ls 3 [(0, .ref (q 0)), (1, .int y0), (2, .int (nI i))] := hl
  have hP : va_P D vwCl (xW y q (nI n) now rt tr C (pyA C ah y0 i) w mx rd ct g h) H := hP
  have hD : va_D A (xW y q (nI n) now rt tr C (pyA C ah y0 i) w mx rd ct g h) := hD
  refine lv_iload_n hx hb dX4_passYearAhead_2 rfl (lv_at hl 2 rfl) ?_
  refine lv_aload_n hx hb dX4_passYearAhead_3 rfl (lv_at hl 0 rfl) ?_
  refine va_get (D := D) (ci := 4) (v := .int (nI n)) (C := RX4) (T := TX4) (N := 9) hx hb hts iX4 hown hK hP 0 rfl rfl 5 (by decide) (hts _ (List.mem_of_getElem? (i := 1) rfl)) (fun _ h9 => h9) rfl dX4_passYearAhead_4 ?_
  refine lv_icmp_ge (tgt := 44) hx hb dX4_passYearAhead_7 (by decide) (fun c_1 => ?_) (fun c_1 => ?_)
  · skip
    have c_1 : n ≤ i := (nI_leI (a := n) (b := i) (by omega) (by omega)).mp c_1
    have hin : i = n := Nat.le_antisymm hi c_1
    rw [hin] at hP hD
    exact mu_vret () hx hb hr hlocks hP hD hS dX4_passYearAhead_44 trivial
  · skip
    have c_1 : ¬ n ≤ i := fun h => c_1 ((nI_leI (a := n) (b := i) (by omega) (by omega)).mpr h)
    refine lv_aload_n hx hb dX4_passYearAhead_10 rfl (lv_at hl 0 rfl) ?_
    refine va_get (D := D) (ci := 4) (v := .ref (q 2)) (C := RX4) (T := TX4) (N := 9) hx hb hts iX4 hown hK hP 0 rfl rfl 1 (by decide) (hts _ (List.mem_of_getElem? (i := 2) rfl)) (fun _ h9 => h9) rfl dX4_passYearAhead_11 ?_
    refine lv_iload_n hx hb dX4_passYearAhead_14 rfl (lv_at hl 2 rfl) ?_
    refine lv_dup2_11 hx hb dX4_passYearAhead_15 rfl rfl ?_
    refine wa_iald hx hb hK hP 2 1 rfl rfl i rfl (by omega) (by decide) dX4_passYearAhead_16 ?_
    refine lv_aload_n hx hb dX4_passYearAhead_17 rfl (lv_at hl 0 rfl) ?_
    refine va_get (D := D) (ci := 4) (v := .ref (q 2)) (C := RX4) (T := TX4) (N := 9) hx hb hts iX4 hown hK hP 0 rfl rfl 1 (by decide) (hts _ (List.mem_of_getElem? (i := 2) rfl)) (fun _ h9 => h9) rfl dX4_passYearAhead_18 ?_
    refine lv_iload_n hx hb dX4_passYearAhead_21 rfl (lv_at hl 2 rfl) ?_
    refine wa_iald hx hb hK hP 2 1 rfl rfl i rfl (by omega) (by decide) dX4_passYearAhead_22 ?_
    refine lv_aload_n hx hb dX4_passYearAhead_23 rfl (lv_at hl 0 rfl) ?_
    refine va_get (D := D) (ci := 4) (v := .ref (q 1)) (C := RX4) (T := TX4) (N := 9) hx hb hts iX4 hown hK hP 0 rfl rfl 0 (by decide) (hts _ (List.mem_of_getElem? (i := 3) rfl)) (fun _ h9 => h9) rfl dX4_passYearAhead_24 ?_
    refine lv_iload_n hx hb dX4_passYearAhead_27 rfl (lv_at hl 2 rfl) ?_
    refine wa_aldq hx hb hK hP 1 0 rfl rfl i rfl (by omega) (by decide) rfl dX4_passYearAhead_28 ?_
    refine lv_iload_n hx hb dX4_passYearAhead_29 rfl (lv_at hl 1 rfl) ?_
    refine ro_i (va_runV (As := [.int y0]) (rest := [.int ((pyA C ah y0 i) i), .int ((pyA C ah y0 i) i), .int (nI i), .ref (q 2)]) F (kX0_lossIn l D y q n now rt tr C (pyA C ah y0 i) w mx rd ct g h y0 i (by omega)) (cwV 1 hts gX4_passYearAhead_X0_lossIn rfl rfl rfl ⟨rfl, hdX0_lossIn⟩ ⟨(Nat.le_of_ble_eq_true rfl), (Nat.le_of_ble_eq_true rfl)⟩) ⟨rdB_blind, va_recv hK hP (ci := 0) (q0 := (9 + i)) rfl (xp_at rfl (by omega)), rdB_pre hP hK hN⟩ rfl rfl hl.1 rfl (lv_room (Nat.le_of_ble_eq_true rfl)) dX4_passYearAhead_30 ⟨Nat.zero_le _, Nat.zero_le _⟩) ?_
    refine ro_i (va_runS (As := [.int ((pyA C ah y0 i) i), .int (lossC (C i) y0)]) (rest := [.int ((pyA C ah y0 i) i), .int (nI i), .ref (q 2)]) F (kX4_lostOf l ((pyA C ah y0 i) i) (lossC (C i) y0)) (va_cwS 2 hts gX4_passYearAhead_X4_lostOf rfl rfl rfl hdX4_lostOf ⟨(Nat.le_of_ble_eq_true rfl), (Nat.le_of_ble_eq_true rfl)⟩) ⟨tr_blind, tr_pre⟩ rfl rfl hl.1 rfl (lv_room (Nat.le_of_ble_eq_true rfl)) dX4_passYearAhead_33 ⟨Nat.zero_le _, Nat.zero_le _⟩) ?_
    refine lv_isub hx hb dX4_passYearAhead_36 ?_
    refine wa_iast (v := (((pyA C ah y0 i) i) - (lostX ((pyA C ah y0 i) i) (lossC (C i) y0)))) hx hb hK hP hD hS 2 1 rfl rfl i rfl (by omega) (by decide) dX4_passYearAhead_37 (fun H locs hP hD hS => ?_)
    have hP : va_P D vwCl (xW y q (nI n) now rt tr C (upd (pyA C ah y0 i) i (((pyA C ah y0 i) i) - (lostX ((pyA C ah y0 i) i) (lossC (C i) y0)))) w mx rd ct g h) H := hP
    have hD : va_D A (xW y q (nI n) now rt tr C (upd (pyA C ah y0 i) i (((pyA C ah y0 i) i) - (lostX ((pyA C ah y0 i) i) (lossC (C i) y0)))) w mx rd ct g h) := hD
    refine lv_iinc (v := (nI i + 1)) (lv' := [(2, .int (nI i + 1)), (0, .ref (q 0)), (1, .int y0)]) hx hb dX4_passYearAhead_38 hl (k := 2) rfl rfl (by decide) rfl (fun ls hl => ?_)
    refine lv_goto (tgt := 2) hx hb dX4_passYearAhead_41 (by decide) ?_
    rw [pyA_t] at hP hD
    have hP : va_P D vwCl (xW y q (nI n) now rt tr C (pyA C ah y0 (i + 1)) w mx rd ct g h) H := hP
    have hD : va_D A (xW y q (nI n) now rt tr C (pyA C ah y0 (i + 1)) w mx rd ct g h) := hD
    exact ihi (i + 1) ls H locs (by show n - (i + 1) < n - i; omega) (by show i + 1 ≤ n; omega) (lv_sub hl [1, 2, 0] (by
      show ([(0, .ref (q 0)), (1, .int y0), (2, .int (nI i + 1))] : List (Nat × Value)) = [(0, .ref (q 0)), (1, .int y0), (2, .int (nI (i + 1)))]
      rw [← nI_1])) hP hD hS

set_option maxHeartbeats 4000000 in
set_option maxRecDepth 100000 in
theorem kX4_lasts (l : Launch) (D : va_G) (y : Nat → ClassId) (q : Nat → Nat) (n : Nat) (now rt : Int32) (tr : Int64) (C : Nat → CT) (ah w : Nat → Int32) (mx : MT) (rd ct : Int32) (g h : Nat → Int32) (w0 : Int32) (a0 : Int32) (sz : Nat) (hn : n ≤ 12) : Met l yX4_lasts wsX4_lasts ({ frames := 4, cells := 0, slots := 0, locals := 88 }) (va_Pc [.ref (q 0), .int w0, .int a0] (muB D (xT y) (xW y q (nI n) now rt tr C ah w mx rd ct g h) sz eT)) (QI (σ := Nat → Int32) D (fun r u => r = lastsF n C now (cpA C ah n) w0 a0) (fun u => (xW y q (nI n) now rt tr C u w mx rd ct g h)) (va_A (xW y q (nI n) now rt tr C ah w mx rd ct g h) sz)) 0 0 (va_A (xW y q (nI n) now rt tr C ah w mx rd ct g h) sz) := by
  refine mu_start (Qc := QI (σ := Nat → Int32) D (fun r u => r = lastsF n C now (cpA C ah n) w0 a0) (fun u => (xW y q (nI n) now rt tr C u w mx rd ct g h))) (cc := cX4_lasts) (maxL := 4) (ret := (some .int)) (by decide) rfl (Nat.le_of_ble_eq_true rfl) ?_
  intro p e s m below meth c ls A hx hb hr hml hown hlocks hts hnm hA hP hK hN hD hE hAA hsz hl
  have hS : va_S A s.heap s.heap [] := va_S.rf
  have hown : s.vm.findClass RX4 = some m.cls := hown
  have F : CallFix p m c cX4_lasts 4 s [.ref (q 0), .int w0, .int a0].toArray wsX4_lasts RX4 := ⟨hx, hb, hml, hown, hts⟩
  have hl : lv_has ls 4 [(0, .ref (q 0)), (1, .int w0), (2, .int a0)] := hl
  have iX0 : ∀ w ∈ u_ws RX0 TX0 8, w ∈ wsX4_lasts := mem_pl [55, 56, 57, 58, 59, 60, 61, 62] rfl
  have iX4 : ∀ w ∈ u_ws RX4 TX4 9, w ∈ wsX4_lasts := mem_pl [46, 47, 48, 49, 50, 51, 52, 53, 54] rfl
  refine lv_iload_n hx hb dX4_lasts_0 rfl (lv_at hl 1 rfl) ?_
  refine lv_iconst (v := 1) hx hb dX4_lasts_1 (by decide) ?_
  refine lv_sipush (v := 9999) hx hb dX4_lasts_2 (by decide) ?_
  refine ro_i (va_runS (As := [.int w0, .int 1, .int 9999]) (rest := []) F (kX4_isWithin l w0 1 9999) (va_cwS 3 hts gX4_lasts_X4_isWithin rfl rfl rfl hdX4_isWithin ⟨(Nat.le_of_ble_eq_true rfl), (Nat.le_of_ble_eq_true rfl)⟩) ⟨tr_blind, tr_pre⟩ rfl rfl hl.1 rfl (lv_room (Nat.le_of_ble_eq_true rfl)) dX4_lasts_5 ⟨Nat.zero_le _, Nat.zero_le _⟩) ?_
  refine lv_if_eq (tgt := 21) hx hb dX4_lasts_8 (by decide) (fun c_1 => ?_) (fun c_1 => ?_)
  · skip
    have c_1 := zI_0 c_1
    refine lv_iconst (v := (-1)) hx hb dX4_lasts_21 (by decide) ?_
    exact mu_iret ah hx hb hr hlocks hP hD hS dX4_lasts_22 (by simp [lastsF, c_1])
  · skip
    have c_1 := zI_1 c_1
    refine lv_iload_n hx hb dX4_lasts_11 rfl (lv_at hl 2 rfl) ?_
    refine lv_iconst (v := 0) hx hb dX4_lasts_12 (by decide) ?_
    refine lv_bipush (v := 60) hx hb dX4_lasts_13 (by decide) ?_
    refine ro_i (va_runS (As := [.int a0, .int 0, .int 60]) (rest := []) F (kX4_isWithin l a0 0 60) (va_cwS 3 hts gX4_lasts_X4_isWithin rfl rfl rfl hdX4_isWithin ⟨(Nat.le_of_ble_eq_true rfl), (Nat.le_of_ble_eq_true rfl)⟩) ⟨tr_blind, tr_pre⟩ rfl rfl hl.1 rfl (lv_room (Nat.le_of_ble_eq_true rfl)) dX4_lasts_15 ⟨Nat.zero_le _, Nat.zero_le _⟩) ?_
    refine lv_if_ne (tgt := 23) hx hb dX4_lasts_18 (by decide) (fun c_2 => ?_) (fun c_2 => ?_)
    · skip
      have c_2 := zI_1 c_2
      refine lv_iconst (v := 0) hx hb dX4_lasts_23 (by decide) ?_
      refine lv_istore_n (lv' := [(3, .int 0), (0, .ref (q 0)), (1, .int w0), (2, .int a0)]) hx hb dX4_lasts_24 rfl hl (by decide) rfl (fun ls hl => ?_)
      refine W.lpW (pc := 25) (τ := Nat) (D := D) (A := A) (H0 := s.heap) (cl := vwCl) (fun j => j ≤ n) (fun j => (xW y q (nI n) now rt tr C (cpA C ah j) w mx rd ct g h)) (fun j ls => lv_has ls 4 [(0, .ref (q 0)), (1, .int w0), (2, .int a0), (3, .int (nI j))]) (fun j => n - j) ?_ 0 ls (Nat.zero_le _) (lv_sub hl [1, 2, 3, 0] rfl) (by show va_P D vwCl (xW y q (nI n) now rt tr C (cpA C ah 0) w mx rd ct g h) _; rw [cpA_0]; exact hP) (by show va_D A (xW y q (nI n) now rt tr C (cpA C ah 0) w mx rd ct g h); rw [cpA_0]; exact hD) hS
      intro j ls H locs hj hl hP hD hS ihj
      have hj : j ≤ n := hj
      have hl : lv_has ls 4 [(0, .ref (q 0)), (1, .int w0), (2, .int a0), (3, .int (nI j))] := hl
      have hP : va_P D vwCl (xW y q (nI n) now rt tr C (cpA C ah j) w mx rd ct g h) H := hP
      have hD : va_D A (xW y q (nI n) now rt tr C (cpA C ah j) w mx rd ct g h) := hD
      refine lv_iload_n hx hb dX4_lasts_25 rfl (lv_at hl 3 rfl) ?_
      refine lv_aload_n hx hb dX4_lasts_26 rfl (lv_at hl 0 rfl) ?_
      refine va_get (D := D) (ci := 4) (v := .int (nI n)) (C := RX4) (T := TX4) (N := 9) hx hb hts iX4 hown hK hP 0 rfl rfl 5 (by decide) (hts _ (List.mem_of_getElem? (i := 1) rfl)) (fun _ h9 => h9) rfl dX4_lasts_27 ?_
      refine lv_icmp_ge (tgt := 54) hx hb dX4_lasts_30 (by decide) (fun c_3 => ?_) (fun c_3 => ?_)
      · skip
        have c_3 : n ≤ j := (nI_leI (a := n) (b := j) (by omega) (by omega)).mp c_3
        have hin : j = n := Nat.le_antisymm hj c_3
        rw [hin] at hP hD
        refine lv_iconst (v := 0) hx hb dX4_lasts_54 (by decide) ?_
        refine lv_istore_n (lv' := [(3, .int 0), (0, .ref (q 0)), (1, .int w0), (2, .int a0)]) hx hb dX4_lasts_55 rfl hl (by decide) rfl (fun ls hl => ?_)
        refine W.lpW (pc := 56) (τ := Nat) (D := D) (A := A) (H0 := s.heap) (cl := vwCl) (fun i => i ≤ 30 ∧ ∀ z : Nat, z < i → okL n C w0 a0 now (cpA C ah n) z = true) (fun i => (xW y q (nI n) now rt tr C (laA n C w0 a0 now (cpA C ah n) i) w mx rd ct g h)) (fun i ls => lv_has ls 4 [(0, .ref (q 0)), (1, .int w0), (2, .int a0), (3, .int (nI i))]) (fun i => 30 - i) ?_ 0 ls ⟨Nat.zero_le _, fun z hz => absurd hz (Nat.not_lt_zero _)⟩ (lv_sub hl [1, 2, 3, 0] rfl) hP hD hS
        intro i ls H locs hi hl hP hD hS ihi
        have fi : ∀ z : Nat, z < i → okL n C w0 a0 now (cpA C ah n) z = true := hi.2
        have hi := hi.1
        have hi : i ≤ 30 := hi
        have hl : lv_has ls 4 [(0, .ref (q 0)), (1, .int w0), (2, .int a0), (3, .int (nI i))] := hl
        have hP : va_P D vwCl (xW y q (nI n) now rt tr C (laA n C w0 a0 now (cpA C ah n) i) w mx rd ct g h) H := hP
        have hD : va_D A (xW y q (nI n) now rt tr C (laA n C w0 a0 now (cpA C ah n) i) w mx rd ct g h) := hD
        refine lv_iload_n hx hb dX4_lasts_56 rfl (lv_at hl 3 rfl) ?_
        refine lv_bipush (v := 30) hx hb dX4_lasts_57 (by decide) ?_
        refine lv_icmp_ge (tgt := 95) hx hb dX4_lasts_59 (by decide) (fun c_4 => ?_) (fun c_4 => ?_)
        · skip
          have c_4 : 30 ≤ i := (nI_leI (a := 30) (b := i) (by omega) (by omega)).mp c_4
          refine lv_bipush (v := 30) hx hb dX4_lasts_95 (by decide) ?_
          exact mu_iret (laA n C w0 a0 now (cpA C ah n) i) hx hb hr hlocks hP hD hS dX4_lasts_97 (by unfold lastsF; rw [if_pos ⟨c_1, c_2⟩, fBad_all (fun z hz => fi z (by omega))]; rfl)
        · skip
          have c_4 : ¬ 30 ≤ i := fun h => c_4 ((nI_leI (a := 30) (b := i) (by omega) (by omega)).mpr h)
          refine lv_aload_n hx hb dX4_lasts_62 rfl (lv_at hl 0 rfl) ?_
          refine lv_iload_n hx hb dX4_lasts_63 rfl (lv_at hl 1 rfl) ?_
          refine lv_iload_n hx hb dX4_lasts_64 rfl (lv_at hl 2 rfl) ?_
          refine lv_aload_n hx hb dX4_lasts_65 rfl (lv_at hl 0 rfl) ?_
          refine va_get (D := D) (ci := 4) (v := .int now) (C := RX4) (T := TX4) (N := 9) hx hb hts iX4 hown hK hP 0 rfl rfl 6 (by decide) (hts _ (List.mem_of_getElem? (i := 5) rfl)) (fun _ h9 => h9) rfl dX4_lasts_66 ?_
          refine lv_iload_n hx hb dX4_lasts_69 rfl (lv_at hl 3 rfl) ?_
          refine lv_iadd hx hb dX4_lasts_70 ?_
          refine muF_i (va_runV (As := [.int w0, .int a0, .int (now + (nI i))]) (rest := []) F (kX4_takeAhead l D y q n now rt tr C (laA n C w0 a0 now (cpA C ah n) i) w mx rd ct g h w0 a0 (now + (nI i)) _ hn) (cwV 3 hts gX4_lasts_X4_takeAhead rfl rfl rfl ⟨rfl, hdX4_takeAhead⟩ ⟨(Nat.le_of_ble_eq_true rfl), (Nat.le_of_ble_eq_true rfl)⟩) ⟨(muB_blind (fun _ _ _ _ _ => trivial)), va_recv hK hP (ci := 4) (q0 := 0) rfl rfl, muF_pre hP hK hN hD (fun _ _ _ => trivial)⟩ rfl rfl hl.1 rfl (lv_room (Nat.le_of_ble_eq_true rfl)) dX4_lasts_71 ⟨Nat.zero_le _, Nat.zero_le _⟩) hP hD hS hA (fun r_5 u_6 H locs w_7 hP hD hS => ?_)
          subst w_7
          have hP : va_P D vwCl (xW y q (nI n) now rt tr C ((tkA n C w0 a0 (now + (nI i)) (laA n C w0 a0 now (cpA C ah n) i)).2) w mx rd ct g h) H := hP
          have hD : va_D A (xW y q (nI n) now rt tr C ((tkA n C w0 a0 (now + (nI i)) (laA n C w0 a0 now (cpA C ah n) i)).2) w mx rd ct g h) := hD
          refine lv_if_ne (tgt := 79) hx hb dX4_lasts_74 (by decide) (fun c_8 => ?_) (fun c_8 => ?_)
          · skip
            have c_8 := zI_1 c_8
            refine lv_aload_n hx hb dX4_lasts_79 rfl (lv_at hl 0 rfl) ?_
            refine lv_aload_n hx hb dX4_lasts_80 rfl (lv_at hl 0 rfl) ?_
            refine va_get (D := D) (ci := 4) (v := .int now) (C := RX4) (T := TX4) (N := 9) hx hb hts iX4 hown hK hP 0 rfl rfl 6 (by decide) (hts _ (List.mem_of_getElem? (i := 5) rfl)) (fun _ h9 => h9) rfl dX4_lasts_81 ?_
            refine lv_iload_n hx hb dX4_lasts_84 rfl (lv_at hl 3 rfl) ?_
            refine lv_iadd hx hb dX4_lasts_85 ?_
            refine muF_v (va_runV (As := [.int (now + (nI i))]) (rest := []) F (kX4_passYearAhead l D y q n now rt tr C ((tkA n C w0 a0 (now + (nI i)) (laA n C w0 a0 now (cpA C ah n) i)).2) w mx rd ct g h (now + (nI i)) _ hn) (cwV 1 hts gX4_lasts_X4_passYearAhead rfl rfl rfl ⟨rfl, hdX4_passYearAhead⟩ ⟨(Nat.le_of_ble_eq_true rfl), (Nat.le_of_ble_eq_true rfl)⟩) ⟨(muB_blind (fun _ _ _ _ _ => trivial)), va_recv hK hP (ci := 4) (q0 := 0) rfl rfl, muF_pre hP hK hN hD (fun _ _ _ => trivial)⟩ rfl rfl hl.1 rfl (lv_room (Nat.le_of_ble_eq_true rfl)) dX4_lasts_86 ⟨Nat.zero_le _, Nat.zero_le _⟩) hP hD hS hA (fun u_10 H locs w_11 hP hD hS => ?_)
            have hP : va_P D vwCl (xW y q (nI n) now rt tr C (pyA C ((tkA n C w0 a0 (now + (nI i)) (laA n C w0 a0 now (cpA C ah n) i)).2) (now + (nI i)) n) w mx rd ct g h) H := hP
            have hD : va_D A (xW y q (nI n) now rt tr C (pyA C ((tkA n C w0 a0 (now + (nI i)) (laA n C w0 a0 now (cpA C ah n) i)).2) (now + (nI i)) n) w mx rd ct g h) := hD
            refine lv_iinc (v := (nI i + 1)) (lv' := [(3, .int (nI i + 1)), (0, .ref (q 0)), (1, .int w0), (2, .int a0)]) hx hb dX4_lasts_89 hl (k := 3) rfl rfl (by decide) rfl (fun ls hl => ?_)
            refine lv_goto (tgt := 56) hx hb dX4_lasts_92 (by decide) ?_
            have hP : va_P D vwCl (xW y q (nI n) now rt tr C (laA n C w0 a0 now (cpA C ah n) (i + 1)) w mx rd ct g h) H := hP
            have hD : va_D A (xW y q (nI n) now rt tr C (laA n C w0 a0 now (cpA C ah n) (i + 1)) w mx rd ct g h) := hD
            exact ihi (i + 1) ls H locs (by show 30 - (i + 1) < 30 - i; omega) ⟨by omega, fun z hz => by rcases Nat.lt_or_ge z i with h | h; exact fi z h; have hzi : z = i := (by omega); rw [hzi]; exact c_8⟩ (lv_sub hl [1, 2, 3, 0] (by
              show ([(0, .ref (q 0)), (1, .int w0), (2, .int a0), (3, .int (nI i + 1))] : List (Nat × Value)) = [(0, .ref (q 0)), (1, .int w0), (2, .int a0), (3, .int (nI (i + 1)))]
              rw [← nI_1])) hP hD hS
          · skip
            have c_8 := zI_0 c_8
            refine lv_iload_n hx hb dX4_lasts_77 rfl (lv_at hl 3 rfl) ?_
            exact mu_iret ((tkA n C w0 a0 (now + (nI i)) (laA n C w0 a0 now (cpA C ah n) i)).2) hx hb hr hlocks hP hD hS dX4_lasts_78 (by unfold lastsF; rw [if_pos ⟨c_1, c_2⟩, fBad_at (i := i) (by omega) fi c_8])
      · skip
        have c_3 : ¬ n ≤ j := fun h => c_3 ((nI_leI (a := n) (b := j) (by omega) (by omega)).mpr h)
        refine lv_aload_n hx hb dX4_lasts_33 rfl (lv_at hl 0 rfl) ?_
        refine va_get (D := D) (ci := 4) (v := .ref (q 2)) (C := RX4) (T := TX4) (N := 9) hx hb hts iX4 hown hK hP 0 rfl rfl 1 (by decide) (hts _ (List.mem_of_getElem? (i := 2) rfl)) (fun _ h9 => h9) rfl dX4_lasts_34 ?_
        refine lv_iload_n hx hb dX4_lasts_37 rfl (lv_at hl 3 rfl) ?_
        refine lv_aload_n hx hb dX4_lasts_38 rfl (lv_at hl 0 rfl) ?_
        refine va_get (D := D) (ci := 4) (v := .ref (q 1)) (C := RX4) (T := TX4) (N := 9) hx hb hts iX4 hown hK hP 0 rfl rfl 0 (by decide) (hts _ (List.mem_of_getElem? (i := 3) rfl)) (fun _ h9 => h9) rfl dX4_lasts_39 ?_
        refine lv_iload_n hx hb dX4_lasts_42 rfl (lv_at hl 3 rfl) ?_
        refine wa_aldq hx hb hK hP 1 0 rfl rfl j rfl (by omega) (by decide) rfl dX4_lasts_43 ?_
        refine va_get (D := D) (ci := 0) (v := .int (c_dr (C j))) (C := RX0) (T := TX0) (N := 8) hx hb hts iX0 hown hK hP (9 + j) (xp_at rfl (by omega)) rfl 1 (by decide) (hts _ (List.mem_of_getElem? (i := 4) rfl)) (fun _ h9 => h9) rfl dX4_lasts_44 ?_
        refine wa_iast (v := c_dr (C j)) hx hb hK hP hD hS 2 1 rfl rfl j rfl (by omega) (by decide) dX4_lasts_47 (fun H locs hP hD hS => ?_)
        have hP : va_P D vwCl (xW y q (nI n) now rt tr C (upd (cpA C ah j) j (c_dr (C j))) w mx rd ct g h) H := hP
        have hD : va_D A (xW y q (nI n) now rt tr C (upd (cpA C ah j) j (c_dr (C j))) w mx rd ct g h) := hD
        refine lv_iinc (v := (nI j + 1)) (lv' := [(3, .int (nI j + 1)), (0, .ref (q 0)), (1, .int w0), (2, .int a0)]) hx hb dX4_lasts_48 hl (k := 3) rfl rfl (by decide) rfl (fun ls hl => ?_)
        refine lv_goto (tgt := 25) hx hb dX4_lasts_51 (by decide) ?_
        rw [cpA_t] at hP hD
        have hP : va_P D vwCl (xW y q (nI n) now rt tr C (cpA C ah (j + 1)) w mx rd ct g h) H := hP
        have hD : va_D A (xW y q (nI n) now rt tr C (cpA C ah (j + 1)) w mx rd ct g h) := hD
        exact ihj (j + 1) ls H locs (by show n - (j + 1) < n - j; omega) (by show j + 1 ≤ n; omega) (lv_sub hl [1, 2, 3, 0] (by
          show ([(0, .ref (q 0)), (1, .int w0), (2, .int a0), (3, .int (nI j + 1))] : List (Nat × Value)) = [(0, .ref (q 0)), (1, .int w0), (2, .int a0), (3, .int (nI (j + 1)))]
          rw [← nI_1])) hP hD hS
    · skip
      have c_2 := zI_0 c_2
      refine lv_iconst (v := (-1)) hx hb dX4_lasts_21 (by decide) ?_
      exact mu_iret ah hx hb hr hlocks hP hD hS dX4_lasts_22 (by simp [lastsF, c_1, c_2])

set_option maxHeartbeats 4000000 in
set_option maxRecDepth 100000 in
theorem kX4_ways (l : Launch) (a : Nat) (b : Nat) (ha : a ≤ 20) (hba : b ≤ a) : Met l yX4_ways wsX4_ways ({ frames := 0, cells := 0, slots := 0, locals := 0 }) (va_Pc [.int (nI a), .int (nI b)] (fun _ => True)) (vp_Sl (fun x => x = (waysX a b))) 0 0 nF := by
  refine ro_start (cc := cX4_ways) (maxL := 8) (ret := (some .long)) (by decide) rfl (Nat.le_of_ble_eq_true rfl) ?_
  intro p e s m below meth c ls hx hb hr hml hown hlocks hts hnm hB hl
  have hown : s.vm.findClass RX4 = some m.cls := hown
  have F : CallFix p m c cX4_ways 8 s [.int (nI a), .int (nI b)].toArray wsX4_ways RX4 := ⟨hx, hb, hml, hown, hts⟩
  have hl : lv_has ls 8 [(0, .int (nI a)), (1, .int (nI b))] := hl
  refine lv_lconst (v := 1) hx hb dX4_ways_0 rfl ?_
  refine lv_lstore_n (lv' := [(2, .long 1), (0, .int (nI a)), (1, .int (nI b))]) hx hb dX4_ways_1 rfl hl (by decide) rfl (fun ls hl => ?_)
  refine lv_lconst (v := 1) hx hb dX4_ways_2 rfl ?_
  refine lv_lstore (lv' := [(4, .long 1), (2, .long 1), (0, .int (nI a)), (1, .int (nI b))]) hx hb dX4_ways_3 hl (by decide) rfl (fun ls hl => ?_)
  refine lv_iload_n hx hb dX4_ways_5 rfl (lv_at hl 2 rfl) ?_
  refine lv_istore (lv' := [(6, .int (nI a)), (4, .long 1), (2, .long 1), (0, .int (nI a)), (1, .int (nI b))]) hx hb dX4_ways_6 hl (by decide) rfl (fun ls hl => ?_)
  refine W.lpR (pc := 8) (τ := Nat) (fun k => k ≤ (a - b)) (fun k ls => lv_has ls 8 [(0, .int (nI a)), (1, .int (nI b)), (2, .long ((wyS a k).1)), (4, .long ((wyS a k).2)), (6, .int (nI (a - k)))]) (fun k => (a - b) - k) ?_ 0 ls (Nat.zero_le _) (lv_sub hl [3, 4, 2, 1, 0] rfl)
  intro k ls hk hl ihk
  have hk : k ≤ (a - b) := hk
  have hl : lv_has ls 8 [(0, .int (nI a)), (1, .int (nI b)), (2, .long ((wyS a k).1)), (4, .long ((wyS a k).2)), (6, .int (nI (a - k)))] := hl
  refine lv_iload hx hb dX4_ways_8 (lv_at hl 4 rfl) ?_
  refine lv_iload_n hx hb dX4_ways_10 rfl (lv_at hl 1 rfl) ?_
  refine lv_icmp_le (tgt := 53) hx hb dX4_ways_11 (by decide) (fun c_1 => ?_) (fun c_1 => ?_)
  · skip
    have c_1 : a - k ≤ b := (nI_leI (a := (a - k)) (b := b) (by omega) (by omega)).mp c_1
    refine lv_lload hx hb dX4_ways_53 (lv_at hl 3 rfl) ?_
    exact ro_lret hx hb hr hlocks dX4_ways_55 (by rw [show k = a - b from Nat.le_antisymm hk (by omega)]; rfl)
  · skip
    have c_1 : ¬ a - k ≤ b := fun h => c_1 ((nI_leI (a := (a - k)) (b := b) (by omega) (by omega)).mpr h)
    refine lv_iload_n hx hb dX4_ways_14 rfl (lv_at hl 0 rfl) ?_
    refine lv_iload hx hb dX4_ways_15 (lv_at hl 4 rfl) ?_
    refine lv_isub hx hb dX4_ways_17 ?_
    refine lv_iconst (v := 1) hx hb dX4_ways_18 (by decide) ?_
    refine lv_iadd hx hb dX4_ways_19 ?_
    refine lv_cst (v := nI (k + 1)) (by rw [pk_sub (Nat.sub_le _ _), nI_1]; congr 1; omega) ?_
    refine lv_istore (lv' := [(7, .int (nI (k + 1))), (0, .int (nI a)), (1, .int (nI b)), (2, .long ((wyS a k).1)), (4, .long ((wyS a k).2)), (6, .int (nI (a - k)))]) hx hb dX4_ways_20 hl (by decide) rfl (fun ls hl => ?_)
    refine lv_iload hx hb dX4_ways_22 (lv_at hl 0 rfl) ?_
    refine lv_if_le (tgt := 41) hx hb dX4_ways_24 (by decide) (fun c_2 => ?_) (fun c_2 => ?_)
    · skip
      have c_2 : k + 1 ≤ 0 := (nI_leI (a := (k + 1)) (b := 0) (by omega) (by omega)).mp c_2
      exact absurd c_2 (by omega)
    · skip
      have c_2 : ¬ k + 1 ≤ 0 := fun h => c_2 ((nI_leI (a := (k + 1)) (b := 0) (by omega) (by omega)).mpr h)
      refine lv_lload_n hx hb dX4_ways_27 rfl (lv_at hl 3 rfl) ?_
      refine lv_ldc2 (v := 2) hx hb hown (hts _ (List.mem_of_getElem? (i := 1) rfl)) dX4_ways_28 ?_
      refine lv_lmul hx hb dX4_ways_31 ?_
      refine lv_iload hx hb dX4_ways_32 (lv_at hl 5 rfl) ?_
      refine lv_i2l hx hb dX4_ways_34 rfl ?_
      refine lv_lmul hx hb dX4_ways_35 ?_
      refine lv_iload hx hb dX4_ways_36 (lv_at hl 0 rfl) ?_
      refine lv_i2l hx hb dX4_ways_38 rfl ?_
      refine lv_ldiv hx hb dX4_ways_39 (lne0 (by omega)) ?_
      refine lv_lstore_n (lv' := [(2, .long (((((wyS a k).1) * 2) * ((nI (a - k)).toInt64)) / ((nI (k + 1)).toInt64))), (7, .int (nI (k + 1))), (0, .int (nI a)), (1, .int (nI b)), (4, .long ((wyS a k).2)), (6, .int (nI (a - k)))]) hx hb dX4_ways_40 rfl hl (by decide) rfl (fun ls hl => ?_)
      refine lv_lload hx hb dX4_ways_41 (lv_at hl 4 rfl) ?_
      refine lv_lload_n hx hb dX4_ways_43 rfl (lv_at hl 0 rfl) ?_
      refine lv_ladd hx hb dX4_ways_44 ?_
      refine lv_lstore (lv' := [(4, .long (((wyS a k).2) + (((((wyS a k).1) * 2) * ((nI (a - k)).toInt64)) / ((nI (k + 1)).toInt64)))), (2, .long (((((wyS a k).1) * 2) * ((nI (a - k)).toInt64)) / ((nI (k + 1)).toInt64))), (7, .int (nI (k + 1))), (0, .int (nI a)), (1, .int (nI b)), (6, .int (nI (a - k)))]) hx hb dX4_ways_45 hl (by decide) rfl (fun ls hl => ?_)
      refine lv_iinc (v := (nI (a - k) + (-1))) (lv' := [(6, .int (nI (a - k) + (-1))), (4, .long (((wyS a k).2) + (((((wyS a k).1) * 2) * ((nI (a - k)).toInt64)) / ((nI (k + 1)).toInt64)))), (2, .long (((((wyS a k).1) * 2) * ((nI (a - k)).toInt64)) / ((nI (k + 1)).toInt64))), (7, .int (nI (k + 1))), (0, .int (nI a)), (1, .int (nI b))]) hx hb dX4_ways_47 hl (k := 5) rfl rfl (by decide) rfl (fun ls hl => ?_)
      refine lv_goto (tgt := 8) hx hb dX4_ways_50 (by decide) ?_
      exact ihk (k + 1) ls (by show (a - b) - (k + 1) < (a - b) - k; omega) (by show k + 1 ≤ (a - b); omega) (lv_sub hl [4, 5, 2, 1, 0] (by
        show ([(0, .int (nI a)), (1, .int (nI b)), (2, .long (((((wyS a k).1) * 2) * ((nI (a - k)).toInt64)) / ((nI (k + 1)).toInt64))), (4, .long (((wyS a k).2) + (((((wyS a k).1) * 2) * ((nI (a - k)).toInt64)) / ((nI (k + 1)).toInt64)))), (6, .int (nI (a - k) + (-1)))] : List (Nat × Value)) = [(0, .int (nI a)), (1, .int (nI b)), (2, .long ((wyS a (k + 1)).1)), (4, .long ((wyS a (k + 1)).2)), (6, .int (nI (a - (k + 1))))]
        have e1 : nI (a - k) + (-1) = nI (a - (k + 1)) := by rw [show a - k = (a - (k + 1)) + 1 by omega]; exact pk_m1 _
        rw [e1]
        rfl))

set_option maxHeartbeats 4000000 in
set_option maxRecDepth 100000 in
theorem kX4_odds (l : Launch) (D : va_G) (y : Nat → ClassId) (q : Nat → Nat) (n : Nat) (now rt : Int32) (tr : Int64) (C : Nat → CT) (ah w : Nat → Int32) (mx : MT) (rd ct : Int32) (g h : Nat → Int32) (n0 : Int32) (c0 : Int32) : Met l yX4_odds wsX4_odds ({ frames := 2, cells := 0, slots := 0, locals := 43 }) (va_Pc [.ref (q 0), .int n0, .int c0] (rdB D (xT y) (xW y q (nI n) now rt tr C ah w mx rd ct g h))) (vp_Sl (fun x => x = (oddsF n0 c0))) 0 0 nF := by
  refine ro_start (cc := cX4_odds) (maxL := 3) (ret := (some .long)) (by decide) rfl (Nat.le_of_ble_eq_true rfl) ?_
  intro p e s m below meth c ls hx hb hr hml hown hlocks hts hnm hB hl
  obtain ⟨hP, hK, hN⟩ := hB
  have hown : s.vm.findClass RX4 = some m.cls := hown
  have F : CallFix p m c cX4_odds 3 s [.ref (q 0), .int n0, .int c0].toArray wsX4_odds RX4 := ⟨hx, hb, hml, hown, hts⟩
  have hl : lv_has ls 3 [(0, .ref (q 0)), (1, .int n0), (2, .int c0)] := hl
  refine lv_iload_n hx hb dX4_odds_0 rfl (lv_at hl 1 rfl) ?_
  refine lv_iload_n hx hb dX4_odds_1 rfl (lv_at hl 2 rfl) ?_
  refine ro_i (va_runS (As := [.int n0, .int c0]) (rest := []) F (kX4_isTriangle l n0 c0) (va_cwS 2 hts gX4_odds_X4_isTriangle rfl rfl rfl hdX4_isTriangle ⟨(Nat.le_of_ble_eq_true rfl), (Nat.le_of_ble_eq_true rfl)⟩) ⟨tr_blind, tr_pre⟩ rfl rfl hl.1 rfl (lv_room (Nat.le_of_ble_eq_true rfl)) dX4_odds_2 ⟨Nat.zero_le _, Nat.zero_le _⟩) ?_
  refine lv_if_eq (tgt := 16) hx hb dX4_odds_5 (by decide) (fun c_1 => ?_) (fun c_1 => ?_)
  · skip
    have c_1 := zI_0 c_1
    refine lv_ldc2 (v := (-1)) hx hb hown (hts _ (List.mem_of_getElem? (i := 1) rfl)) dX4_odds_16 ?_
    exact ro_lret hx hb hr hlocks dX4_odds_19 (by simp [oddsF, c_1])
  · skip
    have c_1 := zI_1 c_1
    obtain ⟨a, b, ha, hba, rfl, rfl⟩ := tri_of c_1
    have ea : (nI a).toNatClampNeg = a := nI_clamp (by omega)
    have eb : (nI b).toNatClampNeg = b := nI_clamp (by omega)
    refine lv_iload_n hx hb dX4_odds_8 rfl (lv_at hl 1 rfl) ?_
    refine lv_iload_n hx hb dX4_odds_9 rfl (lv_at hl 2 rfl) ?_
    refine ro_l (va_runS (As := [.int (nI a), .int (nI b)]) (rest := []) F (kX4_ways l a b ha (by omega)) (va_cwS 2 hts gX4_odds_X4_ways rfl rfl rfl hdX4_ways ⟨(Nat.le_of_ble_eq_true rfl), (Nat.le_of_ble_eq_true rfl)⟩) ⟨tr_blind, tr_pre⟩ rfl rfl hl.1 rfl (lv_room (Nat.le_of_ble_eq_true rfl)) dX4_odds_10 ⟨Nat.zero_le _, Nat.zero_le _⟩) ?_
    refine lv_goto (tgt := 19) hx hb dX4_odds_13 (by decide) ?_
    exact ro_lret hx hb hr hlocks dX4_odds_19 (by simp [oddsF, c_1, ea, eb])

set_option maxHeartbeats 4000000 in
set_option maxRecDepth 100000 in
theorem kX4_apart (l : Launch) (D : va_G) (y : Nat → ClassId) (q : Nat → Nat) (n : Nat) (now rt : Int32) (tr : Int64) (C : Nat → CT) (ah w : Nat → Int32) (mx : MT) (rd ct : Int32) (g h : Nat → Int32) (n0 : Int32) (c0 : Int32) : Met l yX4_apart wsX4_apart ({ frames := 2, cells := 0, slots := 0, locals := 43 }) (va_Pc [.ref (q 0), .int n0, .int c0] (rdB D (xT y) (xW y q (nI n) now rt tr C ah w mx rd ct g h))) (vp_Si (fun x => x = (apartF n0 c0))) 0 0 nF := by
  refine ro_start (cc := cX4_apart) (maxL := 3) (ret := (some .int)) (by decide) rfl (Nat.le_of_ble_eq_true rfl) ?_
  intro p e s m below meth c ls hx hb hr hml hown hlocks hts hnm hB hl
  obtain ⟨hP, hK, hN⟩ := hB
  have hown : s.vm.findClass RX4 = some m.cls := hown
  have F : CallFix p m c cX4_apart 3 s [.ref (q 0), .int n0, .int c0].toArray wsX4_apart RX4 := ⟨hx, hb, hml, hown, hts⟩
  have hl : lv_has ls 3 [(0, .ref (q 0)), (1, .int n0), (2, .int c0)] := hl
  refine lv_iload_n hx hb dX4_apart_0 rfl (lv_at hl 1 rfl) ?_
  refine lv_iload_n hx hb dX4_apart_1 rfl (lv_at hl 2 rfl) ?_
  refine ro_i (va_runS (As := [.int n0, .int c0]) (rest := []) F (kX4_isTriangle l n0 c0) (va_cwS 2 hts gX4_apart_X4_isTriangle rfl rfl rfl hdX4_isTriangle ⟨(Nat.le_of_ble_eq_true rfl), (Nat.le_of_ble_eq_true rfl)⟩) ⟨tr_blind, tr_pre⟩ rfl rfl hl.1 rfl (lv_room (Nat.le_of_ble_eq_true rfl)) dX4_apart_2 ⟨Nat.zero_le _, Nat.zero_le _⟩) ?_
  refine lv_if_ne (tgt := 10) hx hb dX4_apart_5 (by decide) (fun c_1 => ?_) (fun c_1 => ?_)
  · skip
    have c_1 := zI_1 c_1
    obtain ⟨a, b, ha, hba, rfl, rfl⟩ := tri_of c_1
    have ea : (nI a).toNatClampNeg = a := nI_clamp (by omega)
    have eb : (nI b).toNatClampNeg = b := nI_clamp (by omega)
    refine lv_ldc2 (v := 20) hx hb hown (hts _ (List.mem_of_getElem? (i := 1) rfl)) dX4_apart_10 ?_
    refine lv_iload_n hx hb dX4_apart_13 rfl (lv_at hl 1 rfl) ?_
    refine lv_iload_n hx hb dX4_apart_14 rfl (lv_at hl 2 rfl) ?_
    refine ro_l (va_runS (As := [.int (nI a), .int (nI b)]) (rest := [.long 20]) F (kX4_ways l a b ha (by omega)) (va_cwS 2 hts gX4_apart_X4_ways rfl rfl rfl hdX4_ways ⟨(Nat.le_of_ble_eq_true rfl), (Nat.le_of_ble_eq_true rfl)⟩) ⟨tr_blind, tr_pre⟩ rfl rfl hl.1 rfl (lv_room (Nat.le_of_ble_eq_true rfl)) dX4_apart_15 ⟨Nat.zero_le _, Nat.zero_le _⟩) ?_
    refine lv_lmul hx hb dX4_apart_18 ?_
    refine lv_iload_n hx hb dX4_apart_19 rfl (lv_at hl 1 rfl) ?_
    refine lv_iconst (v := 0) hx hb dX4_apart_20 (by decide) ?_
    refine ro_l (va_runS (As := [.int (nI a), .int 0]) (rest := [.long (20 * (waysX a b))]) F (kX4_ways l a 0 ha (by omega)) (va_cwS 2 hts gX4_apart_X4_ways rfl rfl rfl hdX4_ways ⟨(Nat.le_of_ble_eq_true rfl), (Nat.le_of_ble_eq_true rfl)⟩) ⟨tr_blind, tr_pre⟩ rfl rfl hl.1 rfl (lv_room (Nat.le_of_ble_eq_true rfl)) dX4_apart_21 ⟨Nat.zero_le _, Nat.zero_le _⟩) ?_
    refine W.lcmp hx hb dX4_apart_24 ?_
    refine lv_if_gt (tgt := 32) hx hb dX4_apart_25 (by decide) (fun c_2 => ?_) (fun c_2 => ?_)
    · skip
      refine lv_iconst (v := 0) hx hb dX4_apart_32 (by decide) ?_
      exact ro_iret hx hb hr hlocks dX4_apart_33 (by unfold apartF; rw [if_pos c_1, ea, eb]; rw [if_neg (lg_gt.mp c_2)])
    · skip
      refine lv_iconst (v := 1) hx hb dX4_apart_28 (by decide) ?_
      refine lv_goto (tgt := 33) hx hb dX4_apart_29 (by decide) ?_
      exact ro_iret hx hb hr hlocks dX4_apart_33 (by unfold apartF; rw [if_pos c_1, ea, eb]; rw [if_pos (Decidable.byContradiction (fun h => c_2 (lg_gt.mpr h)))])
  · skip
    have c_1 := zI_0 c_1
    refine lv_iconst (v := (-1)) hx hb dX4_apart_8 (by decide) ?_
    exact ro_iret hx hb hr hlocks dX4_apart_9 (by unfold apartF; rw [if_neg (by rw [c_1]; decide)])

set_option maxHeartbeats 4000000 in
set_option maxRecDepth 100000 in
theorem kX4_loss (l : Launch) (D : va_G) (y : Nat → ClassId) (q : Nat → Nat) (n : Nat) (now rt : Int32) (tr : Int64) (C : Nat → CT) (ah w : Nat → Int32) (mx : MT) (rd ct : Int32) (g h : Nat → Int32) (c0 : Int32) (k0 : Int32) (y0 : Int32) (sz : Nat) (hn : n ≤ 12) : Met l yX4_loss wsX4_loss ({ frames := 2, cells := 0, slots := 0, locals := 45 }) (va_Pc [.ref (q 0), .int c0, .int k0, .int y0] (muB D (xT y) (xW y q (nI n) now rt tr C ah w mx rd ct g h) sz (trE (va_A (xW y q (nI n) now rt tr C ah w mx rd ct g h) sz)))) (QI (σ := Int64) D (fun r u => (r, u) = lossF n C tr c0 k0 y0) (fun u => (xW y q (nI n) now rt u C ah w mx rd ct g h)) (va_A (xW y q (nI n) now rt tr C ah w mx rd ct g h) sz)) 0 0 (va_A (xW y q (nI n) now rt tr C ah w mx rd ct g h) sz) := by
  refine mu_start (Qc := QI (σ := Int64) D (fun r u => (r, u) = lossF n C tr c0 k0 y0) (fun u => (xW y q (nI n) now rt u C ah w mx rd ct g h))) (cc := cX4_loss) (maxL := 4) (ret := (some .int)) (by decide) rfl (Nat.le_of_ble_eq_true rfl) ?_
  intro p e s m below meth c ls A hx hb hr hml hown hlocks hts hnm hA hP hK hN hD hE hAA hsz hl
  have hS : va_S A s.heap s.heap [] := va_S.rf
  have hown : s.vm.findClass RX4 = some m.cls := hown
  have F : CallFix p m c cX4_loss 4 s [.ref (q 0), .int c0, .int k0, .int y0].toArray wsX4_loss RX4 := ⟨hx, hb, hml, hown, hts⟩
  have hl : lv_has ls 4 [(0, .ref (q 0)), (1, .int c0), (2, .int k0), (3, .int y0)] := hl
  have iX0 : ∀ w ∈ u_ws RX0 TX0 8, w ∈ wsX4_loss := mem_pl [30, 31, 32, 33, 34, 35, 36, 37] rfl
  have iX4 : ∀ w ∈ u_ws RX4 TX4 9, w ∈ wsX4_loss := mem_pl [21, 22, 23, 24, 25, 26, 27, 28, 29] rfl
  subst hsz
  obtain ⟨t, hZ, hT⟩ := hE
  have hZ := hZ.narrow hAA
  have hT := hT.narrow hAA
  refine lv_aload_n hx hb dX4_loss_0 rfl (lv_at hl 0 rfl) ?_
  refine lv_iload_n hx hb dX4_loss_1 rfl (lv_at hl 1 rfl) ?_
  refine ro_i (va_runV (As := [.int c0]) (rest := []) F (kX4_isCask l D y q n now rt tr C ah w mx rd ct g h c0) (cwV 1 hts gX4_loss_X4_isCask rfl rfl rfl ⟨rfl, hdX4_isCask⟩ ⟨(Nat.le_of_ble_eq_true rfl), (Nat.le_of_ble_eq_true rfl)⟩) ⟨rdB_blind, va_recv hK hP (ci := 4) (q0 := 0) rfl rfl, rdB_pre hP hK hN⟩ rfl rfl hl.1 rfl (lv_room (Nat.le_of_ble_eq_true rfl)) dX4_loss_2 ⟨Nat.zero_le _, Nat.zero_le _⟩) ?_
  refine lv_if_eq (tgt := 27) hx hb dX4_loss_5 (by decide) (fun c_1 => ?_) (fun c_1 => ?_)
  · skip
    have c_1 := zI_0 c_1
    refine lv_iconst (v := (-1)) hx hb dX4_loss_27 (by decide) ?_
    exact mu_iret tr hx hb hr hlocks hP hD hS dX4_loss_28 (by simp [lossF, c_1])
  · skip
    have c_1 := zI_1 c_1
    obtain ⟨j, hzj, rfl⟩ := isC_of hn c_1
    have ej : (nI j).toNatClampNeg = j := nI_clamp (by omega)
    refine lv_iload_n hx hb dX4_loss_8 rfl (lv_at hl 2 rfl) ?_
    refine lv_iconst (v := 0) hx hb dX4_loss_9 (by decide) ?_
    refine lv_iconst (v := 2) hx hb dX4_loss_10 (by decide) ?_
    refine ro_i (va_runS (As := [.int k0, .int 0, .int 2]) (rest := []) F (kX4_isWithin l k0 0 2) (va_cwS 3 hts gX4_loss_X4_isWithin rfl rfl rfl hdX4_isWithin ⟨(Nat.le_of_ble_eq_true rfl), (Nat.le_of_ble_eq_true rfl)⟩) ⟨tr_blind, tr_pre⟩ rfl rfl hl.1 rfl (lv_room (Nat.le_of_ble_eq_true rfl)) dX4_loss_11 ⟨Nat.zero_le _, Nat.zero_le _⟩) ?_
    refine lv_if_eq (tgt := 27) hx hb dX4_loss_14 (by decide) (fun c_2 => ?_) (fun c_2 => ?_)
    · skip
      have c_2 := zI_0 c_2
      refine lv_iconst (v := (-1)) hx hb dX4_loss_27 (by decide) ?_
      exact mu_iret tr hx hb hr hlocks hP hD hS dX4_loss_28 (by simp [lossF, c_1, ej, c_2])
    · skip
      have c_2 := zI_1 c_2
      obtain ⟨k, hzk, rfl⟩ := inR_of (k := 2) (by decide) (by decide) c_2
      have ek : (nI k).toNatClampNeg = k := nI_clamp (by omega)
      refine lv_iload_n hx hb dX4_loss_17 rfl (lv_at hl 3 rfl) ?_
      refine lv_iconst (v := 0) hx hb dX4_loss_18 (by decide) ?_
      refine lv_bipush (v := 60) hx hb dX4_loss_19 (by decide) ?_
      refine ro_i (va_runS (As := [.int y0, .int 0, .int 60]) (rest := []) F (kX4_isWithin l y0 0 60) (va_cwS 3 hts gX4_loss_X4_isWithin rfl rfl rfl hdX4_isWithin ⟨(Nat.le_of_ble_eq_true rfl), (Nat.le_of_ble_eq_true rfl)⟩) ⟨tr_blind, tr_pre⟩ rfl rfl hl.1 rfl (lv_room (Nat.le_of_ble_eq_true rfl)) dX4_loss_21 ⟨Nat.zero_le _, Nat.zero_le _⟩) ?_
      refine lv_if_ne (tgt := 29) hx hb dX4_loss_24 (by decide) (fun c_3 => ?_) (fun c_3 => ?_)
      · skip
        have c_3 := zI_1 c_3
        refine lv_aload_n hx hb dX4_loss_29 rfl (lv_at hl 0 rfl) ?_
        refine lv_dup hx hb dX4_loss_30 rfl ?_
        refine va_get (D := D) (ci := 4) (v := .long tr) (C := RX4) (T := TX4) (N := 9) hx hb hts iX4 hown hK hP 0 rfl rfl 8 (by decide) (hts _ (List.mem_of_getElem? (i := 1) rfl)) (fun _ h9 => h9) rfl dX4_loss_31 ?_
        refine va_gets hx hb hZ hS hown (hts _ (List.mem_of_getElem? (i := 2) rfl)) (fun _ h => h) dX4_loss_34 ?_
        refine lv_iload_n hx hb dX4_loss_37 rfl (lv_at hl 2 rfl) ?_
        refine va_ti (v := .int (mkI k)) hx hb hT hS (vp_in_nI (n := k) (N := 3) (by omega) (by decide)) (by rw [nI_clamp (by omega)]; rfl) dX4_loss_38 ?_
        refine lv_i2l hx hb dX4_loss_39 rfl ?_
        refine lv_ladd hx hb dX4_loss_40 ?_
        refine va_put (D := D) (ci := 4) (v := .long (tr + (((mkI k)).toInt64))) (ty := .long) (C := RX4) (T := TX4) (N := 9) hx hb hts iX4 tyX4 tyX4_ok nmX4 hown hK hP hD hS 0 rfl rfl 8 (by decide) (hts _ (List.mem_of_getElem? (i := 1) rfl)) (fun _ h9 => h9) rfl (by decide +kernel) rfl rfl (Nat.le_of_ble_eq_true rfl) dX4_loss_41 (fun H locs hP hD hS => ?_)
        have hP : va_P D vwCl (xW y q (nI n) now rt (tr + (((mkI k)).toInt64)) C ah w mx rd ct g h) H := hP
        have hD : va_D A (xW y q (nI n) now rt (tr + (((mkI k)).toInt64)) C ah w mx rd ct g h) := hD
        refine lv_iload_n hx hb dX4_loss_44 rfl (lv_at hl 2 rfl) ?_
        refine lv_aload_n hx hb dX4_loss_45 rfl (lv_at hl 0 rfl) ?_
        refine va_get (D := D) (ci := 4) (v := .ref (q 1)) (C := RX4) (T := TX4) (N := 9) hx hb hts iX4 hown hK hP 0 rfl rfl 0 (by decide) (hts _ (List.mem_of_getElem? (i := 3) rfl)) (fun _ h9 => h9) rfl dX4_loss_46 ?_
        refine lv_iload_n hx hb dX4_loss_49 rfl (lv_at hl 1 rfl) ?_
        refine wa_aldq hx hb hK hP 1 0 rfl rfl j rfl (by omega) (by decide) rfl dX4_loss_50 ?_
        refine va_get (D := D) (ci := 0) (v := .int (c_fl (C j))) (C := RX0) (T := TX0) (N := 8) hx hb hts iX0 hown hK hP (9 + j) (xp_at rfl (by omega)) rfl 3 (by decide) (hts _ (List.mem_of_getElem? (i := 4) rfl)) (fun _ h9 => h9) rfl dX4_loss_51 ?_
        refine lv_iload_n hx hb dX4_loss_54 rfl (lv_at hl 3 rfl) ?_
        refine ro_i (va_runS (As := [.int (nI k), .int (c_fl (C j)), .int y0]) (rest := []) F (kX4_lossBy l (nI k) (c_fl (C j)) y0) (va_cwS 3 hts gX4_loss_X4_lossBy rfl rfl rfl hdX4_lossBy ⟨(Nat.le_of_ble_eq_true rfl), (Nat.le_of_ble_eq_true rfl)⟩) ⟨tr_blind, tr_pre⟩ rfl rfl hl.1 rfl (lv_room (Nat.le_of_ble_eq_true rfl)) dX4_loss_55 ⟨Nat.zero_le _, Nat.zero_le _⟩) ?_
        exact mu_iret (tr + (((mkI k)).toInt64)) hx hb hr hlocks hP hD hS dX4_loss_58 (by simp [lossF, c_1, ej, c_2, ek, c_3])
      · skip
        have c_3 := zI_0 c_3
        refine lv_iconst (v := (-1)) hx hb dX4_loss_27 (by decide) ?_
        exact mu_iret tr hx hb hr hlocks hP hD hS dX4_loss_28 (by simp [lossF, c_1, ej, c_2, ek, c_3])
end
section
/-! plain facts: a cask's numbers, a year -/
theorem i_ps1000 (a : Int32) : a + 1000 - 1 = a + 999 := by rw [Int32.sub_eq_add_neg, Int32.add_assoc]; rfl
theorem i_ps100 (a : Int32) : a + 100 - 1 = a + 99 := by rw [Int32.sub_eq_add_neg, Int32.add_assoc]; rfl
theorem i_ps10 (a : Int32) : a + 10 - 1 = a + 9 := by rw [Int32.sub_eq_add_neg, Int32.add_assoc]; rfl
theorem lost_eq (d l : Int32) : lostX d l = (d * l + 999) / 1000 := by
  unfold lostX dUp; rw [if_neg (by decide), i_ps1000]
theorem cost_eq (c : CT) (now : Int32) : costX c now = (c_dr c * (20 + 3 * (now - c_la c)) + 99) / 100 := by
  unfold costX dUp; rw [if_neg (by decide), i_ps100, Int32.mul_comm]
theorem dUp10 (a : Int32) : dUp a 10 = (a + 9) / 10 := by
  unfold dUp; rw [if_neg (by decide), i_ps10]
def lossM (k f y : Int32) : Int32 :=
  if k < 2 then (if 0 < k then 3 * (15 + 5 * f + (if y < 10 then 20 - 2 * y else 0)) / 4 else 15 + 5 * f + (if y < 10 then 20 - 2 * y else 0))
  else if 5 < (if 0 < k then 3 * (15 + 5 * f + (if y < 10 then 20 - 2 * y else 0)) / 4 else 15 + 5 * f + (if y < 10 then 20 - 2 * y else 0)) then (if 0 < k then 3 * (15 + 5 * f + (if y < 10 then 20 - 2 * y else 0)) / 4 else 15 + 5 * f + (if y < 10 then 20 - 2 * y else 0)) - 4 else 1
theorem loss_eq : ∀ k, k < 3 → ∀ f, f < 4 → ∀ y, y < 91 → lossM (nI k) (nI f) (nI y) = lossX (nI k) (nI f) (nI y) := by decide +kernel
theorem loss_rng : ∀ k, k < 3 → ∀ f, f < 4 → ∀ y, y < 91 → lossX (nI k) (nI f) (nI y) = nI (lossX (nI k) (nI f) (nI y)).toNatClampNeg ∧ 1 ≤ (lossX (nI k) (nI f) (nI y)).toNatClampNeg ∧ (lossX (nI k) (nI f) (nI y)).toNatClampNeg ≤ 50 := by decide +kernel
theorem oak_eq : ∀ l, l < 51 → (if 10 < nI l then nI l - 10 else 0) = mxI 0 (nI l - 10) ∧ mxI 0 (nI l - 10) = nI (l - 10) := by decide +kernel
theorem str_eq : ∀ s, s < 701 → 400 ≤ s → (if 403 < nI s then nI s - 3 else 400) = mxI 400 (nI s - 3) ∧ mxI 400 (nI s - 3) = nI (max 400 (s - 3)) := by decide +kernel
def okC (t : Nat) (c : CT) : Prop := ∃ kd dr sg fl ok sm sw la : Nat, c = (nI kd, nI dr, nI sg, nI fl, nI ok, nI sm, nI sw, nI la) ∧ kd ≤ 2 ∧ dr ≤ 9000 ∧ 400 ≤ sg ∧ sg ≤ 700 ∧ fl ≤ 3 ∧ ok ≤ 40 * t ∧ sm ≤ 500 ∧ sw ≤ 6 * t ∧ la ≤ t
abbrev c00 : CT := (0, 0, 0, 0, 0, 0, 0, 0)
def INV (n t : Nat) (C : Nat → CT) : Prop := n ≤ 12 ∧ t ≤ 60 ∧ (∀ i, i < n → okC t (C i)) ∧ (∀ i, n ≤ i → C i = c00) ∧ (∀ i j, i ≤ j → j < n → c_la (C i) ≤ c_la (C j))
theorem lossC_at {kd dr sg fl ok sm sw la t : Nat} (h : la ≤ t) : lossC (nI kd, nI dr, nI sg, nI fl, nI ok, nI sm, nI sw, nI la) (nI t) = lossX (nI kd) (nI fl) (nI (t - la)) := by
  rw [← pk_sub h]; rfl
theorem lossC_eq {t : Nat} {c : CT} (h : okC t c) {t' : Nat} (h1 : t ≤ t') (h2 : t' ≤ 90) : lossM (c_kd c) (c_fl c) (nI t' - c_la c) = lossC c (nI t') ∧ ∃ l : Nat, lossC c (nI t') = nI l ∧ 1 ≤ l ∧ l ≤ 50 := by
  obtain ⟨kd, dr, sg, fl, ok, sm, sw, la, rfl, g1, g2, g3, g4, g5, g6, g7, g8, g9⟩ := h
  have hla : la ≤ t' := by omega
  have e1 := loss_eq kd (by omega) fl (by omega) (t' - la) (by omega)
  have e2 := loss_rng kd (by omega) fl (by omega) (t' - la) (by omega)
  rw [lossC_at hla]
  generalize lossX (nI kd) (nI fl) (nI (t' - la)) = X at e1 e2
  refine ⟨?_, X.toNatClampNeg, e2⟩
  rw [← e1, ← pk_sub hla]
theorem lost_nat {d l : Nat} (hd : d ≤ 9000) (hl : l ≤ 50) : lostX (nI d) (nI l) = nI ((d * l + 999) / 1000) := by
  have hm : d * l ≤ 9000 * 50 := Nat.mul_le_mul hd hl
  rw [lost_eq, pk_mul, show (999 : Int32) = nI 999 from rfl, show (1000 : Int32) = nI 1000 from rfl, nI_add, pk_div (by omega) (by decide) (by decide)]
theorem lost_le {d l : Nat} (hl : l ≤ 50) : (d * l + 999) / 1000 ≤ d := by
  have hm : d * l ≤ d * 50 := Nat.mul_le_mul (Nat.le_refl _) hl
  omega
/-- a cask's year keeps its numbers in their spans -/
theorem yearC_ok {t : Nat} {c : CT} (h : okC t c) (ht : t ≤ 60) : okC (t + 1) (yearC c (nI t)) ∧ c_la (yearC c (nI t)) = c_la c := by
  obtain ⟨-, l, hl, hl1, hl2⟩ := lossC_eq h (Nat.le_refl t) (by omega)
  obtain ⟨kd, dr, sg, fl, ok, sm, sw, la, rfl, g1, g2, g3, g4, g5, g6, g7, g8, g9⟩ := h
  refine ⟨⟨kd, dr - (dr * l + 999) / 1000, max 400 (sg - 3), fl, ok + (l - 10), sm - (sm + 9) / 10, sw + (6 - 2 * kd), la, ?_, g1, by omega, by omega, by omega, g5, by omega, by omega, by omega, by omega⟩, rfl⟩
  unfold yearC
  rw [hl]
  show (nI kd, nI dr - lostX (nI dr) (nI l), mxI 400 (nI sg - 3), nI fl, nI ok + mxI 0 (nI l - 10), nI sm - dUp (nI sm) 10, nI sw + (6 - 2 * nI kd), nI la) = _
  rw [lost_nat g2 hl2, pk_sub (lost_le hl2), (str_eq sg (by omega) g3).2, (oak_eq l (by omega)).2, nI_add, dUp10, show (9 : Int32) = nI 9 from rfl, show (10 : Int32) = nI 10 from rfl, nI_add, pk_div (by omega) (by decide) (by decide), pk_sub (by omega), show (6 : Int32) = nI 6 from rfl, show (2 : Int32) = nI 2 from rfl, pk_mul, pk_sub (by omega), nI_add]
theorem okC_up {t : Nat} {c : CT} (h : okC t c) : okC (t + 1) c := by
  obtain ⟨kd, dr, sg, fl, ok, sm, sw, la, rfl, g1, g2, g3, g4, g5, g6, g7, g8, g9⟩ := h
  exact ⟨kd, dr, sg, fl, ok, sm, sw, la, rfl, g1, g2, g3, g4, g5, by omega, g7, by omega, by omega⟩
theorem INV_year {n t : Nat} {C : Nat → CT} (h : INV n t C) (ht : t + 1 ≤ 60) : INV n (t + 1) (yrC C (nI t) n) := by
  obtain ⟨h1, h2, h3, h4, h5⟩ := h
  have hla : ∀ i, i < n → c_la (yrC C (nI t) n i) = c_la (C i) := by
    intro i hi
    unfold yrC
    rw [if_pos hi]
    split
    · rfl
    · exact (yearC_ok (h3 i hi) (by omega)).2
  refine ⟨h1, ht, ?_, ?_, ?_⟩
  · intro i hi
    unfold yrC
    rw [if_pos hi]
    split
    · exact okC_up (h3 i hi)
    · exact (yearC_ok (h3 i hi) (by omega)).1
  · intro i hi
    unfold yrC
    rw [if_neg (Nat.not_lt.mpr hi)]; exact h4 i hi
  · intro i j hij hj
    rw [hla i (by omega), hla j hj]; exact h5 i j hij hj
theorem yrs_s (n : Nat) (now : Int32) (C : Nat → CT) (i : Nat) : yrs n now C (i + 1) = ((yrs n now C i).1 + 1, yrC (yrs n now C i).2 (yrs n now C i).1 n) := rfl
theorem INV_yrs {n t : Nat} {C : Nat → CT} (h : INV n t C) : ∀ i, t + i ≤ 60 → (yrs n (nI t) C i).1 = nI (t + i) ∧ INV n (t + i) (yrs n (nI t) C i).2 := by
  intro i
  induction i with
  | zero => intro _; exact ⟨rfl, h⟩
  | succ i ih =>
    intro hi
    obtain ⟨a, b⟩ := ih (by omega)
    rw [yrs_s]
    refine ⟨?_, ?_⟩
    · show (yrs n (nI t) C i).1 + 1 = _
      rw [a, nI_1]; rfl
    · show INV n (t + i + 1) (yrC (yrs n (nI t) C i).2 (yrs n (nI t) C i).1 n)
      rw [a]; exact INV_year b (by omega)
theorem in_nat {x : Int32} {a b : Nat} (ha : a < 2 ^ 20) (hb : b < 2 ^ 20) (h : inR x (nI a) (nI b) = true) : ∃ j : Nat, a ≤ j ∧ j ≤ b ∧ x = nI j := by
  unfold inR at h
  rw [Bool.and_eq_true, decide_eq_true_eq, decide_eq_true_eq, Int32.le_iff_toInt_le, Int32.le_iff_toInt_le, nI_toInt (by omega), nI_toInt (by omega)] at h
  have k2 : (0 : Int32).toInt = 0 := rfl
  obtain ⟨j, hj, e⟩ := nI_of (x := x) (by rw [Int32.lt_iff_toInt_lt, k2]; omega)
  rw [e, nI_toInt hj] at h
  exact ⟨j, by omega, by omega, e⟩
theorem INV_set {n t : Nat} {C : Nat → CT} (h : INV n t C) {j : Nat} (hj : j < n) {c : CT} (hc : okC t c) (hla : c_la c = c_la (C j)) : INV n t (va_up C j c) := by
  obtain ⟨h1, h2, h3, h4, h5⟩ := h
  have hl : ∀ i, c_la (va_up C j c i) = c_la (C i) := fun i => by
    rw [va_ap]; split
    · next e => rw [e]; exact hla
    · rfl
  refine ⟨h1, h2, fun i hi => ?_, fun i hi => ?_, fun i k hik hk => ?_⟩
  · rw [va_ap]; split
    · exact hc
    · exact h3 i hi
  · rw [va_ap, if_neg (by omega)]; exact h4 i hi
  · rw [hl, hl]; exact h5 i k hik hk
theorem INV_lay {n t : Nat} {C : Nat → CT} (h : INV n t C) (hn : n < 12) {k d s f m : Int32} (hk : inR k 0 2 = true) (hd : inR d 1 9000 = true) (hs : inR s 400 700 = true) (hf : inR f 0 3 = true) (hm : inR m 0 500 = true) : INV (n + 1) t (va_up C n (k, d, s, f, c_ok (C n), m, c_sw (C n), nI t)) := by
  obtain ⟨h1, h2, h3, h4, h5⟩ := h
  obtain ⟨k', a1, a2, rfl⟩ := in_nat (a := 0) (b := 2) (by decide) (by decide) hk
  obtain ⟨d', b1, b2, rfl⟩ := in_nat (a := 1) (b := 9000) (by decide) (by decide) hd
  obtain ⟨s', e1, e2, rfl⟩ := in_nat (a := 400) (b := 700) (by decide) (by decide) hs
  obtain ⟨f', g1, g2, rfl⟩ := in_nat (a := 0) (b := 3) (by decide) (by decide) hf
  obtain ⟨m', i1, i2, rfl⟩ := in_nat (a := 0) (b := 500) (by decide) (by decide) hm
  refine ⟨hn, h2, fun i hi => ?_, fun i hi => ?_, fun i j hij hj => ?_⟩
  · rw [va_ap]; split
    · refine ⟨k', d', s', f', 0, m', 0, t, ?_, a2, b2, e1, e2, g2, by omega, i2, by omega, Nat.le_refl _⟩
      rw [h4 n (Nat.le_refl _)]; rfl
    · exact h3 i (by omega)
  · rw [va_ap, if_neg (by omega)]; exact h4 i (by omega)
  · rw [va_ap, va_ap]
    by_cases hj2 : j = n
    · rw [if_pos hj2]
      by_cases hi2 : i = n
      · rw [if_pos hi2]; exact Int32.le_refl _
      · rw [if_neg hi2]
        obtain ⟨kd, dr, sg, fl, ok, sm, sw, la, e, q1, q2, q3, q4, q5, q6, q7, q8, q9⟩ := h3 i (by omega)
        rw [e]
        exact nI_le q9 (by omega)
    · rw [if_neg hj2, if_neg (by omega : ¬ i = n)]
      exact h5 i j hij (by omega)
end
section
/-- the reference's cells, its casks as the class's -/
abbrev mWC (y : Nat → ClassId) (q : Nat → Nat) (now L : Int32) (C : Nat → CT) (w : Nat → Int32) (rt rd : Int32) (no sa to : Nat → Int32) (tr : Int64) (st im va : Nat → Int32) : va_W := mW y q now L (fun i => c_kd (C i)) (fun i => c_dr (C i)) (fun i => c_sg (C i)) (fun i => c_fl (C i)) (fun i => c_la (C i)) (fun i => c_ok (C i)) (fun i => c_sm (C i)) (fun i => c_sw (C i)) w rt rd no sa to tr st im va
theorem pj_k (π : CT → Int32) {C : Nat → CT} {j : Nat} {c : CT} (h : π c = π (C j)) : (fun i => π (va_up C j c i)) = fun i => π (C i) := by
  funext i
  show π (va_up C j c i) = π (C i)
  rw [va_ap]
  split
  · next e => rw [e]; exact h
  · rfl
theorem pj_u (π : CT → Int32) {C : Nat → CT} {j : Nat} {c : CT} {v : Int32} (h : π c = v) : (fun i => π (va_up C j c i)) = upd (fun i => π (C i)) j v := by
  funext i
  show π (va_up C j c i) = upd (fun i => π (C i)) j v i
  rw [va_ap, upd_ap]
  split
  · exact h
  · rfl

theorem mce_kd {y : Nat → ClassId} {q : Nat → Nat} {now L : Int32} {C : Nat → CT} {w : Nat → Int32} {rt rd : Int32} {no sa to : Nat → Int32} {tr : Int64} {st im va : Nat → Int32} {j : Nat} {v : Int32} : (mWC y q now L C w rt rd no sa to tr st im va).set 1 (q 1, .inl (y 1, 12, .inl (upd (fun i => c_kd (C i)) j v))) = mWC y q now L (va_up C j (v, c_dr (C j), c_sg (C j), c_fl (C j), c_ok (C j), c_sm (C j), c_sw (C j), c_la (C j))) w rt rd no sa to tr st im va := by
  show mW y q now L (upd (fun i => c_kd (C i)) j v) (fun i => c_dr (C i)) (fun i => c_sg (C i)) (fun i => c_fl (C i)) (fun i => c_la (C i)) (fun i => c_ok (C i)) (fun i => c_sm (C i)) (fun i => c_sw (C i)) w rt rd no sa to tr st im va = mW y q now L (fun i => c_kd (va_up C j (v, c_dr (C j), c_sg (C j), c_fl (C j), c_ok (C j), c_sm (C j), c_sw (C j), c_la (C j)) i)) (fun i => c_dr (va_up C j (v, c_dr (C j), c_sg (C j), c_fl (C j), c_ok (C j), c_sm (C j), c_sw (C j), c_la (C j)) i)) (fun i => c_sg (va_up C j (v, c_dr (C j), c_sg (C j), c_fl (C j), c_ok (C j), c_sm (C j), c_sw (C j), c_la (C j)) i)) (fun i => c_fl (va_up C j (v, c_dr (C j), c_sg (C j), c_fl (C j), c_ok (C j), c_sm (C j), c_sw (C j), c_la (C j)) i)) (fun i => c_la (va_up C j (v, c_dr (C j), c_sg (C j), c_fl (C j), c_ok (C j), c_sm (C j), c_sw (C j), c_la (C j)) i)) (fun i => c_ok (va_up C j (v, c_dr (C j), c_sg (C j), c_fl (C j), c_ok (C j), c_sm (C j), c_sw (C j), c_la (C j)) i)) (fun i => c_sm (va_up C j (v, c_dr (C j), c_sg (C j), c_fl (C j), c_ok (C j), c_sm (C j), c_sw (C j), c_la (C j)) i)) (fun i => c_sw (va_up C j (v, c_dr (C j), c_sg (C j), c_fl (C j), c_ok (C j), c_sm (C j), c_sw (C j), c_la (C j)) i)) w rt rd no sa to tr st im va
  rw [pj_u c_kd (C := C) (j := j) (c := (v, c_dr (C j), c_sg (C j), c_fl (C j), c_ok (C j), c_sm (C j), c_sw (C j), c_la (C j))) (v := v) rfl, pj_k c_dr (C := C) (j := j) (c := (v, c_dr (C j), c_sg (C j), c_fl (C j), c_ok (C j), c_sm (C j), c_sw (C j), c_la (C j))) rfl, pj_k c_sg (C := C) (j := j) (c := (v, c_dr (C j), c_sg (C j), c_fl (C j), c_ok (C j), c_sm (C j), c_sw (C j), c_la (C j))) rfl, pj_k c_fl (C := C) (j := j) (c := (v, c_dr (C j), c_sg (C j), c_fl (C j), c_ok (C j), c_sm (C j), c_sw (C j), c_la (C j))) rfl, pj_k c_la (C := C) (j := j) (c := (v, c_dr (C j), c_sg (C j), c_fl (C j), c_ok (C j), c_sm (C j), c_sw (C j), c_la (C j))) rfl, pj_k c_ok (C := C) (j := j) (c := (v, c_dr (C j), c_sg (C j), c_fl (C j), c_ok (C j), c_sm (C j), c_sw (C j), c_la (C j))) rfl, pj_k c_sm (C := C) (j := j) (c := (v, c_dr (C j), c_sg (C j), c_fl (C j), c_ok (C j), c_sm (C j), c_sw (C j), c_la (C j))) rfl, pj_k c_sw (C := C) (j := j) (c := (v, c_dr (C j), c_sg (C j), c_fl (C j), c_ok (C j), c_sm (C j), c_sw (C j), c_la (C j))) rfl]
theorem mcP_kd {D : va_G} {cl : List vw_C} {H : Heap} {y : Nat → ClassId} {q : Nat → Nat} {now L : Int32} {C : Nat → CT} {w : Nat → Int32} {rt rd : Int32} {no sa to : Nat → Int32} {tr : Int64} {st im va : Nat → Int32} {j : Nat} {v : Int32} (h : va_P D cl ((mWC y q now L C w rt rd no sa to tr st im va).set 1 (q 1, .inl (y 1, 12, .inl (upd (fun i => c_kd (C i)) j v)))) H) : va_P D cl (mWC y q now L (va_up C j (v, c_dr (C j), c_sg (C j), c_fl (C j), c_ok (C j), c_sm (C j), c_sw (C j), c_la (C j))) w rt rd no sa to tr st im va) H := by
  rw [← mce_kd]; exact h
theorem mcD_kd {A : Nat → Prop} {y : Nat → ClassId} {q : Nat → Nat} {now L : Int32} {C : Nat → CT} {w : Nat → Int32} {rt rd : Int32} {no sa to : Nat → Int32} {tr : Int64} {st im va : Nat → Int32} {j : Nat} {v : Int32} (h : va_D A ((mWC y q now L C w rt rd no sa to tr st im va).set 1 (q 1, .inl (y 1, 12, .inl (upd (fun i => c_kd (C i)) j v))))) : va_D A (mWC y q now L (va_up C j (v, c_dr (C j), c_sg (C j), c_fl (C j), c_ok (C j), c_sm (C j), c_sw (C j), c_la (C j))) w rt rd no sa to tr st im va) := by
  rw [← mce_kd]; exact h
theorem mcPF_kd {D : va_G} {cl : List vw_C} {H : Heap} {y : Nat → ClassId} {q : Nat → Nat} {now L : Int32} {C : Nat → CT} {w : Nat → Int32} {rt rd : Int32} {no sa to : Nat → Int32} {tr : Int64} {st im va : Nat → Int32} {j : Nat} {v : Int32} {c0 : CT} (h : va_P D cl ((mWC y q now L (va_up C j c0) w rt rd no sa to tr st im va).set 1 (q 1, .inl (y 1, 12, .inl (upd (fun i => c_kd (va_up C j c0 i)) j v)))) H) : va_P D cl (mWC y q now L (va_up C j (v, c_dr c0, c_sg c0, c_fl c0, c_ok c0, c_sm c0, c_sw c0, c_la c0)) w rt rd no sa to tr st im va) H := by
  have h2 := mcP_kd h
  rw [bx_uu, va_up_self] at h2; exact h2
theorem mcDF_kd {A : Nat → Prop} {y : Nat → ClassId} {q : Nat → Nat} {now L : Int32} {C : Nat → CT} {w : Nat → Int32} {rt rd : Int32} {no sa to : Nat → Int32} {tr : Int64} {st im va : Nat → Int32} {j : Nat} {v : Int32} {c0 : CT} (h : va_D A ((mWC y q now L (va_up C j c0) w rt rd no sa to tr st im va).set 1 (q 1, .inl (y 1, 12, .inl (upd (fun i => c_kd (va_up C j c0 i)) j v))))) : va_D A (mWC y q now L (va_up C j (v, c_dr c0, c_sg c0, c_fl c0, c_ok c0, c_sm c0, c_sw c0, c_la c0)) w rt rd no sa to tr st im va) := by
  have h2 := mcD_kd h
  rw [bx_uu, va_up_self] at h2; exact h2
theorem mce_dr {y : Nat → ClassId} {q : Nat → Nat} {now L : Int32} {C : Nat → CT} {w : Nat → Int32} {rt rd : Int32} {no sa to : Nat → Int32} {tr : Int64} {st im va : Nat → Int32} {j : Nat} {v : Int32} : (mWC y q now L C w rt rd no sa to tr st im va).set 2 (q 2, .inl (y 2, 12, .inl (upd (fun i => c_dr (C i)) j v))) = mWC y q now L (va_up C j (c_kd (C j), v, c_sg (C j), c_fl (C j), c_ok (C j), c_sm (C j), c_sw (C j), c_la (C j))) w rt rd no sa to tr st im va := by
  show mW y q now L (fun i => c_kd (C i)) (upd (fun i => c_dr (C i)) j v) (fun i => c_sg (C i)) (fun i => c_fl (C i)) (fun i => c_la (C i)) (fun i => c_ok (C i)) (fun i => c_sm (C i)) (fun i => c_sw (C i)) w rt rd no sa to tr st im va = mW y q now L (fun i => c_kd (va_up C j (c_kd (C j), v, c_sg (C j), c_fl (C j), c_ok (C j), c_sm (C j), c_sw (C j), c_la (C j)) i)) (fun i => c_dr (va_up C j (c_kd (C j), v, c_sg (C j), c_fl (C j), c_ok (C j), c_sm (C j), c_sw (C j), c_la (C j)) i)) (fun i => c_sg (va_up C j (c_kd (C j), v, c_sg (C j), c_fl (C j), c_ok (C j), c_sm (C j), c_sw (C j), c_la (C j)) i)) (fun i => c_fl (va_up C j (c_kd (C j), v, c_sg (C j), c_fl (C j), c_ok (C j), c_sm (C j), c_sw (C j), c_la (C j)) i)) (fun i => c_la (va_up C j (c_kd (C j), v, c_sg (C j), c_fl (C j), c_ok (C j), c_sm (C j), c_sw (C j), c_la (C j)) i)) (fun i => c_ok (va_up C j (c_kd (C j), v, c_sg (C j), c_fl (C j), c_ok (C j), c_sm (C j), c_sw (C j), c_la (C j)) i)) (fun i => c_sm (va_up C j (c_kd (C j), v, c_sg (C j), c_fl (C j), c_ok (C j), c_sm (C j), c_sw (C j), c_la (C j)) i)) (fun i => c_sw (va_up C j (c_kd (C j), v, c_sg (C j), c_fl (C j), c_ok (C j), c_sm (C j), c_sw (C j), c_la (C j)) i)) w rt rd no sa to tr st im va
  rw [pj_k c_kd (C := C) (j := j) (c := (c_kd (C j), v, c_sg (C j), c_fl (C j), c_ok (C j), c_sm (C j), c_sw (C j), c_la (C j))) rfl, pj_u c_dr (C := C) (j := j) (c := (c_kd (C j), v, c_sg (C j), c_fl (C j), c_ok (C j), c_sm (C j), c_sw (C j), c_la (C j))) (v := v) rfl, pj_k c_sg (C := C) (j := j) (c := (c_kd (C j), v, c_sg (C j), c_fl (C j), c_ok (C j), c_sm (C j), c_sw (C j), c_la (C j))) rfl, pj_k c_fl (C := C) (j := j) (c := (c_kd (C j), v, c_sg (C j), c_fl (C j), c_ok (C j), c_sm (C j), c_sw (C j), c_la (C j))) rfl, pj_k c_la (C := C) (j := j) (c := (c_kd (C j), v, c_sg (C j), c_fl (C j), c_ok (C j), c_sm (C j), c_sw (C j), c_la (C j))) rfl, pj_k c_ok (C := C) (j := j) (c := (c_kd (C j), v, c_sg (C j), c_fl (C j), c_ok (C j), c_sm (C j), c_sw (C j), c_la (C j))) rfl, pj_k c_sm (C := C) (j := j) (c := (c_kd (C j), v, c_sg (C j), c_fl (C j), c_ok (C j), c_sm (C j), c_sw (C j), c_la (C j))) rfl, pj_k c_sw (C := C) (j := j) (c := (c_kd (C j), v, c_sg (C j), c_fl (C j), c_ok (C j), c_sm (C j), c_sw (C j), c_la (C j))) rfl]
theorem mcP_dr {D : va_G} {cl : List vw_C} {H : Heap} {y : Nat → ClassId} {q : Nat → Nat} {now L : Int32} {C : Nat → CT} {w : Nat → Int32} {rt rd : Int32} {no sa to : Nat → Int32} {tr : Int64} {st im va : Nat → Int32} {j : Nat} {v : Int32} (h : va_P D cl ((mWC y q now L C w rt rd no sa to tr st im va).set 2 (q 2, .inl (y 2, 12, .inl (upd (fun i => c_dr (C i)) j v)))) H) : va_P D cl (mWC y q now L (va_up C j (c_kd (C j), v, c_sg (C j), c_fl (C j), c_ok (C j), c_sm (C j), c_sw (C j), c_la (C j))) w rt rd no sa to tr st im va) H := by
  rw [← mce_dr]; exact h
theorem mcD_dr {A : Nat → Prop} {y : Nat → ClassId} {q : Nat → Nat} {now L : Int32} {C : Nat → CT} {w : Nat → Int32} {rt rd : Int32} {no sa to : Nat → Int32} {tr : Int64} {st im va : Nat → Int32} {j : Nat} {v : Int32} (h : va_D A ((mWC y q now L C w rt rd no sa to tr st im va).set 2 (q 2, .inl (y 2, 12, .inl (upd (fun i => c_dr (C i)) j v))))) : va_D A (mWC y q now L (va_up C j (c_kd (C j), v, c_sg (C j), c_fl (C j), c_ok (C j), c_sm (C j), c_sw (C j), c_la (C j))) w rt rd no sa to tr st im va) := by
  rw [← mce_dr]; exact h
theorem mcPF_dr {D : va_G} {cl : List vw_C} {H : Heap} {y : Nat → ClassId} {q : Nat → Nat} {now L : Int32} {C : Nat → CT} {w : Nat → Int32} {rt rd : Int32} {no sa to : Nat → Int32} {tr : Int64} {st im va : Nat → Int32} {j : Nat} {v : Int32} {c0 : CT} (h : va_P D cl ((mWC y q now L (va_up C j c0) w rt rd no sa to tr st im va).set 2 (q 2, .inl (y 2, 12, .inl (upd (fun i => c_dr (va_up C j c0 i)) j v)))) H) : va_P D cl (mWC y q now L (va_up C j (c_kd c0, v, c_sg c0, c_fl c0, c_ok c0, c_sm c0, c_sw c0, c_la c0)) w rt rd no sa to tr st im va) H := by
  have h2 := mcP_dr h
  rw [bx_uu, va_up_self] at h2; exact h2
theorem mcDF_dr {A : Nat → Prop} {y : Nat → ClassId} {q : Nat → Nat} {now L : Int32} {C : Nat → CT} {w : Nat → Int32} {rt rd : Int32} {no sa to : Nat → Int32} {tr : Int64} {st im va : Nat → Int32} {j : Nat} {v : Int32} {c0 : CT} (h : va_D A ((mWC y q now L (va_up C j c0) w rt rd no sa to tr st im va).set 2 (q 2, .inl (y 2, 12, .inl (upd (fun i => c_dr (va_up C j c0 i)) j v))))) : va_D A (mWC y q now L (va_up C j (c_kd c0, v, c_sg c0, c_fl c0, c_ok c0, c_sm c0, c_sw c0, c_la c0)) w rt rd no sa to tr st im va) := by
  have h2 := mcD_dr h
  rw [bx_uu, va_up_self] at h2; exact h2
theorem mce_sg {y : Nat → ClassId} {q : Nat → Nat} {now L : Int32} {C : Nat → CT} {w : Nat → Int32} {rt rd : Int32} {no sa to : Nat → Int32} {tr : Int64} {st im va : Nat → Int32} {j : Nat} {v : Int32} : (mWC y q now L C w rt rd no sa to tr st im va).set 3 (q 3, .inl (y 3, 12, .inl (upd (fun i => c_sg (C i)) j v))) = mWC y q now L (va_up C j (c_kd (C j), c_dr (C j), v, c_fl (C j), c_ok (C j), c_sm (C j), c_sw (C j), c_la (C j))) w rt rd no sa to tr st im va := by
  show mW y q now L (fun i => c_kd (C i)) (fun i => c_dr (C i)) (upd (fun i => c_sg (C i)) j v) (fun i => c_fl (C i)) (fun i => c_la (C i)) (fun i => c_ok (C i)) (fun i => c_sm (C i)) (fun i => c_sw (C i)) w rt rd no sa to tr st im va = mW y q now L (fun i => c_kd (va_up C j (c_kd (C j), c_dr (C j), v, c_fl (C j), c_ok (C j), c_sm (C j), c_sw (C j), c_la (C j)) i)) (fun i => c_dr (va_up C j (c_kd (C j), c_dr (C j), v, c_fl (C j), c_ok (C j), c_sm (C j), c_sw (C j), c_la (C j)) i)) (fun i => c_sg (va_up C j (c_kd (C j), c_dr (C j), v, c_fl (C j), c_ok (C j), c_sm (C j), c_sw (C j), c_la (C j)) i)) (fun i => c_fl (va_up C j (c_kd (C j), c_dr (C j), v, c_fl (C j), c_ok (C j), c_sm (C j), c_sw (C j), c_la (C j)) i)) (fun i => c_la (va_up C j (c_kd (C j), c_dr (C j), v, c_fl (C j), c_ok (C j), c_sm (C j), c_sw (C j), c_la (C j)) i)) (fun i => c_ok (va_up C j (c_kd (C j), c_dr (C j), v, c_fl (C j), c_ok (C j), c_sm (C j), c_sw (C j), c_la (C j)) i)) (fun i => c_sm (va_up C j (c_kd (C j), c_dr (C j), v, c_fl (C j), c_ok (C j), c_sm (C j), c_sw (C j), c_la (C j)) i)) (fun i => c_sw (va_up C j (c_kd (C j), c_dr (C j), v, c_fl (C j), c_ok (C j), c_sm (C j), c_sw (C j), c_la (C j)) i)) w rt rd no sa to tr st im va
  rw [pj_k c_kd (C := C) (j := j) (c := (c_kd (C j), c_dr (C j), v, c_fl (C j), c_ok (C j), c_sm (C j), c_sw (C j), c_la (C j))) rfl, pj_k c_dr (C := C) (j := j) (c := (c_kd (C j), c_dr (C j), v, c_fl (C j), c_ok (C j), c_sm (C j), c_sw (C j), c_la (C j))) rfl, pj_u c_sg (C := C) (j := j) (c := (c_kd (C j), c_dr (C j), v, c_fl (C j), c_ok (C j), c_sm (C j), c_sw (C j), c_la (C j))) (v := v) rfl, pj_k c_fl (C := C) (j := j) (c := (c_kd (C j), c_dr (C j), v, c_fl (C j), c_ok (C j), c_sm (C j), c_sw (C j), c_la (C j))) rfl, pj_k c_la (C := C) (j := j) (c := (c_kd (C j), c_dr (C j), v, c_fl (C j), c_ok (C j), c_sm (C j), c_sw (C j), c_la (C j))) rfl, pj_k c_ok (C := C) (j := j) (c := (c_kd (C j), c_dr (C j), v, c_fl (C j), c_ok (C j), c_sm (C j), c_sw (C j), c_la (C j))) rfl, pj_k c_sm (C := C) (j := j) (c := (c_kd (C j), c_dr (C j), v, c_fl (C j), c_ok (C j), c_sm (C j), c_sw (C j), c_la (C j))) rfl, pj_k c_sw (C := C) (j := j) (c := (c_kd (C j), c_dr (C j), v, c_fl (C j), c_ok (C j), c_sm (C j), c_sw (C j), c_la (C j))) rfl]
theorem mcP_sg {D : va_G} {cl : List vw_C} {H : Heap} {y : Nat → ClassId} {q : Nat → Nat} {now L : Int32} {C : Nat → CT} {w : Nat → Int32} {rt rd : Int32} {no sa to : Nat → Int32} {tr : Int64} {st im va : Nat → Int32} {j : Nat} {v : Int32} (h : va_P D cl ((mWC y q now L C w rt rd no sa to tr st im va).set 3 (q 3, .inl (y 3, 12, .inl (upd (fun i => c_sg (C i)) j v)))) H) : va_P D cl (mWC y q now L (va_up C j (c_kd (C j), c_dr (C j), v, c_fl (C j), c_ok (C j), c_sm (C j), c_sw (C j), c_la (C j))) w rt rd no sa to tr st im va) H := by
  rw [← mce_sg]; exact h
theorem mcD_sg {A : Nat → Prop} {y : Nat → ClassId} {q : Nat → Nat} {now L : Int32} {C : Nat → CT} {w : Nat → Int32} {rt rd : Int32} {no sa to : Nat → Int32} {tr : Int64} {st im va : Nat → Int32} {j : Nat} {v : Int32} (h : va_D A ((mWC y q now L C w rt rd no sa to tr st im va).set 3 (q 3, .inl (y 3, 12, .inl (upd (fun i => c_sg (C i)) j v))))) : va_D A (mWC y q now L (va_up C j (c_kd (C j), c_dr (C j), v, c_fl (C j), c_ok (C j), c_sm (C j), c_sw (C j), c_la (C j))) w rt rd no sa to tr st im va) := by
  rw [← mce_sg]; exact h
theorem mcPF_sg {D : va_G} {cl : List vw_C} {H : Heap} {y : Nat → ClassId} {q : Nat → Nat} {now L : Int32} {C : Nat → CT} {w : Nat → Int32} {rt rd : Int32} {no sa to : Nat → Int32} {tr : Int64} {st im va : Nat → Int32} {j : Nat} {v : Int32} {c0 : CT} (h : va_P D cl ((mWC y q now L (va_up C j c0) w rt rd no sa to tr st im va).set 3 (q 3, .inl (y 3, 12, .inl (upd (fun i => c_sg (va_up C j c0 i)) j v)))) H) : va_P D cl (mWC y q now L (va_up C j (c_kd c0, c_dr c0, v, c_fl c0, c_ok c0, c_sm c0, c_sw c0, c_la c0)) w rt rd no sa to tr st im va) H := by
  have h2 := mcP_sg h
  rw [bx_uu, va_up_self] at h2; exact h2
theorem mcDF_sg {A : Nat → Prop} {y : Nat → ClassId} {q : Nat → Nat} {now L : Int32} {C : Nat → CT} {w : Nat → Int32} {rt rd : Int32} {no sa to : Nat → Int32} {tr : Int64} {st im va : Nat → Int32} {j : Nat} {v : Int32} {c0 : CT} (h : va_D A ((mWC y q now L (va_up C j c0) w rt rd no sa to tr st im va).set 3 (q 3, .inl (y 3, 12, .inl (upd (fun i => c_sg (va_up C j c0 i)) j v))))) : va_D A (mWC y q now L (va_up C j (c_kd c0, c_dr c0, v, c_fl c0, c_ok c0, c_sm c0, c_sw c0, c_la c0)) w rt rd no sa to tr st im va) := by
  have h2 := mcD_sg h
  rw [bx_uu, va_up_self] at h2; exact h2
theorem mce_fl {y : Nat → ClassId} {q : Nat → Nat} {now L : Int32} {C : Nat → CT} {w : Nat → Int32} {rt rd : Int32} {no sa to : Nat → Int32} {tr : Int64} {st im va : Nat → Int32} {j : Nat} {v : Int32} : (mWC y q now L C w rt rd no sa to tr st im va).set 4 (q 4, .inl (y 4, 12, .inl (upd (fun i => c_fl (C i)) j v))) = mWC y q now L (va_up C j (c_kd (C j), c_dr (C j), c_sg (C j), v, c_ok (C j), c_sm (C j), c_sw (C j), c_la (C j))) w rt rd no sa to tr st im va := by
  show mW y q now L (fun i => c_kd (C i)) (fun i => c_dr (C i)) (fun i => c_sg (C i)) (upd (fun i => c_fl (C i)) j v) (fun i => c_la (C i)) (fun i => c_ok (C i)) (fun i => c_sm (C i)) (fun i => c_sw (C i)) w rt rd no sa to tr st im va = mW y q now L (fun i => c_kd (va_up C j (c_kd (C j), c_dr (C j), c_sg (C j), v, c_ok (C j), c_sm (C j), c_sw (C j), c_la (C j)) i)) (fun i => c_dr (va_up C j (c_kd (C j), c_dr (C j), c_sg (C j), v, c_ok (C j), c_sm (C j), c_sw (C j), c_la (C j)) i)) (fun i => c_sg (va_up C j (c_kd (C j), c_dr (C j), c_sg (C j), v, c_ok (C j), c_sm (C j), c_sw (C j), c_la (C j)) i)) (fun i => c_fl (va_up C j (c_kd (C j), c_dr (C j), c_sg (C j), v, c_ok (C j), c_sm (C j), c_sw (C j), c_la (C j)) i)) (fun i => c_la (va_up C j (c_kd (C j), c_dr (C j), c_sg (C j), v, c_ok (C j), c_sm (C j), c_sw (C j), c_la (C j)) i)) (fun i => c_ok (va_up C j (c_kd (C j), c_dr (C j), c_sg (C j), v, c_ok (C j), c_sm (C j), c_sw (C j), c_la (C j)) i)) (fun i => c_sm (va_up C j (c_kd (C j), c_dr (C j), c_sg (C j), v, c_ok (C j), c_sm (C j), c_sw (C j), c_la (C j)) i)) (fun i => c_sw (va_up C j (c_kd (C j), c_dr (C j), c_sg (C j), v, c_ok (C j), c_sm (C j), c_sw (C j), c_la (C j)) i)) w rt rd no sa to tr st im va
  rw [pj_k c_kd (C := C) (j := j) (c := (c_kd (C j), c_dr (C j), c_sg (C j), v, c_ok (C j), c_sm (C j), c_sw (C j), c_la (C j))) rfl, pj_k c_dr (C := C) (j := j) (c := (c_kd (C j), c_dr (C j), c_sg (C j), v, c_ok (C j), c_sm (C j), c_sw (C j), c_la (C j))) rfl, pj_k c_sg (C := C) (j := j) (c := (c_kd (C j), c_dr (C j), c_sg (C j), v, c_ok (C j), c_sm (C j), c_sw (C j), c_la (C j))) rfl, pj_u c_fl (C := C) (j := j) (c := (c_kd (C j), c_dr (C j), c_sg (C j), v, c_ok (C j), c_sm (C j), c_sw (C j), c_la (C j))) (v := v) rfl, pj_k c_la (C := C) (j := j) (c := (c_kd (C j), c_dr (C j), c_sg (C j), v, c_ok (C j), c_sm (C j), c_sw (C j), c_la (C j))) rfl, pj_k c_ok (C := C) (j := j) (c := (c_kd (C j), c_dr (C j), c_sg (C j), v, c_ok (C j), c_sm (C j), c_sw (C j), c_la (C j))) rfl, pj_k c_sm (C := C) (j := j) (c := (c_kd (C j), c_dr (C j), c_sg (C j), v, c_ok (C j), c_sm (C j), c_sw (C j), c_la (C j))) rfl, pj_k c_sw (C := C) (j := j) (c := (c_kd (C j), c_dr (C j), c_sg (C j), v, c_ok (C j), c_sm (C j), c_sw (C j), c_la (C j))) rfl]
theorem mcP_fl {D : va_G} {cl : List vw_C} {H : Heap} {y : Nat → ClassId} {q : Nat → Nat} {now L : Int32} {C : Nat → CT} {w : Nat → Int32} {rt rd : Int32} {no sa to : Nat → Int32} {tr : Int64} {st im va : Nat → Int32} {j : Nat} {v : Int32} (h : va_P D cl ((mWC y q now L C w rt rd no sa to tr st im va).set 4 (q 4, .inl (y 4, 12, .inl (upd (fun i => c_fl (C i)) j v)))) H) : va_P D cl (mWC y q now L (va_up C j (c_kd (C j), c_dr (C j), c_sg (C j), v, c_ok (C j), c_sm (C j), c_sw (C j), c_la (C j))) w rt rd no sa to tr st im va) H := by
  rw [← mce_fl]; exact h
theorem mcD_fl {A : Nat → Prop} {y : Nat → ClassId} {q : Nat → Nat} {now L : Int32} {C : Nat → CT} {w : Nat → Int32} {rt rd : Int32} {no sa to : Nat → Int32} {tr : Int64} {st im va : Nat → Int32} {j : Nat} {v : Int32} (h : va_D A ((mWC y q now L C w rt rd no sa to tr st im va).set 4 (q 4, .inl (y 4, 12, .inl (upd (fun i => c_fl (C i)) j v))))) : va_D A (mWC y q now L (va_up C j (c_kd (C j), c_dr (C j), c_sg (C j), v, c_ok (C j), c_sm (C j), c_sw (C j), c_la (C j))) w rt rd no sa to tr st im va) := by
  rw [← mce_fl]; exact h
theorem mcPF_fl {D : va_G} {cl : List vw_C} {H : Heap} {y : Nat → ClassId} {q : Nat → Nat} {now L : Int32} {C : Nat → CT} {w : Nat → Int32} {rt rd : Int32} {no sa to : Nat → Int32} {tr : Int64} {st im va : Nat → Int32} {j : Nat} {v : Int32} {c0 : CT} (h : va_P D cl ((mWC y q now L (va_up C j c0) w rt rd no sa to tr st im va).set 4 (q 4, .inl (y 4, 12, .inl (upd (fun i => c_fl (va_up C j c0 i)) j v)))) H) : va_P D cl (mWC y q now L (va_up C j (c_kd c0, c_dr c0, c_sg c0, v, c_ok c0, c_sm c0, c_sw c0, c_la c0)) w rt rd no sa to tr st im va) H := by
  have h2 := mcP_fl h
  rw [bx_uu, va_up_self] at h2; exact h2
theorem mcDF_fl {A : Nat → Prop} {y : Nat → ClassId} {q : Nat → Nat} {now L : Int32} {C : Nat → CT} {w : Nat → Int32} {rt rd : Int32} {no sa to : Nat → Int32} {tr : Int64} {st im va : Nat → Int32} {j : Nat} {v : Int32} {c0 : CT} (h : va_D A ((mWC y q now L (va_up C j c0) w rt rd no sa to tr st im va).set 4 (q 4, .inl (y 4, 12, .inl (upd (fun i => c_fl (va_up C j c0 i)) j v))))) : va_D A (mWC y q now L (va_up C j (c_kd c0, c_dr c0, c_sg c0, v, c_ok c0, c_sm c0, c_sw c0, c_la c0)) w rt rd no sa to tr st im va) := by
  have h2 := mcD_fl h
  rw [bx_uu, va_up_self] at h2; exact h2
theorem mce_la {y : Nat → ClassId} {q : Nat → Nat} {now L : Int32} {C : Nat → CT} {w : Nat → Int32} {rt rd : Int32} {no sa to : Nat → Int32} {tr : Int64} {st im va : Nat → Int32} {j : Nat} {v : Int32} : (mWC y q now L C w rt rd no sa to tr st im va).set 5 (q 5, .inl (y 5, 12, .inl (upd (fun i => c_la (C i)) j v))) = mWC y q now L (va_up C j (c_kd (C j), c_dr (C j), c_sg (C j), c_fl (C j), c_ok (C j), c_sm (C j), c_sw (C j), v)) w rt rd no sa to tr st im va := by
  show mW y q now L (fun i => c_kd (C i)) (fun i => c_dr (C i)) (fun i => c_sg (C i)) (fun i => c_fl (C i)) (upd (fun i => c_la (C i)) j v) (fun i => c_ok (C i)) (fun i => c_sm (C i)) (fun i => c_sw (C i)) w rt rd no sa to tr st im va = mW y q now L (fun i => c_kd (va_up C j (c_kd (C j), c_dr (C j), c_sg (C j), c_fl (C j), c_ok (C j), c_sm (C j), c_sw (C j), v) i)) (fun i => c_dr (va_up C j (c_kd (C j), c_dr (C j), c_sg (C j), c_fl (C j), c_ok (C j), c_sm (C j), c_sw (C j), v) i)) (fun i => c_sg (va_up C j (c_kd (C j), c_dr (C j), c_sg (C j), c_fl (C j), c_ok (C j), c_sm (C j), c_sw (C j), v) i)) (fun i => c_fl (va_up C j (c_kd (C j), c_dr (C j), c_sg (C j), c_fl (C j), c_ok (C j), c_sm (C j), c_sw (C j), v) i)) (fun i => c_la (va_up C j (c_kd (C j), c_dr (C j), c_sg (C j), c_fl (C j), c_ok (C j), c_sm (C j), c_sw (C j), v) i)) (fun i => c_ok (va_up C j (c_kd (C j), c_dr (C j), c_sg (C j), c_fl (C j), c_ok (C j), c_sm (C j), c_sw (C j), v) i)) (fun i => c_sm (va_up C j (c_kd (C j), c_dr (C j), c_sg (C j), c_fl (C j), c_ok (C j), c_sm (C j), c_sw (C j), v) i)) (fun i => c_sw (va_up C j (c_kd (C j), c_dr (C j), c_sg (C j), c_fl (C j), c_ok (C j), c_sm (C j), c_sw (C j), v) i)) w rt rd no sa to tr st im va
  rw [pj_k c_kd (C := C) (j := j) (c := (c_kd (C j), c_dr (C j), c_sg (C j), c_fl (C j), c_ok (C j), c_sm (C j), c_sw (C j), v)) rfl, pj_k c_dr (C := C) (j := j) (c := (c_kd (C j), c_dr (C j), c_sg (C j), c_fl (C j), c_ok (C j), c_sm (C j), c_sw (C j), v)) rfl, pj_k c_sg (C := C) (j := j) (c := (c_kd (C j), c_dr (C j), c_sg (C j), c_fl (C j), c_ok (C j), c_sm (C j), c_sw (C j), v)) rfl, pj_k c_fl (C := C) (j := j) (c := (c_kd (C j), c_dr (C j), c_sg (C j), c_fl (C j), c_ok (C j), c_sm (C j), c_sw (C j), v)) rfl, pj_u c_la (C := C) (j := j) (c := (c_kd (C j), c_dr (C j), c_sg (C j), c_fl (C j), c_ok (C j), c_sm (C j), c_sw (C j), v)) (v := v) rfl, pj_k c_ok (C := C) (j := j) (c := (c_kd (C j), c_dr (C j), c_sg (C j), c_fl (C j), c_ok (C j), c_sm (C j), c_sw (C j), v)) rfl, pj_k c_sm (C := C) (j := j) (c := (c_kd (C j), c_dr (C j), c_sg (C j), c_fl (C j), c_ok (C j), c_sm (C j), c_sw (C j), v)) rfl, pj_k c_sw (C := C) (j := j) (c := (c_kd (C j), c_dr (C j), c_sg (C j), c_fl (C j), c_ok (C j), c_sm (C j), c_sw (C j), v)) rfl]
theorem mcP_la {D : va_G} {cl : List vw_C} {H : Heap} {y : Nat → ClassId} {q : Nat → Nat} {now L : Int32} {C : Nat → CT} {w : Nat → Int32} {rt rd : Int32} {no sa to : Nat → Int32} {tr : Int64} {st im va : Nat → Int32} {j : Nat} {v : Int32} (h : va_P D cl ((mWC y q now L C w rt rd no sa to tr st im va).set 5 (q 5, .inl (y 5, 12, .inl (upd (fun i => c_la (C i)) j v)))) H) : va_P D cl (mWC y q now L (va_up C j (c_kd (C j), c_dr (C j), c_sg (C j), c_fl (C j), c_ok (C j), c_sm (C j), c_sw (C j), v)) w rt rd no sa to tr st im va) H := by
  rw [← mce_la]; exact h
theorem mcD_la {A : Nat → Prop} {y : Nat → ClassId} {q : Nat → Nat} {now L : Int32} {C : Nat → CT} {w : Nat → Int32} {rt rd : Int32} {no sa to : Nat → Int32} {tr : Int64} {st im va : Nat → Int32} {j : Nat} {v : Int32} (h : va_D A ((mWC y q now L C w rt rd no sa to tr st im va).set 5 (q 5, .inl (y 5, 12, .inl (upd (fun i => c_la (C i)) j v))))) : va_D A (mWC y q now L (va_up C j (c_kd (C j), c_dr (C j), c_sg (C j), c_fl (C j), c_ok (C j), c_sm (C j), c_sw (C j), v)) w rt rd no sa to tr st im va) := by
  rw [← mce_la]; exact h
theorem mcPF_la {D : va_G} {cl : List vw_C} {H : Heap} {y : Nat → ClassId} {q : Nat → Nat} {now L : Int32} {C : Nat → CT} {w : Nat → Int32} {rt rd : Int32} {no sa to : Nat → Int32} {tr : Int64} {st im va : Nat → Int32} {j : Nat} {v : Int32} {c0 : CT} (h : va_P D cl ((mWC y q now L (va_up C j c0) w rt rd no sa to tr st im va).set 5 (q 5, .inl (y 5, 12, .inl (upd (fun i => c_la (va_up C j c0 i)) j v)))) H) : va_P D cl (mWC y q now L (va_up C j (c_kd c0, c_dr c0, c_sg c0, c_fl c0, c_ok c0, c_sm c0, c_sw c0, v)) w rt rd no sa to tr st im va) H := by
  have h2 := mcP_la h
  rw [bx_uu, va_up_self] at h2; exact h2
theorem mcDF_la {A : Nat → Prop} {y : Nat → ClassId} {q : Nat → Nat} {now L : Int32} {C : Nat → CT} {w : Nat → Int32} {rt rd : Int32} {no sa to : Nat → Int32} {tr : Int64} {st im va : Nat → Int32} {j : Nat} {v : Int32} {c0 : CT} (h : va_D A ((mWC y q now L (va_up C j c0) w rt rd no sa to tr st im va).set 5 (q 5, .inl (y 5, 12, .inl (upd (fun i => c_la (va_up C j c0 i)) j v))))) : va_D A (mWC y q now L (va_up C j (c_kd c0, c_dr c0, c_sg c0, c_fl c0, c_ok c0, c_sm c0, c_sw c0, v)) w rt rd no sa to tr st im va) := by
  have h2 := mcD_la h
  rw [bx_uu, va_up_self] at h2; exact h2
theorem mce_ok {y : Nat → ClassId} {q : Nat → Nat} {now L : Int32} {C : Nat → CT} {w : Nat → Int32} {rt rd : Int32} {no sa to : Nat → Int32} {tr : Int64} {st im va : Nat → Int32} {j : Nat} {v : Int32} : (mWC y q now L C w rt rd no sa to tr st im va).set 6 (q 6, .inl (y 6, 12, .inl (upd (fun i => c_ok (C i)) j v))) = mWC y q now L (va_up C j (c_kd (C j), c_dr (C j), c_sg (C j), c_fl (C j), v, c_sm (C j), c_sw (C j), c_la (C j))) w rt rd no sa to tr st im va := by
  show mW y q now L (fun i => c_kd (C i)) (fun i => c_dr (C i)) (fun i => c_sg (C i)) (fun i => c_fl (C i)) (fun i => c_la (C i)) (upd (fun i => c_ok (C i)) j v) (fun i => c_sm (C i)) (fun i => c_sw (C i)) w rt rd no sa to tr st im va = mW y q now L (fun i => c_kd (va_up C j (c_kd (C j), c_dr (C j), c_sg (C j), c_fl (C j), v, c_sm (C j), c_sw (C j), c_la (C j)) i)) (fun i => c_dr (va_up C j (c_kd (C j), c_dr (C j), c_sg (C j), c_fl (C j), v, c_sm (C j), c_sw (C j), c_la (C j)) i)) (fun i => c_sg (va_up C j (c_kd (C j), c_dr (C j), c_sg (C j), c_fl (C j), v, c_sm (C j), c_sw (C j), c_la (C j)) i)) (fun i => c_fl (va_up C j (c_kd (C j), c_dr (C j), c_sg (C j), c_fl (C j), v, c_sm (C j), c_sw (C j), c_la (C j)) i)) (fun i => c_la (va_up C j (c_kd (C j), c_dr (C j), c_sg (C j), c_fl (C j), v, c_sm (C j), c_sw (C j), c_la (C j)) i)) (fun i => c_ok (va_up C j (c_kd (C j), c_dr (C j), c_sg (C j), c_fl (C j), v, c_sm (C j), c_sw (C j), c_la (C j)) i)) (fun i => c_sm (va_up C j (c_kd (C j), c_dr (C j), c_sg (C j), c_fl (C j), v, c_sm (C j), c_sw (C j), c_la (C j)) i)) (fun i => c_sw (va_up C j (c_kd (C j), c_dr (C j), c_sg (C j), c_fl (C j), v, c_sm (C j), c_sw (C j), c_la (C j)) i)) w rt rd no sa to tr st im va
  rw [pj_k c_kd (C := C) (j := j) (c := (c_kd (C j), c_dr (C j), c_sg (C j), c_fl (C j), v, c_sm (C j), c_sw (C j), c_la (C j))) rfl, pj_k c_dr (C := C) (j := j) (c := (c_kd (C j), c_dr (C j), c_sg (C j), c_fl (C j), v, c_sm (C j), c_sw (C j), c_la (C j))) rfl, pj_k c_sg (C := C) (j := j) (c := (c_kd (C j), c_dr (C j), c_sg (C j), c_fl (C j), v, c_sm (C j), c_sw (C j), c_la (C j))) rfl, pj_k c_fl (C := C) (j := j) (c := (c_kd (C j), c_dr (C j), c_sg (C j), c_fl (C j), v, c_sm (C j), c_sw (C j), c_la (C j))) rfl, pj_k c_la (C := C) (j := j) (c := (c_kd (C j), c_dr (C j), c_sg (C j), c_fl (C j), v, c_sm (C j), c_sw (C j), c_la (C j))) rfl, pj_u c_ok (C := C) (j := j) (c := (c_kd (C j), c_dr (C j), c_sg (C j), c_fl (C j), v, c_sm (C j), c_sw (C j), c_la (C j))) (v := v) rfl, pj_k c_sm (C := C) (j := j) (c := (c_kd (C j), c_dr (C j), c_sg (C j), c_fl (C j), v, c_sm (C j), c_sw (C j), c_la (C j))) rfl, pj_k c_sw (C := C) (j := j) (c := (c_kd (C j), c_dr (C j), c_sg (C j), c_fl (C j), v, c_sm (C j), c_sw (C j), c_la (C j))) rfl]
theorem mcP_ok {D : va_G} {cl : List vw_C} {H : Heap} {y : Nat → ClassId} {q : Nat → Nat} {now L : Int32} {C : Nat → CT} {w : Nat → Int32} {rt rd : Int32} {no sa to : Nat → Int32} {tr : Int64} {st im va : Nat → Int32} {j : Nat} {v : Int32} (h : va_P D cl ((mWC y q now L C w rt rd no sa to tr st im va).set 6 (q 6, .inl (y 6, 12, .inl (upd (fun i => c_ok (C i)) j v)))) H) : va_P D cl (mWC y q now L (va_up C j (c_kd (C j), c_dr (C j), c_sg (C j), c_fl (C j), v, c_sm (C j), c_sw (C j), c_la (C j))) w rt rd no sa to tr st im va) H := by
  rw [← mce_ok]; exact h
theorem mcD_ok {A : Nat → Prop} {y : Nat → ClassId} {q : Nat → Nat} {now L : Int32} {C : Nat → CT} {w : Nat → Int32} {rt rd : Int32} {no sa to : Nat → Int32} {tr : Int64} {st im va : Nat → Int32} {j : Nat} {v : Int32} (h : va_D A ((mWC y q now L C w rt rd no sa to tr st im va).set 6 (q 6, .inl (y 6, 12, .inl (upd (fun i => c_ok (C i)) j v))))) : va_D A (mWC y q now L (va_up C j (c_kd (C j), c_dr (C j), c_sg (C j), c_fl (C j), v, c_sm (C j), c_sw (C j), c_la (C j))) w rt rd no sa to tr st im va) := by
  rw [← mce_ok]; exact h
theorem mcPF_ok {D : va_G} {cl : List vw_C} {H : Heap} {y : Nat → ClassId} {q : Nat → Nat} {now L : Int32} {C : Nat → CT} {w : Nat → Int32} {rt rd : Int32} {no sa to : Nat → Int32} {tr : Int64} {st im va : Nat → Int32} {j : Nat} {v : Int32} {c0 : CT} (h : va_P D cl ((mWC y q now L (va_up C j c0) w rt rd no sa to tr st im va).set 6 (q 6, .inl (y 6, 12, .inl (upd (fun i => c_ok (va_up C j c0 i)) j v)))) H) : va_P D cl (mWC y q now L (va_up C j (c_kd c0, c_dr c0, c_sg c0, c_fl c0, v, c_sm c0, c_sw c0, c_la c0)) w rt rd no sa to tr st im va) H := by
  have h2 := mcP_ok h
  rw [bx_uu, va_up_self] at h2; exact h2
theorem mcDF_ok {A : Nat → Prop} {y : Nat → ClassId} {q : Nat → Nat} {now L : Int32} {C : Nat → CT} {w : Nat → Int32} {rt rd : Int32} {no sa to : Nat → Int32} {tr : Int64} {st im va : Nat → Int32} {j : Nat} {v : Int32} {c0 : CT} (h : va_D A ((mWC y q now L (va_up C j c0) w rt rd no sa to tr st im va).set 6 (q 6, .inl (y 6, 12, .inl (upd (fun i => c_ok (va_up C j c0 i)) j v))))) : va_D A (mWC y q now L (va_up C j (c_kd c0, c_dr c0, c_sg c0, c_fl c0, v, c_sm c0, c_sw c0, c_la c0)) w rt rd no sa to tr st im va) := by
  have h2 := mcD_ok h
  rw [bx_uu, va_up_self] at h2; exact h2
theorem mce_sm {y : Nat → ClassId} {q : Nat → Nat} {now L : Int32} {C : Nat → CT} {w : Nat → Int32} {rt rd : Int32} {no sa to : Nat → Int32} {tr : Int64} {st im va : Nat → Int32} {j : Nat} {v : Int32} : (mWC y q now L C w rt rd no sa to tr st im va).set 7 (q 7, .inl (y 7, 12, .inl (upd (fun i => c_sm (C i)) j v))) = mWC y q now L (va_up C j (c_kd (C j), c_dr (C j), c_sg (C j), c_fl (C j), c_ok (C j), v, c_sw (C j), c_la (C j))) w rt rd no sa to tr st im va := by
  show mW y q now L (fun i => c_kd (C i)) (fun i => c_dr (C i)) (fun i => c_sg (C i)) (fun i => c_fl (C i)) (fun i => c_la (C i)) (fun i => c_ok (C i)) (upd (fun i => c_sm (C i)) j v) (fun i => c_sw (C i)) w rt rd no sa to tr st im va = mW y q now L (fun i => c_kd (va_up C j (c_kd (C j), c_dr (C j), c_sg (C j), c_fl (C j), c_ok (C j), v, c_sw (C j), c_la (C j)) i)) (fun i => c_dr (va_up C j (c_kd (C j), c_dr (C j), c_sg (C j), c_fl (C j), c_ok (C j), v, c_sw (C j), c_la (C j)) i)) (fun i => c_sg (va_up C j (c_kd (C j), c_dr (C j), c_sg (C j), c_fl (C j), c_ok (C j), v, c_sw (C j), c_la (C j)) i)) (fun i => c_fl (va_up C j (c_kd (C j), c_dr (C j), c_sg (C j), c_fl (C j), c_ok (C j), v, c_sw (C j), c_la (C j)) i)) (fun i => c_la (va_up C j (c_kd (C j), c_dr (C j), c_sg (C j), c_fl (C j), c_ok (C j), v, c_sw (C j), c_la (C j)) i)) (fun i => c_ok (va_up C j (c_kd (C j), c_dr (C j), c_sg (C j), c_fl (C j), c_ok (C j), v, c_sw (C j), c_la (C j)) i)) (fun i => c_sm (va_up C j (c_kd (C j), c_dr (C j), c_sg (C j), c_fl (C j), c_ok (C j), v, c_sw (C j), c_la (C j)) i)) (fun i => c_sw (va_up C j (c_kd (C j), c_dr (C j), c_sg (C j), c_fl (C j), c_ok (C j), v, c_sw (C j), c_la (C j)) i)) w rt rd no sa to tr st im va
  rw [pj_k c_kd (C := C) (j := j) (c := (c_kd (C j), c_dr (C j), c_sg (C j), c_fl (C j), c_ok (C j), v, c_sw (C j), c_la (C j))) rfl, pj_k c_dr (C := C) (j := j) (c := (c_kd (C j), c_dr (C j), c_sg (C j), c_fl (C j), c_ok (C j), v, c_sw (C j), c_la (C j))) rfl, pj_k c_sg (C := C) (j := j) (c := (c_kd (C j), c_dr (C j), c_sg (C j), c_fl (C j), c_ok (C j), v, c_sw (C j), c_la (C j))) rfl, pj_k c_fl (C := C) (j := j) (c := (c_kd (C j), c_dr (C j), c_sg (C j), c_fl (C j), c_ok (C j), v, c_sw (C j), c_la (C j))) rfl, pj_k c_la (C := C) (j := j) (c := (c_kd (C j), c_dr (C j), c_sg (C j), c_fl (C j), c_ok (C j), v, c_sw (C j), c_la (C j))) rfl, pj_k c_ok (C := C) (j := j) (c := (c_kd (C j), c_dr (C j), c_sg (C j), c_fl (C j), c_ok (C j), v, c_sw (C j), c_la (C j))) rfl, pj_u c_sm (C := C) (j := j) (c := (c_kd (C j), c_dr (C j), c_sg (C j), c_fl (C j), c_ok (C j), v, c_sw (C j), c_la (C j))) (v := v) rfl, pj_k c_sw (C := C) (j := j) (c := (c_kd (C j), c_dr (C j), c_sg (C j), c_fl (C j), c_ok (C j), v, c_sw (C j), c_la (C j))) rfl]
theorem mcP_sm {D : va_G} {cl : List vw_C} {H : Heap} {y : Nat → ClassId} {q : Nat → Nat} {now L : Int32} {C : Nat → CT} {w : Nat → Int32} {rt rd : Int32} {no sa to : Nat → Int32} {tr : Int64} {st im va : Nat → Int32} {j : Nat} {v : Int32} (h : va_P D cl ((mWC y q now L C w rt rd no sa to tr st im va).set 7 (q 7, .inl (y 7, 12, .inl (upd (fun i => c_sm (C i)) j v)))) H) : va_P D cl (mWC y q now L (va_up C j (c_kd (C j), c_dr (C j), c_sg (C j), c_fl (C j), c_ok (C j), v, c_sw (C j), c_la (C j))) w rt rd no sa to tr st im va) H := by
  rw [← mce_sm]; exact h
theorem mcD_sm {A : Nat → Prop} {y : Nat → ClassId} {q : Nat → Nat} {now L : Int32} {C : Nat → CT} {w : Nat → Int32} {rt rd : Int32} {no sa to : Nat → Int32} {tr : Int64} {st im va : Nat → Int32} {j : Nat} {v : Int32} (h : va_D A ((mWC y q now L C w rt rd no sa to tr st im va).set 7 (q 7, .inl (y 7, 12, .inl (upd (fun i => c_sm (C i)) j v))))) : va_D A (mWC y q now L (va_up C j (c_kd (C j), c_dr (C j), c_sg (C j), c_fl (C j), c_ok (C j), v, c_sw (C j), c_la (C j))) w rt rd no sa to tr st im va) := by
  rw [← mce_sm]; exact h
theorem mcPF_sm {D : va_G} {cl : List vw_C} {H : Heap} {y : Nat → ClassId} {q : Nat → Nat} {now L : Int32} {C : Nat → CT} {w : Nat → Int32} {rt rd : Int32} {no sa to : Nat → Int32} {tr : Int64} {st im va : Nat → Int32} {j : Nat} {v : Int32} {c0 : CT} (h : va_P D cl ((mWC y q now L (va_up C j c0) w rt rd no sa to tr st im va).set 7 (q 7, .inl (y 7, 12, .inl (upd (fun i => c_sm (va_up C j c0 i)) j v)))) H) : va_P D cl (mWC y q now L (va_up C j (c_kd c0, c_dr c0, c_sg c0, c_fl c0, c_ok c0, v, c_sw c0, c_la c0)) w rt rd no sa to tr st im va) H := by
  have h2 := mcP_sm h
  rw [bx_uu, va_up_self] at h2; exact h2
theorem mcDF_sm {A : Nat → Prop} {y : Nat → ClassId} {q : Nat → Nat} {now L : Int32} {C : Nat → CT} {w : Nat → Int32} {rt rd : Int32} {no sa to : Nat → Int32} {tr : Int64} {st im va : Nat → Int32} {j : Nat} {v : Int32} {c0 : CT} (h : va_D A ((mWC y q now L (va_up C j c0) w rt rd no sa to tr st im va).set 7 (q 7, .inl (y 7, 12, .inl (upd (fun i => c_sm (va_up C j c0 i)) j v))))) : va_D A (mWC y q now L (va_up C j (c_kd c0, c_dr c0, c_sg c0, c_fl c0, c_ok c0, v, c_sw c0, c_la c0)) w rt rd no sa to tr st im va) := by
  have h2 := mcD_sm h
  rw [bx_uu, va_up_self] at h2; exact h2
theorem mce_sw {y : Nat → ClassId} {q : Nat → Nat} {now L : Int32} {C : Nat → CT} {w : Nat → Int32} {rt rd : Int32} {no sa to : Nat → Int32} {tr : Int64} {st im va : Nat → Int32} {j : Nat} {v : Int32} : (mWC y q now L C w rt rd no sa to tr st im va).set 8 (q 8, .inl (y 8, 12, .inl (upd (fun i => c_sw (C i)) j v))) = mWC y q now L (va_up C j (c_kd (C j), c_dr (C j), c_sg (C j), c_fl (C j), c_ok (C j), c_sm (C j), v, c_la (C j))) w rt rd no sa to tr st im va := by
  show mW y q now L (fun i => c_kd (C i)) (fun i => c_dr (C i)) (fun i => c_sg (C i)) (fun i => c_fl (C i)) (fun i => c_la (C i)) (fun i => c_ok (C i)) (fun i => c_sm (C i)) (upd (fun i => c_sw (C i)) j v) w rt rd no sa to tr st im va = mW y q now L (fun i => c_kd (va_up C j (c_kd (C j), c_dr (C j), c_sg (C j), c_fl (C j), c_ok (C j), c_sm (C j), v, c_la (C j)) i)) (fun i => c_dr (va_up C j (c_kd (C j), c_dr (C j), c_sg (C j), c_fl (C j), c_ok (C j), c_sm (C j), v, c_la (C j)) i)) (fun i => c_sg (va_up C j (c_kd (C j), c_dr (C j), c_sg (C j), c_fl (C j), c_ok (C j), c_sm (C j), v, c_la (C j)) i)) (fun i => c_fl (va_up C j (c_kd (C j), c_dr (C j), c_sg (C j), c_fl (C j), c_ok (C j), c_sm (C j), v, c_la (C j)) i)) (fun i => c_la (va_up C j (c_kd (C j), c_dr (C j), c_sg (C j), c_fl (C j), c_ok (C j), c_sm (C j), v, c_la (C j)) i)) (fun i => c_ok (va_up C j (c_kd (C j), c_dr (C j), c_sg (C j), c_fl (C j), c_ok (C j), c_sm (C j), v, c_la (C j)) i)) (fun i => c_sm (va_up C j (c_kd (C j), c_dr (C j), c_sg (C j), c_fl (C j), c_ok (C j), c_sm (C j), v, c_la (C j)) i)) (fun i => c_sw (va_up C j (c_kd (C j), c_dr (C j), c_sg (C j), c_fl (C j), c_ok (C j), c_sm (C j), v, c_la (C j)) i)) w rt rd no sa to tr st im va
  rw [pj_k c_kd (C := C) (j := j) (c := (c_kd (C j), c_dr (C j), c_sg (C j), c_fl (C j), c_ok (C j), c_sm (C j), v, c_la (C j))) rfl, pj_k c_dr (C := C) (j := j) (c := (c_kd (C j), c_dr (C j), c_sg (C j), c_fl (C j), c_ok (C j), c_sm (C j), v, c_la (C j))) rfl, pj_k c_sg (C := C) (j := j) (c := (c_kd (C j), c_dr (C j), c_sg (C j), c_fl (C j), c_ok (C j), c_sm (C j), v, c_la (C j))) rfl, pj_k c_fl (C := C) (j := j) (c := (c_kd (C j), c_dr (C j), c_sg (C j), c_fl (C j), c_ok (C j), c_sm (C j), v, c_la (C j))) rfl, pj_k c_la (C := C) (j := j) (c := (c_kd (C j), c_dr (C j), c_sg (C j), c_fl (C j), c_ok (C j), c_sm (C j), v, c_la (C j))) rfl, pj_k c_ok (C := C) (j := j) (c := (c_kd (C j), c_dr (C j), c_sg (C j), c_fl (C j), c_ok (C j), c_sm (C j), v, c_la (C j))) rfl, pj_k c_sm (C := C) (j := j) (c := (c_kd (C j), c_dr (C j), c_sg (C j), c_fl (C j), c_ok (C j), c_sm (C j), v, c_la (C j))) rfl, pj_u c_sw (C := C) (j := j) (c := (c_kd (C j), c_dr (C j), c_sg (C j), c_fl (C j), c_ok (C j), c_sm (C j), v, c_la (C j))) (v := v) rfl]
theorem mcP_sw {D : va_G} {cl : List vw_C} {H : Heap} {y : Nat → ClassId} {q : Nat → Nat} {now L : Int32} {C : Nat → CT} {w : Nat → Int32} {rt rd : Int32} {no sa to : Nat → Int32} {tr : Int64} {st im va : Nat → Int32} {j : Nat} {v : Int32} (h : va_P D cl ((mWC y q now L C w rt rd no sa to tr st im va).set 8 (q 8, .inl (y 8, 12, .inl (upd (fun i => c_sw (C i)) j v)))) H) : va_P D cl (mWC y q now L (va_up C j (c_kd (C j), c_dr (C j), c_sg (C j), c_fl (C j), c_ok (C j), c_sm (C j), v, c_la (C j))) w rt rd no sa to tr st im va) H := by
  rw [← mce_sw]; exact h
theorem mcD_sw {A : Nat → Prop} {y : Nat → ClassId} {q : Nat → Nat} {now L : Int32} {C : Nat → CT} {w : Nat → Int32} {rt rd : Int32} {no sa to : Nat → Int32} {tr : Int64} {st im va : Nat → Int32} {j : Nat} {v : Int32} (h : va_D A ((mWC y q now L C w rt rd no sa to tr st im va).set 8 (q 8, .inl (y 8, 12, .inl (upd (fun i => c_sw (C i)) j v))))) : va_D A (mWC y q now L (va_up C j (c_kd (C j), c_dr (C j), c_sg (C j), c_fl (C j), c_ok (C j), c_sm (C j), v, c_la (C j))) w rt rd no sa to tr st im va) := by
  rw [← mce_sw]; exact h
theorem mcPF_sw {D : va_G} {cl : List vw_C} {H : Heap} {y : Nat → ClassId} {q : Nat → Nat} {now L : Int32} {C : Nat → CT} {w : Nat → Int32} {rt rd : Int32} {no sa to : Nat → Int32} {tr : Int64} {st im va : Nat → Int32} {j : Nat} {v : Int32} {c0 : CT} (h : va_P D cl ((mWC y q now L (va_up C j c0) w rt rd no sa to tr st im va).set 8 (q 8, .inl (y 8, 12, .inl (upd (fun i => c_sw (va_up C j c0 i)) j v)))) H) : va_P D cl (mWC y q now L (va_up C j (c_kd c0, c_dr c0, c_sg c0, c_fl c0, c_ok c0, c_sm c0, v, c_la c0)) w rt rd no sa to tr st im va) H := by
  have h2 := mcP_sw h
  rw [bx_uu, va_up_self] at h2; exact h2
theorem mcDF_sw {A : Nat → Prop} {y : Nat → ClassId} {q : Nat → Nat} {now L : Int32} {C : Nat → CT} {w : Nat → Int32} {rt rd : Int32} {no sa to : Nat → Int32} {tr : Int64} {st im va : Nat → Int32} {j : Nat} {v : Int32} {c0 : CT} (h : va_D A ((mWC y q now L (va_up C j c0) w rt rd no sa to tr st im va).set 8 (q 8, .inl (y 8, 12, .inl (upd (fun i => c_sw (va_up C j c0 i)) j v))))) : va_D A (mWC y q now L (va_up C j (c_kd c0, c_dr c0, c_sg c0, c_fl c0, c_ok c0, c_sm c0, v, c_la c0)) w rt rd no sa to tr st im va) := by
  have h2 := mcD_sw h
  rw [bx_uu, va_up_self] at h2; exact h2
end
section
theorem zz_ok : True := trivial
end
