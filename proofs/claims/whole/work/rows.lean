section
-- ===== PART A: goes FIRST, ahead of the names: the tables' words, and 'selects' of the private methods out of them =====
/-- a private method of a class that the tables say can be made, by its rows of tables_1 -/
def lw_okq (q : MethodName × Nat) : Prop := (q.1.cls ≠ "java/lang/invoke/MethodHandle" ∧ q.1.cls ≠ "java/lang/invoke/VarHandle") ∧ Cond.instantiable q.1.cls q.2 ∈ tables_1 ∧ Cond.privateMethod q.1 ∈ tables_1 ∧ Cond.instanceMethod q.1 ∈ tables_1
theorem lw_p0 : lw_okq (⟨"StrandMapper$SortedSuffixes", "sort", "()V"⟩, 4) := ⟨⟨by decide +kernel, by decide +kernel⟩, List.mem_of_getElem? (i := 41) (by decide +kernel), List.mem_of_getElem? (i := 215) (by decide +kernel), List.mem_of_getElem? (i := 216) (by decide +kernel)⟩
theorem lw_p1 : lw_okq (⟨"StrandMapper$SortedSuffixes", "insert", "(I)V"⟩, 4) := ⟨⟨by decide +kernel, by decide +kernel⟩, List.mem_of_getElem? (i := 41) (by decide +kernel), List.mem_of_getElem? (i := 219) (by decide +kernel), List.mem_of_getElem? (i := 220) (by decide +kernel)⟩
theorem lw_p2 : lw_okq (⟨"StrandMapper$Mapping", "tryStrand", "(LStrandMapper$Bases;ILStrandMapper$Bases;II)V"⟩, 2) := ⟨⟨by decide +kernel, by decide +kernel⟩, List.mem_of_getElem? (i := 60) (by decide +kernel), List.mem_of_getElem? (i := 267) (by decide +kernel), List.mem_of_getElem? (i := 268) (by decide +kernel)⟩
theorem lw_p3 : lw_okq (⟨"StrandMapper$Mapping", "writeNoHit", "(LStrandMapper$Bases;I)V"⟩, 2) := ⟨⟨by decide +kernel, by decide +kernel⟩, List.mem_of_getElem? (i := 60) (by decide +kernel), List.mem_of_getElem? (i := 347) (by decide +kernel), List.mem_of_getElem? (i := 348) (by decide +kernel)⟩
theorem lw_p4 : lw_okq (⟨"StrandMapper$Mapping", "writeHit", "(LStrandMapper$Bases;LStrandMapper$Bases;II)V"⟩, 2) := ⟨⟨by decide +kernel, by decide +kernel⟩, List.mem_of_getElem? (i := 60) (by decide +kernel), List.mem_of_getElem? (i := 363) (by decide +kernel), List.mem_of_getElem? (i := 364) (by decide +kernel)⟩
theorem lw_p5 : lw_okq (⟨"StrandMapperModel", "before", "(I)I"⟩, 19) := ⟨⟨by decide +kernel, by decide +kernel⟩, List.mem_of_getElem? (i := 408) (by decide +kernel), List.mem_of_getElem? (i := 500) (by decide +kernel), List.mem_of_getElem? (i := 501) (by decide +kernel)⟩
theorem lw_p6 : lw_okq (⟨"StrandMapperModel", "less", "(II)Z"⟩, 19) := ⟨⟨by decide +kernel, by decide +kernel⟩, List.mem_of_getElem? (i := 408) (by decide +kernel), List.mem_of_getElem? (i := 504) (by decide +kernel), List.mem_of_getElem? (i := 505) (by decide +kernel)⟩
theorem lw_p7 : lw_okq (⟨"StrandMapperModel", "weight", "(I)I"⟩, 19) := ⟨⟨by decide +kernel, by decide +kernel⟩, List.mem_of_getElem? (i := 408) (by decide +kernel), List.mem_of_getElem? (i := 508) (by decide +kernel), List.mem_of_getElem? (i := 509) (by decide +kernel)⟩
theorem lw_p8 : lw_okq (⟨"StrandMapperModel", "starts", "(I)Z"⟩, 19) := ⟨⟨by decide +kernel, by decide +kernel⟩, List.mem_of_getElem? (i := 408) (by decide +kernel), List.mem_of_getElem? (i := 525) (by decide +kernel), List.mem_of_getElem? (i := 526) (by decide +kernel)⟩
theorem lw_p9 : lw_okq (⟨"StrandMapperModel", "seek", "(I)V"⟩, 19) := ⟨⟨by decide +kernel, by decide +kernel⟩, List.mem_of_getElem? (i := 408) (by decide +kernel), List.mem_of_getElem? (i := 537) (by decide +kernel), List.mem_of_getElem? (i := 538) (by decide +kernel)⟩
theorem lw_p10 : lw_okq (⟨"StrandMapperModel", "differ", "(II)I"⟩, 19) := ⟨⟨by decide +kernel, by decide +kernel⟩, List.mem_of_getElem? (i := 408) (by decide +kernel), List.mem_of_getElem? (i := 541) (by decide +kernel), List.mem_of_getElem? (i := 542) (by decide +kernel)⟩
theorem lw_p11 : lw_okq (⟨"StrandMapperModel", "symbol", "(II)I"⟩, 19) := ⟨⟨by decide +kernel, by decide +kernel⟩, List.mem_of_getElem? (i := 408) (by decide +kernel), List.mem_of_getElem? (i := 545) (by decide +kernel), List.mem_of_getElem? (i := 546) (by decide +kernel)⟩
theorem lw_p12 : lw_okq (⟨"StrandMapperModel", "head", "()V"⟩, 19) := ⟨⟨by decide +kernel, by decide +kernel⟩, List.mem_of_getElem? (i := 408) (by decide +kernel), List.mem_of_getElem? (i := 549) (by decide +kernel), List.mem_of_getElem? (i := 550) (by decide +kernel)⟩
theorem lw_p13 : lw_okq (⟨"StrandMapperModel", "put", "(I)V"⟩, 19) := ⟨⟨by decide +kernel, by decide +kernel⟩, List.mem_of_getElem? (i := 408) (by decide +kernel), List.mem_of_getElem? (i := 553) (by decide +kernel), List.mem_of_getElem? (i := 554) (by decide +kernel)⟩
theorem lw_p14 : lw_okq (⟨"StrandMapperModel", "tab", "()V"⟩, 19) := ⟨⟨by decide +kernel, by decide +kernel⟩, List.mem_of_getElem? (i := 408) (by decide +kernel), List.mem_of_getElem? (i := 557) (by decide +kernel), List.mem_of_getElem? (i := 558) (by decide +kernel)⟩
theorem lw_p15 : lw_okq (⟨"StrandMapperModel", "pair", "(II)V"⟩, 19) := ⟨⟨by decide +kernel, by decide +kernel⟩, List.mem_of_getElem? (i := 408) (by decide +kernel), List.mem_of_getElem? (i := 561) (by decide +kernel), List.mem_of_getElem? (i := 562) (by decide +kernel)⟩
def lw_privs_1 : List (MethodName × Nat) := [(⟨"StrandMapper$SortedSuffixes", "sort", "()V"⟩, 4), (⟨"StrandMapper$SortedSuffixes", "insert", "(I)V"⟩, 4), (⟨"StrandMapper$Mapping", "tryStrand", "(LStrandMapper$Bases;ILStrandMapper$Bases;II)V"⟩, 2), (⟨"StrandMapper$Mapping", "writeNoHit", "(LStrandMapper$Bases;I)V"⟩, 2), (⟨"StrandMapper$Mapping", "writeHit", "(LStrandMapper$Bases;LStrandMapper$Bases;II)V"⟩, 2), (⟨"StrandMapperModel", "before", "(I)I"⟩, 19), (⟨"StrandMapperModel", "less", "(II)Z"⟩, 19), (⟨"StrandMapperModel", "weight", "(I)I"⟩, 19), (⟨"StrandMapperModel", "starts", "(I)Z"⟩, 19), (⟨"StrandMapperModel", "seek", "(I)V"⟩, 19), (⟨"StrandMapperModel", "differ", "(II)I"⟩, 19), (⟨"StrandMapperModel", "symbol", "(II)I"⟩, 19), (⟨"StrandMapperModel", "head", "()V"⟩, 19), (⟨"StrandMapperModel", "put", "(I)V"⟩, 19), (⟨"StrandMapperModel", "tab", "()V"⟩, 19), (⟨"StrandMapperModel", "pair", "(II)V"⟩, 19)]
theorem lw_r1 : ∀ q ∈ lw_privs_1, lw_okq q := List.forall_mem_cons.mpr ⟨lw_p0, List.forall_mem_cons.mpr ⟨lw_p1, List.forall_mem_cons.mpr ⟨lw_p2, List.forall_mem_cons.mpr ⟨lw_p3, List.forall_mem_cons.mpr ⟨lw_p4, List.forall_mem_cons.mpr ⟨lw_p5, List.forall_mem_cons.mpr ⟨lw_p6, List.forall_mem_cons.mpr ⟨lw_p7, List.forall_mem_cons.mpr ⟨lw_p8, List.forall_mem_cons.mpr ⟨lw_p9, List.forall_mem_cons.mpr ⟨lw_p10, List.forall_mem_cons.mpr ⟨lw_p11, List.forall_mem_cons.mpr ⟨lw_p12, List.forall_mem_cons.mpr ⟨lw_p13, List.forall_mem_cons.mpr ⟨lw_p14, List.forall_mem_cons.mpr ⟨lw_p15, fun _ h => absurd h List.not_mem_nil⟩⟩⟩⟩⟩⟩⟩⟩⟩⟩⟩⟩⟩⟩⟩⟩
theorem lw_p16 : lw_okq (⟨"StrandMapperModel", "putNumber", "(I)V"⟩, 19) := ⟨⟨by decide +kernel, by decide +kernel⟩, List.mem_of_getElem? (i := 408) (by decide +kernel), List.mem_of_getElem? (i := 565) (by decide +kernel), List.mem_of_getElem? (i := 566) (by decide +kernel)⟩
theorem lw_p17 : lw_okq (⟨"StrandMapperModel", "putHit", "(I)V"⟩, 19) := ⟨⟨by decide +kernel, by decide +kernel⟩, List.mem_of_getElem? (i := 408) (by decide +kernel), List.mem_of_getElem? (i := 569) (by decide +kernel), List.mem_of_getElem? (i := 570) (by decide +kernel)⟩
theorem lw_p18 : lw_okq (⟨"StrandMapperModel", "quality", "(I)I"⟩, 19) := ⟨⟨by decide +kernel, by decide +kernel⟩, List.mem_of_getElem? (i := 408) (by decide +kernel), List.mem_of_getElem? (i := 573) (by decide +kernel), List.mem_of_getElem? (i := 574) (by decide +kernel)⟩
theorem lw_p19 : lw_okq (⟨"StrandMapperModel", "noMate", "()V"⟩, 19) := ⟨⟨by decide +kernel, by decide +kernel⟩, List.mem_of_getElem? (i := 408) (by decide +kernel), List.mem_of_getElem? (i := 577) (by decide +kernel), List.mem_of_getElem? (i := 578) (by decide +kernel)⟩
theorem lw_p20 : lw_okq (⟨"StrandMapperModel", "putRead", "(I)V"⟩, 19) := ⟨⟨by decide +kernel, by decide +kernel⟩, List.mem_of_getElem? (i := 408) (by decide +kernel), List.mem_of_getElem? (i := 581) (by decide +kernel), List.mem_of_getElem? (i := 582) (by decide +kernel)⟩
theorem lw_p21 : lw_okq (⟨"StrandMapperModel", "putBase", "(I)V"⟩, 19) := ⟨⟨by decide +kernel, by decide +kernel⟩, List.mem_of_getElem? (i := 408) (by decide +kernel), List.mem_of_getElem? (i := 585) (by decide +kernel), List.mem_of_getElem? (i := 586) (by decide +kernel)⟩
theorem lw_p22 : lw_okq (⟨"StrandMapperModel", "putDifferences", "(II)V"⟩, 19) := ⟨⟨by decide +kernel, by decide +kernel⟩, List.mem_of_getElem? (i := 408) (by decide +kernel), List.mem_of_getElem? (i := 589) (by decide +kernel), List.mem_of_getElem? (i := 590) (by decide +kernel)⟩
theorem lw_p23 : lw_okq (⟨"StrandMapperModel", "putNothing", "()V"⟩, 19) := ⟨⟨by decide +kernel, by decide +kernel⟩, List.mem_of_getElem? (i := 408) (by decide +kernel), List.mem_of_getElem? (i := 593) (by decide +kernel), List.mem_of_getElem? (i := 594) (by decide +kernel)⟩
theorem lw_p24 : lw_okq (⟨"StrandMapperModel", "keep", "()V"⟩, 19) := ⟨⟨by decide +kernel, by decide +kernel⟩, List.mem_of_getElem? (i := 408) (by decide +kernel), List.mem_of_getElem? (i := 597) (by decide +kernel), List.mem_of_getElem? (i := 598) (by decide +kernel)⟩
def lw_privs_2 : List (MethodName × Nat) := [(⟨"StrandMapperModel", "putNumber", "(I)V"⟩, 19), (⟨"StrandMapperModel", "putHit", "(I)V"⟩, 19), (⟨"StrandMapperModel", "quality", "(I)I"⟩, 19), (⟨"StrandMapperModel", "noMate", "()V"⟩, 19), (⟨"StrandMapperModel", "putRead", "(I)V"⟩, 19), (⟨"StrandMapperModel", "putBase", "(I)V"⟩, 19), (⟨"StrandMapperModel", "putDifferences", "(II)V"⟩, 19), (⟨"StrandMapperModel", "putNothing", "()V"⟩, 19), (⟨"StrandMapperModel", "keep", "()V"⟩, 19)]
theorem lw_r2 : ∀ q ∈ lw_privs_2, lw_okq q := List.forall_mem_cons.mpr ⟨lw_p16, List.forall_mem_cons.mpr ⟨lw_p17, List.forall_mem_cons.mpr ⟨lw_p18, List.forall_mem_cons.mpr ⟨lw_p19, List.forall_mem_cons.mpr ⟨lw_p20, List.forall_mem_cons.mpr ⟨lw_p21, List.forall_mem_cons.mpr ⟨lw_p22, List.forall_mem_cons.mpr ⟨lw_p23, List.forall_mem_cons.mpr ⟨lw_p24, fun _ h => absurd h List.not_mem_nil⟩⟩⟩⟩⟩⟩⟩⟩⟩
def lw_privs : List (MethodName × Nat) := lw_privs_1 ++ (lw_privs_2)
def lw_tbl : List Cond := k2_sels lw_privs ++ tables_1
theorem lw_privs_ok : ∀ q ∈ lw_privs, lw_okq q := by
  show ∀ q ∈ lw_privs_1 ++ (lw_privs_2), lw_okq q
  exact List.forall_mem_append.mpr ⟨lw_r1, lw_r2⟩
-- ===== end of PART A; then your names; then what follows =====
end
section
/-! NAMES: classes, fields, methods, words; written by a program of mine out of the tables and the listing -/
def RX0 : String := "StrandMapper$Bases"
def TX0 : u_T := fun k => match k with
  | 0 => ("StrandMapper$Bases", "symbols", "[I", true)
  | _ => ("StrandMapper$Bases", "used", "I", false)
def tyX0 : Nat → FieldType := fun k => match k with
  | 0 => .array .int
  | _ => .int
theorem nmX0 : ∀ a, a < 2 → ∀ b, b < 2 → a ≠ b → (TX0 a).2.1 ≠ (TX0 b).2.1 := by decide +kernel
theorem tyX0_ok : ∀ k, k < 2 → parseFieldDescriptor (TX0 k).2.2.1 = some (tyX0 k) := by decide +kernel
def RX1 : String := "StrandMapper$HitList"
def TX1 : u_T := fun k => match k with
  | 0 => ("StrandMapper$HitList", "places", "[I", true)
  | 1 => ("StrandMapper$HitList", "strands", "[I", true)
  | 2 => ("StrandMapper$HitList", "mismatches", "[I", true)
  | 3 => ("StrandMapper$HitList", "amount", "I", false)
  | 4 => ("StrandMapper$HitList", "primary", "I", false)
  | _ => ("StrandMapper$HitList", "asGoodAsPrimary", "I", false)
def tyX1 : Nat → FieldType := fun k => match k with
  | 0 => .array .int
  | 1 => .array .int
  | 2 => .array .int
  | 3 => .int
  | 4 => .int
  | _ => .int
theorem nmX1 : ∀ a, a < 6 → ∀ b, b < 6 → a ≠ b → (TX1 a).2.1 ≠ (TX1 b).2.1 := by decide +kernel
theorem tyX1_ok : ∀ k, k < 6 → parseFieldDescriptor (TX1 k).2.2.1 = some (tyX1 k) := by decide +kernel
def RX2 : String := "StrandMapper$MapText"
def TX2 : u_T := fun k => match k with
  | 0 => ("StrandMapper$MapText", "characters", "[C", true)
  | _ => ("StrandMapper$MapText", "written", "I", false)
def tyX2 : Nat → FieldType := fun k => match k with
  | 0 => .array .char
  | _ => .int
theorem nmX2 : ∀ a, a < 2 → ∀ b, b < 2 → a ≠ b → (TX2 a).2.1 ≠ (TX2 b).2.1 := by decide +kernel
theorem tyX2_ok : ∀ k, k < 2 → parseFieldDescriptor (TX2 k).2.2.1 = some (tyX2 k) := by decide +kernel
def RX3 : String := "StrandMapper$Mapping"
def TX3 : u_T := fun k => match k with
  | 0 => ("StrandMapper$Mapping", "found", "LStrandMapper$HitList;", true)
  | _ => ("StrandMapper$Mapping", "text", "LStrandMapper$MapText;", true)
def tyX3 : Nat → FieldType := fun k => match k with
  | 0 => .object "StrandMapper$HitList"
  | _ => .object "StrandMapper$MapText"
theorem nmX3 : ∀ a, a < 2 → ∀ b, b < 2 → a ≠ b → (TX3 a).2.1 ≠ (TX3 b).2.1 := by decide +kernel
theorem tyX3_ok : ∀ k, k < 2 → parseFieldDescriptor (TX3 k).2.2.1 = some (tyX3 k) := by decide +kernel
def RX4 : String := "StrandMapper$SortedSuffixes"
def TX4 : u_T := fun k => match k with
  | 0 => ("StrandMapper$SortedSuffixes", "genome", "LStrandMapper$Bases;", true)
  | 1 => ("StrandMapper$SortedSuffixes", "rowOfPlace", "[I", true)
  | 2 => ("StrandMapper$SortedSuffixes", "order", "[I", true)
  | _ => ("StrandMapper$SortedSuffixes", "sorted", "Z", false)
def tyX4 : Nat → FieldType := fun k => match k with
  | 0 => .object "StrandMapper$Bases"
  | 1 => .array .int
  | 2 => .array .int
  | _ => .boolean
theorem nmX4 : ∀ a, a < 4 → ∀ b, b < 4 → a ≠ b → (TX4 a).2.1 ≠ (TX4 b).2.1 := by decide +kernel
theorem tyX4_ok : ∀ k, k < 4 → parseFieldDescriptor (TX4 k).2.2.1 = some (tyX4 k) := by decide +kernel
def RX5 : String := "StrandMapper"
def TX5 : u_T := fun k => match k with
  | 0 => ("StrandMapper", "genome", "LStrandMapper$Bases;", true)
  | 1 => ("StrandMapper", "suffixes", "LStrandMapper$SortedSuffixes;", true)
  | 2 => ("StrandMapper", "read", "LStrandMapper$Bases;", false)
  | 3 => ("StrandMapper", "turned", "LStrandMapper$Bases;", false)
  | 4 => ("StrandMapper", "latest", "LStrandMapper$Mapping;", false)
  | 5 => ("StrandMapper", "spare", "LStrandMapper$Mapping;", false)
  | _ => ("StrandMapper", "mappingsDone", "I", false)
def tyX5 : Nat → FieldType := fun k => match k with
  | 0 => .object "StrandMapper$Bases"
  | 1 => .object "StrandMapper$SortedSuffixes"
  | 2 => .object "StrandMapper$Bases"
  | 3 => .object "StrandMapper$Bases"
  | 4 => .object "StrandMapper$Mapping"
  | 5 => .object "StrandMapper$Mapping"
  | _ => .int
theorem nmX5 : ∀ a, a < 7 → ∀ b, b < 7 → a ≠ b → (TX5 a).2.1 ≠ (TX5 b).2.1 := by decide +kernel
theorem tyX5_ok : ∀ k, k < 7 → parseFieldDescriptor (TX5 k).2.2.1 = some (tyX5 k) := by decide +kernel
def RX6 : String := "StrandMapperModel"
def TX6 : u_T := fun k => match k with
  | 0 => ("StrandMapperModel", "genome", "[I", true)
  | 1 => ("StrandMapperModel", "bases", "I", false)
  | 2 => ("StrandMapperModel", "text", "[I", true)
  | 3 => ("StrandMapperModel", "width", "I", false)
  | 4 => ("StrandMapperModel", "found", "I", false)
  | 5 => ("StrandMapperModel", "places", "[I", true)
  | 6 => ("StrandMapperModel", "strands", "[I", true)
  | 7 => ("StrandMapperModel", "misses", "[I", true)
  | 8 => ("StrandMapperModel", "chief", "I", false)
  | 9 => ("StrandMapperModel", "many", "I", false)
  | 10 => ("StrandMapperModel", "newPlaces", "[I", true)
  | 11 => ("StrandMapperModel", "newStrands", "[I", true)
  | 12 => ("StrandMapperModel", "newMisses", "[I", true)
  | 13 => ("StrandMapperModel", "newChief", "I", false)
  | 14 => ("StrandMapperModel", "letters", "I", false)
  | 15 => ("StrandMapperModel", "lines", "[C", true)
  | 16 => ("StrandMapperModel", "drawn", "I", false)
  | 17 => ("StrandMapperModel", "draft", "[C", true)
  | _ => ("StrandMapperModel", "done", "I", false)
def tyX6 : Nat → FieldType := fun k => match k with
  | 0 => .array .int
  | 1 => .int
  | 2 => .array .int
  | 3 => .int
  | 4 => .int
  | 5 => .array .int
  | 6 => .array .int
  | 7 => .array .int
  | 8 => .int
  | 9 => .int
  | 10 => .array .int
  | 11 => .array .int
  | 12 => .array .int
  | 13 => .int
  | 14 => .int
  | 15 => .array .char
  | 16 => .int
  | 17 => .array .char
  | _ => .int
theorem nmX6 : ∀ a, a < 19 → ∀ b, b < 19 → a ≠ b → (TX6 a).2.1 ≠ (TX6 b).2.1 := by decide +kernel
theorem tyX6_ok : ∀ k, k < 19 → parseFieldDescriptor (TX6 k).2.2.1 = some (tyX6 k) := by decide +kernel
abbrev vwCl : List vw_C := [(RX0, TX0, 2), (RX1, TX1, 6), (RX2, TX2, 2), (RX3, TX3, 2), (RX4, TX4, 4), (RX5, TX5, 7), (RX6, TX6, 19)]
/-- the words that a call keeps -/
def zT : List Cond := lw_tbl.filter goodWord
theorem zin {w : Cond} (i : Nat) (h : lw_tbl[i]? = some w) (g : goodWord w = true) : w ∈ zT := List.mem_filter.mpr ⟨List.mem_of_getElem? h, g⟩
theorem zin_l {w : Cond} (h : w ∈ zT) : w ∈ lw_tbl := (List.mem_filter.mp h).1
theorem zin_g {w : Cond} (h : w ∈ zT) : (w.onTables && w.keeps) = true ∨ ∃ ty, w = .arrayClass ty := good_of_word (List.mem_filter.mp h).2
theorem zgoodX {big : List Cond} (hb : ∀ w ∈ zT, w ∈ big) {own : String} {idx : Nat} {C : String} {y : MethodName} {c : ByteArray} {n : Nat} {r : Option FieldType} (h1 : Cond.methodLink own idx y ∈ zT) (h2 : Cond.instanceMethod y ∈ zT) (h3 : Cond.selects C y y ∈ zT) (h4 : Cond.initialized C ∈ zT) (h5 : Cond.code y c n r ∈ zT) : GoodIn big (wsV own idx C y (Cond.code y c n r :: zT)) := by
  have hz : ∀ w ∈ zT, w ∈ big ∧ ((w.onTables && w.keeps) = true ∨ ∃ ty, w = .arrayClass ty) := fun w h => ⟨hb w h, zin_g h⟩
  intro w hw
  have hw : w ∈ ([.methodLink own idx y, .instanceMethod y, .selects C y y, .initialized C] : List Cond) ++ (Cond.code y c n r :: zT) := hw
  rcases List.mem_append.mp hw with hw | hw
  · simp only [List.mem_cons, List.not_mem_nil, or_false] at hw
    rcases hw with hw | hw | hw | hw <;> rw [hw]
    · exact hz _ h1
    · exact hz _ h2
    · exact hz _ h3
    · exact hz _ h4
  · rcases List.mem_cons.mp hw with hw | hw
    · rw [hw]; exact hz _ h5
    · exact hz _ hw
theorem zgoodSX {big : List Cond} (hb : ∀ w ∈ zT, w ∈ big) {own : String} {idx : Nat} {y : MethodName} {c : ByteArray} {n : Nat} {r : Option FieldType} (h1 : Cond.methodLink own idx y ∈ zT) (h2 : Cond.static y ∈ zT) (h4 : Cond.initialized y.cls ∈ zT) (h5 : Cond.code y c n r ∈ zT) : GoodIn big (va_wsS own idx y (Cond.code y c n r :: zT)) := by
  have hz : ∀ w ∈ zT, w ∈ big ∧ ((w.onTables && w.keeps) = true ∨ ∃ ty, w = .arrayClass ty) := fun w h => ⟨hb w h, zin_g h⟩
  intro w hw
  have hw : w ∈ ([.methodLink own idx y, .static y, .initialized y.cls] : List Cond) ++ (Cond.code y c n r :: zT) := hw
  rcases List.mem_append.mp hw with hw | hw
  · simp only [List.mem_cons, List.not_mem_nil, or_false] at hw
    rcases hw with hw | hw | hw <;> rw [hw]
    · exact hz _ h1
    · exact hz _ h2
    · exact hz _ h4
  · rcases List.mem_cons.mp hw with hw | hw
    · rw [hw]; exact hz _ h5
    · exact hz _ hw
theorem zgoodIX {big : List Cond} (hb : ∀ w ∈ zT, w ∈ big) {y : MethodName} {c : ByteArray} {n : Nat} {r : Option FieldType} (h5 : Cond.code y c n r ∈ zT) : GoodIn big (Cond.code y c n r :: zT) := by
  intro w hw
  rcases List.mem_cons.mp hw with hw | hw
  · rw [hw]; exact ⟨hb _ h5, zin_g h5⟩
  · exact ⟨hb _ hw, zin_g hw⟩
theorem zgood {w0 : Cond} {own : String} {idx : Nat} {C : String} {y : MethodName} {c : ByteArray} {n : Nat} {r : Option FieldType} (h1 : Cond.methodLink own idx y ∈ zT) (h2 : Cond.instanceMethod y ∈ zT) (h3 : Cond.selects C y y ∈ zT) (h4 : Cond.initialized C ∈ zT) (h5 : Cond.code y c n r ∈ zT) : GoodIn (w0 :: zT) (wsV own idx C y (Cond.code y c n r :: zT)) := zgoodX (fun _ h => List.mem_cons_of_mem _ h) h1 h2 h3 h4 h5
theorem zgoodL {own : String} {idx : Nat} {C : String} {y : MethodName} {c : ByteArray} {n : Nat} {r : Option FieldType} (h1 : Cond.methodLink own idx y ∈ zT) (h2 : Cond.instanceMethod y ∈ zT) (h3 : Cond.selects C y y ∈ zT) (h4 : Cond.initialized C ∈ zT) (h5 : Cond.code y c n r ∈ zT) : GoodIn lw_tbl (wsV own idx C y (Cond.code y c n r :: zT)) := zgoodX (fun _ h => zin_l h) h1 h2 h3 h4 h5
theorem zgoodS {w0 : Cond} {own : String} {idx : Nat} {y : MethodName} {c : ByteArray} {n : Nat} {r : Option FieldType} (h1 : Cond.methodLink own idx y ∈ zT) (h2 : Cond.static y ∈ zT) (h4 : Cond.initialized y.cls ∈ zT) (h5 : Cond.code y c n r ∈ zT) : GoodIn (w0 :: zT) (va_wsS own idx y (Cond.code y c n r :: zT)) := zgoodSX (fun _ h => List.mem_cons_of_mem _ h) h1 h2 h4 h5
theorem zgoodI {w0 : Cond} {y : MethodName} {c : ByteArray} {n : Nat} {r : Option FieldType} (h5 : Cond.code y c n r ∈ zT) : GoodIn (w0 :: zT) (Cond.code y c n r :: zT) := zgoodIX (fun _ h => List.mem_cons_of_mem _ h) h5
theorem zgoodIL {y : MethodName} {c : ByteArray} {n : Nat} {r : Option FieldType} (h5 : Cond.code y c n r ∈ zT) : GoodIn lw_tbl (Cond.code y c n r :: zT) := zgoodIX (fun _ h => zin_l h) h5
abbrev cX0_isFull : ByteArray := prog_2_method_2_code
def yX0_isFull : MethodName := ⟨"StrandMapper$Bases", "isFull", "()Z"⟩
def wsX0_isFull : List Cond := .code yX0_isFull cX0_isFull 1 (some .boolean) :: zT
abbrev cX0_append : ByteArray := prog_2_method_3_code
def yX0_append : MethodName := ⟨"StrandMapper$Bases", "append", "(I)V"⟩
def wsX0_append : List Cond := .code yX0_append cX0_append 2 none :: zT
abbrev cX0_empty : ByteArray := prog_2_method_4_code
def yX0_empty : MethodName := ⟨"StrandMapper$Bases", "empty", "()V"⟩
def wsX0_empty : List Cond := .code yX0_empty cX0_empty 1 none :: zT
abbrev cX0_becomeTurned : ByteArray := prog_2_method_5_code
def yX0_becomeTurned : MethodName := ⟨"StrandMapper$Bases", "becomeTurned", "(LStrandMapper$Bases;)V"⟩
def wsX0_becomeTurned : List Cond := .code yX0_becomeTurned cX0_becomeTurned 3 none :: zT
abbrev cX0_hasRoomAt : ByteArray := prog_2_method_6_code
def yX0_hasRoomAt : MethodName := ⟨"StrandMapper$Bases", "hasRoomAt", "(ILStrandMapper$Bases;)Z"⟩
def wsX0_hasRoomAt : List Cond := .code yX0_hasRoomAt cX0_hasRoomAt 3 (some .boolean) :: zT
abbrev cX0_mismatchesAt : ByteArray := prog_2_method_8_code
def yX0_mismatchesAt : MethodName := ⟨"StrandMapper$Bases", "mismatchesAt", "(ILStrandMapper$Bases;I)I"⟩
def wsX0_mismatchesAt : List Cond := .code yX0_mismatchesAt cX0_mismatchesAt 6 (some .int) :: zT
abbrev cX0_holdsAt : ByteArray := prog_2_method_7_code
def yX0_holdsAt : MethodName := ⟨"StrandMapper$Bases", "holdsAt", "(ILStrandMapper$Bases;)Z"⟩
def wsX0_holdsAt : List Cond := .code yX0_holdsAt cX0_holdsAt 3 (some .boolean) :: zT
abbrev cX4_forget : ByteArray := prog_6_method_2_code
def yX4_forget : MethodName := ⟨"StrandMapper$SortedSuffixes", "forget", "()V"⟩
def wsX4_forget : List Cond := .code yX4_forget cX4_forget 1 none :: zT
abbrev cX4_rows : ByteArray := prog_6_method_3_code
def yX4_rows : MethodName := ⟨"StrandMapper$SortedSuffixes", "rows", "()I"⟩
def wsX4_rows : List Cond := .code yX4_rows cX4_rows 1 (some .int) :: zT
abbrev cX4_hasRow : ByteArray := prog_6_method_4_code
def yX4_hasRow : MethodName := ⟨"StrandMapper$SortedSuffixes", "hasRow", "(I)Z"⟩
def wsX4_hasRow : List Cond := .code yX4_hasRow cX4_hasRow 2 (some .boolean) :: zT
abbrev cX4_insert : ByteArray := prog_6_method_8_code
def yX4_insert : MethodName := ⟨"StrandMapper$SortedSuffixes", "insert", "(I)V"⟩
def wsX4_insert : List Cond := .code yX4_insert cX4_insert 8 none :: zT
abbrev cX4_sort : ByteArray := prog_6_method_7_code
def yX4_sort : MethodName := ⟨"StrandMapper$SortedSuffixes", "sort", "()V"⟩
def wsX4_sort : List Cond := .code yX4_sort cX4_sort 2 none :: zT
abbrev cX4_placeOfRow : ByteArray := prog_6_method_5_code
def yX4_placeOfRow : MethodName := ⟨"StrandMapper$SortedSuffixes", "placeOfRow", "(I)I"⟩
def wsX4_placeOfRow : List Cond := .code yX4_placeOfRow cX4_placeOfRow 2 (some .int) :: zT
abbrev cX4_symbolBefore : ByteArray := prog_6_method_6_code
def yX4_symbolBefore : MethodName := ⟨"StrandMapper$SortedSuffixes", "symbolBefore", "(I)I"⟩
def wsX4_symbolBefore : List Cond := .code yX4_symbolBefore cX4_symbolBefore 3 (some .int) :: zT
abbrev cX6_weight : ByteArray := prog_8_method_9_code
def yX6_weight : MethodName := ⟨"StrandMapperModel", "weight", "(I)I"⟩
def wsX6_weight : List Cond := .code yX6_weight cX6_weight 2 (some .int) :: zT
abbrev cX6_less : ByteArray := prog_8_method_10_code
def yX6_less : MethodName := ⟨"StrandMapperModel", "less", "(II)Z"⟩
def wsX6_less : List Cond := .code yX6_less cX6_less 6 (some .boolean) :: zT
abbrev cX6_before : ByteArray := prog_8_method_11_code
def yX6_before : MethodName := ⟨"StrandMapperModel", "before", "(I)I"⟩
def wsX6_before : List Cond := .code yX6_before cX6_before 4 (some .int) :: zT
abbrev cX6_row : ByteArray := prog_8_method_12_code
def yX6_row : MethodName := ⟨"StrandMapperModel", "row", "(I)I"⟩
def wsX6_row : List Cond := .code yX6_row cX6_row 3 (some .int) :: zT
abbrev cX6_base : ByteArray := prog_8_method_2_code
def yX6_base : MethodName := ⟨"StrandMapperModel", "base", "(I)Z"⟩
def wsX6_base : List Cond := .code yX6_base cX6_base 2 (some .boolean) :: zT
abbrev cX6_clear : ByteArray := prog_8_method_3_code
def yX6_clear : MethodName := ⟨"StrandMapperModel", "clear", "()V"⟩
def wsX6_clear : List Cond := .code yX6_clear cX6_clear 1 none :: zT
abbrev cX6_read : ByteArray := prog_8_method_4_code
def yX6_read : MethodName := ⟨"StrandMapperModel", "read", "(I)Z"⟩
def wsX6_read : List Cond := .code yX6_read cX6_read 2 (some .boolean) :: zT
abbrev cX6_wipe : ByteArray := prog_8_method_5_code
def yX6_wipe : MethodName := ⟨"StrandMapperModel", "wipe", "()V"⟩
def wsX6_wipe : List Cond := .code yX6_wipe cX6_wipe 1 none :: zT
abbrev cX6_symbol : ByteArray := prog_8_method_6_code
def yX6_symbol : MethodName := ⟨"StrandMapperModel", "symbol", "(II)I"⟩
def wsX6_symbol : List Cond := .code yX6_symbol cX6_symbol 3 (some .int) :: zT
abbrev cX6_turn : ByteArray := prog_8_method_7_code
def yX6_turn : MethodName := ⟨"StrandMapperModel", "turn", "()V"⟩
def wsX6_turn : List Cond := .code yX6_turn cX6_turn 3 none :: zT
abbrev cX6_length : ByteArray := prog_8_method_8_code
def yX6_length : MethodName := ⟨"StrandMapperModel", "length", "(Z)I"⟩
def wsX6_length : List Cond := .code yX6_length cX6_length 2 (some .int) :: zT
abbrev cX6_hits : ByteArray := prog_8_method_34_code
def yX6_hits : MethodName := ⟨"StrandMapperModel", "hits", "()I"⟩
def wsX6_hits : List Cond := .code yX6_hits cX6_hits 1 (some .int) :: zT
abbrev cX6_size : ByteArray := prog_8_method_36_code
def yX6_size : MethodName := ⟨"StrandMapperModel", "size", "()I"⟩
def wsX6_size : List Cond := .code yX6_size cX6_size 1 (some .int) :: zT
abbrev cX6_mappings : ByteArray := prog_8_method_38_code
def yX6_mappings : MethodName := ⟨"StrandMapperModel", "mappings", "()I"⟩
def wsX6_mappings : List Cond := .code yX6_mappings cX6_mappings 1 (some .int) :: zT
abbrev cX6_hit : ByteArray := prog_8_method_35_code
def yX6_hit : MethodName := ⟨"StrandMapperModel", "hit", "(II)I"⟩
def wsX6_hit : List Cond := .code yX6_hit cX6_hit 3 (some .int) :: zT
abbrev cX6_at : ByteArray := prog_8_method_37_code
def yX6_at : MethodName := ⟨"StrandMapperModel", "at", "(I)I"⟩
def wsX6_at : List Cond := .code yX6_at cX6_at 2 (some .int) :: zT
abbrev cX6_starts : ByteArray := prog_8_method_15_code
def yX6_starts : MethodName := ⟨"StrandMapperModel", "starts", "(I)Z"⟩
def wsX6_starts : List Cond := .code yX6_starts cX6_starts 4 (some .boolean) :: zT
abbrev cX6_first : ByteArray := prog_8_method_16_code
def yX6_first : MethodName := ⟨"StrandMapperModel", "first", "()I"⟩
def wsX6_first : List Cond := .code yX6_first cX6_first 4 (some .int) :: zT
abbrev cX6_count : ByteArray := prog_8_method_17_code
def yX6_count : MethodName := ⟨"StrandMapperModel", "count", "()I"⟩
def wsX6_count : List Cond := .code yX6_count cX6_count 3 (some .int) :: zT
abbrev cX6_differ : ByteArray := prog_8_method_18_code
def yX6_differ : MethodName := ⟨"StrandMapperModel", "differ", "(II)I"⟩
def wsX6_differ : List Cond := .code yX6_differ cX6_differ 5 (some .int) :: zT
abbrev cX6_last : ByteArray := prog_8_method_13_code
def yX6_last : MethodName := ⟨"StrandMapperModel", "last", "(I)I"⟩
def wsX6_last : List Cond := .code yX6_last cX6_last 3 (some .int) :: zT
abbrev cX6_rank : ByteArray := prog_8_method_14_code
def yX6_rank : MethodName := ⟨"StrandMapperModel", "rank", "(II)I"⟩
def wsX6_rank : List Cond := .code yX6_rank cX6_rank 6 (some .int) :: zT
abbrev cX5_base : ByteArray := prog_1_method_2_code
def yX5_base : MethodName := ⟨"StrandMapper", "base", "(I)Z"⟩
def wsX5_base : List Cond := .code yX5_base cX5_base 2 (some .boolean) :: zT
abbrev cX5_clear : ByteArray := prog_1_method_3_code
def yX5_clear : MethodName := ⟨"StrandMapper", "clear", "()V"⟩
def wsX5_clear : List Cond := .code yX5_clear cX5_clear 1 none :: zT
abbrev cX5_read : ByteArray := prog_1_method_4_code
def yX5_read : MethodName := ⟨"StrandMapper", "read", "(I)Z"⟩
def wsX5_read : List Cond := .code yX5_read cX5_read 2 (some .boolean) :: zT
abbrev cX5_wipe : ByteArray := prog_1_method_5_code
def yX5_wipe : MethodName := ⟨"StrandMapper", "wipe", "()V"⟩
def wsX5_wipe : List Cond := .code yX5_wipe cX5_wipe 1 none :: zT
abbrev cX5_turn : ByteArray := prog_1_method_6_code
def yX5_turn : MethodName := ⟨"StrandMapper", "turn", "()V"⟩
def wsX5_turn : List Cond := .code yX5_turn cX5_turn 2 none :: zT
abbrev cX5_length : ByteArray := prog_1_method_7_code
def yX5_length : MethodName := ⟨"StrandMapper", "length", "(Z)I"⟩
def wsX5_length : List Cond := .code yX5_length cX5_length 2 (some .int) :: zT
abbrev cX5_row : ByteArray := prog_1_method_8_code
def yX5_row : MethodName := ⟨"StrandMapper", "row", "(I)I"⟩
def wsX5_row : List Cond := .code yX5_row cX5_row 2 (some .int) :: zT
abbrev cX5_last : ByteArray := prog_1_method_9_code
def yX5_last : MethodName := ⟨"StrandMapper", "last", "(I)I"⟩
def wsX5_last : List Cond := .code yX5_last cX5_last 2 (some .int) :: zT
abbrev cX5_rank : ByteArray := prog_1_method_10_code
def yX5_rank : MethodName := ⟨"StrandMapper", "rank", "(II)I"⟩
def wsX5_rank : List Cond := .code yX5_rank cX5_rank 5 (some .int) :: zT
abbrev cX5_first : ByteArray := prog_1_method_11_code
def yX5_first : MethodName := ⟨"StrandMapper", "first", "()I"⟩
def wsX5_first : List Cond := .code yX5_first cX5_first 2 (some .int) :: zT
abbrev cX5_count : ByteArray := prog_1_method_12_code
def yX5_count : MethodName := ⟨"StrandMapper", "count", "()I"⟩
def wsX5_count : List Cond := .code yX5_count cX5_count 3 (some .int) :: zT
abbrev cX5_hits : ByteArray := prog_1_method_14_code
def yX5_hits : MethodName := ⟨"StrandMapper", "hits", "()I"⟩
def wsX5_hits : List Cond := .code yX5_hits cX5_hits 1 (some .int) :: zT
abbrev cX5_size : ByteArray := prog_1_method_16_code
def yX5_size : MethodName := ⟨"StrandMapper", "size", "()I"⟩
def wsX5_size : List Cond := .code yX5_size cX5_size 1 (some .int) :: zT
abbrev cX5_mappings : ByteArray := prog_1_method_18_code
def yX5_mappings : MethodName := ⟨"StrandMapper", "mappings", "()I"⟩
def wsX5_mappings : List Cond := .code yX5_mappings cX5_mappings 1 (some .int) :: zT
abbrev cX5_at : ByteArray := prog_1_method_17_code
def yX5_at : MethodName := ⟨"StrandMapper", "at", "(I)I"⟩
def wsX5_at : List Cond := .code yX5_at cX5_at 3 (some .int) :: zT
abbrev cX6_put : ByteArray := prog_8_method_21_code
def yX6_put : MethodName := ⟨"StrandMapperModel", "put", "(I)V"⟩
def wsX6_put : List Cond := .code yX6_put cX6_put 2 none :: zT
abbrev cX6_putNumber : ByteArray := prog_8_method_22_code
def yX6_putNumber : MethodName := ⟨"StrandMapperModel", "putNumber", "(I)V"⟩
def wsX6_putNumber : List Cond := .code yX6_putNumber cX6_putNumber 3 none :: zT
abbrev cX6_putBase : ByteArray := prog_8_method_23_code
def yX6_putBase : MethodName := ⟨"StrandMapperModel", "putBase", "(I)V"⟩
def wsX6_putBase : List Cond := .code yX6_putBase cX6_putBase 2 none :: zT
abbrev cX6_tab : ByteArray := prog_8_method_24_code
def yX6_tab : MethodName := ⟨"StrandMapperModel", "tab", "()V"⟩
def wsX6_tab : List Cond := .code yX6_tab cX6_tab 1 none :: zT
abbrev cX6_pair : ByteArray := prog_8_method_25_code
def yX6_pair : MethodName := ⟨"StrandMapperModel", "pair", "(II)V"⟩
def wsX6_pair : List Cond := .code yX6_pair cX6_pair 3 none :: zT
abbrev cX6_head : ByteArray := prog_8_method_26_code
def yX6_head : MethodName := ⟨"StrandMapperModel", "head", "()V"⟩
def wsX6_head : List Cond := .code yX6_head cX6_head 1 none :: zT
abbrev cX6_noMate : ByteArray := prog_8_method_28_code
def yX6_noMate : MethodName := ⟨"StrandMapperModel", "noMate", "()V"⟩
def wsX6_noMate : List Cond := .code yX6_noMate cX6_noMate 1 none :: zT
abbrev cX6_putRead : ByteArray := prog_8_method_27_code
def yX6_putRead : MethodName := ⟨"StrandMapperModel", "putRead", "(I)V"⟩
def wsX6_putRead : List Cond := .code yX6_putRead cX6_putRead 3 none :: zT
abbrev cX6_putDifferences : ByteArray := prog_8_method_29_code
def yX6_putDifferences : MethodName := ⟨"StrandMapperModel", "putDifferences", "(II)V"⟩
def wsX6_putDifferences : List Cond := .code yX6_putDifferences cX6_putDifferences 5 none :: zT
abbrev cX6_quality : ByteArray := prog_8_method_20_code
def yX6_quality : MethodName := ⟨"StrandMapperModel", "quality", "(I)I"⟩
def wsX6_quality : List Cond := .code yX6_quality cX6_quality 4 (some .int) :: zT
abbrev cX6_seek : ByteArray := prog_8_method_19_code
def yX6_seek : MethodName := ⟨"StrandMapperModel", "seek", "(I)V"⟩
def wsX6_seek : List Cond := .code yX6_seek cX6_seek 5 none :: zT
abbrev cX6_putHit : ByteArray := prog_8_method_30_code
def yX6_putHit : MethodName := ⟨"StrandMapperModel", "putHit", "(I)V"⟩
def wsX6_putHit : List Cond := .code yX6_putHit cX6_putHit 3 none :: zT
abbrev cX6_putNothing : ByteArray := prog_8_method_31_code
def yX6_putNothing : MethodName := ⟨"StrandMapperModel", "putNothing", "()V"⟩
def wsX6_putNothing : List Cond := .code yX6_putNothing cX6_putNothing 1 none :: zT
abbrev cX6_keep : ByteArray := prog_8_method_32_code
def yX6_keep : MethodName := ⟨"StrandMapperModel", "keep", "()V"⟩
def wsX6_keep : List Cond := .code yX6_keep cX6_keep 2 none :: zT
abbrev cX6_map : ByteArray := prog_8_method_33_code
def yX6_map : MethodName := ⟨"StrandMapperModel", "map", "(I)I"⟩
def wsX6_map : List Cond := .code yX6_map cX6_map 3 (some .int) :: zT
abbrev cX1_empty : ByteArray := prog_3_method_2_code
def yX1_empty : MethodName := ⟨"StrandMapper$HitList", "empty", "()V"⟩
def wsX1_empty : List Cond := .code yX1_empty cX1_empty 1 none :: zT
abbrev cX1_append : ByteArray := prog_3_method_3_code
def yX1_append : MethodName := ⟨"StrandMapper$HitList", "append", "(III)V"⟩
def wsX1_append : List Cond := .code yX1_append cX1_append 4 none :: zT
abbrev cX1_flagOf : ByteArray := prog_3_method_4_code
def yX1_flagOf : MethodName := ⟨"StrandMapper$HitList", "flagOf", "(I)I"⟩
def wsX1_flagOf : List Cond := .code yX1_flagOf cX1_flagOf 2 (some .int) :: zT
abbrev cX1_qualityOf : ByteArray := prog_3_method_5_code
def yX1_qualityOf : MethodName := ⟨"StrandMapper$HitList", "qualityOf", "(I)I"⟩
def wsX1_qualityOf : List Cond := .code yX1_qualityOf cX1_qualityOf 2 (some .int) :: zT
abbrev cX3_tryStrand : ByteArray := prog_5_method_3_code
def yX3_tryStrand : MethodName := ⟨"StrandMapper$Mapping", "tryStrand", "(LStrandMapper$Bases;ILStrandMapper$Bases;II)V"⟩
def wsX3_tryStrand : List Cond := .code yX3_tryStrand cX3_tryStrand 7 none :: zT
abbrev cX3_findHits : ByteArray := prog_5_method_2_code
def yX3_findHits : MethodName := ⟨"StrandMapper$Mapping", "findHits", "(LStrandMapper$Bases;LStrandMapper$Bases;LStrandMapper$Bases;I)V"⟩
def wsX3_findHits : List Cond := .code yX3_findHits cX3_findHits 6 none :: zT
end
section
/-! PURE: counting; the keys of the suffixes; rows -/
/-- how many i under k have P -/
def zcnt (P : Nat → Bool) : Nat → Nat
  | 0 => 0
  | k + 1 => zcnt P k + (if P k = true then 1 else 0)
theorem zcnt_s (P : Nat → Bool) (k : Nat) : zcnt P (k + 1) = zcnt P k + (if P k = true then 1 else 0) := rfl
theorem zcnt_t {P : Nat → Bool} {k : Nat} (h : P k = true) : zcnt P (k + 1) = zcnt P k + 1 := by rw [zcnt_s, if_pos h]
theorem zcnt_f {P : Nat → Bool} {k : Nat} (h : ¬ P k = true) : zcnt P (k + 1) = zcnt P k := by rw [zcnt_s, if_neg h, Nat.add_zero]
theorem zcnt_le (P : Nat → Bool) : ∀ k, zcnt P k ≤ k
  | 0 => Nat.le_refl 0
  | k + 1 => by
    have h := zcnt_le P k
    rw [zcnt_s]
    by_cases q : P k = true
    · rw [if_pos q]; omega
    · rw [if_neg q]; omega
theorem zcnt_congr {P P' : Nat → Bool} : ∀ k, (∀ i, i < k → P i = P' i) → zcnt P k = zcnt P' k
  | 0, _ => rfl
  | k + 1, h => by
    rw [zcnt_s, zcnt_s, zcnt_congr k (fun i hi => h i (by omega)), h k (by omega)]
theorem zcnt_mono (P : Nat → Bool) {a b : Nat} (h : a ≤ b) : zcnt P a ≤ zcnt P b := by
  induction b with
  | zero =>
    have q : a = 0 := by omega
    subst q
    exact Nat.le_refl _
  | succ b ih =>
    rcases Nat.lt_or_ge b a with q | q
    · have q2 : a = b + 1 := by omega
      subst q2
      exact Nat.le_refl _
    · have q2 := ih q
      rw [zcnt_s]
      omega
theorem zcnt_imp {P P' : Nat → Bool} : ∀ k, (∀ i, i < k → P i = true → P' i = true) → zcnt P k ≤ zcnt P' k
  | 0, _ => Nat.le_refl _
  | k + 1, h => by
    have h1 := zcnt_imp k (fun i hi => h i (by omega))
    rw [zcnt_s, zcnt_s]
    by_cases q : P k = true
    · rw [if_pos q, if_pos (h k (by omega) q)]; omega
    · rw [if_neg q]; omega
theorem zcnt_lt {P P' : Nat → Bool} {j : Nat} : ∀ k, j < k → (∀ i, i < k → P i = true → P' i = true) → ¬ P j = true → P' j = true → zcnt P k < zcnt P' k
  | 0, hj, _, _, _ => absurd hj (Nat.not_lt_zero _)
  | k + 1, hj, h, hn, hp => by
    rw [zcnt_s, zcnt_s]
    by_cases e : j = k
    · subst e
      have h1 := zcnt_imp j (fun i hi => h i (by omega))
      rw [if_neg hn, if_pos hp]; omega
    · have h1 := zcnt_lt k (by omega) (fun i hi => h i (by omega)) hn hp
      by_cases q : P k = true
      · rw [if_pos q, if_pos (h k (by omega) q)]; omega
      · rw [if_neg q]; omega
theorem zcnt_add {P Q R : Nat → Bool} : ∀ k, (∀ i, i < k → (if R i = true then 1 else 0) = (if P i = true then 1 else 0) + (if Q i = true then (1 : Nat) else 0)) → zcnt R k = zcnt P k + zcnt Q k
  | 0, _ => rfl
  | k + 1, h => by
    have h1 := zcnt_add k (fun i hi => h i (by omega))
    have h2 := h k (by omega)
    rw [zcnt_s, zcnt_s, zcnt_s, h1, h2]
    omega
theorem zcnt_none {P : Nat → Bool} : ∀ k, (∀ i, i < k → ¬ P i = true) → zcnt P k = 0
  | 0, _ => rfl
  | k + 1, h => by rw [zcnt_s, zcnt_none k (fun i hi => h i (by omega)), if_neg (h k (by omega))]
theorem zcnt_zero {P : Nat → Bool} : ∀ k, zcnt P k = 0 → ∀ i, i < k → ¬ P i = true
  | 0, _, i, hi => absurd hi (Nat.not_lt_zero _)
  | k + 1, h, i, hi => by
    rw [zcnt_s] at h
    by_cases e : i = k
    · subst e
      intro q
      rw [if_pos q] at h
      omega
    · exact zcnt_zero k (by omega) i (by omega)
theorem zcnt_one {P : Nat → Bool} {j : Nat} : ∀ k, j < k → (∀ i, i < k → (P i = true ↔ i = j)) → zcnt P k = 1
  | 0, hj, _ => absurd hj (Nat.not_lt_zero _)
  | k + 1, hj, h => by
    rw [zcnt_s]
    by_cases e : j = k
    · subst e
      rw [zcnt_none j (fun i hi q => by have := (h i (by omega)).mp q; omega), if_pos ((h j (by omega)).mpr rfl)]
    · rw [zcnt_one k (by omega) (fun i hi => h i (by omega)), if_neg (fun q => e ((h k (by omega)).mp q).symm)]
theorem zcnt_all : ∀ k, zcnt (fun _ => true) k = k
  | 0 => rfl
  | k + 1 => by rw [zcnt_s, zcnt_all k, if_pos rfl]
/-- a one to one map of 0..m-1 into itself meets every number -/
theorem zpig : ∀ (m : Nat) (f : Nat → Nat), (∀ p, p < m → f p < m) → (∀ p q, p < m → q < m → f p = f q → p = q) → ∀ i, i < m → ∃ p, p < m ∧ f p = i
  | 0, _, _, _, i, hi => absurd hi (Nat.not_lt_zero _)
  | m + 1, f, hf, hj, i, hi => by
    have key : ∀ j, j < m → ∃ p, p < m ∧ (if f p = m then f m else f p) = j := by
      refine zpig m (fun p => if f p = m then f m else f p) (fun p hp => ?_) (fun p q hp hq e => ?_)
      · have h1 := hf p (by omega)
        have h2 := hf m (by omega)
        show (if f p = m then f m else f p) < m
        by_cases c : f p = m
        · rw [if_pos c]
          rcases Nat.lt_or_ge (f m) m with q | q
          · exact q
          · have := hj p m (by omega) (by omega) (by omega)
            omega
        · rw [if_neg c]; omega
      · have e : (if f p = m then f m else f p) = (if f q = m then f m else f q) := e
        by_cases c : f p = m
        · by_cases d : f q = m
          · exact hj p q (by omega) (by omega) (by omega)
          · rw [if_pos c, if_neg d] at e
            have := hj m q (by omega) (by omega) e
            omega
        · by_cases d : f q = m
          · rw [if_neg c, if_pos d] at e
            have := hj p m (by omega) (by omega) e
            omega
          · rw [if_neg c, if_neg d] at e
            exact hj p q (by omega) (by omega) e
    by_cases hm : f m = i
    · exact ⟨m, by omega, hm⟩
    · by_cases him : i = m
      · have h2 := hf m (by omega)
        obtain ⟨p, hp, e⟩ := key (f m) (by omega)
        by_cases c : f p = m
        · exact ⟨p, by omega, by omega⟩
        · rw [if_neg c] at e
          have := hj p m (by omega) (by omega) e
          omega
      · obtain ⟨p, hp, e⟩ := key i (by omega)
        by_cases c : f p = m
        · rw [if_pos c] at e
          exact absurd e hm
        · rw [if_neg c] at e
          exact ⟨p, by omega, e⟩
/-- the weight of a place -/
def zwt (n : Nat) (g : Nat → Nat) (p : Nat) : Nat := if p < n then g p + 1 else 0
/-- the first f weights from p on as a number -/
def zV (n : Nat) (g : Nat → Nat) : Nat → Nat → Nat
  | 0, _ => 0
  | f + 1, p => zwt n g p * 6 ^ f + zV n g f (p + 1)
theorem zV_s (n : Nat) (g : Nat → Nat) (f p : Nat) : zV n g (f + 1) p = zwt n g p * 6 ^ f + zV n g f (p + 1) := rfl
theorem zwt_in {n : Nat} {g : Nat → Nat} {p : Nat} (h : p < n) : zwt n g p = g p + 1 := if_pos h
theorem zwt_out {n : Nat} {g : Nat → Nat} {p : Nat} (h : n ≤ p) : zwt n g p = 0 := if_neg (Nat.not_lt.mpr h)
theorem zwt_le {n : Nat} {g : Nat → Nat} (hg : ∀ i, g i ≤ 4) (p : Nat) : zwt n g p ≤ 5 := by
  have := hg p
  unfold zwt
  split <;> omega
theorem zmul_s {u v x : Nat} (h : u < v) : u * x + x ≤ v * x := by
  rw [← Nat.succ_mul]
  exact Nat.mul_le_mul_right x h
theorem zdig_lt {u v x a b : Nat} (ha : a < x) (hb : b < x) : u * x + a < v * x + b ↔ u < v ∨ (u = v ∧ a < b) := by
  rcases Nat.lt_trichotomy u v with q | q | q
  · have h := zmul_s (x := x) q
    constructor
    · intro _; exact Or.inl q
    · intro _; omega
  · subst q
    constructor
    · intro h; exact Or.inr ⟨rfl, by omega⟩
    · intro h
      rcases h with h | h <;> omega
  · have h := zmul_s (x := x) q
    constructor
    · intro h2; omega
    · intro h2
      rcases h2 with h2 | h2 <;> omega
theorem zdig_eq {u v x a b : Nat} (ha : a < x) (hb : b < x) (h : u * x + a = v * x + b) : u = v ∧ a = b := by
  rcases Nat.lt_trichotomy u v with q | q | q
  · have h2 := zmul_s (x := x) q
    omega
  · subst q
    exact ⟨rfl, by omega⟩
  · have h2 := zmul_s (x := x) q
    omega
theorem zV_lt {n : Nat} {g : Nat → Nat} (hg : ∀ i, g i ≤ 4) : ∀ f p, zV n g f p < 6 ^ f
  | 0, p => by simp [zV]
  | f + 1, p => by
    have h1 := zV_lt hg f (p + 1) (n := n)
    have h2 : zwt n g p < 6 := by have := zwt_le (n := n) hg p; omega
    have h3 := zmul_s (x := 6 ^ f) h2
    rw [zV_s, Nat.pow_succ, Nat.mul_comm (6 ^ f) 6]
    omega
theorem zV_out {n : Nat} {g : Nat → Nat} : ∀ f p, n ≤ p → zV n g f p = 0
  | 0, p, _ => rfl
  | f + 1, p, h => by rw [zV_s, zwt_out h, zV_out f (p + 1) (by omega)]; simp
theorem zV_snoc {n : Nat} {g : Nat → Nat} : ∀ f p, zV n g (f + 1) p = 6 * zV n g f p + zwt n g (p + f)
  | 0, p => by simp [zV]
  | f + 1, p => by
    rw [zV_s, zV_snoc f (p + 1), zV_s n g f p, Nat.pow_succ, Nat.mul_add, show p + 1 + f = p + (f + 1) by omega]
    rw [← Nat.mul_assoc, Nat.mul_comm (zwt n g p * 6 ^ f) 6]
    omega
theorem zV_digits {n : Nat} {g : Nat → Nat} (hg : ∀ i, g i ≤ 4) : ∀ f p q, zV n g f p = zV n g f q → ∀ k, k < f → zwt n g (p + k) = zwt n g (q + k)
  | 0, _, _, _, k, hk => absurd hk (Nat.not_lt_zero _)
  | f + 1, p, q, h, k, hk => by
    rw [zV_s, zV_s] at h
    obtain ⟨h1, h2⟩ := zdig_eq (zV_lt hg f (p + 1)) (zV_lt hg f (q + 1)) h
    cases k with
    | zero => exact h1
    | succ k =>
      have h3 := zV_digits hg f (p + 1) (q + 1) h2 k (by omega)
      rw [show p + (k + 1) = p + 1 + k by omega, show q + (k + 1) = q + 1 + k by omega]
      exact h3
/-- the reference's comparison, f steps of it -/
def zsl (n : Nat) (g : Nat → Nat) : Nat → Nat → Nat → Bool
  | 0, _, _ => false
  | f + 1, p, q => if zwt n g p = zwt n g q then (if zwt n g p = 0 then false else zsl n g f (p + 1) (q + 1)) else decide (zwt n g p < zwt n g q)
theorem zsl_iff {n : Nat} {g : Nat → Nat} (hg : ∀ i, g i ≤ 4) : ∀ f p q, zsl n g f p q = true ↔ zV n g f p < zV n g f q
  | 0, p, q => by simp [zsl, zV]
  | f + 1, p, q => by
    rw [zV_s, zV_s, zdig_lt (zV_lt hg f (p + 1)) (zV_lt hg f (q + 1))]
    by_cases e : zwt n g p = zwt n g q
    · by_cases z : zwt n g p = 0
      · have hp : n ≤ p := by
          rcases Nat.lt_or_ge p n with c | c
          · rw [zwt_in c] at z; omega
          · exact c
        have hq : n ≤ q := by
          rcases Nat.lt_or_ge q n with c | c
          · rw [e, zwt_in c] at z; omega
          · exact c
        rw [zV_out f (p + 1) (by omega), zV_out f (q + 1) (by omega)]
        simp only [zsl, if_pos e, if_pos z]
        constructor
        · intro h; cases h
        · intro h; omega
      · simp only [zsl, if_pos e, if_neg z]
        rw [zsl_iff hg f (p + 1) (q + 1)]
        constructor
        · intro h; exact Or.inr ⟨e, h⟩
        · intro h; omega
    · simp only [zsl, if_neg e, decide_eq_true_eq]
      constructor
      · intro h; exact Or.inl h
      · intro h; omega
/-- the key of a suffix -/
def zkey (n : Nat) (g : Nat → Nat) (p : Nat) : Nat := zV n g 97 p
theorem zkey_inj {n : Nat} {g : Nat → Nat} (hg : ∀ i, g i ≤ 4) (hn : n ≤ 96) {p q : Nat} (hp : p ≤ n) (hq : q ≤ n) (h : zkey n g p = zkey n g q) : p = q := by
  have hd := zV_digits hg 97 p q h
  rcases Nat.lt_trichotomy p q with c | c | c
  · have h1 := hd (n - q) (by omega)
    rw [zwt_in (show p + (n - q) < n by omega), zwt_out (show n ≤ q + (n - q) by omega)] at h1
    omega
  · exact c
  · have h1 := hd (n - p) (by omega)
    rw [zwt_out (show n ≤ p + (n - p) by omega), zwt_in (show q + (n - p) < n by omega)] at h1
    omega
theorem zkey_n (n : Nat) (g : Nat → Nat) : zkey n g n = 0 := zV_out 97 n (Nat.le_refl n)
theorem zkey_pos {n : Nat} {g : Nat → Nat} {p : Nat} (hp : p < n) : 0 < zkey n g p := by
  have h1 : zkey n g p = zwt n g p * 6 ^ 96 + zV n g 96 (p + 1) := zV_s n g 96 p
  rw [h1, zwt_in hp]
  have : 0 < (g p + 1) * 6 ^ 96 := Nat.mul_pos (Nat.succ_pos _) (Nat.pow_pos (by decide))
  exact Nat.lt_of_lt_of_le this (Nat.le_add_right _ _)
theorem zkey_step {n : Nat} {g : Nat → Nat} (hg : ∀ i, g i ≤ 4) (hn : n ≤ 96) {p q : Nat} (hp : p < n) (hq : q < n) : zkey n g p < zkey n g q ↔ g p < g q ∨ (g p = g q ∧ zkey n g (p + 1) < zkey n g (q + 1)) := by
  have h1 : zkey n g p = zwt n g p * 6 ^ 96 + zV n g 96 (p + 1) := zV_s n g 96 p
  have h2 : zkey n g q = zwt n g q * 6 ^ 96 + zV n g 96 (q + 1) := zV_s n g 96 q
  have h3 : zkey n g (p + 1) = 6 * zV n g 96 (p + 1) + zwt n g (p + 1 + 96) := zV_snoc 96 (p + 1)
  have h4 : zkey n g (q + 1) = 6 * zV n g 96 (q + 1) + zwt n g (q + 1 + 96) := zV_snoc 96 (q + 1)
  rw [h1, h2, zdig_lt (zV_lt hg 96 (p + 1)) (zV_lt hg 96 (q + 1)), zwt_in hp, zwt_in hq, h3, h4, zwt_out (show n ≤ p + 1 + 96 by omega), zwt_out (show n ≤ q + 1 + 96 by omega)]
  generalize zV n g 96 (p + 1) = x
  generalize zV n g 96 (q + 1) = y
  omega
/-- how many suffixes from a on are less than that of q -/
def zB (n : Nat) (g : Nat → Nat) (a q : Nat) : Nat := zcnt (fun r => decide (a ≤ r ∧ zkey n g r < zkey n g q)) (n + 1)
theorem zB_lt {n : Nat} {g : Nat → Nat} {a x y : Nat} (hx : x ≤ n) (ha : a ≤ x) (h : zkey n g x < zkey n g y) : zB n g a x < zB n g a y := by
  refine zcnt_lt (j := x) (n + 1) (by omega) (fun i hi q => ?_) ?_ ?_
  · simp only [decide_eq_true_eq] at q ⊢
    omega
  · simp only [decide_eq_true_eq]
    omega
  · simp only [decide_eq_true_eq]
    omega
theorem zB_iff {n : Nat} {g : Nat → Nat} {a x y : Nat} (hx : x ≤ n) (ha : a ≤ x) : zB n g a x < zB n g a y ↔ zkey n g x < zkey n g y := by
  constructor
  · intro h
    rcases Nat.lt_or_ge (zkey n g x) (zkey n g y) with c | c
    · exact c
    · have : zB n g a y ≤ zB n g a x := by
        refine zcnt_imp (n + 1) (fun i hi q => ?_)
        simp only [decide_eq_true_eq] at q ⊢
        omega
      omega
  · exact zB_lt hx ha
theorem zB_step {n : Nat} {g : Nat → Nat} {a q : Nat} (ha : a ≤ n) : zB n g a q = zB n g (a + 1) q + (if zkey n g a < zkey n g q then 1 else 0) := by
  have h : zB n g a q = zB n g (a + 1) q + zcnt (fun r => decide (r = a ∧ zkey n g a < zkey n g q)) (n + 1) := by
    refine zcnt_add (n + 1) (fun i hi => ?_)
    simp only [decide_eq_true_eq]
    by_cases e : i = a
    · subst e
      by_cases c : zkey n g i < zkey n g q
      · rw [if_pos ⟨Nat.le_refl _, c⟩, if_neg (by omega), if_pos ⟨rfl, c⟩]
      · rw [if_neg (by omega), if_neg (by omega), if_neg (by omega)]
    · by_cases c : a ≤ i ∧ zkey n g i < zkey n g q
      · rw [if_pos c, if_pos (by omega), if_neg (by omega)]
      · rw [if_neg c, if_neg (by omega), if_neg (by omega)]
  rw [h]
  by_cases c : zkey n g a < zkey n g q
  · rw [if_pos c, zcnt_one (j := a) (n + 1) (by omega) (fun i hi => by simp only [decide_eq_true_eq]; omega)]
  · rw [if_neg c, zcnt_none (n + 1) (fun i hi => by simp only [decide_eq_true_eq]; omega)]
theorem zB_n (n : Nat) (g : Nat → Nat) (a : Nat) : zB n g a n = 0 := by
  refine zcnt_none (n + 1) (fun i hi => ?_)
  simp only [decide_eq_true_eq, zkey_n]
  omega
theorem zB_le {n : Nat} {g : Nat → Nat} {a q : Nat} (hq : q ≤ n) : zB n g a q ≤ n := by
  have h : zB n g a q < zcnt (fun _ => true) (n + 1) := by
    refine zcnt_lt (j := q) (n + 1) (by omega) (fun _ _ _ => rfl) ?_ rfl
    simp only [decide_eq_true_eq]
    omega
  rw [zcnt_all] at h
  omega
/-- the row of a suffix -/
def zbef (n : Nat) (g : Nat → Nat) (p : Nat) : Nat := zB n g 0 p
theorem zbef_inj {n : Nat} {g : Nat → Nat} (hg : ∀ i, g i ≤ 4) (hn : n ≤ 96) {p q : Nat} (hp : p ≤ n) (hq : q ≤ n) (h : zbef n g p = zbef n g q) : p = q := by
  rcases Nat.lt_trichotomy (zkey n g p) (zkey n g q) with c | c | c
  · have := zB_lt (a := 0) hp (Nat.zero_le _) c
    unfold zbef at h
    omega
  · exact zkey_inj hg hn hp hq c
  · have := zB_lt (a := 0) hq (Nat.zero_le _) c
    unfold zbef at h
    omega
theorem zbef_le {n : Nat} {g : Nat → Nat} {p : Nat} (hp : p ≤ n) : zbef n g p ≤ n := zB_le hp
theorem zbef_sur {n : Nat} {g : Nat → Nat} (hg : ∀ i, g i ≤ 4) (hn : n ≤ 96) {i : Nat} (hi : i ≤ n) : ∃ p, p ≤ n ∧ zbef n g p = i := by
  obtain ⟨p, h1, h2⟩ := zpig (n + 1) (zbef n g) (fun p hp => by have := zbef_le (n := n) (g := g) (p := p) (by omega); omega) (fun p q hp hq e => zbef_inj hg hn (by omega) (by omega) e) i (by omega)
  exact ⟨p, by omega, h2⟩
/-- an array that holds the places in the order of their suffixes -/
def zord (n : Nat) (g : Nat → Nat) (o : Nat → Nat) : Prop := ∀ p, p ≤ n → o (zbef n g p) = p
theorem zord_at {n : Nat} {g o : Nat → Nat} (hg : ∀ i, g i ≤ 4) (hn : n ≤ 96) (ho : zord n g o) {i : Nat} (hi : i ≤ n) : o i ≤ n ∧ zbef n g (o i) = i := by
  obtain ⟨p, h1, h2⟩ := zbef_sur hg hn hi
  have h3 := ho p h1
  rw [h2] at h3
  rw [h3]
  exact ⟨h1, h2⟩
theorem zwt_zero {n : Nat} {g : Nat → Nat} {p : Nat} (h : zwt n g p = 0) : n ≤ p := by
  rcases Nat.lt_or_ge p n with c | c
  · rw [zwt_in c] at h; omega
  · exact c
/-- the row of a place, counted in two steps -/
theorem zrow {n : Nat} {g : Nat → Nat} {p : Nat} (hp : p < n) : 1 + zcnt (fun q => decide (p + 1 ≤ q ∧ zkey n g q < zkey n g p)) n = zB n g p p := by
  have h0 := zkey_pos (g := g) hp
  unfold zB
  rw [zcnt_t (k := n) (by simp only [decide_eq_true_eq, zkey_n]; omega), Nat.add_comm]
  congr 1
  refine zcnt_congr n (fun i hi => ?_)
  by_cases e : i = p
  · subst e
    rw [decide_eq_false (by omega), decide_eq_false (by omega)]
  · have : (p + 1 ≤ i ∧ zkey n g i < zkey n g p) ↔ (p ≤ i ∧ zkey n g i < zkey n g p) := by omega
    exact decide_eq_decide.mpr this
/-- the symbol before a place -/
def zsb (g : Nat → Nat) (p : Nat) : Nat := if p = 0 then 5 else g (p - 1)
/-- what row(i) answers -/
def zrowR (n : Nat) (g : Nat → Nat) (i r : Int32) : Prop := (∃ p, p ≤ n ∧ i = nI (zbef n g p) ∧ r = nI p) ∨ ((∀ p, p ≤ n → ¬ i = nI (zbef n g p)) ∧ r = -1)
theorem zrowR_one {n : Nat} {g : Nat → Nat} (hg : ∀ i, g i ≤ 4) (hn : n ≤ 96) {i r r' : Int32} (h : zrowR n g i r) (h' : zrowR n g i r') : r = r' := by
  rcases h with ⟨p, h1, h2, h3⟩ | ⟨h1, h2⟩
  · rcases h' with ⟨q, g1, g2, g3⟩ | ⟨g1, g2⟩
    · have e1 := zbef_le (g := g) h1
      have e2 := zbef_le (g := g) g1
      have e : zbef n g p = zbef n g q := (nI_eq (by omega) (by omega)).mp (h2.symm.trans g2)
      rw [h3, g3, zbef_inj hg hn h1 g1 e]
    · exact absurd h2 (g1 p h1)
  · rcases h' with ⟨q, g1, g2, g3⟩ | ⟨g1, g2⟩
    · exact absurd g2 (h1 q g1)
    · rw [h2, g2]
/-- what last(i) answers -/
def zlastR (n : Nat) (g : Nat → Nat) (i r : Int32) : Prop := (∃ p, p ≤ n ∧ i = nI (zbef n g p) ∧ r = nI (zsb g p)) ∨ ((∀ p, p ≤ n → ¬ i = nI (zbef n g p)) ∧ r = -1)
theorem zlastR_one {n : Nat} {g : Nat → Nat} (hg : ∀ i, g i ≤ 4) (hn : n ≤ 96) {i r r' : Int32} (h : zlastR n g i r) (h' : zlastR n g i r') : r = r' := by
  rcases h with ⟨p, h1, h2, h3⟩ | ⟨h1, h2⟩
  · rcases h' with ⟨q, g1, g2, g3⟩ | ⟨g1, g2⟩
    · have e1 := zbef_le (g := g) h1
      have e2 := zbef_le (g := g) g1
      have e : zbef n g p = zbef n g q := (nI_eq (by omega) (by omega)).mp (h2.symm.trans g2)
      rw [h3, g3, zbef_inj hg hn h1 g1 e]
    · exact absurd h2 (g1 p h1)
  · rcases h' with ⟨q, g1, g2, g3⟩ | ⟨g1, g2⟩
    · exact absurd g2 (h1 q g1)
    · rw [h2, g2]
end
section
/-! LIB: rows of my own over the kit's: numbers that are naturals, contracts of one shape, calls of one row -/
/-- an array with one place written -/
def zup (f : Nat → Nat) (k x : Nat) : Nat → Nat := fun j => if j = k then x else f j
theorem zup_s {f : Nat → Nat} {k x : Nat} : zup f k x k = x := if_pos rfl
theorem zup_n {f : Nat → Nat} {k x j : Nat} (h : j ≠ k) : zup f k x j = f j := if_neg h
theorem zupd (f : Nat → Nat) (k x : Nat) : upd (fun j => nI (f j)) k (nI x) = fun j => nI (zup f k x j) := by
  funext j
  by_cases h : j = k
  · subst h
    rw [pk_us, zup_s]
  · rw [pk_un h, zup_n h]
/-- one less, down to -1 -/
def zi : Nat → Int32
  | 0 => -1
  | k + 1 => nI k
theorem zi_sub (k : Nat) : nI k - 1 = zi k := by
  cases k with
  | zero => decide
  | succ k => exact nI_pred k
theorem zi_dec (k : Nat) : nI k + Int32.ofInt (-1) = zi k := by
  cases k with
  | zero => decide
  | succ k => exact pk_m1 k
theorem zinc (k : Nat) : nI k + Int32.ofInt 1 = nI (k + 1) := nI_1 k
theorem zinc3 (k : Nat) : nI k + Int32.ofInt 3 = nI (k + 3) := nI_add k 3
section ZA
variable {p : Program} {l : Launch} {e : Env} {R : Room} {s : State} {m : MethodId} {args : Array Value} {below : List Frame} {meth : Method} {c : Code} {H : Heap} {locs : List Loc} {cells slots : Nat} {Q : State → Prop}
variable {cc : ByteArray} {pc : Nat} {ls : Array Slot} {rest : List Value} {D : va_G} {cl : List vw_C} {A : Nat → Prop} {a : Nat} {tys : List (ClassId × FieldType)} {ws : va_W} {H0 : Heap}
theorem zz_top {x y : Int32} (h : x = y) (k : W p l e R s m args below meth c H locs cells slots Q (F0 m pc ls (.int y :: rest))) : W p l e R s m args below meth c H locs cells slots Q (F0 m pc ls (.int x :: rest)) := by rw [h]; exact k
theorem zz_eq (hexec : p.tables.exec = Jvm.exec) (hb : c.code = cc) {x y : Nat} {off : Int} {tgt : Nat} (hdg : decode cc pc = .ok (.if_icmp .eq off, 3)) (ht : (pc : Int) + off = (tgt : Int)) (bx : x < 2 ^ 31) (bz : y < 2 ^ 31)
    (kt : x = y → W p l e R s m args below meth c H locs cells slots Q (F0 m tgt ls rest)) (kf : ¬ x = y → W p l e R s m args below meth c H locs cells slots Q (F0 m (pc + 3) ls rest)) : W p l e R s m args below meth c H locs cells slots Q (F0 m pc ls (.int (nI y) :: .int (nI x) :: rest)) :=
  lv_icmp_eq hexec hb hdg ht (fun h => kt ((nI_eq bx bz).mp h)) (fun h => kf (fun q => h ((nI_eq bx bz).mpr q)))
theorem zz_ne (hexec : p.tables.exec = Jvm.exec) (hb : c.code = cc) {x y : Nat} {off : Int} {tgt : Nat} (hdg : decode cc pc = .ok (.if_icmp .ne off, 3)) (ht : (pc : Int) + off = (tgt : Int)) (bx : x < 2 ^ 31) (bz : y < 2 ^ 31)
    (kt : ¬ x = y → W p l e R s m args below meth c H locs cells slots Q (F0 m tgt ls rest)) (kf : x = y → W p l e R s m args below meth c H locs cells slots Q (F0 m (pc + 3) ls rest)) : W p l e R s m args below meth c H locs cells slots Q (F0 m pc ls (.int (nI y) :: .int (nI x) :: rest)) :=
  lv_icmp_ne hexec hb hdg ht (fun h => kt (fun q => h ((nI_eq bx bz).mpr q))) (fun h => kf ((nI_eq bx bz).mp h))
theorem zz_lt (hexec : p.tables.exec = Jvm.exec) (hb : c.code = cc) {x y : Nat} {off : Int} {tgt : Nat} (hdg : decode cc pc = .ok (.if_icmp .lt off, 3)) (ht : (pc : Int) + off = (tgt : Int)) (bx : x < 2 ^ 31) (bz : y < 2 ^ 31)
    (kt : x < y → W p l e R s m args below meth c H locs cells slots Q (F0 m tgt ls rest)) (kf : y ≤ x → W p l e R s m args below meth c H locs cells slots Q (F0 m (pc + 3) ls rest)) : W p l e R s m args below meth c H locs cells slots Q (F0 m pc ls (.int (nI y) :: .int (nI x) :: rest)) :=
  lv_icmp_lt hexec hb hdg ht (fun h => kt ((nI_ltI bx bz).mp h)) (fun h => kf (Nat.not_lt.mp (fun q => h ((nI_ltI bx bz).mpr q))))
theorem zz_ge (hexec : p.tables.exec = Jvm.exec) (hb : c.code = cc) {x y : Nat} {off : Int} {tgt : Nat} (hdg : decode cc pc = .ok (.if_icmp .ge off, 3)) (ht : (pc : Int) + off = (tgt : Int)) (bx : x < 2 ^ 31) (bz : y < 2 ^ 31)
    (kt : y ≤ x → W p l e R s m args below meth c H locs cells slots Q (F0 m tgt ls rest)) (kf : x < y → W p l e R s m args below meth c H locs cells slots Q (F0 m (pc + 3) ls rest)) : W p l e R s m args below meth c H locs cells slots Q (F0 m pc ls (.int (nI y) :: .int (nI x) :: rest)) :=
  lv_icmp_ge hexec hb hdg ht (fun h => kt ((nI_leI bz bx).mp h)) (fun h => kf (Nat.not_le.mp (fun q => h ((nI_leI bz bx).mpr q))))
theorem zz_gt (hexec : p.tables.exec = Jvm.exec) (hb : c.code = cc) {x y : Nat} {off : Int} {tgt : Nat} (hdg : decode cc pc = .ok (.if_icmp .gt off, 3)) (ht : (pc : Int) + off = (tgt : Int)) (bx : x < 2 ^ 31) (bz : y < 2 ^ 31)
    (kt : y < x → W p l e R s m args below meth c H locs cells slots Q (F0 m tgt ls rest)) (kf : x ≤ y → W p l e R s m args below meth c H locs cells slots Q (F0 m (pc + 3) ls rest)) : W p l e R s m args below meth c H locs cells slots Q (F0 m pc ls (.int (nI y) :: .int (nI x) :: rest)) :=
  lv_icmp_gt hexec hb hdg ht (fun h => kt ((nI_ltI bz bx).mp h)) (fun h => kf (Nat.not_lt.mp (fun q => h ((nI_ltI bz bx).mpr q))))
theorem zz_le (hexec : p.tables.exec = Jvm.exec) (hb : c.code = cc) {x y : Nat} {off : Int} {tgt : Nat} (hdg : decode cc pc = .ok (.if_icmp .le off, 3)) (ht : (pc : Int) + off = (tgt : Int)) (bx : x < 2 ^ 31) (bz : y < 2 ^ 31)
    (kt : x ≤ y → W p l e R s m args below meth c H locs cells slots Q (F0 m tgt ls rest)) (kf : y < x → W p l e R s m args below meth c H locs cells slots Q (F0 m (pc + 3) ls rest)) : W p l e R s m args below meth c H locs cells slots Q (F0 m pc ls (.int (nI y) :: .int (nI x) :: rest)) :=
  lv_icmp_le hexec hb hdg ht (fun h => kt ((nI_leI bx bz).mp h)) (fun h => kf (Nat.not_le.mp (fun q => h ((nI_leI bx bz).mpr q))))
theorem zz_eq0 (hexec : p.tables.exec = Jvm.exec) (hb : c.code = cc) {x : Nat} {off : Int} {tgt : Nat} (hdg : decode cc pc = .ok (.ifCond .eq off, 3)) (ht : (pc : Int) + off = (tgt : Int)) (bx : x < 2 ^ 31)
    (kt : x = 0 → W p l e R s m args below meth c H locs cells slots Q (F0 m tgt ls rest)) (kf : ¬ x = 0 → W p l e R s m args below meth c H locs cells slots Q (F0 m (pc + 3) ls rest)) : W p l e R s m args below meth c H locs cells slots Q (F0 m pc ls (.int (nI x) :: rest)) :=
  lv_if_eq hexec hb hdg ht (fun h => kt ((nI_eq (b := 0) bx (by decide)).mp h)) (fun h => kf (fun q => h (by rw [q]; exact nI_0)))
theorem zz_ne0 (hexec : p.tables.exec = Jvm.exec) (hb : c.code = cc) {x : Nat} {off : Int} {tgt : Nat} (hdg : decode cc pc = .ok (.ifCond .ne off, 3)) (ht : (pc : Int) + off = (tgt : Int)) (bx : x < 2 ^ 31)
    (kt : ¬ x = 0 → W p l e R s m args below meth c H locs cells slots Q (F0 m tgt ls rest)) (kf : x = 0 → W p l e R s m args below meth c H locs cells slots Q (F0 m (pc + 3) ls rest)) : W p l e R s m args below meth c H locs cells slots Q (F0 m pc ls (.int (nI x) :: rest)) :=
  lv_if_ne hexec hb hdg ht (fun h => kt (fun q => h (by rw [q]; exact nI_0))) (fun h => kf ((nI_eq (b := 0) bx (by decide)).mp h))
theorem zz_lt0 (hexec : p.tables.exec = Jvm.exec) (hb : c.code = cc) {x : Nat} {off : Int} {tgt : Nat} (hdg : decode cc pc = .ok (.ifCond .lt off, 3)) (ht : (pc : Int) + off = (tgt : Int)) (bx : x < 2 ^ 31)
    (kf : W p l e R s m args below meth c H locs cells slots Q (F0 m (pc + 3) ls rest)) : W p l e R s m args below meth c H locs cells slots Q (F0 m pc ls (.int (nI x) :: rest)) :=
  lv_if_lt hexec hb hdg ht (fun h => absurd h (nI_pos bx)) (fun _ => kf)
theorem zz_ge0 (hexec : p.tables.exec = Jvm.exec) (hb : c.code = cc) {x : Nat} {off : Int} {tgt : Nat} (hdg : decode cc pc = .ok (.ifCond .ge off, 3)) (ht : (pc : Int) + off = (tgt : Int)) (bx : x < 2 ^ 31)
    (kt : W p l e R s m args below meth c H locs cells slots Q (F0 m tgt ls rest)) : W p l e R s m args below meth c H locs cells slots Q (F0 m pc ls (.int (nI x) :: rest)) :=
  lv_if_ge hexec hb hdg ht (fun _ => kt) (fun h => absurd (nI_pos' bx) h)
theorem zz_gt0 (hexec : p.tables.exec = Jvm.exec) (hb : c.code = cc) {x : Nat} {off : Int} {tgt : Nat} (hdg : decode cc pc = .ok (.ifCond .gt off, 3)) (ht : (pc : Int) + off = (tgt : Int)) (bx : x < 2 ^ 31)
    (kt : 0 < x → W p l e R s m args below meth c H locs cells slots Q (F0 m tgt ls rest)) (kf : x = 0 → W p l e R s m args below meth c H locs cells slots Q (F0 m (pc + 3) ls rest)) : W p l e R s m args below meth c H locs cells slots Q (F0 m pc ls (.int (nI x) :: rest)) :=
  lv_if_gt hexec hb hdg ht (fun h => kt ((nI_ltI (a := 0) (by decide) bx).mp h)) (fun h => kf (Nat.eq_zero_of_not_pos (fun q => h ((nI_ltI (a := 0) (by decide) bx).mpr q))))
theorem zz_le0 (hexec : p.tables.exec = Jvm.exec) (hb : c.code = cc) {x : Nat} {off : Int} {tgt : Nat} (hdg : decode cc pc = .ok (.ifCond .le off, 3)) (ht : (pc : Int) + off = (tgt : Int)) (bx : x < 2 ^ 31)
    (kt : x = 0 → W p l e R s m args below meth c H locs cells slots Q (F0 m tgt ls rest)) (kf : 0 < x → W p l e R s m args below meth c H locs cells slots Q (F0 m (pc + 3) ls rest)) : W p l e R s m args below meth c H locs cells slots Q (F0 m pc ls (.int (nI x) :: rest)) :=
  lv_if_le hexec hb hdg ht (fun h => kt (Nat.eq_zero_of_le_zero ((nI_leI (b := 0) bx (by decide)).mp h))) (fun h => kf (Nat.pos_of_ne_zero (fun q => h (by rw [q]; exact Int32.le_refl _))))
/-- a truth as a number -/
def zb (P : Prop) [Decidable P] : Int32 := if P then nI 1 else nI 0
theorem zb_t {P : Prop} [Decidable P] (h : P) : zb P = nI 1 := if_pos h
theorem zb_f {P : Prop} [Decidable P] (h : ¬ P) : zb P = nI 0 := if_neg h
theorem zz_eqb (hexec : p.tables.exec = Jvm.exec) (hb : c.code = cc) {P : Prop} [Decidable P] {off : Int} {tgt : Nat} (hdg : decode cc pc = .ok (.ifCond .eq off, 3)) (ht : (pc : Int) + off = (tgt : Int))
    (kt : ¬ P → W p l e R s m args below meth c H locs cells slots Q (F0 m tgt ls rest)) (kf : P → W p l e R s m args below meth c H locs cells slots Q (F0 m (pc + 3) ls rest)) : W p l e R s m args below meth c H locs cells slots Q (F0 m pc ls (.int (zb P) :: rest)) :=
  lv_if_eq hexec hb hdg ht (fun h => kt (fun q => by rw [zb_t q] at h; exact absurd h (by decide))) (fun h => kf (Decidable.byContradiction (fun q => h (by rw [zb_f q]; exact nI_0))))
theorem zz_neb (hexec : p.tables.exec = Jvm.exec) (hb : c.code = cc) {P : Prop} [Decidable P] {off : Int} {tgt : Nat} (hdg : decode cc pc = .ok (.ifCond .ne off, 3)) (ht : (pc : Int) + off = (tgt : Int))
    (kt : P → W p l e R s m args below meth c H locs cells slots Q (F0 m tgt ls rest)) (kf : ¬ P → W p l e R s m args below meth c H locs cells slots Q (F0 m (pc + 3) ls rest)) : W p l e R s m args below meth c H locs cells slots Q (F0 m pc ls (.int (zb P) :: rest)) :=
  lv_if_ne hexec hb hdg ht (fun h => kt (Decidable.byContradiction (fun q => h (by rw [zb_f q]; exact nI_0)))) (fun h => kf (fun q => by rw [zb_t q] at h; exact absurd h (by decide)))
/-- int arrays of naturals -/
theorem zz_iald (hexec : p.tables.exec = Jvm.exec) (hb : c.code = cc) (hK : va_K D cl tys s) (hP : va_P D cl ws H) (q0 t0 : Nat) {cA : ClassId} {n k : Nat} {f : Nat → Nat} (ha : ws[q0]? = some (a, .inl (cA, n, .inl (fun j => nI (f j))))) (ht : tys[t0]? = some (cA, .int)) (hin : k < n) (hn : n < 2 ^ 31) (hdg : decode cc pc = .ok (.iaload, 1))
    (kk : W p l e R s m args below meth c H locs cells slots Q (F0 m (pc + 1) ls (.int (nI (f k)) :: rest))) : W p l e R s m args below meth c H locs cells slots Q (F0 m pc ls (.int (nI k) :: .ref a :: rest)) :=
  va_iald hexec hb hK hP q0 t0 ha ht (vp_in_nI hin hn) hdg (by rw [nI_clamp (by omega)]; exact kk)
theorem zz_iast (hexec : p.tables.exec = Jvm.exec) (hb : c.code = cc) (hK : va_K D cl tys s) (hP : va_P D cl ws H) (hD : va_D A ws) (hS : va_S A H0 H locs) (q0 t0 : Nat) {cA : ClassId} {n k x : Nat} {f : Nat → Nat} (ha : ws[q0]? = some (a, .inl (cA, n, .inl (fun j => nI (f j))))) (ht : tys[t0]? = some (cA, .int)) (hin : k < n) (hn : n < 2 ^ 31) (hdg : decode cc pc = .ok (.iastore, 1))
    (kk : ∀ (H1 : Heap) (locs1 : List Loc), va_P D cl (ws.set q0 (a, .inl (cA, n, .inl (fun j => nI (zup f k x j))))) H1 → va_D A (ws.set q0 (a, .inl (cA, n, .inl (fun j => nI (zup f k x j))))) → va_S A H0 H1 locs1 → W p l e R s m args below meth c H1 locs1 cells slots Q (F0 m (pc + 1) ls rest)) : W p l e R s m args below meth c H locs cells slots Q (F0 m pc ls (.int (nI x) :: .int (nI k) :: .ref a :: rest)) :=
  va_iast hexec hb hK hP hD hS q0 t0 ha ht (vp_in_nI hin hn) hdg (fun H1 locs1 h1 h2 h3 => by
    rw [nI_clamp (by omega), zupd] at h1 h2
    exact kk H1 locs1 h1 h2 h3)
theorem zz_cald (hexec : p.tables.exec = Jvm.exec) (hb : c.code = cc) (hK : va_K D cl tys s) (hP : va_P D cl ws H) (q0 t0 : Nat) {cA : ClassId} {n k : Nat} {f : Nat → Nat} (ha : ws[q0]? = some (a, .inl (cA, n, .inl (fun j => nI (f j))))) (ht : tys[t0]? = some (cA, .char)) (hin : k < n) (hn : n < 2 ^ 31) (hdg : decode cc pc = .ok (.caload, 1))
    (kk : W p l e R s m args below meth c H locs cells slots Q (F0 m (pc + 1) ls (.int (nI (f k)) :: rest))) : W p l e R s m args below meth c H locs cells slots Q (F0 m pc ls (.int (nI k) :: .ref a :: rest)) :=
  va_cald hexec hb hK hP q0 t0 ha ht (vp_in_nI hin hn) hdg (by rw [nI_clamp (by omega)]; exact kk)
theorem znarC {x : Nat} (h : x < 65536) : vp_nar .char (nI x) = nI x := by
  unfold vp_nar
  rw [(pk_charN h).1]
theorem zz_cast (hexec : p.tables.exec = Jvm.exec) (hb : c.code = cc) (hK : va_K D cl tys s) (hP : va_P D cl ws H) (hD : va_D A ws) (hS : va_S A H0 H locs) (q0 t0 : Nat) {cA : ClassId} {n k x : Nat} {f : Nat → Nat} (ha : ws[q0]? = some (a, .inl (cA, n, .inl (fun j => nI (f j))))) (ht : tys[t0]? = some (cA, .char)) (hin : k < n) (hn : n < 2 ^ 31) (hx : x < 65536) (hdg : decode cc pc = .ok (.castore, 1))
    (kk : ∀ (H1 : Heap) (locs1 : List Loc), va_P D cl (ws.set q0 (a, .inl (cA, n, .inl (fun j => nI (zup f k x j))))) H1 → va_D A (ws.set q0 (a, .inl (cA, n, .inl (fun j => nI (zup f k x j))))) → va_S A H0 H1 locs1 → W p l e R s m args below meth c H1 locs1 cells slots Q (F0 m (pc + 1) ls rest)) : W p l e R s m args below meth c H locs cells slots Q (F0 m pc ls (.int (nI x) :: .int (nI k) :: .ref a :: rest)) :=
  va_cast hexec hb hK hP hD hS q0 t0 ha ht (vp_in_nI hin hn) hdg (fun H1 locs1 h1 h2 h3 => by
    rw [nI_clamp (by omega), znarC hx, zupd] at h1 h2
    exact kk H1 locs1 h1 h2 h3)
theorem zchar {x : Nat} (h : x < 65536) : ((nI x).toUInt32 % 65536).toInt32 = nI x := by
  rw [pk_char, pk_tn (by omega), Nat.mod_eq_of_lt h]
end ZA
/-! contracts of one shape -/
/-- what stays of an environment: less is written, the tables are warmed, another state with the same tables, a heap that has changed elsewhere -/
def zEok (E : (Nat → Prop) → State → Heap → Prop) : Prop :=
  (∀ (A B : Nat → Prop) (U : State) (H : Heap), (∀ q, B q → A q) → E A U H → E B U H) ∧ (∀ (A : Nat → Prop) (s U : State) (H : Heap), s.WarmedH U.vm → E A s H → E A U H) ∧ (∀ (A : Nat → Prop) (u U : State) (H : Heap), U.vm = u.vm → E A u H → E A U H) ∧ ∀ (A : Nat → Prop) (U : State) (H H1 : Heap), (∀ a : Nat, a < H.size → ¬ A a → H1[a]? = H[a]?) → E A U H → E A U H1
def zE0 : (Nat → Prop) → State → Heap → Prop := fun _ _ _ => True
theorem zE0_ok : zEok zE0 := ⟨fun _ _ _ _ _ _ => trivial, fun _ _ _ _ _ _ => trivial, fun _ _ _ _ _ _ => trivial, fun _ _ _ _ _ _ => trivial⟩
def zPre (E : (Nat → Prop) → State → Heap → Prop) (D : va_G) (cl : List vw_C) (tys : List (ClassId × FieldType)) (av : List Value) (wc : va_W) (sz : Nat) : Array Value → State → Prop :=
  va_Pc av (fun U => U.heap.size = sz ∧ va_P D cl wc U.heap ∧ va_K D cl tys U ∧ va_D (fun _ => True) wc ∧ E (va_A wc sz) U U.heap)
theorem zBlind {E : (Nat → Prop) → State → Heap → Prop} (hE : zEok E) {D : va_G} {cl : List vw_C} {tys : List (ClassId × FieldType)} {av : List Value} {wc : va_W} {sz : Nat} : FrameBlind (zPre E D cl tys av wc sz) := by
  intro a U g mk q
  obtain ⟨q0, q1, qP, qK, qD, qE⟩ := q
  exact ⟨q0, q1, qP, va_K.moved (u := U) (U := U.calling g mk a) (Vm.Alike.refl U.vm) qK, qD, hE.2.2.1 _ U _ _ rfl qE⟩
theorem zpick {ws wc : va_W} {is : List Nat} (hC : is.map (fun i => ws[i]?) = wc.map some) : is.filterMap (fun i => ws[i]?) = wc := by
  have h := congrArg (List.filterMap id) hC
  rw [List.filterMap_map, List.filterMap_map] at h
  simpa using h
theorem zAt {E : (Nat → Prop) → State → Heap → Prop} (hE : zEok E) {D : va_G} {cl : List vw_C} {tys : List (ClassId × FieldType)} {s : State} {H : Heap} {locs : List Loc} {A : Nat → Prop} {ws wc : va_W} {av : List Value} (hP : va_P D cl ws H) (hD : va_D A ws) (hK : va_K D cl tys s) (hS : va_S A s.heap H locs) (hA : ∀ q, s.heap.size ≤ q → A q) (hEs : E A s s.heap) (is : List Nat) (hC : is.map (fun i => ws[i]?) = wc.map some) (hn : va_nd is = true) :
    ∀ U : State, U.heap = H → s.WarmedH U.vm → zPre E D cl tys av wc H.size av.toArray U := by
  intro U hU hW
  refine ⟨rfl, by rw [hU], by rw [hU]; exact hP.sub is (zpick hC), va_K.moved hW.alike hK, (hD.sub is hn hC).weaken (fun _ _ _ _ => trivial), ?_⟩
  rw [hU]
  exact hE.2.1 _ s U _ hW (hE.1 A _ s H (va_free hD hS hA is hC) (hE.2.2.2 A s s.heap H hS.2.1 hEs))
/-- a world with some of its cells put anew -/
def zSetA : List Nat → va_W → va_W → va_W
  | [], _, ws => ws
  | i :: is, w1, ws => match w1 with
    | [] => ws
    | c :: cs => zSetA is cs (ws.set i c)
abbrev zSet (ws : va_W) (is : List Nat) (w1 : va_W) : va_W := zSetA is w1 ws
theorem zSet_get : ∀ (is : List Nat) (w1 ws : va_W) (k : Nat) (q : Nat × va_E), is.length = w1.length → (zSet ws is w1)[k]? = some q → (∃ j : Nat, is[j]? = some k ∧ w1[j]? = some q) ∨ (k ∉ is ∧ ws[k]? = some q)
  | [], _, ws, k, q, _, h => Or.inr ⟨by simp, h⟩
  | i :: is, [], ws, k, q, hl, h => by simp at hl
  | i :: is, c :: cs, ws, k, q, hl, h => by
    have h : (zSet (ws.set i c) is cs)[k]? = some q := h
    rcases zSet_get is cs (ws.set i c) k q (by simpa using hl) h with ⟨j, h1, h2⟩ | ⟨h1, h2⟩
    · exact Or.inl ⟨j + 1, by simpa using h1, by simpa using h2⟩
    · by_cases e : k = i
      · subst e
        have hlt : k < ws.length := by
          have h3 := (List.getElem?_eq_some_iff.mp h2).1
          simpa using h3
        rw [List.getElem?_set_self hlt] at h2
        exact Or.inl ⟨0, by simp, by simpa using h2⟩
      · rw [List.getElem?_set_ne (Ne.symm e)] at h2
        exact Or.inr ⟨by simp [e, h1], h2⟩
theorem zJoin {A : Nat → Prop} {D : va_G} {cl : List vw_C} {ws wc w1 : va_W} {H H1 : Heap} {is : List Nat} (hP : va_P D cl ws H) (hD : va_D A ws) (hC : is.map (fun i => ws[i]?) = wc.map some) (hwf : w1.map Prod.fst = wc.map Prod.fst)
    (hk : ∀ q : Nat, q < H.size → ¬ va_A wc H.size q → H1[q]? = H[q]?) (hP1 : va_P D cl w1 H1) : va_P D cl (zSet ws is w1) H1 ∧ va_D A (zSet ws is w1) := by
  have hl1 : is.length = wc.length := by have := congrArg List.length hC; simpa using this
  have hl2 : w1.length = wc.length := by have := congrArg List.length hwf; simpa using this
  have hget := fun (k : Nat) (q : Nat × va_E) => zSet_get is w1 ws k q (by omega)
  have hC' : ∀ (j : Nat) (q : Nat × va_E), wc[j]? = some q → ∃ i : Nat, is[j]? = some i ∧ ws[i]? = some q := by
    intro j q hq
    have h1 : (is.map (fun i => ws[i]?))[j]? = some (some q) := by rw [hC, List.getElem?_map, hq]; rfl
    rw [List.getElem?_map] at h1
    cases hi : is[j]? with
    | none => rw [hi] at h1; cases h1
    | some i => rw [hi] at h1; exact ⟨i, rfl, Option.some.inj h1⟩
  have key : ∀ (k : Nat) (q : Nat × va_E), (zSet ws is w1)[k]? = some q → ∃ q0, ws[k]? = some q0 ∧ q0.1 = q.1 := by
    intro k q h
    rcases hget k q h with ⟨j, h1, h2⟩ | ⟨h1, h2⟩
    · have h3 : (w1.map Prod.fst)[j]? = some q.1 := by rw [List.getElem?_map, h2]; rfl
      rw [hwf, List.getElem?_map] at h3
      cases hw : wc[j]? with
      | none => rw [hw] at h3; cases h3
      | some q0 =>
        rw [hw] at h3
        obtain ⟨i, g1, g2⟩ := hC' j q0 hw
        rw [h1] at g1
        cases g1
        exact ⟨q0, g2, Option.some.inj h3⟩
    · exact ⟨q, h2, rfl⟩
  refine ⟨fun k q h => ?_, fun i j x y hi hj hxy => ?_, fun k q h => ?_⟩
  · rcases hget k q h with ⟨j, h1, h2⟩ | ⟨h1, h2⟩
    · exact hP1 j q h2
    · refine (hP k q h2).kept (hk q.1 ((hP k q h2).lt) (fun z => ?_))
      rcases z with ⟨j, e, z⟩ | z
      · obtain ⟨i, g1, g2⟩ := hC' j (q.1, e) z
        have := hD.1 k i q (q.1, e) h2 g2 rfl
        subst this
        exact h1 (List.mem_of_getElem? g1)
      · have := (hP k q h2).lt
        omega
  · obtain ⟨x0, h1, h2⟩ := key i x hi
    obtain ⟨y0, h3, h4⟩ := key j y hj
    exact hD.1 i j x0 y0 h1 h3 (h2.trans (hxy.trans h4.symm))
  · obtain ⟨q0, h1, h2⟩ := key k q h
    rw [← h2]
    exact hD.2 k q0 h1
section ZC
variable {p : Program} {l : Launch} {e : Env} {R : Room} {s : State} {m : MethodId} {args : Array Value} {below : List Frame} {meth : Method} {c : Code} {H : Heap} {locs : List Loc} {cells slots : Nat} {Q : State → Prop}
variable {pc : Nat} {ls : Array Slot} {rest st0 : List Value} {a : Array Value} {A : Nat → Prop} {D : va_G} {cl : List vw_C} {ws wc : va_W} {is : List Nat}
theorem zCi {S : Type} {post : Int32 → S → Prop} {wf : S → va_W} (hr : va_Run p l e R s m args below meth c H locs cells slots 0 0 (F0 m pc ls st0) rest (va_Qi post (fun u t => va_P D cl (wf u) t.heap) (va_A wc H.size) a) (va_A wc H.size)) (hP : va_P D cl ws H) (hD : va_D A ws) (hS : va_S A s.heap H locs) (hA : ∀ q, s.heap.size ≤ q → A q) (hC : is.map (fun i => ws[i]?) = wc.map some) (hwf : ∀ u, (wf u).map Prod.fst = wc.map Prod.fst)
    (kk : ∀ (r : Int32) (u : S) (H1 : Heap) (locs1 : List Loc), post r u → va_P D cl (zSet ws is (wf u)) H1 → va_D A (zSet ws is (wf u)) → va_S A s.heap H1 locs1 → W p l e R s m args below meth c H1 locs1 cells slots Q (F0 m (pc + 3) ls (.int r :: rest))) : W p l e R s m args below meth c H locs cells slots Q (F0 m pc ls st0) := by
  have hF := va_free hD hS hA is hC
  refine va_calli hr hS (fun q _ h => hF q h) hF (fun r u t H1 locs1 ht _ hw hB _ hk hS1 => ?_)
  rw [ht] at hB
  obtain ⟨h1, h2⟩ := zJoin hP hD hC (hwf u) hk hB
  exact kk r u H1 locs1 hw h1 h2 hS1
theorem zCv {S : Type} {post : S → Prop} {wf : S → va_W} (hr : va_Run p l e R s m args below meth c H locs cells slots 0 0 (F0 m pc ls st0) rest (va_Qv post (fun u t => va_P D cl (wf u) t.heap) (va_A wc H.size) a) (va_A wc H.size)) (hP : va_P D cl ws H) (hD : va_D A ws) (hS : va_S A s.heap H locs) (hA : ∀ q, s.heap.size ≤ q → A q) (hC : is.map (fun i => ws[i]?) = wc.map some) (hwf : ∀ u, (wf u).map Prod.fst = wc.map Prod.fst)
    (kk : ∀ (u : S) (H1 : Heap) (locs1 : List Loc), post u → va_P D cl (zSet ws is (wf u)) H1 → va_D A (zSet ws is (wf u)) → va_S A s.heap H1 locs1 → W p l e R s m args below meth c H1 locs1 cells slots Q (F0 m (pc + 3) ls rest)) : W p l e R s m args below meth c H locs cells slots Q (F0 m pc ls st0) := by
  have hF := va_free hD hS hA is hC
  refine va_callv hr hS (fun q _ h => hF q h) hF (fun u t H1 locs1 ht _ hw hB _ hk hS1 => ?_)
  rw [ht] at hB
  obtain ⟨h1, h2⟩ := zJoin hP hD hC (hwf u) hk hB
  exact kk u H1 locs1 hw h1 h2 hS1
/-- a method's own facts -/
def zK (p : Program) (s : State) (m : MethodId) (args : Array Value) (meth : Method) (c : Code) (cc : ByteArray) (nL : Nat) (rt : Option FieldType) (y : MethodName) (Ts : List Cond) : Prop :=
  p.tables.exec = Jvm.exec ∧ c.code = cc ∧ meth.sig.returnType = rt ∧ c.maxLocals = nL ∧ s.vm.findClass y.cls = some m.cls ∧ (∀ w ∈ Ts, w.before args s = true) ∧ meth.locks = false ∧ meth.name = y.name
theorem zMet {y : MethodName} {ws ws' : List Cond} {rm : Room} {cc : ByteArray} {maxL : Nat} {ret : Option FieldType} {av : List Value} {wc : va_W} {E : (Nat → Prop) → State → Heap → Prop} {tys : List (ClassId × FieldType)} {sz mc ms : Nat} {Qc : (Nat → Prop) → Array Value → State → Outcome → State → Prop}
    (hy : plainName y.cls = true) (hw : ws = Cond.code y cc maxL ret :: ws') (hlen : (lg_sl av).length ≤ maxL)
    (body : ∀ (p : Program) (e : Env) (s : State) (m : MethodId) (below : List Frame) (meth : Method) (c : Code) (A : Nat → Prop), zK p s m av.toArray meth c cc maxL ret y ws → (∀ q, s.heap.size ≤ q → A q) → va_K D cl tys s → E A s s.heap → ∀ (H : Heap) (locs : List Loc), va_P D cl wc H → va_D A wc → va_S A s.heap H locs → ∀ ls : Array Slot, lv_has ls maxL (lv_args 0 av) → W p l e rm s m av.toArray below meth c H locs 0 0 (MQ below (Qc A) av.toArray s mc ms A) (F0 m 0 ls [])) :
    Met l y ws rm (zPre E D cl tys av wc sz) (Qc (va_A wc sz)) mc ms (va_A wc sz) := by
  refine Met.ofW (cc := cc) (maxL := maxL) (ret := ret) hy hw ?_
  intro p e s m args below meth c s₁ B hml hv
  obtain ⟨rfl, hsz, hP, hK, hD0, hE⟩ := hv
  subst hsz
  have hl := lv_entry av (n := maxL) hlen
  rw [lg_entry_eq]
  exact body p e s m below meth c (va_A wc s.heap.size) ⟨B.exec, B.bytes, B.returns, hml, findClass_of_methodNamed B.named, atoms_spec (ws := ws) B.pre, B.notSynchronized, (name_of_methodNamed B.named B.method).1⟩ (fun q h => Or.inr h) hK hE s.heap [] hP (hD0.self) va_S.rf _ hl
theorem zIret {cc : ByteArray} {nL : Nat} {rt : FieldType} {y : MethodName} {Ts : List Cond} {S : Type} {post : Int32 → S → Prop} {wf : S → va_W} {v : Int32} (C : zK p s m args meth c cc nL (some rt) y Ts) (hS : va_S A s.heap H locs) (u : S) (hq : post v u) (hP : va_P D cl (wf u) H) (hn : narrow rt (.int v) = .int v) (hdg : decode cc pc = .ok (.ireturn, 1)) :
    W p l e R s m args below meth c H locs cells slots (MQ below (va_Qi post (fun u t => va_P D cl (wf u) t.heap) A) args s cells slots A) (F0 m pc ls [.int v]) :=
  W.zret (v := v) C.1 C.2.1 C.2.2.1 hn (fun t ht _ => ⟨⟨v, u, rfl, hq, by show va_P D cl (wf u) t.heap; rw [ht]; exact hP⟩, hS.F ht⟩) hS.2.2 hdg C.2.2.2.2.2.2.1
theorem zVret {cc : ByteArray} {nL : Nat} {y : MethodName} {Ts : List Cond} {S : Type} {post : S → Prop} {wf : S → va_W} (C : zK p s m args meth c cc nL none y Ts) (hS : va_S A s.heap H locs) (u : S) (hq : post u) (hP : va_P D cl (wf u) H) (hdg : decode cc pc = .ok (.return_, 1)) :
    W p l e R s m args below meth c H locs cells slots (MQ below (va_Qv post (fun u t => va_P D cl (wf u) t.heap) A) args s cells slots A) (F0 m pc ls []) :=
  W.vret C.1 C.2.1 C.2.2.1 (fun t ht _ => ⟨⟨u, rfl, hq, by show va_P D cl (wf u) t.heap; rw [ht]; exact hP⟩, hS.F ht⟩) hS.2.2 hdg C.2.2.2.2.2.2.1
end ZC
theorem znb {P : Prop} [Decidable P] : narrow .boolean (.int (zb P)) = .int (zb P) := by
  by_cases h : P
  · rw [zb_t h]; decide
  · rw [zb_f h]; decide
end
section
/-! PURE, second part: mismatches, hits, the primary, digits, the text -/
theorem zadd {a b c : Nat} (h : a + b = c) : nI a + nI b = nI c := by rw [nI_add, h]
theorem zincE {a c : Nat} (h : a + 1 = c) : nI a + Int32.ofInt 1 = nI c := by rw [← h]; exact nI_1 a
theorem zincE3 {a c : Nat} (h : a + 3 = c) : nI a + Int32.ofInt 3 = nI c := by rw [← h]; exact nI_add a 3
/-- mismatches of the first k bases of r at p -/
def zmm (g r : Nat → Nat) (p k : Nat) : Nat := zcnt (fun i => decide (¬ g (p + i) = r i)) k
theorem zmm_t {g r : Nat → Nat} {p k : Nat} (h : ¬ g (p + k) = r k) : zmm g r p (k + 1) = zmm g r p k + 1 := zcnt_t (by simpa using h)
theorem zmm_f {g r : Nat → Nat} {p k : Nat} (h : g (p + k) = r k) : zmm g r p (k + 1) = zmm g r p k := zcnt_f (by simpa using h)
theorem zmm_0 (g r : Nat → Nat) (p : Nat) : zmm g r p 0 = 0 := rfl
theorem zmm_le (g r : Nat → Nat) (p k : Nat) : zmm g r p k ≤ k := zcnt_le _ k
theorem zmm_mono (g r : Nat → Nat) (p : Nat) {a b : Nat} (h : a ≤ b) : zmm g r p a ≤ zmm g r p b := zcnt_mono _ h
theorem zmm_congr {g r r' : Nat → Nat} {p k : Nat} (h : ∀ i, i < k → r i = r' i) : zmm g r p k = zmm g r' p k := zcnt_congr k (fun i hi => by rw [h i hi])
/-- the first row, among the places under k, at which the read stands -/
def zfst (n : Nat) (g : Nat → Nat) (P : Nat → Prop) (k : Nat) (r : Int32) : Prop := (r = -1 ∧ ∀ p, p < k → ¬ P p) ∨ ∃ p, p < k ∧ P p ∧ r = nI (zbef n g p) ∧ ∀ q, q < k → P q → zbef n g p ≤ zbef n g q
theorem zfst_one {n k : Nat} {g : Nat → Nat} {P : Nat → Prop} {r r' : Int32} (h : zfst n g P k r) (h' : zfst n g P k r') : r = r' := by
  rcases h with ⟨h1, h2⟩ | ⟨p, h1, h2, h3, h4⟩
  · rcases h' with ⟨g1, g2⟩ | ⟨q, g1, g2, g3, g4⟩
    · rw [h1, g1]
    · exact absurd g2 (h2 q g1)
  · rcases h' with ⟨g1, g2⟩ | ⟨q, g1, g2, g3, g4⟩
    · exact absurd h2 (g2 p h1)
    · have a := h4 q g1 g2
      have b := g4 p h1 h2
      rw [h3, g3, Nat.le_antisymm a b]
theorem zfst_congr {n k : Nat} {g : Nat → Nat} {P P' : Nat → Prop} {r : Int32} (h : zfst n g P k r) (e : ∀ p, P p ↔ P' p) : zfst n g P' k r := by
  rcases h with ⟨h1, h2⟩ | ⟨p, h1, h2, h3, h4⟩
  · exact Or.inl ⟨h1, fun p hp q => h2 p hp ((e p).mpr q)⟩
  · exact Or.inr ⟨p, h1, (e p).mp h2, h3, fun q hq z => h4 q hq ((e q).mpr z)⟩
theorem zfst_skip {n k : Nat} {g : Nat → Nat} {P : Nat → Prop} {x : Int32} (h : zfst n g P k x) (hp : ¬ P k) : zfst n g P (k + 1) x := by
  rcases h with ⟨h1, h2⟩ | ⟨p, h1, h2, h3, h4⟩
  · refine Or.inl ⟨h1, fun p hq => ?_⟩
    by_cases e : p = k
    · rw [e]; exact hp
    · exact h2 p (by omega)
  · refine Or.inr ⟨p, by omega, h2, h3, fun q hq hP => ?_⟩
    by_cases e : q = k
    · rw [e] at hP; exact absurd hP hp
    · exact h4 q (by omega) hP
theorem zfst_new {n k : Nat} {g : Nat → Nat} {P : Nat → Prop} {x : Int32} (hn : n ≤ 96) (hk : k < n) (h : zfst n g P k x) (hp : P k) (hc : x < 0 ∨ ¬ x ≤ nI (zbef n g k)) : zfst n g P (k + 1) (nI (zbef n g k)) := by
  refine Or.inr ⟨k, by omega, hp, rfl, fun q hq hP => ?_⟩
  by_cases e : q = k
  · rw [e]; exact Nat.le_refl _
  · rcases h with ⟨h1, h2⟩ | ⟨p, h1, h2, h3, h4⟩
    · exact absurd hP (h2 q (by omega))
    · have b1 := zbef_le (g := g) (show p ≤ n by omega)
      have b2 := zbef_le (g := g) (show k ≤ n by omega)
      have b3 := h4 q (by omega) hP
      rcases hc with hc | hc
      · rw [h3] at hc
        exact absurd hc (nI_pos (by omega))
      · rw [h3, nI_leI (by omega) (by omega)] at hc
        omega
theorem zfst_old {n k : Nat} {g : Nat → Nat} {P : Nat → Prop} {x : Int32} (hn : n ≤ 96) (hk : k < n) (h : zfst n g P k x) (c1 : ¬ x < 0) (c2 : x ≤ nI (zbef n g k)) : zfst n g P (k + 1) x := by
  rcases h with ⟨h1, h2⟩ | ⟨p, h1, h2, h3, h4⟩
  · rw [h1] at c1
    exact absurd (by decide) c1
  · have b1 := zbef_le (g := g) (show p ≤ n by omega)
    have b2 := zbef_le (g := g) (show k ≤ n by omega)
    rw [h3, nI_leI (by omega) (by omega)] at c2
    refine Or.inr ⟨p, by omega, h2, h3, fun q hq hP => ?_⟩
    by_cases e : q = k
    · rw [e]; exact c2
    · exact h4 q (by omega) hP
theorem zrng {i : Int32} {n : Nat} (h : 0 ≤ i ∧ i < nI (n + 1)) (hn : n ≤ 96) : ∃ k, k ≤ n ∧ i = nI k := by
  rcases pk_ix i (n := n + 1) (by omega) with q | q | ⟨j, hj, rfl⟩
  · exact absurd q (Int32.not_lt.mpr h.1)
  · exact absurd h.2 (Int32.not_lt.mpr q)
  · exact ⟨j, by omega, rfl⟩
theorem zsb_le {g : Nat → Nat} (hg : ∀ i, g i ≤ 4) (p : Nat) : zsb g p ≤ 5 := by
  have := hg (p - 1)
  unfold zsb
  split <;> omega
theorem zrank_s {n : Nat} {g : Nat → Nat} (F : Nat → Bool) (hg : ∀ i, g i ≤ 4) (hn : n ≤ 96) {k p0 : Nat} (h1 : p0 ≤ n) (h2 : zbef n g p0 = k) : zcnt (fun p => F p && decide (zbef n g p < k + 1)) (n + 1) = zcnt (fun p => F p && decide (zbef n g p < k)) (n + 1) + (if F p0 = true then 1 else 0) := by
  have hs : zcnt (fun p => F p && decide (zbef n g p < k + 1)) (n + 1) = zcnt (fun p => F p && decide (zbef n g p < k)) (n + 1) + zcnt (fun p => F p && decide (p = p0)) (n + 1) := by
    refine zcnt_add (n + 1) (fun p hp => ?_)
    have e : (zbef n g p = k) ↔ p = p0 := by
      constructor
      · intro q
        exact zbef_inj hg hn (by omega) h1 (by rw [q, h2])
      · intro q
        rw [q, h2]
    simp only [Bool.and_eq_true, decide_eq_true_eq]
    by_cases f : F p = true
    · by_cases c : zbef n g p < k
      · rw [if_pos ⟨f, by omega⟩, if_pos ⟨f, c⟩, if_neg (fun q => by have := e.mpr q.2; omega)]
      · by_cases d : p = p0
        · rw [if_pos ⟨f, by have := e.mpr d; omega⟩, if_neg (fun q => c q.2), if_pos ⟨f, d⟩]
        · rw [if_neg (fun q => d (e.mp (by have := q.2; omega))), if_neg (fun q => c q.2), if_neg (fun q => d q.2)]
    · rw [if_neg (fun q => f q.1), if_neg (fun q => f q.1), if_neg (fun q => f q.1)]
  rw [hs]
  by_cases f : F p0 = true
  · rw [if_pos f, zcnt_one (P := fun p => F p && decide (p = p0)) (j := p0) (n + 1) (by omega) (fun p hp => by
      simp only [Bool.and_eq_true, decide_eq_true_eq]
      constructor
      · intro q; exact q.2
      · intro q; rw [q]; exact ⟨f, rfl⟩)]
  · rw [if_neg f, zcnt_none (P := fun p => F p && decide (p = p0)) (n + 1) (fun p hp => by
      simp only [Bool.and_eq_true, decide_eq_true_eq]
      intro q
      rw [q.2] at q
      exact f q.1)]
/-- what hit answers -/
def zhit (pl sl ml : Nat → Nat) (ch : Int32) (i t : Nat) : Int32 := if t = 0 then nI (pl i) else if t = 1 then nI (sl i) else if t = 2 then nI (ml i) else if nI i = ch then nI 1 else nI 0
/-- the base of a strand -/
def zsy (w : Nat) (r : Nat → Nat) (s k : Nat) : Nat := if s = 0 then r k else 3 - r (w - 1 - k)
theorem zsy_congr {w : Nat} {r r' : Nat → Nat} {s k : Nat} (hk : k < w) (h : ∀ i, i < w → r i = r' i) : zsy w r s k = zsy w r' s k := by
  unfold zsy
  rw [h k hk, h (w - 1 - k) (by omega)]
theorem zsy_le {w : Nat} {r : Nat → Nat} {t k : Nat} (hr3 : ∀ i, i < w → r i ≤ 3) (hk : k < w) : zsy w r t k ≤ 3 := by
  have h1 := hr3 k hk
  have h2 := hr3 (w - 1 - k) (by omega)
  unfold zsy
  split <;> omega
/-- the hits: place, strand, mismatches -/
def zh1 (g r : Nat → Nat) (w b p s : Nat) : List (Nat × Nat × Nat) := if zmm g (zsy w r s) p w ≤ b then [(p, s, zmm g (zsy w r s) p w)] else []
def zhits (g r : Nat → Nat) (w b : Nat) : Nat → List (Nat × Nat × Nat)
  | 0 => []
  | p + 1 => zhits g r w b p ++ zh1 g r w b p 0 ++ zh1 g r w b p 1
theorem zh1_len (g r : Nat → Nat) (w b p s : Nat) : (zh1 g r w b p s).length ≤ 1 := by
  unfold zh1
  split <;> simp
theorem zhits_len (g r : Nat → Nat) (w b : Nat) : ∀ p, (zhits g r w b p).length ≤ 2 * p
  | 0 => Nat.le_refl _
  | p + 1 => by
    have h := zhits_len g r w b p
    have h0 := zh1_len g r w b p 0
    have h1 := zh1_len g r w b p 1
    simp only [zhits, List.length_append]
    omega
theorem zh1_congr {g r r' : Nat → Nat} {w b p s : Nat} (h : ∀ i, i < w → r i = r' i) : zh1 g r w b p s = zh1 g r' w b p s := by
  have e : zmm g (zsy w r s) p w = zmm g (zsy w r' s) p w := zmm_congr (fun i hi => zsy_congr hi h)
  unfold zh1
  rw [e]
theorem zhits_congr {g r r' : Nat → Nat} {w b : Nat} (h : ∀ i, i < w → r i = r' i) : ∀ p, zhits g r w b p = zhits g r' w b p
  | 0 => rfl
  | p + 1 => by simp only [zhits]; rw [zhits_congr h p, zh1_congr h, zh1_congr h]
/-- how many places have room -/
def zrm (n w : Nat) : Nat := if w ≤ n then n + 1 - w else 0
/-- the primary of k hits with mismatches m: the first of the least -/
def zpri (m : Nat → Nat) : Nat → Nat
  | 0 => 0
  | k + 1 => if k = 0 ∨ m k < m (zpri m k) then k else zpri m k
/-- how many others are as good -/
def zag (m : Nat → Nat) : Nat → Nat
  | 0 => 0
  | k + 1 => if k = 0 ∨ m k < m (zpri m k) then 0 else if m k = m (zpri m k) then zag m k + 1 else zag m k
theorem zpri_lt (m : Nat → Nat) : ∀ k, 0 < k → zpri m k < k
  | 0, h => absurd h (Nat.lt_irrefl 0)
  | k + 1, _ => by
    unfold zpri
    by_cases c : k = 0 ∨ m k < m (zpri m k)
    · rw [if_pos c]; omega
    · rw [if_neg c]
      have := zpri_lt m k (by omega)
      omega
theorem zpri_min (m : Nat → Nat) : ∀ k j, j < k → m (zpri m k) ≤ m j
  | 0, _, h => absurd h (Nat.not_lt_zero _)
  | k + 1, j, h => by
    unfold zpri
    by_cases c : k = 0 ∨ m k < m (zpri m k)
    · rw [if_pos c]
      by_cases e : j = k
      · rw [e]; exact Nat.le_refl _
      · have := zpri_min m k j (by omega)
        omega
    · rw [if_neg c]
      by_cases e : j = k
      · rw [e]; omega
      · exact zpri_min m k j (by omega)
theorem zpri_congr {m m' : Nat → Nat} : ∀ k, (∀ j, j < k → m j = m' j) → zpri m k = zpri m' k
  | 0, _ => rfl
  | k + 1, h => by
    have e := zpri_congr k (fun j hj => h j (by omega))
    unfold zpri
    by_cases z : k = 0
    · rw [if_pos (Or.inl z), if_pos (Or.inl z)]
    · have h1 := zpri_lt m' k (by omega)
      rw [e, h k (by omega), h (zpri m' k) (by omega)]
theorem zag_congr {m m' : Nat → Nat} : ∀ k, (∀ j, j < k → m j = m' j) → zag m k = zag m' k
  | 0, _ => rfl
  | k + 1, h => by
    have e := zpri_congr k (fun j hj => h j (by omega))
    have e2 := zag_congr k (fun j hj => h j (by omega))
    unfold zag
    by_cases z : k = 0
    · rw [if_pos (Or.inl z), if_pos (Or.inl z)]
    · have h1 := zpri_lt m' k (by omega)
      rw [e, e2, h k (by omega), h (zpri m' k) (by omega)]
theorem zag_cnt (m : Nat → Nat) : ∀ k, 0 < k → zcnt (fun j => decide (m j = m (zpri m k))) k = zag m k + 1
  | 0, h => absurd h (Nat.lt_irrefl 0)
  | k + 1, _ => by
    by_cases c : k = 0 ∨ m k < m (zpri m k)
    · have e1 : zpri m (k + 1) = k := by rw [zpri, if_pos c]
      have e2 : zag m (k + 1) = 0 := by rw [zag, if_pos c]
      rw [e1, e2, zcnt_t (by simp), zcnt_none k (fun i hi => by
        have := zpri_min m k i hi
        simp only [decide_eq_true_eq]
        omega)]
    · have e1 : zpri m (k + 1) = zpri m k := by rw [zpri, if_neg c]
      have e2 : zag m (k + 1) = if m k = m (zpri m k) then zag m k + 1 else zag m k := by rw [zag, if_neg c]
      have h1 := zag_cnt m k (by omega)
      rw [e1, e2]
      by_cases d : m k = m (zpri m k)
      · rw [zcnt_t (by simpa using d), h1, if_pos d]
      · rw [zcnt_f (by simpa using d), h1, if_neg d]
/-- the quality of hit i of k -/
def zqu (m : Nat → Nat) (k i : Nat) : Nat := if i = zpri m k then (if k = 1 then 60 else if zag m k = 0 then 40 else if zag m k = 1 then 3 else 0) else 0
/-- the digits of n from the j-th power down; b: one has been written -/
def zdg (n : Nat) : Nat → Bool → List Nat
  | 0, _ => []
  | j + 1, b => if b = true ∨ 0 < n / 10 ^ j % 10 ∨ j = 0 then (48 + n / 10 ^ j % 10) :: zdg n j true else zdg n j false
def znum (n : Nat) : List Nat := zdg n 10 false
theorem zdg_skip {n t : Nat} (h : n / 10 ^ t < 10) (ht : t = 0 ∨ 10 ≤ n / 10 ^ (t - 1)) : ∀ k, zdg n (t + 1 + k) false = zdg n (t + 1) true
  | 0 => by
    show zdg n (t + 1) false = zdg n (t + 1) true
    unfold zdg
    rw [if_pos, if_pos (Or.inl rfl)]
    rcases ht with ht | ht
    · exact Or.inr (Or.inr ht)
    · refine Or.inr (Or.inl ?_)
      have h1 : 0 < n / 10 ^ t := by
        cases t with
        | zero => omega
        | succ t =>
          have h2 : 10 ≤ n / 10 ^ t := by simpa using ht
          rw [Nat.pow_succ, ← Nat.div_div_eq_div_mul]
          omega
      rw [Nat.mod_eq_of_lt h]
      exact h1
  | k + 1 => by
    show zdg n (t + 1 + k + 1) false = _
    have h0 : n / 10 ^ (t + 1 + k) = 0 := by
      have e : 10 ^ (t + 1 + k) = 10 ^ t * (10 * 10 ^ k) := by rw [Nat.pow_add, Nat.pow_add, Nat.pow_one, Nat.mul_assoc]
      rw [e, ← Nat.div_div_eq_div_mul]
      refine Nat.div_eq_of_lt ?_
      have : 0 < 10 ^ k := Nat.pow_pos (by decide)
      omega
    have e : zdg n (t + 1 + k + 1) false = zdg n (t + 1 + k) false := by
      rw [zdg]
      rw [if_neg (by rw [h0]; simp)]
    rw [e]
    exact zdg_skip h ht k
theorem znum_unit {n t : Nat} (ht9 : t ≤ 9) (h : n / 10 ^ t < 10) (ht : t = 0 ∨ 10 ≤ n / 10 ^ (t - 1)) : znum n = zdg n (t + 1) true := by
  have := zdg_skip h ht (9 - t)
  rw [show t + 1 + (9 - t) = 10 by omega] at this
  exact this
def zlet : Nat → Nat
  | 0 => 65
  | 1 => 67
  | 2 => 71
  | 3 => 84
  | _ => 78
def zbs (r : Nat → Nat) : Nat → List Nat
  | 0 => []
  | k + 1 => zbs r k ++ [zlet (r k)]
theorem zbs_congr {r r' : Nat → Nat} : ∀ k, (∀ i, i < k → r i = r' i) → zbs r k = zbs r' k
  | 0, _ => rfl
  | k + 1, h => by simp only [zbs]; rw [zbs_congr k (fun i hi => h i (by omega)), h k (by omega)]
/-- the differences after k bases: agreeing ones, and what is written -/
def zdf (g r : Nat → Nat) (p : Nat) : Nat → Nat × List Nat
  | 0 => (0, [])
  | k + 1 => if g (p + k) = r k then ((zdf g r p k).1 + 1, (zdf g r p k).2) else (0, (zdf g r p k).2 ++ znum (zdf g r p k).1 ++ [zlet (g (p + k))])
theorem zdf_t {g r : Nat → Nat} {p k : Nat} (h : g (p + k) = r k) : zdf g r p (k + 1) = ((zdf g r p k).1 + 1, (zdf g r p k).2) := by rw [zdf, if_pos h]
theorem zdf_f {g r : Nat → Nat} {p k : Nat} (h : ¬ g (p + k) = r k) : zdf g r p (k + 1) = (0, (zdf g r p k).2 ++ znum (zdf g r p k).1 ++ [zlet (g (p + k))]) := by rw [zdf, if_neg h]
theorem zdf_le (g r : Nat → Nat) (p : Nat) : ∀ k, (zdf g r p k).1 ≤ k
  | 0 => Nat.le_refl _
  | k + 1 => by
    have := zdf_le g r p k
    by_cases h : g (p + k) = r k
    · rw [zdf_t h]; exact Nat.succ_le_succ this
    · rw [zdf_f h]; exact Nat.zero_le _
theorem zdf_congr {g r r' : Nat → Nat} {p : Nat} : ∀ k, (∀ i, i < k → r i = r' i) → zdf g r p k = zdf g r' p k
  | 0, _ => rfl
  | k + 1, h => by simp only [zdf]; rw [zdf_congr k (fun i hi => h i (by omega)), h k (by omega)]
def zdif (g r : Nat → Nat) (p w : Nat) : List Nat := (zdf g r p w).2 ++ znum (zdf g r p w).1
/-- one hit's line -/
def zline (g r : Nat → Nat) (w no : Nat) (m : Nat → Nat) (k i : Nat) (x : Nat × Nat × Nat) : List Nat :=
  [114] ++ znum no ++ [9] ++ znum ((if x.2.1 = 1 then 16 else 0) + (if i = zpri m k then 0 else 256)) ++ [9, 103, 9] ++ znum (x.1 + 1) ++ [9] ++ znum (zqu m k i) ++ [9] ++ znum w ++ [77, 9, 42, 9, 48, 9, 48, 9] ++ (if i = zpri m k then zbs (zsy w r x.2.1) w else [42]) ++ [9, 42, 9, 78, 77, 58, 105, 58] ++ znum x.2.2 ++ [9, 77, 68, 58, 90, 58] ++ zdif g (zsy w r x.2.1) x.1 w ++ [10]
def zhead (n : Nat) : List Nat := [64, 83, 81, 9, 83, 78, 58, 103, 9, 76, 78, 58] ++ znum n ++ [10]
def znone (r : Nat → Nat) (w no : Nat) : List Nat := [114] ++ znum no ++ [9, 52, 9, 42, 9, 48, 9, 48, 9, 42, 9, 42, 9, 48, 9, 48, 9] ++ zbs r w ++ [9, 42, 10]
def zat (L : List (Nat × Nat × Nat)) (i : Nat) : Nat × Nat × Nat := L.getD i (0, 0, 0)
def zmF (L : List (Nat × Nat × Nat)) (i : Nat) : Nat := (zat L i).2.2
def zlines (g r : Nat → Nat) (w no : Nat) (L : List (Nat × Nat × Nat)) : Nat → List Nat
  | 0 => []
  | i + 1 => zlines g r w no L i ++ zline g r w no (zmF L) L.length i (zat L i)
def ztext (n : Nat) (g r : Nat → Nat) (w no : Nat) (L : List (Nat × Nat × Nat)) : List Nat := zhead n ++ (if L.length = 0 then znone r w no else zlines g r w no L L.length)
/-- an array holds a text, as far as it goes -/
def zAG (a : Nat → Nat) (L : List Nat) : Prop := ∀ i, i < L.length → i < 1500 → a i = L.getD i 0
theorem zAG_put {a : Nat → Nat} {L : List Nat} {x : Nat} (h : zAG a L) : zAG (zup a L.length x) (L ++ [x]) := by
  intro i h1 h2
  by_cases e : i = L.length
  · subst e
    rw [zup_s]
    simp
  · have h3 : i < L.length := by simp at h1; omega
    rw [zup_n e, h i h3 h2]
    simp [List.getD_eq_getElem?_getD, List.getElem?_append_left h3]
theorem zAG_over {a : Nat → Nat} {L : List Nat} {x : Nat} (h : zAG a L) (ho : 1500 ≤ L.length) : zAG a (L ++ [x]) := by
  intro i h1 h2
  have h3 : i < L.length := by omega
  rw [h i h3 h2]
  simp [List.getD_eq_getElem?_getD, List.getElem?_append_left h3]
/-- an array holds one part of each hit -/
def zAH (a : Nat → Nat) (L : List (Nat × Nat × Nat)) (f : Nat × Nat × Nat → Nat) : Prop := ∀ i, i < L.length → a i = f (zat L i)
theorem zat_in {L : List (Nat × Nat × Nat)} {x : Nat × Nat × Nat} {i : Nat} (h : i < L.length) : zat (L ++ [x]) i = zat L i := by
  simp [zat, List.getD_eq_getElem?_getD, List.getElem?_append_left h]
theorem zat_end (L : List (Nat × Nat × Nat)) (x : Nat × Nat × Nat) : zat (L ++ [x]) L.length = x := by
  simp [zat]
theorem zAH_put {a : Nat → Nat} {L : List (Nat × Nat × Nat)} {f : Nat × Nat × Nat → Nat} {x : Nat × Nat × Nat} (h : zAH a L f) : zAH (zup a L.length (f x)) (L ++ [x]) f := by
  intro i h1
  by_cases e : i = L.length
  · subst e
    rw [zup_s, zat_end]
  · have h3 : i < L.length := by simp at h1; omega
    rw [zup_n e, h i h3, zat_in h3]
end
section
/-! PURE, third part: the list of hits as it grows; lengths of texts -/
theorem zlen1 {α : Type} (T : List α) (x : α) : (T ++ [x]).length = T.length + 1 := by simp
/-- the primary, as the field holds it -/
def zprI (LL : List (Nat × Nat × Nat)) : Int32 := if LL.length = 0 then -1 else nI (zpri (zmF LL) LL.length)
theorem zprI_pos {LL : List (Nat × Nat × Nat)} (h : ¬ LL.length = 0) : zprI LL = nI (zpri (zmF LL) LL.length) := if_neg h
theorem zprI_nil {LL : List (Nat × Nat × Nat)} (h : LL.length = 0) : zprI LL = -1 := if_pos h
theorem zmF_in {LL : List (Nat × Nat × Nat)} {x : Nat × Nat × Nat} {i : Nat} (h : i < LL.length) : zmF (LL ++ [x]) i = zmF LL i := by unfold zmF; rw [zat_in h]
theorem zmF_end (LL : List (Nat × Nat × Nat)) (x : Nat × Nat × Nat) : zmF (LL ++ [x]) LL.length = x.2.2 := by unfold zmF; rw [zat_end]
theorem zpri_app (LL : List (Nat × Nat × Nat)) (x : Nat × Nat × Nat) : zpri (zmF (LL ++ [x])) (LL.length + 1) = if LL.length = 0 ∨ x.2.2 < zmF LL (zpri (zmF LL) LL.length) then LL.length else zpri (zmF LL) LL.length := by
  have e := zpri_congr LL.length (m := zmF (LL ++ [x])) (m' := zmF LL) (fun j hj => zmF_in hj)
  rw [zpri, e, zmF_end]
  by_cases z : LL.length = 0
  · rw [if_pos (Or.inl z), if_pos (Or.inl z)]
  · rw [zmF_in (zpri_lt (zmF LL) LL.length (by omega))]
theorem zag_app (LL : List (Nat × Nat × Nat)) (x : Nat × Nat × Nat) : zag (zmF (LL ++ [x])) (LL.length + 1) = if LL.length = 0 ∨ x.2.2 < zmF LL (zpri (zmF LL) LL.length) then 0 else if x.2.2 = zmF LL (zpri (zmF LL) LL.length) then zag (zmF LL) LL.length + 1 else zag (zmF LL) LL.length := by
  have e := zpri_congr LL.length (m := zmF (LL ++ [x])) (m' := zmF LL) (fun j hj => zmF_in hj)
  have e2 := zag_congr LL.length (m := zmF (LL ++ [x])) (m' := zmF LL) (fun j hj => zmF_in hj)
  rw [zag, e, e2, zmF_end]
  by_cases z : LL.length = 0
  · rw [if_pos (Or.inl z), if_pos (Or.inl z)]
  · rw [zmF_in (zpri_lt (zmF LL) LL.length (by omega))]
theorem zprI_new {LL : List (Nat × Nat × Nat)} {x : Nat × Nat × Nat} (h : LL.length = 0 ∨ x.2.2 < zmF LL (zpri (zmF LL) LL.length)) : zprI (LL ++ [x]) = nI LL.length := by
  unfold zprI
  rw [zlen1, if_neg (by omega), zpri_app, if_pos h]
theorem zprI_old {LL : List (Nat × Nat × Nat)} {x : Nat × Nat × Nat} (h0 : ¬ LL.length = 0) (h : ¬ x.2.2 < zmF LL (zpri (zmF LL) LL.length)) : zprI (LL ++ [x]) = zprI LL := by
  unfold zprI
  rw [zlen1, if_neg (by omega), zpri_app, if_neg (by omega), if_neg h0]
theorem zag_new {LL : List (Nat × Nat × Nat)} {x : Nat × Nat × Nat} (h : LL.length = 0 ∨ x.2.2 < zmF LL (zpri (zmF LL) LL.length)) : zag (zmF (LL ++ [x])) (LL ++ [x]).length = 0 := by
  rw [zlen1, zag_app, if_pos h]
theorem zag_eq {LL : List (Nat × Nat × Nat)} {x : Nat × Nat × Nat} (h0 : ¬ LL.length = 0) (h : x.2.2 = zmF LL (zpri (zmF LL) LL.length)) : zag (zmF (LL ++ [x])) (LL ++ [x]).length = zag (zmF LL) LL.length + 1 := by
  rw [zlen1, zag_app, if_neg (by omega), if_pos h]
theorem zag_ne {LL : List (Nat × Nat × Nat)} {x : Nat × Nat × Nat} (h0 : ¬ LL.length = 0) (h1 : ¬ x.2.2 < zmF LL (zpri (zmF LL) LL.length)) (h : ¬ x.2.2 = zmF LL (zpri (zmF LL) LL.length)) : zag (zmF (LL ++ [x])) (LL ++ [x]).length = zag (zmF LL) LL.length := by
  rw [zlen1, zag_app, if_neg (by omega), if_neg h]
theorem zprI_lt {LL : List (Nat × Nat × Nat)} (hl : LL.length ≤ 192) : zprI LL < 0 ↔ LL.length = 0 := by
  constructor
  · intro h
    rcases Nat.eq_zero_or_pos LL.length with z | z
    · exact z
    · have := zpri_lt (zmF LL) LL.length z
      rw [zprI_pos (by omega)] at h
      exact absurd h (nI_pos (by omega))
  · intro h
    rw [zprI_nil h]
    decide
theorem zprI_at {LL : List (Nat × Nat × Nat)} (hl : LL.length ≤ 192) {i : Nat} (hi : i < LL.length) : nI i = zprI LL ↔ i = zpri (zmF LL) LL.length := by
  have := zpri_lt (zmF LL) LL.length (by omega)
  rw [zprI_pos (by omega)]
  exact nI_eq (by omega) (by omega)
/-- every hit's place has room, its strand is 0 or 1, its mismatches are few -/
def zok (n w b : Nat) (LL : List (Nat × Nat × Nat)) : Prop := ∀ i, i < LL.length → (zat LL i).1 + w ≤ n ∧ (zat LL i).2.1 ≤ 1 ∧ (zat LL i).2.2 ≤ b
theorem zok_put {n w b : Nat} {LL : List (Nat × Nat × Nat)} {x : Nat × Nat × Nat} (h : zok n w b LL) (h1 : x.1 + w ≤ n) (h2 : x.2.1 ≤ 1) (h3 : x.2.2 ≤ b) : zok n w b (LL ++ [x]) := by
  intro i hi
  by_cases e : i = LL.length
  · subst e
    rw [zat_end]
    exact ⟨h1, h2, h3⟩
  · have h4 : i < LL.length := by rw [zlen1] at hi; omega
    rw [zat_in h4]
    exact h i h4
theorem zok_mF {n w b : Nat} {LL : List (Nat × Nat × Nat)} (h : zok n w b LL) {i : Nat} (hi : i < LL.length) : zmF LL i ≤ b := (h i hi).2.2
theorem zh1_yes {g r : Nat → Nat} {w b p s : Nat} (h : zmm g (zsy w r s) p w ≤ b) : zh1 g r w b p s = [(p, s, zmm g (zsy w r s) p w)] := if_pos h
theorem zh1_no {g r : Nat → Nat} {w b p s : Nat} (h : ¬ zmm g (zsy w r s) p w ≤ b) : zh1 g r w b p s = [] := if_neg h
/-- the hits up to a place, and the first s strands there -/
def zhs (g r : Nat → Nat) (w b p : Nat) : Nat → List (Nat × Nat × Nat)
  | 0 => zhits g r w b p
  | s + 1 => zhs g r w b p s ++ zh1 g r w b p s
theorem zhs_2 (g r : Nat → Nat) (w b p : Nat) : zhs g r w b p 2 = zhits g r w b (p + 1) := rfl
theorem zhs_len (g r : Nat → Nat) (w b p : Nat) : ∀ s, (zhs g r w b p s).length ≤ 2 * p + s
  | 0 => zhits_len g r w b p
  | s + 1 => by
    have h := zhs_len g r w b p s
    have h1 := zh1_len g r w b p s
    simp only [zhs, List.length_append]
    omega
theorem zdg_len (n : Nat) : ∀ j b, (zdg n j b).length ≤ j
  | 0, _ => Nat.le_refl _
  | j + 1, b => by
    have h1 := zdg_len n j true
    have h2 := zdg_len n j false
    unfold zdg
    split
    · simp only [List.length_cons]; omega
    · omega
theorem znum_len (n : Nat) : (znum n).length ≤ 10 := zdg_len n 10 false
theorem zbs_len (r : Nat → Nat) : ∀ k, (zbs r k).length = k
  | 0 => rfl
  | k + 1 => by simp only [zbs, List.length_append, zbs_len r k, List.length_cons, List.length_nil]
theorem zdf_len (g r : Nat → Nat) (p : Nat) : ∀ k, (zdf g r p k).2.length ≤ 11 * k
  | 0 => Nat.le_refl _
  | k + 1 => by
    have h := zdf_len g r p k
    have h2 := znum_len (zdf g r p k).1
    by_cases c : g (p + k) = r k
    · rw [zdf_t c]; show (zdf g r p k).2.length ≤ _; omega
    · rw [zdf_f c]
      simp only [List.length_append, List.length_cons, List.length_nil]
      omega
theorem zdif_len (g r : Nat → Nat) (p w : Nat) : (zdif g r p w).length ≤ 11 * w + 10 := by
  have h := zdf_len g r p w
  have h2 := znum_len (zdf g r p w).1
  unfold zdif
  rw [List.length_append]
  omega
theorem zlet_lt (b : Nat) : zlet b < 128 := by
  unfold zlet
  split <;> decide
theorem zdg_lt (n : Nat) : ∀ j b, ∀ x ∈ zdg n j b, x < 128
  | 0, _, x, h => by cases h
  | j + 1, b, x, h => by
    unfold zdg at h
    split at h
    · rcases List.mem_cons.mp h with e | e
      · have := Nat.mod_lt (n / 10 ^ j) (show 10 > 0 by decide)
        omega
      · exact zdg_lt n j true x e
    · exact zdg_lt n j false x h
/-- the powers of ten, and 0 behind them -/
def zpw : Nat → Nat
  | 0 => 0
  | j + 1 => 10 ^ j
theorem zpw_div (j : Nat) : 10 ^ j / 10 = zpw j := by
  cases j with
  | zero => rfl
  | succ j => rw [Nat.pow_succ, Nat.mul_div_cancel _ (by decide)]; rfl
theorem zdg_true (n j : Nat) : zdg n (j + 1) true = (48 + n / 10 ^ j % 10) :: zdg n j true := by
  rw [zdg, if_pos (Or.inl rfl)]
theorem zgetD_lt {T : List Nat} (h : ∀ x ∈ T, x < 128) (k : Nat) : T.getD k 0 < 128 := by
  rcases Nat.lt_or_ge k T.length with q | q
  · rw [List.getD_eq_getElem?_getD, List.getElem?_eq_getElem q]
    exact h _ (List.getElem_mem q)
  · rw [List.getD_eq_getElem?_getD, List.getElem?_eq_none q]
    decide
/-- one strand at one place -/
def zt1 (g q : Nat → Nat) (w b p t : Nat) : List (Nat × Nat × Nat) := if zmm g q p w ≤ b then [(p, t, zmm g q p w)] else []
theorem zt1_len (g q : Nat → Nat) (w b p t : Nat) : (zt1 g q w b p t).length ≤ 1 := by
  unfold zt1
  split <;> simp
theorem zt1_0 (g r : Nat → Nat) (w b p : Nat) : zt1 g r w b p 0 = zh1 g r w b p 0 := by
  unfold zt1 zh1
  rw [show zsy w r 0 = r from funext (fun k => if_pos rfl)]
theorem zt1_1 {g r tt : Nat → Nat} {w : Nat} (h : ∀ i, i < w → tt i = 3 - r (w - 1 - i)) (b p : Nat) : zt1 g tt w b p 1 = zh1 g r w b p 1 := by
  have e : zmm g tt p w = zmm g (zsy w r 1) p w := zmm_congr (fun i hi => by rw [h i hi]; exact (if_neg (by decide)).symm)
  unfold zt1 zh1
  rw [e]
theorem zrm_iff {n w : Nat} (hw : 0 < w) (k : Nat) : k < zrm n w ↔ k + w ≤ n := by
  unfold zrm
  split <;> omega
/-- characters of seven bits -/
def zlt (L : List Nat) : Prop := ∀ x ∈ L, x < 128
theorem zlt_app {L M : List Nat} (h : zlt L) (k : zlt M) : zlt (L ++ M) := fun x hx => (List.mem_append.mp hx).elim (h x) (k x)
theorem zlt_num (n : Nat) : zlt (znum n) := zdg_lt n 10 false
theorem zlt_bs (r : Nat → Nat) : ∀ k, zlt (zbs r k)
  | 0 => fun x h => by cases h
  | k + 1 => zlt_app (zlt_bs r k) (fun x h => by rw [List.mem_singleton.mp h]; exact zlet_lt _)
theorem zlt_df (g r : Nat → Nat) (p : Nat) : ∀ k, zlt (zdf g r p k).2
  | 0 => fun x h => by cases h
  | k + 1 => by
    by_cases c : g (p + k) = r k
    · rw [zdf_t c]; exact zlt_df g r p k
    · rw [zdf_f c]; exact zlt_app (zlt_app (zlt_df g r p k) (zlt_num _)) (fun x h => by rw [List.mem_singleton.mp h]; exact zlet_lt _)
theorem zlt_dif (g r : Nat → Nat) (p w : Nat) : zlt (zdif g r p w) := zlt_app (zlt_df g r p w) (zlt_num _)
theorem zlt_lit {L : List Nat} (h : L.all (fun x => decide (x < 128)) = true) : zlt L := fun x hx => by
  have := List.all_eq_true.mp h x hx
  simpa using this
theorem zlt_line (g r : Nat → Nat) (w no : Nat) (m : Nat → Nat) (k i : Nat) (x : Nat × Nat × Nat) : zlt (zline g r w no m k i x) := by
  unfold zline
  refine zlt_app (zlt_app (zlt_app (zlt_app (zlt_app (zlt_app (zlt_app (zlt_app (zlt_app (zlt_app (zlt_app (zlt_app (zlt_app (zlt_app (zlt_app (zlt_app (zlt_lit rfl) (zlt_num _)) (zlt_lit rfl)) (zlt_num _)) (zlt_lit rfl)) (zlt_num _)) (zlt_lit rfl)) (zlt_num _)) (zlt_lit rfl)) (zlt_num _)) (zlt_lit rfl)) ?_) (zlt_lit rfl)) (zlt_num _)) (zlt_lit rfl)) (zlt_dif _ _ _ _)) (zlt_lit rfl)
  split
  · exact zlt_bs _ _
  · exact zlt_lit rfl
theorem zlt_lines (g r : Nat → Nat) (w no : Nat) (L : List (Nat × Nat × Nat)) : ∀ k, zlt (zlines g r w no L k)
  | 0 => fun x h => by cases h
  | k + 1 => zlt_app (zlt_lines g r w no L k) (zlt_line _ _ _ _ _ _ _ _)
theorem zlt_text (n : Nat) (g r : Nat → Nat) (w no : Nat) (L : List (Nat × Nat × Nat)) : zlt (ztext n g r w no L) := by
  unfold ztext zhead znone
  refine zlt_app (zlt_app (zlt_app (zlt_lit rfl) (zlt_num _)) (zlt_lit rfl)) ?_
  split
  · exact zlt_app (zlt_app (zlt_app (zlt_app (zlt_lit rfl) (zlt_num _)) (zlt_lit rfl)) (zlt_bs _ _)) (zlt_lit rfl)
  · exact zlt_lines _ _ _ _ _ _
theorem zline_len {g r : Nat → Nat} {w : Nat} (hw : w ≤ 24) (no : Nat) (m : Nat → Nat) (k i : Nat) (x : Nat × Nat × Nat) : (zline g r w no m k i x).length ≤ 700 := by
  have h1 := znum_len no
  have h2 := znum_len ((if x.2.1 = 1 then 16 else 0) + (if i = zpri m k then 0 else 256))
  have h3 := znum_len (x.1 + 1)
  have h4 := znum_len (zqu m k i)
  have h5 := znum_len w
  have h6 := znum_len x.2.2
  have h7 := zdif_len g (zsy w r x.2.1) x.1 w
  have h8 : (if i = zpri m k then zbs (zsy w r x.2.1) w else [42]).length ≤ 24 := by
    split
    · rw [zbs_len]; exact hw
    · decide
  unfold zline
  simp only [List.length_append, List.length_cons, List.length_nil]
  omega
theorem zlines_len {g r : Nat → Nat} {w : Nat} (hw : w ≤ 24) (no : Nat) (L : List (Nat × Nat × Nat)) : ∀ k, (zlines g r w no L k).length ≤ 700 * k
  | 0 => Nat.le_refl _
  | k + 1 => by
    have h := zlines_len (g := g) (r := r) hw no L k
    have h2 := zline_len (g := g) (r := r) hw no (zmF L) L.length k (zat L k)
    simp only [zlines, List.length_append]
    omega
theorem zhead_len (n : Nat) : (zhead n).length ≤ 23 := by
  have := znum_len n
  unfold zhead
  simp only [List.length_append, List.length_cons, List.length_nil]
  omega
theorem znone_len {r : Nat → Nat} {w : Nat} (hw : w ≤ 24) (no : Nat) : (znone r w no).length ≤ 100 := by
  have := znum_len no
  unfold znone
  simp only [List.length_append, List.length_cons, List.length_nil, zbs_len]
  omega
theorem zlines_mono (g r : Nat → Nat) (w no : Nat) (L : List (Nat × Nat × Nat)) {a b : Nat} (h : a ≤ b) : (zlines g r w no L a).length ≤ (zlines g r w no L b).length := by
  induction b with
  | zero => rw [show a = 0 by omega]; exact Nat.le_refl _
  | succ b ih =>
    rcases Nat.lt_or_ge b a with q | q
    · rw [show a = b + 1 by omega]; exact Nat.le_refl _
    · have := ih q
      simp only [zlines, List.length_append]
      omega
theorem zline_congr {g r r' : Nat → Nat} {w : Nat} (h : ∀ i, i < w → r i = r' i) (no : Nat) (m : Nat → Nat) (k i : Nat) (x : Nat × Nat × Nat) : zline g r w no m k i x = zline g r' w no m k i x := by
  have e1 : zbs (zsy w r x.2.1) w = zbs (zsy w r' x.2.1) w := zbs_congr w (fun i hi => zsy_congr hi h)
  have e2 : zdif g (zsy w r x.2.1) x.1 w = zdif g (zsy w r' x.2.1) x.1 w := by
    unfold zdif
    rw [zdf_congr w (fun i hi => zsy_congr hi h)]
  unfold zline
  rw [e1, e2]
theorem zlines_congr {g r r' : Nat → Nat} {w : Nat} (h : ∀ i, i < w → r i = r' i) (no : Nat) (L : List (Nat × Nat × Nat)) : ∀ k, zlines g r w no L k = zlines g r' w no L k
  | 0 => rfl
  | k + 1 => by simp only [zlines]; rw [zlines_congr h no L k, zline_congr h]
theorem ztext_congr {n : Nat} {g r r' : Nat → Nat} {w : Nat} (h : ∀ i, i < w → r i = r' i) (no : Nat) (L : List (Nat × Nat × Nat)) : ztext n g r w no L = ztext n g r' w no L := by
  unfold ztext znone
  rw [zbs_congr w h, zlines_congr h]
theorem zrm_le (n w : Nat) (hw : 0 < w) : zrm n w ≤ n := by
  unfold zrm
  split <;> omega
theorem ztext_len {n : Nat} {g r : Nat → Nat} {w : Nat} (hw : w ≤ 24) (no : Nat) {L : List (Nat × Nat × Nat)} (hL : L.length ≤ 192) : (ztext n g r w no L).length ≤ 200000 := by
  have h1 := zhead_len n
  have h2 := znone_len (r := r) hw no
  have h3 := zlines_len (g := g) (r := r) hw no L L.length
  unfold ztext
  rw [List.length_append]
  split <;> omega
theorem zpow1 (j : Nat) : 10 ^ j = 1 ↔ j = 0 := by
  cases j with
  | zero => simp
  | succ j =>
    have : 0 < 10 ^ j := Nat.pow_pos (by decide)
    rw [Nat.pow_succ]
    omega
theorem zdg_yes {n j : Nat} {b : Bool} (h : b = true ∨ 0 < n / 10 ^ j % 10 ∨ j = 0) : zdg n (j + 1) b = (48 + n / 10 ^ j % 10) :: zdg n j true := by
  rw [zdg, if_pos h]
theorem zdg_no {n j : Nat} {b : Bool} (h : ¬ (b = true ∨ 0 < n / 10 ^ j % 10 ∨ j = 0)) : zdg n (j + 1) b = zdg n j false := by
  rw [zdg, if_neg h]
/-- what stands between the head and the lines -/
def zmid (r : Nat → Nat) (w no : Nat) (L : List (Nat × Nat × Nat)) : List Nat := if L.length = 0 then znone r w no else []
theorem ztext_mid (n : Nat) (g r : Nat → Nat) (w no : Nat) (L : List (Nat × Nat × Nat)) : ztext n g r w no L = zhead n ++ zmid r w no L ++ zlines g r w no L L.length := by
  unfold ztext zmid
  by_cases h : L.length = 0
  · rw [if_pos h, if_pos h, h, show zlines g r w no L 0 = [] from rfl, List.append_nil]
  · rw [if_neg h, if_neg h, List.append_nil]
theorem zmid_len {r : Nat → Nat} {w : Nat} (hw : w ≤ 24) (no : Nat) (L : List (Nat × Nat × Nat)) : (zmid r w no L).length ≤ 100 := by
  have := znone_len (r := r) hw no
  unfold zmid
  split
  · exact this
  · exact Nat.zero_le _
end
section
/-! MAKING: arrays of a known kind, constructors -/
def zz0 : Nat → Nat := fun _ => 0
section ZN
variable {p : Program} {l : Launch} {e : Env} {R : Room} {s : State} {m : MethodId} {args : Array Value} {below : List Frame} {meth : Method} {c : Code} {H : Heap} {locs : List Loc} {cells slots : Nat} {Q : State → Prop}
variable {cc : ByteArray} {pc : Nat} {ls : Array Slot} {rest st0 : List Value} {D : va_G} {cl : List vw_C} {A : Nat → Prop} {a : Array Value} {tys : List (ClassId × FieldType)} {ws wc wr : va_W}
theorem zNewI (hexec : p.tables.exec = Jvm.exec) (hb : c.code = cc) (harr : (Cond.arrayClass .int).before args s = true) (hK : va_K D cl tys s) (t0 : Nat) {cA : ClassId} (ht : tys[t0]? = some (cA, .int)) (hP : va_P D cl ws H) (hD : va_D A ws) (hS : va_S A s.heap H locs) (hA : ∀ q, s.heap.size ≤ q → A q)
    {n : Nat} (hn : n ≤ 100000) (hcells : cells + 1 ≤ R.cells) (hslots : slots + n ≤ R.slots) (hdg : decode cc pc = .ok (.newarray .int, 2))
    (kk : ∀ (q : Nat) (H1 : Heap), va_P D cl (ws ++ [(q, .inl (cA, n, .inl (fun j => nI (zz0 j))))]) H1 → va_D A (ws ++ [(q, .inl (cA, n, .inl (fun j => nI (zz0 j))))]) → va_S A s.heap H1 locs →
      W p l e R s m args below meth c H1 locs (cells + 1) (slots + n) Q (F0 m (pc + 2) ls (.ref q :: rest))) : W p l e R s m args below meth c H locs cells slots Q (F0 m pc ls (.int (nI n) :: rest)) := by
  refine va_newa (atype := .int) (a0 := (n, .inl (fun j => nI (zz0 j)))) hexec hb harr rfl hK hP hD hS hA (fun cA => rfl) (nI_pos (by omega)) (nI_clamp (by omega)) (by show n * 4 ≤ 536870912; omega) hcells hslots hdg (fun q cA' H1 hK1 hP1 hD1 hS1 => ?_)
  have h1 : s.vm.findClass ("[" ++ FieldType.int.toString) = some cA := (hK.2 t0 _ ht).2
  have h2 : s.vm.findClass ("[" ++ FieldType.int.toString) = some cA' := (hK1.2 tys.length _ (by simp)).2
  have e : cA' = cA := Option.some.inj (h2.symm.trans h1)
  subst e
  exact kk q H1 hP1 hD1 hS1
theorem zNewC (hexec : p.tables.exec = Jvm.exec) (hb : c.code = cc) (harr : (Cond.arrayClass .char).before args s = true) (hK : va_K D cl tys s) (t0 : Nat) {cA : ClassId} (ht : tys[t0]? = some (cA, .char)) (hP : va_P D cl ws H) (hD : va_D A ws) (hS : va_S A s.heap H locs) (hA : ∀ q, s.heap.size ≤ q → A q)
    {n : Nat} (hn : n ≤ 100000) (hcells : cells + 1 ≤ R.cells) (hslots : slots + n ≤ R.slots) (hdg : decode cc pc = .ok (.newarray .char, 2))
    (kk : ∀ (q : Nat) (H1 : Heap), va_P D cl (ws ++ [(q, .inl (cA, n, .inl (fun j => nI (zz0 j))))]) H1 → va_D A (ws ++ [(q, .inl (cA, n, .inl (fun j => nI (zz0 j))))]) → va_S A s.heap H1 locs →
      W p l e R s m args below meth c H1 locs (cells + 1) (slots + n) Q (F0 m (pc + 2) ls (.ref q :: rest))) : W p l e R s m args below meth c H locs cells slots Q (F0 m pc ls (.int (nI n) :: rest)) := by
  refine va_newa (atype := .char) (a0 := (n, .inl (fun j => nI (zz0 j)))) hexec hb harr rfl hK hP hD hS hA (fun cA => rfl) (nI_pos (by omega)) (nI_clamp (by omega)) (by show n * 2 ≤ 536870912; omega) hcells hslots hdg (fun q cA' H1 hK1 hP1 hD1 hS1 => ?_)
  have h1 : s.vm.findClass ("[" ++ FieldType.char.toString) = some cA := (hK.2 t0 _ ht).2
  have h2 : s.vm.findClass ("[" ++ FieldType.char.toString) = some cA' := (hK1.2 tys.length _ (by simp)).2
  have e : cA' = cA := Option.some.inj (h2.symm.trans h1)
  subst e
  exact kk q H1 hP1 hD1 hS1
theorem zCn {S : Type} {post : S → Prop} {wf : S → va_W} {mc ms : Nat} (hr : va_Run p l e R s m args below meth c H locs cells slots mc ms (F0 m pc ls st0) rest (va_Qv post (fun u t => va_P D cl (wf u) t.heap ∧ va_D (va_A wc H.size) (wf u)) (va_A wc H.size) a) (va_A wc H.size)) (hP : va_P D cl ws H) (hD : va_D A ws) (hS : va_S A s.heap H locs) (hA : ∀ q, s.heap.size ≤ q → A q) (isC isR : List Nat) (hC : isC.map (fun i => ws[i]?) = wc.map some) (hR : isR.map (fun i => ws[i]?) = wr.map some) (hn : va_nd isR = true) (hdis : ∀ i ∈ isR, i ∉ isC)
    (kk : ∀ (u : S) (H1 : Heap) (locs1 : List Loc), post u → va_P D cl (wr ++ wf u) H1 → va_D A (wr ++ wf u) → va_S A s.heap H1 locs1 → W p l e R s m args below meth c H1 locs1 (cells + mc) (slots + ms) Q (F0 m (pc + 3) ls rest)) : W p l e R s m args below meth c H locs cells slots Q (F0 m pc ls st0) := by
  have hF := va_free hD hS hA isC hC
  refine va_callv hr hS (fun q _ h => hF q h) hF (fun u t H1 locs1 ht _ hw hB _ hk hS1 => ?_)
  obtain ⟨hB1, hB2⟩ := hB
  rw [ht] at hB1
  obtain ⟨h1, h2⟩ := va_join hP hD isC isR hC hR hn hdis hk hF hB1 hB2
  exact kk u H1 locs1 hw h1 h2 hS1
theorem zVretN {nL : Nat} {y : MethodName} {Ts : List Cond} {S : Type} {post : S → Prop} {wf : S → va_W} (C : zK p s m args meth c cc nL none y Ts) (hS : va_S A s.heap H locs) (u : S) (hq : post u) (hP : va_P D cl (wf u) H) (hD : va_D A (wf u)) (hdg : decode cc pc = .ok (.return_, 1)) :
    W p l e R s m args below meth c H locs cells slots (MQ below (va_Qv post (fun u t => va_P D cl (wf u) t.heap ∧ va_D A (wf u)) A) args s cells slots A) (F0 m pc ls []) :=
  W.vret C.1 C.2.1 C.2.2.1 (fun t ht _ => ⟨⟨u, rfl, hq, by show va_P D cl (wf u) t.heap; rw [ht]; exact hP, hD⟩, hS.F ht⟩) hS.2.2 hdg C.2.2.2.2.2.2.1
end ZN
end
