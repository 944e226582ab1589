section
-- ===== PART A: goes FIRST, ahead of the names: the tables' words, and 'selects' of the private methods out of them =====
/-- a private method of a class that the tables say can be made, by its rows of tables_1 -/
def lw_okq (q : MethodName × Nat) : Prop := (q.1.cls ≠ "java/lang/invoke/MethodHandle" ∧ q.1.cls ≠ "java/lang/invoke/VarHandle") ∧ Cond.instantiable q.1.cls q.2 ∈ tables_1 ∧ Cond.privateMethod q.1 ∈ tables_1 ∧ Cond.instanceMethod q.1 ∈ tables_1
theorem lw_p0 : lw_okq (⟨"StrandMapper$SortedSuffixes", "sort", "()V"⟩, 4) := ⟨⟨by decide +kernel, by decide +kernel⟩, List.mem_of_getElem? (i := 41) (by decide +kernel), List.mem_of_getElem? (i := 215) (by decide +kernel), List.mem_of_getElem? (i := 216) (by decide +kernel)⟩
theorem lw_p1 : lw_okq (⟨"StrandMapper$SortedSuffixes", "insert", "(I)V"⟩, 4) := ⟨⟨by decide +kernel, by decide +kernel⟩, List.mem_of_getElem? (i := 41) (by decide +kernel), List.mem_of_getElem? (i := 219) (by decide +kernel), List.mem_of_getElem? (i := 220) (by decide +kernel)⟩
theorem lw_p2 : lw_okq (⟨"StrandMapper$Mapping", "tryStrand", "(LStrandMapper$Bases;ILStrandMapper$Bases;II)V"⟩, 2) := ⟨⟨by decide +kernel, by decide +kernel⟩, List.mem_of_getElem? (i := 60) (by decide +kernel), List.mem_of_getElem? (i := 267) (by decide +kernel), List.mem_of_getElem? (i := 268) (by decide +kernel)⟩
theorem lw_p3 : lw_okq (⟨"StrandMapper$Mapping", "writeNoHit", "(LStrandMapper$Bases;I)V"⟩, 2) := ⟨⟨by decide +kernel, by decide +kernel⟩, List.mem_of_getElem? (i := 60) (by decide +kernel), List.mem_of_getElem? (i := 347) (by decide +kernel), List.mem_of_getElem? (i := 348) (by decide +kernel)⟩
theorem lw_p4 : lw_okq (⟨"StrandMapper$Mapping", "writeHit", "(LStrandMapper$Bases;LStrandMapper$Bases;II)V"⟩, 2) := ⟨⟨by decide +kernel, by decide +kernel⟩, List.mem_of_getElem? (i := 60) (by decide +kernel), List.mem_of_getElem? (i := 363) (by decide +kernel), List.mem_of_getElem? (i := 364) (by decide +kernel)⟩
theorem lw_p5 : lw_okq (⟨"StrandMapperModel", "before", "(I)I"⟩, 19) := ⟨⟨by decide +kernel, by decide +kernel⟩, List.mem_of_getElem? (i := 408) (by decide +kernel), List.mem_of_getElem? (i := 500) (by decide +kernel), List.mem_of_getElem? (i := 501) (by decide +kernel)⟩
theorem lw_p6 : lw_okq (⟨"StrandMapperModel", "less", "(II)Z"⟩, 19) := ⟨⟨by decide +kernel, by decide +kernel⟩, List.mem_of_getElem? (i := 408) (by decide +kernel), List.mem_of_getElem? (i := 504) (by decide +kernel), List.mem_of_getElem? (i := 505) (by decide +kernel)⟩
theorem lw_p7 : lw_okq (⟨"StrandMapperModel", "weight", "(I)I"⟩, 19) := ⟨⟨by decide +kernel, by decide +kernel⟩, List.mem_of_getElem? (i := 408) (by decide +kernel), List.mem_of_getElem? (i := 508) (by decide +kernel), List.mem_of_getElem? (i := 509) (by decide +kernel)⟩
theorem lw_p8 : lw_okq (⟨"StrandMapperModel", "starts", "(I)Z"⟩, 19) := ⟨⟨by decide +kernel, by decide +kernel⟩, List.mem_of_getElem? (i := 408) (by decide +kernel), List.mem_of_getElem? (i := 525) (by decide +kernel), List.mem_of_getElem? (i := 526) (by decide +kernel)⟩
theorem lw_p9 : lw_okq (⟨"StrandMapperModel", "seek", "(I)V"⟩, 19) := ⟨⟨by decide +kernel, by decide +kernel⟩, List.mem_of_getElem? (i := 408) (by decide +kernel), List.mem_of_getElem? (i := 537) (by decide +kernel), List.mem_of_getElem? (i := 538) (by decide +kernel)⟩
theorem lw_p10 : lw_okq (⟨"StrandMapperModel", "differ", "(II)I"⟩, 19) := ⟨⟨by decide +kernel, by decide +kernel⟩, List.mem_of_getElem? (i := 408) (by decide +kernel), List.mem_of_getElem? (i := 541) (by decide +kernel), List.mem_of_getElem? (i := 542) (by decide +kernel)⟩
theorem lw_p11 : lw_okq (⟨"StrandMapperModel", "symbol", "(II)I"⟩, 19) := ⟨⟨by decide +kernel, by decide +kernel⟩, List.mem_of_getElem? (i := 408) (by decide +kernel), List.mem_of_getElem? (i := 545) (by decide +kernel), List.mem_of_getElem? (i := 546) (by decide +kernel)⟩
theorem lw_p12 : lw_okq (⟨"StrandMapperModel", "head", "()V"⟩, 19) := ⟨⟨by decide +kernel, by decide +kernel⟩, List.mem_of_getElem? (i := 408) (by decide +kernel), List.mem_of_getElem? (i := 549) (by decide +kernel), List.mem_of_getElem? (i := 550) (by decide +kernel)⟩
theorem lw_p13 : lw_okq (⟨"StrandMapperModel", "put", "(I)V"⟩, 19) := ⟨⟨by decide +kernel, by decide +kernel⟩, List.mem_of_getElem? (i := 408) (by decide +kernel), List.mem_of_getElem? (i := 553) (by decide +kernel), List.mem_of_getElem? (i := 554) (by decide +kernel)⟩
theorem lw_p14 : lw_okq (⟨"StrandMapperModel", "tab", "()V"⟩, 19) := ⟨⟨by decide +kernel, by decide +kernel⟩, List.mem_of_getElem? (i := 408) (by decide +kernel), List.mem_of_getElem? (i := 557) (by decide +kernel), List.mem_of_getElem? (i := 558) (by decide +kernel)⟩
theorem lw_p15 : lw_okq (⟨"StrandMapperModel", "pair", "(II)V"⟩, 19) := ⟨⟨by decide +kernel, by decide +kernel⟩, List.mem_of_getElem? (i := 408) (by decide +kernel), List.mem_of_getElem? (i := 561) (by decide +kernel), List.mem_of_getElem? (i := 562) (by decide +kernel)⟩
def lw_privs_1 : List (MethodName × Nat) := [(⟨"StrandMapper$SortedSuffixes", "sort", "()V"⟩, 4), (⟨"StrandMapper$SortedSuffixes", "insert", "(I)V"⟩, 4), (⟨"StrandMapper$Mapping", "tryStrand", "(LStrandMapper$Bases;ILStrandMapper$Bases;II)V"⟩, 2), (⟨"StrandMapper$Mapping", "writeNoHit", "(LStrandMapper$Bases;I)V"⟩, 2), (⟨"StrandMapper$Mapping", "writeHit", "(LStrandMapper$Bases;LStrandMapper$Bases;II)V"⟩, 2), (⟨"StrandMapperModel", "before", "(I)I"⟩, 19), (⟨"StrandMapperModel", "less", "(II)Z"⟩, 19), (⟨"StrandMapperModel", "weight", "(I)I"⟩, 19), (⟨"StrandMapperModel", "starts", "(I)Z"⟩, 19), (⟨"StrandMapperModel", "seek", "(I)V"⟩, 19), (⟨"StrandMapperModel", "differ", "(II)I"⟩, 19), (⟨"StrandMapperModel", "symbol", "(II)I"⟩, 19), (⟨"StrandMapperModel", "head", "()V"⟩, 19), (⟨"StrandMapperModel", "put", "(I)V"⟩, 19), (⟨"StrandMapperModel", "tab", "()V"⟩, 19), (⟨"StrandMapperModel", "pair", "(II)V"⟩, 19)]
theorem lw_r1 : ∀ q ∈ lw_privs_1, lw_okq q := List.forall_mem_cons.mpr ⟨lw_p0, List.forall_mem_cons.mpr ⟨lw_p1, List.forall_mem_cons.mpr ⟨lw_p2, List.forall_mem_cons.mpr ⟨lw_p3, List.forall_mem_cons.mpr ⟨lw_p4, List.forall_mem_cons.mpr ⟨lw_p5, List.forall_mem_cons.mpr ⟨lw_p6, List.forall_mem_cons.mpr ⟨lw_p7, List.forall_mem_cons.mpr ⟨lw_p8, List.forall_mem_cons.mpr ⟨lw_p9, List.forall_mem_cons.mpr ⟨lw_p10, List.forall_mem_cons.mpr ⟨lw_p11, List.forall_mem_cons.mpr ⟨lw_p12, List.forall_mem_cons.mpr ⟨lw_p13, List.forall_mem_cons.mpr ⟨lw_p14, List.forall_mem_cons.mpr ⟨lw_p15, fun _ h => absurd h List.not_mem_nil⟩⟩⟩⟩⟩⟩⟩⟩⟩⟩⟩⟩⟩⟩⟩⟩
theorem lw_p16 : lw_okq (⟨"StrandMapperModel", "putNumber", "(I)V"⟩, 19) := ⟨⟨by decide +kernel, by decide +kernel⟩, List.mem_of_getElem? (i := 408) (by decide +kernel), List.mem_of_getElem? (i := 565) (by decide +kernel), List.mem_of_getElem? (i := 566) (by decide +kernel)⟩
theorem lw_p17 : lw_okq (⟨"StrandMapperModel", "putHit", "(I)V"⟩, 19) := ⟨⟨by decide +kernel, by decide +kernel⟩, List.mem_of_getElem? (i := 408) (by decide +kernel), List.mem_of_getElem? (i := 569) (by decide +kernel), List.mem_of_getElem? (i := 570) (by decide +kernel)⟩
theorem lw_p18 : lw_okq (⟨"StrandMapperModel", "quality", "(I)I"⟩, 19) := ⟨⟨by decide +kernel, by decide +kernel⟩, List.mem_of_getElem? (i := 408) (by decide +kernel), List.mem_of_getElem? (i := 573) (by decide +kernel), List.mem_of_getElem? (i := 574) (by decide +kernel)⟩
theorem lw_p19 : lw_okq (⟨"StrandMapperModel", "noMate", "()V"⟩, 19) := ⟨⟨by decide +kernel, by decide +kernel⟩, List.mem_of_getElem? (i := 408) (by decide +kernel), List.mem_of_getElem? (i := 577) (by decide +kernel), List.mem_of_getElem? (i := 578) (by decide +kernel)⟩
theorem lw_p20 : lw_okq (⟨"StrandMapperModel", "putRead", "(I)V"⟩, 19) := ⟨⟨by decide +kernel, by decide +kernel⟩, List.mem_of_getElem? (i := 408) (by decide +kernel), List.mem_of_getElem? (i := 581) (by decide +kernel), List.mem_of_getElem? (i := 582) (by decide +kernel)⟩
theorem lw_p21 : lw_okq (⟨"StrandMapperModel", "putBase", "(I)V"⟩, 19) := ⟨⟨by decide +kernel, by decide +kernel⟩, List.mem_of_getElem? (i := 408) (by decide +kernel), List.mem_of_getElem? (i := 585) (by decide +kernel), List.mem_of_getElem? (i := 586) (by decide +kernel)⟩
theorem lw_p22 : lw_okq (⟨"StrandMapperModel", "putDifferences", "(II)V"⟩, 19) := ⟨⟨by decide +kernel, by decide +kernel⟩, List.mem_of_getElem? (i := 408) (by decide +kernel), List.mem_of_getElem? (i := 589) (by decide +kernel), List.mem_of_getElem? (i := 590) (by decide +kernel)⟩
theorem lw_p23 : lw_okq (⟨"StrandMapperModel", "putNothing", "()V"⟩, 19) := ⟨⟨by decide +kernel, by decide +kernel⟩, List.mem_of_getElem? (i := 408) (by decide +kernel), List.mem_of_getElem? (i := 593) (by decide +kernel), List.mem_of_getElem? (i := 594) (by decide +kernel)⟩
theorem lw_p24 : lw_okq (⟨"StrandMapperModel", "keep", "()V"⟩, 19) := ⟨⟨by decide +kernel, by decide +kernel⟩, List.mem_of_getElem? (i := 408) (by decide +kernel), List.mem_of_getElem? (i := 597) (by decide +kernel), List.mem_of_getElem? (i := 598) (by decide +kernel)⟩
def lw_privs_2 : List (MethodName × Nat) := [(⟨"StrandMapperModel", "putNumber", "(I)V"⟩, 19), (⟨"StrandMapperModel", "putHit", "(I)V"⟩, 19), (⟨"StrandMapperModel", "quality", "(I)I"⟩, 19), (⟨"StrandMapperModel", "noMate", "()V"⟩, 19), (⟨"StrandMapperModel", "putRead", "(I)V"⟩, 19), (⟨"StrandMapperModel", "putBase", "(I)V"⟩, 19), (⟨"StrandMapperModel", "putDifferences", "(II)V"⟩, 19), (⟨"StrandMapperModel", "putNothing", "()V"⟩, 19), (⟨"StrandMapperModel", "keep", "()V"⟩, 19)]
theorem lw_r2 : ∀ q ∈ lw_privs_2, lw_okq q := List.forall_mem_cons.mpr ⟨lw_p16, List.forall_mem_cons.mpr ⟨lw_p17, List.forall_mem_cons.mpr ⟨lw_p18, List.forall_mem_cons.mpr ⟨lw_p19, List.forall_mem_cons.mpr ⟨lw_p20, List.forall_mem_cons.mpr ⟨lw_p21, List.forall_mem_cons.mpr ⟨lw_p22, List.forall_mem_cons.mpr ⟨lw_p23, List.forall_mem_cons.mpr ⟨lw_p24, fun _ h => absurd h List.not_mem_nil⟩⟩⟩⟩⟩⟩⟩⟩⟩
def lw_privs : List (MethodName × Nat) := lw_privs_1 ++ (lw_privs_2)
def lw_tbl : List Cond := k2_sels lw_privs ++ tables_1
theorem lw_privs_ok : ∀ q ∈ lw_privs, lw_okq q := by
  show ∀ q ∈ lw_privs_1 ++ (lw_privs_2), lw_okq q
  exact List.forall_mem_append.mpr ⟨lw_r1, lw_r2⟩
-- ===== end of PART A; then your names; then what follows =====
end
section
/-! NAMES: classes, fields, methods, words; written by a program of mine out of the tables and the listing -/
def RX0 : String := "StrandMapper$Bases"
def TX0 : u_T := fun k => match k with
  | 0 => ("StrandMapper$Bases", "symbols", "[I", true)
  | _ => ("StrandMapper$Bases", "used", "I", false)
def tyX0 : Nat → FieldType := fun k => match k with
  | 0 => .array .int
  | _ => .int
theorem nmX0 : ∀ a, a < 2 → ∀ b, b < 2 → a ≠ b → (TX0 a).2.1 ≠ (TX0 b).2.1 := by decide +kernel
theorem tyX0_ok : ∀ k, k < 2 → parseFieldDescriptor (TX0 k).2.2.1 = some (tyX0 k) := by decide +kernel
def RX1 : String := "StrandMapper$HitList"
def TX1 : u_T := fun k => match k with
  | 0 => ("StrandMapper$HitList", "places", "[I", true)
  | 1 => ("StrandMapper$HitList", "strands", "[I", true)
  | 2 => ("StrandMapper$HitList", "mismatches", "[I", true)
  | 3 => ("StrandMapper$HitList", "amount", "I", false)
  | 4 => ("StrandMapper$HitList", "primary", "I", false)
  | _ => ("StrandMapper$HitList", "asGoodAsPrimary", "I", false)
def tyX1 : Nat → FieldType := fun k => match k with
  | 0 => .array .int
  | 1 => .array .int
  | 2 => .array .int
  | 3 => .int
  | 4 => .int
  | _ => .int
theorem nmX1 : ∀ a, a < 6 → ∀ b, b < 6 → a ≠ b → (TX1 a).2.1 ≠ (TX1 b).2.1 := by decide +kernel
theorem tyX1_ok : ∀ k, k < 6 → parseFieldDescriptor (TX1 k).2.2.1 = some (tyX1 k) := by decide +kernel
def RX2 : String := "StrandMapper$MapText"
def TX2 : u_T := fun k => match k with
  | 0 => ("StrandMapper$MapText", "characters", "[C", true)
  | _ => ("StrandMapper$MapText", "written", "I", false)
def tyX2 : Nat → FieldType := fun k => match k with
  | 0 => .array .char
  | _ => .int
theorem nmX2 : ∀ a, a < 2 → ∀ b, b < 2 → a ≠ b → (TX2 a).2.1 ≠ (TX2 b).2.1 := by decide +kernel
theorem tyX2_ok : ∀ k, k < 2 → parseFieldDescriptor (TX2 k).2.2.1 = some (tyX2 k) := by decide +kernel
def RX3 : String := "StrandMapper$Mapping"
def TX3 : u_T := fun k => match k with
  | 0 => ("StrandMapper$Mapping", "found", "LStrandMapper$HitList;", true)
  | _ => ("StrandMapper$Mapping", "text", "LStrandMapper$MapText;", true)
def tyX3 : Nat → FieldType := fun k => match k with
  | 0 => .object "StrandMapper$HitList"
  | _ => .object "StrandMapper$MapText"
theorem nmX3 : ∀ a, a < 2 → ∀ b, b < 2 → a ≠ b → (TX3 a).2.1 ≠ (TX3 b).2.1 := by decide +kernel
theorem tyX3_ok : ∀ k, k < 2 → parseFieldDescriptor (TX3 k).2.2.1 = some (tyX3 k) := by decide +kernel
def RX4 : String := "StrandMapper$SortedSuffixes"
def TX4 : u_T := fun k => match k with
  | 0 => ("StrandMapper$SortedSuffixes", "genome", "LStrandMapper$Bases;", true)
  | 1 => ("StrandMapper$SortedSuffixes", "rowOfPlace", "[I", true)
  | 2 => ("StrandMapper$SortedSuffixes", "order", "[I", true)
  | _ => ("StrandMapper$SortedSuffixes", "sorted", "Z", false)
def tyX4 : Nat → FieldType := fun k => match k with
  | 0 => .object "StrandMapper$Bases"
  | 1 => .array .int
  | 2 => .array .int
  | _ => .boolean
theorem nmX4 : ∀ a, a < 4 → ∀ b, b < 4 → a ≠ b → (TX4 a).2.1 ≠ (TX4 b).2.1 := by decide +kernel
theorem tyX4_ok : ∀ k, k < 4 → parseFieldDescriptor (TX4 k).2.2.1 = some (tyX4 k) := by decide +kernel
def RX5 : String := "StrandMapper"
def TX5 : u_T := fun k => match k with
  | 0 => ("StrandMapper", "genome", "LStrandMapper$Bases;", true)
  | 1 => ("StrandMapper", "suffixes", "LStrandMapper$SortedSuffixes;", true)
  | 2 => ("StrandMapper", "read", "LStrandMapper$Bases;", false)
  | 3 => ("StrandMapper", "turned", "LStrandMapper$Bases;", false)
  | 4 => ("StrandMapper", "latest", "LStrandMapper$Mapping;", false)
  | 5 => ("StrandMapper", "spare", "LStrandMapper$Mapping;", false)
  | _ => ("StrandMapper", "mappingsDone", "I", false)
def tyX5 : Nat → FieldType := fun k => match k with
  | 0 => .object "StrandMapper$Bases"
  | 1 => .object "StrandMapper$SortedSuffixes"
  | 2 => .object "StrandMapper$Bases"
  | 3 => .object "StrandMapper$Bases"
  | 4 => .object "StrandMapper$Mapping"
  | 5 => .object "StrandMapper$Mapping"
  | _ => .int
theorem nmX5 : ∀ a, a < 7 → ∀ b, b < 7 → a ≠ b → (TX5 a).2.1 ≠ (TX5 b).2.1 := by decide +kernel
theorem tyX5_ok : ∀ k, k < 7 → parseFieldDescriptor (TX5 k).2.2.1 = some (tyX5 k) := by decide +kernel
def RX6 : String := "StrandMapperModel"
def TX6 : u_T := fun k => match k with
  | 0 => ("StrandMapperModel", "genome", "[I", true)
  | 1 => ("StrandMapperModel", "bases", "I", false)
  | 2 => ("StrandMapperModel", "text", "[I", true)
  | 3 => ("StrandMapperModel", "width", "I", false)
  | 4 => ("StrandMapperModel", "found", "I", false)
  | 5 => ("StrandMapperModel", "places", "[I", true)
  | 6 => ("StrandMapperModel", "strands", "[I", true)
  | 7 => ("StrandMapperModel", "misses", "[I", true)
  | 8 => ("StrandMapperModel", "chief", "I", false)
  | 9 => ("StrandMapperModel", "many", "I", false)
  | 10 => ("StrandMapperModel", "newPlaces", "[I", true)
  | 11 => ("StrandMapperModel", "newStrands", "[I", true)
  | 12 => ("StrandMapperModel", "newMisses", "[I", true)
  | 13 => ("StrandMapperModel", "newChief", "I", false)
  | 14 => ("StrandMapperModel", "letters", "I", false)
  | 15 => ("StrandMapperModel", "lines", "[C", true)
  | 16 => ("StrandMapperModel", "drawn", "I", false)
  | 17 => ("StrandMapperModel", "draft", "[C", true)
  | _ => ("StrandMapperModel", "done", "I", false)
def tyX6 : Nat → FieldType := fun k => match k with
  | 0 => .array .int
  | 1 => .int
  | 2 => .array .int
  | 3 => .int
  | 4 => .int
  | 5 => .array .int
  | 6 => .array .int
  | 7 => .array .int
  | 8 => .int
  | 9 => .int
  | 10 => .array .int
  | 11 => .array .int
  | 12 => .array .int
  | 13 => .int
  | 14 => .int
  | 15 => .array .char
  | 16 => .int
  | 17 => .array .char
  | _ => .int
theorem nmX6 : ∀ a, a < 19 → ∀ b, b < 19 → a ≠ b → (TX6 a).2.1 ≠ (TX6 b).2.1 := by decide +kernel
theorem tyX6_ok : ∀ k, k < 19 → parseFieldDescriptor (TX6 k).2.2.1 = some (tyX6 k) := by decide +kernel
abbrev vwCl : List vw_C := [(RX0, TX0, 2), (RX1, TX1, 6), (RX2, TX2, 2), (RX3, TX3, 2), (RX4, TX4, 4), (RX5, TX5, 7), (RX6, TX6, 19)]
/-- the words that a call keeps -/
def zT : List Cond := lw_tbl.filter goodWord
theorem zin {w : Cond} (i : Nat) (h : lw_tbl[i]? = some w) (g : goodWord w = true) : w ∈ zT := List.mem_filter.mpr ⟨List.mem_of_getElem? h, g⟩
theorem zin_l {w : Cond} (h : w ∈ zT) : w ∈ lw_tbl := (List.mem_filter.mp h).1
theorem zin_g {w : Cond} (h : w ∈ zT) : (w.onTables && w.keeps) = true ∨ ∃ ty, w = .arrayClass ty := good_of_word (List.mem_filter.mp h).2
theorem zgoodX {big : List Cond} (hb : ∀ w ∈ zT, w ∈ big) {own : String} {idx : Nat} {C : String} {y : MethodName} {c : ByteArray} {n : Nat} {r : Option FieldType} (h1 : Cond.methodLink own idx y ∈ zT) (h2 : Cond.instanceMethod y ∈ zT) (h3 : Cond.selects C y y ∈ zT) (h4 : Cond.initialized C ∈ zT) (h5 : Cond.code y c n r ∈ zT) : GoodIn big (wsV own idx C y (Cond.code y c n r :: zT)) := by
  have hz : ∀ w ∈ zT, w ∈ big ∧ ((w.onTables && w.keeps) = true ∨ ∃ ty, w = .arrayClass ty) := fun w h => ⟨hb w h, zin_g h⟩
  intro w hw
  have hw : w ∈ ([.methodLink own idx y, .instanceMethod y, .selects C y y, .initialized C] : List Cond) ++ (Cond.code y c n r :: zT) := hw
  rcases List.mem_append.mp hw with hw | hw
  · simp only [List.mem_cons, List.not_mem_nil, or_false] at hw
    rcases hw with hw | hw | hw | hw <;> rw [hw]
    · exact hz _ h1
    · exact hz _ h2
    · exact hz _ h3
    · exact hz _ h4
  · rcases List.mem_cons.mp hw with hw | hw
    · rw [hw]; exact hz _ h5
    · exact hz _ hw
theorem zgoodSX {big : List Cond} (hb : ∀ w ∈ zT, w ∈ big) {own : String} {idx : Nat} {y : MethodName} {c : ByteArray} {n : Nat} {r : Option FieldType} (h1 : Cond.methodLink own idx y ∈ zT) (h2 : Cond.static y ∈ zT) (h4 : Cond.initialized y.cls ∈ zT) (h5 : Cond.code y c n r ∈ zT) : GoodIn big (va_wsS own idx y (Cond.code y c n r :: zT)) := by
  have hz : ∀ w ∈ zT, w ∈ big ∧ ((w.onTables && w.keeps) = true ∨ ∃ ty, w = .arrayClass ty) := fun w h => ⟨hb w h, zin_g h⟩
  intro w hw
  have hw : w ∈ ([.methodLink own idx y, .static y, .initialized y.cls] : List Cond) ++ (Cond.code y c n r :: zT) := hw
  rcases List.mem_append.mp hw with hw | hw
  · simp only [List.mem_cons, List.not_mem_nil, or_false] at hw
    rcases hw with hw | hw | hw <;> rw [hw]
    · exact hz _ h1
    · exact hz _ h2
    · exact hz _ h4
  · rcases List.mem_cons.mp hw with hw | hw
    · rw [hw]; exact hz _ h5
    · exact hz _ hw
theorem zgoodIX {big : List Cond} (hb : ∀ w ∈ zT, w ∈ big) {y : MethodName} {c : ByteArray} {n : Nat} {r : Option FieldType} (h5 : Cond.code y c n r ∈ zT) : GoodIn big (Cond.code y c n r :: zT) := by
  intro w hw
  rcases List.mem_cons.mp hw with hw | hw
  · rw [hw]; exact ⟨hb _ h5, zin_g h5⟩
  · exact ⟨hb _ hw, zin_g hw⟩
theorem zgood {w0 : Cond} {own : String} {idx : Nat} {C : String} {y : MethodName} {c : ByteArray} {n : Nat} {r : Option FieldType} (h1 : Cond.methodLink own idx y ∈ zT) (h2 : Cond.instanceMethod y ∈ zT) (h3 : Cond.selects C y y ∈ zT) (h4 : Cond.initialized C ∈ zT) (h5 : Cond.code y c n r ∈ zT) : GoodIn (w0 :: zT) (wsV own idx C y (Cond.code y c n r :: zT)) := zgoodX (fun _ h => List.mem_cons_of_mem _ h) h1 h2 h3 h4 h5
theorem zgoodL {own : String} {idx : Nat} {C : String} {y : MethodName} {c : ByteArray} {n : Nat} {r : Option FieldType} (h1 : Cond.methodLink own idx y ∈ zT) (h2 : Cond.instanceMethod y ∈ zT) (h3 : Cond.selects C y y ∈ zT) (h4 : Cond.initialized C ∈ zT) (h5 : Cond.code y c n r ∈ zT) : GoodIn lw_tbl (wsV own idx C y (Cond.code y c n r :: zT)) := zgoodX (fun _ h => zin_l h) h1 h2 h3 h4 h5
theorem zgoodS {w0 : Cond} {own : String} {idx : Nat} {y : MethodName} {c : ByteArray} {n : Nat} {r : Option FieldType} (h1 : Cond.methodLink own idx y ∈ zT) (h2 : Cond.static y ∈ zT) (h4 : Cond.initialized y.cls ∈ zT) (h5 : Cond.code y c n r ∈ zT) : GoodIn (w0 :: zT) (va_wsS own idx y (Cond.code y c n r :: zT)) := zgoodSX (fun _ h => List.mem_cons_of_mem _ h) h1 h2 h4 h5
theorem zgoodI {w0 : Cond} {y : MethodName} {c : ByteArray} {n : Nat} {r : Option FieldType} (h5 : Cond.code y c n r ∈ zT) : GoodIn (w0 :: zT) (Cond.code y c n r :: zT) := zgoodIX (fun _ h => List.mem_cons_of_mem _ h) h5
theorem zgoodIL {y : MethodName} {c : ByteArray} {n : Nat} {r : Option FieldType} (h5 : Cond.code y c n r ∈ zT) : GoodIn lw_tbl (Cond.code y c n r :: zT) := zgoodIX (fun _ h => zin_l h) h5
abbrev cX0_isFull : ByteArray := prog_2_method_2_code
def yX0_isFull : MethodName := ⟨"StrandMapper$Bases", "isFull", "()Z"⟩
def wsX0_isFull : List Cond := .code yX0_isFull cX0_isFull 1 (some .boolean) :: zT
abbrev cX0_append : ByteArray := prog_2_method_3_code
def yX0_append : MethodName := ⟨"StrandMapper$Bases", "append", "(I)V"⟩
def wsX0_append : List Cond := .code yX0_append cX0_append 2 none :: zT
abbrev cX0_empty : ByteArray := prog_2_method_4_code
def yX0_empty : MethodName := ⟨"StrandMapper$Bases", "empty", "()V"⟩
def wsX0_empty : List Cond := .code yX0_empty cX0_empty 1 none :: zT
abbrev cX0_becomeTurned : ByteArray := prog_2_method_5_code
def yX0_becomeTurned : MethodName := ⟨"StrandMapper$Bases", "becomeTurned", "(LStrandMapper$Bases;)V"⟩
def wsX0_becomeTurned : List Cond := .code yX0_becomeTurned cX0_becomeTurned 3 none :: zT
abbrev cX0_hasRoomAt : ByteArray := prog_2_method_6_code
def yX0_hasRoomAt : MethodName := ⟨"StrandMapper$Bases", "hasRoomAt", "(ILStrandMapper$Bases;)Z"⟩
def wsX0_hasRoomAt : List Cond := .code yX0_hasRoomAt cX0_hasRoomAt 3 (some .boolean) :: zT
abbrev cX0_mismatchesAt : ByteArray := prog_2_method_8_code
def yX0_mismatchesAt : MethodName := ⟨"StrandMapper$Bases", "mismatchesAt", "(ILStrandMapper$Bases;I)I"⟩
def wsX0_mismatchesAt : List Cond := .code yX0_mismatchesAt cX0_mismatchesAt 6 (some .int) :: zT
abbrev cX0_holdsAt : ByteArray := prog_2_method_7_code
def yX0_holdsAt : MethodName := ⟨"StrandMapper$Bases", "holdsAt", "(ILStrandMapper$Bases;)Z"⟩
def wsX0_holdsAt : List Cond := .code yX0_holdsAt cX0_holdsAt 3 (some .boolean) :: zT
abbrev cX4_forget : ByteArray := prog_6_method_2_code
def yX4_forget : MethodName := ⟨"StrandMapper$SortedSuffixes", "forget", "()V"⟩
def wsX4_forget : List Cond := .code yX4_forget cX4_forget 1 none :: zT
abbrev cX4_rows : ByteArray := prog_6_method_3_code
def yX4_rows : MethodName := ⟨"StrandMapper$SortedSuffixes", "rows", "()I"⟩
def wsX4_rows : List Cond := .code yX4_rows cX4_rows 1 (some .int) :: zT
abbrev cX4_hasRow : ByteArray := prog_6_method_4_code
def yX4_hasRow : MethodName := ⟨"StrandMapper$SortedSuffixes", "hasRow", "(I)Z"⟩
def wsX4_hasRow : List Cond := .code yX4_hasRow cX4_hasRow 2 (some .boolean) :: zT
abbrev cX4_insert : ByteArray := prog_6_method_8_code
def yX4_insert : MethodName := ⟨"StrandMapper$SortedSuffixes", "insert", "(I)V"⟩
def wsX4_insert : List Cond := .code yX4_insert cX4_insert 8 none :: zT
abbrev cX4_sort : ByteArray := prog_6_method_7_code
def yX4_sort : MethodName := ⟨"StrandMapper$SortedSuffixes", "sort", "()V"⟩
def wsX4_sort : List Cond := .code yX4_sort cX4_sort 2 none :: zT
abbrev cX4_placeOfRow : ByteArray := prog_6_method_5_code
def yX4_placeOfRow : MethodName := ⟨"StrandMapper$SortedSuffixes", "placeOfRow", "(I)I"⟩
def wsX4_placeOfRow : List Cond := .code yX4_placeOfRow cX4_placeOfRow 2 (some .int) :: zT
abbrev cX4_symbolBefore : ByteArray := prog_6_method_6_code
def yX4_symbolBefore : MethodName := ⟨"StrandMapper$SortedSuffixes", "symbolBefore", "(I)I"⟩
def wsX4_symbolBefore : List Cond := .code yX4_symbolBefore cX4_symbolBefore 3 (some .int) :: zT
abbrev cX6_weight : ByteArray := prog_8_method_9_code
def yX6_weight : MethodName := ⟨"StrandMapperModel", "weight", "(I)I"⟩
def wsX6_weight : List Cond := .code yX6_weight cX6_weight 2 (some .int) :: zT
abbrev cX6_less : ByteArray := prog_8_method_10_code
def yX6_less : MethodName := ⟨"StrandMapperModel", "less", "(II)Z"⟩
def wsX6_less : List Cond := .code yX6_less cX6_less 6 (some .boolean) :: zT
abbrev cX6_before : ByteArray := prog_8_method_11_code
def yX6_before : MethodName := ⟨"StrandMapperModel", "before", "(I)I"⟩
def wsX6_before : List Cond := .code yX6_before cX6_before 4 (some .int) :: zT
abbrev cX6_row : ByteArray := prog_8_method_12_code
def yX6_row : MethodName := ⟨"StrandMapperModel", "row", "(I)I"⟩
def wsX6_row : List Cond := .code yX6_row cX6_row 3 (some .int) :: zT
abbrev cX6_base : ByteArray := prog_8_method_2_code
def yX6_base : MethodName := ⟨"StrandMapperModel", "base", "(I)Z"⟩
def wsX6_base : List Cond := .code yX6_base cX6_base 2 (some .boolean) :: zT
abbrev cX6_clear : ByteArray := prog_8_method_3_code
def yX6_clear : MethodName := ⟨"StrandMapperModel", "clear", "()V"⟩
def wsX6_clear : List Cond := .code yX6_clear cX6_clear 1 none :: zT
abbrev cX6_read : ByteArray := prog_8_method_4_code
def yX6_read : MethodName := ⟨"StrandMapperModel", "read", "(I)Z"⟩
def wsX6_read : List Cond := .code yX6_read cX6_read 2 (some .boolean) :: zT
abbrev cX6_wipe : ByteArray := prog_8_method_5_code
def yX6_wipe : MethodName := ⟨"StrandMapperModel", "wipe", "()V"⟩
def wsX6_wipe : List Cond := .code yX6_wipe cX6_wipe 1 none :: zT
abbrev cX6_symbol : ByteArray := prog_8_method_6_code
def yX6_symbol : MethodName := ⟨"StrandMapperModel", "symbol", "(II)I"⟩
def wsX6_symbol : List Cond := .code yX6_symbol cX6_symbol 3 (some .int) :: zT
abbrev cX6_turn : ByteArray := prog_8_method_7_code
def yX6_turn : MethodName := ⟨"StrandMapperModel", "turn", "()V"⟩
def wsX6_turn : List Cond := .code yX6_turn cX6_turn 3 none :: zT
abbrev cX6_length : ByteArray := prog_8_method_8_code
def yX6_length : MethodName := ⟨"StrandMapperModel", "length", "(Z)I"⟩
def wsX6_length : List Cond := .code yX6_length cX6_length 2 (some .int) :: zT
abbrev cX6_hits : ByteArray := prog_8_method_34_code
def yX6_hits : MethodName := ⟨"StrandMapperModel", "hits", "()I"⟩
def wsX6_hits : List Cond := .code yX6_hits cX6_hits 1 (some .int) :: zT
abbrev cX6_size : ByteArray := prog_8_method_36_code
def yX6_size : MethodName := ⟨"StrandMapperModel", "size", "()I"⟩
def wsX6_size : List Cond := .code yX6_size cX6_size 1 (some .int) :: zT
abbrev cX6_mappings : ByteArray := prog_8_method_38_code
def yX6_mappings : MethodName := ⟨"StrandMapperModel", "mappings", "()I"⟩
def wsX6_mappings : List Cond := .code yX6_mappings cX6_mappings 1 (some .int) :: zT
abbrev cX6_hit : ByteArray := prog_8_method_35_code
def yX6_hit : MethodName := ⟨"StrandMapperModel", "hit", "(II)I"⟩
def wsX6_hit : List Cond := .code yX6_hit cX6_hit 3 (some .int) :: zT
abbrev cX6_at : ByteArray := prog_8_method_37_code
def yX6_at : MethodName := ⟨"StrandMapperModel", "at", "(I)I"⟩
def wsX6_at : List Cond := .code yX6_at cX6_at 2 (some .int) :: zT
abbrev cX6_starts : ByteArray := prog_8_method_15_code
def yX6_starts : MethodName := ⟨"StrandMapperModel", "starts", "(I)Z"⟩
def wsX6_starts : List Cond := .code yX6_starts cX6_starts 4 (some .boolean) :: zT
abbrev cX6_first : ByteArray := prog_8_method_16_code
def yX6_first : MethodName := ⟨"StrandMapperModel", "first", "()I"⟩
def wsX6_first : List Cond := .code yX6_first cX6_first 4 (some .int) :: zT
abbrev cX6_count : ByteArray := prog_8_method_17_code
def yX6_count : MethodName := ⟨"StrandMapperModel", "count", "()I"⟩
def wsX6_count : List Cond := .code yX6_count cX6_count 3 (some .int) :: zT
abbrev cX6_differ : ByteArray := prog_8_method_18_code
def yX6_differ : MethodName := ⟨"StrandMapperModel", "differ", "(II)I"⟩
def wsX6_differ : List Cond := .code yX6_differ cX6_differ 5 (some .int) :: zT
abbrev cX6_last : ByteArray := prog_8_method_13_code
def yX6_last : MethodName := ⟨"StrandMapperModel", "last", "(I)I"⟩
def wsX6_last : List Cond := .code yX6_last cX6_last 3 (some .int) :: zT
abbrev cX6_rank : ByteArray := prog_8_method_14_code
def yX6_rank : MethodName := ⟨"StrandMapperModel", "rank", "(II)I"⟩
def wsX6_rank : List Cond := .code yX6_rank cX6_rank 6 (some .int) :: zT
abbrev cX5_base : ByteArray := prog_1_method_2_code
def yX5_base : MethodName := ⟨"StrandMapper", "base", "(I)Z"⟩
def wsX5_base : List Cond := .code yX5_base cX5_base 2 (some .boolean) :: zT
abbrev cX5_clear : ByteArray := prog_1_method_3_code
def yX5_clear : MethodName := ⟨"StrandMapper", "clear", "()V"⟩
def wsX5_clear : List Cond := .code yX5_clear cX5_clear 1 none :: zT
abbrev cX5_read : ByteArray := prog_1_method_4_code
def yX5_read : MethodName := ⟨"StrandMapper", "read", "(I)Z"⟩
def wsX5_read : List Cond := .code yX5_read cX5_read 2 (some .boolean) :: zT
abbrev cX5_wipe : ByteArray := prog_1_method_5_code
def yX5_wipe : MethodName := ⟨"StrandMapper", "wipe", "()V"⟩
def wsX5_wipe : List Cond := .code yX5_wipe cX5_wipe 1 none :: zT
abbrev cX5_turn : ByteArray := prog_1_method_6_code
def yX5_turn : MethodName := ⟨"StrandMapper", "turn", "()V"⟩
def wsX5_turn : List Cond := .code yX5_turn cX5_turn 2 none :: zT
abbrev cX5_length : ByteArray := prog_1_method_7_code
def yX5_length : MethodName := ⟨"StrandMapper", "length", "(Z)I"⟩
def wsX5_length : List Cond := .code yX5_length cX5_length 2 (some .int) :: zT
abbrev cX5_row : ByteArray := prog_1_method_8_code
def yX5_row : MethodName := ⟨"StrandMapper", "row", "(I)I"⟩
def wsX5_row : List Cond := .code yX5_row cX5_row 2 (some .int) :: zT
abbrev cX5_last : ByteArray := prog_1_method_9_code
def yX5_last : MethodName := ⟨"StrandMapper", "last", "(I)I"⟩
def wsX5_last : List Cond := .code yX5_last cX5_last 2 (some .int) :: zT
abbrev cX5_rank : ByteArray := prog_1_method_10_code
def yX5_rank : MethodName := ⟨"StrandMapper", "rank", "(II)I"⟩
def wsX5_rank : List Cond := .code yX5_rank cX5_rank 5 (some .int) :: zT
abbrev cX5_first : ByteArray := prog_1_method_11_code
def yX5_first : MethodName := ⟨"StrandMapper", "first", "()I"⟩
def wsX5_first : List Cond := .code yX5_first cX5_first 2 (some .int) :: zT
abbrev cX5_count : ByteArray := prog_1_method_12_code
def yX5_count : MethodName := ⟨"StrandMapper", "count", "()I"⟩
def wsX5_count : List Cond := .code yX5_count cX5_count 3 (some .int) :: zT
abbrev cX5_hits : ByteArray := prog_1_method_14_code
def yX5_hits : MethodName := ⟨"StrandMapper", "hits", "()I"⟩
def wsX5_hits : List Cond := .code yX5_hits cX5_hits 1 (some .int) :: zT
abbrev cX5_size : ByteArray := prog_1_method_16_code
def yX5_size : MethodName := ⟨"StrandMapper", "size", "()I"⟩
def wsX5_size : List Cond := .code yX5_size cX5_size 1 (some .int) :: zT
abbrev cX5_mappings : ByteArray := prog_1_method_18_code
def yX5_mappings : MethodName := ⟨"StrandMapper", "mappings", "()I"⟩
def wsX5_mappings : List Cond := .code yX5_mappings cX5_mappings 1 (some .int) :: zT
abbrev cX5_at : ByteArray := prog_1_method_17_code
def yX5_at : MethodName := ⟨"StrandMapper", "at", "(I)I"⟩
def wsX5_at : List Cond := .code yX5_at cX5_at 3 (some .int) :: zT
abbrev cX6_put : ByteArray := prog_8_method_21_code
def yX6_put : MethodName := ⟨"StrandMapperModel", "put", "(I)V"⟩
def wsX6_put : List Cond := .code yX6_put cX6_put 2 none :: zT
abbrev cX6_putNumber : ByteArray := prog_8_method_22_code
def yX6_putNumber : MethodName := ⟨"StrandMapperModel", "putNumber", "(I)V"⟩
def wsX6_putNumber : List Cond := .code yX6_putNumber cX6_putNumber 3 none :: zT
abbrev cX6_putBase : ByteArray := prog_8_method_23_code
def yX6_putBase : MethodName := ⟨"StrandMapperModel", "putBase", "(I)V"⟩
def wsX6_putBase : List Cond := .code yX6_putBase cX6_putBase 2 none :: zT
abbrev cX6_tab : ByteArray := prog_8_method_24_code
def yX6_tab : MethodName := ⟨"StrandMapperModel", "tab", "()V"⟩
def wsX6_tab : List Cond := .code yX6_tab cX6_tab 1 none :: zT
abbrev cX6_pair : ByteArray := prog_8_method_25_code
def yX6_pair : MethodName := ⟨"StrandMapperModel", "pair", "(II)V"⟩
def wsX6_pair : List Cond := .code yX6_pair cX6_pair 3 none :: zT
abbrev cX6_head : ByteArray := prog_8_method_26_code
def yX6_head : MethodName := ⟨"StrandMapperModel", "head", "()V"⟩
def wsX6_head : List Cond := .code yX6_head cX6_head 1 none :: zT
abbrev cX6_noMate : ByteArray := prog_8_method_28_code
def yX6_noMate : MethodName := ⟨"StrandMapperModel", "noMate", "()V"⟩
def wsX6_noMate : List Cond := .code yX6_noMate cX6_noMate 1 none :: zT
abbrev cX6_putRead : ByteArray := prog_8_method_27_code
def yX6_putRead : MethodName := ⟨"StrandMapperModel", "putRead", "(I)V"⟩
def wsX6_putRead : List Cond := .code yX6_putRead cX6_putRead 3 none :: zT
abbrev cX6_putDifferences : ByteArray := prog_8_method_29_code
def yX6_putDifferences : MethodName := ⟨"StrandMapperModel", "putDifferences", "(II)V"⟩
def wsX6_putDifferences : List Cond := .code yX6_putDifferences cX6_putDifferences 5 none :: zT
abbrev cX6_quality : ByteArray := prog_8_method_20_code
def yX6_quality : MethodName := ⟨"StrandMapperModel", "quality", "(I)I"⟩
def wsX6_quality : List Cond := .code yX6_quality cX6_quality 4 (some .int) :: zT
abbrev cX6_seek : ByteArray := prog_8_method_19_code
def yX6_seek : MethodName := ⟨"StrandMapperModel", "seek", "(I)V"⟩
def wsX6_seek : List Cond := .code yX6_seek cX6_seek 5 none :: zT
abbrev cX6_putHit : ByteArray := prog_8_method_30_code
def yX6_putHit : MethodName := ⟨"StrandMapperModel", "putHit", "(I)V"⟩
def wsX6_putHit : List Cond := .code yX6_putHit cX6_putHit 3 none :: zT
abbrev cX6_putNothing : ByteArray := prog_8_method_31_code
def yX6_putNothing : MethodName := ⟨"StrandMapperModel", "putNothing", "()V"⟩
def wsX6_putNothing : List Cond := .code yX6_putNothing cX6_putNothing 1 none :: zT
abbrev cX6_keep : ByteArray := prog_8_method_32_code
def yX6_keep : MethodName := ⟨"StrandMapperModel", "keep", "()V"⟩
def wsX6_keep : List Cond := .code yX6_keep cX6_keep 2 none :: zT
abbrev cX6_map : ByteArray := prog_8_method_33_code
def yX6_map : MethodName := ⟨"StrandMapperModel", "map", "(I)I"⟩
def wsX6_map : List Cond := .code yX6_map cX6_map 3 (some .int) :: zT
abbrev cX1_empty : ByteArray := prog_3_method_2_code
def yX1_empty : MethodName := ⟨"StrandMapper$HitList", "empty", "()V"⟩
def wsX1_empty : List Cond := .code yX1_empty cX1_empty 1 none :: zT
abbrev cX1_append : ByteArray := prog_3_method_3_code
def yX1_append : MethodName := ⟨"StrandMapper$HitList", "append", "(III)V"⟩
def wsX1_append : List Cond := .code yX1_append cX1_append 4 none :: zT
abbrev cX1_flagOf : ByteArray := prog_3_method_4_code
def yX1_flagOf : MethodName := ⟨"StrandMapper$HitList", "flagOf", "(I)I"⟩
def wsX1_flagOf : List Cond := .code yX1_flagOf cX1_flagOf 2 (some .int) :: zT
abbrev cX1_qualityOf : ByteArray := prog_3_method_5_code
def yX1_qualityOf : MethodName := ⟨"StrandMapper$HitList", "qualityOf", "(I)I"⟩
def wsX1_qualityOf : List Cond := .code yX1_qualityOf cX1_qualityOf 2 (some .int) :: zT
abbrev cX3_tryStrand : ByteArray := prog_5_method_3_code
def yX3_tryStrand : MethodName := ⟨"StrandMapper$Mapping", "tryStrand", "(LStrandMapper$Bases;ILStrandMapper$Bases;II)V"⟩
def wsX3_tryStrand : List Cond := .code yX3_tryStrand cX3_tryStrand 7 none :: zT
abbrev cX3_findHits : ByteArray := prog_5_method_2_code
def yX3_findHits : MethodName := ⟨"StrandMapper$Mapping", "findHits", "(LStrandMapper$Bases;LStrandMapper$Bases;LStrandMapper$Bases;I)V"⟩
def wsX3_findHits : List Cond := .code yX3_findHits cX3_findHits 6 none :: zT
end
section
/-! PURE: counting; the keys of the suffixes; rows -/
/-- how many i under k have P -/
def zcnt (P : Nat → Bool) : Nat → Nat
  | 0 => 0
  | k + 1 => zcnt P k + (if P k = true then 1 else 0)
theorem zcnt_s (P : Nat → Bool) (k : Nat) : zcnt P (k + 1) = zcnt P k + (if P k = true then 1 else 0) := rfl
theorem zcnt_t {P : Nat → Bool} {k : Nat} (h : P k = true) : zcnt P (k + 1) = zcnt P k + 1 := by rw [zcnt_s, if_pos h]
theorem zcnt_f {P : Nat → Bool} {k : Nat} (h : ¬ P k = true) : zcnt P (k + 1) = zcnt P k := by rw [zcnt_s, if_neg h, Nat.add_zero]
theorem zcnt_le (P : Nat → Bool) : ∀ k, zcnt P k ≤ k
  | 0 => Nat.le_refl 0
  | k + 1 => by
    have h := zcnt_le P k
    rw [zcnt_s]
    by_cases q : P k = true
    · rw [if_pos q]; omega
    · rw [if_neg q]; omega
theorem zcnt_congr {P P' : Nat → Bool} : ∀ k, (∀ i, i < k → P i = P' i) → zcnt P k = zcnt P' k
  | 0, _ => rfl
  | k + 1, h => by
    rw [zcnt_s, zcnt_s, zcnt_congr k (fun i hi => h i (by omega)), h k (by omega)]
theorem zcnt_mono (P : Nat → Bool) {a b : Nat} (h : a ≤ b) : zcnt P a ≤ zcnt P b := by
  induction b with
  | zero =>
    have q : a = 0 := by omega
    subst q
    exact Nat.le_refl _
  | succ b ih =>
    rcases Nat.lt_or_ge b a with q | q
    · have q2 : a = b + 1 := by omega
      subst q2
      exact Nat.le_refl _
    · have q2 := ih q
      rw [zcnt_s]
      omega
theorem zcnt_imp {P P' : Nat → Bool} : ∀ k, (∀ i, i < k → P i = true → P' i = true) → zcnt P k ≤ zcnt P' k
  | 0, _ => Nat.le_refl _
  | k + 1, h => by
    have h1 := zcnt_imp k (fun i hi => h i (by omega))
    rw [zcnt_s, zcnt_s]
    by_cases q : P k = true
    · rw [if_pos q, if_pos (h k (by omega) q)]; omega
    · rw [if_neg q]; omega
theorem zcnt_lt {P P' : Nat → Bool} {j : Nat} : ∀ k, j < k → (∀ i, i < k → P i = true → P' i = true) → ¬ P j = true → P' j = true → zcnt P k < zcnt P' k
  | 0, hj, _, _, _ => absurd hj (Nat.not_lt_zero _)
  | k + 1, hj, h, hn, hp => by
    rw [zcnt_s, zcnt_s]
    by_cases e : j = k
    · subst e
      have h1 := zcnt_imp j (fun i hi => h i (by omega))
      rw [if_neg hn, if_pos hp]; omega
    · have h1 := zcnt_lt k (by omega) (fun i hi => h i (by omega)) hn hp
      by_cases q : P k = true
      · rw [if_pos q, if_pos (h k (by omega) q)]; omega
      · rw [if_neg q]; omega
theorem zcnt_add {P Q R : Nat → Bool} : ∀ k, (∀ i, i < k → (if R i = true then 1 else 0) = (if P i = true then 1 else 0) + (if Q i = true then (1 : Nat) else 0)) → zcnt R k = zcnt P k + zcnt Q k
  | 0, _ => rfl
  | k + 1, h => by
    have h1 := zcnt_add k (fun i hi => h i (by omega))
    have h2 := h k (by omega)
    rw [zcnt_s, zcnt_s, zcnt_s, h1, h2]
    omega
theorem zcnt_none {P : Nat → Bool} : ∀ k, (∀ i, i < k → ¬ P i = true) → zcnt P k = 0
  | 0, _ => rfl
  | k + 1, h => by rw [zcnt_s, zcnt_none k (fun i hi => h i (by omega)), if_neg (h k (by omega))]
theorem zcnt_zero {P : Nat → Bool} : ∀ k, zcnt P k = 0 → ∀ i, i < k → ¬ P i = true
  | 0, _, i, hi => absurd hi (Nat.not_lt_zero _)
  | k + 1, h, i, hi => by
    rw [zcnt_s] at h
    by_cases e : i = k
    · subst e
      intro q
      rw [if_pos q] at h
      omega
    · exact zcnt_zero k (by omega) i (by omega)
theorem zcnt_one {P : Nat → Bool} {j : Nat} : ∀ k, j < k → (∀ i, i < k → (P i = true ↔ i = j)) → zcnt P k = 1
  | 0, hj, _ => absurd hj (Nat.not_lt_zero _)
  | k + 1, hj, h => by
    rw [zcnt_s]
    by_cases e : j = k
    · subst e
      rw [zcnt_none j (fun i hi q => by have := (h i (by omega)).mp q; omega), if_pos ((h j (by omega)).mpr rfl)]
    · rw [zcnt_one k (by omega) (fun i hi => h i (by omega)), if_neg (fun q => e ((h k (by omega)).mp q).symm)]
theorem zcnt_all : ∀ k, zcnt (fun _ => true) k = k
  | 0 => rfl
  | k + 1 => by rw [zcnt_s, zcnt_all k, if_pos rfl]
/-- a one to one map of 0..m-1 into itself meets every number -/
theorem zpig : ∀ (m : Nat) (f : Nat → Nat), (∀ p, p < m → f p < m) → (∀ p q, p < m → q < m → f p = f q → p = q) → ∀ i, i < m → ∃ p, p < m ∧ f p = i
  | 0, _, _, _, i, hi => absurd hi (Nat.not_lt_zero _)
  | m + 1, f, hf, hj, i, hi => by
    have key : ∀ j, j < m → ∃ p, p < m ∧ (if f p = m then f m else f p) = j := by
      refine zpig m (fun p => if f p = m then f m else f p) (fun p hp => ?_) (fun p q hp hq e => ?_)
      · have h1 := hf p (by omega)
        have h2 := hf m (by omega)
        show (if f p = m then f m else f p) < m
        by_cases c : f p = m
        · rw [if_pos c]
          rcases Nat.lt_or_ge (f m) m with q | q
          · exact q
          · have := hj p m (by omega) (by omega) (by omega)
            omega
        · rw [if_neg c]; omega
      · have e : (if f p = m then f m else f p) = (if f q = m then f m else f q) := e
        by_cases c : f p = m
        · by_cases d : f q = m
          · exact hj p q (by omega) (by omega) (by omega)
          · rw [if_pos c, if_neg d] at e
            have := hj m q (by omega) (by omega) e
            omega
        · by_cases d : f q = m
          · rw [if_neg c, if_pos d] at e
            have := hj p m (by omega) (by omega) e
            omega
          · rw [if_neg c, if_neg d] at e
            exact hj p q (by omega) (by omega) e
    by_cases hm : f m = i
    · exact ⟨m, by omega, hm⟩
    · by_cases him : i = m
      · have h2 := hf m (by omega)
        obtain ⟨p, hp, e⟩ := key (f m) (by omega)
        by_cases c : f p = m
        · exact ⟨p, by omega, by omega⟩
        · rw [if_neg c] at e
          have := hj p m (by omega) (by omega) e
          omega
      · obtain ⟨p, hp, e⟩ := key i (by omega)
        by_cases c : f p = m
        · rw [if_pos c] at e
          exact absurd e hm
        · rw [if_neg c] at e
          exact ⟨p, by omega, e⟩
/-- the weight of a place -/
def zwt (n : Nat) (g : Nat → Nat) (p : Nat) : Nat := if p < n then g p + 1 else 0
/-- the first f weights from p on as a number -/
def zV (n : Nat) (g : Nat → Nat) : Nat → Nat → Nat
  | 0, _ => 0
  | f + 1, p => zwt n g p * 6 ^ f + zV n g f (p + 1)
theorem zV_s (n : Nat) (g : Nat → Nat) (f p : Nat) : zV n g (f + 1) p = zwt n g p * 6 ^ f + zV n g f (p + 1) := rfl
theorem zwt_in {n : Nat} {g : Nat → Nat} {p : Nat} (h : p < n) : zwt n g p = g p + 1 := if_pos h
theorem zwt_out {n : Nat} {g : Nat → Nat} {p : Nat} (h : n ≤ p) : zwt n g p = 0 := if_neg (Nat.not_lt.mpr h)
theorem zwt_le {n : Nat} {g : Nat → Nat} (hg : ∀ i, g i ≤ 4) (p : Nat) : zwt n g p ≤ 5 := by
  have := hg p
  unfold zwt
  split <;> omega
theorem zmul_s {u v x : Nat} (h : u < v) : u * x + x ≤ v * x := by
  rw [← Nat.succ_mul]
  exact Nat.mul_le_mul_right x h
theorem zdig_lt {u v x a b : Nat} (ha : a < x) (hb : b < x) : u * x + a < v * x + b ↔ u < v ∨ (u = v ∧ a < b) := by
  rcases Nat.lt_trichotomy u v with q | q | q
  · have h := zmul_s (x := x) q
    constructor
    · intro _; exact Or.inl q
    · intro _; omega
  · subst q
    constructor
    · intro h; exact Or.inr ⟨rfl, by omega⟩
    · intro h
      rcases h with h | h <;> omega
  · have h := zmul_s (x := x) q
    constructor
    · intro h2; omega
    · intro h2
      rcases h2 with h2 | h2 <;> omega
theorem zdig_eq {u v x a b : Nat} (ha : a < x) (hb : b < x) (h : u * x + a = v * x + b) : u = v ∧ a = b := by
  rcases Nat.lt_trichotomy u v with q | q | q
  · have h2 := zmul_s (x := x) q
    omega
  · subst q
    exact ⟨rfl, by omega⟩
  · have h2 := zmul_s (x := x) q
    omega
theorem zV_lt {n : Nat} {g : Nat → Nat} (hg : ∀ i, g i ≤ 4) : ∀ f p, zV n g f p < 6 ^ f
  | 0, p => by simp [zV]
  | f + 1, p => by
    have h1 := zV_lt hg f (p + 1) (n := n)
    have h2 : zwt n g p < 6 := by have := zwt_le (n := n) hg p; omega
    have h3 := zmul_s (x := 6 ^ f) h2
    rw [zV_s, Nat.pow_succ, Nat.mul_comm (6 ^ f) 6]
    omega
theorem zV_out {n : Nat} {g : Nat → Nat} : ∀ f p, n ≤ p → zV n g f p = 0
  | 0, p, _ => rfl
  | f + 1, p, h => by rw [zV_s, zwt_out h, zV_out f (p + 1) (by omega)]; simp
theorem zV_snoc {n : Nat} {g : Nat → Nat} : ∀ f p, zV n g (f + 1) p = 6 * zV n g f p + zwt n g (p + f)
  | 0, p => by simp [zV]
  | f + 1, p => by
    rw [zV_s, zV_snoc f (p + 1), zV_s n g f p, Nat.pow_succ, Nat.mul_add, show p + 1 + f = p + (f + 1) by omega]
    rw [← Nat.mul_assoc, Nat.mul_comm (zwt n g p * 6 ^ f) 6]
    omega
theorem zV_digits {n : Nat} {g : Nat → Nat} (hg : ∀ i, g i ≤ 4) : ∀ f p q, zV n g f p = zV n g f q → ∀ k, k < f → zwt n g (p + k) = zwt n g (q + k)
  | 0, _, _, _, k, hk => absurd hk (Nat.not_lt_zero _)
  | f + 1, p, q, h, k, hk => by
    rw [zV_s, zV_s] at h
    obtain ⟨h1, h2⟩ := zdig_eq (zV_lt hg f (p + 1)) (zV_lt hg f (q + 1)) h
    cases k with
    | zero => exact h1
    | succ k =>
      have h3 := zV_digits hg f (p + 1) (q + 1) h2 k (by omega)
      rw [show p + (k + 1) = p + 1 + k by omega, show q + (k + 1) = q + 1 + k by omega]
      exact h3
/-- the reference's comparison, f steps of it -/
def zsl (n : Nat) (g : Nat → Nat) : Nat → Nat → Nat → Bool
  | 0, _, _ => false
  | f + 1, p, q => if zwt n g p = zwt n g q then (if zwt n g p = 0 then false else zsl n g f (p + 1) (q + 1)) else decide (zwt n g p < zwt n g q)
theorem zsl_iff {n : Nat} {g : Nat → Nat} (hg : ∀ i, g i ≤ 4) : ∀ f p q, zsl n g f p q = true ↔ zV n g f p < zV n g f q
  | 0, p, q => by simp [zsl, zV]
  | f + 1, p, q => by
    rw [zV_s, zV_s, zdig_lt (zV_lt hg f (p + 1)) (zV_lt hg f (q + 1))]
    by_cases e : zwt n g p = zwt n g q
    · by_cases z : zwt n g p = 0
      · have hp : n ≤ p := by
          rcases Nat.lt_or_ge p n with c | c
          · rw [zwt_in c] at z; omega
          · exact c
        have hq : n ≤ q := by
          rcases Nat.lt_or_ge q n with c | c
          · rw [e, zwt_in c] at z; omega
          · exact c
        rw [zV_out f (p + 1) (by omega), zV_out f (q + 1) (by omega)]
        simp only [zsl, if_pos e, if_pos z]
        constructor
        · intro h; cases h
        · intro h; omega
      · simp only [zsl, if_pos e, if_neg z]
        rw [zsl_iff hg f (p + 1) (q + 1)]
        constructor
        · intro h; exact Or.inr ⟨e, h⟩
        · intro h; omega
    · simp only [zsl, if_neg e, decide_eq_true_eq]
      constructor
      · intro h; exact Or.inl h
      · intro h; omega
/-- the key of a suffix -/
theorem zkey_ex (n : Nat) (g : Nat → Nat) : ∃ f : Nat → Nat, f = zV n g 97 := ⟨_, rfl⟩
noncomputable def zkey (n : Nat) (g : Nat → Nat) : Nat → Nat := Classical.choose (zkey_ex n g)
theorem zkey_eq (n : Nat) (g : Nat → Nat) (p : Nat) : zkey n g p = zV n g 97 p := congrFun (Classical.choose_spec (zkey_ex n g)) p
theorem zkey_inj {n : Nat} {g : Nat → Nat} (hg : ∀ i, g i ≤ 4) (hn : n ≤ 96) {p q : Nat} (hp : p ≤ n) (hq : q ≤ n) (h : zkey n g p = zkey n g q) : p = q := by
  have hd := zV_digits hg 97 p q (by rw [← zkey_eq, ← zkey_eq]; exact h)
  rcases Nat.lt_trichotomy p q with c | c | c
  · have h1 := hd (n - q) (by omega)
    rw [zwt_in (show p + (n - q) < n by omega), zwt_out (show n ≤ q + (n - q) by omega)] at h1
    omega
  · exact c
  · have h1 := hd (n - p) (by omega)
    rw [zwt_out (show n ≤ p + (n - p) by omega), zwt_in (show q + (n - p) < n by omega)] at h1
    omega
theorem zkey_n (n : Nat) (g : Nat → Nat) : zkey n g n = 0 := (zkey_eq n g n).trans (zV_out 97 n (Nat.le_refl n))
theorem zkey_pos {n : Nat} {g : Nat → Nat} {p : Nat} (hp : p < n) : 0 < zkey n g p := by
  have h1 : zkey n g p = zwt n g p * 6 ^ 96 + zV n g 96 (p + 1) := (zkey_eq n g p).trans (zV_s n g 96 p)
  rw [h1, zwt_in hp]
  have : 0 < (g p + 1) * 6 ^ 96 := Nat.mul_pos (Nat.succ_pos _) (Nat.pow_pos (by decide))
  exact Nat.lt_of_lt_of_le this (Nat.le_add_right _ _)
theorem zkey_step {n : Nat} {g : Nat → Nat} (hg : ∀ i, g i ≤ 4) (hn : n ≤ 96) {p q : Nat} (hp : p < n) (hq : q < n) : zkey n g p < zkey n g q ↔ g p < g q ∨ (g p = g q ∧ zkey n g (p + 1) < zkey n g (q + 1)) := by
  have h1 : zkey n g p = zwt n g p * 6 ^ 96 + zV n g 96 (p + 1) := (zkey_eq n g p).trans (zV_s n g 96 p)
  have h2 : zkey n g q = zwt n g q * 6 ^ 96 + zV n g 96 (q + 1) := (zkey_eq n g q).trans (zV_s n g 96 q)
  have h3 : zkey n g (p + 1) = 6 * zV n g 96 (p + 1) + zwt n g (p + 1 + 96) := (zkey_eq n g (p + 1)).trans (zV_snoc 96 (p + 1))
  have h4 : zkey n g (q + 1) = 6 * zV n g 96 (q + 1) + zwt n g (q + 1 + 96) := (zkey_eq n g (q + 1)).trans (zV_snoc 96 (q + 1))
  rw [h1, h2, zdig_lt (zV_lt hg 96 (p + 1)) (zV_lt hg 96 (q + 1)), zwt_in hp, zwt_in hq, h3, h4, zwt_out (show n ≤ p + 1 + 96 by omega), zwt_out (show n ≤ q + 1 + 96 by omega)]
  generalize zV n g 96 (p + 1) = x
  generalize zV n g 96 (q + 1) = y
  omega
/-- how many suffixes from a on are less than that of q -/
noncomputable def zB (n : Nat) (g : Nat → Nat) (a q : Nat) : Nat := zcnt (fun r => decide (a ≤ r ∧ zkey n g r < zkey n g q)) (n + 1)
theorem zB_lt {n : Nat} {g : Nat → Nat} {a x y : Nat} (hx : x ≤ n) (ha : a ≤ x) (h : zkey n g x < zkey n g y) : zB n g a x < zB n g a y := by
  refine zcnt_lt (j := x) (n + 1) (by omega) (fun i hi q => ?_) ?_ ?_
  · simp only [decide_eq_true_eq] at q ⊢
    omega
  · simp only [decide_eq_true_eq]
    omega
  · simp only [decide_eq_true_eq]
    omega
theorem zB_iff {n : Nat} {g : Nat → Nat} {a x y : Nat} (hx : x ≤ n) (ha : a ≤ x) : zB n g a x < zB n g a y ↔ zkey n g x < zkey n g y := by
  constructor
  · intro h
    rcases Nat.lt_or_ge (zkey n g x) (zkey n g y) with c | c
    · exact c
    · have : zB n g a y ≤ zB n g a x := by
        refine zcnt_imp (n + 1) (fun i hi q => ?_)
        simp only [decide_eq_true_eq] at q ⊢
        omega
      omega
  · exact zB_lt hx ha
theorem zB_step {n : Nat} {g : Nat → Nat} {a q : Nat} (ha : a ≤ n) : zB n g a q = zB n g (a + 1) q + (if zkey n g a < zkey n g q then 1 else 0) := by
  have h : zB n g a q = zB n g (a + 1) q + zcnt (fun r => decide (r = a ∧ zkey n g a < zkey n g q)) (n + 1) := by
    refine zcnt_add (n + 1) (fun i hi => ?_)
    simp only [decide_eq_true_eq]
    by_cases e : i = a
    · subst e
      by_cases c : zkey n g i < zkey n g q
      · rw [if_pos ⟨Nat.le_refl _, c⟩, if_neg (by omega), if_pos ⟨rfl, c⟩]
      · rw [if_neg (by omega), if_neg (by omega), if_neg (by omega)]
    · by_cases c : a ≤ i ∧ zkey n g i < zkey n g q
      · rw [if_pos c, if_pos (by omega), if_neg (by omega)]
      · rw [if_neg c, if_neg (by omega), if_neg (by omega)]
  rw [h]
  by_cases c : zkey n g a < zkey n g q
  · rw [if_pos c, zcnt_one (j := a) (n + 1) (by omega) (fun i hi => by simp only [decide_eq_true_eq]; omega)]
  · rw [if_neg c, zcnt_none (n + 1) (fun i hi => by simp only [decide_eq_true_eq]; omega)]
theorem zB_n (n : Nat) (g : Nat → Nat) (a : Nat) : zB n g a n = 0 := by
  refine zcnt_none (n + 1) (fun i hi => ?_)
  simp only [decide_eq_true_eq, zkey_n]
  omega
theorem zB_le {n : Nat} {g : Nat → Nat} {a q : Nat} (hq : q ≤ n) : zB n g a q ≤ n := by
  have h : zB n g a q < zcnt (fun _ => true) (n + 1) := by
    refine zcnt_lt (j := q) (n + 1) (by omega) (fun _ _ _ => rfl) ?_ rfl
    simp only [decide_eq_true_eq]
    omega
  rw [zcnt_all] at h
  omega
/-- the row of a suffix -/
noncomputable def zbef (n : Nat) (g : Nat → Nat) (p : Nat) : Nat := zB n g 0 p
theorem zbef_inj {n : Nat} {g : Nat → Nat} (hg : ∀ i, g i ≤ 4) (hn : n ≤ 96) {p q : Nat} (hp : p ≤ n) (hq : q ≤ n) (h : zbef n g p = zbef n g q) : p = q := by
  rcases Nat.lt_trichotomy (zkey n g p) (zkey n g q) with c | c | c
  · have := zB_lt (a := 0) hp (Nat.zero_le _) c
    unfold zbef at h
    omega
  · exact zkey_inj hg hn hp hq c
  · have := zB_lt (a := 0) hq (Nat.zero_le _) c
    unfold zbef at h
    omega
theorem zbef_le {n : Nat} {g : Nat → Nat} {p : Nat} (hp : p ≤ n) : zbef n g p ≤ n := zB_le hp
theorem zbef_sur {n : Nat} {g : Nat → Nat} (hg : ∀ i, g i ≤ 4) (hn : n ≤ 96) {i : Nat} (hi : i ≤ n) : ∃ p, p ≤ n ∧ zbef n g p = i := by
  obtain ⟨p, h1, h2⟩ := zpig (n + 1) (zbef n g) (fun p hp => by have := zbef_le (n := n) (g := g) (p := p) (by omega); omega) (fun p q hp hq e => zbef_inj hg hn (by omega) (by omega) e) i (by omega)
  exact ⟨p, by omega, h2⟩
/-- an array that holds the places in the order of their suffixes -/
def zord (n : Nat) (g : Nat → Nat) (o : Nat → Nat) : Prop := ∀ p, p ≤ n → o (zbef n g p) = p
theorem zord_at {n : Nat} {g o : Nat → Nat} (hg : ∀ i, g i ≤ 4) (hn : n ≤ 96) (ho : zord n g o) {i : Nat} (hi : i ≤ n) : o i ≤ n ∧ zbef n g (o i) = i := by
  obtain ⟨p, h1, h2⟩ := zbef_sur hg hn hi
  have h3 := ho p h1
  rw [h2] at h3
  rw [h3]
  exact ⟨h1, h2⟩
theorem zwt_zero {n : Nat} {g : Nat → Nat} {p : Nat} (h : zwt n g p = 0) : n ≤ p := by
  rcases Nat.lt_or_ge p n with c | c
  · rw [zwt_in c] at h; omega
  · exact c
/-- the row of a place, counted in two steps -/
theorem zrow {n : Nat} {g : Nat → Nat} {p : Nat} (hp : p < n) : 1 + zcnt (fun q => decide (p + 1 ≤ q ∧ zkey n g q < zkey n g p)) n = zB n g p p := by
  have h0 := zkey_pos (g := g) hp
  unfold zB
  rw [zcnt_t (k := n) (by simp only [decide_eq_true_eq, zkey_n]; omega), Nat.add_comm]
  congr 1
  refine zcnt_congr n (fun i hi => ?_)
  by_cases e : i = p
  · subst e
    rw [decide_eq_false (by omega), decide_eq_false (by omega)]
  · have : (p + 1 ≤ i ∧ zkey n g i < zkey n g p) ↔ (p ≤ i ∧ zkey n g i < zkey n g p) := by omega
    exact decide_eq_decide.mpr this
/-- the symbol before a place -/
def zsb (g : Nat → Nat) (p : Nat) : Nat := if p = 0 then 5 else g (p - 1)
/-- what row(i) answers -/
def zrowR (n : Nat) (g : Nat → Nat) (i r : Int32) : Prop := (∃ p, p ≤ n ∧ i = nI (zbef n g p) ∧ r = nI p) ∨ ((∀ p, p ≤ n → ¬ i = nI (zbef n g p)) ∧ r = -1)
theorem zrowR_one {n : Nat} {g : Nat → Nat} (hg : ∀ i, g i ≤ 4) (hn : n ≤ 96) {i r r' : Int32} (h : zrowR n g i r) (h' : zrowR n g i r') : r = r' := by
  rcases h with ⟨p, h1, h2, h3⟩ | ⟨h1, h2⟩
  · rcases h' with ⟨q, g1, g2, g3⟩ | ⟨g1, g2⟩
    · have e1 := zbef_le (g := g) h1
      have e2 := zbef_le (g := g) g1
      have e : zbef n g p = zbef n g q := (nI_eq (by omega) (by omega)).mp (h2.symm.trans g2)
      rw [h3, g3, zbef_inj hg hn h1 g1 e]
    · exact absurd h2 (g1 p h1)
  · rcases h' with ⟨q, g1, g2, g3⟩ | ⟨g1, g2⟩
    · exact absurd g2 (h1 q g1)
    · rw [h2, g2]
/-- what last(i) answers -/
def zlastR (n : Nat) (g : Nat → Nat) (i r : Int32) : Prop := (∃ p, p ≤ n ∧ i = nI (zbef n g p) ∧ r = nI (zsb g p)) ∨ ((∀ p, p ≤ n → ¬ i = nI (zbef n g p)) ∧ r = -1)
theorem zlastR_one {n : Nat} {g : Nat → Nat} (hg : ∀ i, g i ≤ 4) (hn : n ≤ 96) {i r r' : Int32} (h : zlastR n g i r) (h' : zlastR n g i r') : r = r' := by
  rcases h with ⟨p, h1, h2, h3⟩ | ⟨h1, h2⟩
  · rcases h' with ⟨q, g1, g2, g3⟩ | ⟨g1, g2⟩
    · have e1 := zbef_le (g := g) h1
      have e2 := zbef_le (g := g) g1
      have e : zbef n g p = zbef n g q := (nI_eq (by omega) (by omega)).mp (h2.symm.trans g2)
      rw [h3, g3, zbef_inj hg hn h1 g1 e]
    · exact absurd h2 (g1 p h1)
  · rcases h' with ⟨q, g1, g2, g3⟩ | ⟨g1, g2⟩
    · exact absurd g2 (h1 q g1)
    · rw [h2, g2]
end
section
/-! LIB: rows of my own over the kit's: numbers that are naturals, contracts of one shape, calls of one row -/
/-- an array with one place written -/
def zup (f : Nat → Nat) (k x : Nat) : Nat → Nat := fun j => if j = k then x else f j
theorem zup_s {f : Nat → Nat} {k x : Nat} : zup f k x k = x := if_pos rfl
theorem zup_n {f : Nat → Nat} {k x j : Nat} (h : j ≠ k) : zup f k x j = f j := if_neg h
theorem zupd (f : Nat → Nat) (k x : Nat) : upd (fun j => nI (f j)) k (nI x) = fun j => nI (zup f k x j) := by
  funext j
  by_cases h : j = k
  · subst h
    rw [pk_us, zup_s]
  · rw [pk_un h, zup_n h]
/-- one less, down to -1 -/
def zi : Nat → Int32
  | 0 => -1
  | k + 1 => nI k
theorem zi_sub (k : Nat) : nI k - 1 = zi k := by
  cases k with
  | zero => decide
  | succ k => exact nI_pred k
theorem zi_dec (k : Nat) : nI k + Int32.ofInt (-1) = zi k := by
  cases k with
  | zero => decide
  | succ k => exact pk_m1 k
theorem zinc (k : Nat) : nI k + Int32.ofInt 1 = nI (k + 1) := nI_1 k
theorem zinc3 (k : Nat) : nI k + Int32.ofInt 3 = nI (k + 3) := nI_add k 3
section ZA
variable {p : Program} {l : Launch} {e : Env} {R : Room} {s : State} {m : MethodId} {args : Array Value} {below : List Frame} {meth : Method} {c : Code} {H : Heap} {locs : List Loc} {cells slots : Nat} {Q : State → Prop}
variable {cc : ByteArray} {pc : Nat} {ls : Array Slot} {rest : List Value} {D : va_G} {cl : List vw_C} {A : Nat → Prop} {a : Nat} {tys : List (ClassId × FieldType)} {ws : va_W} {H0 : Heap}
theorem zz_top {x y : Int32} (h : x = y) (k : W p l e R s m args below meth c H locs cells slots Q (F0 m pc ls (.int y :: rest))) : W p l e R s m args below meth c H locs cells slots Q (F0 m pc ls (.int x :: rest)) := by rw [h]; exact k
theorem zz_eq (hexec : p.tables.exec = Jvm.exec) (hb : c.code = cc) {x y : Nat} {off : Int} {tgt : Nat} (hdg : decode cc pc = .ok (.if_icmp .eq off, 3)) (ht : (pc : Int) + off = (tgt : Int)) (bx : x < 2 ^ 31) (bz : y < 2 ^ 31)
    (kt : x = y → W p l e R s m args below meth c H locs cells slots Q (F0 m tgt ls rest)) (kf : ¬ x = y → W p l e R s m args below meth c H locs cells slots Q (F0 m (pc + 3) ls rest)) : W p l e R s m args below meth c H locs cells slots Q (F0 m pc ls (.int (nI y) :: .int (nI x) :: rest)) :=
  lv_icmp_eq hexec hb hdg ht (fun h => kt ((nI_eq bx bz).mp h)) (fun h => kf (fun q => h ((nI_eq bx bz).mpr q)))
theorem zz_ne (hexec : p.tables.exec = Jvm.exec) (hb : c.code = cc) {x y : Nat} {off : Int} {tgt : Nat} (hdg : decode cc pc = .ok (.if_icmp .ne off, 3)) (ht : (pc : Int) + off = (tgt : Int)) (bx : x < 2 ^ 31) (bz : y < 2 ^ 31)
    (kt : ¬ x = y → W p l e R s m args below meth c H locs cells slots Q (F0 m tgt ls rest)) (kf : x = y → W p l e R s m args below meth c H locs cells slots Q (F0 m (pc + 3) ls rest)) : W p l e R s m args below meth c H locs cells slots Q (F0 m pc ls (.int (nI y) :: .int (nI x) :: rest)) :=
  lv_icmp_ne hexec hb hdg ht (fun h => kt (fun q => h ((nI_eq bx bz).mpr q))) (fun h => kf ((nI_eq bx bz).mp h))
theorem zz_lt (hexec : p.tables.exec = Jvm.exec) (hb : c.code = cc) {x y : Nat} {off : Int} {tgt : Nat} (hdg : decode cc pc = .ok (.if_icmp .lt off, 3)) (ht : (pc : Int) + off = (tgt : Int)) (bx : x < 2 ^ 31) (bz : y < 2 ^ 31)
    (kt : x < y → W p l e R s m args below meth c H locs cells slots Q (F0 m tgt ls rest)) (kf : y ≤ x → W p l e R s m args below meth c H locs cells slots Q (F0 m (pc + 3) ls rest)) : W p l e R s m args below meth c H locs cells slots Q (F0 m pc ls (.int (nI y) :: .int (nI x) :: rest)) :=
  lv_icmp_lt hexec hb hdg ht (fun h => kt ((nI_ltI bx bz).mp h)) (fun h => kf (Nat.not_lt.mp (fun q => h ((nI_ltI bx bz).mpr q))))
theorem zz_ge (hexec : p.tables.exec = Jvm.exec) (hb : c.code = cc) {x y : Nat} {off : Int} {tgt : Nat} (hdg : decode cc pc = .ok (.if_icmp .ge off, 3)) (ht : (pc : Int) + off = (tgt : Int)) (bx : x < 2 ^ 31) (bz : y < 2 ^ 31)
    (kt : y ≤ x → W p l e R s m args below meth c H locs cells slots Q (F0 m tgt ls rest)) (kf : x < y → W p l e R s m args below meth c H locs cells slots Q (F0 m (pc + 3) ls rest)) : W p l e R s m args below meth c H locs cells slots Q (F0 m pc ls (.int (nI y) :: .int (nI x) :: rest)) :=
  lv_icmp_ge hexec hb hdg ht (fun h => kt ((nI_leI bz bx).mp h)) (fun h => kf (Nat.not_le.mp (fun q => h ((nI_leI bz bx).mpr q))))
theorem zz_gt (hexec : p.tables.exec = Jvm.exec) (hb : c.code = cc) {x y : Nat} {off : Int} {tgt : Nat} (hdg : decode cc pc = .ok (.if_icmp .gt off, 3)) (ht : (pc : Int) + off = (tgt : Int)) (bx : x < 2 ^ 31) (bz : y < 2 ^ 31)
    (kt : y < x → W p l e R s m args below meth c H locs cells slots Q (F0 m tgt ls rest)) (kf : x ≤ y → W p l e R s m args below meth c H locs cells slots Q (F0 m (pc + 3) ls rest)) : W p l e R s m args below meth c H locs cells slots Q (F0 m pc ls (.int (nI y) :: .int (nI x) :: rest)) :=
  lv_icmp_gt hexec hb hdg ht (fun h => kt ((nI_ltI bz bx).mp h)) (fun h => kf (Nat.not_lt.mp (fun q => h ((nI_ltI bz bx).mpr q))))
theorem zz_le (hexec : p.tables.exec = Jvm.exec) (hb : c.code = cc) {x y : Nat} {off : Int} {tgt : Nat} (hdg : decode cc pc = .ok (.if_icmp .le off, 3)) (ht : (pc : Int) + off = (tgt : Int)) (bx : x < 2 ^ 31) (bz : y < 2 ^ 31)
    (kt : x ≤ y → W p l e R s m args below meth c H locs cells slots Q (F0 m tgt ls rest)) (kf : y < x → W p l e R s m args below meth c H locs cells slots Q (F0 m (pc + 3) ls rest)) : W p l e R s m args below meth c H locs cells slots Q (F0 m pc ls (.int (nI y) :: .int (nI x) :: rest)) :=
  lv_icmp_le hexec hb hdg ht (fun h => kt ((nI_leI bx bz).mp h)) (fun h => kf (Nat.not_le.mp (fun q => h ((nI_leI bx bz).mpr q))))
theorem zz_eq0 (hexec : p.tables.exec = Jvm.exec) (hb : c.code = cc) {x : Nat} {off : Int} {tgt : Nat} (hdg : decode cc pc = .ok (.ifCond .eq off, 3)) (ht : (pc : Int) + off = (tgt : Int)) (bx : x < 2 ^ 31)
    (kt : x = 0 → W p l e R s m args below meth c H locs cells slots Q (F0 m tgt ls rest)) (kf : ¬ x = 0 → W p l e R s m args below meth c H locs cells slots Q (F0 m (pc + 3) ls rest)) : W p l e R s m args below meth c H locs cells slots Q (F0 m pc ls (.int (nI x) :: rest)) :=
  lv_if_eq hexec hb hdg ht (fun h => kt ((nI_eq (b := 0) bx (by decide)).mp h)) (fun h => kf (fun q => h (by rw [q]; exact nI_0)))
theorem zz_ne0 (hexec : p.tables.exec = Jvm.exec) (hb : c.code = cc) {x : Nat} {off : Int} {tgt : Nat} (hdg : decode cc pc = .ok (.ifCond .ne off, 3)) (ht : (pc : Int) + off = (tgt : Int)) (bx : x < 2 ^ 31)
    (kt : ¬ x = 0 → W p l e R s m args below meth c H locs cells slots Q (F0 m tgt ls rest)) (kf : x = 0 → W p l e R s m args below meth c H locs cells slots Q (F0 m (pc + 3) ls rest)) : W p l e R s m args below meth c H locs cells slots Q (F0 m pc ls (.int (nI x) :: rest)) :=
  lv_if_ne hexec hb hdg ht (fun h => kt (fun q => h (by rw [q]; exact nI_0))) (fun h => kf ((nI_eq (b := 0) bx (by decide)).mp h))
theorem zz_lt0 (hexec : p.tables.exec = Jvm.exec) (hb : c.code = cc) {x : Nat} {off : Int} {tgt : Nat} (hdg : decode cc pc = .ok (.ifCond .lt off, 3)) (ht : (pc : Int) + off = (tgt : Int)) (bx : x < 2 ^ 31)
    (kf : W p l e R s m args below meth c H locs cells slots Q (F0 m (pc + 3) ls rest)) : W p l e R s m args below meth c H locs cells slots Q (F0 m pc ls (.int (nI x) :: rest)) :=
  lv_if_lt hexec hb hdg ht (fun h => absurd h (nI_pos bx)) (fun _ => kf)
theorem zz_ge0 (hexec : p.tables.exec = Jvm.exec) (hb : c.code = cc) {x : Nat} {off : Int} {tgt : Nat} (hdg : decode cc pc = .ok (.ifCond .ge off, 3)) (ht : (pc : Int) + off = (tgt : Int)) (bx : x < 2 ^ 31)
    (kt : W p l e R s m args below meth c H locs cells slots Q (F0 m tgt ls rest)) : W p l e R s m args below meth c H locs cells slots Q (F0 m pc ls (.int (nI x) :: rest)) :=
  lv_if_ge hexec hb hdg ht (fun _ => kt) (fun h => absurd (nI_pos' bx) h)
theorem zz_gt0 (hexec : p.tables.exec = Jvm.exec) (hb : c.code = cc) {x : Nat} {off : Int} {tgt : Nat} (hdg : decode cc pc = .ok (.ifCond .gt off, 3)) (ht : (pc : Int) + off = (tgt : Int)) (bx : x < 2 ^ 31)
    (kt : 0 < x → W p l e R s m args below meth c H locs cells slots Q (F0 m tgt ls rest)) (kf : x = 0 → W p l e R s m args below meth c H locs cells slots Q (F0 m (pc + 3) ls rest)) : W p l e R s m args below meth c H locs cells slots Q (F0 m pc ls (.int (nI x) :: rest)) :=
  lv_if_gt hexec hb hdg ht (fun h => kt ((nI_ltI (a := 0) (by decide) bx).mp h)) (fun h => kf (Nat.eq_zero_of_not_pos (fun q => h ((nI_ltI (a := 0) (by decide) bx).mpr q))))
theorem zz_le0 (hexec : p.tables.exec = Jvm.exec) (hb : c.code = cc) {x : Nat} {off : Int} {tgt : Nat} (hdg : decode cc pc = .ok (.ifCond .le off, 3)) (ht : (pc : Int) + off = (tgt : Int)) (bx : x < 2 ^ 31)
    (kt : x = 0 → W p l e R s m args below meth c H locs cells slots Q (F0 m tgt ls rest)) (kf : 0 < x → W p l e R s m args below meth c H locs cells slots Q (F0 m (pc + 3) ls rest)) : W p l e R s m args below meth c H locs cells slots Q (F0 m pc ls (.int (nI x) :: rest)) :=
  lv_if_le hexec hb hdg ht (fun h => kt (Nat.eq_zero_of_le_zero ((nI_leI (b := 0) bx (by decide)).mp h))) (fun h => kf (Nat.pos_of_ne_zero (fun q => h (by rw [q]; exact Int32.le_refl _))))
/-- a truth as a number -/
def zb (P : Prop) [Decidable P] : Int32 := if P then nI 1 else nI 0
theorem zb_t {P : Prop} [Decidable P] (h : P) : zb P = nI 1 := if_pos h
theorem zb_f {P : Prop} [Decidable P] (h : ¬ P) : zb P = nI 0 := if_neg h
theorem zz_eqb (hexec : p.tables.exec = Jvm.exec) (hb : c.code = cc) {P : Prop} [Decidable P] {off : Int} {tgt : Nat} (hdg : decode cc pc = .ok (.ifCond .eq off, 3)) (ht : (pc : Int) + off = (tgt : Int))
    (kt : ¬ P → W p l e R s m args below meth c H locs cells slots Q (F0 m tgt ls rest)) (kf : P → W p l e R s m args below meth c H locs cells slots Q (F0 m (pc + 3) ls rest)) : W p l e R s m args below meth c H locs cells slots Q (F0 m pc ls (.int (zb P) :: rest)) :=
  lv_if_eq hexec hb hdg ht (fun h => kt (fun q => by rw [zb_t q] at h; exact absurd h (by decide))) (fun h => kf (Decidable.byContradiction (fun q => h (by rw [zb_f q]; exact nI_0))))
theorem zz_neb (hexec : p.tables.exec = Jvm.exec) (hb : c.code = cc) {P : Prop} [Decidable P] {off : Int} {tgt : Nat} (hdg : decode cc pc = .ok (.ifCond .ne off, 3)) (ht : (pc : Int) + off = (tgt : Int))
    (kt : P → W p l e R s m args below meth c H locs cells slots Q (F0 m tgt ls rest)) (kf : ¬ P → W p l e R s m args below meth c H locs cells slots Q (F0 m (pc + 3) ls rest)) : W p l e R s m args below meth c H locs cells slots Q (F0 m pc ls (.int (zb P) :: rest)) :=
  lv_if_ne hexec hb hdg ht (fun h => kt (Decidable.byContradiction (fun q => h (by rw [zb_f q]; exact nI_0)))) (fun h => kf (fun q => by rw [zb_t q] at h; exact absurd h (by decide)))
/-- int arrays of naturals -/
theorem zz_iald (hexec : p.tables.exec = Jvm.exec) (hb : c.code = cc) (hK : va_K D cl tys s) (hP : va_P D cl ws H) (q0 t0 : Nat) {cA : ClassId} {n k : Nat} {f : Nat → Nat} (ha : ws[q0]? = some (a, .inl (cA, n, .inl (fun j => nI (f j))))) (ht : tys[t0]? = some (cA, .int)) (hin : k < n) (hn : n < 2 ^ 31) (hdg : decode cc pc = .ok (.iaload, 1))
    (kk : W p l e R s m args below meth c H locs cells slots Q (F0 m (pc + 1) ls (.int (nI (f k)) :: rest))) : W p l e R s m args below meth c H locs cells slots Q (F0 m pc ls (.int (nI k) :: .ref a :: rest)) :=
  va_iald hexec hb hK hP q0 t0 ha ht (vp_in_nI hin hn) hdg (by rw [nI_clamp (by omega)]; exact kk)
theorem zz_iast (hexec : p.tables.exec = Jvm.exec) (hb : c.code = cc) (hK : va_K D cl tys s) (hP : va_P D cl ws H) (hD : va_D A ws) (hS : va_S A H0 H locs) (q0 t0 : Nat) {cA : ClassId} {n k x : Nat} {f : Nat → Nat} (ha : ws[q0]? = some (a, .inl (cA, n, .inl (fun j => nI (f j))))) (ht : tys[t0]? = some (cA, .int)) (hin : k < n) (hn : n < 2 ^ 31) (hdg : decode cc pc = .ok (.iastore, 1))
    (kk : ∀ (H1 : Heap) (locs1 : List Loc), va_P D cl (ws.set q0 (a, .inl (cA, n, .inl (fun j => nI (zup f k x j))))) H1 → va_D A (ws.set q0 (a, .inl (cA, n, .inl (fun j => nI (zup f k x j))))) → va_S A H0 H1 locs1 → W p l e R s m args below meth c H1 locs1 cells slots Q (F0 m (pc + 1) ls rest)) : W p l e R s m args below meth c H locs cells slots Q (F0 m pc ls (.int (nI x) :: .int (nI k) :: .ref a :: rest)) :=
  va_iast hexec hb hK hP hD hS q0 t0 ha ht (vp_in_nI hin hn) hdg (fun H1 locs1 h1 h2 h3 => by
    rw [nI_clamp (by omega), zupd] at h1 h2
    exact kk H1 locs1 h1 h2 h3)
theorem zz_cald (hexec : p.tables.exec = Jvm.exec) (hb : c.code = cc) (hK : va_K D cl tys s) (hP : va_P D cl ws H) (q0 t0 : Nat) {cA : ClassId} {n k : Nat} {f : Nat → Nat} (ha : ws[q0]? = some (a, .inl (cA, n, .inl (fun j => nI (f j))))) (ht : tys[t0]? = some (cA, .char)) (hin : k < n) (hn : n < 2 ^ 31) (hdg : decode cc pc = .ok (.caload, 1))
    (kk : W p l e R s m args below meth c H locs cells slots Q (F0 m (pc + 1) ls (.int (nI (f k)) :: rest))) : W p l e R s m args below meth c H locs cells slots Q (F0 m pc ls (.int (nI k) :: .ref a :: rest)) :=
  va_cald hexec hb hK hP q0 t0 ha ht (vp_in_nI hin hn) hdg (by rw [nI_clamp (by omega)]; exact kk)
theorem znarC {x : Nat} (h : x < 65536) : vp_nar .char (nI x) = nI x := by
  unfold vp_nar
  rw [(pk_charN h).1]
theorem zz_cast (hexec : p.tables.exec = Jvm.exec) (hb : c.code = cc) (hK : va_K D cl tys s) (hP : va_P D cl ws H) (hD : va_D A ws) (hS : va_S A H0 H locs) (q0 t0 : Nat) {cA : ClassId} {n k x : Nat} {f : Nat → Nat} (ha : ws[q0]? = some (a, .inl (cA, n, .inl (fun j => nI (f j))))) (ht : tys[t0]? = some (cA, .char)) (hin : k < n) (hn : n < 2 ^ 31) (hx : x < 65536) (hdg : decode cc pc = .ok (.castore, 1))
    (kk : ∀ (H1 : Heap) (locs1 : List Loc), va_P D cl (ws.set q0 (a, .inl (cA, n, .inl (fun j => nI (zup f k x j))))) H1 → va_D A (ws.set q0 (a, .inl (cA, n, .inl (fun j => nI (zup f k x j))))) → va_S A H0 H1 locs1 → W p l e R s m args below meth c H1 locs1 cells slots Q (F0 m (pc + 1) ls rest)) : W p l e R s m args below meth c H locs cells slots Q (F0 m pc ls (.int (nI x) :: .int (nI k) :: .ref a :: rest)) :=
  va_cast hexec hb hK hP hD hS q0 t0 ha ht (vp_in_nI hin hn) hdg (fun H1 locs1 h1 h2 h3 => by
    rw [nI_clamp (by omega), znarC hx, zupd] at h1 h2
    exact kk H1 locs1 h1 h2 h3)
theorem zchar {x : Nat} (h : x < 65536) : ((nI x).toUInt32 % 65536).toInt32 = nI x := by
  rw [pk_char, pk_tn (by omega), Nat.mod_eq_of_lt h]
end ZA
/-! contracts of one shape -/
/-- what stays of an environment: less is written, the tables are warmed, another state with the same tables, a heap that has changed elsewhere -/
def zEok (E : (Nat → Prop) → State → Heap → Prop) : Prop :=
  (∀ (A B : Nat → Prop) (U : State) (H : Heap), (∀ q, B q → A q) → E A U H → E B U H) ∧ (∀ (A : Nat → Prop) (s U : State) (H : Heap), s.WarmedH U.vm → E A s H → E A U H) ∧ (∀ (A : Nat → Prop) (u U : State) (H : Heap), U.vm = u.vm → E A u H → E A U H) ∧ ∀ (A : Nat → Prop) (U : State) (H H1 : Heap), (∀ a : Nat, a < H.size → ¬ A a → H1[a]? = H[a]?) → E A U H → E A U H1
def zE0 : (Nat → Prop) → State → Heap → Prop := fun _ _ _ => True
theorem zE0_ok : zEok zE0 := ⟨fun _ _ _ _ _ _ => trivial, fun _ _ _ _ _ _ => trivial, fun _ _ _ _ _ _ => trivial, fun _ _ _ _ _ _ => trivial⟩
def zPre (E : (Nat → Prop) → State → Heap → Prop) (D : va_G) (cl : List vw_C) (tys : List (ClassId × FieldType)) (av : List Value) (wc : va_W) (sz : Nat) : Array Value → State → Prop :=
  va_Pc av (fun U => U.heap.size = sz ∧ va_P D cl wc U.heap ∧ va_K D cl tys U ∧ va_D (fun _ => True) wc ∧ E (va_A wc sz) U U.heap)
theorem zBlind {E : (Nat → Prop) → State → Heap → Prop} (hE : zEok E) {D : va_G} {cl : List vw_C} {tys : List (ClassId × FieldType)} {av : List Value} {wc : va_W} {sz : Nat} : FrameBlind (zPre E D cl tys av wc sz) := by
  intro a U g mk q
  obtain ⟨q0, q1, qP, qK, qD, qE⟩ := q
  exact ⟨q0, q1, qP, va_K.moved (u := U) (U := U.calling g mk a) (Vm.Alike.refl U.vm) qK, qD, hE.2.2.1 _ U _ _ rfl qE⟩
theorem zpick {ws wc : va_W} {is : List Nat} (hC : is.map (fun i => ws[i]?) = wc.map some) : is.filterMap (fun i => ws[i]?) = wc := by
  have h := congrArg (List.filterMap id) hC
  rw [List.filterMap_map, List.filterMap_map] at h
  simpa using h
theorem zAt {E : (Nat → Prop) → State → Heap → Prop} (hE : zEok E) {D : va_G} {cl : List vw_C} {tys : List (ClassId × FieldType)} {s : State} {H : Heap} {locs : List Loc} {A : Nat → Prop} {ws wc : va_W} {av : List Value} (hP : va_P D cl ws H) (hD : va_D A ws) (hK : va_K D cl tys s) (hS : va_S A s.heap H locs) (hA : ∀ q, s.heap.size ≤ q → A q) (hEs : E A s s.heap) (is : List Nat) (hC : is.map (fun i => ws[i]?) = wc.map some) (hn : va_nd is = true) :
    ∀ U : State, U.heap = H → s.WarmedH U.vm → zPre E D cl tys av wc H.size av.toArray U := by
  intro U hU hW
  refine ⟨rfl, by rw [hU], by rw [hU]; exact hP.sub is (zpick hC), va_K.moved hW.alike hK, (hD.sub is hn hC).weaken (fun _ _ _ _ => trivial), ?_⟩
  rw [hU]
  exact hE.2.1 _ s U _ hW (hE.1 A _ s H (va_free hD hS hA is hC) (hE.2.2.2 A s s.heap H hS.2.1 hEs))
/-- a world with some of its cells put anew -/
def zSetA : List Nat → va_W → va_W → va_W
  | [], _, ws => ws
  | i :: is, w1, ws => match w1 with
    | [] => ws
    | c :: cs => zSetA is cs (ws.set i c)
abbrev zSet (ws : va_W) (is : List Nat) (w1 : va_W) : va_W := zSetA is w1 ws
theorem zSet_get : ∀ (is : List Nat) (w1 ws : va_W) (k : Nat) (q : Nat × va_E), is.length = w1.length → (zSet ws is w1)[k]? = some q → (∃ j : Nat, is[j]? = some k ∧ w1[j]? = some q) ∨ (k ∉ is ∧ ws[k]? = some q)
  | [], _, ws, k, q, _, h => Or.inr ⟨by simp, h⟩
  | i :: is, [], ws, k, q, hl, h => by simp at hl
  | i :: is, c :: cs, ws, k, q, hl, h => by
    have h : (zSet (ws.set i c) is cs)[k]? = some q := h
    rcases zSet_get is cs (ws.set i c) k q (by simpa using hl) h with ⟨j, h1, h2⟩ | ⟨h1, h2⟩
    · exact Or.inl ⟨j + 1, by simpa using h1, by simpa using h2⟩
    · by_cases e : k = i
      · subst e
        have hlt : k < ws.length := by
          have h3 := (List.getElem?_eq_some_iff.mp h2).1
          simpa using h3
        rw [List.getElem?_set_self hlt] at h2
        exact Or.inl ⟨0, by simp, by simpa using h2⟩
      · rw [List.getElem?_set_ne (Ne.symm e)] at h2
        exact Or.inr ⟨by simp [e, h1], h2⟩
theorem zJoin {A : Nat → Prop} {D : va_G} {cl : List vw_C} {ws wc w1 : va_W} {H H1 : Heap} {is : List Nat} (hP : va_P D cl ws H) (hD : va_D A ws) (hC : is.map (fun i => ws[i]?) = wc.map some) (hwf : w1.map Prod.fst = wc.map Prod.fst)
    (hk : ∀ q : Nat, q < H.size → ¬ va_A wc H.size q → H1[q]? = H[q]?) (hP1 : va_P D cl w1 H1) : va_P D cl (zSet ws is w1) H1 ∧ va_D A (zSet ws is w1) := by
  have hl1 : is.length = wc.length := by have := congrArg List.length hC; simpa using this
  have hl2 : w1.length = wc.length := by have := congrArg List.length hwf; simpa using this
  have hget := fun (k : Nat) (q : Nat × va_E) => zSet_get is w1 ws k q (by omega)
  have hC' : ∀ (j : Nat) (q : Nat × va_E), wc[j]? = some q → ∃ i : Nat, is[j]? = some i ∧ ws[i]? = some q := by
    intro j q hq
    have h1 : (is.map (fun i => ws[i]?))[j]? = some (some q) := by rw [hC, List.getElem?_map, hq]; rfl
    rw [List.getElem?_map] at h1
    cases hi : is[j]? with
    | none => rw [hi] at h1; cases h1
    | some i => rw [hi] at h1; exact ⟨i, rfl, Option.some.inj h1⟩
  have key : ∀ (k : Nat) (q : Nat × va_E), (zSet ws is w1)[k]? = some q → ∃ q0, ws[k]? = some q0 ∧ q0.1 = q.1 := by
    intro k q h
    rcases hget k q h with ⟨j, h1, h2⟩ | ⟨h1, h2⟩
    · have h3 : (w1.map Prod.fst)[j]? = some q.1 := by rw [List.getElem?_map, h2]; rfl
      rw [hwf, List.getElem?_map] at h3
      cases hw : wc[j]? with
      | none => rw [hw] at h3; cases h3
      | some q0 =>
        rw [hw] at h3
        obtain ⟨i, g1, g2⟩ := hC' j q0 hw
        rw [h1] at g1
        cases g1
        exact ⟨q0, g2, Option.some.inj h3⟩
    · exact ⟨q, h2, rfl⟩
  refine ⟨fun k q h => ?_, fun i j x y hi hj hxy => ?_, fun k q h => ?_⟩
  · rcases hget k q h with ⟨j, h1, h2⟩ | ⟨h1, h2⟩
    · exact hP1 j q h2
    · refine (hP k q h2).kept (hk q.1 ((hP k q h2).lt) (fun z => ?_))
      rcases z with ⟨j, e, z⟩ | z
      · obtain ⟨i, g1, g2⟩ := hC' j (q.1, e) z
        have := hD.1 k i q (q.1, e) h2 g2 rfl
        subst this
        exact h1 (List.mem_of_getElem? g1)
      · have := (hP k q h2).lt
        omega
  · obtain ⟨x0, h1, h2⟩ := key i x hi
    obtain ⟨y0, h3, h4⟩ := key j y hj
    exact hD.1 i j x0 y0 h1 h3 (h2.trans (hxy.trans h4.symm))
  · obtain ⟨q0, h1, h2⟩ := key k q h
    rw [← h2]
    exact hD.2 k q0 h1
section ZC
variable {p : Program} {l : Launch} {e : Env} {R : Room} {s : State} {m : MethodId} {args : Array Value} {below : List Frame} {meth : Method} {c : Code} {H : Heap} {locs : List Loc} {cells slots : Nat} {Q : State → Prop}
variable {pc : Nat} {ls : Array Slot} {rest st0 : List Value} {a : Array Value} {A : Nat → Prop} {D : va_G} {cl : List vw_C} {ws wc : va_W} {is : List Nat}
theorem zCi {S : Type} {post : Int32 → S → Prop} {wf : S → va_W} (hr : va_Run p l e R s m args below meth c H locs cells slots 0 0 (F0 m pc ls st0) rest (va_Qi post (fun u t => va_P D cl (wf u) t.heap) (va_A wc H.size) a) (va_A wc H.size)) (hP : va_P D cl ws H) (hD : va_D A ws) (hS : va_S A s.heap H locs) (hA : ∀ q, s.heap.size ≤ q → A q) (hC : is.map (fun i => ws[i]?) = wc.map some) (hwf : ∀ u, (wf u).map Prod.fst = wc.map Prod.fst)
    (kk : ∀ (r : Int32) (u : S) (H1 : Heap) (locs1 : List Loc), post r u → va_P D cl (zSet ws is (wf u)) H1 → va_D A (zSet ws is (wf u)) → va_S A s.heap H1 locs1 → W p l e R s m args below meth c H1 locs1 cells slots Q (F0 m (pc + 3) ls (.int r :: rest))) : W p l e R s m args below meth c H locs cells slots Q (F0 m pc ls st0) := by
  have hF := va_free hD hS hA is hC
  refine va_calli hr hS (fun q _ h => hF q h) hF (fun r u t H1 locs1 ht _ hw hB _ hk hS1 => ?_)
  rw [ht] at hB
  obtain ⟨h1, h2⟩ := zJoin hP hD hC (hwf u) hk hB
  exact kk r u H1 locs1 hw h1 h2 hS1
theorem zCv {S : Type} {post : S → Prop} {wf : S → va_W} (hr : va_Run p l e R s m args below meth c H locs cells slots 0 0 (F0 m pc ls st0) rest (va_Qv post (fun u t => va_P D cl (wf u) t.heap) (va_A wc H.size) a) (va_A wc H.size)) (hP : va_P D cl ws H) (hD : va_D A ws) (hS : va_S A s.heap H locs) (hA : ∀ q, s.heap.size ≤ q → A q) (hC : is.map (fun i => ws[i]?) = wc.map some) (hwf : ∀ u, (wf u).map Prod.fst = wc.map Prod.fst)
    (kk : ∀ (u : S) (H1 : Heap) (locs1 : List Loc), post u → va_P D cl (zSet ws is (wf u)) H1 → va_D A (zSet ws is (wf u)) → va_S A s.heap H1 locs1 → W p l e R s m args below meth c H1 locs1 cells slots Q (F0 m (pc + 3) ls rest)) : W p l e R s m args below meth c H locs cells slots Q (F0 m pc ls st0) := by
  have hF := va_free hD hS hA is hC
  refine va_callv hr hS (fun q _ h => hF q h) hF (fun u t H1 locs1 ht _ hw hB _ hk hS1 => ?_)
  rw [ht] at hB
  obtain ⟨h1, h2⟩ := zJoin hP hD hC (hwf u) hk hB
  exact kk u H1 locs1 hw h1 h2 hS1
/-- a method's own facts -/
def zK (p : Program) (s : State) (m : MethodId) (args : Array Value) (meth : Method) (c : Code) (cc : ByteArray) (nL : Nat) (rt : Option FieldType) (y : MethodName) (Ts : List Cond) : Prop :=
  p.tables.exec = Jvm.exec ∧ c.code = cc ∧ meth.sig.returnType = rt ∧ c.maxLocals = nL ∧ s.vm.findClass y.cls = some m.cls ∧ (∀ w ∈ Ts, w.before args s = true) ∧ meth.locks = false ∧ meth.name = y.name
theorem zMet {y : MethodName} {ws ws' : List Cond} {rm : Room} {cc : ByteArray} {maxL : Nat} {ret : Option FieldType} {av : List Value} {wc : va_W} {E : (Nat → Prop) → State → Heap → Prop} {tys : List (ClassId × FieldType)} {sz mc ms : Nat} {Qc : (Nat → Prop) → Array Value → State → Outcome → State → Prop}
    (hy : plainName y.cls = true) (hw : ws = Cond.code y cc maxL ret :: ws') (hlen : (lg_sl av).length ≤ maxL)
    (body : ∀ (p : Program) (e : Env) (s : State) (m : MethodId) (below : List Frame) (meth : Method) (c : Code) (A : Nat → Prop), zK p s m av.toArray meth c cc maxL ret y ws → (∀ q, s.heap.size ≤ q → A q) → va_K D cl tys s → E A s s.heap → ∀ (H : Heap) (locs : List Loc), va_P D cl wc H → va_D A wc → va_S A s.heap H locs → ∀ ls : Array Slot, lv_has ls maxL (lv_args 0 av) → W p l e rm s m av.toArray below meth c H locs 0 0 (MQ below (Qc A) av.toArray s mc ms A) (F0 m 0 ls [])) :
    Met l y ws rm (zPre E D cl tys av wc sz) (Qc (va_A wc sz)) mc ms (va_A wc sz) := by
  refine Met.ofW (cc := cc) (maxL := maxL) (ret := ret) hy hw ?_
  intro p e s m args below meth c s₁ B hml hv
  obtain ⟨rfl, hsz, hP, hK, hD0, hE⟩ := hv
  subst hsz
  have hl := lv_entry av (n := maxL) hlen
  rw [lg_entry_eq]
  exact body p e s m below meth c (va_A wc s.heap.size) ⟨B.exec, B.bytes, B.returns, hml, findClass_of_methodNamed B.named, atoms_spec (ws := ws) B.pre, B.notSynchronized, (name_of_methodNamed B.named B.method).1⟩ (fun q h => Or.inr h) hK hE s.heap [] hP (hD0.self) va_S.rf _ hl
theorem zIret {cc : ByteArray} {nL : Nat} {rt : FieldType} {y : MethodName} {Ts : List Cond} {S : Type} {post : Int32 → S → Prop} {wf : S → va_W} {v : Int32} (C : zK p s m args meth c cc nL (some rt) y Ts) (hS : va_S A s.heap H locs) (u : S) (hq : post v u) (hP : va_P D cl (wf u) H) (hn : narrow rt (.int v) = .int v) (hdg : decode cc pc = .ok (.ireturn, 1)) :
    W p l e R s m args below meth c H locs cells slots (MQ below (va_Qi post (fun u t => va_P D cl (wf u) t.heap) A) args s cells slots A) (F0 m pc ls [.int v]) :=
  W.zret (v := v) C.1 C.2.1 C.2.2.1 hn (fun t ht _ => ⟨⟨v, u, rfl, hq, by show va_P D cl (wf u) t.heap; rw [ht]; exact hP⟩, hS.F ht⟩) hS.2.2 hdg C.2.2.2.2.2.2.1
theorem zVret {cc : ByteArray} {nL : Nat} {y : MethodName} {Ts : List Cond} {S : Type} {post : S → Prop} {wf : S → va_W} (C : zK p s m args meth c cc nL none y Ts) (hS : va_S A s.heap H locs) (u : S) (hq : post u) (hP : va_P D cl (wf u) H) (hdg : decode cc pc = .ok (.return_, 1)) :
    W p l e R s m args below meth c H locs cells slots (MQ below (va_Qv post (fun u t => va_P D cl (wf u) t.heap) A) args s cells slots A) (F0 m pc ls []) :=
  W.vret C.1 C.2.1 C.2.2.1 (fun t ht _ => ⟨⟨u, rfl, hq, by show va_P D cl (wf u) t.heap; rw [ht]; exact hP⟩, hS.F ht⟩) hS.2.2 hdg C.2.2.2.2.2.2.1
end ZC
theorem znb {P : Prop} [Decidable P] : narrow .boolean (.int (zb P)) = .int (zb P) := by
  by_cases h : P
  · rw [zb_t h]; decide
  · rw [zb_f h]; decide
end
section
/-! PURE, second part: mismatches, hits, the primary, digits, the text -/
theorem zadd {a b c : Nat} (h : a + b = c) : nI a + nI b = nI c := by rw [nI_add, h]
theorem zincE {a c : Nat} (h : a + 1 = c) : nI a + Int32.ofInt 1 = nI c := by rw [← h]; exact nI_1 a
theorem zincE3 {a c : Nat} (h : a + 3 = c) : nI a + Int32.ofInt 3 = nI c := by rw [← h]; exact nI_add a 3
/-- mismatches of the first k bases of r at p -/
def zmm (g r : Nat → Nat) (p k : Nat) : Nat := zcnt (fun i => decide (¬ g (p + i) = r i)) k
theorem zmm_t {g r : Nat → Nat} {p k : Nat} (h : ¬ g (p + k) = r k) : zmm g r p (k + 1) = zmm g r p k + 1 := zcnt_t (by simpa using h)
theorem zmm_f {g r : Nat → Nat} {p k : Nat} (h : g (p + k) = r k) : zmm g r p (k + 1) = zmm g r p k := zcnt_f (by simpa using h)
theorem zmm_0 (g r : Nat → Nat) (p : Nat) : zmm g r p 0 = 0 := rfl
theorem zmm_le (g r : Nat → Nat) (p k : Nat) : zmm g r p k ≤ k := zcnt_le _ k
theorem zmm_mono (g r : Nat → Nat) (p : Nat) {a b : Nat} (h : a ≤ b) : zmm g r p a ≤ zmm g r p b := zcnt_mono _ h
theorem zmm_congr {g r r' : Nat → Nat} {p k : Nat} (h : ∀ i, i < k → r i = r' i) : zmm g r p k = zmm g r' p k := zcnt_congr k (fun i hi => by rw [h i hi])
/-- the first row, among the places under k, at which the read stands -/
def zfst (n : Nat) (g : Nat → Nat) (P : Nat → Prop) (k : Nat) (r : Int32) : Prop := (r = -1 ∧ ∀ p, p < k → ¬ P p) ∨ ∃ p, p < k ∧ P p ∧ r = nI (zbef n g p) ∧ ∀ q, q < k → P q → zbef n g p ≤ zbef n g q
theorem zfst_one {n k : Nat} {g : Nat → Nat} {P : Nat → Prop} {r r' : Int32} (h : zfst n g P k r) (h' : zfst n g P k r') : r = r' := by
  rcases h with ⟨h1, h2⟩ | ⟨p, h1, h2, h3, h4⟩
  · rcases h' with ⟨g1, g2⟩ | ⟨q, g1, g2, g3, g4⟩
    · rw [h1, g1]
    · exact absurd g2 (h2 q g1)
  · rcases h' with ⟨g1, g2⟩ | ⟨q, g1, g2, g3, g4⟩
    · exact absurd h2 (g2 p h1)
    · have a := h4 q g1 g2
      have b := g4 p h1 h2
      rw [h3, g3, Nat.le_antisymm a b]
theorem zfst_congr {n k : Nat} {g : Nat → Nat} {P P' : Nat → Prop} {r : Int32} (h : zfst n g P k r) (e : ∀ p, P p ↔ P' p) : zfst n g P' k r := by
  rcases h with ⟨h1, h2⟩ | ⟨p, h1, h2, h3, h4⟩
  · exact Or.inl ⟨h1, fun p hp q => h2 p hp ((e p).mpr q)⟩
  · exact Or.inr ⟨p, h1, (e p).mp h2, h3, fun q hq z => h4 q hq ((e q).mpr z)⟩
theorem zfst_skip {n k : Nat} {g : Nat → Nat} {P : Nat → Prop} {x : Int32} (h : zfst n g P k x) (hp : ¬ P k) : zfst n g P (k + 1) x := by
  rcases h with ⟨h1, h2⟩ | ⟨p, h1, h2, h3, h4⟩
  · refine Or.inl ⟨h1, fun p hq => ?_⟩
    by_cases e : p = k
    · rw [e]; exact hp
    · exact h2 p (by omega)
  · refine Or.inr ⟨p, by omega, h2, h3, fun q hq hP => ?_⟩
    by_cases e : q = k
    · rw [e] at hP; exact absurd hP hp
    · exact h4 q (by omega) hP
theorem zfst_new {n k : Nat} {g : Nat → Nat} {P : Nat → Prop} {x : Int32} (hn : n ≤ 96) (hk : k < n) (h : zfst n g P k x) (hp : P k) (hc : x < 0 ∨ ¬ x ≤ nI (zbef n g k)) : zfst n g P (k + 1) (nI (zbef n g k)) := by
  refine Or.inr ⟨k, by omega, hp, rfl, fun q hq hP => ?_⟩
  by_cases e : q = k
  · rw [e]; exact Nat.le_refl _
  · rcases h with ⟨h1, h2⟩ | ⟨p, h1, h2, h3, h4⟩
    · exact absurd hP (h2 q (by omega))
    · have b1 := zbef_le (g := g) (show p ≤ n by omega)
      have b2 := zbef_le (g := g) (show k ≤ n by omega)
      have b3 := h4 q (by omega) hP
      rcases hc with hc | hc
      · rw [h3] at hc
        exact absurd hc (nI_pos (by omega))
      · rw [h3, nI_leI (by omega) (by omega)] at hc
        omega
theorem zfst_old {n k : Nat} {g : Nat → Nat} {P : Nat → Prop} {x : Int32} (hn : n ≤ 96) (hk : k < n) (h : zfst n g P k x) (c1 : ¬ x < 0) (c2 : x ≤ nI (zbef n g k)) : zfst n g P (k + 1) x := by
  rcases h with ⟨h1, h2⟩ | ⟨p, h1, h2, h3, h4⟩
  · rw [h1] at c1
    exact absurd (by decide) c1
  · have b1 := zbef_le (g := g) (show p ≤ n by omega)
    have b2 := zbef_le (g := g) (show k ≤ n by omega)
    rw [h3, nI_leI (by omega) (by omega)] at c2
    refine Or.inr ⟨p, by omega, h2, h3, fun q hq hP => ?_⟩
    by_cases e : q = k
    · rw [e]; exact c2
    · exact h4 q (by omega) hP
theorem zrng {i : Int32} {n : Nat} (h : 0 ≤ i ∧ i < nI (n + 1)) (hn : n ≤ 96) : ∃ k, k ≤ n ∧ i = nI k := by
  rcases pk_ix i (n := n + 1) (by omega) with q | q | ⟨j, hj, rfl⟩
  · exact absurd q (Int32.not_lt.mpr h.1)
  · exact absurd h.2 (Int32.not_lt.mpr q)
  · exact ⟨j, by omega, rfl⟩
theorem zsb_le {g : Nat → Nat} (hg : ∀ i, g i ≤ 4) (p : Nat) : zsb g p ≤ 5 := by
  have := hg (p - 1)
  unfold zsb
  split <;> omega
theorem zrank_s {n : Nat} {g : Nat → Nat} (F : Nat → Bool) (hg : ∀ i, g i ≤ 4) (hn : n ≤ 96) {k p0 : Nat} (h1 : p0 ≤ n) (h2 : zbef n g p0 = k) : zcnt (fun p => F p && decide (zbef n g p < k + 1)) (n + 1) = zcnt (fun p => F p && decide (zbef n g p < k)) (n + 1) + (if F p0 = true then 1 else 0) := by
  have hs : zcnt (fun p => F p && decide (zbef n g p < k + 1)) (n + 1) = zcnt (fun p => F p && decide (zbef n g p < k)) (n + 1) + zcnt (fun p => F p && decide (p = p0)) (n + 1) := by
    refine zcnt_add (n + 1) (fun p hp => ?_)
    have e : (zbef n g p = k) ↔ p = p0 := by
      constructor
      · intro q
        exact zbef_inj hg hn (by omega) h1 (by rw [q, h2])
      · intro q
        rw [q, h2]
    simp only [Bool.and_eq_true, decide_eq_true_eq]
    by_cases f : F p = true
    · by_cases c : zbef n g p < k
      · rw [if_pos ⟨f, by omega⟩, if_pos ⟨f, c⟩, if_neg (fun q => by have := e.mpr q.2; omega)]
      · by_cases d : p = p0
        · rw [if_pos ⟨f, by have := e.mpr d; omega⟩, if_neg (fun q => c q.2), if_pos ⟨f, d⟩]
        · rw [if_neg (fun q => d (e.mp (by have := q.2; omega))), if_neg (fun q => c q.2), if_neg (fun q => d q.2)]
    · rw [if_neg (fun q => f q.1), if_neg (fun q => f q.1), if_neg (fun q => f q.1)]
  rw [hs]
  by_cases f : F p0 = true
  · rw [if_pos f, zcnt_one (P := fun p => F p && decide (p = p0)) (j := p0) (n + 1) (by omega) (fun p hp => by
      simp only [Bool.and_eq_true, decide_eq_true_eq]
      constructor
      · intro q; exact q.2
      · intro q; rw [q]; exact ⟨f, rfl⟩)]
  · rw [if_neg f, zcnt_none (P := fun p => F p && decide (p = p0)) (n + 1) (fun p hp => by
      simp only [Bool.and_eq_true, decide_eq_true_eq]
      intro q
      rw [q.2] at q
      exact f q.1)]
/-- what hit answers -/
def zhit (pl sl ml : Nat → Nat) (ch : Int32) (i t : Nat) : Int32 := if t = 0 then nI (pl i) else if t = 1 then nI (sl i) else if t = 2 then nI (ml i) else if nI i = ch then nI 1 else nI 0
/-- the base of a strand -/
def zsy (w : Nat) (r : Nat → Nat) (s k : Nat) : Nat := if s = 0 then r k else 3 - r (w - 1 - k)
theorem zsy_congr {w : Nat} {r r' : Nat → Nat} {s k : Nat} (hk : k < w) (h : ∀ i, i < w → r i = r' i) : zsy w r s k = zsy w r' s k := by
  unfold zsy
  rw [h k hk, h (w - 1 - k) (by omega)]
theorem zsy_le {w : Nat} {r : Nat → Nat} {t k : Nat} (hr3 : ∀ i, i < w → r i ≤ 3) (hk : k < w) : zsy w r t k ≤ 3 := by
  have h1 := hr3 k hk
  have h2 := hr3 (w - 1 - k) (by omega)
  unfold zsy
  split <;> omega
/-- the hits: place, strand, mismatches -/
def zh1 (g r : Nat → Nat) (w b p s : Nat) : List (Nat × Nat × Nat) := if zmm g (zsy w r s) p w ≤ b then [(p, s, zmm g (zsy w r s) p w)] else []
def zhits (g r : Nat → Nat) (w b : Nat) : Nat → List (Nat × Nat × Nat)
  | 0 => []
  | p + 1 => zhits g r w b p ++ zh1 g r w b p 0 ++ zh1 g r w b p 1
theorem zh1_len (g r : Nat → Nat) (w b p s : Nat) : (zh1 g r w b p s).length ≤ 1 := by
  unfold zh1
  split <;> simp
theorem zhits_len (g r : Nat → Nat) (w b : Nat) : ∀ p, (zhits g r w b p).length ≤ 2 * p
  | 0 => Nat.le_refl _
  | p + 1 => by
    have h := zhits_len g r w b p
    have h0 := zh1_len g r w b p 0
    have h1 := zh1_len g r w b p 1
    simp only [zhits, List.length_append]
    omega
theorem zh1_congr {g r r' : Nat → Nat} {w b p s : Nat} (h : ∀ i, i < w → r i = r' i) : zh1 g r w b p s = zh1 g r' w b p s := by
  have e : zmm g (zsy w r s) p w = zmm g (zsy w r' s) p w := zmm_congr (fun i hi => zsy_congr hi h)
  unfold zh1
  rw [e]
theorem zhits_congr {g r r' : Nat → Nat} {w b : Nat} (h : ∀ i, i < w → r i = r' i) : ∀ p, zhits g r w b p = zhits g r' w b p
  | 0 => rfl
  | p + 1 => by simp only [zhits]; rw [zhits_congr h p, zh1_congr h, zh1_congr h]
/-- how many places have room -/
def zrm (n w : Nat) : Nat := if w ≤ n then n + 1 - w else 0
/-- the primary of k hits with mismatches m: the first of the least -/
def zpri (m : Nat → Nat) : Nat → Nat
  | 0 => 0
  | k + 1 => if k = 0 ∨ m k < m (zpri m k) then k else zpri m k
/-- how many others are as good -/
def zag (m : Nat → Nat) : Nat → Nat
  | 0 => 0
  | k + 1 => if k = 0 ∨ m k < m (zpri m k) then 0 else if m k = m (zpri m k) then zag m k + 1 else zag m k
theorem zpri_lt (m : Nat → Nat) : ∀ k, 0 < k → zpri m k < k
  | 0, h => absurd h (Nat.lt_irrefl 0)
  | k + 1, _ => by
    unfold zpri
    by_cases c : k = 0 ∨ m k < m (zpri m k)
    · rw [if_pos c]; omega
    · rw [if_neg c]
      have := zpri_lt m k (by omega)
      omega
theorem zpri_min (m : Nat → Nat) : ∀ k j, j < k → m (zpri m k) ≤ m j
  | 0, _, h => absurd h (Nat.not_lt_zero _)
  | k + 1, j, h => by
    unfold zpri
    by_cases c : k = 0 ∨ m k < m (zpri m k)
    · rw [if_pos c]
      by_cases e : j = k
      · rw [e]; exact Nat.le_refl _
      · have := zpri_min m k j (by omega)
        omega
    · rw [if_neg c]
      by_cases e : j = k
      · rw [e]; omega
      · exact zpri_min m k j (by omega)
theorem zpri_congr {m m' : Nat → Nat} : ∀ k, (∀ j, j < k → m j = m' j) → zpri m k = zpri m' k
  | 0, _ => rfl
  | k + 1, h => by
    have e := zpri_congr k (fun j hj => h j (by omega))
    unfold zpri
    by_cases z : k = 0
    · rw [if_pos (Or.inl z), if_pos (Or.inl z)]
    · have h1 := zpri_lt m' k (by omega)
      rw [e, h k (by omega), h (zpri m' k) (by omega)]
theorem zag_congr {m m' : Nat → Nat} : ∀ k, (∀ j, j < k → m j = m' j) → zag m k = zag m' k
  | 0, _ => rfl
  | k + 1, h => by
    have e := zpri_congr k (fun j hj => h j (by omega))
    have e2 := zag_congr k (fun j hj => h j (by omega))
    unfold zag
    by_cases z : k = 0
    · rw [if_pos (Or.inl z), if_pos (Or.inl z)]
    · have h1 := zpri_lt m' k (by omega)
      rw [e, e2, h k (by omega), h (zpri m' k) (by omega)]
theorem zag_cnt (m : Nat → Nat) : ∀ k, 0 < k → zcnt (fun j => decide (m j = m (zpri m k))) k = zag m k + 1
  | 0, h => absurd h (Nat.lt_irrefl 0)
  | k + 1, _ => by
    by_cases c : k = 0 ∨ m k < m (zpri m k)
    · have e1 : zpri m (k + 1) = k := by rw [zpri, if_pos c]
      have e2 : zag m (k + 1) = 0 := by rw [zag, if_pos c]
      rw [e1, e2, zcnt_t (by simp), zcnt_none k (fun i hi => by
        have := zpri_min m k i hi
        simp only [decide_eq_true_eq]
        omega)]
    · have e1 : zpri m (k + 1) = zpri m k := by rw [zpri, if_neg c]
      have e2 : zag m (k + 1) = if m k = m (zpri m k) then zag m k + 1 else zag m k := by rw [zag, if_neg c]
      have h1 := zag_cnt m k (by omega)
      rw [e1, e2]
      by_cases d : m k = m (zpri m k)
      · rw [zcnt_t (by simpa using d), h1, if_pos d]
      · rw [zcnt_f (by simpa using d), h1, if_neg d]
/-- the quality of hit i of k -/
def zqu (m : Nat → Nat) (k i : Nat) : Nat := if i = zpri m k then (if k = 1 then 60 else if zag m k = 0 then 40 else if zag m k = 1 then 3 else 0) else 0
/-- the digits of n from the j-th power down; b: one has been written -/
def zdg (n : Nat) : Nat → Bool → List Nat
  | 0, _ => []
  | j + 1, b => if b = true ∨ 0 < n / 10 ^ j % 10 ∨ j = 0 then (48 + n / 10 ^ j % 10) :: zdg n j true else zdg n j false
def znum (n : Nat) : List Nat := zdg n 10 false
theorem zdg_skip {n t : Nat} (h : n / 10 ^ t < 10) (ht : t = 0 ∨ 10 ≤ n / 10 ^ (t - 1)) : ∀ k, zdg n (t + 1 + k) false = zdg n (t + 1) true
  | 0 => by
    show zdg n (t + 1) false = zdg n (t + 1) true
    unfold zdg
    rw [if_pos, if_pos (Or.inl rfl)]
    rcases ht with ht | ht
    · exact Or.inr (Or.inr ht)
    · refine Or.inr (Or.inl ?_)
      have h1 : 0 < n / 10 ^ t := by
        cases t with
        | zero => omega
        | succ t =>
          have h2 : 10 ≤ n / 10 ^ t := by simpa using ht
          rw [Nat.pow_succ, ← Nat.div_div_eq_div_mul]
          omega
      rw [Nat.mod_eq_of_lt h]
      exact h1
  | k + 1 => by
    show zdg n (t + 1 + k + 1) false = _
    have h0 : n / 10 ^ (t + 1 + k) = 0 := by
      have e : 10 ^ (t + 1 + k) = 10 ^ t * (10 * 10 ^ k) := by rw [Nat.pow_add, Nat.pow_add, Nat.pow_one, Nat.mul_assoc]
      rw [e, ← Nat.div_div_eq_div_mul]
      refine Nat.div_eq_of_lt ?_
      have : 0 < 10 ^ k := Nat.pow_pos (by decide)
      omega
    have e : zdg n (t + 1 + k + 1) false = zdg n (t + 1 + k) false := by
      rw [zdg]
      rw [if_neg (by rw [h0]; simp)]
    rw [e]
    exact zdg_skip h ht k
theorem znum_unit {n t : Nat} (ht9 : t ≤ 9) (h : n / 10 ^ t < 10) (ht : t = 0 ∨ 10 ≤ n / 10 ^ (t - 1)) : znum n = zdg n (t + 1) true := by
  have := zdg_skip h ht (9 - t)
  rw [show t + 1 + (9 - t) = 10 by omega] at this
  exact this
def zlet : Nat → Nat
  | 0 => 65
  | 1 => 67
  | 2 => 71
  | 3 => 84
  | _ => 78
def zbs (r : Nat → Nat) : Nat → List Nat
  | 0 => []
  | k + 1 => zbs r k ++ [zlet (r k)]
theorem zbs_congr {r r' : Nat → Nat} : ∀ k, (∀ i, i < k → r i = r' i) → zbs r k = zbs r' k
  | 0, _ => rfl
  | k + 1, h => by simp only [zbs]; rw [zbs_congr k (fun i hi => h i (by omega)), h k (by omega)]
/-- the differences after k bases: agreeing ones, and what is written -/
def zdf (g r : Nat → Nat) (p : Nat) : Nat → Nat × List Nat
  | 0 => (0, [])
  | k + 1 => if g (p + k) = r k then ((zdf g r p k).1 + 1, (zdf g r p k).2) else (0, (zdf g r p k).2 ++ znum (zdf g r p k).1 ++ [zlet (g (p + k))])
theorem zdf_t {g r : Nat → Nat} {p k : Nat} (h : g (p + k) = r k) : zdf g r p (k + 1) = ((zdf g r p k).1 + 1, (zdf g r p k).2) := by rw [zdf, if_pos h]
theorem zdf_f {g r : Nat → Nat} {p k : Nat} (h : ¬ g (p + k) = r k) : zdf g r p (k + 1) = (0, (zdf g r p k).2 ++ znum (zdf g r p k).1 ++ [zlet (g (p + k))]) := by rw [zdf, if_neg h]
theorem zdf_le (g r : Nat → Nat) (p : Nat) : ∀ k, (zdf g r p k).1 ≤ k
  | 0 => Nat.le_refl _
  | k + 1 => by
    have := zdf_le g r p k
    by_cases h : g (p + k) = r k
    · rw [zdf_t h]; exact Nat.succ_le_succ this
    · rw [zdf_f h]; exact Nat.zero_le _
theorem zdf_congr {g r r' : Nat → Nat} {p : Nat} : ∀ k, (∀ i, i < k → r i = r' i) → zdf g r p k = zdf g r' p k
  | 0, _ => rfl
  | k + 1, h => by simp only [zdf]; rw [zdf_congr k (fun i hi => h i (by omega)), h k (by omega)]
def zdif (g r : Nat → Nat) (p w : Nat) : List Nat := (zdf g r p w).2 ++ znum (zdf g r p w).1
/-- one hit's line -/
def zline (g r : Nat → Nat) (w no : Nat) (m : Nat → Nat) (k i : Nat) (x : Nat × Nat × Nat) : List Nat :=
  [114] ++ znum no ++ [9] ++ znum ((if x.2.1 = 1 then 16 else 0) + (if i = zpri m k then 0 else 256)) ++ [9, 103, 9] ++ znum (x.1 + 1) ++ [9] ++ znum (zqu m k i) ++ [9] ++ znum w ++ [77, 9, 42, 9, 48, 9, 48, 9] ++ (if i = zpri m k then zbs (zsy w r x.2.1) w else [42]) ++ [9, 42, 9, 78, 77, 58, 105, 58] ++ znum x.2.2 ++ [9, 77, 68, 58, 90, 58] ++ zdif g (zsy w r x.2.1) x.1 w ++ [10]
def zhead (n : Nat) : List Nat := [64, 83, 81, 9, 83, 78, 58, 103, 9, 76, 78, 58] ++ znum n ++ [10]
def znone (r : Nat → Nat) (w no : Nat) : List Nat := [114] ++ znum no ++ [9, 52, 9, 42, 9, 48, 9, 48, 9, 42, 9, 42, 9, 48, 9, 48, 9] ++ zbs r w ++ [9, 42, 10]
def zat (L : List (Nat × Nat × Nat)) (i : Nat) : Nat × Nat × Nat := L.getD i (0, 0, 0)
def zmF (L : List (Nat × Nat × Nat)) (i : Nat) : Nat := (zat L i).2.2
def zlines (g r : Nat → Nat) (w no : Nat) (L : List (Nat × Nat × Nat)) : Nat → List Nat
  | 0 => []
  | i + 1 => zlines g r w no L i ++ zline g r w no (zmF L) L.length i (zat L i)
def ztext (n : Nat) (g r : Nat → Nat) (w no : Nat) (L : List (Nat × Nat × Nat)) : List Nat := zhead n ++ (if L.length = 0 then znone r w no else zlines g r w no L L.length)
/-- an array holds a text, as far as it goes -/
def zAG (a : Nat → Nat) (L : List Nat) : Prop := ∀ i, i < L.length → i < 1500 → a i = L.getD i 0
theorem zAG_put {a : Nat → Nat} {L : List Nat} {x : Nat} (h : zAG a L) : zAG (zup a L.length x) (L ++ [x]) := by
  intro i h1 h2
  by_cases e : i = L.length
  · subst e
    rw [zup_s]
    simp
  · have h3 : i < L.length := by simp at h1; omega
    rw [zup_n e, h i h3 h2]
    simp [List.getD_eq_getElem?_getD, List.getElem?_append_left h3]
theorem zAG_over {a : Nat → Nat} {L : List Nat} {x : Nat} (h : zAG a L) (ho : 1500 ≤ L.length) : zAG a (L ++ [x]) := by
  intro i h1 h2
  have h3 : i < L.length := by omega
  rw [h i h3 h2]
  simp [List.getD_eq_getElem?_getD, List.getElem?_append_left h3]
/-- an array holds one part of each hit -/
def zAH (a : Nat → Nat) (L : List (Nat × Nat × Nat)) (f : Nat × Nat × Nat → Nat) : Prop := ∀ i, i < L.length → a i = f (zat L i)
theorem zat_in {L : List (Nat × Nat × Nat)} {x : Nat × Nat × Nat} {i : Nat} (h : i < L.length) : zat (L ++ [x]) i = zat L i := by
  simp [zat, List.getD_eq_getElem?_getD, List.getElem?_append_left h]
theorem zat_end (L : List (Nat × Nat × Nat)) (x : Nat × Nat × Nat) : zat (L ++ [x]) L.length = x := by
  simp [zat]
theorem zAH_put {a : Nat → Nat} {L : List (Nat × Nat × Nat)} {f : Nat × Nat × Nat → Nat} {x : Nat × Nat × Nat} (h : zAH a L f) : zAH (zup a L.length (f x)) (L ++ [x]) f := by
  intro i h1
  by_cases e : i = L.length
  · subst e
    rw [zup_s, zat_end]
  · have h3 : i < L.length := by simp at h1; omega
    rw [zup_n e, h i h3, zat_in h3]
end
section
/-! PURE, third part: the list of hits as it grows; lengths of texts -/
theorem zlen1 {α : Type} (T : List α) (x : α) : (T ++ [x]).length = T.length + 1 := by simp
/-- the primary, as the field holds it -/
def zprI (LL : List (Nat × Nat × Nat)) : Int32 := if LL.length = 0 then -1 else nI (zpri (zmF LL) LL.length)
theorem zprI_pos {LL : List (Nat × Nat × Nat)} (h : ¬ LL.length = 0) : zprI LL = nI (zpri (zmF LL) LL.length) := if_neg h
theorem zprI_nil {LL : List (Nat × Nat × Nat)} (h : LL.length = 0) : zprI LL = -1 := if_pos h
theorem zmF_in {LL : List (Nat × Nat × Nat)} {x : Nat × Nat × Nat} {i : Nat} (h : i < LL.length) : zmF (LL ++ [x]) i = zmF LL i := by unfold zmF; rw [zat_in h]
theorem zmF_end (LL : List (Nat × Nat × Nat)) (x : Nat × Nat × Nat) : zmF (LL ++ [x]) LL.length = x.2.2 := by unfold zmF; rw [zat_end]
theorem zpri_app (LL : List (Nat × Nat × Nat)) (x : Nat × Nat × Nat) : zpri (zmF (LL ++ [x])) (LL.length + 1) = if LL.length = 0 ∨ x.2.2 < zmF LL (zpri (zmF LL) LL.length) then LL.length else zpri (zmF LL) LL.length := by
  have e := zpri_congr LL.length (m := zmF (LL ++ [x])) (m' := zmF LL) (fun j hj => zmF_in hj)
  rw [zpri, e, zmF_end]
  by_cases z : LL.length = 0
  · rw [if_pos (Or.inl z), if_pos (Or.inl z)]
  · rw [zmF_in (zpri_lt (zmF LL) LL.length (by omega))]
theorem zag_app (LL : List (Nat × Nat × Nat)) (x : Nat × Nat × Nat) : zag (zmF (LL ++ [x])) (LL.length + 1) = if LL.length = 0 ∨ x.2.2 < zmF LL (zpri (zmF LL) LL.length) then 0 else if x.2.2 = zmF LL (zpri (zmF LL) LL.length) then zag (zmF LL) LL.length + 1 else zag (zmF LL) LL.length := by
  have e := zpri_congr LL.length (m := zmF (LL ++ [x])) (m' := zmF LL) (fun j hj => zmF_in hj)
  have e2 := zag_congr LL.length (m := zmF (LL ++ [x])) (m' := zmF LL) (fun j hj => zmF_in hj)
  rw [zag, e, e2, zmF_end]
  by_cases z : LL.length = 0
  · rw [if_pos (Or.inl z), if_pos (Or.inl z)]
  · rw [zmF_in (zpri_lt (zmF LL) LL.length (by omega))]
theorem zprI_new {LL : List (Nat × Nat × Nat)} {x : Nat × Nat × Nat} (h : LL.length = 0 ∨ x.2.2 < zmF LL (zpri (zmF LL) LL.length)) : zprI (LL ++ [x]) = nI LL.length := by
  unfold zprI
  rw [zlen1, if_neg (by omega), zpri_app, if_pos h]
theorem zprI_old {LL : List (Nat × Nat × Nat)} {x : Nat × Nat × Nat} (h0 : ¬ LL.length = 0) (h : ¬ x.2.2 < zmF LL (zpri (zmF LL) LL.length)) : zprI (LL ++ [x]) = zprI LL := by
  unfold zprI
  rw [zlen1, if_neg (by omega), zpri_app, if_neg (by omega), if_neg h0]
theorem zag_new {LL : List (Nat × Nat × Nat)} {x : Nat × Nat × Nat} (h : LL.length = 0 ∨ x.2.2 < zmF LL (zpri (zmF LL) LL.length)) : zag (zmF (LL ++ [x])) (LL ++ [x]).length = 0 := by
  rw [zlen1, zag_app, if_pos h]
theorem zag_eq {LL : List (Nat × Nat × Nat)} {x : Nat × Nat × Nat} (h0 : ¬ LL.length = 0) (h : x.2.2 = zmF LL (zpri (zmF LL) LL.length)) : zag (zmF (LL ++ [x])) (LL ++ [x]).length = zag (zmF LL) LL.length + 1 := by
  rw [zlen1, zag_app, if_neg (by omega), if_pos h]
theorem zag_ne {LL : List (Nat × Nat × Nat)} {x : Nat × Nat × Nat} (h0 : ¬ LL.length = 0) (h1 : ¬ x.2.2 < zmF LL (zpri (zmF LL) LL.length)) (h : ¬ x.2.2 = zmF LL (zpri (zmF LL) LL.length)) : zag (zmF (LL ++ [x])) (LL ++ [x]).length = zag (zmF LL) LL.length := by
  rw [zlen1, zag_app, if_neg (by omega), if_neg h]
theorem zprI_lt {LL : List (Nat × Nat × Nat)} (hl : LL.length ≤ 192) : zprI LL < 0 ↔ LL.length = 0 := by
  constructor
  · intro h
    rcases Nat.eq_zero_or_pos LL.length with z | z
    · exact z
    · have := zpri_lt (zmF LL) LL.length z
      rw [zprI_pos (by omega)] at h
      exact absurd h (nI_pos (by omega))
  · intro h
    rw [zprI_nil h]
    decide
theorem zprI_at {LL : List (Nat × Nat × Nat)} (hl : LL.length ≤ 192) {i : Nat} (hi : i < LL.length) : nI i = zprI LL ↔ i = zpri (zmF LL) LL.length := by
  have := zpri_lt (zmF LL) LL.length (by omega)
  rw [zprI_pos (by omega)]
  exact nI_eq (by omega) (by omega)
/-- every hit's place has room, its strand is 0 or 1, its mismatches are few -/
def zok (n w b : Nat) (LL : List (Nat × Nat × Nat)) : Prop := ∀ i, i < LL.length → (zat LL i).1 + w ≤ n ∧ (zat LL i).2.1 ≤ 1 ∧ (zat LL i).2.2 ≤ b
theorem zok_put {n w b : Nat} {LL : List (Nat × Nat × Nat)} {x : Nat × Nat × Nat} (h : zok n w b LL) (h1 : x.1 + w ≤ n) (h2 : x.2.1 ≤ 1) (h3 : x.2.2 ≤ b) : zok n w b (LL ++ [x]) := by
  intro i hi
  by_cases e : i = LL.length
  · subst e
    rw [zat_end]
    exact ⟨h1, h2, h3⟩
  · have h4 : i < LL.length := by rw [zlen1] at hi; omega
    rw [zat_in h4]
    exact h i h4
theorem zok_mF {n w b : Nat} {LL : List (Nat × Nat × Nat)} (h : zok n w b LL) {i : Nat} (hi : i < LL.length) : zmF LL i ≤ b := (h i hi).2.2
theorem zh1_yes {g r : Nat → Nat} {w b p s : Nat} (h : zmm g (zsy w r s) p w ≤ b) : zh1 g r w b p s = [(p, s, zmm g (zsy w r s) p w)] := if_pos h
theorem zh1_no {g r : Nat → Nat} {w b p s : Nat} (h : ¬ zmm g (zsy w r s) p w ≤ b) : zh1 g r w b p s = [] := if_neg h
/-- the hits up to a place, and the first s strands there -/
def zhs (g r : Nat → Nat) (w b p : Nat) : Nat → List (Nat × Nat × Nat)
  | 0 => zhits g r w b p
  | s + 1 => zhs g r w b p s ++ zh1 g r w b p s
theorem zhs_2 (g r : Nat → Nat) (w b p : Nat) : zhs g r w b p 2 = zhits g r w b (p + 1) := rfl
theorem zhs_len (g r : Nat → Nat) (w b p : Nat) : ∀ s, (zhs g r w b p s).length ≤ 2 * p + s
  | 0 => zhits_len g r w b p
  | s + 1 => by
    have h := zhs_len g r w b p s
    have h1 := zh1_len g r w b p s
    simp only [zhs, List.length_append]
    omega
theorem zdg_len (n : Nat) : ∀ j b, (zdg n j b).length ≤ j
  | 0, _ => Nat.le_refl _
  | j + 1, b => by
    have h1 := zdg_len n j true
    have h2 := zdg_len n j false
    unfold zdg
    split
    · simp only [List.length_cons]; omega
    · omega
theorem znum_len (n : Nat) : (znum n).length ≤ 10 := zdg_len n 10 false
theorem zbs_len (r : Nat → Nat) : ∀ k, (zbs r k).length = k
  | 0 => rfl
  | k + 1 => by simp only [zbs, List.length_append, zbs_len r k, List.length_cons, List.length_nil]
theorem zdf_len (g r : Nat → Nat) (p : Nat) : ∀ k, (zdf g r p k).2.length ≤ 11 * k
  | 0 => Nat.le_refl _
  | k + 1 => by
    have h := zdf_len g r p k
    have h2 := znum_len (zdf g r p k).1
    by_cases c : g (p + k) = r k
    · rw [zdf_t c]; show (zdf g r p k).2.length ≤ _; omega
    · rw [zdf_f c]
      simp only [List.length_append, List.length_cons, List.length_nil]
      omega
theorem zdif_len (g r : Nat → Nat) (p w : Nat) : (zdif g r p w).length ≤ 11 * w + 10 := by
  have h := zdf_len g r p w
  have h2 := znum_len (zdf g r p w).1
  unfold zdif
  rw [List.length_append]
  omega
theorem zlet_lt (b : Nat) : zlet b < 128 := by
  unfold zlet
  split <;> decide
theorem zdg_lt (n : Nat) : ∀ j b, ∀ x ∈ zdg n j b, x < 128
  | 0, _, x, h => by cases h
  | j + 1, b, x, h => by
    unfold zdg at h
    split at h
    · rcases List.mem_cons.mp h with e | e
      · have := Nat.mod_lt (n / 10 ^ j) (show 10 > 0 by decide)
        omega
      · exact zdg_lt n j true x e
    · exact zdg_lt n j false x h
/-- the powers of ten, and 0 behind them -/
def zpw : Nat → Nat
  | 0 => 0
  | j + 1 => 10 ^ j
theorem zpw_div (j : Nat) : 10 ^ j / 10 = zpw j := by
  cases j with
  | zero => rfl
  | succ j => rw [Nat.pow_succ, Nat.mul_div_cancel _ (by decide)]; rfl
theorem zdg_true (n j : Nat) : zdg n (j + 1) true = (48 + n / 10 ^ j % 10) :: zdg n j true := by
  rw [zdg, if_pos (Or.inl rfl)]
theorem zgetD_lt {T : List Nat} (h : ∀ x ∈ T, x < 128) (k : Nat) : T.getD k 0 < 128 := by
  rcases Nat.lt_or_ge k T.length with q | q
  · rw [List.getD_eq_getElem?_getD, List.getElem?_eq_getElem q]
    exact h _ (List.getElem_mem q)
  · rw [List.getD_eq_getElem?_getD, List.getElem?_eq_none q]
    decide
/-- one strand at one place -/
def zt1 (g q : Nat → Nat) (w b p t : Nat) : List (Nat × Nat × Nat) := if zmm g q p w ≤ b then [(p, t, zmm g q p w)] else []
theorem zt1_len (g q : Nat → Nat) (w b p t : Nat) : (zt1 g q w b p t).length ≤ 1 := by
  unfold zt1
  split <;> simp
theorem zt1_0 (g r : Nat → Nat) (w b p : Nat) : zt1 g r w b p 0 = zh1 g r w b p 0 := by
  unfold zt1 zh1
  rw [show zsy w r 0 = r from funext (fun k => if_pos rfl)]
theorem zt1_1 {g r tt : Nat → Nat} {w : Nat} (h : ∀ i, i < w → tt i = 3 - r (w - 1 - i)) (b p : Nat) : zt1 g tt w b p 1 = zh1 g r w b p 1 := by
  have e : zmm g tt p w = zmm g (zsy w r 1) p w := zmm_congr (fun i hi => by rw [h i hi]; exact (if_neg (by decide)).symm)
  unfold zt1 zh1
  rw [e]
theorem zrm_iff {n w : Nat} (hw : 0 < w) (k : Nat) : k < zrm n w ↔ k + w ≤ n := by
  unfold zrm
  split <;> omega
/-- characters of seven bits -/
def zlt (L : List Nat) : Prop := ∀ x ∈ L, x < 128
theorem zlt_app {L M : List Nat} (h : zlt L) (k : zlt M) : zlt (L ++ M) := fun x hx => (List.mem_append.mp hx).elim (h x) (k x)
theorem zlt_num (n : Nat) : zlt (znum n) := zdg_lt n 10 false
theorem zlt_bs (r : Nat → Nat) : ∀ k, zlt (zbs r k)
  | 0 => fun x h => by cases h
  | k + 1 => zlt_app (zlt_bs r k) (fun x h => by rw [List.mem_singleton.mp h]; exact zlet_lt _)
theorem zlt_df (g r : Nat → Nat) (p : Nat) : ∀ k, zlt (zdf g r p k).2
  | 0 => fun x h => by cases h
  | k + 1 => by
    by_cases c : g (p + k) = r k
    · rw [zdf_t c]; exact zlt_df g r p k
    · rw [zdf_f c]; exact zlt_app (zlt_app (zlt_df g r p k) (zlt_num _)) (fun x h => by rw [List.mem_singleton.mp h]; exact zlet_lt _)
theorem zlt_dif (g r : Nat → Nat) (p w : Nat) : zlt (zdif g r p w) := zlt_app (zlt_df g r p w) (zlt_num _)
theorem zlt_lit {L : List Nat} (h : L.all (fun x => decide (x < 128)) = true) : zlt L := fun x hx => by
  have := List.all_eq_true.mp h x hx
  simpa using this
theorem zlt_line (g r : Nat → Nat) (w no : Nat) (m : Nat → Nat) (k i : Nat) (x : Nat × Nat × Nat) : zlt (zline g r w no m k i x) := by
  unfold zline
  refine zlt_app (zlt_app (zlt_app (zlt_app (zlt_app (zlt_app (zlt_app (zlt_app (zlt_app (zlt_app (zlt_app (zlt_app (zlt_app (zlt_app (zlt_app (zlt_app (zlt_lit rfl) (zlt_num _)) (zlt_lit rfl)) (zlt_num _)) (zlt_lit rfl)) (zlt_num _)) (zlt_lit rfl)) (zlt_num _)) (zlt_lit rfl)) (zlt_num _)) (zlt_lit rfl)) ?_) (zlt_lit rfl)) (zlt_num _)) (zlt_lit rfl)) (zlt_dif _ _ _ _)) (zlt_lit rfl)
  split
  · exact zlt_bs _ _
  · exact zlt_lit rfl
theorem zlt_lines (g r : Nat → Nat) (w no : Nat) (L : List (Nat × Nat × Nat)) : ∀ k, zlt (zlines g r w no L k)
  | 0 => fun x h => by cases h
  | k + 1 => zlt_app (zlt_lines g r w no L k) (zlt_line _ _ _ _ _ _ _ _)
theorem zlt_text (n : Nat) (g r : Nat → Nat) (w no : Nat) (L : List (Nat × Nat × Nat)) : zlt (ztext n g r w no L) := by
  unfold ztext zhead znone
  refine zlt_app (zlt_app (zlt_app (zlt_lit rfl) (zlt_num _)) (zlt_lit rfl)) ?_
  split
  · exact zlt_app (zlt_app (zlt_app (zlt_app (zlt_lit rfl) (zlt_num _)) (zlt_lit rfl)) (zlt_bs _ _)) (zlt_lit rfl)
  · exact zlt_lines _ _ _ _ _ _
theorem zline_len {g r : Nat → Nat} {w : Nat} (hw : w ≤ 24) (no : Nat) (m : Nat → Nat) (k i : Nat) (x : Nat × Nat × Nat) : (zline g r w no m k i x).length ≤ 700 := by
  have h1 := znum_len no
  have h2 := znum_len ((if x.2.1 = 1 then 16 else 0) + (if i = zpri m k then 0 else 256))
  have h3 := znum_len (x.1 + 1)
  have h4 := znum_len (zqu m k i)
  have h5 := znum_len w
  have h6 := znum_len x.2.2
  have h7 := zdif_len g (zsy w r x.2.1) x.1 w
  have h8 : (if i = zpri m k then zbs (zsy w r x.2.1) w else [42]).length ≤ 24 := by
    split
    · rw [zbs_len]; exact hw
    · decide
  unfold zline
  simp only [List.length_append, List.length_cons, List.length_nil]
  omega
theorem zlines_len {g r : Nat → Nat} {w : Nat} (hw : w ≤ 24) (no : Nat) (L : List (Nat × Nat × Nat)) : ∀ k, (zlines g r w no L k).length ≤ 700 * k
  | 0 => Nat.le_refl _
  | k + 1 => by
    have h := zlines_len (g := g) (r := r) hw no L k
    have h2 := zline_len (g := g) (r := r) hw no (zmF L) L.length k (zat L k)
    simp only [zlines, List.length_append]
    omega
theorem zhead_len (n : Nat) : (zhead n).length ≤ 23 := by
  have := znum_len n
  unfold zhead
  simp only [List.length_append, List.length_cons, List.length_nil]
  omega
theorem znone_len {r : Nat → Nat} {w : Nat} (hw : w ≤ 24) (no : Nat) : (znone r w no).length ≤ 100 := by
  have := znum_len no
  unfold znone
  simp only [List.length_append, List.length_cons, List.length_nil, zbs_len]
  omega
theorem zlines_mono (g r : Nat → Nat) (w no : Nat) (L : List (Nat × Nat × Nat)) {a b : Nat} (h : a ≤ b) : (zlines g r w no L a).length ≤ (zlines g r w no L b).length := by
  induction b with
  | zero => rw [show a = 0 by omega]; exact Nat.le_refl _
  | succ b ih =>
    rcases Nat.lt_or_ge b a with q | q
    · rw [show a = b + 1 by omega]; exact Nat.le_refl _
    · have := ih q
      simp only [zlines, List.length_append]
      omega
theorem zline_congr {g r r' : Nat → Nat} {w : Nat} (h : ∀ i, i < w → r i = r' i) (no : Nat) (m : Nat → Nat) (k i : Nat) (x : Nat × Nat × Nat) : zline g r w no m k i x = zline g r' w no m k i x := by
  have e1 : zbs (zsy w r x.2.1) w = zbs (zsy w r' x.2.1) w := zbs_congr w (fun i hi => zsy_congr hi h)
  have e2 : zdif g (zsy w r x.2.1) x.1 w = zdif g (zsy w r' x.2.1) x.1 w := by
    unfold zdif
    rw [zdf_congr w (fun i hi => zsy_congr hi h)]
  unfold zline
  rw [e1, e2]
theorem zlines_congr {g r r' : Nat → Nat} {w : Nat} (h : ∀ i, i < w → r i = r' i) (no : Nat) (L : List (Nat × Nat × Nat)) : ∀ k, zlines g r w no L k = zlines g r' w no L k
  | 0 => rfl
  | k + 1 => by simp only [zlines]; rw [zlines_congr h no L k, zline_congr h]
theorem ztext_congr {n : Nat} {g r r' : Nat → Nat} {w : Nat} (h : ∀ i, i < w → r i = r' i) (no : Nat) (L : List (Nat × Nat × Nat)) : ztext n g r w no L = ztext n g r' w no L := by
  unfold ztext znone
  rw [zbs_congr w h, zlines_congr h]
theorem zrm_le (n w : Nat) (hw : 0 < w) : zrm n w ≤ n := by
  unfold zrm
  split <;> omega
theorem ztext_len {n : Nat} {g r : Nat → Nat} {w : Nat} (hw : w ≤ 24) (no : Nat) {L : List (Nat × Nat × Nat)} (hL : L.length ≤ 192) : (ztext n g r w no L).length ≤ 200000 := by
  have h1 := zhead_len n
  have h2 := znone_len (r := r) hw no
  have h3 := zlines_len (g := g) (r := r) hw no L L.length
  unfold ztext
  rw [List.length_append]
  split <;> omega
theorem zpow1 (j : Nat) : 10 ^ j = 1 ↔ j = 0 := by
  cases j with
  | zero => simp
  | succ j =>
    have : 0 < 10 ^ j := Nat.pow_pos (by decide)
    rw [Nat.pow_succ]
    omega
theorem zdg_yes {n j : Nat} {b : Bool} (h : b = true ∨ 0 < n / 10 ^ j % 10 ∨ j = 0) : zdg n (j + 1) b = (48 + n / 10 ^ j % 10) :: zdg n j true := by
  rw [zdg, if_pos h]
theorem zdg_no {n j : Nat} {b : Bool} (h : ¬ (b = true ∨ 0 < n / 10 ^ j % 10 ∨ j = 0)) : zdg n (j + 1) b = zdg n j false := by
  rw [zdg, if_neg h]
/-- what stands between the head and the lines -/
def zmid (r : Nat → Nat) (w no : Nat) (L : List (Nat × Nat × Nat)) : List Nat := if L.length = 0 then znone r w no else []
theorem ztext_mid (n : Nat) (g r : Nat → Nat) (w no : Nat) (L : List (Nat × Nat × Nat)) : ztext n g r w no L = zhead n ++ zmid r w no L ++ zlines g r w no L L.length := by
  unfold ztext zmid
  by_cases h : L.length = 0
  · rw [if_pos h, if_pos h, h, show zlines g r w no L 0 = [] from rfl, List.append_nil]
  · rw [if_neg h, if_neg h, List.append_nil]
theorem zmid_len {r : Nat → Nat} {w : Nat} (hw : w ≤ 24) (no : Nat) (L : List (Nat × Nat × Nat)) : (zmid r w no L).length ≤ 100 := by
  have := znone_len (r := r) hw no
  unfold zmid
  split
  · exact this
  · exact Nat.zero_le _
end
section
/-! MAKING: arrays of a known kind, constructors -/
def zz0 : Nat → Nat := fun _ => 0
section ZN
variable {p : Program} {l : Launch} {e : Env} {R : Room} {s : State} {m : MethodId} {args : Array Value} {below : List Frame} {meth : Method} {c : Code} {H : Heap} {locs : List Loc} {cells slots : Nat} {Q : State → Prop}
variable {cc : ByteArray} {pc : Nat} {ls : Array Slot} {rest st0 : List Value} {D : va_G} {cl : List vw_C} {A : Nat → Prop} {a : Array Value} {tys : List (ClassId × FieldType)} {ws wc wr : va_W}
theorem zNewI (hexec : p.tables.exec = Jvm.exec) (hb : c.code = cc) (harr : (Cond.arrayClass .int).before args s = true) (hK : va_K D cl tys s) (t0 : Nat) {cA : ClassId} (ht : tys[t0]? = some (cA, .int)) (hP : va_P D cl ws H) (hD : va_D A ws) (hS : va_S A s.heap H locs) (hA : ∀ q, s.heap.size ≤ q → A q)
    {n : Nat} (hn : n ≤ 100000) (hcells : cells + 1 ≤ R.cells) (hslots : slots + n ≤ R.slots) (hdg : decode cc pc = .ok (.newarray .int, 2))
    (kk : ∀ (q : Nat) (H1 : Heap), va_P D cl (ws ++ [(q, .inl (cA, n, .inl (fun j => nI (zz0 j))))]) H1 → va_D A (ws ++ [(q, .inl (cA, n, .inl (fun j => nI (zz0 j))))]) → va_S A s.heap H1 locs →
      W p l e R s m args below meth c H1 locs (cells + 1) (slots + n) Q (F0 m (pc + 2) ls (.ref q :: rest))) : W p l e R s m args below meth c H locs cells slots Q (F0 m pc ls (.int (nI n) :: rest)) := by
  refine va_newa (atype := .int) (a0 := (n, .inl (fun j => nI (zz0 j)))) hexec hb harr rfl hK hP hD hS hA (fun cA => rfl) (nI_pos (by omega)) (nI_clamp (by omega)) (by show n * 4 ≤ 536870912; omega) hcells hslots hdg (fun q cA' H1 hK1 hP1 hD1 hS1 => ?_)
  have h1 : s.vm.findClass ("[" ++ FieldType.int.toString) = some cA := (hK.2 t0 _ ht).2
  have h2 : s.vm.findClass ("[" ++ FieldType.int.toString) = some cA' := (hK1.2 tys.length (cA', newarray.typeOf .int) (by simp)).2
  have e : cA' = cA := Option.some.inj (h2.symm.trans h1)
  subst e
  exact kk q H1 hP1 hD1 hS1
theorem zNewC (hexec : p.tables.exec = Jvm.exec) (hb : c.code = cc) (harr : (Cond.arrayClass .char).before args s = true) (hK : va_K D cl tys s) (t0 : Nat) {cA : ClassId} (ht : tys[t0]? = some (cA, .char)) (hP : va_P D cl ws H) (hD : va_D A ws) (hS : va_S A s.heap H locs) (hA : ∀ q, s.heap.size ≤ q → A q)
    {n : Nat} (hn : n ≤ 100000) (hcells : cells + 1 ≤ R.cells) (hslots : slots + n ≤ R.slots) (hdg : decode cc pc = .ok (.newarray .char, 2))
    (kk : ∀ (q : Nat) (H1 : Heap), va_P D cl (ws ++ [(q, .inl (cA, n, .inl (fun j => nI (zz0 j))))]) H1 → va_D A (ws ++ [(q, .inl (cA, n, .inl (fun j => nI (zz0 j))))]) → va_S A s.heap H1 locs →
      W p l e R s m args below meth c H1 locs (cells + 1) (slots + n) Q (F0 m (pc + 2) ls (.ref q :: rest))) : W p l e R s m args below meth c H locs cells slots Q (F0 m pc ls (.int (nI n) :: rest)) := by
  refine va_newa (atype := .char) (a0 := (n, .inl (fun j => nI (zz0 j)))) hexec hb harr rfl hK hP hD hS hA (fun cA => rfl) (nI_pos (by omega)) (nI_clamp (by omega)) (by show n * 2 ≤ 536870912; omega) hcells hslots hdg (fun q cA' H1 hK1 hP1 hD1 hS1 => ?_)
  have h1 : s.vm.findClass ("[" ++ FieldType.char.toString) = some cA := (hK.2 t0 _ ht).2
  have h2 : s.vm.findClass ("[" ++ FieldType.char.toString) = some cA' := (hK1.2 tys.length (cA', newarray.typeOf .char) (by simp)).2
  have e : cA' = cA := Option.some.inj (h2.symm.trans h1)
  subst e
  exact kk q H1 hP1 hD1 hS1
theorem zCn {S : Type} {post : S → Prop} {wf : S → va_W} {mc ms : Nat} (hr : va_Run p l e R s m args below meth c H locs cells slots mc ms (F0 m pc ls st0) rest (va_Qv post (fun u t => va_P D cl (wf u) t.heap ∧ va_D (va_A wc H.size) (wf u)) (va_A wc H.size) a) (va_A wc H.size)) (hP : va_P D cl ws H) (hD : va_D A ws) (hS : va_S A s.heap H locs) (hA : ∀ q, s.heap.size ≤ q → A q) (isC isR : List Nat) (hC : isC.map (fun i => ws[i]?) = wc.map some) (hR : isR.map (fun i => ws[i]?) = wr.map some) (hn : va_nd isR = true) (hdis : ∀ i ∈ isR, i ∉ isC)
    (kk : ∀ (u : S) (H1 : Heap) (locs1 : List Loc), post u → va_P D cl (wr ++ wf u) H1 → va_D A (wr ++ wf u) → va_S A s.heap H1 locs1 → W p l e R s m args below meth c H1 locs1 (cells + mc) (slots + ms) Q (F0 m (pc + 3) ls rest)) : W p l e R s m args below meth c H locs cells slots Q (F0 m pc ls st0) := by
  have hF := va_free hD hS hA isC hC
  refine va_callv hr hS (fun q _ h => hF q h) hF (fun u t H1 locs1 ht _ hw hB _ hk hS1 => ?_)
  obtain ⟨hB1, hB2⟩ := hB
  rw [ht] at hB1
  obtain ⟨h1, h2⟩ := va_join hP hD isC isR hC hR hn hdis hk hF hB1 hB2
  exact kk u H1 locs1 hw h1 h2 hS1
theorem zVretN {nL : Nat} {y : MethodName} {Ts : List Cond} {S : Type} {post : S → Prop} {wf : S → va_W} (C : zK p s m args meth c cc nL none y Ts) (hS : va_S A s.heap H locs) (u : S) (hq : post u) (hP : va_P D cl (wf u) H) (hD : va_D A (wf u)) (hdg : decode cc pc = .ok (.return_, 1)) :
    W p l e R s m args below meth c H locs cells slots (MQ below (va_Qv post (fun u t => va_P D cl (wf u) t.heap ∧ va_D A (wf u)) A) args s cells slots A) (F0 m pc ls []) :=
  W.vret C.1 C.2.1 C.2.2.1 (fun t ht _ => ⟨⟨u, rfl, hq, by show va_P D cl (wf u) t.heap; rw [ht]; exact hP, hD⟩, hS.F ht⟩) hS.2.2 hdg C.2.2.2.2.2.2.1
end ZN
end
section
/-! WORDS: each by its place -/
theorem inUX0 : ∀ w ∈ u_ws RX0 TX0 2, w ∈ zT := by decide +kernel
theorem inUX1 : ∀ w ∈ u_ws RX1 TX1 6, w ∈ zT := by decide +kernel
theorem inUX2 : ∀ w ∈ u_ws RX2 TX2 2, w ∈ zT := by decide +kernel
theorem inUX3 : ∀ w ∈ u_ws RX3 TX3 2, w ∈ zT := by decide +kernel
theorem inUX4 : ∀ w ∈ u_ws RX4 TX4 4, w ∈ zT := by decide +kernel
theorem inUX5 : ∀ w ∈ u_ws RX5 TX5 7, w ∈ zT := by decide +kernel
theorem inUX6 : ∀ w ∈ u_ws RX6 TX6 19, w ∈ zT := by decide +kernel
theorem mw_oi : Cond.code objectInit ⟨#[0xb1]⟩ 1 none ∈ zT := zin 44 (by decide +kernel) (by decide +kernel)
theorem mw_0 : (Cond.selects "StrandMapper$SortedSuffixes" ⟨"StrandMapper$SortedSuffixes", "sort", "()V"⟩ ⟨"StrandMapper$SortedSuffixes", "sort", "()V"⟩ : Cond) ∈ zT := zin 0 (by decide +kernel) (by decide +kernel)
theorem mw_1 : (Cond.selects "StrandMapper$SortedSuffixes" ⟨"StrandMapper$SortedSuffixes", "insert", "(I)V"⟩ ⟨"StrandMapper$SortedSuffixes", "insert", "(I)V"⟩ : Cond) ∈ zT := zin 1 (by decide +kernel) (by decide +kernel)
theorem mw_2 : (Cond.selects "StrandMapper$Mapping" ⟨"StrandMapper$Mapping", "tryStrand", "(LStrandMapper$Bases;ILStrandMapper$Bases;II)V"⟩ ⟨"StrandMapper$Mapping", "tryStrand", "(LStrandMapper$Bases;ILStrandMapper$Bases;II)V"⟩ : Cond) ∈ zT := zin 2 (by decide +kernel) (by decide +kernel)
theorem mw_5 : (Cond.selects "StrandMapperModel" ⟨"StrandMapperModel", "before", "(I)I"⟩ ⟨"StrandMapperModel", "before", "(I)I"⟩ : Cond) ∈ zT := zin 5 (by decide +kernel) (by decide +kernel)
theorem mw_6 : (Cond.selects "StrandMapperModel" ⟨"StrandMapperModel", "less", "(II)Z"⟩ ⟨"StrandMapperModel", "less", "(II)Z"⟩ : Cond) ∈ zT := zin 6 (by decide +kernel) (by decide +kernel)
theorem mw_7 : (Cond.selects "StrandMapperModel" ⟨"StrandMapperModel", "weight", "(I)I"⟩ ⟨"StrandMapperModel", "weight", "(I)I"⟩ : Cond) ∈ zT := zin 7 (by decide +kernel) (by decide +kernel)
theorem mw_8 : (Cond.selects "StrandMapperModel" ⟨"StrandMapperModel", "starts", "(I)Z"⟩ ⟨"StrandMapperModel", "starts", "(I)Z"⟩ : Cond) ∈ zT := zin 8 (by decide +kernel) (by decide +kernel)
theorem mw_9 : (Cond.selects "StrandMapperModel" ⟨"StrandMapperModel", "seek", "(I)V"⟩ ⟨"StrandMapperModel", "seek", "(I)V"⟩ : Cond) ∈ zT := zin 9 (by decide +kernel) (by decide +kernel)
theorem mw_10 : (Cond.selects "StrandMapperModel" ⟨"StrandMapperModel", "differ", "(II)I"⟩ ⟨"StrandMapperModel", "differ", "(II)I"⟩ : Cond) ∈ zT := zin 10 (by decide +kernel) (by decide +kernel)
theorem mw_11 : (Cond.selects "StrandMapperModel" ⟨"StrandMapperModel", "symbol", "(II)I"⟩ ⟨"StrandMapperModel", "symbol", "(II)I"⟩ : Cond) ∈ zT := zin 11 (by decide +kernel) (by decide +kernel)
theorem mw_12 : (Cond.selects "StrandMapperModel" ⟨"StrandMapperModel", "head", "()V"⟩ ⟨"StrandMapperModel", "head", "()V"⟩ : Cond) ∈ zT := zin 12 (by decide +kernel) (by decide +kernel)
theorem mw_13 : (Cond.selects "StrandMapperModel" ⟨"StrandMapperModel", "put", "(I)V"⟩ ⟨"StrandMapperModel", "put", "(I)V"⟩ : Cond) ∈ zT := zin 13 (by decide +kernel) (by decide +kernel)
theorem mw_14 : (Cond.selects "StrandMapperModel" ⟨"StrandMapperModel", "tab", "()V"⟩ ⟨"StrandMapperModel", "tab", "()V"⟩ : Cond) ∈ zT := zin 14 (by decide +kernel) (by decide +kernel)
theorem mw_15 : (Cond.selects "StrandMapperModel" ⟨"StrandMapperModel", "pair", "(II)V"⟩ ⟨"StrandMapperModel", "pair", "(II)V"⟩ : Cond) ∈ zT := zin 15 (by decide +kernel) (by decide +kernel)
theorem mw_16 : (Cond.selects "StrandMapperModel" ⟨"StrandMapperModel", "putNumber", "(I)V"⟩ ⟨"StrandMapperModel", "putNumber", "(I)V"⟩ : Cond) ∈ zT := zin 16 (by decide +kernel) (by decide +kernel)
theorem mw_17 : (Cond.selects "StrandMapperModel" ⟨"StrandMapperModel", "putHit", "(I)V"⟩ ⟨"StrandMapperModel", "putHit", "(I)V"⟩ : Cond) ∈ zT := zin 17 (by decide +kernel) (by decide +kernel)
theorem mw_18 : (Cond.selects "StrandMapperModel" ⟨"StrandMapperModel", "quality", "(I)I"⟩ ⟨"StrandMapperModel", "quality", "(I)I"⟩ : Cond) ∈ zT := zin 18 (by decide +kernel) (by decide +kernel)
theorem mw_19 : (Cond.selects "StrandMapperModel" ⟨"StrandMapperModel", "noMate", "()V"⟩ ⟨"StrandMapperModel", "noMate", "()V"⟩ : Cond) ∈ zT := zin 19 (by decide +kernel) (by decide +kernel)
theorem mw_20 : (Cond.selects "StrandMapperModel" ⟨"StrandMapperModel", "putRead", "(I)V"⟩ ⟨"StrandMapperModel", "putRead", "(I)V"⟩ : Cond) ∈ zT := zin 20 (by decide +kernel) (by decide +kernel)
theorem mw_21 : (Cond.selects "StrandMapperModel" ⟨"StrandMapperModel", "putBase", "(I)V"⟩ ⟨"StrandMapperModel", "putBase", "(I)V"⟩ : Cond) ∈ zT := zin 21 (by decide +kernel) (by decide +kernel)
theorem mw_22 : (Cond.selects "StrandMapperModel" ⟨"StrandMapperModel", "putDifferences", "(II)V"⟩ ⟨"StrandMapperModel", "putDifferences", "(II)V"⟩ : Cond) ∈ zT := zin 22 (by decide +kernel) (by decide +kernel)
theorem mw_23 : (Cond.selects "StrandMapperModel" ⟨"StrandMapperModel", "putNothing", "()V"⟩ ⟨"StrandMapperModel", "putNothing", "()V"⟩ : Cond) ∈ zT := zin 23 (by decide +kernel) (by decide +kernel)
theorem mw_24 : (Cond.selects "StrandMapperModel" ⟨"StrandMapperModel", "keep", "()V"⟩ ⟨"StrandMapperModel", "keep", "()V"⟩ : Cond) ∈ zT := zin 24 (by decide +kernel) (by decide +kernel)
theorem mw_27 : (Cond.initialized "StrandMapper$Bases" : Cond) ∈ zT := zin 27 (by decide +kernel) (by decide +kernel)
theorem mw_28 : (Cond.initialized "StrandMapper$SortedSuffixes" : Cond) ∈ zT := zin 28 (by decide +kernel) (by decide +kernel)
theorem mw_29 : (Cond.initialized "StrandMapper$Mapping" : Cond) ∈ zT := zin 29 (by decide +kernel) (by decide +kernel)
theorem mw_30 : (Cond.initialized "StrandMapper$HitList" : Cond) ∈ zT := zin 30 (by decide +kernel) (by decide +kernel)
theorem mw_32 : (Cond.initialized "StrandMapperModel" : Cond) ∈ zT := zin 32 (by decide +kernel) (by decide +kernel)
theorem mw_51 : (Cond.fieldLink "StrandMapper$Bases" 9 "StrandMapper$Bases" "symbols" "[I" : Cond) ∈ zT := zin 51 (by decide +kernel) (by decide +kernel)
theorem mw_54 : (Cond.fieldLink "StrandMapper$Bases" 15 "StrandMapper$Bases" "used" "I" : Cond) ∈ zT := zin 54 (by decide +kernel) (by decide +kernel)
theorem mw_71 : (Cond.fieldLink "StrandMapper$SortedSuffixes" 9 "StrandMapper$SortedSuffixes" "genome" "LStrandMapper$Bases;" : Cond) ∈ zT := zin 71 (by decide +kernel) (by decide +kernel)
theorem mw_72 : (Cond.fieldLink "StrandMapper$SortedSuffixes" 15 "StrandMapper$SortedSuffixes" "rowOfPlace" "[I" : Cond) ∈ zT := zin 72 (by decide +kernel) (by decide +kernel)
theorem mw_73 : (Cond.fieldLink "StrandMapper$SortedSuffixes" 19 "StrandMapper$SortedSuffixes" "order" "[I" : Cond) ∈ zT := zin 73 (by decide +kernel) (by decide +kernel)
theorem mw_74 : (Cond.fieldLink "StrandMapper$SortedSuffixes" 22 "StrandMapper$SortedSuffixes" "sorted" "Z" : Cond) ∈ zT := zin 74 (by decide +kernel) (by decide +kernel)
theorem mw_97 : (Cond.instanceMethod ⟨"StrandMapper$HitList", "empty", "()V"⟩ : Cond) ∈ zT := zin 97 (by decide +kernel) (by decide +kernel)
theorem mw_98 : (Cond.selects "StrandMapper$HitList" ⟨"StrandMapper$HitList", "empty", "()V"⟩ ⟨"StrandMapper$HitList", "empty", "()V"⟩ : Cond) ∈ zT := zin 98 (by decide +kernel) (by decide +kernel)
theorem mw_99 : (Cond.code ⟨"StrandMapper$HitList", "empty", "()V"⟩ prog_3_method_2_code 1 (Option.none : Option Jvm.ClassFile.FieldType) : Cond) ∈ zT := zin 99 (by decide +kernel) (by decide +kernel)
theorem mw_100 : (Cond.fieldLink "StrandMapper$HitList" 9 "StrandMapper$HitList" "places" "[I" : Cond) ∈ zT := zin 100 (by decide +kernel) (by decide +kernel)
theorem mw_103 : (Cond.fieldLink "StrandMapper$HitList" 15 "StrandMapper$HitList" "strands" "[I" : Cond) ∈ zT := zin 103 (by decide +kernel) (by decide +kernel)
theorem mw_106 : (Cond.fieldLink "StrandMapper$HitList" 18 "StrandMapper$HitList" "mismatches" "[I" : Cond) ∈ zT := zin 106 (by decide +kernel) (by decide +kernel)
theorem mw_109 : (Cond.fieldLink "StrandMapper$HitList" 24 "StrandMapper$HitList" "amount" "I" : Cond) ∈ zT := zin 109 (by decide +kernel) (by decide +kernel)
theorem mw_112 : (Cond.fieldLink "StrandMapper$HitList" 28 "StrandMapper$HitList" "primary" "I" : Cond) ∈ zT := zin 112 (by decide +kernel) (by decide +kernel)
theorem mw_115 : (Cond.fieldLink "StrandMapper$HitList" 31 "StrandMapper$HitList" "asGoodAsPrimary" "I" : Cond) ∈ zT := zin 115 (by decide +kernel) (by decide +kernel)
theorem mw_145 : (Cond.fieldLink "StrandMapper$Mapping" 10 "StrandMapper$Mapping" "found" "LStrandMapper$HitList;" : Cond) ∈ zT := zin 145 (by decide +kernel) (by decide +kernel)
theorem mw_154 : (Cond.fieldLink "StrandMapper" 14 "StrandMapper" "genome" "LStrandMapper$Bases;" : Cond) ∈ zT := zin 154 (by decide +kernel) (by decide +kernel)
theorem mw_155 : (Cond.fieldLink "StrandMapper" 23 "StrandMapper" "suffixes" "LStrandMapper$SortedSuffixes;" : Cond) ∈ zT := zin 155 (by decide +kernel) (by decide +kernel)
theorem mw_156 : (Cond.fieldLink "StrandMapper" 27 "StrandMapper" "read" "LStrandMapper$Bases;" : Cond) ∈ zT := zin 156 (by decide +kernel) (by decide +kernel)
theorem mw_157 : (Cond.fieldLink "StrandMapper" 30 "StrandMapper" "turned" "LStrandMapper$Bases;" : Cond) ∈ zT := zin 157 (by decide +kernel) (by decide +kernel)
theorem mw_158 : (Cond.fieldLink "StrandMapper" 36 "StrandMapper" "latest" "LStrandMapper$Mapping;" : Cond) ∈ zT := zin 158 (by decide +kernel) (by decide +kernel)
theorem mw_160 : (Cond.fieldLink "StrandMapper" 43 "StrandMapper" "mappingsDone" "I" : Cond) ∈ zT := zin 160 (by decide +kernel) (by decide +kernel)
theorem mw_180 : (Cond.methodLink "StrandMapper" 47 ⟨"StrandMapper$Bases", "isFull", "()Z"⟩ : Cond) ∈ zT := zin 180 (by decide +kernel) (by decide +kernel)
theorem mw_181 : (Cond.instanceMethod ⟨"StrandMapper$Bases", "isFull", "()Z"⟩ : Cond) ∈ zT := zin 181 (by decide +kernel) (by decide +kernel)
theorem mw_182 : (Cond.selects "StrandMapper$Bases" ⟨"StrandMapper$Bases", "isFull", "()Z"⟩ ⟨"StrandMapper$Bases", "isFull", "()Z"⟩ : Cond) ∈ zT := zin 182 (by decide +kernel) (by decide +kernel)
theorem mw_183 : (Cond.code ⟨"StrandMapper$Bases", "isFull", "()Z"⟩ prog_2_method_2_code 1 (Option.some Jvm.ClassFile.FieldType.boolean) : Cond) ∈ zT := zin 183 (by decide +kernel) (by decide +kernel)
theorem mw_184 : (Cond.methodLink "StrandMapper" 51 ⟨"StrandMapper$Bases", "append", "(I)V"⟩ : Cond) ∈ zT := zin 184 (by decide +kernel) (by decide +kernel)
theorem mw_185 : (Cond.instanceMethod ⟨"StrandMapper$Bases", "append", "(I)V"⟩ : Cond) ∈ zT := zin 185 (by decide +kernel) (by decide +kernel)
theorem mw_186 : (Cond.selects "StrandMapper$Bases" ⟨"StrandMapper$Bases", "append", "(I)V"⟩ ⟨"StrandMapper$Bases", "append", "(I)V"⟩ : Cond) ∈ zT := zin 186 (by decide +kernel) (by decide +kernel)
theorem mw_187 : (Cond.code ⟨"StrandMapper$Bases", "append", "(I)V"⟩ prog_2_method_3_code 2 (Option.none : Option Jvm.ClassFile.FieldType) : Cond) ∈ zT := zin 187 (by decide +kernel) (by decide +kernel)
theorem mw_188 : (Cond.methodLink "StrandMapper$Bases" 19 ⟨"StrandMapper$Bases", "isFull", "()Z"⟩ : Cond) ∈ zT := zin 188 (by decide +kernel) (by decide +kernel)
theorem mw_189 : (Cond.methodLink "StrandMapper" 54 ⟨"StrandMapper$SortedSuffixes", "forget", "()V"⟩ : Cond) ∈ zT := zin 189 (by decide +kernel) (by decide +kernel)
theorem mw_190 : (Cond.instanceMethod ⟨"StrandMapper$SortedSuffixes", "forget", "()V"⟩ : Cond) ∈ zT := zin 190 (by decide +kernel) (by decide +kernel)
theorem mw_191 : (Cond.selects "StrandMapper$SortedSuffixes" ⟨"StrandMapper$SortedSuffixes", "forget", "()V"⟩ ⟨"StrandMapper$SortedSuffixes", "forget", "()V"⟩ : Cond) ∈ zT := zin 191 (by decide +kernel) (by decide +kernel)
theorem mw_192 : (Cond.code ⟨"StrandMapper$SortedSuffixes", "forget", "()V"⟩ prog_6_method_2_code 1 (Option.none : Option Jvm.ClassFile.FieldType) : Cond) ∈ zT := zin 192 (by decide +kernel) (by decide +kernel)
theorem mw_197 : (Cond.methodLink "StrandMapper" 57 ⟨"StrandMapper$Bases", "empty", "()V"⟩ : Cond) ∈ zT := zin 197 (by decide +kernel) (by decide +kernel)
theorem mw_198 : (Cond.instanceMethod ⟨"StrandMapper$Bases", "empty", "()V"⟩ : Cond) ∈ zT := zin 198 (by decide +kernel) (by decide +kernel)
theorem mw_199 : (Cond.selects "StrandMapper$Bases" ⟨"StrandMapper$Bases", "empty", "()V"⟩ ⟨"StrandMapper$Bases", "empty", "()V"⟩ : Cond) ∈ zT := zin 199 (by decide +kernel) (by decide +kernel)
theorem mw_200 : (Cond.code ⟨"StrandMapper$Bases", "empty", "()V"⟩ prog_2_method_4_code 1 (Option.none : Option Jvm.ClassFile.FieldType) : Cond) ∈ zT := zin 200 (by decide +kernel) (by decide +kernel)
theorem mw_213 : (Cond.methodLink "StrandMapper" 60 ⟨"StrandMapper$Bases", "becomeTurned", "(LStrandMapper$Bases;)V"⟩ : Cond) ∈ zT := zin 213 (by decide +kernel) (by decide +kernel)
theorem mw_214 : (Cond.instanceMethod ⟨"StrandMapper$Bases", "becomeTurned", "(LStrandMapper$Bases;)V"⟩ : Cond) ∈ zT := zin 214 (by decide +kernel) (by decide +kernel)
theorem mw_215 : (Cond.selects "StrandMapper$Bases" ⟨"StrandMapper$Bases", "becomeTurned", "(LStrandMapper$Bases;)V"⟩ ⟨"StrandMapper$Bases", "becomeTurned", "(LStrandMapper$Bases;)V"⟩ : Cond) ∈ zT := zin 215 (by decide +kernel) (by decide +kernel)
theorem mw_216 : (Cond.code ⟨"StrandMapper$Bases", "becomeTurned", "(LStrandMapper$Bases;)V"⟩ prog_2_method_5_code 3 (Option.none : Option Jvm.ClassFile.FieldType) : Cond) ∈ zT := zin 216 (by decide +kernel) (by decide +kernel)
theorem mw_217 : (Cond.methodLink "StrandMapper$Bases" 23 ⟨"StrandMapper$Bases", "empty", "()V"⟩ : Cond) ∈ zT := zin 217 (by decide +kernel) (by decide +kernel)
theorem mw_218 : (Cond.methodLink "StrandMapper$Bases" 26 ⟨"StrandMapper$Bases", "append", "(I)V"⟩ : Cond) ∈ zT := zin 218 (by decide +kernel) (by decide +kernel)
theorem mw_227 : (Cond.methodLink "StrandMapper" 66 ⟨"StrandMapper$SortedSuffixes", "hasRow", "(I)Z"⟩ : Cond) ∈ zT := zin 227 (by decide +kernel) (by decide +kernel)
theorem mw_228 : (Cond.instanceMethod ⟨"StrandMapper$SortedSuffixes", "hasRow", "(I)Z"⟩ : Cond) ∈ zT := zin 228 (by decide +kernel) (by decide +kernel)
theorem mw_229 : (Cond.selects "StrandMapper$SortedSuffixes" ⟨"StrandMapper$SortedSuffixes", "hasRow", "(I)Z"⟩ ⟨"StrandMapper$SortedSuffixes", "hasRow", "(I)Z"⟩ : Cond) ∈ zT := zin 229 (by decide +kernel) (by decide +kernel)
theorem mw_230 : (Cond.code ⟨"StrandMapper$SortedSuffixes", "hasRow", "(I)Z"⟩ prog_6_method_4_code 2 (Option.some Jvm.ClassFile.FieldType.boolean) : Cond) ∈ zT := zin 230 (by decide +kernel) (by decide +kernel)
theorem mw_231 : (Cond.methodLink "StrandMapper$SortedSuffixes" 32 ⟨"StrandMapper$SortedSuffixes", "rows", "()I"⟩ : Cond) ∈ zT := zin 231 (by decide +kernel) (by decide +kernel)
theorem mw_232 : (Cond.instanceMethod ⟨"StrandMapper$SortedSuffixes", "rows", "()I"⟩ : Cond) ∈ zT := zin 232 (by decide +kernel) (by decide +kernel)
theorem mw_233 : (Cond.selects "StrandMapper$SortedSuffixes" ⟨"StrandMapper$SortedSuffixes", "rows", "()I"⟩ ⟨"StrandMapper$SortedSuffixes", "rows", "()I"⟩ : Cond) ∈ zT := zin 233 (by decide +kernel) (by decide +kernel)
theorem mw_234 : (Cond.code ⟨"StrandMapper$SortedSuffixes", "rows", "()I"⟩ prog_6_method_3_code 1 (Option.some Jvm.ClassFile.FieldType.int) : Cond) ∈ zT := zin 234 (by decide +kernel) (by decide +kernel)
theorem mw_235 : (Cond.methodLink "StrandMapper" 70 ⟨"StrandMapper$SortedSuffixes", "placeOfRow", "(I)I"⟩ : Cond) ∈ zT := zin 235 (by decide +kernel) (by decide +kernel)
theorem mw_236 : (Cond.instanceMethod ⟨"StrandMapper$SortedSuffixes", "placeOfRow", "(I)I"⟩ : Cond) ∈ zT := zin 236 (by decide +kernel) (by decide +kernel)
theorem mw_237 : (Cond.selects "StrandMapper$SortedSuffixes" ⟨"StrandMapper$SortedSuffixes", "placeOfRow", "(I)I"⟩ ⟨"StrandMapper$SortedSuffixes", "placeOfRow", "(I)I"⟩ : Cond) ∈ zT := zin 237 (by decide +kernel) (by decide +kernel)
theorem mw_238 : (Cond.code ⟨"StrandMapper$SortedSuffixes", "placeOfRow", "(I)I"⟩ prog_6_method_5_code 2 (Option.some Jvm.ClassFile.FieldType.int) : Cond) ∈ zT := zin 238 (by decide +kernel) (by decide +kernel)
theorem mw_239 : (Cond.methodLink "StrandMapper$SortedSuffixes" 36 ⟨"StrandMapper$SortedSuffixes", "sort", "()V"⟩ : Cond) ∈ zT := zin 239 (by decide +kernel) (by decide +kernel)
theorem mw_241 : (Cond.instanceMethod ⟨"StrandMapper$SortedSuffixes", "sort", "()V"⟩ : Cond) ∈ zT := zin 241 (by decide +kernel) (by decide +kernel)
theorem mw_242 : (Cond.code ⟨"StrandMapper$SortedSuffixes", "sort", "()V"⟩ prog_6_method_7_code 2 (Option.none : Option Jvm.ClassFile.FieldType) : Cond) ∈ zT := zin 242 (by decide +kernel) (by decide +kernel)
theorem mw_243 : (Cond.methodLink "StrandMapper$SortedSuffixes" 46 ⟨"StrandMapper$SortedSuffixes", "insert", "(I)V"⟩ : Cond) ∈ zT := zin 243 (by decide +kernel) (by decide +kernel)
theorem mw_245 : (Cond.instanceMethod ⟨"StrandMapper$SortedSuffixes", "insert", "(I)V"⟩ : Cond) ∈ zT := zin 245 (by decide +kernel) (by decide +kernel)
theorem mw_246 : (Cond.code ⟨"StrandMapper$SortedSuffixes", "insert", "(I)V"⟩ prog_6_method_8_code 8 (Option.none : Option Jvm.ClassFile.FieldType) : Cond) ∈ zT := zin 246 (by decide +kernel) (by decide +kernel)
theorem mw_251 : (Cond.methodLink "StrandMapper" 74 ⟨"StrandMapper$SortedSuffixes", "symbolBefore", "(I)I"⟩ : Cond) ∈ zT := zin 251 (by decide +kernel) (by decide +kernel)
theorem mw_252 : (Cond.instanceMethod ⟨"StrandMapper$SortedSuffixes", "symbolBefore", "(I)I"⟩ : Cond) ∈ zT := zin 252 (by decide +kernel) (by decide +kernel)
theorem mw_253 : (Cond.selects "StrandMapper$SortedSuffixes" ⟨"StrandMapper$SortedSuffixes", "symbolBefore", "(I)I"⟩ ⟨"StrandMapper$SortedSuffixes", "symbolBefore", "(I)I"⟩ : Cond) ∈ zT := zin 253 (by decide +kernel) (by decide +kernel)
theorem mw_254 : (Cond.code ⟨"StrandMapper$SortedSuffixes", "symbolBefore", "(I)I"⟩ prog_6_method_6_code 3 (Option.some Jvm.ClassFile.FieldType.int) : Cond) ∈ zT := zin 254 (by decide +kernel) (by decide +kernel)
theorem mw_255 : (Cond.methodLink "StrandMapper$SortedSuffixes" 39 ⟨"StrandMapper$SortedSuffixes", "placeOfRow", "(I)I"⟩ : Cond) ∈ zT := zin 255 (by decide +kernel) (by decide +kernel)
theorem mw_260 : (Cond.methodLink "StrandMapper" 77 ⟨"StrandMapper$SortedSuffixes", "rows", "()I"⟩ : Cond) ∈ zT := zin 260 (by decide +kernel) (by decide +kernel)
theorem mw_265 : (Cond.methodLink "StrandMapper" 81 ⟨"StrandMapper$Bases", "holdsAt", "(ILStrandMapper$Bases;)Z"⟩ : Cond) ∈ zT := zin 265 (by decide +kernel) (by decide +kernel)
theorem mw_266 : (Cond.instanceMethod ⟨"StrandMapper$Bases", "holdsAt", "(ILStrandMapper$Bases;)Z"⟩ : Cond) ∈ zT := zin 266 (by decide +kernel) (by decide +kernel)
theorem mw_267 : (Cond.selects "StrandMapper$Bases" ⟨"StrandMapper$Bases", "holdsAt", "(ILStrandMapper$Bases;)Z"⟩ ⟨"StrandMapper$Bases", "holdsAt", "(ILStrandMapper$Bases;)Z"⟩ : Cond) ∈ zT := zin 267 (by decide +kernel) (by decide +kernel)
theorem mw_268 : (Cond.code ⟨"StrandMapper$Bases", "holdsAt", "(ILStrandMapper$Bases;)Z"⟩ prog_2_method_7_code 3 (Option.some Jvm.ClassFile.FieldType.boolean) : Cond) ∈ zT := zin 268 (by decide +kernel) (by decide +kernel)
theorem mw_269 : (Cond.methodLink "StrandMapper$Bases" 30 ⟨"StrandMapper$Bases", "hasRoomAt", "(ILStrandMapper$Bases;)Z"⟩ : Cond) ∈ zT := zin 269 (by decide +kernel) (by decide +kernel)
theorem mw_270 : (Cond.instanceMethod ⟨"StrandMapper$Bases", "hasRoomAt", "(ILStrandMapper$Bases;)Z"⟩ : Cond) ∈ zT := zin 270 (by decide +kernel) (by decide +kernel)
theorem mw_271 : (Cond.selects "StrandMapper$Bases" ⟨"StrandMapper$Bases", "hasRoomAt", "(ILStrandMapper$Bases;)Z"⟩ ⟨"StrandMapper$Bases", "hasRoomAt", "(ILStrandMapper$Bases;)Z"⟩ : Cond) ∈ zT := zin 271 (by decide +kernel) (by decide +kernel)
theorem mw_272 : (Cond.code ⟨"StrandMapper$Bases", "hasRoomAt", "(ILStrandMapper$Bases;)Z"⟩ prog_2_method_6_code 3 (Option.some Jvm.ClassFile.FieldType.boolean) : Cond) ∈ zT := zin 272 (by decide +kernel) (by decide +kernel)
theorem mw_273 : (Cond.methodLink "StrandMapper$Bases" 34 ⟨"StrandMapper$Bases", "mismatchesAt", "(ILStrandMapper$Bases;I)I"⟩ : Cond) ∈ zT := zin 273 (by decide +kernel) (by decide +kernel)
theorem mw_274 : (Cond.instanceMethod ⟨"StrandMapper$Bases", "mismatchesAt", "(ILStrandMapper$Bases;I)I"⟩ : Cond) ∈ zT := zin 274 (by decide +kernel) (by decide +kernel)
theorem mw_275 : (Cond.selects "StrandMapper$Bases" ⟨"StrandMapper$Bases", "mismatchesAt", "(ILStrandMapper$Bases;I)I"⟩ ⟨"StrandMapper$Bases", "mismatchesAt", "(ILStrandMapper$Bases;I)I"⟩ : Cond) ∈ zT := zin 275 (by decide +kernel) (by decide +kernel)
theorem mw_276 : (Cond.code ⟨"StrandMapper$Bases", "mismatchesAt", "(ILStrandMapper$Bases;I)I"⟩ prog_2_method_8_code 6 (Option.some Jvm.ClassFile.FieldType.int) : Cond) ∈ zT := zin 276 (by decide +kernel) (by decide +kernel)
theorem mw_289 : (Cond.methodLink "StrandMapper$Mapping" 23 ⟨"StrandMapper$HitList", "empty", "()V"⟩ : Cond) ∈ zT := zin 289 (by decide +kernel) (by decide +kernel)
theorem mw_290 : (Cond.methodLink "StrandMapper$Mapping" 32 ⟨"StrandMapper$Bases", "hasRoomAt", "(ILStrandMapper$Bases;)Z"⟩ : Cond) ∈ zT := zin 290 (by decide +kernel) (by decide +kernel)
theorem mw_291 : (Cond.methodLink "StrandMapper$Mapping" 36 ⟨"StrandMapper$Mapping", "tryStrand", "(LStrandMapper$Bases;ILStrandMapper$Bases;II)V"⟩ : Cond) ∈ zT := zin 291 (by decide +kernel) (by decide +kernel)
theorem mw_293 : (Cond.instanceMethod ⟨"StrandMapper$Mapping", "tryStrand", "(LStrandMapper$Bases;ILStrandMapper$Bases;II)V"⟩ : Cond) ∈ zT := zin 293 (by decide +kernel) (by decide +kernel)
theorem mw_294 : (Cond.code ⟨"StrandMapper$Mapping", "tryStrand", "(LStrandMapper$Bases;ILStrandMapper$Bases;II)V"⟩ prog_5_method_3_code 7 (Option.none : Option Jvm.ClassFile.FieldType) : Cond) ∈ zT := zin 294 (by decide +kernel) (by decide +kernel)
theorem mw_295 : (Cond.methodLink "StrandMapper$Mapping" 40 ⟨"StrandMapper$Bases", "mismatchesAt", "(ILStrandMapper$Bases;I)I"⟩ : Cond) ∈ zT := zin 295 (by decide +kernel) (by decide +kernel)
theorem mw_296 : (Cond.methodLink "StrandMapper$Mapping" 44 ⟨"StrandMapper$HitList", "append", "(III)V"⟩ : Cond) ∈ zT := zin 296 (by decide +kernel) (by decide +kernel)
theorem mw_297 : (Cond.instanceMethod ⟨"StrandMapper$HitList", "append", "(III)V"⟩ : Cond) ∈ zT := zin 297 (by decide +kernel) (by decide +kernel)
theorem mw_298 : (Cond.selects "StrandMapper$HitList" ⟨"StrandMapper$HitList", "append", "(III)V"⟩ ⟨"StrandMapper$HitList", "append", "(III)V"⟩ : Cond) ∈ zT := zin 298 (by decide +kernel) (by decide +kernel)
theorem mw_299 : (Cond.code ⟨"StrandMapper$HitList", "append", "(III)V"⟩ prog_3_method_3_code 4 (Option.none : Option Jvm.ClassFile.FieldType) : Cond) ∈ zT := zin 299 (by decide +kernel) (by decide +kernel)
theorem mw_438 : (Cond.fieldLink "StrandMapperModel" 7 "StrandMapperModel" "genome" "[I" : Cond) ∈ zT := zin 438 (by decide +kernel) (by decide +kernel)
theorem mw_439 : (Cond.fieldLink "StrandMapperModel" 45 "StrandMapperModel" "bases" "I" : Cond) ∈ zT := zin 439 (by decide +kernel) (by decide +kernel)
theorem mw_440 : (Cond.fieldLink "StrandMapperModel" 13 "StrandMapperModel" "text" "[I" : Cond) ∈ zT := zin 440 (by decide +kernel) (by decide +kernel)
theorem mw_441 : (Cond.fieldLink "StrandMapperModel" 48 "StrandMapperModel" "width" "I" : Cond) ∈ zT := zin 441 (by decide +kernel) (by decide +kernel)
theorem mw_442 : (Cond.fieldLink "StrandMapperModel" 117 "StrandMapperModel" "found" "I" : Cond) ∈ zT := zin 442 (by decide +kernel) (by decide +kernel)
theorem mw_443 : (Cond.fieldLink "StrandMapperModel" 16 "StrandMapperModel" "places" "[I" : Cond) ∈ zT := zin 443 (by decide +kernel) (by decide +kernel)
theorem mw_444 : (Cond.fieldLink "StrandMapperModel" 19 "StrandMapperModel" "strands" "[I" : Cond) ∈ zT := zin 444 (by decide +kernel) (by decide +kernel)
theorem mw_445 : (Cond.fieldLink "StrandMapperModel" 22 "StrandMapperModel" "misses" "[I" : Cond) ∈ zT := zin 445 (by decide +kernel) (by decide +kernel)
theorem mw_446 : (Cond.fieldLink "StrandMapperModel" 25 "StrandMapperModel" "chief" "I" : Cond) ∈ zT := zin 446 (by decide +kernel) (by decide +kernel)
theorem mw_447 : (Cond.fieldLink "StrandMapperModel" 73 "StrandMapperModel" "many" "I" : Cond) ∈ zT := zin 447 (by decide +kernel) (by decide +kernel)
theorem mw_448 : (Cond.fieldLink "StrandMapperModel" 29 "StrandMapperModel" "newPlaces" "[I" : Cond) ∈ zT := zin 448 (by decide +kernel) (by decide +kernel)
theorem mw_449 : (Cond.fieldLink "StrandMapperModel" 32 "StrandMapperModel" "newStrands" "[I" : Cond) ∈ zT := zin 449 (by decide +kernel) (by decide +kernel)
theorem mw_450 : (Cond.fieldLink "StrandMapperModel" 35 "StrandMapperModel" "newMisses" "[I" : Cond) ∈ zT := zin 450 (by decide +kernel) (by decide +kernel)
theorem mw_451 : (Cond.fieldLink "StrandMapperModel" 76 "StrandMapperModel" "newChief" "I" : Cond) ∈ zT := zin 451 (by decide +kernel) (by decide +kernel)
theorem mw_452 : (Cond.fieldLink "StrandMapperModel" 120 "StrandMapperModel" "letters" "I" : Cond) ∈ zT := zin 452 (by decide +kernel) (by decide +kernel)
theorem mw_453 : (Cond.fieldLink "StrandMapperModel" 38 "StrandMapperModel" "lines" "[C" : Cond) ∈ zT := zin 453 (by decide +kernel) (by decide +kernel)
theorem mw_454 : (Cond.fieldLink "StrandMapperModel" 82 "StrandMapperModel" "drawn" "I" : Cond) ∈ zT := zin 454 (by decide +kernel) (by decide +kernel)
theorem mw_455 : (Cond.fieldLink "StrandMapperModel" 42 "StrandMapperModel" "draft" "[C" : Cond) ∈ zT := zin 455 (by decide +kernel) (by decide +kernel)
theorem mw_456 : (Cond.fieldLink "StrandMapperModel" 102 "StrandMapperModel" "done" "I" : Cond) ∈ zT := zin 456 (by decide +kernel) (by decide +kernel)
theorem mw_521 : (Cond.instanceMethod ⟨"StrandMapperModel", "row", "(I)I"⟩ : Cond) ∈ zT := zin 521 (by decide +kernel) (by decide +kernel)
theorem mw_522 : (Cond.selects "StrandMapperModel" ⟨"StrandMapperModel", "row", "(I)I"⟩ ⟨"StrandMapperModel", "row", "(I)I"⟩ : Cond) ∈ zT := zin 522 (by decide +kernel) (by decide +kernel)
theorem mw_523 : (Cond.code ⟨"StrandMapperModel", "row", "(I)I"⟩ prog_8_method_12_code 3 (Option.some Jvm.ClassFile.FieldType.int) : Cond) ∈ zT := zin 523 (by decide +kernel) (by decide +kernel)
theorem mw_524 : (Cond.methodLink "StrandMapperModel" 59 ⟨"StrandMapperModel", "before", "(I)I"⟩ : Cond) ∈ zT := zin 524 (by decide +kernel) (by decide +kernel)
theorem mw_526 : (Cond.instanceMethod ⟨"StrandMapperModel", "before", "(I)I"⟩ : Cond) ∈ zT := zin 526 (by decide +kernel) (by decide +kernel)
theorem mw_527 : (Cond.code ⟨"StrandMapperModel", "before", "(I)I"⟩ prog_8_method_11_code 4 (Option.some Jvm.ClassFile.FieldType.int) : Cond) ∈ zT := zin 527 (by decide +kernel) (by decide +kernel)
theorem mw_528 : (Cond.methodLink "StrandMapperModel" 55 ⟨"StrandMapperModel", "less", "(II)Z"⟩ : Cond) ∈ zT := zin 528 (by decide +kernel) (by decide +kernel)
theorem mw_530 : (Cond.instanceMethod ⟨"StrandMapperModel", "less", "(II)Z"⟩ : Cond) ∈ zT := zin 530 (by decide +kernel) (by decide +kernel)
theorem mw_531 : (Cond.code ⟨"StrandMapperModel", "less", "(II)Z"⟩ prog_8_method_10_code 6 (Option.some Jvm.ClassFile.FieldType.boolean) : Cond) ∈ zT := zin 531 (by decide +kernel) (by decide +kernel)
theorem mw_532 : (Cond.methodLink "StrandMapperModel" 51 ⟨"StrandMapperModel", "weight", "(I)I"⟩ : Cond) ∈ zT := zin 532 (by decide +kernel) (by decide +kernel)
theorem mw_534 : (Cond.instanceMethod ⟨"StrandMapperModel", "weight", "(I)I"⟩ : Cond) ∈ zT := zin 534 (by decide +kernel) (by decide +kernel)
theorem mw_535 : (Cond.code ⟨"StrandMapperModel", "weight", "(I)I"⟩ prog_8_method_9_code 2 (Option.some Jvm.ClassFile.FieldType.int) : Cond) ∈ zT := zin 535 (by decide +kernel) (by decide +kernel)
theorem mw_540 : (Cond.methodLink "StrandMapperModel" 62 ⟨"StrandMapperModel", "row", "(I)I"⟩ : Cond) ∈ zT := zin 540 (by decide +kernel) (by decide +kernel)
theorem mw_549 : (Cond.methodLink "StrandMapperModel" 65 ⟨"StrandMapperModel", "starts", "(I)Z"⟩ : Cond) ∈ zT := zin 549 (by decide +kernel) (by decide +kernel)
theorem mw_551 : (Cond.instanceMethod ⟨"StrandMapperModel", "starts", "(I)Z"⟩ : Cond) ∈ zT := zin 551 (by decide +kernel) (by decide +kernel)
theorem mw_552 : (Cond.code ⟨"StrandMapperModel", "starts", "(I)Z"⟩ prog_8_method_15_code 4 (Option.some Jvm.ClassFile.FieldType.boolean) : Cond) ∈ zT := zin 552 (by decide +kernel) (by decide +kernel)
theorem mw_561 : (Cond.methodLink "StrandMapperModel" 123 ⟨"StrandMapperModel", "seek", "(I)V"⟩ : Cond) ∈ zT := zin 561 (by decide +kernel) (by decide +kernel)
theorem mw_563 : (Cond.instanceMethod ⟨"StrandMapperModel", "seek", "(I)V"⟩ : Cond) ∈ zT := zin 563 (by decide +kernel) (by decide +kernel)
theorem mw_564 : (Cond.code ⟨"StrandMapperModel", "seek", "(I)V"⟩ prog_8_method_19_code 5 (Option.none : Option Jvm.ClassFile.FieldType) : Cond) ∈ zT := zin 564 (by decide +kernel) (by decide +kernel)
theorem mw_565 : (Cond.methodLink "StrandMapperModel" 79 ⟨"StrandMapperModel", "differ", "(II)I"⟩ : Cond) ∈ zT := zin 565 (by decide +kernel) (by decide +kernel)
theorem mw_567 : (Cond.instanceMethod ⟨"StrandMapperModel", "differ", "(II)I"⟩ : Cond) ∈ zT := zin 567 (by decide +kernel) (by decide +kernel)
theorem mw_568 : (Cond.code ⟨"StrandMapperModel", "differ", "(II)I"⟩ prog_8_method_18_code 5 (Option.some Jvm.ClassFile.FieldType.int) : Cond) ∈ zT := zin 568 (by decide +kernel) (by decide +kernel)
theorem mw_569 : (Cond.methodLink "StrandMapperModel" 69 ⟨"StrandMapperModel", "symbol", "(II)I"⟩ : Cond) ∈ zT := zin 569 (by decide +kernel) (by decide +kernel)
theorem mw_571 : (Cond.instanceMethod ⟨"StrandMapperModel", "symbol", "(II)I"⟩ : Cond) ∈ zT := zin 571 (by decide +kernel) (by decide +kernel)
theorem mw_572 : (Cond.code ⟨"StrandMapperModel", "symbol", "(II)I"⟩ prog_8_method_6_code 3 (Option.some Jvm.ClassFile.FieldType.int) : Cond) ∈ zT := zin 572 (by decide +kernel) (by decide +kernel)
theorem mw_573 : (Cond.methodLink "StrandMapperModel" 126 ⟨"StrandMapperModel", "head", "()V"⟩ : Cond) ∈ zT := zin 573 (by decide +kernel) (by decide +kernel)
theorem mw_575 : (Cond.instanceMethod ⟨"StrandMapperModel", "head", "()V"⟩ : Cond) ∈ zT := zin 575 (by decide +kernel) (by decide +kernel)
theorem mw_576 : (Cond.code ⟨"StrandMapperModel", "head", "()V"⟩ prog_8_method_26_code 1 (Option.none : Option Jvm.ClassFile.FieldType) : Cond) ∈ zT := zin 576 (by decide +kernel) (by decide +kernel)
theorem mw_577 : (Cond.methodLink "StrandMapperModel" 85 ⟨"StrandMapperModel", "put", "(I)V"⟩ : Cond) ∈ zT := zin 577 (by decide +kernel) (by decide +kernel)
theorem mw_579 : (Cond.instanceMethod ⟨"StrandMapperModel", "put", "(I)V"⟩ : Cond) ∈ zT := zin 579 (by decide +kernel) (by decide +kernel)
theorem mw_580 : (Cond.code ⟨"StrandMapperModel", "put", "(I)V"⟩ prog_8_method_21_code 2 (Option.none : Option Jvm.ClassFile.FieldType) : Cond) ∈ zT := zin 580 (by decide +kernel) (by decide +kernel)
theorem mw_581 : (Cond.methodLink "StrandMapperModel" 89 ⟨"StrandMapperModel", "tab", "()V"⟩ : Cond) ∈ zT := zin 581 (by decide +kernel) (by decide +kernel)
theorem mw_583 : (Cond.instanceMethod ⟨"StrandMapperModel", "tab", "()V"⟩ : Cond) ∈ zT := zin 583 (by decide +kernel) (by decide +kernel)
theorem mw_584 : (Cond.code ⟨"StrandMapperModel", "tab", "()V"⟩ prog_8_method_24_code 1 (Option.none : Option Jvm.ClassFile.FieldType) : Cond) ∈ zT := zin 584 (by decide +kernel) (by decide +kernel)
theorem mw_585 : (Cond.methodLink "StrandMapperModel" 92 ⟨"StrandMapperModel", "pair", "(II)V"⟩ : Cond) ∈ zT := zin 585 (by decide +kernel) (by decide +kernel)
theorem mw_587 : (Cond.instanceMethod ⟨"StrandMapperModel", "pair", "(II)V"⟩ : Cond) ∈ zT := zin 587 (by decide +kernel) (by decide +kernel)
theorem mw_588 : (Cond.code ⟨"StrandMapperModel", "pair", "(II)V"⟩ prog_8_method_25_code 3 (Option.none : Option Jvm.ClassFile.FieldType) : Cond) ∈ zT := zin 588 (by decide +kernel) (by decide +kernel)
theorem mw_589 : (Cond.methodLink "StrandMapperModel" 96 ⟨"StrandMapperModel", "putNumber", "(I)V"⟩ : Cond) ∈ zT := zin 589 (by decide +kernel) (by decide +kernel)
theorem mw_591 : (Cond.instanceMethod ⟨"StrandMapperModel", "putNumber", "(I)V"⟩ : Cond) ∈ zT := zin 591 (by decide +kernel) (by decide +kernel)
theorem mw_592 : (Cond.code ⟨"StrandMapperModel", "putNumber", "(I)V"⟩ prog_8_method_22_code 3 (Option.none : Option Jvm.ClassFile.FieldType) : Cond) ∈ zT := zin 592 (by decide +kernel) (by decide +kernel)
theorem mw_593 : (Cond.methodLink "StrandMapperModel" 129 ⟨"StrandMapperModel", "putHit", "(I)V"⟩ : Cond) ∈ zT := zin 593 (by decide +kernel) (by decide +kernel)
theorem mw_595 : (Cond.instanceMethod ⟨"StrandMapperModel", "putHit", "(I)V"⟩ : Cond) ∈ zT := zin 595 (by decide +kernel) (by decide +kernel)
theorem mw_596 : (Cond.code ⟨"StrandMapperModel", "putHit", "(I)V"⟩ prog_8_method_30_code 3 (Option.none : Option Jvm.ClassFile.FieldType) : Cond) ∈ zT := zin 596 (by decide +kernel) (by decide +kernel)
theorem mw_597 : (Cond.methodLink "StrandMapperModel" 105 ⟨"StrandMapperModel", "quality", "(I)I"⟩ : Cond) ∈ zT := zin 597 (by decide +kernel) (by decide +kernel)
theorem mw_599 : (Cond.instanceMethod ⟨"StrandMapperModel", "quality", "(I)I"⟩ : Cond) ∈ zT := zin 599 (by decide +kernel) (by decide +kernel)
theorem mw_600 : (Cond.code ⟨"StrandMapperModel", "quality", "(I)I"⟩ prog_8_method_20_code 4 (Option.some Jvm.ClassFile.FieldType.int) : Cond) ∈ zT := zin 600 (by decide +kernel) (by decide +kernel)
theorem mw_601 : (Cond.methodLink "StrandMapperModel" 108 ⟨"StrandMapperModel", "noMate", "()V"⟩ : Cond) ∈ zT := zin 601 (by decide +kernel) (by decide +kernel)
theorem mw_603 : (Cond.instanceMethod ⟨"StrandMapperModel", "noMate", "()V"⟩ : Cond) ∈ zT := zin 603 (by decide +kernel) (by decide +kernel)
theorem mw_604 : (Cond.code ⟨"StrandMapperModel", "noMate", "()V"⟩ prog_8_method_28_code 1 (Option.none : Option Jvm.ClassFile.FieldType) : Cond) ∈ zT := zin 604 (by decide +kernel) (by decide +kernel)
theorem mw_605 : (Cond.methodLink "StrandMapperModel" 111 ⟨"StrandMapperModel", "putRead", "(I)V"⟩ : Cond) ∈ zT := zin 605 (by decide +kernel) (by decide +kernel)
theorem mw_607 : (Cond.instanceMethod ⟨"StrandMapperModel", "putRead", "(I)V"⟩ : Cond) ∈ zT := zin 607 (by decide +kernel) (by decide +kernel)
theorem mw_608 : (Cond.code ⟨"StrandMapperModel", "putRead", "(I)V"⟩ prog_8_method_27_code 3 (Option.none : Option Jvm.ClassFile.FieldType) : Cond) ∈ zT := zin 608 (by decide +kernel) (by decide +kernel)
theorem mw_609 : (Cond.methodLink "StrandMapperModel" 99 ⟨"StrandMapperModel", "putBase", "(I)V"⟩ : Cond) ∈ zT := zin 609 (by decide +kernel) (by decide +kernel)
theorem mw_611 : (Cond.instanceMethod ⟨"StrandMapperModel", "putBase", "(I)V"⟩ : Cond) ∈ zT := zin 611 (by decide +kernel) (by decide +kernel)
theorem mw_612 : (Cond.code ⟨"StrandMapperModel", "putBase", "(I)V"⟩ prog_8_method_23_code 2 (Option.none : Option Jvm.ClassFile.FieldType) : Cond) ∈ zT := zin 612 (by decide +kernel) (by decide +kernel)
theorem mw_613 : (Cond.methodLink "StrandMapperModel" 114 ⟨"StrandMapperModel", "putDifferences", "(II)V"⟩ : Cond) ∈ zT := zin 613 (by decide +kernel) (by decide +kernel)
theorem mw_615 : (Cond.instanceMethod ⟨"StrandMapperModel", "putDifferences", "(II)V"⟩ : Cond) ∈ zT := zin 615 (by decide +kernel) (by decide +kernel)
theorem mw_616 : (Cond.code ⟨"StrandMapperModel", "putDifferences", "(II)V"⟩ prog_8_method_29_code 5 (Option.none : Option Jvm.ClassFile.FieldType) : Cond) ∈ zT := zin 616 (by decide +kernel) (by decide +kernel)
theorem mw_617 : (Cond.methodLink "StrandMapperModel" 132 ⟨"StrandMapperModel", "putNothing", "()V"⟩ : Cond) ∈ zT := zin 617 (by decide +kernel) (by decide +kernel)
theorem mw_619 : (Cond.instanceMethod ⟨"StrandMapperModel", "putNothing", "()V"⟩ : Cond) ∈ zT := zin 619 (by decide +kernel) (by decide +kernel)
theorem mw_620 : (Cond.code ⟨"StrandMapperModel", "putNothing", "()V"⟩ prog_8_method_31_code 1 (Option.none : Option Jvm.ClassFile.FieldType) : Cond) ∈ zT := zin 620 (by decide +kernel) (by decide +kernel)
theorem mw_621 : (Cond.methodLink "StrandMapperModel" 135 ⟨"StrandMapperModel", "keep", "()V"⟩ : Cond) ∈ zT := zin 621 (by decide +kernel) (by decide +kernel)
theorem mw_623 : (Cond.instanceMethod ⟨"StrandMapperModel", "keep", "()V"⟩ : Cond) ∈ zT := zin 623 (by decide +kernel) (by decide +kernel)
theorem mw_624 : (Cond.code ⟨"StrandMapperModel", "keep", "()V"⟩ prog_8_method_32_code 2 (Option.none : Option Jvm.ClassFile.FieldType) : Cond) ∈ zT := zin 624 (by decide +kernel) (by decide +kernel)
end
section
theorem dX0_isFull_0 : decode cX0_isFull 0 = .ok (.aload_n 0, 1) := by decide +kernel
theorem dX0_isFull_1 : decode cX0_isFull 1 = .ok (.getfield 15, 3) := by decide +kernel
theorem dX0_isFull_4 : decode cX0_isFull 4 = .ok (.aload_n 0, 1) := by decide +kernel
theorem dX0_isFull_5 : decode cX0_isFull 5 = .ok (.getfield 9, 3) := by decide +kernel
theorem dX0_isFull_8 : decode cX0_isFull 8 = .ok (.arraylength, 1) := by decide +kernel
theorem dX0_isFull_9 : decode cX0_isFull 9 = .ok (.if_icmp .lt 7, 3) := by decide +kernel
theorem dX0_isFull_12 : decode cX0_isFull 12 = .ok (.iconst 1, 1) := by decide +kernel
theorem dX0_isFull_13 : decode cX0_isFull 13 = .ok (.goto 4, 3) := by decide +kernel
theorem dX0_isFull_16 : decode cX0_isFull 16 = .ok (.iconst 0, 1) := by decide +kernel
theorem dX0_isFull_17 : decode cX0_isFull 17 = .ok (.ireturn, 1) := by decide +kernel
theorem dX0_append_0 : decode cX0_append 0 = .ok (.aload_n 0, 1) := by decide +kernel
theorem dX0_append_1 : decode cX0_append 1 = .ok (.invokevirtual 19, 3) := by decide +kernel
theorem dX0_append_4 : decode cX0_append 4 = .ok (.ifCond .ne 23, 3) := by decide +kernel
theorem dX0_append_7 : decode cX0_append 7 = .ok (.aload_n 0, 1) := by decide +kernel
theorem dX0_append_8 : decode cX0_append 8 = .ok (.getfield 9, 3) := by decide +kernel
theorem dX0_append_11 : decode cX0_append 11 = .ok (.aload_n 0, 1) := by decide +kernel
theorem dX0_append_12 : decode cX0_append 12 = .ok (.getfield 15, 3) := by decide +kernel
theorem dX0_append_15 : decode cX0_append 15 = .ok (.iload_n 1, 1) := by decide +kernel
theorem dX0_append_16 : decode cX0_append 16 = .ok (.iastore, 1) := by decide +kernel
theorem dX0_append_17 : decode cX0_append 17 = .ok (.aload_n 0, 1) := by decide +kernel
theorem dX0_append_18 : decode cX0_append 18 = .ok (.dup, 1) := by decide +kernel
theorem dX0_append_19 : decode cX0_append 19 = .ok (.getfield 15, 3) := by decide +kernel
theorem dX0_append_22 : decode cX0_append 22 = .ok (.iconst 1, 1) := by decide +kernel
theorem dX0_append_23 : decode cX0_append 23 = .ok (.iadd, 1) := by decide +kernel
theorem dX0_append_24 : decode cX0_append 24 = .ok (.putfield 15, 3) := by decide +kernel
theorem dX0_append_27 : decode cX0_append 27 = .ok (.return_, 1) := by decide +kernel
theorem dX0_empty_0 : decode cX0_empty 0 = .ok (.aload_n 0, 1) := by decide +kernel
theorem dX0_empty_1 : decode cX0_empty 1 = .ok (.iconst 0, 1) := by decide +kernel
theorem dX0_empty_2 : decode cX0_empty 2 = .ok (.putfield 15, 3) := by decide +kernel
theorem dX0_empty_5 : decode cX0_empty 5 = .ok (.return_, 1) := by decide +kernel
theorem dX0_becomeTurned_0 : decode cX0_becomeTurned 0 = .ok (.aload_n 0, 1) := by decide +kernel
theorem dX0_becomeTurned_1 : decode cX0_becomeTurned 1 = .ok (.invokevirtual 23, 3) := by decide +kernel
theorem dX0_becomeTurned_4 : decode cX0_becomeTurned 4 = .ok (.aload_n 1, 1) := by decide +kernel
theorem dX0_becomeTurned_5 : decode cX0_becomeTurned 5 = .ok (.getfield 15, 3) := by decide +kernel
theorem dX0_becomeTurned_8 : decode cX0_becomeTurned 8 = .ok (.iconst 1, 1) := by decide +kernel
theorem dX0_becomeTurned_9 : decode cX0_becomeTurned 9 = .ok (.isub, 1) := by decide +kernel
theorem dX0_becomeTurned_10 : decode cX0_becomeTurned 10 = .ok (.istore_n 2, 1) := by decide +kernel
theorem dX0_becomeTurned_11 : decode cX0_becomeTurned 11 = .ok (.iload_n 2, 1) := by decide +kernel
theorem dX0_becomeTurned_12 : decode cX0_becomeTurned 12 = .ok (.ifCond .lt 21, 3) := by decide +kernel
theorem dX0_becomeTurned_15 : decode cX0_becomeTurned 15 = .ok (.aload_n 0, 1) := by decide +kernel
theorem dX0_becomeTurned_16 : decode cX0_becomeTurned 16 = .ok (.iconst 3, 1) := by decide +kernel
theorem dX0_becomeTurned_17 : decode cX0_becomeTurned 17 = .ok (.aload_n 1, 1) := by decide +kernel
theorem dX0_becomeTurned_18 : decode cX0_becomeTurned 18 = .ok (.getfield 9, 3) := by decide +kernel
theorem dX0_becomeTurned_21 : decode cX0_becomeTurned 21 = .ok (.iload_n 2, 1) := by decide +kernel
theorem dX0_becomeTurned_22 : decode cX0_becomeTurned 22 = .ok (.iaload, 1) := by decide +kernel
theorem dX0_becomeTurned_23 : decode cX0_becomeTurned 23 = .ok (.isub, 1) := by decide +kernel
theorem dX0_becomeTurned_24 : decode cX0_becomeTurned 24 = .ok (.invokevirtual 26, 3) := by decide +kernel
theorem dX0_becomeTurned_27 : decode cX0_becomeTurned 27 = .ok (.iinc 2 (-1), 3) := by decide +kernel
theorem dX0_becomeTurned_30 : decode cX0_becomeTurned 30 = .ok (.goto (-19), 3) := by decide +kernel
theorem dX0_becomeTurned_33 : decode cX0_becomeTurned 33 = .ok (.return_, 1) := by decide +kernel
theorem dX0_hasRoomAt_0 : decode cX0_hasRoomAt 0 = .ok (.iload_n 1, 1) := by decide +kernel
theorem dX0_hasRoomAt_1 : decode cX0_hasRoomAt 1 = .ok (.ifCond .lt 20, 3) := by decide +kernel
theorem dX0_hasRoomAt_4 : decode cX0_hasRoomAt 4 = .ok (.iload_n 1, 1) := by decide +kernel
theorem dX0_hasRoomAt_5 : decode cX0_hasRoomAt 5 = .ok (.aload_n 2, 1) := by decide +kernel
theorem dX0_hasRoomAt_6 : decode cX0_hasRoomAt 6 = .ok (.getfield 15, 3) := by decide +kernel
theorem dX0_hasRoomAt_9 : decode cX0_hasRoomAt 9 = .ok (.iadd, 1) := by decide +kernel
theorem dX0_hasRoomAt_10 : decode cX0_hasRoomAt 10 = .ok (.aload_n 0, 1) := by decide +kernel
theorem dX0_hasRoomAt_11 : decode cX0_hasRoomAt 11 = .ok (.getfield 15, 3) := by decide +kernel
theorem dX0_hasRoomAt_14 : decode cX0_hasRoomAt 14 = .ok (.if_icmp .gt 7, 3) := by decide +kernel
theorem dX0_hasRoomAt_17 : decode cX0_hasRoomAt 17 = .ok (.iconst 1, 1) := by decide +kernel
theorem dX0_hasRoomAt_18 : decode cX0_hasRoomAt 18 = .ok (.goto 4, 3) := by decide +kernel
theorem dX0_hasRoomAt_21 : decode cX0_hasRoomAt 21 = .ok (.iconst 0, 1) := by decide +kernel
theorem dX0_hasRoomAt_22 : decode cX0_hasRoomAt 22 = .ok (.ireturn, 1) := by decide +kernel
theorem dX0_mismatchesAt_0 : decode cX0_mismatchesAt 0 = .ok (.iconst 0, 1) := by decide +kernel
theorem dX0_mismatchesAt_1 : decode cX0_mismatchesAt 1 = .ok (.istore 4, 2) := by decide +kernel
theorem dX0_mismatchesAt_3 : decode cX0_mismatchesAt 3 = .ok (.iconst 0, 1) := by decide +kernel
theorem dX0_mismatchesAt_4 : decode cX0_mismatchesAt 4 = .ok (.istore 5, 2) := by decide +kernel
theorem dX0_mismatchesAt_6 : decode cX0_mismatchesAt 6 = .ok (.iload 5, 2) := by decide +kernel
theorem dX0_mismatchesAt_8 : decode cX0_mismatchesAt 8 = .ok (.aload_n 2, 1) := by decide +kernel
theorem dX0_mismatchesAt_9 : decode cX0_mismatchesAt 9 = .ok (.getfield 15, 3) := by decide +kernel
theorem dX0_mismatchesAt_12 : decode cX0_mismatchesAt 12 = .ok (.if_icmp .ge 37, 3) := by decide +kernel
theorem dX0_mismatchesAt_15 : decode cX0_mismatchesAt 15 = .ok (.iload 4, 2) := by decide +kernel
theorem dX0_mismatchesAt_17 : decode cX0_mismatchesAt 17 = .ok (.iload_n 3, 1) := by decide +kernel
theorem dX0_mismatchesAt_18 : decode cX0_mismatchesAt 18 = .ok (.if_icmp .gt 31, 3) := by decide +kernel
theorem dX0_mismatchesAt_21 : decode cX0_mismatchesAt 21 = .ok (.aload_n 0, 1) := by decide +kernel
theorem dX0_mismatchesAt_22 : decode cX0_mismatchesAt 22 = .ok (.getfield 9, 3) := by decide +kernel
theorem dX0_mismatchesAt_25 : decode cX0_mismatchesAt 25 = .ok (.iload_n 1, 1) := by decide +kernel
theorem dX0_mismatchesAt_26 : decode cX0_mismatchesAt 26 = .ok (.iload 5, 2) := by decide +kernel
theorem dX0_mismatchesAt_28 : decode cX0_mismatchesAt 28 = .ok (.iadd, 1) := by decide +kernel
theorem dX0_mismatchesAt_29 : decode cX0_mismatchesAt 29 = .ok (.iaload, 1) := by decide +kernel
theorem dX0_mismatchesAt_30 : decode cX0_mismatchesAt 30 = .ok (.aload_n 2, 1) := by decide +kernel
theorem dX0_mismatchesAt_31 : decode cX0_mismatchesAt 31 = .ok (.getfield 9, 3) := by decide +kernel
theorem dX0_mismatchesAt_34 : decode cX0_mismatchesAt 34 = .ok (.iload 5, 2) := by decide +kernel
theorem dX0_mismatchesAt_36 : decode cX0_mismatchesAt 36 = .ok (.iaload, 1) := by decide +kernel
theorem dX0_mismatchesAt_37 : decode cX0_mismatchesAt 37 = .ok (.if_icmp .eq 6, 3) := by decide +kernel
theorem dX0_mismatchesAt_40 : decode cX0_mismatchesAt 40 = .ok (.iinc 4 1, 3) := by decide +kernel
theorem dX0_mismatchesAt_43 : decode cX0_mismatchesAt 43 = .ok (.iinc 5 1, 3) := by decide +kernel
theorem dX0_mismatchesAt_46 : decode cX0_mismatchesAt 46 = .ok (.goto (-40), 3) := by decide +kernel
theorem dX0_mismatchesAt_49 : decode cX0_mismatchesAt 49 = .ok (.iload 4, 2) := by decide +kernel
theorem dX0_mismatchesAt_51 : decode cX0_mismatchesAt 51 = .ok (.ireturn, 1) := by decide +kernel
theorem dX0_holdsAt_0 : decode cX0_holdsAt 0 = .ok (.aload_n 0, 1) := by decide +kernel
theorem dX0_holdsAt_1 : decode cX0_holdsAt 1 = .ok (.iload_n 1, 1) := by decide +kernel
theorem dX0_holdsAt_2 : decode cX0_holdsAt 2 = .ok (.aload_n 2, 1) := by decide +kernel
theorem dX0_holdsAt_3 : decode cX0_holdsAt 3 = .ok (.invokevirtual 30, 3) := by decide +kernel
theorem dX0_holdsAt_6 : decode cX0_holdsAt 6 = .ok (.ifCond .eq 17, 3) := by decide +kernel
theorem dX0_holdsAt_9 : decode cX0_holdsAt 9 = .ok (.aload_n 0, 1) := by decide +kernel
theorem dX0_holdsAt_10 : decode cX0_holdsAt 10 = .ok (.iload_n 1, 1) := by decide +kernel
theorem dX0_holdsAt_11 : decode cX0_holdsAt 11 = .ok (.aload_n 2, 1) := by decide +kernel
theorem dX0_holdsAt_12 : decode cX0_holdsAt 12 = .ok (.iconst 0, 1) := by decide +kernel
theorem dX0_holdsAt_13 : decode cX0_holdsAt 13 = .ok (.invokevirtual 34, 3) := by decide +kernel
theorem dX0_holdsAt_16 : decode cX0_holdsAt 16 = .ok (.ifCond .ne 7, 3) := by decide +kernel
theorem dX0_holdsAt_19 : decode cX0_holdsAt 19 = .ok (.iconst 1, 1) := by decide +kernel
theorem dX0_holdsAt_20 : decode cX0_holdsAt 20 = .ok (.goto 4, 3) := by decide +kernel
theorem dX0_holdsAt_23 : decode cX0_holdsAt 23 = .ok (.iconst 0, 1) := by decide +kernel
theorem dX0_holdsAt_24 : decode cX0_holdsAt 24 = .ok (.ireturn, 1) := by decide +kernel
theorem dX4_forget_0 : decode cX4_forget 0 = .ok (.aload_n 0, 1) := by decide +kernel
theorem dX4_forget_1 : decode cX4_forget 1 = .ok (.iconst 0, 1) := by decide +kernel
theorem dX4_forget_2 : decode cX4_forget 2 = .ok (.putfield 22, 3) := by decide +kernel
theorem dX4_forget_5 : decode cX4_forget 5 = .ok (.return_, 1) := by decide +kernel
theorem dX4_rows_0 : decode cX4_rows 0 = .ok (.aload_n 0, 1) := by decide +kernel
theorem dX4_rows_1 : decode cX4_rows 1 = .ok (.getfield 9, 3) := by decide +kernel
theorem dX4_rows_4 : decode cX4_rows 4 = .ok (.getfield 26, 3) := by decide +kernel
theorem dX4_rows_7 : decode cX4_rows 7 = .ok (.iconst 1, 1) := by decide +kernel
theorem dX4_rows_8 : decode cX4_rows 8 = .ok (.iadd, 1) := by decide +kernel
theorem dX4_rows_9 : decode cX4_rows 9 = .ok (.ireturn, 1) := by decide +kernel
theorem dX4_hasRow_0 : decode cX4_hasRow 0 = .ok (.iload_n 1, 1) := by decide +kernel
theorem dX4_hasRow_1 : decode cX4_hasRow 1 = .ok (.ifCond .lt 15, 3) := by decide +kernel
theorem dX4_hasRow_4 : decode cX4_hasRow 4 = .ok (.iload_n 1, 1) := by decide +kernel
theorem dX4_hasRow_5 : decode cX4_hasRow 5 = .ok (.aload_n 0, 1) := by decide +kernel
theorem dX4_hasRow_6 : decode cX4_hasRow 6 = .ok (.invokevirtual 32, 3) := by decide +kernel
theorem dX4_hasRow_9 : decode cX4_hasRow 9 = .ok (.if_icmp .ge 7, 3) := by decide +kernel
theorem dX4_hasRow_12 : decode cX4_hasRow 12 = .ok (.iconst 1, 1) := by decide +kernel
theorem dX4_hasRow_13 : decode cX4_hasRow 13 = .ok (.goto 4, 3) := by decide +kernel
theorem dX4_hasRow_16 : decode cX4_hasRow 16 = .ok (.iconst 0, 1) := by decide +kernel
theorem dX4_hasRow_17 : decode cX4_hasRow 17 = .ok (.ireturn, 1) := by decide +kernel
theorem dX4_insert_0 : decode cX4_insert 0 = .ok (.aload_n 0, 1) := by decide +kernel
theorem dX4_insert_1 : decode cX4_insert 1 = .ok (.getfield 9, 3) := by decide +kernel
theorem dX4_insert_4 : decode cX4_insert 4 = .ok (.getfield 43, 3) := by decide +kernel
theorem dX4_insert_7 : decode cX4_insert 7 = .ok (.iload_n 1, 1) := by decide +kernel
theorem dX4_insert_8 : decode cX4_insert 8 = .ok (.iaload, 1) := by decide +kernel
theorem dX4_insert_9 : decode cX4_insert 9 = .ok (.istore_n 2, 1) := by decide +kernel
theorem dX4_insert_10 : decode cX4_insert 10 = .ok (.aload_n 0, 1) := by decide +kernel
theorem dX4_insert_11 : decode cX4_insert 11 = .ok (.getfield 15, 3) := by decide +kernel
theorem dX4_insert_14 : decode cX4_insert 14 = .ok (.iload_n 1, 1) := by decide +kernel
theorem dX4_insert_15 : decode cX4_insert 15 = .ok (.iconst 1, 1) := by decide +kernel
theorem dX4_insert_16 : decode cX4_insert 16 = .ok (.iadd, 1) := by decide +kernel
theorem dX4_insert_17 : decode cX4_insert 17 = .ok (.iaload, 1) := by decide +kernel
theorem dX4_insert_18 : decode cX4_insert 18 = .ok (.istore_n 3, 1) := by decide +kernel
theorem dX4_insert_19 : decode cX4_insert 19 = .ok (.iconst 1, 1) := by decide +kernel
theorem dX4_insert_20 : decode cX4_insert 20 = .ok (.istore 4, 2) := by decide +kernel
theorem dX4_insert_22 : decode cX4_insert 22 = .ok (.iload_n 1, 1) := by decide +kernel
theorem dX4_insert_23 : decode cX4_insert 23 = .ok (.iconst 1, 1) := by decide +kernel
theorem dX4_insert_24 : decode cX4_insert 24 = .ok (.iadd, 1) := by decide +kernel
theorem dX4_insert_25 : decode cX4_insert 25 = .ok (.istore 5, 2) := by decide +kernel
theorem dX4_insert_27 : decode cX4_insert 27 = .ok (.iload 5, 2) := by decide +kernel
theorem dX4_insert_29 : decode cX4_insert 29 = .ok (.aload_n 0, 1) := by decide +kernel
theorem dX4_insert_30 : decode cX4_insert 30 = .ok (.getfield 9, 3) := by decide +kernel
theorem dX4_insert_33 : decode cX4_insert 33 = .ok (.getfield 26, 3) := by decide +kernel
theorem dX4_insert_36 : decode cX4_insert 36 = .ok (.if_icmp .ge 75, 3) := by decide +kernel
theorem dX4_insert_39 : decode cX4_insert 39 = .ok (.aload_n 0, 1) := by decide +kernel
theorem dX4_insert_40 : decode cX4_insert 40 = .ok (.getfield 9, 3) := by decide +kernel
theorem dX4_insert_43 : decode cX4_insert 43 = .ok (.getfield 43, 3) := by decide +kernel
theorem dX4_insert_46 : decode cX4_insert 46 = .ok (.iload 5, 2) := by decide +kernel
theorem dX4_insert_48 : decode cX4_insert 48 = .ok (.iaload, 1) := by decide +kernel
theorem dX4_insert_49 : decode cX4_insert 49 = .ok (.istore 6, 2) := by decide +kernel
theorem dX4_insert_51 : decode cX4_insert 51 = .ok (.iload 6, 2) := by decide +kernel
theorem dX4_insert_53 : decode cX4_insert 53 = .ok (.iload_n 2, 1) := by decide +kernel
theorem dX4_insert_54 : decode cX4_insert 54 = .ok (.if_icmp .lt 22, 3) := by decide +kernel
theorem dX4_insert_57 : decode cX4_insert 57 = .ok (.iload 6, 2) := by decide +kernel
theorem dX4_insert_59 : decode cX4_insert 59 = .ok (.iload_n 2, 1) := by decide +kernel
theorem dX4_insert_60 : decode cX4_insert 60 = .ok (.if_icmp .ne 20, 3) := by decide +kernel
theorem dX4_insert_63 : decode cX4_insert 63 = .ok (.aload_n 0, 1) := by decide +kernel
theorem dX4_insert_64 : decode cX4_insert 64 = .ok (.getfield 15, 3) := by decide +kernel
theorem dX4_insert_67 : decode cX4_insert 67 = .ok (.iload 5, 2) := by decide +kernel
theorem dX4_insert_69 : decode cX4_insert 69 = .ok (.iconst 1, 1) := by decide +kernel
theorem dX4_insert_70 : decode cX4_insert 70 = .ok (.iadd, 1) := by decide +kernel
theorem dX4_insert_71 : decode cX4_insert 71 = .ok (.iaload, 1) := by decide +kernel
theorem dX4_insert_72 : decode cX4_insert 72 = .ok (.iload_n 3, 1) := by decide +kernel
theorem dX4_insert_73 : decode cX4_insert 73 = .ok (.if_icmp .ge 7, 3) := by decide +kernel
theorem dX4_insert_76 : decode cX4_insert 76 = .ok (.iconst 1, 1) := by decide +kernel
theorem dX4_insert_77 : decode cX4_insert 77 = .ok (.goto 4, 3) := by decide +kernel
theorem dX4_insert_80 : decode cX4_insert 80 = .ok (.iconst 0, 1) := by decide +kernel
theorem dX4_insert_81 : decode cX4_insert 81 = .ok (.istore 7, 2) := by decide +kernel
theorem dX4_insert_83 : decode cX4_insert 83 = .ok (.iload 7, 2) := by decide +kernel
theorem dX4_insert_85 : decode cX4_insert 85 = .ok (.ifCond .eq 9, 3) := by decide +kernel
theorem dX4_insert_88 : decode cX4_insert 88 = .ok (.iinc 4 1, 3) := by decide +kernel
theorem dX4_insert_91 : decode cX4_insert 91 = .ok (.goto 14, 3) := by decide +kernel
theorem dX4_insert_94 : decode cX4_insert 94 = .ok (.aload_n 0, 1) := by decide +kernel
theorem dX4_insert_95 : decode cX4_insert 95 = .ok (.getfield 15, 3) := by decide +kernel
theorem dX4_insert_98 : decode cX4_insert 98 = .ok (.iload 5, 2) := by decide +kernel
theorem dX4_insert_100 : decode cX4_insert 100 = .ok (.dup2, 1) := by decide +kernel
theorem dX4_insert_101 : decode cX4_insert 101 = .ok (.iaload, 1) := by decide +kernel
theorem dX4_insert_102 : decode cX4_insert 102 = .ok (.iconst 1, 1) := by decide +kernel
theorem dX4_insert_103 : decode cX4_insert 103 = .ok (.iadd, 1) := by decide +kernel
theorem dX4_insert_104 : decode cX4_insert 104 = .ok (.iastore, 1) := by decide +kernel
theorem dX4_insert_105 : decode cX4_insert 105 = .ok (.iinc 5 1, 3) := by decide +kernel
theorem dX4_insert_108 : decode cX4_insert 108 = .ok (.goto (-81), 3) := by decide +kernel
theorem dX4_insert_111 : decode cX4_insert 111 = .ok (.aload_n 0, 1) := by decide +kernel
theorem dX4_insert_112 : decode cX4_insert 112 = .ok (.getfield 15, 3) := by decide +kernel
theorem dX4_insert_115 : decode cX4_insert 115 = .ok (.iload_n 1, 1) := by decide +kernel
theorem dX4_insert_116 : decode cX4_insert 116 = .ok (.iload 4, 2) := by decide +kernel
theorem dX4_insert_118 : decode cX4_insert 118 = .ok (.iastore, 1) := by decide +kernel
theorem dX4_insert_119 : decode cX4_insert 119 = .ok (.return_, 1) := by decide +kernel
theorem dX4_sort_0 : decode cX4_sort 0 = .ok (.aload_n 0, 1) := by decide +kernel
theorem dX4_sort_1 : decode cX4_sort 1 = .ok (.getfield 15, 3) := by decide +kernel
theorem dX4_sort_4 : decode cX4_sort 4 = .ok (.aload_n 0, 1) := by decide +kernel
theorem dX4_sort_5 : decode cX4_sort 5 = .ok (.getfield 9, 3) := by decide +kernel
theorem dX4_sort_8 : decode cX4_sort 8 = .ok (.getfield 26, 3) := by decide +kernel
theorem dX4_sort_11 : decode cX4_sort 11 = .ok (.iconst 0, 1) := by decide +kernel
theorem dX4_sort_12 : decode cX4_sort 12 = .ok (.iastore, 1) := by decide +kernel
theorem dX4_sort_13 : decode cX4_sort 13 = .ok (.aload_n 0, 1) := by decide +kernel
theorem dX4_sort_14 : decode cX4_sort 14 = .ok (.getfield 9, 3) := by decide +kernel
theorem dX4_sort_17 : decode cX4_sort 17 = .ok (.getfield 26, 3) := by decide +kernel
theorem dX4_sort_20 : decode cX4_sort 20 = .ok (.iconst 1, 1) := by decide +kernel
theorem dX4_sort_21 : decode cX4_sort 21 = .ok (.isub, 1) := by decide +kernel
theorem dX4_sort_22 : decode cX4_sort 22 = .ok (.istore_n 1, 1) := by decide +kernel
theorem dX4_sort_23 : decode cX4_sort 23 = .ok (.iload_n 1, 1) := by decide +kernel
theorem dX4_sort_24 : decode cX4_sort 24 = .ok (.ifCond .lt 14, 3) := by decide +kernel
theorem dX4_sort_27 : decode cX4_sort 27 = .ok (.aload_n 0, 1) := by decide +kernel
theorem dX4_sort_28 : decode cX4_sort 28 = .ok (.iload_n 1, 1) := by decide +kernel
theorem dX4_sort_29 : decode cX4_sort 29 = .ok (.invokevirtual 46, 3) := by decide +kernel
theorem dX4_sort_32 : decode cX4_sort 32 = .ok (.iinc 1 (-1), 3) := by decide +kernel
theorem dX4_sort_35 : decode cX4_sort 35 = .ok (.goto (-12), 3) := by decide +kernel
theorem dX4_sort_38 : decode cX4_sort 38 = .ok (.iconst 0, 1) := by decide +kernel
theorem dX4_sort_39 : decode cX4_sort 39 = .ok (.istore_n 1, 1) := by decide +kernel
theorem dX4_sort_40 : decode cX4_sort 40 = .ok (.iload_n 1, 1) := by decide +kernel
theorem dX4_sort_41 : decode cX4_sort 41 = .ok (.aload_n 0, 1) := by decide +kernel
theorem dX4_sort_42 : decode cX4_sort 42 = .ok (.getfield 9, 3) := by decide +kernel
theorem dX4_sort_45 : decode cX4_sort 45 = .ok (.getfield 26, 3) := by decide +kernel
theorem dX4_sort_48 : decode cX4_sort 48 = .ok (.if_icmp .gt 21, 3) := by decide +kernel
theorem dX4_sort_51 : decode cX4_sort 51 = .ok (.aload_n 0, 1) := by decide +kernel
theorem dX4_sort_52 : decode cX4_sort 52 = .ok (.getfield 19, 3) := by decide +kernel
theorem dX4_sort_55 : decode cX4_sort 55 = .ok (.aload_n 0, 1) := by decide +kernel
theorem dX4_sort_56 : decode cX4_sort 56 = .ok (.getfield 15, 3) := by decide +kernel
theorem dX4_sort_59 : decode cX4_sort 59 = .ok (.iload_n 1, 1) := by decide +kernel
theorem dX4_sort_60 : decode cX4_sort 60 = .ok (.iaload, 1) := by decide +kernel
theorem dX4_sort_61 : decode cX4_sort 61 = .ok (.iload_n 1, 1) := by decide +kernel
theorem dX4_sort_62 : decode cX4_sort 62 = .ok (.iastore, 1) := by decide +kernel
theorem dX4_sort_63 : decode cX4_sort 63 = .ok (.iinc 1 1, 3) := by decide +kernel
theorem dX4_sort_66 : decode cX4_sort 66 = .ok (.goto (-26), 3) := by decide +kernel
theorem dX4_sort_69 : decode cX4_sort 69 = .ok (.aload_n 0, 1) := by decide +kernel
theorem dX4_sort_70 : decode cX4_sort 70 = .ok (.iconst 1, 1) := by decide +kernel
theorem dX4_sort_71 : decode cX4_sort 71 = .ok (.putfield 22, 3) := by decide +kernel
theorem dX4_sort_74 : decode cX4_sort 74 = .ok (.return_, 1) := by decide +kernel
theorem dX4_placeOfRow_0 : decode cX4_placeOfRow 0 = .ok (.aload_n 0, 1) := by decide +kernel
theorem dX4_placeOfRow_1 : decode cX4_placeOfRow 1 = .ok (.getfield 22, 3) := by decide +kernel
theorem dX4_placeOfRow_4 : decode cX4_placeOfRow 4 = .ok (.ifCond .ne 7, 3) := by decide +kernel
theorem dX4_placeOfRow_7 : decode cX4_placeOfRow 7 = .ok (.aload_n 0, 1) := by decide +kernel
theorem dX4_placeOfRow_8 : decode cX4_placeOfRow 8 = .ok (.invokevirtual 36, 3) := by decide +kernel
theorem dX4_placeOfRow_11 : decode cX4_placeOfRow 11 = .ok (.aload_n 0, 1) := by decide +kernel
theorem dX4_placeOfRow_12 : decode cX4_placeOfRow 12 = .ok (.getfield 19, 3) := by decide +kernel
theorem dX4_placeOfRow_15 : decode cX4_placeOfRow 15 = .ok (.iload_n 1, 1) := by decide +kernel
theorem dX4_placeOfRow_16 : decode cX4_placeOfRow 16 = .ok (.iaload, 1) := by decide +kernel
theorem dX4_placeOfRow_17 : decode cX4_placeOfRow 17 = .ok (.ireturn, 1) := by decide +kernel
theorem dX4_symbolBefore_0 : decode cX4_symbolBefore 0 = .ok (.aload_n 0, 1) := by decide +kernel
theorem dX4_symbolBefore_1 : decode cX4_symbolBefore 1 = .ok (.iload_n 1, 1) := by decide +kernel
theorem dX4_symbolBefore_2 : decode cX4_symbolBefore 2 = .ok (.invokevirtual 39, 3) := by decide +kernel
theorem dX4_symbolBefore_5 : decode cX4_symbolBefore 5 = .ok (.istore_n 2, 1) := by decide +kernel
theorem dX4_symbolBefore_6 : decode cX4_symbolBefore 6 = .ok (.iload_n 2, 1) := by decide +kernel
theorem dX4_symbolBefore_7 : decode cX4_symbolBefore 7 = .ok (.ifCond .ne 7, 3) := by decide +kernel
theorem dX4_symbolBefore_10 : decode cX4_symbolBefore 10 = .ok (.iconst 5, 1) := by decide +kernel
theorem dX4_symbolBefore_11 : decode cX4_symbolBefore 11 = .ok (.goto 14, 3) := by decide +kernel
theorem dX4_symbolBefore_14 : decode cX4_symbolBefore 14 = .ok (.aload_n 0, 1) := by decide +kernel
theorem dX4_symbolBefore_15 : decode cX4_symbolBefore 15 = .ok (.getfield 9, 3) := by decide +kernel
theorem dX4_symbolBefore_18 : decode cX4_symbolBefore 18 = .ok (.getfield 43, 3) := by decide +kernel
theorem dX4_symbolBefore_21 : decode cX4_symbolBefore 21 = .ok (.iload_n 2, 1) := by decide +kernel
theorem dX4_symbolBefore_22 : decode cX4_symbolBefore 22 = .ok (.iconst 1, 1) := by decide +kernel
theorem dX4_symbolBefore_23 : decode cX4_symbolBefore 23 = .ok (.isub, 1) := by decide +kernel
theorem dX4_symbolBefore_24 : decode cX4_symbolBefore 24 = .ok (.iaload, 1) := by decide +kernel
theorem dX4_symbolBefore_25 : decode cX4_symbolBefore 25 = .ok (.ireturn, 1) := by decide +kernel
end
section
theorem dX6_weight_0 : decode cX6_weight 0 = .ok (.iload_n 1, 1) := by decide +kernel
theorem dX6_weight_1 : decode cX6_weight 1 = .ok (.aload_n 0, 1) := by decide +kernel
theorem dX6_weight_2 : decode cX6_weight 2 = .ok (.getfield 45, 3) := by decide +kernel
theorem dX6_weight_5 : decode cX6_weight 5 = .ok (.if_icmp .lt 7, 3) := by decide +kernel
theorem dX6_weight_8 : decode cX6_weight 8 = .ok (.iconst 0, 1) := by decide +kernel
theorem dX6_weight_9 : decode cX6_weight 9 = .ok (.goto 11, 3) := by decide +kernel
theorem dX6_weight_12 : decode cX6_weight 12 = .ok (.aload_n 0, 1) := by decide +kernel
theorem dX6_weight_13 : decode cX6_weight 13 = .ok (.getfield 7, 3) := by decide +kernel
theorem dX6_weight_16 : decode cX6_weight 16 = .ok (.iload_n 1, 1) := by decide +kernel
theorem dX6_weight_17 : decode cX6_weight 17 = .ok (.iaload, 1) := by decide +kernel
theorem dX6_weight_18 : decode cX6_weight 18 = .ok (.iconst 1, 1) := by decide +kernel
theorem dX6_weight_19 : decode cX6_weight 19 = .ok (.iadd, 1) := by decide +kernel
theorem dX6_weight_20 : decode cX6_weight 20 = .ok (.ireturn, 1) := by decide +kernel
theorem dX6_less_0 : decode cX6_less 0 = .ok (.iconst 0, 1) := by decide +kernel
theorem dX6_less_1 : decode cX6_less 1 = .ok (.istore_n 3, 1) := by decide +kernel
theorem dX6_less_2 : decode cX6_less 2 = .ok (.iload_n 3, 1) := by decide +kernel
theorem dX6_less_3 : decode cX6_less 3 = .ok (.bipush 97, 2) := by decide +kernel
theorem dX6_less_5 : decode cX6_less 5 = .ok (.if_icmp .ge 54, 3) := by decide +kernel
theorem dX6_less_8 : decode cX6_less 8 = .ok (.aload_n 0, 1) := by decide +kernel
theorem dX6_less_9 : decode cX6_less 9 = .ok (.iload_n 1, 1) := by decide +kernel
theorem dX6_less_10 : decode cX6_less 10 = .ok (.iload_n 3, 1) := by decide +kernel
theorem dX6_less_11 : decode cX6_less 11 = .ok (.iadd, 1) := by decide +kernel
theorem dX6_less_12 : decode cX6_less 12 = .ok (.invokevirtual 51, 3) := by decide +kernel
theorem dX6_less_15 : decode cX6_less 15 = .ok (.istore 4, 2) := by decide +kernel
theorem dX6_less_17 : decode cX6_less 17 = .ok (.aload_n 0, 1) := by decide +kernel
theorem dX6_less_18 : decode cX6_less 18 = .ok (.iload_n 2, 1) := by decide +kernel
theorem dX6_less_19 : decode cX6_less 19 = .ok (.iload_n 3, 1) := by decide +kernel
theorem dX6_less_20 : decode cX6_less 20 = .ok (.iadd, 1) := by decide +kernel
theorem dX6_less_21 : decode cX6_less 21 = .ok (.invokevirtual 51, 3) := by decide +kernel
theorem dX6_less_24 : decode cX6_less 24 = .ok (.istore 5, 2) := by decide +kernel
theorem dX6_less_26 : decode cX6_less 26 = .ok (.iload 4, 2) := by decide +kernel
theorem dX6_less_28 : decode cX6_less 28 = .ok (.iload 5, 2) := by decide +kernel
theorem dX6_less_30 : decode cX6_less 30 = .ok (.if_icmp .eq 16, 3) := by decide +kernel
theorem dX6_less_33 : decode cX6_less 33 = .ok (.iload 4, 2) := by decide +kernel
theorem dX6_less_35 : decode cX6_less 35 = .ok (.iload 5, 2) := by decide +kernel
theorem dX6_less_37 : decode cX6_less 37 = .ok (.if_icmp .ge 7, 3) := by decide +kernel
theorem dX6_less_40 : decode cX6_less 40 = .ok (.iconst 1, 1) := by decide +kernel
theorem dX6_less_41 : decode cX6_less 41 = .ok (.goto 4, 3) := by decide +kernel
theorem dX6_less_44 : decode cX6_less 44 = .ok (.iconst 0, 1) := by decide +kernel
theorem dX6_less_45 : decode cX6_less 45 = .ok (.ireturn, 1) := by decide +kernel
theorem dX6_less_46 : decode cX6_less 46 = .ok (.iload 4, 2) := by decide +kernel
theorem dX6_less_48 : decode cX6_less 48 = .ok (.ifCond .ne 5, 3) := by decide +kernel
theorem dX6_less_51 : decode cX6_less 51 = .ok (.iconst 0, 1) := by decide +kernel
theorem dX6_less_52 : decode cX6_less 52 = .ok (.ireturn, 1) := by decide +kernel
theorem dX6_less_53 : decode cX6_less 53 = .ok (.iinc 3 1, 3) := by decide +kernel
theorem dX6_less_56 : decode cX6_less 56 = .ok (.goto (-54), 3) := by decide +kernel
theorem dX6_less_59 : decode cX6_less 59 = .ok (.iconst 0, 1) := by decide +kernel
theorem dX6_less_60 : decode cX6_less 60 = .ok (.ireturn, 1) := by decide +kernel
theorem dX6_before_0 : decode cX6_before 0 = .ok (.iconst 0, 1) := by decide +kernel
theorem dX6_before_1 : decode cX6_before 1 = .ok (.istore_n 2, 1) := by decide +kernel
theorem dX6_before_2 : decode cX6_before 2 = .ok (.iconst 0, 1) := by decide +kernel
theorem dX6_before_3 : decode cX6_before 3 = .ok (.istore_n 3, 1) := by decide +kernel
theorem dX6_before_4 : decode cX6_before 4 = .ok (.iload_n 3, 1) := by decide +kernel
theorem dX6_before_5 : decode cX6_before 5 = .ok (.aload_n 0, 1) := by decide +kernel
theorem dX6_before_6 : decode cX6_before 6 = .ok (.getfield 45, 3) := by decide +kernel
theorem dX6_before_9 : decode cX6_before 9 = .ok (.if_icmp .gt 26, 3) := by decide +kernel
theorem dX6_before_12 : decode cX6_before 12 = .ok (.aload_n 0, 1) := by decide +kernel
theorem dX6_before_13 : decode cX6_before 13 = .ok (.iload_n 3, 1) := by decide +kernel
theorem dX6_before_14 : decode cX6_before 14 = .ok (.iload_n 1, 1) := by decide +kernel
theorem dX6_before_15 : decode cX6_before 15 = .ok (.invokevirtual 55, 3) := by decide +kernel
theorem dX6_before_18 : decode cX6_before 18 = .ok (.ifCond .eq 9, 3) := by decide +kernel
theorem dX6_before_21 : decode cX6_before 21 = .ok (.iload_n 2, 1) := by decide +kernel
theorem dX6_before_22 : decode cX6_before 22 = .ok (.iconst 1, 1) := by decide +kernel
theorem dX6_before_23 : decode cX6_before 23 = .ok (.iadd, 1) := by decide +kernel
theorem dX6_before_24 : decode cX6_before 24 = .ok (.goto 4, 3) := by decide +kernel
theorem dX6_before_27 : decode cX6_before 27 = .ok (.iload_n 2, 1) := by decide +kernel
theorem dX6_before_28 : decode cX6_before 28 = .ok (.istore_n 2, 1) := by decide +kernel
theorem dX6_before_29 : decode cX6_before 29 = .ok (.iinc 3 1, 3) := by decide +kernel
theorem dX6_before_32 : decode cX6_before 32 = .ok (.goto (-28), 3) := by decide +kernel
theorem dX6_before_35 : decode cX6_before 35 = .ok (.iload_n 2, 1) := by decide +kernel
theorem dX6_before_36 : decode cX6_before 36 = .ok (.ireturn, 1) := by decide +kernel
theorem dX6_row_0 : decode cX6_row 0 = .ok (.iconst 0, 1) := by decide +kernel
theorem dX6_row_1 : decode cX6_row 1 = .ok (.istore_n 2, 1) := by decide +kernel
theorem dX6_row_2 : decode cX6_row 2 = .ok (.iload_n 2, 1) := by decide +kernel
theorem dX6_row_3 : decode cX6_row 3 = .ok (.aload_n 0, 1) := by decide +kernel
theorem dX6_row_4 : decode cX6_row 4 = .ok (.getfield 45, 3) := by decide +kernel
theorem dX6_row_7 : decode cX6_row 7 = .ok (.if_icmp .gt 20, 3) := by decide +kernel
theorem dX6_row_10 : decode cX6_row 10 = .ok (.aload_n 0, 1) := by decide +kernel
theorem dX6_row_11 : decode cX6_row 11 = .ok (.iload_n 2, 1) := by decide +kernel
theorem dX6_row_12 : decode cX6_row 12 = .ok (.invokevirtual 59, 3) := by decide +kernel
theorem dX6_row_15 : decode cX6_row 15 = .ok (.iload_n 1, 1) := by decide +kernel
theorem dX6_row_16 : decode cX6_row 16 = .ok (.if_icmp .ne 5, 3) := by decide +kernel
theorem dX6_row_19 : decode cX6_row 19 = .ok (.iload_n 2, 1) := by decide +kernel
theorem dX6_row_20 : decode cX6_row 20 = .ok (.ireturn, 1) := by decide +kernel
theorem dX6_row_21 : decode cX6_row 21 = .ok (.iinc 2 1, 3) := by decide +kernel
theorem dX6_row_24 : decode cX6_row 24 = .ok (.goto (-22), 3) := by decide +kernel
theorem dX6_row_27 : decode cX6_row 27 = .ok (.iconst (-1), 1) := by decide +kernel
theorem dX6_row_28 : decode cX6_row 28 = .ok (.ireturn, 1) := by decide +kernel
theorem dX6_base_0 : decode cX6_base 0 = .ok (.iload_n 1, 1) := by decide +kernel
theorem dX6_base_1 : decode cX6_base 1 = .ok (.ifCond .lt 17, 3) := by decide +kernel
theorem dX6_base_4 : decode cX6_base 4 = .ok (.iload_n 1, 1) := by decide +kernel
theorem dX6_base_5 : decode cX6_base 5 = .ok (.iconst 4, 1) := by decide +kernel
theorem dX6_base_6 : decode cX6_base 6 = .ok (.if_icmp .gt 12, 3) := by decide +kernel
theorem dX6_base_9 : decode cX6_base 9 = .ok (.aload_n 0, 1) := by decide +kernel
theorem dX6_base_10 : decode cX6_base 10 = .ok (.getfield 45, 3) := by decide +kernel
theorem dX6_base_13 : decode cX6_base 13 = .ok (.bipush 96, 2) := by decide +kernel
theorem dX6_base_15 : decode cX6_base 15 = .ok (.if_icmp .ne 5, 3) := by decide +kernel
theorem dX6_base_18 : decode cX6_base 18 = .ok (.iconst 0, 1) := by decide +kernel
theorem dX6_base_19 : decode cX6_base 19 = .ok (.ireturn, 1) := by decide +kernel
theorem dX6_base_20 : decode cX6_base 20 = .ok (.aload_n 0, 1) := by decide +kernel
theorem dX6_base_21 : decode cX6_base 21 = .ok (.getfield 7, 3) := by decide +kernel
theorem dX6_base_24 : decode cX6_base 24 = .ok (.aload_n 0, 1) := by decide +kernel
theorem dX6_base_25 : decode cX6_base 25 = .ok (.getfield 45, 3) := by decide +kernel
theorem dX6_base_28 : decode cX6_base 28 = .ok (.iload_n 1, 1) := by decide +kernel
theorem dX6_base_29 : decode cX6_base 29 = .ok (.iastore, 1) := by decide +kernel
theorem dX6_base_30 : decode cX6_base 30 = .ok (.aload_n 0, 1) := by decide +kernel
theorem dX6_base_31 : decode cX6_base 31 = .ok (.dup, 1) := by decide +kernel
theorem dX6_base_32 : decode cX6_base 32 = .ok (.getfield 45, 3) := by decide +kernel
theorem dX6_base_35 : decode cX6_base 35 = .ok (.iconst 1, 1) := by decide +kernel
theorem dX6_base_36 : decode cX6_base 36 = .ok (.iadd, 1) := by decide +kernel
theorem dX6_base_37 : decode cX6_base 37 = .ok (.putfield 45, 3) := by decide +kernel
theorem dX6_base_40 : decode cX6_base 40 = .ok (.iconst 1, 1) := by decide +kernel
theorem dX6_base_41 : decode cX6_base 41 = .ok (.ireturn, 1) := by decide +kernel
theorem dX6_clear_0 : decode cX6_clear 0 = .ok (.aload_n 0, 1) := by decide +kernel
theorem dX6_clear_1 : decode cX6_clear 1 = .ok (.iconst 0, 1) := by decide +kernel
theorem dX6_clear_2 : decode cX6_clear 2 = .ok (.putfield 45, 3) := by decide +kernel
theorem dX6_clear_5 : decode cX6_clear 5 = .ok (.return_, 1) := by decide +kernel
theorem dX6_read_0 : decode cX6_read 0 = .ok (.iload_n 1, 1) := by decide +kernel
theorem dX6_read_1 : decode cX6_read 1 = .ok (.ifCond .lt 17, 3) := by decide +kernel
theorem dX6_read_4 : decode cX6_read 4 = .ok (.iload_n 1, 1) := by decide +kernel
theorem dX6_read_5 : decode cX6_read 5 = .ok (.iconst 3, 1) := by decide +kernel
theorem dX6_read_6 : decode cX6_read 6 = .ok (.if_icmp .gt 12, 3) := by decide +kernel
theorem dX6_read_9 : decode cX6_read 9 = .ok (.aload_n 0, 1) := by decide +kernel
theorem dX6_read_10 : decode cX6_read 10 = .ok (.getfield 48, 3) := by decide +kernel
theorem dX6_read_13 : decode cX6_read 13 = .ok (.bipush 24, 2) := by decide +kernel
theorem dX6_read_15 : decode cX6_read 15 = .ok (.if_icmp .ne 5, 3) := by decide +kernel
theorem dX6_read_18 : decode cX6_read 18 = .ok (.iconst 0, 1) := by decide +kernel
theorem dX6_read_19 : decode cX6_read 19 = .ok (.ireturn, 1) := by decide +kernel
theorem dX6_read_20 : decode cX6_read 20 = .ok (.aload_n 0, 1) := by decide +kernel
theorem dX6_read_21 : decode cX6_read 21 = .ok (.getfield 13, 3) := by decide +kernel
theorem dX6_read_24 : decode cX6_read 24 = .ok (.aload_n 0, 1) := by decide +kernel
theorem dX6_read_25 : decode cX6_read 25 = .ok (.getfield 48, 3) := by decide +kernel
theorem dX6_read_28 : decode cX6_read 28 = .ok (.iload_n 1, 1) := by decide +kernel
theorem dX6_read_29 : decode cX6_read 29 = .ok (.iastore, 1) := by decide +kernel
theorem dX6_read_30 : decode cX6_read 30 = .ok (.aload_n 0, 1) := by decide +kernel
theorem dX6_read_31 : decode cX6_read 31 = .ok (.dup, 1) := by decide +kernel
theorem dX6_read_32 : decode cX6_read 32 = .ok (.getfield 48, 3) := by decide +kernel
theorem dX6_read_35 : decode cX6_read 35 = .ok (.iconst 1, 1) := by decide +kernel
theorem dX6_read_36 : decode cX6_read 36 = .ok (.iadd, 1) := by decide +kernel
theorem dX6_read_37 : decode cX6_read 37 = .ok (.putfield 48, 3) := by decide +kernel
theorem dX6_read_40 : decode cX6_read 40 = .ok (.iconst 1, 1) := by decide +kernel
theorem dX6_read_41 : decode cX6_read 41 = .ok (.ireturn, 1) := by decide +kernel
theorem dX6_wipe_0 : decode cX6_wipe 0 = .ok (.aload_n 0, 1) := by decide +kernel
theorem dX6_wipe_1 : decode cX6_wipe 1 = .ok (.iconst 0, 1) := by decide +kernel
theorem dX6_wipe_2 : decode cX6_wipe 2 = .ok (.putfield 48, 3) := by decide +kernel
theorem dX6_wipe_5 : decode cX6_wipe 5 = .ok (.return_, 1) := by decide +kernel
theorem dX6_symbol_0 : decode cX6_symbol 0 = .ok (.iload_n 1, 1) := by decide +kernel
theorem dX6_symbol_1 : decode cX6_symbol 1 = .ok (.ifCond .ne 12, 3) := by decide +kernel
theorem dX6_symbol_4 : decode cX6_symbol 4 = .ok (.aload_n 0, 1) := by decide +kernel
theorem dX6_symbol_5 : decode cX6_symbol 5 = .ok (.getfield 13, 3) := by decide +kernel
theorem dX6_symbol_8 : decode cX6_symbol 8 = .ok (.iload_n 2, 1) := by decide +kernel
theorem dX6_symbol_9 : decode cX6_symbol 9 = .ok (.iaload, 1) := by decide +kernel
theorem dX6_symbol_10 : decode cX6_symbol 10 = .ok (.goto 18, 3) := by decide +kernel
theorem dX6_symbol_13 : decode cX6_symbol 13 = .ok (.iconst 3, 1) := by decide +kernel
theorem dX6_symbol_14 : decode cX6_symbol 14 = .ok (.aload_n 0, 1) := by decide +kernel
theorem dX6_symbol_15 : decode cX6_symbol 15 = .ok (.getfield 13, 3) := by decide +kernel
theorem dX6_symbol_18 : decode cX6_symbol 18 = .ok (.aload_n 0, 1) := by decide +kernel
theorem dX6_symbol_19 : decode cX6_symbol 19 = .ok (.getfield 48, 3) := by decide +kernel
theorem dX6_symbol_22 : decode cX6_symbol 22 = .ok (.iconst 1, 1) := by decide +kernel
theorem dX6_symbol_23 : decode cX6_symbol 23 = .ok (.isub, 1) := by decide +kernel
theorem dX6_symbol_24 : decode cX6_symbol 24 = .ok (.iload_n 2, 1) := by decide +kernel
theorem dX6_symbol_25 : decode cX6_symbol 25 = .ok (.isub, 1) := by decide +kernel
theorem dX6_symbol_26 : decode cX6_symbol 26 = .ok (.iaload, 1) := by decide +kernel
theorem dX6_symbol_27 : decode cX6_symbol 27 = .ok (.isub, 1) := by decide +kernel
theorem dX6_symbol_28 : decode cX6_symbol 28 = .ok (.ireturn, 1) := by decide +kernel
theorem dX6_turn_0 : decode cX6_turn 0 = .ok (.iconst 0, 1) := by decide +kernel
theorem dX6_turn_1 : decode cX6_turn 1 = .ok (.istore_n 1, 1) := by decide +kernel
theorem dX6_turn_2 : decode cX6_turn 2 = .ok (.iload_n 1, 1) := by decide +kernel
theorem dX6_turn_3 : decode cX6_turn 3 = .ok (.aload_n 0, 1) := by decide +kernel
theorem dX6_turn_4 : decode cX6_turn 4 = .ok (.getfield 48, 3) := by decide +kernel
theorem dX6_turn_7 : decode cX6_turn 7 = .ok (.iconst 1, 1) := by decide +kernel
theorem dX6_turn_8 : decode cX6_turn 8 = .ok (.iadd, 1) := by decide +kernel
theorem dX6_turn_9 : decode cX6_turn 9 = .ok (.iconst 2, 1) := by decide +kernel
theorem dX6_turn_10 : decode cX6_turn 10 = .ok (.idiv, 1) := by decide +kernel
theorem dX6_turn_11 : decode cX6_turn 11 = .ok (.if_icmp .ge 53, 3) := by decide +kernel
theorem dX6_turn_14 : decode cX6_turn 14 = .ok (.iconst 3, 1) := by decide +kernel
theorem dX6_turn_15 : decode cX6_turn 15 = .ok (.aload_n 0, 1) := by decide +kernel
theorem dX6_turn_16 : decode cX6_turn 16 = .ok (.getfield 13, 3) := by decide +kernel
theorem dX6_turn_19 : decode cX6_turn 19 = .ok (.iload_n 1, 1) := by decide +kernel
theorem dX6_turn_20 : decode cX6_turn 20 = .ok (.iaload, 1) := by decide +kernel
theorem dX6_turn_21 : decode cX6_turn 21 = .ok (.isub, 1) := by decide +kernel
theorem dX6_turn_22 : decode cX6_turn 22 = .ok (.istore_n 2, 1) := by decide +kernel
theorem dX6_turn_23 : decode cX6_turn 23 = .ok (.aload_n 0, 1) := by decide +kernel
theorem dX6_turn_24 : decode cX6_turn 24 = .ok (.getfield 13, 3) := by decide +kernel
theorem dX6_turn_27 : decode cX6_turn 27 = .ok (.iload_n 1, 1) := by decide +kernel
theorem dX6_turn_28 : decode cX6_turn 28 = .ok (.iconst 3, 1) := by decide +kernel
theorem dX6_turn_29 : decode cX6_turn 29 = .ok (.aload_n 0, 1) := by decide +kernel
theorem dX6_turn_30 : decode cX6_turn 30 = .ok (.getfield 13, 3) := by decide +kernel
theorem dX6_turn_33 : decode cX6_turn 33 = .ok (.aload_n 0, 1) := by decide +kernel
theorem dX6_turn_34 : decode cX6_turn 34 = .ok (.getfield 48, 3) := by decide +kernel
theorem dX6_turn_37 : decode cX6_turn 37 = .ok (.iconst 1, 1) := by decide +kernel
theorem dX6_turn_38 : decode cX6_turn 38 = .ok (.isub, 1) := by decide +kernel
theorem dX6_turn_39 : decode cX6_turn 39 = .ok (.iload_n 1, 1) := by decide +kernel
theorem dX6_turn_40 : decode cX6_turn 40 = .ok (.isub, 1) := by decide +kernel
theorem dX6_turn_41 : decode cX6_turn 41 = .ok (.iaload, 1) := by decide +kernel
theorem dX6_turn_42 : decode cX6_turn 42 = .ok (.isub, 1) := by decide +kernel
theorem dX6_turn_43 : decode cX6_turn 43 = .ok (.iastore, 1) := by decide +kernel
theorem dX6_turn_44 : decode cX6_turn 44 = .ok (.aload_n 0, 1) := by decide +kernel
theorem dX6_turn_45 : decode cX6_turn 45 = .ok (.getfield 13, 3) := by decide +kernel
theorem dX6_turn_48 : decode cX6_turn 48 = .ok (.aload_n 0, 1) := by decide +kernel
theorem dX6_turn_49 : decode cX6_turn 49 = .ok (.getfield 48, 3) := by decide +kernel
theorem dX6_turn_52 : decode cX6_turn 52 = .ok (.iconst 1, 1) := by decide +kernel
theorem dX6_turn_53 : decode cX6_turn 53 = .ok (.isub, 1) := by decide +kernel
theorem dX6_turn_54 : decode cX6_turn 54 = .ok (.iload_n 1, 1) := by decide +kernel
theorem dX6_turn_55 : decode cX6_turn 55 = .ok (.isub, 1) := by decide +kernel
theorem dX6_turn_56 : decode cX6_turn 56 = .ok (.iload_n 2, 1) := by decide +kernel
theorem dX6_turn_57 : decode cX6_turn 57 = .ok (.iastore, 1) := by decide +kernel
theorem dX6_turn_58 : decode cX6_turn 58 = .ok (.iinc 1 1, 3) := by decide +kernel
theorem dX6_turn_61 : decode cX6_turn 61 = .ok (.goto (-59), 3) := by decide +kernel
theorem dX6_turn_64 : decode cX6_turn 64 = .ok (.return_, 1) := by decide +kernel
theorem dX6_length_0 : decode cX6_length 0 = .ok (.iload_n 1, 1) := by decide +kernel
theorem dX6_length_1 : decode cX6_length 1 = .ok (.ifCond .eq 10, 3) := by decide +kernel
theorem dX6_length_4 : decode cX6_length 4 = .ok (.aload_n 0, 1) := by decide +kernel
theorem dX6_length_5 : decode cX6_length 5 = .ok (.getfield 48, 3) := by decide +kernel
theorem dX6_length_8 : decode cX6_length 8 = .ok (.goto 7, 3) := by decide +kernel
theorem dX6_length_11 : decode cX6_length 11 = .ok (.aload_n 0, 1) := by decide +kernel
theorem dX6_length_12 : decode cX6_length 12 = .ok (.getfield 45, 3) := by decide +kernel
theorem dX6_length_15 : decode cX6_length 15 = .ok (.ireturn, 1) := by decide +kernel
theorem dX6_hits_0 : decode cX6_hits 0 = .ok (.aload_n 0, 1) := by decide +kernel
theorem dX6_hits_1 : decode cX6_hits 1 = .ok (.getfield 117, 3) := by decide +kernel
theorem dX6_hits_4 : decode cX6_hits 4 = .ok (.ireturn, 1) := by decide +kernel
theorem dX6_size_0 : decode cX6_size 0 = .ok (.aload_n 0, 1) := by decide +kernel
theorem dX6_size_1 : decode cX6_size 1 = .ok (.getfield 120, 3) := by decide +kernel
theorem dX6_size_4 : decode cX6_size 4 = .ok (.ireturn, 1) := by decide +kernel
theorem dX6_mappings_0 : decode cX6_mappings 0 = .ok (.aload_n 0, 1) := by decide +kernel
theorem dX6_mappings_1 : decode cX6_mappings 1 = .ok (.getfield 102, 3) := by decide +kernel
theorem dX6_mappings_4 : decode cX6_mappings 4 = .ok (.ireturn, 1) := by decide +kernel
theorem dX6_hit_0 : decode cX6_hit 0 = .ok (.iload_n 1, 1) := by decide +kernel
theorem dX6_hit_1 : decode cX6_hit 1 = .ok (.ifCond .lt 20, 3) := by decide +kernel
theorem dX6_hit_4 : decode cX6_hit 4 = .ok (.iload_n 1, 1) := by decide +kernel
theorem dX6_hit_5 : decode cX6_hit 5 = .ok (.aload_n 0, 1) := by decide +kernel
theorem dX6_hit_6 : decode cX6_hit 6 = .ok (.getfield 117, 3) := by decide +kernel
theorem dX6_hit_9 : decode cX6_hit 9 = .ok (.if_icmp .ge 12, 3) := by decide +kernel
theorem dX6_hit_12 : decode cX6_hit 12 = .ok (.iload_n 2, 1) := by decide +kernel
theorem dX6_hit_13 : decode cX6_hit 13 = .ok (.ifCond .lt 8, 3) := by decide +kernel
theorem dX6_hit_16 : decode cX6_hit 16 = .ok (.iload_n 2, 1) := by decide +kernel
theorem dX6_hit_17 : decode cX6_hit 17 = .ok (.iconst 3, 1) := by decide +kernel
theorem dX6_hit_18 : decode cX6_hit 18 = .ok (.if_icmp .le 6, 3) := by decide +kernel
theorem dX6_hit_21 : decode cX6_hit 21 = .ok (.bipush (-2), 2) := by decide +kernel
theorem dX6_hit_23 : decode cX6_hit 23 = .ok (.ireturn, 1) := by decide +kernel
theorem dX6_hit_24 : decode cX6_hit 24 = .ok (.iload_n 2, 1) := by decide +kernel
theorem dX6_hit_25 : decode cX6_hit 25 = .ok (.ifCond .ne 12, 3) := by decide +kernel
theorem dX6_hit_28 : decode cX6_hit 28 = .ok (.aload_n 0, 1) := by decide +kernel
theorem dX6_hit_29 : decode cX6_hit 29 = .ok (.getfield 16, 3) := by decide +kernel
theorem dX6_hit_32 : decode cX6_hit 32 = .ok (.iload_n 1, 1) := by decide +kernel
theorem dX6_hit_33 : decode cX6_hit 33 = .ok (.iaload, 1) := by decide +kernel
theorem dX6_hit_34 : decode cX6_hit 34 = .ok (.goto 44, 3) := by decide +kernel
theorem dX6_hit_37 : decode cX6_hit 37 = .ok (.iload_n 2, 1) := by decide +kernel
theorem dX6_hit_38 : decode cX6_hit 38 = .ok (.iconst 1, 1) := by decide +kernel
theorem dX6_hit_39 : decode cX6_hit 39 = .ok (.if_icmp .ne 12, 3) := by decide +kernel
theorem dX6_hit_42 : decode cX6_hit 42 = .ok (.aload_n 0, 1) := by decide +kernel
theorem dX6_hit_43 : decode cX6_hit 43 = .ok (.getfield 19, 3) := by decide +kernel
theorem dX6_hit_46 : decode cX6_hit 46 = .ok (.iload_n 1, 1) := by decide +kernel
theorem dX6_hit_47 : decode cX6_hit 47 = .ok (.iaload, 1) := by decide +kernel
theorem dX6_hit_48 : decode cX6_hit 48 = .ok (.goto 30, 3) := by decide +kernel
theorem dX6_hit_51 : decode cX6_hit 51 = .ok (.iload_n 2, 1) := by decide +kernel
theorem dX6_hit_52 : decode cX6_hit 52 = .ok (.iconst 2, 1) := by decide +kernel
theorem dX6_hit_53 : decode cX6_hit 53 = .ok (.if_icmp .ne 12, 3) := by decide +kernel
theorem dX6_hit_56 : decode cX6_hit 56 = .ok (.aload_n 0, 1) := by decide +kernel
theorem dX6_hit_57 : decode cX6_hit 57 = .ok (.getfield 22, 3) := by decide +kernel
theorem dX6_hit_60 : decode cX6_hit 60 = .ok (.iload_n 1, 1) := by decide +kernel
theorem dX6_hit_61 : decode cX6_hit 61 = .ok (.iaload, 1) := by decide +kernel
theorem dX6_hit_62 : decode cX6_hit 62 = .ok (.goto 16, 3) := by decide +kernel
theorem dX6_hit_65 : decode cX6_hit 65 = .ok (.iload_n 1, 1) := by decide +kernel
theorem dX6_hit_66 : decode cX6_hit 66 = .ok (.aload_n 0, 1) := by decide +kernel
theorem dX6_hit_67 : decode cX6_hit 67 = .ok (.getfield 25, 3) := by decide +kernel
theorem dX6_hit_70 : decode cX6_hit 70 = .ok (.if_icmp .ne 7, 3) := by decide +kernel
theorem dX6_hit_73 : decode cX6_hit 73 = .ok (.iconst 1, 1) := by decide +kernel
theorem dX6_hit_74 : decode cX6_hit 74 = .ok (.goto 4, 3) := by decide +kernel
theorem dX6_hit_77 : decode cX6_hit 77 = .ok (.iconst 0, 1) := by decide +kernel
theorem dX6_hit_78 : decode cX6_hit 78 = .ok (.ireturn, 1) := by decide +kernel
end
section
theorem dX6_at_0 : decode cX6_at 0 = .ok (.iload_n 1, 1) := by decide +kernel
theorem dX6_at_1 : decode cX6_at 1 = .ok (.ifCond .lt 11, 3) := by decide +kernel
theorem dX6_at_4 : decode cX6_at 4 = .ok (.iload_n 1, 1) := by decide +kernel
theorem dX6_at_5 : decode cX6_at 5 = .ok (.aload_n 0, 1) := by decide +kernel
theorem dX6_at_6 : decode cX6_at 6 = .ok (.getfield 120, 3) := by decide +kernel
theorem dX6_at_9 : decode cX6_at 9 = .ok (.if_icmp .lt 7, 3) := by decide +kernel
theorem dX6_at_12 : decode cX6_at 12 = .ok (.iconst (-1), 1) := by decide +kernel
theorem dX6_at_13 : decode cX6_at 13 = .ok (.goto 9, 3) := by decide +kernel
theorem dX6_at_16 : decode cX6_at 16 = .ok (.aload_n 0, 1) := by decide +kernel
theorem dX6_at_17 : decode cX6_at 17 = .ok (.getfield 38, 3) := by decide +kernel
theorem dX6_at_20 : decode cX6_at 20 = .ok (.iload_n 1, 1) := by decide +kernel
theorem dX6_at_21 : decode cX6_at 21 = .ok (.caload, 1) := by decide +kernel
theorem dX6_at_22 : decode cX6_at 22 = .ok (.ireturn, 1) := by decide +kernel
theorem dX6_starts_0 : decode cX6_starts 0 = .ok (.aload_n 0, 1) := by decide +kernel
theorem dX6_starts_1 : decode cX6_starts 1 = .ok (.getfield 48, 3) := by decide +kernel
theorem dX6_starts_4 : decode cX6_starts 4 = .ok (.ifCond .le 20, 3) := by decide +kernel
theorem dX6_starts_7 : decode cX6_starts 7 = .ok (.iload_n 1, 1) := by decide +kernel
theorem dX6_starts_8 : decode cX6_starts 8 = .ok (.aload_n 0, 1) := by decide +kernel
theorem dX6_starts_9 : decode cX6_starts 9 = .ok (.getfield 48, 3) := by decide +kernel
theorem dX6_starts_12 : decode cX6_starts 12 = .ok (.iadd, 1) := by decide +kernel
theorem dX6_starts_13 : decode cX6_starts 13 = .ok (.aload_n 0, 1) := by decide +kernel
theorem dX6_starts_14 : decode cX6_starts 14 = .ok (.getfield 45, 3) := by decide +kernel
theorem dX6_starts_17 : decode cX6_starts 17 = .ok (.if_icmp .gt 7, 3) := by decide +kernel
theorem dX6_starts_20 : decode cX6_starts 20 = .ok (.iconst 1, 1) := by decide +kernel
theorem dX6_starts_21 : decode cX6_starts 21 = .ok (.goto 4, 3) := by decide +kernel
theorem dX6_starts_24 : decode cX6_starts 24 = .ok (.iconst 0, 1) := by decide +kernel
theorem dX6_starts_25 : decode cX6_starts 25 = .ok (.istore_n 2, 1) := by decide +kernel
theorem dX6_starts_26 : decode cX6_starts 26 = .ok (.iconst 0, 1) := by decide +kernel
theorem dX6_starts_27 : decode cX6_starts 27 = .ok (.istore_n 3, 1) := by decide +kernel
theorem dX6_starts_28 : decode cX6_starts 28 = .ok (.iload_n 3, 1) := by decide +kernel
theorem dX6_starts_29 : decode cX6_starts 29 = .ok (.aload_n 0, 1) := by decide +kernel
theorem dX6_starts_30 : decode cX6_starts 30 = .ok (.getfield 48, 3) := by decide +kernel
theorem dX6_starts_33 : decode cX6_starts 33 = .ok (.if_icmp .ge 36, 3) := by decide +kernel
theorem dX6_starts_36 : decode cX6_starts 36 = .ok (.iload_n 2, 1) := by decide +kernel
theorem dX6_starts_37 : decode cX6_starts 37 = .ok (.ifCond .eq 32, 3) := by decide +kernel
theorem dX6_starts_40 : decode cX6_starts 40 = .ok (.aload_n 0, 1) := by decide +kernel
theorem dX6_starts_41 : decode cX6_starts 41 = .ok (.getfield 7, 3) := by decide +kernel
theorem dX6_starts_44 : decode cX6_starts 44 = .ok (.iload_n 1, 1) := by decide +kernel
theorem dX6_starts_45 : decode cX6_starts 45 = .ok (.iload_n 3, 1) := by decide +kernel
theorem dX6_starts_46 : decode cX6_starts 46 = .ok (.iadd, 1) := by decide +kernel
theorem dX6_starts_47 : decode cX6_starts 47 = .ok (.iaload, 1) := by decide +kernel
theorem dX6_starts_48 : decode cX6_starts 48 = .ok (.aload_n 0, 1) := by decide +kernel
theorem dX6_starts_49 : decode cX6_starts 49 = .ok (.getfield 13, 3) := by decide +kernel
theorem dX6_starts_52 : decode cX6_starts 52 = .ok (.iload_n 3, 1) := by decide +kernel
theorem dX6_starts_53 : decode cX6_starts 53 = .ok (.iaload, 1) := by decide +kernel
theorem dX6_starts_54 : decode cX6_starts 54 = .ok (.if_icmp .ne 7, 3) := by decide +kernel
theorem dX6_starts_57 : decode cX6_starts 57 = .ok (.iconst 1, 1) := by decide +kernel
theorem dX6_starts_58 : decode cX6_starts 58 = .ok (.goto 4, 3) := by decide +kernel
theorem dX6_starts_61 : decode cX6_starts 61 = .ok (.iconst 0, 1) := by decide +kernel
theorem dX6_starts_62 : decode cX6_starts 62 = .ok (.istore_n 2, 1) := by decide +kernel
theorem dX6_starts_63 : decode cX6_starts 63 = .ok (.iinc 3 1, 3) := by decide +kernel
theorem dX6_starts_66 : decode cX6_starts 66 = .ok (.goto (-38), 3) := by decide +kernel
theorem dX6_starts_69 : decode cX6_starts 69 = .ok (.iload_n 2, 1) := by decide +kernel
theorem dX6_starts_70 : decode cX6_starts 70 = .ok (.ireturn, 1) := by decide +kernel
theorem dX6_first_0 : decode cX6_first 0 = .ok (.iconst (-1), 1) := by decide +kernel
theorem dX6_first_1 : decode cX6_first 1 = .ok (.istore_n 1, 1) := by decide +kernel
theorem dX6_first_2 : decode cX6_first 2 = .ok (.iconst 0, 1) := by decide +kernel
theorem dX6_first_3 : decode cX6_first 3 = .ok (.istore_n 2, 1) := by decide +kernel
theorem dX6_first_4 : decode cX6_first 4 = .ok (.iload_n 2, 1) := by decide +kernel
theorem dX6_first_5 : decode cX6_first 5 = .ok (.aload_n 0, 1) := by decide +kernel
theorem dX6_first_6 : decode cX6_first 6 = .ok (.getfield 45, 3) := by decide +kernel
theorem dX6_first_9 : decode cX6_first 9 = .ok (.if_icmp .ge 38, 3) := by decide +kernel
theorem dX6_first_12 : decode cX6_first 12 = .ok (.aload_n 0, 1) := by decide +kernel
theorem dX6_first_13 : decode cX6_first 13 = .ok (.iload_n 2, 1) := by decide +kernel
theorem dX6_first_14 : decode cX6_first 14 = .ok (.invokevirtual 65, 3) := by decide +kernel
theorem dX6_first_17 : decode cX6_first 17 = .ok (.ifCond .eq 24, 3) := by decide +kernel
theorem dX6_first_20 : decode cX6_first 20 = .ok (.aload_n 0, 1) := by decide +kernel
theorem dX6_first_21 : decode cX6_first 21 = .ok (.iload_n 2, 1) := by decide +kernel
theorem dX6_first_22 : decode cX6_first 22 = .ok (.invokevirtual 59, 3) := by decide +kernel
theorem dX6_first_25 : decode cX6_first 25 = .ok (.istore_n 3, 1) := by decide +kernel
theorem dX6_first_26 : decode cX6_first 26 = .ok (.iload_n 1, 1) := by decide +kernel
theorem dX6_first_27 : decode cX6_first 27 = .ok (.ifCond .lt 8, 3) := by decide +kernel
theorem dX6_first_30 : decode cX6_first 30 = .ok (.iload_n 3, 1) := by decide +kernel
theorem dX6_first_31 : decode cX6_first 31 = .ok (.iload_n 1, 1) := by decide +kernel
theorem dX6_first_32 : decode cX6_first 32 = .ok (.if_icmp .ge 7, 3) := by decide +kernel
theorem dX6_first_35 : decode cX6_first 35 = .ok (.iload_n 3, 1) := by decide +kernel
theorem dX6_first_36 : decode cX6_first 36 = .ok (.goto 4, 3) := by decide +kernel
theorem dX6_first_39 : decode cX6_first 39 = .ok (.iload_n 1, 1) := by decide +kernel
theorem dX6_first_40 : decode cX6_first 40 = .ok (.istore_n 1, 1) := by decide +kernel
theorem dX6_first_41 : decode cX6_first 41 = .ok (.iinc 2 1, 3) := by decide +kernel
theorem dX6_first_44 : decode cX6_first 44 = .ok (.goto (-40), 3) := by decide +kernel
theorem dX6_first_47 : decode cX6_first 47 = .ok (.iload_n 1, 1) := by decide +kernel
theorem dX6_first_48 : decode cX6_first 48 = .ok (.ireturn, 1) := by decide +kernel
theorem dX6_count_0 : decode cX6_count 0 = .ok (.iconst 0, 1) := by decide +kernel
theorem dX6_count_1 : decode cX6_count 1 = .ok (.istore_n 1, 1) := by decide +kernel
theorem dX6_count_2 : decode cX6_count 2 = .ok (.iconst 0, 1) := by decide +kernel
theorem dX6_count_3 : decode cX6_count 3 = .ok (.istore_n 2, 1) := by decide +kernel
theorem dX6_count_4 : decode cX6_count 4 = .ok (.iload_n 2, 1) := by decide +kernel
theorem dX6_count_5 : decode cX6_count 5 = .ok (.aload_n 0, 1) := by decide +kernel
theorem dX6_count_6 : decode cX6_count 6 = .ok (.getfield 45, 3) := by decide +kernel
theorem dX6_count_9 : decode cX6_count 9 = .ok (.if_icmp .ge 25, 3) := by decide +kernel
theorem dX6_count_12 : decode cX6_count 12 = .ok (.aload_n 0, 1) := by decide +kernel
theorem dX6_count_13 : decode cX6_count 13 = .ok (.iload_n 2, 1) := by decide +kernel
theorem dX6_count_14 : decode cX6_count 14 = .ok (.invokevirtual 65, 3) := by decide +kernel
theorem dX6_count_17 : decode cX6_count 17 = .ok (.ifCond .eq 9, 3) := by decide +kernel
theorem dX6_count_20 : decode cX6_count 20 = .ok (.iload_n 1, 1) := by decide +kernel
theorem dX6_count_21 : decode cX6_count 21 = .ok (.iconst 1, 1) := by decide +kernel
theorem dX6_count_22 : decode cX6_count 22 = .ok (.iadd, 1) := by decide +kernel
theorem dX6_count_23 : decode cX6_count 23 = .ok (.goto 4, 3) := by decide +kernel
theorem dX6_count_26 : decode cX6_count 26 = .ok (.iload_n 1, 1) := by decide +kernel
theorem dX6_count_27 : decode cX6_count 27 = .ok (.istore_n 1, 1) := by decide +kernel
theorem dX6_count_28 : decode cX6_count 28 = .ok (.iinc 2 1, 3) := by decide +kernel
theorem dX6_count_31 : decode cX6_count 31 = .ok (.goto (-27), 3) := by decide +kernel
theorem dX6_count_34 : decode cX6_count 34 = .ok (.iload_n 1, 1) := by decide +kernel
theorem dX6_count_35 : decode cX6_count 35 = .ok (.ireturn, 1) := by decide +kernel
theorem dX6_differ_0 : decode cX6_differ 0 = .ok (.iconst 0, 1) := by decide +kernel
theorem dX6_differ_1 : decode cX6_differ 1 = .ok (.istore_n 3, 1) := by decide +kernel
theorem dX6_differ_2 : decode cX6_differ 2 = .ok (.iconst 0, 1) := by decide +kernel
theorem dX6_differ_3 : decode cX6_differ 3 = .ok (.istore 4, 2) := by decide +kernel
theorem dX6_differ_5 : decode cX6_differ 5 = .ok (.iload 4, 2) := by decide +kernel
theorem dX6_differ_7 : decode cX6_differ 7 = .ok (.aload_n 0, 1) := by decide +kernel
theorem dX6_differ_8 : decode cX6_differ 8 = .ok (.getfield 48, 3) := by decide +kernel
theorem dX6_differ_11 : decode cX6_differ 11 = .ok (.if_icmp .ge 36, 3) := by decide +kernel
theorem dX6_differ_14 : decode cX6_differ 14 = .ok (.aload_n 0, 1) := by decide +kernel
theorem dX6_differ_15 : decode cX6_differ 15 = .ok (.getfield 7, 3) := by decide +kernel
theorem dX6_differ_18 : decode cX6_differ 18 = .ok (.iload_n 1, 1) := by decide +kernel
theorem dX6_differ_19 : decode cX6_differ 19 = .ok (.iload 4, 2) := by decide +kernel
theorem dX6_differ_21 : decode cX6_differ 21 = .ok (.iadd, 1) := by decide +kernel
theorem dX6_differ_22 : decode cX6_differ 22 = .ok (.iaload, 1) := by decide +kernel
theorem dX6_differ_23 : decode cX6_differ 23 = .ok (.aload_n 0, 1) := by decide +kernel
theorem dX6_differ_24 : decode cX6_differ 24 = .ok (.iload_n 2, 1) := by decide +kernel
theorem dX6_differ_25 : decode cX6_differ 25 = .ok (.iload 4, 2) := by decide +kernel
theorem dX6_differ_27 : decode cX6_differ 27 = .ok (.invokevirtual 69, 3) := by decide +kernel
theorem dX6_differ_30 : decode cX6_differ 30 = .ok (.if_icmp .ne 7, 3) := by decide +kernel
theorem dX6_differ_33 : decode cX6_differ 33 = .ok (.iload_n 3, 1) := by decide +kernel
theorem dX6_differ_34 : decode cX6_differ 34 = .ok (.goto 6, 3) := by decide +kernel
theorem dX6_differ_37 : decode cX6_differ 37 = .ok (.iload_n 3, 1) := by decide +kernel
theorem dX6_differ_38 : decode cX6_differ 38 = .ok (.iconst 1, 1) := by decide +kernel
theorem dX6_differ_39 : decode cX6_differ 39 = .ok (.iadd, 1) := by decide +kernel
theorem dX6_differ_40 : decode cX6_differ 40 = .ok (.istore_n 3, 1) := by decide +kernel
theorem dX6_differ_41 : decode cX6_differ 41 = .ok (.iinc 4 1, 3) := by decide +kernel
theorem dX6_differ_44 : decode cX6_differ 44 = .ok (.goto (-39), 3) := by decide +kernel
theorem dX6_differ_47 : decode cX6_differ 47 = .ok (.iload_n 3, 1) := by decide +kernel
theorem dX6_differ_48 : decode cX6_differ 48 = .ok (.ireturn, 1) := by decide +kernel
theorem dX6_last_0 : decode cX6_last 0 = .ok (.aload_n 0, 1) := by decide +kernel
theorem dX6_last_1 : decode cX6_last 1 = .ok (.iload_n 1, 1) := by decide +kernel
theorem dX6_last_2 : decode cX6_last 2 = .ok (.invokevirtual 62, 3) := by decide +kernel
theorem dX6_last_5 : decode cX6_last 5 = .ok (.istore_n 2, 1) := by decide +kernel
theorem dX6_last_6 : decode cX6_last 6 = .ok (.iload_n 2, 1) := by decide +kernel
theorem dX6_last_7 : decode cX6_last 7 = .ok (.ifCond .ge 7, 3) := by decide +kernel
theorem dX6_last_10 : decode cX6_last 10 = .ok (.iconst (-1), 1) := by decide +kernel
theorem dX6_last_11 : decode cX6_last 11 = .ok (.goto 19, 3) := by decide +kernel
theorem dX6_last_14 : decode cX6_last 14 = .ok (.iload_n 2, 1) := by decide +kernel
theorem dX6_last_15 : decode cX6_last 15 = .ok (.ifCond .ne 7, 3) := by decide +kernel
theorem dX6_last_18 : decode cX6_last 18 = .ok (.iconst 5, 1) := by decide +kernel
theorem dX6_last_19 : decode cX6_last 19 = .ok (.goto 11, 3) := by decide +kernel
theorem dX6_last_22 : decode cX6_last 22 = .ok (.aload_n 0, 1) := by decide +kernel
theorem dX6_last_23 : decode cX6_last 23 = .ok (.getfield 7, 3) := by decide +kernel
theorem dX6_last_26 : decode cX6_last 26 = .ok (.iload_n 2, 1) := by decide +kernel
theorem dX6_last_27 : decode cX6_last 27 = .ok (.iconst 1, 1) := by decide +kernel
theorem dX6_last_28 : decode cX6_last 28 = .ok (.isub, 1) := by decide +kernel
theorem dX6_last_29 : decode cX6_last 29 = .ok (.iaload, 1) := by decide +kernel
theorem dX6_last_30 : decode cX6_last 30 = .ok (.ireturn, 1) := by decide +kernel
theorem dX6_rank_0 : decode cX6_rank 0 = .ok (.iload_n 1, 1) := by decide +kernel
theorem dX6_rank_1 : decode cX6_rank 1 = .ok (.ifCond .lt 22, 3) := by decide +kernel
theorem dX6_rank_4 : decode cX6_rank 4 = .ok (.iload_n 1, 1) := by decide +kernel
theorem dX6_rank_5 : decode cX6_rank 5 = .ok (.iconst 5, 1) := by decide +kernel
theorem dX6_rank_6 : decode cX6_rank 6 = .ok (.if_icmp .gt 17, 3) := by decide +kernel
theorem dX6_rank_9 : decode cX6_rank 9 = .ok (.iload_n 2, 1) := by decide +kernel
theorem dX6_rank_10 : decode cX6_rank 10 = .ok (.ifCond .lt 13, 3) := by decide +kernel
theorem dX6_rank_13 : decode cX6_rank 13 = .ok (.iload_n 2, 1) := by decide +kernel
theorem dX6_rank_14 : decode cX6_rank 14 = .ok (.aload_n 0, 1) := by decide +kernel
theorem dX6_rank_15 : decode cX6_rank 15 = .ok (.getfield 45, 3) := by decide +kernel
theorem dX6_rank_18 : decode cX6_rank 18 = .ok (.iconst 1, 1) := by decide +kernel
theorem dX6_rank_19 : decode cX6_rank 19 = .ok (.iadd, 1) := by decide +kernel
theorem dX6_rank_20 : decode cX6_rank 20 = .ok (.if_icmp .le 6, 3) := by decide +kernel
theorem dX6_rank_23 : decode cX6_rank 23 = .ok (.bipush (-2), 2) := by decide +kernel
theorem dX6_rank_25 : decode cX6_rank 25 = .ok (.ireturn, 1) := by decide +kernel
theorem dX6_rank_26 : decode cX6_rank 26 = .ok (.iconst 0, 1) := by decide +kernel
theorem dX6_rank_27 : decode cX6_rank 27 = .ok (.istore_n 3, 1) := by decide +kernel
theorem dX6_rank_28 : decode cX6_rank 28 = .ok (.iconst 0, 1) := by decide +kernel
theorem dX6_rank_29 : decode cX6_rank 29 = .ok (.istore 4, 2) := by decide +kernel
theorem dX6_rank_31 : decode cX6_rank 31 = .ok (.iload 4, 2) := by decide +kernel
theorem dX6_rank_33 : decode cX6_rank 33 = .ok (.aload_n 0, 1) := by decide +kernel
theorem dX6_rank_34 : decode cX6_rank 34 = .ok (.getfield 45, 3) := by decide +kernel
theorem dX6_rank_37 : decode cX6_rank 37 = .ok (.if_icmp .gt 53, 3) := by decide +kernel
theorem dX6_rank_40 : decode cX6_rank 40 = .ok (.iload 4, 2) := by decide +kernel
theorem dX6_rank_42 : decode cX6_rank 42 = .ok (.ifCond .ne 7, 3) := by decide +kernel
theorem dX6_rank_45 : decode cX6_rank 45 = .ok (.iconst 5, 1) := by decide +kernel
theorem dX6_rank_46 : decode cX6_rank 46 = .ok (.goto 12, 3) := by decide +kernel
theorem dX6_rank_49 : decode cX6_rank 49 = .ok (.aload_n 0, 1) := by decide +kernel
theorem dX6_rank_50 : decode cX6_rank 50 = .ok (.getfield 7, 3) := by decide +kernel
theorem dX6_rank_53 : decode cX6_rank 53 = .ok (.iload 4, 2) := by decide +kernel
theorem dX6_rank_55 : decode cX6_rank 55 = .ok (.iconst 1, 1) := by decide +kernel
theorem dX6_rank_56 : decode cX6_rank 56 = .ok (.isub, 1) := by decide +kernel
theorem dX6_rank_57 : decode cX6_rank 57 = .ok (.iaload, 1) := by decide +kernel
theorem dX6_rank_58 : decode cX6_rank 58 = .ok (.istore 5, 2) := by decide +kernel
theorem dX6_rank_60 : decode cX6_rank 60 = .ok (.iload 5, 2) := by decide +kernel
theorem dX6_rank_62 : decode cX6_rank 62 = .ok (.iload_n 1, 1) := by decide +kernel
theorem dX6_rank_63 : decode cX6_rank 63 = .ok (.if_icmp .ne 19, 3) := by decide +kernel
theorem dX6_rank_66 : decode cX6_rank 66 = .ok (.aload_n 0, 1) := by decide +kernel
theorem dX6_rank_67 : decode cX6_rank 67 = .ok (.iload 4, 2) := by decide +kernel
theorem dX6_rank_69 : decode cX6_rank 69 = .ok (.invokevirtual 59, 3) := by decide +kernel
theorem dX6_rank_72 : decode cX6_rank 72 = .ok (.iload_n 2, 1) := by decide +kernel
theorem dX6_rank_73 : decode cX6_rank 73 = .ok (.if_icmp .ge 9, 3) := by decide +kernel
theorem dX6_rank_76 : decode cX6_rank 76 = .ok (.iload_n 3, 1) := by decide +kernel
theorem dX6_rank_77 : decode cX6_rank 77 = .ok (.iconst 1, 1) := by decide +kernel
theorem dX6_rank_78 : decode cX6_rank 78 = .ok (.iadd, 1) := by decide +kernel
theorem dX6_rank_79 : decode cX6_rank 79 = .ok (.goto 4, 3) := by decide +kernel
theorem dX6_rank_82 : decode cX6_rank 82 = .ok (.iload_n 3, 1) := by decide +kernel
theorem dX6_rank_83 : decode cX6_rank 83 = .ok (.istore_n 3, 1) := by decide +kernel
theorem dX6_rank_84 : decode cX6_rank 84 = .ok (.iinc 4 1, 3) := by decide +kernel
theorem dX6_rank_87 : decode cX6_rank 87 = .ok (.goto (-56), 3) := by decide +kernel
theorem dX6_rank_90 : decode cX6_rank 90 = .ok (.iload_n 3, 1) := by decide +kernel
theorem dX6_rank_91 : decode cX6_rank 91 = .ok (.ireturn, 1) := by decide +kernel
theorem dX5_base_0 : decode cX5_base 0 = .ok (.iload_n 1, 1) := by decide +kernel
theorem dX5_base_1 : decode cX5_base 1 = .ok (.ifCond .lt 18, 3) := by decide +kernel
theorem dX5_base_4 : decode cX5_base 4 = .ok (.iload_n 1, 1) := by decide +kernel
theorem dX5_base_5 : decode cX5_base 5 = .ok (.iconst 4, 1) := by decide +kernel
theorem dX5_base_6 : decode cX5_base 6 = .ok (.if_icmp .gt 13, 3) := by decide +kernel
theorem dX5_base_9 : decode cX5_base 9 = .ok (.aload_n 0, 1) := by decide +kernel
theorem dX5_base_10 : decode cX5_base 10 = .ok (.getfield 14, 3) := by decide +kernel
theorem dX5_base_13 : decode cX5_base 13 = .ok (.invokevirtual 47, 3) := by decide +kernel
theorem dX5_base_16 : decode cX5_base 16 = .ok (.ifCond .eq 5, 3) := by decide +kernel
theorem dX5_base_19 : decode cX5_base 19 = .ok (.iconst 0, 1) := by decide +kernel
theorem dX5_base_20 : decode cX5_base 20 = .ok (.ireturn, 1) := by decide +kernel
theorem dX5_base_21 : decode cX5_base 21 = .ok (.aload_n 0, 1) := by decide +kernel
theorem dX5_base_22 : decode cX5_base 22 = .ok (.getfield 14, 3) := by decide +kernel
theorem dX5_base_25 : decode cX5_base 25 = .ok (.iload_n 1, 1) := by decide +kernel
theorem dX5_base_26 : decode cX5_base 26 = .ok (.invokevirtual 51, 3) := by decide +kernel
theorem dX5_base_29 : decode cX5_base 29 = .ok (.aload_n 0, 1) := by decide +kernel
theorem dX5_base_30 : decode cX5_base 30 = .ok (.getfield 23, 3) := by decide +kernel
theorem dX5_base_33 : decode cX5_base 33 = .ok (.invokevirtual 54, 3) := by decide +kernel
theorem dX5_base_36 : decode cX5_base 36 = .ok (.iconst 1, 1) := by decide +kernel
theorem dX5_base_37 : decode cX5_base 37 = .ok (.ireturn, 1) := by decide +kernel
theorem dX5_clear_0 : decode cX5_clear 0 = .ok (.aload_n 0, 1) := by decide +kernel
theorem dX5_clear_1 : decode cX5_clear 1 = .ok (.getfield 14, 3) := by decide +kernel
theorem dX5_clear_4 : decode cX5_clear 4 = .ok (.invokevirtual 57, 3) := by decide +kernel
theorem dX5_clear_7 : decode cX5_clear 7 = .ok (.aload_n 0, 1) := by decide +kernel
theorem dX5_clear_8 : decode cX5_clear 8 = .ok (.getfield 23, 3) := by decide +kernel
theorem dX5_clear_11 : decode cX5_clear 11 = .ok (.invokevirtual 54, 3) := by decide +kernel
theorem dX5_clear_14 : decode cX5_clear 14 = .ok (.return_, 1) := by decide +kernel
theorem dX5_read_0 : decode cX5_read 0 = .ok (.iload_n 1, 1) := by decide +kernel
theorem dX5_read_1 : decode cX5_read 1 = .ok (.ifCond .lt 18, 3) := by decide +kernel
theorem dX5_read_4 : decode cX5_read 4 = .ok (.iload_n 1, 1) := by decide +kernel
theorem dX5_read_5 : decode cX5_read 5 = .ok (.iconst 3, 1) := by decide +kernel
theorem dX5_read_6 : decode cX5_read 6 = .ok (.if_icmp .gt 13, 3) := by decide +kernel
theorem dX5_read_9 : decode cX5_read 9 = .ok (.aload_n 0, 1) := by decide +kernel
theorem dX5_read_10 : decode cX5_read 10 = .ok (.getfield 27, 3) := by decide +kernel
theorem dX5_read_13 : decode cX5_read 13 = .ok (.invokevirtual 47, 3) := by decide +kernel
theorem dX5_read_16 : decode cX5_read 16 = .ok (.ifCond .eq 5, 3) := by decide +kernel
theorem dX5_read_19 : decode cX5_read 19 = .ok (.iconst 0, 1) := by decide +kernel
theorem dX5_read_20 : decode cX5_read 20 = .ok (.ireturn, 1) := by decide +kernel
theorem dX5_read_21 : decode cX5_read 21 = .ok (.aload_n 0, 1) := by decide +kernel
theorem dX5_read_22 : decode cX5_read 22 = .ok (.getfield 27, 3) := by decide +kernel
theorem dX5_read_25 : decode cX5_read 25 = .ok (.iload_n 1, 1) := by decide +kernel
theorem dX5_read_26 : decode cX5_read 26 = .ok (.invokevirtual 51, 3) := by decide +kernel
theorem dX5_read_29 : decode cX5_read 29 = .ok (.iconst 1, 1) := by decide +kernel
theorem dX5_read_30 : decode cX5_read 30 = .ok (.ireturn, 1) := by decide +kernel
theorem dX5_wipe_0 : decode cX5_wipe 0 = .ok (.aload_n 0, 1) := by decide +kernel
theorem dX5_wipe_1 : decode cX5_wipe 1 = .ok (.getfield 27, 3) := by decide +kernel
theorem dX5_wipe_4 : decode cX5_wipe 4 = .ok (.invokevirtual 57, 3) := by decide +kernel
theorem dX5_wipe_7 : decode cX5_wipe 7 = .ok (.return_, 1) := by decide +kernel
end
section
theorem dX5_turn_0 : decode cX5_turn 0 = .ok (.aload_n 0, 1) := by decide +kernel
theorem dX5_turn_1 : decode cX5_turn 1 = .ok (.getfield 30, 3) := by decide +kernel
theorem dX5_turn_4 : decode cX5_turn 4 = .ok (.aload_n 0, 1) := by decide +kernel
theorem dX5_turn_5 : decode cX5_turn 5 = .ok (.getfield 27, 3) := by decide +kernel
theorem dX5_turn_8 : decode cX5_turn 8 = .ok (.invokevirtual 60, 3) := by decide +kernel
theorem dX5_turn_11 : decode cX5_turn 11 = .ok (.aload_n 0, 1) := by decide +kernel
theorem dX5_turn_12 : decode cX5_turn 12 = .ok (.getfield 27, 3) := by decide +kernel
theorem dX5_turn_15 : decode cX5_turn 15 = .ok (.astore_n 1, 1) := by decide +kernel
theorem dX5_turn_16 : decode cX5_turn 16 = .ok (.aload_n 0, 1) := by decide +kernel
theorem dX5_turn_17 : decode cX5_turn 17 = .ok (.aload_n 0, 1) := by decide +kernel
theorem dX5_turn_18 : decode cX5_turn 18 = .ok (.getfield 30, 3) := by decide +kernel
theorem dX5_turn_21 : decode cX5_turn 21 = .ok (.putfield 27, 3) := by decide +kernel
theorem dX5_turn_24 : decode cX5_turn 24 = .ok (.aload_n 0, 1) := by decide +kernel
theorem dX5_turn_25 : decode cX5_turn 25 = .ok (.aload_n 1, 1) := by decide +kernel
theorem dX5_turn_26 : decode cX5_turn 26 = .ok (.putfield 30, 3) := by decide +kernel
theorem dX5_turn_29 : decode cX5_turn 29 = .ok (.return_, 1) := by decide +kernel
theorem dX5_length_0 : decode cX5_length 0 = .ok (.iload_n 1, 1) := by decide +kernel
theorem dX5_length_1 : decode cX5_length 1 = .ok (.ifCond .eq 13, 3) := by decide +kernel
theorem dX5_length_4 : decode cX5_length 4 = .ok (.aload_n 0, 1) := by decide +kernel
theorem dX5_length_5 : decode cX5_length 5 = .ok (.getfield 27, 3) := by decide +kernel
theorem dX5_length_8 : decode cX5_length 8 = .ok (.getfield 63, 3) := by decide +kernel
theorem dX5_length_11 : decode cX5_length 11 = .ok (.goto 10, 3) := by decide +kernel
theorem dX5_length_14 : decode cX5_length 14 = .ok (.aload_n 0, 1) := by decide +kernel
theorem dX5_length_15 : decode cX5_length 15 = .ok (.getfield 14, 3) := by decide +kernel
theorem dX5_length_18 : decode cX5_length 18 = .ok (.getfield 63, 3) := by decide +kernel
theorem dX5_length_21 : decode cX5_length 21 = .ok (.ireturn, 1) := by decide +kernel
theorem dX5_row_0 : decode cX5_row 0 = .ok (.aload_n 0, 1) := by decide +kernel
theorem dX5_row_1 : decode cX5_row 1 = .ok (.getfield 23, 3) := by decide +kernel
theorem dX5_row_4 : decode cX5_row 4 = .ok (.iload_n 1, 1) := by decide +kernel
theorem dX5_row_5 : decode cX5_row 5 = .ok (.invokevirtual 66, 3) := by decide +kernel
theorem dX5_row_8 : decode cX5_row 8 = .ok (.ifCond .eq 14, 3) := by decide +kernel
theorem dX5_row_11 : decode cX5_row 11 = .ok (.aload_n 0, 1) := by decide +kernel
theorem dX5_row_12 : decode cX5_row 12 = .ok (.getfield 23, 3) := by decide +kernel
theorem dX5_row_15 : decode cX5_row 15 = .ok (.iload_n 1, 1) := by decide +kernel
theorem dX5_row_16 : decode cX5_row 16 = .ok (.invokevirtual 70, 3) := by decide +kernel
theorem dX5_row_19 : decode cX5_row 19 = .ok (.goto 4, 3) := by decide +kernel
theorem dX5_row_22 : decode cX5_row 22 = .ok (.iconst (-1), 1) := by decide +kernel
theorem dX5_row_23 : decode cX5_row 23 = .ok (.ireturn, 1) := by decide +kernel
theorem dX5_last_0 : decode cX5_last 0 = .ok (.aload_n 0, 1) := by decide +kernel
theorem dX5_last_1 : decode cX5_last 1 = .ok (.getfield 23, 3) := by decide +kernel
theorem dX5_last_4 : decode cX5_last 4 = .ok (.iload_n 1, 1) := by decide +kernel
theorem dX5_last_5 : decode cX5_last 5 = .ok (.invokevirtual 66, 3) := by decide +kernel
theorem dX5_last_8 : decode cX5_last 8 = .ok (.ifCond .eq 14, 3) := by decide +kernel
theorem dX5_last_11 : decode cX5_last 11 = .ok (.aload_n 0, 1) := by decide +kernel
theorem dX5_last_12 : decode cX5_last 12 = .ok (.getfield 23, 3) := by decide +kernel
theorem dX5_last_15 : decode cX5_last 15 = .ok (.iload_n 1, 1) := by decide +kernel
theorem dX5_last_16 : decode cX5_last 16 = .ok (.invokevirtual 74, 3) := by decide +kernel
theorem dX5_last_19 : decode cX5_last 19 = .ok (.goto 4, 3) := by decide +kernel
theorem dX5_last_22 : decode cX5_last 22 = .ok (.iconst (-1), 1) := by decide +kernel
theorem dX5_last_23 : decode cX5_last 23 = .ok (.ireturn, 1) := by decide +kernel
theorem dX5_rank_0 : decode cX5_rank 0 = .ok (.iload_n 1, 1) := by decide +kernel
theorem dX5_rank_1 : decode cX5_rank 1 = .ok (.ifCond .lt 23, 3) := by decide +kernel
theorem dX5_rank_4 : decode cX5_rank 4 = .ok (.iload_n 1, 1) := by decide +kernel
theorem dX5_rank_5 : decode cX5_rank 5 = .ok (.iconst 5, 1) := by decide +kernel
theorem dX5_rank_6 : decode cX5_rank 6 = .ok (.if_icmp .gt 18, 3) := by decide +kernel
theorem dX5_rank_9 : decode cX5_rank 9 = .ok (.iload_n 2, 1) := by decide +kernel
theorem dX5_rank_10 : decode cX5_rank 10 = .ok (.ifCond .lt 14, 3) := by decide +kernel
theorem dX5_rank_13 : decode cX5_rank 13 = .ok (.iload_n 2, 1) := by decide +kernel
theorem dX5_rank_14 : decode cX5_rank 14 = .ok (.aload_n 0, 1) := by decide +kernel
theorem dX5_rank_15 : decode cX5_rank 15 = .ok (.getfield 23, 3) := by decide +kernel
theorem dX5_rank_18 : decode cX5_rank 18 = .ok (.invokevirtual 77, 3) := by decide +kernel
theorem dX5_rank_21 : decode cX5_rank 21 = .ok (.if_icmp .le 6, 3) := by decide +kernel
theorem dX5_rank_24 : decode cX5_rank 24 = .ok (.bipush (-2), 2) := by decide +kernel
theorem dX5_rank_26 : decode cX5_rank 26 = .ok (.ireturn, 1) := by decide +kernel
theorem dX5_rank_27 : decode cX5_rank 27 = .ok (.iconst 0, 1) := by decide +kernel
theorem dX5_rank_28 : decode cX5_rank 28 = .ok (.istore_n 3, 1) := by decide +kernel
theorem dX5_rank_29 : decode cX5_rank 29 = .ok (.iconst 0, 1) := by decide +kernel
theorem dX5_rank_30 : decode cX5_rank 30 = .ok (.istore 4, 2) := by decide +kernel
theorem dX5_rank_32 : decode cX5_rank 32 = .ok (.iload 4, 2) := by decide +kernel
theorem dX5_rank_34 : decode cX5_rank 34 = .ok (.iload_n 2, 1) := by decide +kernel
theorem dX5_rank_35 : decode cX5_rank 35 = .ok (.if_icmp .ge 25, 3) := by decide +kernel
theorem dX5_rank_38 : decode cX5_rank 38 = .ok (.aload_n 0, 1) := by decide +kernel
theorem dX5_rank_39 : decode cX5_rank 39 = .ok (.getfield 23, 3) := by decide +kernel
theorem dX5_rank_42 : decode cX5_rank 42 = .ok (.iload 4, 2) := by decide +kernel
theorem dX5_rank_44 : decode cX5_rank 44 = .ok (.invokevirtual 74, 3) := by decide +kernel
theorem dX5_rank_47 : decode cX5_rank 47 = .ok (.iload_n 1, 1) := by decide +kernel
theorem dX5_rank_48 : decode cX5_rank 48 = .ok (.if_icmp .ne 6, 3) := by decide +kernel
theorem dX5_rank_51 : decode cX5_rank 51 = .ok (.iinc 3 1, 3) := by decide +kernel
theorem dX5_rank_54 : decode cX5_rank 54 = .ok (.iinc 4 1, 3) := by decide +kernel
theorem dX5_rank_57 : decode cX5_rank 57 = .ok (.goto (-25), 3) := by decide +kernel
theorem dX5_rank_60 : decode cX5_rank 60 = .ok (.iload_n 3, 1) := by decide +kernel
theorem dX5_rank_61 : decode cX5_rank 61 = .ok (.ireturn, 1) := by decide +kernel
theorem dX5_first_0 : decode cX5_first 0 = .ok (.aload_n 0, 1) := by decide +kernel
theorem dX5_first_1 : decode cX5_first 1 = .ok (.getfield 27, 3) := by decide +kernel
theorem dX5_first_4 : decode cX5_first 4 = .ok (.getfield 63, 3) := by decide +kernel
theorem dX5_first_7 : decode cX5_first 7 = .ok (.ifCond .ne 5, 3) := by decide +kernel
theorem dX5_first_10 : decode cX5_first 10 = .ok (.iconst (-1), 1) := by decide +kernel
theorem dX5_first_11 : decode cX5_first 11 = .ok (.ireturn, 1) := by decide +kernel
theorem dX5_first_12 : decode cX5_first 12 = .ok (.iconst 0, 1) := by decide +kernel
theorem dX5_first_13 : decode cX5_first 13 = .ok (.istore_n 1, 1) := by decide +kernel
theorem dX5_first_14 : decode cX5_first 14 = .ok (.iload_n 1, 1) := by decide +kernel
theorem dX5_first_15 : decode cX5_first 15 = .ok (.aload_n 0, 1) := by decide +kernel
theorem dX5_first_16 : decode cX5_first 16 = .ok (.getfield 23, 3) := by decide +kernel
theorem dX5_first_19 : decode cX5_first 19 = .ok (.invokevirtual 77, 3) := by decide +kernel
theorem dX5_first_22 : decode cX5_first 22 = .ok (.if_icmp .ge 33, 3) := by decide +kernel
theorem dX5_first_25 : decode cX5_first 25 = .ok (.aload_n 0, 1) := by decide +kernel
theorem dX5_first_26 : decode cX5_first 26 = .ok (.getfield 14, 3) := by decide +kernel
theorem dX5_first_29 : decode cX5_first 29 = .ok (.aload_n 0, 1) := by decide +kernel
theorem dX5_first_30 : decode cX5_first 30 = .ok (.getfield 23, 3) := by decide +kernel
theorem dX5_first_33 : decode cX5_first 33 = .ok (.iload_n 1, 1) := by decide +kernel
theorem dX5_first_34 : decode cX5_first 34 = .ok (.invokevirtual 70, 3) := by decide +kernel
theorem dX5_first_37 : decode cX5_first 37 = .ok (.aload_n 0, 1) := by decide +kernel
theorem dX5_first_38 : decode cX5_first 38 = .ok (.getfield 27, 3) := by decide +kernel
theorem dX5_first_41 : decode cX5_first 41 = .ok (.invokevirtual 81, 3) := by decide +kernel
theorem dX5_first_44 : decode cX5_first 44 = .ok (.ifCond .eq 5, 3) := by decide +kernel
theorem dX5_first_47 : decode cX5_first 47 = .ok (.iload_n 1, 1) := by decide +kernel
theorem dX5_first_48 : decode cX5_first 48 = .ok (.ireturn, 1) := by decide +kernel
theorem dX5_first_49 : decode cX5_first 49 = .ok (.iinc 1 1, 3) := by decide +kernel
theorem dX5_first_52 : decode cX5_first 52 = .ok (.goto (-38), 3) := by decide +kernel
theorem dX5_first_55 : decode cX5_first 55 = .ok (.iconst (-1), 1) := by decide +kernel
theorem dX5_first_56 : decode cX5_first 56 = .ok (.ireturn, 1) := by decide +kernel
theorem dX5_count_0 : decode cX5_count 0 = .ok (.aload_n 0, 1) := by decide +kernel
theorem dX5_count_1 : decode cX5_count 1 = .ok (.getfield 27, 3) := by decide +kernel
theorem dX5_count_4 : decode cX5_count 4 = .ok (.getfield 63, 3) := by decide +kernel
theorem dX5_count_7 : decode cX5_count 7 = .ok (.ifCond .ne 5, 3) := by decide +kernel
theorem dX5_count_10 : decode cX5_count 10 = .ok (.iconst 0, 1) := by decide +kernel
theorem dX5_count_11 : decode cX5_count 11 = .ok (.ireturn, 1) := by decide +kernel
theorem dX5_count_12 : decode cX5_count 12 = .ok (.iconst 0, 1) := by decide +kernel
theorem dX5_count_13 : decode cX5_count 13 = .ok (.istore_n 1, 1) := by decide +kernel
theorem dX5_count_14 : decode cX5_count 14 = .ok (.iconst 0, 1) := by decide +kernel
theorem dX5_count_15 : decode cX5_count 15 = .ok (.istore_n 2, 1) := by decide +kernel
theorem dX5_count_16 : decode cX5_count 16 = .ok (.iload_n 2, 1) := by decide +kernel
theorem dX5_count_17 : decode cX5_count 17 = .ok (.aload_n 0, 1) := by decide +kernel
theorem dX5_count_18 : decode cX5_count 18 = .ok (.getfield 14, 3) := by decide +kernel
theorem dX5_count_21 : decode cX5_count 21 = .ok (.getfield 63, 3) := by decide +kernel
theorem dX5_count_24 : decode cX5_count 24 = .ok (.if_icmp .ge 27, 3) := by decide +kernel
theorem dX5_count_27 : decode cX5_count 27 = .ok (.aload_n 0, 1) := by decide +kernel
theorem dX5_count_28 : decode cX5_count 28 = .ok (.getfield 14, 3) := by decide +kernel
theorem dX5_count_31 : decode cX5_count 31 = .ok (.iload_n 2, 1) := by decide +kernel
theorem dX5_count_32 : decode cX5_count 32 = .ok (.aload_n 0, 1) := by decide +kernel
theorem dX5_count_33 : decode cX5_count 33 = .ok (.getfield 27, 3) := by decide +kernel
theorem dX5_count_36 : decode cX5_count 36 = .ok (.invokevirtual 81, 3) := by decide +kernel
theorem dX5_count_39 : decode cX5_count 39 = .ok (.ifCond .eq 6, 3) := by decide +kernel
theorem dX5_count_42 : decode cX5_count 42 = .ok (.iinc 1 1, 3) := by decide +kernel
theorem dX5_count_45 : decode cX5_count 45 = .ok (.iinc 2 1, 3) := by decide +kernel
theorem dX5_count_48 : decode cX5_count 48 = .ok (.goto (-32), 3) := by decide +kernel
theorem dX5_count_51 : decode cX5_count 51 = .ok (.iload_n 1, 1) := by decide +kernel
theorem dX5_count_52 : decode cX5_count 52 = .ok (.ireturn, 1) := by decide +kernel
theorem dX5_hits_0 : decode cX5_hits 0 = .ok (.aload_n 0, 1) := by decide +kernel
theorem dX5_hits_1 : decode cX5_hits 1 = .ok (.getfield 36, 3) := by decide +kernel
theorem dX5_hits_4 : decode cX5_hits 4 = .ok (.getfield 101, 3) := by decide +kernel
theorem dX5_hits_7 : decode cX5_hits 7 = .ok (.getfield 105, 3) := by decide +kernel
theorem dX5_hits_10 : decode cX5_hits 10 = .ok (.ireturn, 1) := by decide +kernel
theorem dX5_size_0 : decode cX5_size 0 = .ok (.aload_n 0, 1) := by decide +kernel
theorem dX5_size_1 : decode cX5_size 1 = .ok (.getfield 36, 3) := by decide +kernel
theorem dX5_size_4 : decode cX5_size 4 = .ok (.getfield 92, 3) := by decide +kernel
theorem dX5_size_7 : decode cX5_size 7 = .ok (.getfield 123, 3) := by decide +kernel
theorem dX5_size_10 : decode cX5_size 10 = .ok (.ireturn, 1) := by decide +kernel
theorem dX5_mappings_0 : decode cX5_mappings 0 = .ok (.aload_n 0, 1) := by decide +kernel
theorem dX5_mappings_1 : decode cX5_mappings 1 = .ok (.getfield 43, 3) := by decide +kernel
theorem dX5_mappings_4 : decode cX5_mappings 4 = .ok (.ireturn, 1) := by decide +kernel
theorem dX5_at_0 : decode cX5_at 0 = .ok (.aload_n 0, 1) := by decide +kernel
theorem dX5_at_1 : decode cX5_at 1 = .ok (.getfield 36, 3) := by decide +kernel
theorem dX5_at_4 : decode cX5_at 4 = .ok (.getfield 92, 3) := by decide +kernel
theorem dX5_at_7 : decode cX5_at 7 = .ok (.astore_n 2, 1) := by decide +kernel
theorem dX5_at_8 : decode cX5_at 8 = .ok (.iload_n 1, 1) := by decide +kernel
theorem dX5_at_9 : decode cX5_at 9 = .ok (.ifCond .lt 11, 3) := by decide +kernel
theorem dX5_at_12 : decode cX5_at 12 = .ok (.iload_n 1, 1) := by decide +kernel
theorem dX5_at_13 : decode cX5_at 13 = .ok (.aload_n 2, 1) := by decide +kernel
theorem dX5_at_14 : decode cX5_at 14 = .ok (.getfield 123, 3) := by decide +kernel
theorem dX5_at_17 : decode cX5_at 17 = .ok (.if_icmp .lt 7, 3) := by decide +kernel
theorem dX5_at_20 : decode cX5_at 20 = .ok (.iconst (-1), 1) := by decide +kernel
theorem dX5_at_21 : decode cX5_at 21 = .ok (.goto 9, 3) := by decide +kernel
theorem dX5_at_24 : decode cX5_at 24 = .ok (.aload_n 2, 1) := by decide +kernel
theorem dX5_at_25 : decode cX5_at 25 = .ok (.getfield 126, 3) := by decide +kernel
theorem dX5_at_28 : decode cX5_at 28 = .ok (.iload_n 1, 1) := by decide +kernel
theorem dX5_at_29 : decode cX5_at 29 = .ok (.caload, 1) := by decide +kernel
theorem dX5_at_30 : decode cX5_at 30 = .ok (.ireturn, 1) := by decide +kernel
theorem dX6_put_0 : decode cX6_put 0 = .ok (.aload_n 0, 1) := by decide +kernel
theorem dX6_put_1 : decode cX6_put 1 = .ok (.getfield 82, 3) := by decide +kernel
theorem dX6_put_4 : decode cX6_put 4 = .ok (.sipush 1500, 3) := by decide +kernel
theorem dX6_put_7 : decode cX6_put 7 = .ok (.if_icmp .ge 14, 3) := by decide +kernel
theorem dX6_put_10 : decode cX6_put 10 = .ok (.aload_n 0, 1) := by decide +kernel
theorem dX6_put_11 : decode cX6_put 11 = .ok (.getfield 42, 3) := by decide +kernel
theorem dX6_put_14 : decode cX6_put 14 = .ok (.aload_n 0, 1) := by decide +kernel
theorem dX6_put_15 : decode cX6_put 15 = .ok (.getfield 82, 3) := by decide +kernel
theorem dX6_put_18 : decode cX6_put 18 = .ok (.iload_n 1, 1) := by decide +kernel
theorem dX6_put_19 : decode cX6_put 19 = .ok (.i2c, 1) := by decide +kernel
theorem dX6_put_20 : decode cX6_put 20 = .ok (.castore, 1) := by decide +kernel
theorem dX6_put_21 : decode cX6_put 21 = .ok (.aload_n 0, 1) := by decide +kernel
theorem dX6_put_22 : decode cX6_put 22 = .ok (.dup, 1) := by decide +kernel
theorem dX6_put_23 : decode cX6_put 23 = .ok (.getfield 82, 3) := by decide +kernel
theorem dX6_put_26 : decode cX6_put 26 = .ok (.iconst 1, 1) := by decide +kernel
theorem dX6_put_27 : decode cX6_put 27 = .ok (.iadd, 1) := by decide +kernel
theorem dX6_put_28 : decode cX6_put 28 = .ok (.putfield 82, 3) := by decide +kernel
theorem dX6_put_31 : decode cX6_put 31 = .ok (.return_, 1) := by decide +kernel
theorem dX6_putNumber_0 : decode cX6_putNumber 0 = .ok (.iconst 1, 1) := by decide +kernel
theorem dX6_putNumber_1 : decode cX6_putNumber 1 = .ok (.istore_n 2, 1) := by decide +kernel
theorem dX6_putNumber_2 : decode cX6_putNumber 2 = .ok (.iload_n 1, 1) := by decide +kernel
theorem dX6_putNumber_3 : decode cX6_putNumber 3 = .ok (.iload_n 2, 1) := by decide +kernel
theorem dX6_putNumber_4 : decode cX6_putNumber 4 = .ok (.idiv, 1) := by decide +kernel
theorem dX6_putNumber_5 : decode cX6_putNumber 5 = .ok (.bipush 10, 2) := by decide +kernel
theorem dX6_putNumber_7 : decode cX6_putNumber 7 = .ok (.if_icmp .lt 11, 3) := by decide +kernel
theorem dX6_putNumber_10 : decode cX6_putNumber 10 = .ok (.iload_n 2, 1) := by decide +kernel
theorem dX6_putNumber_11 : decode cX6_putNumber 11 = .ok (.bipush 10, 2) := by decide +kernel
theorem dX6_putNumber_13 : decode cX6_putNumber 13 = .ok (.imul, 1) := by decide +kernel
theorem dX6_putNumber_14 : decode cX6_putNumber 14 = .ok (.istore_n 2, 1) := by decide +kernel
theorem dX6_putNumber_15 : decode cX6_putNumber 15 = .ok (.goto (-13), 3) := by decide +kernel
theorem dX6_putNumber_18 : decode cX6_putNumber 18 = .ok (.iload_n 2, 1) := by decide +kernel
theorem dX6_putNumber_19 : decode cX6_putNumber 19 = .ok (.ifCond .le 24, 3) := by decide +kernel
theorem dX6_putNumber_22 : decode cX6_putNumber 22 = .ok (.aload_n 0, 1) := by decide +kernel
theorem dX6_putNumber_23 : decode cX6_putNumber 23 = .ok (.bipush 48, 2) := by decide +kernel
theorem dX6_putNumber_25 : decode cX6_putNumber 25 = .ok (.iload_n 1, 1) := by decide +kernel
theorem dX6_putNumber_26 : decode cX6_putNumber 26 = .ok (.iload_n 2, 1) := by decide +kernel
theorem dX6_putNumber_27 : decode cX6_putNumber 27 = .ok (.idiv, 1) := by decide +kernel
theorem dX6_putNumber_28 : decode cX6_putNumber 28 = .ok (.bipush 10, 2) := by decide +kernel
theorem dX6_putNumber_30 : decode cX6_putNumber 30 = .ok (.irem, 1) := by decide +kernel
theorem dX6_putNumber_31 : decode cX6_putNumber 31 = .ok (.iadd, 1) := by decide +kernel
theorem dX6_putNumber_32 : decode cX6_putNumber 32 = .ok (.invokevirtual 85, 3) := by decide +kernel
theorem dX6_putNumber_35 : decode cX6_putNumber 35 = .ok (.iload_n 2, 1) := by decide +kernel
theorem dX6_putNumber_36 : decode cX6_putNumber 36 = .ok (.bipush 10, 2) := by decide +kernel
theorem dX6_putNumber_38 : decode cX6_putNumber 38 = .ok (.idiv, 1) := by decide +kernel
theorem dX6_putNumber_39 : decode cX6_putNumber 39 = .ok (.istore_n 2, 1) := by decide +kernel
theorem dX6_putNumber_40 : decode cX6_putNumber 40 = .ok (.goto (-22), 3) := by decide +kernel
theorem dX6_putNumber_43 : decode cX6_putNumber 43 = .ok (.return_, 1) := by decide +kernel
theorem dX6_putBase_0 : decode cX6_putBase 0 = .ok (.aload_n 0, 1) := by decide +kernel
theorem dX6_putBase_1 : decode cX6_putBase 1 = .ok (.iload_n 1, 1) := by decide +kernel
theorem dX6_putBase_2 : decode cX6_putBase 2 = .ok (.ifCond .ne 8, 3) := by decide +kernel
theorem dX6_putBase_5 : decode cX6_putBase 5 = .ok (.bipush 65, 2) := by decide +kernel
theorem dX6_putBase_7 : decode cX6_putBase 7 = .ok (.goto 35, 3) := by decide +kernel
theorem dX6_putBase_10 : decode cX6_putBase 10 = .ok (.iload_n 1, 1) := by decide +kernel
theorem dX6_putBase_11 : decode cX6_putBase 11 = .ok (.iconst 1, 1) := by decide +kernel
theorem dX6_putBase_12 : decode cX6_putBase 12 = .ok (.if_icmp .ne 8, 3) := by decide +kernel
theorem dX6_putBase_15 : decode cX6_putBase 15 = .ok (.bipush 67, 2) := by decide +kernel
theorem dX6_putBase_17 : decode cX6_putBase 17 = .ok (.goto 25, 3) := by decide +kernel
theorem dX6_putBase_20 : decode cX6_putBase 20 = .ok (.iload_n 1, 1) := by decide +kernel
theorem dX6_putBase_21 : decode cX6_putBase 21 = .ok (.iconst 2, 1) := by decide +kernel
theorem dX6_putBase_22 : decode cX6_putBase 22 = .ok (.if_icmp .ne 8, 3) := by decide +kernel
theorem dX6_putBase_25 : decode cX6_putBase 25 = .ok (.bipush 71, 2) := by decide +kernel
theorem dX6_putBase_27 : decode cX6_putBase 27 = .ok (.goto 15, 3) := by decide +kernel
theorem dX6_putBase_30 : decode cX6_putBase 30 = .ok (.iload_n 1, 1) := by decide +kernel
theorem dX6_putBase_31 : decode cX6_putBase 31 = .ok (.iconst 3, 1) := by decide +kernel
theorem dX6_putBase_32 : decode cX6_putBase 32 = .ok (.if_icmp .ne 8, 3) := by decide +kernel
theorem dX6_putBase_35 : decode cX6_putBase 35 = .ok (.bipush 84, 2) := by decide +kernel
theorem dX6_putBase_37 : decode cX6_putBase 37 = .ok (.goto 5, 3) := by decide +kernel
theorem dX6_putBase_40 : decode cX6_putBase 40 = .ok (.bipush 78, 2) := by decide +kernel
theorem dX6_putBase_42 : decode cX6_putBase 42 = .ok (.invokevirtual 85, 3) := by decide +kernel
theorem dX6_putBase_45 : decode cX6_putBase 45 = .ok (.return_, 1) := by decide +kernel
theorem dX6_tab_0 : decode cX6_tab 0 = .ok (.aload_n 0, 1) := by decide +kernel
theorem dX6_tab_1 : decode cX6_tab 1 = .ok (.bipush 9, 2) := by decide +kernel
theorem dX6_tab_3 : decode cX6_tab 3 = .ok (.invokevirtual 85, 3) := by decide +kernel
theorem dX6_tab_6 : decode cX6_tab 6 = .ok (.return_, 1) := by decide +kernel
theorem dX6_pair_0 : decode cX6_pair 0 = .ok (.aload_n 0, 1) := by decide +kernel
theorem dX6_pair_1 : decode cX6_pair 1 = .ok (.iload_n 1, 1) := by decide +kernel
theorem dX6_pair_2 : decode cX6_pair 2 = .ok (.invokevirtual 85, 3) := by decide +kernel
theorem dX6_pair_5 : decode cX6_pair 5 = .ok (.aload_n 0, 1) := by decide +kernel
theorem dX6_pair_6 : decode cX6_pair 6 = .ok (.iload_n 2, 1) := by decide +kernel
theorem dX6_pair_7 : decode cX6_pair 7 = .ok (.invokevirtual 85, 3) := by decide +kernel
theorem dX6_pair_10 : decode cX6_pair 10 = .ok (.aload_n 0, 1) := by decide +kernel
theorem dX6_pair_11 : decode cX6_pair 11 = .ok (.bipush 58, 2) := by decide +kernel
theorem dX6_pair_13 : decode cX6_pair 13 = .ok (.invokevirtual 85, 3) := by decide +kernel
theorem dX6_pair_16 : decode cX6_pair 16 = .ok (.return_, 1) := by decide +kernel
end
section
theorem dX6_head_0 : decode cX6_head 0 = .ok (.aload_n 0, 1) := by decide +kernel
theorem dX6_head_1 : decode cX6_head 1 = .ok (.bipush 64, 2) := by decide +kernel
theorem dX6_head_3 : decode cX6_head 3 = .ok (.invokevirtual 85, 3) := by decide +kernel
theorem dX6_head_6 : decode cX6_head 6 = .ok (.aload_n 0, 1) := by decide +kernel
theorem dX6_head_7 : decode cX6_head 7 = .ok (.bipush 83, 2) := by decide +kernel
theorem dX6_head_9 : decode cX6_head 9 = .ok (.invokevirtual 85, 3) := by decide +kernel
theorem dX6_head_12 : decode cX6_head 12 = .ok (.aload_n 0, 1) := by decide +kernel
theorem dX6_head_13 : decode cX6_head 13 = .ok (.bipush 81, 2) := by decide +kernel
theorem dX6_head_15 : decode cX6_head 15 = .ok (.invokevirtual 85, 3) := by decide +kernel
theorem dX6_head_18 : decode cX6_head 18 = .ok (.aload_n 0, 1) := by decide +kernel
theorem dX6_head_19 : decode cX6_head 19 = .ok (.invokevirtual 89, 3) := by decide +kernel
theorem dX6_head_22 : decode cX6_head 22 = .ok (.aload_n 0, 1) := by decide +kernel
theorem dX6_head_23 : decode cX6_head 23 = .ok (.bipush 83, 2) := by decide +kernel
theorem dX6_head_25 : decode cX6_head 25 = .ok (.bipush 78, 2) := by decide +kernel
theorem dX6_head_27 : decode cX6_head 27 = .ok (.invokevirtual 92, 3) := by decide +kernel
theorem dX6_head_30 : decode cX6_head 30 = .ok (.aload_n 0, 1) := by decide +kernel
theorem dX6_head_31 : decode cX6_head 31 = .ok (.bipush 103, 2) := by decide +kernel
theorem dX6_head_33 : decode cX6_head 33 = .ok (.invokevirtual 85, 3) := by decide +kernel
theorem dX6_head_36 : decode cX6_head 36 = .ok (.aload_n 0, 1) := by decide +kernel
theorem dX6_head_37 : decode cX6_head 37 = .ok (.invokevirtual 89, 3) := by decide +kernel
theorem dX6_head_40 : decode cX6_head 40 = .ok (.aload_n 0, 1) := by decide +kernel
theorem dX6_head_41 : decode cX6_head 41 = .ok (.bipush 76, 2) := by decide +kernel
theorem dX6_head_43 : decode cX6_head 43 = .ok (.bipush 78, 2) := by decide +kernel
theorem dX6_head_45 : decode cX6_head 45 = .ok (.invokevirtual 92, 3) := by decide +kernel
theorem dX6_head_48 : decode cX6_head 48 = .ok (.aload_n 0, 1) := by decide +kernel
theorem dX6_head_49 : decode cX6_head 49 = .ok (.aload_n 0, 1) := by decide +kernel
theorem dX6_head_50 : decode cX6_head 50 = .ok (.getfield 45, 3) := by decide +kernel
theorem dX6_head_53 : decode cX6_head 53 = .ok (.invokevirtual 96, 3) := by decide +kernel
theorem dX6_head_56 : decode cX6_head 56 = .ok (.aload_n 0, 1) := by decide +kernel
theorem dX6_head_57 : decode cX6_head 57 = .ok (.bipush 10, 2) := by decide +kernel
theorem dX6_head_59 : decode cX6_head 59 = .ok (.invokevirtual 85, 3) := by decide +kernel
theorem dX6_head_62 : decode cX6_head 62 = .ok (.return_, 1) := by decide +kernel
theorem dX6_noMate_0 : decode cX6_noMate 0 = .ok (.aload_n 0, 1) := by decide +kernel
theorem dX6_noMate_1 : decode cX6_noMate 1 = .ok (.invokevirtual 89, 3) := by decide +kernel
theorem dX6_noMate_4 : decode cX6_noMate 4 = .ok (.aload_n 0, 1) := by decide +kernel
theorem dX6_noMate_5 : decode cX6_noMate 5 = .ok (.bipush 42, 2) := by decide +kernel
theorem dX6_noMate_7 : decode cX6_noMate 7 = .ok (.invokevirtual 85, 3) := by decide +kernel
theorem dX6_noMate_10 : decode cX6_noMate 10 = .ok (.aload_n 0, 1) := by decide +kernel
theorem dX6_noMate_11 : decode cX6_noMate 11 = .ok (.invokevirtual 89, 3) := by decide +kernel
theorem dX6_noMate_14 : decode cX6_noMate 14 = .ok (.aload_n 0, 1) := by decide +kernel
theorem dX6_noMate_15 : decode cX6_noMate 15 = .ok (.bipush 48, 2) := by decide +kernel
theorem dX6_noMate_17 : decode cX6_noMate 17 = .ok (.invokevirtual 85, 3) := by decide +kernel
theorem dX6_noMate_20 : decode cX6_noMate 20 = .ok (.aload_n 0, 1) := by decide +kernel
theorem dX6_noMate_21 : decode cX6_noMate 21 = .ok (.invokevirtual 89, 3) := by decide +kernel
theorem dX6_noMate_24 : decode cX6_noMate 24 = .ok (.aload_n 0, 1) := by decide +kernel
theorem dX6_noMate_25 : decode cX6_noMate 25 = .ok (.bipush 48, 2) := by decide +kernel
theorem dX6_noMate_27 : decode cX6_noMate 27 = .ok (.invokevirtual 85, 3) := by decide +kernel
theorem dX6_noMate_30 : decode cX6_noMate 30 = .ok (.aload_n 0, 1) := by decide +kernel
theorem dX6_noMate_31 : decode cX6_noMate 31 = .ok (.invokevirtual 89, 3) := by decide +kernel
theorem dX6_noMate_34 : decode cX6_noMate 34 = .ok (.return_, 1) := by decide +kernel
theorem dX6_putRead_0 : decode cX6_putRead 0 = .ok (.iconst 0, 1) := by decide +kernel
theorem dX6_putRead_1 : decode cX6_putRead 1 = .ok (.istore_n 2, 1) := by decide +kernel
theorem dX6_putRead_2 : decode cX6_putRead 2 = .ok (.iload_n 2, 1) := by decide +kernel
theorem dX6_putRead_3 : decode cX6_putRead 3 = .ok (.aload_n 0, 1) := by decide +kernel
theorem dX6_putRead_4 : decode cX6_putRead 4 = .ok (.getfield 48, 3) := by decide +kernel
theorem dX6_putRead_7 : decode cX6_putRead 7 = .ok (.if_icmp .ge 19, 3) := by decide +kernel
theorem dX6_putRead_10 : decode cX6_putRead 10 = .ok (.aload_n 0, 1) := by decide +kernel
theorem dX6_putRead_11 : decode cX6_putRead 11 = .ok (.aload_n 0, 1) := by decide +kernel
theorem dX6_putRead_12 : decode cX6_putRead 12 = .ok (.iload_n 1, 1) := by decide +kernel
theorem dX6_putRead_13 : decode cX6_putRead 13 = .ok (.iload_n 2, 1) := by decide +kernel
theorem dX6_putRead_14 : decode cX6_putRead 14 = .ok (.invokevirtual 69, 3) := by decide +kernel
theorem dX6_putRead_17 : decode cX6_putRead 17 = .ok (.invokevirtual 99, 3) := by decide +kernel
theorem dX6_putRead_20 : decode cX6_putRead 20 = .ok (.iinc 2 1, 3) := by decide +kernel
theorem dX6_putRead_23 : decode cX6_putRead 23 = .ok (.goto (-21), 3) := by decide +kernel
theorem dX6_putRead_26 : decode cX6_putRead 26 = .ok (.return_, 1) := by decide +kernel
theorem dX6_putDifferences_0 : decode cX6_putDifferences 0 = .ok (.iconst 0, 1) := by decide +kernel
theorem dX6_putDifferences_1 : decode cX6_putDifferences 1 = .ok (.istore_n 3, 1) := by decide +kernel
theorem dX6_putDifferences_2 : decode cX6_putDifferences 2 = .ok (.iconst 0, 1) := by decide +kernel
theorem dX6_putDifferences_3 : decode cX6_putDifferences 3 = .ok (.istore 4, 2) := by decide +kernel
theorem dX6_putDifferences_5 : decode cX6_putDifferences 5 = .ok (.iload 4, 2) := by decide +kernel
theorem dX6_putDifferences_7 : decode cX6_putDifferences 7 = .ok (.aload_n 0, 1) := by decide +kernel
theorem dX6_putDifferences_8 : decode cX6_putDifferences 8 = .ok (.getfield 48, 3) := by decide +kernel
theorem dX6_putDifferences_11 : decode cX6_putDifferences 11 = .ok (.if_icmp .ge 54, 3) := by decide +kernel
theorem dX6_putDifferences_14 : decode cX6_putDifferences 14 = .ok (.aload_n 0, 1) := by decide +kernel
theorem dX6_putDifferences_15 : decode cX6_putDifferences 15 = .ok (.getfield 7, 3) := by decide +kernel
theorem dX6_putDifferences_18 : decode cX6_putDifferences 18 = .ok (.iload_n 1, 1) := by decide +kernel
theorem dX6_putDifferences_19 : decode cX6_putDifferences 19 = .ok (.iload 4, 2) := by decide +kernel
theorem dX6_putDifferences_21 : decode cX6_putDifferences 21 = .ok (.iadd, 1) := by decide +kernel
theorem dX6_putDifferences_22 : decode cX6_putDifferences 22 = .ok (.iaload, 1) := by decide +kernel
theorem dX6_putDifferences_23 : decode cX6_putDifferences 23 = .ok (.aload_n 0, 1) := by decide +kernel
theorem dX6_putDifferences_24 : decode cX6_putDifferences 24 = .ok (.iload_n 2, 1) := by decide +kernel
theorem dX6_putDifferences_25 : decode cX6_putDifferences 25 = .ok (.iload 4, 2) := by decide +kernel
theorem dX6_putDifferences_27 : decode cX6_putDifferences 27 = .ok (.invokevirtual 69, 3) := by decide +kernel
theorem dX6_putDifferences_30 : decode cX6_putDifferences 30 = .ok (.if_icmp .ne 9, 3) := by decide +kernel
theorem dX6_putDifferences_33 : decode cX6_putDifferences 33 = .ok (.iinc 3 1, 3) := by decide +kernel
theorem dX6_putDifferences_36 : decode cX6_putDifferences 36 = .ok (.goto 23, 3) := by decide +kernel
theorem dX6_putDifferences_39 : decode cX6_putDifferences 39 = .ok (.aload_n 0, 1) := by decide +kernel
theorem dX6_putDifferences_40 : decode cX6_putDifferences 40 = .ok (.iload_n 3, 1) := by decide +kernel
theorem dX6_putDifferences_41 : decode cX6_putDifferences 41 = .ok (.invokevirtual 96, 3) := by decide +kernel
theorem dX6_putDifferences_44 : decode cX6_putDifferences 44 = .ok (.aload_n 0, 1) := by decide +kernel
theorem dX6_putDifferences_45 : decode cX6_putDifferences 45 = .ok (.aload_n 0, 1) := by decide +kernel
theorem dX6_putDifferences_46 : decode cX6_putDifferences 46 = .ok (.getfield 7, 3) := by decide +kernel
theorem dX6_putDifferences_49 : decode cX6_putDifferences 49 = .ok (.iload_n 1, 1) := by decide +kernel
theorem dX6_putDifferences_50 : decode cX6_putDifferences 50 = .ok (.iload 4, 2) := by decide +kernel
theorem dX6_putDifferences_52 : decode cX6_putDifferences 52 = .ok (.iadd, 1) := by decide +kernel
theorem dX6_putDifferences_53 : decode cX6_putDifferences 53 = .ok (.iaload, 1) := by decide +kernel
theorem dX6_putDifferences_54 : decode cX6_putDifferences 54 = .ok (.invokevirtual 99, 3) := by decide +kernel
theorem dX6_putDifferences_57 : decode cX6_putDifferences 57 = .ok (.iconst 0, 1) := by decide +kernel
theorem dX6_putDifferences_58 : decode cX6_putDifferences 58 = .ok (.istore_n 3, 1) := by decide +kernel
theorem dX6_putDifferences_59 : decode cX6_putDifferences 59 = .ok (.iinc 4 1, 3) := by decide +kernel
theorem dX6_putDifferences_62 : decode cX6_putDifferences 62 = .ok (.goto (-57), 3) := by decide +kernel
theorem dX6_putDifferences_65 : decode cX6_putDifferences 65 = .ok (.aload_n 0, 1) := by decide +kernel
theorem dX6_putDifferences_66 : decode cX6_putDifferences 66 = .ok (.iload_n 3, 1) := by decide +kernel
theorem dX6_putDifferences_67 : decode cX6_putDifferences 67 = .ok (.invokevirtual 96, 3) := by decide +kernel
theorem dX6_putDifferences_70 : decode cX6_putDifferences 70 = .ok (.return_, 1) := by decide +kernel
theorem dX6_quality_0 : decode cX6_quality 0 = .ok (.iload_n 1, 1) := by decide +kernel
theorem dX6_quality_1 : decode cX6_quality 1 = .ok (.aload_n 0, 1) := by decide +kernel
theorem dX6_quality_2 : decode cX6_quality 2 = .ok (.getfield 76, 3) := by decide +kernel
theorem dX6_quality_5 : decode cX6_quality 5 = .ok (.if_icmp .eq 5, 3) := by decide +kernel
theorem dX6_quality_8 : decode cX6_quality 8 = .ok (.iconst 0, 1) := by decide +kernel
theorem dX6_quality_9 : decode cX6_quality 9 = .ok (.ireturn, 1) := by decide +kernel
theorem dX6_quality_10 : decode cX6_quality 10 = .ok (.iconst 0, 1) := by decide +kernel
theorem dX6_quality_11 : decode cX6_quality 11 = .ok (.istore_n 2, 1) := by decide +kernel
theorem dX6_quality_12 : decode cX6_quality 12 = .ok (.iconst 0, 1) := by decide +kernel
theorem dX6_quality_13 : decode cX6_quality 13 = .ok (.istore_n 3, 1) := by decide +kernel
theorem dX6_quality_14 : decode cX6_quality 14 = .ok (.iload_n 3, 1) := by decide +kernel
theorem dX6_quality_15 : decode cX6_quality 15 = .ok (.aload_n 0, 1) := by decide +kernel
theorem dX6_quality_16 : decode cX6_quality 16 = .ok (.getfield 73, 3) := by decide +kernel
theorem dX6_quality_19 : decode cX6_quality 19 = .ok (.if_icmp .ge 32, 3) := by decide +kernel
theorem dX6_quality_22 : decode cX6_quality 22 = .ok (.aload_n 0, 1) := by decide +kernel
theorem dX6_quality_23 : decode cX6_quality 23 = .ok (.getfield 35, 3) := by decide +kernel
theorem dX6_quality_26 : decode cX6_quality 26 = .ok (.iload_n 3, 1) := by decide +kernel
theorem dX6_quality_27 : decode cX6_quality 27 = .ok (.iaload, 1) := by decide +kernel
theorem dX6_quality_28 : decode cX6_quality 28 = .ok (.aload_n 0, 1) := by decide +kernel
theorem dX6_quality_29 : decode cX6_quality 29 = .ok (.getfield 35, 3) := by decide +kernel
theorem dX6_quality_32 : decode cX6_quality 32 = .ok (.iload_n 1, 1) := by decide +kernel
theorem dX6_quality_33 : decode cX6_quality 33 = .ok (.iaload, 1) := by decide +kernel
theorem dX6_quality_34 : decode cX6_quality 34 = .ok (.if_icmp .ne 9, 3) := by decide +kernel
theorem dX6_quality_37 : decode cX6_quality 37 = .ok (.iload_n 2, 1) := by decide +kernel
theorem dX6_quality_38 : decode cX6_quality 38 = .ok (.iconst 1, 1) := by decide +kernel
theorem dX6_quality_39 : decode cX6_quality 39 = .ok (.iadd, 1) := by decide +kernel
theorem dX6_quality_40 : decode cX6_quality 40 = .ok (.goto 4, 3) := by decide +kernel
theorem dX6_quality_43 : decode cX6_quality 43 = .ok (.iload_n 2, 1) := by decide +kernel
theorem dX6_quality_44 : decode cX6_quality 44 = .ok (.istore_n 2, 1) := by decide +kernel
theorem dX6_quality_45 : decode cX6_quality 45 = .ok (.iinc 3 1, 3) := by decide +kernel
theorem dX6_quality_48 : decode cX6_quality 48 = .ok (.goto (-34), 3) := by decide +kernel
theorem dX6_quality_51 : decode cX6_quality 51 = .ok (.aload_n 0, 1) := by decide +kernel
theorem dX6_quality_52 : decode cX6_quality 52 = .ok (.getfield 73, 3) := by decide +kernel
theorem dX6_quality_55 : decode cX6_quality 55 = .ok (.iconst 1, 1) := by decide +kernel
theorem dX6_quality_56 : decode cX6_quality 56 = .ok (.if_icmp .ne 8, 3) := by decide +kernel
theorem dX6_quality_59 : decode cX6_quality 59 = .ok (.bipush 60, 2) := by decide +kernel
theorem dX6_quality_61 : decode cX6_quality 61 = .ok (.goto 23, 3) := by decide +kernel
theorem dX6_quality_64 : decode cX6_quality 64 = .ok (.iload_n 2, 1) := by decide +kernel
theorem dX6_quality_65 : decode cX6_quality 65 = .ok (.iconst 1, 1) := by decide +kernel
theorem dX6_quality_66 : decode cX6_quality 66 = .ok (.if_icmp .ne 8, 3) := by decide +kernel
theorem dX6_quality_69 : decode cX6_quality 69 = .ok (.bipush 40, 2) := by decide +kernel
theorem dX6_quality_71 : decode cX6_quality 71 = .ok (.goto 13, 3) := by decide +kernel
theorem dX6_quality_74 : decode cX6_quality 74 = .ok (.iload_n 2, 1) := by decide +kernel
theorem dX6_quality_75 : decode cX6_quality 75 = .ok (.iconst 2, 1) := by decide +kernel
theorem dX6_quality_76 : decode cX6_quality 76 = .ok (.if_icmp .ne 7, 3) := by decide +kernel
theorem dX6_quality_79 : decode cX6_quality 79 = .ok (.iconst 3, 1) := by decide +kernel
theorem dX6_quality_80 : decode cX6_quality 80 = .ok (.goto 4, 3) := by decide +kernel
theorem dX6_quality_83 : decode cX6_quality 83 = .ok (.iconst 0, 1) := by decide +kernel
theorem dX6_quality_84 : decode cX6_quality 84 = .ok (.ireturn, 1) := by decide +kernel
theorem dX6_seek_0 : decode cX6_seek 0 = .ok (.aload_n 0, 1) := by decide +kernel
theorem dX6_seek_1 : decode cX6_seek 1 = .ok (.iconst 0, 1) := by decide +kernel
theorem dX6_seek_2 : decode cX6_seek 2 = .ok (.putfield 73, 3) := by decide +kernel
theorem dX6_seek_5 : decode cX6_seek 5 = .ok (.aload_n 0, 1) := by decide +kernel
theorem dX6_seek_6 : decode cX6_seek 6 = .ok (.iconst (-1), 1) := by decide +kernel
theorem dX6_seek_7 : decode cX6_seek 7 = .ok (.putfield 76, 3) := by decide +kernel
theorem dX6_seek_10 : decode cX6_seek 10 = .ok (.iconst 0, 1) := by decide +kernel
theorem dX6_seek_11 : decode cX6_seek 11 = .ok (.istore_n 2, 1) := by decide +kernel
theorem dX6_seek_12 : decode cX6_seek 12 = .ok (.iload_n 2, 1) := by decide +kernel
theorem dX6_seek_13 : decode cX6_seek 13 = .ok (.aload_n 0, 1) := by decide +kernel
theorem dX6_seek_14 : decode cX6_seek 14 = .ok (.getfield 48, 3) := by decide +kernel
theorem dX6_seek_17 : decode cX6_seek 17 = .ok (.iadd, 1) := by decide +kernel
theorem dX6_seek_18 : decode cX6_seek 18 = .ok (.aload_n 0, 1) := by decide +kernel
theorem dX6_seek_19 : decode cX6_seek 19 = .ok (.getfield 45, 3) := by decide +kernel
theorem dX6_seek_22 : decode cX6_seek 22 = .ok (.if_icmp .gt 113, 3) := by decide +kernel
theorem dX6_seek_25 : decode cX6_seek 25 = .ok (.iconst 0, 1) := by decide +kernel
theorem dX6_seek_26 : decode cX6_seek 26 = .ok (.istore_n 3, 1) := by decide +kernel
theorem dX6_seek_27 : decode cX6_seek 27 = .ok (.iload_n 3, 1) := by decide +kernel
theorem dX6_seek_28 : decode cX6_seek 28 = .ok (.iconst 2, 1) := by decide +kernel
theorem dX6_seek_29 : decode cX6_seek 29 = .ok (.if_icmp .ge 100, 3) := by decide +kernel
theorem dX6_seek_32 : decode cX6_seek 32 = .ok (.aload_n 0, 1) := by decide +kernel
theorem dX6_seek_33 : decode cX6_seek 33 = .ok (.iload_n 2, 1) := by decide +kernel
theorem dX6_seek_34 : decode cX6_seek 34 = .ok (.iload_n 3, 1) := by decide +kernel
theorem dX6_seek_35 : decode cX6_seek 35 = .ok (.invokevirtual 79, 3) := by decide +kernel
theorem dX6_seek_38 : decode cX6_seek 38 = .ok (.istore 4, 2) := by decide +kernel
theorem dX6_seek_40 : decode cX6_seek 40 = .ok (.iload 4, 2) := by decide +kernel
theorem dX6_seek_42 : decode cX6_seek 42 = .ok (.iload_n 1, 1) := by decide +kernel
theorem dX6_seek_43 : decode cX6_seek 43 = .ok (.if_icmp .gt 80, 3) := by decide +kernel
theorem dX6_seek_46 : decode cX6_seek 46 = .ok (.aload_n 0, 1) := by decide +kernel
theorem dX6_seek_47 : decode cX6_seek 47 = .ok (.getfield 29, 3) := by decide +kernel
theorem dX6_seek_50 : decode cX6_seek 50 = .ok (.aload_n 0, 1) := by decide +kernel
theorem dX6_seek_51 : decode cX6_seek 51 = .ok (.getfield 73, 3) := by decide +kernel
theorem dX6_seek_54 : decode cX6_seek 54 = .ok (.iload_n 2, 1) := by decide +kernel
theorem dX6_seek_55 : decode cX6_seek 55 = .ok (.iastore, 1) := by decide +kernel
theorem dX6_seek_56 : decode cX6_seek 56 = .ok (.aload_n 0, 1) := by decide +kernel
theorem dX6_seek_57 : decode cX6_seek 57 = .ok (.getfield 32, 3) := by decide +kernel
theorem dX6_seek_60 : decode cX6_seek 60 = .ok (.aload_n 0, 1) := by decide +kernel
theorem dX6_seek_61 : decode cX6_seek 61 = .ok (.getfield 73, 3) := by decide +kernel
theorem dX6_seek_64 : decode cX6_seek 64 = .ok (.iload_n 3, 1) := by decide +kernel
theorem dX6_seek_65 : decode cX6_seek 65 = .ok (.iastore, 1) := by decide +kernel
theorem dX6_seek_66 : decode cX6_seek 66 = .ok (.aload_n 0, 1) := by decide +kernel
theorem dX6_seek_67 : decode cX6_seek 67 = .ok (.getfield 35, 3) := by decide +kernel
theorem dX6_seek_70 : decode cX6_seek 70 = .ok (.aload_n 0, 1) := by decide +kernel
theorem dX6_seek_71 : decode cX6_seek 71 = .ok (.getfield 73, 3) := by decide +kernel
theorem dX6_seek_74 : decode cX6_seek 74 = .ok (.iload 4, 2) := by decide +kernel
theorem dX6_seek_76 : decode cX6_seek 76 = .ok (.iastore, 1) := by decide +kernel
theorem dX6_seek_77 : decode cX6_seek 77 = .ok (.aload_n 0, 1) := by decide +kernel
theorem dX6_seek_78 : decode cX6_seek 78 = .ok (.aload_n 0, 1) := by decide +kernel
theorem dX6_seek_79 : decode cX6_seek 79 = .ok (.getfield 76, 3) := by decide +kernel
theorem dX6_seek_82 : decode cX6_seek 82 = .ok (.ifCond .lt 17, 3) := by decide +kernel
theorem dX6_seek_85 : decode cX6_seek 85 = .ok (.iload 4, 2) := by decide +kernel
theorem dX6_seek_87 : decode cX6_seek 87 = .ok (.aload_n 0, 1) := by decide +kernel
theorem dX6_seek_88 : decode cX6_seek 88 = .ok (.getfield 35, 3) := by decide +kernel
theorem dX6_seek_91 : decode cX6_seek 91 = .ok (.aload_n 0, 1) := by decide +kernel
theorem dX6_seek_92 : decode cX6_seek 92 = .ok (.getfield 76, 3) := by decide +kernel
theorem dX6_seek_95 : decode cX6_seek 95 = .ok (.iaload, 1) := by decide +kernel
theorem dX6_seek_96 : decode cX6_seek 96 = .ok (.if_icmp .ge 10, 3) := by decide +kernel
theorem dX6_seek_99 : decode cX6_seek 99 = .ok (.aload_n 0, 1) := by decide +kernel
theorem dX6_seek_100 : decode cX6_seek 100 = .ok (.getfield 73, 3) := by decide +kernel
theorem dX6_seek_103 : decode cX6_seek 103 = .ok (.goto 7, 3) := by decide +kernel
theorem dX6_seek_106 : decode cX6_seek 106 = .ok (.aload_n 0, 1) := by decide +kernel
theorem dX6_seek_107 : decode cX6_seek 107 = .ok (.getfield 76, 3) := by decide +kernel
theorem dX6_seek_110 : decode cX6_seek 110 = .ok (.putfield 76, 3) := by decide +kernel
theorem dX6_seek_113 : decode cX6_seek 113 = .ok (.aload_n 0, 1) := by decide +kernel
theorem dX6_seek_114 : decode cX6_seek 114 = .ok (.dup, 1) := by decide +kernel
theorem dX6_seek_115 : decode cX6_seek 115 = .ok (.getfield 73, 3) := by decide +kernel
theorem dX6_seek_118 : decode cX6_seek 118 = .ok (.iconst 1, 1) := by decide +kernel
theorem dX6_seek_119 : decode cX6_seek 119 = .ok (.iadd, 1) := by decide +kernel
theorem dX6_seek_120 : decode cX6_seek 120 = .ok (.putfield 73, 3) := by decide +kernel
theorem dX6_seek_123 : decode cX6_seek 123 = .ok (.iinc 3 1, 3) := by decide +kernel
theorem dX6_seek_126 : decode cX6_seek 126 = .ok (.goto (-99), 3) := by decide +kernel
theorem dX6_seek_129 : decode cX6_seek 129 = .ok (.iinc 2 1, 3) := by decide +kernel
theorem dX6_seek_132 : decode cX6_seek 132 = .ok (.goto (-120), 3) := by decide +kernel
theorem dX6_seek_135 : decode cX6_seek 135 = .ok (.return_, 1) := by decide +kernel
theorem dX6_putHit_0 : decode cX6_putHit 0 = .ok (.iload_n 1, 1) := by decide +kernel
theorem dX6_putHit_1 : decode cX6_putHit 1 = .ok (.aload_n 0, 1) := by decide +kernel
theorem dX6_putHit_2 : decode cX6_putHit 2 = .ok (.getfield 76, 3) := by decide +kernel
theorem dX6_putHit_5 : decode cX6_putHit 5 = .ok (.if_icmp .ne 7, 3) := by decide +kernel
theorem dX6_putHit_8 : decode cX6_putHit 8 = .ok (.iconst 1, 1) := by decide +kernel
theorem dX6_putHit_9 : decode cX6_putHit 9 = .ok (.goto 4, 3) := by decide +kernel
theorem dX6_putHit_12 : decode cX6_putHit 12 = .ok (.iconst 0, 1) := by decide +kernel
theorem dX6_putHit_13 : decode cX6_putHit 13 = .ok (.istore_n 2, 1) := by decide +kernel
theorem dX6_putHit_14 : decode cX6_putHit 14 = .ok (.aload_n 0, 1) := by decide +kernel
theorem dX6_putHit_15 : decode cX6_putHit 15 = .ok (.bipush 114, 2) := by decide +kernel
theorem dX6_putHit_17 : decode cX6_putHit 17 = .ok (.invokevirtual 85, 3) := by decide +kernel
theorem dX6_putHit_20 : decode cX6_putHit 20 = .ok (.aload_n 0, 1) := by decide +kernel
theorem dX6_putHit_21 : decode cX6_putHit 21 = .ok (.aload_n 0, 1) := by decide +kernel
theorem dX6_putHit_22 : decode cX6_putHit 22 = .ok (.getfield 102, 3) := by decide +kernel
theorem dX6_putHit_25 : decode cX6_putHit 25 = .ok (.iconst 1, 1) := by decide +kernel
theorem dX6_putHit_26 : decode cX6_putHit 26 = .ok (.iadd, 1) := by decide +kernel
theorem dX6_putHit_27 : decode cX6_putHit 27 = .ok (.invokevirtual 96, 3) := by decide +kernel
theorem dX6_putHit_30 : decode cX6_putHit 30 = .ok (.aload_n 0, 1) := by decide +kernel
theorem dX6_putHit_31 : decode cX6_putHit 31 = .ok (.invokevirtual 89, 3) := by decide +kernel
theorem dX6_putHit_34 : decode cX6_putHit 34 = .ok (.aload_n 0, 1) := by decide +kernel
theorem dX6_putHit_35 : decode cX6_putHit 35 = .ok (.aload_n 0, 1) := by decide +kernel
theorem dX6_putHit_36 : decode cX6_putHit 36 = .ok (.getfield 32, 3) := by decide +kernel
theorem dX6_putHit_39 : decode cX6_putHit 39 = .ok (.iload_n 1, 1) := by decide +kernel
theorem dX6_putHit_40 : decode cX6_putHit 40 = .ok (.iaload, 1) := by decide +kernel
theorem dX6_putHit_41 : decode cX6_putHit 41 = .ok (.iconst 1, 1) := by decide +kernel
theorem dX6_putHit_42 : decode cX6_putHit 42 = .ok (.if_icmp .ne 8, 3) := by decide +kernel
theorem dX6_putHit_45 : decode cX6_putHit 45 = .ok (.bipush 16, 2) := by decide +kernel
theorem dX6_putHit_47 : decode cX6_putHit 47 = .ok (.goto 4, 3) := by decide +kernel
theorem dX6_putHit_50 : decode cX6_putHit 50 = .ok (.iconst 0, 1) := by decide +kernel
theorem dX6_putHit_51 : decode cX6_putHit 51 = .ok (.iload_n 2, 1) := by decide +kernel
theorem dX6_putHit_52 : decode cX6_putHit 52 = .ok (.ifCond .eq 7, 3) := by decide +kernel
theorem dX6_putHit_55 : decode cX6_putHit 55 = .ok (.iconst 0, 1) := by decide +kernel
theorem dX6_putHit_56 : decode cX6_putHit 56 = .ok (.goto 6, 3) := by decide +kernel
theorem dX6_putHit_59 : decode cX6_putHit 59 = .ok (.sipush 256, 3) := by decide +kernel
theorem dX6_putHit_62 : decode cX6_putHit 62 = .ok (.iadd, 1) := by decide +kernel
theorem dX6_putHit_63 : decode cX6_putHit 63 = .ok (.invokevirtual 96, 3) := by decide +kernel
theorem dX6_putHit_66 : decode cX6_putHit 66 = .ok (.aload_n 0, 1) := by decide +kernel
theorem dX6_putHit_67 : decode cX6_putHit 67 = .ok (.invokevirtual 89, 3) := by decide +kernel
theorem dX6_putHit_70 : decode cX6_putHit 70 = .ok (.aload_n 0, 1) := by decide +kernel
theorem dX6_putHit_71 : decode cX6_putHit 71 = .ok (.bipush 103, 2) := by decide +kernel
theorem dX6_putHit_73 : decode cX6_putHit 73 = .ok (.invokevirtual 85, 3) := by decide +kernel
theorem dX6_putHit_76 : decode cX6_putHit 76 = .ok (.aload_n 0, 1) := by decide +kernel
theorem dX6_putHit_77 : decode cX6_putHit 77 = .ok (.invokevirtual 89, 3) := by decide +kernel
theorem dX6_putHit_80 : decode cX6_putHit 80 = .ok (.aload_n 0, 1) := by decide +kernel
theorem dX6_putHit_81 : decode cX6_putHit 81 = .ok (.aload_n 0, 1) := by decide +kernel
theorem dX6_putHit_82 : decode cX6_putHit 82 = .ok (.getfield 29, 3) := by decide +kernel
theorem dX6_putHit_85 : decode cX6_putHit 85 = .ok (.iload_n 1, 1) := by decide +kernel
theorem dX6_putHit_86 : decode cX6_putHit 86 = .ok (.iaload, 1) := by decide +kernel
theorem dX6_putHit_87 : decode cX6_putHit 87 = .ok (.iconst 1, 1) := by decide +kernel
theorem dX6_putHit_88 : decode cX6_putHit 88 = .ok (.iadd, 1) := by decide +kernel
theorem dX6_putHit_89 : decode cX6_putHit 89 = .ok (.invokevirtual 96, 3) := by decide +kernel
theorem dX6_putHit_92 : decode cX6_putHit 92 = .ok (.aload_n 0, 1) := by decide +kernel
theorem dX6_putHit_93 : decode cX6_putHit 93 = .ok (.invokevirtual 89, 3) := by decide +kernel
theorem dX6_putHit_96 : decode cX6_putHit 96 = .ok (.aload_n 0, 1) := by decide +kernel
theorem dX6_putHit_97 : decode cX6_putHit 97 = .ok (.aload_n 0, 1) := by decide +kernel
theorem dX6_putHit_98 : decode cX6_putHit 98 = .ok (.iload_n 1, 1) := by decide +kernel
theorem dX6_putHit_99 : decode cX6_putHit 99 = .ok (.invokevirtual 105, 3) := by decide +kernel
theorem dX6_putHit_102 : decode cX6_putHit 102 = .ok (.invokevirtual 96, 3) := by decide +kernel
theorem dX6_putHit_105 : decode cX6_putHit 105 = .ok (.aload_n 0, 1) := by decide +kernel
theorem dX6_putHit_106 : decode cX6_putHit 106 = .ok (.invokevirtual 89, 3) := by decide +kernel
theorem dX6_putHit_109 : decode cX6_putHit 109 = .ok (.aload_n 0, 1) := by decide +kernel
theorem dX6_putHit_110 : decode cX6_putHit 110 = .ok (.aload_n 0, 1) := by decide +kernel
theorem dX6_putHit_111 : decode cX6_putHit 111 = .ok (.getfield 48, 3) := by decide +kernel
theorem dX6_putHit_114 : decode cX6_putHit 114 = .ok (.invokevirtual 96, 3) := by decide +kernel
theorem dX6_putHit_117 : decode cX6_putHit 117 = .ok (.aload_n 0, 1) := by decide +kernel
theorem dX6_putHit_118 : decode cX6_putHit 118 = .ok (.bipush 77, 2) := by decide +kernel
theorem dX6_putHit_120 : decode cX6_putHit 120 = .ok (.invokevirtual 85, 3) := by decide +kernel
theorem dX6_putHit_123 : decode cX6_putHit 123 = .ok (.aload_n 0, 1) := by decide +kernel
theorem dX6_putHit_124 : decode cX6_putHit 124 = .ok (.invokevirtual 108, 3) := by decide +kernel
theorem dX6_putHit_127 : decode cX6_putHit 127 = .ok (.iload_n 2, 1) := by decide +kernel
theorem dX6_putHit_128 : decode cX6_putHit 128 = .ok (.ifCond .eq 16, 3) := by decide +kernel
theorem dX6_putHit_131 : decode cX6_putHit 131 = .ok (.aload_n 0, 1) := by decide +kernel
theorem dX6_putHit_132 : decode cX6_putHit 132 = .ok (.aload_n 0, 1) := by decide +kernel
theorem dX6_putHit_133 : decode cX6_putHit 133 = .ok (.getfield 32, 3) := by decide +kernel
theorem dX6_putHit_136 : decode cX6_putHit 136 = .ok (.iload_n 1, 1) := by decide +kernel
theorem dX6_putHit_137 : decode cX6_putHit 137 = .ok (.iaload, 1) := by decide +kernel
theorem dX6_putHit_138 : decode cX6_putHit 138 = .ok (.invokevirtual 111, 3) := by decide +kernel
theorem dX6_putHit_141 : decode cX6_putHit 141 = .ok (.goto 9, 3) := by decide +kernel
theorem dX6_putHit_144 : decode cX6_putHit 144 = .ok (.aload_n 0, 1) := by decide +kernel
theorem dX6_putHit_145 : decode cX6_putHit 145 = .ok (.bipush 42, 2) := by decide +kernel
theorem dX6_putHit_147 : decode cX6_putHit 147 = .ok (.invokevirtual 85, 3) := by decide +kernel
theorem dX6_putHit_150 : decode cX6_putHit 150 = .ok (.aload_n 0, 1) := by decide +kernel
theorem dX6_putHit_151 : decode cX6_putHit 151 = .ok (.invokevirtual 89, 3) := by decide +kernel
theorem dX6_putHit_154 : decode cX6_putHit 154 = .ok (.aload_n 0, 1) := by decide +kernel
theorem dX6_putHit_155 : decode cX6_putHit 155 = .ok (.bipush 42, 2) := by decide +kernel
theorem dX6_putHit_157 : decode cX6_putHit 157 = .ok (.invokevirtual 85, 3) := by decide +kernel
theorem dX6_putHit_160 : decode cX6_putHit 160 = .ok (.aload_n 0, 1) := by decide +kernel
theorem dX6_putHit_161 : decode cX6_putHit 161 = .ok (.invokevirtual 89, 3) := by decide +kernel
theorem dX6_putHit_164 : decode cX6_putHit 164 = .ok (.aload_n 0, 1) := by decide +kernel
theorem dX6_putHit_165 : decode cX6_putHit 165 = .ok (.bipush 78, 2) := by decide +kernel
theorem dX6_putHit_167 : decode cX6_putHit 167 = .ok (.bipush 77, 2) := by decide +kernel
theorem dX6_putHit_169 : decode cX6_putHit 169 = .ok (.invokevirtual 92, 3) := by decide +kernel
theorem dX6_putHit_172 : decode cX6_putHit 172 = .ok (.aload_n 0, 1) := by decide +kernel
theorem dX6_putHit_173 : decode cX6_putHit 173 = .ok (.bipush 105, 2) := by decide +kernel
theorem dX6_putHit_175 : decode cX6_putHit 175 = .ok (.invokevirtual 85, 3) := by decide +kernel
theorem dX6_putHit_178 : decode cX6_putHit 178 = .ok (.aload_n 0, 1) := by decide +kernel
theorem dX6_putHit_179 : decode cX6_putHit 179 = .ok (.bipush 58, 2) := by decide +kernel
theorem dX6_putHit_181 : decode cX6_putHit 181 = .ok (.invokevirtual 85, 3) := by decide +kernel
theorem dX6_putHit_184 : decode cX6_putHit 184 = .ok (.aload_n 0, 1) := by decide +kernel
theorem dX6_putHit_185 : decode cX6_putHit 185 = .ok (.aload_n 0, 1) := by decide +kernel
theorem dX6_putHit_186 : decode cX6_putHit 186 = .ok (.getfield 35, 3) := by decide +kernel
theorem dX6_putHit_189 : decode cX6_putHit 189 = .ok (.iload_n 1, 1) := by decide +kernel
theorem dX6_putHit_190 : decode cX6_putHit 190 = .ok (.iaload, 1) := by decide +kernel
theorem dX6_putHit_191 : decode cX6_putHit 191 = .ok (.invokevirtual 96, 3) := by decide +kernel
theorem dX6_putHit_194 : decode cX6_putHit 194 = .ok (.aload_n 0, 1) := by decide +kernel
theorem dX6_putHit_195 : decode cX6_putHit 195 = .ok (.invokevirtual 89, 3) := by decide +kernel
theorem dX6_putHit_198 : decode cX6_putHit 198 = .ok (.aload_n 0, 1) := by decide +kernel
theorem dX6_putHit_199 : decode cX6_putHit 199 = .ok (.bipush 77, 2) := by decide +kernel
theorem dX6_putHit_201 : decode cX6_putHit 201 = .ok (.bipush 68, 2) := by decide +kernel
theorem dX6_putHit_203 : decode cX6_putHit 203 = .ok (.invokevirtual 92, 3) := by decide +kernel
theorem dX6_putHit_206 : decode cX6_putHit 206 = .ok (.aload_n 0, 1) := by decide +kernel
theorem dX6_putHit_207 : decode cX6_putHit 207 = .ok (.bipush 90, 2) := by decide +kernel
theorem dX6_putHit_209 : decode cX6_putHit 209 = .ok (.invokevirtual 85, 3) := by decide +kernel
theorem dX6_putHit_212 : decode cX6_putHit 212 = .ok (.aload_n 0, 1) := by decide +kernel
theorem dX6_putHit_213 : decode cX6_putHit 213 = .ok (.bipush 58, 2) := by decide +kernel
theorem dX6_putHit_215 : decode cX6_putHit 215 = .ok (.invokevirtual 85, 3) := by decide +kernel
theorem dX6_putHit_218 : decode cX6_putHit 218 = .ok (.aload_n 0, 1) := by decide +kernel
theorem dX6_putHit_219 : decode cX6_putHit 219 = .ok (.aload_n 0, 1) := by decide +kernel
theorem dX6_putHit_220 : decode cX6_putHit 220 = .ok (.getfield 29, 3) := by decide +kernel
theorem dX6_putHit_223 : decode cX6_putHit 223 = .ok (.iload_n 1, 1) := by decide +kernel
theorem dX6_putHit_224 : decode cX6_putHit 224 = .ok (.iaload, 1) := by decide +kernel
theorem dX6_putHit_225 : decode cX6_putHit 225 = .ok (.aload_n 0, 1) := by decide +kernel
theorem dX6_putHit_226 : decode cX6_putHit 226 = .ok (.getfield 32, 3) := by decide +kernel
theorem dX6_putHit_229 : decode cX6_putHit 229 = .ok (.iload_n 1, 1) := by decide +kernel
theorem dX6_putHit_230 : decode cX6_putHit 230 = .ok (.iaload, 1) := by decide +kernel
theorem dX6_putHit_231 : decode cX6_putHit 231 = .ok (.invokevirtual 114, 3) := by decide +kernel
theorem dX6_putHit_234 : decode cX6_putHit 234 = .ok (.aload_n 0, 1) := by decide +kernel
theorem dX6_putHit_235 : decode cX6_putHit 235 = .ok (.bipush 10, 2) := by decide +kernel
theorem dX6_putHit_237 : decode cX6_putHit 237 = .ok (.invokevirtual 85, 3) := by decide +kernel
theorem dX6_putHit_240 : decode cX6_putHit 240 = .ok (.return_, 1) := by decide +kernel
end
section
theorem dX6_putNothing_0 : decode cX6_putNothing 0 = .ok (.aload_n 0, 1) := by decide +kernel
theorem dX6_putNothing_1 : decode cX6_putNothing 1 = .ok (.bipush 114, 2) := by decide +kernel
theorem dX6_putNothing_3 : decode cX6_putNothing 3 = .ok (.invokevirtual 85, 3) := by decide +kernel
theorem dX6_putNothing_6 : decode cX6_putNothing 6 = .ok (.aload_n 0, 1) := by decide +kernel
theorem dX6_putNothing_7 : decode cX6_putNothing 7 = .ok (.aload_n 0, 1) := by decide +kernel
theorem dX6_putNothing_8 : decode cX6_putNothing 8 = .ok (.getfield 102, 3) := by decide +kernel
theorem dX6_putNothing_11 : decode cX6_putNothing 11 = .ok (.iconst 1, 1) := by decide +kernel
theorem dX6_putNothing_12 : decode cX6_putNothing 12 = .ok (.iadd, 1) := by decide +kernel
theorem dX6_putNothing_13 : decode cX6_putNothing 13 = .ok (.invokevirtual 96, 3) := by decide +kernel
theorem dX6_putNothing_16 : decode cX6_putNothing 16 = .ok (.aload_n 0, 1) := by decide +kernel
theorem dX6_putNothing_17 : decode cX6_putNothing 17 = .ok (.invokevirtual 89, 3) := by decide +kernel
theorem dX6_putNothing_20 : decode cX6_putNothing 20 = .ok (.aload_n 0, 1) := by decide +kernel
theorem dX6_putNothing_21 : decode cX6_putNothing 21 = .ok (.bipush 52, 2) := by decide +kernel
theorem dX6_putNothing_23 : decode cX6_putNothing 23 = .ok (.invokevirtual 85, 3) := by decide +kernel
theorem dX6_putNothing_26 : decode cX6_putNothing 26 = .ok (.aload_n 0, 1) := by decide +kernel
theorem dX6_putNothing_27 : decode cX6_putNothing 27 = .ok (.invokevirtual 89, 3) := by decide +kernel
theorem dX6_putNothing_30 : decode cX6_putNothing 30 = .ok (.aload_n 0, 1) := by decide +kernel
theorem dX6_putNothing_31 : decode cX6_putNothing 31 = .ok (.bipush 42, 2) := by decide +kernel
theorem dX6_putNothing_33 : decode cX6_putNothing 33 = .ok (.invokevirtual 85, 3) := by decide +kernel
theorem dX6_putNothing_36 : decode cX6_putNothing 36 = .ok (.aload_n 0, 1) := by decide +kernel
theorem dX6_putNothing_37 : decode cX6_putNothing 37 = .ok (.invokevirtual 89, 3) := by decide +kernel
theorem dX6_putNothing_40 : decode cX6_putNothing 40 = .ok (.aload_n 0, 1) := by decide +kernel
theorem dX6_putNothing_41 : decode cX6_putNothing 41 = .ok (.bipush 48, 2) := by decide +kernel
theorem dX6_putNothing_43 : decode cX6_putNothing 43 = .ok (.invokevirtual 85, 3) := by decide +kernel
theorem dX6_putNothing_46 : decode cX6_putNothing 46 = .ok (.aload_n 0, 1) := by decide +kernel
theorem dX6_putNothing_47 : decode cX6_putNothing 47 = .ok (.invokevirtual 89, 3) := by decide +kernel
theorem dX6_putNothing_50 : decode cX6_putNothing 50 = .ok (.aload_n 0, 1) := by decide +kernel
theorem dX6_putNothing_51 : decode cX6_putNothing 51 = .ok (.bipush 48, 2) := by decide +kernel
theorem dX6_putNothing_53 : decode cX6_putNothing 53 = .ok (.invokevirtual 85, 3) := by decide +kernel
theorem dX6_putNothing_56 : decode cX6_putNothing 56 = .ok (.aload_n 0, 1) := by decide +kernel
theorem dX6_putNothing_57 : decode cX6_putNothing 57 = .ok (.invokevirtual 89, 3) := by decide +kernel
theorem dX6_putNothing_60 : decode cX6_putNothing 60 = .ok (.aload_n 0, 1) := by decide +kernel
theorem dX6_putNothing_61 : decode cX6_putNothing 61 = .ok (.bipush 42, 2) := by decide +kernel
theorem dX6_putNothing_63 : decode cX6_putNothing 63 = .ok (.invokevirtual 85, 3) := by decide +kernel
theorem dX6_putNothing_66 : decode cX6_putNothing 66 = .ok (.aload_n 0, 1) := by decide +kernel
theorem dX6_putNothing_67 : decode cX6_putNothing 67 = .ok (.invokevirtual 108, 3) := by decide +kernel
theorem dX6_putNothing_70 : decode cX6_putNothing 70 = .ok (.aload_n 0, 1) := by decide +kernel
theorem dX6_putNothing_71 : decode cX6_putNothing 71 = .ok (.iconst 0, 1) := by decide +kernel
theorem dX6_putNothing_72 : decode cX6_putNothing 72 = .ok (.invokevirtual 111, 3) := by decide +kernel
theorem dX6_putNothing_75 : decode cX6_putNothing 75 = .ok (.aload_n 0, 1) := by decide +kernel
theorem dX6_putNothing_76 : decode cX6_putNothing 76 = .ok (.invokevirtual 89, 3) := by decide +kernel
theorem dX6_putNothing_79 : decode cX6_putNothing 79 = .ok (.aload_n 0, 1) := by decide +kernel
theorem dX6_putNothing_80 : decode cX6_putNothing 80 = .ok (.bipush 42, 2) := by decide +kernel
theorem dX6_putNothing_82 : decode cX6_putNothing 82 = .ok (.invokevirtual 85, 3) := by decide +kernel
theorem dX6_putNothing_85 : decode cX6_putNothing 85 = .ok (.aload_n 0, 1) := by decide +kernel
theorem dX6_putNothing_86 : decode cX6_putNothing 86 = .ok (.bipush 10, 2) := by decide +kernel
theorem dX6_putNothing_88 : decode cX6_putNothing 88 = .ok (.invokevirtual 85, 3) := by decide +kernel
theorem dX6_putNothing_91 : decode cX6_putNothing 91 = .ok (.return_, 1) := by decide +kernel
theorem dX6_keep_0 : decode cX6_keep 0 = .ok (.aload_n 0, 1) := by decide +kernel
theorem dX6_keep_1 : decode cX6_keep 1 = .ok (.aload_n 0, 1) := by decide +kernel
theorem dX6_keep_2 : decode cX6_keep 2 = .ok (.getfield 73, 3) := by decide +kernel
theorem dX6_keep_5 : decode cX6_keep 5 = .ok (.putfield 117, 3) := by decide +kernel
theorem dX6_keep_8 : decode cX6_keep 8 = .ok (.aload_n 0, 1) := by decide +kernel
theorem dX6_keep_9 : decode cX6_keep 9 = .ok (.aload_n 0, 1) := by decide +kernel
theorem dX6_keep_10 : decode cX6_keep 10 = .ok (.getfield 76, 3) := by decide +kernel
theorem dX6_keep_13 : decode cX6_keep 13 = .ok (.putfield 25, 3) := by decide +kernel
theorem dX6_keep_16 : decode cX6_keep 16 = .ok (.iconst 0, 1) := by decide +kernel
theorem dX6_keep_17 : decode cX6_keep 17 = .ok (.istore_n 1, 1) := by decide +kernel
theorem dX6_keep_18 : decode cX6_keep 18 = .ok (.iload_n 1, 1) := by decide +kernel
theorem dX6_keep_19 : decode cX6_keep 19 = .ok (.aload_n 0, 1) := by decide +kernel
theorem dX6_keep_20 : decode cX6_keep 20 = .ok (.getfield 73, 3) := by decide +kernel
theorem dX6_keep_23 : decode cX6_keep 23 = .ok (.if_icmp .ge 45, 3) := by decide +kernel
theorem dX6_keep_26 : decode cX6_keep 26 = .ok (.aload_n 0, 1) := by decide +kernel
theorem dX6_keep_27 : decode cX6_keep 27 = .ok (.getfield 16, 3) := by decide +kernel
theorem dX6_keep_30 : decode cX6_keep 30 = .ok (.iload_n 1, 1) := by decide +kernel
theorem dX6_keep_31 : decode cX6_keep 31 = .ok (.aload_n 0, 1) := by decide +kernel
theorem dX6_keep_32 : decode cX6_keep 32 = .ok (.getfield 29, 3) := by decide +kernel
theorem dX6_keep_35 : decode cX6_keep 35 = .ok (.iload_n 1, 1) := by decide +kernel
theorem dX6_keep_36 : decode cX6_keep 36 = .ok (.iaload, 1) := by decide +kernel
theorem dX6_keep_37 : decode cX6_keep 37 = .ok (.iastore, 1) := by decide +kernel
theorem dX6_keep_38 : decode cX6_keep 38 = .ok (.aload_n 0, 1) := by decide +kernel
theorem dX6_keep_39 : decode cX6_keep 39 = .ok (.getfield 19, 3) := by decide +kernel
theorem dX6_keep_42 : decode cX6_keep 42 = .ok (.iload_n 1, 1) := by decide +kernel
theorem dX6_keep_43 : decode cX6_keep 43 = .ok (.aload_n 0, 1) := by decide +kernel
theorem dX6_keep_44 : decode cX6_keep 44 = .ok (.getfield 32, 3) := by decide +kernel
theorem dX6_keep_47 : decode cX6_keep 47 = .ok (.iload_n 1, 1) := by decide +kernel
theorem dX6_keep_48 : decode cX6_keep 48 = .ok (.iaload, 1) := by decide +kernel
theorem dX6_keep_49 : decode cX6_keep 49 = .ok (.iastore, 1) := by decide +kernel
theorem dX6_keep_50 : decode cX6_keep 50 = .ok (.aload_n 0, 1) := by decide +kernel
theorem dX6_keep_51 : decode cX6_keep 51 = .ok (.getfield 22, 3) := by decide +kernel
theorem dX6_keep_54 : decode cX6_keep 54 = .ok (.iload_n 1, 1) := by decide +kernel
theorem dX6_keep_55 : decode cX6_keep 55 = .ok (.aload_n 0, 1) := by decide +kernel
theorem dX6_keep_56 : decode cX6_keep 56 = .ok (.getfield 35, 3) := by decide +kernel
theorem dX6_keep_59 : decode cX6_keep 59 = .ok (.iload_n 1, 1) := by decide +kernel
theorem dX6_keep_60 : decode cX6_keep 60 = .ok (.iaload, 1) := by decide +kernel
theorem dX6_keep_61 : decode cX6_keep 61 = .ok (.iastore, 1) := by decide +kernel
theorem dX6_keep_62 : decode cX6_keep 62 = .ok (.iinc 1 1, 3) := by decide +kernel
theorem dX6_keep_65 : decode cX6_keep 65 = .ok (.goto (-47), 3) := by decide +kernel
theorem dX6_keep_68 : decode cX6_keep 68 = .ok (.aload_n 0, 1) := by decide +kernel
theorem dX6_keep_69 : decode cX6_keep 69 = .ok (.aload_n 0, 1) := by decide +kernel
theorem dX6_keep_70 : decode cX6_keep 70 = .ok (.getfield 82, 3) := by decide +kernel
theorem dX6_keep_73 : decode cX6_keep 73 = .ok (.putfield 120, 3) := by decide +kernel
theorem dX6_keep_76 : decode cX6_keep 76 = .ok (.iconst 0, 1) := by decide +kernel
theorem dX6_keep_77 : decode cX6_keep 77 = .ok (.istore_n 1, 1) := by decide +kernel
theorem dX6_keep_78 : decode cX6_keep 78 = .ok (.iload_n 1, 1) := by decide +kernel
theorem dX6_keep_79 : decode cX6_keep 79 = .ok (.aload_n 0, 1) := by decide +kernel
theorem dX6_keep_80 : decode cX6_keep 80 = .ok (.getfield 82, 3) := by decide +kernel
theorem dX6_keep_83 : decode cX6_keep 83 = .ok (.if_icmp .ge 21, 3) := by decide +kernel
theorem dX6_keep_86 : decode cX6_keep 86 = .ok (.aload_n 0, 1) := by decide +kernel
theorem dX6_keep_87 : decode cX6_keep 87 = .ok (.getfield 38, 3) := by decide +kernel
theorem dX6_keep_90 : decode cX6_keep 90 = .ok (.iload_n 1, 1) := by decide +kernel
theorem dX6_keep_91 : decode cX6_keep 91 = .ok (.aload_n 0, 1) := by decide +kernel
theorem dX6_keep_92 : decode cX6_keep 92 = .ok (.getfield 42, 3) := by decide +kernel
theorem dX6_keep_95 : decode cX6_keep 95 = .ok (.iload_n 1, 1) := by decide +kernel
theorem dX6_keep_96 : decode cX6_keep 96 = .ok (.caload, 1) := by decide +kernel
theorem dX6_keep_97 : decode cX6_keep 97 = .ok (.castore, 1) := by decide +kernel
theorem dX6_keep_98 : decode cX6_keep 98 = .ok (.iinc 1 1, 3) := by decide +kernel
theorem dX6_keep_101 : decode cX6_keep 101 = .ok (.goto (-23), 3) := by decide +kernel
theorem dX6_keep_104 : decode cX6_keep 104 = .ok (.aload_n 0, 1) := by decide +kernel
theorem dX6_keep_105 : decode cX6_keep 105 = .ok (.dup, 1) := by decide +kernel
theorem dX6_keep_106 : decode cX6_keep 106 = .ok (.getfield 102, 3) := by decide +kernel
theorem dX6_keep_109 : decode cX6_keep 109 = .ok (.iconst 1, 1) := by decide +kernel
theorem dX6_keep_110 : decode cX6_keep 110 = .ok (.iadd, 1) := by decide +kernel
theorem dX6_keep_111 : decode cX6_keep 111 = .ok (.putfield 102, 3) := by decide +kernel
theorem dX6_keep_114 : decode cX6_keep 114 = .ok (.return_, 1) := by decide +kernel
theorem dX6_map_0 : decode cX6_map 0 = .ok (.iload_n 1, 1) := by decide +kernel
theorem dX6_map_1 : decode cX6_map 1 = .ok (.ifCond .lt 8, 3) := by decide +kernel
theorem dX6_map_4 : decode cX6_map 4 = .ok (.iload_n 1, 1) := by decide +kernel
theorem dX6_map_5 : decode cX6_map 5 = .ok (.iconst 4, 1) := by decide +kernel
theorem dX6_map_6 : decode cX6_map 6 = .ok (.if_icmp .le 6, 3) := by decide +kernel
theorem dX6_map_9 : decode cX6_map 9 = .ok (.bipush (-2), 2) := by decide +kernel
theorem dX6_map_11 : decode cX6_map 11 = .ok (.ireturn, 1) := by decide +kernel
theorem dX6_map_12 : decode cX6_map 12 = .ok (.aload_n 0, 1) := by decide +kernel
theorem dX6_map_13 : decode cX6_map 13 = .ok (.getfield 48, 3) := by decide +kernel
theorem dX6_map_16 : decode cX6_map 16 = .ok (.ifCond .ne 6, 3) := by decide +kernel
theorem dX6_map_19 : decode cX6_map 19 = .ok (.bipush (-3), 2) := by decide +kernel
theorem dX6_map_21 : decode cX6_map 21 = .ok (.ireturn, 1) := by decide +kernel
theorem dX6_map_22 : decode cX6_map 22 = .ok (.aload_n 0, 1) := by decide +kernel
theorem dX6_map_23 : decode cX6_map 23 = .ok (.iload_n 1, 1) := by decide +kernel
theorem dX6_map_24 : decode cX6_map 24 = .ok (.invokevirtual 123, 3) := by decide +kernel
theorem dX6_map_27 : decode cX6_map 27 = .ok (.aload_n 0, 1) := by decide +kernel
theorem dX6_map_28 : decode cX6_map 28 = .ok (.iconst 0, 1) := by decide +kernel
theorem dX6_map_29 : decode cX6_map 29 = .ok (.putfield 82, 3) := by decide +kernel
theorem dX6_map_32 : decode cX6_map 32 = .ok (.aload_n 0, 1) := by decide +kernel
theorem dX6_map_33 : decode cX6_map 33 = .ok (.invokevirtual 126, 3) := by decide +kernel
theorem dX6_map_36 : decode cX6_map 36 = .ok (.iconst 0, 1) := by decide +kernel
theorem dX6_map_37 : decode cX6_map 37 = .ok (.istore_n 2, 1) := by decide +kernel
theorem dX6_map_38 : decode cX6_map 38 = .ok (.iload_n 2, 1) := by decide +kernel
theorem dX6_map_39 : decode cX6_map 39 = .ok (.aload_n 0, 1) := by decide +kernel
theorem dX6_map_40 : decode cX6_map 40 = .ok (.getfield 73, 3) := by decide +kernel
theorem dX6_map_43 : decode cX6_map 43 = .ok (.if_icmp .ge 14, 3) := by decide +kernel
theorem dX6_map_46 : decode cX6_map 46 = .ok (.aload_n 0, 1) := by decide +kernel
theorem dX6_map_47 : decode cX6_map 47 = .ok (.iload_n 2, 1) := by decide +kernel
theorem dX6_map_48 : decode cX6_map 48 = .ok (.invokevirtual 129, 3) := by decide +kernel
theorem dX6_map_51 : decode cX6_map 51 = .ok (.iinc 2 1, 3) := by decide +kernel
theorem dX6_map_54 : decode cX6_map 54 = .ok (.goto (-16), 3) := by decide +kernel
theorem dX6_map_57 : decode cX6_map 57 = .ok (.aload_n 0, 1) := by decide +kernel
theorem dX6_map_58 : decode cX6_map 58 = .ok (.getfield 73, 3) := by decide +kernel
theorem dX6_map_61 : decode cX6_map 61 = .ok (.ifCond .ne 7, 3) := by decide +kernel
theorem dX6_map_64 : decode cX6_map 64 = .ok (.aload_n 0, 1) := by decide +kernel
theorem dX6_map_65 : decode cX6_map 65 = .ok (.invokevirtual 132, 3) := by decide +kernel
theorem dX6_map_68 : decode cX6_map 68 = .ok (.aload_n 0, 1) := by decide +kernel
theorem dX6_map_69 : decode cX6_map 69 = .ok (.getfield 82, 3) := by decide +kernel
theorem dX6_map_72 : decode cX6_map 72 = .ok (.sipush 1500, 3) := by decide +kernel
theorem dX6_map_75 : decode cX6_map 75 = .ok (.if_icmp .le 6, 3) := by decide +kernel
theorem dX6_map_78 : decode cX6_map 78 = .ok (.bipush (-4), 2) := by decide +kernel
theorem dX6_map_80 : decode cX6_map 80 = .ok (.ireturn, 1) := by decide +kernel
theorem dX6_map_81 : decode cX6_map 81 = .ok (.aload_n 0, 1) := by decide +kernel
theorem dX6_map_82 : decode cX6_map 82 = .ok (.invokevirtual 135, 3) := by decide +kernel
theorem dX6_map_85 : decode cX6_map 85 = .ok (.aload_n 0, 1) := by decide +kernel
theorem dX6_map_86 : decode cX6_map 86 = .ok (.getfield 117, 3) := by decide +kernel
theorem dX6_map_89 : decode cX6_map 89 = .ok (.ireturn, 1) := by decide +kernel
theorem dX1_empty_0 : decode cX1_empty 0 = .ok (.aload_n 0, 1) := by decide +kernel
theorem dX1_empty_1 : decode cX1_empty 1 = .ok (.iconst 0, 1) := by decide +kernel
theorem dX1_empty_2 : decode cX1_empty 2 = .ok (.putfield 24, 3) := by decide +kernel
theorem dX1_empty_5 : decode cX1_empty 5 = .ok (.aload_n 0, 1) := by decide +kernel
theorem dX1_empty_6 : decode cX1_empty 6 = .ok (.iconst (-1), 1) := by decide +kernel
theorem dX1_empty_7 : decode cX1_empty 7 = .ok (.putfield 28, 3) := by decide +kernel
theorem dX1_empty_10 : decode cX1_empty 10 = .ok (.aload_n 0, 1) := by decide +kernel
theorem dX1_empty_11 : decode cX1_empty 11 = .ok (.iconst 0, 1) := by decide +kernel
theorem dX1_empty_12 : decode cX1_empty 12 = .ok (.putfield 31, 3) := by decide +kernel
theorem dX1_empty_15 : decode cX1_empty 15 = .ok (.return_, 1) := by decide +kernel
theorem dX1_append_0 : decode cX1_append 0 = .ok (.aload_n 0, 1) := by decide +kernel
theorem dX1_append_1 : decode cX1_append 1 = .ok (.getfield 24, 3) := by decide +kernel
theorem dX1_append_4 : decode cX1_append 4 = .ok (.sipush 192, 3) := by decide +kernel
theorem dX1_append_7 : decode cX1_append 7 = .ok (.if_icmp .lt 4, 3) := by decide +kernel
theorem dX1_append_10 : decode cX1_append 10 = .ok (.return_, 1) := by decide +kernel
theorem dX1_append_11 : decode cX1_append 11 = .ok (.aload_n 0, 1) := by decide +kernel
theorem dX1_append_12 : decode cX1_append 12 = .ok (.getfield 9, 3) := by decide +kernel
theorem dX1_append_15 : decode cX1_append 15 = .ok (.aload_n 0, 1) := by decide +kernel
theorem dX1_append_16 : decode cX1_append 16 = .ok (.getfield 24, 3) := by decide +kernel
theorem dX1_append_19 : decode cX1_append 19 = .ok (.iload_n 1, 1) := by decide +kernel
theorem dX1_append_20 : decode cX1_append 20 = .ok (.iastore, 1) := by decide +kernel
theorem dX1_append_21 : decode cX1_append 21 = .ok (.aload_n 0, 1) := by decide +kernel
theorem dX1_append_22 : decode cX1_append 22 = .ok (.getfield 15, 3) := by decide +kernel
theorem dX1_append_25 : decode cX1_append 25 = .ok (.aload_n 0, 1) := by decide +kernel
theorem dX1_append_26 : decode cX1_append 26 = .ok (.getfield 24, 3) := by decide +kernel
theorem dX1_append_29 : decode cX1_append 29 = .ok (.iload_n 2, 1) := by decide +kernel
theorem dX1_append_30 : decode cX1_append 30 = .ok (.iastore, 1) := by decide +kernel
theorem dX1_append_31 : decode cX1_append 31 = .ok (.aload_n 0, 1) := by decide +kernel
theorem dX1_append_32 : decode cX1_append 32 = .ok (.getfield 18, 3) := by decide +kernel
theorem dX1_append_35 : decode cX1_append 35 = .ok (.aload_n 0, 1) := by decide +kernel
theorem dX1_append_36 : decode cX1_append 36 = .ok (.getfield 24, 3) := by decide +kernel
theorem dX1_append_39 : decode cX1_append 39 = .ok (.iload_n 3, 1) := by decide +kernel
theorem dX1_append_40 : decode cX1_append 40 = .ok (.iastore, 1) := by decide +kernel
theorem dX1_append_41 : decode cX1_append 41 = .ok (.aload_n 0, 1) := by decide +kernel
theorem dX1_append_42 : decode cX1_append 42 = .ok (.getfield 24, 3) := by decide +kernel
theorem dX1_append_45 : decode cX1_append 45 = .ok (.ifCond .eq 16, 3) := by decide +kernel
theorem dX1_append_48 : decode cX1_append 48 = .ok (.iload_n 3, 1) := by decide +kernel
theorem dX1_append_49 : decode cX1_append 49 = .ok (.aload_n 0, 1) := by decide +kernel
theorem dX1_append_50 : decode cX1_append 50 = .ok (.getfield 18, 3) := by decide +kernel
theorem dX1_append_53 : decode cX1_append 53 = .ok (.aload_n 0, 1) := by decide +kernel
theorem dX1_append_54 : decode cX1_append 54 = .ok (.getfield 28, 3) := by decide +kernel
theorem dX1_append_57 : decode cX1_append 57 = .ok (.iaload, 1) := by decide +kernel
theorem dX1_append_58 : decode cX1_append 58 = .ok (.if_icmp .ge 19, 3) := by decide +kernel
theorem dX1_append_61 : decode cX1_append 61 = .ok (.aload_n 0, 1) := by decide +kernel
theorem dX1_append_62 : decode cX1_append 62 = .ok (.aload_n 0, 1) := by decide +kernel
theorem dX1_append_63 : decode cX1_append 63 = .ok (.getfield 24, 3) := by decide +kernel
theorem dX1_append_66 : decode cX1_append 66 = .ok (.putfield 28, 3) := by decide +kernel
theorem dX1_append_69 : decode cX1_append 69 = .ok (.aload_n 0, 1) := by decide +kernel
theorem dX1_append_70 : decode cX1_append 70 = .ok (.iconst 0, 1) := by decide +kernel
theorem dX1_append_71 : decode cX1_append 71 = .ok (.putfield 31, 3) := by decide +kernel
theorem dX1_append_74 : decode cX1_append 74 = .ok (.goto 26, 3) := by decide +kernel
theorem dX1_append_77 : decode cX1_append 77 = .ok (.iload_n 3, 1) := by decide +kernel
theorem dX1_append_78 : decode cX1_append 78 = .ok (.aload_n 0, 1) := by decide +kernel
theorem dX1_append_79 : decode cX1_append 79 = .ok (.getfield 18, 3) := by decide +kernel
theorem dX1_append_82 : decode cX1_append 82 = .ok (.aload_n 0, 1) := by decide +kernel
theorem dX1_append_83 : decode cX1_append 83 = .ok (.getfield 28, 3) := by decide +kernel
theorem dX1_append_86 : decode cX1_append 86 = .ok (.iaload, 1) := by decide +kernel
theorem dX1_append_87 : decode cX1_append 87 = .ok (.if_icmp .ne 13, 3) := by decide +kernel
theorem dX1_append_90 : decode cX1_append 90 = .ok (.aload_n 0, 1) := by decide +kernel
theorem dX1_append_91 : decode cX1_append 91 = .ok (.dup, 1) := by decide +kernel
theorem dX1_append_92 : decode cX1_append 92 = .ok (.getfield 31, 3) := by decide +kernel
theorem dX1_append_95 : decode cX1_append 95 = .ok (.iconst 1, 1) := by decide +kernel
theorem dX1_append_96 : decode cX1_append 96 = .ok (.iadd, 1) := by decide +kernel
theorem dX1_append_97 : decode cX1_append 97 = .ok (.putfield 31, 3) := by decide +kernel
theorem dX1_append_100 : decode cX1_append 100 = .ok (.aload_n 0, 1) := by decide +kernel
theorem dX1_append_101 : decode cX1_append 101 = .ok (.dup, 1) := by decide +kernel
theorem dX1_append_102 : decode cX1_append 102 = .ok (.getfield 24, 3) := by decide +kernel
theorem dX1_append_105 : decode cX1_append 105 = .ok (.iconst 1, 1) := by decide +kernel
theorem dX1_append_106 : decode cX1_append 106 = .ok (.iadd, 1) := by decide +kernel
theorem dX1_append_107 : decode cX1_append 107 = .ok (.putfield 24, 3) := by decide +kernel
theorem dX1_append_110 : decode cX1_append 110 = .ok (.return_, 1) := by decide +kernel
theorem dX1_flagOf_0 : decode cX1_flagOf 0 = .ok (.aload_n 0, 1) := by decide +kernel
theorem dX1_flagOf_1 : decode cX1_flagOf 1 = .ok (.getfield 15, 3) := by decide +kernel
theorem dX1_flagOf_4 : decode cX1_flagOf 4 = .ok (.iload_n 1, 1) := by decide +kernel
theorem dX1_flagOf_5 : decode cX1_flagOf 5 = .ok (.iaload, 1) := by decide +kernel
theorem dX1_flagOf_6 : decode cX1_flagOf 6 = .ok (.iconst 1, 1) := by decide +kernel
theorem dX1_flagOf_7 : decode cX1_flagOf 7 = .ok (.if_icmp .ne 8, 3) := by decide +kernel
theorem dX1_flagOf_10 : decode cX1_flagOf 10 = .ok (.bipush 16, 2) := by decide +kernel
theorem dX1_flagOf_12 : decode cX1_flagOf 12 = .ok (.goto 4, 3) := by decide +kernel
theorem dX1_flagOf_15 : decode cX1_flagOf 15 = .ok (.iconst 0, 1) := by decide +kernel
theorem dX1_flagOf_16 : decode cX1_flagOf 16 = .ok (.iload_n 1, 1) := by decide +kernel
theorem dX1_flagOf_17 : decode cX1_flagOf 17 = .ok (.aload_n 0, 1) := by decide +kernel
theorem dX1_flagOf_18 : decode cX1_flagOf 18 = .ok (.getfield 28, 3) := by decide +kernel
theorem dX1_flagOf_21 : decode cX1_flagOf 21 = .ok (.if_icmp .ne 7, 3) := by decide +kernel
theorem dX1_flagOf_24 : decode cX1_flagOf 24 = .ok (.iconst 0, 1) := by decide +kernel
theorem dX1_flagOf_25 : decode cX1_flagOf 25 = .ok (.goto 6, 3) := by decide +kernel
theorem dX1_flagOf_28 : decode cX1_flagOf 28 = .ok (.sipush 256, 3) := by decide +kernel
theorem dX1_flagOf_31 : decode cX1_flagOf 31 = .ok (.iadd, 1) := by decide +kernel
theorem dX1_flagOf_32 : decode cX1_flagOf 32 = .ok (.ireturn, 1) := by decide +kernel
end
section
theorem dX1_qualityOf_0 : decode cX1_qualityOf 0 = .ok (.iload_n 1, 1) := by decide +kernel
theorem dX1_qualityOf_1 : decode cX1_qualityOf 1 = .ok (.aload_n 0, 1) := by decide +kernel
theorem dX1_qualityOf_2 : decode cX1_qualityOf 2 = .ok (.getfield 28, 3) := by decide +kernel
theorem dX1_qualityOf_5 : decode cX1_qualityOf 5 = .ok (.if_icmp .eq 5, 3) := by decide +kernel
theorem dX1_qualityOf_8 : decode cX1_qualityOf 8 = .ok (.iconst 0, 1) := by decide +kernel
theorem dX1_qualityOf_9 : decode cX1_qualityOf 9 = .ok (.ireturn, 1) := by decide +kernel
theorem dX1_qualityOf_10 : decode cX1_qualityOf 10 = .ok (.aload_n 0, 1) := by decide +kernel
theorem dX1_qualityOf_11 : decode cX1_qualityOf 11 = .ok (.getfield 24, 3) := by decide +kernel
theorem dX1_qualityOf_14 : decode cX1_qualityOf 14 = .ok (.iconst 1, 1) := by decide +kernel
theorem dX1_qualityOf_15 : decode cX1_qualityOf 15 = .ok (.if_icmp .ne 6, 3) := by decide +kernel
theorem dX1_qualityOf_18 : decode cX1_qualityOf 18 = .ok (.bipush 60, 2) := by decide +kernel
theorem dX1_qualityOf_20 : decode cX1_qualityOf 20 = .ok (.ireturn, 1) := by decide +kernel
theorem dX1_qualityOf_21 : decode cX1_qualityOf 21 = .ok (.aload_n 0, 1) := by decide +kernel
theorem dX1_qualityOf_22 : decode cX1_qualityOf 22 = .ok (.getfield 31, 3) := by decide +kernel
theorem dX1_qualityOf_25 : decode cX1_qualityOf 25 = .ok (.ifCond .ne 6, 3) := by decide +kernel
theorem dX1_qualityOf_28 : decode cX1_qualityOf 28 = .ok (.bipush 40, 2) := by decide +kernel
theorem dX1_qualityOf_30 : decode cX1_qualityOf 30 = .ok (.ireturn, 1) := by decide +kernel
theorem dX1_qualityOf_31 : decode cX1_qualityOf 31 = .ok (.aload_n 0, 1) := by decide +kernel
theorem dX1_qualityOf_32 : decode cX1_qualityOf 32 = .ok (.getfield 31, 3) := by decide +kernel
theorem dX1_qualityOf_35 : decode cX1_qualityOf 35 = .ok (.iconst 1, 1) := by decide +kernel
theorem dX1_qualityOf_36 : decode cX1_qualityOf 36 = .ok (.if_icmp .ne 7, 3) := by decide +kernel
theorem dX1_qualityOf_39 : decode cX1_qualityOf 39 = .ok (.iconst 3, 1) := by decide +kernel
theorem dX1_qualityOf_40 : decode cX1_qualityOf 40 = .ok (.goto 4, 3) := by decide +kernel
theorem dX1_qualityOf_43 : decode cX1_qualityOf 43 = .ok (.iconst 0, 1) := by decide +kernel
theorem dX1_qualityOf_44 : decode cX1_qualityOf 44 = .ok (.ireturn, 1) := by decide +kernel
theorem dX3_tryStrand_0 : decode cX3_tryStrand 0 = .ok (.aload_n 1, 1) := by decide +kernel
theorem dX3_tryStrand_1 : decode cX3_tryStrand 1 = .ok (.iload_n 2, 1) := by decide +kernel
theorem dX3_tryStrand_2 : decode cX3_tryStrand 2 = .ok (.aload_n 3, 1) := by decide +kernel
theorem dX3_tryStrand_3 : decode cX3_tryStrand 3 = .ok (.iload 5, 2) := by decide +kernel
theorem dX3_tryStrand_5 : decode cX3_tryStrand 5 = .ok (.invokevirtual 40, 3) := by decide +kernel
theorem dX3_tryStrand_8 : decode cX3_tryStrand 8 = .ok (.istore 6, 2) := by decide +kernel
theorem dX3_tryStrand_10 : decode cX3_tryStrand 10 = .ok (.iload 6, 2) := by decide +kernel
theorem dX3_tryStrand_12 : decode cX3_tryStrand 12 = .ok (.iload 5, 2) := by decide +kernel
theorem dX3_tryStrand_14 : decode cX3_tryStrand 14 = .ok (.if_icmp .gt 15, 3) := by decide +kernel
theorem dX3_tryStrand_17 : decode cX3_tryStrand 17 = .ok (.aload_n 0, 1) := by decide +kernel
theorem dX3_tryStrand_18 : decode cX3_tryStrand 18 = .ok (.getfield 10, 3) := by decide +kernel
theorem dX3_tryStrand_21 : decode cX3_tryStrand 21 = .ok (.iload_n 2, 1) := by decide +kernel
theorem dX3_tryStrand_22 : decode cX3_tryStrand 22 = .ok (.iload 4, 2) := by decide +kernel
theorem dX3_tryStrand_24 : decode cX3_tryStrand 24 = .ok (.iload 6, 2) := by decide +kernel
theorem dX3_tryStrand_26 : decode cX3_tryStrand 26 = .ok (.invokevirtual 44, 3) := by decide +kernel
theorem dX3_tryStrand_29 : decode cX3_tryStrand 29 = .ok (.return_, 1) := by decide +kernel
theorem dX3_findHits_0 : decode cX3_findHits 0 = .ok (.aload_n 0, 1) := by decide +kernel
theorem dX3_findHits_1 : decode cX3_findHits 1 = .ok (.getfield 10, 3) := by decide +kernel
theorem dX3_findHits_4 : decode cX3_findHits 4 = .ok (.invokevirtual 23, 3) := by decide +kernel
theorem dX3_findHits_7 : decode cX3_findHits 7 = .ok (.iconst 0, 1) := by decide +kernel
theorem dX3_findHits_8 : decode cX3_findHits 8 = .ok (.istore 5, 2) := by decide +kernel
theorem dX3_findHits_10 : decode cX3_findHits 10 = .ok (.iload 5, 2) := by decide +kernel
theorem dX3_findHits_12 : decode cX3_findHits 12 = .ok (.aload_n 1, 1) := by decide +kernel
theorem dX3_findHits_13 : decode cX3_findHits 13 = .ok (.getfield 26, 3) := by decide +kernel
theorem dX3_findHits_16 : decode cX3_findHits 16 = .ok (.if_icmp .ge 41, 3) := by decide +kernel
theorem dX3_findHits_19 : decode cX3_findHits 19 = .ok (.aload_n 1, 1) := by decide +kernel
theorem dX3_findHits_20 : decode cX3_findHits 20 = .ok (.iload 5, 2) := by decide +kernel
theorem dX3_findHits_22 : decode cX3_findHits 22 = .ok (.aload_n 2, 1) := by decide +kernel
theorem dX3_findHits_23 : decode cX3_findHits 23 = .ok (.invokevirtual 32, 3) := by decide +kernel
theorem dX3_findHits_26 : decode cX3_findHits 26 = .ok (.ifCond .eq 31, 3) := by decide +kernel
theorem dX3_findHits_29 : decode cX3_findHits 29 = .ok (.aload_n 0, 1) := by decide +kernel
theorem dX3_findHits_30 : decode cX3_findHits 30 = .ok (.aload_n 1, 1) := by decide +kernel
theorem dX3_findHits_31 : decode cX3_findHits 31 = .ok (.iload 5, 2) := by decide +kernel
theorem dX3_findHits_33 : decode cX3_findHits 33 = .ok (.aload_n 2, 1) := by decide +kernel
theorem dX3_findHits_34 : decode cX3_findHits 34 = .ok (.iconst 0, 1) := by decide +kernel
theorem dX3_findHits_35 : decode cX3_findHits 35 = .ok (.iload 4, 2) := by decide +kernel
theorem dX3_findHits_37 : decode cX3_findHits 37 = .ok (.invokevirtual 36, 3) := by decide +kernel
theorem dX3_findHits_40 : decode cX3_findHits 40 = .ok (.aload_n 0, 1) := by decide +kernel
theorem dX3_findHits_41 : decode cX3_findHits 41 = .ok (.aload_n 1, 1) := by decide +kernel
theorem dX3_findHits_42 : decode cX3_findHits 42 = .ok (.iload 5, 2) := by decide +kernel
theorem dX3_findHits_44 : decode cX3_findHits 44 = .ok (.aload_n 3, 1) := by decide +kernel
theorem dX3_findHits_45 : decode cX3_findHits 45 = .ok (.iconst 1, 1) := by decide +kernel
theorem dX3_findHits_46 : decode cX3_findHits 46 = .ok (.iload 4, 2) := by decide +kernel
theorem dX3_findHits_48 : decode cX3_findHits 48 = .ok (.invokevirtual 36, 3) := by decide +kernel
theorem dX3_findHits_51 : decode cX3_findHits 51 = .ok (.iinc 5 1, 3) := by decide +kernel
theorem dX3_findHits_54 : decode cX3_findHits 54 = .ok (.goto (-44), 3) := by decide +kernel
theorem dX3_findHits_57 : decode cX3_findHits 57 = .ok (.return_, 1) := by decide +kernel
end
section
/-! ENVIRONMENT: the links to fields of nest mates; the constants of the text -/
def zNF : List (String × Nat × String × String × String × String) := [("StrandMapper$SortedSuffixes", 26, "StrandMapper$Bases", "used", "I", "StrandMapper"), ("StrandMapper$SortedSuffixes", 43, "StrandMapper$Bases", "symbols", "[I", "StrandMapper"), ("StrandMapper", 63, "StrandMapper$Bases", "used", "I", "StrandMapper"), ("StrandMapper", 101, "StrandMapper$Mapping", "found", "LStrandMapper$HitList;", "StrandMapper"), ("StrandMapper", 105, "StrandMapper$HitList", "amount", "I", "StrandMapper"), ("StrandMapper", 92, "StrandMapper$Mapping", "text", "LStrandMapper$MapText;", "StrandMapper"), ("StrandMapper", 123, "StrandMapper$MapText", "written", "I", "StrandMapper"), ("StrandMapper", 126, "StrandMapper$MapText", "characters", "[C", "StrandMapper"), ("StrandMapper$Mapping", 26, "StrandMapper$Bases", "used", "I", "StrandMapper")]
def zEn : (Nat → Prop) → State → Heap → Prop := fun _ U _ => (∀ q ∈ zNF, va_Nw (.fieldLinkNest q.1 q.2.1 q.2.2.1 q.2.2.2.1 q.2.2.2.2.1 q.2.2.2.2.2) U) ∧ True
theorem zEn_ok : zEok zEn := ⟨fun _ _ _ _ _ h => h, fun _ _ _ _ hW h => ⟨fun q hq => va_Nw.warmF hW (h.1 q hq), trivial⟩, fun _ _ _ _ e h => ⟨fun q hq => va_Nw.same rfl e.symm (h.1 q hq), trivial⟩, fun _ _ _ _ _ h => h⟩
end
section
set_option maxHeartbeats 4000000 in
set_option maxRecDepth 100000 in
theorem k_isFull (l : Launch) (D : va_G) (cI cC : ClassId)  (h a u L : Nat) (f : Nat → Nat) (hu : u ≤ 97) (hL : L ≤ 97) (sz : Nat) : Met l yX0_isFull wsX0_isFull ({ frames := 0, cells := 0, slots := 0, locals := 0 } : Room) (zPre zE0 D vwCl [(cI, .int), (cC, .char)] [.ref h] [(h, .inr (0, [.ref a, .int (nI u)])), (a, .inl (cI, L, .inl (fun jj => nI (f jj))))] sz) (va_Qi (fun (rv : Int32) (uu : Unit) => rv = zb (L ≤ u) ∧ True) (fun (uu : Unit) t9 => va_P D vwCl ([(h, .inr (0, [.ref a, .int (nI u)])), (a, .inl (cI, L, .inl (fun jj => nI (f jj))))]) t9.heap) (va_A [(h, .inr (0, [.ref a, .int (nI u)])), (a, .inl (cI, L, .inl (fun jj => nI (f jj))))] sz)) 0 0 (va_A [(h, .inr (0, [.ref a, .int (nI u)])), (a, .inl (cI, L, .inl (fun jj => nI (f jj))))] sz) := by
  refine zMet (cc := cX0_isFull) (maxL := 1) (ret := (some .boolean)) (Qc := fun A => (va_Qi (fun (rv : Int32) (uu : Unit) => rv = zb (L ≤ u) ∧ True) (fun (uu : Unit) t9 => va_P D vwCl ([(h, .inr (0, [.ref a, .int (nI u)])), (a, .inl (cI, L, .inl (fun jj => nI (f jj))))]) t9.heap) A)) (by decide) rfl (Nat.le_of_ble_eq_true rfl) ?_
  intro pr en s0 mi bl me co A hC hA hK hE H locs hP hD hS ls hl
  obtain ⟨hx, hb, hr, hml, hown, hts, hlocks, hin⟩ := id hC
  have hl : lv_has ls 1 [(0, .ref h)] := hl
  refine lv_aload_n hx hb dX0_isFull_0 rfl (lv_at hl 0 rfl) ?_
  refine va_get (D := D) (ci := 0) (v := .int (nI u)) (C := RX0) (T := TX0) (N := 2) hx hb hts (fun w h => List.mem_cons_of_mem _ (inUX0 w h)) hown hK hP 0 rfl rfl 1 (by decide) (hts _ (List.mem_cons_of_mem _ mw_54)) (fun _ h9 => h9) rfl dX0_isFull_1 ?_
  refine lv_aload_n hx hb dX0_isFull_4 rfl (lv_at hl 0 rfl) ?_
  refine va_get (D := D) (ci := 0) (v := .ref a) (C := RX0) (T := TX0) (N := 2) hx hb hts (fun w h => List.mem_cons_of_mem _ (inUX0 w h)) hown hK hP 0 rfl rfl 0 (by decide) (hts _ (List.mem_cons_of_mem _ mw_51)) (fun _ h9 => h9) rfl dX0_isFull_5 ?_
  refine va_alen (v := nI L) hx hb hK hP 1 0 rfl rfl rfl dX0_isFull_8 ?_
  refine zz_lt (tgt := 16) hx hb dX0_isFull_9 (by decide) (by omega) (by omega) (fun c9 => ?_) (fun c9 => ?_)
  · skip
    refine lv_iconst (v := nI 0) hx hb dX0_isFull_16 (by decide) ?_
    exact zIret hC hS () ⟨(zb_f (by omega)).symm, trivial⟩ hP (by decide) dX0_isFull_17
  · skip
    refine lv_iconst (v := nI 1) hx hb dX0_isFull_12 (by decide) ?_
    refine lv_goto (tgt := 17) hx hb dX0_isFull_13 (by decide) ?_
    exact zIret hC hS () ⟨(zb_t (by omega)).symm, trivial⟩ hP (by decide) dX0_isFull_17
set_option maxHeartbeats 4000000 in
set_option maxRecDepth 100000 in
theorem k_append (l : Launch) (D : va_G) (cI cC : ClassId)  (h a u L x : Nat) (f : Nat → Nat) (hu : u < L) (hL : L ≤ 97) (sz : Nat) : Met l yX0_append wsX0_append ({ frames := 1, cells := 0, slots := 0, locals := 20 } : Room) (zPre zE0 D vwCl [(cI, .int), (cC, .char)] [.ref h, .int (nI x)] [(h, .inr (0, [.ref a, .int (nI u)])), (a, .inl (cI, L, .inl (fun jj => nI (f jj))))] sz) (va_Qv (fun (uu : Unit) => True) (fun (uu : Unit) t9 => va_P D vwCl ([(h, .inr (0, [.ref a, .int (nI (u + 1))])), (a, .inl (cI, L, .inl (fun jj => nI (zup f u x jj))))]) t9.heap) (va_A [(h, .inr (0, [.ref a, .int (nI u)])), (a, .inl (cI, L, .inl (fun jj => nI (f jj))))] sz)) 0 0 (va_A [(h, .inr (0, [.ref a, .int (nI u)])), (a, .inl (cI, L, .inl (fun jj => nI (f jj))))] sz) := by
  refine zMet (cc := cX0_append) (maxL := 2) (ret := none) (Qc := fun A => (va_Qv (fun (uu : Unit) => True) (fun (uu : Unit) t9 => va_P D vwCl ([(h, .inr (0, [.ref a, .int (nI (u + 1))])), (a, .inl (cI, L, .inl (fun jj => nI (zup f u x jj))))]) t9.heap) A)) (by decide) rfl (Nat.le_of_ble_eq_true rfl) ?_
  intro pr en s0 mi bl me co A hC hA hK hE H locs hP hD hS ls hl
  obtain ⟨hx, hb, hr, hml, hown, hts, hlocks, hin⟩ := id hC
  have hl : lv_has ls 2 [(0, .ref h), (1, .int (nI x))] := hl
  refine lv_aload_n hx hb dX0_append_0 rfl (lv_at hl 0 rfl) ?_
  refine zCi (is := [0, 1]) (wf := (fun (uu : Unit) => ([(h, .inr (0, [.ref a, .int (nI u)])), (a, .inl (cI, L, .inl (fun jj => nI (f jj))))] : va_W))) (va_runV (As := []) (rest := []) ⟨hx, hb, hml, hown, hts⟩ (k_isFull l D cI cC  h a u L f (by omega) (by omega) H.size) (cwV 0 hts (zgood mw_188 mw_181 mw_182 mw_27 mw_183) rfl rfl rfl (by decide +kernel) ⟨Nat.le_of_ble_eq_true rfl, Nat.le_of_ble_eq_true rfl⟩) ⟨zBlind zE0_ok, va_recv hK hP (ci := 0) (q0 := 0) rfl rfl, zAt (av := [.ref h]) zE0_ok hP hD hK hS hA trivial [0, 1] rfl (by decide)⟩ rfl rfl hl.1 rfl (lv_room (Nat.le_of_ble_eq_true rfl)) dX0_append_1 ⟨Nat.zero_le _, Nat.zero_le _⟩) hP hD hS hA rfl (fun _ => rfl) (fun r1 u1 H locs w1 hP hD hS => ?_)
  obtain ⟨rfl, w1⟩ := w1
  have hP : va_P D vwCl [(h, .inr (0, [.ref a, .int (nI u)])), (a, .inl (cI, L, .inl (fun jj => nI (f jj))))] H := hP
  have hD : va_D A [(h, .inr (0, [.ref a, .int (nI u)])), (a, .inl (cI, L, .inl (fun jj => nI (f jj))))] := hD
  refine zz_neb (tgt := 27) hx hb dX0_append_4 (by decide) (fun c4 => ?_) (fun c4 => ?_)
  · skip
    exact absurd c4 (by omega)
  · skip
    refine lv_aload_n hx hb dX0_append_7 rfl (lv_at hl 0 rfl) ?_
    refine va_get (D := D) (ci := 0) (v := .ref a) (C := RX0) (T := TX0) (N := 2) hx hb hts (fun w h => List.mem_cons_of_mem _ (inUX0 w h)) hown hK hP 0 rfl rfl 0 (by decide) (hts _ (List.mem_cons_of_mem _ mw_51)) (fun _ h9 => h9) rfl dX0_append_8 ?_
    refine lv_aload_n hx hb dX0_append_11 rfl (lv_at hl 0 rfl) ?_
    refine va_get (D := D) (ci := 0) (v := .int (nI u)) (C := RX0) (T := TX0) (N := 2) hx hb hts (fun w h => List.mem_cons_of_mem _ (inUX0 w h)) hown hK hP 0 rfl rfl 1 (by decide) (hts _ (List.mem_cons_of_mem _ mw_54)) (fun _ h9 => h9) rfl dX0_append_12 ?_
    refine lv_iload_n hx hb dX0_append_15 rfl (lv_at hl 1 rfl) ?_
    refine zz_iast (k := u) (x := x) (f := f) hx hb hK hP hD hS 1 0 rfl rfl (by omega) (by omega) dX0_append_16 (fun H locs hP hD hS => ?_)
    have hP : va_P D vwCl [(h, .inr (0, [.ref a, .int (nI u)])), (a, .inl (cI, L, .inl (fun jj => nI (zup f u x jj))))] H := hP
    have hD : va_D A [(h, .inr (0, [.ref a, .int (nI u)])), (a, .inl (cI, L, .inl (fun jj => nI (zup f u x jj))))] := hD
    refine lv_aload_n hx hb dX0_append_17 rfl (lv_at hl 0 rfl) ?_
    refine lv_dup hx hb dX0_append_18 rfl ?_
    refine va_get (D := D) (ci := 0) (v := .int (nI u)) (C := RX0) (T := TX0) (N := 2) hx hb hts (fun w h => List.mem_cons_of_mem _ (inUX0 w h)) hown hK hP 0 rfl rfl 1 (by decide) (hts _ (List.mem_cons_of_mem _ mw_54)) (fun _ h9 => h9) rfl dX0_append_19 ?_
    refine lv_iconst (v := nI 1) hx hb dX0_append_22 (by decide) ?_
    refine lv_iadd hx hb dX0_append_23 ?_
    refine zz_top (y := nI (u + 1)) (zadd (by omega)) ?_
    refine va_put (D := D) (ci := 0) (v := .int (nI (u + 1))) (ty := .int) (C := RX0) (T := TX0) (N := 2) hx hb hts (fun w h => List.mem_cons_of_mem _ (inUX0 w h)) tyX0 tyX0_ok nmX0 hown hK hP hD hS 0 rfl rfl 1 (by decide) (hts _ (List.mem_cons_of_mem _ mw_54)) (fun _ h9 => h9) rfl (by decide +kernel) rfl rfl (Nat.le_of_ble_eq_true rfl) dX0_append_24 (fun H locs hP hD hS => ?_)
    have hP : va_P D vwCl [(h, .inr (0, [.ref a, .int (nI (u + 1))])), (a, .inl (cI, L, .inl (fun jj => nI (zup f u x jj))))] H := hP
    have hD : va_D A [(h, .inr (0, [.ref a, .int (nI (u + 1))])), (a, .inl (cI, L, .inl (fun jj => nI (zup f u x jj))))] := hD
    exact zVret hC hS () trivial hP dX0_append_27
set_option maxHeartbeats 4000000 in
set_option maxRecDepth 100000 in
theorem k_empty (l : Launch) (D : va_G) (cI cC : ClassId)  (h a u : Nat)  (sz : Nat) : Met l yX0_empty wsX0_empty ({ frames := 0, cells := 0, slots := 0, locals := 0 } : Room) (zPre zE0 D vwCl [(cI, .int), (cC, .char)] [.ref h] [(h, .inr (0, [.ref a, .int (nI u)]))] sz) (va_Qv (fun (uu : Unit) => True) (fun (uu : Unit) t9 => va_P D vwCl ([(h, .inr (0, [.ref a, .int (nI 0)]))]) t9.heap) (va_A [(h, .inr (0, [.ref a, .int (nI u)]))] sz)) 0 0 (va_A [(h, .inr (0, [.ref a, .int (nI u)]))] sz) := by
  refine zMet (cc := cX0_empty) (maxL := 1) (ret := none) (Qc := fun A => (va_Qv (fun (uu : Unit) => True) (fun (uu : Unit) t9 => va_P D vwCl ([(h, .inr (0, [.ref a, .int (nI 0)]))]) t9.heap) A)) (by decide) rfl (Nat.le_of_ble_eq_true rfl) ?_
  intro pr en s0 mi bl me co A hC hA hK hE H locs hP hD hS ls hl
  obtain ⟨hx, hb, hr, hml, hown, hts, hlocks, hin⟩ := id hC
  have hl : lv_has ls 1 [(0, .ref h)] := hl
  refine lv_aload_n hx hb dX0_empty_0 rfl (lv_at hl 0 rfl) ?_
  refine lv_iconst (v := nI 0) hx hb dX0_empty_1 (by decide) ?_
  refine va_put (D := D) (ci := 0) (v := .int (nI 0)) (ty := .int) (C := RX0) (T := TX0) (N := 2) hx hb hts (fun w h => List.mem_cons_of_mem _ (inUX0 w h)) tyX0 tyX0_ok nmX0 hown hK hP hD hS 0 rfl rfl 1 (by decide) (hts _ (List.mem_cons_of_mem _ mw_54)) (fun _ h9 => h9) rfl (by decide +kernel) rfl rfl (Nat.le_of_ble_eq_true rfl) dX0_empty_2 (fun H locs hP hD hS => ?_)
  have hP : va_P D vwCl [(h, .inr (0, [.ref a, .int (nI 0)]))] H := hP
  have hD : va_D A [(h, .inr (0, [.ref a, .int (nI 0)]))] := hD
  exact zVret hC hS () trivial hP dX0_empty_5
set_option maxHeartbeats 4000000 in
set_option maxRecDepth 100000 in
theorem k_becomeTurned_L11 {pr : Program} {en : Env} {s0 : State} {mi : MethodId} {bl : List Frame} {me : Method} {co : Code} {A : Nat → Prop} (l : Launch) (D : va_G) (cI cC : ClassId)  (h a ut o b w : Nat) (f0 r : Nat → Nat) (hw : w ≤ 24) (hr3 : ∀ i, i < w → r i ≤ 3) (hC : zK pr s0 mi ([.ref h, .ref o] : List Value).toArray me co cX0_becomeTurned 3 none yX0_becomeTurned wsX0_becomeTurned) (hA : ∀ q, s0.heap.size ≤ q → A q) (hK : va_K D vwCl [(cI, .int), (cC, .char)] s0) (hE : zE0 A s0 s0.heap) :
    ∀ (N : Nat) (j : Nat) (f : Nat → Nat), j < N → (j ≤ w) → (∀ i, i < w - j → f i = 3 - r (w - 1 - i)) → ∀ (H : Heap) (locs : List Loc), va_P D vwCl [(h, .inr (0, [.ref a, .int (nI (w - j))])), (a, .inl (cI, 24, .inl (fun jj => nI (f jj)))), (o, .inr (0, [.ref b, .int (nI w)])), (b, .inl (cI, 24, .inl (fun jj => nI (r jj))))] H → va_D A [(h, .inr (0, [.ref a, .int (nI (w - j))])), (a, .inl (cI, 24, .inl (fun jj => nI (f jj)))), (o, .inr (0, [.ref b, .int (nI w)])), (b, .inl (cI, 24, .inl (fun jj => nI (r jj))))] → va_S A s0.heap H locs → ∀ ls : Array Slot, lv_has ls 3 [(0, .ref h), (1, .ref o), (2, .int (zi j))] → W pr l en ({ frames := 2, cells := 0, slots := 0, locals := 41 } : Room) s0 mi ([.ref h, .ref o] : List Value).toArray bl me co H locs 0 0 (MQ bl (va_Qv (fun (uu : Nat → Nat) => ∀ i, i < w → uu i = 3 - r (w - 1 - i)) (fun (uu : Nat → Nat) t9 => va_P D vwCl ([(h, .inr (0, [.ref a, .int (nI w)])), (a, .inl (cI, 24, .inl (fun jj => nI (uu jj)))), (o, .inr (0, [.ref b, .int (nI w)])), (b, .inl (cI, 24, .inl (fun jj => nI (r jj))))]) t9.heap) A) ([.ref h, .ref o] : List Value).toArray s0 0 0 A) (F0 mi 11 ls []) := by
  obtain ⟨hx, hb, hr, hml, hown, hts, hlocks, hin⟩ := id hC
  intro N
  induction N with
  | zero =>
    intro j f hmea
    omega
  | succ N ih =>
    intro j f hmea hj hf H locs hP hD hS ls hl
    cases j with
    | zero =>
      have hl : lv_has ls 3 [(0, .ref h), (1, .ref o), (2, .int ((-1)))] := hl
      have hP : va_P D vwCl [(h, .inr (0, [.ref a, .int (nI (w - 0))])), (a, .inl (cI, 24, .inl (fun jj => nI (f jj)))), (o, .inr (0, [.ref b, .int (nI w)])), (b, .inl (cI, 24, .inl (fun jj => nI (r jj))))] H := hP
      have hD : va_D A [(h, .inr (0, [.ref a, .int (nI (w - 0))])), (a, .inl (cI, 24, .inl (fun jj => nI (f jj)))), (o, .inr (0, [.ref b, .int (nI w)])), (b, .inl (cI, 24, .inl (fun jj => nI (r jj))))] := hD
      refine lv_iload_n hx hb dX0_becomeTurned_11 rfl (lv_at hl 2 rfl) ?_
      refine lv_if_lt (tgt := 33) hx hb dX0_becomeTurned_12 (by decide) (fun c12 => ?_) (fun c12 => ?_)
      · skip
        have hP : va_P D vwCl [(h, .inr (0, [.ref a, .int (nI w)])), (a, .inl (cI, 24, .inl (fun jj => nI (f jj)))), (o, .inr (0, [.ref b, .int (nI w)])), (b, .inl (cI, 24, .inl (fun jj => nI (r jj))))] H := by skip; exact hP
        have hD : va_D A [(h, .inr (0, [.ref a, .int (nI w)])), (a, .inl (cI, 24, .inl (fun jj => nI (f jj)))), (o, .inr (0, [.ref b, .int (nI w)])), (b, .inl (cI, 24, .inl (fun jj => nI (r jj))))] := by skip; exact hD
        exact zVret hC hS f (fun i hi => hf i (by omega)) hP dX0_becomeTurned_33
      · skip
        exact absurd (by decide) c12
    | succ j =>
      have hl : lv_has ls 3 [(0, .ref h), (1, .ref o), (2, .int (nI j))] := hl
      have hP : va_P D vwCl [(h, .inr (0, [.ref a, .int (nI (w - (j + 1)))])), (a, .inl (cI, 24, .inl (fun jj => nI (f jj)))), (o, .inr (0, [.ref b, .int (nI w)])), (b, .inl (cI, 24, .inl (fun jj => nI (r jj))))] H := hP
      have hD : va_D A [(h, .inr (0, [.ref a, .int (nI (w - (j + 1)))])), (a, .inl (cI, 24, .inl (fun jj => nI (f jj)))), (o, .inr (0, [.ref b, .int (nI w)])), (b, .inl (cI, 24, .inl (fun jj => nI (r jj))))] := hD
      refine lv_iload_n hx hb dX0_becomeTurned_11 rfl (lv_at hl 2 rfl) ?_
      refine zz_lt0 (tgt := 33) hx hb dX0_becomeTurned_12 (by decide) (by omega) ?_
      refine lv_aload_n hx hb dX0_becomeTurned_15 rfl (lv_at hl 0 rfl) ?_
      refine lv_iconst (v := nI 3) hx hb dX0_becomeTurned_16 (by decide) ?_
      refine lv_aload_n hx hb dX0_becomeTurned_17 rfl (lv_at hl 1 rfl) ?_
      refine va_get (D := D) (ci := 0) (v := .ref b) (C := RX0) (T := TX0) (N := 2) hx hb hts (fun w h => List.mem_cons_of_mem _ (inUX0 w h)) hown hK hP 2 rfl rfl 0 (by decide) (hts _ (List.mem_cons_of_mem _ mw_51)) (fun _ h9 => h9) rfl dX0_becomeTurned_18 ?_
      refine lv_iload_n hx hb dX0_becomeTurned_21 rfl (lv_at hl 2 rfl) ?_
      refine zz_iald (k := j) (f := r) hx hb hK hP 3 0 rfl rfl (by omega) (by omega) dX0_becomeTurned_22 ?_
      refine lv_isub hx hb dX0_becomeTurned_23 ?_
      refine zz_top (y := nI (3 - (r j))) (pk_sub (hr3 j (by omega))) ?_
      refine zCv (is := [0, 1]) (wf := (fun (uu : Unit) => ([(h, .inr (0, [.ref a, .int (nI ((w - (j + 1)) + 1))])), (a, .inl (cI, 24, .inl (fun jj => nI (zup f (w - (j + 1)) (3 - r j) jj))))] : va_W))) (va_runV (As := [.int (nI (3 - (r j)))]) (rest := []) ⟨hx, hb, hml, hown, hts⟩ (k_append l D cI cC  h a (w - (j + 1)) 24 (3 - r j) f (by omega) (by omega) H.size) (cwV 1 hts (zgood mw_218 mw_185 mw_186 mw_27 mw_187) rfl rfl rfl (by decide +kernel) ⟨Nat.le_of_ble_eq_true rfl, Nat.le_of_ble_eq_true rfl⟩) ⟨zBlind zE0_ok, va_recv hK hP (ci := 0) (q0 := 0) rfl rfl, zAt (av := [.ref h, .int (nI (3 - (r j)))]) zE0_ok hP hD hK hS hA trivial [0, 1] rfl (by decide)⟩ rfl rfl hl.1 rfl (lv_room (Nat.le_of_ble_eq_true rfl)) dX0_becomeTurned_24 ⟨Nat.zero_le _, Nat.zero_le _⟩) hP hD hS hA rfl (fun _ => rfl) (fun u24 H locs w24 hP hD hS => ?_)
      have hP : va_P D vwCl [(h, .inr (0, [.ref a, .int (nI ((w - (j + 1)) + 1))])), (a, .inl (cI, 24, .inl (fun jj => nI (zup f (w - (j + 1)) (3 - r j) jj)))), (o, .inr (0, [.ref b, .int (nI w)])), (b, .inl (cI, 24, .inl (fun jj => nI (r jj))))] H := hP
      have hD : va_D A [(h, .inr (0, [.ref a, .int (nI ((w - (j + 1)) + 1))])), (a, .inl (cI, 24, .inl (fun jj => nI (zup f (w - (j + 1)) (3 - r j) jj)))), (o, .inr (0, [.ref b, .int (nI w)])), (b, .inl (cI, 24, .inl (fun jj => nI (r jj))))] := hD
      refine lv_iinc (v := zi j) (lv' := [(2, .int (zi j)), (0, .ref h), (1, .ref o)]) hx hb dX0_becomeTurned_27 hl (k := 2) rfl (zi_dec j) (by decide) rfl (fun ls hl => ?_)
      refine lv_goto (tgt := 11) hx hb dX0_becomeTurned_30 (by decide) ?_
      have hP : va_P D vwCl [(h, .inr (0, [.ref a, .int (nI (w - j))])), (a, .inl (cI, 24, .inl (fun jj => nI (zup f (w - (j + 1)) (3 - r j) jj)))), (o, .inr (0, [.ref b, .int (nI w)])), (b, .inl (cI, 24, .inl (fun jj => nI (r jj))))] H := by rw [show w - j = w - (j + 1) + 1 by omega]; exact hP
      have hD : va_D A [(h, .inr (0, [.ref a, .int (nI (w - j))])), (a, .inl (cI, 24, .inl (fun jj => nI (zup f (w - (j + 1)) (3 - r j) jj)))), (o, .inr (0, [.ref b, .int (nI w)])), (b, .inl (cI, 24, .inl (fun jj => nI (r jj))))] := by rw [show w - j = w - (j + 1) + 1 by omega]; exact hD
      exact ih j (zup f (w - (j + 1)) (3 - r j)) (by omega) (by omega) (fun i hi => by
        by_cases q : i = w - (j + 1)
        · rw [q, zup_s, show w - 1 - (w - (j + 1)) = j by omega]
        · rw [zup_n q]; exact hf i (by omega)) _ _ hP hD hS ls (lv_sub hl [1, 2, 0] rfl)
set_option maxHeartbeats 4000000 in
set_option maxRecDepth 100000 in
theorem k_becomeTurned (l : Launch) (D : va_G) (cI cC : ClassId)  (h a ut o b w : Nat) (f0 r : Nat → Nat) (hw : w ≤ 24) (hr3 : ∀ i, i < w → r i ≤ 3) (sz : Nat) : Met l yX0_becomeTurned wsX0_becomeTurned ({ frames := 2, cells := 0, slots := 0, locals := 41 } : Room) (zPre zE0 D vwCl [(cI, .int), (cC, .char)] [.ref h, .ref o] [(h, .inr (0, [.ref a, .int (nI ut)])), (a, .inl (cI, 24, .inl (fun jj => nI (f0 jj)))), (o, .inr (0, [.ref b, .int (nI w)])), (b, .inl (cI, 24, .inl (fun jj => nI (r jj))))] sz) (va_Qv (fun (uu : Nat → Nat) => ∀ i, i < w → uu i = 3 - r (w - 1 - i)) (fun (uu : Nat → Nat) t9 => va_P D vwCl ([(h, .inr (0, [.ref a, .int (nI w)])), (a, .inl (cI, 24, .inl (fun jj => nI (uu jj)))), (o, .inr (0, [.ref b, .int (nI w)])), (b, .inl (cI, 24, .inl (fun jj => nI (r jj))))]) t9.heap) (va_A [(h, .inr (0, [.ref a, .int (nI ut)])), (a, .inl (cI, 24, .inl (fun jj => nI (f0 jj)))), (o, .inr (0, [.ref b, .int (nI w)])), (b, .inl (cI, 24, .inl (fun jj => nI (r jj))))] sz)) 0 0 (va_A [(h, .inr (0, [.ref a, .int (nI ut)])), (a, .inl (cI, 24, .inl (fun jj => nI (f0 jj)))), (o, .inr (0, [.ref b, .int (nI w)])), (b, .inl (cI, 24, .inl (fun jj => nI (r jj))))] sz) := by
  refine zMet (cc := cX0_becomeTurned) (maxL := 3) (ret := none) (Qc := fun A => (va_Qv (fun (uu : Nat → Nat) => ∀ i, i < w → uu i = 3 - r (w - 1 - i)) (fun (uu : Nat → Nat) t9 => va_P D vwCl ([(h, .inr (0, [.ref a, .int (nI w)])), (a, .inl (cI, 24, .inl (fun jj => nI (uu jj)))), (o, .inr (0, [.ref b, .int (nI w)])), (b, .inl (cI, 24, .inl (fun jj => nI (r jj))))]) t9.heap) A)) (by decide) rfl (Nat.le_of_ble_eq_true rfl) ?_
  intro pr en s0 mi bl me co A hC hA hK hE H locs hP hD hS ls hl
  obtain ⟨hx, hb, hr, hml, hown, hts, hlocks, hin⟩ := id hC
  have hl : lv_has ls 3 [(0, .ref h), (1, .ref o)] := hl
  refine lv_aload_n hx hb dX0_becomeTurned_0 rfl (lv_at hl 0 rfl) ?_
  refine zCv (is := [0]) (wf := (fun (uu : Unit) => ([(h, .inr (0, [.ref a, .int (nI 0)]))] : va_W))) (va_runV (As := []) (rest := []) ⟨hx, hb, hml, hown, hts⟩ (k_empty l D cI cC  h a ut  H.size) (cwV 0 hts (zgood mw_217 mw_198 mw_199 mw_27 mw_200) rfl rfl rfl (by decide +kernel) ⟨Nat.le_of_ble_eq_true rfl, Nat.le_of_ble_eq_true rfl⟩) ⟨zBlind zE0_ok, va_recv hK hP (ci := 0) (q0 := 0) rfl rfl, zAt (av := [.ref h]) zE0_ok hP hD hK hS hA trivial [0] rfl (by decide)⟩ rfl rfl hl.1 rfl (lv_room (Nat.le_of_ble_eq_true rfl)) dX0_becomeTurned_1 ⟨Nat.zero_le _, Nat.zero_le _⟩) hP hD hS hA rfl (fun _ => rfl) (fun u1 H locs w1 hP hD hS => ?_)
  have hP : va_P D vwCl [(h, .inr (0, [.ref a, .int (nI 0)])), (a, .inl (cI, 24, .inl (fun jj => nI (f0 jj)))), (o, .inr (0, [.ref b, .int (nI w)])), (b, .inl (cI, 24, .inl (fun jj => nI (r jj))))] H := hP
  have hD : va_D A [(h, .inr (0, [.ref a, .int (nI 0)])), (a, .inl (cI, 24, .inl (fun jj => nI (f0 jj)))), (o, .inr (0, [.ref b, .int (nI w)])), (b, .inl (cI, 24, .inl (fun jj => nI (r jj))))] := hD
  refine lv_aload_n hx hb dX0_becomeTurned_4 rfl (lv_at hl 1 rfl) ?_
  refine va_get (D := D) (ci := 0) (v := .int (nI w)) (C := RX0) (T := TX0) (N := 2) hx hb hts (fun w h => List.mem_cons_of_mem _ (inUX0 w h)) hown hK hP 2 rfl rfl 1 (by decide) (hts _ (List.mem_cons_of_mem _ mw_54)) (fun _ h9 => h9) rfl dX0_becomeTurned_5 ?_
  refine lv_iconst (v := nI 1) hx hb dX0_becomeTurned_8 (by decide) ?_
  refine lv_isub hx hb dX0_becomeTurned_9 ?_
  refine zz_top (y := zi w) (zi_sub w) ?_
  refine lv_istore_n (lv' := [(2, .int (zi w)), (0, .ref h), (1, .ref o)]) hx hb dX0_becomeTurned_10 rfl hl (by decide) rfl (fun ls hl => ?_)
  have hP : va_P D vwCl [(h, .inr (0, [.ref a, .int (nI (w - w))])), (a, .inl (cI, 24, .inl (fun jj => nI (f0 jj)))), (o, .inr (0, [.ref b, .int (nI w)])), (b, .inl (cI, 24, .inl (fun jj => nI (r jj))))] H := by rw [Nat.sub_self]; exact hP
  have hD : va_D A [(h, .inr (0, [.ref a, .int (nI (w - w))])), (a, .inl (cI, 24, .inl (fun jj => nI (f0 jj)))), (o, .inr (0, [.ref b, .int (nI w)])), (b, .inl (cI, 24, .inl (fun jj => nI (r jj))))] := by rw [Nat.sub_self]; exact hD
  exact k_becomeTurned_L11 l D cI cC  h a ut o b w f0 r hw hr3 hC hA hK hE _ w f0 (Nat.lt_succ_self _) (Nat.le_refl _) (fun i hi => absurd hi (by omega)) _ _ hP hD hS ls (lv_sub hl [1, 2, 0] rfl)
set_option maxHeartbeats 4000000 in
set_option maxRecDepth 100000 in
theorem k_hasRoomAt (l : Launch) (D : va_G) (cI cC : ClassId)  (h a n o b w p : Nat) (hn : n ≤ 96) (hw : w ≤ 24) (hp : p ≤ 200) (sz : Nat) : Met l yX0_hasRoomAt wsX0_hasRoomAt ({ frames := 0, cells := 0, slots := 0, locals := 0 } : Room) (zPre zE0 D vwCl [(cI, .int), (cC, .char)] [.ref h, .int (nI p), .ref o] [(h, .inr (0, [.ref a, .int (nI n)])), (o, .inr (0, [.ref b, .int (nI w)]))] sz) (va_Qi (fun (rv : Int32) (uu : Unit) => rv = zb (p + w ≤ n) ∧ True) (fun (uu : Unit) t9 => va_P D vwCl ([(h, .inr (0, [.ref a, .int (nI n)])), (o, .inr (0, [.ref b, .int (nI w)]))]) t9.heap) (va_A [(h, .inr (0, [.ref a, .int (nI n)])), (o, .inr (0, [.ref b, .int (nI w)]))] sz)) 0 0 (va_A [(h, .inr (0, [.ref a, .int (nI n)])), (o, .inr (0, [.ref b, .int (nI w)]))] sz) := by
  refine zMet (cc := cX0_hasRoomAt) (maxL := 3) (ret := (some .boolean)) (Qc := fun A => (va_Qi (fun (rv : Int32) (uu : Unit) => rv = zb (p + w ≤ n) ∧ True) (fun (uu : Unit) t9 => va_P D vwCl ([(h, .inr (0, [.ref a, .int (nI n)])), (o, .inr (0, [.ref b, .int (nI w)]))]) t9.heap) A)) (by decide) rfl (Nat.le_of_ble_eq_true rfl) ?_
  intro pr en s0 mi bl me co A hC hA hK hE H locs hP hD hS ls hl
  obtain ⟨hx, hb, hr, hml, hown, hts, hlocks, hin⟩ := id hC
  have hl : lv_has ls 3 [(0, .ref h), (1, .int (nI p)), (2, .ref o)] := hl
  refine lv_iload_n hx hb dX0_hasRoomAt_0 rfl (lv_at hl 1 rfl) ?_
  refine zz_lt0 (tgt := 21) hx hb dX0_hasRoomAt_1 (by decide) (by omega) ?_
  refine lv_iload_n hx hb dX0_hasRoomAt_4 rfl (lv_at hl 1 rfl) ?_
  refine lv_aload_n hx hb dX0_hasRoomAt_5 rfl (lv_at hl 2 rfl) ?_
  refine va_get (D := D) (ci := 0) (v := .int (nI w)) (C := RX0) (T := TX0) (N := 2) hx hb hts (fun w h => List.mem_cons_of_mem _ (inUX0 w h)) hown hK hP 1 rfl rfl 1 (by decide) (hts _ (List.mem_cons_of_mem _ mw_54)) (fun _ h9 => h9) rfl dX0_hasRoomAt_6 ?_
  refine lv_iadd hx hb dX0_hasRoomAt_9 ?_
  refine zz_top (y := nI (p + w)) (zadd (by omega)) ?_
  refine lv_aload_n hx hb dX0_hasRoomAt_10 rfl (lv_at hl 0 rfl) ?_
  refine va_get (D := D) (ci := 0) (v := .int (nI n)) (C := RX0) (T := TX0) (N := 2) hx hb hts (fun w h => List.mem_cons_of_mem _ (inUX0 w h)) hown hK hP 0 rfl rfl 1 (by decide) (hts _ (List.mem_cons_of_mem _ mw_54)) (fun _ h9 => h9) rfl dX0_hasRoomAt_11 ?_
  refine zz_gt (tgt := 21) hx hb dX0_hasRoomAt_14 (by decide) (by omega) (by omega) (fun c14 => ?_) (fun c14 => ?_)
  · skip
    refine lv_iconst (v := nI 0) hx hb dX0_hasRoomAt_21 (by decide) ?_
    exact zIret hC hS () ⟨(zb_f (by omega)).symm, trivial⟩ hP (by decide) dX0_hasRoomAt_22
  · skip
    refine lv_iconst (v := nI 1) hx hb dX0_hasRoomAt_17 (by decide) ?_
    refine lv_goto (tgt := 22) hx hb dX0_hasRoomAt_18 (by decide) ?_
    exact zIret hC hS () ⟨(zb_t (by omega)).symm, trivial⟩ hP (by decide) dX0_hasRoomAt_22
set_option maxHeartbeats 4000000 in
set_option maxRecDepth 100000 in
theorem k_mismatchesAt_L6 {pr : Program} {en : Env} {s0 : State} {mi : MethodId} {bl : List Frame} {me : Method} {co : Code} {A : Nat → Prop} (l : Launch) (D : va_G) (cI cC : ClassId)  (h a n o b w p bd : Nat) (g r : Nat → Nat) (hn : n ≤ 96) (hw : w ≤ 24) (hp : p + w ≤ n) (hbd : bd ≤ 4) (hg : ∀ i, g i ≤ 4) (hr3 : ∀ i, i < w → r i ≤ 3) (hC : zK pr s0 mi ([.ref h, .int (nI p), .ref o, .int (nI bd)] : List Value).toArray me co cX0_mismatchesAt 6 (some .int) yX0_mismatchesAt wsX0_mismatchesAt) (hA : ∀ q, s0.heap.size ≤ q → A q) (hK : va_K D vwCl [(cI, .int), (cC, .char)] s0) (hE : zE0 A s0 s0.heap) :
    ∀ (N : Nat) (i : Nat), w - i < N → (i ≤ w) → (zmm g r p i ≤ bd + 1) → ∀ (H : Heap) (locs : List Loc), va_P D vwCl [(h, .inr (0, [.ref a, .int (nI n)])), (a, .inl (cI, 96, .inl (fun jj => nI (g jj)))), (o, .inr (0, [.ref b, .int (nI w)])), (b, .inl (cI, 24, .inl (fun jj => nI (r jj))))] H → va_D A [(h, .inr (0, [.ref a, .int (nI n)])), (a, .inl (cI, 96, .inl (fun jj => nI (g jj)))), (o, .inr (0, [.ref b, .int (nI w)])), (b, .inl (cI, 24, .inl (fun jj => nI (r jj))))] → va_S A s0.heap H locs → ∀ ls : Array Slot, lv_has ls 6 [(0, .ref h), (1, .int (nI p)), (2, .ref o), (3, .int (nI bd)), (4, .int (nI (zmm g r p i))), (5, .int (nI i))] → W pr l en ({ frames := 0, cells := 0, slots := 0, locals := 0 } : Room) s0 mi ([.ref h, .int (nI p), .ref o, .int (nI bd)] : List Value).toArray bl me co H locs 0 0 (MQ bl (va_Qi (fun (rv : Int32) (uu : Unit) => rv = nI (min (zmm g r p w) (bd + 1)) ∧ True) (fun (uu : Unit) t9 => va_P D vwCl ([(h, .inr (0, [.ref a, .int (nI n)])), (a, .inl (cI, 96, .inl (fun jj => nI (g jj)))), (o, .inr (0, [.ref b, .int (nI w)])), (b, .inl (cI, 24, .inl (fun jj => nI (r jj))))]) t9.heap) A) ([.ref h, .int (nI p), .ref o, .int (nI bd)] : List Value).toArray s0 0 0 A) (F0 mi 6 ls []) := by
  obtain ⟨hx, hb, hr, hml, hown, hts, hlocks, hin⟩ := id hC
  intro N
  induction N with
  | zero =>
    intro i hmea
    omega
  | succ N ih =>
    intro i hmea hi hk H locs hP hD hS ls hl
    refine lv_iload hx hb dX0_mismatchesAt_6 (lv_at hl 5 rfl) ?_
    refine lv_aload_n hx hb dX0_mismatchesAt_8 rfl (lv_at hl 2 rfl) ?_
    refine va_get (D := D) (ci := 0) (v := .int (nI w)) (C := RX0) (T := TX0) (N := 2) hx hb hts (fun w h => List.mem_cons_of_mem _ (inUX0 w h)) hown hK hP 2 rfl rfl 1 (by decide) (hts _ (List.mem_cons_of_mem _ mw_54)) (fun _ h9 => h9) rfl dX0_mismatchesAt_9 ?_
    refine zz_ge (tgt := 49) hx hb dX0_mismatchesAt_12 (by decide) (by omega) (by omega) (fun c12 => ?_) (fun c12 => ?_)
    · skip
      refine lv_iload hx hb dX0_mismatchesAt_49 (lv_at hl 4 rfl) ?_
      exact zIret hC hS () ⟨congrArg nI (by first | (rw [← show i = w by omega]; omega) | (have hm := zmm_mono g r p hi; omega)), trivial⟩ hP (vp_nar_int _) dX0_mismatchesAt_51
    · skip
      refine lv_iload hx hb dX0_mismatchesAt_15 (lv_at hl 4 rfl) ?_
      refine lv_iload_n hx hb dX0_mismatchesAt_17 rfl (lv_at hl 3 rfl) ?_
      refine zz_gt (tgt := 49) hx hb dX0_mismatchesAt_18 (by decide) (by omega) (by omega) (fun c18 => ?_) (fun c18 => ?_)
      · skip
        refine lv_iload hx hb dX0_mismatchesAt_49 (lv_at hl 4 rfl) ?_
        exact zIret hC hS () ⟨congrArg nI (by first | (rw [← show i = w by omega]; omega) | (have hm := zmm_mono g r p hi; omega)), trivial⟩ hP (vp_nar_int _) dX0_mismatchesAt_51
      · skip
        refine lv_aload_n hx hb dX0_mismatchesAt_21 rfl (lv_at hl 0 rfl) ?_
        refine va_get (D := D) (ci := 0) (v := .ref a) (C := RX0) (T := TX0) (N := 2) hx hb hts (fun w h => List.mem_cons_of_mem _ (inUX0 w h)) hown hK hP 0 rfl rfl 0 (by decide) (hts _ (List.mem_cons_of_mem _ mw_51)) (fun _ h9 => h9) rfl dX0_mismatchesAt_22 ?_
        refine lv_iload_n hx hb dX0_mismatchesAt_25 rfl (lv_at hl 1 rfl) ?_
        refine lv_iload hx hb dX0_mismatchesAt_26 (lv_at hl 5 rfl) ?_
        refine lv_iadd hx hb dX0_mismatchesAt_28 ?_
        refine zz_top (y := nI (p + i)) (zadd (by omega)) ?_
        refine zz_iald (k := p + i) (f := g) hx hb hK hP 1 0 rfl rfl (by omega) (by omega) dX0_mismatchesAt_29 ?_
        refine lv_aload_n hx hb dX0_mismatchesAt_30 rfl (lv_at hl 2 rfl) ?_
        refine va_get (D := D) (ci := 0) (v := .ref b) (C := RX0) (T := TX0) (N := 2) hx hb hts (fun w h => List.mem_cons_of_mem _ (inUX0 w h)) hown hK hP 2 rfl rfl 0 (by decide) (hts _ (List.mem_cons_of_mem _ mw_51)) (fun _ h9 => h9) rfl dX0_mismatchesAt_31 ?_
        refine lv_iload hx hb dX0_mismatchesAt_34 (lv_at hl 5 rfl) ?_
        refine zz_iald (k := i) (f := r) hx hb hK hP 3 0 rfl rfl (by omega) (by omega) dX0_mismatchesAt_36 ?_
        refine zz_eq (tgt := 43) hx hb dX0_mismatchesAt_37 (by decide) (by have := hg (p + i); omega) (by have := hr3 i (by omega); omega) (fun c37 => ?_) (fun c37 => ?_)
        · skip
          refine lv_iinc (v := nI (i + 1)) (lv' := [(5, .int (nI (i + 1))), (0, .ref h), (1, .int (nI p)), (2, .ref o), (3, .int (nI bd)), (4, .int (nI (zmm g r p i)))]) hx hb dX0_mismatchesAt_43 hl (k := 5) rfl (zincE (by omega)) (by decide) rfl (fun ls hl => ?_)
          refine lv_goto (tgt := 6) hx hb dX0_mismatchesAt_46 (by decide) ?_
          have hl : lv_has ls 6 [(5, .int (nI (i + 1))), (0, .ref h), (1, .int (nI p)), (2, .ref o), (3, .int (nI bd)), (4, .int (nI (zmm g r p (i + 1))))] := by rw [zmm_f c37]; exact hl
          exact ih (i + 1) (by omega) (by omega) (by first | (rw [zmm_f c37]; omega) | (rw [zmm_t c37]; omega)) _ _ hP hD hS ls (lv_sub hl [1, 2, 3, 4, 5, 0] rfl)
        · skip
          refine lv_iinc (v := nI (zmm g r p i + 1)) (lv' := [(4, .int (nI (zmm g r p i + 1))), (0, .ref h), (1, .int (nI p)), (2, .ref o), (3, .int (nI bd)), (5, .int (nI i))]) hx hb dX0_mismatchesAt_40 hl (k := 4) rfl (zincE (by omega)) (by decide) rfl (fun ls hl => ?_)
          refine lv_iinc (v := nI (i + 1)) (lv' := [(5, .int (nI (i + 1))), (4, .int (nI (zmm g r p i + 1))), (0, .ref h), (1, .int (nI p)), (2, .ref o), (3, .int (nI bd))]) hx hb dX0_mismatchesAt_43 hl (k := 5) rfl (zincE (by omega)) (by decide) rfl (fun ls hl => ?_)
          refine lv_goto (tgt := 6) hx hb dX0_mismatchesAt_46 (by decide) ?_
          have hl : lv_has ls 6 [(5, .int (nI (i + 1))), (4, .int (nI (zmm g r p (i + 1)))), (0, .ref h), (1, .int (nI p)), (2, .ref o), (3, .int (nI bd))] := by rw [zmm_t c37]; exact hl
          exact ih (i + 1) (by omega) (by omega) (by first | (rw [zmm_f c37]; omega) | (rw [zmm_t c37]; omega)) _ _ hP hD hS ls (lv_sub hl [2, 3, 4, 5, 1, 0] rfl)
set_option maxHeartbeats 4000000 in
set_option maxRecDepth 100000 in
theorem k_mismatchesAt (l : Launch) (D : va_G) (cI cC : ClassId)  (h a n o b w p bd : Nat) (g r : Nat → Nat) (hn : n ≤ 96) (hw : w ≤ 24) (hp : p + w ≤ n) (hbd : bd ≤ 4) (hg : ∀ i, g i ≤ 4) (hr3 : ∀ i, i < w → r i ≤ 3) (sz : Nat) : Met l yX0_mismatchesAt wsX0_mismatchesAt ({ frames := 0, cells := 0, slots := 0, locals := 0 } : Room) (zPre zE0 D vwCl [(cI, .int), (cC, .char)] [.ref h, .int (nI p), .ref o, .int (nI bd)] [(h, .inr (0, [.ref a, .int (nI n)])), (a, .inl (cI, 96, .inl (fun jj => nI (g jj)))), (o, .inr (0, [.ref b, .int (nI w)])), (b, .inl (cI, 24, .inl (fun jj => nI (r jj))))] sz) (va_Qi (fun (rv : Int32) (uu : Unit) => rv = nI (min (zmm g r p w) (bd + 1)) ∧ True) (fun (uu : Unit) t9 => va_P D vwCl ([(h, .inr (0, [.ref a, .int (nI n)])), (a, .inl (cI, 96, .inl (fun jj => nI (g jj)))), (o, .inr (0, [.ref b, .int (nI w)])), (b, .inl (cI, 24, .inl (fun jj => nI (r jj))))]) t9.heap) (va_A [(h, .inr (0, [.ref a, .int (nI n)])), (a, .inl (cI, 96, .inl (fun jj => nI (g jj)))), (o, .inr (0, [.ref b, .int (nI w)])), (b, .inl (cI, 24, .inl (fun jj => nI (r jj))))] sz)) 0 0 (va_A [(h, .inr (0, [.ref a, .int (nI n)])), (a, .inl (cI, 96, .inl (fun jj => nI (g jj)))), (o, .inr (0, [.ref b, .int (nI w)])), (b, .inl (cI, 24, .inl (fun jj => nI (r jj))))] sz) := by
  refine zMet (cc := cX0_mismatchesAt) (maxL := 6) (ret := (some .int)) (Qc := fun A => (va_Qi (fun (rv : Int32) (uu : Unit) => rv = nI (min (zmm g r p w) (bd + 1)) ∧ True) (fun (uu : Unit) t9 => va_P D vwCl ([(h, .inr (0, [.ref a, .int (nI n)])), (a, .inl (cI, 96, .inl (fun jj => nI (g jj)))), (o, .inr (0, [.ref b, .int (nI w)])), (b, .inl (cI, 24, .inl (fun jj => nI (r jj))))]) t9.heap) A)) (by decide) rfl (Nat.le_of_ble_eq_true rfl) ?_
  intro pr en s0 mi bl me co A hC hA hK hE H locs hP hD hS ls hl
  obtain ⟨hx, hb, hr, hml, hown, hts, hlocks, hin⟩ := id hC
  have hl : lv_has ls 6 [(0, .ref h), (1, .int (nI p)), (2, .ref o), (3, .int (nI bd))] := hl
  refine lv_iconst (v := nI 0) hx hb dX0_mismatchesAt_0 (by decide) ?_
  refine lv_istore (lv' := [(4, .int (nI 0)), (0, .ref h), (1, .int (nI p)), (2, .ref o), (3, .int (nI bd))]) hx hb dX0_mismatchesAt_1 hl (by decide) rfl (fun ls hl => ?_)
  refine lv_iconst (v := nI 0) hx hb dX0_mismatchesAt_3 (by decide) ?_
  refine lv_istore (lv' := [(5, .int (nI 0)), (4, .int (nI 0)), (0, .ref h), (1, .int (nI p)), (2, .ref o), (3, .int (nI bd))]) hx hb dX0_mismatchesAt_4 hl (by decide) rfl (fun ls hl => ?_)
  exact k_mismatchesAt_L6 l D cI cC  h a n o b w p bd g r hn hw hp hbd hg hr3 hC hA hK hE _ 0 (Nat.lt_succ_self _) (Nat.zero_le _) (Nat.zero_le _) _ _ hP hD hS ls (lv_sub hl [2, 3, 4, 5, 1, 0] rfl)
set_option maxHeartbeats 4000000 in
set_option maxRecDepth 100000 in
theorem k_holdsAt (l : Launch) (D : va_G) (cI cC : ClassId)  (h a n o b w p : Nat) (g r : Nat → Nat) (hn : n ≤ 96) (hw : w ≤ 24) (hp : p ≤ 200) (hg : ∀ i, g i ≤ 4) (hr3 : ∀ i, i < w → r i ≤ 3) (sz : Nat) : Met l yX0_holdsAt wsX0_holdsAt ({ frames := 1, cells := 0, slots := 0, locals := 25 } : Room) (zPre zE0 D vwCl [(cI, .int), (cC, .char)] [.ref h, .int (nI p), .ref o] [(h, .inr (0, [.ref a, .int (nI n)])), (a, .inl (cI, 96, .inl (fun jj => nI (g jj)))), (o, .inr (0, [.ref b, .int (nI w)])), (b, .inl (cI, 24, .inl (fun jj => nI (r jj))))] sz) (va_Qi (fun (rv : Int32) (uu : Unit) => rv = zb (p + w ≤ n ∧ zmm g r p w = 0) ∧ True) (fun (uu : Unit) t9 => va_P D vwCl ([(h, .inr (0, [.ref a, .int (nI n)])), (a, .inl (cI, 96, .inl (fun jj => nI (g jj)))), (o, .inr (0, [.ref b, .int (nI w)])), (b, .inl (cI, 24, .inl (fun jj => nI (r jj))))]) t9.heap) (va_A [(h, .inr (0, [.ref a, .int (nI n)])), (a, .inl (cI, 96, .inl (fun jj => nI (g jj)))), (o, .inr (0, [.ref b, .int (nI w)])), (b, .inl (cI, 24, .inl (fun jj => nI (r jj))))] sz)) 0 0 (va_A [(h, .inr (0, [.ref a, .int (nI n)])), (a, .inl (cI, 96, .inl (fun jj => nI (g jj)))), (o, .inr (0, [.ref b, .int (nI w)])), (b, .inl (cI, 24, .inl (fun jj => nI (r jj))))] sz) := by
  refine zMet (cc := cX0_holdsAt) (maxL := 3) (ret := (some .boolean)) (Qc := fun A => (va_Qi (fun (rv : Int32) (uu : Unit) => rv = zb (p + w ≤ n ∧ zmm g r p w = 0) ∧ True) (fun (uu : Unit) t9 => va_P D vwCl ([(h, .inr (0, [.ref a, .int (nI n)])), (a, .inl (cI, 96, .inl (fun jj => nI (g jj)))), (o, .inr (0, [.ref b, .int (nI w)])), (b, .inl (cI, 24, .inl (fun jj => nI (r jj))))]) t9.heap) A)) (by decide) rfl (Nat.le_of_ble_eq_true rfl) ?_
  intro pr en s0 mi bl me co A hC hA hK hE H locs hP hD hS ls hl
  obtain ⟨hx, hb, hr, hml, hown, hts, hlocks, hin⟩ := id hC
  have hl : lv_has ls 3 [(0, .ref h), (1, .int (nI p)), (2, .ref o)] := hl
  refine lv_aload_n hx hb dX0_holdsAt_0 rfl (lv_at hl 0 rfl) ?_
  refine lv_iload_n hx hb dX0_holdsAt_1 rfl (lv_at hl 1 rfl) ?_
  refine lv_aload_n hx hb dX0_holdsAt_2 rfl (lv_at hl 2 rfl) ?_
  refine zCi (is := [0, 2]) (wf := (fun (uu : Unit) => ([(h, .inr (0, [.ref a, .int (nI n)])), (o, .inr (0, [.ref b, .int (nI w)]))] : va_W))) (va_runV (As := [.int (nI p), .ref o]) (rest := []) ⟨hx, hb, hml, hown, hts⟩ (k_hasRoomAt l D cI cC  h a n o b w p (by omega) (by omega) (by omega) H.size) (cwV 2 hts (zgood mw_269 mw_270 mw_271 mw_27 mw_272) rfl rfl rfl (by decide +kernel) ⟨Nat.le_of_ble_eq_true rfl, Nat.le_of_ble_eq_true rfl⟩) ⟨zBlind zE0_ok, va_recv hK hP (ci := 0) (q0 := 0) rfl rfl, zAt (av := [.ref h, .int (nI p), .ref o]) zE0_ok hP hD hK hS hA trivial [0, 2] rfl (by decide)⟩ rfl rfl hl.1 rfl (lv_room (Nat.le_of_ble_eq_true rfl)) dX0_holdsAt_3 ⟨Nat.zero_le _, Nat.zero_le _⟩) hP hD hS hA rfl (fun _ => rfl) (fun r3 u3 H locs w3 hP hD hS => ?_)
  obtain ⟨rfl, w3⟩ := w3
  have hP : va_P D vwCl [(h, .inr (0, [.ref a, .int (nI n)])), (a, .inl (cI, 96, .inl (fun jj => nI (g jj)))), (o, .inr (0, [.ref b, .int (nI w)])), (b, .inl (cI, 24, .inl (fun jj => nI (r jj))))] H := hP
  have hD : va_D A [(h, .inr (0, [.ref a, .int (nI n)])), (a, .inl (cI, 96, .inl (fun jj => nI (g jj)))), (o, .inr (0, [.ref b, .int (nI w)])), (b, .inl (cI, 24, .inl (fun jj => nI (r jj))))] := hD
  refine zz_eqb (tgt := 23) hx hb dX0_holdsAt_6 (by decide) (fun c6 => ?_) (fun c6 => ?_)
  · skip
    refine lv_iconst (v := nI 0) hx hb dX0_holdsAt_23 (by decide) ?_
    exact zIret hC hS () ⟨(zb_f (by omega)).symm, trivial⟩ hP (by decide) dX0_holdsAt_24
  · skip
    refine lv_aload_n hx hb dX0_holdsAt_9 rfl (lv_at hl 0 rfl) ?_
    refine lv_iload_n hx hb dX0_holdsAt_10 rfl (lv_at hl 1 rfl) ?_
    refine lv_aload_n hx hb dX0_holdsAt_11 rfl (lv_at hl 2 rfl) ?_
    refine lv_iconst (v := nI 0) hx hb dX0_holdsAt_12 (by decide) ?_
    refine zCi (is := [0, 1, 2, 3]) (wf := (fun (uu : Unit) => ([(h, .inr (0, [.ref a, .int (nI n)])), (a, .inl (cI, 96, .inl (fun jj => nI (g jj)))), (o, .inr (0, [.ref b, .int (nI w)])), (b, .inl (cI, 24, .inl (fun jj => nI (r jj))))] : va_W))) (va_runV (As := [.int (nI p), .ref o, .int (nI 0)]) (rest := []) ⟨hx, hb, hml, hown, hts⟩ (k_mismatchesAt l D cI cC  h a n o b w p 0 g r (by omega) (by omega) (by omega) (by omega) hg hr3 H.size) (cwV 3 hts (zgood mw_273 mw_274 mw_275 mw_27 mw_276) rfl rfl rfl (by decide +kernel) ⟨Nat.le_of_ble_eq_true rfl, Nat.le_of_ble_eq_true rfl⟩) ⟨zBlind zE0_ok, va_recv hK hP (ci := 0) (q0 := 0) rfl rfl, zAt (av := [.ref h, .int (nI p), .ref o, .int (nI 0)]) zE0_ok hP hD hK hS hA trivial [0, 1, 2, 3] rfl (by decide)⟩ rfl rfl hl.1 rfl (lv_room (Nat.le_of_ble_eq_true rfl)) dX0_holdsAt_13 ⟨Nat.zero_le _, Nat.zero_le _⟩) hP hD hS hA rfl (fun _ => rfl) (fun r13 u13 H locs w13 hP hD hS => ?_)
    obtain ⟨rfl, w13⟩ := w13
    have hP : va_P D vwCl [(h, .inr (0, [.ref a, .int (nI n)])), (a, .inl (cI, 96, .inl (fun jj => nI (g jj)))), (o, .inr (0, [.ref b, .int (nI w)])), (b, .inl (cI, 24, .inl (fun jj => nI (r jj))))] H := hP
    have hD : va_D A [(h, .inr (0, [.ref a, .int (nI n)])), (a, .inl (cI, 96, .inl (fun jj => nI (g jj)))), (o, .inr (0, [.ref b, .int (nI w)])), (b, .inl (cI, 24, .inl (fun jj => nI (r jj))))] := hD
    refine zz_ne0 (tgt := 23) hx hb dX0_holdsAt_16 (by decide) (by omega) (fun c16 => ?_) (fun c16 => ?_)
    · skip
      refine lv_iconst (v := nI 0) hx hb dX0_holdsAt_23 (by decide) ?_
      exact zIret hC hS () ⟨(zb_f (by omega)).symm, trivial⟩ hP (by decide) dX0_holdsAt_24
    · skip
      refine lv_iconst (v := nI 1) hx hb dX0_holdsAt_19 (by decide) ?_
      refine lv_goto (tgt := 24) hx hb dX0_holdsAt_20 (by decide) ?_
      exact zIret hC hS () ⟨(zb_t (by omega)).symm, trivial⟩ hP (by decide) dX0_holdsAt_24
end
section
set_option maxHeartbeats 4000000 in
set_option maxRecDepth 100000 in
theorem k_forget (l : Launch) (D : va_G) (cI cC : ClassId)  (h G ro od so : Nat)  (sz : Nat) : Met l yX4_forget wsX4_forget ({ frames := 0, cells := 0, slots := 0, locals := 0 } : Room) (zPre zE0 D vwCl [(cI, .int), (cC, .char)] [.ref h] [(h, .inr (4, [.ref G, .ref ro, .ref od, .int (nI so)]))] sz) (va_Qv (fun (uu : Unit) => True) (fun (uu : Unit) t9 => va_P D vwCl ([(h, .inr (4, [.ref G, .ref ro, .ref od, .int (nI 0)]))]) t9.heap) (va_A [(h, .inr (4, [.ref G, .ref ro, .ref od, .int (nI so)]))] sz)) 0 0 (va_A [(h, .inr (4, [.ref G, .ref ro, .ref od, .int (nI so)]))] sz) := by
  refine zMet (cc := cX4_forget) (maxL := 1) (ret := none) (Qc := fun A => (va_Qv (fun (uu : Unit) => True) (fun (uu : Unit) t9 => va_P D vwCl ([(h, .inr (4, [.ref G, .ref ro, .ref od, .int (nI 0)]))]) t9.heap) A)) (by decide) rfl (Nat.le_of_ble_eq_true rfl) ?_
  intro pr en s0 mi bl me co A hC hA hK hE H locs hP hD hS ls hl
  obtain ⟨hx, hb, hr, hml, hown, hts, hlocks, hin⟩ := id hC
  have hl : lv_has ls 1 [(0, .ref h)] := hl
  refine lv_aload_n hx hb dX4_forget_0 rfl (lv_at hl 0 rfl) ?_
  refine lv_iconst (v := nI 0) hx hb dX4_forget_1 (by decide) ?_
  refine va_put (D := D) (ci := 4) (v := .int (nI 0)) (ty := .boolean) (C := RX4) (T := TX4) (N := 4) hx hb hts (fun w h => List.mem_cons_of_mem _ (inUX4 w h)) tyX4 tyX4_ok nmX4 hown hK hP hD hS 0 rfl rfl 3 (by decide) (hts _ (List.mem_cons_of_mem _ mw_74)) (fun _ h9 => h9) rfl (by decide +kernel) (by decide) (by decide) (Nat.le_of_ble_eq_true rfl) dX4_forget_2 (fun H locs hP hD hS => ?_)
  have hP : va_P D vwCl [(h, .inr (4, [.ref G, .ref ro, .ref od, .int (nI 0)]))] H := hP
  have hD : va_D A [(h, .inr (4, [.ref G, .ref ro, .ref od, .int (nI 0)]))] := hD
  exact zVret hC hS () trivial hP dX4_forget_5
set_option maxHeartbeats 4000000 in
set_option maxRecDepth 100000 in
theorem k_rows (l : Launch) (D : va_G) (cI cC : ClassId)  (h G ro od so ga n : Nat) (hn : n ≤ 96) (sz : Nat) : Met l yX4_rows wsX4_rows ({ frames := 0, cells := 0, slots := 0, locals := 0 } : Room) (zPre zEn D vwCl [(cI, .int), (cC, .char)] [.ref h] [(h, .inr (4, [.ref G, .ref ro, .ref od, .int (nI so)])), (G, .inr (0, [.ref ga, .int (nI n)]))] sz) (va_Qi (fun (rv : Int32) (uu : Unit) => rv = nI (n + 1) ∧ True) (fun (uu : Unit) t9 => va_P D vwCl ([(h, .inr (4, [.ref G, .ref ro, .ref od, .int (nI so)])), (G, .inr (0, [.ref ga, .int (nI n)]))]) t9.heap) (va_A [(h, .inr (4, [.ref G, .ref ro, .ref od, .int (nI so)])), (G, .inr (0, [.ref ga, .int (nI n)]))] sz)) 0 0 (va_A [(h, .inr (4, [.ref G, .ref ro, .ref od, .int (nI so)])), (G, .inr (0, [.ref ga, .int (nI n)]))] sz) := by
  refine zMet (cc := cX4_rows) (maxL := 1) (ret := (some .int)) (Qc := fun A => (va_Qi (fun (rv : Int32) (uu : Unit) => rv = nI (n + 1) ∧ True) (fun (uu : Unit) t9 => va_P D vwCl ([(h, .inr (4, [.ref G, .ref ro, .ref od, .int (nI so)])), (G, .inr (0, [.ref ga, .int (nI n)]))]) t9.heap) A)) (by decide) rfl (Nat.le_of_ble_eq_true rfl) ?_
  intro pr en s0 mi bl me co A hC hA hK hE H locs hP hD hS ls hl
  obtain ⟨hx, hb, hr, hml, hown, hts, hlocks, hin⟩ := id hC
  have hl : lv_has ls 1 [(0, .ref h)] := hl
  refine lv_aload_n hx hb dX4_rows_0 rfl (lv_at hl 0 rfl) ?_
  refine va_get (D := D) (ci := 4) (v := .ref G) (C := RX4) (T := TX4) (N := 4) hx hb hts (fun w h => List.mem_cons_of_mem _ (inUX4 w h)) hown hK hP 0 rfl rfl 0 (by decide) (hts _ (List.mem_cons_of_mem _ mw_71)) (fun _ h9 => h9) rfl dX4_rows_1 ?_
  refine va_getN (D := D) (ci := 0) (v := .int (nI n)) (C := RX0) (T := TX0) (N := 2) hx hb hts (fun w h => List.mem_cons_of_mem _ (inUX0 w h)) hown hK hP 1 rfl rfl 1 (by decide) (va_Nw.use rfl (hE.1 ("StrandMapper$SortedSuffixes", 26, "StrandMapper$Bases", "used", "I", "StrandMapper") (by decide +kernel))) (fun _ h9 => h9) rfl dX4_rows_4 ?_
  refine lv_iconst (v := nI 1) hx hb dX4_rows_7 (by decide) ?_
  refine lv_iadd hx hb dX4_rows_8 ?_
  refine zz_top (y := nI (n + 1)) (zadd (by omega)) ?_
  exact zIret hC hS () ⟨rfl, trivial⟩ hP (vp_nar_int _) dX4_rows_9
set_option maxHeartbeats 4000000 in
set_option maxRecDepth 100000 in
theorem k_hasRow (l : Launch) (D : va_G) (cI cC : ClassId)  (h G ro od so ga n : Nat) (i : Int32) (hn : n ≤ 96) (sz : Nat) : Met l yX4_hasRow wsX4_hasRow ({ frames := 1, cells := 0, slots := 0, locals := 20 } : Room) (zPre zEn D vwCl [(cI, .int), (cC, .char)] [.ref h, .int i] [(h, .inr (4, [.ref G, .ref ro, .ref od, .int (nI so)])), (G, .inr (0, [.ref ga, .int (nI n)]))] sz) (va_Qi (fun (rv : Int32) (uu : Unit) => rv = zb (0 ≤ i ∧ i < nI (n + 1)) ∧ True) (fun (uu : Unit) t9 => va_P D vwCl ([(h, .inr (4, [.ref G, .ref ro, .ref od, .int (nI so)])), (G, .inr (0, [.ref ga, .int (nI n)]))]) t9.heap) (va_A [(h, .inr (4, [.ref G, .ref ro, .ref od, .int (nI so)])), (G, .inr (0, [.ref ga, .int (nI n)]))] sz)) 0 0 (va_A [(h, .inr (4, [.ref G, .ref ro, .ref od, .int (nI so)])), (G, .inr (0, [.ref ga, .int (nI n)]))] sz) := by
  refine zMet (cc := cX4_hasRow) (maxL := 2) (ret := (some .boolean)) (Qc := fun A => (va_Qi (fun (rv : Int32) (uu : Unit) => rv = zb (0 ≤ i ∧ i < nI (n + 1)) ∧ True) (fun (uu : Unit) t9 => va_P D vwCl ([(h, .inr (4, [.ref G, .ref ro, .ref od, .int (nI so)])), (G, .inr (0, [.ref ga, .int (nI n)]))]) t9.heap) A)) (by decide) rfl (Nat.le_of_ble_eq_true rfl) ?_
  intro pr en s0 mi bl me co A hC hA hK hE H locs hP hD hS ls hl
  obtain ⟨hx, hb, hr, hml, hown, hts, hlocks, hin⟩ := id hC
  have hl : lv_has ls 2 [(0, .ref h), (1, .int i)] := hl
  refine lv_iload_n hx hb dX4_hasRow_0 rfl (lv_at hl 1 rfl) ?_
  refine lv_if_lt (tgt := 16) hx hb dX4_hasRow_1 (by decide) (fun c1 => ?_) (fun c1 => ?_)
  · skip
    refine lv_iconst (v := nI 0) hx hb dX4_hasRow_16 (by decide) ?_
    exact zIret hC hS () ⟨(zb_f (by first | exact fun q => absurd c1 (Int32.not_lt.mpr q.1) | exact fun q => absurd q.2 (Int32.not_lt.mpr c9))).symm, trivial⟩ hP (by decide) dX4_hasRow_17
  · skip
    refine lv_iload_n hx hb dX4_hasRow_4 rfl (lv_at hl 1 rfl) ?_
    refine lv_aload_n hx hb dX4_hasRow_5 rfl (lv_at hl 0 rfl) ?_
    refine zCi (is := [0, 1]) (wf := (fun (uu : Unit) => ([(h, .inr (4, [.ref G, .ref ro, .ref od, .int (nI so)])), (G, .inr (0, [.ref ga, .int (nI n)]))] : va_W))) (va_runV (As := []) (rest := [.int i]) ⟨hx, hb, hml, hown, hts⟩ (k_rows l D cI cC  h G ro od so ga n (by omega) H.size) (cwV 0 hts (zgood mw_231 mw_232 mw_233 mw_28 mw_234) rfl rfl rfl (by decide +kernel) ⟨Nat.le_of_ble_eq_true rfl, Nat.le_of_ble_eq_true rfl⟩) ⟨zBlind zEn_ok, va_recv hK hP (ci := 4) (q0 := 0) rfl rfl, zAt (av := [.ref h]) zEn_ok hP hD hK hS hA hE [0, 1] rfl (by decide)⟩ rfl rfl hl.1 rfl (lv_room (Nat.le_of_ble_eq_true rfl)) dX4_hasRow_6 ⟨Nat.zero_le _, Nat.zero_le _⟩) hP hD hS hA rfl (fun _ => rfl) (fun r6 u6 H locs w6 hP hD hS => ?_)
    obtain ⟨rfl, w6⟩ := w6
    have hP : va_P D vwCl [(h, .inr (4, [.ref G, .ref ro, .ref od, .int (nI so)])), (G, .inr (0, [.ref ga, .int (nI n)]))] H := hP
    have hD : va_D A [(h, .inr (4, [.ref G, .ref ro, .ref od, .int (nI so)])), (G, .inr (0, [.ref ga, .int (nI n)]))] := hD
    refine lv_icmp_ge (tgt := 16) hx hb dX4_hasRow_9 (by decide) (fun c9 => ?_) (fun c9 => ?_)
    · skip
      refine lv_iconst (v := nI 0) hx hb dX4_hasRow_16 (by decide) ?_
      exact zIret hC hS () ⟨(zb_f (by first | exact fun q => absurd c1 (Int32.not_lt.mpr q.1) | exact fun q => absurd q.2 (Int32.not_lt.mpr c9))).symm, trivial⟩ hP (by decide) dX4_hasRow_17
    · skip
      refine lv_iconst (v := nI 1) hx hb dX4_hasRow_12 (by decide) ?_
      refine lv_goto (tgt := 17) hx hb dX4_hasRow_13 (by decide) ?_
      exact zIret hC hS () ⟨(zb_t ⟨Int32.not_lt.mp c1, Int32.not_le.mp c9⟩).symm, trivial⟩ hP (by decide) dX4_hasRow_17
set_option maxHeartbeats 4000000 in
set_option maxRecDepth 100000 in
theorem k_insert_L27 {pr : Program} {en : Env} {s0 : State} {mi : MethodId} {bl : List Frame} {me : Method} {co : Code} {A : Nat → Prop} (l : Launch) (D : va_G) (cI cC : ClassId)  (h G ro od so ga n : Nat) (p : Nat) (g f0 : Nat → Nat) (hn : n ≤ 96) (hp : p < n) (hg : ∀ i, g i ≤ 4) (hf : ∀ q, p + 1 ≤ q → q ≤ n → f0 q = zB n g (p + 1) q) (hC : zK pr s0 mi ([.ref h, .int (nI p)] : List Value).toArray me co cX4_insert 8 none yX4_insert wsX4_insert) (hA : ∀ q, s0.heap.size ≤ q → A q) (hK : va_K D vwCl [(cI, .int), (cC, .char)] s0) (hE : zEn A s0 s0.heap) :
    ∀ (N : Nat) (k row : Nat) (f : Nat → Nat), n - k < N → (p + 1 ≤ k) → (k ≤ n) → (row = 1 + zcnt (fun q => decide (p + 1 ≤ q ∧ zkey n g q < zkey n g p)) k) → (∀ q, k ≤ q → q ≤ n → f q = zB n g (p + 1) q) → (∀ q, p + 1 ≤ q → q < k → f q = zB n g p q) → ∀ (H : Heap) (locs : List Loc), va_P D vwCl [(h, .inr (4, [.ref G, .ref ro, .ref od, .int (nI so)])), (G, .inr (0, [.ref ga, .int (nI n)])), (ga, .inl (cI, 96, .inl (fun jj => nI (g jj)))), (ro, .inl (cI, 97, .inl (fun jj => nI (f jj))))] H → va_D A [(h, .inr (4, [.ref G, .ref ro, .ref od, .int (nI so)])), (G, .inr (0, [.ref ga, .int (nI n)])), (ga, .inl (cI, 96, .inl (fun jj => nI (g jj)))), (ro, .inl (cI, 97, .inl (fun jj => nI (f jj))))] → va_S A s0.heap H locs → ∀ ls : Array Slot, lv_has ls 8 [(0, .ref h), (1, .int (nI p)), (2, .int (nI (g p))), (3, .int (nI (f0 (p + 1)))), (4, .int (nI row)), (5, .int (nI k))] → W pr l en ({ frames := 0, cells := 0, slots := 0, locals := 0 } : Room) s0 mi ([.ref h, .int (nI p)] : List Value).toArray bl me co H locs 0 0 (MQ bl (va_Qv (fun (uu : Nat → Nat) => ∀ q, p ≤ q → q ≤ n → uu q = zB n g p q) (fun (uu : Nat → Nat) t9 => va_P D vwCl ([(h, .inr (4, [.ref G, .ref ro, .ref od, .int (nI so)])), (G, .inr (0, [.ref ga, .int (nI n)])), (ga, .inl (cI, 96, .inl (fun jj => nI (g jj)))), (ro, .inl (cI, 97, .inl (fun jj => nI (uu jj))))]) t9.heap) A) ([.ref h, .int (nI p)] : List Value).toArray s0 0 0 A) (F0 mi 27 ls []) := by
  obtain ⟨hx, hb, hr, hml, hown, hts, hlocks, hin⟩ := id hC
  intro N
  induction N with
  | zero =>
    intro k row f hmea
    omega
  | succ N ih =>
    intro k row f hmea hk1 hk2 hrow ha hd H locs hP hD hS ls hl
    refine lv_iload hx hb dX4_insert_27 (lv_at hl 5 rfl) ?_
    refine lv_aload_n hx hb dX4_insert_29 rfl (lv_at hl 0 rfl) ?_
    refine va_get (D := D) (ci := 4) (v := .ref G) (C := RX4) (T := TX4) (N := 4) hx hb hts (fun w h => List.mem_cons_of_mem _ (inUX4 w h)) hown hK hP 0 rfl rfl 0 (by decide) (hts _ (List.mem_cons_of_mem _ mw_71)) (fun _ h9 => h9) rfl dX4_insert_30 ?_
    refine va_getN (D := D) (ci := 0) (v := .int (nI n)) (C := RX0) (T := TX0) (N := 2) hx hb hts (fun w h => List.mem_cons_of_mem _ (inUX0 w h)) hown hK hP 1 rfl rfl 1 (by decide) (va_Nw.use rfl (hE.1 ("StrandMapper$SortedSuffixes", 26, "StrandMapper$Bases", "used", "I", "StrandMapper") (by decide +kernel))) (fun _ h9 => h9) rfl dX4_insert_33 ?_
    refine zz_ge (tgt := 111) hx hb dX4_insert_36 (by decide) (by omega) (by omega) (fun c36 => ?_) (fun c36 => ?_)
    · skip
      refine lv_aload_n hx hb dX4_insert_111 rfl (lv_at hl 0 rfl) ?_
      refine va_get (D := D) (ci := 4) (v := .ref ro) (C := RX4) (T := TX4) (N := 4) hx hb hts (fun w h => List.mem_cons_of_mem _ (inUX4 w h)) hown hK hP 0 rfl rfl 1 (by decide) (hts _ (List.mem_cons_of_mem _ mw_72)) (fun _ h9 => h9) rfl dX4_insert_112 ?_
      refine lv_iload_n hx hb dX4_insert_115 rfl (lv_at hl 1 rfl) ?_
      refine lv_iload hx hb dX4_insert_116 (lv_at hl 4 rfl) ?_
      refine zz_iast (k := p) (x := row) (f := f) hx hb hK hP hD hS 3 0 rfl rfl (by omega) (by omega) dX4_insert_118 (fun H locs hP hD hS => ?_)
      have hP : va_P D vwCl [(h, .inr (4, [.ref G, .ref ro, .ref od, .int (nI so)])), (G, .inr (0, [.ref ga, .int (nI n)])), (ga, .inl (cI, 96, .inl (fun jj => nI (g jj)))), (ro, .inl (cI, 97, .inl (fun jj => nI (zup f p row jj))))] H := hP
      have hD : va_D A [(h, .inr (4, [.ref G, .ref ro, .ref od, .int (nI so)])), (G, .inr (0, [.ref ga, .int (nI n)])), (ga, .inl (cI, 96, .inl (fun jj => nI (g jj)))), (ro, .inl (cI, 97, .inl (fun jj => nI (zup f p row jj))))] := hD
      exact zVret hC hS (zup f p row) (fun q h1 h2 => by
        by_cases e : q = p
        · subst e
          rw [zup_s, hrow, show k = n by omega]
          exact zrow hp
        · rw [zup_n e]
          rcases Nat.lt_or_ge q k with z | z
          · exact hd q (by omega) z
          · rw [ha q z h2, show q = n by omega, zB_n, zB_n]) hP dX4_insert_119
    · skip
      have e1 := ha (k + 1) (by omega) (by omega)
      have e2 := hf (p + 1) (Nat.le_refl _) (by omega)
      have e3 := zB_iff (n := n) (g := g) (a := p + 1) (x := k + 1) (y := p + 1) (by omega) (by omega)
      have e4 := zkey_step hg hn (p := k) (q := p) (by omega) hp
      have e5 : zkey n g k ≠ zkey n g p := fun q => by have := zkey_inj hg hn (by omega) (by omega) q; omega
      have e6 := zB_le (n := n) (g := g) (a := p + 1) (q := k + 1) (by omega)
      have e7 := zB_le (n := n) (g := g) (a := p + 1) (q := p + 1) (by omega)
      have g1 := hg k
      have g2 := hg p
      have e8 := zcnt_le (fun q => decide (p + 1 ≤ q ∧ zkey n g q < zkey n g p)) k
      have e9 := ha k (Nat.le_refl _) (by omega)
      have e10 := zB_le (n := n) (g := g) (a := p + 1) (q := k) (by omega)
      refine lv_aload_n hx hb dX4_insert_39 rfl (lv_at hl 0 rfl) ?_
      refine va_get (D := D) (ci := 4) (v := .ref G) (C := RX4) (T := TX4) (N := 4) hx hb hts (fun w h => List.mem_cons_of_mem _ (inUX4 w h)) hown hK hP 0 rfl rfl 0 (by decide) (hts _ (List.mem_cons_of_mem _ mw_71)) (fun _ h9 => h9) rfl dX4_insert_40 ?_
      refine va_getN (D := D) (ci := 0) (v := .ref ga) (C := RX0) (T := TX0) (N := 2) hx hb hts (fun w h => List.mem_cons_of_mem _ (inUX0 w h)) hown hK hP 1 rfl rfl 0 (by decide) (va_Nw.use rfl (hE.1 ("StrandMapper$SortedSuffixes", 43, "StrandMapper$Bases", "symbols", "[I", "StrandMapper") (by decide +kernel))) (fun _ h9 => h9) rfl dX4_insert_43 ?_
      refine lv_iload hx hb dX4_insert_46 (lv_at hl 5 rfl) ?_
      refine zz_iald (k := k) (f := g) hx hb hK hP 2 0 rfl rfl (by omega) (by omega) dX4_insert_48 ?_
      refine lv_istore (lv' := [(6, .int (nI (g k))), (0, .ref h), (1, .int (nI p)), (2, .int (nI (g p))), (3, .int (nI (f0 (p + 1)))), (4, .int (nI row)), (5, .int (nI k))]) hx hb dX4_insert_49 hl (by decide) rfl (fun ls hl => ?_)
      refine lv_iload hx hb dX4_insert_51 (lv_at hl 0 rfl) ?_
      refine lv_iload_n hx hb dX4_insert_53 rfl (lv_at hl 3 rfl) ?_
      refine zz_lt (tgt := 76) hx hb dX4_insert_54 (by decide) (by omega) (by omega) (fun c54 => ?_) (fun c54 => ?_)
      · skip
        have hq : zkey n g k < zkey n g p := by omega
        refine lv_iconst (v := nI 1) hx hb dX4_insert_76 (by decide) ?_
        refine lv_goto (tgt := 81) hx hb dX4_insert_77 (by decide) ?_
        refine lv_istore (lv' := [(7, .int (nI 1)), (6, .int (nI (g k))), (0, .ref h), (1, .int (nI p)), (2, .int (nI (g p))), (3, .int (nI (f0 (p + 1)))), (4, .int (nI row)), (5, .int (nI k))]) hx hb dX4_insert_81 hl (by decide) rfl (fun ls hl => ?_)
        refine lv_iload hx hb dX4_insert_83 (lv_at hl 0 rfl) ?_
        refine lv_if_eq (tgt := 94) hx hb dX4_insert_85 (by decide) (fun h9 => absurd h9 (by decide)) (fun _ => ?_)
        refine lv_iinc (v := nI (row + 1)) (lv' := [(4, .int (nI (row + 1))), (7, .int (nI 1)), (6, .int (nI (g k))), (0, .ref h), (1, .int (nI p)), (2, .int (nI (g p))), (3, .int (nI (f0 (p + 1)))), (5, .int (nI k))]) hx hb dX4_insert_88 hl (k := 6) rfl (zincE (by omega)) (by decide) rfl (fun ls hl => ?_)
        refine lv_goto (tgt := 105) hx hb dX4_insert_91 (by decide) ?_
        refine lv_iinc (v := nI (k + 1)) (lv' := [(5, .int (nI (k + 1))), (4, .int (nI (row + 1))), (7, .int (nI 1)), (6, .int (nI (g k))), (0, .ref h), (1, .int (nI p)), (2, .int (nI (g p))), (3, .int (nI (f0 (p + 1))))]) hx hb dX4_insert_105 hl (k := 7) rfl (zincE (by omega)) (by decide) rfl (fun ls hl => ?_)
        refine lv_goto (tgt := 27) hx hb dX4_insert_108 (by decide) ?_
        exact ih (k + 1) (row + 1) f (by omega) (by omega) (by omega) (by rw [zcnt_t (by simp only [decide_eq_true_eq]; omega)]; omega) (fun q h1 h2 => ha q (by omega) h2) (fun q h1 h2 => by
          by_cases e : q = k
          · subst e
            rw [ha q (Nat.le_refl _) (by omega), zB_step (a := p) (by omega), if_neg (by omega)]; rfl
          · exact hd q h1 (by omega)) _ _ hP hD hS ls (lv_sub hl [4, 5, 6, 7, 1, 0] rfl)
      · skip
        refine lv_iload hx hb dX4_insert_57 (lv_at hl 0 rfl) ?_
        refine lv_iload_n hx hb dX4_insert_59 rfl (lv_at hl 3 rfl) ?_
        refine zz_ne (tgt := 80) hx hb dX4_insert_60 (by decide) (by omega) (by omega) (fun c60 => ?_) (fun c60 => ?_)
        · skip
          have hq : ¬ zkey n g k < zkey n g p := by omega
          refine lv_iconst (v := nI 0) hx hb dX4_insert_80 (by decide) ?_
          refine lv_istore (lv' := [(7, .int (nI 0)), (6, .int (nI (g k))), (0, .ref h), (1, .int (nI p)), (2, .int (nI (g p))), (3, .int (nI (f0 (p + 1)))), (4, .int (nI row)), (5, .int (nI k))]) hx hb dX4_insert_81 hl (by decide) rfl (fun ls hl => ?_)
          refine lv_iload hx hb dX4_insert_83 (lv_at hl 0 rfl) ?_
          refine lv_if_eq (tgt := 94) hx hb dX4_insert_85 (by decide) (fun _ => ?_) (fun h9 => absurd (by decide) h9)
          refine lv_aload_n hx hb dX4_insert_94 rfl (lv_at hl 2 rfl) ?_
          refine va_get (D := D) (ci := 4) (v := .ref ro) (C := RX4) (T := TX4) (N := 4) hx hb hts (fun w h => List.mem_cons_of_mem _ (inUX4 w h)) hown hK hP 0 rfl rfl 1 (by decide) (hts _ (List.mem_cons_of_mem _ mw_72)) (fun _ h9 => h9) rfl dX4_insert_95 ?_
          refine lv_iload hx hb dX4_insert_98 (lv_at hl 7 rfl) ?_
          refine lv_dup2_11 hx hb dX4_insert_100 rfl rfl ?_
          refine zz_iald (k := k) (f := f) hx hb hK hP 3 0 rfl rfl (by omega) (by omega) dX4_insert_101 ?_
          refine lv_iconst (v := nI 1) hx hb dX4_insert_102 (by decide) ?_
          refine lv_iadd hx hb dX4_insert_103 ?_
          refine zz_top (y := nI (f k + 1)) (zadd (by omega)) ?_
          refine zz_iast (k := k) (x := f k + 1) (f := f) hx hb hK hP hD hS 3 0 rfl rfl (by omega) (by omega) dX4_insert_104 (fun H locs hP hD hS => ?_)
          have hP : va_P D vwCl [(h, .inr (4, [.ref G, .ref ro, .ref od, .int (nI so)])), (G, .inr (0, [.ref ga, .int (nI n)])), (ga, .inl (cI, 96, .inl (fun jj => nI (g jj)))), (ro, .inl (cI, 97, .inl (fun jj => nI (zup f k (f k + 1) jj))))] H := hP
          have hD : va_D A [(h, .inr (4, [.ref G, .ref ro, .ref od, .int (nI so)])), (G, .inr (0, [.ref ga, .int (nI n)])), (ga, .inl (cI, 96, .inl (fun jj => nI (g jj)))), (ro, .inl (cI, 97, .inl (fun jj => nI (zup f k (f k + 1) jj))))] := hD
          refine lv_iinc (v := nI (k + 1)) (lv' := [(5, .int (nI (k + 1))), (7, .int (nI 0)), (6, .int (nI (g k))), (0, .ref h), (1, .int (nI p)), (2, .int (nI (g p))), (3, .int (nI (f0 (p + 1)))), (4, .int (nI row))]) hx hb dX4_insert_105 hl (k := 7) rfl (zincE (by omega)) (by decide) rfl (fun ls hl => ?_)
          refine lv_goto (tgt := 27) hx hb dX4_insert_108 (by decide) ?_
          exact ih (k + 1) row (zup f k (f k + 1)) (by omega) (by omega) (by omega) (by rw [zcnt_f (by simp only [decide_eq_true_eq]; omega)]; omega) (fun q h1 h2 => by rw [zup_n (by omega)]; exact ha q (by omega) h2) (fun q h1 h2 => by
            by_cases e : q = k
            · subst e
              rw [zup_s, ha q (Nat.le_refl _) (by omega), zB_step (a := p) (by omega), if_pos (by omega)]
            · rw [zup_n e]; exact hd q h1 (by omega)) _ _ hP hD hS ls (lv_sub hl [3, 4, 5, 6, 7, 0] rfl)
        · skip
          refine lv_aload_n hx hb dX4_insert_63 rfl (lv_at hl 1 rfl) ?_
          refine va_get (D := D) (ci := 4) (v := .ref ro) (C := RX4) (T := TX4) (N := 4) hx hb hts (fun w h => List.mem_cons_of_mem _ (inUX4 w h)) hown hK hP 0 rfl rfl 1 (by decide) (hts _ (List.mem_cons_of_mem _ mw_72)) (fun _ h9 => h9) rfl dX4_insert_64 ?_
          refine lv_iload hx hb dX4_insert_67 (lv_at hl 6 rfl) ?_
          refine lv_iconst (v := nI 1) hx hb dX4_insert_69 (by decide) ?_
          refine lv_iadd hx hb dX4_insert_70 ?_
          refine zz_top (y := nI (k + 1)) (zadd (by omega)) ?_
          refine zz_iald (k := k + 1) (f := f) hx hb hK hP 3 0 rfl rfl (by omega) (by omega) dX4_insert_71 ?_
          refine lv_iload_n hx hb dX4_insert_72 rfl (lv_at hl 4 rfl) ?_
          refine zz_ge (tgt := 80) hx hb dX4_insert_73 (by decide) (by omega) (by omega) (fun c73 => ?_) (fun c73 => ?_)
          · skip
            have hq : ¬ zkey n g k < zkey n g p := by omega
            refine lv_iconst (v := nI 0) hx hb dX4_insert_80 (by decide) ?_
            refine lv_istore (lv' := [(7, .int (nI 0)), (6, .int (nI (g k))), (0, .ref h), (1, .int (nI p)), (2, .int (nI (g p))), (3, .int (nI (f0 (p + 1)))), (4, .int (nI row)), (5, .int (nI k))]) hx hb dX4_insert_81 hl (by decide) rfl (fun ls hl => ?_)
            refine lv_iload hx hb dX4_insert_83 (lv_at hl 0 rfl) ?_
            refine lv_if_eq (tgt := 94) hx hb dX4_insert_85 (by decide) (fun _ => ?_) (fun h9 => absurd (by decide) h9)
            refine lv_aload_n hx hb dX4_insert_94 rfl (lv_at hl 2 rfl) ?_
            refine va_get (D := D) (ci := 4) (v := .ref ro) (C := RX4) (T := TX4) (N := 4) hx hb hts (fun w h => List.mem_cons_of_mem _ (inUX4 w h)) hown hK hP 0 rfl rfl 1 (by decide) (hts _ (List.mem_cons_of_mem _ mw_72)) (fun _ h9 => h9) rfl dX4_insert_95 ?_
            refine lv_iload hx hb dX4_insert_98 (lv_at hl 7 rfl) ?_
            refine lv_dup2_11 hx hb dX4_insert_100 rfl rfl ?_
            refine zz_iald (k := k) (f := f) hx hb hK hP 3 0 rfl rfl (by omega) (by omega) dX4_insert_101 ?_
            refine lv_iconst (v := nI 1) hx hb dX4_insert_102 (by decide) ?_
            refine lv_iadd hx hb dX4_insert_103 ?_
            refine zz_top (y := nI (f k + 1)) (zadd (by omega)) ?_
            refine zz_iast (k := k) (x := f k + 1) (f := f) hx hb hK hP hD hS 3 0 rfl rfl (by omega) (by omega) dX4_insert_104 (fun H locs hP hD hS => ?_)
            have hP : va_P D vwCl [(h, .inr (4, [.ref G, .ref ro, .ref od, .int (nI so)])), (G, .inr (0, [.ref ga, .int (nI n)])), (ga, .inl (cI, 96, .inl (fun jj => nI (g jj)))), (ro, .inl (cI, 97, .inl (fun jj => nI (zup f k (f k + 1) jj))))] H := hP
            have hD : va_D A [(h, .inr (4, [.ref G, .ref ro, .ref od, .int (nI so)])), (G, .inr (0, [.ref ga, .int (nI n)])), (ga, .inl (cI, 96, .inl (fun jj => nI (g jj)))), (ro, .inl (cI, 97, .inl (fun jj => nI (zup f k (f k + 1) jj))))] := hD
            refine lv_iinc (v := nI (k + 1)) (lv' := [(5, .int (nI (k + 1))), (7, .int (nI 0)), (6, .int (nI (g k))), (0, .ref h), (1, .int (nI p)), (2, .int (nI (g p))), (3, .int (nI (f0 (p + 1)))), (4, .int (nI row))]) hx hb dX4_insert_105 hl (k := 7) rfl (zincE (by omega)) (by decide) rfl (fun ls hl => ?_)
            refine lv_goto (tgt := 27) hx hb dX4_insert_108 (by decide) ?_
            exact ih (k + 1) row (zup f k (f k + 1)) (by omega) (by omega) (by omega) (by rw [zcnt_f (by simp only [decide_eq_true_eq]; omega)]; omega) (fun q h1 h2 => by rw [zup_n (by omega)]; exact ha q (by omega) h2) (fun q h1 h2 => by
              by_cases e : q = k
              · subst e
                rw [zup_s, ha q (Nat.le_refl _) (by omega), zB_step (a := p) (by omega), if_pos (by omega)]
              · rw [zup_n e]; exact hd q h1 (by omega)) _ _ hP hD hS ls (lv_sub hl [3, 4, 5, 6, 7, 0] rfl)
          · skip
            have hq : zkey n g k < zkey n g p := by omega
            refine lv_iconst (v := nI 1) hx hb dX4_insert_76 (by decide) ?_
            refine lv_goto (tgt := 81) hx hb dX4_insert_77 (by decide) ?_
            refine lv_istore (lv' := [(7, .int (nI 1)), (6, .int (nI (g k))), (0, .ref h), (1, .int (nI p)), (2, .int (nI (g p))), (3, .int (nI (f0 (p + 1)))), (4, .int (nI row)), (5, .int (nI k))]) hx hb dX4_insert_81 hl (by decide) rfl (fun ls hl => ?_)
            refine lv_iload hx hb dX4_insert_83 (lv_at hl 0 rfl) ?_
            refine lv_if_eq (tgt := 94) hx hb dX4_insert_85 (by decide) (fun h9 => absurd h9 (by decide)) (fun _ => ?_)
            refine lv_iinc (v := nI (row + 1)) (lv' := [(4, .int (nI (row + 1))), (7, .int (nI 1)), (6, .int (nI (g k))), (0, .ref h), (1, .int (nI p)), (2, .int (nI (g p))), (3, .int (nI (f0 (p + 1)))), (5, .int (nI k))]) hx hb dX4_insert_88 hl (k := 6) rfl (zincE (by omega)) (by decide) rfl (fun ls hl => ?_)
            refine lv_goto (tgt := 105) hx hb dX4_insert_91 (by decide) ?_
            refine lv_iinc (v := nI (k + 1)) (lv' := [(5, .int (nI (k + 1))), (4, .int (nI (row + 1))), (7, .int (nI 1)), (6, .int (nI (g k))), (0, .ref h), (1, .int (nI p)), (2, .int (nI (g p))), (3, .int (nI (f0 (p + 1))))]) hx hb dX4_insert_105 hl (k := 7) rfl (zincE (by omega)) (by decide) rfl (fun ls hl => ?_)
            refine lv_goto (tgt := 27) hx hb dX4_insert_108 (by decide) ?_
            exact ih (k + 1) (row + 1) f (by omega) (by omega) (by omega) (by rw [zcnt_t (by simp only [decide_eq_true_eq]; omega)]; omega) (fun q h1 h2 => ha q (by omega) h2) (fun q h1 h2 => by
              by_cases e : q = k
              · subst e
                rw [ha q (Nat.le_refl _) (by omega), zB_step (a := p) (by omega), if_neg (by omega)]; rfl
              · exact hd q h1 (by omega)) _ _ hP hD hS ls (lv_sub hl [4, 5, 6, 7, 1, 0] rfl)
set_option maxHeartbeats 4000000 in
set_option maxRecDepth 100000 in
theorem k_insert (l : Launch) (D : va_G) (cI cC : ClassId)  (h G ro od so ga n : Nat) (p : Nat) (g f0 : Nat → Nat) (hn : n ≤ 96) (hp : p < n) (hg : ∀ i, g i ≤ 4) (hf : ∀ q, p + 1 ≤ q → q ≤ n → f0 q = zB n g (p + 1) q) (sz : Nat) : Met l yX4_insert wsX4_insert ({ frames := 0, cells := 0, slots := 0, locals := 0 } : Room) (zPre zEn D vwCl [(cI, .int), (cC, .char)] [.ref h, .int (nI p)] [(h, .inr (4, [.ref G, .ref ro, .ref od, .int (nI so)])), (G, .inr (0, [.ref ga, .int (nI n)])), (ga, .inl (cI, 96, .inl (fun jj => nI (g jj)))), (ro, .inl (cI, 97, .inl (fun jj => nI (f0 jj))))] sz) (va_Qv (fun (uu : Nat → Nat) => ∀ q, p ≤ q → q ≤ n → uu q = zB n g p q) (fun (uu : Nat → Nat) t9 => va_P D vwCl ([(h, .inr (4, [.ref G, .ref ro, .ref od, .int (nI so)])), (G, .inr (0, [.ref ga, .int (nI n)])), (ga, .inl (cI, 96, .inl (fun jj => nI (g jj)))), (ro, .inl (cI, 97, .inl (fun jj => nI (uu jj))))]) t9.heap) (va_A [(h, .inr (4, [.ref G, .ref ro, .ref od, .int (nI so)])), (G, .inr (0, [.ref ga, .int (nI n)])), (ga, .inl (cI, 96, .inl (fun jj => nI (g jj)))), (ro, .inl (cI, 97, .inl (fun jj => nI (f0 jj))))] sz)) 0 0 (va_A [(h, .inr (4, [.ref G, .ref ro, .ref od, .int (nI so)])), (G, .inr (0, [.ref ga, .int (nI n)])), (ga, .inl (cI, 96, .inl (fun jj => nI (g jj)))), (ro, .inl (cI, 97, .inl (fun jj => nI (f0 jj))))] sz) := by
  refine zMet (cc := cX4_insert) (maxL := 8) (ret := none) (Qc := fun A => (va_Qv (fun (uu : Nat → Nat) => ∀ q, p ≤ q → q ≤ n → uu q = zB n g p q) (fun (uu : Nat → Nat) t9 => va_P D vwCl ([(h, .inr (4, [.ref G, .ref ro, .ref od, .int (nI so)])), (G, .inr (0, [.ref ga, .int (nI n)])), (ga, .inl (cI, 96, .inl (fun jj => nI (g jj)))), (ro, .inl (cI, 97, .inl (fun jj => nI (uu jj))))]) t9.heap) A)) (by decide) rfl (Nat.le_of_ble_eq_true rfl) ?_
  intro pr en s0 mi bl me co A hC hA hK hE H locs hP hD hS ls hl
  obtain ⟨hx, hb, hr, hml, hown, hts, hlocks, hin⟩ := id hC
  have hl : lv_has ls 8 [(0, .ref h), (1, .int (nI p))] := hl
  refine lv_aload_n hx hb dX4_insert_0 rfl (lv_at hl 0 rfl) ?_
  refine va_get (D := D) (ci := 4) (v := .ref G) (C := RX4) (T := TX4) (N := 4) hx hb hts (fun w h => List.mem_cons_of_mem _ (inUX4 w h)) hown hK hP 0 rfl rfl 0 (by decide) (hts _ (List.mem_cons_of_mem _ mw_71)) (fun _ h9 => h9) rfl dX4_insert_1 ?_
  refine va_getN (D := D) (ci := 0) (v := .ref ga) (C := RX0) (T := TX0) (N := 2) hx hb hts (fun w h => List.mem_cons_of_mem _ (inUX0 w h)) hown hK hP 1 rfl rfl 0 (by decide) (va_Nw.use rfl (hE.1 ("StrandMapper$SortedSuffixes", 43, "StrandMapper$Bases", "symbols", "[I", "StrandMapper") (by decide +kernel))) (fun _ h9 => h9) rfl dX4_insert_4 ?_
  refine lv_iload_n hx hb dX4_insert_7 rfl (lv_at hl 1 rfl) ?_
  refine zz_iald (k := p) (f := g) hx hb hK hP 2 0 rfl rfl (by omega) (by omega) dX4_insert_8 ?_
  refine lv_istore_n (lv' := [(2, .int (nI (g p))), (0, .ref h), (1, .int (nI p))]) hx hb dX4_insert_9 rfl hl (by decide) rfl (fun ls hl => ?_)
  refine lv_aload_n hx hb dX4_insert_10 rfl (lv_at hl 1 rfl) ?_
  refine va_get (D := D) (ci := 4) (v := .ref ro) (C := RX4) (T := TX4) (N := 4) hx hb hts (fun w h => List.mem_cons_of_mem _ (inUX4 w h)) hown hK hP 0 rfl rfl 1 (by decide) (hts _ (List.mem_cons_of_mem _ mw_72)) (fun _ h9 => h9) rfl dX4_insert_11 ?_
  refine lv_iload_n hx hb dX4_insert_14 rfl (lv_at hl 2 rfl) ?_
  refine lv_iconst (v := nI 1) hx hb dX4_insert_15 (by decide) ?_
  refine lv_iadd hx hb dX4_insert_16 ?_
  refine zz_top (y := nI (p + 1)) (zadd (by omega)) ?_
  refine zz_iald (k := p + 1) (f := f0) hx hb hK hP 3 0 rfl rfl (by omega) (by omega) dX4_insert_17 ?_
  refine lv_istore_n (lv' := [(3, .int (nI (f0 (p + 1)))), (2, .int (nI (g p))), (0, .ref h), (1, .int (nI p))]) hx hb dX4_insert_18 rfl hl (by decide) rfl (fun ls hl => ?_)
  refine lv_iconst (v := nI 1) hx hb dX4_insert_19 (by decide) ?_
  refine lv_istore (lv' := [(4, .int (nI 1)), (3, .int (nI (f0 (p + 1)))), (2, .int (nI (g p))), (0, .ref h), (1, .int (nI p))]) hx hb dX4_insert_20 hl (by decide) rfl (fun ls hl => ?_)
  refine lv_iload_n hx hb dX4_insert_22 rfl (lv_at hl 4 rfl) ?_
  refine lv_iconst (v := nI 1) hx hb dX4_insert_23 (by decide) ?_
  refine lv_iadd hx hb dX4_insert_24 ?_
  refine zz_top (y := nI (p + 1)) (zadd (by omega)) ?_
  refine lv_istore (lv' := [(5, .int (nI (p + 1))), (4, .int (nI 1)), (3, .int (nI (f0 (p + 1)))), (2, .int (nI (g p))), (0, .ref h), (1, .int (nI p))]) hx hb dX4_insert_25 hl (by decide) rfl (fun ls hl => ?_)
  exact k_insert_L27 l D cI cC  h G ro od so ga n p g f0 hn hp hg hf hC hA hK hE _ (p + 1) 1 f0 (Nat.lt_succ_self _) (Nat.le_refl _) (by omega) (by rw [zcnt_none (p + 1) (fun i hi => by simp only [decide_eq_true_eq]; omega)]) (fun q h1 h2 => hf q h1 h2) (fun q h1 h2 => absurd h1 (by omega)) _ _ hP hD hS ls (lv_sub hl [4, 5, 3, 2, 1, 0] rfl)
set_option maxHeartbeats 4000000 in
set_option maxRecDepth 100000 in
theorem k_sort_L40 {pr : Program} {en : Env} {s0 : State} {mi : MethodId} {bl : List Frame} {me : Method} {co : Code} {A : Nat → Prop} (l : Launch) (D : va_G) (cI cC : ClassId)  (h G ro od so ga n : Nat) (g f0 o0 : Nat → Nat) (hn : n ≤ 96) (hg : ∀ i, g i ≤ 4) (hC : zK pr s0 mi ([.ref h] : List Value).toArray me co cX4_sort 2 none yX4_sort wsX4_sort) (hA : ∀ q, s0.heap.size ≤ q → A q) (hK : va_K D vwCl [(cI, .int), (cC, .char)] s0) (hE : zEn A s0 s0.heap) :
    ∀ (N : Nat) (k : Nat) (f o : Nat → Nat), n + 1 - k < N → (k ≤ n + 1) → (∀ q, q ≤ n → f q = zbef n g q) → (∀ q, q < k → o (zbef n g q) = q) → ∀ (H : Heap) (locs : List Loc), va_P D vwCl [(h, .inr (4, [.ref G, .ref ro, .ref od, .int (nI so)])), (G, .inr (0, [.ref ga, .int (nI n)])), (ga, .inl (cI, 96, .inl (fun jj => nI (g jj)))), (ro, .inl (cI, 97, .inl (fun jj => nI (f jj)))), (od, .inl (cI, 97, .inl (fun jj => nI (o jj))))] H → va_D A [(h, .inr (4, [.ref G, .ref ro, .ref od, .int (nI so)])), (G, .inr (0, [.ref ga, .int (nI n)])), (ga, .inl (cI, 96, .inl (fun jj => nI (g jj)))), (ro, .inl (cI, 97, .inl (fun jj => nI (f jj)))), (od, .inl (cI, 97, .inl (fun jj => nI (o jj))))] → va_S A s0.heap H locs → ∀ ls : Array Slot, lv_has ls 2 [(0, .ref h), (1, .int (nI k))] → W pr l en ({ frames := 1, cells := 0, slots := 0, locals := 27 } : Room) s0 mi ([.ref h] : List Value).toArray bl me co H locs 0 0 (MQ bl (va_Qv (fun (uu : (Nat → Nat) × (Nat → Nat)) => zord n g uu.2) (fun (uu : (Nat → Nat) × (Nat → Nat)) t9 => va_P D vwCl ([(h, .inr (4, [.ref G, .ref ro, .ref od, .int (nI 1)])), (G, .inr (0, [.ref ga, .int (nI n)])), (ga, .inl (cI, 96, .inl (fun jj => nI (g jj)))), (ro, .inl (cI, 97, .inl (fun jj => nI (uu.1 jj)))), (od, .inl (cI, 97, .inl (fun jj => nI (uu.2 jj))))]) t9.heap) A) ([.ref h] : List Value).toArray s0 0 0 A) (F0 mi 40 ls []) := by
  obtain ⟨hx, hb, hr, hml, hown, hts, hlocks, hin⟩ := id hC
  intro N
  induction N with
  | zero =>
    intro k f o hmea
    omega
  | succ N ih =>
    intro k f o hmea hk hf ho H locs hP hD hS ls hl
    refine lv_iload_n hx hb dX4_sort_40 rfl (lv_at hl 1 rfl) ?_
    refine lv_aload_n hx hb dX4_sort_41 rfl (lv_at hl 0 rfl) ?_
    refine va_get (D := D) (ci := 4) (v := .ref G) (C := RX4) (T := TX4) (N := 4) hx hb hts (fun w h => List.mem_cons_of_mem _ (inUX4 w h)) hown hK hP 0 rfl rfl 0 (by decide) (hts _ (List.mem_cons_of_mem _ mw_71)) (fun _ h9 => h9) rfl dX4_sort_42 ?_
    refine va_getN (D := D) (ci := 0) (v := .int (nI n)) (C := RX0) (T := TX0) (N := 2) hx hb hts (fun w h => List.mem_cons_of_mem _ (inUX0 w h)) hown hK hP 1 rfl rfl 1 (by decide) (va_Nw.use rfl (hE.1 ("StrandMapper$SortedSuffixes", 26, "StrandMapper$Bases", "used", "I", "StrandMapper") (by decide +kernel))) (fun _ h9 => h9) rfl dX4_sort_45 ?_
    refine zz_gt (tgt := 69) hx hb dX4_sort_48 (by decide) (by omega) (by omega) (fun c48 => ?_) (fun c48 => ?_)
    · skip
      refine lv_aload_n hx hb dX4_sort_69 rfl (lv_at hl 0 rfl) ?_
      refine lv_iconst (v := nI 1) hx hb dX4_sort_70 (by decide) ?_
      refine va_put (D := D) (ci := 4) (v := .int (nI 1)) (ty := .boolean) (C := RX4) (T := TX4) (N := 4) hx hb hts (fun w h => List.mem_cons_of_mem _ (inUX4 w h)) tyX4 tyX4_ok nmX4 hown hK hP hD hS 0 rfl rfl 3 (by decide) (hts _ (List.mem_cons_of_mem _ mw_74)) (fun _ h9 => h9) rfl (by decide +kernel) (by decide) (by decide) (Nat.le_of_ble_eq_true rfl) dX4_sort_71 (fun H locs hP hD hS => ?_)
      have hP : va_P D vwCl [(h, .inr (4, [.ref G, .ref ro, .ref od, .int (nI 1)])), (G, .inr (0, [.ref ga, .int (nI n)])), (ga, .inl (cI, 96, .inl (fun jj => nI (g jj)))), (ro, .inl (cI, 97, .inl (fun jj => nI (f jj)))), (od, .inl (cI, 97, .inl (fun jj => nI (o jj))))] H := hP
      have hD : va_D A [(h, .inr (4, [.ref G, .ref ro, .ref od, .int (nI 1)])), (G, .inr (0, [.ref ga, .int (nI n)])), (ga, .inl (cI, 96, .inl (fun jj => nI (g jj)))), (ro, .inl (cI, 97, .inl (fun jj => nI (f jj)))), (od, .inl (cI, 97, .inl (fun jj => nI (o jj))))] := hD
      exact zVret hC hS (f, o) (fun q h => ho q (by omega)) hP dX4_sort_74
    · skip
      have e1 := hf k (by omega)
      have e2 := zbef_le (n := n) (g := g) (p := k) (by omega)
      refine lv_aload_n hx hb dX4_sort_51 rfl (lv_at hl 0 rfl) ?_
      refine va_get (D := D) (ci := 4) (v := .ref od) (C := RX4) (T := TX4) (N := 4) hx hb hts (fun w h => List.mem_cons_of_mem _ (inUX4 w h)) hown hK hP 0 rfl rfl 2 (by decide) (hts _ (List.mem_cons_of_mem _ mw_73)) (fun _ h9 => h9) rfl dX4_sort_52 ?_
      refine lv_aload_n hx hb dX4_sort_55 rfl (lv_at hl 0 rfl) ?_
      refine va_get (D := D) (ci := 4) (v := .ref ro) (C := RX4) (T := TX4) (N := 4) hx hb hts (fun w h => List.mem_cons_of_mem _ (inUX4 w h)) hown hK hP 0 rfl rfl 1 (by decide) (hts _ (List.mem_cons_of_mem _ mw_72)) (fun _ h9 => h9) rfl dX4_sort_56 ?_
      refine lv_iload_n hx hb dX4_sort_59 rfl (lv_at hl 1 rfl) ?_
      refine zz_iald (k := k) (f := f) hx hb hK hP 3 0 rfl rfl (by omega) (by omega) dX4_sort_60 ?_
      refine lv_iload_n hx hb dX4_sort_61 rfl (lv_at hl 1 rfl) ?_
      refine zz_iast (k := f k) (x := k) (f := o) hx hb hK hP hD hS 4 0 rfl rfl (by omega) (by omega) dX4_sort_62 (fun H locs hP hD hS => ?_)
      have hP : va_P D vwCl [(h, .inr (4, [.ref G, .ref ro, .ref od, .int (nI so)])), (G, .inr (0, [.ref ga, .int (nI n)])), (ga, .inl (cI, 96, .inl (fun jj => nI (g jj)))), (ro, .inl (cI, 97, .inl (fun jj => nI (f jj)))), (od, .inl (cI, 97, .inl (fun jj => nI (zup o (f k) k jj))))] H := hP
      have hD : va_D A [(h, .inr (4, [.ref G, .ref ro, .ref od, .int (nI so)])), (G, .inr (0, [.ref ga, .int (nI n)])), (ga, .inl (cI, 96, .inl (fun jj => nI (g jj)))), (ro, .inl (cI, 97, .inl (fun jj => nI (f jj)))), (od, .inl (cI, 97, .inl (fun jj => nI (zup o (f k) k jj))))] := hD
      refine lv_iinc (v := nI (k + 1)) (lv' := [(1, .int (nI (k + 1))), (0, .ref h)]) hx hb dX4_sort_63 hl (k := 1) rfl (zincE (by omega)) (by decide) rfl (fun ls hl => ?_)
      refine lv_goto (tgt := 40) hx hb dX4_sort_66 (by decide) ?_
      exact ih (k + 1) f (zup o (f k) k) (by omega) (by omega) hf (fun q h => by
        by_cases e : q = k
        · subst e
          rw [hf q (by omega), zup_s]
        · rw [zup_n (fun z => e (zbef_inj hg hn (by omega) (by omega) (z.trans (hf k (by omega)))))]
          exact ho q (by omega)) _ _ hP hD hS ls (lv_sub hl [1, 0] rfl)
set_option maxHeartbeats 4000000 in
set_option maxRecDepth 100000 in
theorem k_sort_L23 {pr : Program} {en : Env} {s0 : State} {mi : MethodId} {bl : List Frame} {me : Method} {co : Code} {A : Nat → Prop} (l : Launch) (D : va_G) (cI cC : ClassId)  (h G ro od so ga n : Nat) (g f0 o0 : Nat → Nat) (hn : n ≤ 96) (hg : ∀ i, g i ≤ 4) (hC : zK pr s0 mi ([.ref h] : List Value).toArray me co cX4_sort 2 none yX4_sort wsX4_sort) (hA : ∀ q, s0.heap.size ≤ q → A q) (hK : va_K D vwCl [(cI, .int), (cC, .char)] s0) (hE : zEn A s0 s0.heap) :
    ∀ (N : Nat) (j : Nat) (f : Nat → Nat), j < N → (j ≤ n) → (∀ q, j ≤ q → q ≤ n → f q = zB n g j q) → ∀ (H : Heap) (locs : List Loc), va_P D vwCl [(h, .inr (4, [.ref G, .ref ro, .ref od, .int (nI so)])), (G, .inr (0, [.ref ga, .int (nI n)])), (ga, .inl (cI, 96, .inl (fun jj => nI (g jj)))), (ro, .inl (cI, 97, .inl (fun jj => nI (f jj)))), (od, .inl (cI, 97, .inl (fun jj => nI (o0 jj))))] H → va_D A [(h, .inr (4, [.ref G, .ref ro, .ref od, .int (nI so)])), (G, .inr (0, [.ref ga, .int (nI n)])), (ga, .inl (cI, 96, .inl (fun jj => nI (g jj)))), (ro, .inl (cI, 97, .inl (fun jj => nI (f jj)))), (od, .inl (cI, 97, .inl (fun jj => nI (o0 jj))))] → va_S A s0.heap H locs → ∀ ls : Array Slot, lv_has ls 2 [(0, .ref h), (1, .int (zi j))] → W pr l en ({ frames := 1, cells := 0, slots := 0, locals := 27 } : Room) s0 mi ([.ref h] : List Value).toArray bl me co H locs 0 0 (MQ bl (va_Qv (fun (uu : (Nat → Nat) × (Nat → Nat)) => zord n g uu.2) (fun (uu : (Nat → Nat) × (Nat → Nat)) t9 => va_P D vwCl ([(h, .inr (4, [.ref G, .ref ro, .ref od, .int (nI 1)])), (G, .inr (0, [.ref ga, .int (nI n)])), (ga, .inl (cI, 96, .inl (fun jj => nI (g jj)))), (ro, .inl (cI, 97, .inl (fun jj => nI (uu.1 jj)))), (od, .inl (cI, 97, .inl (fun jj => nI (uu.2 jj))))]) t9.heap) A) ([.ref h] : List Value).toArray s0 0 0 A) (F0 mi 23 ls []) := by
  obtain ⟨hx, hb, hr, hml, hown, hts, hlocks, hin⟩ := id hC
  intro N
  induction N with
  | zero =>
    intro j f hmea
    omega
  | succ N ih =>
    intro j f hmea hj hf H locs hP hD hS ls hl
    cases j with
    | zero =>
      have hl : lv_has ls 2 [(0, .ref h), (1, .int ((-1)))] := hl
      have hP : va_P D vwCl [(h, .inr (4, [.ref G, .ref ro, .ref od, .int (nI so)])), (G, .inr (0, [.ref ga, .int (nI n)])), (ga, .inl (cI, 96, .inl (fun jj => nI (g jj)))), (ro, .inl (cI, 97, .inl (fun jj => nI (f jj)))), (od, .inl (cI, 97, .inl (fun jj => nI (o0 jj))))] H := hP
      have hD : va_D A [(h, .inr (4, [.ref G, .ref ro, .ref od, .int (nI so)])), (G, .inr (0, [.ref ga, .int (nI n)])), (ga, .inl (cI, 96, .inl (fun jj => nI (g jj)))), (ro, .inl (cI, 97, .inl (fun jj => nI (f jj)))), (od, .inl (cI, 97, .inl (fun jj => nI (o0 jj))))] := hD
      refine lv_iload_n hx hb dX4_sort_23 rfl (lv_at hl 1 rfl) ?_
      refine lv_if_lt (tgt := 38) hx hb dX4_sort_24 (by decide) (fun c24 => ?_) (fun c24 => ?_)
      · skip
        refine lv_iconst (v := nI 0) hx hb dX4_sort_38 (by decide) ?_
        refine lv_istore_n (lv' := [(1, .int (nI 0)), (0, .ref h)]) hx hb dX4_sort_39 rfl hl (by decide) rfl (fun ls hl => ?_)
        exact k_sort_L40 l D cI cC  h G ro od so ga n g f0 o0 hn hg hC hA hK hE _ 0 f o0 (Nat.lt_succ_self _) (Nat.zero_le _) (fun q h => hf q (Nat.zero_le _) h) (fun q h => absurd h (Nat.not_lt_zero _)) _ _ hP hD hS ls (lv_sub hl [1, 0] rfl)
      · skip
        exact absurd (by decide) c24
    | succ j =>
      have hl : lv_has ls 2 [(0, .ref h), (1, .int (nI j))] := hl
      have hP : va_P D vwCl [(h, .inr (4, [.ref G, .ref ro, .ref od, .int (nI so)])), (G, .inr (0, [.ref ga, .int (nI n)])), (ga, .inl (cI, 96, .inl (fun jj => nI (g jj)))), (ro, .inl (cI, 97, .inl (fun jj => nI (f jj)))), (od, .inl (cI, 97, .inl (fun jj => nI (o0 jj))))] H := hP
      have hD : va_D A [(h, .inr (4, [.ref G, .ref ro, .ref od, .int (nI so)])), (G, .inr (0, [.ref ga, .int (nI n)])), (ga, .inl (cI, 96, .inl (fun jj => nI (g jj)))), (ro, .inl (cI, 97, .inl (fun jj => nI (f jj)))), (od, .inl (cI, 97, .inl (fun jj => nI (o0 jj))))] := hD
      refine lv_iload_n hx hb dX4_sort_23 rfl (lv_at hl 1 rfl) ?_
      refine zz_lt0 (tgt := 38) hx hb dX4_sort_24 (by decide) (by omega) ?_
      refine lv_aload_n hx hb dX4_sort_27 rfl (lv_at hl 0 rfl) ?_
      refine lv_iload_n hx hb dX4_sort_28 rfl (lv_at hl 1 rfl) ?_
      refine zCv (is := [0, 1, 2, 3]) (wf := (fun (uu : Nat → Nat) => ([(h, .inr (4, [.ref G, .ref ro, .ref od, .int (nI so)])), (G, .inr (0, [.ref ga, .int (nI n)])), (ga, .inl (cI, 96, .inl (fun jj => nI (g jj)))), (ro, .inl (cI, 97, .inl (fun jj => nI (uu jj))))] : va_W))) (va_runV (As := [.int (nI j)]) (rest := []) ⟨hx, hb, hml, hown, hts⟩ (k_insert l D cI cC  h G ro od so ga n j g f (by omega) (by omega) hg (fun q h1 h2 => hf q h1 h2) H.size) (cwV 1 hts (zgood mw_243 mw_245 mw_1 mw_28 mw_246) rfl rfl rfl (by decide +kernel) ⟨Nat.le_of_ble_eq_true rfl, Nat.le_of_ble_eq_true rfl⟩) ⟨zBlind zEn_ok, va_recv hK hP (ci := 4) (q0 := 0) rfl rfl, zAt (av := [.ref h, .int (nI j)]) zEn_ok hP hD hK hS hA hE [0, 1, 2, 3] rfl (by decide)⟩ rfl rfl hl.1 rfl (lv_room (Nat.le_of_ble_eq_true rfl)) dX4_sort_29 ⟨Nat.zero_le _, Nat.zero_le _⟩) hP hD hS hA rfl (fun _ => rfl) (fun u29 H locs w29 hP hD hS => ?_)
      have hP : va_P D vwCl [(h, .inr (4, [.ref G, .ref ro, .ref od, .int (nI so)])), (G, .inr (0, [.ref ga, .int (nI n)])), (ga, .inl (cI, 96, .inl (fun jj => nI (g jj)))), (ro, .inl (cI, 97, .inl (fun jj => nI (u29 jj)))), (od, .inl (cI, 97, .inl (fun jj => nI (o0 jj))))] H := hP
      have hD : va_D A [(h, .inr (4, [.ref G, .ref ro, .ref od, .int (nI so)])), (G, .inr (0, [.ref ga, .int (nI n)])), (ga, .inl (cI, 96, .inl (fun jj => nI (g jj)))), (ro, .inl (cI, 97, .inl (fun jj => nI (u29 jj)))), (od, .inl (cI, 97, .inl (fun jj => nI (o0 jj))))] := hD
      refine lv_iinc (v := zi j) (lv' := [(1, .int (zi j)), (0, .ref h)]) hx hb dX4_sort_32 hl (k := 1) rfl (zi_dec j) (by decide) rfl (fun ls hl => ?_)
      refine lv_goto (tgt := 23) hx hb dX4_sort_35 (by decide) ?_
      exact ih j u29 (by omega) (by omega) (fun q h1 h2 => w29 q h1 h2) _ _ hP hD hS ls (lv_sub hl [1, 0] rfl)
set_option maxHeartbeats 4000000 in
set_option maxRecDepth 100000 in
theorem k_sort (l : Launch) (D : va_G) (cI cC : ClassId)  (h G ro od so ga n : Nat) (g f0 o0 : Nat → Nat) (hn : n ≤ 96) (hg : ∀ i, g i ≤ 4) (sz : Nat) : Met l yX4_sort wsX4_sort ({ frames := 1, cells := 0, slots := 0, locals := 27 } : Room) (zPre zEn D vwCl [(cI, .int), (cC, .char)] [.ref h] [(h, .inr (4, [.ref G, .ref ro, .ref od, .int (nI so)])), (G, .inr (0, [.ref ga, .int (nI n)])), (ga, .inl (cI, 96, .inl (fun jj => nI (g jj)))), (ro, .inl (cI, 97, .inl (fun jj => nI (f0 jj)))), (od, .inl (cI, 97, .inl (fun jj => nI (o0 jj))))] sz) (va_Qv (fun (uu : (Nat → Nat) × (Nat → Nat)) => zord n g uu.2) (fun (uu : (Nat → Nat) × (Nat → Nat)) t9 => va_P D vwCl ([(h, .inr (4, [.ref G, .ref ro, .ref od, .int (nI 1)])), (G, .inr (0, [.ref ga, .int (nI n)])), (ga, .inl (cI, 96, .inl (fun jj => nI (g jj)))), (ro, .inl (cI, 97, .inl (fun jj => nI (uu.1 jj)))), (od, .inl (cI, 97, .inl (fun jj => nI (uu.2 jj))))]) t9.heap) (va_A [(h, .inr (4, [.ref G, .ref ro, .ref od, .int (nI so)])), (G, .inr (0, [.ref ga, .int (nI n)])), (ga, .inl (cI, 96, .inl (fun jj => nI (g jj)))), (ro, .inl (cI, 97, .inl (fun jj => nI (f0 jj)))), (od, .inl (cI, 97, .inl (fun jj => nI (o0 jj))))] sz)) 0 0 (va_A [(h, .inr (4, [.ref G, .ref ro, .ref od, .int (nI so)])), (G, .inr (0, [.ref ga, .int (nI n)])), (ga, .inl (cI, 96, .inl (fun jj => nI (g jj)))), (ro, .inl (cI, 97, .inl (fun jj => nI (f0 jj)))), (od, .inl (cI, 97, .inl (fun jj => nI (o0 jj))))] sz) := by
  refine zMet (cc := cX4_sort) (maxL := 2) (ret := none) (Qc := fun A => (va_Qv (fun (uu : (Nat → Nat) × (Nat → Nat)) => zord n g uu.2) (fun (uu : (Nat → Nat) × (Nat → Nat)) t9 => va_P D vwCl ([(h, .inr (4, [.ref G, .ref ro, .ref od, .int (nI 1)])), (G, .inr (0, [.ref ga, .int (nI n)])), (ga, .inl (cI, 96, .inl (fun jj => nI (g jj)))), (ro, .inl (cI, 97, .inl (fun jj => nI (uu.1 jj)))), (od, .inl (cI, 97, .inl (fun jj => nI (uu.2 jj))))]) t9.heap) A)) (by decide) rfl (Nat.le_of_ble_eq_true rfl) ?_
  intro pr en s0 mi bl me co A hC hA hK hE H locs hP hD hS ls hl
  obtain ⟨hx, hb, hr, hml, hown, hts, hlocks, hin⟩ := id hC
  have hl : lv_has ls 2 [(0, .ref h)] := hl
  refine lv_aload_n hx hb dX4_sort_0 rfl (lv_at hl 0 rfl) ?_
  refine va_get (D := D) (ci := 4) (v := .ref ro) (C := RX4) (T := TX4) (N := 4) hx hb hts (fun w h => List.mem_cons_of_mem _ (inUX4 w h)) hown hK hP 0 rfl rfl 1 (by decide) (hts _ (List.mem_cons_of_mem _ mw_72)) (fun _ h9 => h9) rfl dX4_sort_1 ?_
  refine lv_aload_n hx hb dX4_sort_4 rfl (lv_at hl 0 rfl) ?_
  refine va_get (D := D) (ci := 4) (v := .ref G) (C := RX4) (T := TX4) (N := 4) hx hb hts (fun w h => List.mem_cons_of_mem _ (inUX4 w h)) hown hK hP 0 rfl rfl 0 (by decide) (hts _ (List.mem_cons_of_mem _ mw_71)) (fun _ h9 => h9) rfl dX4_sort_5 ?_
  refine va_getN (D := D) (ci := 0) (v := .int (nI n)) (C := RX0) (T := TX0) (N := 2) hx hb hts (fun w h => List.mem_cons_of_mem _ (inUX0 w h)) hown hK hP 1 rfl rfl 1 (by decide) (va_Nw.use rfl (hE.1 ("StrandMapper$SortedSuffixes", 26, "StrandMapper$Bases", "used", "I", "StrandMapper") (by decide +kernel))) (fun _ h9 => h9) rfl dX4_sort_8 ?_
  refine lv_iconst (v := nI 0) hx hb dX4_sort_11 (by decide) ?_
  refine zz_iast (k := n) (x := 0) (f := f0) hx hb hK hP hD hS 3 0 rfl rfl (by omega) (by omega) dX4_sort_12 (fun H locs hP hD hS => ?_)
  have hP : va_P D vwCl [(h, .inr (4, [.ref G, .ref ro, .ref od, .int (nI so)])), (G, .inr (0, [.ref ga, .int (nI n)])), (ga, .inl (cI, 96, .inl (fun jj => nI (g jj)))), (ro, .inl (cI, 97, .inl (fun jj => nI (zup f0 n 0 jj)))), (od, .inl (cI, 97, .inl (fun jj => nI (o0 jj))))] H := hP
  have hD : va_D A [(h, .inr (4, [.ref G, .ref ro, .ref od, .int (nI so)])), (G, .inr (0, [.ref ga, .int (nI n)])), (ga, .inl (cI, 96, .inl (fun jj => nI (g jj)))), (ro, .inl (cI, 97, .inl (fun jj => nI (zup f0 n 0 jj)))), (od, .inl (cI, 97, .inl (fun jj => nI (o0 jj))))] := hD
  refine lv_aload_n hx hb dX4_sort_13 rfl (lv_at hl 0 rfl) ?_
  refine va_get (D := D) (ci := 4) (v := .ref G) (C := RX4) (T := TX4) (N := 4) hx hb hts (fun w h => List.mem_cons_of_mem _ (inUX4 w h)) hown hK hP 0 rfl rfl 0 (by decide) (hts _ (List.mem_cons_of_mem _ mw_71)) (fun _ h9 => h9) rfl dX4_sort_14 ?_
  refine va_getN (D := D) (ci := 0) (v := .int (nI n)) (C := RX0) (T := TX0) (N := 2) hx hb hts (fun w h => List.mem_cons_of_mem _ (inUX0 w h)) hown hK hP 1 rfl rfl 1 (by decide) (va_Nw.use rfl (hE.1 ("StrandMapper$SortedSuffixes", 26, "StrandMapper$Bases", "used", "I", "StrandMapper") (by decide +kernel))) (fun _ h9 => h9) rfl dX4_sort_17 ?_
  refine lv_iconst (v := nI 1) hx hb dX4_sort_20 (by decide) ?_
  refine lv_isub hx hb dX4_sort_21 ?_
  refine zz_top (y := zi n) (zi_sub n) ?_
  refine lv_istore_n (lv' := [(1, .int (zi n)), (0, .ref h)]) hx hb dX4_sort_22 rfl hl (by decide) rfl (fun ls hl => ?_)
  exact k_sort_L23 l D cI cC  h G ro od so ga n g f0 o0 hn hg hC hA hK hE _ n (zup f0 n 0) (Nat.lt_succ_self _) (Nat.le_refl _) (fun q h1 h2 => by rw [show q = n by omega, zup_s, zB_n]) _ _ hP hD hS ls (lv_sub hl [1, 0] rfl)
set_option maxHeartbeats 4000000 in
set_option maxRecDepth 100000 in
theorem k_placeOfRow (l : Launch) (D : va_G) (cI cC : ClassId)  (h G ro od so ga n : Nat) (i : Nat) (g f0 o0 : Nat → Nat) (hn : n ≤ 96) (hg : ∀ i, g i ≤ 4) (hi : i ≤ n) (hso : so = 0 ∨ (so = 1 ∧ zord n g o0)) (sz : Nat) : Met l yX4_placeOfRow wsX4_placeOfRow ({ frames := 2, cells := 0, slots := 0, locals := 48 } : Room) (zPre zEn D vwCl [(cI, .int), (cC, .char)] [.ref h, .int (nI i)] [(h, .inr (4, [.ref G, .ref ro, .ref od, .int (nI so)])), (G, .inr (0, [.ref ga, .int (nI n)])), (ga, .inl (cI, 96, .inl (fun jj => nI (g jj)))), (ro, .inl (cI, 97, .inl (fun jj => nI (f0 jj)))), (od, .inl (cI, 97, .inl (fun jj => nI (o0 jj))))] sz) (va_Qi (fun (rv : Int32) (uu : (Nat → Nat) × (Nat → Nat)) => rv = nI (uu.2 i) ∧ zord n g uu.2) (fun (uu : (Nat → Nat) × (Nat → Nat)) t9 => va_P D vwCl ([(h, .inr (4, [.ref G, .ref ro, .ref od, .int (nI 1)])), (G, .inr (0, [.ref ga, .int (nI n)])), (ga, .inl (cI, 96, .inl (fun jj => nI (g jj)))), (ro, .inl (cI, 97, .inl (fun jj => nI (uu.1 jj)))), (od, .inl (cI, 97, .inl (fun jj => nI (uu.2 jj))))]) t9.heap) (va_A [(h, .inr (4, [.ref G, .ref ro, .ref od, .int (nI so)])), (G, .inr (0, [.ref ga, .int (nI n)])), (ga, .inl (cI, 96, .inl (fun jj => nI (g jj)))), (ro, .inl (cI, 97, .inl (fun jj => nI (f0 jj)))), (od, .inl (cI, 97, .inl (fun jj => nI (o0 jj))))] sz)) 0 0 (va_A [(h, .inr (4, [.ref G, .ref ro, .ref od, .int (nI so)])), (G, .inr (0, [.ref ga, .int (nI n)])), (ga, .inl (cI, 96, .inl (fun jj => nI (g jj)))), (ro, .inl (cI, 97, .inl (fun jj => nI (f0 jj)))), (od, .inl (cI, 97, .inl (fun jj => nI (o0 jj))))] sz) := by
  refine zMet (cc := cX4_placeOfRow) (maxL := 2) (ret := (some .int)) (Qc := fun A => (va_Qi (fun (rv : Int32) (uu : (Nat → Nat) × (Nat → Nat)) => rv = nI (uu.2 i) ∧ zord n g uu.2) (fun (uu : (Nat → Nat) × (Nat → Nat)) t9 => va_P D vwCl ([(h, .inr (4, [.ref G, .ref ro, .ref od, .int (nI 1)])), (G, .inr (0, [.ref ga, .int (nI n)])), (ga, .inl (cI, 96, .inl (fun jj => nI (g jj)))), (ro, .inl (cI, 97, .inl (fun jj => nI (uu.1 jj)))), (od, .inl (cI, 97, .inl (fun jj => nI (uu.2 jj))))]) t9.heap) A)) (by decide) rfl (Nat.le_of_ble_eq_true rfl) ?_
  intro pr en s0 mi bl me co A hC hA hK hE H locs hP hD hS ls hl
  obtain ⟨hx, hb, hr, hml, hown, hts, hlocks, hin⟩ := id hC
  have hl : lv_has ls 2 [(0, .ref h), (1, .int (nI i))] := hl
  refine lv_aload_n hx hb dX4_placeOfRow_0 rfl (lv_at hl 0 rfl) ?_
  refine va_get (D := D) (ci := 4) (v := .int (nI so)) (C := RX4) (T := TX4) (N := 4) hx hb hts (fun w h => List.mem_cons_of_mem _ (inUX4 w h)) hown hK hP 0 rfl rfl 3 (by decide) (hts _ (List.mem_cons_of_mem _ mw_74)) (fun _ h9 => h9) rfl dX4_placeOfRow_1 ?_
  refine zz_ne0 (tgt := 11) hx hb dX4_placeOfRow_4 (by decide) (by rcases hso with q | q <;> omega) (fun c4 => ?_) (fun c4 => ?_)
  · skip
    have e1 : so = 1 ∧ zord n g o0 := hso.resolve_left c4
    obtain ⟨e2, e3⟩ := e1
    subst e2
    have hP : va_P D vwCl [(h, .inr (4, [.ref G, .ref ro, .ref od, .int (nI 1)])), (G, .inr (0, [.ref ga, .int (nI n)])), (ga, .inl (cI, 96, .inl (fun jj => nI (g jj)))), (ro, .inl (cI, 97, .inl (fun jj => nI (f0 jj)))), (od, .inl (cI, 97, .inl (fun jj => nI (o0 jj))))] H := hP
    have hD : va_D A [(h, .inr (4, [.ref G, .ref ro, .ref od, .int (nI 1)])), (G, .inr (0, [.ref ga, .int (nI n)])), (ga, .inl (cI, 96, .inl (fun jj => nI (g jj)))), (ro, .inl (cI, 97, .inl (fun jj => nI (f0 jj)))), (od, .inl (cI, 97, .inl (fun jj => nI (o0 jj))))] := hD
    refine lv_aload_n hx hb dX4_placeOfRow_11 rfl (lv_at hl 0 rfl) ?_
    refine va_get (D := D) (ci := 4) (v := .ref od) (C := RX4) (T := TX4) (N := 4) hx hb hts (fun w h => List.mem_cons_of_mem _ (inUX4 w h)) hown hK hP 0 rfl rfl 2 (by decide) (hts _ (List.mem_cons_of_mem _ mw_73)) (fun _ h9 => h9) rfl dX4_placeOfRow_12 ?_
    refine lv_iload_n hx hb dX4_placeOfRow_15 rfl (lv_at hl 1 rfl) ?_
    refine zz_iald (k := i) (f := o0) hx hb hK hP 4 0 rfl rfl (by omega) (by omega) dX4_placeOfRow_16 ?_
    exact zIret hC hS (f0, o0) ⟨rfl, e3⟩ hP (vp_nar_int _) dX4_placeOfRow_17
  · skip
    refine lv_aload_n hx hb dX4_placeOfRow_7 rfl (lv_at hl 0 rfl) ?_
    refine zCv (is := [0, 1, 2, 3, 4]) (wf := (fun (uu : (Nat → Nat) × (Nat → Nat)) => ([(h, .inr (4, [.ref G, .ref ro, .ref od, .int (nI 1)])), (G, .inr (0, [.ref ga, .int (nI n)])), (ga, .inl (cI, 96, .inl (fun jj => nI (g jj)))), (ro, .inl (cI, 97, .inl (fun jj => nI (uu.1 jj)))), (od, .inl (cI, 97, .inl (fun jj => nI (uu.2 jj))))] : va_W))) (va_runV (As := []) (rest := []) ⟨hx, hb, hml, hown, hts⟩ (k_sort l D cI cC  h G ro od so ga n g f0 o0 (by omega) hg H.size) (cwV 0 hts (zgood mw_239 mw_241 mw_0 mw_28 mw_242) rfl rfl rfl (by decide +kernel) ⟨Nat.le_of_ble_eq_true rfl, Nat.le_of_ble_eq_true rfl⟩) ⟨zBlind zEn_ok, va_recv hK hP (ci := 4) (q0 := 0) rfl rfl, zAt (av := [.ref h]) zEn_ok hP hD hK hS hA hE [0, 1, 2, 3, 4] rfl (by decide)⟩ rfl rfl hl.1 rfl (lv_room (Nat.le_of_ble_eq_true rfl)) dX4_placeOfRow_8 ⟨Nat.zero_le _, Nat.zero_le _⟩) hP hD hS hA rfl (fun _ => rfl) (fun u8 H locs w8 hP hD hS => ?_)
    have hP : va_P D vwCl [(h, .inr (4, [.ref G, .ref ro, .ref od, .int (nI 1)])), (G, .inr (0, [.ref ga, .int (nI n)])), (ga, .inl (cI, 96, .inl (fun jj => nI (g jj)))), (ro, .inl (cI, 97, .inl (fun jj => nI (u8.1 jj)))), (od, .inl (cI, 97, .inl (fun jj => nI (u8.2 jj))))] H := hP
    have hD : va_D A [(h, .inr (4, [.ref G, .ref ro, .ref od, .int (nI 1)])), (G, .inr (0, [.ref ga, .int (nI n)])), (ga, .inl (cI, 96, .inl (fun jj => nI (g jj)))), (ro, .inl (cI, 97, .inl (fun jj => nI (u8.1 jj)))), (od, .inl (cI, 97, .inl (fun jj => nI (u8.2 jj))))] := hD
    refine lv_aload_n hx hb dX4_placeOfRow_11 rfl (lv_at hl 0 rfl) ?_
    refine va_get (D := D) (ci := 4) (v := .ref od) (C := RX4) (T := TX4) (N := 4) hx hb hts (fun w h => List.mem_cons_of_mem _ (inUX4 w h)) hown hK hP 0 rfl rfl 2 (by decide) (hts _ (List.mem_cons_of_mem _ mw_73)) (fun _ h9 => h9) rfl dX4_placeOfRow_12 ?_
    refine lv_iload_n hx hb dX4_placeOfRow_15 rfl (lv_at hl 1 rfl) ?_
    refine zz_iald (k := i) (f := u8.2) hx hb hK hP 4 0 rfl rfl (by omega) (by omega) dX4_placeOfRow_16 ?_
    exact zIret hC hS u8 ⟨rfl, w8⟩ hP (vp_nar_int _) dX4_placeOfRow_17
set_option maxHeartbeats 4000000 in
set_option maxRecDepth 100000 in
theorem k_symbolBefore (l : Launch) (D : va_G) (cI cC : ClassId)  (h G ro od so ga n : Nat) (i : Nat) (g f0 o0 : Nat → Nat) (hn : n ≤ 96) (hg : ∀ i, g i ≤ 4) (hi : i ≤ n) (hso : so = 0 ∨ (so = 1 ∧ zord n g o0)) (sz : Nat) : Met l yX4_symbolBefore wsX4_symbolBefore ({ frames := 3, cells := 0, slots := 0, locals := 69 } : Room) (zPre zEn D vwCl [(cI, .int), (cC, .char)] [.ref h, .int (nI i)] [(h, .inr (4, [.ref G, .ref ro, .ref od, .int (nI so)])), (G, .inr (0, [.ref ga, .int (nI n)])), (ga, .inl (cI, 96, .inl (fun jj => nI (g jj)))), (ro, .inl (cI, 97, .inl (fun jj => nI (f0 jj)))), (od, .inl (cI, 97, .inl (fun jj => nI (o0 jj))))] sz) (va_Qi (fun (rv : Int32) (uu : (Nat → Nat) × (Nat → Nat)) => rv = nI (zsb g (uu.2 i)) ∧ zord n g uu.2) (fun (uu : (Nat → Nat) × (Nat → Nat)) t9 => va_P D vwCl ([(h, .inr (4, [.ref G, .ref ro, .ref od, .int (nI 1)])), (G, .inr (0, [.ref ga, .int (nI n)])), (ga, .inl (cI, 96, .inl (fun jj => nI (g jj)))), (ro, .inl (cI, 97, .inl (fun jj => nI (uu.1 jj)))), (od, .inl (cI, 97, .inl (fun jj => nI (uu.2 jj))))]) t9.heap) (va_A [(h, .inr (4, [.ref G, .ref ro, .ref od, .int (nI so)])), (G, .inr (0, [.ref ga, .int (nI n)])), (ga, .inl (cI, 96, .inl (fun jj => nI (g jj)))), (ro, .inl (cI, 97, .inl (fun jj => nI (f0 jj)))), (od, .inl (cI, 97, .inl (fun jj => nI (o0 jj))))] sz)) 0 0 (va_A [(h, .inr (4, [.ref G, .ref ro, .ref od, .int (nI so)])), (G, .inr (0, [.ref ga, .int (nI n)])), (ga, .inl (cI, 96, .inl (fun jj => nI (g jj)))), (ro, .inl (cI, 97, .inl (fun jj => nI (f0 jj)))), (od, .inl (cI, 97, .inl (fun jj => nI (o0 jj))))] sz) := by
  refine zMet (cc := cX4_symbolBefore) (maxL := 3) (ret := (some .int)) (Qc := fun A => (va_Qi (fun (rv : Int32) (uu : (Nat → Nat) × (Nat → Nat)) => rv = nI (zsb g (uu.2 i)) ∧ zord n g uu.2) (fun (uu : (Nat → Nat) × (Nat → Nat)) t9 => va_P D vwCl ([(h, .inr (4, [.ref G, .ref ro, .ref od, .int (nI 1)])), (G, .inr (0, [.ref ga, .int (nI n)])), (ga, .inl (cI, 96, .inl (fun jj => nI (g jj)))), (ro, .inl (cI, 97, .inl (fun jj => nI (uu.1 jj)))), (od, .inl (cI, 97, .inl (fun jj => nI (uu.2 jj))))]) t9.heap) A)) (by decide) rfl (Nat.le_of_ble_eq_true rfl) ?_
  intro pr en s0 mi bl me co A hC hA hK hE H locs hP hD hS ls hl
  obtain ⟨hx, hb, hr, hml, hown, hts, hlocks, hin⟩ := id hC
  have hl : lv_has ls 3 [(0, .ref h), (1, .int (nI i))] := hl
  refine lv_aload_n hx hb dX4_symbolBefore_0 rfl (lv_at hl 0 rfl) ?_
  refine lv_iload_n hx hb dX4_symbolBefore_1 rfl (lv_at hl 1 rfl) ?_
  refine zCi (is := [0, 1, 2, 3, 4]) (wf := (fun (uu : (Nat → Nat) × (Nat → Nat)) => ([(h, .inr (4, [.ref G, .ref ro, .ref od, .int (nI 1)])), (G, .inr (0, [.ref ga, .int (nI n)])), (ga, .inl (cI, 96, .inl (fun jj => nI (g jj)))), (ro, .inl (cI, 97, .inl (fun jj => nI (uu.1 jj)))), (od, .inl (cI, 97, .inl (fun jj => nI (uu.2 jj))))] : va_W))) (va_runV (As := [.int (nI i)]) (rest := []) ⟨hx, hb, hml, hown, hts⟩ (k_placeOfRow l D cI cC  h G ro od so ga n i g f0 o0 (by omega) hg (by omega) hso H.size) (cwV 1 hts (zgood mw_255 mw_236 mw_237 mw_28 mw_238) rfl rfl rfl (by decide +kernel) ⟨Nat.le_of_ble_eq_true rfl, Nat.le_of_ble_eq_true rfl⟩) ⟨zBlind zEn_ok, va_recv hK hP (ci := 4) (q0 := 0) rfl rfl, zAt (av := [.ref h, .int (nI i)]) zEn_ok hP hD hK hS hA hE [0, 1, 2, 3, 4] rfl (by decide)⟩ rfl rfl hl.1 rfl (lv_room (Nat.le_of_ble_eq_true rfl)) dX4_symbolBefore_2 ⟨Nat.zero_le _, Nat.zero_le _⟩) hP hD hS hA rfl (fun _ => rfl) (fun r2 u2 H locs w2 hP hD hS => ?_)
  obtain ⟨rfl, w2⟩ := w2
  have hP : va_P D vwCl [(h, .inr (4, [.ref G, .ref ro, .ref od, .int (nI 1)])), (G, .inr (0, [.ref ga, .int (nI n)])), (ga, .inl (cI, 96, .inl (fun jj => nI (g jj)))), (ro, .inl (cI, 97, .inl (fun jj => nI (u2.1 jj)))), (od, .inl (cI, 97, .inl (fun jj => nI (u2.2 jj))))] H := hP
  have hD : va_D A [(h, .inr (4, [.ref G, .ref ro, .ref od, .int (nI 1)])), (G, .inr (0, [.ref ga, .int (nI n)])), (ga, .inl (cI, 96, .inl (fun jj => nI (g jj)))), (ro, .inl (cI, 97, .inl (fun jj => nI (u2.1 jj)))), (od, .inl (cI, 97, .inl (fun jj => nI (u2.2 jj))))] := hD
  have e1 := (zord_at hg hn w2 hi).1
  refine lv_istore_n (lv' := [(2, .int (nI (u2.2 i))), (0, .ref h), (1, .int (nI i))]) hx hb dX4_symbolBefore_5 rfl hl (by decide) rfl (fun ls hl => ?_)
  refine lv_iload_n hx hb dX4_symbolBefore_6 rfl (lv_at hl 0 rfl) ?_
  refine zz_ne0 (tgt := 14) hx hb dX4_symbolBefore_7 (by decide) (by omega) (fun c7 => ?_) (fun c7 => ?_)
  · skip
    refine lv_aload_n hx hb dX4_symbolBefore_14 rfl (lv_at hl 1 rfl) ?_
    refine va_get (D := D) (ci := 4) (v := .ref G) (C := RX4) (T := TX4) (N := 4) hx hb hts (fun w h => List.mem_cons_of_mem _ (inUX4 w h)) hown hK hP 0 rfl rfl 0 (by decide) (hts _ (List.mem_cons_of_mem _ mw_71)) (fun _ h9 => h9) rfl dX4_symbolBefore_15 ?_
    refine va_getN (D := D) (ci := 0) (v := .ref ga) (C := RX0) (T := TX0) (N := 2) hx hb hts (fun w h => List.mem_cons_of_mem _ (inUX0 w h)) hown hK hP 1 rfl rfl 0 (by decide) (va_Nw.use rfl (hE.1 ("StrandMapper$SortedSuffixes", 43, "StrandMapper$Bases", "symbols", "[I", "StrandMapper") (by decide +kernel))) (fun _ h9 => h9) rfl dX4_symbolBefore_18 ?_
    refine lv_iload_n hx hb dX4_symbolBefore_21 rfl (lv_at hl 0 rfl) ?_
    refine lv_iconst (v := nI 1) hx hb dX4_symbolBefore_22 (by decide) ?_
    refine lv_isub hx hb dX4_symbolBefore_23 ?_
    refine zz_top (y := nI ((u2.2 i) - 1)) (pk_sub (by omega)) ?_
    refine zz_iald (k := (u2.2 i) - 1) (f := g) hx hb hK hP 2 0 rfl rfl (by omega) (by omega) dX4_symbolBefore_24 ?_
    exact zIret hC hS u2 ⟨congrArg nI (by unfold zsb; first | rw [if_pos c7] | rw [if_neg c7]), w2⟩ hP (vp_nar_int _) dX4_symbolBefore_25
  · skip
    refine lv_iconst (v := nI 5) hx hb dX4_symbolBefore_10 (by decide) ?_
    refine lv_goto (tgt := 25) hx hb dX4_symbolBefore_11 (by decide) ?_
    exact zIret hC hS u2 ⟨congrArg nI (by unfold zsb; first | rw [if_pos c7] | rw [if_neg c7]), w2⟩ hP (vp_nar_int _) dX4_symbolBefore_25
end
section
set_option maxHeartbeats 4000000 in
set_option maxRecDepth 100000 in
theorem j_weight (l : Launch) (D : va_G) (cI cC : ClassId)  (m0 gA n tA w fo pA sA mA ma npA nsA nmA le lA dr dA dn : Nat) (ch nc : Int32) (p : Nat) (g : Nat → Nat) (hn : n ≤ 96) (hg : ∀ i, g i ≤ 4) (hp : p ≤ 500) (sz : Nat) : Met l yX6_weight wsX6_weight ({ frames := 0, cells := 0, slots := 0, locals := 0 } : Room) (zPre zE0 D vwCl [(cI, .int), (cC, .char)] [.ref m0, .int (nI p)] [(m0, .inr (6, [.ref gA, .int (nI n), .ref tA, .int (nI w), .int (nI fo), .ref pA, .ref sA, .ref mA, .int ch, .int (nI ma), .ref npA, .ref nsA, .ref nmA, .int nc, .int (nI le), .ref lA, .int (nI dr), .ref dA, .int (nI dn)])), (gA, .inl (cI, 96, .inl (fun jj => nI (g jj))))] sz) (va_Qi (fun (rv : Int32) (uu : Unit) => rv = nI (zwt n g p) ∧ True) (fun (uu : Unit) t9 => va_P D vwCl ([(m0, .inr (6, [.ref gA, .int (nI n), .ref tA, .int (nI w), .int (nI fo), .ref pA, .ref sA, .ref mA, .int ch, .int (nI ma), .ref npA, .ref nsA, .ref nmA, .int nc, .int (nI le), .ref lA, .int (nI dr), .ref dA, .int (nI dn)])), (gA, .inl (cI, 96, .inl (fun jj => nI (g jj))))]) t9.heap) (va_A [(m0, .inr (6, [.ref gA, .int (nI n), .ref tA, .int (nI w), .int (nI fo), .ref pA, .ref sA, .ref mA, .int ch, .int (nI ma), .ref npA, .ref nsA, .ref nmA, .int nc, .int (nI le), .ref lA, .int (nI dr), .ref dA, .int (nI dn)])), (gA, .inl (cI, 96, .inl (fun jj => nI (g jj))))] sz)) 0 0 (va_A [(m0, .inr (6, [.ref gA, .int (nI n), .ref tA, .int (nI w), .int (nI fo), .ref pA, .ref sA, .ref mA, .int ch, .int (nI ma), .ref npA, .ref nsA, .ref nmA, .int nc, .int (nI le), .ref lA, .int (nI dr), .ref dA, .int (nI dn)])), (gA, .inl (cI, 96, .inl (fun jj => nI (g jj))))] sz) := by
  refine zMet (cc := cX6_weight) (maxL := 2) (ret := (some .int)) (Qc := fun A => (va_Qi (fun (rv : Int32) (uu : Unit) => rv = nI (zwt n g p) ∧ True) (fun (uu : Unit) t9 => va_P D vwCl ([(m0, .inr (6, [.ref gA, .int (nI n), .ref tA, .int (nI w), .int (nI fo), .ref pA, .ref sA, .ref mA, .int ch, .int (nI ma), .ref npA, .ref nsA, .ref nmA, .int nc, .int (nI le), .ref lA, .int (nI dr), .ref dA, .int (nI dn)])), (gA, .inl (cI, 96, .inl (fun jj => nI (g jj))))]) t9.heap) A)) (by decide) rfl (Nat.le_of_ble_eq_true rfl) ?_
  intro pr en s0 mi bl me co A hC hA hK hE H locs hP hD hS ls hl
  obtain ⟨hx, hb, hr, hml, hown, hts, hlocks, hin⟩ := id hC
  have hl : lv_has ls 2 [(0, .ref m0), (1, .int (nI p))] := hl
  refine lv_iload_n hx hb dX6_weight_0 rfl (lv_at hl 1 rfl) ?_
  refine lv_aload_n hx hb dX6_weight_1 rfl (lv_at hl 0 rfl) ?_
  refine va_get (D := D) (ci := 6) (v := .int (nI n)) (C := RX6) (T := TX6) (N := 19) hx hb hts (fun w h => List.mem_cons_of_mem _ (inUX6 w h)) hown hK hP 0 rfl rfl 1 (by decide) (hts _ (List.mem_cons_of_mem _ mw_439)) (fun _ h9 => h9) rfl dX6_weight_2 ?_
  refine zz_lt (tgt := 12) hx hb dX6_weight_5 (by decide) (by omega) (by omega) (fun c5 => ?_) (fun c5 => ?_)
  · skip
    refine lv_aload_n hx hb dX6_weight_12 rfl (lv_at hl 0 rfl) ?_
    refine va_get (D := D) (ci := 6) (v := .ref gA) (C := RX6) (T := TX6) (N := 19) hx hb hts (fun w h => List.mem_cons_of_mem _ (inUX6 w h)) hown hK hP 0 rfl rfl 0 (by decide) (hts _ (List.mem_cons_of_mem _ mw_438)) (fun _ h9 => h9) rfl dX6_weight_13 ?_
    refine lv_iload_n hx hb dX6_weight_16 rfl (lv_at hl 1 rfl) ?_
    refine zz_iald (k := p) (f := g) hx hb hK hP 1 0 rfl rfl (by omega) (by omega) dX6_weight_17 ?_
    refine lv_iconst (v := nI 1) hx hb dX6_weight_18 (by decide) ?_
    refine lv_iadd hx hb dX6_weight_19 ?_
    refine zz_top (y := nI (g p + 1)) (zadd (by omega)) ?_
    exact zIret hC hS () ⟨congrArg nI (by first | rw [zwt_out (by omega)] | rw [zwt_in (by omega)]), trivial⟩ hP (vp_nar_int _) dX6_weight_20
  · skip
    refine lv_iconst (v := nI 0) hx hb dX6_weight_8 (by decide) ?_
    refine lv_goto (tgt := 20) hx hb dX6_weight_9 (by decide) ?_
    exact zIret hC hS () ⟨congrArg nI (by first | rw [zwt_out (by omega)] | rw [zwt_in (by omega)]), trivial⟩ hP (vp_nar_int _) dX6_weight_20
set_option maxHeartbeats 4000000 in
set_option maxRecDepth 100000 in
theorem j_less_L2 {pr : Program} {en : Env} {s0 : State} {mi : MethodId} {bl : List Frame} {me : Method} {co : Code} {A : Nat → Prop} (l : Launch) (D : va_G) (cI cC : ClassId)  (m0 gA n tA w fo pA sA mA ma npA nsA nmA le lA dr dA dn : Nat) (ch nc : Int32) (p q : Nat) (g : Nat → Nat) (hn : n ≤ 96) (hg : ∀ i, g i ≤ 4) (hp : p ≤ 97) (hq : q ≤ 97) (hC : zK pr s0 mi ([.ref m0, .int (nI p), .int (nI q)] : List Value).toArray me co cX6_less 6 (some .boolean) yX6_less wsX6_less) (hA : ∀ q, s0.heap.size ≤ q → A q) (hK : va_K D vwCl [(cI, .int), (cC, .char)] s0) (hE : zE0 A s0 s0.heap) :
    ∀ (N : Nat) (k : Nat), 97 - k < N → (k ≤ 97) → (zkey n g p < zkey n g q ↔ zV n g (97 - k) (p + k) < zV n g (97 - k) (q + k)) → ∀ (H : Heap) (locs : List Loc), va_P D vwCl [(m0, .inr (6, [.ref gA, .int (nI n), .ref tA, .int (nI w), .int (nI fo), .ref pA, .ref sA, .ref mA, .int ch, .int (nI ma), .ref npA, .ref nsA, .ref nmA, .int nc, .int (nI le), .ref lA, .int (nI dr), .ref dA, .int (nI dn)])), (gA, .inl (cI, 96, .inl (fun jj => nI (g jj))))] H → va_D A [(m0, .inr (6, [.ref gA, .int (nI n), .ref tA, .int (nI w), .int (nI fo), .ref pA, .ref sA, .ref mA, .int ch, .int (nI ma), .ref npA, .ref nsA, .ref nmA, .int nc, .int (nI le), .ref lA, .int (nI dr), .ref dA, .int (nI dn)])), (gA, .inl (cI, 96, .inl (fun jj => nI (g jj))))] → va_S A s0.heap H locs → ∀ ls : Array Slot, lv_has ls 6 [(0, .ref m0), (1, .int (nI p)), (2, .int (nI q)), (3, .int (nI k))] → W pr l en ({ frames := 1, cells := 0, slots := 0, locals := 21 } : Room) s0 mi ([.ref m0, .int (nI p), .int (nI q)] : List Value).toArray bl me co H locs 0 0 (MQ bl (va_Qi (fun (rv : Int32) (uu : Unit) => rv = zb (zkey n g p < zkey n g q) ∧ True) (fun (uu : Unit) t9 => va_P D vwCl ([(m0, .inr (6, [.ref gA, .int (nI n), .ref tA, .int (nI w), .int (nI fo), .ref pA, .ref sA, .ref mA, .int ch, .int (nI ma), .ref npA, .ref nsA, .ref nmA, .int nc, .int (nI le), .ref lA, .int (nI dr), .ref dA, .int (nI dn)])), (gA, .inl (cI, 96, .inl (fun jj => nI (g jj))))]) t9.heap) A) ([.ref m0, .int (nI p), .int (nI q)] : List Value).toArray s0 0 0 A) (F0 mi 2 ls []) := by
  obtain ⟨hx, hb, hr, hml, hown, hts, hlocks, hin⟩ := id hC
  intro N
  induction N with
  | zero =>
    intro k hmea
    omega
  | succ N ih =>
    intro k hmea hk hv H locs hP hD hS ls hl
    refine lv_iload_n hx hb dX6_less_2 rfl (lv_at hl 3 rfl) ?_
    refine lv_bipush (v := nI 97) hx hb dX6_less_3 (by decide) ?_
    refine zz_ge (tgt := 59) hx hb dX6_less_5 (by decide) (by omega) (by omega) (fun c5 => ?_) (fun c5 => ?_)
    · skip
      refine lv_iconst (v := nI 0) hx hb dX6_less_59 (by decide) ?_
      exact zIret hC hS () ⟨(zb_f (by first | omega | (rw [show k = 97 by omega] at hv; exact fun q => Nat.lt_irrefl 0 (hv.mp q)))).symm, trivial⟩ hP (by decide) dX6_less_60
    · skip
      have e1 : zV n g (97 - k) (p + k) < zV n g (97 - k) (q + k) ↔ zwt n g (p + k) < zwt n g (q + k) ∨ (zwt n g (p + k) = zwt n g (q + k) ∧ zV n g (96 - k) (p + k + 1) < zV n g (96 - k) (q + k + 1)) := by
        rw [show 97 - k = 96 - k + 1 by omega, zV_s, zV_s]
        exact zdig_lt (zV_lt hg _ _) (zV_lt hg _ _)
      have b1 := zwt_le (n := n) hg (p + k)
      have b2 := zwt_le (n := n) hg (q + k)
      refine lv_aload_n hx hb dX6_less_8 rfl (lv_at hl 0 rfl) ?_
      refine lv_iload_n hx hb dX6_less_9 rfl (lv_at hl 1 rfl) ?_
      refine lv_iload_n hx hb dX6_less_10 rfl (lv_at hl 3 rfl) ?_
      refine lv_iadd hx hb dX6_less_11 ?_
      refine zz_top (y := nI (p + k)) (zadd (by omega)) ?_
      refine zCi (is := [0, 1]) (wf := (fun (uu : Unit) => ([(m0, .inr (6, [.ref gA, .int (nI n), .ref tA, .int (nI w), .int (nI fo), .ref pA, .ref sA, .ref mA, .int ch, .int (nI ma), .ref npA, .ref nsA, .ref nmA, .int nc, .int (nI le), .ref lA, .int (nI dr), .ref dA, .int (nI dn)])), (gA, .inl (cI, 96, .inl (fun jj => nI (g jj))))] : va_W))) (va_runV (As := [.int (nI (p + k))]) (rest := []) ⟨hx, hb, hml, hown, hts⟩ (j_weight l D cI cC  m0 gA n tA w fo pA sA mA ma npA nsA nmA le lA dr dA dn ch nc (p + k) g (by omega) hg (by omega) H.size) (cwV 1 hts (zgood mw_532 mw_534 mw_7 mw_32 mw_535) rfl rfl rfl (by decide +kernel) ⟨Nat.le_of_ble_eq_true rfl, Nat.le_of_ble_eq_true rfl⟩) ⟨zBlind zE0_ok, va_recv hK hP (ci := 6) (q0 := 0) rfl rfl, zAt (av := [.ref m0, .int (nI (p + k))]) zE0_ok hP hD hK hS hA trivial [0, 1] rfl (by decide)⟩ rfl rfl hl.1 rfl (lv_room (Nat.le_of_ble_eq_true rfl)) dX6_less_12 ⟨Nat.zero_le _, Nat.zero_le _⟩) hP hD hS hA rfl (fun _ => rfl) (fun r12 u12 H locs w12 hP hD hS => ?_)
      obtain ⟨rfl, w12⟩ := w12
      have hP : va_P D vwCl [(m0, .inr (6, [.ref gA, .int (nI n), .ref tA, .int (nI w), .int (nI fo), .ref pA, .ref sA, .ref mA, .int ch, .int (nI ma), .ref npA, .ref nsA, .ref nmA, .int nc, .int (nI le), .ref lA, .int (nI dr), .ref dA, .int (nI dn)])), (gA, .inl (cI, 96, .inl (fun jj => nI (g jj))))] H := hP
      have hD : va_D A [(m0, .inr (6, [.ref gA, .int (nI n), .ref tA, .int (nI w), .int (nI fo), .ref pA, .ref sA, .ref mA, .int ch, .int (nI ma), .ref npA, .ref nsA, .ref nmA, .int nc, .int (nI le), .ref lA, .int (nI dr), .ref dA, .int (nI dn)])), (gA, .inl (cI, 96, .inl (fun jj => nI (g jj))))] := hD
      refine lv_istore (lv' := [(4, .int (nI (zwt n g (p + k)))), (0, .ref m0), (1, .int (nI p)), (2, .int (nI q)), (3, .int (nI k))]) hx hb dX6_less_15 hl (by decide) rfl (fun ls hl => ?_)
      refine lv_aload_n hx hb dX6_less_17 rfl (lv_at hl 1 rfl) ?_
      refine lv_iload_n hx hb dX6_less_18 rfl (lv_at hl 3 rfl) ?_
      refine lv_iload_n hx hb dX6_less_19 rfl (lv_at hl 4 rfl) ?_
      refine lv_iadd hx hb dX6_less_20 ?_
      refine zz_top (y := nI (q + k)) (zadd (by omega)) ?_
      refine zCi (is := [0, 1]) (wf := (fun (uu : Unit) => ([(m0, .inr (6, [.ref gA, .int (nI n), .ref tA, .int (nI w), .int (nI fo), .ref pA, .ref sA, .ref mA, .int ch, .int (nI ma), .ref npA, .ref nsA, .ref nmA, .int nc, .int (nI le), .ref lA, .int (nI dr), .ref dA, .int (nI dn)])), (gA, .inl (cI, 96, .inl (fun jj => nI (g jj))))] : va_W))) (va_runV (As := [.int (nI (q + k))]) (rest := []) ⟨hx, hb, hml, hown, hts⟩ (j_weight l D cI cC  m0 gA n tA w fo pA sA mA ma npA nsA nmA le lA dr dA dn ch nc (q + k) g (by omega) hg (by omega) H.size) (cwV 1 hts (zgood mw_532 mw_534 mw_7 mw_32 mw_535) rfl rfl rfl (by decide +kernel) ⟨Nat.le_of_ble_eq_true rfl, Nat.le_of_ble_eq_true rfl⟩) ⟨zBlind zE0_ok, va_recv hK hP (ci := 6) (q0 := 0) rfl rfl, zAt (av := [.ref m0, .int (nI (q + k))]) zE0_ok hP hD hK hS hA trivial [0, 1] rfl (by decide)⟩ rfl rfl hl.1 rfl (lv_room (Nat.le_of_ble_eq_true rfl)) dX6_less_21 ⟨Nat.zero_le _, Nat.zero_le _⟩) hP hD hS hA rfl (fun _ => rfl) (fun r21 u21 H locs w21 hP hD hS => ?_)
      obtain ⟨rfl, w21⟩ := w21
      have hP : va_P D vwCl [(m0, .inr (6, [.ref gA, .int (nI n), .ref tA, .int (nI w), .int (nI fo), .ref pA, .ref sA, .ref mA, .int ch, .int (nI ma), .ref npA, .ref nsA, .ref nmA, .int nc, .int (nI le), .ref lA, .int (nI dr), .ref dA, .int (nI dn)])), (gA, .inl (cI, 96, .inl (fun jj => nI (g jj))))] H := hP
      have hD : va_D A [(m0, .inr (6, [.ref gA, .int (nI n), .ref tA, .int (nI w), .int (nI fo), .ref pA, .ref sA, .ref mA, .int ch, .int (nI ma), .ref npA, .ref nsA, .ref nmA, .int nc, .int (nI le), .ref lA, .int (nI dr), .ref dA, .int (nI dn)])), (gA, .inl (cI, 96, .inl (fun jj => nI (g jj))))] := hD
      refine lv_istore (lv' := [(5, .int (nI (zwt n g (q + k)))), (4, .int (nI (zwt n g (p + k)))), (0, .ref m0), (1, .int (nI p)), (2, .int (nI q)), (3, .int (nI k))]) hx hb dX6_less_24 hl (by decide) rfl (fun ls hl => ?_)
      refine lv_iload hx hb dX6_less_26 (lv_at hl 1 rfl) ?_
      refine lv_iload hx hb dX6_less_28 (lv_at hl 0 rfl) ?_
      refine zz_eq (tgt := 46) hx hb dX6_less_30 (by decide) (by omega) (by omega) (fun c30 => ?_) (fun c30 => ?_)
      · skip
        refine lv_iload hx hb dX6_less_46 (lv_at hl 1 rfl) ?_
        refine zz_ne0 (tgt := 53) hx hb dX6_less_48 (by decide) (by omega) (fun c48 => ?_) (fun c48 => ?_)
        · skip
          refine lv_iinc (v := nI (k + 1)) (lv' := [(3, .int (nI (k + 1))), (5, .int (nI (zwt n g (q + k)))), (4, .int (nI (zwt n g (p + k)))), (0, .ref m0), (1, .int (nI p)), (2, .int (nI q))]) hx hb dX6_less_53 hl (k := 5) rfl (zincE (by omega)) (by decide) rfl (fun ls hl => ?_)
          refine lv_goto (tgt := 2) hx hb dX6_less_56 (by decide) ?_
          exact ih (k + 1) (by omega) (by omega) (by rw [show 97 - (k + 1) = 96 - k by omega, show p + (k + 1) = p + k + 1 by omega, show q + (k + 1) = q + k + 1 by omega]; omega) _ _ hP hD hS ls (lv_sub hl [3, 4, 5, 0] rfl)
        · skip
          have e2 : zV n g (96 - k) (p + k + 1) = 0 := zV_out _ _ (by have := zwt_zero c48; omega)
          have e3 : zV n g (96 - k) (q + k + 1) = 0 := zV_out _ _ (by have := zwt_zero (c30.symm.trans c48); omega)
          refine lv_iconst (v := nI 0) hx hb dX6_less_51 (by decide) ?_
          exact zIret hC hS () ⟨(zb_f (by first | omega | (rw [show k = 97 by omega] at hv; exact fun q => Nat.lt_irrefl 0 (hv.mp q)))).symm, trivial⟩ hP (by decide) dX6_less_52
      · skip
        refine lv_iload hx hb dX6_less_33 (lv_at hl 1 rfl) ?_
        refine lv_iload hx hb dX6_less_35 (lv_at hl 0 rfl) ?_
        refine zz_ge (tgt := 44) hx hb dX6_less_37 (by decide) (by omega) (by omega) (fun c37 => ?_) (fun c37 => ?_)
        · skip
          refine lv_iconst (v := nI 0) hx hb dX6_less_44 (by decide) ?_
          exact zIret hC hS () ⟨(zb_f (by first | omega | (rw [show k = 97 by omega] at hv; exact fun q => Nat.lt_irrefl 0 (hv.mp q)))).symm, trivial⟩ hP (by decide) dX6_less_45
        · skip
          refine lv_iconst (v := nI 1) hx hb dX6_less_40 (by decide) ?_
          refine lv_goto (tgt := 45) hx hb dX6_less_41 (by decide) ?_
          exact zIret hC hS () ⟨(zb_t (by omega)).symm, trivial⟩ hP (by decide) dX6_less_45
set_option maxHeartbeats 4000000 in
set_option maxRecDepth 100000 in
theorem j_less (l : Launch) (D : va_G) (cI cC : ClassId)  (m0 gA n tA w fo pA sA mA ma npA nsA nmA le lA dr dA dn : Nat) (ch nc : Int32) (p q : Nat) (g : Nat → Nat) (hn : n ≤ 96) (hg : ∀ i, g i ≤ 4) (hp : p ≤ 97) (hq : q ≤ 97) (sz : Nat) : Met l yX6_less wsX6_less ({ frames := 1, cells := 0, slots := 0, locals := 21 } : Room) (zPre zE0 D vwCl [(cI, .int), (cC, .char)] [.ref m0, .int (nI p), .int (nI q)] [(m0, .inr (6, [.ref gA, .int (nI n), .ref tA, .int (nI w), .int (nI fo), .ref pA, .ref sA, .ref mA, .int ch, .int (nI ma), .ref npA, .ref nsA, .ref nmA, .int nc, .int (nI le), .ref lA, .int (nI dr), .ref dA, .int (nI dn)])), (gA, .inl (cI, 96, .inl (fun jj => nI (g jj))))] sz) (va_Qi (fun (rv : Int32) (uu : Unit) => rv = zb (zkey n g p < zkey n g q) ∧ True) (fun (uu : Unit) t9 => va_P D vwCl ([(m0, .inr (6, [.ref gA, .int (nI n), .ref tA, .int (nI w), .int (nI fo), .ref pA, .ref sA, .ref mA, .int ch, .int (nI ma), .ref npA, .ref nsA, .ref nmA, .int nc, .int (nI le), .ref lA, .int (nI dr), .ref dA, .int (nI dn)])), (gA, .inl (cI, 96, .inl (fun jj => nI (g jj))))]) t9.heap) (va_A [(m0, .inr (6, [.ref gA, .int (nI n), .ref tA, .int (nI w), .int (nI fo), .ref pA, .ref sA, .ref mA, .int ch, .int (nI ma), .ref npA, .ref nsA, .ref nmA, .int nc, .int (nI le), .ref lA, .int (nI dr), .ref dA, .int (nI dn)])), (gA, .inl (cI, 96, .inl (fun jj => nI (g jj))))] sz)) 0 0 (va_A [(m0, .inr (6, [.ref gA, .int (nI n), .ref tA, .int (nI w), .int (nI fo), .ref pA, .ref sA, .ref mA, .int ch, .int (nI ma), .ref npA, .ref nsA, .ref nmA, .int nc, .int (nI le), .ref lA, .int (nI dr), .ref dA, .int (nI dn)])), (gA, .inl (cI, 96, .inl (fun jj => nI (g jj))))] sz) := by
  refine zMet (cc := cX6_less) (maxL := 6) (ret := (some .boolean)) (Qc := fun A => (va_Qi (fun (rv : Int32) (uu : Unit) => rv = zb (zkey n g p < zkey n g q) ∧ True) (fun (uu : Unit) t9 => va_P D vwCl ([(m0, .inr (6, [.ref gA, .int (nI n), .ref tA, .int (nI w), .int (nI fo), .ref pA, .ref sA, .ref mA, .int ch, .int (nI ma), .ref npA, .ref nsA, .ref nmA, .int nc, .int (nI le), .ref lA, .int (nI dr), .ref dA, .int (nI dn)])), (gA, .inl (cI, 96, .inl (fun jj => nI (g jj))))]) t9.heap) A)) (by decide) rfl (Nat.le_of_ble_eq_true rfl) ?_
  intro pr en s0 mi bl me co A hC hA hK hE H locs hP hD hS ls hl
  obtain ⟨hx, hb, hr, hml, hown, hts, hlocks, hin⟩ := id hC
  have hl : lv_has ls 6 [(0, .ref m0), (1, .int (nI p)), (2, .int (nI q))] := hl
  refine lv_iconst (v := nI 0) hx hb dX6_less_0 (by decide) ?_
  refine lv_istore_n (lv' := [(3, .int (nI 0)), (0, .ref m0), (1, .int (nI p)), (2, .int (nI q))]) hx hb dX6_less_1 rfl hl (by decide) rfl (fun ls hl => ?_)
  exact j_less_L2 l D cI cC  m0 gA n tA w fo pA sA mA ma npA nsA nmA le lA dr dA dn ch nc p q g hn hg hp hq hC hA hK hE _ 0 (Nat.lt_succ_self _) (Nat.zero_le _) (by rw [zkey_eq, zkey_eq, Nat.sub_zero, Nat.add_zero, Nat.add_zero]) _ _ hP hD hS ls (lv_sub hl [1, 2, 3, 0] rfl)
set_option maxHeartbeats 4000000 in
set_option maxRecDepth 100000 in
theorem j_before_L4 {pr : Program} {en : Env} {s0 : State} {mi : MethodId} {bl : List Frame} {me : Method} {co : Code} {A : Nat → Prop} (l : Launch) (D : va_G) (cI cC : ClassId)  (m0 gA n tA w fo pA sA mA ma npA nsA nmA le lA dr dA dn : Nat) (ch nc : Int32) (p : Nat) (g : Nat → Nat) (hn : n ≤ 96) (hg : ∀ i, g i ≤ 4) (hp : p ≤ n) (hC : zK pr s0 mi ([.ref m0, .int (nI p)] : List Value).toArray me co cX6_before 4 (some .int) yX6_before wsX6_before) (hA : ∀ q, s0.heap.size ≤ q → A q) (hK : va_K D vwCl [(cI, .int), (cC, .char)] s0) (hE : zE0 A s0 s0.heap) :
    ∀ (N : Nat) (k x : Nat), n + 1 - k < N → (k ≤ n + 1) → (x = zcnt (fun r => decide (0 ≤ r ∧ zkey n g r < zkey n g p)) k) → ∀ (H : Heap) (locs : List Loc), va_P D vwCl [(m0, .inr (6, [.ref gA, .int (nI n), .ref tA, .int (nI w), .int (nI fo), .ref pA, .ref sA, .ref mA, .int ch, .int (nI ma), .ref npA, .ref nsA, .ref nmA, .int nc, .int (nI le), .ref lA, .int (nI dr), .ref dA, .int (nI dn)])), (gA, .inl (cI, 96, .inl (fun jj => nI (g jj))))] H → va_D A [(m0, .inr (6, [.ref gA, .int (nI n), .ref tA, .int (nI w), .int (nI fo), .ref pA, .ref sA, .ref mA, .int ch, .int (nI ma), .ref npA, .ref nsA, .ref nmA, .int nc, .int (nI le), .ref lA, .int (nI dr), .ref dA, .int (nI dn)])), (gA, .inl (cI, 96, .inl (fun jj => nI (g jj))))] → va_S A s0.heap H locs → ∀ ls : Array Slot, lv_has ls 4 [(0, .ref m0), (1, .int (nI p)), (2, .int (nI x)), (3, .int (nI k))] → W pr l en ({ frames := 2, cells := 0, slots := 0, locals := 46 } : Room) s0 mi ([.ref m0, .int (nI p)] : List Value).toArray bl me co H locs 0 0 (MQ bl (va_Qi (fun (rv : Int32) (uu : Unit) => rv = nI (zbef n g p) ∧ True) (fun (uu : Unit) t9 => va_P D vwCl ([(m0, .inr (6, [.ref gA, .int (nI n), .ref tA, .int (nI w), .int (nI fo), .ref pA, .ref sA, .ref mA, .int ch, .int (nI ma), .ref npA, .ref nsA, .ref nmA, .int nc, .int (nI le), .ref lA, .int (nI dr), .ref dA, .int (nI dn)])), (gA, .inl (cI, 96, .inl (fun jj => nI (g jj))))]) t9.heap) A) ([.ref m0, .int (nI p)] : List Value).toArray s0 0 0 A) (F0 mi 4 ls []) := by
  obtain ⟨hx, hb, hr, hml, hown, hts, hlocks, hin⟩ := id hC
  intro N
  induction N with
  | zero =>
    intro k x hmea
    omega
  | succ N ih =>
    intro k x hmea hk hxk H locs hP hD hS ls hl
    refine lv_iload_n hx hb dX6_before_4 rfl (lv_at hl 3 rfl) ?_
    refine lv_aload_n hx hb dX6_before_5 rfl (lv_at hl 0 rfl) ?_
    refine va_get (D := D) (ci := 6) (v := .int (nI n)) (C := RX6) (T := TX6) (N := 19) hx hb hts (fun w h => List.mem_cons_of_mem _ (inUX6 w h)) hown hK hP 0 rfl rfl 1 (by decide) (hts _ (List.mem_cons_of_mem _ mw_439)) (fun _ h9 => h9) rfl dX6_before_6 ?_
    refine zz_gt (tgt := 35) hx hb dX6_before_9 (by decide) (by omega) (by omega) (fun c9 => ?_) (fun c9 => ?_)
    · skip
      refine lv_iload_n hx hb dX6_before_35 rfl (lv_at hl 2 rfl) ?_
      exact zIret hC hS () ⟨congrArg nI (by rw [hxk, show k = n + 1 by omega]; rfl), trivial⟩ hP (vp_nar_int _) dX6_before_36
    · skip
      have e8 := zcnt_le (fun r => decide (0 ≤ r ∧ zkey n g r < zkey n g p)) k
      refine lv_aload_n hx hb dX6_before_12 rfl (lv_at hl 0 rfl) ?_
      refine lv_iload_n hx hb dX6_before_13 rfl (lv_at hl 3 rfl) ?_
      refine lv_iload_n hx hb dX6_before_14 rfl (lv_at hl 1 rfl) ?_
      refine zCi (is := [0, 1]) (wf := (fun (uu : Unit) => ([(m0, .inr (6, [.ref gA, .int (nI n), .ref tA, .int (nI w), .int (nI fo), .ref pA, .ref sA, .ref mA, .int ch, .int (nI ma), .ref npA, .ref nsA, .ref nmA, .int nc, .int (nI le), .ref lA, .int (nI dr), .ref dA, .int (nI dn)])), (gA, .inl (cI, 96, .inl (fun jj => nI (g jj))))] : va_W))) (va_runV (As := [.int (nI k), .int (nI p)]) (rest := []) ⟨hx, hb, hml, hown, hts⟩ (j_less l D cI cC  m0 gA n tA w fo pA sA mA ma npA nsA nmA le lA dr dA dn ch nc k p g (by omega) hg (by omega) (by omega) H.size) (cwV 2 hts (zgood mw_528 mw_530 mw_6 mw_32 mw_531) rfl rfl rfl (by decide +kernel) ⟨Nat.le_of_ble_eq_true rfl, Nat.le_of_ble_eq_true rfl⟩) ⟨zBlind zE0_ok, va_recv hK hP (ci := 6) (q0 := 0) rfl rfl, zAt (av := [.ref m0, .int (nI k), .int (nI p)]) zE0_ok hP hD hK hS hA trivial [0, 1] rfl (by decide)⟩ rfl rfl hl.1 rfl (lv_room (Nat.le_of_ble_eq_true rfl)) dX6_before_15 ⟨Nat.zero_le _, Nat.zero_le _⟩) hP hD hS hA rfl (fun _ => rfl) (fun r15 u15 H locs w15 hP hD hS => ?_)
      obtain ⟨rfl, w15⟩ := w15
      have hP : va_P D vwCl [(m0, .inr (6, [.ref gA, .int (nI n), .ref tA, .int (nI w), .int (nI fo), .ref pA, .ref sA, .ref mA, .int ch, .int (nI ma), .ref npA, .ref nsA, .ref nmA, .int nc, .int (nI le), .ref lA, .int (nI dr), .ref dA, .int (nI dn)])), (gA, .inl (cI, 96, .inl (fun jj => nI (g jj))))] H := hP
      have hD : va_D A [(m0, .inr (6, [.ref gA, .int (nI n), .ref tA, .int (nI w), .int (nI fo), .ref pA, .ref sA, .ref mA, .int ch, .int (nI ma), .ref npA, .ref nsA, .ref nmA, .int nc, .int (nI le), .ref lA, .int (nI dr), .ref dA, .int (nI dn)])), (gA, .inl (cI, 96, .inl (fun jj => nI (g jj))))] := hD
      refine zz_eqb (tgt := 27) hx hb dX6_before_18 (by decide) (fun c18 => ?_) (fun c18 => ?_)
      · skip
        refine lv_iload_n hx hb dX6_before_27 rfl (lv_at hl 2 rfl) ?_
        refine lv_istore_n (lv' := [(2, .int (nI x)), (0, .ref m0), (1, .int (nI p)), (3, .int (nI k))]) hx hb dX6_before_28 rfl hl (by decide) rfl (fun ls hl => ?_)
        refine lv_iinc (v := nI (k + 1)) (lv' := [(3, .int (nI (k + 1))), (2, .int (nI x)), (0, .ref m0), (1, .int (nI p))]) hx hb dX6_before_29 hl (k := 3) rfl (zincE (by omega)) (by decide) rfl (fun ls hl => ?_)
        refine lv_goto (tgt := 4) hx hb dX6_before_32 (by decide) ?_
        exact ih (k + 1) x (by omega) (by omega) (by first | (rw [zcnt_t (by simp only [decide_eq_true_eq]; omega)]; omega) | (rw [zcnt_f (by simp only [decide_eq_true_eq]; omega)]; omega)) _ _ hP hD hS ls (lv_sub hl [2, 3, 1, 0] rfl)
      · skip
        refine lv_iload_n hx hb dX6_before_21 rfl (lv_at hl 2 rfl) ?_
        refine lv_iconst (v := nI 1) hx hb dX6_before_22 (by decide) ?_
        refine lv_iadd hx hb dX6_before_23 ?_
        refine zz_top (y := nI (x + 1)) (zadd (by omega)) ?_
        refine lv_goto (tgt := 28) hx hb dX6_before_24 (by decide) ?_
        refine lv_istore_n (lv' := [(2, .int (nI (x + 1))), (0, .ref m0), (1, .int (nI p)), (3, .int (nI k))]) hx hb dX6_before_28 rfl hl (by decide) rfl (fun ls hl => ?_)
        refine lv_iinc (v := nI (k + 1)) (lv' := [(3, .int (nI (k + 1))), (2, .int (nI (x + 1))), (0, .ref m0), (1, .int (nI p))]) hx hb dX6_before_29 hl (k := 3) rfl (zincE (by omega)) (by decide) rfl (fun ls hl => ?_)
        refine lv_goto (tgt := 4) hx hb dX6_before_32 (by decide) ?_
        exact ih (k + 1) (x + 1) (by omega) (by omega) (by first | (rw [zcnt_t (by simp only [decide_eq_true_eq]; omega)]; omega) | (rw [zcnt_f (by simp only [decide_eq_true_eq]; omega)]; omega)) _ _ hP hD hS ls (lv_sub hl [2, 3, 1, 0] rfl)
set_option maxHeartbeats 4000000 in
set_option maxRecDepth 100000 in
theorem j_before (l : Launch) (D : va_G) (cI cC : ClassId)  (m0 gA n tA w fo pA sA mA ma npA nsA nmA le lA dr dA dn : Nat) (ch nc : Int32) (p : Nat) (g : Nat → Nat) (hn : n ≤ 96) (hg : ∀ i, g i ≤ 4) (hp : p ≤ n) (sz : Nat) : Met l yX6_before wsX6_before ({ frames := 2, cells := 0, slots := 0, locals := 46 } : Room) (zPre zE0 D vwCl [(cI, .int), (cC, .char)] [.ref m0, .int (nI p)] [(m0, .inr (6, [.ref gA, .int (nI n), .ref tA, .int (nI w), .int (nI fo), .ref pA, .ref sA, .ref mA, .int ch, .int (nI ma), .ref npA, .ref nsA, .ref nmA, .int nc, .int (nI le), .ref lA, .int (nI dr), .ref dA, .int (nI dn)])), (gA, .inl (cI, 96, .inl (fun jj => nI (g jj))))] sz) (va_Qi (fun (rv : Int32) (uu : Unit) => rv = nI (zbef n g p) ∧ True) (fun (uu : Unit) t9 => va_P D vwCl ([(m0, .inr (6, [.ref gA, .int (nI n), .ref tA, .int (nI w), .int (nI fo), .ref pA, .ref sA, .ref mA, .int ch, .int (nI ma), .ref npA, .ref nsA, .ref nmA, .int nc, .int (nI le), .ref lA, .int (nI dr), .ref dA, .int (nI dn)])), (gA, .inl (cI, 96, .inl (fun jj => nI (g jj))))]) t9.heap) (va_A [(m0, .inr (6, [.ref gA, .int (nI n), .ref tA, .int (nI w), .int (nI fo), .ref pA, .ref sA, .ref mA, .int ch, .int (nI ma), .ref npA, .ref nsA, .ref nmA, .int nc, .int (nI le), .ref lA, .int (nI dr), .ref dA, .int (nI dn)])), (gA, .inl (cI, 96, .inl (fun jj => nI (g jj))))] sz)) 0 0 (va_A [(m0, .inr (6, [.ref gA, .int (nI n), .ref tA, .int (nI w), .int (nI fo), .ref pA, .ref sA, .ref mA, .int ch, .int (nI ma), .ref npA, .ref nsA, .ref nmA, .int nc, .int (nI le), .ref lA, .int (nI dr), .ref dA, .int (nI dn)])), (gA, .inl (cI, 96, .inl (fun jj => nI (g jj))))] sz) := by
  refine zMet (cc := cX6_before) (maxL := 4) (ret := (some .int)) (Qc := fun A => (va_Qi (fun (rv : Int32) (uu : Unit) => rv = nI (zbef n g p) ∧ True) (fun (uu : Unit) t9 => va_P D vwCl ([(m0, .inr (6, [.ref gA, .int (nI n), .ref tA, .int (nI w), .int (nI fo), .ref pA, .ref sA, .ref mA, .int ch, .int (nI ma), .ref npA, .ref nsA, .ref nmA, .int nc, .int (nI le), .ref lA, .int (nI dr), .ref dA, .int (nI dn)])), (gA, .inl (cI, 96, .inl (fun jj => nI (g jj))))]) t9.heap) A)) (by decide) rfl (Nat.le_of_ble_eq_true rfl) ?_
  intro pr en s0 mi bl me co A hC hA hK hE H locs hP hD hS ls hl
  obtain ⟨hx, hb, hr, hml, hown, hts, hlocks, hin⟩ := id hC
  have hl : lv_has ls 4 [(0, .ref m0), (1, .int (nI p))] := hl
  refine lv_iconst (v := nI 0) hx hb dX6_before_0 (by decide) ?_
  refine lv_istore_n (lv' := [(2, .int (nI 0)), (0, .ref m0), (1, .int (nI p))]) hx hb dX6_before_1 rfl hl (by decide) rfl (fun ls hl => ?_)
  refine lv_iconst (v := nI 0) hx hb dX6_before_2 (by decide) ?_
  refine lv_istore_n (lv' := [(3, .int (nI 0)), (2, .int (nI 0)), (0, .ref m0), (1, .int (nI p))]) hx hb dX6_before_3 rfl hl (by decide) rfl (fun ls hl => ?_)
  exact j_before_L4 l D cI cC  m0 gA n tA w fo pA sA mA ma npA nsA nmA le lA dr dA dn ch nc p g hn hg hp hC hA hK hE _ 0 0 (Nat.lt_succ_self _) (Nat.zero_le _) rfl _ _ hP hD hS ls (lv_sub hl [2, 3, 1, 0] rfl)
set_option maxHeartbeats 4000000 in
set_option maxRecDepth 100000 in
theorem j_row_L2 {pr : Program} {en : Env} {s0 : State} {mi : MethodId} {bl : List Frame} {me : Method} {co : Code} {A : Nat → Prop} (l : Launch) (D : va_G) (cI cC : ClassId)  (m0 gA n tA w fo pA sA mA ma npA nsA nmA le lA dr dA dn : Nat) (ch nc : Int32) (i : Int32) (g : Nat → Nat) (hn : n ≤ 96) (hg : ∀ i, g i ≤ 4) (hC : zK pr s0 mi ([.ref m0, .int i] : List Value).toArray me co cX6_row 3 (some .int) yX6_row wsX6_row) (hA : ∀ q, s0.heap.size ≤ q → A q) (hK : va_K D vwCl [(cI, .int), (cC, .char)] s0) (hE : zE0 A s0 s0.heap) :
    ∀ (N : Nat) (k : Nat), n + 1 - k < N → (k ≤ n + 1) → (∀ q, q < k → ¬ i = nI (zbef n g q)) → ∀ (H : Heap) (locs : List Loc), va_P D vwCl [(m0, .inr (6, [.ref gA, .int (nI n), .ref tA, .int (nI w), .int (nI fo), .ref pA, .ref sA, .ref mA, .int ch, .int (nI ma), .ref npA, .ref nsA, .ref nmA, .int nc, .int (nI le), .ref lA, .int (nI dr), .ref dA, .int (nI dn)])), (gA, .inl (cI, 96, .inl (fun jj => nI (g jj))))] H → va_D A [(m0, .inr (6, [.ref gA, .int (nI n), .ref tA, .int (nI w), .int (nI fo), .ref pA, .ref sA, .ref mA, .int ch, .int (nI ma), .ref npA, .ref nsA, .ref nmA, .int nc, .int (nI le), .ref lA, .int (nI dr), .ref dA, .int (nI dn)])), (gA, .inl (cI, 96, .inl (fun jj => nI (g jj))))] → va_S A s0.heap H locs → ∀ ls : Array Slot, lv_has ls 3 [(0, .ref m0), (1, .int i), (2, .int (nI k))] → W pr l en ({ frames := 3, cells := 0, slots := 0, locals := 69 } : Room) s0 mi ([.ref m0, .int i] : List Value).toArray bl me co H locs 0 0 (MQ bl (va_Qi (fun (rv : Int32) (uu : Unit) => zrowR n g i rv) (fun (uu : Unit) t9 => va_P D vwCl ([(m0, .inr (6, [.ref gA, .int (nI n), .ref tA, .int (nI w), .int (nI fo), .ref pA, .ref sA, .ref mA, .int ch, .int (nI ma), .ref npA, .ref nsA, .ref nmA, .int nc, .int (nI le), .ref lA, .int (nI dr), .ref dA, .int (nI dn)])), (gA, .inl (cI, 96, .inl (fun jj => nI (g jj))))]) t9.heap) A) ([.ref m0, .int i] : List Value).toArray s0 0 0 A) (F0 mi 2 ls []) := by
  obtain ⟨hx, hb, hr, hml, hown, hts, hlocks, hin⟩ := id hC
  intro N
  induction N with
  | zero =>
    intro k hmea
    omega
  | succ N ih =>
    intro k hmea hk hk2 H locs hP hD hS ls hl
    refine lv_iload_n hx hb dX6_row_2 rfl (lv_at hl 2 rfl) ?_
    refine lv_aload_n hx hb dX6_row_3 rfl (lv_at hl 0 rfl) ?_
    refine va_get (D := D) (ci := 6) (v := .int (nI n)) (C := RX6) (T := TX6) (N := 19) hx hb hts (fun w h => List.mem_cons_of_mem _ (inUX6 w h)) hown hK hP 0 rfl rfl 1 (by decide) (hts _ (List.mem_cons_of_mem _ mw_439)) (fun _ h9 => h9) rfl dX6_row_4 ?_
    refine zz_gt (tgt := 27) hx hb dX6_row_7 (by decide) (by omega) (by omega) (fun c7 => ?_) (fun c7 => ?_)
    · skip
      refine lv_iconst (v := (-1)) hx hb dX6_row_27 (by decide) ?_
      exact zIret hC hS () (Or.inr ⟨fun q h => hk2 q (by omega), rfl⟩) hP (vp_nar_int _) dX6_row_28
    · skip
      refine lv_aload_n hx hb dX6_row_10 rfl (lv_at hl 0 rfl) ?_
      refine lv_iload_n hx hb dX6_row_11 rfl (lv_at hl 2 rfl) ?_
      refine zCi (is := [0, 1]) (wf := (fun (uu : Unit) => ([(m0, .inr (6, [.ref gA, .int (nI n), .ref tA, .int (nI w), .int (nI fo), .ref pA, .ref sA, .ref mA, .int ch, .int (nI ma), .ref npA, .ref nsA, .ref nmA, .int nc, .int (nI le), .ref lA, .int (nI dr), .ref dA, .int (nI dn)])), (gA, .inl (cI, 96, .inl (fun jj => nI (g jj))))] : va_W))) (va_runV (As := [.int (nI k)]) (rest := []) ⟨hx, hb, hml, hown, hts⟩ (j_before l D cI cC  m0 gA n tA w fo pA sA mA ma npA nsA nmA le lA dr dA dn ch nc k g (by omega) hg (by omega) H.size) (cwV 1 hts (zgood mw_524 mw_526 mw_5 mw_32 mw_527) rfl rfl rfl (by decide +kernel) ⟨Nat.le_of_ble_eq_true rfl, Nat.le_of_ble_eq_true rfl⟩) ⟨zBlind zE0_ok, va_recv hK hP (ci := 6) (q0 := 0) rfl rfl, zAt (av := [.ref m0, .int (nI k)]) zE0_ok hP hD hK hS hA trivial [0, 1] rfl (by decide)⟩ rfl rfl hl.1 rfl (lv_room (Nat.le_of_ble_eq_true rfl)) dX6_row_12 ⟨Nat.zero_le _, Nat.zero_le _⟩) hP hD hS hA rfl (fun _ => rfl) (fun r12 u12 H locs w12 hP hD hS => ?_)
      obtain ⟨rfl, w12⟩ := w12
      have hP : va_P D vwCl [(m0, .inr (6, [.ref gA, .int (nI n), .ref tA, .int (nI w), .int (nI fo), .ref pA, .ref sA, .ref mA, .int ch, .int (nI ma), .ref npA, .ref nsA, .ref nmA, .int nc, .int (nI le), .ref lA, .int (nI dr), .ref dA, .int (nI dn)])), (gA, .inl (cI, 96, .inl (fun jj => nI (g jj))))] H := hP
      have hD : va_D A [(m0, .inr (6, [.ref gA, .int (nI n), .ref tA, .int (nI w), .int (nI fo), .ref pA, .ref sA, .ref mA, .int ch, .int (nI ma), .ref npA, .ref nsA, .ref nmA, .int nc, .int (nI le), .ref lA, .int (nI dr), .ref dA, .int (nI dn)])), (gA, .inl (cI, 96, .inl (fun jj => nI (g jj))))] := hD
      refine lv_iload_n hx hb dX6_row_15 rfl (lv_at hl 1 rfl) ?_
      refine lv_icmp_ne (tgt := 21) hx hb dX6_row_16 (by decide) (fun c16 => ?_) (fun c16 => ?_)
      · skip
        refine lv_iinc (v := nI (k + 1)) (lv' := [(2, .int (nI (k + 1))), (0, .ref m0), (1, .int i)]) hx hb dX6_row_21 hl (k := 2) rfl (zincE (by omega)) (by decide) rfl (fun ls hl => ?_)
        refine lv_goto (tgt := 2) hx hb dX6_row_24 (by decide) ?_
        exact ih (k + 1) (by omega) (by omega) (fun q h => by
          by_cases e : q = k
          · subst e; exact fun z => c16 z.symm
          · exact hk2 q (by omega)) _ _ hP hD hS ls (lv_sub hl [1, 2, 0] rfl)
      · skip
        refine lv_iload_n hx hb dX6_row_19 rfl (lv_at hl 2 rfl) ?_
        exact zIret hC hS () (Or.inl ⟨k, by omega, c16.symm, rfl⟩) hP (vp_nar_int _) dX6_row_20
set_option maxHeartbeats 4000000 in
set_option maxRecDepth 100000 in
theorem j_row (l : Launch) (D : va_G) (cI cC : ClassId)  (m0 gA n tA w fo pA sA mA ma npA nsA nmA le lA dr dA dn : Nat) (ch nc : Int32) (i : Int32) (g : Nat → Nat) (hn : n ≤ 96) (hg : ∀ i, g i ≤ 4) (sz : Nat) : Met l yX6_row wsX6_row ({ frames := 3, cells := 0, slots := 0, locals := 69 } : Room) (zPre zE0 D vwCl [(cI, .int), (cC, .char)] [.ref m0, .int i] [(m0, .inr (6, [.ref gA, .int (nI n), .ref tA, .int (nI w), .int (nI fo), .ref pA, .ref sA, .ref mA, .int ch, .int (nI ma), .ref npA, .ref nsA, .ref nmA, .int nc, .int (nI le), .ref lA, .int (nI dr), .ref dA, .int (nI dn)])), (gA, .inl (cI, 96, .inl (fun jj => nI (g jj))))] sz) (va_Qi (fun (rv : Int32) (uu : Unit) => zrowR n g i rv) (fun (uu : Unit) t9 => va_P D vwCl ([(m0, .inr (6, [.ref gA, .int (nI n), .ref tA, .int (nI w), .int (nI fo), .ref pA, .ref sA, .ref mA, .int ch, .int (nI ma), .ref npA, .ref nsA, .ref nmA, .int nc, .int (nI le), .ref lA, .int (nI dr), .ref dA, .int (nI dn)])), (gA, .inl (cI, 96, .inl (fun jj => nI (g jj))))]) t9.heap) (va_A [(m0, .inr (6, [.ref gA, .int (nI n), .ref tA, .int (nI w), .int (nI fo), .ref pA, .ref sA, .ref mA, .int ch, .int (nI ma), .ref npA, .ref nsA, .ref nmA, .int nc, .int (nI le), .ref lA, .int (nI dr), .ref dA, .int (nI dn)])), (gA, .inl (cI, 96, .inl (fun jj => nI (g jj))))] sz)) 0 0 (va_A [(m0, .inr (6, [.ref gA, .int (nI n), .ref tA, .int (nI w), .int (nI fo), .ref pA, .ref sA, .ref mA, .int ch, .int (nI ma), .ref npA, .ref nsA, .ref nmA, .int nc, .int (nI le), .ref lA, .int (nI dr), .ref dA, .int (nI dn)])), (gA, .inl (cI, 96, .inl (fun jj => nI (g jj))))] sz) := by
  refine zMet (cc := cX6_row) (maxL := 3) (ret := (some .int)) (Qc := fun A => (va_Qi (fun (rv : Int32) (uu : Unit) => zrowR n g i rv) (fun (uu : Unit) t9 => va_P D vwCl ([(m0, .inr (6, [.ref gA, .int (nI n), .ref tA, .int (nI w), .int (nI fo), .ref pA, .ref sA, .ref mA, .int ch, .int (nI ma), .ref npA, .ref nsA, .ref nmA, .int nc, .int (nI le), .ref lA, .int (nI dr), .ref dA, .int (nI dn)])), (gA, .inl (cI, 96, .inl (fun jj => nI (g jj))))]) t9.heap) A)) (by decide) rfl (Nat.le_of_ble_eq_true rfl) ?_
  intro pr en s0 mi bl me co A hC hA hK hE H locs hP hD hS ls hl
  obtain ⟨hx, hb, hr, hml, hown, hts, hlocks, hin⟩ := id hC
  have hl : lv_has ls 3 [(0, .ref m0), (1, .int i)] := hl
  refine lv_iconst (v := nI 0) hx hb dX6_row_0 (by decide) ?_
  refine lv_istore_n (lv' := [(2, .int (nI 0)), (0, .ref m0), (1, .int i)]) hx hb dX6_row_1 rfl hl (by decide) rfl (fun ls hl => ?_)
  exact j_row_L2 l D cI cC  m0 gA n tA w fo pA sA mA ma npA nsA nmA le lA dr dA dn ch nc i g hn hg hC hA hK hE _ 0 (Nat.lt_succ_self _) (Nat.zero_le _) (fun q h => absurd h (Nat.not_lt_zero _)) _ _ hP hD hS ls (lv_sub hl [1, 2, 0] rfl)
end
section
set_option maxHeartbeats 4000000 in
set_option maxRecDepth 100000 in
theorem j_base (l : Launch) (D : va_G) (cI cC : ClassId)  (m0 gA n tA w fo pA sA mA ma npA nsA nmA le lA dr dA dn : Nat) (ch nc : Int32) (x : Nat) (g : Nat → Nat) (hn : n < 96) (hx4 : x ≤ 4) (sz : Nat) : Met l yX6_base wsX6_base ({ frames := 0, cells := 0, slots := 0, locals := 0 } : Room) (zPre zE0 D vwCl [(cI, .int), (cC, .char)] [.ref m0, .int (nI x)] [(m0, .inr (6, [.ref gA, .int (nI n), .ref tA, .int (nI w), .int (nI fo), .ref pA, .ref sA, .ref mA, .int ch, .int (nI ma), .ref npA, .ref nsA, .ref nmA, .int nc, .int (nI le), .ref lA, .int (nI dr), .ref dA, .int (nI dn)])), (gA, .inl (cI, 96, .inl (fun jj => nI (g jj))))] sz) (va_Qi (fun (rv : Int32) (uu : Unit) => rv = nI 1 ∧ True) (fun (uu : Unit) t9 => va_P D vwCl ([(m0, .inr (6, [.ref gA, .int (nI (n + 1)), .ref tA, .int (nI w), .int (nI fo), .ref pA, .ref sA, .ref mA, .int ch, .int (nI ma), .ref npA, .ref nsA, .ref nmA, .int nc, .int (nI le), .ref lA, .int (nI dr), .ref dA, .int (nI dn)])), (gA, .inl (cI, 96, .inl (fun jj => nI (zup g n x jj))))]) t9.heap) (va_A [(m0, .inr (6, [.ref gA, .int (nI n), .ref tA, .int (nI w), .int (nI fo), .ref pA, .ref sA, .ref mA, .int ch, .int (nI ma), .ref npA, .ref nsA, .ref nmA, .int nc, .int (nI le), .ref lA, .int (nI dr), .ref dA, .int (nI dn)])), (gA, .inl (cI, 96, .inl (fun jj => nI (g jj))))] sz)) 0 0 (va_A [(m0, .inr (6, [.ref gA, .int (nI n), .ref tA, .int (nI w), .int (nI fo), .ref pA, .ref sA, .ref mA, .int ch, .int (nI ma), .ref npA, .ref nsA, .ref nmA, .int nc, .int (nI le), .ref lA, .int (nI dr), .ref dA, .int (nI dn)])), (gA, .inl (cI, 96, .inl (fun jj => nI (g jj))))] sz) := by
  refine zMet (cc := cX6_base) (maxL := 2) (ret := (some .boolean)) (Qc := fun A => (va_Qi (fun (rv : Int32) (uu : Unit) => rv = nI 1 ∧ True) (fun (uu : Unit) t9 => va_P D vwCl ([(m0, .inr (6, [.ref gA, .int (nI (n + 1)), .ref tA, .int (nI w), .int (nI fo), .ref pA, .ref sA, .ref mA, .int ch, .int (nI ma), .ref npA, .ref nsA, .ref nmA, .int nc, .int (nI le), .ref lA, .int (nI dr), .ref dA, .int (nI dn)])), (gA, .inl (cI, 96, .inl (fun jj => nI (zup g n x jj))))]) t9.heap) A)) (by decide) rfl (Nat.le_of_ble_eq_true rfl) ?_
  intro pr en s0 mi bl me co A hC hA hK hE H locs hP hD hS ls hl
  obtain ⟨hx, hb, hr, hml, hown, hts, hlocks, hin⟩ := id hC
  have hl : lv_has ls 2 [(0, .ref m0), (1, .int (nI x))] := hl
  refine lv_iload_n hx hb dX6_base_0 rfl (lv_at hl 1 rfl) ?_
  refine zz_lt0 (tgt := 18) hx hb dX6_base_1 (by decide) (by omega) ?_
  refine lv_iload_n hx hb dX6_base_4 rfl (lv_at hl 1 rfl) ?_
  refine lv_iconst (v := nI 4) hx hb dX6_base_5 (by decide) ?_
  refine zz_gt (tgt := 18) hx hb dX6_base_6 (by decide) (by omega) (by omega) (fun c6 => ?_) (fun c6 => ?_)
  · skip
    exact absurd c6 (by omega)
  · skip
    refine lv_aload_n hx hb dX6_base_9 rfl (lv_at hl 0 rfl) ?_
    refine va_get (D := D) (ci := 6) (v := .int (nI n)) (C := RX6) (T := TX6) (N := 19) hx hb hts (fun w h => List.mem_cons_of_mem _ (inUX6 w h)) hown hK hP 0 rfl rfl 1 (by decide) (hts _ (List.mem_cons_of_mem _ mw_439)) (fun _ h9 => h9) rfl dX6_base_10 ?_
    refine lv_bipush (v := nI 96) hx hb dX6_base_13 (by decide) ?_
    refine zz_ne (tgt := 20) hx hb dX6_base_15 (by decide) (by omega) (by omega) (fun c15 => ?_) (fun c15 => ?_)
    · skip
      refine lv_aload_n hx hb dX6_base_20 rfl (lv_at hl 0 rfl) ?_
      refine va_get (D := D) (ci := 6) (v := .ref gA) (C := RX6) (T := TX6) (N := 19) hx hb hts (fun w h => List.mem_cons_of_mem _ (inUX6 w h)) hown hK hP 0 rfl rfl 0 (by decide) (hts _ (List.mem_cons_of_mem _ mw_438)) (fun _ h9 => h9) rfl dX6_base_21 ?_
      refine lv_aload_n hx hb dX6_base_24 rfl (lv_at hl 0 rfl) ?_
      refine va_get (D := D) (ci := 6) (v := .int (nI n)) (C := RX6) (T := TX6) (N := 19) hx hb hts (fun w h => List.mem_cons_of_mem _ (inUX6 w h)) hown hK hP 0 rfl rfl 1 (by decide) (hts _ (List.mem_cons_of_mem _ mw_439)) (fun _ h9 => h9) rfl dX6_base_25 ?_
      refine lv_iload_n hx hb dX6_base_28 rfl (lv_at hl 1 rfl) ?_
      refine zz_iast (k := n) (x := x) (f := g) hx hb hK hP hD hS 1 0 rfl rfl (by omega) (by omega) dX6_base_29 (fun H locs hP hD hS => ?_)
      have hP : va_P D vwCl [(m0, .inr (6, [.ref gA, .int (nI n), .ref tA, .int (nI w), .int (nI fo), .ref pA, .ref sA, .ref mA, .int ch, .int (nI ma), .ref npA, .ref nsA, .ref nmA, .int nc, .int (nI le), .ref lA, .int (nI dr), .ref dA, .int (nI dn)])), (gA, .inl (cI, 96, .inl (fun jj => nI (zup g n x jj))))] H := hP
      have hD : va_D A [(m0, .inr (6, [.ref gA, .int (nI n), .ref tA, .int (nI w), .int (nI fo), .ref pA, .ref sA, .ref mA, .int ch, .int (nI ma), .ref npA, .ref nsA, .ref nmA, .int nc, .int (nI le), .ref lA, .int (nI dr), .ref dA, .int (nI dn)])), (gA, .inl (cI, 96, .inl (fun jj => nI (zup g n x jj))))] := hD
      refine lv_aload_n hx hb dX6_base_30 rfl (lv_at hl 0 rfl) ?_
      refine lv_dup hx hb dX6_base_31 rfl ?_
      refine va_get (D := D) (ci := 6) (v := .int (nI n)) (C := RX6) (T := TX6) (N := 19) hx hb hts (fun w h => List.mem_cons_of_mem _ (inUX6 w h)) hown hK hP 0 rfl rfl 1 (by decide) (hts _ (List.mem_cons_of_mem _ mw_439)) (fun _ h9 => h9) rfl dX6_base_32 ?_
      refine lv_iconst (v := nI 1) hx hb dX6_base_35 (by decide) ?_
      refine lv_iadd hx hb dX6_base_36 ?_
      refine zz_top (y := nI (n + 1)) (zadd (by omega)) ?_
      refine va_put (D := D) (ci := 6) (v := .int (nI (n + 1))) (ty := .int) (C := RX6) (T := TX6) (N := 19) hx hb hts (fun w h => List.mem_cons_of_mem _ (inUX6 w h)) tyX6 tyX6_ok nmX6 hown hK hP hD hS 0 rfl rfl 1 (by decide) (hts _ (List.mem_cons_of_mem _ mw_439)) (fun _ h9 => h9) rfl (by decide +kernel) rfl rfl (Nat.le_of_ble_eq_true rfl) dX6_base_37 (fun H locs hP hD hS => ?_)
      have hP : va_P D vwCl [(m0, .inr (6, [.ref gA, .int (nI (n + 1)), .ref tA, .int (nI w), .int (nI fo), .ref pA, .ref sA, .ref mA, .int ch, .int (nI ma), .ref npA, .ref nsA, .ref nmA, .int nc, .int (nI le), .ref lA, .int (nI dr), .ref dA, .int (nI dn)])), (gA, .inl (cI, 96, .inl (fun jj => nI (zup g n x jj))))] H := hP
      have hD : va_D A [(m0, .inr (6, [.ref gA, .int (nI (n + 1)), .ref tA, .int (nI w), .int (nI fo), .ref pA, .ref sA, .ref mA, .int ch, .int (nI ma), .ref npA, .ref nsA, .ref nmA, .int nc, .int (nI le), .ref lA, .int (nI dr), .ref dA, .int (nI dn)])), (gA, .inl (cI, 96, .inl (fun jj => nI (zup g n x jj))))] := hD
      refine lv_iconst (v := nI 1) hx hb dX6_base_40 (by decide) ?_
      exact zIret hC hS () ⟨rfl, trivial⟩ hP (by decide) dX6_base_41
    · skip
      exact absurd c15 (by omega)
set_option maxHeartbeats 4000000 in
set_option maxRecDepth 100000 in
theorem j_base0 (l : Launch) (D : va_G) (cI cC : ClassId)  (m0 gA n tA w fo pA sA mA ma npA nsA nmA le lA dr dA dn : Nat) (ch nc : Int32) (b : Int32) (g : Nat → Nat) (hn : n ≤ 96) (hbad : (b < 0 ∨ nI 4 < b) ∨ n = 96) (sz : Nat) : Met l yX6_base wsX6_base ({ frames := 0, cells := 0, slots := 0, locals := 0 } : Room) (zPre zE0 D vwCl [(cI, .int), (cC, .char)] [.ref m0, .int b] [(m0, .inr (6, [.ref gA, .int (nI n), .ref tA, .int (nI w), .int (nI fo), .ref pA, .ref sA, .ref mA, .int ch, .int (nI ma), .ref npA, .ref nsA, .ref nmA, .int nc, .int (nI le), .ref lA, .int (nI dr), .ref dA, .int (nI dn)])), (gA, .inl (cI, 96, .inl (fun jj => nI (g jj))))] sz) (va_Qi (fun (rv : Int32) (uu : Unit) => rv = nI 0 ∧ True) (fun (uu : Unit) t9 => va_P D vwCl ([(m0, .inr (6, [.ref gA, .int (nI n), .ref tA, .int (nI w), .int (nI fo), .ref pA, .ref sA, .ref mA, .int ch, .int (nI ma), .ref npA, .ref nsA, .ref nmA, .int nc, .int (nI le), .ref lA, .int (nI dr), .ref dA, .int (nI dn)])), (gA, .inl (cI, 96, .inl (fun jj => nI (g jj))))]) t9.heap) (va_A [(m0, .inr (6, [.ref gA, .int (nI n), .ref tA, .int (nI w), .int (nI fo), .ref pA, .ref sA, .ref mA, .int ch, .int (nI ma), .ref npA, .ref nsA, .ref nmA, .int nc, .int (nI le), .ref lA, .int (nI dr), .ref dA, .int (nI dn)])), (gA, .inl (cI, 96, .inl (fun jj => nI (g jj))))] sz)) 0 0 (va_A [(m0, .inr (6, [.ref gA, .int (nI n), .ref tA, .int (nI w), .int (nI fo), .ref pA, .ref sA, .ref mA, .int ch, .int (nI ma), .ref npA, .ref nsA, .ref nmA, .int nc, .int (nI le), .ref lA, .int (nI dr), .ref dA, .int (nI dn)])), (gA, .inl (cI, 96, .inl (fun jj => nI (g jj))))] sz) := by
  refine zMet (cc := cX6_base) (maxL := 2) (ret := (some .boolean)) (Qc := fun A => (va_Qi (fun (rv : Int32) (uu : Unit) => rv = nI 0 ∧ True) (fun (uu : Unit) t9 => va_P D vwCl ([(m0, .inr (6, [.ref gA, .int (nI n), .ref tA, .int (nI w), .int (nI fo), .ref pA, .ref sA, .ref mA, .int ch, .int (nI ma), .ref npA, .ref nsA, .ref nmA, .int nc, .int (nI le), .ref lA, .int (nI dr), .ref dA, .int (nI dn)])), (gA, .inl (cI, 96, .inl (fun jj => nI (g jj))))]) t9.heap) A)) (by decide) rfl (Nat.le_of_ble_eq_true rfl) ?_
  intro pr en s0 mi bl me co A hC hA hK hE H locs hP hD hS ls hl
  obtain ⟨hx, hb, hr, hml, hown, hts, hlocks, hin⟩ := id hC
  have hl : lv_has ls 2 [(0, .ref m0), (1, .int b)] := hl
  refine lv_iload_n hx hb dX6_base_0 rfl (lv_at hl 1 rfl) ?_
  refine lv_if_lt (tgt := 18) hx hb dX6_base_1 (by decide) (fun c1 => ?_) (fun c1 => ?_)
  · skip
    refine lv_iconst (v := nI 0) hx hb dX6_base_18 (by decide) ?_
    exact zIret hC hS () ⟨rfl, trivial⟩ hP (by decide) dX6_base_19
  · skip
    refine lv_iload_n hx hb dX6_base_4 rfl (lv_at hl 1 rfl) ?_
    refine lv_iconst (v := nI 4) hx hb dX6_base_5 (by decide) ?_
    refine lv_icmp_gt (tgt := 18) hx hb dX6_base_6 (by decide) (fun c6 => ?_) (fun c6 => ?_)
    · skip
      refine lv_iconst (v := nI 0) hx hb dX6_base_18 (by decide) ?_
      exact zIret hC hS () ⟨rfl, trivial⟩ hP (by decide) dX6_base_19
    · skip
      refine lv_aload_n hx hb dX6_base_9 rfl (lv_at hl 0 rfl) ?_
      refine va_get (D := D) (ci := 6) (v := .int (nI n)) (C := RX6) (T := TX6) (N := 19) hx hb hts (fun w h => List.mem_cons_of_mem _ (inUX6 w h)) hown hK hP 0 rfl rfl 1 (by decide) (hts _ (List.mem_cons_of_mem _ mw_439)) (fun _ h9 => h9) rfl dX6_base_10 ?_
      refine lv_bipush (v := nI 96) hx hb dX6_base_13 (by decide) ?_
      refine zz_ne (tgt := 20) hx hb dX6_base_15 (by decide) (by omega) (by omega) (fun c15 => ?_) (fun c15 => ?_)
      · skip
        exact absurd hbad (fun q => by rcases q with (q | q) | q; exact c1 q; exact c6 q; exact c15 q)
      · skip
        refine lv_iconst (v := nI 0) hx hb dX6_base_18 (by decide) ?_
        exact zIret hC hS () ⟨rfl, trivial⟩ hP (by decide) dX6_base_19
set_option maxHeartbeats 4000000 in
set_option maxRecDepth 100000 in
theorem j_clear (l : Launch) (D : va_G) (cI cC : ClassId)  (m0 gA n tA w fo pA sA mA ma npA nsA nmA le lA dr dA dn : Nat) (ch nc : Int32)  (sz : Nat) : Met l yX6_clear wsX6_clear ({ frames := 0, cells := 0, slots := 0, locals := 0 } : Room) (zPre zE0 D vwCl [(cI, .int), (cC, .char)] [.ref m0] [(m0, .inr (6, [.ref gA, .int (nI n), .ref tA, .int (nI w), .int (nI fo), .ref pA, .ref sA, .ref mA, .int ch, .int (nI ma), .ref npA, .ref nsA, .ref nmA, .int nc, .int (nI le), .ref lA, .int (nI dr), .ref dA, .int (nI dn)]))] sz) (va_Qv (fun (uu : Unit) => True) (fun (uu : Unit) t9 => va_P D vwCl ([(m0, .inr (6, [.ref gA, .int (nI 0), .ref tA, .int (nI w), .int (nI fo), .ref pA, .ref sA, .ref mA, .int ch, .int (nI ma), .ref npA, .ref nsA, .ref nmA, .int nc, .int (nI le), .ref lA, .int (nI dr), .ref dA, .int (nI dn)]))]) t9.heap) (va_A [(m0, .inr (6, [.ref gA, .int (nI n), .ref tA, .int (nI w), .int (nI fo), .ref pA, .ref sA, .ref mA, .int ch, .int (nI ma), .ref npA, .ref nsA, .ref nmA, .int nc, .int (nI le), .ref lA, .int (nI dr), .ref dA, .int (nI dn)]))] sz)) 0 0 (va_A [(m0, .inr (6, [.ref gA, .int (nI n), .ref tA, .int (nI w), .int (nI fo), .ref pA, .ref sA, .ref mA, .int ch, .int (nI ma), .ref npA, .ref nsA, .ref nmA, .int nc, .int (nI le), .ref lA, .int (nI dr), .ref dA, .int (nI dn)]))] sz) := by
  refine zMet (cc := cX6_clear) (maxL := 1) (ret := none) (Qc := fun A => (va_Qv (fun (uu : Unit) => True) (fun (uu : Unit) t9 => va_P D vwCl ([(m0, .inr (6, [.ref gA, .int (nI 0), .ref tA, .int (nI w), .int (nI fo), .ref pA, .ref sA, .ref mA, .int ch, .int (nI ma), .ref npA, .ref nsA, .ref nmA, .int nc, .int (nI le), .ref lA, .int (nI dr), .ref dA, .int (nI dn)]))]) t9.heap) A)) (by decide) rfl (Nat.le_of_ble_eq_true rfl) ?_
  intro pr en s0 mi bl me co A hC hA hK hE H locs hP hD hS ls hl
  obtain ⟨hx, hb, hr, hml, hown, hts, hlocks, hin⟩ := id hC
  have hl : lv_has ls 1 [(0, .ref m0)] := hl
  refine lv_aload_n hx hb dX6_clear_0 rfl (lv_at hl 0 rfl) ?_
  refine lv_iconst (v := nI 0) hx hb dX6_clear_1 (by decide) ?_
  refine va_put (D := D) (ci := 6) (v := .int (nI 0)) (ty := .int) (C := RX6) (T := TX6) (N := 19) hx hb hts (fun w h => List.mem_cons_of_mem _ (inUX6 w h)) tyX6 tyX6_ok nmX6 hown hK hP hD hS 0 rfl rfl 1 (by decide) (hts _ (List.mem_cons_of_mem _ mw_439)) (fun _ h9 => h9) rfl (by decide +kernel) rfl rfl (Nat.le_of_ble_eq_true rfl) dX6_clear_2 (fun H locs hP hD hS => ?_)
  have hP : va_P D vwCl [(m0, .inr (6, [.ref gA, .int (nI 0), .ref tA, .int (nI w), .int (nI fo), .ref pA, .ref sA, .ref mA, .int ch, .int (nI ma), .ref npA, .ref nsA, .ref nmA, .int nc, .int (nI le), .ref lA, .int (nI dr), .ref dA, .int (nI dn)]))] H := hP
  have hD : va_D A [(m0, .inr (6, [.ref gA, .int (nI 0), .ref tA, .int (nI w), .int (nI fo), .ref pA, .ref sA, .ref mA, .int ch, .int (nI ma), .ref npA, .ref nsA, .ref nmA, .int nc, .int (nI le), .ref lA, .int (nI dr), .ref dA, .int (nI dn)]))] := hD
  exact zVret hC hS () trivial hP dX6_clear_5
set_option maxHeartbeats 4000000 in
set_option maxRecDepth 100000 in
theorem j_read (l : Launch) (D : va_G) (cI cC : ClassId)  (m0 gA n tA w fo pA sA mA ma npA nsA nmA le lA dr dA dn : Nat) (ch nc : Int32) (x : Nat) (r : Nat → Nat) (hw : w < 24) (hx3 : x ≤ 3) (sz : Nat) : Met l yX6_read wsX6_read ({ frames := 0, cells := 0, slots := 0, locals := 0 } : Room) (zPre zE0 D vwCl [(cI, .int), (cC, .char)] [.ref m0, .int (nI x)] [(m0, .inr (6, [.ref gA, .int (nI n), .ref tA, .int (nI w), .int (nI fo), .ref pA, .ref sA, .ref mA, .int ch, .int (nI ma), .ref npA, .ref nsA, .ref nmA, .int nc, .int (nI le), .ref lA, .int (nI dr), .ref dA, .int (nI dn)])), (tA, .inl (cI, 24, .inl (fun jj => nI (r jj))))] sz) (va_Qi (fun (rv : Int32) (uu : Unit) => rv = nI 1 ∧ True) (fun (uu : Unit) t9 => va_P D vwCl ([(m0, .inr (6, [.ref gA, .int (nI n), .ref tA, .int (nI (w + 1)), .int (nI fo), .ref pA, .ref sA, .ref mA, .int ch, .int (nI ma), .ref npA, .ref nsA, .ref nmA, .int nc, .int (nI le), .ref lA, .int (nI dr), .ref dA, .int (nI dn)])), (tA, .inl (cI, 24, .inl (fun jj => nI (zup r w x jj))))]) t9.heap) (va_A [(m0, .inr (6, [.ref gA, .int (nI n), .ref tA, .int (nI w), .int (nI fo), .ref pA, .ref sA, .ref mA, .int ch, .int (nI ma), .ref npA, .ref nsA, .ref nmA, .int nc, .int (nI le), .ref lA, .int (nI dr), .ref dA, .int (nI dn)])), (tA, .inl (cI, 24, .inl (fun jj => nI (r jj))))] sz)) 0 0 (va_A [(m0, .inr (6, [.ref gA, .int (nI n), .ref tA, .int (nI w), .int (nI fo), .ref pA, .ref sA, .ref mA, .int ch, .int (nI ma), .ref npA, .ref nsA, .ref nmA, .int nc, .int (nI le), .ref lA, .int (nI dr), .ref dA, .int (nI dn)])), (tA, .inl (cI, 24, .inl (fun jj => nI (r jj))))] sz) := by
  refine zMet (cc := cX6_read) (maxL := 2) (ret := (some .boolean)) (Qc := fun A => (va_Qi (fun (rv : Int32) (uu : Unit) => rv = nI 1 ∧ True) (fun (uu : Unit) t9 => va_P D vwCl ([(m0, .inr (6, [.ref gA, .int (nI n), .ref tA, .int (nI (w + 1)), .int (nI fo), .ref pA, .ref sA, .ref mA, .int ch, .int (nI ma), .ref npA, .ref nsA, .ref nmA, .int nc, .int (nI le), .ref lA, .int (nI dr), .ref dA, .int (nI dn)])), (tA, .inl (cI, 24, .inl (fun jj => nI (zup r w x jj))))]) t9.heap) A)) (by decide) rfl (Nat.le_of_ble_eq_true rfl) ?_
  intro pr en s0 mi bl me co A hC hA hK hE H locs hP hD hS ls hl
  obtain ⟨hx, hb, hr, hml, hown, hts, hlocks, hin⟩ := id hC
  have hl : lv_has ls 2 [(0, .ref m0), (1, .int (nI x))] := hl
  refine lv_iload_n hx hb dX6_read_0 rfl (lv_at hl 1 rfl) ?_
  refine zz_lt0 (tgt := 18) hx hb dX6_read_1 (by decide) (by omega) ?_
  refine lv_iload_n hx hb dX6_read_4 rfl (lv_at hl 1 rfl) ?_
  refine lv_iconst (v := nI 3) hx hb dX6_read_5 (by decide) ?_
  refine zz_gt (tgt := 18) hx hb dX6_read_6 (by decide) (by omega) (by omega) (fun c6 => ?_) (fun c6 => ?_)
  · skip
    exact absurd c6 (by omega)
  · skip
    refine lv_aload_n hx hb dX6_read_9 rfl (lv_at hl 0 rfl) ?_
    refine va_get (D := D) (ci := 6) (v := .int (nI w)) (C := RX6) (T := TX6) (N := 19) hx hb hts (fun w h => List.mem_cons_of_mem _ (inUX6 w h)) hown hK hP 0 rfl rfl 3 (by decide) (hts _ (List.mem_cons_of_mem _ mw_441)) (fun _ h9 => h9) rfl dX6_read_10 ?_
    refine lv_bipush (v := nI 24) hx hb dX6_read_13 (by decide) ?_
    refine zz_ne (tgt := 20) hx hb dX6_read_15 (by decide) (by omega) (by omega) (fun c15 => ?_) (fun c15 => ?_)
    · skip
      refine lv_aload_n hx hb dX6_read_20 rfl (lv_at hl 0 rfl) ?_
      refine va_get (D := D) (ci := 6) (v := .ref tA) (C := RX6) (T := TX6) (N := 19) hx hb hts (fun w h => List.mem_cons_of_mem _ (inUX6 w h)) hown hK hP 0 rfl rfl 2 (by decide) (hts _ (List.mem_cons_of_mem _ mw_440)) (fun _ h9 => h9) rfl dX6_read_21 ?_
      refine lv_aload_n hx hb dX6_read_24 rfl (lv_at hl 0 rfl) ?_
      refine va_get (D := D) (ci := 6) (v := .int (nI w)) (C := RX6) (T := TX6) (N := 19) hx hb hts (fun w h => List.mem_cons_of_mem _ (inUX6 w h)) hown hK hP 0 rfl rfl 3 (by decide) (hts _ (List.mem_cons_of_mem _ mw_441)) (fun _ h9 => h9) rfl dX6_read_25 ?_
      refine lv_iload_n hx hb dX6_read_28 rfl (lv_at hl 1 rfl) ?_
      refine zz_iast (k := w) (x := x) (f := r) hx hb hK hP hD hS 1 0 rfl rfl (by omega) (by omega) dX6_read_29 (fun H locs hP hD hS => ?_)
      have hP : va_P D vwCl [(m0, .inr (6, [.ref gA, .int (nI n), .ref tA, .int (nI w), .int (nI fo), .ref pA, .ref sA, .ref mA, .int ch, .int (nI ma), .ref npA, .ref nsA, .ref nmA, .int nc, .int (nI le), .ref lA, .int (nI dr), .ref dA, .int (nI dn)])), (tA, .inl (cI, 24, .inl (fun jj => nI (zup r w x jj))))] H := hP
      have hD : va_D A [(m0, .inr (6, [.ref gA, .int (nI n), .ref tA, .int (nI w), .int (nI fo), .ref pA, .ref sA, .ref mA, .int ch, .int (nI ma), .ref npA, .ref nsA, .ref nmA, .int nc, .int (nI le), .ref lA, .int (nI dr), .ref dA, .int (nI dn)])), (tA, .inl (cI, 24, .inl (fun jj => nI (zup r w x jj))))] := hD
      refine lv_aload_n hx hb dX6_read_30 rfl (lv_at hl 0 rfl) ?_
      refine lv_dup hx hb dX6_read_31 rfl ?_
      refine va_get (D := D) (ci := 6) (v := .int (nI w)) (C := RX6) (T := TX6) (N := 19) hx hb hts (fun w h => List.mem_cons_of_mem _ (inUX6 w h)) hown hK hP 0 rfl rfl 3 (by decide) (hts _ (List.mem_cons_of_mem _ mw_441)) (fun _ h9 => h9) rfl dX6_read_32 ?_
      refine lv_iconst (v := nI 1) hx hb dX6_read_35 (by decide) ?_
      refine lv_iadd hx hb dX6_read_36 ?_
      refine zz_top (y := nI (w + 1)) (zadd (by omega)) ?_
      refine va_put (D := D) (ci := 6) (v := .int (nI (w + 1))) (ty := .int) (C := RX6) (T := TX6) (N := 19) hx hb hts (fun w h => List.mem_cons_of_mem _ (inUX6 w h)) tyX6 tyX6_ok nmX6 hown hK hP hD hS 0 rfl rfl 3 (by decide) (hts _ (List.mem_cons_of_mem _ mw_441)) (fun _ h9 => h9) rfl (by decide +kernel) rfl rfl (Nat.le_of_ble_eq_true rfl) dX6_read_37 (fun H locs hP hD hS => ?_)
      have hP : va_P D vwCl [(m0, .inr (6, [.ref gA, .int (nI n), .ref tA, .int (nI (w + 1)), .int (nI fo), .ref pA, .ref sA, .ref mA, .int ch, .int (nI ma), .ref npA, .ref nsA, .ref nmA, .int nc, .int (nI le), .ref lA, .int (nI dr), .ref dA, .int (nI dn)])), (tA, .inl (cI, 24, .inl (fun jj => nI (zup r w x jj))))] H := hP
      have hD : va_D A [(m0, .inr (6, [.ref gA, .int (nI n), .ref tA, .int (nI (w + 1)), .int (nI fo), .ref pA, .ref sA, .ref mA, .int ch, .int (nI ma), .ref npA, .ref nsA, .ref nmA, .int nc, .int (nI le), .ref lA, .int (nI dr), .ref dA, .int (nI dn)])), (tA, .inl (cI, 24, .inl (fun jj => nI (zup r w x jj))))] := hD
      refine lv_iconst (v := nI 1) hx hb dX6_read_40 (by decide) ?_
      exact zIret hC hS () ⟨rfl, trivial⟩ hP (by decide) dX6_read_41
    · skip
      exact absurd c15 (by omega)
set_option maxHeartbeats 4000000 in
set_option maxRecDepth 100000 in
theorem j_read0 (l : Launch) (D : va_G) (cI cC : ClassId)  (m0 gA n tA w fo pA sA mA ma npA nsA nmA le lA dr dA dn : Nat) (ch nc : Int32) (b : Int32) (r : Nat → Nat) (hw : w ≤ 24) (hbad : (b < 0 ∨ nI 3 < b) ∨ w = 24) (sz : Nat) : Met l yX6_read wsX6_read ({ frames := 0, cells := 0, slots := 0, locals := 0 } : Room) (zPre zE0 D vwCl [(cI, .int), (cC, .char)] [.ref m0, .int b] [(m0, .inr (6, [.ref gA, .int (nI n), .ref tA, .int (nI w), .int (nI fo), .ref pA, .ref sA, .ref mA, .int ch, .int (nI ma), .ref npA, .ref nsA, .ref nmA, .int nc, .int (nI le), .ref lA, .int (nI dr), .ref dA, .int (nI dn)])), (tA, .inl (cI, 24, .inl (fun jj => nI (r jj))))] sz) (va_Qi (fun (rv : Int32) (uu : Unit) => rv = nI 0 ∧ True) (fun (uu : Unit) t9 => va_P D vwCl ([(m0, .inr (6, [.ref gA, .int (nI n), .ref tA, .int (nI w), .int (nI fo), .ref pA, .ref sA, .ref mA, .int ch, .int (nI ma), .ref npA, .ref nsA, .ref nmA, .int nc, .int (nI le), .ref lA, .int (nI dr), .ref dA, .int (nI dn)])), (tA, .inl (cI, 24, .inl (fun jj => nI (r jj))))]) t9.heap) (va_A [(m0, .inr (6, [.ref gA, .int (nI n), .ref tA, .int (nI w), .int (nI fo), .ref pA, .ref sA, .ref mA, .int ch, .int (nI ma), .ref npA, .ref nsA, .ref nmA, .int nc, .int (nI le), .ref lA, .int (nI dr), .ref dA, .int (nI dn)])), (tA, .inl (cI, 24, .inl (fun jj => nI (r jj))))] sz)) 0 0 (va_A [(m0, .inr (6, [.ref gA, .int (nI n), .ref tA, .int (nI w), .int (nI fo), .ref pA, .ref sA, .ref mA, .int ch, .int (nI ma), .ref npA, .ref nsA, .ref nmA, .int nc, .int (nI le), .ref lA, .int (nI dr), .ref dA, .int (nI dn)])), (tA, .inl (cI, 24, .inl (fun jj => nI (r jj))))] sz) := by
  refine zMet (cc := cX6_read) (maxL := 2) (ret := (some .boolean)) (Qc := fun A => (va_Qi (fun (rv : Int32) (uu : Unit) => rv = nI 0 ∧ True) (fun (uu : Unit) t9 => va_P D vwCl ([(m0, .inr (6, [.ref gA, .int (nI n), .ref tA, .int (nI w), .int (nI fo), .ref pA, .ref sA, .ref mA, .int ch, .int (nI ma), .ref npA, .ref nsA, .ref nmA, .int nc, .int (nI le), .ref lA, .int (nI dr), .ref dA, .int (nI dn)])), (tA, .inl (cI, 24, .inl (fun jj => nI (r jj))))]) t9.heap) A)) (by decide) rfl (Nat.le_of_ble_eq_true rfl) ?_
  intro pr en s0 mi bl me co A hC hA hK hE H locs hP hD hS ls hl
  obtain ⟨hx, hb, hr, hml, hown, hts, hlocks, hin⟩ := id hC
  have hl : lv_has ls 2 [(0, .ref m0), (1, .int b)] := hl
  refine lv_iload_n hx hb dX6_read_0 rfl (lv_at hl 1 rfl) ?_
  refine lv_if_lt (tgt := 18) hx hb dX6_read_1 (by decide) (fun c1 => ?_) (fun c1 => ?_)
  · skip
    refine lv_iconst (v := nI 0) hx hb dX6_read_18 (by decide) ?_
    exact zIret hC hS () ⟨rfl, trivial⟩ hP (by decide) dX6_read_19
  · skip
    refine lv_iload_n hx hb dX6_read_4 rfl (lv_at hl 1 rfl) ?_
    refine lv_iconst (v := nI 3) hx hb dX6_read_5 (by decide) ?_
    refine lv_icmp_gt (tgt := 18) hx hb dX6_read_6 (by decide) (fun c6 => ?_) (fun c6 => ?_)
    · skip
      refine lv_iconst (v := nI 0) hx hb dX6_read_18 (by decide) ?_
      exact zIret hC hS () ⟨rfl, trivial⟩ hP (by decide) dX6_read_19
    · skip
      refine lv_aload_n hx hb dX6_read_9 rfl (lv_at hl 0 rfl) ?_
      refine va_get (D := D) (ci := 6) (v := .int (nI w)) (C := RX6) (T := TX6) (N := 19) hx hb hts (fun w h => List.mem_cons_of_mem _ (inUX6 w h)) hown hK hP 0 rfl rfl 3 (by decide) (hts _ (List.mem_cons_of_mem _ mw_441)) (fun _ h9 => h9) rfl dX6_read_10 ?_
      refine lv_bipush (v := nI 24) hx hb dX6_read_13 (by decide) ?_
      refine zz_ne (tgt := 20) hx hb dX6_read_15 (by decide) (by omega) (by omega) (fun c15 => ?_) (fun c15 => ?_)
      · skip
        exact absurd hbad (fun q => by rcases q with (q | q) | q; exact c1 q; exact c6 q; exact c15 q)
      · skip
        refine lv_iconst (v := nI 0) hx hb dX6_read_18 (by decide) ?_
        exact zIret hC hS () ⟨rfl, trivial⟩ hP (by decide) dX6_read_19
set_option maxHeartbeats 4000000 in
set_option maxRecDepth 100000 in
theorem j_wipe (l : Launch) (D : va_G) (cI cC : ClassId)  (m0 gA n tA w fo pA sA mA ma npA nsA nmA le lA dr dA dn : Nat) (ch nc : Int32)  (sz : Nat) : Met l yX6_wipe wsX6_wipe ({ frames := 0, cells := 0, slots := 0, locals := 0 } : Room) (zPre zE0 D vwCl [(cI, .int), (cC, .char)] [.ref m0] [(m0, .inr (6, [.ref gA, .int (nI n), .ref tA, .int (nI w), .int (nI fo), .ref pA, .ref sA, .ref mA, .int ch, .int (nI ma), .ref npA, .ref nsA, .ref nmA, .int nc, .int (nI le), .ref lA, .int (nI dr), .ref dA, .int (nI dn)]))] sz) (va_Qv (fun (uu : Unit) => True) (fun (uu : Unit) t9 => va_P D vwCl ([(m0, .inr (6, [.ref gA, .int (nI n), .ref tA, .int (nI 0), .int (nI fo), .ref pA, .ref sA, .ref mA, .int ch, .int (nI ma), .ref npA, .ref nsA, .ref nmA, .int nc, .int (nI le), .ref lA, .int (nI dr), .ref dA, .int (nI dn)]))]) t9.heap) (va_A [(m0, .inr (6, [.ref gA, .int (nI n), .ref tA, .int (nI w), .int (nI fo), .ref pA, .ref sA, .ref mA, .int ch, .int (nI ma), .ref npA, .ref nsA, .ref nmA, .int nc, .int (nI le), .ref lA, .int (nI dr), .ref dA, .int (nI dn)]))] sz)) 0 0 (va_A [(m0, .inr (6, [.ref gA, .int (nI n), .ref tA, .int (nI w), .int (nI fo), .ref pA, .ref sA, .ref mA, .int ch, .int (nI ma), .ref npA, .ref nsA, .ref nmA, .int nc, .int (nI le), .ref lA, .int (nI dr), .ref dA, .int (nI dn)]))] sz) := by
  refine zMet (cc := cX6_wipe) (maxL := 1) (ret := none) (Qc := fun A => (va_Qv (fun (uu : Unit) => True) (fun (uu : Unit) t9 => va_P D vwCl ([(m0, .inr (6, [.ref gA, .int (nI n), .ref tA, .int (nI 0), .int (nI fo), .ref pA, .ref sA, .ref mA, .int ch, .int (nI ma), .ref npA, .ref nsA, .ref nmA, .int nc, .int (nI le), .ref lA, .int (nI dr), .ref dA, .int (nI dn)]))]) t9.heap) A)) (by decide) rfl (Nat.le_of_ble_eq_true rfl) ?_
  intro pr en s0 mi bl me co A hC hA hK hE H locs hP hD hS ls hl
  obtain ⟨hx, hb, hr, hml, hown, hts, hlocks, hin⟩ := id hC
  have hl : lv_has ls 1 [(0, .ref m0)] := hl
  refine lv_aload_n hx hb dX6_wipe_0 rfl (lv_at hl 0 rfl) ?_
  refine lv_iconst (v := nI 0) hx hb dX6_wipe_1 (by decide) ?_
  refine va_put (D := D) (ci := 6) (v := .int (nI 0)) (ty := .int) (C := RX6) (T := TX6) (N := 19) hx hb hts (fun w h => List.mem_cons_of_mem _ (inUX6 w h)) tyX6 tyX6_ok nmX6 hown hK hP hD hS 0 rfl rfl 3 (by decide) (hts _ (List.mem_cons_of_mem _ mw_441)) (fun _ h9 => h9) rfl (by decide +kernel) rfl rfl (Nat.le_of_ble_eq_true rfl) dX6_wipe_2 (fun H locs hP hD hS => ?_)
  have hP : va_P D vwCl [(m0, .inr (6, [.ref gA, .int (nI n), .ref tA, .int (nI 0), .int (nI fo), .ref pA, .ref sA, .ref mA, .int ch, .int (nI ma), .ref npA, .ref nsA, .ref nmA, .int nc, .int (nI le), .ref lA, .int (nI dr), .ref dA, .int (nI dn)]))] H := hP
  have hD : va_D A [(m0, .inr (6, [.ref gA, .int (nI n), .ref tA, .int (nI 0), .int (nI fo), .ref pA, .ref sA, .ref mA, .int ch, .int (nI ma), .ref npA, .ref nsA, .ref nmA, .int nc, .int (nI le), .ref lA, .int (nI dr), .ref dA, .int (nI dn)]))] := hD
  exact zVret hC hS () trivial hP dX6_wipe_5
set_option maxHeartbeats 4000000 in
set_option maxRecDepth 100000 in
theorem j_symbol (l : Launch) (D : va_G) (cI cC : ClassId)  (m0 gA n tA w fo pA sA mA ma npA nsA nmA le lA dr dA dn : Nat) (ch nc : Int32) (t k : Nat) (r : Nat → Nat) (hw : w ≤ 24) (hr3 : ∀ i, i < w → r i ≤ 3) (ht : t ≤ 1) (hk : k < w) (sz : Nat) : Met l yX6_symbol wsX6_symbol ({ frames := 0, cells := 0, slots := 0, locals := 0 } : Room) (zPre zE0 D vwCl [(cI, .int), (cC, .char)] [.ref m0, .int (nI t), .int (nI k)] [(m0, .inr (6, [.ref gA, .int (nI n), .ref tA, .int (nI w), .int (nI fo), .ref pA, .ref sA, .ref mA, .int ch, .int (nI ma), .ref npA, .ref nsA, .ref nmA, .int nc, .int (nI le), .ref lA, .int (nI dr), .ref dA, .int (nI dn)])), (tA, .inl (cI, 24, .inl (fun jj => nI (r jj))))] sz) (va_Qi (fun (rv : Int32) (uu : Unit) => rv = nI (zsy w r t k) ∧ True) (fun (uu : Unit) t9 => va_P D vwCl ([(m0, .inr (6, [.ref gA, .int (nI n), .ref tA, .int (nI w), .int (nI fo), .ref pA, .ref sA, .ref mA, .int ch, .int (nI ma), .ref npA, .ref nsA, .ref nmA, .int nc, .int (nI le), .ref lA, .int (nI dr), .ref dA, .int (nI dn)])), (tA, .inl (cI, 24, .inl (fun jj => nI (r jj))))]) t9.heap) (va_A [(m0, .inr (6, [.ref gA, .int (nI n), .ref tA, .int (nI w), .int (nI fo), .ref pA, .ref sA, .ref mA, .int ch, .int (nI ma), .ref npA, .ref nsA, .ref nmA, .int nc, .int (nI le), .ref lA, .int (nI dr), .ref dA, .int (nI dn)])), (tA, .inl (cI, 24, .inl (fun jj => nI (r jj))))] sz)) 0 0 (va_A [(m0, .inr (6, [.ref gA, .int (nI n), .ref tA, .int (nI w), .int (nI fo), .ref pA, .ref sA, .ref mA, .int ch, .int (nI ma), .ref npA, .ref nsA, .ref nmA, .int nc, .int (nI le), .ref lA, .int (nI dr), .ref dA, .int (nI dn)])), (tA, .inl (cI, 24, .inl (fun jj => nI (r jj))))] sz) := by
  refine zMet (cc := cX6_symbol) (maxL := 3) (ret := (some .int)) (Qc := fun A => (va_Qi (fun (rv : Int32) (uu : Unit) => rv = nI (zsy w r t k) ∧ True) (fun (uu : Unit) t9 => va_P D vwCl ([(m0, .inr (6, [.ref gA, .int (nI n), .ref tA, .int (nI w), .int (nI fo), .ref pA, .ref sA, .ref mA, .int ch, .int (nI ma), .ref npA, .ref nsA, .ref nmA, .int nc, .int (nI le), .ref lA, .int (nI dr), .ref dA, .int (nI dn)])), (tA, .inl (cI, 24, .inl (fun jj => nI (r jj))))]) t9.heap) A)) (by decide) rfl (Nat.le_of_ble_eq_true rfl) ?_
  intro pr en s0 mi bl me co A hC hA hK hE H locs hP hD hS ls hl
  obtain ⟨hx, hb, hr, hml, hown, hts, hlocks, hin⟩ := id hC
  have hl : lv_has ls 3 [(0, .ref m0), (1, .int (nI t)), (2, .int (nI k))] := hl
  refine lv_iload_n hx hb dX6_symbol_0 rfl (lv_at hl 1 rfl) ?_
  refine zz_ne0 (tgt := 13) hx hb dX6_symbol_1 (by decide) (by omega) (fun c1 => ?_) (fun c1 => ?_)
  · skip
    refine lv_iconst (v := nI 3) hx hb dX6_symbol_13 (by decide) ?_
    refine lv_aload_n hx hb dX6_symbol_14 rfl (lv_at hl 0 rfl) ?_
    refine va_get (D := D) (ci := 6) (v := .ref tA) (C := RX6) (T := TX6) (N := 19) hx hb hts (fun w h => List.mem_cons_of_mem _ (inUX6 w h)) hown hK hP 0 rfl rfl 2 (by decide) (hts _ (List.mem_cons_of_mem _ mw_440)) (fun _ h9 => h9) rfl dX6_symbol_15 ?_
    refine lv_aload_n hx hb dX6_symbol_18 rfl (lv_at hl 0 rfl) ?_
    refine va_get (D := D) (ci := 6) (v := .int (nI w)) (C := RX6) (T := TX6) (N := 19) hx hb hts (fun w h => List.mem_cons_of_mem _ (inUX6 w h)) hown hK hP 0 rfl rfl 3 (by decide) (hts _ (List.mem_cons_of_mem _ mw_441)) (fun _ h9 => h9) rfl dX6_symbol_19 ?_
    refine lv_iconst (v := nI 1) hx hb dX6_symbol_22 (by decide) ?_
    refine lv_isub hx hb dX6_symbol_23 ?_
    refine zz_top (y := nI (w - 1)) (pk_sub (by omega)) ?_
    refine lv_iload_n hx hb dX6_symbol_24 rfl (lv_at hl 2 rfl) ?_
    refine lv_isub hx hb dX6_symbol_25 ?_
    refine zz_top (y := nI ((w - 1) - k)) (pk_sub (by omega)) ?_
    refine zz_iald (k := (w - 1) - k) (f := r) hx hb hK hP 1 0 rfl rfl (by omega) (by omega) dX6_symbol_26 ?_
    refine lv_isub hx hb dX6_symbol_27 ?_
    refine zz_top (y := nI (3 - (r ((w - 1) - k)))) (pk_sub (hr3 _ (by omega))) ?_
    exact zIret hC hS () ⟨congrArg nI (by unfold zsy; first | rw [if_pos c1] | rw [if_neg c1]), trivial⟩ hP (vp_nar_int _) dX6_symbol_28
  · skip
    refine lv_aload_n hx hb dX6_symbol_4 rfl (lv_at hl 0 rfl) ?_
    refine va_get (D := D) (ci := 6) (v := .ref tA) (C := RX6) (T := TX6) (N := 19) hx hb hts (fun w h => List.mem_cons_of_mem _ (inUX6 w h)) hown hK hP 0 rfl rfl 2 (by decide) (hts _ (List.mem_cons_of_mem _ mw_440)) (fun _ h9 => h9) rfl dX6_symbol_5 ?_
    refine lv_iload_n hx hb dX6_symbol_8 rfl (lv_at hl 2 rfl) ?_
    refine zz_iald (k := k) (f := r) hx hb hK hP 1 0 rfl rfl (by omega) (by omega) dX6_symbol_9 ?_
    refine lv_goto (tgt := 28) hx hb dX6_symbol_10 (by decide) ?_
    exact zIret hC hS () ⟨congrArg nI (by unfold zsy; first | rw [if_pos c1] | rw [if_neg c1]), trivial⟩ hP (vp_nar_int _) dX6_symbol_28
set_option maxHeartbeats 4000000 in
set_option maxRecDepth 100000 in
theorem j_turn_L2 {pr : Program} {en : Env} {s0 : State} {mi : MethodId} {bl : List Frame} {me : Method} {co : Code} {A : Nat → Prop} (l : Launch) (D : va_G) (cI cC : ClassId)  (m0 gA n tA w fo pA sA mA ma npA nsA nmA le lA dr dA dn : Nat) (ch nc : Int32) (r : Nat → Nat) (hw : w ≤ 24) (hr3 : ∀ i, i < w → r i ≤ 3) (hC : zK pr s0 mi ([.ref m0] : List Value).toArray me co cX6_turn 3 none yX6_turn wsX6_turn) (hA : ∀ q, s0.heap.size ≤ q → A q) (hK : va_K D vwCl [(cI, .int), (cC, .char)] s0) (hE : zE0 A s0 s0.heap) :
    ∀ (N : Nat) (k : Nat) (f : Nat → Nat), (w + 1) / 2 - k < N → (k ≤ (w + 1) / 2) → (∀ i, i < w → (i < k ∨ w - 1 - i < k) → f i = 3 - r (w - 1 - i)) → (∀ i, i < w → k ≤ i → k ≤ w - 1 - i → f i = r i) → ∀ (H : Heap) (locs : List Loc), va_P D vwCl [(m0, .inr (6, [.ref gA, .int (nI n), .ref tA, .int (nI w), .int (nI fo), .ref pA, .ref sA, .ref mA, .int ch, .int (nI ma), .ref npA, .ref nsA, .ref nmA, .int nc, .int (nI le), .ref lA, .int (nI dr), .ref dA, .int (nI dn)])), (tA, .inl (cI, 24, .inl (fun jj => nI (f jj))))] H → va_D A [(m0, .inr (6, [.ref gA, .int (nI n), .ref tA, .int (nI w), .int (nI fo), .ref pA, .ref sA, .ref mA, .int ch, .int (nI ma), .ref npA, .ref nsA, .ref nmA, .int nc, .int (nI le), .ref lA, .int (nI dr), .ref dA, .int (nI dn)])), (tA, .inl (cI, 24, .inl (fun jj => nI (f jj))))] → va_S A s0.heap H locs → ∀ ls : Array Slot, lv_has ls 3 [(0, .ref m0), (1, .int (nI k))] → W pr l en ({ frames := 0, cells := 0, slots := 0, locals := 0 } : Room) s0 mi ([.ref m0] : List Value).toArray bl me co H locs 0 0 (MQ bl (va_Qv (fun (uu : Nat → Nat) => ∀ i, i < w → uu i = 3 - r (w - 1 - i)) (fun (uu : Nat → Nat) t9 => va_P D vwCl ([(m0, .inr (6, [.ref gA, .int (nI n), .ref tA, .int (nI w), .int (nI fo), .ref pA, .ref sA, .ref mA, .int ch, .int (nI ma), .ref npA, .ref nsA, .ref nmA, .int nc, .int (nI le), .ref lA, .int (nI dr), .ref dA, .int (nI dn)])), (tA, .inl (cI, 24, .inl (fun jj => nI (uu jj))))]) t9.heap) A) ([.ref m0] : List Value).toArray s0 0 0 A) (F0 mi 2 ls []) := by
  obtain ⟨hx, hb, hr, hml, hown, hts, hlocks, hin⟩ := id hC
  intro N
  induction N with
  | zero =>
    intro k f hmea
    omega
  | succ N ih =>
    intro k f hmea hk h1k h2k H locs hP hD hS ls hl
    refine lv_iload_n hx hb dX6_turn_2 rfl (lv_at hl 1 rfl) ?_
    refine lv_aload_n hx hb dX6_turn_3 rfl (lv_at hl 0 rfl) ?_
    refine va_get (D := D) (ci := 6) (v := .int (nI w)) (C := RX6) (T := TX6) (N := 19) hx hb hts (fun w h => List.mem_cons_of_mem _ (inUX6 w h)) hown hK hP 0 rfl rfl 3 (by decide) (hts _ (List.mem_cons_of_mem _ mw_441)) (fun _ h9 => h9) rfl dX6_turn_4 ?_
    refine lv_iconst (v := nI 1) hx hb dX6_turn_7 (by decide) ?_
    refine lv_iadd hx hb dX6_turn_8 ?_
    refine zz_top (y := nI (w + 1)) (zadd (by omega)) ?_
    refine lv_iconst (v := nI 2) hx hb dX6_turn_9 (by decide) ?_
    refine lv_idiv hx hb dX6_turn_10 (nI_ne0 (by omega) (by omega)) ?_
    refine zz_top (y := nI ((w + 1) / 2)) (pk_div (by omega) (by omega) (by omega)) ?_
    refine zz_ge (tgt := 64) hx hb dX6_turn_11 (by decide) (by omega) (by omega) (fun c11 => ?_) (fun c11 => ?_)
    · skip
      exact zVret hC hS f (fun i hi => h1k i hi (by omega)) hP dX6_turn_64
    · skip
      have q1 := h2k k (by omega) (by omega) (by omega)
      have q2 := h2k (w - 1 - k) (by omega) (by omega) (by omega)
      have q3 := hr3 k (by omega)
      have q4 := hr3 (w - 1 - k) (by omega)
      refine lv_iconst (v := nI 3) hx hb dX6_turn_14 (by decide) ?_
      refine lv_aload_n hx hb dX6_turn_15 rfl (lv_at hl 0 rfl) ?_
      refine va_get (D := D) (ci := 6) (v := .ref tA) (C := RX6) (T := TX6) (N := 19) hx hb hts (fun w h => List.mem_cons_of_mem _ (inUX6 w h)) hown hK hP 0 rfl rfl 2 (by decide) (hts _ (List.mem_cons_of_mem _ mw_440)) (fun _ h9 => h9) rfl dX6_turn_16 ?_
      refine lv_iload_n hx hb dX6_turn_19 rfl (lv_at hl 1 rfl) ?_
      refine zz_iald (k := k) (f := f) hx hb hK hP 1 0 rfl rfl (by omega) (by omega) dX6_turn_20 ?_
      refine lv_isub hx hb dX6_turn_21 ?_
      refine zz_top (y := nI (3 - (f k))) (pk_sub (by omega)) ?_
      refine lv_istore_n (lv' := [(2, .int (nI (3 - (f k)))), (0, .ref m0), (1, .int (nI k))]) hx hb dX6_turn_22 rfl hl (by decide) rfl (fun ls hl => ?_)
      refine lv_aload_n hx hb dX6_turn_23 rfl (lv_at hl 1 rfl) ?_
      refine va_get (D := D) (ci := 6) (v := .ref tA) (C := RX6) (T := TX6) (N := 19) hx hb hts (fun w h => List.mem_cons_of_mem _ (inUX6 w h)) hown hK hP 0 rfl rfl 2 (by decide) (hts _ (List.mem_cons_of_mem _ mw_440)) (fun _ h9 => h9) rfl dX6_turn_24 ?_
      refine lv_iload_n hx hb dX6_turn_27 rfl (lv_at hl 2 rfl) ?_
      refine lv_iconst (v := nI 3) hx hb dX6_turn_28 (by decide) ?_
      refine lv_aload_n hx hb dX6_turn_29 rfl (lv_at hl 1 rfl) ?_
      refine va_get (D := D) (ci := 6) (v := .ref tA) (C := RX6) (T := TX6) (N := 19) hx hb hts (fun w h => List.mem_cons_of_mem _ (inUX6 w h)) hown hK hP 0 rfl rfl 2 (by decide) (hts _ (List.mem_cons_of_mem _ mw_440)) (fun _ h9 => h9) rfl dX6_turn_30 ?_
      refine lv_aload_n hx hb dX6_turn_33 rfl (lv_at hl 1 rfl) ?_
      refine va_get (D := D) (ci := 6) (v := .int (nI w)) (C := RX6) (T := TX6) (N := 19) hx hb hts (fun w h => List.mem_cons_of_mem _ (inUX6 w h)) hown hK hP 0 rfl rfl 3 (by decide) (hts _ (List.mem_cons_of_mem _ mw_441)) (fun _ h9 => h9) rfl dX6_turn_34 ?_
      refine lv_iconst (v := nI 1) hx hb dX6_turn_37 (by decide) ?_
      refine lv_isub hx hb dX6_turn_38 ?_
      refine zz_top (y := nI (w - 1)) (pk_sub (by omega)) ?_
      refine lv_iload_n hx hb dX6_turn_39 rfl (lv_at hl 2 rfl) ?_
      refine lv_isub hx hb dX6_turn_40 ?_
      refine zz_top (y := nI ((w - 1) - k)) (pk_sub (by omega)) ?_
      refine zz_iald (k := (w - 1) - k) (f := f) hx hb hK hP 1 0 rfl rfl (by omega) (by omega) dX6_turn_41 ?_
      refine lv_isub hx hb dX6_turn_42 ?_
      refine zz_top (y := nI (3 - (f ((w - 1) - k)))) (pk_sub (by omega)) ?_
      refine zz_iast (k := k) (x := 3 - (f ((w - 1) - k))) (f := f) hx hb hK hP hD hS 1 0 rfl rfl (by omega) (by omega) dX6_turn_43 (fun H locs hP hD hS => ?_)
      have hP : va_P D vwCl [(m0, .inr (6, [.ref gA, .int (nI n), .ref tA, .int (nI w), .int (nI fo), .ref pA, .ref sA, .ref mA, .int ch, .int (nI ma), .ref npA, .ref nsA, .ref nmA, .int nc, .int (nI le), .ref lA, .int (nI dr), .ref dA, .int (nI dn)])), (tA, .inl (cI, 24, .inl (fun jj => nI (zup f k (3 - (f ((w - 1) - k))) jj))))] H := hP
      have hD : va_D A [(m0, .inr (6, [.ref gA, .int (nI n), .ref tA, .int (nI w), .int (nI fo), .ref pA, .ref sA, .ref mA, .int ch, .int (nI ma), .ref npA, .ref nsA, .ref nmA, .int nc, .int (nI le), .ref lA, .int (nI dr), .ref dA, .int (nI dn)])), (tA, .inl (cI, 24, .inl (fun jj => nI (zup f k (3 - (f ((w - 1) - k))) jj))))] := hD
      refine lv_aload_n hx hb dX6_turn_44 rfl (lv_at hl 1 rfl) ?_
      refine va_get (D := D) (ci := 6) (v := .ref tA) (C := RX6) (T := TX6) (N := 19) hx hb hts (fun w h => List.mem_cons_of_mem _ (inUX6 w h)) hown hK hP 0 rfl rfl 2 (by decide) (hts _ (List.mem_cons_of_mem _ mw_440)) (fun _ h9 => h9) rfl dX6_turn_45 ?_
      refine lv_aload_n hx hb dX6_turn_48 rfl (lv_at hl 1 rfl) ?_
      refine va_get (D := D) (ci := 6) (v := .int (nI w)) (C := RX6) (T := TX6) (N := 19) hx hb hts (fun w h => List.mem_cons_of_mem _ (inUX6 w h)) hown hK hP 0 rfl rfl 3 (by decide) (hts _ (List.mem_cons_of_mem _ mw_441)) (fun _ h9 => h9) rfl dX6_turn_49 ?_
      refine lv_iconst (v := nI 1) hx hb dX6_turn_52 (by decide) ?_
      refine lv_isub hx hb dX6_turn_53 ?_
      refine zz_top (y := nI (w - 1)) (pk_sub (by omega)) ?_
      refine lv_iload_n hx hb dX6_turn_54 rfl (lv_at hl 2 rfl) ?_
      refine lv_isub hx hb dX6_turn_55 ?_
      refine zz_top (y := nI ((w - 1) - k)) (pk_sub (by omega)) ?_
      refine lv_iload_n hx hb dX6_turn_56 rfl (lv_at hl 0 rfl) ?_
      refine zz_iast (k := (w - 1) - k) (x := 3 - (f k)) (f := zup f k (3 - (f ((w - 1) - k)))) hx hb hK hP hD hS 1 0 rfl rfl (by omega) (by omega) dX6_turn_57 (fun H locs hP hD hS => ?_)
      have hP : va_P D vwCl [(m0, .inr (6, [.ref gA, .int (nI n), .ref tA, .int (nI w), .int (nI fo), .ref pA, .ref sA, .ref mA, .int ch, .int (nI ma), .ref npA, .ref nsA, .ref nmA, .int nc, .int (nI le), .ref lA, .int (nI dr), .ref dA, .int (nI dn)])), (tA, .inl (cI, 24, .inl (fun jj => nI (zup (zup f k (3 - (f ((w - 1) - k)))) ((w - 1) - k) (3 - (f k)) jj))))] H := hP
      have hD : va_D A [(m0, .inr (6, [.ref gA, .int (nI n), .ref tA, .int (nI w), .int (nI fo), .ref pA, .ref sA, .ref mA, .int ch, .int (nI ma), .ref npA, .ref nsA, .ref nmA, .int nc, .int (nI le), .ref lA, .int (nI dr), .ref dA, .int (nI dn)])), (tA, .inl (cI, 24, .inl (fun jj => nI (zup (zup f k (3 - (f ((w - 1) - k)))) ((w - 1) - k) (3 - (f k)) jj))))] := hD
      refine lv_iinc (v := nI (k + 1)) (lv' := [(1, .int (nI (k + 1))), (2, .int (nI (3 - (f k)))), (0, .ref m0)]) hx hb dX6_turn_58 hl (k := 2) rfl (zincE (by omega)) (by decide) rfl (fun ls hl => ?_)
      refine lv_goto (tgt := 2) hx hb dX6_turn_61 (by decide) ?_
      exact ih (k + 1) (zup (zup f k (3 - (f ((w - 1) - k)))) ((w - 1) - k) (3 - (f k))) (by omega) (by omega) (fun i h1 h2 => by
        by_cases e : i = w - 1 - k
        · rw [e, zup_s, q1, show w - 1 - (w - 1 - k) = k by omega]
        · rw [zup_n e]
          by_cases d : i = k
          · rw [d, zup_s, q2]
          · rw [zup_n d]; exact h1k i h1 (by omega)) (fun i h1 h2 h3 => by rw [zup_n (by omega), zup_n (by omega)]; exact h2k i h1 (by omega) (by omega)) _ _ hP hD hS ls (lv_sub hl [2, 0] rfl)
set_option maxHeartbeats 4000000 in
set_option maxRecDepth 100000 in
theorem j_turn (l : Launch) (D : va_G) (cI cC : ClassId)  (m0 gA n tA w fo pA sA mA ma npA nsA nmA le lA dr dA dn : Nat) (ch nc : Int32) (r : Nat → Nat) (hw : w ≤ 24) (hr3 : ∀ i, i < w → r i ≤ 3) (sz : Nat) : Met l yX6_turn wsX6_turn ({ frames := 0, cells := 0, slots := 0, locals := 0 } : Room) (zPre zE0 D vwCl [(cI, .int), (cC, .char)] [.ref m0] [(m0, .inr (6, [.ref gA, .int (nI n), .ref tA, .int (nI w), .int (nI fo), .ref pA, .ref sA, .ref mA, .int ch, .int (nI ma), .ref npA, .ref nsA, .ref nmA, .int nc, .int (nI le), .ref lA, .int (nI dr), .ref dA, .int (nI dn)])), (tA, .inl (cI, 24, .inl (fun jj => nI (r jj))))] sz) (va_Qv (fun (uu : Nat → Nat) => ∀ i, i < w → uu i = 3 - r (w - 1 - i)) (fun (uu : Nat → Nat) t9 => va_P D vwCl ([(m0, .inr (6, [.ref gA, .int (nI n), .ref tA, .int (nI w), .int (nI fo), .ref pA, .ref sA, .ref mA, .int ch, .int (nI ma), .ref npA, .ref nsA, .ref nmA, .int nc, .int (nI le), .ref lA, .int (nI dr), .ref dA, .int (nI dn)])), (tA, .inl (cI, 24, .inl (fun jj => nI (uu jj))))]) t9.heap) (va_A [(m0, .inr (6, [.ref gA, .int (nI n), .ref tA, .int (nI w), .int (nI fo), .ref pA, .ref sA, .ref mA, .int ch, .int (nI ma), .ref npA, .ref nsA, .ref nmA, .int nc, .int (nI le), .ref lA, .int (nI dr), .ref dA, .int (nI dn)])), (tA, .inl (cI, 24, .inl (fun jj => nI (r jj))))] sz)) 0 0 (va_A [(m0, .inr (6, [.ref gA, .int (nI n), .ref tA, .int (nI w), .int (nI fo), .ref pA, .ref sA, .ref mA, .int ch, .int (nI ma), .ref npA, .ref nsA, .ref nmA, .int nc, .int (nI le), .ref lA, .int (nI dr), .ref dA, .int (nI dn)])), (tA, .inl (cI, 24, .inl (fun jj => nI (r jj))))] sz) := by
  refine zMet (cc := cX6_turn) (maxL := 3) (ret := none) (Qc := fun A => (va_Qv (fun (uu : Nat → Nat) => ∀ i, i < w → uu i = 3 - r (w - 1 - i)) (fun (uu : Nat → Nat) t9 => va_P D vwCl ([(m0, .inr (6, [.ref gA, .int (nI n), .ref tA, .int (nI w), .int (nI fo), .ref pA, .ref sA, .ref mA, .int ch, .int (nI ma), .ref npA, .ref nsA, .ref nmA, .int nc, .int (nI le), .ref lA, .int (nI dr), .ref dA, .int (nI dn)])), (tA, .inl (cI, 24, .inl (fun jj => nI (uu jj))))]) t9.heap) A)) (by decide) rfl (Nat.le_of_ble_eq_true rfl) ?_
  intro pr en s0 mi bl me co A hC hA hK hE H locs hP hD hS ls hl
  obtain ⟨hx, hb, hr, hml, hown, hts, hlocks, hin⟩ := id hC
  have hl : lv_has ls 3 [(0, .ref m0)] := hl
  refine lv_iconst (v := nI 0) hx hb dX6_turn_0 (by decide) ?_
  refine lv_istore_n (lv' := [(1, .int (nI 0)), (0, .ref m0)]) hx hb dX6_turn_1 rfl hl (by decide) rfl (fun ls hl => ?_)
  exact j_turn_L2 l D cI cC  m0 gA n tA w fo pA sA mA ma npA nsA nmA le lA dr dA dn ch nc r hw hr3 hC hA hK hE _ 0 r (Nat.lt_succ_self _) (Nat.zero_le _) (fun i h1 h2 => absurd h2 (by omega)) (fun i h1 h2 h3 => rfl) _ _ hP hD hS ls (lv_sub hl [1, 0] rfl)
set_option maxHeartbeats 4000000 in
set_option maxRecDepth 100000 in
theorem j_length (l : Launch) (D : va_G) (cI cC : ClassId)  (m0 gA n tA w fo pA sA mA ma npA nsA nmA le lA dr dA dn : Nat) (ch nc : Int32) (t : Nat) (ht : t ≤ 1) (sz : Nat) : Met l yX6_length wsX6_length ({ frames := 0, cells := 0, slots := 0, locals := 0 } : Room) (zPre zE0 D vwCl [(cI, .int), (cC, .char)] [.ref m0, .int (nI t)] [(m0, .inr (6, [.ref gA, .int (nI n), .ref tA, .int (nI w), .int (nI fo), .ref pA, .ref sA, .ref mA, .int ch, .int (nI ma), .ref npA, .ref nsA, .ref nmA, .int nc, .int (nI le), .ref lA, .int (nI dr), .ref dA, .int (nI dn)]))] sz) (va_Qi (fun (rv : Int32) (uu : Unit) => rv = nI (if t = 0 then n else w) ∧ True) (fun (uu : Unit) t9 => va_P D vwCl ([(m0, .inr (6, [.ref gA, .int (nI n), .ref tA, .int (nI w), .int (nI fo), .ref pA, .ref sA, .ref mA, .int ch, .int (nI ma), .ref npA, .ref nsA, .ref nmA, .int nc, .int (nI le), .ref lA, .int (nI dr), .ref dA, .int (nI dn)]))]) t9.heap) (va_A [(m0, .inr (6, [.ref gA, .int (nI n), .ref tA, .int (nI w), .int (nI fo), .ref pA, .ref sA, .ref mA, .int ch, .int (nI ma), .ref npA, .ref nsA, .ref nmA, .int nc, .int (nI le), .ref lA, .int (nI dr), .ref dA, .int (nI dn)]))] sz)) 0 0 (va_A [(m0, .inr (6, [.ref gA, .int (nI n), .ref tA, .int (nI w), .int (nI fo), .ref pA, .ref sA, .ref mA, .int ch, .int (nI ma), .ref npA, .ref nsA, .ref nmA, .int nc, .int (nI le), .ref lA, .int (nI dr), .ref dA, .int (nI dn)]))] sz) := by
  refine zMet (cc := cX6_length) (maxL := 2) (ret := (some .int)) (Qc := fun A => (va_Qi (fun (rv : Int32) (uu : Unit) => rv = nI (if t = 0 then n else w) ∧ True) (fun (uu : Unit) t9 => va_P D vwCl ([(m0, .inr (6, [.ref gA, .int (nI n), .ref tA, .int (nI w), .int (nI fo), .ref pA, .ref sA, .ref mA, .int ch, .int (nI ma), .ref npA, .ref nsA, .ref nmA, .int nc, .int (nI le), .ref lA, .int (nI dr), .ref dA, .int (nI dn)]))]) t9.heap) A)) (by decide) rfl (Nat.le_of_ble_eq_true rfl) ?_
  intro pr en s0 mi bl me co A hC hA hK hE H locs hP hD hS ls hl
  obtain ⟨hx, hb, hr, hml, hown, hts, hlocks, hin⟩ := id hC
  have hl : lv_has ls 2 [(0, .ref m0), (1, .int (nI t))] := hl
  refine lv_iload_n hx hb dX6_length_0 rfl (lv_at hl 1 rfl) ?_
  refine zz_eq0 (tgt := 11) hx hb dX6_length_1 (by decide) (by omega) (fun c1 => ?_) (fun c1 => ?_)
  · skip
    refine lv_aload_n hx hb dX6_length_11 rfl (lv_at hl 0 rfl) ?_
    refine va_get (D := D) (ci := 6) (v := .int (nI n)) (C := RX6) (T := TX6) (N := 19) hx hb hts (fun w h => List.mem_cons_of_mem _ (inUX6 w h)) hown hK hP 0 rfl rfl 1 (by decide) (hts _ (List.mem_cons_of_mem _ mw_439)) (fun _ h9 => h9) rfl dX6_length_12 ?_
    exact zIret hC hS () ⟨congrArg nI (by first | rw [if_pos c1] | rw [if_neg c1]), trivial⟩ hP (vp_nar_int _) dX6_length_15
  · skip
    refine lv_aload_n hx hb dX6_length_4 rfl (lv_at hl 0 rfl) ?_
    refine va_get (D := D) (ci := 6) (v := .int (nI w)) (C := RX6) (T := TX6) (N := 19) hx hb hts (fun w h => List.mem_cons_of_mem _ (inUX6 w h)) hown hK hP 0 rfl rfl 3 (by decide) (hts _ (List.mem_cons_of_mem _ mw_441)) (fun _ h9 => h9) rfl dX6_length_5 ?_
    refine lv_goto (tgt := 15) hx hb dX6_length_8 (by decide) ?_
    exact zIret hC hS () ⟨congrArg nI (by first | rw [if_pos c1] | rw [if_neg c1]), trivial⟩ hP (vp_nar_int _) dX6_length_15
set_option maxHeartbeats 4000000 in
set_option maxRecDepth 100000 in
theorem j_hits (l : Launch) (D : va_G) (cI cC : ClassId)  (m0 gA n tA w fo pA sA mA ma npA nsA nmA le lA dr dA dn : Nat) (ch nc : Int32)  (sz : Nat) : Met l yX6_hits wsX6_hits ({ frames := 0, cells := 0, slots := 0, locals := 0 } : Room) (zPre zE0 D vwCl [(cI, .int), (cC, .char)] [.ref m0] [(m0, .inr (6, [.ref gA, .int (nI n), .ref tA, .int (nI w), .int (nI fo), .ref pA, .ref sA, .ref mA, .int ch, .int (nI ma), .ref npA, .ref nsA, .ref nmA, .int nc, .int (nI le), .ref lA, .int (nI dr), .ref dA, .int (nI dn)]))] sz) (va_Qi (fun (rv : Int32) (uu : Unit) => rv = nI fo ∧ True) (fun (uu : Unit) t9 => va_P D vwCl ([(m0, .inr (6, [.ref gA, .int (nI n), .ref tA, .int (nI w), .int (nI fo), .ref pA, .ref sA, .ref mA, .int ch, .int (nI ma), .ref npA, .ref nsA, .ref nmA, .int nc, .int (nI le), .ref lA, .int (nI dr), .ref dA, .int (nI dn)]))]) t9.heap) (va_A [(m0, .inr (6, [.ref gA, .int (nI n), .ref tA, .int (nI w), .int (nI fo), .ref pA, .ref sA, .ref mA, .int ch, .int (nI ma), .ref npA, .ref nsA, .ref nmA, .int nc, .int (nI le), .ref lA, .int (nI dr), .ref dA, .int (nI dn)]))] sz)) 0 0 (va_A [(m0, .inr (6, [.ref gA, .int (nI n), .ref tA, .int (nI w), .int (nI fo), .ref pA, .ref sA, .ref mA, .int ch, .int (nI ma), .ref npA, .ref nsA, .ref nmA, .int nc, .int (nI le), .ref lA, .int (nI dr), .ref dA, .int (nI dn)]))] sz) := by
  refine zMet (cc := cX6_hits) (maxL := 1) (ret := (some .int)) (Qc := fun A => (va_Qi (fun (rv : Int32) (uu : Unit) => rv = nI fo ∧ True) (fun (uu : Unit) t9 => va_P D vwCl ([(m0, .inr (6, [.ref gA, .int (nI n), .ref tA, .int (nI w), .int (nI fo), .ref pA, .ref sA, .ref mA, .int ch, .int (nI ma), .ref npA, .ref nsA, .ref nmA, .int nc, .int (nI le), .ref lA, .int (nI dr), .ref dA, .int (nI dn)]))]) t9.heap) A)) (by decide) rfl (Nat.le_of_ble_eq_true rfl) ?_
  intro pr en s0 mi bl me co A hC hA hK hE H locs hP hD hS ls hl
  obtain ⟨hx, hb, hr, hml, hown, hts, hlocks, hin⟩ := id hC
  have hl : lv_has ls 1 [(0, .ref m0)] := hl
  refine lv_aload_n hx hb dX6_hits_0 rfl (lv_at hl 0 rfl) ?_
  refine va_get (D := D) (ci := 6) (v := .int (nI fo)) (C := RX6) (T := TX6) (N := 19) hx hb hts (fun w h => List.mem_cons_of_mem _ (inUX6 w h)) hown hK hP 0 rfl rfl 4 (by decide) (hts _ (List.mem_cons_of_mem _ mw_442)) (fun _ h9 => h9) rfl dX6_hits_1 ?_
  exact zIret hC hS () ⟨rfl, trivial⟩ hP (vp_nar_int _) dX6_hits_4
set_option maxHeartbeats 4000000 in
set_option maxRecDepth 100000 in
theorem j_size (l : Launch) (D : va_G) (cI cC : ClassId)  (m0 gA n tA w fo pA sA mA ma npA nsA nmA le lA dr dA dn : Nat) (ch nc : Int32)  (sz : Nat) : Met l yX6_size wsX6_size ({ frames := 0, cells := 0, slots := 0, locals := 0 } : Room) (zPre zE0 D vwCl [(cI, .int), (cC, .char)] [.ref m0] [(m0, .inr (6, [.ref gA, .int (nI n), .ref tA, .int (nI w), .int (nI fo), .ref pA, .ref sA, .ref mA, .int ch, .int (nI ma), .ref npA, .ref nsA, .ref nmA, .int nc, .int (nI le), .ref lA, .int (nI dr), .ref dA, .int (nI dn)]))] sz) (va_Qi (fun (rv : Int32) (uu : Unit) => rv = nI le ∧ True) (fun (uu : Unit) t9 => va_P D vwCl ([(m0, .inr (6, [.ref gA, .int (nI n), .ref tA, .int (nI w), .int (nI fo), .ref pA, .ref sA, .ref mA, .int ch, .int (nI ma), .ref npA, .ref nsA, .ref nmA, .int nc, .int (nI le), .ref lA, .int (nI dr), .ref dA, .int (nI dn)]))]) t9.heap) (va_A [(m0, .inr (6, [.ref gA, .int (nI n), .ref tA, .int (nI w), .int (nI fo), .ref pA, .ref sA, .ref mA, .int ch, .int (nI ma), .ref npA, .ref nsA, .ref nmA, .int nc, .int (nI le), .ref lA, .int (nI dr), .ref dA, .int (nI dn)]))] sz)) 0 0 (va_A [(m0, .inr (6, [.ref gA, .int (nI n), .ref tA, .int (nI w), .int (nI fo), .ref pA, .ref sA, .ref mA, .int ch, .int (nI ma), .ref npA, .ref nsA, .ref nmA, .int nc, .int (nI le), .ref lA, .int (nI dr), .ref dA, .int (nI dn)]))] sz) := by
  refine zMet (cc := cX6_size) (maxL := 1) (ret := (some .int)) (Qc := fun A => (va_Qi (fun (rv : Int32) (uu : Unit) => rv = nI le ∧ True) (fun (uu : Unit) t9 => va_P D vwCl ([(m0, .inr (6, [.ref gA, .int (nI n), .ref tA, .int (nI w), .int (nI fo), .ref pA, .ref sA, .ref mA, .int ch, .int (nI ma), .ref npA, .ref nsA, .ref nmA, .int nc, .int (nI le), .ref lA, .int (nI dr), .ref dA, .int (nI dn)]))]) t9.heap) A)) (by decide) rfl (Nat.le_of_ble_eq_true rfl) ?_
  intro pr en s0 mi bl me co A hC hA hK hE H locs hP hD hS ls hl
  obtain ⟨hx, hb, hr, hml, hown, hts, hlocks, hin⟩ := id hC
  have hl : lv_has ls 1 [(0, .ref m0)] := hl
  refine lv_aload_n hx hb dX6_size_0 rfl (lv_at hl 0 rfl) ?_
  refine va_get (D := D) (ci := 6) (v := .int (nI le)) (C := RX6) (T := TX6) (N := 19) hx hb hts (fun w h => List.mem_cons_of_mem _ (inUX6 w h)) hown hK hP 0 rfl rfl 14 (by decide) (hts _ (List.mem_cons_of_mem _ mw_452)) (fun _ h9 => h9) rfl dX6_size_1 ?_
  exact zIret hC hS () ⟨rfl, trivial⟩ hP (vp_nar_int _) dX6_size_4
set_option maxHeartbeats 4000000 in
set_option maxRecDepth 100000 in
theorem j_mappings (l : Launch) (D : va_G) (cI cC : ClassId)  (m0 gA n tA w fo pA sA mA ma npA nsA nmA le lA dr dA dn : Nat) (ch nc : Int32)  (sz : Nat) : Met l yX6_mappings wsX6_mappings ({ frames := 0, cells := 0, slots := 0, locals := 0 } : Room) (zPre zE0 D vwCl [(cI, .int), (cC, .char)] [.ref m0] [(m0, .inr (6, [.ref gA, .int (nI n), .ref tA, .int (nI w), .int (nI fo), .ref pA, .ref sA, .ref mA, .int ch, .int (nI ma), .ref npA, .ref nsA, .ref nmA, .int nc, .int (nI le), .ref lA, .int (nI dr), .ref dA, .int (nI dn)]))] sz) (va_Qi (fun (rv : Int32) (uu : Unit) => rv = nI dn ∧ True) (fun (uu : Unit) t9 => va_P D vwCl ([(m0, .inr (6, [.ref gA, .int (nI n), .ref tA, .int (nI w), .int (nI fo), .ref pA, .ref sA, .ref mA, .int ch, .int (nI ma), .ref npA, .ref nsA, .ref nmA, .int nc, .int (nI le), .ref lA, .int (nI dr), .ref dA, .int (nI dn)]))]) t9.heap) (va_A [(m0, .inr (6, [.ref gA, .int (nI n), .ref tA, .int (nI w), .int (nI fo), .ref pA, .ref sA, .ref mA, .int ch, .int (nI ma), .ref npA, .ref nsA, .ref nmA, .int nc, .int (nI le), .ref lA, .int (nI dr), .ref dA, .int (nI dn)]))] sz)) 0 0 (va_A [(m0, .inr (6, [.ref gA, .int (nI n), .ref tA, .int (nI w), .int (nI fo), .ref pA, .ref sA, .ref mA, .int ch, .int (nI ma), .ref npA, .ref nsA, .ref nmA, .int nc, .int (nI le), .ref lA, .int (nI dr), .ref dA, .int (nI dn)]))] sz) := by
  refine zMet (cc := cX6_mappings) (maxL := 1) (ret := (some .int)) (Qc := fun A => (va_Qi (fun (rv : Int32) (uu : Unit) => rv = nI dn ∧ True) (fun (uu : Unit) t9 => va_P D vwCl ([(m0, .inr (6, [.ref gA, .int (nI n), .ref tA, .int (nI w), .int (nI fo), .ref pA, .ref sA, .ref mA, .int ch, .int (nI ma), .ref npA, .ref nsA, .ref nmA, .int nc, .int (nI le), .ref lA, .int (nI dr), .ref dA, .int (nI dn)]))]) t9.heap) A)) (by decide) rfl (Nat.le_of_ble_eq_true rfl) ?_
  intro pr en s0 mi bl me co A hC hA hK hE H locs hP hD hS ls hl
  obtain ⟨hx, hb, hr, hml, hown, hts, hlocks, hin⟩ := id hC
  have hl : lv_has ls 1 [(0, .ref m0)] := hl
  refine lv_aload_n hx hb dX6_mappings_0 rfl (lv_at hl 0 rfl) ?_
  refine va_get (D := D) (ci := 6) (v := .int (nI dn)) (C := RX6) (T := TX6) (N := 19) hx hb hts (fun w h => List.mem_cons_of_mem _ (inUX6 w h)) hown hK hP 0 rfl rfl 18 (by decide) (hts _ (List.mem_cons_of_mem _ mw_456)) (fun _ h9 => h9) rfl dX6_mappings_1 ?_
  exact zIret hC hS () ⟨rfl, trivial⟩ hP (vp_nar_int _) dX6_mappings_4
set_option maxHeartbeats 4000000 in
set_option maxRecDepth 100000 in
theorem j_hit (l : Launch) (D : va_G) (cI cC : ClassId)  (m0 gA n tA w fo pA sA mA ma npA nsA nmA le lA dr dA dn : Nat) (ch nc : Int32) (i t : Nat) (pl sl ml : Nat → Nat) (hfo : fo ≤ 192) (hi : i < fo) (ht : t ≤ 3) (sz : Nat) : Met l yX6_hit wsX6_hit ({ frames := 0, cells := 0, slots := 0, locals := 0 } : Room) (zPre zE0 D vwCl [(cI, .int), (cC, .char)] [.ref m0, .int (nI i), .int (nI t)] [(m0, .inr (6, [.ref gA, .int (nI n), .ref tA, .int (nI w), .int (nI fo), .ref pA, .ref sA, .ref mA, .int ch, .int (nI ma), .ref npA, .ref nsA, .ref nmA, .int nc, .int (nI le), .ref lA, .int (nI dr), .ref dA, .int (nI dn)])), (pA, .inl (cI, 192, .inl (fun jj => nI (pl jj)))), (sA, .inl (cI, 192, .inl (fun jj => nI (sl jj)))), (mA, .inl (cI, 192, .inl (fun jj => nI (ml jj))))] sz) (va_Qi (fun (rv : Int32) (uu : Unit) => rv = zhit pl sl ml ch i t ∧ True) (fun (uu : Unit) t9 => va_P D vwCl ([(m0, .inr (6, [.ref gA, .int (nI n), .ref tA, .int (nI w), .int (nI fo), .ref pA, .ref sA, .ref mA, .int ch, .int (nI ma), .ref npA, .ref nsA, .ref nmA, .int nc, .int (nI le), .ref lA, .int (nI dr), .ref dA, .int (nI dn)])), (pA, .inl (cI, 192, .inl (fun jj => nI (pl jj)))), (sA, .inl (cI, 192, .inl (fun jj => nI (sl jj)))), (mA, .inl (cI, 192, .inl (fun jj => nI (ml jj))))]) t9.heap) (va_A [(m0, .inr (6, [.ref gA, .int (nI n), .ref tA, .int (nI w), .int (nI fo), .ref pA, .ref sA, .ref mA, .int ch, .int (nI ma), .ref npA, .ref nsA, .ref nmA, .int nc, .int (nI le), .ref lA, .int (nI dr), .ref dA, .int (nI dn)])), (pA, .inl (cI, 192, .inl (fun jj => nI (pl jj)))), (sA, .inl (cI, 192, .inl (fun jj => nI (sl jj)))), (mA, .inl (cI, 192, .inl (fun jj => nI (ml jj))))] sz)) 0 0 (va_A [(m0, .inr (6, [.ref gA, .int (nI n), .ref tA, .int (nI w), .int (nI fo), .ref pA, .ref sA, .ref mA, .int ch, .int (nI ma), .ref npA, .ref nsA, .ref nmA, .int nc, .int (nI le), .ref lA, .int (nI dr), .ref dA, .int (nI dn)])), (pA, .inl (cI, 192, .inl (fun jj => nI (pl jj)))), (sA, .inl (cI, 192, .inl (fun jj => nI (sl jj)))), (mA, .inl (cI, 192, .inl (fun jj => nI (ml jj))))] sz) := by
  refine zMet (cc := cX6_hit) (maxL := 3) (ret := (some .int)) (Qc := fun A => (va_Qi (fun (rv : Int32) (uu : Unit) => rv = zhit pl sl ml ch i t ∧ True) (fun (uu : Unit) t9 => va_P D vwCl ([(m0, .inr (6, [.ref gA, .int (nI n), .ref tA, .int (nI w), .int (nI fo), .ref pA, .ref sA, .ref mA, .int ch, .int (nI ma), .ref npA, .ref nsA, .ref nmA, .int nc, .int (nI le), .ref lA, .int (nI dr), .ref dA, .int (nI dn)])), (pA, .inl (cI, 192, .inl (fun jj => nI (pl jj)))), (sA, .inl (cI, 192, .inl (fun jj => nI (sl jj)))), (mA, .inl (cI, 192, .inl (fun jj => nI (ml jj))))]) t9.heap) A)) (by decide) rfl (Nat.le_of_ble_eq_true rfl) ?_
  intro pr en s0 mi bl me co A hC hA hK hE H locs hP hD hS ls hl
  obtain ⟨hx, hb, hr, hml, hown, hts, hlocks, hin⟩ := id hC
  have hl : lv_has ls 3 [(0, .ref m0), (1, .int (nI i)), (2, .int (nI t))] := hl
  refine lv_iload_n hx hb dX6_hit_0 rfl (lv_at hl 1 rfl) ?_
  refine zz_lt0 (tgt := 21) hx hb dX6_hit_1 (by decide) (by omega) ?_
  refine lv_iload_n hx hb dX6_hit_4 rfl (lv_at hl 1 rfl) ?_
  refine lv_aload_n hx hb dX6_hit_5 rfl (lv_at hl 0 rfl) ?_
  refine va_get (D := D) (ci := 6) (v := .int (nI fo)) (C := RX6) (T := TX6) (N := 19) hx hb hts (fun w h => List.mem_cons_of_mem _ (inUX6 w h)) hown hK hP 0 rfl rfl 4 (by decide) (hts _ (List.mem_cons_of_mem _ mw_442)) (fun _ h9 => h9) rfl dX6_hit_6 ?_
  refine zz_ge (tgt := 21) hx hb dX6_hit_9 (by decide) (by omega) (by omega) (fun c9 => ?_) (fun c9 => ?_)
  · skip
    exact absurd c9 (by omega)
  · skip
    refine lv_iload_n hx hb dX6_hit_12 rfl (lv_at hl 2 rfl) ?_
    refine zz_lt0 (tgt := 21) hx hb dX6_hit_13 (by decide) (by omega) ?_
    refine lv_iload_n hx hb dX6_hit_16 rfl (lv_at hl 2 rfl) ?_
    refine lv_iconst (v := nI 3) hx hb dX6_hit_17 (by decide) ?_
    refine zz_le (tgt := 24) hx hb dX6_hit_18 (by decide) (by omega) (by omega) (fun c18 => ?_) (fun c18 => ?_)
    · skip
      refine lv_iload_n hx hb dX6_hit_24 rfl (lv_at hl 2 rfl) ?_
      refine zz_ne0 (tgt := 37) hx hb dX6_hit_25 (by decide) (by omega) (fun c25 => ?_) (fun c25 => ?_)
      · skip
        refine lv_iload_n hx hb dX6_hit_37 rfl (lv_at hl 2 rfl) ?_
        refine lv_iconst (v := nI 1) hx hb dX6_hit_38 (by decide) ?_
        refine zz_ne (tgt := 51) hx hb dX6_hit_39 (by decide) (by omega) (by omega) (fun c39 => ?_) (fun c39 => ?_)
        · skip
          refine lv_iload_n hx hb dX6_hit_51 rfl (lv_at hl 2 rfl) ?_
          refine lv_iconst (v := nI 2) hx hb dX6_hit_52 (by decide) ?_
          refine zz_ne (tgt := 65) hx hb dX6_hit_53 (by decide) (by omega) (by omega) (fun c53 => ?_) (fun c53 => ?_)
          · skip
            refine lv_iload_n hx hb dX6_hit_65 rfl (lv_at hl 1 rfl) ?_
            refine lv_aload_n hx hb dX6_hit_66 rfl (lv_at hl 0 rfl) ?_
            refine va_get (D := D) (ci := 6) (v := .int ch) (C := RX6) (T := TX6) (N := 19) hx hb hts (fun w h => List.mem_cons_of_mem _ (inUX6 w h)) hown hK hP 0 rfl rfl 8 (by decide) (hts _ (List.mem_cons_of_mem _ mw_446)) (fun _ h9 => h9) rfl dX6_hit_67 ?_
            refine lv_icmp_ne (tgt := 77) hx hb dX6_hit_70 (by decide) (fun c70 => ?_) (fun c70 => ?_)
            · skip
              refine lv_iconst (v := nI 0) hx hb dX6_hit_77 (by decide) ?_
              exact zIret hC hS () ⟨by unfold zhit; first | rw [if_pos c25] | rw [if_neg c25, if_pos c39] | rw [if_neg c25, if_neg c39, if_pos c53] | rw [if_neg c25, if_neg c39, if_neg c53, if_pos c70] | rw [if_neg c25, if_neg c39, if_neg c53, if_neg c70], trivial⟩ hP (vp_nar_int _) dX6_hit_78
            · skip
              refine lv_iconst (v := nI 1) hx hb dX6_hit_73 (by decide) ?_
              refine lv_goto (tgt := 78) hx hb dX6_hit_74 (by decide) ?_
              exact zIret hC hS () ⟨by unfold zhit; first | rw [if_pos c25] | rw [if_neg c25, if_pos c39] | rw [if_neg c25, if_neg c39, if_pos c53] | rw [if_neg c25, if_neg c39, if_neg c53, if_pos c70] | rw [if_neg c25, if_neg c39, if_neg c53, if_neg c70], trivial⟩ hP (vp_nar_int _) dX6_hit_78
          · skip
            refine lv_aload_n hx hb dX6_hit_56 rfl (lv_at hl 0 rfl) ?_
            refine va_get (D := D) (ci := 6) (v := .ref mA) (C := RX6) (T := TX6) (N := 19) hx hb hts (fun w h => List.mem_cons_of_mem _ (inUX6 w h)) hown hK hP 0 rfl rfl 7 (by decide) (hts _ (List.mem_cons_of_mem _ mw_445)) (fun _ h9 => h9) rfl dX6_hit_57 ?_
            refine lv_iload_n hx hb dX6_hit_60 rfl (lv_at hl 1 rfl) ?_
            refine zz_iald (k := i) (f := ml) hx hb hK hP 3 0 rfl rfl (by omega) (by omega) dX6_hit_61 ?_
            refine lv_goto (tgt := 78) hx hb dX6_hit_62 (by decide) ?_
            exact zIret hC hS () ⟨by unfold zhit; first | rw [if_pos c25] | rw [if_neg c25, if_pos c39] | rw [if_neg c25, if_neg c39, if_pos c53] | rw [if_neg c25, if_neg c39, if_neg c53, if_pos c70] | rw [if_neg c25, if_neg c39, if_neg c53, if_neg c70], trivial⟩ hP (vp_nar_int _) dX6_hit_78
        · skip
          refine lv_aload_n hx hb dX6_hit_42 rfl (lv_at hl 0 rfl) ?_
          refine va_get (D := D) (ci := 6) (v := .ref sA) (C := RX6) (T := TX6) (N := 19) hx hb hts (fun w h => List.mem_cons_of_mem _ (inUX6 w h)) hown hK hP 0 rfl rfl 6 (by decide) (hts _ (List.mem_cons_of_mem _ mw_444)) (fun _ h9 => h9) rfl dX6_hit_43 ?_
          refine lv_iload_n hx hb dX6_hit_46 rfl (lv_at hl 1 rfl) ?_
          refine zz_iald (k := i) (f := sl) hx hb hK hP 2 0 rfl rfl (by omega) (by omega) dX6_hit_47 ?_
          refine lv_goto (tgt := 78) hx hb dX6_hit_48 (by decide) ?_
          exact zIret hC hS () ⟨by unfold zhit; first | rw [if_pos c25] | rw [if_neg c25, if_pos c39] | rw [if_neg c25, if_neg c39, if_pos c53] | rw [if_neg c25, if_neg c39, if_neg c53, if_pos c70] | rw [if_neg c25, if_neg c39, if_neg c53, if_neg c70], trivial⟩ hP (vp_nar_int _) dX6_hit_78
      · skip
        refine lv_aload_n hx hb dX6_hit_28 rfl (lv_at hl 0 rfl) ?_
        refine va_get (D := D) (ci := 6) (v := .ref pA) (C := RX6) (T := TX6) (N := 19) hx hb hts (fun w h => List.mem_cons_of_mem _ (inUX6 w h)) hown hK hP 0 rfl rfl 5 (by decide) (hts _ (List.mem_cons_of_mem _ mw_443)) (fun _ h9 => h9) rfl dX6_hit_29 ?_
        refine lv_iload_n hx hb dX6_hit_32 rfl (lv_at hl 1 rfl) ?_
        refine zz_iald (k := i) (f := pl) hx hb hK hP 1 0 rfl rfl (by omega) (by omega) dX6_hit_33 ?_
        refine lv_goto (tgt := 78) hx hb dX6_hit_34 (by decide) ?_
        exact zIret hC hS () ⟨by unfold zhit; first | rw [if_pos c25] | rw [if_neg c25, if_pos c39] | rw [if_neg c25, if_neg c39, if_pos c53] | rw [if_neg c25, if_neg c39, if_neg c53, if_pos c70] | rw [if_neg c25, if_neg c39, if_neg c53, if_neg c70], trivial⟩ hP (vp_nar_int _) dX6_hit_78
    · skip
      exact absurd c18 (by omega)
set_option maxHeartbeats 4000000 in
set_option maxRecDepth 100000 in
theorem j_hit0 (l : Launch) (D : va_G) (cI cC : ClassId)  (m0 gA n tA w fo pA sA mA ma npA nsA nmA le lA dr dA dn : Nat) (ch nc : Int32) (i t : Int32) (hfo : fo ≤ 192) (hbad : (i < 0 ∨ nI fo ≤ i) ∨ (t < 0 ∨ nI 3 < t)) (sz : Nat) : Met l yX6_hit wsX6_hit ({ frames := 0, cells := 0, slots := 0, locals := 0 } : Room) (zPre zE0 D vwCl [(cI, .int), (cC, .char)] [.ref m0, .int i, .int t] [(m0, .inr (6, [.ref gA, .int (nI n), .ref tA, .int (nI w), .int (nI fo), .ref pA, .ref sA, .ref mA, .int ch, .int (nI ma), .ref npA, .ref nsA, .ref nmA, .int nc, .int (nI le), .ref lA, .int (nI dr), .ref dA, .int (nI dn)]))] sz) (va_Qi (fun (rv : Int32) (uu : Unit) => rv = (-2) ∧ True) (fun (uu : Unit) t9 => va_P D vwCl ([(m0, .inr (6, [.ref gA, .int (nI n), .ref tA, .int (nI w), .int (nI fo), .ref pA, .ref sA, .ref mA, .int ch, .int (nI ma), .ref npA, .ref nsA, .ref nmA, .int nc, .int (nI le), .ref lA, .int (nI dr), .ref dA, .int (nI dn)]))]) t9.heap) (va_A [(m0, .inr (6, [.ref gA, .int (nI n), .ref tA, .int (nI w), .int (nI fo), .ref pA, .ref sA, .ref mA, .int ch, .int (nI ma), .ref npA, .ref nsA, .ref nmA, .int nc, .int (nI le), .ref lA, .int (nI dr), .ref dA, .int (nI dn)]))] sz)) 0 0 (va_A [(m0, .inr (6, [.ref gA, .int (nI n), .ref tA, .int (nI w), .int (nI fo), .ref pA, .ref sA, .ref mA, .int ch, .int (nI ma), .ref npA, .ref nsA, .ref nmA, .int nc, .int (nI le), .ref lA, .int (nI dr), .ref dA, .int (nI dn)]))] sz) := by
  refine zMet (cc := cX6_hit) (maxL := 3) (ret := (some .int)) (Qc := fun A => (va_Qi (fun (rv : Int32) (uu : Unit) => rv = (-2) ∧ True) (fun (uu : Unit) t9 => va_P D vwCl ([(m0, .inr (6, [.ref gA, .int (nI n), .ref tA, .int (nI w), .int (nI fo), .ref pA, .ref sA, .ref mA, .int ch, .int (nI ma), .ref npA, .ref nsA, .ref nmA, .int nc, .int (nI le), .ref lA, .int (nI dr), .ref dA, .int (nI dn)]))]) t9.heap) A)) (by decide) rfl (Nat.le_of_ble_eq_true rfl) ?_
  intro pr en s0 mi bl me co A hC hA hK hE H locs hP hD hS ls hl
  obtain ⟨hx, hb, hr, hml, hown, hts, hlocks, hin⟩ := id hC
  have hl : lv_has ls 3 [(0, .ref m0), (1, .int i), (2, .int t)] := hl
  refine lv_iload_n hx hb dX6_hit_0 rfl (lv_at hl 1 rfl) ?_
  refine lv_if_lt (tgt := 21) hx hb dX6_hit_1 (by decide) (fun c1 => ?_) (fun c1 => ?_)
  · skip
    refine lv_bipush (v := (-2)) hx hb dX6_hit_21 (by decide) ?_
    exact zIret hC hS () ⟨rfl, trivial⟩ hP (vp_nar_int _) dX6_hit_23
  · skip
    refine lv_iload_n hx hb dX6_hit_4 rfl (lv_at hl 1 rfl) ?_
    refine lv_aload_n hx hb dX6_hit_5 rfl (lv_at hl 0 rfl) ?_
    refine va_get (D := D) (ci := 6) (v := .int (nI fo)) (C := RX6) (T := TX6) (N := 19) hx hb hts (fun w h => List.mem_cons_of_mem _ (inUX6 w h)) hown hK hP 0 rfl rfl 4 (by decide) (hts _ (List.mem_cons_of_mem _ mw_442)) (fun _ h9 => h9) rfl dX6_hit_6 ?_
    refine lv_icmp_ge (tgt := 21) hx hb dX6_hit_9 (by decide) (fun c9 => ?_) (fun c9 => ?_)
    · skip
      refine lv_bipush (v := (-2)) hx hb dX6_hit_21 (by decide) ?_
      exact zIret hC hS () ⟨rfl, trivial⟩ hP (vp_nar_int _) dX6_hit_23
    · skip
      refine lv_iload_n hx hb dX6_hit_12 rfl (lv_at hl 2 rfl) ?_
      refine lv_if_lt (tgt := 21) hx hb dX6_hit_13 (by decide) (fun c13 => ?_) (fun c13 => ?_)
      · skip
        refine lv_bipush (v := (-2)) hx hb dX6_hit_21 (by decide) ?_
        exact zIret hC hS () ⟨rfl, trivial⟩ hP (vp_nar_int _) dX6_hit_23
      · skip
        refine lv_iload_n hx hb dX6_hit_16 rfl (lv_at hl 2 rfl) ?_
        refine lv_iconst (v := nI 3) hx hb dX6_hit_17 (by decide) ?_
        refine lv_icmp_le (tgt := 24) hx hb dX6_hit_18 (by decide) (fun c18 => ?_) (fun c18 => ?_)
        · skip
          exact absurd hbad (fun q => by rcases q with (q | q) | (q | q); exact c1 q; exact c9 q; exact c13 q; exact absurd q (Int32.not_lt.mpr c18))
        · skip
          refine lv_bipush (v := (-2)) hx hb dX6_hit_21 (by decide) ?_
          exact zIret hC hS () ⟨rfl, trivial⟩ hP (vp_nar_int _) dX6_hit_23
set_option maxHeartbeats 4000000 in
set_option maxRecDepth 100000 in
theorem j_at (l : Launch) (D : va_G) (cI cC : ClassId)  (m0 gA n tA w fo pA sA mA ma npA nsA nmA le lA dr dA dn : Nat) (ch nc : Int32) (k : Nat) (ln : Nat → Nat) (hle : le ≤ 1500) (hk : k < le) (sz : Nat) : Met l yX6_at wsX6_at ({ frames := 0, cells := 0, slots := 0, locals := 0 } : Room) (zPre zE0 D vwCl [(cI, .int), (cC, .char)] [.ref m0, .int (nI k)] [(m0, .inr (6, [.ref gA, .int (nI n), .ref tA, .int (nI w), .int (nI fo), .ref pA, .ref sA, .ref mA, .int ch, .int (nI ma), .ref npA, .ref nsA, .ref nmA, .int nc, .int (nI le), .ref lA, .int (nI dr), .ref dA, .int (nI dn)])), (lA, .inl (cC, 1500, .inl (fun jj => nI (ln jj))))] sz) (va_Qi (fun (rv : Int32) (uu : Unit) => rv = nI (ln k) ∧ True) (fun (uu : Unit) t9 => va_P D vwCl ([(m0, .inr (6, [.ref gA, .int (nI n), .ref tA, .int (nI w), .int (nI fo), .ref pA, .ref sA, .ref mA, .int ch, .int (nI ma), .ref npA, .ref nsA, .ref nmA, .int nc, .int (nI le), .ref lA, .int (nI dr), .ref dA, .int (nI dn)])), (lA, .inl (cC, 1500, .inl (fun jj => nI (ln jj))))]) t9.heap) (va_A [(m0, .inr (6, [.ref gA, .int (nI n), .ref tA, .int (nI w), .int (nI fo), .ref pA, .ref sA, .ref mA, .int ch, .int (nI ma), .ref npA, .ref nsA, .ref nmA, .int nc, .int (nI le), .ref lA, .int (nI dr), .ref dA, .int (nI dn)])), (lA, .inl (cC, 1500, .inl (fun jj => nI (ln jj))))] sz)) 0 0 (va_A [(m0, .inr (6, [.ref gA, .int (nI n), .ref tA, .int (nI w), .int (nI fo), .ref pA, .ref sA, .ref mA, .int ch, .int (nI ma), .ref npA, .ref nsA, .ref nmA, .int nc, .int (nI le), .ref lA, .int (nI dr), .ref dA, .int (nI dn)])), (lA, .inl (cC, 1500, .inl (fun jj => nI (ln jj))))] sz) := by
  refine zMet (cc := cX6_at) (maxL := 2) (ret := (some .int)) (Qc := fun A => (va_Qi (fun (rv : Int32) (uu : Unit) => rv = nI (ln k) ∧ True) (fun (uu : Unit) t9 => va_P D vwCl ([(m0, .inr (6, [.ref gA, .int (nI n), .ref tA, .int (nI w), .int (nI fo), .ref pA, .ref sA, .ref mA, .int ch, .int (nI ma), .ref npA, .ref nsA, .ref nmA, .int nc, .int (nI le), .ref lA, .int (nI dr), .ref dA, .int (nI dn)])), (lA, .inl (cC, 1500, .inl (fun jj => nI (ln jj))))]) t9.heap) A)) (by decide) rfl (Nat.le_of_ble_eq_true rfl) ?_
  intro pr en s0 mi bl me co A hC hA hK hE H locs hP hD hS ls hl
  obtain ⟨hx, hb, hr, hml, hown, hts, hlocks, hin⟩ := id hC
  have hl : lv_has ls 2 [(0, .ref m0), (1, .int (nI k))] := hl
  refine lv_iload_n hx hb dX6_at_0 rfl (lv_at hl 1 rfl) ?_
  refine zz_lt0 (tgt := 12) hx hb dX6_at_1 (by decide) (by omega) ?_
  refine lv_iload_n hx hb dX6_at_4 rfl (lv_at hl 1 rfl) ?_
  refine lv_aload_n hx hb dX6_at_5 rfl (lv_at hl 0 rfl) ?_
  refine va_get (D := D) (ci := 6) (v := .int (nI le)) (C := RX6) (T := TX6) (N := 19) hx hb hts (fun w h => List.mem_cons_of_mem _ (inUX6 w h)) hown hK hP 0 rfl rfl 14 (by decide) (hts _ (List.mem_cons_of_mem _ mw_452)) (fun _ h9 => h9) rfl dX6_at_6 ?_
  refine zz_lt (tgt := 16) hx hb dX6_at_9 (by decide) (by omega) (by omega) (fun c9 => ?_) (fun c9 => ?_)
  · skip
    refine lv_aload_n hx hb dX6_at_16 rfl (lv_at hl 0 rfl) ?_
    refine va_get (D := D) (ci := 6) (v := .ref lA) (C := RX6) (T := TX6) (N := 19) hx hb hts (fun w h => List.mem_cons_of_mem _ (inUX6 w h)) hown hK hP 0 rfl rfl 15 (by decide) (hts _ (List.mem_cons_of_mem _ mw_453)) (fun _ h9 => h9) rfl dX6_at_17 ?_
    refine lv_iload_n hx hb dX6_at_20 rfl (lv_at hl 1 rfl) ?_
    refine zz_cald (k := k) (f := ln) hx hb hK hP 1 1 rfl rfl (by omega) (by omega) dX6_at_21 ?_
    exact zIret hC hS () ⟨rfl, trivial⟩ hP (vp_nar_int _) dX6_at_22
  · skip
    exact absurd c9 (by omega)
set_option maxHeartbeats 4000000 in
set_option maxRecDepth 100000 in
theorem j_at0 (l : Launch) (D : va_G) (cI cC : ClassId)  (m0 gA n tA w fo pA sA mA ma npA nsA nmA le lA dr dA dn : Nat) (ch nc : Int32) (k : Int32) (hle : le ≤ 1500) (hbad : k < 0 ∨ nI le ≤ k) (sz : Nat) : Met l yX6_at wsX6_at ({ frames := 0, cells := 0, slots := 0, locals := 0 } : Room) (zPre zE0 D vwCl [(cI, .int), (cC, .char)] [.ref m0, .int k] [(m0, .inr (6, [.ref gA, .int (nI n), .ref tA, .int (nI w), .int (nI fo), .ref pA, .ref sA, .ref mA, .int ch, .int (nI ma), .ref npA, .ref nsA, .ref nmA, .int nc, .int (nI le), .ref lA, .int (nI dr), .ref dA, .int (nI dn)]))] sz) (va_Qi (fun (rv : Int32) (uu : Unit) => rv = (-1) ∧ True) (fun (uu : Unit) t9 => va_P D vwCl ([(m0, .inr (6, [.ref gA, .int (nI n), .ref tA, .int (nI w), .int (nI fo), .ref pA, .ref sA, .ref mA, .int ch, .int (nI ma), .ref npA, .ref nsA, .ref nmA, .int nc, .int (nI le), .ref lA, .int (nI dr), .ref dA, .int (nI dn)]))]) t9.heap) (va_A [(m0, .inr (6, [.ref gA, .int (nI n), .ref tA, .int (nI w), .int (nI fo), .ref pA, .ref sA, .ref mA, .int ch, .int (nI ma), .ref npA, .ref nsA, .ref nmA, .int nc, .int (nI le), .ref lA, .int (nI dr), .ref dA, .int (nI dn)]))] sz)) 0 0 (va_A [(m0, .inr (6, [.ref gA, .int (nI n), .ref tA, .int (nI w), .int (nI fo), .ref pA, .ref sA, .ref mA, .int ch, .int (nI ma), .ref npA, .ref nsA, .ref nmA, .int nc, .int (nI le), .ref lA, .int (nI dr), .ref dA, .int (nI dn)]))] sz) := by
  refine zMet (cc := cX6_at) (maxL := 2) (ret := (some .int)) (Qc := fun A => (va_Qi (fun (rv : Int32) (uu : Unit) => rv = (-1) ∧ True) (fun (uu : Unit) t9 => va_P D vwCl ([(m0, .inr (6, [.ref gA, .int (nI n), .ref tA, .int (nI w), .int (nI fo), .ref pA, .ref sA, .ref mA, .int ch, .int (nI ma), .ref npA, .ref nsA, .ref nmA, .int nc, .int (nI le), .ref lA, .int (nI dr), .ref dA, .int (nI dn)]))]) t9.heap) A)) (by decide) rfl (Nat.le_of_ble_eq_true rfl) ?_
  intro pr en s0 mi bl me co A hC hA hK hE H locs hP hD hS ls hl
  obtain ⟨hx, hb, hr, hml, hown, hts, hlocks, hin⟩ := id hC
  have hl : lv_has ls 2 [(0, .ref m0), (1, .int k)] := hl
  refine lv_iload_n hx hb dX6_at_0 rfl (lv_at hl 1 rfl) ?_
  refine lv_if_lt (tgt := 12) hx hb dX6_at_1 (by decide) (fun c1 => ?_) (fun c1 => ?_)
  · skip
    refine lv_iconst (v := (-1)) hx hb dX6_at_12 (by decide) ?_
    refine lv_goto (tgt := 22) hx hb dX6_at_13 (by decide) ?_
    exact zIret hC hS () ⟨rfl, trivial⟩ hP (vp_nar_int _) dX6_at_22
  · skip
    refine lv_iload_n hx hb dX6_at_4 rfl (lv_at hl 1 rfl) ?_
    refine lv_aload_n hx hb dX6_at_5 rfl (lv_at hl 0 rfl) ?_
    refine va_get (D := D) (ci := 6) (v := .int (nI le)) (C := RX6) (T := TX6) (N := 19) hx hb hts (fun w h => List.mem_cons_of_mem _ (inUX6 w h)) hown hK hP 0 rfl rfl 14 (by decide) (hts _ (List.mem_cons_of_mem _ mw_452)) (fun _ h9 => h9) rfl dX6_at_6 ?_
    refine lv_icmp_lt (tgt := 16) hx hb dX6_at_9 (by decide) (fun c9 => ?_) (fun c9 => ?_)
    · skip
      exact absurd hbad (fun q => by rcases q with q | q; exact c1 q; exact absurd c9 (Int32.not_lt.mpr q))
    · skip
      refine lv_iconst (v := (-1)) hx hb dX6_at_12 (by decide) ?_
      refine lv_goto (tgt := 22) hx hb dX6_at_13 (by decide) ?_
      exact zIret hC hS () ⟨rfl, trivial⟩ hP (vp_nar_int _) dX6_at_22
end
section
set_option maxHeartbeats 4000000 in
set_option maxRecDepth 100000 in
theorem j_starts_L28 {pr : Program} {en : Env} {s0 : State} {mi : MethodId} {bl : List Frame} {me : Method} {co : Code} {A : Nat → Prop} (l : Launch) (D : va_G) (cI cC : ClassId)  (m0 gA n tA w fo pA sA mA ma npA nsA nmA le lA dr dA dn : Nat) (ch nc : Int32) (p : Nat) (g : Nat → Nat) (r : Nat → Nat) (hn : n ≤ 96) (hg : ∀ i, g i ≤ 4) (hw : w ≤ 24) (hr3 : ∀ i, i < w → r i ≤ 3) (hp : p ≤ n) (hC : zK pr s0 mi ([.ref m0, .int (nI p)] : List Value).toArray me co cX6_starts 4 (some .boolean) yX6_starts wsX6_starts) (hA : ∀ q, s0.heap.size ≤ q → A q) (hK : va_K D vwCl [(cI, .int), (cC, .char)] s0) (hE : zE0 A s0 s0.heap) :
    ∀ (N : Nat) (k : Nat), w - k < N → (k ≤ w) → ∀ (H : Heap) (locs : List Loc), va_P D vwCl [(m0, .inr (6, [.ref gA, .int (nI n), .ref tA, .int (nI w), .int (nI fo), .ref pA, .ref sA, .ref mA, .int ch, .int (nI ma), .ref npA, .ref nsA, .ref nmA, .int nc, .int (nI le), .ref lA, .int (nI dr), .ref dA, .int (nI dn)])), (gA, .inl (cI, 96, .inl (fun jj => nI (g jj)))), (tA, .inl (cI, 24, .inl (fun jj => nI (r jj))))] H → va_D A [(m0, .inr (6, [.ref gA, .int (nI n), .ref tA, .int (nI w), .int (nI fo), .ref pA, .ref sA, .ref mA, .int ch, .int (nI ma), .ref npA, .ref nsA, .ref nmA, .int nc, .int (nI le), .ref lA, .int (nI dr), .ref dA, .int (nI dn)])), (gA, .inl (cI, 96, .inl (fun jj => nI (g jj)))), (tA, .inl (cI, 24, .inl (fun jj => nI (r jj))))] → va_S A s0.heap H locs → ∀ ls : Array Slot, lv_has ls 4 [(0, .ref m0), (1, .int (nI p)), (2, .int (zb (0 < w ∧ p + w ≤ n ∧ zmm g r p k = 0))), (3, .int (nI k))] → W pr l en ({ frames := 0, cells := 0, slots := 0, locals := 0 } : Room) s0 mi ([.ref m0, .int (nI p)] : List Value).toArray bl me co H locs 0 0 (MQ bl (va_Qi (fun (rv : Int32) (uu : Unit) => rv = zb (0 < w ∧ p + w ≤ n ∧ zmm g r p w = 0) ∧ True) (fun (uu : Unit) t9 => va_P D vwCl ([(m0, .inr (6, [.ref gA, .int (nI n), .ref tA, .int (nI w), .int (nI fo), .ref pA, .ref sA, .ref mA, .int ch, .int (nI ma), .ref npA, .ref nsA, .ref nmA, .int nc, .int (nI le), .ref lA, .int (nI dr), .ref dA, .int (nI dn)])), (gA, .inl (cI, 96, .inl (fun jj => nI (g jj)))), (tA, .inl (cI, 24, .inl (fun jj => nI (r jj))))]) t9.heap) A) ([.ref m0, .int (nI p)] : List Value).toArray s0 0 0 A) (F0 mi 28 ls []) := by
  obtain ⟨hx, hb, hr, hml, hown, hts, hlocks, hin⟩ := id hC
  intro N
  induction N with
  | zero =>
    intro k hmea
    omega
  | succ N ih =>
    intro k hmea hk H locs hP hD hS ls hl
    refine lv_iload_n hx hb dX6_starts_28 rfl (lv_at hl 3 rfl) ?_
    refine lv_aload_n hx hb dX6_starts_29 rfl (lv_at hl 0 rfl) ?_
    refine va_get (D := D) (ci := 6) (v := .int (nI w)) (C := RX6) (T := TX6) (N := 19) hx hb hts (fun w h => List.mem_cons_of_mem _ (inUX6 w h)) hown hK hP 0 rfl rfl 3 (by decide) (hts _ (List.mem_cons_of_mem _ mw_441)) (fun _ h9 => h9) rfl dX6_starts_30 ?_
    refine zz_ge (tgt := 69) hx hb dX6_starts_33 (by decide) (by omega) (by omega) (fun c33 => ?_) (fun c33 => ?_)
    · skip
      refine lv_iload_n hx hb dX6_starts_69 rfl (lv_at hl 2 rfl) ?_
      exact zIret hC hS () ⟨by first | (rw [show k = w by omega]; done) | rw [zb_f c37, zb_f (fun q => c37 ⟨q.1, q.2.1, by have := zmm_mono g r p (show k ≤ w by omega); omega⟩)], trivial⟩ hP znb dX6_starts_70
    · skip
      refine lv_iload_n hx hb dX6_starts_36 rfl (lv_at hl 2 rfl) ?_
      refine zz_eqb (tgt := 69) hx hb dX6_starts_37 (by decide) (fun c37 => ?_) (fun c37 => ?_)
      · skip
        refine lv_iload_n hx hb dX6_starts_69 rfl (lv_at hl 2 rfl) ?_
        exact zIret hC hS () ⟨by first | (rw [show k = w by omega]; done) | rw [zb_f c37, zb_f (fun q => c37 ⟨q.1, q.2.1, by have := zmm_mono g r p (show k ≤ w by omega); omega⟩)], trivial⟩ hP znb dX6_starts_70
      · skip
        refine lv_aload_n hx hb dX6_starts_40 rfl (lv_at hl 0 rfl) ?_
        refine va_get (D := D) (ci := 6) (v := .ref gA) (C := RX6) (T := TX6) (N := 19) hx hb hts (fun w h => List.mem_cons_of_mem _ (inUX6 w h)) hown hK hP 0 rfl rfl 0 (by decide) (hts _ (List.mem_cons_of_mem _ mw_438)) (fun _ h9 => h9) rfl dX6_starts_41 ?_
        refine lv_iload_n hx hb dX6_starts_44 rfl (lv_at hl 1 rfl) ?_
        refine lv_iload_n hx hb dX6_starts_45 rfl (lv_at hl 3 rfl) ?_
        refine lv_iadd hx hb dX6_starts_46 ?_
        refine zz_top (y := nI (p + k)) (zadd (by omega)) ?_
        refine zz_iald (k := p + k) (f := g) hx hb hK hP 1 0 rfl rfl (by have := c37.2.1; omega) (by omega) dX6_starts_47 ?_
        refine lv_aload_n hx hb dX6_starts_48 rfl (lv_at hl 0 rfl) ?_
        refine va_get (D := D) (ci := 6) (v := .ref tA) (C := RX6) (T := TX6) (N := 19) hx hb hts (fun w h => List.mem_cons_of_mem _ (inUX6 w h)) hown hK hP 0 rfl rfl 2 (by decide) (hts _ (List.mem_cons_of_mem _ mw_440)) (fun _ h9 => h9) rfl dX6_starts_49 ?_
        refine lv_iload_n hx hb dX6_starts_52 rfl (lv_at hl 3 rfl) ?_
        refine zz_iald (k := k) (f := r) hx hb hK hP 2 0 rfl rfl (by omega) (by omega) dX6_starts_53 ?_
        refine zz_ne (tgt := 61) hx hb dX6_starts_54 (by decide) (by have := hg (p + k); omega) (by have := hr3 k (by omega); omega) (fun c54 => ?_) (fun c54 => ?_)
        · skip
          refine lv_iconst (v := nI 0) hx hb dX6_starts_61 (by decide) ?_
          refine lv_istore_n (lv' := [(2, .int (nI 0)), (0, .ref m0), (1, .int (nI p)), (3, .int (nI k))]) hx hb dX6_starts_62 rfl hl (by decide) rfl (fun ls hl => ?_)
          refine lv_iinc (v := nI (k + 1)) (lv' := [(3, .int (nI (k + 1))), (2, .int (nI 0)), (0, .ref m0), (1, .int (nI p))]) hx hb dX6_starts_63 hl (k := 3) rfl (zincE (by omega)) (by decide) rfl (fun ls hl => ?_)
          refine lv_goto (tgt := 28) hx hb dX6_starts_66 (by decide) ?_
          have hl : lv_has ls 4 [(3, .int (nI (k + 1))), (2, .int (zb (0 < w ∧ p + w ≤ n ∧ zmm g r p (k + 1) = 0))), (0, .ref m0), (1, .int (nI p))] := by rw [zb_f (by rw [zmm_t c54]; omega)]; exact hl
          exact ih (k + 1) (by omega) (by omega) _ _ hP hD hS ls (lv_sub hl [2, 3, 1, 0] rfl)
        · skip
          refine lv_iconst (v := nI 1) hx hb dX6_starts_57 (by decide) ?_
          refine lv_goto (tgt := 62) hx hb dX6_starts_58 (by decide) ?_
          refine lv_istore_n (lv' := [(2, .int (nI 1)), (0, .ref m0), (1, .int (nI p)), (3, .int (nI k))]) hx hb dX6_starts_62 rfl hl (by decide) rfl (fun ls hl => ?_)
          refine lv_iinc (v := nI (k + 1)) (lv' := [(3, .int (nI (k + 1))), (2, .int (nI 1)), (0, .ref m0), (1, .int (nI p))]) hx hb dX6_starts_63 hl (k := 3) rfl (zincE (by omega)) (by decide) rfl (fun ls hl => ?_)
          refine lv_goto (tgt := 28) hx hb dX6_starts_66 (by decide) ?_
          have hl : lv_has ls 4 [(3, .int (nI (k + 1))), (2, .int (zb (0 < w ∧ p + w ≤ n ∧ zmm g r p (k + 1) = 0))), (0, .ref m0), (1, .int (nI p))] := by rw [zb_t ⟨c37.1, c37.2.1, by rw [zmm_f c54]; exact c37.2.2⟩]; exact hl
          exact ih (k + 1) (by omega) (by omega) _ _ hP hD hS ls (lv_sub hl [2, 3, 1, 0] rfl)
set_option maxHeartbeats 4000000 in
set_option maxRecDepth 100000 in
theorem j_starts (l : Launch) (D : va_G) (cI cC : ClassId)  (m0 gA n tA w fo pA sA mA ma npA nsA nmA le lA dr dA dn : Nat) (ch nc : Int32) (p : Nat) (g : Nat → Nat) (r : Nat → Nat) (hn : n ≤ 96) (hg : ∀ i, g i ≤ 4) (hw : w ≤ 24) (hr3 : ∀ i, i < w → r i ≤ 3) (hp : p ≤ n) (sz : Nat) : Met l yX6_starts wsX6_starts ({ frames := 0, cells := 0, slots := 0, locals := 0 } : Room) (zPre zE0 D vwCl [(cI, .int), (cC, .char)] [.ref m0, .int (nI p)] [(m0, .inr (6, [.ref gA, .int (nI n), .ref tA, .int (nI w), .int (nI fo), .ref pA, .ref sA, .ref mA, .int ch, .int (nI ma), .ref npA, .ref nsA, .ref nmA, .int nc, .int (nI le), .ref lA, .int (nI dr), .ref dA, .int (nI dn)])), (gA, .inl (cI, 96, .inl (fun jj => nI (g jj)))), (tA, .inl (cI, 24, .inl (fun jj => nI (r jj))))] sz) (va_Qi (fun (rv : Int32) (uu : Unit) => rv = zb (0 < w ∧ p + w ≤ n ∧ zmm g r p w = 0) ∧ True) (fun (uu : Unit) t9 => va_P D vwCl ([(m0, .inr (6, [.ref gA, .int (nI n), .ref tA, .int (nI w), .int (nI fo), .ref pA, .ref sA, .ref mA, .int ch, .int (nI ma), .ref npA, .ref nsA, .ref nmA, .int nc, .int (nI le), .ref lA, .int (nI dr), .ref dA, .int (nI dn)])), (gA, .inl (cI, 96, .inl (fun jj => nI (g jj)))), (tA, .inl (cI, 24, .inl (fun jj => nI (r jj))))]) t9.heap) (va_A [(m0, .inr (6, [.ref gA, .int (nI n), .ref tA, .int (nI w), .int (nI fo), .ref pA, .ref sA, .ref mA, .int ch, .int (nI ma), .ref npA, .ref nsA, .ref nmA, .int nc, .int (nI le), .ref lA, .int (nI dr), .ref dA, .int (nI dn)])), (gA, .inl (cI, 96, .inl (fun jj => nI (g jj)))), (tA, .inl (cI, 24, .inl (fun jj => nI (r jj))))] sz)) 0 0 (va_A [(m0, .inr (6, [.ref gA, .int (nI n), .ref tA, .int (nI w), .int (nI fo), .ref pA, .ref sA, .ref mA, .int ch, .int (nI ma), .ref npA, .ref nsA, .ref nmA, .int nc, .int (nI le), .ref lA, .int (nI dr), .ref dA, .int (nI dn)])), (gA, .inl (cI, 96, .inl (fun jj => nI (g jj)))), (tA, .inl (cI, 24, .inl (fun jj => nI (r jj))))] sz) := by
  refine zMet (cc := cX6_starts) (maxL := 4) (ret := (some .boolean)) (Qc := fun A => (va_Qi (fun (rv : Int32) (uu : Unit) => rv = zb (0 < w ∧ p + w ≤ n ∧ zmm g r p w = 0) ∧ True) (fun (uu : Unit) t9 => va_P D vwCl ([(m0, .inr (6, [.ref gA, .int (nI n), .ref tA, .int (nI w), .int (nI fo), .ref pA, .ref sA, .ref mA, .int ch, .int (nI ma), .ref npA, .ref nsA, .ref nmA, .int nc, .int (nI le), .ref lA, .int (nI dr), .ref dA, .int (nI dn)])), (gA, .inl (cI, 96, .inl (fun jj => nI (g jj)))), (tA, .inl (cI, 24, .inl (fun jj => nI (r jj))))]) t9.heap) A)) (by decide) rfl (Nat.le_of_ble_eq_true rfl) ?_
  intro pr en s0 mi bl me co A hC hA hK hE H locs hP hD hS ls hl
  obtain ⟨hx, hb, hr, hml, hown, hts, hlocks, hin⟩ := id hC
  have hl : lv_has ls 4 [(0, .ref m0), (1, .int (nI p))] := hl
  refine lv_aload_n hx hb dX6_starts_0 rfl (lv_at hl 0 rfl) ?_
  refine va_get (D := D) (ci := 6) (v := .int (nI w)) (C := RX6) (T := TX6) (N := 19) hx hb hts (fun w h => List.mem_cons_of_mem _ (inUX6 w h)) hown hK hP 0 rfl rfl 3 (by decide) (hts _ (List.mem_cons_of_mem _ mw_441)) (fun _ h9 => h9) rfl dX6_starts_1 ?_
  refine zz_le0 (tgt := 24) hx hb dX6_starts_4 (by decide) (by omega) (fun c4 => ?_) (fun c4 => ?_)
  · skip
    refine lv_iconst (v := nI 0) hx hb dX6_starts_24 (by decide) ?_
    refine lv_istore_n (lv' := [(2, .int (nI 0)), (0, .ref m0), (1, .int (nI p))]) hx hb dX6_starts_25 rfl hl (by decide) rfl (fun ls hl => ?_)
    refine lv_iconst (v := nI 0) hx hb dX6_starts_26 (by decide) ?_
    refine lv_istore_n (lv' := [(3, .int (nI 0)), (2, .int (nI 0)), (0, .ref m0), (1, .int (nI p))]) hx hb dX6_starts_27 rfl hl (by decide) rfl (fun ls hl => ?_)
    have hl : lv_has ls 4 [(3, .int (nI 0)), (2, .int (zb (0 < w ∧ p + w ≤ n ∧ zmm g r p 0 = 0))), (0, .ref m0), (1, .int (nI p))] := by rw [zb_f (by omega)]; exact hl
    exact j_starts_L28 l D cI cC  m0 gA n tA w fo pA sA mA ma npA nsA nmA le lA dr dA dn ch nc p g r hn hg hw hr3 hp hC hA hK hE _ 0 (Nat.lt_succ_self _) (Nat.zero_le _) _ _ hP hD hS ls (lv_sub hl [2, 3, 1, 0] rfl)
  · skip
    refine lv_iload_n hx hb dX6_starts_7 rfl (lv_at hl 1 rfl) ?_
    refine lv_aload_n hx hb dX6_starts_8 rfl (lv_at hl 0 rfl) ?_
    refine va_get (D := D) (ci := 6) (v := .int (nI w)) (C := RX6) (T := TX6) (N := 19) hx hb hts (fun w h => List.mem_cons_of_mem _ (inUX6 w h)) hown hK hP 0 rfl rfl 3 (by decide) (hts _ (List.mem_cons_of_mem _ mw_441)) (fun _ h9 => h9) rfl dX6_starts_9 ?_
    refine lv_iadd hx hb dX6_starts_12 ?_
    refine zz_top (y := nI (p + w)) (zadd (by omega)) ?_
    refine lv_aload_n hx hb dX6_starts_13 rfl (lv_at hl 0 rfl) ?_
    refine va_get (D := D) (ci := 6) (v := .int (nI n)) (C := RX6) (T := TX6) (N := 19) hx hb hts (fun w h => List.mem_cons_of_mem _ (inUX6 w h)) hown hK hP 0 rfl rfl 1 (by decide) (hts _ (List.mem_cons_of_mem _ mw_439)) (fun _ h9 => h9) rfl dX6_starts_14 ?_
    refine zz_gt (tgt := 24) hx hb dX6_starts_17 (by decide) (by omega) (by omega) (fun c17 => ?_) (fun c17 => ?_)
    · skip
      refine lv_iconst (v := nI 0) hx hb dX6_starts_24 (by decide) ?_
      refine lv_istore_n (lv' := [(2, .int (nI 0)), (0, .ref m0), (1, .int (nI p))]) hx hb dX6_starts_25 rfl hl (by decide) rfl (fun ls hl => ?_)
      refine lv_iconst (v := nI 0) hx hb dX6_starts_26 (by decide) ?_
      refine lv_istore_n (lv' := [(3, .int (nI 0)), (2, .int (nI 0)), (0, .ref m0), (1, .int (nI p))]) hx hb dX6_starts_27 rfl hl (by decide) rfl (fun ls hl => ?_)
      have hl : lv_has ls 4 [(3, .int (nI 0)), (2, .int (zb (0 < w ∧ p + w ≤ n ∧ zmm g r p 0 = 0))), (0, .ref m0), (1, .int (nI p))] := by rw [zb_f (by omega)]; exact hl
      exact j_starts_L28 l D cI cC  m0 gA n tA w fo pA sA mA ma npA nsA nmA le lA dr dA dn ch nc p g r hn hg hw hr3 hp hC hA hK hE _ 0 (Nat.lt_succ_self _) (Nat.zero_le _) _ _ hP hD hS ls (lv_sub hl [2, 3, 1, 0] rfl)
    · skip
      refine lv_iconst (v := nI 1) hx hb dX6_starts_20 (by decide) ?_
      refine lv_goto (tgt := 25) hx hb dX6_starts_21 (by decide) ?_
      refine lv_istore_n (lv' := [(2, .int (nI 1)), (0, .ref m0), (1, .int (nI p))]) hx hb dX6_starts_25 rfl hl (by decide) rfl (fun ls hl => ?_)
      refine lv_iconst (v := nI 0) hx hb dX6_starts_26 (by decide) ?_
      refine lv_istore_n (lv' := [(3, .int (nI 0)), (2, .int (nI 1)), (0, .ref m0), (1, .int (nI p))]) hx hb dX6_starts_27 rfl hl (by decide) rfl (fun ls hl => ?_)
      have hl : lv_has ls 4 [(3, .int (nI 0)), (2, .int (zb (0 < w ∧ p + w ≤ n ∧ zmm g r p 0 = 0))), (0, .ref m0), (1, .int (nI p))] := by rw [zb_t ⟨by omega, by omega, rfl⟩]; exact hl
      exact j_starts_L28 l D cI cC  m0 gA n tA w fo pA sA mA ma npA nsA nmA le lA dr dA dn ch nc p g r hn hg hw hr3 hp hC hA hK hE _ 0 (Nat.lt_succ_self _) (Nat.zero_le _) _ _ hP hD hS ls (lv_sub hl [2, 3, 1, 0] rfl)
set_option maxHeartbeats 4000000 in
set_option maxRecDepth 100000 in
theorem j_first_L4 {pr : Program} {en : Env} {s0 : State} {mi : MethodId} {bl : List Frame} {me : Method} {co : Code} {A : Nat → Prop} (l : Launch) (D : va_G) (cI cC : ClassId)  (m0 gA n tA w fo pA sA mA ma npA nsA nmA le lA dr dA dn : Nat) (ch nc : Int32) (g : Nat → Nat) (r : Nat → Nat) (hn : n ≤ 96) (hg : ∀ i, g i ≤ 4) (hw : w ≤ 24) (hr3 : ∀ i, i < w → r i ≤ 3) (hC : zK pr s0 mi ([.ref m0] : List Value).toArray me co cX6_first 4 (some .int) yX6_first wsX6_first) (hA : ∀ q, s0.heap.size ≤ q → A q) (hK : va_K D vwCl [(cI, .int), (cC, .char)] s0) (hE : zE0 A s0 s0.heap) :
    ∀ (N : Nat) (k : Nat) (x : Int32), n - k < N → (k ≤ n) → (zfst n g (fun p => 0 < w ∧ p + w ≤ n ∧ zmm g r p w = 0) k x) → ∀ (H : Heap) (locs : List Loc), va_P D vwCl [(m0, .inr (6, [.ref gA, .int (nI n), .ref tA, .int (nI w), .int (nI fo), .ref pA, .ref sA, .ref mA, .int ch, .int (nI ma), .ref npA, .ref nsA, .ref nmA, .int nc, .int (nI le), .ref lA, .int (nI dr), .ref dA, .int (nI dn)])), (gA, .inl (cI, 96, .inl (fun jj => nI (g jj)))), (tA, .inl (cI, 24, .inl (fun jj => nI (r jj))))] H → va_D A [(m0, .inr (6, [.ref gA, .int (nI n), .ref tA, .int (nI w), .int (nI fo), .ref pA, .ref sA, .ref mA, .int ch, .int (nI ma), .ref npA, .ref nsA, .ref nmA, .int nc, .int (nI le), .ref lA, .int (nI dr), .ref dA, .int (nI dn)])), (gA, .inl (cI, 96, .inl (fun jj => nI (g jj)))), (tA, .inl (cI, 24, .inl (fun jj => nI (r jj))))] → va_S A s0.heap H locs → ∀ ls : Array Slot, lv_has ls 4 [(0, .ref m0), (1, .int x), (2, .int (nI k))] → W pr l en ({ frames := 3, cells := 0, slots := 0, locals := 69 } : Room) s0 mi ([.ref m0] : List Value).toArray bl me co H locs 0 0 (MQ bl (va_Qi (fun (rv : Int32) (uu : Unit) => zfst n g (fun p => 0 < w ∧ p + w ≤ n ∧ zmm g r p w = 0) n rv) (fun (uu : Unit) t9 => va_P D vwCl ([(m0, .inr (6, [.ref gA, .int (nI n), .ref tA, .int (nI w), .int (nI fo), .ref pA, .ref sA, .ref mA, .int ch, .int (nI ma), .ref npA, .ref nsA, .ref nmA, .int nc, .int (nI le), .ref lA, .int (nI dr), .ref dA, .int (nI dn)])), (gA, .inl (cI, 96, .inl (fun jj => nI (g jj)))), (tA, .inl (cI, 24, .inl (fun jj => nI (r jj))))]) t9.heap) A) ([.ref m0] : List Value).toArray s0 0 0 A) (F0 mi 4 ls []) := by
  obtain ⟨hx, hb, hr, hml, hown, hts, hlocks, hin⟩ := id hC
  intro N
  induction N with
  | zero =>
    intro k x hmea
    omega
  | succ N ih =>
    intro k x hmea hk hx1 H locs hP hD hS ls hl
    refine lv_iload_n hx hb dX6_first_4 rfl (lv_at hl 2 rfl) ?_
    refine lv_aload_n hx hb dX6_first_5 rfl (lv_at hl 0 rfl) ?_
    refine va_get (D := D) (ci := 6) (v := .int (nI n)) (C := RX6) (T := TX6) (N := 19) hx hb hts (fun w h => List.mem_cons_of_mem _ (inUX6 w h)) hown hK hP 0 rfl rfl 1 (by decide) (hts _ (List.mem_cons_of_mem _ mw_439)) (fun _ h9 => h9) rfl dX6_first_6 ?_
    refine zz_ge (tgt := 47) hx hb dX6_first_9 (by decide) (by omega) (by omega) (fun c9 => ?_) (fun c9 => ?_)
    · skip
      refine lv_iload_n hx hb dX6_first_47 rfl (lv_at hl 1 rfl) ?_
      exact zIret hC hS () (by rw [show k = n by omega] at hx1; exact hx1) hP (vp_nar_int _) dX6_first_48
    · skip
      refine lv_aload_n hx hb dX6_first_12 rfl (lv_at hl 0 rfl) ?_
      refine lv_iload_n hx hb dX6_first_13 rfl (lv_at hl 2 rfl) ?_
      refine zCi (is := [0, 1, 2]) (wf := (fun (uu : Unit) => ([(m0, .inr (6, [.ref gA, .int (nI n), .ref tA, .int (nI w), .int (nI fo), .ref pA, .ref sA, .ref mA, .int ch, .int (nI ma), .ref npA, .ref nsA, .ref nmA, .int nc, .int (nI le), .ref lA, .int (nI dr), .ref dA, .int (nI dn)])), (gA, .inl (cI, 96, .inl (fun jj => nI (g jj)))), (tA, .inl (cI, 24, .inl (fun jj => nI (r jj))))] : va_W))) (va_runV (As := [.int (nI k)]) (rest := []) ⟨hx, hb, hml, hown, hts⟩ (j_starts l D cI cC  m0 gA n tA w fo pA sA mA ma npA nsA nmA le lA dr dA dn ch nc k g r (by omega) hg (by omega) hr3 (by omega) H.size) (cwV 1 hts (zgood mw_549 mw_551 mw_8 mw_32 mw_552) rfl rfl rfl (by decide +kernel) ⟨Nat.le_of_ble_eq_true rfl, Nat.le_of_ble_eq_true rfl⟩) ⟨zBlind zE0_ok, va_recv hK hP (ci := 6) (q0 := 0) rfl rfl, zAt (av := [.ref m0, .int (nI k)]) zE0_ok hP hD hK hS hA trivial [0, 1, 2] rfl (by decide)⟩ rfl rfl hl.1 rfl (lv_room (Nat.le_of_ble_eq_true rfl)) dX6_first_14 ⟨Nat.zero_le _, Nat.zero_le _⟩) hP hD hS hA rfl (fun _ => rfl) (fun r14 u14 H locs w14 hP hD hS => ?_)
      obtain ⟨rfl, w14⟩ := w14
      have hP : va_P D vwCl [(m0, .inr (6, [.ref gA, .int (nI n), .ref tA, .int (nI w), .int (nI fo), .ref pA, .ref sA, .ref mA, .int ch, .int (nI ma), .ref npA, .ref nsA, .ref nmA, .int nc, .int (nI le), .ref lA, .int (nI dr), .ref dA, .int (nI dn)])), (gA, .inl (cI, 96, .inl (fun jj => nI (g jj)))), (tA, .inl (cI, 24, .inl (fun jj => nI (r jj))))] H := hP
      have hD : va_D A [(m0, .inr (6, [.ref gA, .int (nI n), .ref tA, .int (nI w), .int (nI fo), .ref pA, .ref sA, .ref mA, .int ch, .int (nI ma), .ref npA, .ref nsA, .ref nmA, .int nc, .int (nI le), .ref lA, .int (nI dr), .ref dA, .int (nI dn)])), (gA, .inl (cI, 96, .inl (fun jj => nI (g jj)))), (tA, .inl (cI, 24, .inl (fun jj => nI (r jj))))] := hD
      refine zz_eqb (tgt := 41) hx hb dX6_first_17 (by decide) (fun c17 => ?_) (fun c17 => ?_)
      · skip
        refine lv_iinc (v := nI (k + 1)) (lv' := [(2, .int (nI (k + 1))), (0, .ref m0), (1, .int x)]) hx hb dX6_first_41 hl (k := 2) rfl (zincE (by omega)) (by decide) rfl (fun ls hl => ?_)
        refine lv_goto (tgt := 4) hx hb dX6_first_44 (by decide) ?_
        exact ih (k + 1) x (by omega) (by omega) (zfst_skip hx1 c17) _ _ hP hD hS ls (lv_sub hl [1, 2, 0] rfl)
      · skip
        refine lv_aload_n hx hb dX6_first_20 rfl (lv_at hl 0 rfl) ?_
        refine lv_iload_n hx hb dX6_first_21 rfl (lv_at hl 2 rfl) ?_
        refine zCi (is := [0, 1]) (wf := (fun (uu : Unit) => ([(m0, .inr (6, [.ref gA, .int (nI n), .ref tA, .int (nI w), .int (nI fo), .ref pA, .ref sA, .ref mA, .int ch, .int (nI ma), .ref npA, .ref nsA, .ref nmA, .int nc, .int (nI le), .ref lA, .int (nI dr), .ref dA, .int (nI dn)])), (gA, .inl (cI, 96, .inl (fun jj => nI (g jj))))] : va_W))) (va_runV (As := [.int (nI k)]) (rest := []) ⟨hx, hb, hml, hown, hts⟩ (j_before l D cI cC  m0 gA n tA w fo pA sA mA ma npA nsA nmA le lA dr dA dn ch nc k g (by omega) hg (by omega) H.size) (cwV 1 hts (zgood mw_524 mw_526 mw_5 mw_32 mw_527) rfl rfl rfl (by decide +kernel) ⟨Nat.le_of_ble_eq_true rfl, Nat.le_of_ble_eq_true rfl⟩) ⟨zBlind zE0_ok, va_recv hK hP (ci := 6) (q0 := 0) rfl rfl, zAt (av := [.ref m0, .int (nI k)]) zE0_ok hP hD hK hS hA trivial [0, 1] rfl (by decide)⟩ rfl rfl hl.1 rfl (lv_room (Nat.le_of_ble_eq_true rfl)) dX6_first_22 ⟨Nat.zero_le _, Nat.zero_le _⟩) hP hD hS hA rfl (fun _ => rfl) (fun r22 u22 H locs w22 hP hD hS => ?_)
        obtain ⟨rfl, w22⟩ := w22
        have hP : va_P D vwCl [(m0, .inr (6, [.ref gA, .int (nI n), .ref tA, .int (nI w), .int (nI fo), .ref pA, .ref sA, .ref mA, .int ch, .int (nI ma), .ref npA, .ref nsA, .ref nmA, .int nc, .int (nI le), .ref lA, .int (nI dr), .ref dA, .int (nI dn)])), (gA, .inl (cI, 96, .inl (fun jj => nI (g jj)))), (tA, .inl (cI, 24, .inl (fun jj => nI (r jj))))] H := hP
        have hD : va_D A [(m0, .inr (6, [.ref gA, .int (nI n), .ref tA, .int (nI w), .int (nI fo), .ref pA, .ref sA, .ref mA, .int ch, .int (nI ma), .ref npA, .ref nsA, .ref nmA, .int nc, .int (nI le), .ref lA, .int (nI dr), .ref dA, .int (nI dn)])), (gA, .inl (cI, 96, .inl (fun jj => nI (g jj)))), (tA, .inl (cI, 24, .inl (fun jj => nI (r jj))))] := hD
        refine lv_istore_n (lv' := [(3, .int (nI (zbef n g k))), (0, .ref m0), (1, .int x), (2, .int (nI k))]) hx hb dX6_first_25 rfl hl (by decide) rfl (fun ls hl => ?_)
        refine lv_iload_n hx hb dX6_first_26 rfl (lv_at hl 2 rfl) ?_
        refine lv_if_lt (tgt := 35) hx hb dX6_first_27 (by decide) (fun c27 => ?_) (fun c27 => ?_)
        · skip
          refine lv_iload_n hx hb dX6_first_35 rfl (lv_at hl 0 rfl) ?_
          refine lv_goto (tgt := 40) hx hb dX6_first_36 (by decide) ?_
          refine lv_istore_n (lv' := [(1, .int (nI (zbef n g k))), (3, .int (nI (zbef n g k))), (0, .ref m0), (2, .int (nI k))]) hx hb dX6_first_40 rfl hl (by decide) rfl (fun ls hl => ?_)
          refine lv_iinc (v := nI (k + 1)) (lv' := [(2, .int (nI (k + 1))), (1, .int (nI (zbef n g k))), (3, .int (nI (zbef n g k))), (0, .ref m0)]) hx hb dX6_first_41 hl (k := 3) rfl (zincE (by omega)) (by decide) rfl (fun ls hl => ?_)
          refine lv_goto (tgt := 4) hx hb dX6_first_44 (by decide) ?_
          exact ih (k + 1) (nI (zbef n g k)) (by omega) (by omega) (zfst_new hn (by omega) hx1 c17 (by first | exact Or.inl c27 | exact Or.inr c32)) _ _ hP hD hS ls (lv_sub hl [3, 1, 0] rfl)
        · skip
          refine lv_iload_n hx hb dX6_first_30 rfl (lv_at hl 0 rfl) ?_
          refine lv_iload_n hx hb dX6_first_31 rfl (lv_at hl 2 rfl) ?_
          refine lv_icmp_ge (tgt := 39) hx hb dX6_first_32 (by decide) (fun c32 => ?_) (fun c32 => ?_)
          · skip
            refine lv_iload_n hx hb dX6_first_39 rfl (lv_at hl 2 rfl) ?_
            refine lv_istore_n (lv' := [(1, .int x), (3, .int (nI (zbef n g k))), (0, .ref m0), (2, .int (nI k))]) hx hb dX6_first_40 rfl hl (by decide) rfl (fun ls hl => ?_)
            refine lv_iinc (v := nI (k + 1)) (lv' := [(2, .int (nI (k + 1))), (1, .int x), (3, .int (nI (zbef n g k))), (0, .ref m0)]) hx hb dX6_first_41 hl (k := 3) rfl (zincE (by omega)) (by decide) rfl (fun ls hl => ?_)
            refine lv_goto (tgt := 4) hx hb dX6_first_44 (by decide) ?_
            exact ih (k + 1) x (by omega) (by omega) (zfst_old hn (by omega) hx1 c27 c32) _ _ hP hD hS ls (lv_sub hl [3, 1, 0] rfl)
          · skip
            refine lv_iload_n hx hb dX6_first_35 rfl (lv_at hl 0 rfl) ?_
            refine lv_goto (tgt := 40) hx hb dX6_first_36 (by decide) ?_
            refine lv_istore_n (lv' := [(1, .int (nI (zbef n g k))), (3, .int (nI (zbef n g k))), (0, .ref m0), (2, .int (nI k))]) hx hb dX6_first_40 rfl hl (by decide) rfl (fun ls hl => ?_)
            refine lv_iinc (v := nI (k + 1)) (lv' := [(2, .int (nI (k + 1))), (1, .int (nI (zbef n g k))), (3, .int (nI (zbef n g k))), (0, .ref m0)]) hx hb dX6_first_41 hl (k := 3) rfl (zincE (by omega)) (by decide) rfl (fun ls hl => ?_)
            refine lv_goto (tgt := 4) hx hb dX6_first_44 (by decide) ?_
            exact ih (k + 1) (nI (zbef n g k)) (by omega) (by omega) (zfst_new hn (by omega) hx1 c17 (by first | exact Or.inl c27 | exact Or.inr c32)) _ _ hP hD hS ls (lv_sub hl [3, 1, 0] rfl)
set_option maxHeartbeats 4000000 in
set_option maxRecDepth 100000 in
theorem j_first (l : Launch) (D : va_G) (cI cC : ClassId)  (m0 gA n tA w fo pA sA mA ma npA nsA nmA le lA dr dA dn : Nat) (ch nc : Int32) (g : Nat → Nat) (r : Nat → Nat) (hn : n ≤ 96) (hg : ∀ i, g i ≤ 4) (hw : w ≤ 24) (hr3 : ∀ i, i < w → r i ≤ 3) (sz : Nat) : Met l yX6_first wsX6_first ({ frames := 3, cells := 0, slots := 0, locals := 69 } : Room) (zPre zE0 D vwCl [(cI, .int), (cC, .char)] [.ref m0] [(m0, .inr (6, [.ref gA, .int (nI n), .ref tA, .int (nI w), .int (nI fo), .ref pA, .ref sA, .ref mA, .int ch, .int (nI ma), .ref npA, .ref nsA, .ref nmA, .int nc, .int (nI le), .ref lA, .int (nI dr), .ref dA, .int (nI dn)])), (gA, .inl (cI, 96, .inl (fun jj => nI (g jj)))), (tA, .inl (cI, 24, .inl (fun jj => nI (r jj))))] sz) (va_Qi (fun (rv : Int32) (uu : Unit) => zfst n g (fun p => 0 < w ∧ p + w ≤ n ∧ zmm g r p w = 0) n rv) (fun (uu : Unit) t9 => va_P D vwCl ([(m0, .inr (6, [.ref gA, .int (nI n), .ref tA, .int (nI w), .int (nI fo), .ref pA, .ref sA, .ref mA, .int ch, .int (nI ma), .ref npA, .ref nsA, .ref nmA, .int nc, .int (nI le), .ref lA, .int (nI dr), .ref dA, .int (nI dn)])), (gA, .inl (cI, 96, .inl (fun jj => nI (g jj)))), (tA, .inl (cI, 24, .inl (fun jj => nI (r jj))))]) t9.heap) (va_A [(m0, .inr (6, [.ref gA, .int (nI n), .ref tA, .int (nI w), .int (nI fo), .ref pA, .ref sA, .ref mA, .int ch, .int (nI ma), .ref npA, .ref nsA, .ref nmA, .int nc, .int (nI le), .ref lA, .int (nI dr), .ref dA, .int (nI dn)])), (gA, .inl (cI, 96, .inl (fun jj => nI (g jj)))), (tA, .inl (cI, 24, .inl (fun jj => nI (r jj))))] sz)) 0 0 (va_A [(m0, .inr (6, [.ref gA, .int (nI n), .ref tA, .int (nI w), .int (nI fo), .ref pA, .ref sA, .ref mA, .int ch, .int (nI ma), .ref npA, .ref nsA, .ref nmA, .int nc, .int (nI le), .ref lA, .int (nI dr), .ref dA, .int (nI dn)])), (gA, .inl (cI, 96, .inl (fun jj => nI (g jj)))), (tA, .inl (cI, 24, .inl (fun jj => nI (r jj))))] sz) := by
  refine zMet (cc := cX6_first) (maxL := 4) (ret := (some .int)) (Qc := fun A => (va_Qi (fun (rv : Int32) (uu : Unit) => zfst n g (fun p => 0 < w ∧ p + w ≤ n ∧ zmm g r p w = 0) n rv) (fun (uu : Unit) t9 => va_P D vwCl ([(m0, .inr (6, [.ref gA, .int (nI n), .ref tA, .int (nI w), .int (nI fo), .ref pA, .ref sA, .ref mA, .int ch, .int (nI ma), .ref npA, .ref nsA, .ref nmA, .int nc, .int (nI le), .ref lA, .int (nI dr), .ref dA, .int (nI dn)])), (gA, .inl (cI, 96, .inl (fun jj => nI (g jj)))), (tA, .inl (cI, 24, .inl (fun jj => nI (r jj))))]) t9.heap) A)) (by decide) rfl (Nat.le_of_ble_eq_true rfl) ?_
  intro pr en s0 mi bl me co A hC hA hK hE H locs hP hD hS ls hl
  obtain ⟨hx, hb, hr, hml, hown, hts, hlocks, hin⟩ := id hC
  have hl : lv_has ls 4 [(0, .ref m0)] := hl
  refine lv_iconst (v := (-1)) hx hb dX6_first_0 (by decide) ?_
  refine lv_istore_n (lv' := [(1, .int ((-1))), (0, .ref m0)]) hx hb dX6_first_1 rfl hl (by decide) rfl (fun ls hl => ?_)
  refine lv_iconst (v := nI 0) hx hb dX6_first_2 (by decide) ?_
  refine lv_istore_n (lv' := [(2, .int (nI 0)), (1, .int ((-1))), (0, .ref m0)]) hx hb dX6_first_3 rfl hl (by decide) rfl (fun ls hl => ?_)
  exact j_first_L4 l D cI cC  m0 gA n tA w fo pA sA mA ma npA nsA nmA le lA dr dA dn ch nc g r hn hg hw hr3 hC hA hK hE _ 0 (-1) (Nat.lt_succ_self _) (Nat.zero_le _) (Or.inl ⟨rfl, fun p h => absurd h (Nat.not_lt_zero _)⟩) _ _ hP hD hS ls (lv_sub hl [2, 1, 0] rfl)
set_option maxHeartbeats 4000000 in
set_option maxRecDepth 100000 in
theorem j_count_L4 {pr : Program} {en : Env} {s0 : State} {mi : MethodId} {bl : List Frame} {me : Method} {co : Code} {A : Nat → Prop} (l : Launch) (D : va_G) (cI cC : ClassId)  (m0 gA n tA w fo pA sA mA ma npA nsA nmA le lA dr dA dn : Nat) (ch nc : Int32) (g : Nat → Nat) (r : Nat → Nat) (hn : n ≤ 96) (hg : ∀ i, g i ≤ 4) (hw : w ≤ 24) (hr3 : ∀ i, i < w → r i ≤ 3) (hC : zK pr s0 mi ([.ref m0] : List Value).toArray me co cX6_count 3 (some .int) yX6_count wsX6_count) (hA : ∀ q, s0.heap.size ≤ q → A q) (hK : va_K D vwCl [(cI, .int), (cC, .char)] s0) (hE : zE0 A s0 s0.heap) :
    ∀ (N : Nat) (k x : Nat), n - k < N → (k ≤ n) → (x = zcnt (fun p => decide (0 < w ∧ p + w ≤ n ∧ zmm g r p w = 0)) k) → ∀ (H : Heap) (locs : List Loc), va_P D vwCl [(m0, .inr (6, [.ref gA, .int (nI n), .ref tA, .int (nI w), .int (nI fo), .ref pA, .ref sA, .ref mA, .int ch, .int (nI ma), .ref npA, .ref nsA, .ref nmA, .int nc, .int (nI le), .ref lA, .int (nI dr), .ref dA, .int (nI dn)])), (gA, .inl (cI, 96, .inl (fun jj => nI (g jj)))), (tA, .inl (cI, 24, .inl (fun jj => nI (r jj))))] H → va_D A [(m0, .inr (6, [.ref gA, .int (nI n), .ref tA, .int (nI w), .int (nI fo), .ref pA, .ref sA, .ref mA, .int ch, .int (nI ma), .ref npA, .ref nsA, .ref nmA, .int nc, .int (nI le), .ref lA, .int (nI dr), .ref dA, .int (nI dn)])), (gA, .inl (cI, 96, .inl (fun jj => nI (g jj)))), (tA, .inl (cI, 24, .inl (fun jj => nI (r jj))))] → va_S A s0.heap H locs → ∀ ls : Array Slot, lv_has ls 3 [(0, .ref m0), (1, .int (nI x)), (2, .int (nI k))] → W pr l en ({ frames := 1, cells := 0, slots := 0, locals := 23 } : Room) s0 mi ([.ref m0] : List Value).toArray bl me co H locs 0 0 (MQ bl (va_Qi (fun (rv : Int32) (uu : Unit) => rv = nI (zcnt (fun p => decide (0 < w ∧ p + w ≤ n ∧ zmm g r p w = 0)) n) ∧ True) (fun (uu : Unit) t9 => va_P D vwCl ([(m0, .inr (6, [.ref gA, .int (nI n), .ref tA, .int (nI w), .int (nI fo), .ref pA, .ref sA, .ref mA, .int ch, .int (nI ma), .ref npA, .ref nsA, .ref nmA, .int nc, .int (nI le), .ref lA, .int (nI dr), .ref dA, .int (nI dn)])), (gA, .inl (cI, 96, .inl (fun jj => nI (g jj)))), (tA, .inl (cI, 24, .inl (fun jj => nI (r jj))))]) t9.heap) A) ([.ref m0] : List Value).toArray s0 0 0 A) (F0 mi 4 ls []) := by
  obtain ⟨hx, hb, hr, hml, hown, hts, hlocks, hin⟩ := id hC
  intro N
  induction N with
  | zero =>
    intro k x hmea
    omega
  | succ N ih =>
    intro k x hmea hk hx1 H locs hP hD hS ls hl
    refine lv_iload_n hx hb dX6_count_4 rfl (lv_at hl 2 rfl) ?_
    refine lv_aload_n hx hb dX6_count_5 rfl (lv_at hl 0 rfl) ?_
    refine va_get (D := D) (ci := 6) (v := .int (nI n)) (C := RX6) (T := TX6) (N := 19) hx hb hts (fun w h => List.mem_cons_of_mem _ (inUX6 w h)) hown hK hP 0 rfl rfl 1 (by decide) (hts _ (List.mem_cons_of_mem _ mw_439)) (fun _ h9 => h9) rfl dX6_count_6 ?_
    refine zz_ge (tgt := 34) hx hb dX6_count_9 (by decide) (by omega) (by omega) (fun c9 => ?_) (fun c9 => ?_)
    · skip
      refine lv_iload_n hx hb dX6_count_34 rfl (lv_at hl 1 rfl) ?_
      exact zIret hC hS () ⟨congrArg nI (by rw [hx1, show k = n by omega]), trivial⟩ hP (vp_nar_int _) dX6_count_35
    · skip
      refine lv_aload_n hx hb dX6_count_12 rfl (lv_at hl 0 rfl) ?_
      refine lv_iload_n hx hb dX6_count_13 rfl (lv_at hl 2 rfl) ?_
      refine zCi (is := [0, 1, 2]) (wf := (fun (uu : Unit) => ([(m0, .inr (6, [.ref gA, .int (nI n), .ref tA, .int (nI w), .int (nI fo), .ref pA, .ref sA, .ref mA, .int ch, .int (nI ma), .ref npA, .ref nsA, .ref nmA, .int nc, .int (nI le), .ref lA, .int (nI dr), .ref dA, .int (nI dn)])), (gA, .inl (cI, 96, .inl (fun jj => nI (g jj)))), (tA, .inl (cI, 24, .inl (fun jj => nI (r jj))))] : va_W))) (va_runV (As := [.int (nI k)]) (rest := []) ⟨hx, hb, hml, hown, hts⟩ (j_starts l D cI cC  m0 gA n tA w fo pA sA mA ma npA nsA nmA le lA dr dA dn ch nc k g r (by omega) hg (by omega) hr3 (by omega) H.size) (cwV 1 hts (zgood mw_549 mw_551 mw_8 mw_32 mw_552) rfl rfl rfl (by decide +kernel) ⟨Nat.le_of_ble_eq_true rfl, Nat.le_of_ble_eq_true rfl⟩) ⟨zBlind zE0_ok, va_recv hK hP (ci := 6) (q0 := 0) rfl rfl, zAt (av := [.ref m0, .int (nI k)]) zE0_ok hP hD hK hS hA trivial [0, 1, 2] rfl (by decide)⟩ rfl rfl hl.1 rfl (lv_room (Nat.le_of_ble_eq_true rfl)) dX6_count_14 ⟨Nat.zero_le _, Nat.zero_le _⟩) hP hD hS hA rfl (fun _ => rfl) (fun r14 u14 H locs w14 hP hD hS => ?_)
      obtain ⟨rfl, w14⟩ := w14
      have hP : va_P D vwCl [(m0, .inr (6, [.ref gA, .int (nI n), .ref tA, .int (nI w), .int (nI fo), .ref pA, .ref sA, .ref mA, .int ch, .int (nI ma), .ref npA, .ref nsA, .ref nmA, .int nc, .int (nI le), .ref lA, .int (nI dr), .ref dA, .int (nI dn)])), (gA, .inl (cI, 96, .inl (fun jj => nI (g jj)))), (tA, .inl (cI, 24, .inl (fun jj => nI (r jj))))] H := hP
      have hD : va_D A [(m0, .inr (6, [.ref gA, .int (nI n), .ref tA, .int (nI w), .int (nI fo), .ref pA, .ref sA, .ref mA, .int ch, .int (nI ma), .ref npA, .ref nsA, .ref nmA, .int nc, .int (nI le), .ref lA, .int (nI dr), .ref dA, .int (nI dn)])), (gA, .inl (cI, 96, .inl (fun jj => nI (g jj)))), (tA, .inl (cI, 24, .inl (fun jj => nI (r jj))))] := hD
      refine zz_eqb (tgt := 26) hx hb dX6_count_17 (by decide) (fun c17 => ?_) (fun c17 => ?_)
      · skip
        refine lv_iload_n hx hb dX6_count_26 rfl (lv_at hl 1 rfl) ?_
        refine lv_istore_n (lv' := [(1, .int (nI x)), (0, .ref m0), (2, .int (nI k))]) hx hb dX6_count_27 rfl hl (by decide) rfl (fun ls hl => ?_)
        refine lv_iinc (v := nI (k + 1)) (lv' := [(2, .int (nI (k + 1))), (1, .int (nI x)), (0, .ref m0)]) hx hb dX6_count_28 hl (k := 2) rfl (zincE (by omega)) (by decide) rfl (fun ls hl => ?_)
        refine lv_goto (tgt := 4) hx hb dX6_count_31 (by decide) ?_
        exact ih (k + 1) x (by omega) (by omega) (by rw [zcnt_f (by simpa using c17)]; omega) _ _ hP hD hS ls (lv_sub hl [2, 1, 0] rfl)
      · skip
        refine lv_iload_n hx hb dX6_count_20 rfl (lv_at hl 1 rfl) ?_
        refine lv_iconst (v := nI 1) hx hb dX6_count_21 (by decide) ?_
        refine lv_iadd hx hb dX6_count_22 ?_
        refine zz_top (y := nI (x + 1)) (zadd (by omega)) ?_
        refine lv_goto (tgt := 27) hx hb dX6_count_23 (by decide) ?_
        refine lv_istore_n (lv' := [(1, .int (nI (x + 1))), (0, .ref m0), (2, .int (nI k))]) hx hb dX6_count_27 rfl hl (by decide) rfl (fun ls hl => ?_)
        refine lv_iinc (v := nI (k + 1)) (lv' := [(2, .int (nI (k + 1))), (1, .int (nI (x + 1))), (0, .ref m0)]) hx hb dX6_count_28 hl (k := 2) rfl (zincE (by omega)) (by decide) rfl (fun ls hl => ?_)
        refine lv_goto (tgt := 4) hx hb dX6_count_31 (by decide) ?_
        exact ih (k + 1) (x + 1) (by omega) (by omega) (by rw [zcnt_t (by simpa using c17)]; omega) _ _ hP hD hS ls (lv_sub hl [2, 1, 0] rfl)
set_option maxHeartbeats 4000000 in
set_option maxRecDepth 100000 in
theorem j_count (l : Launch) (D : va_G) (cI cC : ClassId)  (m0 gA n tA w fo pA sA mA ma npA nsA nmA le lA dr dA dn : Nat) (ch nc : Int32) (g : Nat → Nat) (r : Nat → Nat) (hn : n ≤ 96) (hg : ∀ i, g i ≤ 4) (hw : w ≤ 24) (hr3 : ∀ i, i < w → r i ≤ 3) (sz : Nat) : Met l yX6_count wsX6_count ({ frames := 1, cells := 0, slots := 0, locals := 23 } : Room) (zPre zE0 D vwCl [(cI, .int), (cC, .char)] [.ref m0] [(m0, .inr (6, [.ref gA, .int (nI n), .ref tA, .int (nI w), .int (nI fo), .ref pA, .ref sA, .ref mA, .int ch, .int (nI ma), .ref npA, .ref nsA, .ref nmA, .int nc, .int (nI le), .ref lA, .int (nI dr), .ref dA, .int (nI dn)])), (gA, .inl (cI, 96, .inl (fun jj => nI (g jj)))), (tA, .inl (cI, 24, .inl (fun jj => nI (r jj))))] sz) (va_Qi (fun (rv : Int32) (uu : Unit) => rv = nI (zcnt (fun p => decide (0 < w ∧ p + w ≤ n ∧ zmm g r p w = 0)) n) ∧ True) (fun (uu : Unit) t9 => va_P D vwCl ([(m0, .inr (6, [.ref gA, .int (nI n), .ref tA, .int (nI w), .int (nI fo), .ref pA, .ref sA, .ref mA, .int ch, .int (nI ma), .ref npA, .ref nsA, .ref nmA, .int nc, .int (nI le), .ref lA, .int (nI dr), .ref dA, .int (nI dn)])), (gA, .inl (cI, 96, .inl (fun jj => nI (g jj)))), (tA, .inl (cI, 24, .inl (fun jj => nI (r jj))))]) t9.heap) (va_A [(m0, .inr (6, [.ref gA, .int (nI n), .ref tA, .int (nI w), .int (nI fo), .ref pA, .ref sA, .ref mA, .int ch, .int (nI ma), .ref npA, .ref nsA, .ref nmA, .int nc, .int (nI le), .ref lA, .int (nI dr), .ref dA, .int (nI dn)])), (gA, .inl (cI, 96, .inl (fun jj => nI (g jj)))), (tA, .inl (cI, 24, .inl (fun jj => nI (r jj))))] sz)) 0 0 (va_A [(m0, .inr (6, [.ref gA, .int (nI n), .ref tA, .int (nI w), .int (nI fo), .ref pA, .ref sA, .ref mA, .int ch, .int (nI ma), .ref npA, .ref nsA, .ref nmA, .int nc, .int (nI le), .ref lA, .int (nI dr), .ref dA, .int (nI dn)])), (gA, .inl (cI, 96, .inl (fun jj => nI (g jj)))), (tA, .inl (cI, 24, .inl (fun jj => nI (r jj))))] sz) := by
  refine zMet (cc := cX6_count) (maxL := 3) (ret := (some .int)) (Qc := fun A => (va_Qi (fun (rv : Int32) (uu : Unit) => rv = nI (zcnt (fun p => decide (0 < w ∧ p + w ≤ n ∧ zmm g r p w = 0)) n) ∧ True) (fun (uu : Unit) t9 => va_P D vwCl ([(m0, .inr (6, [.ref gA, .int (nI n), .ref tA, .int (nI w), .int (nI fo), .ref pA, .ref sA, .ref mA, .int ch, .int (nI ma), .ref npA, .ref nsA, .ref nmA, .int nc, .int (nI le), .ref lA, .int (nI dr), .ref dA, .int (nI dn)])), (gA, .inl (cI, 96, .inl (fun jj => nI (g jj)))), (tA, .inl (cI, 24, .inl (fun jj => nI (r jj))))]) t9.heap) A)) (by decide) rfl (Nat.le_of_ble_eq_true rfl) ?_
  intro pr en s0 mi bl me co A hC hA hK hE H locs hP hD hS ls hl
  obtain ⟨hx, hb, hr, hml, hown, hts, hlocks, hin⟩ := id hC
  have hl : lv_has ls 3 [(0, .ref m0)] := hl
  refine lv_iconst (v := nI 0) hx hb dX6_count_0 (by decide) ?_
  refine lv_istore_n (lv' := [(1, .int (nI 0)), (0, .ref m0)]) hx hb dX6_count_1 rfl hl (by decide) rfl (fun ls hl => ?_)
  refine lv_iconst (v := nI 0) hx hb dX6_count_2 (by decide) ?_
  refine lv_istore_n (lv' := [(2, .int (nI 0)), (1, .int (nI 0)), (0, .ref m0)]) hx hb dX6_count_3 rfl hl (by decide) rfl (fun ls hl => ?_)
  exact j_count_L4 l D cI cC  m0 gA n tA w fo pA sA mA ma npA nsA nmA le lA dr dA dn ch nc g r hn hg hw hr3 hC hA hK hE _ 0 0 (Nat.lt_succ_self _) (Nat.zero_le _) rfl _ _ hP hD hS ls (lv_sub hl [2, 1, 0] rfl)
set_option maxHeartbeats 4000000 in
set_option maxRecDepth 100000 in
theorem j_differ_L5 {pr : Program} {en : Env} {s0 : State} {mi : MethodId} {bl : List Frame} {me : Method} {co : Code} {A : Nat → Prop} (l : Launch) (D : va_G) (cI cC : ClassId)  (m0 gA n tA w fo pA sA mA ma npA nsA nmA le lA dr dA dn : Nat) (ch nc : Int32) (p t : Nat) (g : Nat → Nat) (r : Nat → Nat) (hn : n ≤ 96) (hg : ∀ i, g i ≤ 4) (hw : w ≤ 24) (hr3 : ∀ i, i < w → r i ≤ 3) (hp : p + w ≤ n) (ht : t ≤ 1) (hC : zK pr s0 mi ([.ref m0, .int (nI p), .int (nI t)] : List Value).toArray me co cX6_differ 5 (some .int) yX6_differ wsX6_differ) (hA : ∀ q, s0.heap.size ≤ q → A q) (hK : va_K D vwCl [(cI, .int), (cC, .char)] s0) (hE : zE0 A s0 s0.heap) :
    ∀ (N : Nat) (k x : Nat), w - k < N → (k ≤ w) → (x = zmm g (zsy w r t) p k) → ∀ (H : Heap) (locs : List Loc), va_P D vwCl [(m0, .inr (6, [.ref gA, .int (nI n), .ref tA, .int (nI w), .int (nI fo), .ref pA, .ref sA, .ref mA, .int ch, .int (nI ma), .ref npA, .ref nsA, .ref nmA, .int nc, .int (nI le), .ref lA, .int (nI dr), .ref dA, .int (nI dn)])), (gA, .inl (cI, 96, .inl (fun jj => nI (g jj)))), (tA, .inl (cI, 24, .inl (fun jj => nI (r jj))))] H → va_D A [(m0, .inr (6, [.ref gA, .int (nI n), .ref tA, .int (nI w), .int (nI fo), .ref pA, .ref sA, .ref mA, .int ch, .int (nI ma), .ref npA, .ref nsA, .ref nmA, .int nc, .int (nI le), .ref lA, .int (nI dr), .ref dA, .int (nI dn)])), (gA, .inl (cI, 96, .inl (fun jj => nI (g jj)))), (tA, .inl (cI, 24, .inl (fun jj => nI (r jj))))] → va_S A s0.heap H locs → ∀ ls : Array Slot, lv_has ls 5 [(0, .ref m0), (1, .int (nI p)), (2, .int (nI t)), (3, .int (nI x)), (4, .int (nI k))] → W pr l en ({ frames := 1, cells := 0, slots := 0, locals := 22 } : Room) s0 mi ([.ref m0, .int (nI p), .int (nI t)] : List Value).toArray bl me co H locs 0 0 (MQ bl (va_Qi (fun (rv : Int32) (uu : Unit) => rv = nI (zmm g (zsy w r t) p w) ∧ True) (fun (uu : Unit) t9 => va_P D vwCl ([(m0, .inr (6, [.ref gA, .int (nI n), .ref tA, .int (nI w), .int (nI fo), .ref pA, .ref sA, .ref mA, .int ch, .int (nI ma), .ref npA, .ref nsA, .ref nmA, .int nc, .int (nI le), .ref lA, .int (nI dr), .ref dA, .int (nI dn)])), (gA, .inl (cI, 96, .inl (fun jj => nI (g jj)))), (tA, .inl (cI, 24, .inl (fun jj => nI (r jj))))]) t9.heap) A) ([.ref m0, .int (nI p), .int (nI t)] : List Value).toArray s0 0 0 A) (F0 mi 5 ls []) := by
  obtain ⟨hx, hb, hr, hml, hown, hts, hlocks, hin⟩ := id hC
  intro N
  induction N with
  | zero =>
    intro k x hmea
    omega
  | succ N ih =>
    intro k x hmea hk hx1 H locs hP hD hS ls hl
    refine lv_iload hx hb dX6_differ_5 (lv_at hl 4 rfl) ?_
    refine lv_aload_n hx hb dX6_differ_7 rfl (lv_at hl 0 rfl) ?_
    refine va_get (D := D) (ci := 6) (v := .int (nI w)) (C := RX6) (T := TX6) (N := 19) hx hb hts (fun w h => List.mem_cons_of_mem _ (inUX6 w h)) hown hK hP 0 rfl rfl 3 (by decide) (hts _ (List.mem_cons_of_mem _ mw_441)) (fun _ h9 => h9) rfl dX6_differ_8 ?_
    refine zz_ge (tgt := 47) hx hb dX6_differ_11 (by decide) (by omega) (by omega) (fun c11 => ?_) (fun c11 => ?_)
    · skip
      refine lv_iload_n hx hb dX6_differ_47 rfl (lv_at hl 3 rfl) ?_
      exact zIret hC hS () ⟨congrArg nI (by rw [hx1, show k = w by omega]), trivial⟩ hP (vp_nar_int _) dX6_differ_48
    · skip
      refine lv_aload_n hx hb dX6_differ_14 rfl (lv_at hl 0 rfl) ?_
      refine va_get (D := D) (ci := 6) (v := .ref gA) (C := RX6) (T := TX6) (N := 19) hx hb hts (fun w h => List.mem_cons_of_mem _ (inUX6 w h)) hown hK hP 0 rfl rfl 0 (by decide) (hts _ (List.mem_cons_of_mem _ mw_438)) (fun _ h9 => h9) rfl dX6_differ_15 ?_
      refine lv_iload_n hx hb dX6_differ_18 rfl (lv_at hl 1 rfl) ?_
      refine lv_iload hx hb dX6_differ_19 (lv_at hl 4 rfl) ?_
      refine lv_iadd hx hb dX6_differ_21 ?_
      refine zz_top (y := nI (p + k)) (zadd (by omega)) ?_
      refine zz_iald (k := p + k) (f := g) hx hb hK hP 1 0 rfl rfl (by omega) (by omega) dX6_differ_22 ?_
      refine lv_aload_n hx hb dX6_differ_23 rfl (lv_at hl 0 rfl) ?_
      refine lv_iload_n hx hb dX6_differ_24 rfl (lv_at hl 2 rfl) ?_
      refine lv_iload hx hb dX6_differ_25 (lv_at hl 4 rfl) ?_
      refine zCi (is := [0, 2]) (wf := (fun (uu : Unit) => ([(m0, .inr (6, [.ref gA, .int (nI n), .ref tA, .int (nI w), .int (nI fo), .ref pA, .ref sA, .ref mA, .int ch, .int (nI ma), .ref npA, .ref nsA, .ref nmA, .int nc, .int (nI le), .ref lA, .int (nI dr), .ref dA, .int (nI dn)])), (tA, .inl (cI, 24, .inl (fun jj => nI (r jj))))] : va_W))) (va_runV (As := [.int (nI t), .int (nI k)]) (rest := [.int (nI (g (p + k)))]) ⟨hx, hb, hml, hown, hts⟩ (j_symbol l D cI cC  m0 gA n tA w fo pA sA mA ma npA nsA nmA le lA dr dA dn ch nc t k r (by omega) hr3 (by omega) (by omega) H.size) (cwV 2 hts (zgood mw_569 mw_571 mw_11 mw_32 mw_572) rfl rfl rfl (by decide +kernel) ⟨Nat.le_of_ble_eq_true rfl, Nat.le_of_ble_eq_true rfl⟩) ⟨zBlind zE0_ok, va_recv hK hP (ci := 6) (q0 := 0) rfl rfl, zAt (av := [.ref m0, .int (nI t), .int (nI k)]) zE0_ok hP hD hK hS hA trivial [0, 2] rfl (by decide)⟩ rfl rfl hl.1 rfl (lv_room (Nat.le_of_ble_eq_true rfl)) dX6_differ_27 ⟨Nat.zero_le _, Nat.zero_le _⟩) hP hD hS hA rfl (fun _ => rfl) (fun r27 u27 H locs w27 hP hD hS => ?_)
      obtain ⟨rfl, w27⟩ := w27
      have hP : va_P D vwCl [(m0, .inr (6, [.ref gA, .int (nI n), .ref tA, .int (nI w), .int (nI fo), .ref pA, .ref sA, .ref mA, .int ch, .int (nI ma), .ref npA, .ref nsA, .ref nmA, .int nc, .int (nI le), .ref lA, .int (nI dr), .ref dA, .int (nI dn)])), (gA, .inl (cI, 96, .inl (fun jj => nI (g jj)))), (tA, .inl (cI, 24, .inl (fun jj => nI (r jj))))] H := hP
      have hD : va_D A [(m0, .inr (6, [.ref gA, .int (nI n), .ref tA, .int (nI w), .int (nI fo), .ref pA, .ref sA, .ref mA, .int ch, .int (nI ma), .ref npA, .ref nsA, .ref nmA, .int nc, .int (nI le), .ref lA, .int (nI dr), .ref dA, .int (nI dn)])), (gA, .inl (cI, 96, .inl (fun jj => nI (g jj)))), (tA, .inl (cI, 24, .inl (fun jj => nI (r jj))))] := hD
      refine zz_ne (tgt := 37) hx hb dX6_differ_30 (by decide) (by have := hg (p + k); omega) (by have := zsy_le (r := r) (t := t) hr3 (show k < w by omega); omega) (fun c30 => ?_) (fun c30 => ?_)
      · skip
        refine lv_iload_n hx hb dX6_differ_37 rfl (lv_at hl 3 rfl) ?_
        refine lv_iconst (v := nI 1) hx hb dX6_differ_38 (by decide) ?_
        refine lv_iadd hx hb dX6_differ_39 ?_
        refine zz_top (y := nI (x + 1)) (zadd (by omega)) ?_
        refine lv_istore_n (lv' := [(3, .int (nI (x + 1))), (0, .ref m0), (1, .int (nI p)), (2, .int (nI t)), (4, .int (nI k))]) hx hb dX6_differ_40 rfl hl (by decide) rfl (fun ls hl => ?_)
        refine lv_iinc (v := nI (k + 1)) (lv' := [(4, .int (nI (k + 1))), (3, .int (nI (x + 1))), (0, .ref m0), (1, .int (nI p)), (2, .int (nI t))]) hx hb dX6_differ_41 hl (k := 4) rfl (zincE (by omega)) (by decide) rfl (fun ls hl => ?_)
        refine lv_goto (tgt := 5) hx hb dX6_differ_44 (by decide) ?_
        exact ih (k + 1) (x + 1) (by omega) (by omega) (by rw [zmm_t c30]; omega) _ _ hP hD hS ls (lv_sub hl [2, 3, 4, 1, 0] rfl)
      · skip
        refine lv_iload_n hx hb dX6_differ_33 rfl (lv_at hl 3 rfl) ?_
        refine lv_goto (tgt := 40) hx hb dX6_differ_34 (by decide) ?_
        refine lv_istore_n (lv' := [(3, .int (nI x)), (0, .ref m0), (1, .int (nI p)), (2, .int (nI t)), (4, .int (nI k))]) hx hb dX6_differ_40 rfl hl (by decide) rfl (fun ls hl => ?_)
        refine lv_iinc (v := nI (k + 1)) (lv' := [(4, .int (nI (k + 1))), (3, .int (nI x)), (0, .ref m0), (1, .int (nI p)), (2, .int (nI t))]) hx hb dX6_differ_41 hl (k := 4) rfl (zincE (by omega)) (by decide) rfl (fun ls hl => ?_)
        refine lv_goto (tgt := 5) hx hb dX6_differ_44 (by decide) ?_
        exact ih (k + 1) x (by omega) (by omega) (by rw [zmm_f c30]; omega) _ _ hP hD hS ls (lv_sub hl [2, 3, 4, 1, 0] rfl)
set_option maxHeartbeats 4000000 in
set_option maxRecDepth 100000 in
theorem j_differ (l : Launch) (D : va_G) (cI cC : ClassId)  (m0 gA n tA w fo pA sA mA ma npA nsA nmA le lA dr dA dn : Nat) (ch nc : Int32) (p t : Nat) (g : Nat → Nat) (r : Nat → Nat) (hn : n ≤ 96) (hg : ∀ i, g i ≤ 4) (hw : w ≤ 24) (hr3 : ∀ i, i < w → r i ≤ 3) (hp : p + w ≤ n) (ht : t ≤ 1) (sz : Nat) : Met l yX6_differ wsX6_differ ({ frames := 1, cells := 0, slots := 0, locals := 22 } : Room) (zPre zE0 D vwCl [(cI, .int), (cC, .char)] [.ref m0, .int (nI p), .int (nI t)] [(m0, .inr (6, [.ref gA, .int (nI n), .ref tA, .int (nI w), .int (nI fo), .ref pA, .ref sA, .ref mA, .int ch, .int (nI ma), .ref npA, .ref nsA, .ref nmA, .int nc, .int (nI le), .ref lA, .int (nI dr), .ref dA, .int (nI dn)])), (gA, .inl (cI, 96, .inl (fun jj => nI (g jj)))), (tA, .inl (cI, 24, .inl (fun jj => nI (r jj))))] sz) (va_Qi (fun (rv : Int32) (uu : Unit) => rv = nI (zmm g (zsy w r t) p w) ∧ True) (fun (uu : Unit) t9 => va_P D vwCl ([(m0, .inr (6, [.ref gA, .int (nI n), .ref tA, .int (nI w), .int (nI fo), .ref pA, .ref sA, .ref mA, .int ch, .int (nI ma), .ref npA, .ref nsA, .ref nmA, .int nc, .int (nI le), .ref lA, .int (nI dr), .ref dA, .int (nI dn)])), (gA, .inl (cI, 96, .inl (fun jj => nI (g jj)))), (tA, .inl (cI, 24, .inl (fun jj => nI (r jj))))]) t9.heap) (va_A [(m0, .inr (6, [.ref gA, .int (nI n), .ref tA, .int (nI w), .int (nI fo), .ref pA, .ref sA, .ref mA, .int ch, .int (nI ma), .ref npA, .ref nsA, .ref nmA, .int nc, .int (nI le), .ref lA, .int (nI dr), .ref dA, .int (nI dn)])), (gA, .inl (cI, 96, .inl (fun jj => nI (g jj)))), (tA, .inl (cI, 24, .inl (fun jj => nI (r jj))))] sz)) 0 0 (va_A [(m0, .inr (6, [.ref gA, .int (nI n), .ref tA, .int (nI w), .int (nI fo), .ref pA, .ref sA, .ref mA, .int ch, .int (nI ma), .ref npA, .ref nsA, .ref nmA, .int nc, .int (nI le), .ref lA, .int (nI dr), .ref dA, .int (nI dn)])), (gA, .inl (cI, 96, .inl (fun jj => nI (g jj)))), (tA, .inl (cI, 24, .inl (fun jj => nI (r jj))))] sz) := by
  refine zMet (cc := cX6_differ) (maxL := 5) (ret := (some .int)) (Qc := fun A => (va_Qi (fun (rv : Int32) (uu : Unit) => rv = nI (zmm g (zsy w r t) p w) ∧ True) (fun (uu : Unit) t9 => va_P D vwCl ([(m0, .inr (6, [.ref gA, .int (nI n), .ref tA, .int (nI w), .int (nI fo), .ref pA, .ref sA, .ref mA, .int ch, .int (nI ma), .ref npA, .ref nsA, .ref nmA, .int nc, .int (nI le), .ref lA, .int (nI dr), .ref dA, .int (nI dn)])), (gA, .inl (cI, 96, .inl (fun jj => nI (g jj)))), (tA, .inl (cI, 24, .inl (fun jj => nI (r jj))))]) t9.heap) A)) (by decide) rfl (Nat.le_of_ble_eq_true rfl) ?_
  intro pr en s0 mi bl me co A hC hA hK hE H locs hP hD hS ls hl
  obtain ⟨hx, hb, hr, hml, hown, hts, hlocks, hin⟩ := id hC
  have hl : lv_has ls 5 [(0, .ref m0), (1, .int (nI p)), (2, .int (nI t))] := hl
  refine lv_iconst (v := nI 0) hx hb dX6_differ_0 (by decide) ?_
  refine lv_istore_n (lv' := [(3, .int (nI 0)), (0, .ref m0), (1, .int (nI p)), (2, .int (nI t))]) hx hb dX6_differ_1 rfl hl (by decide) rfl (fun ls hl => ?_)
  refine lv_iconst (v := nI 0) hx hb dX6_differ_2 (by decide) ?_
  refine lv_istore (lv' := [(4, .int (nI 0)), (3, .int (nI 0)), (0, .ref m0), (1, .int (nI p)), (2, .int (nI t))]) hx hb dX6_differ_3 hl (by decide) rfl (fun ls hl => ?_)
  exact j_differ_L5 l D cI cC  m0 gA n tA w fo pA sA mA ma npA nsA nmA le lA dr dA dn ch nc p t g r hn hg hw hr3 hp ht hC hA hK hE _ 0 0 (Nat.lt_succ_self _) (Nat.zero_le _) rfl _ _ hP hD hS ls (lv_sub hl [2, 3, 4, 1, 0] rfl)
set_option maxHeartbeats 4000000 in
set_option maxRecDepth 100000 in
theorem j_last (l : Launch) (D : va_G) (cI cC : ClassId)  (m0 gA n tA w fo pA sA mA ma npA nsA nmA le lA dr dA dn : Nat) (ch nc : Int32) (i : Int32) (g : Nat → Nat) (hn : n ≤ 96) (hg : ∀ i, g i ≤ 4) (sz : Nat) : Met l yX6_last wsX6_last ({ frames := 4, cells := 0, slots := 0, locals := 91 } : Room) (zPre zE0 D vwCl [(cI, .int), (cC, .char)] [.ref m0, .int i] [(m0, .inr (6, [.ref gA, .int (nI n), .ref tA, .int (nI w), .int (nI fo), .ref pA, .ref sA, .ref mA, .int ch, .int (nI ma), .ref npA, .ref nsA, .ref nmA, .int nc, .int (nI le), .ref lA, .int (nI dr), .ref dA, .int (nI dn)])), (gA, .inl (cI, 96, .inl (fun jj => nI (g jj))))] sz) (va_Qi (fun (rv : Int32) (uu : Unit) => zlastR n g i rv) (fun (uu : Unit) t9 => va_P D vwCl ([(m0, .inr (6, [.ref gA, .int (nI n), .ref tA, .int (nI w), .int (nI fo), .ref pA, .ref sA, .ref mA, .int ch, .int (nI ma), .ref npA, .ref nsA, .ref nmA, .int nc, .int (nI le), .ref lA, .int (nI dr), .ref dA, .int (nI dn)])), (gA, .inl (cI, 96, .inl (fun jj => nI (g jj))))]) t9.heap) (va_A [(m0, .inr (6, [.ref gA, .int (nI n), .ref tA, .int (nI w), .int (nI fo), .ref pA, .ref sA, .ref mA, .int ch, .int (nI ma), .ref npA, .ref nsA, .ref nmA, .int nc, .int (nI le), .ref lA, .int (nI dr), .ref dA, .int (nI dn)])), (gA, .inl (cI, 96, .inl (fun jj => nI (g jj))))] sz)) 0 0 (va_A [(m0, .inr (6, [.ref gA, .int (nI n), .ref tA, .int (nI w), .int (nI fo), .ref pA, .ref sA, .ref mA, .int ch, .int (nI ma), .ref npA, .ref nsA, .ref nmA, .int nc, .int (nI le), .ref lA, .int (nI dr), .ref dA, .int (nI dn)])), (gA, .inl (cI, 96, .inl (fun jj => nI (g jj))))] sz) := by
  refine zMet (cc := cX6_last) (maxL := 3) (ret := (some .int)) (Qc := fun A => (va_Qi (fun (rv : Int32) (uu : Unit) => zlastR n g i rv) (fun (uu : Unit) t9 => va_P D vwCl ([(m0, .inr (6, [.ref gA, .int (nI n), .ref tA, .int (nI w), .int (nI fo), .ref pA, .ref sA, .ref mA, .int ch, .int (nI ma), .ref npA, .ref nsA, .ref nmA, .int nc, .int (nI le), .ref lA, .int (nI dr), .ref dA, .int (nI dn)])), (gA, .inl (cI, 96, .inl (fun jj => nI (g jj))))]) t9.heap) A)) (by decide) rfl (Nat.le_of_ble_eq_true rfl) ?_
  intro pr en s0 mi bl me co A hC hA hK hE H locs hP hD hS ls hl
  obtain ⟨hx, hb, hr, hml, hown, hts, hlocks, hin⟩ := id hC
  have hl : lv_has ls 3 [(0, .ref m0), (1, .int i)] := hl
  refine lv_aload_n hx hb dX6_last_0 rfl (lv_at hl 0 rfl) ?_
  refine lv_iload_n hx hb dX6_last_1 rfl (lv_at hl 1 rfl) ?_
  refine zCi (is := [0, 1]) (wf := (fun (uu : Unit) => ([(m0, .inr (6, [.ref gA, .int (nI n), .ref tA, .int (nI w), .int (nI fo), .ref pA, .ref sA, .ref mA, .int ch, .int (nI ma), .ref npA, .ref nsA, .ref nmA, .int nc, .int (nI le), .ref lA, .int (nI dr), .ref dA, .int (nI dn)])), (gA, .inl (cI, 96, .inl (fun jj => nI (g jj))))] : va_W))) (va_runV (As := [.int i]) (rest := []) ⟨hx, hb, hml, hown, hts⟩ (j_row l D cI cC  m0 gA n tA w fo pA sA mA ma npA nsA nmA le lA dr dA dn ch nc i g (by omega) hg H.size) (cwV 1 hts (zgood mw_540 mw_521 mw_522 mw_32 mw_523) rfl rfl rfl (by decide +kernel) ⟨Nat.le_of_ble_eq_true rfl, Nat.le_of_ble_eq_true rfl⟩) ⟨zBlind zE0_ok, va_recv hK hP (ci := 6) (q0 := 0) rfl rfl, zAt (av := [.ref m0, .int i]) zE0_ok hP hD hK hS hA trivial [0, 1] rfl (by decide)⟩ rfl rfl hl.1 rfl (lv_room (Nat.le_of_ble_eq_true rfl)) dX6_last_2 ⟨Nat.zero_le _, Nat.zero_le _⟩) hP hD hS hA rfl (fun _ => rfl) (fun r2 u2 H locs w2 hP hD hS => ?_)
  have hP : va_P D vwCl [(m0, .inr (6, [.ref gA, .int (nI n), .ref tA, .int (nI w), .int (nI fo), .ref pA, .ref sA, .ref mA, .int ch, .int (nI ma), .ref npA, .ref nsA, .ref nmA, .int nc, .int (nI le), .ref lA, .int (nI dr), .ref dA, .int (nI dn)])), (gA, .inl (cI, 96, .inl (fun jj => nI (g jj))))] H := hP
  have hD : va_D A [(m0, .inr (6, [.ref gA, .int (nI n), .ref tA, .int (nI w), .int (nI fo), .ref pA, .ref sA, .ref mA, .int ch, .int (nI ma), .ref npA, .ref nsA, .ref nmA, .int nc, .int (nI le), .ref lA, .int (nI dr), .ref dA, .int (nI dn)])), (gA, .inl (cI, 96, .inl (fun jj => nI (g jj))))] := hD
  rcases w2 with ⟨q, h1, h2, rfl⟩ | ⟨h1, rfl⟩
  · skip
    refine lv_istore_n (lv' := [(2, .int (nI q)), (0, .ref m0), (1, .int i)]) hx hb dX6_last_5 rfl hl (by decide) rfl (fun ls hl => ?_)
    refine lv_iload_n hx hb dX6_last_6 rfl (lv_at hl 0 rfl) ?_
    refine zz_ge0 (tgt := 14) hx hb dX6_last_7 (by decide) (by omega) ?_
    refine lv_iload_n hx hb dX6_last_14 rfl (lv_at hl 0 rfl) ?_
    refine zz_ne0 (tgt := 22) hx hb dX6_last_15 (by decide) (by omega) (fun c15 => ?_) (fun c15 => ?_)
    · skip
      refine lv_aload_n hx hb dX6_last_22 rfl (lv_at hl 1 rfl) ?_
      refine va_get (D := D) (ci := 6) (v := .ref gA) (C := RX6) (T := TX6) (N := 19) hx hb hts (fun w h => List.mem_cons_of_mem _ (inUX6 w h)) hown hK hP 0 rfl rfl 0 (by decide) (hts _ (List.mem_cons_of_mem _ mw_438)) (fun _ h9 => h9) rfl dX6_last_23 ?_
      refine lv_iload_n hx hb dX6_last_26 rfl (lv_at hl 0 rfl) ?_
      refine lv_iconst (v := nI 1) hx hb dX6_last_27 (by decide) ?_
      refine lv_isub hx hb dX6_last_28 ?_
      refine zz_top (y := nI (q - 1)) (pk_sub (by omega)) ?_
      refine zz_iald (k := q - 1) (f := g) hx hb hK hP 1 0 rfl rfl (by omega) (by omega) dX6_last_29 ?_
      exact zIret hC hS () (Or.inl ⟨q, h1, h2, congrArg nI (by unfold zsb; first | rw [if_pos c15] | rw [if_neg c15])⟩) hP (vp_nar_int _) dX6_last_30
    · skip
      refine lv_iconst (v := nI 5) hx hb dX6_last_18 (by decide) ?_
      refine lv_goto (tgt := 30) hx hb dX6_last_19 (by decide) ?_
      exact zIret hC hS () (Or.inl ⟨q, h1, h2, congrArg nI (by unfold zsb; first | rw [if_pos c15] | rw [if_neg c15])⟩) hP (vp_nar_int _) dX6_last_30
  · skip
    refine lv_istore_n (lv' := [(2, .int ((-1))), (0, .ref m0), (1, .int i)]) hx hb dX6_last_5 rfl hl (by decide) rfl (fun ls hl => ?_)
    refine lv_iload_n hx hb dX6_last_6 rfl (lv_at hl 0 rfl) ?_
    refine lv_if_ge (tgt := 14) hx hb dX6_last_7 (by decide) (fun c7 => ?_) (fun c7 => ?_)
    · skip
      exact absurd c7 (by decide)
    · skip
      refine lv_iconst (v := (-1)) hx hb dX6_last_10 (by decide) ?_
      refine lv_goto (tgt := 30) hx hb dX6_last_11 (by decide) ?_
      exact zIret hC hS () (Or.inr ⟨h1, rfl⟩) hP (vp_nar_int _) dX6_last_30
set_option maxHeartbeats 4000000 in
set_option maxRecDepth 100000 in
theorem j_rank_L31 {pr : Program} {en : Env} {s0 : State} {mi : MethodId} {bl : List Frame} {me : Method} {co : Code} {A : Nat → Prop} (l : Launch) (D : va_G) (cI cC : ClassId)  (m0 gA n tA w fo pA sA mA ma npA nsA nmA le lA dr dA dn : Nat) (ch nc : Int32) (b i : Nat) (g : Nat → Nat) (hn : n ≤ 96) (hg : ∀ i, g i ≤ 4) (hb5 : b ≤ 5) (hi : i ≤ n + 1) (hC : zK pr s0 mi ([.ref m0, .int (nI b), .int (nI i)] : List Value).toArray me co cX6_rank 6 (some .int) yX6_rank wsX6_rank) (hA : ∀ q, s0.heap.size ≤ q → A q) (hK : va_K D vwCl [(cI, .int), (cC, .char)] s0) (hE : zE0 A s0 s0.heap) :
    ∀ (N : Nat) (k x : Nat), n + 1 - k < N → (k ≤ n + 1) → (x = zcnt (fun p => decide (zsb g p = b) && decide (zbef n g p < i)) k) → ∀ (H : Heap) (locs : List Loc), va_P D vwCl [(m0, .inr (6, [.ref gA, .int (nI n), .ref tA, .int (nI w), .int (nI fo), .ref pA, .ref sA, .ref mA, .int ch, .int (nI ma), .ref npA, .ref nsA, .ref nmA, .int nc, .int (nI le), .ref lA, .int (nI dr), .ref dA, .int (nI dn)])), (gA, .inl (cI, 96, .inl (fun jj => nI (g jj))))] H → va_D A [(m0, .inr (6, [.ref gA, .int (nI n), .ref tA, .int (nI w), .int (nI fo), .ref pA, .ref sA, .ref mA, .int ch, .int (nI ma), .ref npA, .ref nsA, .ref nmA, .int nc, .int (nI le), .ref lA, .int (nI dr), .ref dA, .int (nI dn)])), (gA, .inl (cI, 96, .inl (fun jj => nI (g jj))))] → va_S A s0.heap H locs → ∀ ls : Array Slot, lv_has ls 6 [(0, .ref m0), (1, .int (nI b)), (2, .int (nI i)), (3, .int (nI x)), (4, .int (nI k))] → W pr l en ({ frames := 3, cells := 0, slots := 0, locals := 69 } : Room) s0 mi ([.ref m0, .int (nI b), .int (nI i)] : List Value).toArray bl me co H locs 0 0 (MQ bl (va_Qi (fun (rv : Int32) (uu : Unit) => rv = nI (zcnt (fun p => decide (zsb g p = b) && decide (zbef n g p < i)) (n + 1)) ∧ True) (fun (uu : Unit) t9 => va_P D vwCl ([(m0, .inr (6, [.ref gA, .int (nI n), .ref tA, .int (nI w), .int (nI fo), .ref pA, .ref sA, .ref mA, .int ch, .int (nI ma), .ref npA, .ref nsA, .ref nmA, .int nc, .int (nI le), .ref lA, .int (nI dr), .ref dA, .int (nI dn)])), (gA, .inl (cI, 96, .inl (fun jj => nI (g jj))))]) t9.heap) A) ([.ref m0, .int (nI b), .int (nI i)] : List Value).toArray s0 0 0 A) (F0 mi 31 ls []) := by
  obtain ⟨hx, hb, hr, hml, hown, hts, hlocks, hin⟩ := id hC
  intro N
  induction N with
  | zero =>
    intro k x hmea
    omega
  | succ N ih =>
    intro k x hmea hk hx1 H locs hP hD hS ls hl
    refine lv_iload hx hb dX6_rank_31 (lv_at hl 4 rfl) ?_
    refine lv_aload_n hx hb dX6_rank_33 rfl (lv_at hl 0 rfl) ?_
    refine va_get (D := D) (ci := 6) (v := .int (nI n)) (C := RX6) (T := TX6) (N := 19) hx hb hts (fun w h => List.mem_cons_of_mem _ (inUX6 w h)) hown hK hP 0 rfl rfl 1 (by decide) (hts _ (List.mem_cons_of_mem _ mw_439)) (fun _ h9 => h9) rfl dX6_rank_34 ?_
    refine zz_gt (tgt := 90) hx hb dX6_rank_37 (by decide) (by omega) (by omega) (fun c37 => ?_) (fun c37 => ?_)
    · skip
      refine lv_iload_n hx hb dX6_rank_90 rfl (lv_at hl 3 rfl) ?_
      exact zIret hC hS () ⟨congrArg nI (by rw [hx1, show k = n + 1 by omega]), trivial⟩ hP (vp_nar_int _) dX6_rank_91
    · skip
      refine lv_iload hx hb dX6_rank_40 (lv_at hl 4 rfl) ?_
      refine zz_ne0 (tgt := 49) hx hb dX6_rank_42 (by decide) (by omega) (fun c42 => ?_) (fun c42 => ?_)
      · skip
        refine lv_aload_n hx hb dX6_rank_49 rfl (lv_at hl 0 rfl) ?_
        refine va_get (D := D) (ci := 6) (v := .ref gA) (C := RX6) (T := TX6) (N := 19) hx hb hts (fun w h => List.mem_cons_of_mem _ (inUX6 w h)) hown hK hP 0 rfl rfl 0 (by decide) (hts _ (List.mem_cons_of_mem _ mw_438)) (fun _ h9 => h9) rfl dX6_rank_50 ?_
        refine lv_iload hx hb dX6_rank_53 (lv_at hl 4 rfl) ?_
        refine lv_iconst (v := nI 1) hx hb dX6_rank_55 (by decide) ?_
        refine lv_isub hx hb dX6_rank_56 ?_
        refine zz_top (y := nI (k - 1)) (pk_sub (by omega)) ?_
        refine zz_iald (k := k - 1) (f := g) hx hb hK hP 1 0 rfl rfl (by omega) (by omega) dX6_rank_57 ?_
        have hz : zsb g k = g (k - 1) := by unfold zsb; first | exact if_pos c42 | exact if_neg c42
        have hz2 := zbef_le (n := n) (g := g) (p := k) (by omega)
        have hz3 := hg (k - 1)
        have hz4 := zcnt_le (fun p => decide (zsb g p = b) && decide (zbef n g p < i)) k
        refine lv_istore (lv' := [(5, .int (nI (g (k - 1)))), (0, .ref m0), (1, .int (nI b)), (2, .int (nI i)), (3, .int (nI x)), (4, .int (nI k))]) hx hb dX6_rank_58 hl (by decide) rfl (fun ls hl => ?_)
        refine lv_iload hx hb dX6_rank_60 (lv_at hl 0 rfl) ?_
        refine lv_iload_n hx hb dX6_rank_62 rfl (lv_at hl 2 rfl) ?_
        refine zz_ne (tgt := 82) hx hb dX6_rank_63 (by decide) (by omega) (by omega) (fun c63 => ?_) (fun c63 => ?_)
        · skip
          refine lv_iload_n hx hb dX6_rank_82 rfl (lv_at hl 4 rfl) ?_
          refine lv_istore_n (lv' := [(3, .int (nI x)), (5, .int (nI (g (k - 1)))), (0, .ref m0), (1, .int (nI b)), (2, .int (nI i)), (4, .int (nI k))]) hx hb dX6_rank_83 rfl hl (by decide) rfl (fun ls hl => ?_)
          refine lv_iinc (v := nI (k + 1)) (lv' := [(4, .int (nI (k + 1))), (3, .int (nI x)), (5, .int (nI (g (k - 1)))), (0, .ref m0), (1, .int (nI b)), (2, .int (nI i))]) hx hb dX6_rank_84 hl (k := 5) rfl (zincE (by omega)) (by decide) rfl (fun ls hl => ?_)
          refine lv_goto (tgt := 31) hx hb dX6_rank_87 (by decide) ?_
          exact ih (k + 1) x (by omega) (by omega) (by rw [zcnt_f (by simp only [Bool.and_eq_true, decide_eq_true_eq]; omega)]; omega) _ _ hP hD hS ls (lv_sub hl [3, 4, 5, 1, 0] rfl)
        · skip
          refine lv_aload_n hx hb dX6_rank_66 rfl (lv_at hl 1 rfl) ?_
          refine lv_iload hx hb dX6_rank_67 (lv_at hl 5 rfl) ?_
          refine zCi (is := [0, 1]) (wf := (fun (uu : Unit) => ([(m0, .inr (6, [.ref gA, .int (nI n), .ref tA, .int (nI w), .int (nI fo), .ref pA, .ref sA, .ref mA, .int ch, .int (nI ma), .ref npA, .ref nsA, .ref nmA, .int nc, .int (nI le), .ref lA, .int (nI dr), .ref dA, .int (nI dn)])), (gA, .inl (cI, 96, .inl (fun jj => nI (g jj))))] : va_W))) (va_runV (As := [.int (nI k)]) (rest := []) ⟨hx, hb, hml, hown, hts⟩ (j_before l D cI cC  m0 gA n tA w fo pA sA mA ma npA nsA nmA le lA dr dA dn ch nc k g (by omega) hg (by omega) H.size) (cwV 1 hts (zgood mw_524 mw_526 mw_5 mw_32 mw_527) rfl rfl rfl (by decide +kernel) ⟨Nat.le_of_ble_eq_true rfl, Nat.le_of_ble_eq_true rfl⟩) ⟨zBlind zE0_ok, va_recv hK hP (ci := 6) (q0 := 0) rfl rfl, zAt (av := [.ref m0, .int (nI k)]) zE0_ok hP hD hK hS hA trivial [0, 1] rfl (by decide)⟩ rfl rfl hl.1 rfl (lv_room (Nat.le_of_ble_eq_true rfl)) dX6_rank_69 ⟨Nat.zero_le _, Nat.zero_le _⟩) hP hD hS hA rfl (fun _ => rfl) (fun r69 u69 H locs w69 hP hD hS => ?_)
          obtain ⟨rfl, w69⟩ := w69
          have hP : va_P D vwCl [(m0, .inr (6, [.ref gA, .int (nI n), .ref tA, .int (nI w), .int (nI fo), .ref pA, .ref sA, .ref mA, .int ch, .int (nI ma), .ref npA, .ref nsA, .ref nmA, .int nc, .int (nI le), .ref lA, .int (nI dr), .ref dA, .int (nI dn)])), (gA, .inl (cI, 96, .inl (fun jj => nI (g jj))))] H := hP
          have hD : va_D A [(m0, .inr (6, [.ref gA, .int (nI n), .ref tA, .int (nI w), .int (nI fo), .ref pA, .ref sA, .ref mA, .int ch, .int (nI ma), .ref npA, .ref nsA, .ref nmA, .int nc, .int (nI le), .ref lA, .int (nI dr), .ref dA, .int (nI dn)])), (gA, .inl (cI, 96, .inl (fun jj => nI (g jj))))] := hD
          refine lv_iload_n hx hb dX6_rank_72 rfl (lv_at hl 3 rfl) ?_
          refine zz_ge (tgt := 82) hx hb dX6_rank_73 (by decide) (by omega) (by omega) (fun c73 => ?_) (fun c73 => ?_)
          · skip
            refine lv_iload_n hx hb dX6_rank_82 rfl (lv_at hl 4 rfl) ?_
            refine lv_istore_n (lv' := [(3, .int (nI x)), (5, .int (nI (g (k - 1)))), (0, .ref m0), (1, .int (nI b)), (2, .int (nI i)), (4, .int (nI k))]) hx hb dX6_rank_83 rfl hl (by decide) rfl (fun ls hl => ?_)
            refine lv_iinc (v := nI (k + 1)) (lv' := [(4, .int (nI (k + 1))), (3, .int (nI x)), (5, .int (nI (g (k - 1)))), (0, .ref m0), (1, .int (nI b)), (2, .int (nI i))]) hx hb dX6_rank_84 hl (k := 5) rfl (zincE (by omega)) (by decide) rfl (fun ls hl => ?_)
            refine lv_goto (tgt := 31) hx hb dX6_rank_87 (by decide) ?_
            exact ih (k + 1) x (by omega) (by omega) (by rw [zcnt_f (by simp only [Bool.and_eq_true, decide_eq_true_eq]; omega)]; omega) _ _ hP hD hS ls (lv_sub hl [3, 4, 5, 1, 0] rfl)
          · skip
            refine lv_iload_n hx hb dX6_rank_76 rfl (lv_at hl 4 rfl) ?_
            refine lv_iconst (v := nI 1) hx hb dX6_rank_77 (by decide) ?_
            refine lv_iadd hx hb dX6_rank_78 ?_
            refine zz_top (y := nI (x + 1)) (zadd (by omega)) ?_
            refine lv_goto (tgt := 83) hx hb dX6_rank_79 (by decide) ?_
            refine lv_istore_n (lv' := [(3, .int (nI (x + 1))), (5, .int (nI (g (k - 1)))), (0, .ref m0), (1, .int (nI b)), (2, .int (nI i)), (4, .int (nI k))]) hx hb dX6_rank_83 rfl hl (by decide) rfl (fun ls hl => ?_)
            refine lv_iinc (v := nI (k + 1)) (lv' := [(4, .int (nI (k + 1))), (3, .int (nI (x + 1))), (5, .int (nI (g (k - 1)))), (0, .ref m0), (1, .int (nI b)), (2, .int (nI i))]) hx hb dX6_rank_84 hl (k := 5) rfl (zincE (by omega)) (by decide) rfl (fun ls hl => ?_)
            refine lv_goto (tgt := 31) hx hb dX6_rank_87 (by decide) ?_
            exact ih (k + 1) (x + 1) (by omega) (by omega) (by rw [zcnt_t (by simp only [Bool.and_eq_true, decide_eq_true_eq]; omega)]; omega) _ _ hP hD hS ls (lv_sub hl [3, 4, 5, 1, 0] rfl)
      · skip
        refine lv_iconst (v := nI 5) hx hb dX6_rank_45 (by decide) ?_
        refine lv_goto (tgt := 58) hx hb dX6_rank_46 (by decide) ?_
        have hz : zsb g k = 5 := by unfold zsb; first | exact if_pos c42 | exact if_neg c42
        have hz2 := zbef_le (n := n) (g := g) (p := k) (by omega)
        have hz3 := hg (k - 1)
        have hz4 := zcnt_le (fun p => decide (zsb g p = b) && decide (zbef n g p < i)) k
        refine lv_istore (lv' := [(5, .int (nI 5)), (0, .ref m0), (1, .int (nI b)), (2, .int (nI i)), (3, .int (nI x)), (4, .int (nI k))]) hx hb dX6_rank_58 hl (by decide) rfl (fun ls hl => ?_)
        refine lv_iload hx hb dX6_rank_60 (lv_at hl 0 rfl) ?_
        refine lv_iload_n hx hb dX6_rank_62 rfl (lv_at hl 2 rfl) ?_
        refine zz_ne (tgt := 82) hx hb dX6_rank_63 (by decide) (by omega) (by omega) (fun c63 => ?_) (fun c63 => ?_)
        · skip
          refine lv_iload_n hx hb dX6_rank_82 rfl (lv_at hl 4 rfl) ?_
          refine lv_istore_n (lv' := [(3, .int (nI x)), (5, .int (nI 5)), (0, .ref m0), (1, .int (nI b)), (2, .int (nI i)), (4, .int (nI k))]) hx hb dX6_rank_83 rfl hl (by decide) rfl (fun ls hl => ?_)
          refine lv_iinc (v := nI (k + 1)) (lv' := [(4, .int (nI (k + 1))), (3, .int (nI x)), (5, .int (nI 5)), (0, .ref m0), (1, .int (nI b)), (2, .int (nI i))]) hx hb dX6_rank_84 hl (k := 5) rfl (zincE (by omega)) (by decide) rfl (fun ls hl => ?_)
          refine lv_goto (tgt := 31) hx hb dX6_rank_87 (by decide) ?_
          exact ih (k + 1) x (by omega) (by omega) (by rw [zcnt_f (by simp only [Bool.and_eq_true, decide_eq_true_eq]; omega)]; omega) _ _ hP hD hS ls (lv_sub hl [3, 4, 5, 1, 0] rfl)
        · skip
          refine lv_aload_n hx hb dX6_rank_66 rfl (lv_at hl 1 rfl) ?_
          refine lv_iload hx hb dX6_rank_67 (lv_at hl 5 rfl) ?_
          refine zCi (is := [0, 1]) (wf := (fun (uu : Unit) => ([(m0, .inr (6, [.ref gA, .int (nI n), .ref tA, .int (nI w), .int (nI fo), .ref pA, .ref sA, .ref mA, .int ch, .int (nI ma), .ref npA, .ref nsA, .ref nmA, .int nc, .int (nI le), .ref lA, .int (nI dr), .ref dA, .int (nI dn)])), (gA, .inl (cI, 96, .inl (fun jj => nI (g jj))))] : va_W))) (va_runV (As := [.int (nI k)]) (rest := []) ⟨hx, hb, hml, hown, hts⟩ (j_before l D cI cC  m0 gA n tA w fo pA sA mA ma npA nsA nmA le lA dr dA dn ch nc k g (by omega) hg (by omega) H.size) (cwV 1 hts (zgood mw_524 mw_526 mw_5 mw_32 mw_527) rfl rfl rfl (by decide +kernel) ⟨Nat.le_of_ble_eq_true rfl, Nat.le_of_ble_eq_true rfl⟩) ⟨zBlind zE0_ok, va_recv hK hP (ci := 6) (q0 := 0) rfl rfl, zAt (av := [.ref m0, .int (nI k)]) zE0_ok hP hD hK hS hA trivial [0, 1] rfl (by decide)⟩ rfl rfl hl.1 rfl (lv_room (Nat.le_of_ble_eq_true rfl)) dX6_rank_69 ⟨Nat.zero_le _, Nat.zero_le _⟩) hP hD hS hA rfl (fun _ => rfl) (fun r69 u69 H locs w69 hP hD hS => ?_)
          obtain ⟨rfl, w69⟩ := w69
          have hP : va_P D vwCl [(m0, .inr (6, [.ref gA, .int (nI n), .ref tA, .int (nI w), .int (nI fo), .ref pA, .ref sA, .ref mA, .int ch, .int (nI ma), .ref npA, .ref nsA, .ref nmA, .int nc, .int (nI le), .ref lA, .int (nI dr), .ref dA, .int (nI dn)])), (gA, .inl (cI, 96, .inl (fun jj => nI (g jj))))] H := hP
          have hD : va_D A [(m0, .inr (6, [.ref gA, .int (nI n), .ref tA, .int (nI w), .int (nI fo), .ref pA, .ref sA, .ref mA, .int ch, .int (nI ma), .ref npA, .ref nsA, .ref nmA, .int nc, .int (nI le), .ref lA, .int (nI dr), .ref dA, .int (nI dn)])), (gA, .inl (cI, 96, .inl (fun jj => nI (g jj))))] := hD
          refine lv_iload_n hx hb dX6_rank_72 rfl (lv_at hl 3 rfl) ?_
          refine zz_ge (tgt := 82) hx hb dX6_rank_73 (by decide) (by omega) (by omega) (fun c73 => ?_) (fun c73 => ?_)
          · skip
            refine lv_iload_n hx hb dX6_rank_82 rfl (lv_at hl 4 rfl) ?_
            refine lv_istore_n (lv' := [(3, .int (nI x)), (5, .int (nI 5)), (0, .ref m0), (1, .int (nI b)), (2, .int (nI i)), (4, .int (nI k))]) hx hb dX6_rank_83 rfl hl (by decide) rfl (fun ls hl => ?_)
            refine lv_iinc (v := nI (k + 1)) (lv' := [(4, .int (nI (k + 1))), (3, .int (nI x)), (5, .int (nI 5)), (0, .ref m0), (1, .int (nI b)), (2, .int (nI i))]) hx hb dX6_rank_84 hl (k := 5) rfl (zincE (by omega)) (by decide) rfl (fun ls hl => ?_)
            refine lv_goto (tgt := 31) hx hb dX6_rank_87 (by decide) ?_
            exact ih (k + 1) x (by omega) (by omega) (by rw [zcnt_f (by simp only [Bool.and_eq_true, decide_eq_true_eq]; omega)]; omega) _ _ hP hD hS ls (lv_sub hl [3, 4, 5, 1, 0] rfl)
          · skip
            refine lv_iload_n hx hb dX6_rank_76 rfl (lv_at hl 4 rfl) ?_
            refine lv_iconst (v := nI 1) hx hb dX6_rank_77 (by decide) ?_
            refine lv_iadd hx hb dX6_rank_78 ?_
            refine zz_top (y := nI (x + 1)) (zadd (by omega)) ?_
            refine lv_goto (tgt := 83) hx hb dX6_rank_79 (by decide) ?_
            refine lv_istore_n (lv' := [(3, .int (nI (x + 1))), (5, .int (nI 5)), (0, .ref m0), (1, .int (nI b)), (2, .int (nI i)), (4, .int (nI k))]) hx hb dX6_rank_83 rfl hl (by decide) rfl (fun ls hl => ?_)
            refine lv_iinc (v := nI (k + 1)) (lv' := [(4, .int (nI (k + 1))), (3, .int (nI (x + 1))), (5, .int (nI 5)), (0, .ref m0), (1, .int (nI b)), (2, .int (nI i))]) hx hb dX6_rank_84 hl (k := 5) rfl (zincE (by omega)) (by decide) rfl (fun ls hl => ?_)
            refine lv_goto (tgt := 31) hx hb dX6_rank_87 (by decide) ?_
            exact ih (k + 1) (x + 1) (by omega) (by omega) (by rw [zcnt_t (by simp only [Bool.and_eq_true, decide_eq_true_eq]; omega)]; omega) _ _ hP hD hS ls (lv_sub hl [3, 4, 5, 1, 0] rfl)
set_option maxHeartbeats 4000000 in
set_option maxRecDepth 100000 in
theorem j_rank (l : Launch) (D : va_G) (cI cC : ClassId)  (m0 gA n tA w fo pA sA mA ma npA nsA nmA le lA dr dA dn : Nat) (ch nc : Int32) (b i : Nat) (g : Nat → Nat) (hn : n ≤ 96) (hg : ∀ i, g i ≤ 4) (hb5 : b ≤ 5) (hi : i ≤ n + 1) (sz : Nat) : Met l yX6_rank wsX6_rank ({ frames := 3, cells := 0, slots := 0, locals := 69 } : Room) (zPre zE0 D vwCl [(cI, .int), (cC, .char)] [.ref m0, .int (nI b), .int (nI i)] [(m0, .inr (6, [.ref gA, .int (nI n), .ref tA, .int (nI w), .int (nI fo), .ref pA, .ref sA, .ref mA, .int ch, .int (nI ma), .ref npA, .ref nsA, .ref nmA, .int nc, .int (nI le), .ref lA, .int (nI dr), .ref dA, .int (nI dn)])), (gA, .inl (cI, 96, .inl (fun jj => nI (g jj))))] sz) (va_Qi (fun (rv : Int32) (uu : Unit) => rv = nI (zcnt (fun p => decide (zsb g p = b) && decide (zbef n g p < i)) (n + 1)) ∧ True) (fun (uu : Unit) t9 => va_P D vwCl ([(m0, .inr (6, [.ref gA, .int (nI n), .ref tA, .int (nI w), .int (nI fo), .ref pA, .ref sA, .ref mA, .int ch, .int (nI ma), .ref npA, .ref nsA, .ref nmA, .int nc, .int (nI le), .ref lA, .int (nI dr), .ref dA, .int (nI dn)])), (gA, .inl (cI, 96, .inl (fun jj => nI (g jj))))]) t9.heap) (va_A [(m0, .inr (6, [.ref gA, .int (nI n), .ref tA, .int (nI w), .int (nI fo), .ref pA, .ref sA, .ref mA, .int ch, .int (nI ma), .ref npA, .ref nsA, .ref nmA, .int nc, .int (nI le), .ref lA, .int (nI dr), .ref dA, .int (nI dn)])), (gA, .inl (cI, 96, .inl (fun jj => nI (g jj))))] sz)) 0 0 (va_A [(m0, .inr (6, [.ref gA, .int (nI n), .ref tA, .int (nI w), .int (nI fo), .ref pA, .ref sA, .ref mA, .int ch, .int (nI ma), .ref npA, .ref nsA, .ref nmA, .int nc, .int (nI le), .ref lA, .int (nI dr), .ref dA, .int (nI dn)])), (gA, .inl (cI, 96, .inl (fun jj => nI (g jj))))] sz) := by
  refine zMet (cc := cX6_rank) (maxL := 6) (ret := (some .int)) (Qc := fun A => (va_Qi (fun (rv : Int32) (uu : Unit) => rv = nI (zcnt (fun p => decide (zsb g p = b) && decide (zbef n g p < i)) (n + 1)) ∧ True) (fun (uu : Unit) t9 => va_P D vwCl ([(m0, .inr (6, [.ref gA, .int (nI n), .ref tA, .int (nI w), .int (nI fo), .ref pA, .ref sA, .ref mA, .int ch, .int (nI ma), .ref npA, .ref nsA, .ref nmA, .int nc, .int (nI le), .ref lA, .int (nI dr), .ref dA, .int (nI dn)])), (gA, .inl (cI, 96, .inl (fun jj => nI (g jj))))]) t9.heap) A)) (by decide) rfl (Nat.le_of_ble_eq_true rfl) ?_
  intro pr en s0 mi bl me co A hC hA hK hE H locs hP hD hS ls hl
  obtain ⟨hx, hb, hr, hml, hown, hts, hlocks, hin⟩ := id hC
  have hl : lv_has ls 6 [(0, .ref m0), (1, .int (nI b)), (2, .int (nI i))] := hl
  refine lv_iload_n hx hb dX6_rank_0 rfl (lv_at hl 1 rfl) ?_
  refine zz_lt0 (tgt := 23) hx hb dX6_rank_1 (by decide) (by omega) ?_
  refine lv_iload_n hx hb dX6_rank_4 rfl (lv_at hl 1 rfl) ?_
  refine lv_iconst (v := nI 5) hx hb dX6_rank_5 (by decide) ?_
  refine zz_gt (tgt := 23) hx hb dX6_rank_6 (by decide) (by omega) (by omega) (fun c6 => ?_) (fun c6 => ?_)
  · skip
    exact absurd c6 (by omega)
  · skip
    refine lv_iload_n hx hb dX6_rank_9 rfl (lv_at hl 2 rfl) ?_
    refine zz_lt0 (tgt := 23) hx hb dX6_rank_10 (by decide) (by omega) ?_
    refine lv_iload_n hx hb dX6_rank_13 rfl (lv_at hl 2 rfl) ?_
    refine lv_aload_n hx hb dX6_rank_14 rfl (lv_at hl 0 rfl) ?_
    refine va_get (D := D) (ci := 6) (v := .int (nI n)) (C := RX6) (T := TX6) (N := 19) hx hb hts (fun w h => List.mem_cons_of_mem _ (inUX6 w h)) hown hK hP 0 rfl rfl 1 (by decide) (hts _ (List.mem_cons_of_mem _ mw_439)) (fun _ h9 => h9) rfl dX6_rank_15 ?_
    refine lv_iconst (v := nI 1) hx hb dX6_rank_18 (by decide) ?_
    refine lv_iadd hx hb dX6_rank_19 ?_
    refine zz_top (y := nI (n + 1)) (zadd (by omega)) ?_
    refine zz_le (tgt := 26) hx hb dX6_rank_20 (by decide) (by omega) (by omega) (fun c20 => ?_) (fun c20 => ?_)
    · skip
      refine lv_iconst (v := nI 0) hx hb dX6_rank_26 (by decide) ?_
      refine lv_istore_n (lv' := [(3, .int (nI 0)), (0, .ref m0), (1, .int (nI b)), (2, .int (nI i))]) hx hb dX6_rank_27 rfl hl (by decide) rfl (fun ls hl => ?_)
      refine lv_iconst (v := nI 0) hx hb dX6_rank_28 (by decide) ?_
      refine lv_istore (lv' := [(4, .int (nI 0)), (3, .int (nI 0)), (0, .ref m0), (1, .int (nI b)), (2, .int (nI i))]) hx hb dX6_rank_29 hl (by decide) rfl (fun ls hl => ?_)
      exact j_rank_L31 l D cI cC  m0 gA n tA w fo pA sA mA ma npA nsA nmA le lA dr dA dn ch nc b i g hn hg hb5 hi hC hA hK hE _ 0 0 (Nat.lt_succ_self _) (Nat.zero_le _) rfl _ _ hP hD hS ls (lv_sub hl [2, 3, 4, 1, 0] rfl)
    · skip
      exact absurd c20 (by omega)
set_option maxHeartbeats 4000000 in
set_option maxRecDepth 100000 in
theorem j_rank0 (l : Launch) (D : va_G) (cI cC : ClassId)  (m0 gA n tA w fo pA sA mA ma npA nsA nmA le lA dr dA dn : Nat) (ch nc : Int32) (b i : Int32) (g : Nat → Nat) (hn : n ≤ 96) (hbad : (b < 0 ∨ nI 5 < b) ∨ (i < 0 ∨ nI (n + 1) < i)) (sz : Nat) : Met l yX6_rank wsX6_rank ({ frames := 0, cells := 0, slots := 0, locals := 0 } : Room) (zPre zE0 D vwCl [(cI, .int), (cC, .char)] [.ref m0, .int b, .int i] [(m0, .inr (6, [.ref gA, .int (nI n), .ref tA, .int (nI w), .int (nI fo), .ref pA, .ref sA, .ref mA, .int ch, .int (nI ma), .ref npA, .ref nsA, .ref nmA, .int nc, .int (nI le), .ref lA, .int (nI dr), .ref dA, .int (nI dn)])), (gA, .inl (cI, 96, .inl (fun jj => nI (g jj))))] sz) (va_Qi (fun (rv : Int32) (uu : Unit) => rv = (-2) ∧ True) (fun (uu : Unit) t9 => va_P D vwCl ([(m0, .inr (6, [.ref gA, .int (nI n), .ref tA, .int (nI w), .int (nI fo), .ref pA, .ref sA, .ref mA, .int ch, .int (nI ma), .ref npA, .ref nsA, .ref nmA, .int nc, .int (nI le), .ref lA, .int (nI dr), .ref dA, .int (nI dn)])), (gA, .inl (cI, 96, .inl (fun jj => nI (g jj))))]) t9.heap) (va_A [(m0, .inr (6, [.ref gA, .int (nI n), .ref tA, .int (nI w), .int (nI fo), .ref pA, .ref sA, .ref mA, .int ch, .int (nI ma), .ref npA, .ref nsA, .ref nmA, .int nc, .int (nI le), .ref lA, .int (nI dr), .ref dA, .int (nI dn)])), (gA, .inl (cI, 96, .inl (fun jj => nI (g jj))))] sz)) 0 0 (va_A [(m0, .inr (6, [.ref gA, .int (nI n), .ref tA, .int (nI w), .int (nI fo), .ref pA, .ref sA, .ref mA, .int ch, .int (nI ma), .ref npA, .ref nsA, .ref nmA, .int nc, .int (nI le), .ref lA, .int (nI dr), .ref dA, .int (nI dn)])), (gA, .inl (cI, 96, .inl (fun jj => nI (g jj))))] sz) := by
  refine zMet (cc := cX6_rank) (maxL := 6) (ret := (some .int)) (Qc := fun A => (va_Qi (fun (rv : Int32) (uu : Unit) => rv = (-2) ∧ True) (fun (uu : Unit) t9 => va_P D vwCl ([(m0, .inr (6, [.ref gA, .int (nI n), .ref tA, .int (nI w), .int (nI fo), .ref pA, .ref sA, .ref mA, .int ch, .int (nI ma), .ref npA, .ref nsA, .ref nmA, .int nc, .int (nI le), .ref lA, .int (nI dr), .ref dA, .int (nI dn)])), (gA, .inl (cI, 96, .inl (fun jj => nI (g jj))))]) t9.heap) A)) (by decide) rfl (Nat.le_of_ble_eq_true rfl) ?_
  intro pr en s0 mi bl me co A hC hA hK hE H locs hP hD hS ls hl
  obtain ⟨hx, hb, hr, hml, hown, hts, hlocks, hin⟩ := id hC
  have hl : lv_has ls 6 [(0, .ref m0), (1, .int b), (2, .int i)] := hl
  refine lv_iload_n hx hb dX6_rank_0 rfl (lv_at hl 1 rfl) ?_
  refine lv_if_lt (tgt := 23) hx hb dX6_rank_1 (by decide) (fun c1 => ?_) (fun c1 => ?_)
  · skip
    refine lv_bipush (v := (-2)) hx hb dX6_rank_23 (by decide) ?_
    exact zIret hC hS () ⟨rfl, trivial⟩ hP (vp_nar_int _) dX6_rank_25
  · skip
    refine lv_iload_n hx hb dX6_rank_4 rfl (lv_at hl 1 rfl) ?_
    refine lv_iconst (v := nI 5) hx hb dX6_rank_5 (by decide) ?_
    refine lv_icmp_gt (tgt := 23) hx hb dX6_rank_6 (by decide) (fun c6 => ?_) (fun c6 => ?_)
    · skip
      refine lv_bipush (v := (-2)) hx hb dX6_rank_23 (by decide) ?_
      exact zIret hC hS () ⟨rfl, trivial⟩ hP (vp_nar_int _) dX6_rank_25
    · skip
      refine lv_iload_n hx hb dX6_rank_9 rfl (lv_at hl 2 rfl) ?_
      refine lv_if_lt (tgt := 23) hx hb dX6_rank_10 (by decide) (fun c10 => ?_) (fun c10 => ?_)
      · skip
        refine lv_bipush (v := (-2)) hx hb dX6_rank_23 (by decide) ?_
        exact zIret hC hS () ⟨rfl, trivial⟩ hP (vp_nar_int _) dX6_rank_25
      · skip
        refine lv_iload_n hx hb dX6_rank_13 rfl (lv_at hl 2 rfl) ?_
        refine lv_aload_n hx hb dX6_rank_14 rfl (lv_at hl 0 rfl) ?_
        refine va_get (D := D) (ci := 6) (v := .int (nI n)) (C := RX6) (T := TX6) (N := 19) hx hb hts (fun w h => List.mem_cons_of_mem _ (inUX6 w h)) hown hK hP 0 rfl rfl 1 (by decide) (hts _ (List.mem_cons_of_mem _ mw_439)) (fun _ h9 => h9) rfl dX6_rank_15 ?_
        refine lv_iconst (v := nI 1) hx hb dX6_rank_18 (by decide) ?_
        refine lv_iadd hx hb dX6_rank_19 ?_
        refine zz_top (y := nI (n + 1)) (zadd (by omega)) ?_
        refine lv_icmp_le (tgt := 26) hx hb dX6_rank_20 (by decide) (fun c20 => ?_) (fun c20 => ?_)
        · skip
          exact absurd hbad (fun q => by rcases q with (q | q) | (q | q); exact c1 q; exact c6 q; exact c10 q; exact absurd q (Int32.not_lt.mpr c20))
        · skip
          refine lv_bipush (v := (-2)) hx hb dX6_rank_23 (by decide) ?_
          exact zIret hC hS () ⟨rfl, trivial⟩ hP (vp_nar_int _) dX6_rank_25
end
section
set_option maxHeartbeats 4000000 in
set_option maxRecDepth 100000 in
theorem f_base (l : Launch) (D : va_G) (cI cC : ClassId)  (x0 G S rd td la sp dn : Nat) (ro od so ga n : Nat) (x : Nat) (g : Nat → Nat) (hn : n < 96) (hx4 : x ≤ 4) (sz : Nat) : Met l yX5_base wsX5_base ({ frames := 2, cells := 0, slots := 0, locals := 41 } : Room) (zPre zEn D vwCl [(cI, .int), (cC, .char)] [.ref x0, .int (nI x)] [(x0, .inr (5, [.ref G, .ref S, .ref rd, .ref td, .ref la, .ref sp, .int (nI dn)])), (G, .inr (0, [.ref ga, .int (nI n)])), (ga, .inl (cI, 96, .inl (fun jj => nI (g jj)))), (S, .inr (4, [.ref G, .ref ro, .ref od, .int (nI so)]))] sz) (va_Qi (fun (rv : Int32) (uu : Unit) => rv = nI 1 ∧ True) (fun (uu : Unit) t9 => va_P D vwCl ([(x0, .inr (5, [.ref G, .ref S, .ref rd, .ref td, .ref la, .ref sp, .int (nI dn)])), (G, .inr (0, [.ref ga, .int (nI (n + 1))])), (ga, .inl (cI, 96, .inl (fun jj => nI (zup g n x jj)))), (S, .inr (4, [.ref G, .ref ro, .ref od, .int (nI 0)]))]) t9.heap) (va_A [(x0, .inr (5, [.ref G, .ref S, .ref rd, .ref td, .ref la, .ref sp, .int (nI dn)])), (G, .inr (0, [.ref ga, .int (nI n)])), (ga, .inl (cI, 96, .inl (fun jj => nI (g jj)))), (S, .inr (4, [.ref G, .ref ro, .ref od, .int (nI so)]))] sz)) 0 0 (va_A [(x0, .inr (5, [.ref G, .ref S, .ref rd, .ref td, .ref la, .ref sp, .int (nI dn)])), (G, .inr (0, [.ref ga, .int (nI n)])), (ga, .inl (cI, 96, .inl (fun jj => nI (g jj)))), (S, .inr (4, [.ref G, .ref ro, .ref od, .int (nI so)]))] sz) := by
  refine zMet (cc := cX5_base) (maxL := 2) (ret := (some .boolean)) (Qc := fun A => (va_Qi (fun (rv : Int32) (uu : Unit) => rv = nI 1 ∧ True) (fun (uu : Unit) t9 => va_P D vwCl ([(x0, .inr (5, [.ref G, .ref S, .ref rd, .ref td, .ref la, .ref sp, .int (nI dn)])), (G, .inr (0, [.ref ga, .int (nI (n + 1))])), (ga, .inl (cI, 96, .inl (fun jj => nI (zup g n x jj)))), (S, .inr (4, [.ref G, .ref ro, .ref od, .int (nI 0)]))]) t9.heap) A)) (by decide) rfl (Nat.le_of_ble_eq_true rfl) ?_
  intro pr en s0 mi bl me co A hC hA hK hE H locs hP hD hS ls hl
  obtain ⟨hx, hb, hr, hml, hown, hts, hlocks, hin⟩ := id hC
  have hl : lv_has ls 2 [(0, .ref x0), (1, .int (nI x))] := hl
  refine lv_iload_n hx hb dX5_base_0 rfl (lv_at hl 1 rfl) ?_
  refine zz_lt0 (tgt := 19) hx hb dX5_base_1 (by decide) (by omega) ?_
  refine lv_iload_n hx hb dX5_base_4 rfl (lv_at hl 1 rfl) ?_
  refine lv_iconst (v := nI 4) hx hb dX5_base_5 (by decide) ?_
  refine zz_gt (tgt := 19) hx hb dX5_base_6 (by decide) (by omega) (by omega) (fun c6 => ?_) (fun c6 => ?_)
  · skip
    exact absurd c6 (by omega)
  · skip
    refine lv_aload_n hx hb dX5_base_9 rfl (lv_at hl 0 rfl) ?_
    refine va_get (D := D) (ci := 5) (v := .ref G) (C := RX5) (T := TX5) (N := 7) hx hb hts (fun w h => List.mem_cons_of_mem _ (inUX5 w h)) hown hK hP 0 rfl rfl 0 (by decide) (hts _ (List.mem_cons_of_mem _ mw_154)) (fun _ h9 => h9) rfl dX5_base_10 ?_
    refine zCi (is := [1, 2]) (wf := (fun (uu : Unit) => ([(G, .inr (0, [.ref ga, .int (nI n)])), (ga, .inl (cI, 96, .inl (fun jj => nI (g jj))))] : va_W))) (va_runV (As := []) (rest := []) ⟨hx, hb, hml, hown, hts⟩ (k_isFull l D cI cC  G ga n 96 g (by omega) (by omega) H.size) (cwV 0 hts (zgood mw_180 mw_181 mw_182 mw_27 mw_183) rfl rfl rfl (by decide +kernel) ⟨Nat.le_of_ble_eq_true rfl, Nat.le_of_ble_eq_true rfl⟩) ⟨zBlind zE0_ok, va_recv hK hP (ci := 0) (q0 := 1) rfl rfl, zAt (av := [.ref G]) zE0_ok hP hD hK hS hA trivial [1, 2] rfl (by decide)⟩ rfl rfl hl.1 rfl (lv_room (Nat.le_of_ble_eq_true rfl)) dX5_base_13 ⟨Nat.zero_le _, Nat.zero_le _⟩) hP hD hS hA rfl (fun _ => rfl) (fun r13 u13 H locs w13 hP hD hS => ?_)
    obtain ⟨rfl, w13⟩ := w13
    have hP : va_P D vwCl [(x0, .inr (5, [.ref G, .ref S, .ref rd, .ref td, .ref la, .ref sp, .int (nI dn)])), (G, .inr (0, [.ref ga, .int (nI n)])), (ga, .inl (cI, 96, .inl (fun jj => nI (g jj)))), (S, .inr (4, [.ref G, .ref ro, .ref od, .int (nI so)]))] H := hP
    have hD : va_D A [(x0, .inr (5, [.ref G, .ref S, .ref rd, .ref td, .ref la, .ref sp, .int (nI dn)])), (G, .inr (0, [.ref ga, .int (nI n)])), (ga, .inl (cI, 96, .inl (fun jj => nI (g jj)))), (S, .inr (4, [.ref G, .ref ro, .ref od, .int (nI so)]))] := hD
    refine zz_eqb (tgt := 21) hx hb dX5_base_16 (by decide) (fun c16 => ?_) (fun c16 => ?_)
    · skip
      refine lv_aload_n hx hb dX5_base_21 rfl (lv_at hl 0 rfl) ?_
      refine va_get (D := D) (ci := 5) (v := .ref G) (C := RX5) (T := TX5) (N := 7) hx hb hts (fun w h => List.mem_cons_of_mem _ (inUX5 w h)) hown hK hP 0 rfl rfl 0 (by decide) (hts _ (List.mem_cons_of_mem _ mw_154)) (fun _ h9 => h9) rfl dX5_base_22 ?_
      refine lv_iload_n hx hb dX5_base_25 rfl (lv_at hl 1 rfl) ?_
      refine zCv (is := [1, 2]) (wf := (fun (uu : Unit) => ([(G, .inr (0, [.ref ga, .int (nI (n + 1))])), (ga, .inl (cI, 96, .inl (fun jj => nI (zup g n x jj))))] : va_W))) (va_runV (As := [.int (nI x)]) (rest := []) ⟨hx, hb, hml, hown, hts⟩ (k_append l D cI cC  G ga n 96 x g (by omega) (by omega) H.size) (cwV 1 hts (zgood mw_184 mw_185 mw_186 mw_27 mw_187) rfl rfl rfl (by decide +kernel) ⟨Nat.le_of_ble_eq_true rfl, Nat.le_of_ble_eq_true rfl⟩) ⟨zBlind zE0_ok, va_recv hK hP (ci := 0) (q0 := 1) rfl rfl, zAt (av := [.ref G, .int (nI x)]) zE0_ok hP hD hK hS hA trivial [1, 2] rfl (by decide)⟩ rfl rfl hl.1 rfl (lv_room (Nat.le_of_ble_eq_true rfl)) dX5_base_26 ⟨Nat.zero_le _, Nat.zero_le _⟩) hP hD hS hA rfl (fun _ => rfl) (fun u26 H locs w26 hP hD hS => ?_)
      have hP : va_P D vwCl [(x0, .inr (5, [.ref G, .ref S, .ref rd, .ref td, .ref la, .ref sp, .int (nI dn)])), (G, .inr (0, [.ref ga, .int (nI (n + 1))])), (ga, .inl (cI, 96, .inl (fun jj => nI (zup g n x jj)))), (S, .inr (4, [.ref G, .ref ro, .ref od, .int (nI so)]))] H := hP
      have hD : va_D A [(x0, .inr (5, [.ref G, .ref S, .ref rd, .ref td, .ref la, .ref sp, .int (nI dn)])), (G, .inr (0, [.ref ga, .int (nI (n + 1))])), (ga, .inl (cI, 96, .inl (fun jj => nI (zup g n x jj)))), (S, .inr (4, [.ref G, .ref ro, .ref od, .int (nI so)]))] := hD
      refine lv_aload_n hx hb dX5_base_29 rfl (lv_at hl 0 rfl) ?_
      refine va_get (D := D) (ci := 5) (v := .ref S) (C := RX5) (T := TX5) (N := 7) hx hb hts (fun w h => List.mem_cons_of_mem _ (inUX5 w h)) hown hK hP 0 rfl rfl 1 (by decide) (hts _ (List.mem_cons_of_mem _ mw_155)) (fun _ h9 => h9) rfl dX5_base_30 ?_
      refine zCv (is := [3]) (wf := (fun (uu : Unit) => ([(S, .inr (4, [.ref G, .ref ro, .ref od, .int (nI 0)]))] : va_W))) (va_runV (As := []) (rest := []) ⟨hx, hb, hml, hown, hts⟩ (k_forget l D cI cC  S G ro od so  H.size) (cwV 0 hts (zgood mw_189 mw_190 mw_191 mw_28 mw_192) rfl rfl rfl (by decide +kernel) ⟨Nat.le_of_ble_eq_true rfl, Nat.le_of_ble_eq_true rfl⟩) ⟨zBlind zE0_ok, va_recv hK hP (ci := 4) (q0 := 3) rfl rfl, zAt (av := [.ref S]) zE0_ok hP hD hK hS hA trivial [3] rfl (by decide)⟩ rfl rfl hl.1 rfl (lv_room (Nat.le_of_ble_eq_true rfl)) dX5_base_33 ⟨Nat.zero_le _, Nat.zero_le _⟩) hP hD hS hA rfl (fun _ => rfl) (fun u33 H locs w33 hP hD hS => ?_)
      have hP : va_P D vwCl [(x0, .inr (5, [.ref G, .ref S, .ref rd, .ref td, .ref la, .ref sp, .int (nI dn)])), (G, .inr (0, [.ref ga, .int (nI (n + 1))])), (ga, .inl (cI, 96, .inl (fun jj => nI (zup g n x jj)))), (S, .inr (4, [.ref G, .ref ro, .ref od, .int (nI 0)]))] H := hP
      have hD : va_D A [(x0, .inr (5, [.ref G, .ref S, .ref rd, .ref td, .ref la, .ref sp, .int (nI dn)])), (G, .inr (0, [.ref ga, .int (nI (n + 1))])), (ga, .inl (cI, 96, .inl (fun jj => nI (zup g n x jj)))), (S, .inr (4, [.ref G, .ref ro, .ref od, .int (nI 0)]))] := hD
      refine lv_iconst (v := nI 1) hx hb dX5_base_36 (by decide) ?_
      exact zIret hC hS () ⟨rfl, trivial⟩ hP (by decide) dX5_base_37
    · skip
      exact absurd c16 (by omega)
set_option maxHeartbeats 4000000 in
set_option maxRecDepth 100000 in
theorem f_base0 (l : Launch) (D : va_G) (cI cC : ClassId)  (x0 G S rd td la sp dn : Nat) (ro od so ga n : Nat) (b : Int32) (g : Nat → Nat) (hn : n ≤ 96) (hbad : (b < 0 ∨ nI 4 < b) ∨ n = 96) (sz : Nat) : Met l yX5_base wsX5_base ({ frames := 1, cells := 0, slots := 0, locals := 20 } : Room) (zPre zEn D vwCl [(cI, .int), (cC, .char)] [.ref x0, .int b] [(x0, .inr (5, [.ref G, .ref S, .ref rd, .ref td, .ref la, .ref sp, .int (nI dn)])), (G, .inr (0, [.ref ga, .int (nI n)])), (ga, .inl (cI, 96, .inl (fun jj => nI (g jj))))] sz) (va_Qi (fun (rv : Int32) (uu : Unit) => rv = nI 0 ∧ True) (fun (uu : Unit) t9 => va_P D vwCl ([(x0, .inr (5, [.ref G, .ref S, .ref rd, .ref td, .ref la, .ref sp, .int (nI dn)])), (G, .inr (0, [.ref ga, .int (nI n)])), (ga, .inl (cI, 96, .inl (fun jj => nI (g jj))))]) t9.heap) (va_A [(x0, .inr (5, [.ref G, .ref S, .ref rd, .ref td, .ref la, .ref sp, .int (nI dn)])), (G, .inr (0, [.ref ga, .int (nI n)])), (ga, .inl (cI, 96, .inl (fun jj => nI (g jj))))] sz)) 0 0 (va_A [(x0, .inr (5, [.ref G, .ref S, .ref rd, .ref td, .ref la, .ref sp, .int (nI dn)])), (G, .inr (0, [.ref ga, .int (nI n)])), (ga, .inl (cI, 96, .inl (fun jj => nI (g jj))))] sz) := by
  refine zMet (cc := cX5_base) (maxL := 2) (ret := (some .boolean)) (Qc := fun A => (va_Qi (fun (rv : Int32) (uu : Unit) => rv = nI 0 ∧ True) (fun (uu : Unit) t9 => va_P D vwCl ([(x0, .inr (5, [.ref G, .ref S, .ref rd, .ref td, .ref la, .ref sp, .int (nI dn)])), (G, .inr (0, [.ref ga, .int (nI n)])), (ga, .inl (cI, 96, .inl (fun jj => nI (g jj))))]) t9.heap) A)) (by decide) rfl (Nat.le_of_ble_eq_true rfl) ?_
  intro pr en s0 mi bl me co A hC hA hK hE H locs hP hD hS ls hl
  obtain ⟨hx, hb, hr, hml, hown, hts, hlocks, hin⟩ := id hC
  have hl : lv_has ls 2 [(0, .ref x0), (1, .int b)] := hl
  refine lv_iload_n hx hb dX5_base_0 rfl (lv_at hl 1 rfl) ?_
  refine lv_if_lt (tgt := 19) hx hb dX5_base_1 (by decide) (fun c1 => ?_) (fun c1 => ?_)
  · skip
    refine lv_iconst (v := nI 0) hx hb dX5_base_19 (by decide) ?_
    exact zIret hC hS () ⟨rfl, trivial⟩ hP (by decide) dX5_base_20
  · skip
    refine lv_iload_n hx hb dX5_base_4 rfl (lv_at hl 1 rfl) ?_
    refine lv_iconst (v := nI 4) hx hb dX5_base_5 (by decide) ?_
    refine lv_icmp_gt (tgt := 19) hx hb dX5_base_6 (by decide) (fun c6 => ?_) (fun c6 => ?_)
    · skip
      refine lv_iconst (v := nI 0) hx hb dX5_base_19 (by decide) ?_
      exact zIret hC hS () ⟨rfl, trivial⟩ hP (by decide) dX5_base_20
    · skip
      refine lv_aload_n hx hb dX5_base_9 rfl (lv_at hl 0 rfl) ?_
      refine va_get (D := D) (ci := 5) (v := .ref G) (C := RX5) (T := TX5) (N := 7) hx hb hts (fun w h => List.mem_cons_of_mem _ (inUX5 w h)) hown hK hP 0 rfl rfl 0 (by decide) (hts _ (List.mem_cons_of_mem _ mw_154)) (fun _ h9 => h9) rfl dX5_base_10 ?_
      refine zCi (is := [1, 2]) (wf := (fun (uu : Unit) => ([(G, .inr (0, [.ref ga, .int (nI n)])), (ga, .inl (cI, 96, .inl (fun jj => nI (g jj))))] : va_W))) (va_runV (As := []) (rest := []) ⟨hx, hb, hml, hown, hts⟩ (k_isFull l D cI cC  G ga n 96 g (by omega) (by omega) H.size) (cwV 0 hts (zgood mw_180 mw_181 mw_182 mw_27 mw_183) rfl rfl rfl (by decide +kernel) ⟨Nat.le_of_ble_eq_true rfl, Nat.le_of_ble_eq_true rfl⟩) ⟨zBlind zE0_ok, va_recv hK hP (ci := 0) (q0 := 1) rfl rfl, zAt (av := [.ref G]) zE0_ok hP hD hK hS hA trivial [1, 2] rfl (by decide)⟩ rfl rfl hl.1 rfl (lv_room (Nat.le_of_ble_eq_true rfl)) dX5_base_13 ⟨Nat.zero_le _, Nat.zero_le _⟩) hP hD hS hA rfl (fun _ => rfl) (fun r13 u13 H locs w13 hP hD hS => ?_)
      obtain ⟨rfl, w13⟩ := w13
      have hP : va_P D vwCl [(x0, .inr (5, [.ref G, .ref S, .ref rd, .ref td, .ref la, .ref sp, .int (nI dn)])), (G, .inr (0, [.ref ga, .int (nI n)])), (ga, .inl (cI, 96, .inl (fun jj => nI (g jj))))] H := hP
      have hD : va_D A [(x0, .inr (5, [.ref G, .ref S, .ref rd, .ref td, .ref la, .ref sp, .int (nI dn)])), (G, .inr (0, [.ref ga, .int (nI n)])), (ga, .inl (cI, 96, .inl (fun jj => nI (g jj))))] := hD
      refine zz_eqb (tgt := 21) hx hb dX5_base_16 (by decide) (fun c16 => ?_) (fun c16 => ?_)
      · skip
        exact absurd hbad (fun q => by rcases q with (q | q) | q; exact c1 q; exact c6 q; exact c16 (by omega))
      · skip
        refine lv_iconst (v := nI 0) hx hb dX5_base_19 (by decide) ?_
        exact zIret hC hS () ⟨rfl, trivial⟩ hP (by decide) dX5_base_20
set_option maxHeartbeats 4000000 in
set_option maxRecDepth 100000 in
theorem f_clear (l : Launch) (D : va_G) (cI cC : ClassId)  (x0 G S rd td la sp dn : Nat) (ro od so ga n : Nat)  (sz : Nat) : Met l yX5_clear wsX5_clear ({ frames := 1, cells := 0, slots := 0, locals := 20 } : Room) (zPre zEn D vwCl [(cI, .int), (cC, .char)] [.ref x0] [(x0, .inr (5, [.ref G, .ref S, .ref rd, .ref td, .ref la, .ref sp, .int (nI dn)])), (G, .inr (0, [.ref ga, .int (nI n)])), (S, .inr (4, [.ref G, .ref ro, .ref od, .int (nI so)]))] sz) (va_Qv (fun (uu : Unit) => True) (fun (uu : Unit) t9 => va_P D vwCl ([(x0, .inr (5, [.ref G, .ref S, .ref rd, .ref td, .ref la, .ref sp, .int (nI dn)])), (G, .inr (0, [.ref ga, .int (nI 0)])), (S, .inr (4, [.ref G, .ref ro, .ref od, .int (nI 0)]))]) t9.heap) (va_A [(x0, .inr (5, [.ref G, .ref S, .ref rd, .ref td, .ref la, .ref sp, .int (nI dn)])), (G, .inr (0, [.ref ga, .int (nI n)])), (S, .inr (4, [.ref G, .ref ro, .ref od, .int (nI so)]))] sz)) 0 0 (va_A [(x0, .inr (5, [.ref G, .ref S, .ref rd, .ref td, .ref la, .ref sp, .int (nI dn)])), (G, .inr (0, [.ref ga, .int (nI n)])), (S, .inr (4, [.ref G, .ref ro, .ref od, .int (nI so)]))] sz) := by
  refine zMet (cc := cX5_clear) (maxL := 1) (ret := none) (Qc := fun A => (va_Qv (fun (uu : Unit) => True) (fun (uu : Unit) t9 => va_P D vwCl ([(x0, .inr (5, [.ref G, .ref S, .ref rd, .ref td, .ref la, .ref sp, .int (nI dn)])), (G, .inr (0, [.ref ga, .int (nI 0)])), (S, .inr (4, [.ref G, .ref ro, .ref od, .int (nI 0)]))]) t9.heap) A)) (by decide) rfl (Nat.le_of_ble_eq_true rfl) ?_
  intro pr en s0 mi bl me co A hC hA hK hE H locs hP hD hS ls hl
  obtain ⟨hx, hb, hr, hml, hown, hts, hlocks, hin⟩ := id hC
  have hl : lv_has ls 1 [(0, .ref x0)] := hl
  refine lv_aload_n hx hb dX5_clear_0 rfl (lv_at hl 0 rfl) ?_
  refine va_get (D := D) (ci := 5) (v := .ref G) (C := RX5) (T := TX5) (N := 7) hx hb hts (fun w h => List.mem_cons_of_mem _ (inUX5 w h)) hown hK hP 0 rfl rfl 0 (by decide) (hts _ (List.mem_cons_of_mem _ mw_154)) (fun _ h9 => h9) rfl dX5_clear_1 ?_
  refine zCv (is := [1]) (wf := (fun (uu : Unit) => ([(G, .inr (0, [.ref ga, .int (nI 0)]))] : va_W))) (va_runV (As := []) (rest := []) ⟨hx, hb, hml, hown, hts⟩ (k_empty l D cI cC  G ga n  H.size) (cwV 0 hts (zgood mw_197 mw_198 mw_199 mw_27 mw_200) rfl rfl rfl (by decide +kernel) ⟨Nat.le_of_ble_eq_true rfl, Nat.le_of_ble_eq_true rfl⟩) ⟨zBlind zE0_ok, va_recv hK hP (ci := 0) (q0 := 1) rfl rfl, zAt (av := [.ref G]) zE0_ok hP hD hK hS hA trivial [1] rfl (by decide)⟩ rfl rfl hl.1 rfl (lv_room (Nat.le_of_ble_eq_true rfl)) dX5_clear_4 ⟨Nat.zero_le _, Nat.zero_le _⟩) hP hD hS hA rfl (fun _ => rfl) (fun u4 H locs w4 hP hD hS => ?_)
  have hP : va_P D vwCl [(x0, .inr (5, [.ref G, .ref S, .ref rd, .ref td, .ref la, .ref sp, .int (nI dn)])), (G, .inr (0, [.ref ga, .int (nI 0)])), (S, .inr (4, [.ref G, .ref ro, .ref od, .int (nI so)]))] H := hP
  have hD : va_D A [(x0, .inr (5, [.ref G, .ref S, .ref rd, .ref td, .ref la, .ref sp, .int (nI dn)])), (G, .inr (0, [.ref ga, .int (nI 0)])), (S, .inr (4, [.ref G, .ref ro, .ref od, .int (nI so)]))] := hD
  refine lv_aload_n hx hb dX5_clear_7 rfl (lv_at hl 0 rfl) ?_
  refine va_get (D := D) (ci := 5) (v := .ref S) (C := RX5) (T := TX5) (N := 7) hx hb hts (fun w h => List.mem_cons_of_mem _ (inUX5 w h)) hown hK hP 0 rfl rfl 1 (by decide) (hts _ (List.mem_cons_of_mem _ mw_155)) (fun _ h9 => h9) rfl dX5_clear_8 ?_
  refine zCv (is := [2]) (wf := (fun (uu : Unit) => ([(S, .inr (4, [.ref G, .ref ro, .ref od, .int (nI 0)]))] : va_W))) (va_runV (As := []) (rest := []) ⟨hx, hb, hml, hown, hts⟩ (k_forget l D cI cC  S G ro od so  H.size) (cwV 0 hts (zgood mw_189 mw_190 mw_191 mw_28 mw_192) rfl rfl rfl (by decide +kernel) ⟨Nat.le_of_ble_eq_true rfl, Nat.le_of_ble_eq_true rfl⟩) ⟨zBlind zE0_ok, va_recv hK hP (ci := 4) (q0 := 2) rfl rfl, zAt (av := [.ref S]) zE0_ok hP hD hK hS hA trivial [2] rfl (by decide)⟩ rfl rfl hl.1 rfl (lv_room (Nat.le_of_ble_eq_true rfl)) dX5_clear_11 ⟨Nat.zero_le _, Nat.zero_le _⟩) hP hD hS hA rfl (fun _ => rfl) (fun u11 H locs w11 hP hD hS => ?_)
  have hP : va_P D vwCl [(x0, .inr (5, [.ref G, .ref S, .ref rd, .ref td, .ref la, .ref sp, .int (nI dn)])), (G, .inr (0, [.ref ga, .int (nI 0)])), (S, .inr (4, [.ref G, .ref ro, .ref od, .int (nI 0)]))] H := hP
  have hD : va_D A [(x0, .inr (5, [.ref G, .ref S, .ref rd, .ref td, .ref la, .ref sp, .int (nI dn)])), (G, .inr (0, [.ref ga, .int (nI 0)])), (S, .inr (4, [.ref G, .ref ro, .ref od, .int (nI 0)]))] := hD
  exact zVret hC hS () trivial hP dX5_clear_14
set_option maxHeartbeats 4000000 in
set_option maxRecDepth 100000 in
theorem f_read (l : Launch) (D : va_G) (cI cC : ClassId)  (x0 G S rd td la sp dn : Nat) (ra w : Nat) (x : Nat) (r : Nat → Nat) (hw : w < 24) (hx3 : x ≤ 3) (sz : Nat) : Met l yX5_read wsX5_read ({ frames := 2, cells := 0, slots := 0, locals := 41 } : Room) (zPre zEn D vwCl [(cI, .int), (cC, .char)] [.ref x0, .int (nI x)] [(x0, .inr (5, [.ref G, .ref S, .ref rd, .ref td, .ref la, .ref sp, .int (nI dn)])), (rd, .inr (0, [.ref ra, .int (nI w)])), (ra, .inl (cI, 24, .inl (fun jj => nI (r jj))))] sz) (va_Qi (fun (rv : Int32) (uu : Unit) => rv = nI 1 ∧ True) (fun (uu : Unit) t9 => va_P D vwCl ([(x0, .inr (5, [.ref G, .ref S, .ref rd, .ref td, .ref la, .ref sp, .int (nI dn)])), (rd, .inr (0, [.ref ra, .int (nI (w + 1))])), (ra, .inl (cI, 24, .inl (fun jj => nI (zup r w x jj))))]) t9.heap) (va_A [(x0, .inr (5, [.ref G, .ref S, .ref rd, .ref td, .ref la, .ref sp, .int (nI dn)])), (rd, .inr (0, [.ref ra, .int (nI w)])), (ra, .inl (cI, 24, .inl (fun jj => nI (r jj))))] sz)) 0 0 (va_A [(x0, .inr (5, [.ref G, .ref S, .ref rd, .ref td, .ref la, .ref sp, .int (nI dn)])), (rd, .inr (0, [.ref ra, .int (nI w)])), (ra, .inl (cI, 24, .inl (fun jj => nI (r jj))))] sz) := by
  refine zMet (cc := cX5_read) (maxL := 2) (ret := (some .boolean)) (Qc := fun A => (va_Qi (fun (rv : Int32) (uu : Unit) => rv = nI 1 ∧ True) (fun (uu : Unit) t9 => va_P D vwCl ([(x0, .inr (5, [.ref G, .ref S, .ref rd, .ref td, .ref la, .ref sp, .int (nI dn)])), (rd, .inr (0, [.ref ra, .int (nI (w + 1))])), (ra, .inl (cI, 24, .inl (fun jj => nI (zup r w x jj))))]) t9.heap) A)) (by decide) rfl (Nat.le_of_ble_eq_true rfl) ?_
  intro pr en s0 mi bl me co A hC hA hK hE H locs hP hD hS ls hl
  obtain ⟨hx, hb, hr, hml, hown, hts, hlocks, hin⟩ := id hC
  have hl : lv_has ls 2 [(0, .ref x0), (1, .int (nI x))] := hl
  refine lv_iload_n hx hb dX5_read_0 rfl (lv_at hl 1 rfl) ?_
  refine zz_lt0 (tgt := 19) hx hb dX5_read_1 (by decide) (by omega) ?_
  refine lv_iload_n hx hb dX5_read_4 rfl (lv_at hl 1 rfl) ?_
  refine lv_iconst (v := nI 3) hx hb dX5_read_5 (by decide) ?_
  refine zz_gt (tgt := 19) hx hb dX5_read_6 (by decide) (by omega) (by omega) (fun c6 => ?_) (fun c6 => ?_)
  · skip
    exact absurd c6 (by omega)
  · skip
    refine lv_aload_n hx hb dX5_read_9 rfl (lv_at hl 0 rfl) ?_
    refine va_get (D := D) (ci := 5) (v := .ref rd) (C := RX5) (T := TX5) (N := 7) hx hb hts (fun w h => List.mem_cons_of_mem _ (inUX5 w h)) hown hK hP 0 rfl rfl 2 (by decide) (hts _ (List.mem_cons_of_mem _ mw_156)) (fun _ h9 => h9) rfl dX5_read_10 ?_
    refine zCi (is := [1, 2]) (wf := (fun (uu : Unit) => ([(rd, .inr (0, [.ref ra, .int (nI w)])), (ra, .inl (cI, 24, .inl (fun jj => nI (r jj))))] : va_W))) (va_runV (As := []) (rest := []) ⟨hx, hb, hml, hown, hts⟩ (k_isFull l D cI cC  rd ra w 24 r (by omega) (by omega) H.size) (cwV 0 hts (zgood mw_180 mw_181 mw_182 mw_27 mw_183) rfl rfl rfl (by decide +kernel) ⟨Nat.le_of_ble_eq_true rfl, Nat.le_of_ble_eq_true rfl⟩) ⟨zBlind zE0_ok, va_recv hK hP (ci := 0) (q0 := 1) rfl rfl, zAt (av := [.ref rd]) zE0_ok hP hD hK hS hA trivial [1, 2] rfl (by decide)⟩ rfl rfl hl.1 rfl (lv_room (Nat.le_of_ble_eq_true rfl)) dX5_read_13 ⟨Nat.zero_le _, Nat.zero_le _⟩) hP hD hS hA rfl (fun _ => rfl) (fun r13 u13 H locs w13 hP hD hS => ?_)
    obtain ⟨rfl, w13⟩ := w13
    have hP : va_P D vwCl [(x0, .inr (5, [.ref G, .ref S, .ref rd, .ref td, .ref la, .ref sp, .int (nI dn)])), (rd, .inr (0, [.ref ra, .int (nI w)])), (ra, .inl (cI, 24, .inl (fun jj => nI (r jj))))] H := hP
    have hD : va_D A [(x0, .inr (5, [.ref G, .ref S, .ref rd, .ref td, .ref la, .ref sp, .int (nI dn)])), (rd, .inr (0, [.ref ra, .int (nI w)])), (ra, .inl (cI, 24, .inl (fun jj => nI (r jj))))] := hD
    refine zz_eqb (tgt := 21) hx hb dX5_read_16 (by decide) (fun c16 => ?_) (fun c16 => ?_)
    · skip
      refine lv_aload_n hx hb dX5_read_21 rfl (lv_at hl 0 rfl) ?_
      refine va_get (D := D) (ci := 5) (v := .ref rd) (C := RX5) (T := TX5) (N := 7) hx hb hts (fun w h => List.mem_cons_of_mem _ (inUX5 w h)) hown hK hP 0 rfl rfl 2 (by decide) (hts _ (List.mem_cons_of_mem _ mw_156)) (fun _ h9 => h9) rfl dX5_read_22 ?_
      refine lv_iload_n hx hb dX5_read_25 rfl (lv_at hl 1 rfl) ?_
      refine zCv (is := [1, 2]) (wf := (fun (uu : Unit) => ([(rd, .inr (0, [.ref ra, .int (nI (w + 1))])), (ra, .inl (cI, 24, .inl (fun jj => nI (zup r w x jj))))] : va_W))) (va_runV (As := [.int (nI x)]) (rest := []) ⟨hx, hb, hml, hown, hts⟩ (k_append l D cI cC  rd ra w 24 x r (by omega) (by omega) H.size) (cwV 1 hts (zgood mw_184 mw_185 mw_186 mw_27 mw_187) rfl rfl rfl (by decide +kernel) ⟨Nat.le_of_ble_eq_true rfl, Nat.le_of_ble_eq_true rfl⟩) ⟨zBlind zE0_ok, va_recv hK hP (ci := 0) (q0 := 1) rfl rfl, zAt (av := [.ref rd, .int (nI x)]) zE0_ok hP hD hK hS hA trivial [1, 2] rfl (by decide)⟩ rfl rfl hl.1 rfl (lv_room (Nat.le_of_ble_eq_true rfl)) dX5_read_26 ⟨Nat.zero_le _, Nat.zero_le _⟩) hP hD hS hA rfl (fun _ => rfl) (fun u26 H locs w26 hP hD hS => ?_)
      have hP : va_P D vwCl [(x0, .inr (5, [.ref G, .ref S, .ref rd, .ref td, .ref la, .ref sp, .int (nI dn)])), (rd, .inr (0, [.ref ra, .int (nI (w + 1))])), (ra, .inl (cI, 24, .inl (fun jj => nI (zup r w x jj))))] H := hP
      have hD : va_D A [(x0, .inr (5, [.ref G, .ref S, .ref rd, .ref td, .ref la, .ref sp, .int (nI dn)])), (rd, .inr (0, [.ref ra, .int (nI (w + 1))])), (ra, .inl (cI, 24, .inl (fun jj => nI (zup r w x jj))))] := hD
      refine lv_iconst (v := nI 1) hx hb dX5_read_29 (by decide) ?_
      exact zIret hC hS () ⟨rfl, trivial⟩ hP (by decide) dX5_read_30
    · skip
      exact absurd c16 (by omega)
set_option maxHeartbeats 4000000 in
set_option maxRecDepth 100000 in
theorem f_read0 (l : Launch) (D : va_G) (cI cC : ClassId)  (x0 G S rd td la sp dn : Nat) (ra w : Nat) (b : Int32) (r : Nat → Nat) (hw : w ≤ 24) (hbad : (b < 0 ∨ nI 3 < b) ∨ w = 24) (sz : Nat) : Met l yX5_read wsX5_read ({ frames := 1, cells := 0, slots := 0, locals := 20 } : Room) (zPre zEn D vwCl [(cI, .int), (cC, .char)] [.ref x0, .int b] [(x0, .inr (5, [.ref G, .ref S, .ref rd, .ref td, .ref la, .ref sp, .int (nI dn)])), (rd, .inr (0, [.ref ra, .int (nI w)])), (ra, .inl (cI, 24, .inl (fun jj => nI (r jj))))] sz) (va_Qi (fun (rv : Int32) (uu : Unit) => rv = nI 0 ∧ True) (fun (uu : Unit) t9 => va_P D vwCl ([(x0, .inr (5, [.ref G, .ref S, .ref rd, .ref td, .ref la, .ref sp, .int (nI dn)])), (rd, .inr (0, [.ref ra, .int (nI w)])), (ra, .inl (cI, 24, .inl (fun jj => nI (r jj))))]) t9.heap) (va_A [(x0, .inr (5, [.ref G, .ref S, .ref rd, .ref td, .ref la, .ref sp, .int (nI dn)])), (rd, .inr (0, [.ref ra, .int (nI w)])), (ra, .inl (cI, 24, .inl (fun jj => nI (r jj))))] sz)) 0 0 (va_A [(x0, .inr (5, [.ref G, .ref S, .ref rd, .ref td, .ref la, .ref sp, .int (nI dn)])), (rd, .inr (0, [.ref ra, .int (nI w)])), (ra, .inl (cI, 24, .inl (fun jj => nI (r jj))))] sz) := by
  refine zMet (cc := cX5_read) (maxL := 2) (ret := (some .boolean)) (Qc := fun A => (va_Qi (fun (rv : Int32) (uu : Unit) => rv = nI 0 ∧ True) (fun (uu : Unit) t9 => va_P D vwCl ([(x0, .inr (5, [.ref G, .ref S, .ref rd, .ref td, .ref la, .ref sp, .int (nI dn)])), (rd, .inr (0, [.ref ra, .int (nI w)])), (ra, .inl (cI, 24, .inl (fun jj => nI (r jj))))]) t9.heap) A)) (by decide) rfl (Nat.le_of_ble_eq_true rfl) ?_
  intro pr en s0 mi bl me co A hC hA hK hE H locs hP hD hS ls hl
  obtain ⟨hx, hb, hr, hml, hown, hts, hlocks, hin⟩ := id hC
  have hl : lv_has ls 2 [(0, .ref x0), (1, .int b)] := hl
  refine lv_iload_n hx hb dX5_read_0 rfl (lv_at hl 1 rfl) ?_
  refine lv_if_lt (tgt := 19) hx hb dX5_read_1 (by decide) (fun c1 => ?_) (fun c1 => ?_)
  · skip
    refine lv_iconst (v := nI 0) hx hb dX5_read_19 (by decide) ?_
    exact zIret hC hS () ⟨rfl, trivial⟩ hP (by decide) dX5_read_20
  · skip
    refine lv_iload_n hx hb dX5_read_4 rfl (lv_at hl 1 rfl) ?_
    refine lv_iconst (v := nI 3) hx hb dX5_read_5 (by decide) ?_
    refine lv_icmp_gt (tgt := 19) hx hb dX5_read_6 (by decide) (fun c6 => ?_) (fun c6 => ?_)
    · skip
      refine lv_iconst (v := nI 0) hx hb dX5_read_19 (by decide) ?_
      exact zIret hC hS () ⟨rfl, trivial⟩ hP (by decide) dX5_read_20
    · skip
      refine lv_aload_n hx hb dX5_read_9 rfl (lv_at hl 0 rfl) ?_
      refine va_get (D := D) (ci := 5) (v := .ref rd) (C := RX5) (T := TX5) (N := 7) hx hb hts (fun w h => List.mem_cons_of_mem _ (inUX5 w h)) hown hK hP 0 rfl rfl 2 (by decide) (hts _ (List.mem_cons_of_mem _ mw_156)) (fun _ h9 => h9) rfl dX5_read_10 ?_
      refine zCi (is := [1, 2]) (wf := (fun (uu : Unit) => ([(rd, .inr (0, [.ref ra, .int (nI w)])), (ra, .inl (cI, 24, .inl (fun jj => nI (r jj))))] : va_W))) (va_runV (As := []) (rest := []) ⟨hx, hb, hml, hown, hts⟩ (k_isFull l D cI cC  rd ra w 24 r (by omega) (by omega) H.size) (cwV 0 hts (zgood mw_180 mw_181 mw_182 mw_27 mw_183) rfl rfl rfl (by decide +kernel) ⟨Nat.le_of_ble_eq_true rfl, Nat.le_of_ble_eq_true rfl⟩) ⟨zBlind zE0_ok, va_recv hK hP (ci := 0) (q0 := 1) rfl rfl, zAt (av := [.ref rd]) zE0_ok hP hD hK hS hA trivial [1, 2] rfl (by decide)⟩ rfl rfl hl.1 rfl (lv_room (Nat.le_of_ble_eq_true rfl)) dX5_read_13 ⟨Nat.zero_le _, Nat.zero_le _⟩) hP hD hS hA rfl (fun _ => rfl) (fun r13 u13 H locs w13 hP hD hS => ?_)
      obtain ⟨rfl, w13⟩ := w13
      have hP : va_P D vwCl [(x0, .inr (5, [.ref G, .ref S, .ref rd, .ref td, .ref la, .ref sp, .int (nI dn)])), (rd, .inr (0, [.ref ra, .int (nI w)])), (ra, .inl (cI, 24, .inl (fun jj => nI (r jj))))] H := hP
      have hD : va_D A [(x0, .inr (5, [.ref G, .ref S, .ref rd, .ref td, .ref la, .ref sp, .int (nI dn)])), (rd, .inr (0, [.ref ra, .int (nI w)])), (ra, .inl (cI, 24, .inl (fun jj => nI (r jj))))] := hD
      refine zz_eqb (tgt := 21) hx hb dX5_read_16 (by decide) (fun c16 => ?_) (fun c16 => ?_)
      · skip
        exact absurd hbad (fun q => by rcases q with (q | q) | q; exact c1 q; exact c6 q; exact c16 (by omega))
      · skip
        refine lv_iconst (v := nI 0) hx hb dX5_read_19 (by decide) ?_
        exact zIret hC hS () ⟨rfl, trivial⟩ hP (by decide) dX5_read_20
set_option maxHeartbeats 4000000 in
set_option maxRecDepth 100000 in
theorem f_wipe (l : Launch) (D : va_G) (cI cC : ClassId)  (x0 G S rd td la sp dn : Nat) (ra w : Nat)  (sz : Nat) : Met l yX5_wipe wsX5_wipe ({ frames := 1, cells := 0, slots := 0, locals := 20 } : Room) (zPre zEn D vwCl [(cI, .int), (cC, .char)] [.ref x0] [(x0, .inr (5, [.ref G, .ref S, .ref rd, .ref td, .ref la, .ref sp, .int (nI dn)])), (rd, .inr (0, [.ref ra, .int (nI w)]))] sz) (va_Qv (fun (uu : Unit) => True) (fun (uu : Unit) t9 => va_P D vwCl ([(x0, .inr (5, [.ref G, .ref S, .ref rd, .ref td, .ref la, .ref sp, .int (nI dn)])), (rd, .inr (0, [.ref ra, .int (nI 0)]))]) t9.heap) (va_A [(x0, .inr (5, [.ref G, .ref S, .ref rd, .ref td, .ref la, .ref sp, .int (nI dn)])), (rd, .inr (0, [.ref ra, .int (nI w)]))] sz)) 0 0 (va_A [(x0, .inr (5, [.ref G, .ref S, .ref rd, .ref td, .ref la, .ref sp, .int (nI dn)])), (rd, .inr (0, [.ref ra, .int (nI w)]))] sz) := by
  refine zMet (cc := cX5_wipe) (maxL := 1) (ret := none) (Qc := fun A => (va_Qv (fun (uu : Unit) => True) (fun (uu : Unit) t9 => va_P D vwCl ([(x0, .inr (5, [.ref G, .ref S, .ref rd, .ref td, .ref la, .ref sp, .int (nI dn)])), (rd, .inr (0, [.ref ra, .int (nI 0)]))]) t9.heap) A)) (by decide) rfl (Nat.le_of_ble_eq_true rfl) ?_
  intro pr en s0 mi bl me co A hC hA hK hE H locs hP hD hS ls hl
  obtain ⟨hx, hb, hr, hml, hown, hts, hlocks, hin⟩ := id hC
  have hl : lv_has ls 1 [(0, .ref x0)] := hl
  refine lv_aload_n hx hb dX5_wipe_0 rfl (lv_at hl 0 rfl) ?_
  refine va_get (D := D) (ci := 5) (v := .ref rd) (C := RX5) (T := TX5) (N := 7) hx hb hts (fun w h => List.mem_cons_of_mem _ (inUX5 w h)) hown hK hP 0 rfl rfl 2 (by decide) (hts _ (List.mem_cons_of_mem _ mw_156)) (fun _ h9 => h9) rfl dX5_wipe_1 ?_
  refine zCv (is := [1]) (wf := (fun (uu : Unit) => ([(rd, .inr (0, [.ref ra, .int (nI 0)]))] : va_W))) (va_runV (As := []) (rest := []) ⟨hx, hb, hml, hown, hts⟩ (k_empty l D cI cC  rd ra w  H.size) (cwV 0 hts (zgood mw_197 mw_198 mw_199 mw_27 mw_200) rfl rfl rfl (by decide +kernel) ⟨Nat.le_of_ble_eq_true rfl, Nat.le_of_ble_eq_true rfl⟩) ⟨zBlind zE0_ok, va_recv hK hP (ci := 0) (q0 := 1) rfl rfl, zAt (av := [.ref rd]) zE0_ok hP hD hK hS hA trivial [1] rfl (by decide)⟩ rfl rfl hl.1 rfl (lv_room (Nat.le_of_ble_eq_true rfl)) dX5_wipe_4 ⟨Nat.zero_le _, Nat.zero_le _⟩) hP hD hS hA rfl (fun _ => rfl) (fun u4 H locs w4 hP hD hS => ?_)
  have hP : va_P D vwCl [(x0, .inr (5, [.ref G, .ref S, .ref rd, .ref td, .ref la, .ref sp, .int (nI dn)])), (rd, .inr (0, [.ref ra, .int (nI 0)]))] H := hP
  have hD : va_D A [(x0, .inr (5, [.ref G, .ref S, .ref rd, .ref td, .ref la, .ref sp, .int (nI dn)])), (rd, .inr (0, [.ref ra, .int (nI 0)]))] := hD
  exact zVret hC hS () trivial hP dX5_wipe_7
set_option maxHeartbeats 4000000 in
set_option maxRecDepth 100000 in
theorem f_turn (l : Launch) (D : va_G) (cI cC : ClassId)  (x0 G S rd td la sp dn : Nat) (ra w : Nat) (ta tw : Nat) (t0 : Nat → Nat) (r : Nat → Nat) (hw : w ≤ 24) (hr3 : ∀ i, i < w → r i ≤ 3) (sz : Nat) : Met l yX5_turn wsX5_turn ({ frames := 3, cells := 0, slots := 0, locals := 63 } : Room) (zPre zEn D vwCl [(cI, .int), (cC, .char)] [.ref x0] [(x0, .inr (5, [.ref G, .ref S, .ref rd, .ref td, .ref la, .ref sp, .int (nI dn)])), (rd, .inr (0, [.ref ra, .int (nI w)])), (ra, .inl (cI, 24, .inl (fun jj => nI (r jj)))), (td, .inr (0, [.ref ta, .int (nI tw)])), (ta, .inl (cI, 24, .inl (fun jj => nI (t0 jj))))] sz) (va_Qv (fun (uu : Nat → Nat) => ∀ i, i < w → uu i = 3 - r (w - 1 - i)) (fun (uu : Nat → Nat) t9 => va_P D vwCl ([(x0, .inr (5, [.ref G, .ref S, .ref td, .ref rd, .ref la, .ref sp, .int (nI dn)])), (rd, .inr (0, [.ref ra, .int (nI w)])), (ra, .inl (cI, 24, .inl (fun jj => nI (r jj)))), (td, .inr (0, [.ref ta, .int (nI w)])), (ta, .inl (cI, 24, .inl (fun jj => nI (uu jj))))]) t9.heap) (va_A [(x0, .inr (5, [.ref G, .ref S, .ref rd, .ref td, .ref la, .ref sp, .int (nI dn)])), (rd, .inr (0, [.ref ra, .int (nI w)])), (ra, .inl (cI, 24, .inl (fun jj => nI (r jj)))), (td, .inr (0, [.ref ta, .int (nI tw)])), (ta, .inl (cI, 24, .inl (fun jj => nI (t0 jj))))] sz)) 0 0 (va_A [(x0, .inr (5, [.ref G, .ref S, .ref rd, .ref td, .ref la, .ref sp, .int (nI dn)])), (rd, .inr (0, [.ref ra, .int (nI w)])), (ra, .inl (cI, 24, .inl (fun jj => nI (r jj)))), (td, .inr (0, [.ref ta, .int (nI tw)])), (ta, .inl (cI, 24, .inl (fun jj => nI (t0 jj))))] sz) := by
  refine zMet (cc := cX5_turn) (maxL := 2) (ret := none) (Qc := fun A => (va_Qv (fun (uu : Nat → Nat) => ∀ i, i < w → uu i = 3 - r (w - 1 - i)) (fun (uu : Nat → Nat) t9 => va_P D vwCl ([(x0, .inr (5, [.ref G, .ref S, .ref td, .ref rd, .ref la, .ref sp, .int (nI dn)])), (rd, .inr (0, [.ref ra, .int (nI w)])), (ra, .inl (cI, 24, .inl (fun jj => nI (r jj)))), (td, .inr (0, [.ref ta, .int (nI w)])), (ta, .inl (cI, 24, .inl (fun jj => nI (uu jj))))]) t9.heap) A)) (by decide) rfl (Nat.le_of_ble_eq_true rfl) ?_
  intro pr en s0 mi bl me co A hC hA hK hE H locs hP hD hS ls hl
  obtain ⟨hx, hb, hr, hml, hown, hts, hlocks, hin⟩ := id hC
  have hl : lv_has ls 2 [(0, .ref x0)] := hl
  refine lv_aload_n hx hb dX5_turn_0 rfl (lv_at hl 0 rfl) ?_
  refine va_get (D := D) (ci := 5) (v := .ref td) (C := RX5) (T := TX5) (N := 7) hx hb hts (fun w h => List.mem_cons_of_mem _ (inUX5 w h)) hown hK hP 0 rfl rfl 3 (by decide) (hts _ (List.mem_cons_of_mem _ mw_157)) (fun _ h9 => h9) rfl dX5_turn_1 ?_
  refine lv_aload_n hx hb dX5_turn_4 rfl (lv_at hl 0 rfl) ?_
  refine va_get (D := D) (ci := 5) (v := .ref rd) (C := RX5) (T := TX5) (N := 7) hx hb hts (fun w h => List.mem_cons_of_mem _ (inUX5 w h)) hown hK hP 0 rfl rfl 2 (by decide) (hts _ (List.mem_cons_of_mem _ mw_156)) (fun _ h9 => h9) rfl dX5_turn_5 ?_
  refine zCv (is := [3, 4, 1, 2]) (wf := (fun (uu : Nat → Nat) => ([(td, .inr (0, [.ref ta, .int (nI w)])), (ta, .inl (cI, 24, .inl (fun jj => nI (uu jj)))), (rd, .inr (0, [.ref ra, .int (nI w)])), (ra, .inl (cI, 24, .inl (fun jj => nI (r jj))))] : va_W))) (va_runV (As := [.ref rd]) (rest := []) ⟨hx, hb, hml, hown, hts⟩ (k_becomeTurned l D cI cC  td ta tw rd ra w t0 r (by omega) hr3 H.size) (cwV 1 hts (zgood mw_213 mw_214 mw_215 mw_27 mw_216) rfl rfl rfl (by decide +kernel) ⟨Nat.le_of_ble_eq_true rfl, Nat.le_of_ble_eq_true rfl⟩) ⟨zBlind zE0_ok, va_recv hK hP (ci := 0) (q0 := 3) rfl rfl, zAt (av := [.ref td, .ref rd]) zE0_ok hP hD hK hS hA trivial [3, 4, 1, 2] rfl (by decide)⟩ rfl rfl hl.1 rfl (lv_room (Nat.le_of_ble_eq_true rfl)) dX5_turn_8 ⟨Nat.zero_le _, Nat.zero_le _⟩) hP hD hS hA rfl (fun _ => rfl) (fun u8 H locs w8 hP hD hS => ?_)
  have hP : va_P D vwCl [(x0, .inr (5, [.ref G, .ref S, .ref rd, .ref td, .ref la, .ref sp, .int (nI dn)])), (rd, .inr (0, [.ref ra, .int (nI w)])), (ra, .inl (cI, 24, .inl (fun jj => nI (r jj)))), (td, .inr (0, [.ref ta, .int (nI w)])), (ta, .inl (cI, 24, .inl (fun jj => nI (u8 jj))))] H := hP
  have hD : va_D A [(x0, .inr (5, [.ref G, .ref S, .ref rd, .ref td, .ref la, .ref sp, .int (nI dn)])), (rd, .inr (0, [.ref ra, .int (nI w)])), (ra, .inl (cI, 24, .inl (fun jj => nI (r jj)))), (td, .inr (0, [.ref ta, .int (nI w)])), (ta, .inl (cI, 24, .inl (fun jj => nI (u8 jj))))] := hD
  refine lv_aload_n hx hb dX5_turn_11 rfl (lv_at hl 0 rfl) ?_
  refine va_get (D := D) (ci := 5) (v := .ref rd) (C := RX5) (T := TX5) (N := 7) hx hb hts (fun w h => List.mem_cons_of_mem _ (inUX5 w h)) hown hK hP 0 rfl rfl 2 (by decide) (hts _ (List.mem_cons_of_mem _ mw_156)) (fun _ h9 => h9) rfl dX5_turn_12 ?_
  refine lv_astore_n (lv' := [(1, .ref rd), (0, .ref x0)]) hx hb dX5_turn_15 rfl hl (by decide) rfl (fun ls hl => ?_)
  refine lv_aload_n hx hb dX5_turn_16 rfl (lv_at hl 1 rfl) ?_
  refine lv_aload_n hx hb dX5_turn_17 rfl (lv_at hl 1 rfl) ?_
  refine va_get (D := D) (ci := 5) (v := .ref td) (C := RX5) (T := TX5) (N := 7) hx hb hts (fun w h => List.mem_cons_of_mem _ (inUX5 w h)) hown hK hP 0 rfl rfl 3 (by decide) (hts _ (List.mem_cons_of_mem _ mw_157)) (fun _ h9 => h9) rfl dX5_turn_18 ?_
  refine va_put (D := D) (ci := 5) (v := .ref td) (ty := (.object "StrandMapper$Bases")) (C := RX5) (T := TX5) (N := 7) hx hb hts (fun w h => List.mem_cons_of_mem _ (inUX5 w h)) tyX5 tyX5_ok nmX5 hown hK hP hD hS 0 rfl rfl 2 (by decide) (hts _ (List.mem_cons_of_mem _ mw_156)) (fun _ h9 => h9) rfl (by decide +kernel) rfl rfl (Nat.le_of_ble_eq_true rfl) dX5_turn_21 (fun H locs hP hD hS => ?_)
  have hP : va_P D vwCl [(x0, .inr (5, [.ref G, .ref S, .ref td, .ref td, .ref la, .ref sp, .int (nI dn)])), (rd, .inr (0, [.ref ra, .int (nI w)])), (ra, .inl (cI, 24, .inl (fun jj => nI (r jj)))), (td, .inr (0, [.ref ta, .int (nI w)])), (ta, .inl (cI, 24, .inl (fun jj => nI (u8 jj))))] H := hP
  have hD : va_D A [(x0, .inr (5, [.ref G, .ref S, .ref td, .ref td, .ref la, .ref sp, .int (nI dn)])), (rd, .inr (0, [.ref ra, .int (nI w)])), (ra, .inl (cI, 24, .inl (fun jj => nI (r jj)))), (td, .inr (0, [.ref ta, .int (nI w)])), (ta, .inl (cI, 24, .inl (fun jj => nI (u8 jj))))] := hD
  refine lv_aload_n hx hb dX5_turn_24 rfl (lv_at hl 1 rfl) ?_
  refine lv_aload_n hx hb dX5_turn_25 rfl (lv_at hl 0 rfl) ?_
  refine va_put (D := D) (ci := 5) (v := .ref rd) (ty := (.object "StrandMapper$Bases")) (C := RX5) (T := TX5) (N := 7) hx hb hts (fun w h => List.mem_cons_of_mem _ (inUX5 w h)) tyX5 tyX5_ok nmX5 hown hK hP hD hS 0 rfl rfl 3 (by decide) (hts _ (List.mem_cons_of_mem _ mw_157)) (fun _ h9 => h9) rfl (by decide +kernel) rfl rfl (Nat.le_of_ble_eq_true rfl) dX5_turn_26 (fun H locs hP hD hS => ?_)
  have hP : va_P D vwCl [(x0, .inr (5, [.ref G, .ref S, .ref td, .ref rd, .ref la, .ref sp, .int (nI dn)])), (rd, .inr (0, [.ref ra, .int (nI w)])), (ra, .inl (cI, 24, .inl (fun jj => nI (r jj)))), (td, .inr (0, [.ref ta, .int (nI w)])), (ta, .inl (cI, 24, .inl (fun jj => nI (u8 jj))))] H := hP
  have hD : va_D A [(x0, .inr (5, [.ref G, .ref S, .ref td, .ref rd, .ref la, .ref sp, .int (nI dn)])), (rd, .inr (0, [.ref ra, .int (nI w)])), (ra, .inl (cI, 24, .inl (fun jj => nI (r jj)))), (td, .inr (0, [.ref ta, .int (nI w)])), (ta, .inl (cI, 24, .inl (fun jj => nI (u8 jj))))] := hD
  exact zVret hC hS u8 w8 hP dX5_turn_29
set_option maxHeartbeats 4000000 in
set_option maxRecDepth 100000 in
theorem f_length (l : Launch) (D : va_G) (cI cC : ClassId)  (x0 G S rd td la sp dn : Nat) (ra w : Nat) (ga n t : Nat) (ht : t ≤ 1) (sz : Nat) : Met l yX5_length wsX5_length ({ frames := 0, cells := 0, slots := 0, locals := 0 } : Room) (zPre zEn D vwCl [(cI, .int), (cC, .char)] [.ref x0, .int (nI t)] [(x0, .inr (5, [.ref G, .ref S, .ref rd, .ref td, .ref la, .ref sp, .int (nI dn)])), (G, .inr (0, [.ref ga, .int (nI n)])), (rd, .inr (0, [.ref ra, .int (nI w)]))] sz) (va_Qi (fun (rv : Int32) (uu : Unit) => rv = nI (if t = 0 then n else w) ∧ True) (fun (uu : Unit) t9 => va_P D vwCl ([(x0, .inr (5, [.ref G, .ref S, .ref rd, .ref td, .ref la, .ref sp, .int (nI dn)])), (G, .inr (0, [.ref ga, .int (nI n)])), (rd, .inr (0, [.ref ra, .int (nI w)]))]) t9.heap) (va_A [(x0, .inr (5, [.ref G, .ref S, .ref rd, .ref td, .ref la, .ref sp, .int (nI dn)])), (G, .inr (0, [.ref ga, .int (nI n)])), (rd, .inr (0, [.ref ra, .int (nI w)]))] sz)) 0 0 (va_A [(x0, .inr (5, [.ref G, .ref S, .ref rd, .ref td, .ref la, .ref sp, .int (nI dn)])), (G, .inr (0, [.ref ga, .int (nI n)])), (rd, .inr (0, [.ref ra, .int (nI w)]))] sz) := by
  refine zMet (cc := cX5_length) (maxL := 2) (ret := (some .int)) (Qc := fun A => (va_Qi (fun (rv : Int32) (uu : Unit) => rv = nI (if t = 0 then n else w) ∧ True) (fun (uu : Unit) t9 => va_P D vwCl ([(x0, .inr (5, [.ref G, .ref S, .ref rd, .ref td, .ref la, .ref sp, .int (nI dn)])), (G, .inr (0, [.ref ga, .int (nI n)])), (rd, .inr (0, [.ref ra, .int (nI w)]))]) t9.heap) A)) (by decide) rfl (Nat.le_of_ble_eq_true rfl) ?_
  intro pr en s0 mi bl me co A hC hA hK hE H locs hP hD hS ls hl
  obtain ⟨hx, hb, hr, hml, hown, hts, hlocks, hin⟩ := id hC
  have hl : lv_has ls 2 [(0, .ref x0), (1, .int (nI t))] := hl
  refine lv_iload_n hx hb dX5_length_0 rfl (lv_at hl 1 rfl) ?_
  refine zz_eq0 (tgt := 14) hx hb dX5_length_1 (by decide) (by omega) (fun c1 => ?_) (fun c1 => ?_)
  · skip
    refine lv_aload_n hx hb dX5_length_14 rfl (lv_at hl 0 rfl) ?_
    refine va_get (D := D) (ci := 5) (v := .ref G) (C := RX5) (T := TX5) (N := 7) hx hb hts (fun w h => List.mem_cons_of_mem _ (inUX5 w h)) hown hK hP 0 rfl rfl 0 (by decide) (hts _ (List.mem_cons_of_mem _ mw_154)) (fun _ h9 => h9) rfl dX5_length_15 ?_
    refine va_getN (D := D) (ci := 0) (v := .int (nI n)) (C := RX0) (T := TX0) (N := 2) hx hb hts (fun w h => List.mem_cons_of_mem _ (inUX0 w h)) hown hK hP 1 rfl rfl 1 (by decide) (va_Nw.use rfl (hE.1 ("StrandMapper", 63, "StrandMapper$Bases", "used", "I", "StrandMapper") (by decide +kernel))) (fun _ h9 => h9) rfl dX5_length_18 ?_
    exact zIret hC hS () ⟨congrArg nI (by first | rw [if_pos c1] | rw [if_neg c1]), trivial⟩ hP (vp_nar_int _) dX5_length_21
  · skip
    refine lv_aload_n hx hb dX5_length_4 rfl (lv_at hl 0 rfl) ?_
    refine va_get (D := D) (ci := 5) (v := .ref rd) (C := RX5) (T := TX5) (N := 7) hx hb hts (fun w h => List.mem_cons_of_mem _ (inUX5 w h)) hown hK hP 0 rfl rfl 2 (by decide) (hts _ (List.mem_cons_of_mem _ mw_156)) (fun _ h9 => h9) rfl dX5_length_5 ?_
    refine va_getN (D := D) (ci := 0) (v := .int (nI w)) (C := RX0) (T := TX0) (N := 2) hx hb hts (fun w h => List.mem_cons_of_mem _ (inUX0 w h)) hown hK hP 2 rfl rfl 1 (by decide) (va_Nw.use rfl (hE.1 ("StrandMapper", 63, "StrandMapper$Bases", "used", "I", "StrandMapper") (by decide +kernel))) (fun _ h9 => h9) rfl dX5_length_8 ?_
    refine lv_goto (tgt := 21) hx hb dX5_length_11 (by decide) ?_
    exact zIret hC hS () ⟨congrArg nI (by first | rw [if_pos c1] | rw [if_neg c1]), trivial⟩ hP (vp_nar_int _) dX5_length_21
set_option maxHeartbeats 4000000 in
set_option maxRecDepth 100000 in
theorem f_row (l : Launch) (D : va_G) (cI cC : ClassId)  (x0 G S rd td la sp dn : Nat) (ro od so ga n : Nat) (i : Int32) (g f0 o0 : Nat → Nat) (hn : n ≤ 96) (hg : ∀ i, g i ≤ 4) (hso : so = 0 ∨ (so = 1 ∧ zord n g o0)) (sz : Nat) : Met l yX5_row wsX5_row ({ frames := 3, cells := 0, slots := 0, locals := 69 } : Room) (zPre zEn D vwCl [(cI, .int), (cC, .char)] [.ref x0, .int i] [(x0, .inr (5, [.ref G, .ref S, .ref rd, .ref td, .ref la, .ref sp, .int (nI dn)])), (S, .inr (4, [.ref G, .ref ro, .ref od, .int (nI so)])), (G, .inr (0, [.ref ga, .int (nI n)])), (ga, .inl (cI, 96, .inl (fun jj => nI (g jj)))), (ro, .inl (cI, 97, .inl (fun jj => nI (f0 jj)))), (od, .inl (cI, 97, .inl (fun jj => nI (o0 jj))))] sz) (va_Qi (fun (rv : Int32) (uu : Nat × (Nat → Nat) × (Nat → Nat)) => (uu.1 = 0 ∨ (uu.1 = 1 ∧ zord n g uu.2.2)) ∧ zrowR n g i rv) (fun (uu : Nat × (Nat → Nat) × (Nat → Nat)) t9 => va_P D vwCl ([(x0, .inr (5, [.ref G, .ref S, .ref rd, .ref td, .ref la, .ref sp, .int (nI dn)])), (S, .inr (4, [.ref G, .ref ro, .ref od, .int (nI (uu.1))])), (G, .inr (0, [.ref ga, .int (nI n)])), (ga, .inl (cI, 96, .inl (fun jj => nI (g jj)))), (ro, .inl (cI, 97, .inl (fun jj => nI (uu.2.1 jj)))), (od, .inl (cI, 97, .inl (fun jj => nI (uu.2.2 jj))))]) t9.heap) (va_A [(x0, .inr (5, [.ref G, .ref S, .ref rd, .ref td, .ref la, .ref sp, .int (nI dn)])), (S, .inr (4, [.ref G, .ref ro, .ref od, .int (nI so)])), (G, .inr (0, [.ref ga, .int (nI n)])), (ga, .inl (cI, 96, .inl (fun jj => nI (g jj)))), (ro, .inl (cI, 97, .inl (fun jj => nI (f0 jj)))), (od, .inl (cI, 97, .inl (fun jj => nI (o0 jj))))] sz)) 0 0 (va_A [(x0, .inr (5, [.ref G, .ref S, .ref rd, .ref td, .ref la, .ref sp, .int (nI dn)])), (S, .inr (4, [.ref G, .ref ro, .ref od, .int (nI so)])), (G, .inr (0, [.ref ga, .int (nI n)])), (ga, .inl (cI, 96, .inl (fun jj => nI (g jj)))), (ro, .inl (cI, 97, .inl (fun jj => nI (f0 jj)))), (od, .inl (cI, 97, .inl (fun jj => nI (o0 jj))))] sz) := by
  refine zMet (cc := cX5_row) (maxL := 2) (ret := (some .int)) (Qc := fun A => (va_Qi (fun (rv : Int32) (uu : Nat × (Nat → Nat) × (Nat → Nat)) => (uu.1 = 0 ∨ (uu.1 = 1 ∧ zord n g uu.2.2)) ∧ zrowR n g i rv) (fun (uu : Nat × (Nat → Nat) × (Nat → Nat)) t9 => va_P D vwCl ([(x0, .inr (5, [.ref G, .ref S, .ref rd, .ref td, .ref la, .ref sp, .int (nI dn)])), (S, .inr (4, [.ref G, .ref ro, .ref od, .int (nI (uu.1))])), (G, .inr (0, [.ref ga, .int (nI n)])), (ga, .inl (cI, 96, .inl (fun jj => nI (g jj)))), (ro, .inl (cI, 97, .inl (fun jj => nI (uu.2.1 jj)))), (od, .inl (cI, 97, .inl (fun jj => nI (uu.2.2 jj))))]) t9.heap) A)) (by decide) rfl (Nat.le_of_ble_eq_true rfl) ?_
  intro pr en s0 mi bl me co A hC hA hK hE H locs hP hD hS ls hl
  obtain ⟨hx, hb, hr, hml, hown, hts, hlocks, hin⟩ := id hC
  have hl : lv_has ls 2 [(0, .ref x0), (1, .int i)] := hl
  refine lv_aload_n hx hb dX5_row_0 rfl (lv_at hl 0 rfl) ?_
  refine va_get (D := D) (ci := 5) (v := .ref S) (C := RX5) (T := TX5) (N := 7) hx hb hts (fun w h => List.mem_cons_of_mem _ (inUX5 w h)) hown hK hP 0 rfl rfl 1 (by decide) (hts _ (List.mem_cons_of_mem _ mw_155)) (fun _ h9 => h9) rfl dX5_row_1 ?_
  refine lv_iload_n hx hb dX5_row_4 rfl (lv_at hl 1 rfl) ?_
  refine zCi (is := [1, 2]) (wf := (fun (uu : Unit) => ([(S, .inr (4, [.ref G, .ref ro, .ref od, .int (nI so)])), (G, .inr (0, [.ref ga, .int (nI n)]))] : va_W))) (va_runV (As := [.int i]) (rest := []) ⟨hx, hb, hml, hown, hts⟩ (k_hasRow l D cI cC  S G ro od so ga n i (by omega) H.size) (cwV 1 hts (zgood mw_227 mw_228 mw_229 mw_28 mw_230) rfl rfl rfl (by decide +kernel) ⟨Nat.le_of_ble_eq_true rfl, Nat.le_of_ble_eq_true rfl⟩) ⟨zBlind zEn_ok, va_recv hK hP (ci := 4) (q0 := 1) rfl rfl, zAt (av := [.ref S, .int i]) zEn_ok hP hD hK hS hA hE [1, 2] rfl (by decide)⟩ rfl rfl hl.1 rfl (lv_room (Nat.le_of_ble_eq_true rfl)) dX5_row_5 ⟨Nat.zero_le _, Nat.zero_le _⟩) hP hD hS hA rfl (fun _ => rfl) (fun r5 u5 H locs w5 hP hD hS => ?_)
  obtain ⟨rfl, w5⟩ := w5
  have hP : va_P D vwCl [(x0, .inr (5, [.ref G, .ref S, .ref rd, .ref td, .ref la, .ref sp, .int (nI dn)])), (S, .inr (4, [.ref G, .ref ro, .ref od, .int (nI so)])), (G, .inr (0, [.ref ga, .int (nI n)])), (ga, .inl (cI, 96, .inl (fun jj => nI (g jj)))), (ro, .inl (cI, 97, .inl (fun jj => nI (f0 jj)))), (od, .inl (cI, 97, .inl (fun jj => nI (o0 jj))))] H := hP
  have hD : va_D A [(x0, .inr (5, [.ref G, .ref S, .ref rd, .ref td, .ref la, .ref sp, .int (nI dn)])), (S, .inr (4, [.ref G, .ref ro, .ref od, .int (nI so)])), (G, .inr (0, [.ref ga, .int (nI n)])), (ga, .inl (cI, 96, .inl (fun jj => nI (g jj)))), (ro, .inl (cI, 97, .inl (fun jj => nI (f0 jj)))), (od, .inl (cI, 97, .inl (fun jj => nI (o0 jj))))] := hD
  refine zz_eqb (tgt := 22) hx hb dX5_row_8 (by decide) (fun c8 => ?_) (fun c8 => ?_)
  · skip
    refine lv_iconst (v := (-1)) hx hb dX5_row_22 (by decide) ?_
    exact zIret hC hS (so, f0, o0) ⟨hso, Or.inr ⟨fun q h z => c8 (by rw [z]; have := zbef_le (g := g) h; exact ⟨nI_pos' (by omega), nI_lt (by omega) (by omega)⟩), rfl⟩⟩ hP (vp_nar_int _) dX5_row_23
  · skip
    obtain ⟨k, hk, rfl⟩ := zrng c8 hn
    refine lv_aload_n hx hb dX5_row_11 rfl (lv_at hl 0 rfl) ?_
    refine va_get (D := D) (ci := 5) (v := .ref S) (C := RX5) (T := TX5) (N := 7) hx hb hts (fun w h => List.mem_cons_of_mem _ (inUX5 w h)) hown hK hP 0 rfl rfl 1 (by decide) (hts _ (List.mem_cons_of_mem _ mw_155)) (fun _ h9 => h9) rfl dX5_row_12 ?_
    refine lv_iload_n hx hb dX5_row_15 rfl (lv_at hl 1 rfl) ?_
    refine zCi (is := [1, 2, 3, 4, 5]) (wf := (fun (uu : (Nat → Nat) × (Nat → Nat)) => ([(S, .inr (4, [.ref G, .ref ro, .ref od, .int (nI 1)])), (G, .inr (0, [.ref ga, .int (nI n)])), (ga, .inl (cI, 96, .inl (fun jj => nI (g jj)))), (ro, .inl (cI, 97, .inl (fun jj => nI (uu.1 jj)))), (od, .inl (cI, 97, .inl (fun jj => nI (uu.2 jj))))] : va_W))) (va_runV (As := [.int (nI k)]) (rest := []) ⟨hx, hb, hml, hown, hts⟩ (k_placeOfRow l D cI cC  S G ro od so ga n k g f0 o0 (by omega) hg (by omega) hso H.size) (cwV 1 hts (zgood mw_235 mw_236 mw_237 mw_28 mw_238) rfl rfl rfl (by decide +kernel) ⟨Nat.le_of_ble_eq_true rfl, Nat.le_of_ble_eq_true rfl⟩) ⟨zBlind zEn_ok, va_recv hK hP (ci := 4) (q0 := 1) rfl rfl, zAt (av := [.ref S, .int (nI k)]) zEn_ok hP hD hK hS hA hE [1, 2, 3, 4, 5] rfl (by decide)⟩ rfl rfl hl.1 rfl (lv_room (Nat.le_of_ble_eq_true rfl)) dX5_row_16 ⟨Nat.zero_le _, Nat.zero_le _⟩) hP hD hS hA rfl (fun _ => rfl) (fun r16 u16 H locs w16 hP hD hS => ?_)
    obtain ⟨rfl, w16⟩ := w16
    have hP : va_P D vwCl [(x0, .inr (5, [.ref G, .ref S, .ref rd, .ref td, .ref la, .ref sp, .int (nI dn)])), (S, .inr (4, [.ref G, .ref ro, .ref od, .int (nI 1)])), (G, .inr (0, [.ref ga, .int (nI n)])), (ga, .inl (cI, 96, .inl (fun jj => nI (g jj)))), (ro, .inl (cI, 97, .inl (fun jj => nI (u16.1 jj)))), (od, .inl (cI, 97, .inl (fun jj => nI (u16.2 jj))))] H := hP
    have hD : va_D A [(x0, .inr (5, [.ref G, .ref S, .ref rd, .ref td, .ref la, .ref sp, .int (nI dn)])), (S, .inr (4, [.ref G, .ref ro, .ref od, .int (nI 1)])), (G, .inr (0, [.ref ga, .int (nI n)])), (ga, .inl (cI, 96, .inl (fun jj => nI (g jj)))), (ro, .inl (cI, 97, .inl (fun jj => nI (u16.1 jj)))), (od, .inl (cI, 97, .inl (fun jj => nI (u16.2 jj))))] := hD
    refine lv_goto (tgt := 23) hx hb dX5_row_19 (by decide) ?_
    exact zIret hC hS (1, u16.1, u16.2) ⟨Or.inr ⟨rfl, w16⟩, Or.inl ⟨u16.2 k, (zord_at hg hn w16 hk).1, congrArg nI (zord_at hg hn w16 hk).2.symm, rfl⟩⟩ hP (vp_nar_int _) dX5_row_23
set_option maxHeartbeats 4000000 in
set_option maxRecDepth 100000 in
theorem f_last (l : Launch) (D : va_G) (cI cC : ClassId)  (x0 G S rd td la sp dn : Nat) (ro od so ga n : Nat) (i : Int32) (g f0 o0 : Nat → Nat) (hn : n ≤ 96) (hg : ∀ i, g i ≤ 4) (hso : so = 0 ∨ (so = 1 ∧ zord n g o0)) (sz : Nat) : Met l yX5_last wsX5_last ({ frames := 4, cells := 0, slots := 0, locals := 91 } : Room) (zPre zEn D vwCl [(cI, .int), (cC, .char)] [.ref x0, .int i] [(x0, .inr (5, [.ref G, .ref S, .ref rd, .ref td, .ref la, .ref sp, .int (nI dn)])), (S, .inr (4, [.ref G, .ref ro, .ref od, .int (nI so)])), (G, .inr (0, [.ref ga, .int (nI n)])), (ga, .inl (cI, 96, .inl (fun jj => nI (g jj)))), (ro, .inl (cI, 97, .inl (fun jj => nI (f0 jj)))), (od, .inl (cI, 97, .inl (fun jj => nI (o0 jj))))] sz) (va_Qi (fun (rv : Int32) (uu : Nat × (Nat → Nat) × (Nat → Nat)) => (uu.1 = 0 ∨ (uu.1 = 1 ∧ zord n g uu.2.2)) ∧ zlastR n g i rv) (fun (uu : Nat × (Nat → Nat) × (Nat → Nat)) t9 => va_P D vwCl ([(x0, .inr (5, [.ref G, .ref S, .ref rd, .ref td, .ref la, .ref sp, .int (nI dn)])), (S, .inr (4, [.ref G, .ref ro, .ref od, .int (nI (uu.1))])), (G, .inr (0, [.ref ga, .int (nI n)])), (ga, .inl (cI, 96, .inl (fun jj => nI (g jj)))), (ro, .inl (cI, 97, .inl (fun jj => nI (uu.2.1 jj)))), (od, .inl (cI, 97, .inl (fun jj => nI (uu.2.2 jj))))]) t9.heap) (va_A [(x0, .inr (5, [.ref G, .ref S, .ref rd, .ref td, .ref la, .ref sp, .int (nI dn)])), (S, .inr (4, [.ref G, .ref ro, .ref od, .int (nI so)])), (G, .inr (0, [.ref ga, .int (nI n)])), (ga, .inl (cI, 96, .inl (fun jj => nI (g jj)))), (ro, .inl (cI, 97, .inl (fun jj => nI (f0 jj)))), (od, .inl (cI, 97, .inl (fun jj => nI (o0 jj))))] sz)) 0 0 (va_A [(x0, .inr (5, [.ref G, .ref S, .ref rd, .ref td, .ref la, .ref sp, .int (nI dn)])), (S, .inr (4, [.ref G, .ref ro, .ref od, .int (nI so)])), (G, .inr (0, [.ref ga, .int (nI n)])), (ga, .inl (cI, 96, .inl (fun jj => nI (g jj)))), (ro, .inl (cI, 97, .inl (fun jj => nI (f0 jj)))), (od, .inl (cI, 97, .inl (fun jj => nI (o0 jj))))] sz) := by
  refine zMet (cc := cX5_last) (maxL := 2) (ret := (some .int)) (Qc := fun A => (va_Qi (fun (rv : Int32) (uu : Nat × (Nat → Nat) × (Nat → Nat)) => (uu.1 = 0 ∨ (uu.1 = 1 ∧ zord n g uu.2.2)) ∧ zlastR n g i rv) (fun (uu : Nat × (Nat → Nat) × (Nat → Nat)) t9 => va_P D vwCl ([(x0, .inr (5, [.ref G, .ref S, .ref rd, .ref td, .ref la, .ref sp, .int (nI dn)])), (S, .inr (4, [.ref G, .ref ro, .ref od, .int (nI (uu.1))])), (G, .inr (0, [.ref ga, .int (nI n)])), (ga, .inl (cI, 96, .inl (fun jj => nI (g jj)))), (ro, .inl (cI, 97, .inl (fun jj => nI (uu.2.1 jj)))), (od, .inl (cI, 97, .inl (fun jj => nI (uu.2.2 jj))))]) t9.heap) A)) (by decide) rfl (Nat.le_of_ble_eq_true rfl) ?_
  intro pr en s0 mi bl me co A hC hA hK hE H locs hP hD hS ls hl
  obtain ⟨hx, hb, hr, hml, hown, hts, hlocks, hin⟩ := id hC
  have hl : lv_has ls 2 [(0, .ref x0), (1, .int i)] := hl
  refine lv_aload_n hx hb dX5_last_0 rfl (lv_at hl 0 rfl) ?_
  refine va_get (D := D) (ci := 5) (v := .ref S) (C := RX5) (T := TX5) (N := 7) hx hb hts (fun w h => List.mem_cons_of_mem _ (inUX5 w h)) hown hK hP 0 rfl rfl 1 (by decide) (hts _ (List.mem_cons_of_mem _ mw_155)) (fun _ h9 => h9) rfl dX5_last_1 ?_
  refine lv_iload_n hx hb dX5_last_4 rfl (lv_at hl 1 rfl) ?_
  refine zCi (is := [1, 2]) (wf := (fun (uu : Unit) => ([(S, .inr (4, [.ref G, .ref ro, .ref od, .int (nI so)])), (G, .inr (0, [.ref ga, .int (nI n)]))] : va_W))) (va_runV (As := [.int i]) (rest := []) ⟨hx, hb, hml, hown, hts⟩ (k_hasRow l D cI cC  S G ro od so ga n i (by omega) H.size) (cwV 1 hts (zgood mw_227 mw_228 mw_229 mw_28 mw_230) rfl rfl rfl (by decide +kernel) ⟨Nat.le_of_ble_eq_true rfl, Nat.le_of_ble_eq_true rfl⟩) ⟨zBlind zEn_ok, va_recv hK hP (ci := 4) (q0 := 1) rfl rfl, zAt (av := [.ref S, .int i]) zEn_ok hP hD hK hS hA hE [1, 2] rfl (by decide)⟩ rfl rfl hl.1 rfl (lv_room (Nat.le_of_ble_eq_true rfl)) dX5_last_5 ⟨Nat.zero_le _, Nat.zero_le _⟩) hP hD hS hA rfl (fun _ => rfl) (fun r5 u5 H locs w5 hP hD hS => ?_)
  obtain ⟨rfl, w5⟩ := w5
  have hP : va_P D vwCl [(x0, .inr (5, [.ref G, .ref S, .ref rd, .ref td, .ref la, .ref sp, .int (nI dn)])), (S, .inr (4, [.ref G, .ref ro, .ref od, .int (nI so)])), (G, .inr (0, [.ref ga, .int (nI n)])), (ga, .inl (cI, 96, .inl (fun jj => nI (g jj)))), (ro, .inl (cI, 97, .inl (fun jj => nI (f0 jj)))), (od, .inl (cI, 97, .inl (fun jj => nI (o0 jj))))] H := hP
  have hD : va_D A [(x0, .inr (5, [.ref G, .ref S, .ref rd, .ref td, .ref la, .ref sp, .int (nI dn)])), (S, .inr (4, [.ref G, .ref ro, .ref od, .int (nI so)])), (G, .inr (0, [.ref ga, .int (nI n)])), (ga, .inl (cI, 96, .inl (fun jj => nI (g jj)))), (ro, .inl (cI, 97, .inl (fun jj => nI (f0 jj)))), (od, .inl (cI, 97, .inl (fun jj => nI (o0 jj))))] := hD
  refine zz_eqb (tgt := 22) hx hb dX5_last_8 (by decide) (fun c8 => ?_) (fun c8 => ?_)
  · skip
    refine lv_iconst (v := (-1)) hx hb dX5_last_22 (by decide) ?_
    exact zIret hC hS (so, f0, o0) ⟨hso, Or.inr ⟨fun q h z => c8 (by rw [z]; have := zbef_le (g := g) h; exact ⟨nI_pos' (by omega), nI_lt (by omega) (by omega)⟩), rfl⟩⟩ hP (vp_nar_int _) dX5_last_23
  · skip
    obtain ⟨k, hk, rfl⟩ := zrng c8 hn
    refine lv_aload_n hx hb dX5_last_11 rfl (lv_at hl 0 rfl) ?_
    refine va_get (D := D) (ci := 5) (v := .ref S) (C := RX5) (T := TX5) (N := 7) hx hb hts (fun w h => List.mem_cons_of_mem _ (inUX5 w h)) hown hK hP 0 rfl rfl 1 (by decide) (hts _ (List.mem_cons_of_mem _ mw_155)) (fun _ h9 => h9) rfl dX5_last_12 ?_
    refine lv_iload_n hx hb dX5_last_15 rfl (lv_at hl 1 rfl) ?_
    refine zCi (is := [1, 2, 3, 4, 5]) (wf := (fun (uu : (Nat → Nat) × (Nat → Nat)) => ([(S, .inr (4, [.ref G, .ref ro, .ref od, .int (nI 1)])), (G, .inr (0, [.ref ga, .int (nI n)])), (ga, .inl (cI, 96, .inl (fun jj => nI (g jj)))), (ro, .inl (cI, 97, .inl (fun jj => nI (uu.1 jj)))), (od, .inl (cI, 97, .inl (fun jj => nI (uu.2 jj))))] : va_W))) (va_runV (As := [.int (nI k)]) (rest := []) ⟨hx, hb, hml, hown, hts⟩ (k_symbolBefore l D cI cC  S G ro od so ga n k g f0 o0 (by omega) hg (by omega) hso H.size) (cwV 1 hts (zgood mw_251 mw_252 mw_253 mw_28 mw_254) rfl rfl rfl (by decide +kernel) ⟨Nat.le_of_ble_eq_true rfl, Nat.le_of_ble_eq_true rfl⟩) ⟨zBlind zEn_ok, va_recv hK hP (ci := 4) (q0 := 1) rfl rfl, zAt (av := [.ref S, .int (nI k)]) zEn_ok hP hD hK hS hA hE [1, 2, 3, 4, 5] rfl (by decide)⟩ rfl rfl hl.1 rfl (lv_room (Nat.le_of_ble_eq_true rfl)) dX5_last_16 ⟨Nat.zero_le _, Nat.zero_le _⟩) hP hD hS hA rfl (fun _ => rfl) (fun r16 u16 H locs w16 hP hD hS => ?_)
    obtain ⟨rfl, w16⟩ := w16
    have hP : va_P D vwCl [(x0, .inr (5, [.ref G, .ref S, .ref rd, .ref td, .ref la, .ref sp, .int (nI dn)])), (S, .inr (4, [.ref G, .ref ro, .ref od, .int (nI 1)])), (G, .inr (0, [.ref ga, .int (nI n)])), (ga, .inl (cI, 96, .inl (fun jj => nI (g jj)))), (ro, .inl (cI, 97, .inl (fun jj => nI (u16.1 jj)))), (od, .inl (cI, 97, .inl (fun jj => nI (u16.2 jj))))] H := hP
    have hD : va_D A [(x0, .inr (5, [.ref G, .ref S, .ref rd, .ref td, .ref la, .ref sp, .int (nI dn)])), (S, .inr (4, [.ref G, .ref ro, .ref od, .int (nI 1)])), (G, .inr (0, [.ref ga, .int (nI n)])), (ga, .inl (cI, 96, .inl (fun jj => nI (g jj)))), (ro, .inl (cI, 97, .inl (fun jj => nI (u16.1 jj)))), (od, .inl (cI, 97, .inl (fun jj => nI (u16.2 jj))))] := hD
    refine lv_goto (tgt := 23) hx hb dX5_last_19 (by decide) ?_
    exact zIret hC hS (1, u16.1, u16.2) ⟨Or.inr ⟨rfl, w16⟩, Or.inl ⟨u16.2 k, (zord_at hg hn w16 hk).1, congrArg nI (zord_at hg hn w16 hk).2.symm, rfl⟩⟩ hP (vp_nar_int _) dX5_last_23
set_option maxHeartbeats 4000000 in
set_option maxRecDepth 100000 in
theorem f_rank_L32 {pr : Program} {en : Env} {s0 : State} {mi : MethodId} {bl : List Frame} {me : Method} {co : Code} {A : Nat → Prop} (l : Launch) (D : va_G) (cI cC : ClassId)  (x0 G S rd td la sp dn : Nat) (ro od so ga n : Nat) (b i : Nat) (g f0 o0 : Nat → Nat) (hn : n ≤ 96) (hg : ∀ i, g i ≤ 4) (hso : so = 0 ∨ (so = 1 ∧ zord n g o0)) (hb5 : b ≤ 5) (hi : i ≤ n + 1) (hC : zK pr s0 mi ([.ref x0, .int (nI b), .int (nI i)] : List Value).toArray me co cX5_rank 5 (some .int) yX5_rank wsX5_rank) (hA : ∀ q, s0.heap.size ≤ q → A q) (hK : va_K D vwCl [(cI, .int), (cC, .char)] s0) (hE : zEn A s0 s0.heap) :
    ∀ (N : Nat) (k x so2 : Nat) (f o : Nat → Nat), i - k < N → (k ≤ i) → (x = zcnt (fun p => decide (zsb g p = b) && decide (zbef n g p < k)) (n + 1)) → (so2 = 0 ∨ (so2 = 1 ∧ zord n g o)) → ∀ (H : Heap) (locs : List Loc), va_P D vwCl [(x0, .inr (5, [.ref G, .ref S, .ref rd, .ref td, .ref la, .ref sp, .int (nI dn)])), (S, .inr (4, [.ref G, .ref ro, .ref od, .int (nI so2)])), (G, .inr (0, [.ref ga, .int (nI n)])), (ga, .inl (cI, 96, .inl (fun jj => nI (g jj)))), (ro, .inl (cI, 97, .inl (fun jj => nI (f jj)))), (od, .inl (cI, 97, .inl (fun jj => nI (o jj))))] H → va_D A [(x0, .inr (5, [.ref G, .ref S, .ref rd, .ref td, .ref la, .ref sp, .int (nI dn)])), (S, .inr (4, [.ref G, .ref ro, .ref od, .int (nI so2)])), (G, .inr (0, [.ref ga, .int (nI n)])), (ga, .inl (cI, 96, .inl (fun jj => nI (g jj)))), (ro, .inl (cI, 97, .inl (fun jj => nI (f jj)))), (od, .inl (cI, 97, .inl (fun jj => nI (o jj))))] → va_S A s0.heap H locs → ∀ ls : Array Slot, lv_has ls 5 [(0, .ref x0), (1, .int (nI b)), (2, .int (nI i)), (3, .int (nI x)), (4, .int (nI k))] → W pr l en ({ frames := 4, cells := 0, slots := 0, locals := 91 } : Room) s0 mi ([.ref x0, .int (nI b), .int (nI i)] : List Value).toArray bl me co H locs 0 0 (MQ bl (va_Qi (fun (rv : Int32) (uu : Nat × (Nat → Nat) × (Nat → Nat)) => rv = nI (zcnt (fun p => decide (zsb g p = b) && decide (zbef n g p < i)) (n + 1)) ∧ (uu.1 = 0 ∨ (uu.1 = 1 ∧ zord n g uu.2.2))) (fun (uu : Nat × (Nat → Nat) × (Nat → Nat)) t9 => va_P D vwCl ([(x0, .inr (5, [.ref G, .ref S, .ref rd, .ref td, .ref la, .ref sp, .int (nI dn)])), (S, .inr (4, [.ref G, .ref ro, .ref od, .int (nI (uu.1))])), (G, .inr (0, [.ref ga, .int (nI n)])), (ga, .inl (cI, 96, .inl (fun jj => nI (g jj)))), (ro, .inl (cI, 97, .inl (fun jj => nI (uu.2.1 jj)))), (od, .inl (cI, 97, .inl (fun jj => nI (uu.2.2 jj))))]) t9.heap) A) ([.ref x0, .int (nI b), .int (nI i)] : List Value).toArray s0 0 0 A) (F0 mi 32 ls []) := by
  obtain ⟨hx, hb, hr, hml, hown, hts, hlocks, hin⟩ := id hC
  intro N
  induction N with
  | zero =>
    intro k x so2 f o hmea
    omega
  | succ N ih =>
    intro k x so2 f o hmea hk hx1 hso2 H locs hP hD hS ls hl
    refine lv_iload hx hb dX5_rank_32 (lv_at hl 4 rfl) ?_
    refine lv_iload_n hx hb dX5_rank_34 rfl (lv_at hl 2 rfl) ?_
    refine zz_ge (tgt := 60) hx hb dX5_rank_35 (by decide) (by omega) (by omega) (fun c35 => ?_) (fun c35 => ?_)
    · skip
      refine lv_iload_n hx hb dX5_rank_60 rfl (lv_at hl 3 rfl) ?_
      exact zIret hC hS (so2, f, o) ⟨congrArg nI (by rw [hx1, show k = i by omega]), hso2⟩ hP (vp_nar_int _) dX5_rank_61
    · skip
      refine lv_aload_n hx hb dX5_rank_38 rfl (lv_at hl 0 rfl) ?_
      refine va_get (D := D) (ci := 5) (v := .ref S) (C := RX5) (T := TX5) (N := 7) hx hb hts (fun w h => List.mem_cons_of_mem _ (inUX5 w h)) hown hK hP 0 rfl rfl 1 (by decide) (hts _ (List.mem_cons_of_mem _ mw_155)) (fun _ h9 => h9) rfl dX5_rank_39 ?_
      refine lv_iload hx hb dX5_rank_42 (lv_at hl 4 rfl) ?_
      refine zCi (is := [1, 2, 3, 4, 5]) (wf := (fun (uu : (Nat → Nat) × (Nat → Nat)) => ([(S, .inr (4, [.ref G, .ref ro, .ref od, .int (nI 1)])), (G, .inr (0, [.ref ga, .int (nI n)])), (ga, .inl (cI, 96, .inl (fun jj => nI (g jj)))), (ro, .inl (cI, 97, .inl (fun jj => nI (uu.1 jj)))), (od, .inl (cI, 97, .inl (fun jj => nI (uu.2 jj))))] : va_W))) (va_runV (As := [.int (nI k)]) (rest := []) ⟨hx, hb, hml, hown, hts⟩ (k_symbolBefore l D cI cC  S G ro od so2 ga n k g f o (by omega) hg (by omega) hso2 H.size) (cwV 1 hts (zgood mw_251 mw_252 mw_253 mw_28 mw_254) rfl rfl rfl (by decide +kernel) ⟨Nat.le_of_ble_eq_true rfl, Nat.le_of_ble_eq_true rfl⟩) ⟨zBlind zEn_ok, va_recv hK hP (ci := 4) (q0 := 1) rfl rfl, zAt (av := [.ref S, .int (nI k)]) zEn_ok hP hD hK hS hA hE [1, 2, 3, 4, 5] rfl (by decide)⟩ rfl rfl hl.1 rfl (lv_room (Nat.le_of_ble_eq_true rfl)) dX5_rank_44 ⟨Nat.zero_le _, Nat.zero_le _⟩) hP hD hS hA rfl (fun _ => rfl) (fun r44 u44 H locs w44 hP hD hS => ?_)
      obtain ⟨rfl, w44⟩ := w44
      have hP : va_P D vwCl [(x0, .inr (5, [.ref G, .ref S, .ref rd, .ref td, .ref la, .ref sp, .int (nI dn)])), (S, .inr (4, [.ref G, .ref ro, .ref od, .int (nI 1)])), (G, .inr (0, [.ref ga, .int (nI n)])), (ga, .inl (cI, 96, .inl (fun jj => nI (g jj)))), (ro, .inl (cI, 97, .inl (fun jj => nI (u44.1 jj)))), (od, .inl (cI, 97, .inl (fun jj => nI (u44.2 jj))))] H := hP
      have hD : va_D A [(x0, .inr (5, [.ref G, .ref S, .ref rd, .ref td, .ref la, .ref sp, .int (nI dn)])), (S, .inr (4, [.ref G, .ref ro, .ref od, .int (nI 1)])), (G, .inr (0, [.ref ga, .int (nI n)])), (ga, .inl (cI, 96, .inl (fun jj => nI (g jj)))), (ro, .inl (cI, 97, .inl (fun jj => nI (u44.1 jj)))), (od, .inl (cI, 97, .inl (fun jj => nI (u44.2 jj))))] := hD
      refine lv_iload_n hx hb dX5_rank_47 rfl (lv_at hl 1 rfl) ?_
      refine zz_ne (tgt := 54) hx hb dX5_rank_48 (by decide) (by have := zsb_le hg (u44.2 k); omega) (by omega) (fun c48 => ?_) (fun c48 => ?_)
      · skip
        refine lv_iinc (v := nI (k + 1)) (lv' := [(4, .int (nI (k + 1))), (0, .ref x0), (1, .int (nI b)), (2, .int (nI i)), (3, .int (nI x))]) hx hb dX5_rank_54 hl (k := 4) rfl (zincE (by omega)) (by decide) rfl (fun ls hl => ?_)
        refine lv_goto (tgt := 32) hx hb dX5_rank_57 (by decide) ?_
        exact ih (k + 1) x 1 u44.1 u44.2 (by omega) (by omega) (by rw [zrank_s (fun p => decide (zsb g p = b)) hg hn (zord_at hg hn w44 (show k ≤ n by omega)).1 (zord_at hg hn w44 (show k ≤ n by omega)).2, if_neg (by simpa using c48)]; omega) (Or.inr ⟨rfl, w44⟩) _ _ hP hD hS ls (lv_sub hl [1, 2, 3, 4, 0] rfl)
      · skip
        refine lv_iinc (v := nI (x + 1)) (lv' := [(3, .int (nI (x + 1))), (0, .ref x0), (1, .int (nI b)), (2, .int (nI i)), (4, .int (nI k))]) hx hb dX5_rank_51 hl (k := 3) rfl (zincE (by omega)) (by decide) rfl (fun ls hl => ?_)
        refine lv_iinc (v := nI (k + 1)) (lv' := [(4, .int (nI (k + 1))), (3, .int (nI (x + 1))), (0, .ref x0), (1, .int (nI b)), (2, .int (nI i))]) hx hb dX5_rank_54 hl (k := 4) rfl (zincE (by omega)) (by decide) rfl (fun ls hl => ?_)
        refine lv_goto (tgt := 32) hx hb dX5_rank_57 (by decide) ?_
        exact ih (k + 1) (x + 1) 1 u44.1 u44.2 (by omega) (by omega) (by rw [zrank_s (fun p => decide (zsb g p = b)) hg hn (zord_at hg hn w44 (show k ≤ n by omega)).1 (zord_at hg hn w44 (show k ≤ n by omega)).2, if_pos (by simpa using c48)]; omega) (Or.inr ⟨rfl, w44⟩) _ _ hP hD hS ls (lv_sub hl [2, 3, 4, 1, 0] rfl)
set_option maxHeartbeats 4000000 in
set_option maxRecDepth 100000 in
theorem f_rank (l : Launch) (D : va_G) (cI cC : ClassId)  (x0 G S rd td la sp dn : Nat) (ro od so ga n : Nat) (b i : Nat) (g f0 o0 : Nat → Nat) (hn : n ≤ 96) (hg : ∀ i, g i ≤ 4) (hso : so = 0 ∨ (so = 1 ∧ zord n g o0)) (hb5 : b ≤ 5) (hi : i ≤ n + 1) (sz : Nat) : Met l yX5_rank wsX5_rank ({ frames := 4, cells := 0, slots := 0, locals := 91 } : Room) (zPre zEn D vwCl [(cI, .int), (cC, .char)] [.ref x0, .int (nI b), .int (nI i)] [(x0, .inr (5, [.ref G, .ref S, .ref rd, .ref td, .ref la, .ref sp, .int (nI dn)])), (S, .inr (4, [.ref G, .ref ro, .ref od, .int (nI so)])), (G, .inr (0, [.ref ga, .int (nI n)])), (ga, .inl (cI, 96, .inl (fun jj => nI (g jj)))), (ro, .inl (cI, 97, .inl (fun jj => nI (f0 jj)))), (od, .inl (cI, 97, .inl (fun jj => nI (o0 jj))))] sz) (va_Qi (fun (rv : Int32) (uu : Nat × (Nat → Nat) × (Nat → Nat)) => rv = nI (zcnt (fun p => decide (zsb g p = b) && decide (zbef n g p < i)) (n + 1)) ∧ (uu.1 = 0 ∨ (uu.1 = 1 ∧ zord n g uu.2.2))) (fun (uu : Nat × (Nat → Nat) × (Nat → Nat)) t9 => va_P D vwCl ([(x0, .inr (5, [.ref G, .ref S, .ref rd, .ref td, .ref la, .ref sp, .int (nI dn)])), (S, .inr (4, [.ref G, .ref ro, .ref od, .int (nI (uu.1))])), (G, .inr (0, [.ref ga, .int (nI n)])), (ga, .inl (cI, 96, .inl (fun jj => nI (g jj)))), (ro, .inl (cI, 97, .inl (fun jj => nI (uu.2.1 jj)))), (od, .inl (cI, 97, .inl (fun jj => nI (uu.2.2 jj))))]) t9.heap) (va_A [(x0, .inr (5, [.ref G, .ref S, .ref rd, .ref td, .ref la, .ref sp, .int (nI dn)])), (S, .inr (4, [.ref G, .ref ro, .ref od, .int (nI so)])), (G, .inr (0, [.ref ga, .int (nI n)])), (ga, .inl (cI, 96, .inl (fun jj => nI (g jj)))), (ro, .inl (cI, 97, .inl (fun jj => nI (f0 jj)))), (od, .inl (cI, 97, .inl (fun jj => nI (o0 jj))))] sz)) 0 0 (va_A [(x0, .inr (5, [.ref G, .ref S, .ref rd, .ref td, .ref la, .ref sp, .int (nI dn)])), (S, .inr (4, [.ref G, .ref ro, .ref od, .int (nI so)])), (G, .inr (0, [.ref ga, .int (nI n)])), (ga, .inl (cI, 96, .inl (fun jj => nI (g jj)))), (ro, .inl (cI, 97, .inl (fun jj => nI (f0 jj)))), (od, .inl (cI, 97, .inl (fun jj => nI (o0 jj))))] sz) := by
  refine zMet (cc := cX5_rank) (maxL := 5) (ret := (some .int)) (Qc := fun A => (va_Qi (fun (rv : Int32) (uu : Nat × (Nat → Nat) × (Nat → Nat)) => rv = nI (zcnt (fun p => decide (zsb g p = b) && decide (zbef n g p < i)) (n + 1)) ∧ (uu.1 = 0 ∨ (uu.1 = 1 ∧ zord n g uu.2.2))) (fun (uu : Nat × (Nat → Nat) × (Nat → Nat)) t9 => va_P D vwCl ([(x0, .inr (5, [.ref G, .ref S, .ref rd, .ref td, .ref la, .ref sp, .int (nI dn)])), (S, .inr (4, [.ref G, .ref ro, .ref od, .int (nI (uu.1))])), (G, .inr (0, [.ref ga, .int (nI n)])), (ga, .inl (cI, 96, .inl (fun jj => nI (g jj)))), (ro, .inl (cI, 97, .inl (fun jj => nI (uu.2.1 jj)))), (od, .inl (cI, 97, .inl (fun jj => nI (uu.2.2 jj))))]) t9.heap) A)) (by decide) rfl (Nat.le_of_ble_eq_true rfl) ?_
  intro pr en s0 mi bl me co A hC hA hK hE H locs hP hD hS ls hl
  obtain ⟨hx, hb, hr, hml, hown, hts, hlocks, hin⟩ := id hC
  have hl : lv_has ls 5 [(0, .ref x0), (1, .int (nI b)), (2, .int (nI i))] := hl
  refine lv_iload_n hx hb dX5_rank_0 rfl (lv_at hl 1 rfl) ?_
  refine zz_lt0 (tgt := 24) hx hb dX5_rank_1 (by decide) (by omega) ?_
  refine lv_iload_n hx hb dX5_rank_4 rfl (lv_at hl 1 rfl) ?_
  refine lv_iconst (v := nI 5) hx hb dX5_rank_5 (by decide) ?_
  refine zz_gt (tgt := 24) hx hb dX5_rank_6 (by decide) (by omega) (by omega) (fun c6 => ?_) (fun c6 => ?_)
  · skip
    exact absurd c6 (by omega)
  · skip
    refine lv_iload_n hx hb dX5_rank_9 rfl (lv_at hl 2 rfl) ?_
    refine zz_lt0 (tgt := 24) hx hb dX5_rank_10 (by decide) (by omega) ?_
    refine lv_iload_n hx hb dX5_rank_13 rfl (lv_at hl 2 rfl) ?_
    refine lv_aload_n hx hb dX5_rank_14 rfl (lv_at hl 0 rfl) ?_
    refine va_get (D := D) (ci := 5) (v := .ref S) (C := RX5) (T := TX5) (N := 7) hx hb hts (fun w h => List.mem_cons_of_mem _ (inUX5 w h)) hown hK hP 0 rfl rfl 1 (by decide) (hts _ (List.mem_cons_of_mem _ mw_155)) (fun _ h9 => h9) rfl dX5_rank_15 ?_
    refine zCi (is := [1, 2]) (wf := (fun (uu : Unit) => ([(S, .inr (4, [.ref G, .ref ro, .ref od, .int (nI so)])), (G, .inr (0, [.ref ga, .int (nI n)]))] : va_W))) (va_runV (As := []) (rest := [.int (nI i)]) ⟨hx, hb, hml, hown, hts⟩ (k_rows l D cI cC  S G ro od so ga n (by omega) H.size) (cwV 0 hts (zgood mw_260 mw_232 mw_233 mw_28 mw_234) rfl rfl rfl (by decide +kernel) ⟨Nat.le_of_ble_eq_true rfl, Nat.le_of_ble_eq_true rfl⟩) ⟨zBlind zEn_ok, va_recv hK hP (ci := 4) (q0 := 1) rfl rfl, zAt (av := [.ref S]) zEn_ok hP hD hK hS hA hE [1, 2] rfl (by decide)⟩ rfl rfl hl.1 rfl (lv_room (Nat.le_of_ble_eq_true rfl)) dX5_rank_18 ⟨Nat.zero_le _, Nat.zero_le _⟩) hP hD hS hA rfl (fun _ => rfl) (fun r18 u18 H locs w18 hP hD hS => ?_)
    obtain ⟨rfl, w18⟩ := w18
    have hP : va_P D vwCl [(x0, .inr (5, [.ref G, .ref S, .ref rd, .ref td, .ref la, .ref sp, .int (nI dn)])), (S, .inr (4, [.ref G, .ref ro, .ref od, .int (nI so)])), (G, .inr (0, [.ref ga, .int (nI n)])), (ga, .inl (cI, 96, .inl (fun jj => nI (g jj)))), (ro, .inl (cI, 97, .inl (fun jj => nI (f0 jj)))), (od, .inl (cI, 97, .inl (fun jj => nI (o0 jj))))] H := hP
    have hD : va_D A [(x0, .inr (5, [.ref G, .ref S, .ref rd, .ref td, .ref la, .ref sp, .int (nI dn)])), (S, .inr (4, [.ref G, .ref ro, .ref od, .int (nI so)])), (G, .inr (0, [.ref ga, .int (nI n)])), (ga, .inl (cI, 96, .inl (fun jj => nI (g jj)))), (ro, .inl (cI, 97, .inl (fun jj => nI (f0 jj)))), (od, .inl (cI, 97, .inl (fun jj => nI (o0 jj))))] := hD
    refine zz_le (tgt := 27) hx hb dX5_rank_21 (by decide) (by omega) (by omega) (fun c21 => ?_) (fun c21 => ?_)
    · skip
      refine lv_iconst (v := nI 0) hx hb dX5_rank_27 (by decide) ?_
      refine lv_istore_n (lv' := [(3, .int (nI 0)), (0, .ref x0), (1, .int (nI b)), (2, .int (nI i))]) hx hb dX5_rank_28 rfl hl (by decide) rfl (fun ls hl => ?_)
      refine lv_iconst (v := nI 0) hx hb dX5_rank_29 (by decide) ?_
      refine lv_istore (lv' := [(4, .int (nI 0)), (3, .int (nI 0)), (0, .ref x0), (1, .int (nI b)), (2, .int (nI i))]) hx hb dX5_rank_30 hl (by decide) rfl (fun ls hl => ?_)
      exact f_rank_L32 l D cI cC  x0 G S rd td la sp dn ro od so ga n b i g f0 o0 hn hg hso hb5 hi hC hA hK hE _ 0 0 so f0 o0 (Nat.lt_succ_self _) (Nat.zero_le _) (zcnt_none (n + 1) (fun p _ => by simp)).symm hso _ _ hP hD hS ls (lv_sub hl [2, 3, 4, 1, 0] rfl)
    · skip
      exact absurd c21 (by omega)
set_option maxHeartbeats 4000000 in
set_option maxRecDepth 100000 in
theorem f_rank0 (l : Launch) (D : va_G) (cI cC : ClassId)  (x0 G S rd td la sp dn : Nat) (ro od so ga n : Nat) (b i : Int32) (hn : n ≤ 96) (hbad : (b < 0 ∨ nI 5 < b) ∨ (i < 0 ∨ nI (n + 1) < i)) (sz : Nat) : Met l yX5_rank wsX5_rank ({ frames := 1, cells := 0, slots := 0, locals := 20 } : Room) (zPre zEn D vwCl [(cI, .int), (cC, .char)] [.ref x0, .int b, .int i] [(x0, .inr (5, [.ref G, .ref S, .ref rd, .ref td, .ref la, .ref sp, .int (nI dn)])), (S, .inr (4, [.ref G, .ref ro, .ref od, .int (nI so)])), (G, .inr (0, [.ref ga, .int (nI n)]))] sz) (va_Qi (fun (rv : Int32) (uu : Unit) => rv = (-2) ∧ True) (fun (uu : Unit) t9 => va_P D vwCl ([(x0, .inr (5, [.ref G, .ref S, .ref rd, .ref td, .ref la, .ref sp, .int (nI dn)])), (S, .inr (4, [.ref G, .ref ro, .ref od, .int (nI so)])), (G, .inr (0, [.ref ga, .int (nI n)]))]) t9.heap) (va_A [(x0, .inr (5, [.ref G, .ref S, .ref rd, .ref td, .ref la, .ref sp, .int (nI dn)])), (S, .inr (4, [.ref G, .ref ro, .ref od, .int (nI so)])), (G, .inr (0, [.ref ga, .int (nI n)]))] sz)) 0 0 (va_A [(x0, .inr (5, [.ref G, .ref S, .ref rd, .ref td, .ref la, .ref sp, .int (nI dn)])), (S, .inr (4, [.ref G, .ref ro, .ref od, .int (nI so)])), (G, .inr (0, [.ref ga, .int (nI n)]))] sz) := by
  refine zMet (cc := cX5_rank) (maxL := 5) (ret := (some .int)) (Qc := fun A => (va_Qi (fun (rv : Int32) (uu : Unit) => rv = (-2) ∧ True) (fun (uu : Unit) t9 => va_P D vwCl ([(x0, .inr (5, [.ref G, .ref S, .ref rd, .ref td, .ref la, .ref sp, .int (nI dn)])), (S, .inr (4, [.ref G, .ref ro, .ref od, .int (nI so)])), (G, .inr (0, [.ref ga, .int (nI n)]))]) t9.heap) A)) (by decide) rfl (Nat.le_of_ble_eq_true rfl) ?_
  intro pr en s0 mi bl me co A hC hA hK hE H locs hP hD hS ls hl
  obtain ⟨hx, hb, hr, hml, hown, hts, hlocks, hin⟩ := id hC
  have hl : lv_has ls 5 [(0, .ref x0), (1, .int b), (2, .int i)] := hl
  refine lv_iload_n hx hb dX5_rank_0 rfl (lv_at hl 1 rfl) ?_
  refine lv_if_lt (tgt := 24) hx hb dX5_rank_1 (by decide) (fun c1 => ?_) (fun c1 => ?_)
  · skip
    refine lv_bipush (v := (-2)) hx hb dX5_rank_24 (by decide) ?_
    exact zIret hC hS () ⟨rfl, trivial⟩ hP (vp_nar_int _) dX5_rank_26
  · skip
    refine lv_iload_n hx hb dX5_rank_4 rfl (lv_at hl 1 rfl) ?_
    refine lv_iconst (v := nI 5) hx hb dX5_rank_5 (by decide) ?_
    refine lv_icmp_gt (tgt := 24) hx hb dX5_rank_6 (by decide) (fun c6 => ?_) (fun c6 => ?_)
    · skip
      refine lv_bipush (v := (-2)) hx hb dX5_rank_24 (by decide) ?_
      exact zIret hC hS () ⟨rfl, trivial⟩ hP (vp_nar_int _) dX5_rank_26
    · skip
      refine lv_iload_n hx hb dX5_rank_9 rfl (lv_at hl 2 rfl) ?_
      refine lv_if_lt (tgt := 24) hx hb dX5_rank_10 (by decide) (fun c10 => ?_) (fun c10 => ?_)
      · skip
        refine lv_bipush (v := (-2)) hx hb dX5_rank_24 (by decide) ?_
        exact zIret hC hS () ⟨rfl, trivial⟩ hP (vp_nar_int _) dX5_rank_26
      · skip
        refine lv_iload_n hx hb dX5_rank_13 rfl (lv_at hl 2 rfl) ?_
        refine lv_aload_n hx hb dX5_rank_14 rfl (lv_at hl 0 rfl) ?_
        refine va_get (D := D) (ci := 5) (v := .ref S) (C := RX5) (T := TX5) (N := 7) hx hb hts (fun w h => List.mem_cons_of_mem _ (inUX5 w h)) hown hK hP 0 rfl rfl 1 (by decide) (hts _ (List.mem_cons_of_mem _ mw_155)) (fun _ h9 => h9) rfl dX5_rank_15 ?_
        refine zCi (is := [1, 2]) (wf := (fun (uu : Unit) => ([(S, .inr (4, [.ref G, .ref ro, .ref od, .int (nI so)])), (G, .inr (0, [.ref ga, .int (nI n)]))] : va_W))) (va_runV (As := []) (rest := [.int i]) ⟨hx, hb, hml, hown, hts⟩ (k_rows l D cI cC  S G ro od so ga n (by omega) H.size) (cwV 0 hts (zgood mw_260 mw_232 mw_233 mw_28 mw_234) rfl rfl rfl (by decide +kernel) ⟨Nat.le_of_ble_eq_true rfl, Nat.le_of_ble_eq_true rfl⟩) ⟨zBlind zEn_ok, va_recv hK hP (ci := 4) (q0 := 1) rfl rfl, zAt (av := [.ref S]) zEn_ok hP hD hK hS hA hE [1, 2] rfl (by decide)⟩ rfl rfl hl.1 rfl (lv_room (Nat.le_of_ble_eq_true rfl)) dX5_rank_18 ⟨Nat.zero_le _, Nat.zero_le _⟩) hP hD hS hA rfl (fun _ => rfl) (fun r18 u18 H locs w18 hP hD hS => ?_)
        obtain ⟨rfl, w18⟩ := w18
        have hP : va_P D vwCl [(x0, .inr (5, [.ref G, .ref S, .ref rd, .ref td, .ref la, .ref sp, .int (nI dn)])), (S, .inr (4, [.ref G, .ref ro, .ref od, .int (nI so)])), (G, .inr (0, [.ref ga, .int (nI n)]))] H := hP
        have hD : va_D A [(x0, .inr (5, [.ref G, .ref S, .ref rd, .ref td, .ref la, .ref sp, .int (nI dn)])), (S, .inr (4, [.ref G, .ref ro, .ref od, .int (nI so)])), (G, .inr (0, [.ref ga, .int (nI n)]))] := hD
        refine lv_icmp_le (tgt := 27) hx hb dX5_rank_21 (by decide) (fun c21 => ?_) (fun c21 => ?_)
        · skip
          exact absurd hbad (fun q => by rcases q with (q | q) | (q | q); exact c1 q; exact c6 q; exact c10 q; exact absurd q (Int32.not_lt.mpr c21))
        · skip
          refine lv_bipush (v := (-2)) hx hb dX5_rank_24 (by decide) ?_
          exact zIret hC hS () ⟨rfl, trivial⟩ hP (vp_nar_int _) dX5_rank_26
set_option maxHeartbeats 4000000 in
set_option maxRecDepth 100000 in
theorem f_first_L14 {pr : Program} {en : Env} {s0 : State} {mi : MethodId} {bl : List Frame} {me : Method} {co : Code} {A : Nat → Prop} (l : Launch) (D : va_G) (cI cC : ClassId)  (x0 G S rd td la sp dn : Nat) (ro od so ga n : Nat) (ra w : Nat) (g f0 o0 : Nat → Nat) (r : Nat → Nat) (hn : n ≤ 96) (hg : ∀ i, g i ≤ 4) (hso : so = 0 ∨ (so = 1 ∧ zord n g o0)) (hw : w ≤ 24) (hr3 : ∀ i, i < w → r i ≤ 3) (hC : zK pr s0 mi ([.ref x0] : List Value).toArray me co cX5_first 2 (some .int) yX5_first wsX5_first) (hA : ∀ q, s0.heap.size ≤ q → A q) (hK : va_K D vwCl [(cI, .int), (cC, .char)] s0) (hE : zEn A s0 s0.heap) :
    ∀ (N : Nat) (k so2 : Nat) (f o : Nat → Nat), n + 1 - k < N → (k ≤ n + 1) → (0 < w) → (so2 = 0 ∨ (so2 = 1 ∧ zord n g o)) → (∀ p, p ≤ n → zbef n g p < k → ¬ (0 < w ∧ p + w ≤ n ∧ zmm g r p w = 0)) → ∀ (H : Heap) (locs : List Loc), va_P D vwCl [(x0, .inr (5, [.ref G, .ref S, .ref rd, .ref td, .ref la, .ref sp, .int (nI dn)])), (S, .inr (4, [.ref G, .ref ro, .ref od, .int (nI so2)])), (G, .inr (0, [.ref ga, .int (nI n)])), (ga, .inl (cI, 96, .inl (fun jj => nI (g jj)))), (ro, .inl (cI, 97, .inl (fun jj => nI (f jj)))), (od, .inl (cI, 97, .inl (fun jj => nI (o jj)))), (rd, .inr (0, [.ref ra, .int (nI w)])), (ra, .inl (cI, 24, .inl (fun jj => nI (r jj))))] H → va_D A [(x0, .inr (5, [.ref G, .ref S, .ref rd, .ref td, .ref la, .ref sp, .int (nI dn)])), (S, .inr (4, [.ref G, .ref ro, .ref od, .int (nI so2)])), (G, .inr (0, [.ref ga, .int (nI n)])), (ga, .inl (cI, 96, .inl (fun jj => nI (g jj)))), (ro, .inl (cI, 97, .inl (fun jj => nI (f jj)))), (od, .inl (cI, 97, .inl (fun jj => nI (o jj)))), (rd, .inr (0, [.ref ra, .int (nI w)])), (ra, .inl (cI, 24, .inl (fun jj => nI (r jj))))] → va_S A s0.heap H locs → ∀ ls : Array Slot, lv_has ls 2 [(0, .ref x0), (1, .int (nI k))] → W pr l en ({ frames := 3, cells := 0, slots := 0, locals := 69 } : Room) s0 mi ([.ref x0] : List Value).toArray bl me co H locs 0 0 (MQ bl (va_Qi (fun (rv : Int32) (uu : Nat × (Nat → Nat) × (Nat → Nat)) => (uu.1 = 0 ∨ (uu.1 = 1 ∧ zord n g uu.2.2)) ∧ zfst n g (fun p => 0 < w ∧ p + w ≤ n ∧ zmm g r p w = 0) n rv) (fun (uu : Nat × (Nat → Nat) × (Nat → Nat)) t9 => va_P D vwCl ([(x0, .inr (5, [.ref G, .ref S, .ref rd, .ref td, .ref la, .ref sp, .int (nI dn)])), (S, .inr (4, [.ref G, .ref ro, .ref od, .int (nI (uu.1))])), (G, .inr (0, [.ref ga, .int (nI n)])), (ga, .inl (cI, 96, .inl (fun jj => nI (g jj)))), (ro, .inl (cI, 97, .inl (fun jj => nI (uu.2.1 jj)))), (od, .inl (cI, 97, .inl (fun jj => nI (uu.2.2 jj)))), (rd, .inr (0, [.ref ra, .int (nI w)])), (ra, .inl (cI, 24, .inl (fun jj => nI (r jj))))]) t9.heap) A) ([.ref x0] : List Value).toArray s0 0 0 A) (F0 mi 14 ls []) := by
  obtain ⟨hx, hb, hr, hml, hown, hts, hlocks, hin⟩ := id hC
  intro N
  induction N with
  | zero =>
    intro k so2 f o hmea
    omega
  | succ N ih =>
    intro k so2 f o hmea hk hw0 hso2 hno H locs hP hD hS ls hl
    refine lv_iload_n hx hb dX5_first_14 rfl (lv_at hl 1 rfl) ?_
    refine lv_aload_n hx hb dX5_first_15 rfl (lv_at hl 0 rfl) ?_
    refine va_get (D := D) (ci := 5) (v := .ref S) (C := RX5) (T := TX5) (N := 7) hx hb hts (fun w h => List.mem_cons_of_mem _ (inUX5 w h)) hown hK hP 0 rfl rfl 1 (by decide) (hts _ (List.mem_cons_of_mem _ mw_155)) (fun _ h9 => h9) rfl dX5_first_16 ?_
    refine zCi (is := [1, 2]) (wf := (fun (uu : Unit) => ([(S, .inr (4, [.ref G, .ref ro, .ref od, .int (nI so2)])), (G, .inr (0, [.ref ga, .int (nI n)]))] : va_W))) (va_runV (As := []) (rest := [.int (nI k)]) ⟨hx, hb, hml, hown, hts⟩ (k_rows l D cI cC  S G ro od so2 ga n (by omega) H.size) (cwV 0 hts (zgood mw_260 mw_232 mw_233 mw_28 mw_234) rfl rfl rfl (by decide +kernel) ⟨Nat.le_of_ble_eq_true rfl, Nat.le_of_ble_eq_true rfl⟩) ⟨zBlind zEn_ok, va_recv hK hP (ci := 4) (q0 := 1) rfl rfl, zAt (av := [.ref S]) zEn_ok hP hD hK hS hA hE [1, 2] rfl (by decide)⟩ rfl rfl hl.1 rfl (lv_room (Nat.le_of_ble_eq_true rfl)) dX5_first_19 ⟨Nat.zero_le _, Nat.zero_le _⟩) hP hD hS hA rfl (fun _ => rfl) (fun r19 u19 H locs w19 hP hD hS => ?_)
    obtain ⟨rfl, w19⟩ := w19
    have hP : va_P D vwCl [(x0, .inr (5, [.ref G, .ref S, .ref rd, .ref td, .ref la, .ref sp, .int (nI dn)])), (S, .inr (4, [.ref G, .ref ro, .ref od, .int (nI so2)])), (G, .inr (0, [.ref ga, .int (nI n)])), (ga, .inl (cI, 96, .inl (fun jj => nI (g jj)))), (ro, .inl (cI, 97, .inl (fun jj => nI (f jj)))), (od, .inl (cI, 97, .inl (fun jj => nI (o jj)))), (rd, .inr (0, [.ref ra, .int (nI w)])), (ra, .inl (cI, 24, .inl (fun jj => nI (r jj))))] H := hP
    have hD : va_D A [(x0, .inr (5, [.ref G, .ref S, .ref rd, .ref td, .ref la, .ref sp, .int (nI dn)])), (S, .inr (4, [.ref G, .ref ro, .ref od, .int (nI so2)])), (G, .inr (0, [.ref ga, .int (nI n)])), (ga, .inl (cI, 96, .inl (fun jj => nI (g jj)))), (ro, .inl (cI, 97, .inl (fun jj => nI (f jj)))), (od, .inl (cI, 97, .inl (fun jj => nI (o jj)))), (rd, .inr (0, [.ref ra, .int (nI w)])), (ra, .inl (cI, 24, .inl (fun jj => nI (r jj))))] := hD
    refine zz_ge (tgt := 55) hx hb dX5_first_22 (by decide) (by omega) (by omega) (fun c22 => ?_) (fun c22 => ?_)
    · skip
      refine lv_iconst (v := (-1)) hx hb dX5_first_55 (by decide) ?_
      exact zIret hC hS (so2, f, o) ⟨hso2, Or.inl ⟨rfl, fun p h => hno p (by omega) (by have := zbef_le (g := g) (show p ≤ n by omega); omega)⟩⟩ hP (vp_nar_int _) dX5_first_56
    · skip
      refine lv_aload_n hx hb dX5_first_25 rfl (lv_at hl 0 rfl) ?_
      refine va_get (D := D) (ci := 5) (v := .ref G) (C := RX5) (T := TX5) (N := 7) hx hb hts (fun w h => List.mem_cons_of_mem _ (inUX5 w h)) hown hK hP 0 rfl rfl 0 (by decide) (hts _ (List.mem_cons_of_mem _ mw_154)) (fun _ h9 => h9) rfl dX5_first_26 ?_
      refine lv_aload_n hx hb dX5_first_29 rfl (lv_at hl 0 rfl) ?_
      refine va_get (D := D) (ci := 5) (v := .ref S) (C := RX5) (T := TX5) (N := 7) hx hb hts (fun w h => List.mem_cons_of_mem _ (inUX5 w h)) hown hK hP 0 rfl rfl 1 (by decide) (hts _ (List.mem_cons_of_mem _ mw_155)) (fun _ h9 => h9) rfl dX5_first_30 ?_
      refine lv_iload_n hx hb dX5_first_33 rfl (lv_at hl 1 rfl) ?_
      refine zCi (is := [1, 2, 3, 4, 5]) (wf := (fun (uu : (Nat → Nat) × (Nat → Nat)) => ([(S, .inr (4, [.ref G, .ref ro, .ref od, .int (nI 1)])), (G, .inr (0, [.ref ga, .int (nI n)])), (ga, .inl (cI, 96, .inl (fun jj => nI (g jj)))), (ro, .inl (cI, 97, .inl (fun jj => nI (uu.1 jj)))), (od, .inl (cI, 97, .inl (fun jj => nI (uu.2 jj))))] : va_W))) (va_runV (As := [.int (nI k)]) (rest := [.ref G]) ⟨hx, hb, hml, hown, hts⟩ (k_placeOfRow l D cI cC  S G ro od so2 ga n k g f o (by omega) hg (by omega) hso2 H.size) (cwV 1 hts (zgood mw_235 mw_236 mw_237 mw_28 mw_238) rfl rfl rfl (by decide +kernel) ⟨Nat.le_of_ble_eq_true rfl, Nat.le_of_ble_eq_true rfl⟩) ⟨zBlind zEn_ok, va_recv hK hP (ci := 4) (q0 := 1) rfl rfl, zAt (av := [.ref S, .int (nI k)]) zEn_ok hP hD hK hS hA hE [1, 2, 3, 4, 5] rfl (by decide)⟩ rfl rfl hl.1 rfl (lv_room (Nat.le_of_ble_eq_true rfl)) dX5_first_34 ⟨Nat.zero_le _, Nat.zero_le _⟩) hP hD hS hA rfl (fun _ => rfl) (fun r34 u34 H locs w34 hP hD hS => ?_)
      obtain ⟨rfl, w34⟩ := w34
      have hP : va_P D vwCl [(x0, .inr (5, [.ref G, .ref S, .ref rd, .ref td, .ref la, .ref sp, .int (nI dn)])), (S, .inr (4, [.ref G, .ref ro, .ref od, .int (nI 1)])), (G, .inr (0, [.ref ga, .int (nI n)])), (ga, .inl (cI, 96, .inl (fun jj => nI (g jj)))), (ro, .inl (cI, 97, .inl (fun jj => nI (u34.1 jj)))), (od, .inl (cI, 97, .inl (fun jj => nI (u34.2 jj)))), (rd, .inr (0, [.ref ra, .int (nI w)])), (ra, .inl (cI, 24, .inl (fun jj => nI (r jj))))] H := hP
      have hD : va_D A [(x0, .inr (5, [.ref G, .ref S, .ref rd, .ref td, .ref la, .ref sp, .int (nI dn)])), (S, .inr (4, [.ref G, .ref ro, .ref od, .int (nI 1)])), (G, .inr (0, [.ref ga, .int (nI n)])), (ga, .inl (cI, 96, .inl (fun jj => nI (g jj)))), (ro, .inl (cI, 97, .inl (fun jj => nI (u34.1 jj)))), (od, .inl (cI, 97, .inl (fun jj => nI (u34.2 jj)))), (rd, .inr (0, [.ref ra, .int (nI w)])), (ra, .inl (cI, 24, .inl (fun jj => nI (r jj))))] := hD
      obtain ⟨z1, z2⟩ := zord_at hg hn w34 (show k ≤ n by omega)
      refine lv_aload_n hx hb dX5_first_37 rfl (lv_at hl 0 rfl) ?_
      refine va_get (D := D) (ci := 5) (v := .ref rd) (C := RX5) (T := TX5) (N := 7) hx hb hts (fun w h => List.mem_cons_of_mem _ (inUX5 w h)) hown hK hP 0 rfl rfl 2 (by decide) (hts _ (List.mem_cons_of_mem _ mw_156)) (fun _ h9 => h9) rfl dX5_first_38 ?_
      refine zCi (is := [2, 3, 6, 7]) (wf := (fun (uu : Unit) => ([(G, .inr (0, [.ref ga, .int (nI n)])), (ga, .inl (cI, 96, .inl (fun jj => nI (g jj)))), (rd, .inr (0, [.ref ra, .int (nI w)])), (ra, .inl (cI, 24, .inl (fun jj => nI (r jj))))] : va_W))) (va_runV (As := [.int (nI (u34.2 k)), .ref rd]) (rest := []) ⟨hx, hb, hml, hown, hts⟩ (k_holdsAt l D cI cC  G ga n rd ra w (u34.2 k) g r (by omega) (by omega) (by omega) hg hr3 H.size) (cwV 2 hts (zgood mw_265 mw_266 mw_267 mw_27 mw_268) rfl rfl rfl (by decide +kernel) ⟨Nat.le_of_ble_eq_true rfl, Nat.le_of_ble_eq_true rfl⟩) ⟨zBlind zE0_ok, va_recv hK hP (ci := 0) (q0 := 2) rfl rfl, zAt (av := [.ref G, .int (nI (u34.2 k)), .ref rd]) zE0_ok hP hD hK hS hA trivial [2, 3, 6, 7] rfl (by decide)⟩ rfl rfl hl.1 rfl (lv_room (Nat.le_of_ble_eq_true rfl)) dX5_first_41 ⟨Nat.zero_le _, Nat.zero_le _⟩) hP hD hS hA rfl (fun _ => rfl) (fun r41 u41 H locs w41 hP hD hS => ?_)
      obtain ⟨rfl, w41⟩ := w41
      have hP : va_P D vwCl [(x0, .inr (5, [.ref G, .ref S, .ref rd, .ref td, .ref la, .ref sp, .int (nI dn)])), (S, .inr (4, [.ref G, .ref ro, .ref od, .int (nI 1)])), (G, .inr (0, [.ref ga, .int (nI n)])), (ga, .inl (cI, 96, .inl (fun jj => nI (g jj)))), (ro, .inl (cI, 97, .inl (fun jj => nI (u34.1 jj)))), (od, .inl (cI, 97, .inl (fun jj => nI (u34.2 jj)))), (rd, .inr (0, [.ref ra, .int (nI w)])), (ra, .inl (cI, 24, .inl (fun jj => nI (r jj))))] H := hP
      have hD : va_D A [(x0, .inr (5, [.ref G, .ref S, .ref rd, .ref td, .ref la, .ref sp, .int (nI dn)])), (S, .inr (4, [.ref G, .ref ro, .ref od, .int (nI 1)])), (G, .inr (0, [.ref ga, .int (nI n)])), (ga, .inl (cI, 96, .inl (fun jj => nI (g jj)))), (ro, .inl (cI, 97, .inl (fun jj => nI (u34.1 jj)))), (od, .inl (cI, 97, .inl (fun jj => nI (u34.2 jj)))), (rd, .inr (0, [.ref ra, .int (nI w)])), (ra, .inl (cI, 24, .inl (fun jj => nI (r jj))))] := hD
      refine zz_eqb (tgt := 49) hx hb dX5_first_44 (by decide) (fun c44 => ?_) (fun c44 => ?_)
      · skip
        refine lv_iinc (v := nI (k + 1)) (lv' := [(1, .int (nI (k + 1))), (0, .ref x0)]) hx hb dX5_first_49 hl (k := 1) rfl (zincE (by omega)) (by decide) rfl (fun ls hl => ?_)
        refine lv_goto (tgt := 14) hx hb dX5_first_52 (by decide) ?_
        exact ih (k + 1) 1 u34.1 u34.2 (by omega) (by omega) hw0 (Or.inr ⟨rfl, w34⟩) (fun p h1 h2 h3 => by
          by_cases e : zbef n g p = k
          · have e2 := zbef_inj hg hn h1 z1 (e.trans z2.symm)
            exact c44 (by rw [← e2]; exact h3.2)
          · exact hno p h1 (by omega) h3) _ _ hP hD hS ls (lv_sub hl [1, 0] rfl)
      · skip
        refine lv_iload_n hx hb dX5_first_47 rfl (lv_at hl 1 rfl) ?_
        exact zIret hC hS (1, u34.1, u34.2) ⟨Or.inr ⟨rfl, w34⟩, Or.inr ⟨u34.2 k, by omega, ⟨hw0, c44.1, c44.2⟩, congrArg nI z2.symm, fun q h1 h2 => by rw [z2]; exact Nat.not_lt.mp (fun h => hno q (by omega) h h2)⟩⟩ hP (vp_nar_int _) dX5_first_48
set_option maxHeartbeats 4000000 in
set_option maxRecDepth 100000 in
theorem f_first (l : Launch) (D : va_G) (cI cC : ClassId)  (x0 G S rd td la sp dn : Nat) (ro od so ga n : Nat) (ra w : Nat) (g f0 o0 : Nat → Nat) (r : Nat → Nat) (hn : n ≤ 96) (hg : ∀ i, g i ≤ 4) (hso : so = 0 ∨ (so = 1 ∧ zord n g o0)) (hw : w ≤ 24) (hr3 : ∀ i, i < w → r i ≤ 3) (sz : Nat) : Met l yX5_first wsX5_first ({ frames := 3, cells := 0, slots := 0, locals := 69 } : Room) (zPre zEn D vwCl [(cI, .int), (cC, .char)] [.ref x0] [(x0, .inr (5, [.ref G, .ref S, .ref rd, .ref td, .ref la, .ref sp, .int (nI dn)])), (S, .inr (4, [.ref G, .ref ro, .ref od, .int (nI so)])), (G, .inr (0, [.ref ga, .int (nI n)])), (ga, .inl (cI, 96, .inl (fun jj => nI (g jj)))), (ro, .inl (cI, 97, .inl (fun jj => nI (f0 jj)))), (od, .inl (cI, 97, .inl (fun jj => nI (o0 jj)))), (rd, .inr (0, [.ref ra, .int (nI w)])), (ra, .inl (cI, 24, .inl (fun jj => nI (r jj))))] sz) (va_Qi (fun (rv : Int32) (uu : Nat × (Nat → Nat) × (Nat → Nat)) => (uu.1 = 0 ∨ (uu.1 = 1 ∧ zord n g uu.2.2)) ∧ zfst n g (fun p => 0 < w ∧ p + w ≤ n ∧ zmm g r p w = 0) n rv) (fun (uu : Nat × (Nat → Nat) × (Nat → Nat)) t9 => va_P D vwCl ([(x0, .inr (5, [.ref G, .ref S, .ref rd, .ref td, .ref la, .ref sp, .int (nI dn)])), (S, .inr (4, [.ref G, .ref ro, .ref od, .int (nI (uu.1))])), (G, .inr (0, [.ref ga, .int (nI n)])), (ga, .inl (cI, 96, .inl (fun jj => nI (g jj)))), (ro, .inl (cI, 97, .inl (fun jj => nI (uu.2.1 jj)))), (od, .inl (cI, 97, .inl (fun jj => nI (uu.2.2 jj)))), (rd, .inr (0, [.ref ra, .int (nI w)])), (ra, .inl (cI, 24, .inl (fun jj => nI (r jj))))]) t9.heap) (va_A [(x0, .inr (5, [.ref G, .ref S, .ref rd, .ref td, .ref la, .ref sp, .int (nI dn)])), (S, .inr (4, [.ref G, .ref ro, .ref od, .int (nI so)])), (G, .inr (0, [.ref ga, .int (nI n)])), (ga, .inl (cI, 96, .inl (fun jj => nI (g jj)))), (ro, .inl (cI, 97, .inl (fun jj => nI (f0 jj)))), (od, .inl (cI, 97, .inl (fun jj => nI (o0 jj)))), (rd, .inr (0, [.ref ra, .int (nI w)])), (ra, .inl (cI, 24, .inl (fun jj => nI (r jj))))] sz)) 0 0 (va_A [(x0, .inr (5, [.ref G, .ref S, .ref rd, .ref td, .ref la, .ref sp, .int (nI dn)])), (S, .inr (4, [.ref G, .ref ro, .ref od, .int (nI so)])), (G, .inr (0, [.ref ga, .int (nI n)])), (ga, .inl (cI, 96, .inl (fun jj => nI (g jj)))), (ro, .inl (cI, 97, .inl (fun jj => nI (f0 jj)))), (od, .inl (cI, 97, .inl (fun jj => nI (o0 jj)))), (rd, .inr (0, [.ref ra, .int (nI w)])), (ra, .inl (cI, 24, .inl (fun jj => nI (r jj))))] sz) := by
  refine zMet (cc := cX5_first) (maxL := 2) (ret := (some .int)) (Qc := fun A => (va_Qi (fun (rv : Int32) (uu : Nat × (Nat → Nat) × (Nat → Nat)) => (uu.1 = 0 ∨ (uu.1 = 1 ∧ zord n g uu.2.2)) ∧ zfst n g (fun p => 0 < w ∧ p + w ≤ n ∧ zmm g r p w = 0) n rv) (fun (uu : Nat × (Nat → Nat) × (Nat → Nat)) t9 => va_P D vwCl ([(x0, .inr (5, [.ref G, .ref S, .ref rd, .ref td, .ref la, .ref sp, .int (nI dn)])), (S, .inr (4, [.ref G, .ref ro, .ref od, .int (nI (uu.1))])), (G, .inr (0, [.ref ga, .int (nI n)])), (ga, .inl (cI, 96, .inl (fun jj => nI (g jj)))), (ro, .inl (cI, 97, .inl (fun jj => nI (uu.2.1 jj)))), (od, .inl (cI, 97, .inl (fun jj => nI (uu.2.2 jj)))), (rd, .inr (0, [.ref ra, .int (nI w)])), (ra, .inl (cI, 24, .inl (fun jj => nI (r jj))))]) t9.heap) A)) (by decide) rfl (Nat.le_of_ble_eq_true rfl) ?_
  intro pr en s0 mi bl me co A hC hA hK hE H locs hP hD hS ls hl
  obtain ⟨hx, hb, hr, hml, hown, hts, hlocks, hin⟩ := id hC
  have hl : lv_has ls 2 [(0, .ref x0)] := hl
  refine lv_aload_n hx hb dX5_first_0 rfl (lv_at hl 0 rfl) ?_
  refine va_get (D := D) (ci := 5) (v := .ref rd) (C := RX5) (T := TX5) (N := 7) hx hb hts (fun w h => List.mem_cons_of_mem _ (inUX5 w h)) hown hK hP 0 rfl rfl 2 (by decide) (hts _ (List.mem_cons_of_mem _ mw_156)) (fun _ h9 => h9) rfl dX5_first_1 ?_
  refine va_getN (D := D) (ci := 0) (v := .int (nI w)) (C := RX0) (T := TX0) (N := 2) hx hb hts (fun w h => List.mem_cons_of_mem _ (inUX0 w h)) hown hK hP 6 rfl rfl 1 (by decide) (va_Nw.use rfl (hE.1 ("StrandMapper", 63, "StrandMapper$Bases", "used", "I", "StrandMapper") (by decide +kernel))) (fun _ h9 => h9) rfl dX5_first_4 ?_
  refine zz_ne0 (tgt := 12) hx hb dX5_first_7 (by decide) (by omega) (fun c7 => ?_) (fun c7 => ?_)
  · skip
    refine lv_iconst (v := nI 0) hx hb dX5_first_12 (by decide) ?_
    refine lv_istore_n (lv' := [(1, .int (nI 0)), (0, .ref x0)]) hx hb dX5_first_13 rfl hl (by decide) rfl (fun ls hl => ?_)
    exact f_first_L14 l D cI cC  x0 G S rd td la sp dn ro od so ga n ra w g f0 o0 r hn hg hso hw hr3 hC hA hK hE _ 0 so f0 o0 (Nat.lt_succ_self _) (Nat.zero_le _) (by omega) hso (fun p h1 h2 => absurd h2 (Nat.not_lt_zero _)) _ _ hP hD hS ls (lv_sub hl [1, 0] rfl)
  · skip
    refine lv_iconst (v := (-1)) hx hb dX5_first_10 (by decide) ?_
    exact zIret hC hS (so, f0, o0) ⟨hso, Or.inl ⟨rfl, fun p _ q => by omega⟩⟩ hP (vp_nar_int _) dX5_first_11
set_option maxHeartbeats 4000000 in
set_option maxRecDepth 100000 in
theorem f_count_L16 {pr : Program} {en : Env} {s0 : State} {mi : MethodId} {bl : List Frame} {me : Method} {co : Code} {A : Nat → Prop} (l : Launch) (D : va_G) (cI cC : ClassId)  (x0 G S rd td la sp dn : Nat) (ga n : Nat) (ra w : Nat) (g : Nat → Nat) (r : Nat → Nat) (hn : n ≤ 96) (hg : ∀ i, g i ≤ 4) (hw : w ≤ 24) (hr3 : ∀ i, i < w → r i ≤ 3) (hC : zK pr s0 mi ([.ref x0] : List Value).toArray me co cX5_count 3 (some .int) yX5_count wsX5_count) (hA : ∀ q, s0.heap.size ≤ q → A q) (hK : va_K D vwCl [(cI, .int), (cC, .char)] s0) (hE : zEn A s0 s0.heap) :
    ∀ (N : Nat) (k x : Nat), n - k < N → (k ≤ n) → (0 < w) → (x = zcnt (fun p => decide (0 < w ∧ p + w ≤ n ∧ zmm g r p w = 0)) k) → ∀ (H : Heap) (locs : List Loc), va_P D vwCl [(x0, .inr (5, [.ref G, .ref S, .ref rd, .ref td, .ref la, .ref sp, .int (nI dn)])), (G, .inr (0, [.ref ga, .int (nI n)])), (ga, .inl (cI, 96, .inl (fun jj => nI (g jj)))), (rd, .inr (0, [.ref ra, .int (nI w)])), (ra, .inl (cI, 24, .inl (fun jj => nI (r jj))))] H → va_D A [(x0, .inr (5, [.ref G, .ref S, .ref rd, .ref td, .ref la, .ref sp, .int (nI dn)])), (G, .inr (0, [.ref ga, .int (nI n)])), (ga, .inl (cI, 96, .inl (fun jj => nI (g jj)))), (rd, .inr (0, [.ref ra, .int (nI w)])), (ra, .inl (cI, 24, .inl (fun jj => nI (r jj))))] → va_S A s0.heap H locs → ∀ ls : Array Slot, lv_has ls 3 [(0, .ref x0), (1, .int (nI x)), (2, .int (nI k))] → W pr l en ({ frames := 2, cells := 0, slots := 0, locals := 47 } : Room) s0 mi ([.ref x0] : List Value).toArray bl me co H locs 0 0 (MQ bl (va_Qi (fun (rv : Int32) (uu : Unit) => rv = nI (zcnt (fun p => decide (0 < w ∧ p + w ≤ n ∧ zmm g r p w = 0)) n) ∧ True) (fun (uu : Unit) t9 => va_P D vwCl ([(x0, .inr (5, [.ref G, .ref S, .ref rd, .ref td, .ref la, .ref sp, .int (nI dn)])), (G, .inr (0, [.ref ga, .int (nI n)])), (ga, .inl (cI, 96, .inl (fun jj => nI (g jj)))), (rd, .inr (0, [.ref ra, .int (nI w)])), (ra, .inl (cI, 24, .inl (fun jj => nI (r jj))))]) t9.heap) A) ([.ref x0] : List Value).toArray s0 0 0 A) (F0 mi 16 ls []) := by
  obtain ⟨hx, hb, hr, hml, hown, hts, hlocks, hin⟩ := id hC
  intro N
  induction N with
  | zero =>
    intro k x hmea
    omega
  | succ N ih =>
    intro k x hmea hk hw0 hx1 H locs hP hD hS ls hl
    refine lv_iload_n hx hb dX5_count_16 rfl (lv_at hl 2 rfl) ?_
    refine lv_aload_n hx hb dX5_count_17 rfl (lv_at hl 0 rfl) ?_
    refine va_get (D := D) (ci := 5) (v := .ref G) (C := RX5) (T := TX5) (N := 7) hx hb hts (fun w h => List.mem_cons_of_mem _ (inUX5 w h)) hown hK hP 0 rfl rfl 0 (by decide) (hts _ (List.mem_cons_of_mem _ mw_154)) (fun _ h9 => h9) rfl dX5_count_18 ?_
    refine va_getN (D := D) (ci := 0) (v := .int (nI n)) (C := RX0) (T := TX0) (N := 2) hx hb hts (fun w h => List.mem_cons_of_mem _ (inUX0 w h)) hown hK hP 1 rfl rfl 1 (by decide) (va_Nw.use rfl (hE.1 ("StrandMapper", 63, "StrandMapper$Bases", "used", "I", "StrandMapper") (by decide +kernel))) (fun _ h9 => h9) rfl dX5_count_21 ?_
    refine zz_ge (tgt := 51) hx hb dX5_count_24 (by decide) (by omega) (by omega) (fun c24 => ?_) (fun c24 => ?_)
    · skip
      refine lv_iload_n hx hb dX5_count_51 rfl (lv_at hl 1 rfl) ?_
      exact zIret hC hS () ⟨congrArg nI (by rw [hx1, show k = n by omega]), trivial⟩ hP (vp_nar_int _) dX5_count_52
    · skip
      refine lv_aload_n hx hb dX5_count_27 rfl (lv_at hl 0 rfl) ?_
      refine va_get (D := D) (ci := 5) (v := .ref G) (C := RX5) (T := TX5) (N := 7) hx hb hts (fun w h => List.mem_cons_of_mem _ (inUX5 w h)) hown hK hP 0 rfl rfl 0 (by decide) (hts _ (List.mem_cons_of_mem _ mw_154)) (fun _ h9 => h9) rfl dX5_count_28 ?_
      refine lv_iload_n hx hb dX5_count_31 rfl (lv_at hl 2 rfl) ?_
      refine lv_aload_n hx hb dX5_count_32 rfl (lv_at hl 0 rfl) ?_
      refine va_get (D := D) (ci := 5) (v := .ref rd) (C := RX5) (T := TX5) (N := 7) hx hb hts (fun w h => List.mem_cons_of_mem _ (inUX5 w h)) hown hK hP 0 rfl rfl 2 (by decide) (hts _ (List.mem_cons_of_mem _ mw_156)) (fun _ h9 => h9) rfl dX5_count_33 ?_
      refine zCi (is := [1, 2, 3, 4]) (wf := (fun (uu : Unit) => ([(G, .inr (0, [.ref ga, .int (nI n)])), (ga, .inl (cI, 96, .inl (fun jj => nI (g jj)))), (rd, .inr (0, [.ref ra, .int (nI w)])), (ra, .inl (cI, 24, .inl (fun jj => nI (r jj))))] : va_W))) (va_runV (As := [.int (nI k), .ref rd]) (rest := []) ⟨hx, hb, hml, hown, hts⟩ (k_holdsAt l D cI cC  G ga n rd ra w k g r (by omega) (by omega) (by omega) hg hr3 H.size) (cwV 2 hts (zgood mw_265 mw_266 mw_267 mw_27 mw_268) rfl rfl rfl (by decide +kernel) ⟨Nat.le_of_ble_eq_true rfl, Nat.le_of_ble_eq_true rfl⟩) ⟨zBlind zE0_ok, va_recv hK hP (ci := 0) (q0 := 1) rfl rfl, zAt (av := [.ref G, .int (nI k), .ref rd]) zE0_ok hP hD hK hS hA trivial [1, 2, 3, 4] rfl (by decide)⟩ rfl rfl hl.1 rfl (lv_room (Nat.le_of_ble_eq_true rfl)) dX5_count_36 ⟨Nat.zero_le _, Nat.zero_le _⟩) hP hD hS hA rfl (fun _ => rfl) (fun r36 u36 H locs w36 hP hD hS => ?_)
      obtain ⟨rfl, w36⟩ := w36
      have hP : va_P D vwCl [(x0, .inr (5, [.ref G, .ref S, .ref rd, .ref td, .ref la, .ref sp, .int (nI dn)])), (G, .inr (0, [.ref ga, .int (nI n)])), (ga, .inl (cI, 96, .inl (fun jj => nI (g jj)))), (rd, .inr (0, [.ref ra, .int (nI w)])), (ra, .inl (cI, 24, .inl (fun jj => nI (r jj))))] H := hP
      have hD : va_D A [(x0, .inr (5, [.ref G, .ref S, .ref rd, .ref td, .ref la, .ref sp, .int (nI dn)])), (G, .inr (0, [.ref ga, .int (nI n)])), (ga, .inl (cI, 96, .inl (fun jj => nI (g jj)))), (rd, .inr (0, [.ref ra, .int (nI w)])), (ra, .inl (cI, 24, .inl (fun jj => nI (r jj))))] := hD
      refine zz_eqb (tgt := 45) hx hb dX5_count_39 (by decide) (fun c39 => ?_) (fun c39 => ?_)
      · skip
        refine lv_iinc (v := nI (k + 1)) (lv' := [(2, .int (nI (k + 1))), (0, .ref x0), (1, .int (nI x))]) hx hb dX5_count_45 hl (k := 2) rfl (zincE (by omega)) (by decide) rfl (fun ls hl => ?_)
        refine lv_goto (tgt := 16) hx hb dX5_count_48 (by decide) ?_
        exact ih (k + 1) x (by omega) (by omega) hw0 (by rw [zcnt_f (by simp only [decide_eq_true_eq]; exact fun q => c39 q.2)]; omega) _ _ hP hD hS ls (lv_sub hl [1, 2, 0] rfl)
      · skip
        refine lv_iinc (v := nI (x + 1)) (lv' := [(1, .int (nI (x + 1))), (0, .ref x0), (2, .int (nI k))]) hx hb dX5_count_42 hl (k := 1) rfl (zincE (by omega)) (by decide) rfl (fun ls hl => ?_)
        refine lv_iinc (v := nI (k + 1)) (lv' := [(2, .int (nI (k + 1))), (1, .int (nI (x + 1))), (0, .ref x0)]) hx hb dX5_count_45 hl (k := 2) rfl (zincE (by omega)) (by decide) rfl (fun ls hl => ?_)
        refine lv_goto (tgt := 16) hx hb dX5_count_48 (by decide) ?_
        exact ih (k + 1) (x + 1) (by omega) (by omega) hw0 (by rw [zcnt_t (by simpa using ⟨hw0, c39⟩)]; omega) _ _ hP hD hS ls (lv_sub hl [2, 1, 0] rfl)
set_option maxHeartbeats 4000000 in
set_option maxRecDepth 100000 in
theorem f_count (l : Launch) (D : va_G) (cI cC : ClassId)  (x0 G S rd td la sp dn : Nat) (ga n : Nat) (ra w : Nat) (g : Nat → Nat) (r : Nat → Nat) (hn : n ≤ 96) (hg : ∀ i, g i ≤ 4) (hw : w ≤ 24) (hr3 : ∀ i, i < w → r i ≤ 3) (sz : Nat) : Met l yX5_count wsX5_count ({ frames := 2, cells := 0, slots := 0, locals := 47 } : Room) (zPre zEn D vwCl [(cI, .int), (cC, .char)] [.ref x0] [(x0, .inr (5, [.ref G, .ref S, .ref rd, .ref td, .ref la, .ref sp, .int (nI dn)])), (G, .inr (0, [.ref ga, .int (nI n)])), (ga, .inl (cI, 96, .inl (fun jj => nI (g jj)))), (rd, .inr (0, [.ref ra, .int (nI w)])), (ra, .inl (cI, 24, .inl (fun jj => nI (r jj))))] sz) (va_Qi (fun (rv : Int32) (uu : Unit) => rv = nI (zcnt (fun p => decide (0 < w ∧ p + w ≤ n ∧ zmm g r p w = 0)) n) ∧ True) (fun (uu : Unit) t9 => va_P D vwCl ([(x0, .inr (5, [.ref G, .ref S, .ref rd, .ref td, .ref la, .ref sp, .int (nI dn)])), (G, .inr (0, [.ref ga, .int (nI n)])), (ga, .inl (cI, 96, .inl (fun jj => nI (g jj)))), (rd, .inr (0, [.ref ra, .int (nI w)])), (ra, .inl (cI, 24, .inl (fun jj => nI (r jj))))]) t9.heap) (va_A [(x0, .inr (5, [.ref G, .ref S, .ref rd, .ref td, .ref la, .ref sp, .int (nI dn)])), (G, .inr (0, [.ref ga, .int (nI n)])), (ga, .inl (cI, 96, .inl (fun jj => nI (g jj)))), (rd, .inr (0, [.ref ra, .int (nI w)])), (ra, .inl (cI, 24, .inl (fun jj => nI (r jj))))] sz)) 0 0 (va_A [(x0, .inr (5, [.ref G, .ref S, .ref rd, .ref td, .ref la, .ref sp, .int (nI dn)])), (G, .inr (0, [.ref ga, .int (nI n)])), (ga, .inl (cI, 96, .inl (fun jj => nI (g jj)))), (rd, .inr (0, [.ref ra, .int (nI w)])), (ra, .inl (cI, 24, .inl (fun jj => nI (r jj))))] sz) := by
  refine zMet (cc := cX5_count) (maxL := 3) (ret := (some .int)) (Qc := fun A => (va_Qi (fun (rv : Int32) (uu : Unit) => rv = nI (zcnt (fun p => decide (0 < w ∧ p + w ≤ n ∧ zmm g r p w = 0)) n) ∧ True) (fun (uu : Unit) t9 => va_P D vwCl ([(x0, .inr (5, [.ref G, .ref S, .ref rd, .ref td, .ref la, .ref sp, .int (nI dn)])), (G, .inr (0, [.ref ga, .int (nI n)])), (ga, .inl (cI, 96, .inl (fun jj => nI (g jj)))), (rd, .inr (0, [.ref ra, .int (nI w)])), (ra, .inl (cI, 24, .inl (fun jj => nI (r jj))))]) t9.heap) A)) (by decide) rfl (Nat.le_of_ble_eq_true rfl) ?_
  intro pr en s0 mi bl me co A hC hA hK hE H locs hP hD hS ls hl
  obtain ⟨hx, hb, hr, hml, hown, hts, hlocks, hin⟩ := id hC
  have hl : lv_has ls 3 [(0, .ref x0)] := hl
  refine lv_aload_n hx hb dX5_count_0 rfl (lv_at hl 0 rfl) ?_
  refine va_get (D := D) (ci := 5) (v := .ref rd) (C := RX5) (T := TX5) (N := 7) hx hb hts (fun w h => List.mem_cons_of_mem _ (inUX5 w h)) hown hK hP 0 rfl rfl 2 (by decide) (hts _ (List.mem_cons_of_mem _ mw_156)) (fun _ h9 => h9) rfl dX5_count_1 ?_
  refine va_getN (D := D) (ci := 0) (v := .int (nI w)) (C := RX0) (T := TX0) (N := 2) hx hb hts (fun w h => List.mem_cons_of_mem _ (inUX0 w h)) hown hK hP 3 rfl rfl 1 (by decide) (va_Nw.use rfl (hE.1 ("StrandMapper", 63, "StrandMapper$Bases", "used", "I", "StrandMapper") (by decide +kernel))) (fun _ h9 => h9) rfl dX5_count_4 ?_
  refine zz_ne0 (tgt := 12) hx hb dX5_count_7 (by decide) (by omega) (fun c7 => ?_) (fun c7 => ?_)
  · skip
    refine lv_iconst (v := nI 0) hx hb dX5_count_12 (by decide) ?_
    refine lv_istore_n (lv' := [(1, .int (nI 0)), (0, .ref x0)]) hx hb dX5_count_13 rfl hl (by decide) rfl (fun ls hl => ?_)
    refine lv_iconst (v := nI 0) hx hb dX5_count_14 (by decide) ?_
    refine lv_istore_n (lv' := [(2, .int (nI 0)), (1, .int (nI 0)), (0, .ref x0)]) hx hb dX5_count_15 rfl hl (by decide) rfl (fun ls hl => ?_)
    exact f_count_L16 l D cI cC  x0 G S rd td la sp dn ga n ra w g r hn hg hw hr3 hC hA hK hE _ 0 0 (Nat.lt_succ_self _) (Nat.zero_le _) (by omega) rfl _ _ hP hD hS ls (lv_sub hl [2, 1, 0] rfl)
  · skip
    refine lv_iconst (v := nI 0) hx hb dX5_count_10 (by decide) ?_
    exact zIret hC hS () ⟨congrArg nI (zcnt_none n (fun p _ => by simp only [decide_eq_true_eq]; omega)).symm, trivial⟩ hP (vp_nar_int _) dX5_count_11
set_option maxHeartbeats 4000000 in
set_option maxRecDepth 100000 in
theorem f_hits (l : Launch) (D : va_G) (cI cC : ClassId)  (x0 G S rd td la sp dn : Nat) (fd tx pA sA mA am ag : Nat) (pr : Int32)  (sz : Nat) : Met l yX5_hits wsX5_hits ({ frames := 0, cells := 0, slots := 0, locals := 0 } : Room) (zPre zEn D vwCl [(cI, .int), (cC, .char)] [.ref x0] [(x0, .inr (5, [.ref G, .ref S, .ref rd, .ref td, .ref la, .ref sp, .int (nI dn)])), (la, .inr (3, [.ref fd, .ref tx])), (fd, .inr (1, [.ref pA, .ref sA, .ref mA, .int (nI am), .int pr, .int (nI ag)]))] sz) (va_Qi (fun (rv : Int32) (uu : Unit) => rv = nI am ∧ True) (fun (uu : Unit) t9 => va_P D vwCl ([(x0, .inr (5, [.ref G, .ref S, .ref rd, .ref td, .ref la, .ref sp, .int (nI dn)])), (la, .inr (3, [.ref fd, .ref tx])), (fd, .inr (1, [.ref pA, .ref sA, .ref mA, .int (nI am), .int pr, .int (nI ag)]))]) t9.heap) (va_A [(x0, .inr (5, [.ref G, .ref S, .ref rd, .ref td, .ref la, .ref sp, .int (nI dn)])), (la, .inr (3, [.ref fd, .ref tx])), (fd, .inr (1, [.ref pA, .ref sA, .ref mA, .int (nI am), .int pr, .int (nI ag)]))] sz)) 0 0 (va_A [(x0, .inr (5, [.ref G, .ref S, .ref rd, .ref td, .ref la, .ref sp, .int (nI dn)])), (la, .inr (3, [.ref fd, .ref tx])), (fd, .inr (1, [.ref pA, .ref sA, .ref mA, .int (nI am), .int pr, .int (nI ag)]))] sz) := by
  refine zMet (cc := cX5_hits) (maxL := 1) (ret := (some .int)) (Qc := fun A => (va_Qi (fun (rv : Int32) (uu : Unit) => rv = nI am ∧ True) (fun (uu : Unit) t9 => va_P D vwCl ([(x0, .inr (5, [.ref G, .ref S, .ref rd, .ref td, .ref la, .ref sp, .int (nI dn)])), (la, .inr (3, [.ref fd, .ref tx])), (fd, .inr (1, [.ref pA, .ref sA, .ref mA, .int (nI am), .int pr, .int (nI ag)]))]) t9.heap) A)) (by decide) rfl (Nat.le_of_ble_eq_true rfl) ?_
  intro pr en s0 mi bl me co A hC hA hK hE H locs hP hD hS ls hl
  obtain ⟨hx, hb, hr, hml, hown, hts, hlocks, hin⟩ := id hC
  have hl : lv_has ls 1 [(0, .ref x0)] := hl
  refine lv_aload_n hx hb dX5_hits_0 rfl (lv_at hl 0 rfl) ?_
  refine va_get (D := D) (ci := 5) (v := .ref la) (C := RX5) (T := TX5) (N := 7) hx hb hts (fun w h => List.mem_cons_of_mem _ (inUX5 w h)) hown hK hP 0 rfl rfl 4 (by decide) (hts _ (List.mem_cons_of_mem _ mw_158)) (fun _ h9 => h9) rfl dX5_hits_1 ?_
  refine va_getN (D := D) (ci := 3) (v := .ref fd) (C := RX3) (T := TX3) (N := 2) hx hb hts (fun w h => List.mem_cons_of_mem _ (inUX3 w h)) hown hK hP 1 rfl rfl 0 (by decide) (va_Nw.use rfl (hE.1 ("StrandMapper", 101, "StrandMapper$Mapping", "found", "LStrandMapper$HitList;", "StrandMapper") (by decide +kernel))) (fun _ h9 => h9) rfl dX5_hits_4 ?_
  refine va_getN (D := D) (ci := 1) (v := .int (nI am)) (C := RX1) (T := TX1) (N := 6) hx hb hts (fun w h => List.mem_cons_of_mem _ (inUX1 w h)) hown hK hP 2 rfl rfl 3 (by decide) (va_Nw.use rfl (hE.1 ("StrandMapper", 105, "StrandMapper$HitList", "amount", "I", "StrandMapper") (by decide +kernel))) (fun _ h9 => h9) rfl dX5_hits_7 ?_
  exact zIret hC hS () ⟨rfl, trivial⟩ hP (vp_nar_int _) dX5_hits_10
set_option maxHeartbeats 4000000 in
set_option maxRecDepth 100000 in
theorem f_size (l : Launch) (D : va_G) (cI cC : ClassId)  (x0 G S rd td la sp dn : Nat) (fd tx ca le : Nat)  (sz : Nat) : Met l yX5_size wsX5_size ({ frames := 0, cells := 0, slots := 0, locals := 0 } : Room) (zPre zEn D vwCl [(cI, .int), (cC, .char)] [.ref x0] [(x0, .inr (5, [.ref G, .ref S, .ref rd, .ref td, .ref la, .ref sp, .int (nI dn)])), (la, .inr (3, [.ref fd, .ref tx])), (tx, .inr (2, [.ref ca, .int (nI le)]))] sz) (va_Qi (fun (rv : Int32) (uu : Unit) => rv = nI le ∧ True) (fun (uu : Unit) t9 => va_P D vwCl ([(x0, .inr (5, [.ref G, .ref S, .ref rd, .ref td, .ref la, .ref sp, .int (nI dn)])), (la, .inr (3, [.ref fd, .ref tx])), (tx, .inr (2, [.ref ca, .int (nI le)]))]) t9.heap) (va_A [(x0, .inr (5, [.ref G, .ref S, .ref rd, .ref td, .ref la, .ref sp, .int (nI dn)])), (la, .inr (3, [.ref fd, .ref tx])), (tx, .inr (2, [.ref ca, .int (nI le)]))] sz)) 0 0 (va_A [(x0, .inr (5, [.ref G, .ref S, .ref rd, .ref td, .ref la, .ref sp, .int (nI dn)])), (la, .inr (3, [.ref fd, .ref tx])), (tx, .inr (2, [.ref ca, .int (nI le)]))] sz) := by
  refine zMet (cc := cX5_size) (maxL := 1) (ret := (some .int)) (Qc := fun A => (va_Qi (fun (rv : Int32) (uu : Unit) => rv = nI le ∧ True) (fun (uu : Unit) t9 => va_P D vwCl ([(x0, .inr (5, [.ref G, .ref S, .ref rd, .ref td, .ref la, .ref sp, .int (nI dn)])), (la, .inr (3, [.ref fd, .ref tx])), (tx, .inr (2, [.ref ca, .int (nI le)]))]) t9.heap) A)) (by decide) rfl (Nat.le_of_ble_eq_true rfl) ?_
  intro pr en s0 mi bl me co A hC hA hK hE H locs hP hD hS ls hl
  obtain ⟨hx, hb, hr, hml, hown, hts, hlocks, hin⟩ := id hC
  have hl : lv_has ls 1 [(0, .ref x0)] := hl
  refine lv_aload_n hx hb dX5_size_0 rfl (lv_at hl 0 rfl) ?_
  refine va_get (D := D) (ci := 5) (v := .ref la) (C := RX5) (T := TX5) (N := 7) hx hb hts (fun w h => List.mem_cons_of_mem _ (inUX5 w h)) hown hK hP 0 rfl rfl 4 (by decide) (hts _ (List.mem_cons_of_mem _ mw_158)) (fun _ h9 => h9) rfl dX5_size_1 ?_
  refine va_getN (D := D) (ci := 3) (v := .ref tx) (C := RX3) (T := TX3) (N := 2) hx hb hts (fun w h => List.mem_cons_of_mem _ (inUX3 w h)) hown hK hP 1 rfl rfl 1 (by decide) (va_Nw.use rfl (hE.1 ("StrandMapper", 92, "StrandMapper$Mapping", "text", "LStrandMapper$MapText;", "StrandMapper") (by decide +kernel))) (fun _ h9 => h9) rfl dX5_size_4 ?_
  refine va_getN (D := D) (ci := 2) (v := .int (nI le)) (C := RX2) (T := TX2) (N := 2) hx hb hts (fun w h => List.mem_cons_of_mem _ (inUX2 w h)) hown hK hP 2 rfl rfl 1 (by decide) (va_Nw.use rfl (hE.1 ("StrandMapper", 123, "StrandMapper$MapText", "written", "I", "StrandMapper") (by decide +kernel))) (fun _ h9 => h9) rfl dX5_size_7 ?_
  exact zIret hC hS () ⟨rfl, trivial⟩ hP (vp_nar_int _) dX5_size_10
set_option maxHeartbeats 4000000 in
set_option maxRecDepth 100000 in
theorem f_mappings (l : Launch) (D : va_G) (cI cC : ClassId)  (x0 G S rd td la sp dn : Nat)  (sz : Nat) : Met l yX5_mappings wsX5_mappings ({ frames := 0, cells := 0, slots := 0, locals := 0 } : Room) (zPre zEn D vwCl [(cI, .int), (cC, .char)] [.ref x0] [(x0, .inr (5, [.ref G, .ref S, .ref rd, .ref td, .ref la, .ref sp, .int (nI dn)]))] sz) (va_Qi (fun (rv : Int32) (uu : Unit) => rv = nI dn ∧ True) (fun (uu : Unit) t9 => va_P D vwCl ([(x0, .inr (5, [.ref G, .ref S, .ref rd, .ref td, .ref la, .ref sp, .int (nI dn)]))]) t9.heap) (va_A [(x0, .inr (5, [.ref G, .ref S, .ref rd, .ref td, .ref la, .ref sp, .int (nI dn)]))] sz)) 0 0 (va_A [(x0, .inr (5, [.ref G, .ref S, .ref rd, .ref td, .ref la, .ref sp, .int (nI dn)]))] sz) := by
  refine zMet (cc := cX5_mappings) (maxL := 1) (ret := (some .int)) (Qc := fun A => (va_Qi (fun (rv : Int32) (uu : Unit) => rv = nI dn ∧ True) (fun (uu : Unit) t9 => va_P D vwCl ([(x0, .inr (5, [.ref G, .ref S, .ref rd, .ref td, .ref la, .ref sp, .int (nI dn)]))]) t9.heap) A)) (by decide) rfl (Nat.le_of_ble_eq_true rfl) ?_
  intro pr en s0 mi bl me co A hC hA hK hE H locs hP hD hS ls hl
  obtain ⟨hx, hb, hr, hml, hown, hts, hlocks, hin⟩ := id hC
  have hl : lv_has ls 1 [(0, .ref x0)] := hl
  refine lv_aload_n hx hb dX5_mappings_0 rfl (lv_at hl 0 rfl) ?_
  refine va_get (D := D) (ci := 5) (v := .int (nI dn)) (C := RX5) (T := TX5) (N := 7) hx hb hts (fun w h => List.mem_cons_of_mem _ (inUX5 w h)) hown hK hP 0 rfl rfl 6 (by decide) (hts _ (List.mem_cons_of_mem _ mw_160)) (fun _ h9 => h9) rfl dX5_mappings_1 ?_
  exact zIret hC hS () ⟨rfl, trivial⟩ hP (vp_nar_int _) dX5_mappings_4
set_option maxHeartbeats 4000000 in
set_option maxRecDepth 100000 in
theorem f_at (l : Launch) (D : va_G) (cI cC : ClassId)  (x0 G S rd td la sp dn : Nat) (fd tx ca le k : Nat) (ln : Nat → Nat) (hle : le ≤ 1500) (hk : k < le) (sz : Nat) : Met l yX5_at wsX5_at ({ frames := 0, cells := 0, slots := 0, locals := 0 } : Room) (zPre zEn D vwCl [(cI, .int), (cC, .char)] [.ref x0, .int (nI k)] [(x0, .inr (5, [.ref G, .ref S, .ref rd, .ref td, .ref la, .ref sp, .int (nI dn)])), (la, .inr (3, [.ref fd, .ref tx])), (tx, .inr (2, [.ref ca, .int (nI le)])), (ca, .inl (cC, 1500, .inl (fun jj => nI (ln jj))))] sz) (va_Qi (fun (rv : Int32) (uu : Unit) => rv = nI (ln k) ∧ True) (fun (uu : Unit) t9 => va_P D vwCl ([(x0, .inr (5, [.ref G, .ref S, .ref rd, .ref td, .ref la, .ref sp, .int (nI dn)])), (la, .inr (3, [.ref fd, .ref tx])), (tx, .inr (2, [.ref ca, .int (nI le)])), (ca, .inl (cC, 1500, .inl (fun jj => nI (ln jj))))]) t9.heap) (va_A [(x0, .inr (5, [.ref G, .ref S, .ref rd, .ref td, .ref la, .ref sp, .int (nI dn)])), (la, .inr (3, [.ref fd, .ref tx])), (tx, .inr (2, [.ref ca, .int (nI le)])), (ca, .inl (cC, 1500, .inl (fun jj => nI (ln jj))))] sz)) 0 0 (va_A [(x0, .inr (5, [.ref G, .ref S, .ref rd, .ref td, .ref la, .ref sp, .int (nI dn)])), (la, .inr (3, [.ref fd, .ref tx])), (tx, .inr (2, [.ref ca, .int (nI le)])), (ca, .inl (cC, 1500, .inl (fun jj => nI (ln jj))))] sz) := by
  refine zMet (cc := cX5_at) (maxL := 3) (ret := (some .int)) (Qc := fun A => (va_Qi (fun (rv : Int32) (uu : Unit) => rv = nI (ln k) ∧ True) (fun (uu : Unit) t9 => va_P D vwCl ([(x0, .inr (5, [.ref G, .ref S, .ref rd, .ref td, .ref la, .ref sp, .int (nI dn)])), (la, .inr (3, [.ref fd, .ref tx])), (tx, .inr (2, [.ref ca, .int (nI le)])), (ca, .inl (cC, 1500, .inl (fun jj => nI (ln jj))))]) t9.heap) A)) (by decide) rfl (Nat.le_of_ble_eq_true rfl) ?_
  intro pr en s0 mi bl me co A hC hA hK hE H locs hP hD hS ls hl
  obtain ⟨hx, hb, hr, hml, hown, hts, hlocks, hin⟩ := id hC
  have hl : lv_has ls 3 [(0, .ref x0), (1, .int (nI k))] := hl
  refine lv_aload_n hx hb dX5_at_0 rfl (lv_at hl 0 rfl) ?_
  refine va_get (D := D) (ci := 5) (v := .ref la) (C := RX5) (T := TX5) (N := 7) hx hb hts (fun w h => List.mem_cons_of_mem _ (inUX5 w h)) hown hK hP 0 rfl rfl 4 (by decide) (hts _ (List.mem_cons_of_mem _ mw_158)) (fun _ h9 => h9) rfl dX5_at_1 ?_
  refine va_getN (D := D) (ci := 3) (v := .ref tx) (C := RX3) (T := TX3) (N := 2) hx hb hts (fun w h => List.mem_cons_of_mem _ (inUX3 w h)) hown hK hP 1 rfl rfl 1 (by decide) (va_Nw.use rfl (hE.1 ("StrandMapper", 92, "StrandMapper$Mapping", "text", "LStrandMapper$MapText;", "StrandMapper") (by decide +kernel))) (fun _ h9 => h9) rfl dX5_at_4 ?_
  refine lv_astore_n (lv' := [(2, .ref tx), (0, .ref x0), (1, .int (nI k))]) hx hb dX5_at_7 rfl hl (by decide) rfl (fun ls hl => ?_)
  refine lv_iload_n hx hb dX5_at_8 rfl (lv_at hl 2 rfl) ?_
  refine zz_lt0 (tgt := 20) hx hb dX5_at_9 (by decide) (by omega) ?_
  refine lv_iload_n hx hb dX5_at_12 rfl (lv_at hl 2 rfl) ?_
  refine lv_aload_n hx hb dX5_at_13 rfl (lv_at hl 0 rfl) ?_
  refine va_getN (D := D) (ci := 2) (v := .int (nI le)) (C := RX2) (T := TX2) (N := 2) hx hb hts (fun w h => List.mem_cons_of_mem _ (inUX2 w h)) hown hK hP 2 rfl rfl 1 (by decide) (va_Nw.use rfl (hE.1 ("StrandMapper", 123, "StrandMapper$MapText", "written", "I", "StrandMapper") (by decide +kernel))) (fun _ h9 => h9) rfl dX5_at_14 ?_
  refine zz_lt (tgt := 24) hx hb dX5_at_17 (by decide) (by omega) (by omega) (fun c17 => ?_) (fun c17 => ?_)
  · skip
    refine lv_aload_n hx hb dX5_at_24 rfl (lv_at hl 0 rfl) ?_
    refine va_getN (D := D) (ci := 2) (v := .ref ca) (C := RX2) (T := TX2) (N := 2) hx hb hts (fun w h => List.mem_cons_of_mem _ (inUX2 w h)) hown hK hP 2 rfl rfl 0 (by decide) (va_Nw.use rfl (hE.1 ("StrandMapper", 126, "StrandMapper$MapText", "characters", "[C", "StrandMapper") (by decide +kernel))) (fun _ h9 => h9) rfl dX5_at_25 ?_
    refine lv_iload_n hx hb dX5_at_28 rfl (lv_at hl 2 rfl) ?_
    refine zz_cald (k := k) (f := ln) hx hb hK hP 3 1 rfl rfl (by omega) (by omega) dX5_at_29 ?_
    exact zIret hC hS () ⟨rfl, trivial⟩ hP (vp_nar_int _) dX5_at_30
  · skip
    exact absurd c17 (by omega)
set_option maxHeartbeats 4000000 in
set_option maxRecDepth 100000 in
theorem f_at0 (l : Launch) (D : va_G) (cI cC : ClassId)  (x0 G S rd td la sp dn : Nat) (fd tx ca le : Nat) (k : Int32) (hle : le ≤ 1500) (hbad : k < 0 ∨ nI le ≤ k) (sz : Nat) : Met l yX5_at wsX5_at ({ frames := 0, cells := 0, slots := 0, locals := 0 } : Room) (zPre zEn D vwCl [(cI, .int), (cC, .char)] [.ref x0, .int k] [(x0, .inr (5, [.ref G, .ref S, .ref rd, .ref td, .ref la, .ref sp, .int (nI dn)])), (la, .inr (3, [.ref fd, .ref tx])), (tx, .inr (2, [.ref ca, .int (nI le)]))] sz) (va_Qi (fun (rv : Int32) (uu : Unit) => rv = (-1) ∧ True) (fun (uu : Unit) t9 => va_P D vwCl ([(x0, .inr (5, [.ref G, .ref S, .ref rd, .ref td, .ref la, .ref sp, .int (nI dn)])), (la, .inr (3, [.ref fd, .ref tx])), (tx, .inr (2, [.ref ca, .int (nI le)]))]) t9.heap) (va_A [(x0, .inr (5, [.ref G, .ref S, .ref rd, .ref td, .ref la, .ref sp, .int (nI dn)])), (la, .inr (3, [.ref fd, .ref tx])), (tx, .inr (2, [.ref ca, .int (nI le)]))] sz)) 0 0 (va_A [(x0, .inr (5, [.ref G, .ref S, .ref rd, .ref td, .ref la, .ref sp, .int (nI dn)])), (la, .inr (3, [.ref fd, .ref tx])), (tx, .inr (2, [.ref ca, .int (nI le)]))] sz) := by
  refine zMet (cc := cX5_at) (maxL := 3) (ret := (some .int)) (Qc := fun A => (va_Qi (fun (rv : Int32) (uu : Unit) => rv = (-1) ∧ True) (fun (uu : Unit) t9 => va_P D vwCl ([(x0, .inr (5, [.ref G, .ref S, .ref rd, .ref td, .ref la, .ref sp, .int (nI dn)])), (la, .inr (3, [.ref fd, .ref tx])), (tx, .inr (2, [.ref ca, .int (nI le)]))]) t9.heap) A)) (by decide) rfl (Nat.le_of_ble_eq_true rfl) ?_
  intro pr en s0 mi bl me co A hC hA hK hE H locs hP hD hS ls hl
  obtain ⟨hx, hb, hr, hml, hown, hts, hlocks, hin⟩ := id hC
  have hl : lv_has ls 3 [(0, .ref x0), (1, .int k)] := hl
  refine lv_aload_n hx hb dX5_at_0 rfl (lv_at hl 0 rfl) ?_
  refine va_get (D := D) (ci := 5) (v := .ref la) (C := RX5) (T := TX5) (N := 7) hx hb hts (fun w h => List.mem_cons_of_mem _ (inUX5 w h)) hown hK hP 0 rfl rfl 4 (by decide) (hts _ (List.mem_cons_of_mem _ mw_158)) (fun _ h9 => h9) rfl dX5_at_1 ?_
  refine va_getN (D := D) (ci := 3) (v := .ref tx) (C := RX3) (T := TX3) (N := 2) hx hb hts (fun w h => List.mem_cons_of_mem _ (inUX3 w h)) hown hK hP 1 rfl rfl 1 (by decide) (va_Nw.use rfl (hE.1 ("StrandMapper", 92, "StrandMapper$Mapping", "text", "LStrandMapper$MapText;", "StrandMapper") (by decide +kernel))) (fun _ h9 => h9) rfl dX5_at_4 ?_
  refine lv_astore_n (lv' := [(2, .ref tx), (0, .ref x0), (1, .int k)]) hx hb dX5_at_7 rfl hl (by decide) rfl (fun ls hl => ?_)
  refine lv_iload_n hx hb dX5_at_8 rfl (lv_at hl 2 rfl) ?_
  refine lv_if_lt (tgt := 20) hx hb dX5_at_9 (by decide) (fun c9 => ?_) (fun c9 => ?_)
  · skip
    refine lv_iconst (v := (-1)) hx hb dX5_at_20 (by decide) ?_
    refine lv_goto (tgt := 30) hx hb dX5_at_21 (by decide) ?_
    exact zIret hC hS () ⟨rfl, trivial⟩ hP (vp_nar_int _) dX5_at_30
  · skip
    refine lv_iload_n hx hb dX5_at_12 rfl (lv_at hl 2 rfl) ?_
    refine lv_aload_n hx hb dX5_at_13 rfl (lv_at hl 0 rfl) ?_
    refine va_getN (D := D) (ci := 2) (v := .int (nI le)) (C := RX2) (T := TX2) (N := 2) hx hb hts (fun w h => List.mem_cons_of_mem _ (inUX2 w h)) hown hK hP 2 rfl rfl 1 (by decide) (va_Nw.use rfl (hE.1 ("StrandMapper", 123, "StrandMapper$MapText", "written", "I", "StrandMapper") (by decide +kernel))) (fun _ h9 => h9) rfl dX5_at_14 ?_
    refine lv_icmp_lt (tgt := 24) hx hb dX5_at_17 (by decide) (fun c17 => ?_) (fun c17 => ?_)
    · skip
      exact absurd hbad (fun q => by rcases q with q | q; exact c9 q; exact absurd c17 (Int32.not_lt.mpr q))
    · skip
      refine lv_iconst (v := (-1)) hx hb dX5_at_20 (by decide) ?_
      refine lv_goto (tgt := 30) hx hb dX5_at_21 (by decide) ?_
      exact zIret hC hS () ⟨rfl, trivial⟩ hP (vp_nar_int _) dX5_at_30
end
section
set_option maxHeartbeats 4000000 in
set_option maxRecDepth 100000 in
theorem j_put (l : Launch) (D : va_G) (cI cC : ClassId)  (m0 gA n tA w fo pA sA mA ma npA nsA nmA le lA dA dn : Nat) (ch nc : Int32) (x : Nat) (T : List Nat) (a : Nat → Nat) (hxx : x < 65536) (hT : T.length + 1 ≤ 2000000) (ha : zAG a T) (sz : Nat) : Met l yX6_put wsX6_put ({ frames := 0, cells := 0, slots := 0, locals := 0 } : Room) (zPre zE0 D vwCl [(cI, .int), (cC, .char)] [.ref m0, .int (nI x)] [(m0, .inr (6, [.ref gA, .int (nI n), .ref tA, .int (nI w), .int (nI fo), .ref pA, .ref sA, .ref mA, .int ch, .int (nI ma), .ref npA, .ref nsA, .ref nmA, .int nc, .int (nI le), .ref lA, .int (nI (T.length)), .ref dA, .int (nI dn)])), (dA, .inl (cC, 1500, .inl (fun jj => nI (a jj))))] sz) (va_Qv (fun (uu : Nat → Nat) => zAG uu (T ++ ([x]))) (fun (uu : Nat → Nat) t9 => va_P D vwCl ([(m0, .inr (6, [.ref gA, .int (nI n), .ref tA, .int (nI w), .int (nI fo), .ref pA, .ref sA, .ref mA, .int ch, .int (nI ma), .ref npA, .ref nsA, .ref nmA, .int nc, .int (nI le), .ref lA, .int (nI ((T ++ ([x])).length)), .ref dA, .int (nI dn)])), (dA, .inl (cC, 1500, .inl (fun jj => nI (uu jj))))]) t9.heap) (va_A [(m0, .inr (6, [.ref gA, .int (nI n), .ref tA, .int (nI w), .int (nI fo), .ref pA, .ref sA, .ref mA, .int ch, .int (nI ma), .ref npA, .ref nsA, .ref nmA, .int nc, .int (nI le), .ref lA, .int (nI (T.length)), .ref dA, .int (nI dn)])), (dA, .inl (cC, 1500, .inl (fun jj => nI (a jj))))] sz)) 0 0 (va_A [(m0, .inr (6, [.ref gA, .int (nI n), .ref tA, .int (nI w), .int (nI fo), .ref pA, .ref sA, .ref mA, .int ch, .int (nI ma), .ref npA, .ref nsA, .ref nmA, .int nc, .int (nI le), .ref lA, .int (nI (T.length)), .ref dA, .int (nI dn)])), (dA, .inl (cC, 1500, .inl (fun jj => nI (a jj))))] sz) := by
  refine zMet (cc := cX6_put) (maxL := 2) (ret := none) (Qc := fun A => (va_Qv (fun (uu : Nat → Nat) => zAG uu (T ++ ([x]))) (fun (uu : Nat → Nat) t9 => va_P D vwCl ([(m0, .inr (6, [.ref gA, .int (nI n), .ref tA, .int (nI w), .int (nI fo), .ref pA, .ref sA, .ref mA, .int ch, .int (nI ma), .ref npA, .ref nsA, .ref nmA, .int nc, .int (nI le), .ref lA, .int (nI ((T ++ ([x])).length)), .ref dA, .int (nI dn)])), (dA, .inl (cC, 1500, .inl (fun jj => nI (uu jj))))]) t9.heap) A)) (by decide) rfl (Nat.le_of_ble_eq_true rfl) ?_
  intro pr en s0 mi bl me co A hC hA hK hE H locs hP hD hS ls hl
  obtain ⟨hx, hb, hr, hml, hown, hts, hlocks, hin⟩ := id hC
  have hl : lv_has ls 2 [(0, .ref m0), (1, .int (nI x))] := hl
  refine lv_aload_n hx hb dX6_put_0 rfl (lv_at hl 0 rfl) ?_
  refine va_get (D := D) (ci := 6) (v := .int (nI (T.length))) (C := RX6) (T := TX6) (N := 19) hx hb hts (fun w h => List.mem_cons_of_mem _ (inUX6 w h)) hown hK hP 0 rfl rfl 16 (by decide) (hts _ (List.mem_cons_of_mem _ mw_454)) (fun _ h9 => h9) rfl dX6_put_1 ?_
  refine lv_sipush (v := nI 1500) hx hb dX6_put_4 (by decide) ?_
  refine zz_ge (tgt := 21) hx hb dX6_put_7 (by decide) (by omega) (by omega) (fun c7 => ?_) (fun c7 => ?_)
  · skip
    refine lv_aload_n hx hb dX6_put_21 rfl (lv_at hl 0 rfl) ?_
    refine lv_dup hx hb dX6_put_22 rfl ?_
    refine va_get (D := D) (ci := 6) (v := .int (nI (T.length))) (C := RX6) (T := TX6) (N := 19) hx hb hts (fun w h => List.mem_cons_of_mem _ (inUX6 w h)) hown hK hP 0 rfl rfl 16 (by decide) (hts _ (List.mem_cons_of_mem _ mw_454)) (fun _ h9 => h9) rfl dX6_put_23 ?_
    refine lv_iconst (v := nI 1) hx hb dX6_put_26 (by decide) ?_
    refine lv_iadd hx hb dX6_put_27 ?_
    refine zz_top (y := nI (T.length + 1)) (zadd (by omega)) ?_
    refine va_put (D := D) (ci := 6) (v := .int (nI (T.length + 1))) (ty := .int) (C := RX6) (T := TX6) (N := 19) hx hb hts (fun w h => List.mem_cons_of_mem _ (inUX6 w h)) tyX6 tyX6_ok nmX6 hown hK hP hD hS 0 rfl rfl 16 (by decide) (hts _ (List.mem_cons_of_mem _ mw_454)) (fun _ h9 => h9) rfl (by decide +kernel) rfl rfl (Nat.le_of_ble_eq_true rfl) dX6_put_28 (fun H locs hP hD hS => ?_)
    have hP : va_P D vwCl [(m0, .inr (6, [.ref gA, .int (nI n), .ref tA, .int (nI w), .int (nI fo), .ref pA, .ref sA, .ref mA, .int ch, .int (nI ma), .ref npA, .ref nsA, .ref nmA, .int nc, .int (nI le), .ref lA, .int (nI (T.length + 1)), .ref dA, .int (nI dn)])), (dA, .inl (cC, 1500, .inl (fun jj => nI (a jj))))] H := hP
    have hD : va_D A [(m0, .inr (6, [.ref gA, .int (nI n), .ref tA, .int (nI w), .int (nI fo), .ref pA, .ref sA, .ref mA, .int ch, .int (nI ma), .ref npA, .ref nsA, .ref nmA, .int nc, .int (nI le), .ref lA, .int (nI (T.length + 1)), .ref dA, .int (nI dn)])), (dA, .inl (cC, 1500, .inl (fun jj => nI (a jj))))] := hD
    have hP : va_P D vwCl [(m0, .inr (6, [.ref gA, .int (nI n), .ref tA, .int (nI w), .int (nI fo), .ref pA, .ref sA, .ref mA, .int ch, .int (nI ma), .ref npA, .ref nsA, .ref nmA, .int nc, .int (nI le), .ref lA, .int (nI ((T ++ [x]).length)), .ref dA, .int (nI dn)])), (dA, .inl (cC, 1500, .inl (fun jj => nI (a jj))))] H := by rw [zlen1]; exact hP
    have hD : va_D A [(m0, .inr (6, [.ref gA, .int (nI n), .ref tA, .int (nI w), .int (nI fo), .ref pA, .ref sA, .ref mA, .int ch, .int (nI ma), .ref npA, .ref nsA, .ref nmA, .int nc, .int (nI le), .ref lA, .int (nI ((T ++ [x]).length)), .ref dA, .int (nI dn)])), (dA, .inl (cC, 1500, .inl (fun jj => nI (a jj))))] := by rw [zlen1]; exact hD
    exact zVret hC hS a (zAG_over ha c7) hP dX6_put_31
  · skip
    refine lv_aload_n hx hb dX6_put_10 rfl (lv_at hl 0 rfl) ?_
    refine va_get (D := D) (ci := 6) (v := .ref dA) (C := RX6) (T := TX6) (N := 19) hx hb hts (fun w h => List.mem_cons_of_mem _ (inUX6 w h)) hown hK hP 0 rfl rfl 17 (by decide) (hts _ (List.mem_cons_of_mem _ mw_455)) (fun _ h9 => h9) rfl dX6_put_11 ?_
    refine lv_aload_n hx hb dX6_put_14 rfl (lv_at hl 0 rfl) ?_
    refine va_get (D := D) (ci := 6) (v := .int (nI (T.length))) (C := RX6) (T := TX6) (N := 19) hx hb hts (fun w h => List.mem_cons_of_mem _ (inUX6 w h)) hown hK hP 0 rfl rfl 16 (by decide) (hts _ (List.mem_cons_of_mem _ mw_454)) (fun _ h9 => h9) rfl dX6_put_15 ?_
    refine lv_iload_n hx hb dX6_put_18 rfl (lv_at hl 1 rfl) ?_
    refine lv_i2c (v := nI x) hx hb dX6_put_19 (zchar (by omega)) ?_
    refine zz_cast (k := T.length) (x := x) (f := a) hx hb hK hP hD hS 1 1 rfl rfl (by omega) (by omega) (by omega) dX6_put_20 (fun H locs hP hD hS => ?_)
    have hP : va_P D vwCl [(m0, .inr (6, [.ref gA, .int (nI n), .ref tA, .int (nI w), .int (nI fo), .ref pA, .ref sA, .ref mA, .int ch, .int (nI ma), .ref npA, .ref nsA, .ref nmA, .int nc, .int (nI le), .ref lA, .int (nI (T.length)), .ref dA, .int (nI dn)])), (dA, .inl (cC, 1500, .inl (fun jj => nI (zup a T.length x jj))))] H := hP
    have hD : va_D A [(m0, .inr (6, [.ref gA, .int (nI n), .ref tA, .int (nI w), .int (nI fo), .ref pA, .ref sA, .ref mA, .int ch, .int (nI ma), .ref npA, .ref nsA, .ref nmA, .int nc, .int (nI le), .ref lA, .int (nI (T.length)), .ref dA, .int (nI dn)])), (dA, .inl (cC, 1500, .inl (fun jj => nI (zup a T.length x jj))))] := hD
    refine lv_aload_n hx hb dX6_put_21 rfl (lv_at hl 0 rfl) ?_
    refine lv_dup hx hb dX6_put_22 rfl ?_
    refine va_get (D := D) (ci := 6) (v := .int (nI (T.length))) (C := RX6) (T := TX6) (N := 19) hx hb hts (fun w h => List.mem_cons_of_mem _ (inUX6 w h)) hown hK hP 0 rfl rfl 16 (by decide) (hts _ (List.mem_cons_of_mem _ mw_454)) (fun _ h9 => h9) rfl dX6_put_23 ?_
    refine lv_iconst (v := nI 1) hx hb dX6_put_26 (by decide) ?_
    refine lv_iadd hx hb dX6_put_27 ?_
    refine zz_top (y := nI (T.length + 1)) (zadd (by omega)) ?_
    refine va_put (D := D) (ci := 6) (v := .int (nI (T.length + 1))) (ty := .int) (C := RX6) (T := TX6) (N := 19) hx hb hts (fun w h => List.mem_cons_of_mem _ (inUX6 w h)) tyX6 tyX6_ok nmX6 hown hK hP hD hS 0 rfl rfl 16 (by decide) (hts _ (List.mem_cons_of_mem _ mw_454)) (fun _ h9 => h9) rfl (by decide +kernel) rfl rfl (Nat.le_of_ble_eq_true rfl) dX6_put_28 (fun H locs hP hD hS => ?_)
    have hP : va_P D vwCl [(m0, .inr (6, [.ref gA, .int (nI n), .ref tA, .int (nI w), .int (nI fo), .ref pA, .ref sA, .ref mA, .int ch, .int (nI ma), .ref npA, .ref nsA, .ref nmA, .int nc, .int (nI le), .ref lA, .int (nI (T.length + 1)), .ref dA, .int (nI dn)])), (dA, .inl (cC, 1500, .inl (fun jj => nI (zup a T.length x jj))))] H := hP
    have hD : va_D A [(m0, .inr (6, [.ref gA, .int (nI n), .ref tA, .int (nI w), .int (nI fo), .ref pA, .ref sA, .ref mA, .int ch, .int (nI ma), .ref npA, .ref nsA, .ref nmA, .int nc, .int (nI le), .ref lA, .int (nI (T.length + 1)), .ref dA, .int (nI dn)])), (dA, .inl (cC, 1500, .inl (fun jj => nI (zup a T.length x jj))))] := hD
    have hP : va_P D vwCl [(m0, .inr (6, [.ref gA, .int (nI n), .ref tA, .int (nI w), .int (nI fo), .ref pA, .ref sA, .ref mA, .int ch, .int (nI ma), .ref npA, .ref nsA, .ref nmA, .int nc, .int (nI le), .ref lA, .int (nI ((T ++ [x]).length)), .ref dA, .int (nI dn)])), (dA, .inl (cC, 1500, .inl (fun jj => nI (zup a T.length x jj))))] H := by rw [zlen1]; exact hP
    have hD : va_D A [(m0, .inr (6, [.ref gA, .int (nI n), .ref tA, .int (nI w), .int (nI fo), .ref pA, .ref sA, .ref mA, .int ch, .int (nI ma), .ref npA, .ref nsA, .ref nmA, .int nc, .int (nI le), .ref lA, .int (nI ((T ++ [x]).length)), .ref dA, .int (nI dn)])), (dA, .inl (cC, 1500, .inl (fun jj => nI (zup a T.length x jj))))] := by rw [zlen1]; exact hD
    exact zVret hC hS (zup a T.length x) (zAG_put ha) hP dX6_put_31
set_option maxHeartbeats 4000000 in
set_option maxRecDepth 100000 in
theorem j_putNumber_L18 {pr : Program} {en : Env} {s0 : State} {mi : MethodId} {bl : List Frame} {me : Method} {co : Code} {A : Nat → Prop} (l : Launch) (D : va_G) (cI cC : ClassId)  (m0 gA n tA w fo pA sA mA ma npA nsA nmA le lA dA dn : Nat) (ch nc : Int32) (x : Nat) (T : List Nat) (a : Nat → Nat) (hxx : x ≤ 100000) (hT : T.length + 10 ≤ 2000000) (ha : zAG a T) (hC : zK pr s0 mi ([.ref m0, .int (nI x)] : List Value).toArray me co cX6_putNumber 3 none yX6_putNumber wsX6_putNumber) (hA : ∀ q, s0.heap.size ≤ q → A q) (hK : va_K D vwCl [(cI, .int), (cC, .char)] s0) (hE : zE0 A s0 s0.heap) :
    ∀ (N : Nat) (j : Nat) (Tc : List Nat) (b : Nat → Nat), j < N → (j ≤ 10) → (Tc ++ zdg x j true = T ++ znum x) → (zAG b Tc) → (Tc.length + j ≤ T.length + 10) → ∀ (H : Heap) (locs : List Loc), va_P D vwCl [(m0, .inr (6, [.ref gA, .int (nI n), .ref tA, .int (nI w), .int (nI fo), .ref pA, .ref sA, .ref mA, .int ch, .int (nI ma), .ref npA, .ref nsA, .ref nmA, .int nc, .int (nI le), .ref lA, .int (nI (Tc.length)), .ref dA, .int (nI dn)])), (dA, .inl (cC, 1500, .inl (fun jj => nI (b jj))))] H → va_D A [(m0, .inr (6, [.ref gA, .int (nI n), .ref tA, .int (nI w), .int (nI fo), .ref pA, .ref sA, .ref mA, .int ch, .int (nI ma), .ref npA, .ref nsA, .ref nmA, .int nc, .int (nI le), .ref lA, .int (nI (Tc.length)), .ref dA, .int (nI dn)])), (dA, .inl (cC, 1500, .inl (fun jj => nI (b jj))))] → va_S A s0.heap H locs → ∀ ls : Array Slot, lv_has ls 3 [(0, .ref m0), (1, .int (nI x)), (2, .int (nI (zpw j)))] → W pr l en ({ frames := 1, cells := 0, slots := 0, locals := 21 } : Room) s0 mi ([.ref m0, .int (nI x)] : List Value).toArray bl me co H locs 0 0 (MQ bl (va_Qv (fun (uu : Nat → Nat) => zAG uu (T ++ (znum x))) (fun (uu : Nat → Nat) t9 => va_P D vwCl ([(m0, .inr (6, [.ref gA, .int (nI n), .ref tA, .int (nI w), .int (nI fo), .ref pA, .ref sA, .ref mA, .int ch, .int (nI ma), .ref npA, .ref nsA, .ref nmA, .int nc, .int (nI le), .ref lA, .int (nI ((T ++ (znum x)).length)), .ref dA, .int (nI dn)])), (dA, .inl (cC, 1500, .inl (fun jj => nI (uu jj))))]) t9.heap) A) ([.ref m0, .int (nI x)] : List Value).toArray s0 0 0 A) (F0 mi 18 ls []) := by
  obtain ⟨hx, hb, hr, hml, hown, hts, hlocks, hin⟩ := id hC
  intro N
  induction N with
  | zero =>
    intro j Tc b hmea
    omega
  | succ N ih =>
    intro j Tc b hmea hj hS9 hac hlen H locs hP hD hS ls hl
    cases j with
    | zero =>
      have hl : lv_has ls 3 [(0, .ref m0), (1, .int (nI x)), (2, .int (nI 0))] := hl
      refine lv_iload_n hx hb dX6_putNumber_18 rfl (lv_at hl 2 rfl) ?_
      refine lv_if_le (tgt := 43) hx hb dX6_putNumber_19 (by decide) (fun _ => ?_) (fun h9 => absurd (by decide) h9)
      have eT : Tc = T ++ znum x := by rw [← hS9]; exact (List.append_nil Tc).symm
      rw [eT] at hP hD hac
      have hP : va_P D vwCl [(m0, .inr (6, [.ref gA, .int (nI n), .ref tA, .int (nI w), .int (nI fo), .ref pA, .ref sA, .ref mA, .int ch, .int (nI ma), .ref npA, .ref nsA, .ref nmA, .int nc, .int (nI le), .ref lA, .int (nI ((T ++ znum x).length)), .ref dA, .int (nI dn)])), (dA, .inl (cC, 1500, .inl (fun jj => nI (b jj))))] H := hP
      have hD : va_D A [(m0, .inr (6, [.ref gA, .int (nI n), .ref tA, .int (nI w), .int (nI fo), .ref pA, .ref sA, .ref mA, .int ch, .int (nI ma), .ref npA, .ref nsA, .ref nmA, .int nc, .int (nI le), .ref lA, .int (nI ((T ++ znum x).length)), .ref dA, .int (nI dn)])), (dA, .inl (cC, 1500, .inl (fun jj => nI (b jj))))] := hD
      exact zVret hC hS b hac hP dX6_putNumber_43
    | succ j =>
      have hl : lv_has ls 3 [(0, .ref m0), (1, .int (nI x)), (2, .int (nI (10 ^ j)))] := hl
      have p1 : 0 < 10 ^ j := Nat.pow_pos (by decide)
      have p2 : 10 ^ j ≤ 10 ^ 9 := Nat.pow_le_pow_right (by decide) (by omega)
      have p3 := Nat.mod_lt (x / 10 ^ j) (show 10 > 0 by decide)
      have p4 := Nat.div_le_self x (10 ^ j)
      refine lv_iload_n hx hb dX6_putNumber_18 rfl (lv_at hl 2 rfl) ?_
      refine zz_le0 (tgt := 43) hx hb dX6_putNumber_19 (by decide) (by omega) (fun c19 => ?_) (fun c19 => ?_)
      · skip
        exact absurd c19 (by omega)
      · skip
        refine lv_aload_n hx hb dX6_putNumber_22 rfl (lv_at hl 0 rfl) ?_
        refine lv_bipush (v := nI 48) hx hb dX6_putNumber_23 (by decide) ?_
        refine lv_iload_n hx hb dX6_putNumber_25 rfl (lv_at hl 1 rfl) ?_
        refine lv_iload_n hx hb dX6_putNumber_26 rfl (lv_at hl 2 rfl) ?_
        refine lv_idiv hx hb dX6_putNumber_27 (nI_ne0 p1 (by omega)) ?_
        refine zz_top (y := nI (x / (10 ^ j))) (pk_div (by omega) p1 (by omega)) ?_
        refine lv_bipush (v := nI 10) hx hb dX6_putNumber_28 (by decide) ?_
        refine lv_irem hx hb dX6_putNumber_30 (nI_ne0 (by omega) (by omega)) ?_
        refine zz_top (y := nI ((x / (10 ^ j)) % 10)) (pk_rem (by omega) (by omega) (by omega)) ?_
        refine lv_iadd hx hb dX6_putNumber_31 ?_
        refine zz_top (y := nI (48 + ((x / (10 ^ j)) % 10))) (zadd (by omega)) ?_
        refine zCv (is := [0, 1]) (wf := (fun (uu : Nat → Nat) => ([(m0, .inr (6, [.ref gA, .int (nI n), .ref tA, .int (nI w), .int (nI fo), .ref pA, .ref sA, .ref mA, .int ch, .int (nI ma), .ref npA, .ref nsA, .ref nmA, .int nc, .int (nI le), .ref lA, .int (nI ((Tc ++ ([(48 + x / 10 ^ j % 10)])).length)), .ref dA, .int (nI dn)])), (dA, .inl (cC, 1500, .inl (fun jj => nI (uu jj))))] : va_W))) (va_runV (As := [.int (nI (48 + ((x / (10 ^ j)) % 10)))]) (rest := []) ⟨hx, hb, hml, hown, hts⟩ (j_put l D cI cC  m0 gA n tA w fo pA sA mA ma npA nsA nmA le lA dA dn ch nc (48 + x / 10 ^ j % 10) Tc b (by omega) (by omega) hac H.size) (cwV 1 hts (zgood mw_577 mw_579 mw_13 mw_32 mw_580) rfl rfl rfl (by decide +kernel) ⟨Nat.le_of_ble_eq_true rfl, Nat.le_of_ble_eq_true rfl⟩) ⟨zBlind zE0_ok, va_recv hK hP (ci := 6) (q0 := 0) rfl rfl, zAt (av := [.ref m0, .int (nI (48 + ((x / (10 ^ j)) % 10)))]) zE0_ok hP hD hK hS hA trivial [0, 1] rfl (by decide)⟩ rfl rfl hl.1 rfl (lv_room (Nat.le_of_ble_eq_true rfl)) dX6_putNumber_32 ⟨Nat.zero_le _, Nat.zero_le _⟩) hP hD hS hA rfl (fun _ => rfl) (fun u32 H locs w32 hP hD hS => ?_)
        have hP : va_P D vwCl [(m0, .inr (6, [.ref gA, .int (nI n), .ref tA, .int (nI w), .int (nI fo), .ref pA, .ref sA, .ref mA, .int ch, .int (nI ma), .ref npA, .ref nsA, .ref nmA, .int nc, .int (nI le), .ref lA, .int (nI ((Tc ++ ([(48 + x / 10 ^ j % 10)])).length)), .ref dA, .int (nI dn)])), (dA, .inl (cC, 1500, .inl (fun jj => nI (u32 jj))))] H := hP
        have hD : va_D A [(m0, .inr (6, [.ref gA, .int (nI n), .ref tA, .int (nI w), .int (nI fo), .ref pA, .ref sA, .ref mA, .int ch, .int (nI ma), .ref npA, .ref nsA, .ref nmA, .int nc, .int (nI le), .ref lA, .int (nI ((Tc ++ ([(48 + x / 10 ^ j % 10)])).length)), .ref dA, .int (nI dn)])), (dA, .inl (cC, 1500, .inl (fun jj => nI (u32 jj))))] := hD
        obtain ⟨T32, hT32⟩ : ∃ y9, y9 = Tc ++ ([(48 + x / 10 ^ j % 10)]) := ⟨_, rfl⟩
        rw [← hT32] at hP hD w32
        have lT32 : T32.length ≤ Tc.length + 1 := by rw [hT32, List.length_append]; simp
        have hP : va_P D vwCl [(m0, .inr (6, [.ref gA, .int (nI n), .ref tA, .int (nI w), .int (nI fo), .ref pA, .ref sA, .ref mA, .int ch, .int (nI ma), .ref npA, .ref nsA, .ref nmA, .int nc, .int (nI le), .ref lA, .int (nI (T32.length)), .ref dA, .int (nI dn)])), (dA, .inl (cC, 1500, .inl (fun jj => nI (u32 jj))))] H := hP
        have hD : va_D A [(m0, .inr (6, [.ref gA, .int (nI n), .ref tA, .int (nI w), .int (nI fo), .ref pA, .ref sA, .ref mA, .int ch, .int (nI ma), .ref npA, .ref nsA, .ref nmA, .int nc, .int (nI le), .ref lA, .int (nI (T32.length)), .ref dA, .int (nI dn)])), (dA, .inl (cC, 1500, .inl (fun jj => nI (u32 jj))))] := hD
        refine lv_iload_n hx hb dX6_putNumber_35 rfl (lv_at hl 2 rfl) ?_
        refine lv_bipush (v := nI 10) hx hb dX6_putNumber_36 (by decide) ?_
        refine lv_idiv hx hb dX6_putNumber_38 (nI_ne0 (by omega) (by omega)) ?_
        refine zz_top (y := nI ((10 ^ j) / 10)) (pk_div (by omega) (by omega) (by omega)) ?_
        refine lv_istore_n (lv' := [(2, .int (nI ((10 ^ j) / 10))), (0, .ref m0), (1, .int (nI x))]) hx hb dX6_putNumber_39 rfl hl (by decide) rfl (fun ls hl => ?_)
        refine lv_goto (tgt := 18) hx hb dX6_putNumber_40 (by decide) ?_
        have hl : lv_has ls 3 [(2, .int (nI (zpw j))), (0, .ref m0), (1, .int (nI x))] := by rw [← zpw_div]; exact hl
        exact ih j T32 u32 (by omega) (by omega) (by rw [hT32, ← hS9, zdg_true, List.append_assoc]; rfl) w32 (by omega) _ _ hP hD hS ls (lv_sub hl [1, 2, 0] rfl)
set_option maxHeartbeats 4000000 in
set_option maxRecDepth 100000 in
theorem j_putNumber_L2 {pr : Program} {en : Env} {s0 : State} {mi : MethodId} {bl : List Frame} {me : Method} {co : Code} {A : Nat → Prop} (l : Launch) (D : va_G) (cI cC : ClassId)  (m0 gA n tA w fo pA sA mA ma npA nsA nmA le lA dA dn : Nat) (ch nc : Int32) (x : Nat) (T : List Nat) (a : Nat → Nat) (hxx : x ≤ 100000) (hT : T.length + 10 ≤ 2000000) (ha : zAG a T) (hC : zK pr s0 mi ([.ref m0, .int (nI x)] : List Value).toArray me co cX6_putNumber 3 none yX6_putNumber wsX6_putNumber) (hA : ∀ q, s0.heap.size ≤ q → A q) (hK : va_K D vwCl [(cI, .int), (cC, .char)] s0) (hE : zE0 A s0 s0.heap) :
    ∀ (N : Nat) (t : Nat), 9 - t < N → (t ≤ 9) → (t = 0 ∨ 10 ≤ x / 10 ^ (t - 1)) → ∀ (H : Heap) (locs : List Loc), va_P D vwCl [(m0, .inr (6, [.ref gA, .int (nI n), .ref tA, .int (nI w), .int (nI fo), .ref pA, .ref sA, .ref mA, .int ch, .int (nI ma), .ref npA, .ref nsA, .ref nmA, .int nc, .int (nI le), .ref lA, .int (nI (T.length)), .ref dA, .int (nI dn)])), (dA, .inl (cC, 1500, .inl (fun jj => nI (a jj))))] H → va_D A [(m0, .inr (6, [.ref gA, .int (nI n), .ref tA, .int (nI w), .int (nI fo), .ref pA, .ref sA, .ref mA, .int ch, .int (nI ma), .ref npA, .ref nsA, .ref nmA, .int nc, .int (nI le), .ref lA, .int (nI (T.length)), .ref dA, .int (nI dn)])), (dA, .inl (cC, 1500, .inl (fun jj => nI (a jj))))] → va_S A s0.heap H locs → ∀ ls : Array Slot, lv_has ls 3 [(0, .ref m0), (1, .int (nI x)), (2, .int (nI (10 ^ t)))] → W pr l en ({ frames := 1, cells := 0, slots := 0, locals := 21 } : Room) s0 mi ([.ref m0, .int (nI x)] : List Value).toArray bl me co H locs 0 0 (MQ bl (va_Qv (fun (uu : Nat → Nat) => zAG uu (T ++ (znum x))) (fun (uu : Nat → Nat) t9 => va_P D vwCl ([(m0, .inr (6, [.ref gA, .int (nI n), .ref tA, .int (nI w), .int (nI fo), .ref pA, .ref sA, .ref mA, .int ch, .int (nI ma), .ref npA, .ref nsA, .ref nmA, .int nc, .int (nI le), .ref lA, .int (nI ((T ++ (znum x)).length)), .ref dA, .int (nI dn)])), (dA, .inl (cC, 1500, .inl (fun jj => nI (uu jj))))]) t9.heap) A) ([.ref m0, .int (nI x)] : List Value).toArray s0 0 0 A) (F0 mi 2 ls []) := by
  obtain ⟨hx, hb, hr, hml, hown, hts, hlocks, hin⟩ := id hC
  intro N
  induction N with
  | zero =>
    intro t hmea
    omega
  | succ N ih =>
    intro t hmea ht9 hmin H locs hP hD hS ls hl
    have p1 : 0 < 10 ^ t := Nat.pow_pos (by decide)
    have p2 : 10 ^ t ≤ 10 ^ 9 := Nat.pow_le_pow_right (by decide) ht9
    refine lv_iload_n hx hb dX6_putNumber_2 rfl (lv_at hl 1 rfl) ?_
    refine lv_iload_n hx hb dX6_putNumber_3 rfl (lv_at hl 2 rfl) ?_
    refine lv_idiv hx hb dX6_putNumber_4 (nI_ne0 p1 (by omega)) ?_
    refine zz_top (y := nI (x / (10 ^ t))) (pk_div (by omega) p1 (by omega)) ?_
    refine lv_bipush (v := nI 10) hx hb dX6_putNumber_5 (by decide) ?_
    refine zz_lt (tgt := 18) hx hb dX6_putNumber_7 (by decide) (by have := Nat.div_le_self x (10 ^ t); omega) (by omega) (fun c7 => ?_) (fun c7 => ?_)
    · skip
      have hl : lv_has ls 3 [(0, .ref m0), (1, .int (nI x)), (2, .int (nI (zpw (t + 1))))] := by skip; exact hl
      exact j_putNumber_L18 l D cI cC  m0 gA n tA w fo pA sA mA ma npA nsA nmA le lA dA dn ch nc x T a hxx hT ha hC hA hK hE _ (t + 1) T a (Nat.lt_succ_self _) (by omega) (by rw [znum_unit ht9 c7 hmin]) ha (by omega) _ _ hP hD hS ls (lv_sub hl [0, 1, 2] rfl)
    · skip
      refine lv_iload_n hx hb dX6_putNumber_10 rfl (lv_at hl 2 rfl) ?_
      refine lv_bipush (v := nI 10) hx hb dX6_putNumber_11 (by decide) ?_
      refine lv_imul hx hb dX6_putNumber_13 ?_
      refine zz_top (y := nI ((10 ^ t) * 10)) (pk_mul _ _) ?_
      refine lv_istore_n (lv' := [(2, .int (nI ((10 ^ t) * 10))), (0, .ref m0), (1, .int (nI x))]) hx hb dX6_putNumber_14 rfl hl (by decide) rfl (fun ls hl => ?_)
      refine lv_goto (tgt := 2) hx hb dX6_putNumber_15 (by decide) ?_
      have hl : lv_has ls 3 [(2, .int (nI (10 ^ (t + 1)))), (0, .ref m0), (1, .int (nI x))] := by rw [Nat.pow_succ]; exact hl
      have ht8 : t < 9 := by
        rcases Nat.lt_or_ge t 9 with q | q
        · exact q
        · rw [show t = 9 by omega] at c7; omega
      exact ih (t + 1) (by omega) (by omega) (Or.inr (by simpa using c7)) _ _ hP hD hS ls (lv_sub hl [1, 2, 0] rfl)
set_option maxHeartbeats 4000000 in
set_option maxRecDepth 100000 in
theorem j_putNumber (l : Launch) (D : va_G) (cI cC : ClassId)  (m0 gA n tA w fo pA sA mA ma npA nsA nmA le lA dA dn : Nat) (ch nc : Int32) (x : Nat) (T : List Nat) (a : Nat → Nat) (hxx : x ≤ 100000) (hT : T.length + 10 ≤ 2000000) (ha : zAG a T) (sz : Nat) : Met l yX6_putNumber wsX6_putNumber ({ frames := 1, cells := 0, slots := 0, locals := 21 } : Room) (zPre zE0 D vwCl [(cI, .int), (cC, .char)] [.ref m0, .int (nI x)] [(m0, .inr (6, [.ref gA, .int (nI n), .ref tA, .int (nI w), .int (nI fo), .ref pA, .ref sA, .ref mA, .int ch, .int (nI ma), .ref npA, .ref nsA, .ref nmA, .int nc, .int (nI le), .ref lA, .int (nI (T.length)), .ref dA, .int (nI dn)])), (dA, .inl (cC, 1500, .inl (fun jj => nI (a jj))))] sz) (va_Qv (fun (uu : Nat → Nat) => zAG uu (T ++ (znum x))) (fun (uu : Nat → Nat) t9 => va_P D vwCl ([(m0, .inr (6, [.ref gA, .int (nI n), .ref tA, .int (nI w), .int (nI fo), .ref pA, .ref sA, .ref mA, .int ch, .int (nI ma), .ref npA, .ref nsA, .ref nmA, .int nc, .int (nI le), .ref lA, .int (nI ((T ++ (znum x)).length)), .ref dA, .int (nI dn)])), (dA, .inl (cC, 1500, .inl (fun jj => nI (uu jj))))]) t9.heap) (va_A [(m0, .inr (6, [.ref gA, .int (nI n), .ref tA, .int (nI w), .int (nI fo), .ref pA, .ref sA, .ref mA, .int ch, .int (nI ma), .ref npA, .ref nsA, .ref nmA, .int nc, .int (nI le), .ref lA, .int (nI (T.length)), .ref dA, .int (nI dn)])), (dA, .inl (cC, 1500, .inl (fun jj => nI (a jj))))] sz)) 0 0 (va_A [(m0, .inr (6, [.ref gA, .int (nI n), .ref tA, .int (nI w), .int (nI fo), .ref pA, .ref sA, .ref mA, .int ch, .int (nI ma), .ref npA, .ref nsA, .ref nmA, .int nc, .int (nI le), .ref lA, .int (nI (T.length)), .ref dA, .int (nI dn)])), (dA, .inl (cC, 1500, .inl (fun jj => nI (a jj))))] sz) := by
  refine zMet (cc := cX6_putNumber) (maxL := 3) (ret := none) (Qc := fun A => (va_Qv (fun (uu : Nat → Nat) => zAG uu (T ++ (znum x))) (fun (uu : Nat → Nat) t9 => va_P D vwCl ([(m0, .inr (6, [.ref gA, .int (nI n), .ref tA, .int (nI w), .int (nI fo), .ref pA, .ref sA, .ref mA, .int ch, .int (nI ma), .ref npA, .ref nsA, .ref nmA, .int nc, .int (nI le), .ref lA, .int (nI ((T ++ (znum x)).length)), .ref dA, .int (nI dn)])), (dA, .inl (cC, 1500, .inl (fun jj => nI (uu jj))))]) t9.heap) A)) (by decide) rfl (Nat.le_of_ble_eq_true rfl) ?_
  intro pr en s0 mi bl me co A hC hA hK hE H locs hP hD hS ls hl
  obtain ⟨hx, hb, hr, hml, hown, hts, hlocks, hin⟩ := id hC
  have hl : lv_has ls 3 [(0, .ref m0), (1, .int (nI x))] := hl
  refine lv_iconst (v := nI 1) hx hb dX6_putNumber_0 (by decide) ?_
  refine lv_istore_n (lv' := [(2, .int (nI 1)), (0, .ref m0), (1, .int (nI x))]) hx hb dX6_putNumber_1 rfl hl (by decide) rfl (fun ls hl => ?_)
  have hl : lv_has ls 3 [(2, .int (nI (10 ^ 0))), (0, .ref m0), (1, .int (nI x))] := by skip; exact hl
  exact j_putNumber_L2 l D cI cC  m0 gA n tA w fo pA sA mA ma npA nsA nmA le lA dA dn ch nc x T a hxx hT ha hC hA hK hE _ 0 (Nat.lt_succ_self _) (Nat.zero_le _) (Or.inl rfl) _ _ hP hD hS ls (lv_sub hl [1, 2, 0] rfl)
set_option maxHeartbeats 4000000 in
set_option maxRecDepth 100000 in
theorem j_putBase (l : Launch) (D : va_G) (cI cC : ClassId)  (m0 gA n tA w fo pA sA mA ma npA nsA nmA le lA dA dn : Nat) (ch nc : Int32) (x : Nat) (T : List Nat) (a : Nat → Nat) (hxx : x ≤ 4) (hT : T.length + 1 ≤ 2000000) (ha : zAG a T) (sz : Nat) : Met l yX6_putBase wsX6_putBase ({ frames := 1, cells := 0, slots := 0, locals := 21 } : Room) (zPre zE0 D vwCl [(cI, .int), (cC, .char)] [.ref m0, .int (nI x)] [(m0, .inr (6, [.ref gA, .int (nI n), .ref tA, .int (nI w), .int (nI fo), .ref pA, .ref sA, .ref mA, .int ch, .int (nI ma), .ref npA, .ref nsA, .ref nmA, .int nc, .int (nI le), .ref lA, .int (nI (T.length)), .ref dA, .int (nI dn)])), (dA, .inl (cC, 1500, .inl (fun jj => nI (a jj))))] sz) (va_Qv (fun (uu : Nat → Nat) => zAG uu (T ++ ([zlet x]))) (fun (uu : Nat → Nat) t9 => va_P D vwCl ([(m0, .inr (6, [.ref gA, .int (nI n), .ref tA, .int (nI w), .int (nI fo), .ref pA, .ref sA, .ref mA, .int ch, .int (nI ma), .ref npA, .ref nsA, .ref nmA, .int nc, .int (nI le), .ref lA, .int (nI ((T ++ ([zlet x])).length)), .ref dA, .int (nI dn)])), (dA, .inl (cC, 1500, .inl (fun jj => nI (uu jj))))]) t9.heap) (va_A [(m0, .inr (6, [.ref gA, .int (nI n), .ref tA, .int (nI w), .int (nI fo), .ref pA, .ref sA, .ref mA, .int ch, .int (nI ma), .ref npA, .ref nsA, .ref nmA, .int nc, .int (nI le), .ref lA, .int (nI (T.length)), .ref dA, .int (nI dn)])), (dA, .inl (cC, 1500, .inl (fun jj => nI (a jj))))] sz)) 0 0 (va_A [(m0, .inr (6, [.ref gA, .int (nI n), .ref tA, .int (nI w), .int (nI fo), .ref pA, .ref sA, .ref mA, .int ch, .int (nI ma), .ref npA, .ref nsA, .ref nmA, .int nc, .int (nI le), .ref lA, .int (nI (T.length)), .ref dA, .int (nI dn)])), (dA, .inl (cC, 1500, .inl (fun jj => nI (a jj))))] sz) := by
  refine zMet (cc := cX6_putBase) (maxL := 2) (ret := none) (Qc := fun A => (va_Qv (fun (uu : Nat → Nat) => zAG uu (T ++ ([zlet x]))) (fun (uu : Nat → Nat) t9 => va_P D vwCl ([(m0, .inr (6, [.ref gA, .int (nI n), .ref tA, .int (nI w), .int (nI fo), .ref pA, .ref sA, .ref mA, .int ch, .int (nI ma), .ref npA, .ref nsA, .ref nmA, .int nc, .int (nI le), .ref lA, .int (nI ((T ++ ([zlet x])).length)), .ref dA, .int (nI dn)])), (dA, .inl (cC, 1500, .inl (fun jj => nI (uu jj))))]) t9.heap) A)) (by decide) rfl (Nat.le_of_ble_eq_true rfl) ?_
  intro pr en s0 mi bl me co A hC hA hK hE H locs hP hD hS ls hl
  obtain ⟨hx, hb, hr, hml, hown, hts, hlocks, hin⟩ := id hC
  have hl : lv_has ls 2 [(0, .ref m0), (1, .int (nI x))] := hl
  refine lv_aload_n hx hb dX6_putBase_0 rfl (lv_at hl 0 rfl) ?_
  refine lv_iload_n hx hb dX6_putBase_1 rfl (lv_at hl 1 rfl) ?_
  refine zz_ne0 (tgt := 10) hx hb dX6_putBase_2 (by decide) (by omega) (fun c2 => ?_) (fun c2 => ?_)
  · skip
    refine lv_iload_n hx hb dX6_putBase_10 rfl (lv_at hl 1 rfl) ?_
    refine lv_iconst (v := nI 1) hx hb dX6_putBase_11 (by decide) ?_
    refine zz_ne (tgt := 20) hx hb dX6_putBase_12 (by decide) (by omega) (by omega) (fun c12 => ?_) (fun c12 => ?_)
    · skip
      refine lv_iload_n hx hb dX6_putBase_20 rfl (lv_at hl 1 rfl) ?_
      refine lv_iconst (v := nI 2) hx hb dX6_putBase_21 (by decide) ?_
      refine zz_ne (tgt := 30) hx hb dX6_putBase_22 (by decide) (by omega) (by omega) (fun c22 => ?_) (fun c22 => ?_)
      · skip
        refine lv_iload_n hx hb dX6_putBase_30 rfl (lv_at hl 1 rfl) ?_
        refine lv_iconst (v := nI 3) hx hb dX6_putBase_31 (by decide) ?_
        refine zz_ne (tgt := 40) hx hb dX6_putBase_32 (by decide) (by omega) (by omega) (fun c32 => ?_) (fun c32 => ?_)
        · skip
          refine lv_bipush (v := nI 78) hx hb dX6_putBase_40 (by decide) ?_
          refine zCv (is := [0, 1]) (wf := (fun (uu : Nat → Nat) => ([(m0, .inr (6, [.ref gA, .int (nI n), .ref tA, .int (nI w), .int (nI fo), .ref pA, .ref sA, .ref mA, .int ch, .int (nI ma), .ref npA, .ref nsA, .ref nmA, .int nc, .int (nI le), .ref lA, .int (nI ((T ++ ([78])).length)), .ref dA, .int (nI dn)])), (dA, .inl (cC, 1500, .inl (fun jj => nI (uu jj))))] : va_W))) (va_runV (As := [.int (nI 78)]) (rest := []) ⟨hx, hb, hml, hown, hts⟩ (j_put l D cI cC  m0 gA n tA w fo pA sA mA ma npA nsA nmA le lA dA dn ch nc 78 T a (by omega) (by omega) ha H.size) (cwV 1 hts (zgood mw_577 mw_579 mw_13 mw_32 mw_580) rfl rfl rfl (by decide +kernel) ⟨Nat.le_of_ble_eq_true rfl, Nat.le_of_ble_eq_true rfl⟩) ⟨zBlind zE0_ok, va_recv hK hP (ci := 6) (q0 := 0) rfl rfl, zAt (av := [.ref m0, .int (nI 78)]) zE0_ok hP hD hK hS hA trivial [0, 1] rfl (by decide)⟩ rfl rfl hl.1 rfl (lv_room (Nat.le_of_ble_eq_true rfl)) dX6_putBase_42 ⟨Nat.zero_le _, Nat.zero_le _⟩) hP hD hS hA rfl (fun _ => rfl) (fun u42 H locs w42 hP hD hS => ?_)
          have hP : va_P D vwCl [(m0, .inr (6, [.ref gA, .int (nI n), .ref tA, .int (nI w), .int (nI fo), .ref pA, .ref sA, .ref mA, .int ch, .int (nI ma), .ref npA, .ref nsA, .ref nmA, .int nc, .int (nI le), .ref lA, .int (nI ((T ++ ([78])).length)), .ref dA, .int (nI dn)])), (dA, .inl (cC, 1500, .inl (fun jj => nI (u42 jj))))] H := hP
          have hD : va_D A [(m0, .inr (6, [.ref gA, .int (nI n), .ref tA, .int (nI w), .int (nI fo), .ref pA, .ref sA, .ref mA, .int ch, .int (nI ma), .ref npA, .ref nsA, .ref nmA, .int nc, .int (nI le), .ref lA, .int (nI ((T ++ ([78])).length)), .ref dA, .int (nI dn)])), (dA, .inl (cC, 1500, .inl (fun jj => nI (u42 jj))))] := hD
          obtain ⟨T42, hT42⟩ : ∃ y9, y9 = T ++ ([78]) := ⟨_, rfl⟩
          rw [← hT42] at hP hD w42
          have lT42 : T42.length ≤ T.length + 1 := by rw [hT42, List.length_append]; simp
          have hP : va_P D vwCl [(m0, .inr (6, [.ref gA, .int (nI n), .ref tA, .int (nI w), .int (nI fo), .ref pA, .ref sA, .ref mA, .int ch, .int (nI ma), .ref npA, .ref nsA, .ref nmA, .int nc, .int (nI le), .ref lA, .int (nI (T42.length)), .ref dA, .int (nI dn)])), (dA, .inl (cC, 1500, .inl (fun jj => nI (u42 jj))))] H := hP
          have hD : va_D A [(m0, .inr (6, [.ref gA, .int (nI n), .ref tA, .int (nI w), .int (nI fo), .ref pA, .ref sA, .ref mA, .int ch, .int (nI ma), .ref npA, .ref nsA, .ref nmA, .int nc, .int (nI le), .ref lA, .int (nI (T42.length)), .ref dA, .int (nI dn)])), (dA, .inl (cC, 1500, .inl (fun jj => nI (u42 jj))))] := hD
          have eT : T42 = T ++ ([zlet x]) := by rw [hT42, show x = 4 by omega]; rfl
          rw [eT] at hP hD w42
          have hP : va_P D vwCl [(m0, .inr (6, [.ref gA, .int (nI n), .ref tA, .int (nI w), .int (nI fo), .ref pA, .ref sA, .ref mA, .int ch, .int (nI ma), .ref npA, .ref nsA, .ref nmA, .int nc, .int (nI le), .ref lA, .int (nI ((T ++ ([zlet x])).length)), .ref dA, .int (nI dn)])), (dA, .inl (cC, 1500, .inl (fun jj => nI (u42 jj))))] H := hP
          have hD : va_D A [(m0, .inr (6, [.ref gA, .int (nI n), .ref tA, .int (nI w), .int (nI fo), .ref pA, .ref sA, .ref mA, .int ch, .int (nI ma), .ref npA, .ref nsA, .ref nmA, .int nc, .int (nI le), .ref lA, .int (nI ((T ++ ([zlet x])).length)), .ref dA, .int (nI dn)])), (dA, .inl (cC, 1500, .inl (fun jj => nI (u42 jj))))] := hD
          exact zVret hC hS u42 w42 hP dX6_putBase_45
        · skip
          refine lv_bipush (v := nI 84) hx hb dX6_putBase_35 (by decide) ?_
          refine lv_goto (tgt := 42) hx hb dX6_putBase_37 (by decide) ?_
          refine zCv (is := [0, 1]) (wf := (fun (uu : Nat → Nat) => ([(m0, .inr (6, [.ref gA, .int (nI n), .ref tA, .int (nI w), .int (nI fo), .ref pA, .ref sA, .ref mA, .int ch, .int (nI ma), .ref npA, .ref nsA, .ref nmA, .int nc, .int (nI le), .ref lA, .int (nI ((T ++ ([84])).length)), .ref dA, .int (nI dn)])), (dA, .inl (cC, 1500, .inl (fun jj => nI (uu jj))))] : va_W))) (va_runV (As := [.int (nI 84)]) (rest := []) ⟨hx, hb, hml, hown, hts⟩ (j_put l D cI cC  m0 gA n tA w fo pA sA mA ma npA nsA nmA le lA dA dn ch nc 84 T a (by omega) (by omega) ha H.size) (cwV 1 hts (zgood mw_577 mw_579 mw_13 mw_32 mw_580) rfl rfl rfl (by decide +kernel) ⟨Nat.le_of_ble_eq_true rfl, Nat.le_of_ble_eq_true rfl⟩) ⟨zBlind zE0_ok, va_recv hK hP (ci := 6) (q0 := 0) rfl rfl, zAt (av := [.ref m0, .int (nI 84)]) zE0_ok hP hD hK hS hA trivial [0, 1] rfl (by decide)⟩ rfl rfl hl.1 rfl (lv_room (Nat.le_of_ble_eq_true rfl)) dX6_putBase_42 ⟨Nat.zero_le _, Nat.zero_le _⟩) hP hD hS hA rfl (fun _ => rfl) (fun u42 H locs w42 hP hD hS => ?_)
          have hP : va_P D vwCl [(m0, .inr (6, [.ref gA, .int (nI n), .ref tA, .int (nI w), .int (nI fo), .ref pA, .ref sA, .ref mA, .int ch, .int (nI ma), .ref npA, .ref nsA, .ref nmA, .int nc, .int (nI le), .ref lA, .int (nI ((T ++ ([84])).length)), .ref dA, .int (nI dn)])), (dA, .inl (cC, 1500, .inl (fun jj => nI (u42 jj))))] H := hP
          have hD : va_D A [(m0, .inr (6, [.ref gA, .int (nI n), .ref tA, .int (nI w), .int (nI fo), .ref pA, .ref sA, .ref mA, .int ch, .int (nI ma), .ref npA, .ref nsA, .ref nmA, .int nc, .int (nI le), .ref lA, .int (nI ((T ++ ([84])).length)), .ref dA, .int (nI dn)])), (dA, .inl (cC, 1500, .inl (fun jj => nI (u42 jj))))] := hD
          obtain ⟨T42, hT42⟩ : ∃ y9, y9 = T ++ ([84]) := ⟨_, rfl⟩
          rw [← hT42] at hP hD w42
          have lT42 : T42.length ≤ T.length + 1 := by rw [hT42, List.length_append]; simp
          have hP : va_P D vwCl [(m0, .inr (6, [.ref gA, .int (nI n), .ref tA, .int (nI w), .int (nI fo), .ref pA, .ref sA, .ref mA, .int ch, .int (nI ma), .ref npA, .ref nsA, .ref nmA, .int nc, .int (nI le), .ref lA, .int (nI (T42.length)), .ref dA, .int (nI dn)])), (dA, .inl (cC, 1500, .inl (fun jj => nI (u42 jj))))] H := hP
          have hD : va_D A [(m0, .inr (6, [.ref gA, .int (nI n), .ref tA, .int (nI w), .int (nI fo), .ref pA, .ref sA, .ref mA, .int ch, .int (nI ma), .ref npA, .ref nsA, .ref nmA, .int nc, .int (nI le), .ref lA, .int (nI (T42.length)), .ref dA, .int (nI dn)])), (dA, .inl (cC, 1500, .inl (fun jj => nI (u42 jj))))] := hD
          have eT : T42 = T ++ ([zlet x]) := by rw [hT42, show x = 3 by omega]; rfl
          rw [eT] at hP hD w42
          have hP : va_P D vwCl [(m0, .inr (6, [.ref gA, .int (nI n), .ref tA, .int (nI w), .int (nI fo), .ref pA, .ref sA, .ref mA, .int ch, .int (nI ma), .ref npA, .ref nsA, .ref nmA, .int nc, .int (nI le), .ref lA, .int (nI ((T ++ ([zlet x])).length)), .ref dA, .int (nI dn)])), (dA, .inl (cC, 1500, .inl (fun jj => nI (u42 jj))))] H := hP
          have hD : va_D A [(m0, .inr (6, [.ref gA, .int (nI n), .ref tA, .int (nI w), .int (nI fo), .ref pA, .ref sA, .ref mA, .int ch, .int (nI ma), .ref npA, .ref nsA, .ref nmA, .int nc, .int (nI le), .ref lA, .int (nI ((T ++ ([zlet x])).length)), .ref dA, .int (nI dn)])), (dA, .inl (cC, 1500, .inl (fun jj => nI (u42 jj))))] := hD
          exact zVret hC hS u42 w42 hP dX6_putBase_45
      · skip
        refine lv_bipush (v := nI 71) hx hb dX6_putBase_25 (by decide) ?_
        refine lv_goto (tgt := 42) hx hb dX6_putBase_27 (by decide) ?_
        refine zCv (is := [0, 1]) (wf := (fun (uu : Nat → Nat) => ([(m0, .inr (6, [.ref gA, .int (nI n), .ref tA, .int (nI w), .int (nI fo), .ref pA, .ref sA, .ref mA, .int ch, .int (nI ma), .ref npA, .ref nsA, .ref nmA, .int nc, .int (nI le), .ref lA, .int (nI ((T ++ ([71])).length)), .ref dA, .int (nI dn)])), (dA, .inl (cC, 1500, .inl (fun jj => nI (uu jj))))] : va_W))) (va_runV (As := [.int (nI 71)]) (rest := []) ⟨hx, hb, hml, hown, hts⟩ (j_put l D cI cC  m0 gA n tA w fo pA sA mA ma npA nsA nmA le lA dA dn ch nc 71 T a (by omega) (by omega) ha H.size) (cwV 1 hts (zgood mw_577 mw_579 mw_13 mw_32 mw_580) rfl rfl rfl (by decide +kernel) ⟨Nat.le_of_ble_eq_true rfl, Nat.le_of_ble_eq_true rfl⟩) ⟨zBlind zE0_ok, va_recv hK hP (ci := 6) (q0 := 0) rfl rfl, zAt (av := [.ref m0, .int (nI 71)]) zE0_ok hP hD hK hS hA trivial [0, 1] rfl (by decide)⟩ rfl rfl hl.1 rfl (lv_room (Nat.le_of_ble_eq_true rfl)) dX6_putBase_42 ⟨Nat.zero_le _, Nat.zero_le _⟩) hP hD hS hA rfl (fun _ => rfl) (fun u42 H locs w42 hP hD hS => ?_)
        have hP : va_P D vwCl [(m0, .inr (6, [.ref gA, .int (nI n), .ref tA, .int (nI w), .int (nI fo), .ref pA, .ref sA, .ref mA, .int ch, .int (nI ma), .ref npA, .ref nsA, .ref nmA, .int nc, .int (nI le), .ref lA, .int (nI ((T ++ ([71])).length)), .ref dA, .int (nI dn)])), (dA, .inl (cC, 1500, .inl (fun jj => nI (u42 jj))))] H := hP
        have hD : va_D A [(m0, .inr (6, [.ref gA, .int (nI n), .ref tA, .int (nI w), .int (nI fo), .ref pA, .ref sA, .ref mA, .int ch, .int (nI ma), .ref npA, .ref nsA, .ref nmA, .int nc, .int (nI le), .ref lA, .int (nI ((T ++ ([71])).length)), .ref dA, .int (nI dn)])), (dA, .inl (cC, 1500, .inl (fun jj => nI (u42 jj))))] := hD
        obtain ⟨T42, hT42⟩ : ∃ y9, y9 = T ++ ([71]) := ⟨_, rfl⟩
        rw [← hT42] at hP hD w42
        have lT42 : T42.length ≤ T.length + 1 := by rw [hT42, List.length_append]; simp
        have hP : va_P D vwCl [(m0, .inr (6, [.ref gA, .int (nI n), .ref tA, .int (nI w), .int (nI fo), .ref pA, .ref sA, .ref mA, .int ch, .int (nI ma), .ref npA, .ref nsA, .ref nmA, .int nc, .int (nI le), .ref lA, .int (nI (T42.length)), .ref dA, .int (nI dn)])), (dA, .inl (cC, 1500, .inl (fun jj => nI (u42 jj))))] H := hP
        have hD : va_D A [(m0, .inr (6, [.ref gA, .int (nI n), .ref tA, .int (nI w), .int (nI fo), .ref pA, .ref sA, .ref mA, .int ch, .int (nI ma), .ref npA, .ref nsA, .ref nmA, .int nc, .int (nI le), .ref lA, .int (nI (T42.length)), .ref dA, .int (nI dn)])), (dA, .inl (cC, 1500, .inl (fun jj => nI (u42 jj))))] := hD
        have eT : T42 = T ++ ([zlet x]) := by rw [hT42, show x = 2 by omega]; rfl
        rw [eT] at hP hD w42
        have hP : va_P D vwCl [(m0, .inr (6, [.ref gA, .int (nI n), .ref tA, .int (nI w), .int (nI fo), .ref pA, .ref sA, .ref mA, .int ch, .int (nI ma), .ref npA, .ref nsA, .ref nmA, .int nc, .int (nI le), .ref lA, .int (nI ((T ++ ([zlet x])).length)), .ref dA, .int (nI dn)])), (dA, .inl (cC, 1500, .inl (fun jj => nI (u42 jj))))] H := hP
        have hD : va_D A [(m0, .inr (6, [.ref gA, .int (nI n), .ref tA, .int (nI w), .int (nI fo), .ref pA, .ref sA, .ref mA, .int ch, .int (nI ma), .ref npA, .ref nsA, .ref nmA, .int nc, .int (nI le), .ref lA, .int (nI ((T ++ ([zlet x])).length)), .ref dA, .int (nI dn)])), (dA, .inl (cC, 1500, .inl (fun jj => nI (u42 jj))))] := hD
        exact zVret hC hS u42 w42 hP dX6_putBase_45
    · skip
      refine lv_bipush (v := nI 67) hx hb dX6_putBase_15 (by decide) ?_
      refine lv_goto (tgt := 42) hx hb dX6_putBase_17 (by decide) ?_
      refine zCv (is := [0, 1]) (wf := (fun (uu : Nat → Nat) => ([(m0, .inr (6, [.ref gA, .int (nI n), .ref tA, .int (nI w), .int (nI fo), .ref pA, .ref sA, .ref mA, .int ch, .int (nI ma), .ref npA, .ref nsA, .ref nmA, .int nc, .int (nI le), .ref lA, .int (nI ((T ++ ([67])).length)), .ref dA, .int (nI dn)])), (dA, .inl (cC, 1500, .inl (fun jj => nI (uu jj))))] : va_W))) (va_runV (As := [.int (nI 67)]) (rest := []) ⟨hx, hb, hml, hown, hts⟩ (j_put l D cI cC  m0 gA n tA w fo pA sA mA ma npA nsA nmA le lA dA dn ch nc 67 T a (by omega) (by omega) ha H.size) (cwV 1 hts (zgood mw_577 mw_579 mw_13 mw_32 mw_580) rfl rfl rfl (by decide +kernel) ⟨Nat.le_of_ble_eq_true rfl, Nat.le_of_ble_eq_true rfl⟩) ⟨zBlind zE0_ok, va_recv hK hP (ci := 6) (q0 := 0) rfl rfl, zAt (av := [.ref m0, .int (nI 67)]) zE0_ok hP hD hK hS hA trivial [0, 1] rfl (by decide)⟩ rfl rfl hl.1 rfl (lv_room (Nat.le_of_ble_eq_true rfl)) dX6_putBase_42 ⟨Nat.zero_le _, Nat.zero_le _⟩) hP hD hS hA rfl (fun _ => rfl) (fun u42 H locs w42 hP hD hS => ?_)
      have hP : va_P D vwCl [(m0, .inr (6, [.ref gA, .int (nI n), .ref tA, .int (nI w), .int (nI fo), .ref pA, .ref sA, .ref mA, .int ch, .int (nI ma), .ref npA, .ref nsA, .ref nmA, .int nc, .int (nI le), .ref lA, .int (nI ((T ++ ([67])).length)), .ref dA, .int (nI dn)])), (dA, .inl (cC, 1500, .inl (fun jj => nI (u42 jj))))] H := hP
      have hD : va_D A [(m0, .inr (6, [.ref gA, .int (nI n), .ref tA, .int (nI w), .int (nI fo), .ref pA, .ref sA, .ref mA, .int ch, .int (nI ma), .ref npA, .ref nsA, .ref nmA, .int nc, .int (nI le), .ref lA, .int (nI ((T ++ ([67])).length)), .ref dA, .int (nI dn)])), (dA, .inl (cC, 1500, .inl (fun jj => nI (u42 jj))))] := hD
      obtain ⟨T42, hT42⟩ : ∃ y9, y9 = T ++ ([67]) := ⟨_, rfl⟩
      rw [← hT42] at hP hD w42
      have lT42 : T42.length ≤ T.length + 1 := by rw [hT42, List.length_append]; simp
      have hP : va_P D vwCl [(m0, .inr (6, [.ref gA, .int (nI n), .ref tA, .int (nI w), .int (nI fo), .ref pA, .ref sA, .ref mA, .int ch, .int (nI ma), .ref npA, .ref nsA, .ref nmA, .int nc, .int (nI le), .ref lA, .int (nI (T42.length)), .ref dA, .int (nI dn)])), (dA, .inl (cC, 1500, .inl (fun jj => nI (u42 jj))))] H := hP
      have hD : va_D A [(m0, .inr (6, [.ref gA, .int (nI n), .ref tA, .int (nI w), .int (nI fo), .ref pA, .ref sA, .ref mA, .int ch, .int (nI ma), .ref npA, .ref nsA, .ref nmA, .int nc, .int (nI le), .ref lA, .int (nI (T42.length)), .ref dA, .int (nI dn)])), (dA, .inl (cC, 1500, .inl (fun jj => nI (u42 jj))))] := hD
      have eT : T42 = T ++ ([zlet x]) := by rw [hT42, show x = 1 by omega]; rfl
      rw [eT] at hP hD w42
      have hP : va_P D vwCl [(m0, .inr (6, [.ref gA, .int (nI n), .ref tA, .int (nI w), .int (nI fo), .ref pA, .ref sA, .ref mA, .int ch, .int (nI ma), .ref npA, .ref nsA, .ref nmA, .int nc, .int (nI le), .ref lA, .int (nI ((T ++ ([zlet x])).length)), .ref dA, .int (nI dn)])), (dA, .inl (cC, 1500, .inl (fun jj => nI (u42 jj))))] H := hP
      have hD : va_D A [(m0, .inr (6, [.ref gA, .int (nI n), .ref tA, .int (nI w), .int (nI fo), .ref pA, .ref sA, .ref mA, .int ch, .int (nI ma), .ref npA, .ref nsA, .ref nmA, .int nc, .int (nI le), .ref lA, .int (nI ((T ++ ([zlet x])).length)), .ref dA, .int (nI dn)])), (dA, .inl (cC, 1500, .inl (fun jj => nI (u42 jj))))] := hD
      exact zVret hC hS u42 w42 hP dX6_putBase_45
  · skip
    refine lv_bipush (v := nI 65) hx hb dX6_putBase_5 (by decide) ?_
    refine lv_goto (tgt := 42) hx hb dX6_putBase_7 (by decide) ?_
    refine zCv (is := [0, 1]) (wf := (fun (uu : Nat → Nat) => ([(m0, .inr (6, [.ref gA, .int (nI n), .ref tA, .int (nI w), .int (nI fo), .ref pA, .ref sA, .ref mA, .int ch, .int (nI ma), .ref npA, .ref nsA, .ref nmA, .int nc, .int (nI le), .ref lA, .int (nI ((T ++ ([65])).length)), .ref dA, .int (nI dn)])), (dA, .inl (cC, 1500, .inl (fun jj => nI (uu jj))))] : va_W))) (va_runV (As := [.int (nI 65)]) (rest := []) ⟨hx, hb, hml, hown, hts⟩ (j_put l D cI cC  m0 gA n tA w fo pA sA mA ma npA nsA nmA le lA dA dn ch nc 65 T a (by omega) (by omega) ha H.size) (cwV 1 hts (zgood mw_577 mw_579 mw_13 mw_32 mw_580) rfl rfl rfl (by decide +kernel) ⟨Nat.le_of_ble_eq_true rfl, Nat.le_of_ble_eq_true rfl⟩) ⟨zBlind zE0_ok, va_recv hK hP (ci := 6) (q0 := 0) rfl rfl, zAt (av := [.ref m0, .int (nI 65)]) zE0_ok hP hD hK hS hA trivial [0, 1] rfl (by decide)⟩ rfl rfl hl.1 rfl (lv_room (Nat.le_of_ble_eq_true rfl)) dX6_putBase_42 ⟨Nat.zero_le _, Nat.zero_le _⟩) hP hD hS hA rfl (fun _ => rfl) (fun u42 H locs w42 hP hD hS => ?_)
    have hP : va_P D vwCl [(m0, .inr (6, [.ref gA, .int (nI n), .ref tA, .int (nI w), .int (nI fo), .ref pA, .ref sA, .ref mA, .int ch, .int (nI ma), .ref npA, .ref nsA, .ref nmA, .int nc, .int (nI le), .ref lA, .int (nI ((T ++ ([65])).length)), .ref dA, .int (nI dn)])), (dA, .inl (cC, 1500, .inl (fun jj => nI (u42 jj))))] H := hP
    have hD : va_D A [(m0, .inr (6, [.ref gA, .int (nI n), .ref tA, .int (nI w), .int (nI fo), .ref pA, .ref sA, .ref mA, .int ch, .int (nI ma), .ref npA, .ref nsA, .ref nmA, .int nc, .int (nI le), .ref lA, .int (nI ((T ++ ([65])).length)), .ref dA, .int (nI dn)])), (dA, .inl (cC, 1500, .inl (fun jj => nI (u42 jj))))] := hD
    obtain ⟨T42, hT42⟩ : ∃ y9, y9 = T ++ ([65]) := ⟨_, rfl⟩
    rw [← hT42] at hP hD w42
    have lT42 : T42.length ≤ T.length + 1 := by rw [hT42, List.length_append]; simp
    have hP : va_P D vwCl [(m0, .inr (6, [.ref gA, .int (nI n), .ref tA, .int (nI w), .int (nI fo), .ref pA, .ref sA, .ref mA, .int ch, .int (nI ma), .ref npA, .ref nsA, .ref nmA, .int nc, .int (nI le), .ref lA, .int (nI (T42.length)), .ref dA, .int (nI dn)])), (dA, .inl (cC, 1500, .inl (fun jj => nI (u42 jj))))] H := hP
    have hD : va_D A [(m0, .inr (6, [.ref gA, .int (nI n), .ref tA, .int (nI w), .int (nI fo), .ref pA, .ref sA, .ref mA, .int ch, .int (nI ma), .ref npA, .ref nsA, .ref nmA, .int nc, .int (nI le), .ref lA, .int (nI (T42.length)), .ref dA, .int (nI dn)])), (dA, .inl (cC, 1500, .inl (fun jj => nI (u42 jj))))] := hD
    have eT : T42 = T ++ ([zlet x]) := by rw [hT42, show x = 0 by omega]; rfl
    rw [eT] at hP hD w42
    have hP : va_P D vwCl [(m0, .inr (6, [.ref gA, .int (nI n), .ref tA, .int (nI w), .int (nI fo), .ref pA, .ref sA, .ref mA, .int ch, .int (nI ma), .ref npA, .ref nsA, .ref nmA, .int nc, .int (nI le), .ref lA, .int (nI ((T ++ ([zlet x])).length)), .ref dA, .int (nI dn)])), (dA, .inl (cC, 1500, .inl (fun jj => nI (u42 jj))))] H := hP
    have hD : va_D A [(m0, .inr (6, [.ref gA, .int (nI n), .ref tA, .int (nI w), .int (nI fo), .ref pA, .ref sA, .ref mA, .int ch, .int (nI ma), .ref npA, .ref nsA, .ref nmA, .int nc, .int (nI le), .ref lA, .int (nI ((T ++ ([zlet x])).length)), .ref dA, .int (nI dn)])), (dA, .inl (cC, 1500, .inl (fun jj => nI (u42 jj))))] := hD
    exact zVret hC hS u42 w42 hP dX6_putBase_45
set_option maxHeartbeats 4000000 in
set_option maxRecDepth 100000 in
theorem j_tab (l : Launch) (D : va_G) (cI cC : ClassId)  (m0 gA n tA w fo pA sA mA ma npA nsA nmA le lA dA dn : Nat) (ch nc : Int32) (T : List Nat) (a : Nat → Nat) (hT : T.length + 1 ≤ 2000000) (ha : zAG a T) (sz : Nat) : Met l yX6_tab wsX6_tab ({ frames := 1, cells := 0, slots := 0, locals := 21 } : Room) (zPre zE0 D vwCl [(cI, .int), (cC, .char)] [.ref m0] [(m0, .inr (6, [.ref gA, .int (nI n), .ref tA, .int (nI w), .int (nI fo), .ref pA, .ref sA, .ref mA, .int ch, .int (nI ma), .ref npA, .ref nsA, .ref nmA, .int nc, .int (nI le), .ref lA, .int (nI (T.length)), .ref dA, .int (nI dn)])), (dA, .inl (cC, 1500, .inl (fun jj => nI (a jj))))] sz) (va_Qv (fun (uu : Nat → Nat) => zAG uu (T ++ ([(9 : Nat)]))) (fun (uu : Nat → Nat) t9 => va_P D vwCl ([(m0, .inr (6, [.ref gA, .int (nI n), .ref tA, .int (nI w), .int (nI fo), .ref pA, .ref sA, .ref mA, .int ch, .int (nI ma), .ref npA, .ref nsA, .ref nmA, .int nc, .int (nI le), .ref lA, .int (nI ((T ++ ([(9 : Nat)])).length)), .ref dA, .int (nI dn)])), (dA, .inl (cC, 1500, .inl (fun jj => nI (uu jj))))]) t9.heap) (va_A [(m0, .inr (6, [.ref gA, .int (nI n), .ref tA, .int (nI w), .int (nI fo), .ref pA, .ref sA, .ref mA, .int ch, .int (nI ma), .ref npA, .ref nsA, .ref nmA, .int nc, .int (nI le), .ref lA, .int (nI (T.length)), .ref dA, .int (nI dn)])), (dA, .inl (cC, 1500, .inl (fun jj => nI (a jj))))] sz)) 0 0 (va_A [(m0, .inr (6, [.ref gA, .int (nI n), .ref tA, .int (nI w), .int (nI fo), .ref pA, .ref sA, .ref mA, .int ch, .int (nI ma), .ref npA, .ref nsA, .ref nmA, .int nc, .int (nI le), .ref lA, .int (nI (T.length)), .ref dA, .int (nI dn)])), (dA, .inl (cC, 1500, .inl (fun jj => nI (a jj))))] sz) := by
  refine zMet (cc := cX6_tab) (maxL := 1) (ret := none) (Qc := fun A => (va_Qv (fun (uu : Nat → Nat) => zAG uu (T ++ ([(9 : Nat)]))) (fun (uu : Nat → Nat) t9 => va_P D vwCl ([(m0, .inr (6, [.ref gA, .int (nI n), .ref tA, .int (nI w), .int (nI fo), .ref pA, .ref sA, .ref mA, .int ch, .int (nI ma), .ref npA, .ref nsA, .ref nmA, .int nc, .int (nI le), .ref lA, .int (nI ((T ++ ([(9 : Nat)])).length)), .ref dA, .int (nI dn)])), (dA, .inl (cC, 1500, .inl (fun jj => nI (uu jj))))]) t9.heap) A)) (by decide) rfl (Nat.le_of_ble_eq_true rfl) ?_
  intro pr en s0 mi bl me co A hC hA hK hE H locs hP hD hS ls hl
  obtain ⟨hx, hb, hr, hml, hown, hts, hlocks, hin⟩ := id hC
  have hl : lv_has ls 1 [(0, .ref m0)] := hl
  refine lv_aload_n hx hb dX6_tab_0 rfl (lv_at hl 0 rfl) ?_
  refine lv_bipush (v := nI 9) hx hb dX6_tab_1 (by decide) ?_
  refine zCv (is := [0, 1]) (wf := (fun (uu : Nat → Nat) => ([(m0, .inr (6, [.ref gA, .int (nI n), .ref tA, .int (nI w), .int (nI fo), .ref pA, .ref sA, .ref mA, .int ch, .int (nI ma), .ref npA, .ref nsA, .ref nmA, .int nc, .int (nI le), .ref lA, .int (nI ((T ++ ([9])).length)), .ref dA, .int (nI dn)])), (dA, .inl (cC, 1500, .inl (fun jj => nI (uu jj))))] : va_W))) (va_runV (As := [.int (nI 9)]) (rest := []) ⟨hx, hb, hml, hown, hts⟩ (j_put l D cI cC  m0 gA n tA w fo pA sA mA ma npA nsA nmA le lA dA dn ch nc 9 T a (by omega) (by omega) ha H.size) (cwV 1 hts (zgood mw_577 mw_579 mw_13 mw_32 mw_580) rfl rfl rfl (by decide +kernel) ⟨Nat.le_of_ble_eq_true rfl, Nat.le_of_ble_eq_true rfl⟩) ⟨zBlind zE0_ok, va_recv hK hP (ci := 6) (q0 := 0) rfl rfl, zAt (av := [.ref m0, .int (nI 9)]) zE0_ok hP hD hK hS hA trivial [0, 1] rfl (by decide)⟩ rfl rfl hl.1 rfl (lv_room (Nat.le_of_ble_eq_true rfl)) dX6_tab_3 ⟨Nat.zero_le _, Nat.zero_le _⟩) hP hD hS hA rfl (fun _ => rfl) (fun u3 H locs w3 hP hD hS => ?_)
  have hP : va_P D vwCl [(m0, .inr (6, [.ref gA, .int (nI n), .ref tA, .int (nI w), .int (nI fo), .ref pA, .ref sA, .ref mA, .int ch, .int (nI ma), .ref npA, .ref nsA, .ref nmA, .int nc, .int (nI le), .ref lA, .int (nI ((T ++ ([9])).length)), .ref dA, .int (nI dn)])), (dA, .inl (cC, 1500, .inl (fun jj => nI (u3 jj))))] H := hP
  have hD : va_D A [(m0, .inr (6, [.ref gA, .int (nI n), .ref tA, .int (nI w), .int (nI fo), .ref pA, .ref sA, .ref mA, .int ch, .int (nI ma), .ref npA, .ref nsA, .ref nmA, .int nc, .int (nI le), .ref lA, .int (nI ((T ++ ([9])).length)), .ref dA, .int (nI dn)])), (dA, .inl (cC, 1500, .inl (fun jj => nI (u3 jj))))] := hD
  obtain ⟨T3, hT3⟩ : ∃ y9, y9 = T ++ ([9]) := ⟨_, rfl⟩
  rw [← hT3] at hP hD w3
  have lT3 : T3.length ≤ T.length + 1 := by rw [hT3, List.length_append]; simp
  have hP : va_P D vwCl [(m0, .inr (6, [.ref gA, .int (nI n), .ref tA, .int (nI w), .int (nI fo), .ref pA, .ref sA, .ref mA, .int ch, .int (nI ma), .ref npA, .ref nsA, .ref nmA, .int nc, .int (nI le), .ref lA, .int (nI (T3.length)), .ref dA, .int (nI dn)])), (dA, .inl (cC, 1500, .inl (fun jj => nI (u3 jj))))] H := hP
  have hD : va_D A [(m0, .inr (6, [.ref gA, .int (nI n), .ref tA, .int (nI w), .int (nI fo), .ref pA, .ref sA, .ref mA, .int ch, .int (nI ma), .ref npA, .ref nsA, .ref nmA, .int nc, .int (nI le), .ref lA, .int (nI (T3.length)), .ref dA, .int (nI dn)])), (dA, .inl (cC, 1500, .inl (fun jj => nI (u3 jj))))] := hD
  have eT : T3 = T ++ ([(9 : Nat)]) := by rw [hT3] <;> simp []
  rw [eT] at hP hD w3
  have hP : va_P D vwCl [(m0, .inr (6, [.ref gA, .int (nI n), .ref tA, .int (nI w), .int (nI fo), .ref pA, .ref sA, .ref mA, .int ch, .int (nI ma), .ref npA, .ref nsA, .ref nmA, .int nc, .int (nI le), .ref lA, .int (nI ((T ++ ([(9 : Nat)])).length)), .ref dA, .int (nI dn)])), (dA, .inl (cC, 1500, .inl (fun jj => nI (u3 jj))))] H := hP
  have hD : va_D A [(m0, .inr (6, [.ref gA, .int (nI n), .ref tA, .int (nI w), .int (nI fo), .ref pA, .ref sA, .ref mA, .int ch, .int (nI ma), .ref npA, .ref nsA, .ref nmA, .int nc, .int (nI le), .ref lA, .int (nI ((T ++ ([(9 : Nat)])).length)), .ref dA, .int (nI dn)])), (dA, .inl (cC, 1500, .inl (fun jj => nI (u3 jj))))] := hD
  exact zVret hC hS u3 w3 hP dX6_tab_6
set_option maxHeartbeats 4000000 in
set_option maxRecDepth 100000 in
theorem j_pair (l : Launch) (D : va_G) (cI cC : ClassId)  (m0 gA n tA w fo pA sA mA ma npA nsA nmA le lA dA dn : Nat) (ch nc : Int32) (x y : Nat) (T : List Nat) (a : Nat → Nat) (hxx : x < 128) (hy : y < 128) (hT : T.length + 3 ≤ 2000000) (ha : zAG a T) (sz : Nat) : Met l yX6_pair wsX6_pair ({ frames := 1, cells := 0, slots := 0, locals := 21 } : Room) (zPre zE0 D vwCl [(cI, .int), (cC, .char)] [.ref m0, .int (nI x), .int (nI y)] [(m0, .inr (6, [.ref gA, .int (nI n), .ref tA, .int (nI w), .int (nI fo), .ref pA, .ref sA, .ref mA, .int ch, .int (nI ma), .ref npA, .ref nsA, .ref nmA, .int nc, .int (nI le), .ref lA, .int (nI (T.length)), .ref dA, .int (nI dn)])), (dA, .inl (cC, 1500, .inl (fun jj => nI (a jj))))] sz) (va_Qv (fun (uu : Nat → Nat) => zAG uu (T ++ ([x, y, 58]))) (fun (uu : Nat → Nat) t9 => va_P D vwCl ([(m0, .inr (6, [.ref gA, .int (nI n), .ref tA, .int (nI w), .int (nI fo), .ref pA, .ref sA, .ref mA, .int ch, .int (nI ma), .ref npA, .ref nsA, .ref nmA, .int nc, .int (nI le), .ref lA, .int (nI ((T ++ ([x, y, 58])).length)), .ref dA, .int (nI dn)])), (dA, .inl (cC, 1500, .inl (fun jj => nI (uu jj))))]) t9.heap) (va_A [(m0, .inr (6, [.ref gA, .int (nI n), .ref tA, .int (nI w), .int (nI fo), .ref pA, .ref sA, .ref mA, .int ch, .int (nI ma), .ref npA, .ref nsA, .ref nmA, .int nc, .int (nI le), .ref lA, .int (nI (T.length)), .ref dA, .int (nI dn)])), (dA, .inl (cC, 1500, .inl (fun jj => nI (a jj))))] sz)) 0 0 (va_A [(m0, .inr (6, [.ref gA, .int (nI n), .ref tA, .int (nI w), .int (nI fo), .ref pA, .ref sA, .ref mA, .int ch, .int (nI ma), .ref npA, .ref nsA, .ref nmA, .int nc, .int (nI le), .ref lA, .int (nI (T.length)), .ref dA, .int (nI dn)])), (dA, .inl (cC, 1500, .inl (fun jj => nI (a jj))))] sz) := by
  refine zMet (cc := cX6_pair) (maxL := 3) (ret := none) (Qc := fun A => (va_Qv (fun (uu : Nat → Nat) => zAG uu (T ++ ([x, y, 58]))) (fun (uu : Nat → Nat) t9 => va_P D vwCl ([(m0, .inr (6, [.ref gA, .int (nI n), .ref tA, .int (nI w), .int (nI fo), .ref pA, .ref sA, .ref mA, .int ch, .int (nI ma), .ref npA, .ref nsA, .ref nmA, .int nc, .int (nI le), .ref lA, .int (nI ((T ++ ([x, y, 58])).length)), .ref dA, .int (nI dn)])), (dA, .inl (cC, 1500, .inl (fun jj => nI (uu jj))))]) t9.heap) A)) (by decide) rfl (Nat.le_of_ble_eq_true rfl) ?_
  intro pr en s0 mi bl me co A hC hA hK hE H locs hP hD hS ls hl
  obtain ⟨hx, hb, hr, hml, hown, hts, hlocks, hin⟩ := id hC
  have hl : lv_has ls 3 [(0, .ref m0), (1, .int (nI x)), (2, .int (nI y))] := hl
  refine lv_aload_n hx hb dX6_pair_0 rfl (lv_at hl 0 rfl) ?_
  refine lv_iload_n hx hb dX6_pair_1 rfl (lv_at hl 1 rfl) ?_
  refine zCv (is := [0, 1]) (wf := (fun (uu : Nat → Nat) => ([(m0, .inr (6, [.ref gA, .int (nI n), .ref tA, .int (nI w), .int (nI fo), .ref pA, .ref sA, .ref mA, .int ch, .int (nI ma), .ref npA, .ref nsA, .ref nmA, .int nc, .int (nI le), .ref lA, .int (nI ((T ++ ([x])).length)), .ref dA, .int (nI dn)])), (dA, .inl (cC, 1500, .inl (fun jj => nI (uu jj))))] : va_W))) (va_runV (As := [.int (nI x)]) (rest := []) ⟨hx, hb, hml, hown, hts⟩ (j_put l D cI cC  m0 gA n tA w fo pA sA mA ma npA nsA nmA le lA dA dn ch nc x T a (by omega) (by omega) ha H.size) (cwV 1 hts (zgood mw_577 mw_579 mw_13 mw_32 mw_580) rfl rfl rfl (by decide +kernel) ⟨Nat.le_of_ble_eq_true rfl, Nat.le_of_ble_eq_true rfl⟩) ⟨zBlind zE0_ok, va_recv hK hP (ci := 6) (q0 := 0) rfl rfl, zAt (av := [.ref m0, .int (nI x)]) zE0_ok hP hD hK hS hA trivial [0, 1] rfl (by decide)⟩ rfl rfl hl.1 rfl (lv_room (Nat.le_of_ble_eq_true rfl)) dX6_pair_2 ⟨Nat.zero_le _, Nat.zero_le _⟩) hP hD hS hA rfl (fun _ => rfl) (fun u2 H locs w2 hP hD hS => ?_)
  have hP : va_P D vwCl [(m0, .inr (6, [.ref gA, .int (nI n), .ref tA, .int (nI w), .int (nI fo), .ref pA, .ref sA, .ref mA, .int ch, .int (nI ma), .ref npA, .ref nsA, .ref nmA, .int nc, .int (nI le), .ref lA, .int (nI ((T ++ ([x])).length)), .ref dA, .int (nI dn)])), (dA, .inl (cC, 1500, .inl (fun jj => nI (u2 jj))))] H := hP
  have hD : va_D A [(m0, .inr (6, [.ref gA, .int (nI n), .ref tA, .int (nI w), .int (nI fo), .ref pA, .ref sA, .ref mA, .int ch, .int (nI ma), .ref npA, .ref nsA, .ref nmA, .int nc, .int (nI le), .ref lA, .int (nI ((T ++ ([x])).length)), .ref dA, .int (nI dn)])), (dA, .inl (cC, 1500, .inl (fun jj => nI (u2 jj))))] := hD
  obtain ⟨T2, hT2⟩ : ∃ y9, y9 = T ++ ([x]) := ⟨_, rfl⟩
  rw [← hT2] at hP hD w2
  have lT2 : T2.length ≤ T.length + 1 := by rw [hT2, List.length_append]; simp
  have hP : va_P D vwCl [(m0, .inr (6, [.ref gA, .int (nI n), .ref tA, .int (nI w), .int (nI fo), .ref pA, .ref sA, .ref mA, .int ch, .int (nI ma), .ref npA, .ref nsA, .ref nmA, .int nc, .int (nI le), .ref lA, .int (nI (T2.length)), .ref dA, .int (nI dn)])), (dA, .inl (cC, 1500, .inl (fun jj => nI (u2 jj))))] H := hP
  have hD : va_D A [(m0, .inr (6, [.ref gA, .int (nI n), .ref tA, .int (nI w), .int (nI fo), .ref pA, .ref sA, .ref mA, .int ch, .int (nI ma), .ref npA, .ref nsA, .ref nmA, .int nc, .int (nI le), .ref lA, .int (nI (T2.length)), .ref dA, .int (nI dn)])), (dA, .inl (cC, 1500, .inl (fun jj => nI (u2 jj))))] := hD
  refine lv_aload_n hx hb dX6_pair_5 rfl (lv_at hl 0 rfl) ?_
  refine lv_iload_n hx hb dX6_pair_6 rfl (lv_at hl 2 rfl) ?_
  refine zCv (is := [0, 1]) (wf := (fun (uu : Nat → Nat) => ([(m0, .inr (6, [.ref gA, .int (nI n), .ref tA, .int (nI w), .int (nI fo), .ref pA, .ref sA, .ref mA, .int ch, .int (nI ma), .ref npA, .ref nsA, .ref nmA, .int nc, .int (nI le), .ref lA, .int (nI ((T2 ++ ([y])).length)), .ref dA, .int (nI dn)])), (dA, .inl (cC, 1500, .inl (fun jj => nI (uu jj))))] : va_W))) (va_runV (As := [.int (nI y)]) (rest := []) ⟨hx, hb, hml, hown, hts⟩ (j_put l D cI cC  m0 gA n tA w fo pA sA mA ma npA nsA nmA le lA dA dn ch nc y T2 u2 (by omega) (by omega) w2 H.size) (cwV 1 hts (zgood mw_577 mw_579 mw_13 mw_32 mw_580) rfl rfl rfl (by decide +kernel) ⟨Nat.le_of_ble_eq_true rfl, Nat.le_of_ble_eq_true rfl⟩) ⟨zBlind zE0_ok, va_recv hK hP (ci := 6) (q0 := 0) rfl rfl, zAt (av := [.ref m0, .int (nI y)]) zE0_ok hP hD hK hS hA trivial [0, 1] rfl (by decide)⟩ rfl rfl hl.1 rfl (lv_room (Nat.le_of_ble_eq_true rfl)) dX6_pair_7 ⟨Nat.zero_le _, Nat.zero_le _⟩) hP hD hS hA rfl (fun _ => rfl) (fun u7 H locs w7 hP hD hS => ?_)
  have hP : va_P D vwCl [(m0, .inr (6, [.ref gA, .int (nI n), .ref tA, .int (nI w), .int (nI fo), .ref pA, .ref sA, .ref mA, .int ch, .int (nI ma), .ref npA, .ref nsA, .ref nmA, .int nc, .int (nI le), .ref lA, .int (nI ((T2 ++ ([y])).length)), .ref dA, .int (nI dn)])), (dA, .inl (cC, 1500, .inl (fun jj => nI (u7 jj))))] H := hP
  have hD : va_D A [(m0, .inr (6, [.ref gA, .int (nI n), .ref tA, .int (nI w), .int (nI fo), .ref pA, .ref sA, .ref mA, .int ch, .int (nI ma), .ref npA, .ref nsA, .ref nmA, .int nc, .int (nI le), .ref lA, .int (nI ((T2 ++ ([y])).length)), .ref dA, .int (nI dn)])), (dA, .inl (cC, 1500, .inl (fun jj => nI (u7 jj))))] := hD
  obtain ⟨T7, hT7⟩ : ∃ y9, y9 = T2 ++ ([y]) := ⟨_, rfl⟩
  rw [← hT7] at hP hD w7
  have lT7 : T7.length ≤ T2.length + 1 := by rw [hT7, List.length_append]; simp
  have hP : va_P D vwCl [(m0, .inr (6, [.ref gA, .int (nI n), .ref tA, .int (nI w), .int (nI fo), .ref pA, .ref sA, .ref mA, .int ch, .int (nI ma), .ref npA, .ref nsA, .ref nmA, .int nc, .int (nI le), .ref lA, .int (nI (T7.length)), .ref dA, .int (nI dn)])), (dA, .inl (cC, 1500, .inl (fun jj => nI (u7 jj))))] H := hP
  have hD : va_D A [(m0, .inr (6, [.ref gA, .int (nI n), .ref tA, .int (nI w), .int (nI fo), .ref pA, .ref sA, .ref mA, .int ch, .int (nI ma), .ref npA, .ref nsA, .ref nmA, .int nc, .int (nI le), .ref lA, .int (nI (T7.length)), .ref dA, .int (nI dn)])), (dA, .inl (cC, 1500, .inl (fun jj => nI (u7 jj))))] := hD
  refine lv_aload_n hx hb dX6_pair_10 rfl (lv_at hl 0 rfl) ?_
  refine lv_bipush (v := nI 58) hx hb dX6_pair_11 (by decide) ?_
  refine zCv (is := [0, 1]) (wf := (fun (uu : Nat → Nat) => ([(m0, .inr (6, [.ref gA, .int (nI n), .ref tA, .int (nI w), .int (nI fo), .ref pA, .ref sA, .ref mA, .int ch, .int (nI ma), .ref npA, .ref nsA, .ref nmA, .int nc, .int (nI le), .ref lA, .int (nI ((T7 ++ ([58])).length)), .ref dA, .int (nI dn)])), (dA, .inl (cC, 1500, .inl (fun jj => nI (uu jj))))] : va_W))) (va_runV (As := [.int (nI 58)]) (rest := []) ⟨hx, hb, hml, hown, hts⟩ (j_put l D cI cC  m0 gA n tA w fo pA sA mA ma npA nsA nmA le lA dA dn ch nc 58 T7 u7 (by omega) (by omega) w7 H.size) (cwV 1 hts (zgood mw_577 mw_579 mw_13 mw_32 mw_580) rfl rfl rfl (by decide +kernel) ⟨Nat.le_of_ble_eq_true rfl, Nat.le_of_ble_eq_true rfl⟩) ⟨zBlind zE0_ok, va_recv hK hP (ci := 6) (q0 := 0) rfl rfl, zAt (av := [.ref m0, .int (nI 58)]) zE0_ok hP hD hK hS hA trivial [0, 1] rfl (by decide)⟩ rfl rfl hl.1 rfl (lv_room (Nat.le_of_ble_eq_true rfl)) dX6_pair_13 ⟨Nat.zero_le _, Nat.zero_le _⟩) hP hD hS hA rfl (fun _ => rfl) (fun u13 H locs w13 hP hD hS => ?_)
  have hP : va_P D vwCl [(m0, .inr (6, [.ref gA, .int (nI n), .ref tA, .int (nI w), .int (nI fo), .ref pA, .ref sA, .ref mA, .int ch, .int (nI ma), .ref npA, .ref nsA, .ref nmA, .int nc, .int (nI le), .ref lA, .int (nI ((T7 ++ ([58])).length)), .ref dA, .int (nI dn)])), (dA, .inl (cC, 1500, .inl (fun jj => nI (u13 jj))))] H := hP
  have hD : va_D A [(m0, .inr (6, [.ref gA, .int (nI n), .ref tA, .int (nI w), .int (nI fo), .ref pA, .ref sA, .ref mA, .int ch, .int (nI ma), .ref npA, .ref nsA, .ref nmA, .int nc, .int (nI le), .ref lA, .int (nI ((T7 ++ ([58])).length)), .ref dA, .int (nI dn)])), (dA, .inl (cC, 1500, .inl (fun jj => nI (u13 jj))))] := hD
  obtain ⟨T13, hT13⟩ : ∃ y9, y9 = T7 ++ ([58]) := ⟨_, rfl⟩
  rw [← hT13] at hP hD w13
  have lT13 : T13.length ≤ T7.length + 1 := by rw [hT13, List.length_append]; simp
  have hP : va_P D vwCl [(m0, .inr (6, [.ref gA, .int (nI n), .ref tA, .int (nI w), .int (nI fo), .ref pA, .ref sA, .ref mA, .int ch, .int (nI ma), .ref npA, .ref nsA, .ref nmA, .int nc, .int (nI le), .ref lA, .int (nI (T13.length)), .ref dA, .int (nI dn)])), (dA, .inl (cC, 1500, .inl (fun jj => nI (u13 jj))))] H := hP
  have hD : va_D A [(m0, .inr (6, [.ref gA, .int (nI n), .ref tA, .int (nI w), .int (nI fo), .ref pA, .ref sA, .ref mA, .int ch, .int (nI ma), .ref npA, .ref nsA, .ref nmA, .int nc, .int (nI le), .ref lA, .int (nI (T13.length)), .ref dA, .int (nI dn)])), (dA, .inl (cC, 1500, .inl (fun jj => nI (u13 jj))))] := hD
  have eT : T13 = T ++ ([x, y, 58]) := by rw [hT13, hT7, hT2] <;> simp []
  rw [eT] at hP hD w13
  have hP : va_P D vwCl [(m0, .inr (6, [.ref gA, .int (nI n), .ref tA, .int (nI w), .int (nI fo), .ref pA, .ref sA, .ref mA, .int ch, .int (nI ma), .ref npA, .ref nsA, .ref nmA, .int nc, .int (nI le), .ref lA, .int (nI ((T ++ ([x, y, 58])).length)), .ref dA, .int (nI dn)])), (dA, .inl (cC, 1500, .inl (fun jj => nI (u13 jj))))] H := hP
  have hD : va_D A [(m0, .inr (6, [.ref gA, .int (nI n), .ref tA, .int (nI w), .int (nI fo), .ref pA, .ref sA, .ref mA, .int ch, .int (nI ma), .ref npA, .ref nsA, .ref nmA, .int nc, .int (nI le), .ref lA, .int (nI ((T ++ ([x, y, 58])).length)), .ref dA, .int (nI dn)])), (dA, .inl (cC, 1500, .inl (fun jj => nI (u13 jj))))] := hD
  exact zVret hC hS u13 w13 hP dX6_pair_16
set_option maxHeartbeats 4000000 in
set_option maxRecDepth 100000 in
theorem j_head (l : Launch) (D : va_G) (cI cC : ClassId)  (m0 gA n tA w fo pA sA mA ma npA nsA nmA le lA dA dn : Nat) (ch nc : Int32) (T : List Nat) (a : Nat → Nat) (hn : n ≤ 96) (hT : T.length + 40 ≤ 2000000) (ha : zAG a T) (sz : Nat) : Met l yX6_head wsX6_head ({ frames := 2, cells := 0, slots := 0, locals := 43 } : Room) (zPre zE0 D vwCl [(cI, .int), (cC, .char)] [.ref m0] [(m0, .inr (6, [.ref gA, .int (nI n), .ref tA, .int (nI w), .int (nI fo), .ref pA, .ref sA, .ref mA, .int ch, .int (nI ma), .ref npA, .ref nsA, .ref nmA, .int nc, .int (nI le), .ref lA, .int (nI (T.length)), .ref dA, .int (nI dn)])), (dA, .inl (cC, 1500, .inl (fun jj => nI (a jj))))] sz) (va_Qv (fun (uu : Nat → Nat) => zAG uu (T ++ (zhead n))) (fun (uu : Nat → Nat) t9 => va_P D vwCl ([(m0, .inr (6, [.ref gA, .int (nI n), .ref tA, .int (nI w), .int (nI fo), .ref pA, .ref sA, .ref mA, .int ch, .int (nI ma), .ref npA, .ref nsA, .ref nmA, .int nc, .int (nI le), .ref lA, .int (nI ((T ++ (zhead n)).length)), .ref dA, .int (nI dn)])), (dA, .inl (cC, 1500, .inl (fun jj => nI (uu jj))))]) t9.heap) (va_A [(m0, .inr (6, [.ref gA, .int (nI n), .ref tA, .int (nI w), .int (nI fo), .ref pA, .ref sA, .ref mA, .int ch, .int (nI ma), .ref npA, .ref nsA, .ref nmA, .int nc, .int (nI le), .ref lA, .int (nI (T.length)), .ref dA, .int (nI dn)])), (dA, .inl (cC, 1500, .inl (fun jj => nI (a jj))))] sz)) 0 0 (va_A [(m0, .inr (6, [.ref gA, .int (nI n), .ref tA, .int (nI w), .int (nI fo), .ref pA, .ref sA, .ref mA, .int ch, .int (nI ma), .ref npA, .ref nsA, .ref nmA, .int nc, .int (nI le), .ref lA, .int (nI (T.length)), .ref dA, .int (nI dn)])), (dA, .inl (cC, 1500, .inl (fun jj => nI (a jj))))] sz) := by
  refine zMet (cc := cX6_head) (maxL := 1) (ret := none) (Qc := fun A => (va_Qv (fun (uu : Nat → Nat) => zAG uu (T ++ (zhead n))) (fun (uu : Nat → Nat) t9 => va_P D vwCl ([(m0, .inr (6, [.ref gA, .int (nI n), .ref tA, .int (nI w), .int (nI fo), .ref pA, .ref sA, .ref mA, .int ch, .int (nI ma), .ref npA, .ref nsA, .ref nmA, .int nc, .int (nI le), .ref lA, .int (nI ((T ++ (zhead n)).length)), .ref dA, .int (nI dn)])), (dA, .inl (cC, 1500, .inl (fun jj => nI (uu jj))))]) t9.heap) A)) (by decide) rfl (Nat.le_of_ble_eq_true rfl) ?_
  intro pr en s0 mi bl me co A hC hA hK hE H locs hP hD hS ls hl
  obtain ⟨hx, hb, hr, hml, hown, hts, hlocks, hin⟩ := id hC
  have hl : lv_has ls 1 [(0, .ref m0)] := hl
  refine lv_aload_n hx hb dX6_head_0 rfl (lv_at hl 0 rfl) ?_
  refine lv_bipush (v := nI 64) hx hb dX6_head_1 (by decide) ?_
  refine zCv (is := [0, 1]) (wf := (fun (uu : Nat → Nat) => ([(m0, .inr (6, [.ref gA, .int (nI n), .ref tA, .int (nI w), .int (nI fo), .ref pA, .ref sA, .ref mA, .int ch, .int (nI ma), .ref npA, .ref nsA, .ref nmA, .int nc, .int (nI le), .ref lA, .int (nI ((T ++ ([64])).length)), .ref dA, .int (nI dn)])), (dA, .inl (cC, 1500, .inl (fun jj => nI (uu jj))))] : va_W))) (va_runV (As := [.int (nI 64)]) (rest := []) ⟨hx, hb, hml, hown, hts⟩ (j_put l D cI cC  m0 gA n tA w fo pA sA mA ma npA nsA nmA le lA dA dn ch nc 64 T a (by omega) (by omega) ha H.size) (cwV 1 hts (zgood mw_577 mw_579 mw_13 mw_32 mw_580) rfl rfl rfl (by decide +kernel) ⟨Nat.le_of_ble_eq_true rfl, Nat.le_of_ble_eq_true rfl⟩) ⟨zBlind zE0_ok, va_recv hK hP (ci := 6) (q0 := 0) rfl rfl, zAt (av := [.ref m0, .int (nI 64)]) zE0_ok hP hD hK hS hA trivial [0, 1] rfl (by decide)⟩ rfl rfl hl.1 rfl (lv_room (Nat.le_of_ble_eq_true rfl)) dX6_head_3 ⟨Nat.zero_le _, Nat.zero_le _⟩) hP hD hS hA rfl (fun _ => rfl) (fun u3 H locs w3 hP hD hS => ?_)
  have hP : va_P D vwCl [(m0, .inr (6, [.ref gA, .int (nI n), .ref tA, .int (nI w), .int (nI fo), .ref pA, .ref sA, .ref mA, .int ch, .int (nI ma), .ref npA, .ref nsA, .ref nmA, .int nc, .int (nI le), .ref lA, .int (nI ((T ++ ([64])).length)), .ref dA, .int (nI dn)])), (dA, .inl (cC, 1500, .inl (fun jj => nI (u3 jj))))] H := hP
  have hD : va_D A [(m0, .inr (6, [.ref gA, .int (nI n), .ref tA, .int (nI w), .int (nI fo), .ref pA, .ref sA, .ref mA, .int ch, .int (nI ma), .ref npA, .ref nsA, .ref nmA, .int nc, .int (nI le), .ref lA, .int (nI ((T ++ ([64])).length)), .ref dA, .int (nI dn)])), (dA, .inl (cC, 1500, .inl (fun jj => nI (u3 jj))))] := hD
  obtain ⟨T3, hT3⟩ : ∃ y9, y9 = T ++ ([64]) := ⟨_, rfl⟩
  rw [← hT3] at hP hD w3
  have lT3 : T3.length ≤ T.length + 1 := by rw [hT3, List.length_append]; simp
  have hP : va_P D vwCl [(m0, .inr (6, [.ref gA, .int (nI n), .ref tA, .int (nI w), .int (nI fo), .ref pA, .ref sA, .ref mA, .int ch, .int (nI ma), .ref npA, .ref nsA, .ref nmA, .int nc, .int (nI le), .ref lA, .int (nI (T3.length)), .ref dA, .int (nI dn)])), (dA, .inl (cC, 1500, .inl (fun jj => nI (u3 jj))))] H := hP
  have hD : va_D A [(m0, .inr (6, [.ref gA, .int (nI n), .ref tA, .int (nI w), .int (nI fo), .ref pA, .ref sA, .ref mA, .int ch, .int (nI ma), .ref npA, .ref nsA, .ref nmA, .int nc, .int (nI le), .ref lA, .int (nI (T3.length)), .ref dA, .int (nI dn)])), (dA, .inl (cC, 1500, .inl (fun jj => nI (u3 jj))))] := hD
  refine lv_aload_n hx hb dX6_head_6 rfl (lv_at hl 0 rfl) ?_
  refine lv_bipush (v := nI 83) hx hb dX6_head_7 (by decide) ?_
  refine zCv (is := [0, 1]) (wf := (fun (uu : Nat → Nat) => ([(m0, .inr (6, [.ref gA, .int (nI n), .ref tA, .int (nI w), .int (nI fo), .ref pA, .ref sA, .ref mA, .int ch, .int (nI ma), .ref npA, .ref nsA, .ref nmA, .int nc, .int (nI le), .ref lA, .int (nI ((T3 ++ ([83])).length)), .ref dA, .int (nI dn)])), (dA, .inl (cC, 1500, .inl (fun jj => nI (uu jj))))] : va_W))) (va_runV (As := [.int (nI 83)]) (rest := []) ⟨hx, hb, hml, hown, hts⟩ (j_put l D cI cC  m0 gA n tA w fo pA sA mA ma npA nsA nmA le lA dA dn ch nc 83 T3 u3 (by omega) (by omega) w3 H.size) (cwV 1 hts (zgood mw_577 mw_579 mw_13 mw_32 mw_580) rfl rfl rfl (by decide +kernel) ⟨Nat.le_of_ble_eq_true rfl, Nat.le_of_ble_eq_true rfl⟩) ⟨zBlind zE0_ok, va_recv hK hP (ci := 6) (q0 := 0) rfl rfl, zAt (av := [.ref m0, .int (nI 83)]) zE0_ok hP hD hK hS hA trivial [0, 1] rfl (by decide)⟩ rfl rfl hl.1 rfl (lv_room (Nat.le_of_ble_eq_true rfl)) dX6_head_9 ⟨Nat.zero_le _, Nat.zero_le _⟩) hP hD hS hA rfl (fun _ => rfl) (fun u9 H locs w9 hP hD hS => ?_)
  have hP : va_P D vwCl [(m0, .inr (6, [.ref gA, .int (nI n), .ref tA, .int (nI w), .int (nI fo), .ref pA, .ref sA, .ref mA, .int ch, .int (nI ma), .ref npA, .ref nsA, .ref nmA, .int nc, .int (nI le), .ref lA, .int (nI ((T3 ++ ([83])).length)), .ref dA, .int (nI dn)])), (dA, .inl (cC, 1500, .inl (fun jj => nI (u9 jj))))] H := hP
  have hD : va_D A [(m0, .inr (6, [.ref gA, .int (nI n), .ref tA, .int (nI w), .int (nI fo), .ref pA, .ref sA, .ref mA, .int ch, .int (nI ma), .ref npA, .ref nsA, .ref nmA, .int nc, .int (nI le), .ref lA, .int (nI ((T3 ++ ([83])).length)), .ref dA, .int (nI dn)])), (dA, .inl (cC, 1500, .inl (fun jj => nI (u9 jj))))] := hD
  obtain ⟨T9, hT9⟩ : ∃ y9, y9 = T3 ++ ([83]) := ⟨_, rfl⟩
  rw [← hT9] at hP hD w9
  have lT9 : T9.length ≤ T3.length + 1 := by rw [hT9, List.length_append]; simp
  have hP : va_P D vwCl [(m0, .inr (6, [.ref gA, .int (nI n), .ref tA, .int (nI w), .int (nI fo), .ref pA, .ref sA, .ref mA, .int ch, .int (nI ma), .ref npA, .ref nsA, .ref nmA, .int nc, .int (nI le), .ref lA, .int (nI (T9.length)), .ref dA, .int (nI dn)])), (dA, .inl (cC, 1500, .inl (fun jj => nI (u9 jj))))] H := hP
  have hD : va_D A [(m0, .inr (6, [.ref gA, .int (nI n), .ref tA, .int (nI w), .int (nI fo), .ref pA, .ref sA, .ref mA, .int ch, .int (nI ma), .ref npA, .ref nsA, .ref nmA, .int nc, .int (nI le), .ref lA, .int (nI (T9.length)), .ref dA, .int (nI dn)])), (dA, .inl (cC, 1500, .inl (fun jj => nI (u9 jj))))] := hD
  refine lv_aload_n hx hb dX6_head_12 rfl (lv_at hl 0 rfl) ?_
  refine lv_bipush (v := nI 81) hx hb dX6_head_13 (by decide) ?_
  refine zCv (is := [0, 1]) (wf := (fun (uu : Nat → Nat) => ([(m0, .inr (6, [.ref gA, .int (nI n), .ref tA, .int (nI w), .int (nI fo), .ref pA, .ref sA, .ref mA, .int ch, .int (nI ma), .ref npA, .ref nsA, .ref nmA, .int nc, .int (nI le), .ref lA, .int (nI ((T9 ++ ([81])).length)), .ref dA, .int (nI dn)])), (dA, .inl (cC, 1500, .inl (fun jj => nI (uu jj))))] : va_W))) (va_runV (As := [.int (nI 81)]) (rest := []) ⟨hx, hb, hml, hown, hts⟩ (j_put l D cI cC  m0 gA n tA w fo pA sA mA ma npA nsA nmA le lA dA dn ch nc 81 T9 u9 (by omega) (by omega) w9 H.size) (cwV 1 hts (zgood mw_577 mw_579 mw_13 mw_32 mw_580) rfl rfl rfl (by decide +kernel) ⟨Nat.le_of_ble_eq_true rfl, Nat.le_of_ble_eq_true rfl⟩) ⟨zBlind zE0_ok, va_recv hK hP (ci := 6) (q0 := 0) rfl rfl, zAt (av := [.ref m0, .int (nI 81)]) zE0_ok hP hD hK hS hA trivial [0, 1] rfl (by decide)⟩ rfl rfl hl.1 rfl (lv_room (Nat.le_of_ble_eq_true rfl)) dX6_head_15 ⟨Nat.zero_le _, Nat.zero_le _⟩) hP hD hS hA rfl (fun _ => rfl) (fun u15 H locs w15 hP hD hS => ?_)
  have hP : va_P D vwCl [(m0, .inr (6, [.ref gA, .int (nI n), .ref tA, .int (nI w), .int (nI fo), .ref pA, .ref sA, .ref mA, .int ch, .int (nI ma), .ref npA, .ref nsA, .ref nmA, .int nc, .int (nI le), .ref lA, .int (nI ((T9 ++ ([81])).length)), .ref dA, .int (nI dn)])), (dA, .inl (cC, 1500, .inl (fun jj => nI (u15 jj))))] H := hP
  have hD : va_D A [(m0, .inr (6, [.ref gA, .int (nI n), .ref tA, .int (nI w), .int (nI fo), .ref pA, .ref sA, .ref mA, .int ch, .int (nI ma), .ref npA, .ref nsA, .ref nmA, .int nc, .int (nI le), .ref lA, .int (nI ((T9 ++ ([81])).length)), .ref dA, .int (nI dn)])), (dA, .inl (cC, 1500, .inl (fun jj => nI (u15 jj))))] := hD
  obtain ⟨T15, hT15⟩ : ∃ y9, y9 = T9 ++ ([81]) := ⟨_, rfl⟩
  rw [← hT15] at hP hD w15
  have lT15 : T15.length ≤ T9.length + 1 := by rw [hT15, List.length_append]; simp
  have hP : va_P D vwCl [(m0, .inr (6, [.ref gA, .int (nI n), .ref tA, .int (nI w), .int (nI fo), .ref pA, .ref sA, .ref mA, .int ch, .int (nI ma), .ref npA, .ref nsA, .ref nmA, .int nc, .int (nI le), .ref lA, .int (nI (T15.length)), .ref dA, .int (nI dn)])), (dA, .inl (cC, 1500, .inl (fun jj => nI (u15 jj))))] H := hP
  have hD : va_D A [(m0, .inr (6, [.ref gA, .int (nI n), .ref tA, .int (nI w), .int (nI fo), .ref pA, .ref sA, .ref mA, .int ch, .int (nI ma), .ref npA, .ref nsA, .ref nmA, .int nc, .int (nI le), .ref lA, .int (nI (T15.length)), .ref dA, .int (nI dn)])), (dA, .inl (cC, 1500, .inl (fun jj => nI (u15 jj))))] := hD
  refine lv_aload_n hx hb dX6_head_18 rfl (lv_at hl 0 rfl) ?_
  refine zCv (is := [0, 1]) (wf := (fun (uu : Nat → Nat) => ([(m0, .inr (6, [.ref gA, .int (nI n), .ref tA, .int (nI w), .int (nI fo), .ref pA, .ref sA, .ref mA, .int ch, .int (nI ma), .ref npA, .ref nsA, .ref nmA, .int nc, .int (nI le), .ref lA, .int (nI ((T15 ++ ([(9 : Nat)])).length)), .ref dA, .int (nI dn)])), (dA, .inl (cC, 1500, .inl (fun jj => nI (uu jj))))] : va_W))) (va_runV (As := []) (rest := []) ⟨hx, hb, hml, hown, hts⟩ (j_tab l D cI cC  m0 gA n tA w fo pA sA mA ma npA nsA nmA le lA dA dn ch nc T15 u15 (by omega) w15 H.size) (cwV 0 hts (zgood mw_581 mw_583 mw_14 mw_32 mw_584) rfl rfl rfl (by decide +kernel) ⟨Nat.le_of_ble_eq_true rfl, Nat.le_of_ble_eq_true rfl⟩) ⟨zBlind zE0_ok, va_recv hK hP (ci := 6) (q0 := 0) rfl rfl, zAt (av := [.ref m0]) zE0_ok hP hD hK hS hA trivial [0, 1] rfl (by decide)⟩ rfl rfl hl.1 rfl (lv_room (Nat.le_of_ble_eq_true rfl)) dX6_head_19 ⟨Nat.zero_le _, Nat.zero_le _⟩) hP hD hS hA rfl (fun _ => rfl) (fun u19 H locs w19 hP hD hS => ?_)
  have hP : va_P D vwCl [(m0, .inr (6, [.ref gA, .int (nI n), .ref tA, .int (nI w), .int (nI fo), .ref pA, .ref sA, .ref mA, .int ch, .int (nI ma), .ref npA, .ref nsA, .ref nmA, .int nc, .int (nI le), .ref lA, .int (nI ((T15 ++ ([(9 : Nat)])).length)), .ref dA, .int (nI dn)])), (dA, .inl (cC, 1500, .inl (fun jj => nI (u19 jj))))] H := hP
  have hD : va_D A [(m0, .inr (6, [.ref gA, .int (nI n), .ref tA, .int (nI w), .int (nI fo), .ref pA, .ref sA, .ref mA, .int ch, .int (nI ma), .ref npA, .ref nsA, .ref nmA, .int nc, .int (nI le), .ref lA, .int (nI ((T15 ++ ([(9 : Nat)])).length)), .ref dA, .int (nI dn)])), (dA, .inl (cC, 1500, .inl (fun jj => nI (u19 jj))))] := hD
  obtain ⟨T19, hT19⟩ : ∃ y9, y9 = T15 ++ ([(9 : Nat)]) := ⟨_, rfl⟩
  rw [← hT19] at hP hD w19
  have lT19 : T19.length ≤ T15.length + 1 := by rw [hT19, List.length_append]; simp
  have hP : va_P D vwCl [(m0, .inr (6, [.ref gA, .int (nI n), .ref tA, .int (nI w), .int (nI fo), .ref pA, .ref sA, .ref mA, .int ch, .int (nI ma), .ref npA, .ref nsA, .ref nmA, .int nc, .int (nI le), .ref lA, .int (nI (T19.length)), .ref dA, .int (nI dn)])), (dA, .inl (cC, 1500, .inl (fun jj => nI (u19 jj))))] H := hP
  have hD : va_D A [(m0, .inr (6, [.ref gA, .int (nI n), .ref tA, .int (nI w), .int (nI fo), .ref pA, .ref sA, .ref mA, .int ch, .int (nI ma), .ref npA, .ref nsA, .ref nmA, .int nc, .int (nI le), .ref lA, .int (nI (T19.length)), .ref dA, .int (nI dn)])), (dA, .inl (cC, 1500, .inl (fun jj => nI (u19 jj))))] := hD
  refine lv_aload_n hx hb dX6_head_22 rfl (lv_at hl 0 rfl) ?_
  refine lv_bipush (v := nI 83) hx hb dX6_head_23 (by decide) ?_
  refine lv_bipush (v := nI 78) hx hb dX6_head_25 (by decide) ?_
  refine zCv (is := [0, 1]) (wf := (fun (uu : Nat → Nat) => ([(m0, .inr (6, [.ref gA, .int (nI n), .ref tA, .int (nI w), .int (nI fo), .ref pA, .ref sA, .ref mA, .int ch, .int (nI ma), .ref npA, .ref nsA, .ref nmA, .int nc, .int (nI le), .ref lA, .int (nI ((T19 ++ ([83, 78, 58])).length)), .ref dA, .int (nI dn)])), (dA, .inl (cC, 1500, .inl (fun jj => nI (uu jj))))] : va_W))) (va_runV (As := [.int (nI 83), .int (nI 78)]) (rest := []) ⟨hx, hb, hml, hown, hts⟩ (j_pair l D cI cC  m0 gA n tA w fo pA sA mA ma npA nsA nmA le lA dA dn ch nc 83 78 T19 u19 (by omega) (by omega) (by omega) w19 H.size) (cwV 2 hts (zgood mw_585 mw_587 mw_15 mw_32 mw_588) rfl rfl rfl (by decide +kernel) ⟨Nat.le_of_ble_eq_true rfl, Nat.le_of_ble_eq_true rfl⟩) ⟨zBlind zE0_ok, va_recv hK hP (ci := 6) (q0 := 0) rfl rfl, zAt (av := [.ref m0, .int (nI 83), .int (nI 78)]) zE0_ok hP hD hK hS hA trivial [0, 1] rfl (by decide)⟩ rfl rfl hl.1 rfl (lv_room (Nat.le_of_ble_eq_true rfl)) dX6_head_27 ⟨Nat.zero_le _, Nat.zero_le _⟩) hP hD hS hA rfl (fun _ => rfl) (fun u27 H locs w27 hP hD hS => ?_)
  have hP : va_P D vwCl [(m0, .inr (6, [.ref gA, .int (nI n), .ref tA, .int (nI w), .int (nI fo), .ref pA, .ref sA, .ref mA, .int ch, .int (nI ma), .ref npA, .ref nsA, .ref nmA, .int nc, .int (nI le), .ref lA, .int (nI ((T19 ++ ([83, 78, 58])).length)), .ref dA, .int (nI dn)])), (dA, .inl (cC, 1500, .inl (fun jj => nI (u27 jj))))] H := hP
  have hD : va_D A [(m0, .inr (6, [.ref gA, .int (nI n), .ref tA, .int (nI w), .int (nI fo), .ref pA, .ref sA, .ref mA, .int ch, .int (nI ma), .ref npA, .ref nsA, .ref nmA, .int nc, .int (nI le), .ref lA, .int (nI ((T19 ++ ([83, 78, 58])).length)), .ref dA, .int (nI dn)])), (dA, .inl (cC, 1500, .inl (fun jj => nI (u27 jj))))] := hD
  obtain ⟨T27, hT27⟩ : ∃ y9, y9 = T19 ++ ([83, 78, 58]) := ⟨_, rfl⟩
  rw [← hT27] at hP hD w27
  have lT27 : T27.length ≤ T19.length + 3 := by rw [hT27, List.length_append]; simp
  have hP : va_P D vwCl [(m0, .inr (6, [.ref gA, .int (nI n), .ref tA, .int (nI w), .int (nI fo), .ref pA, .ref sA, .ref mA, .int ch, .int (nI ma), .ref npA, .ref nsA, .ref nmA, .int nc, .int (nI le), .ref lA, .int (nI (T27.length)), .ref dA, .int (nI dn)])), (dA, .inl (cC, 1500, .inl (fun jj => nI (u27 jj))))] H := hP
  have hD : va_D A [(m0, .inr (6, [.ref gA, .int (nI n), .ref tA, .int (nI w), .int (nI fo), .ref pA, .ref sA, .ref mA, .int ch, .int (nI ma), .ref npA, .ref nsA, .ref nmA, .int nc, .int (nI le), .ref lA, .int (nI (T27.length)), .ref dA, .int (nI dn)])), (dA, .inl (cC, 1500, .inl (fun jj => nI (u27 jj))))] := hD
  refine lv_aload_n hx hb dX6_head_30 rfl (lv_at hl 0 rfl) ?_
  refine lv_bipush (v := nI 103) hx hb dX6_head_31 (by decide) ?_
  refine zCv (is := [0, 1]) (wf := (fun (uu : Nat → Nat) => ([(m0, .inr (6, [.ref gA, .int (nI n), .ref tA, .int (nI w), .int (nI fo), .ref pA, .ref sA, .ref mA, .int ch, .int (nI ma), .ref npA, .ref nsA, .ref nmA, .int nc, .int (nI le), .ref lA, .int (nI ((T27 ++ ([103])).length)), .ref dA, .int (nI dn)])), (dA, .inl (cC, 1500, .inl (fun jj => nI (uu jj))))] : va_W))) (va_runV (As := [.int (nI 103)]) (rest := []) ⟨hx, hb, hml, hown, hts⟩ (j_put l D cI cC  m0 gA n tA w fo pA sA mA ma npA nsA nmA le lA dA dn ch nc 103 T27 u27 (by omega) (by omega) w27 H.size) (cwV 1 hts (zgood mw_577 mw_579 mw_13 mw_32 mw_580) rfl rfl rfl (by decide +kernel) ⟨Nat.le_of_ble_eq_true rfl, Nat.le_of_ble_eq_true rfl⟩) ⟨zBlind zE0_ok, va_recv hK hP (ci := 6) (q0 := 0) rfl rfl, zAt (av := [.ref m0, .int (nI 103)]) zE0_ok hP hD hK hS hA trivial [0, 1] rfl (by decide)⟩ rfl rfl hl.1 rfl (lv_room (Nat.le_of_ble_eq_true rfl)) dX6_head_33 ⟨Nat.zero_le _, Nat.zero_le _⟩) hP hD hS hA rfl (fun _ => rfl) (fun u33 H locs w33 hP hD hS => ?_)
  have hP : va_P D vwCl [(m0, .inr (6, [.ref gA, .int (nI n), .ref tA, .int (nI w), .int (nI fo), .ref pA, .ref sA, .ref mA, .int ch, .int (nI ma), .ref npA, .ref nsA, .ref nmA, .int nc, .int (nI le), .ref lA, .int (nI ((T27 ++ ([103])).length)), .ref dA, .int (nI dn)])), (dA, .inl (cC, 1500, .inl (fun jj => nI (u33 jj))))] H := hP
  have hD : va_D A [(m0, .inr (6, [.ref gA, .int (nI n), .ref tA, .int (nI w), .int (nI fo), .ref pA, .ref sA, .ref mA, .int ch, .int (nI ma), .ref npA, .ref nsA, .ref nmA, .int nc, .int (nI le), .ref lA, .int (nI ((T27 ++ ([103])).length)), .ref dA, .int (nI dn)])), (dA, .inl (cC, 1500, .inl (fun jj => nI (u33 jj))))] := hD
  obtain ⟨T33, hT33⟩ : ∃ y9, y9 = T27 ++ ([103]) := ⟨_, rfl⟩
  rw [← hT33] at hP hD w33
  have lT33 : T33.length ≤ T27.length + 1 := by rw [hT33, List.length_append]; simp
  have hP : va_P D vwCl [(m0, .inr (6, [.ref gA, .int (nI n), .ref tA, .int (nI w), .int (nI fo), .ref pA, .ref sA, .ref mA, .int ch, .int (nI ma), .ref npA, .ref nsA, .ref nmA, .int nc, .int (nI le), .ref lA, .int (nI (T33.length)), .ref dA, .int (nI dn)])), (dA, .inl (cC, 1500, .inl (fun jj => nI (u33 jj))))] H := hP
  have hD : va_D A [(m0, .inr (6, [.ref gA, .int (nI n), .ref tA, .int (nI w), .int (nI fo), .ref pA, .ref sA, .ref mA, .int ch, .int (nI ma), .ref npA, .ref nsA, .ref nmA, .int nc, .int (nI le), .ref lA, .int (nI (T33.length)), .ref dA, .int (nI dn)])), (dA, .inl (cC, 1500, .inl (fun jj => nI (u33 jj))))] := hD
  refine lv_aload_n hx hb dX6_head_36 rfl (lv_at hl 0 rfl) ?_
  refine zCv (is := [0, 1]) (wf := (fun (uu : Nat → Nat) => ([(m0, .inr (6, [.ref gA, .int (nI n), .ref tA, .int (nI w), .int (nI fo), .ref pA, .ref sA, .ref mA, .int ch, .int (nI ma), .ref npA, .ref nsA, .ref nmA, .int nc, .int (nI le), .ref lA, .int (nI ((T33 ++ ([(9 : Nat)])).length)), .ref dA, .int (nI dn)])), (dA, .inl (cC, 1500, .inl (fun jj => nI (uu jj))))] : va_W))) (va_runV (As := []) (rest := []) ⟨hx, hb, hml, hown, hts⟩ (j_tab l D cI cC  m0 gA n tA w fo pA sA mA ma npA nsA nmA le lA dA dn ch nc T33 u33 (by omega) w33 H.size) (cwV 0 hts (zgood mw_581 mw_583 mw_14 mw_32 mw_584) rfl rfl rfl (by decide +kernel) ⟨Nat.le_of_ble_eq_true rfl, Nat.le_of_ble_eq_true rfl⟩) ⟨zBlind zE0_ok, va_recv hK hP (ci := 6) (q0 := 0) rfl rfl, zAt (av := [.ref m0]) zE0_ok hP hD hK hS hA trivial [0, 1] rfl (by decide)⟩ rfl rfl hl.1 rfl (lv_room (Nat.le_of_ble_eq_true rfl)) dX6_head_37 ⟨Nat.zero_le _, Nat.zero_le _⟩) hP hD hS hA rfl (fun _ => rfl) (fun u37 H locs w37 hP hD hS => ?_)
  have hP : va_P D vwCl [(m0, .inr (6, [.ref gA, .int (nI n), .ref tA, .int (nI w), .int (nI fo), .ref pA, .ref sA, .ref mA, .int ch, .int (nI ma), .ref npA, .ref nsA, .ref nmA, .int nc, .int (nI le), .ref lA, .int (nI ((T33 ++ ([(9 : Nat)])).length)), .ref dA, .int (nI dn)])), (dA, .inl (cC, 1500, .inl (fun jj => nI (u37 jj))))] H := hP
  have hD : va_D A [(m0, .inr (6, [.ref gA, .int (nI n), .ref tA, .int (nI w), .int (nI fo), .ref pA, .ref sA, .ref mA, .int ch, .int (nI ma), .ref npA, .ref nsA, .ref nmA, .int nc, .int (nI le), .ref lA, .int (nI ((T33 ++ ([(9 : Nat)])).length)), .ref dA, .int (nI dn)])), (dA, .inl (cC, 1500, .inl (fun jj => nI (u37 jj))))] := hD
  obtain ⟨T37, hT37⟩ : ∃ y9, y9 = T33 ++ ([(9 : Nat)]) := ⟨_, rfl⟩
  rw [← hT37] at hP hD w37
  have lT37 : T37.length ≤ T33.length + 1 := by rw [hT37, List.length_append]; simp
  have hP : va_P D vwCl [(m0, .inr (6, [.ref gA, .int (nI n), .ref tA, .int (nI w), .int (nI fo), .ref pA, .ref sA, .ref mA, .int ch, .int (nI ma), .ref npA, .ref nsA, .ref nmA, .int nc, .int (nI le), .ref lA, .int (nI (T37.length)), .ref dA, .int (nI dn)])), (dA, .inl (cC, 1500, .inl (fun jj => nI (u37 jj))))] H := hP
  have hD : va_D A [(m0, .inr (6, [.ref gA, .int (nI n), .ref tA, .int (nI w), .int (nI fo), .ref pA, .ref sA, .ref mA, .int ch, .int (nI ma), .ref npA, .ref nsA, .ref nmA, .int nc, .int (nI le), .ref lA, .int (nI (T37.length)), .ref dA, .int (nI dn)])), (dA, .inl (cC, 1500, .inl (fun jj => nI (u37 jj))))] := hD
  refine lv_aload_n hx hb dX6_head_40 rfl (lv_at hl 0 rfl) ?_
  refine lv_bipush (v := nI 76) hx hb dX6_head_41 (by decide) ?_
  refine lv_bipush (v := nI 78) hx hb dX6_head_43 (by decide) ?_
  refine zCv (is := [0, 1]) (wf := (fun (uu : Nat → Nat) => ([(m0, .inr (6, [.ref gA, .int (nI n), .ref tA, .int (nI w), .int (nI fo), .ref pA, .ref sA, .ref mA, .int ch, .int (nI ma), .ref npA, .ref nsA, .ref nmA, .int nc, .int (nI le), .ref lA, .int (nI ((T37 ++ ([76, 78, 58])).length)), .ref dA, .int (nI dn)])), (dA, .inl (cC, 1500, .inl (fun jj => nI (uu jj))))] : va_W))) (va_runV (As := [.int (nI 76), .int (nI 78)]) (rest := []) ⟨hx, hb, hml, hown, hts⟩ (j_pair l D cI cC  m0 gA n tA w fo pA sA mA ma npA nsA nmA le lA dA dn ch nc 76 78 T37 u37 (by omega) (by omega) (by omega) w37 H.size) (cwV 2 hts (zgood mw_585 mw_587 mw_15 mw_32 mw_588) rfl rfl rfl (by decide +kernel) ⟨Nat.le_of_ble_eq_true rfl, Nat.le_of_ble_eq_true rfl⟩) ⟨zBlind zE0_ok, va_recv hK hP (ci := 6) (q0 := 0) rfl rfl, zAt (av := [.ref m0, .int (nI 76), .int (nI 78)]) zE0_ok hP hD hK hS hA trivial [0, 1] rfl (by decide)⟩ rfl rfl hl.1 rfl (lv_room (Nat.le_of_ble_eq_true rfl)) dX6_head_45 ⟨Nat.zero_le _, Nat.zero_le _⟩) hP hD hS hA rfl (fun _ => rfl) (fun u45 H locs w45 hP hD hS => ?_)
  have hP : va_P D vwCl [(m0, .inr (6, [.ref gA, .int (nI n), .ref tA, .int (nI w), .int (nI fo), .ref pA, .ref sA, .ref mA, .int ch, .int (nI ma), .ref npA, .ref nsA, .ref nmA, .int nc, .int (nI le), .ref lA, .int (nI ((T37 ++ ([76, 78, 58])).length)), .ref dA, .int (nI dn)])), (dA, .inl (cC, 1500, .inl (fun jj => nI (u45 jj))))] H := hP
  have hD : va_D A [(m0, .inr (6, [.ref gA, .int (nI n), .ref tA, .int (nI w), .int (nI fo), .ref pA, .ref sA, .ref mA, .int ch, .int (nI ma), .ref npA, .ref nsA, .ref nmA, .int nc, .int (nI le), .ref lA, .int (nI ((T37 ++ ([76, 78, 58])).length)), .ref dA, .int (nI dn)])), (dA, .inl (cC, 1500, .inl (fun jj => nI (u45 jj))))] := hD
  obtain ⟨T45, hT45⟩ : ∃ y9, y9 = T37 ++ ([76, 78, 58]) := ⟨_, rfl⟩
  rw [← hT45] at hP hD w45
  have lT45 : T45.length ≤ T37.length + 3 := by rw [hT45, List.length_append]; simp
  have hP : va_P D vwCl [(m0, .inr (6, [.ref gA, .int (nI n), .ref tA, .int (nI w), .int (nI fo), .ref pA, .ref sA, .ref mA, .int ch, .int (nI ma), .ref npA, .ref nsA, .ref nmA, .int nc, .int (nI le), .ref lA, .int (nI (T45.length)), .ref dA, .int (nI dn)])), (dA, .inl (cC, 1500, .inl (fun jj => nI (u45 jj))))] H := hP
  have hD : va_D A [(m0, .inr (6, [.ref gA, .int (nI n), .ref tA, .int (nI w), .int (nI fo), .ref pA, .ref sA, .ref mA, .int ch, .int (nI ma), .ref npA, .ref nsA, .ref nmA, .int nc, .int (nI le), .ref lA, .int (nI (T45.length)), .ref dA, .int (nI dn)])), (dA, .inl (cC, 1500, .inl (fun jj => nI (u45 jj))))] := hD
  refine lv_aload_n hx hb dX6_head_48 rfl (lv_at hl 0 rfl) ?_
  refine lv_aload_n hx hb dX6_head_49 rfl (lv_at hl 0 rfl) ?_
  refine va_get (D := D) (ci := 6) (v := .int (nI n)) (C := RX6) (T := TX6) (N := 19) hx hb hts (fun w h => List.mem_cons_of_mem _ (inUX6 w h)) hown hK hP 0 rfl rfl 1 (by decide) (hts _ (List.mem_cons_of_mem _ mw_439)) (fun _ h9 => h9) rfl dX6_head_50 ?_
  refine zCv (is := [0, 1]) (wf := (fun (uu : Nat → Nat) => ([(m0, .inr (6, [.ref gA, .int (nI n), .ref tA, .int (nI w), .int (nI fo), .ref pA, .ref sA, .ref mA, .int ch, .int (nI ma), .ref npA, .ref nsA, .ref nmA, .int nc, .int (nI le), .ref lA, .int (nI ((T45 ++ (znum n)).length)), .ref dA, .int (nI dn)])), (dA, .inl (cC, 1500, .inl (fun jj => nI (uu jj))))] : va_W))) (va_runV (As := [.int (nI n)]) (rest := []) ⟨hx, hb, hml, hown, hts⟩ (j_putNumber l D cI cC  m0 gA n tA w fo pA sA mA ma npA nsA nmA le lA dA dn ch nc n T45 u45 (by omega) (by omega) w45 H.size) (cwV 1 hts (zgood mw_589 mw_591 mw_16 mw_32 mw_592) rfl rfl rfl (by decide +kernel) ⟨Nat.le_of_ble_eq_true rfl, Nat.le_of_ble_eq_true rfl⟩) ⟨zBlind zE0_ok, va_recv hK hP (ci := 6) (q0 := 0) rfl rfl, zAt (av := [.ref m0, .int (nI n)]) zE0_ok hP hD hK hS hA trivial [0, 1] rfl (by decide)⟩ rfl rfl hl.1 rfl (lv_room (Nat.le_of_ble_eq_true rfl)) dX6_head_53 ⟨Nat.zero_le _, Nat.zero_le _⟩) hP hD hS hA rfl (fun _ => rfl) (fun u53 H locs w53 hP hD hS => ?_)
  have hP : va_P D vwCl [(m0, .inr (6, [.ref gA, .int (nI n), .ref tA, .int (nI w), .int (nI fo), .ref pA, .ref sA, .ref mA, .int ch, .int (nI ma), .ref npA, .ref nsA, .ref nmA, .int nc, .int (nI le), .ref lA, .int (nI ((T45 ++ (znum n)).length)), .ref dA, .int (nI dn)])), (dA, .inl (cC, 1500, .inl (fun jj => nI (u53 jj))))] H := hP
  have hD : va_D A [(m0, .inr (6, [.ref gA, .int (nI n), .ref tA, .int (nI w), .int (nI fo), .ref pA, .ref sA, .ref mA, .int ch, .int (nI ma), .ref npA, .ref nsA, .ref nmA, .int nc, .int (nI le), .ref lA, .int (nI ((T45 ++ (znum n)).length)), .ref dA, .int (nI dn)])), (dA, .inl (cC, 1500, .inl (fun jj => nI (u53 jj))))] := hD
  obtain ⟨T53, hT53⟩ : ∃ y9, y9 = T45 ++ (znum n) := ⟨_, rfl⟩
  rw [← hT53] at hP hD w53
  have lT53 : T53.length ≤ T45.length + 10 := by rw [hT53, List.length_append]; have := znum_len n; omega
  have hP : va_P D vwCl [(m0, .inr (6, [.ref gA, .int (nI n), .ref tA, .int (nI w), .int (nI fo), .ref pA, .ref sA, .ref mA, .int ch, .int (nI ma), .ref npA, .ref nsA, .ref nmA, .int nc, .int (nI le), .ref lA, .int (nI (T53.length)), .ref dA, .int (nI dn)])), (dA, .inl (cC, 1500, .inl (fun jj => nI (u53 jj))))] H := hP
  have hD : va_D A [(m0, .inr (6, [.ref gA, .int (nI n), .ref tA, .int (nI w), .int (nI fo), .ref pA, .ref sA, .ref mA, .int ch, .int (nI ma), .ref npA, .ref nsA, .ref nmA, .int nc, .int (nI le), .ref lA, .int (nI (T53.length)), .ref dA, .int (nI dn)])), (dA, .inl (cC, 1500, .inl (fun jj => nI (u53 jj))))] := hD
  refine lv_aload_n hx hb dX6_head_56 rfl (lv_at hl 0 rfl) ?_
  refine lv_bipush (v := nI 10) hx hb dX6_head_57 (by decide) ?_
  refine zCv (is := [0, 1]) (wf := (fun (uu : Nat → Nat) => ([(m0, .inr (6, [.ref gA, .int (nI n), .ref tA, .int (nI w), .int (nI fo), .ref pA, .ref sA, .ref mA, .int ch, .int (nI ma), .ref npA, .ref nsA, .ref nmA, .int nc, .int (nI le), .ref lA, .int (nI ((T53 ++ ([10])).length)), .ref dA, .int (nI dn)])), (dA, .inl (cC, 1500, .inl (fun jj => nI (uu jj))))] : va_W))) (va_runV (As := [.int (nI 10)]) (rest := []) ⟨hx, hb, hml, hown, hts⟩ (j_put l D cI cC  m0 gA n tA w fo pA sA mA ma npA nsA nmA le lA dA dn ch nc 10 T53 u53 (by omega) (by omega) w53 H.size) (cwV 1 hts (zgood mw_577 mw_579 mw_13 mw_32 mw_580) rfl rfl rfl (by decide +kernel) ⟨Nat.le_of_ble_eq_true rfl, Nat.le_of_ble_eq_true rfl⟩) ⟨zBlind zE0_ok, va_recv hK hP (ci := 6) (q0 := 0) rfl rfl, zAt (av := [.ref m0, .int (nI 10)]) zE0_ok hP hD hK hS hA trivial [0, 1] rfl (by decide)⟩ rfl rfl hl.1 rfl (lv_room (Nat.le_of_ble_eq_true rfl)) dX6_head_59 ⟨Nat.zero_le _, Nat.zero_le _⟩) hP hD hS hA rfl (fun _ => rfl) (fun u59 H locs w59 hP hD hS => ?_)
  have hP : va_P D vwCl [(m0, .inr (6, [.ref gA, .int (nI n), .ref tA, .int (nI w), .int (nI fo), .ref pA, .ref sA, .ref mA, .int ch, .int (nI ma), .ref npA, .ref nsA, .ref nmA, .int nc, .int (nI le), .ref lA, .int (nI ((T53 ++ ([10])).length)), .ref dA, .int (nI dn)])), (dA, .inl (cC, 1500, .inl (fun jj => nI (u59 jj))))] H := hP
  have hD : va_D A [(m0, .inr (6, [.ref gA, .int (nI n), .ref tA, .int (nI w), .int (nI fo), .ref pA, .ref sA, .ref mA, .int ch, .int (nI ma), .ref npA, .ref nsA, .ref nmA, .int nc, .int (nI le), .ref lA, .int (nI ((T53 ++ ([10])).length)), .ref dA, .int (nI dn)])), (dA, .inl (cC, 1500, .inl (fun jj => nI (u59 jj))))] := hD
  obtain ⟨T59, hT59⟩ : ∃ y9, y9 = T53 ++ ([10]) := ⟨_, rfl⟩
  rw [← hT59] at hP hD w59
  have lT59 : T59.length ≤ T53.length + 1 := by rw [hT59, List.length_append]; simp
  have hP : va_P D vwCl [(m0, .inr (6, [.ref gA, .int (nI n), .ref tA, .int (nI w), .int (nI fo), .ref pA, .ref sA, .ref mA, .int ch, .int (nI ma), .ref npA, .ref nsA, .ref nmA, .int nc, .int (nI le), .ref lA, .int (nI (T59.length)), .ref dA, .int (nI dn)])), (dA, .inl (cC, 1500, .inl (fun jj => nI (u59 jj))))] H := hP
  have hD : va_D A [(m0, .inr (6, [.ref gA, .int (nI n), .ref tA, .int (nI w), .int (nI fo), .ref pA, .ref sA, .ref mA, .int ch, .int (nI ma), .ref npA, .ref nsA, .ref nmA, .int nc, .int (nI le), .ref lA, .int (nI (T59.length)), .ref dA, .int (nI dn)])), (dA, .inl (cC, 1500, .inl (fun jj => nI (u59 jj))))] := hD
  have eT : T59 = T ++ (zhead n) := by rw [hT59, hT53, hT45, hT37, hT33, hT27, hT19, hT15, hT9, hT3] <;> simp [zhead]
  rw [eT] at hP hD w59
  have hP : va_P D vwCl [(m0, .inr (6, [.ref gA, .int (nI n), .ref tA, .int (nI w), .int (nI fo), .ref pA, .ref sA, .ref mA, .int ch, .int (nI ma), .ref npA, .ref nsA, .ref nmA, .int nc, .int (nI le), .ref lA, .int (nI ((T ++ (zhead n)).length)), .ref dA, .int (nI dn)])), (dA, .inl (cC, 1500, .inl (fun jj => nI (u59 jj))))] H := hP
  have hD : va_D A [(m0, .inr (6, [.ref gA, .int (nI n), .ref tA, .int (nI w), .int (nI fo), .ref pA, .ref sA, .ref mA, .int ch, .int (nI ma), .ref npA, .ref nsA, .ref nmA, .int nc, .int (nI le), .ref lA, .int (nI ((T ++ (zhead n)).length)), .ref dA, .int (nI dn)])), (dA, .inl (cC, 1500, .inl (fun jj => nI (u59 jj))))] := hD
  exact zVret hC hS u59 w59 hP dX6_head_62
set_option maxHeartbeats 4000000 in
set_option maxRecDepth 100000 in
theorem j_noMate (l : Launch) (D : va_G) (cI cC : ClassId)  (m0 gA n tA w fo pA sA mA ma npA nsA nmA le lA dA dn : Nat) (ch nc : Int32) (T : List Nat) (a : Nat → Nat) (hT : T.length + 7 ≤ 2000000) (ha : zAG a T) (sz : Nat) : Met l yX6_noMate wsX6_noMate ({ frames := 2, cells := 0, slots := 0, locals := 41 } : Room) (zPre zE0 D vwCl [(cI, .int), (cC, .char)] [.ref m0] [(m0, .inr (6, [.ref gA, .int (nI n), .ref tA, .int (nI w), .int (nI fo), .ref pA, .ref sA, .ref mA, .int ch, .int (nI ma), .ref npA, .ref nsA, .ref nmA, .int nc, .int (nI le), .ref lA, .int (nI (T.length)), .ref dA, .int (nI dn)])), (dA, .inl (cC, 1500, .inl (fun jj => nI (a jj))))] sz) (va_Qv (fun (uu : Nat → Nat) => zAG uu (T ++ ([(9 : Nat), 42, 9, 48, 9, 48, 9]))) (fun (uu : Nat → Nat) t9 => va_P D vwCl ([(m0, .inr (6, [.ref gA, .int (nI n), .ref tA, .int (nI w), .int (nI fo), .ref pA, .ref sA, .ref mA, .int ch, .int (nI ma), .ref npA, .ref nsA, .ref nmA, .int nc, .int (nI le), .ref lA, .int (nI ((T ++ ([(9 : Nat), 42, 9, 48, 9, 48, 9])).length)), .ref dA, .int (nI dn)])), (dA, .inl (cC, 1500, .inl (fun jj => nI (uu jj))))]) t9.heap) (va_A [(m0, .inr (6, [.ref gA, .int (nI n), .ref tA, .int (nI w), .int (nI fo), .ref pA, .ref sA, .ref mA, .int ch, .int (nI ma), .ref npA, .ref nsA, .ref nmA, .int nc, .int (nI le), .ref lA, .int (nI (T.length)), .ref dA, .int (nI dn)])), (dA, .inl (cC, 1500, .inl (fun jj => nI (a jj))))] sz)) 0 0 (va_A [(m0, .inr (6, [.ref gA, .int (nI n), .ref tA, .int (nI w), .int (nI fo), .ref pA, .ref sA, .ref mA, .int ch, .int (nI ma), .ref npA, .ref nsA, .ref nmA, .int nc, .int (nI le), .ref lA, .int (nI (T.length)), .ref dA, .int (nI dn)])), (dA, .inl (cC, 1500, .inl (fun jj => nI (a jj))))] sz) := by
  refine zMet (cc := cX6_noMate) (maxL := 1) (ret := none) (Qc := fun A => (va_Qv (fun (uu : Nat → Nat) => zAG uu (T ++ ([(9 : Nat), 42, 9, 48, 9, 48, 9]))) (fun (uu : Nat → Nat) t9 => va_P D vwCl ([(m0, .inr (6, [.ref gA, .int (nI n), .ref tA, .int (nI w), .int (nI fo), .ref pA, .ref sA, .ref mA, .int ch, .int (nI ma), .ref npA, .ref nsA, .ref nmA, .int nc, .int (nI le), .ref lA, .int (nI ((T ++ ([(9 : Nat), 42, 9, 48, 9, 48, 9])).length)), .ref dA, .int (nI dn)])), (dA, .inl (cC, 1500, .inl (fun jj => nI (uu jj))))]) t9.heap) A)) (by decide) rfl (Nat.le_of_ble_eq_true rfl) ?_
  intro pr en s0 mi bl me co A hC hA hK hE H locs hP hD hS ls hl
  obtain ⟨hx, hb, hr, hml, hown, hts, hlocks, hin⟩ := id hC
  have hl : lv_has ls 1 [(0, .ref m0)] := hl
  refine lv_aload_n hx hb dX6_noMate_0 rfl (lv_at hl 0 rfl) ?_
  refine zCv (is := [0, 1]) (wf := (fun (uu : Nat → Nat) => ([(m0, .inr (6, [.ref gA, .int (nI n), .ref tA, .int (nI w), .int (nI fo), .ref pA, .ref sA, .ref mA, .int ch, .int (nI ma), .ref npA, .ref nsA, .ref nmA, .int nc, .int (nI le), .ref lA, .int (nI ((T ++ ([(9 : Nat)])).length)), .ref dA, .int (nI dn)])), (dA, .inl (cC, 1500, .inl (fun jj => nI (uu jj))))] : va_W))) (va_runV (As := []) (rest := []) ⟨hx, hb, hml, hown, hts⟩ (j_tab l D cI cC  m0 gA n tA w fo pA sA mA ma npA nsA nmA le lA dA dn ch nc T a (by omega) ha H.size) (cwV 0 hts (zgood mw_581 mw_583 mw_14 mw_32 mw_584) rfl rfl rfl (by decide +kernel) ⟨Nat.le_of_ble_eq_true rfl, Nat.le_of_ble_eq_true rfl⟩) ⟨zBlind zE0_ok, va_recv hK hP (ci := 6) (q0 := 0) rfl rfl, zAt (av := [.ref m0]) zE0_ok hP hD hK hS hA trivial [0, 1] rfl (by decide)⟩ rfl rfl hl.1 rfl (lv_room (Nat.le_of_ble_eq_true rfl)) dX6_noMate_1 ⟨Nat.zero_le _, Nat.zero_le _⟩) hP hD hS hA rfl (fun _ => rfl) (fun u1 H locs w1 hP hD hS => ?_)
  have hP : va_P D vwCl [(m0, .inr (6, [.ref gA, .int (nI n), .ref tA, .int (nI w), .int (nI fo), .ref pA, .ref sA, .ref mA, .int ch, .int (nI ma), .ref npA, .ref nsA, .ref nmA, .int nc, .int (nI le), .ref lA, .int (nI ((T ++ ([(9 : Nat)])).length)), .ref dA, .int (nI dn)])), (dA, .inl (cC, 1500, .inl (fun jj => nI (u1 jj))))] H := hP
  have hD : va_D A [(m0, .inr (6, [.ref gA, .int (nI n), .ref tA, .int (nI w), .int (nI fo), .ref pA, .ref sA, .ref mA, .int ch, .int (nI ma), .ref npA, .ref nsA, .ref nmA, .int nc, .int (nI le), .ref lA, .int (nI ((T ++ ([(9 : Nat)])).length)), .ref dA, .int (nI dn)])), (dA, .inl (cC, 1500, .inl (fun jj => nI (u1 jj))))] := hD
  obtain ⟨T1, hT1⟩ : ∃ y9, y9 = T ++ ([(9 : Nat)]) := ⟨_, rfl⟩
  rw [← hT1] at hP hD w1
  have lT1 : T1.length ≤ T.length + 1 := by rw [hT1, List.length_append]; simp
  have hP : va_P D vwCl [(m0, .inr (6, [.ref gA, .int (nI n), .ref tA, .int (nI w), .int (nI fo), .ref pA, .ref sA, .ref mA, .int ch, .int (nI ma), .ref npA, .ref nsA, .ref nmA, .int nc, .int (nI le), .ref lA, .int (nI (T1.length)), .ref dA, .int (nI dn)])), (dA, .inl (cC, 1500, .inl (fun jj => nI (u1 jj))))] H := hP
  have hD : va_D A [(m0, .inr (6, [.ref gA, .int (nI n), .ref tA, .int (nI w), .int (nI fo), .ref pA, .ref sA, .ref mA, .int ch, .int (nI ma), .ref npA, .ref nsA, .ref nmA, .int nc, .int (nI le), .ref lA, .int (nI (T1.length)), .ref dA, .int (nI dn)])), (dA, .inl (cC, 1500, .inl (fun jj => nI (u1 jj))))] := hD
  refine lv_aload_n hx hb dX6_noMate_4 rfl (lv_at hl 0 rfl) ?_
  refine lv_bipush (v := nI 42) hx hb dX6_noMate_5 (by decide) ?_
  refine zCv (is := [0, 1]) (wf := (fun (uu : Nat → Nat) => ([(m0, .inr (6, [.ref gA, .int (nI n), .ref tA, .int (nI w), .int (nI fo), .ref pA, .ref sA, .ref mA, .int ch, .int (nI ma), .ref npA, .ref nsA, .ref nmA, .int nc, .int (nI le), .ref lA, .int (nI ((T1 ++ ([42])).length)), .ref dA, .int (nI dn)])), (dA, .inl (cC, 1500, .inl (fun jj => nI (uu jj))))] : va_W))) (va_runV (As := [.int (nI 42)]) (rest := []) ⟨hx, hb, hml, hown, hts⟩ (j_put l D cI cC  m0 gA n tA w fo pA sA mA ma npA nsA nmA le lA dA dn ch nc 42 T1 u1 (by omega) (by omega) w1 H.size) (cwV 1 hts (zgood mw_577 mw_579 mw_13 mw_32 mw_580) rfl rfl rfl (by decide +kernel) ⟨Nat.le_of_ble_eq_true rfl, Nat.le_of_ble_eq_true rfl⟩) ⟨zBlind zE0_ok, va_recv hK hP (ci := 6) (q0 := 0) rfl rfl, zAt (av := [.ref m0, .int (nI 42)]) zE0_ok hP hD hK hS hA trivial [0, 1] rfl (by decide)⟩ rfl rfl hl.1 rfl (lv_room (Nat.le_of_ble_eq_true rfl)) dX6_noMate_7 ⟨Nat.zero_le _, Nat.zero_le _⟩) hP hD hS hA rfl (fun _ => rfl) (fun u7 H locs w7 hP hD hS => ?_)
  have hP : va_P D vwCl [(m0, .inr (6, [.ref gA, .int (nI n), .ref tA, .int (nI w), .int (nI fo), .ref pA, .ref sA, .ref mA, .int ch, .int (nI ma), .ref npA, .ref nsA, .ref nmA, .int nc, .int (nI le), .ref lA, .int (nI ((T1 ++ ([42])).length)), .ref dA, .int (nI dn)])), (dA, .inl (cC, 1500, .inl (fun jj => nI (u7 jj))))] H := hP
  have hD : va_D A [(m0, .inr (6, [.ref gA, .int (nI n), .ref tA, .int (nI w), .int (nI fo), .ref pA, .ref sA, .ref mA, .int ch, .int (nI ma), .ref npA, .ref nsA, .ref nmA, .int nc, .int (nI le), .ref lA, .int (nI ((T1 ++ ([42])).length)), .ref dA, .int (nI dn)])), (dA, .inl (cC, 1500, .inl (fun jj => nI (u7 jj))))] := hD
  obtain ⟨T7, hT7⟩ : ∃ y9, y9 = T1 ++ ([42]) := ⟨_, rfl⟩
  rw [← hT7] at hP hD w7
  have lT7 : T7.length ≤ T1.length + 1 := by rw [hT7, List.length_append]; simp
  have hP : va_P D vwCl [(m0, .inr (6, [.ref gA, .int (nI n), .ref tA, .int (nI w), .int (nI fo), .ref pA, .ref sA, .ref mA, .int ch, .int (nI ma), .ref npA, .ref nsA, .ref nmA, .int nc, .int (nI le), .ref lA, .int (nI (T7.length)), .ref dA, .int (nI dn)])), (dA, .inl (cC, 1500, .inl (fun jj => nI (u7 jj))))] H := hP
  have hD : va_D A [(m0, .inr (6, [.ref gA, .int (nI n), .ref tA, .int (nI w), .int (nI fo), .ref pA, .ref sA, .ref mA, .int ch, .int (nI ma), .ref npA, .ref nsA, .ref nmA, .int nc, .int (nI le), .ref lA, .int (nI (T7.length)), .ref dA, .int (nI dn)])), (dA, .inl (cC, 1500, .inl (fun jj => nI (u7 jj))))] := hD
  refine lv_aload_n hx hb dX6_noMate_10 rfl (lv_at hl 0 rfl) ?_
  refine zCv (is := [0, 1]) (wf := (fun (uu : Nat → Nat) => ([(m0, .inr (6, [.ref gA, .int (nI n), .ref tA, .int (nI w), .int (nI fo), .ref pA, .ref sA, .ref mA, .int ch, .int (nI ma), .ref npA, .ref nsA, .ref nmA, .int nc, .int (nI le), .ref lA, .int (nI ((T7 ++ ([(9 : Nat)])).length)), .ref dA, .int (nI dn)])), (dA, .inl (cC, 1500, .inl (fun jj => nI (uu jj))))] : va_W))) (va_runV (As := []) (rest := []) ⟨hx, hb, hml, hown, hts⟩ (j_tab l D cI cC  m0 gA n tA w fo pA sA mA ma npA nsA nmA le lA dA dn ch nc T7 u7 (by omega) w7 H.size) (cwV 0 hts (zgood mw_581 mw_583 mw_14 mw_32 mw_584) rfl rfl rfl (by decide +kernel) ⟨Nat.le_of_ble_eq_true rfl, Nat.le_of_ble_eq_true rfl⟩) ⟨zBlind zE0_ok, va_recv hK hP (ci := 6) (q0 := 0) rfl rfl, zAt (av := [.ref m0]) zE0_ok hP hD hK hS hA trivial [0, 1] rfl (by decide)⟩ rfl rfl hl.1 rfl (lv_room (Nat.le_of_ble_eq_true rfl)) dX6_noMate_11 ⟨Nat.zero_le _, Nat.zero_le _⟩) hP hD hS hA rfl (fun _ => rfl) (fun u11 H locs w11 hP hD hS => ?_)
  have hP : va_P D vwCl [(m0, .inr (6, [.ref gA, .int (nI n), .ref tA, .int (nI w), .int (nI fo), .ref pA, .ref sA, .ref mA, .int ch, .int (nI ma), .ref npA, .ref nsA, .ref nmA, .int nc, .int (nI le), .ref lA, .int (nI ((T7 ++ ([(9 : Nat)])).length)), .ref dA, .int (nI dn)])), (dA, .inl (cC, 1500, .inl (fun jj => nI (u11 jj))))] H := hP
  have hD : va_D A [(m0, .inr (6, [.ref gA, .int (nI n), .ref tA, .int (nI w), .int (nI fo), .ref pA, .ref sA, .ref mA, .int ch, .int (nI ma), .ref npA, .ref nsA, .ref nmA, .int nc, .int (nI le), .ref lA, .int (nI ((T7 ++ ([(9 : Nat)])).length)), .ref dA, .int (nI dn)])), (dA, .inl (cC, 1500, .inl (fun jj => nI (u11 jj))))] := hD
  obtain ⟨T11, hT11⟩ : ∃ y9, y9 = T7 ++ ([(9 : Nat)]) := ⟨_, rfl⟩
  rw [← hT11] at hP hD w11
  have lT11 : T11.length ≤ T7.length + 1 := by rw [hT11, List.length_append]; simp
  have hP : va_P D vwCl [(m0, .inr (6, [.ref gA, .int (nI n), .ref tA, .int (nI w), .int (nI fo), .ref pA, .ref sA, .ref mA, .int ch, .int (nI ma), .ref npA, .ref nsA, .ref nmA, .int nc, .int (nI le), .ref lA, .int (nI (T11.length)), .ref dA, .int (nI dn)])), (dA, .inl (cC, 1500, .inl (fun jj => nI (u11 jj))))] H := hP
  have hD : va_D A [(m0, .inr (6, [.ref gA, .int (nI n), .ref tA, .int (nI w), .int (nI fo), .ref pA, .ref sA, .ref mA, .int ch, .int (nI ma), .ref npA, .ref nsA, .ref nmA, .int nc, .int (nI le), .ref lA, .int (nI (T11.length)), .ref dA, .int (nI dn)])), (dA, .inl (cC, 1500, .inl (fun jj => nI (u11 jj))))] := hD
  refine lv_aload_n hx hb dX6_noMate_14 rfl (lv_at hl 0 rfl) ?_
  refine lv_bipush (v := nI 48) hx hb dX6_noMate_15 (by decide) ?_
  refine zCv (is := [0, 1]) (wf := (fun (uu : Nat → Nat) => ([(m0, .inr (6, [.ref gA, .int (nI n), .ref tA, .int (nI w), .int (nI fo), .ref pA, .ref sA, .ref mA, .int ch, .int (nI ma), .ref npA, .ref nsA, .ref nmA, .int nc, .int (nI le), .ref lA, .int (nI ((T11 ++ ([48])).length)), .ref dA, .int (nI dn)])), (dA, .inl (cC, 1500, .inl (fun jj => nI (uu jj))))] : va_W))) (va_runV (As := [.int (nI 48)]) (rest := []) ⟨hx, hb, hml, hown, hts⟩ (j_put l D cI cC  m0 gA n tA w fo pA sA mA ma npA nsA nmA le lA dA dn ch nc 48 T11 u11 (by omega) (by omega) w11 H.size) (cwV 1 hts (zgood mw_577 mw_579 mw_13 mw_32 mw_580) rfl rfl rfl (by decide +kernel) ⟨Nat.le_of_ble_eq_true rfl, Nat.le_of_ble_eq_true rfl⟩) ⟨zBlind zE0_ok, va_recv hK hP (ci := 6) (q0 := 0) rfl rfl, zAt (av := [.ref m0, .int (nI 48)]) zE0_ok hP hD hK hS hA trivial [0, 1] rfl (by decide)⟩ rfl rfl hl.1 rfl (lv_room (Nat.le_of_ble_eq_true rfl)) dX6_noMate_17 ⟨Nat.zero_le _, Nat.zero_le _⟩) hP hD hS hA rfl (fun _ => rfl) (fun u17 H locs w17 hP hD hS => ?_)
  have hP : va_P D vwCl [(m0, .inr (6, [.ref gA, .int (nI n), .ref tA, .int (nI w), .int (nI fo), .ref pA, .ref sA, .ref mA, .int ch, .int (nI ma), .ref npA, .ref nsA, .ref nmA, .int nc, .int (nI le), .ref lA, .int (nI ((T11 ++ ([48])).length)), .ref dA, .int (nI dn)])), (dA, .inl (cC, 1500, .inl (fun jj => nI (u17 jj))))] H := hP
  have hD : va_D A [(m0, .inr (6, [.ref gA, .int (nI n), .ref tA, .int (nI w), .int (nI fo), .ref pA, .ref sA, .ref mA, .int ch, .int (nI ma), .ref npA, .ref nsA, .ref nmA, .int nc, .int (nI le), .ref lA, .int (nI ((T11 ++ ([48])).length)), .ref dA, .int (nI dn)])), (dA, .inl (cC, 1500, .inl (fun jj => nI (u17 jj))))] := hD
  obtain ⟨T17, hT17⟩ : ∃ y9, y9 = T11 ++ ([48]) := ⟨_, rfl⟩
  rw [← hT17] at hP hD w17
  have lT17 : T17.length ≤ T11.length + 1 := by rw [hT17, List.length_append]; simp
  have hP : va_P D vwCl [(m0, .inr (6, [.ref gA, .int (nI n), .ref tA, .int (nI w), .int (nI fo), .ref pA, .ref sA, .ref mA, .int ch, .int (nI ma), .ref npA, .ref nsA, .ref nmA, .int nc, .int (nI le), .ref lA, .int (nI (T17.length)), .ref dA, .int (nI dn)])), (dA, .inl (cC, 1500, .inl (fun jj => nI (u17 jj))))] H := hP
  have hD : va_D A [(m0, .inr (6, [.ref gA, .int (nI n), .ref tA, .int (nI w), .int (nI fo), .ref pA, .ref sA, .ref mA, .int ch, .int (nI ma), .ref npA, .ref nsA, .ref nmA, .int nc, .int (nI le), .ref lA, .int (nI (T17.length)), .ref dA, .int (nI dn)])), (dA, .inl (cC, 1500, .inl (fun jj => nI (u17 jj))))] := hD
  refine lv_aload_n hx hb dX6_noMate_20 rfl (lv_at hl 0 rfl) ?_
  refine zCv (is := [0, 1]) (wf := (fun (uu : Nat → Nat) => ([(m0, .inr (6, [.ref gA, .int (nI n), .ref tA, .int (nI w), .int (nI fo), .ref pA, .ref sA, .ref mA, .int ch, .int (nI ma), .ref npA, .ref nsA, .ref nmA, .int nc, .int (nI le), .ref lA, .int (nI ((T17 ++ ([(9 : Nat)])).length)), .ref dA, .int (nI dn)])), (dA, .inl (cC, 1500, .inl (fun jj => nI (uu jj))))] : va_W))) (va_runV (As := []) (rest := []) ⟨hx, hb, hml, hown, hts⟩ (j_tab l D cI cC  m0 gA n tA w fo pA sA mA ma npA nsA nmA le lA dA dn ch nc T17 u17 (by omega) w17 H.size) (cwV 0 hts (zgood mw_581 mw_583 mw_14 mw_32 mw_584) rfl rfl rfl (by decide +kernel) ⟨Nat.le_of_ble_eq_true rfl, Nat.le_of_ble_eq_true rfl⟩) ⟨zBlind zE0_ok, va_recv hK hP (ci := 6) (q0 := 0) rfl rfl, zAt (av := [.ref m0]) zE0_ok hP hD hK hS hA trivial [0, 1] rfl (by decide)⟩ rfl rfl hl.1 rfl (lv_room (Nat.le_of_ble_eq_true rfl)) dX6_noMate_21 ⟨Nat.zero_le _, Nat.zero_le _⟩) hP hD hS hA rfl (fun _ => rfl) (fun u21 H locs w21 hP hD hS => ?_)
  have hP : va_P D vwCl [(m0, .inr (6, [.ref gA, .int (nI n), .ref tA, .int (nI w), .int (nI fo), .ref pA, .ref sA, .ref mA, .int ch, .int (nI ma), .ref npA, .ref nsA, .ref nmA, .int nc, .int (nI le), .ref lA, .int (nI ((T17 ++ ([(9 : Nat)])).length)), .ref dA, .int (nI dn)])), (dA, .inl (cC, 1500, .inl (fun jj => nI (u21 jj))))] H := hP
  have hD : va_D A [(m0, .inr (6, [.ref gA, .int (nI n), .ref tA, .int (nI w), .int (nI fo), .ref pA, .ref sA, .ref mA, .int ch, .int (nI ma), .ref npA, .ref nsA, .ref nmA, .int nc, .int (nI le), .ref lA, .int (nI ((T17 ++ ([(9 : Nat)])).length)), .ref dA, .int (nI dn)])), (dA, .inl (cC, 1500, .inl (fun jj => nI (u21 jj))))] := hD
  obtain ⟨T21, hT21⟩ : ∃ y9, y9 = T17 ++ ([(9 : Nat)]) := ⟨_, rfl⟩
  rw [← hT21] at hP hD w21
  have lT21 : T21.length ≤ T17.length + 1 := by rw [hT21, List.length_append]; simp
  have hP : va_P D vwCl [(m0, .inr (6, [.ref gA, .int (nI n), .ref tA, .int (nI w), .int (nI fo), .ref pA, .ref sA, .ref mA, .int ch, .int (nI ma), .ref npA, .ref nsA, .ref nmA, .int nc, .int (nI le), .ref lA, .int (nI (T21.length)), .ref dA, .int (nI dn)])), (dA, .inl (cC, 1500, .inl (fun jj => nI (u21 jj))))] H := hP
  have hD : va_D A [(m0, .inr (6, [.ref gA, .int (nI n), .ref tA, .int (nI w), .int (nI fo), .ref pA, .ref sA, .ref mA, .int ch, .int (nI ma), .ref npA, .ref nsA, .ref nmA, .int nc, .int (nI le), .ref lA, .int (nI (T21.length)), .ref dA, .int (nI dn)])), (dA, .inl (cC, 1500, .inl (fun jj => nI (u21 jj))))] := hD
  refine lv_aload_n hx hb dX6_noMate_24 rfl (lv_at hl 0 rfl) ?_
  refine lv_bipush (v := nI 48) hx hb dX6_noMate_25 (by decide) ?_
  refine zCv (is := [0, 1]) (wf := (fun (uu : Nat → Nat) => ([(m0, .inr (6, [.ref gA, .int (nI n), .ref tA, .int (nI w), .int (nI fo), .ref pA, .ref sA, .ref mA, .int ch, .int (nI ma), .ref npA, .ref nsA, .ref nmA, .int nc, .int (nI le), .ref lA, .int (nI ((T21 ++ ([48])).length)), .ref dA, .int (nI dn)])), (dA, .inl (cC, 1500, .inl (fun jj => nI (uu jj))))] : va_W))) (va_runV (As := [.int (nI 48)]) (rest := []) ⟨hx, hb, hml, hown, hts⟩ (j_put l D cI cC  m0 gA n tA w fo pA sA mA ma npA nsA nmA le lA dA dn ch nc 48 T21 u21 (by omega) (by omega) w21 H.size) (cwV 1 hts (zgood mw_577 mw_579 mw_13 mw_32 mw_580) rfl rfl rfl (by decide +kernel) ⟨Nat.le_of_ble_eq_true rfl, Nat.le_of_ble_eq_true rfl⟩) ⟨zBlind zE0_ok, va_recv hK hP (ci := 6) (q0 := 0) rfl rfl, zAt (av := [.ref m0, .int (nI 48)]) zE0_ok hP hD hK hS hA trivial [0, 1] rfl (by decide)⟩ rfl rfl hl.1 rfl (lv_room (Nat.le_of_ble_eq_true rfl)) dX6_noMate_27 ⟨Nat.zero_le _, Nat.zero_le _⟩) hP hD hS hA rfl (fun _ => rfl) (fun u27 H locs w27 hP hD hS => ?_)
  have hP : va_P D vwCl [(m0, .inr (6, [.ref gA, .int (nI n), .ref tA, .int (nI w), .int (nI fo), .ref pA, .ref sA, .ref mA, .int ch, .int (nI ma), .ref npA, .ref nsA, .ref nmA, .int nc, .int (nI le), .ref lA, .int (nI ((T21 ++ ([48])).length)), .ref dA, .int (nI dn)])), (dA, .inl (cC, 1500, .inl (fun jj => nI (u27 jj))))] H := hP
  have hD : va_D A [(m0, .inr (6, [.ref gA, .int (nI n), .ref tA, .int (nI w), .int (nI fo), .ref pA, .ref sA, .ref mA, .int ch, .int (nI ma), .ref npA, .ref nsA, .ref nmA, .int nc, .int (nI le), .ref lA, .int (nI ((T21 ++ ([48])).length)), .ref dA, .int (nI dn)])), (dA, .inl (cC, 1500, .inl (fun jj => nI (u27 jj))))] := hD
  obtain ⟨T27, hT27⟩ : ∃ y9, y9 = T21 ++ ([48]) := ⟨_, rfl⟩
  rw [← hT27] at hP hD w27
  have lT27 : T27.length ≤ T21.length + 1 := by rw [hT27, List.length_append]; simp
  have hP : va_P D vwCl [(m0, .inr (6, [.ref gA, .int (nI n), .ref tA, .int (nI w), .int (nI fo), .ref pA, .ref sA, .ref mA, .int ch, .int (nI ma), .ref npA, .ref nsA, .ref nmA, .int nc, .int (nI le), .ref lA, .int (nI (T27.length)), .ref dA, .int (nI dn)])), (dA, .inl (cC, 1500, .inl (fun jj => nI (u27 jj))))] H := hP
  have hD : va_D A [(m0, .inr (6, [.ref gA, .int (nI n), .ref tA, .int (nI w), .int (nI fo), .ref pA, .ref sA, .ref mA, .int ch, .int (nI ma), .ref npA, .ref nsA, .ref nmA, .int nc, .int (nI le), .ref lA, .int (nI (T27.length)), .ref dA, .int (nI dn)])), (dA, .inl (cC, 1500, .inl (fun jj => nI (u27 jj))))] := hD
  refine lv_aload_n hx hb dX6_noMate_30 rfl (lv_at hl 0 rfl) ?_
  refine zCv (is := [0, 1]) (wf := (fun (uu : Nat → Nat) => ([(m0, .inr (6, [.ref gA, .int (nI n), .ref tA, .int (nI w), .int (nI fo), .ref pA, .ref sA, .ref mA, .int ch, .int (nI ma), .ref npA, .ref nsA, .ref nmA, .int nc, .int (nI le), .ref lA, .int (nI ((T27 ++ ([(9 : Nat)])).length)), .ref dA, .int (nI dn)])), (dA, .inl (cC, 1500, .inl (fun jj => nI (uu jj))))] : va_W))) (va_runV (As := []) (rest := []) ⟨hx, hb, hml, hown, hts⟩ (j_tab l D cI cC  m0 gA n tA w fo pA sA mA ma npA nsA nmA le lA dA dn ch nc T27 u27 (by omega) w27 H.size) (cwV 0 hts (zgood mw_581 mw_583 mw_14 mw_32 mw_584) rfl rfl rfl (by decide +kernel) ⟨Nat.le_of_ble_eq_true rfl, Nat.le_of_ble_eq_true rfl⟩) ⟨zBlind zE0_ok, va_recv hK hP (ci := 6) (q0 := 0) rfl rfl, zAt (av := [.ref m0]) zE0_ok hP hD hK hS hA trivial [0, 1] rfl (by decide)⟩ rfl rfl hl.1 rfl (lv_room (Nat.le_of_ble_eq_true rfl)) dX6_noMate_31 ⟨Nat.zero_le _, Nat.zero_le _⟩) hP hD hS hA rfl (fun _ => rfl) (fun u31 H locs w31 hP hD hS => ?_)
  have hP : va_P D vwCl [(m0, .inr (6, [.ref gA, .int (nI n), .ref tA, .int (nI w), .int (nI fo), .ref pA, .ref sA, .ref mA, .int ch, .int (nI ma), .ref npA, .ref nsA, .ref nmA, .int nc, .int (nI le), .ref lA, .int (nI ((T27 ++ ([(9 : Nat)])).length)), .ref dA, .int (nI dn)])), (dA, .inl (cC, 1500, .inl (fun jj => nI (u31 jj))))] H := hP
  have hD : va_D A [(m0, .inr (6, [.ref gA, .int (nI n), .ref tA, .int (nI w), .int (nI fo), .ref pA, .ref sA, .ref mA, .int ch, .int (nI ma), .ref npA, .ref nsA, .ref nmA, .int nc, .int (nI le), .ref lA, .int (nI ((T27 ++ ([(9 : Nat)])).length)), .ref dA, .int (nI dn)])), (dA, .inl (cC, 1500, .inl (fun jj => nI (u31 jj))))] := hD
  obtain ⟨T31, hT31⟩ : ∃ y9, y9 = T27 ++ ([(9 : Nat)]) := ⟨_, rfl⟩
  rw [← hT31] at hP hD w31
  have lT31 : T31.length ≤ T27.length + 1 := by rw [hT31, List.length_append]; simp
  have hP : va_P D vwCl [(m0, .inr (6, [.ref gA, .int (nI n), .ref tA, .int (nI w), .int (nI fo), .ref pA, .ref sA, .ref mA, .int ch, .int (nI ma), .ref npA, .ref nsA, .ref nmA, .int nc, .int (nI le), .ref lA, .int (nI (T31.length)), .ref dA, .int (nI dn)])), (dA, .inl (cC, 1500, .inl (fun jj => nI (u31 jj))))] H := hP
  have hD : va_D A [(m0, .inr (6, [.ref gA, .int (nI n), .ref tA, .int (nI w), .int (nI fo), .ref pA, .ref sA, .ref mA, .int ch, .int (nI ma), .ref npA, .ref nsA, .ref nmA, .int nc, .int (nI le), .ref lA, .int (nI (T31.length)), .ref dA, .int (nI dn)])), (dA, .inl (cC, 1500, .inl (fun jj => nI (u31 jj))))] := hD
  have eT : T31 = T ++ ([(9 : Nat), 42, 9, 48, 9, 48, 9]) := by rw [hT31, hT27, hT21, hT17, hT11, hT7, hT1] <;> simp []
  rw [eT] at hP hD w31
  have hP : va_P D vwCl [(m0, .inr (6, [.ref gA, .int (nI n), .ref tA, .int (nI w), .int (nI fo), .ref pA, .ref sA, .ref mA, .int ch, .int (nI ma), .ref npA, .ref nsA, .ref nmA, .int nc, .int (nI le), .ref lA, .int (nI ((T ++ ([(9 : Nat), 42, 9, 48, 9, 48, 9])).length)), .ref dA, .int (nI dn)])), (dA, .inl (cC, 1500, .inl (fun jj => nI (u31 jj))))] H := hP
  have hD : va_D A [(m0, .inr (6, [.ref gA, .int (nI n), .ref tA, .int (nI w), .int (nI fo), .ref pA, .ref sA, .ref mA, .int ch, .int (nI ma), .ref npA, .ref nsA, .ref nmA, .int nc, .int (nI le), .ref lA, .int (nI ((T ++ ([(9 : Nat), 42, 9, 48, 9, 48, 9])).length)), .ref dA, .int (nI dn)])), (dA, .inl (cC, 1500, .inl (fun jj => nI (u31 jj))))] := hD
  exact zVret hC hS u31 w31 hP dX6_noMate_34
set_option maxHeartbeats 4000000 in
set_option maxRecDepth 100000 in
theorem j_putRead_L2 {pr : Program} {en : Env} {s0 : State} {mi : MethodId} {bl : List Frame} {me : Method} {co : Code} {A : Nat → Prop} (l : Launch) (D : va_G) (cI cC : ClassId)  (m0 gA n tA w fo pA sA mA ma npA nsA nmA le lA dA dn : Nat) (ch nc : Int32) (t : Nat) (r : Nat → Nat) (T : List Nat) (a : Nat → Nat) (hw : w ≤ 24) (hr3 : ∀ i, i < w → r i ≤ 3) (ht : t ≤ 1) (hT : T.length + 24 ≤ 2000000) (ha : zAG a T) (hC : zK pr s0 mi ([.ref m0, .int (nI t)] : List Value).toArray me co cX6_putRead 3 none yX6_putRead wsX6_putRead) (hA : ∀ q, s0.heap.size ≤ q → A q) (hK : va_K D vwCl [(cI, .int), (cC, .char)] s0) (hE : zE0 A s0 s0.heap) :
    ∀ (N : Nat) (k : Nat) (b : Nat → Nat), w - k < N → (k ≤ w) → (zAG b (T ++ zbs (zsy w r t) k)) → ∀ (H : Heap) (locs : List Loc), va_P D vwCl [(m0, .inr (6, [.ref gA, .int (nI n), .ref tA, .int (nI w), .int (nI fo), .ref pA, .ref sA, .ref mA, .int ch, .int (nI ma), .ref npA, .ref nsA, .ref nmA, .int nc, .int (nI le), .ref lA, .int (nI ((T ++ zbs (zsy w r t) k).length)), .ref dA, .int (nI dn)])), (dA, .inl (cC, 1500, .inl (fun jj => nI (b jj)))), (tA, .inl (cI, 24, .inl (fun jj => nI (r jj))))] H → va_D A [(m0, .inr (6, [.ref gA, .int (nI n), .ref tA, .int (nI w), .int (nI fo), .ref pA, .ref sA, .ref mA, .int ch, .int (nI ma), .ref npA, .ref nsA, .ref nmA, .int nc, .int (nI le), .ref lA, .int (nI ((T ++ zbs (zsy w r t) k).length)), .ref dA, .int (nI dn)])), (dA, .inl (cC, 1500, .inl (fun jj => nI (b jj)))), (tA, .inl (cI, 24, .inl (fun jj => nI (r jj))))] → va_S A s0.heap H locs → ∀ ls : Array Slot, lv_has ls 3 [(0, .ref m0), (1, .int (nI t)), (2, .int (nI k))] → W pr l en ({ frames := 2, cells := 0, slots := 0, locals := 42 } : Room) s0 mi ([.ref m0, .int (nI t)] : List Value).toArray bl me co H locs 0 0 (MQ bl (va_Qv (fun (uu : Nat → Nat) => zAG uu (T ++ (zbs (zsy w r t) w))) (fun (uu : Nat → Nat) t9 => va_P D vwCl ([(m0, .inr (6, [.ref gA, .int (nI n), .ref tA, .int (nI w), .int (nI fo), .ref pA, .ref sA, .ref mA, .int ch, .int (nI ma), .ref npA, .ref nsA, .ref nmA, .int nc, .int (nI le), .ref lA, .int (nI ((T ++ (zbs (zsy w r t) w)).length)), .ref dA, .int (nI dn)])), (dA, .inl (cC, 1500, .inl (fun jj => nI (uu jj)))), (tA, .inl (cI, 24, .inl (fun jj => nI (r jj))))]) t9.heap) A) ([.ref m0, .int (nI t)] : List Value).toArray s0 0 0 A) (F0 mi 2 ls []) := by
  obtain ⟨hx, hb, hr, hml, hown, hts, hlocks, hin⟩ := id hC
  intro N
  induction N with
  | zero =>
    intro k b hmea
    omega
  | succ N ih =>
    intro k b hmea hk hac H locs hP hD hS ls hl
    refine lv_iload_n hx hb dX6_putRead_2 rfl (lv_at hl 2 rfl) ?_
    refine lv_aload_n hx hb dX6_putRead_3 rfl (lv_at hl 0 rfl) ?_
    refine va_get (D := D) (ci := 6) (v := .int (nI w)) (C := RX6) (T := TX6) (N := 19) hx hb hts (fun w h => List.mem_cons_of_mem _ (inUX6 w h)) hown hK hP 0 rfl rfl 3 (by decide) (hts _ (List.mem_cons_of_mem _ mw_441)) (fun _ h9 => h9) rfl dX6_putRead_4 ?_
    refine zz_ge (tgt := 26) hx hb dX6_putRead_7 (by decide) (by omega) (by omega) (fun c7 => ?_) (fun c7 => ?_)
    · skip
      rw [show k = w by omega] at hP hD hac
      have hP : va_P D vwCl [(m0, .inr (6, [.ref gA, .int (nI n), .ref tA, .int (nI w), .int (nI fo), .ref pA, .ref sA, .ref mA, .int ch, .int (nI ma), .ref npA, .ref nsA, .ref nmA, .int nc, .int (nI le), .ref lA, .int (nI ((T ++ zbs (zsy w r t) w).length)), .ref dA, .int (nI dn)])), (dA, .inl (cC, 1500, .inl (fun jj => nI (b jj)))), (tA, .inl (cI, 24, .inl (fun jj => nI (r jj))))] H := hP
      have hD : va_D A [(m0, .inr (6, [.ref gA, .int (nI n), .ref tA, .int (nI w), .int (nI fo), .ref pA, .ref sA, .ref mA, .int ch, .int (nI ma), .ref npA, .ref nsA, .ref nmA, .int nc, .int (nI le), .ref lA, .int (nI ((T ++ zbs (zsy w r t) w).length)), .ref dA, .int (nI dn)])), (dA, .inl (cC, 1500, .inl (fun jj => nI (b jj)))), (tA, .inl (cI, 24, .inl (fun jj => nI (r jj))))] := hD
      exact zVret hC hS b hac hP dX6_putRead_26
    · skip
      have l1 : (T ++ zbs (zsy w r t) k).length = T.length + k := by rw [List.length_append, zbs_len]
      have l2 := zsy_le (r := r) (t := t) hr3 (show k < w by omega)
      refine lv_aload_n hx hb dX6_putRead_10 rfl (lv_at hl 0 rfl) ?_
      refine lv_aload_n hx hb dX6_putRead_11 rfl (lv_at hl 0 rfl) ?_
      refine lv_iload_n hx hb dX6_putRead_12 rfl (lv_at hl 1 rfl) ?_
      refine lv_iload_n hx hb dX6_putRead_13 rfl (lv_at hl 2 rfl) ?_
      refine zCi (is := [0, 2]) (wf := (fun (uu : Unit) => ([(m0, .inr (6, [.ref gA, .int (nI n), .ref tA, .int (nI w), .int (nI fo), .ref pA, .ref sA, .ref mA, .int ch, .int (nI ma), .ref npA, .ref nsA, .ref nmA, .int nc, .int (nI le), .ref lA, .int (nI ((T ++ zbs (zsy w r t) k).length)), .ref dA, .int (nI dn)])), (tA, .inl (cI, 24, .inl (fun jj => nI (r jj))))] : va_W))) (va_runV (As := [.int (nI t), .int (nI k)]) (rest := [.ref m0]) ⟨hx, hb, hml, hown, hts⟩ (j_symbol l D cI cC  m0 gA n tA w fo pA sA mA ma npA nsA nmA le lA ((T ++ zbs (zsy w r t) k).length) dA dn ch nc t k r (by omega) hr3 (by omega) (by omega) H.size) (cwV 2 hts (zgood mw_569 mw_571 mw_11 mw_32 mw_572) rfl rfl rfl (by decide +kernel) ⟨Nat.le_of_ble_eq_true rfl, Nat.le_of_ble_eq_true rfl⟩) ⟨zBlind zE0_ok, va_recv hK hP (ci := 6) (q0 := 0) rfl rfl, zAt (av := [.ref m0, .int (nI t), .int (nI k)]) zE0_ok hP hD hK hS hA trivial [0, 2] rfl (by decide)⟩ rfl rfl hl.1 rfl (lv_room (Nat.le_of_ble_eq_true rfl)) dX6_putRead_14 ⟨Nat.zero_le _, Nat.zero_le _⟩) hP hD hS hA rfl (fun _ => rfl) (fun r14 u14 H locs w14 hP hD hS => ?_)
      obtain ⟨rfl, w14⟩ := w14
      have hP : va_P D vwCl [(m0, .inr (6, [.ref gA, .int (nI n), .ref tA, .int (nI w), .int (nI fo), .ref pA, .ref sA, .ref mA, .int ch, .int (nI ma), .ref npA, .ref nsA, .ref nmA, .int nc, .int (nI le), .ref lA, .int (nI ((T ++ zbs (zsy w r t) k).length)), .ref dA, .int (nI dn)])), (dA, .inl (cC, 1500, .inl (fun jj => nI (b jj)))), (tA, .inl (cI, 24, .inl (fun jj => nI (r jj))))] H := hP
      have hD : va_D A [(m0, .inr (6, [.ref gA, .int (nI n), .ref tA, .int (nI w), .int (nI fo), .ref pA, .ref sA, .ref mA, .int ch, .int (nI ma), .ref npA, .ref nsA, .ref nmA, .int nc, .int (nI le), .ref lA, .int (nI ((T ++ zbs (zsy w r t) k).length)), .ref dA, .int (nI dn)])), (dA, .inl (cC, 1500, .inl (fun jj => nI (b jj)))), (tA, .inl (cI, 24, .inl (fun jj => nI (r jj))))] := hD
      refine zCv (is := [0, 1]) (wf := (fun (uu : Nat → Nat) => ([(m0, .inr (6, [.ref gA, .int (nI n), .ref tA, .int (nI w), .int (nI fo), .ref pA, .ref sA, .ref mA, .int ch, .int (nI ma), .ref npA, .ref nsA, .ref nmA, .int nc, .int (nI le), .ref lA, .int (nI (((T ++ zbs (zsy w r t) k) ++ ([zlet (zsy w r t k)])).length)), .ref dA, .int (nI dn)])), (dA, .inl (cC, 1500, .inl (fun jj => nI (uu jj))))] : va_W))) (va_runV (As := [.int (nI (zsy w r t k))]) (rest := []) ⟨hx, hb, hml, hown, hts⟩ (j_putBase l D cI cC  m0 gA n tA w fo pA sA mA ma npA nsA nmA le lA dA dn ch nc (zsy w r t k) (T ++ zbs (zsy w r t) k) b (by omega) (by omega) hac H.size) (cwV 1 hts (zgood mw_609 mw_611 mw_21 mw_32 mw_612) rfl rfl rfl (by decide +kernel) ⟨Nat.le_of_ble_eq_true rfl, Nat.le_of_ble_eq_true rfl⟩) ⟨zBlind zE0_ok, va_recv hK hP (ci := 6) (q0 := 0) rfl rfl, zAt (av := [.ref m0, .int (nI (zsy w r t k))]) zE0_ok hP hD hK hS hA trivial [0, 1] rfl (by decide)⟩ rfl rfl hl.1 rfl (lv_room (Nat.le_of_ble_eq_true rfl)) dX6_putRead_17 ⟨Nat.zero_le _, Nat.zero_le _⟩) hP hD hS hA rfl (fun _ => rfl) (fun u17 H locs w17 hP hD hS => ?_)
      have hP : va_P D vwCl [(m0, .inr (6, [.ref gA, .int (nI n), .ref tA, .int (nI w), .int (nI fo), .ref pA, .ref sA, .ref mA, .int ch, .int (nI ma), .ref npA, .ref nsA, .ref nmA, .int nc, .int (nI le), .ref lA, .int (nI (((T ++ zbs (zsy w r t) k) ++ ([zlet (zsy w r t k)])).length)), .ref dA, .int (nI dn)])), (dA, .inl (cC, 1500, .inl (fun jj => nI (u17 jj)))), (tA, .inl (cI, 24, .inl (fun jj => nI (r jj))))] H := hP
      have hD : va_D A [(m0, .inr (6, [.ref gA, .int (nI n), .ref tA, .int (nI w), .int (nI fo), .ref pA, .ref sA, .ref mA, .int ch, .int (nI ma), .ref npA, .ref nsA, .ref nmA, .int nc, .int (nI le), .ref lA, .int (nI (((T ++ zbs (zsy w r t) k) ++ ([zlet (zsy w r t k)])).length)), .ref dA, .int (nI dn)])), (dA, .inl (cC, 1500, .inl (fun jj => nI (u17 jj)))), (tA, .inl (cI, 24, .inl (fun jj => nI (r jj))))] := hD
      obtain ⟨T17, hT17⟩ : ∃ y9, y9 = (T ++ zbs (zsy w r t) k) ++ ([zlet (zsy w r t k)]) := ⟨_, rfl⟩
      rw [← hT17] at hP hD w17
      have lT17 : T17.length ≤ (T ++ zbs (zsy w r t) k).length + 1 := by rw [hT17, List.length_append]; simp
      have hP : va_P D vwCl [(m0, .inr (6, [.ref gA, .int (nI n), .ref tA, .int (nI w), .int (nI fo), .ref pA, .ref sA, .ref mA, .int ch, .int (nI ma), .ref npA, .ref nsA, .ref nmA, .int nc, .int (nI le), .ref lA, .int (nI (T17.length)), .ref dA, .int (nI dn)])), (dA, .inl (cC, 1500, .inl (fun jj => nI (u17 jj)))), (tA, .inl (cI, 24, .inl (fun jj => nI (r jj))))] H := hP
      have hD : va_D A [(m0, .inr (6, [.ref gA, .int (nI n), .ref tA, .int (nI w), .int (nI fo), .ref pA, .ref sA, .ref mA, .int ch, .int (nI ma), .ref npA, .ref nsA, .ref nmA, .int nc, .int (nI le), .ref lA, .int (nI (T17.length)), .ref dA, .int (nI dn)])), (dA, .inl (cC, 1500, .inl (fun jj => nI (u17 jj)))), (tA, .inl (cI, 24, .inl (fun jj => nI (r jj))))] := hD
      refine lv_iinc (v := nI (k + 1)) (lv' := [(2, .int (nI (k + 1))), (0, .ref m0), (1, .int (nI t))]) hx hb dX6_putRead_20 hl (k := 2) rfl (zincE (by omega)) (by decide) rfl (fun ls hl => ?_)
      refine lv_goto (tgt := 2) hx hb dX6_putRead_23 (by decide) ?_
      have eT : T17 = T ++ zbs (zsy w r t) (k + 1) := by rw [hT17, List.append_assoc]; rfl
      rw [eT] at hP hD w17
      have hP : va_P D vwCl [(m0, .inr (6, [.ref gA, .int (nI n), .ref tA, .int (nI w), .int (nI fo), .ref pA, .ref sA, .ref mA, .int ch, .int (nI ma), .ref npA, .ref nsA, .ref nmA, .int nc, .int (nI le), .ref lA, .int (nI ((T ++ zbs (zsy w r t) (k + 1)).length)), .ref dA, .int (nI dn)])), (dA, .inl (cC, 1500, .inl (fun jj => nI (u17 jj)))), (tA, .inl (cI, 24, .inl (fun jj => nI (r jj))))] H := hP
      have hD : va_D A [(m0, .inr (6, [.ref gA, .int (nI n), .ref tA, .int (nI w), .int (nI fo), .ref pA, .ref sA, .ref mA, .int ch, .int (nI ma), .ref npA, .ref nsA, .ref nmA, .int nc, .int (nI le), .ref lA, .int (nI ((T ++ zbs (zsy w r t) (k + 1)).length)), .ref dA, .int (nI dn)])), (dA, .inl (cC, 1500, .inl (fun jj => nI (u17 jj)))), (tA, .inl (cI, 24, .inl (fun jj => nI (r jj))))] := hD
      exact ih (k + 1) u17 (by omega) (by omega) w17 _ _ hP hD hS ls (lv_sub hl [1, 2, 0] rfl)
set_option maxHeartbeats 4000000 in
set_option maxRecDepth 100000 in
theorem j_putRead (l : Launch) (D : va_G) (cI cC : ClassId)  (m0 gA n tA w fo pA sA mA ma npA nsA nmA le lA dA dn : Nat) (ch nc : Int32) (t : Nat) (r : Nat → Nat) (T : List Nat) (a : Nat → Nat) (hw : w ≤ 24) (hr3 : ∀ i, i < w → r i ≤ 3) (ht : t ≤ 1) (hT : T.length + 24 ≤ 2000000) (ha : zAG a T) (sz : Nat) : Met l yX6_putRead wsX6_putRead ({ frames := 2, cells := 0, slots := 0, locals := 42 } : Room) (zPre zE0 D vwCl [(cI, .int), (cC, .char)] [.ref m0, .int (nI t)] [(m0, .inr (6, [.ref gA, .int (nI n), .ref tA, .int (nI w), .int (nI fo), .ref pA, .ref sA, .ref mA, .int ch, .int (nI ma), .ref npA, .ref nsA, .ref nmA, .int nc, .int (nI le), .ref lA, .int (nI (T.length)), .ref dA, .int (nI dn)])), (dA, .inl (cC, 1500, .inl (fun jj => nI (a jj)))), (tA, .inl (cI, 24, .inl (fun jj => nI (r jj))))] sz) (va_Qv (fun (uu : Nat → Nat) => zAG uu (T ++ (zbs (zsy w r t) w))) (fun (uu : Nat → Nat) t9 => va_P D vwCl ([(m0, .inr (6, [.ref gA, .int (nI n), .ref tA, .int (nI w), .int (nI fo), .ref pA, .ref sA, .ref mA, .int ch, .int (nI ma), .ref npA, .ref nsA, .ref nmA, .int nc, .int (nI le), .ref lA, .int (nI ((T ++ (zbs (zsy w r t) w)).length)), .ref dA, .int (nI dn)])), (dA, .inl (cC, 1500, .inl (fun jj => nI (uu jj)))), (tA, .inl (cI, 24, .inl (fun jj => nI (r jj))))]) t9.heap) (va_A [(m0, .inr (6, [.ref gA, .int (nI n), .ref tA, .int (nI w), .int (nI fo), .ref pA, .ref sA, .ref mA, .int ch, .int (nI ma), .ref npA, .ref nsA, .ref nmA, .int nc, .int (nI le), .ref lA, .int (nI (T.length)), .ref dA, .int (nI dn)])), (dA, .inl (cC, 1500, .inl (fun jj => nI (a jj)))), (tA, .inl (cI, 24, .inl (fun jj => nI (r jj))))] sz)) 0 0 (va_A [(m0, .inr (6, [.ref gA, .int (nI n), .ref tA, .int (nI w), .int (nI fo), .ref pA, .ref sA, .ref mA, .int ch, .int (nI ma), .ref npA, .ref nsA, .ref nmA, .int nc, .int (nI le), .ref lA, .int (nI (T.length)), .ref dA, .int (nI dn)])), (dA, .inl (cC, 1500, .inl (fun jj => nI (a jj)))), (tA, .inl (cI, 24, .inl (fun jj => nI (r jj))))] sz) := by
  refine zMet (cc := cX6_putRead) (maxL := 3) (ret := none) (Qc := fun A => (va_Qv (fun (uu : Nat → Nat) => zAG uu (T ++ (zbs (zsy w r t) w))) (fun (uu : Nat → Nat) t9 => va_P D vwCl ([(m0, .inr (6, [.ref gA, .int (nI n), .ref tA, .int (nI w), .int (nI fo), .ref pA, .ref sA, .ref mA, .int ch, .int (nI ma), .ref npA, .ref nsA, .ref nmA, .int nc, .int (nI le), .ref lA, .int (nI ((T ++ (zbs (zsy w r t) w)).length)), .ref dA, .int (nI dn)])), (dA, .inl (cC, 1500, .inl (fun jj => nI (uu jj)))), (tA, .inl (cI, 24, .inl (fun jj => nI (r jj))))]) t9.heap) A)) (by decide) rfl (Nat.le_of_ble_eq_true rfl) ?_
  intro pr en s0 mi bl me co A hC hA hK hE H locs hP hD hS ls hl
  obtain ⟨hx, hb, hr, hml, hown, hts, hlocks, hin⟩ := id hC
  have hl : lv_has ls 3 [(0, .ref m0), (1, .int (nI t))] := hl
  refine lv_iconst (v := nI 0) hx hb dX6_putRead_0 (by decide) ?_
  refine lv_istore_n (lv' := [(2, .int (nI 0)), (0, .ref m0), (1, .int (nI t))]) hx hb dX6_putRead_1 rfl hl (by decide) rfl (fun ls hl => ?_)
  have hP : va_P D vwCl [(m0, .inr (6, [.ref gA, .int (nI n), .ref tA, .int (nI w), .int (nI fo), .ref pA, .ref sA, .ref mA, .int ch, .int (nI ma), .ref npA, .ref nsA, .ref nmA, .int nc, .int (nI le), .ref lA, .int (nI ((T ++ zbs (zsy w r t) 0).length)), .ref dA, .int (nI dn)])), (dA, .inl (cC, 1500, .inl (fun jj => nI (a jj)))), (tA, .inl (cI, 24, .inl (fun jj => nI (r jj))))] H := by rw [show zbs (zsy w r t) 0 = [] from rfl, List.append_nil]; exact hP
  have hD : va_D A [(m0, .inr (6, [.ref gA, .int (nI n), .ref tA, .int (nI w), .int (nI fo), .ref pA, .ref sA, .ref mA, .int ch, .int (nI ma), .ref npA, .ref nsA, .ref nmA, .int nc, .int (nI le), .ref lA, .int (nI ((T ++ zbs (zsy w r t) 0).length)), .ref dA, .int (nI dn)])), (dA, .inl (cC, 1500, .inl (fun jj => nI (a jj)))), (tA, .inl (cI, 24, .inl (fun jj => nI (r jj))))] := by rw [show zbs (zsy w r t) 0 = [] from rfl, List.append_nil]; exact hD
  exact j_putRead_L2 l D cI cC  m0 gA n tA w fo pA sA mA ma npA nsA nmA le lA dA dn ch nc t r T a hw hr3 ht hT ha hC hA hK hE _ 0 a (Nat.lt_succ_self _) (Nat.zero_le _) (by rw [show zbs (zsy w r t) 0 = [] from rfl, List.append_nil]; exact ha) _ _ hP hD hS ls (lv_sub hl [1, 2, 0] rfl)
set_option maxHeartbeats 4000000 in
set_option maxRecDepth 100000 in
theorem j_putDifferences_L5 {pr : Program} {en : Env} {s0 : State} {mi : MethodId} {bl : List Frame} {me : Method} {co : Code} {A : Nat → Prop} (l : Launch) (D : va_G) (cI cC : ClassId)  (m0 gA n tA w fo pA sA mA ma npA nsA nmA le lA dA dn : Nat) (ch nc : Int32) (p t : Nat) (g : Nat → Nat) (r : Nat → Nat) (T : List Nat) (a : Nat → Nat) (hn : n ≤ 96) (hg : ∀ i, g i ≤ 4) (hw : w ≤ 24) (hr3 : ∀ i, i < w → r i ≤ 3) (hp : p + w ≤ n) (ht : t ≤ 1) (hT : T.length + 300 ≤ 2000000) (ha : zAG a T) (hC : zK pr s0 mi ([.ref m0, .int (nI p), .int (nI t)] : List Value).toArray me co cX6_putDifferences 5 none yX6_putDifferences wsX6_putDifferences) (hA : ∀ q, s0.heap.size ≤ q → A q) (hK : va_K D vwCl [(cI, .int), (cC, .char)] s0) (hE : zE0 A s0 s0.heap) :
    ∀ (N : Nat) (k : Nat) (b : Nat → Nat), w - k < N → (k ≤ w) → (zAG b (T ++ (zdf g (zsy w r t) p k).2)) → ∀ (H : Heap) (locs : List Loc), va_P D vwCl [(m0, .inr (6, [.ref gA, .int (nI n), .ref tA, .int (nI w), .int (nI fo), .ref pA, .ref sA, .ref mA, .int ch, .int (nI ma), .ref npA, .ref nsA, .ref nmA, .int nc, .int (nI le), .ref lA, .int (nI ((T ++ (zdf g (zsy w r t) p k).2).length)), .ref dA, .int (nI dn)])), (dA, .inl (cC, 1500, .inl (fun jj => nI (b jj)))), (gA, .inl (cI, 96, .inl (fun jj => nI (g jj)))), (tA, .inl (cI, 24, .inl (fun jj => nI (r jj))))] H → va_D A [(m0, .inr (6, [.ref gA, .int (nI n), .ref tA, .int (nI w), .int (nI fo), .ref pA, .ref sA, .ref mA, .int ch, .int (nI ma), .ref npA, .ref nsA, .ref nmA, .int nc, .int (nI le), .ref lA, .int (nI ((T ++ (zdf g (zsy w r t) p k).2).length)), .ref dA, .int (nI dn)])), (dA, .inl (cC, 1500, .inl (fun jj => nI (b jj)))), (gA, .inl (cI, 96, .inl (fun jj => nI (g jj)))), (tA, .inl (cI, 24, .inl (fun jj => nI (r jj))))] → va_S A s0.heap H locs → ∀ ls : Array Slot, lv_has ls 5 [(0, .ref m0), (1, .int (nI p)), (2, .int (nI t)), (3, .int (nI ((zdf g (zsy w r t) p k).1))), (4, .int (nI k))] → W pr l en ({ frames := 2, cells := 0, slots := 0, locals := 43 } : Room) s0 mi ([.ref m0, .int (nI p), .int (nI t)] : List Value).toArray bl me co H locs 0 0 (MQ bl (va_Qv (fun (uu : Nat → Nat) => zAG uu (T ++ (zdif g (zsy w r t) p w))) (fun (uu : Nat → Nat) t9 => va_P D vwCl ([(m0, .inr (6, [.ref gA, .int (nI n), .ref tA, .int (nI w), .int (nI fo), .ref pA, .ref sA, .ref mA, .int ch, .int (nI ma), .ref npA, .ref nsA, .ref nmA, .int nc, .int (nI le), .ref lA, .int (nI ((T ++ (zdif g (zsy w r t) p w)).length)), .ref dA, .int (nI dn)])), (dA, .inl (cC, 1500, .inl (fun jj => nI (uu jj)))), (gA, .inl (cI, 96, .inl (fun jj => nI (g jj)))), (tA, .inl (cI, 24, .inl (fun jj => nI (r jj))))]) t9.heap) A) ([.ref m0, .int (nI p), .int (nI t)] : List Value).toArray s0 0 0 A) (F0 mi 5 ls []) := by
  obtain ⟨hx, hb, hr, hml, hown, hts, hlocks, hin⟩ := id hC
  intro N
  induction N with
  | zero =>
    intro k b hmea
    omega
  | succ N ih =>
    intro k b hmea hk hac H locs hP hD hS ls hl
    have l0 : (T ++ (zdf g (zsy w r t) p k).2).length = T.length + (zdf g (zsy w r t) p k).2.length := List.length_append
    have l1 := zdf_len g (zsy w r t) p k
    have l3 := zdf_le g (zsy w r t) p k
    refine lv_iload hx hb dX6_putDifferences_5 (lv_at hl 4 rfl) ?_
    refine lv_aload_n hx hb dX6_putDifferences_7 rfl (lv_at hl 0 rfl) ?_
    refine va_get (D := D) (ci := 6) (v := .int (nI w)) (C := RX6) (T := TX6) (N := 19) hx hb hts (fun w h => List.mem_cons_of_mem _ (inUX6 w h)) hown hK hP 0 rfl rfl 3 (by decide) (hts _ (List.mem_cons_of_mem _ mw_441)) (fun _ h9 => h9) rfl dX6_putDifferences_8 ?_
    refine zz_ge (tgt := 65) hx hb dX6_putDifferences_11 (by decide) (by omega) (by omega) (fun c11 => ?_) (fun c11 => ?_)
    · skip
      refine lv_aload_n hx hb dX6_putDifferences_65 rfl (lv_at hl 0 rfl) ?_
      refine lv_iload_n hx hb dX6_putDifferences_66 rfl (lv_at hl 3 rfl) ?_
      refine zCv (is := [0, 1]) (wf := (fun (uu : Nat → Nat) => ([(m0, .inr (6, [.ref gA, .int (nI n), .ref tA, .int (nI w), .int (nI fo), .ref pA, .ref sA, .ref mA, .int ch, .int (nI ma), .ref npA, .ref nsA, .ref nmA, .int nc, .int (nI le), .ref lA, .int (nI (((T ++ (zdf g (zsy w r t) p k).2) ++ (znum ((zdf g (zsy w r t) p k).1))).length)), .ref dA, .int (nI dn)])), (dA, .inl (cC, 1500, .inl (fun jj => nI (uu jj))))] : va_W))) (va_runV (As := [.int (nI ((zdf g (zsy w r t) p k).1))]) (rest := []) ⟨hx, hb, hml, hown, hts⟩ (j_putNumber l D cI cC  m0 gA n tA w fo pA sA mA ma npA nsA nmA le lA dA dn ch nc ((zdf g (zsy w r t) p k).1) (T ++ (zdf g (zsy w r t) p k).2) b (by omega) (by omega) hac H.size) (cwV 1 hts (zgood mw_589 mw_591 mw_16 mw_32 mw_592) rfl rfl rfl (by decide +kernel) ⟨Nat.le_of_ble_eq_true rfl, Nat.le_of_ble_eq_true rfl⟩) ⟨zBlind zE0_ok, va_recv hK hP (ci := 6) (q0 := 0) rfl rfl, zAt (av := [.ref m0, .int (nI ((zdf g (zsy w r t) p k).1))]) zE0_ok hP hD hK hS hA trivial [0, 1] rfl (by decide)⟩ rfl rfl hl.1 rfl (lv_room (Nat.le_of_ble_eq_true rfl)) dX6_putDifferences_67 ⟨Nat.zero_le _, Nat.zero_le _⟩) hP hD hS hA rfl (fun _ => rfl) (fun u67 H locs w67 hP hD hS => ?_)
      have hP : va_P D vwCl [(m0, .inr (6, [.ref gA, .int (nI n), .ref tA, .int (nI w), .int (nI fo), .ref pA, .ref sA, .ref mA, .int ch, .int (nI ma), .ref npA, .ref nsA, .ref nmA, .int nc, .int (nI le), .ref lA, .int (nI (((T ++ (zdf g (zsy w r t) p k).2) ++ (znum ((zdf g (zsy w r t) p k).1))).length)), .ref dA, .int (nI dn)])), (dA, .inl (cC, 1500, .inl (fun jj => nI (u67 jj)))), (gA, .inl (cI, 96, .inl (fun jj => nI (g jj)))), (tA, .inl (cI, 24, .inl (fun jj => nI (r jj))))] H := hP
      have hD : va_D A [(m0, .inr (6, [.ref gA, .int (nI n), .ref tA, .int (nI w), .int (nI fo), .ref pA, .ref sA, .ref mA, .int ch, .int (nI ma), .ref npA, .ref nsA, .ref nmA, .int nc, .int (nI le), .ref lA, .int (nI (((T ++ (zdf g (zsy w r t) p k).2) ++ (znum ((zdf g (zsy w r t) p k).1))).length)), .ref dA, .int (nI dn)])), (dA, .inl (cC, 1500, .inl (fun jj => nI (u67 jj)))), (gA, .inl (cI, 96, .inl (fun jj => nI (g jj)))), (tA, .inl (cI, 24, .inl (fun jj => nI (r jj))))] := hD
      obtain ⟨T67, hT67⟩ : ∃ y9, y9 = (T ++ (zdf g (zsy w r t) p k).2) ++ (znum ((zdf g (zsy w r t) p k).1)) := ⟨_, rfl⟩
      rw [← hT67] at hP hD w67
      have lT67 : T67.length ≤ (T ++ (zdf g (zsy w r t) p k).2).length + 10 := by rw [hT67, List.length_append]; have := znum_len ((zdf g (zsy w r t) p k).1); omega
      have hP : va_P D vwCl [(m0, .inr (6, [.ref gA, .int (nI n), .ref tA, .int (nI w), .int (nI fo), .ref pA, .ref sA, .ref mA, .int ch, .int (nI ma), .ref npA, .ref nsA, .ref nmA, .int nc, .int (nI le), .ref lA, .int (nI (T67.length)), .ref dA, .int (nI dn)])), (dA, .inl (cC, 1500, .inl (fun jj => nI (u67 jj)))), (gA, .inl (cI, 96, .inl (fun jj => nI (g jj)))), (tA, .inl (cI, 24, .inl (fun jj => nI (r jj))))] H := hP
      have hD : va_D A [(m0, .inr (6, [.ref gA, .int (nI n), .ref tA, .int (nI w), .int (nI fo), .ref pA, .ref sA, .ref mA, .int ch, .int (nI ma), .ref npA, .ref nsA, .ref nmA, .int nc, .int (nI le), .ref lA, .int (nI (T67.length)), .ref dA, .int (nI dn)])), (dA, .inl (cC, 1500, .inl (fun jj => nI (u67 jj)))), (gA, .inl (cI, 96, .inl (fun jj => nI (g jj)))), (tA, .inl (cI, 24, .inl (fun jj => nI (r jj))))] := hD
      have eT : T67 = T ++ zdif g (zsy w r t) p w := by rw [hT67, show k = w by omega, List.append_assoc]; rfl
      rw [eT] at hP hD w67
      have hP : va_P D vwCl [(m0, .inr (6, [.ref gA, .int (nI n), .ref tA, .int (nI w), .int (nI fo), .ref pA, .ref sA, .ref mA, .int ch, .int (nI ma), .ref npA, .ref nsA, .ref nmA, .int nc, .int (nI le), .ref lA, .int (nI ((T ++ zdif g (zsy w r t) p w).length)), .ref dA, .int (nI dn)])), (dA, .inl (cC, 1500, .inl (fun jj => nI (u67 jj)))), (gA, .inl (cI, 96, .inl (fun jj => nI (g jj)))), (tA, .inl (cI, 24, .inl (fun jj => nI (r jj))))] H := hP
      have hD : va_D A [(m0, .inr (6, [.ref gA, .int (nI n), .ref tA, .int (nI w), .int (nI fo), .ref pA, .ref sA, .ref mA, .int ch, .int (nI ma), .ref npA, .ref nsA, .ref nmA, .int nc, .int (nI le), .ref lA, .int (nI ((T ++ zdif g (zsy w r t) p w).length)), .ref dA, .int (nI dn)])), (dA, .inl (cC, 1500, .inl (fun jj => nI (u67 jj)))), (gA, .inl (cI, 96, .inl (fun jj => nI (g jj)))), (tA, .inl (cI, 24, .inl (fun jj => nI (r jj))))] := hD
      exact zVret hC hS u67 w67 hP dX6_putDifferences_70
    · skip
      have l2 := zsy_le (r := r) (t := t) hr3 (show k < w by omega)
      have l4 := hg (p + k)
      refine lv_aload_n hx hb dX6_putDifferences_14 rfl (lv_at hl 0 rfl) ?_
      refine va_get (D := D) (ci := 6) (v := .ref gA) (C := RX6) (T := TX6) (N := 19) hx hb hts (fun w h => List.mem_cons_of_mem _ (inUX6 w h)) hown hK hP 0 rfl rfl 0 (by decide) (hts _ (List.mem_cons_of_mem _ mw_438)) (fun _ h9 => h9) rfl dX6_putDifferences_15 ?_
      refine lv_iload_n hx hb dX6_putDifferences_18 rfl (lv_at hl 1 rfl) ?_
      refine lv_iload hx hb dX6_putDifferences_19 (lv_at hl 4 rfl) ?_
      refine lv_iadd hx hb dX6_putDifferences_21 ?_
      refine zz_top (y := nI (p + k)) (zadd (by omega)) ?_
      refine zz_iald (k := p + k) (f := g) hx hb hK hP 2 0 rfl rfl (by omega) (by omega) dX6_putDifferences_22 ?_
      refine lv_aload_n hx hb dX6_putDifferences_23 rfl (lv_at hl 0 rfl) ?_
      refine lv_iload_n hx hb dX6_putDifferences_24 rfl (lv_at hl 2 rfl) ?_
      refine lv_iload hx hb dX6_putDifferences_25 (lv_at hl 4 rfl) ?_
      refine zCi (is := [0, 3]) (wf := (fun (uu : Unit) => ([(m0, .inr (6, [.ref gA, .int (nI n), .ref tA, .int (nI w), .int (nI fo), .ref pA, .ref sA, .ref mA, .int ch, .int (nI ma), .ref npA, .ref nsA, .ref nmA, .int nc, .int (nI le), .ref lA, .int (nI ((T ++ (zdf g (zsy w r t) p k).2).length)), .ref dA, .int (nI dn)])), (tA, .inl (cI, 24, .inl (fun jj => nI (r jj))))] : va_W))) (va_runV (As := [.int (nI t), .int (nI k)]) (rest := [.int (nI (g (p + k)))]) ⟨hx, hb, hml, hown, hts⟩ (j_symbol l D cI cC  m0 gA n tA w fo pA sA mA ma npA nsA nmA le lA ((T ++ (zdf g (zsy w r t) p k).2).length) dA dn ch nc t k r (by omega) hr3 (by omega) (by omega) H.size) (cwV 2 hts (zgood mw_569 mw_571 mw_11 mw_32 mw_572) rfl rfl rfl (by decide +kernel) ⟨Nat.le_of_ble_eq_true rfl, Nat.le_of_ble_eq_true rfl⟩) ⟨zBlind zE0_ok, va_recv hK hP (ci := 6) (q0 := 0) rfl rfl, zAt (av := [.ref m0, .int (nI t), .int (nI k)]) zE0_ok hP hD hK hS hA trivial [0, 3] rfl (by decide)⟩ rfl rfl hl.1 rfl (lv_room (Nat.le_of_ble_eq_true rfl)) dX6_putDifferences_27 ⟨Nat.zero_le _, Nat.zero_le _⟩) hP hD hS hA rfl (fun _ => rfl) (fun r27 u27 H locs w27 hP hD hS => ?_)
      obtain ⟨rfl, w27⟩ := w27
      have hP : va_P D vwCl [(m0, .inr (6, [.ref gA, .int (nI n), .ref tA, .int (nI w), .int (nI fo), .ref pA, .ref sA, .ref mA, .int ch, .int (nI ma), .ref npA, .ref nsA, .ref nmA, .int nc, .int (nI le), .ref lA, .int (nI ((T ++ (zdf g (zsy w r t) p k).2).length)), .ref dA, .int (nI dn)])), (dA, .inl (cC, 1500, .inl (fun jj => nI (b jj)))), (gA, .inl (cI, 96, .inl (fun jj => nI (g jj)))), (tA, .inl (cI, 24, .inl (fun jj => nI (r jj))))] H := hP
      have hD : va_D A [(m0, .inr (6, [.ref gA, .int (nI n), .ref tA, .int (nI w), .int (nI fo), .ref pA, .ref sA, .ref mA, .int ch, .int (nI ma), .ref npA, .ref nsA, .ref nmA, .int nc, .int (nI le), .ref lA, .int (nI ((T ++ (zdf g (zsy w r t) p k).2).length)), .ref dA, .int (nI dn)])), (dA, .inl (cC, 1500, .inl (fun jj => nI (b jj)))), (gA, .inl (cI, 96, .inl (fun jj => nI (g jj)))), (tA, .inl (cI, 24, .inl (fun jj => nI (r jj))))] := hD
      refine zz_ne (tgt := 39) hx hb dX6_putDifferences_30 (by decide) (by omega) (by omega) (fun c30 => ?_) (fun c30 => ?_)
      · skip
        refine lv_aload_n hx hb dX6_putDifferences_39 rfl (lv_at hl 0 rfl) ?_
        refine lv_iload_n hx hb dX6_putDifferences_40 rfl (lv_at hl 3 rfl) ?_
        refine zCv (is := [0, 1]) (wf := (fun (uu : Nat → Nat) => ([(m0, .inr (6, [.ref gA, .int (nI n), .ref tA, .int (nI w), .int (nI fo), .ref pA, .ref sA, .ref mA, .int ch, .int (nI ma), .ref npA, .ref nsA, .ref nmA, .int nc, .int (nI le), .ref lA, .int (nI (((T ++ (zdf g (zsy w r t) p k).2) ++ (znum ((zdf g (zsy w r t) p k).1))).length)), .ref dA, .int (nI dn)])), (dA, .inl (cC, 1500, .inl (fun jj => nI (uu jj))))] : va_W))) (va_runV (As := [.int (nI ((zdf g (zsy w r t) p k).1))]) (rest := []) ⟨hx, hb, hml, hown, hts⟩ (j_putNumber l D cI cC  m0 gA n tA w fo pA sA mA ma npA nsA nmA le lA dA dn ch nc ((zdf g (zsy w r t) p k).1) (T ++ (zdf g (zsy w r t) p k).2) b (by omega) (by omega) hac H.size) (cwV 1 hts (zgood mw_589 mw_591 mw_16 mw_32 mw_592) rfl rfl rfl (by decide +kernel) ⟨Nat.le_of_ble_eq_true rfl, Nat.le_of_ble_eq_true rfl⟩) ⟨zBlind zE0_ok, va_recv hK hP (ci := 6) (q0 := 0) rfl rfl, zAt (av := [.ref m0, .int (nI ((zdf g (zsy w r t) p k).1))]) zE0_ok hP hD hK hS hA trivial [0, 1] rfl (by decide)⟩ rfl rfl hl.1 rfl (lv_room (Nat.le_of_ble_eq_true rfl)) dX6_putDifferences_41 ⟨Nat.zero_le _, Nat.zero_le _⟩) hP hD hS hA rfl (fun _ => rfl) (fun u41 H locs w41 hP hD hS => ?_)
        have hP : va_P D vwCl [(m0, .inr (6, [.ref gA, .int (nI n), .ref tA, .int (nI w), .int (nI fo), .ref pA, .ref sA, .ref mA, .int ch, .int (nI ma), .ref npA, .ref nsA, .ref nmA, .int nc, .int (nI le), .ref lA, .int (nI (((T ++ (zdf g (zsy w r t) p k).2) ++ (znum ((zdf g (zsy w r t) p k).1))).length)), .ref dA, .int (nI dn)])), (dA, .inl (cC, 1500, .inl (fun jj => nI (u41 jj)))), (gA, .inl (cI, 96, .inl (fun jj => nI (g jj)))), (tA, .inl (cI, 24, .inl (fun jj => nI (r jj))))] H := hP
        have hD : va_D A [(m0, .inr (6, [.ref gA, .int (nI n), .ref tA, .int (nI w), .int (nI fo), .ref pA, .ref sA, .ref mA, .int ch, .int (nI ma), .ref npA, .ref nsA, .ref nmA, .int nc, .int (nI le), .ref lA, .int (nI (((T ++ (zdf g (zsy w r t) p k).2) ++ (znum ((zdf g (zsy w r t) p k).1))).length)), .ref dA, .int (nI dn)])), (dA, .inl (cC, 1500, .inl (fun jj => nI (u41 jj)))), (gA, .inl (cI, 96, .inl (fun jj => nI (g jj)))), (tA, .inl (cI, 24, .inl (fun jj => nI (r jj))))] := hD
        obtain ⟨T41, hT41⟩ : ∃ y9, y9 = (T ++ (zdf g (zsy w r t) p k).2) ++ (znum ((zdf g (zsy w r t) p k).1)) := ⟨_, rfl⟩
        rw [← hT41] at hP hD w41
        have lT41 : T41.length ≤ (T ++ (zdf g (zsy w r t) p k).2).length + 10 := by rw [hT41, List.length_append]; have := znum_len ((zdf g (zsy w r t) p k).1); omega
        have hP : va_P D vwCl [(m0, .inr (6, [.ref gA, .int (nI n), .ref tA, .int (nI w), .int (nI fo), .ref pA, .ref sA, .ref mA, .int ch, .int (nI ma), .ref npA, .ref nsA, .ref nmA, .int nc, .int (nI le), .ref lA, .int (nI (T41.length)), .ref dA, .int (nI dn)])), (dA, .inl (cC, 1500, .inl (fun jj => nI (u41 jj)))), (gA, .inl (cI, 96, .inl (fun jj => nI (g jj)))), (tA, .inl (cI, 24, .inl (fun jj => nI (r jj))))] H := hP
        have hD : va_D A [(m0, .inr (6, [.ref gA, .int (nI n), .ref tA, .int (nI w), .int (nI fo), .ref pA, .ref sA, .ref mA, .int ch, .int (nI ma), .ref npA, .ref nsA, .ref nmA, .int nc, .int (nI le), .ref lA, .int (nI (T41.length)), .ref dA, .int (nI dn)])), (dA, .inl (cC, 1500, .inl (fun jj => nI (u41 jj)))), (gA, .inl (cI, 96, .inl (fun jj => nI (g jj)))), (tA, .inl (cI, 24, .inl (fun jj => nI (r jj))))] := hD
        refine lv_aload_n hx hb dX6_putDifferences_44 rfl (lv_at hl 0 rfl) ?_
        refine lv_aload_n hx hb dX6_putDifferences_45 rfl (lv_at hl 0 rfl) ?_
        refine va_get (D := D) (ci := 6) (v := .ref gA) (C := RX6) (T := TX6) (N := 19) hx hb hts (fun w h => List.mem_cons_of_mem _ (inUX6 w h)) hown hK hP 0 rfl rfl 0 (by decide) (hts _ (List.mem_cons_of_mem _ mw_438)) (fun _ h9 => h9) rfl dX6_putDifferences_46 ?_
        refine lv_iload_n hx hb dX6_putDifferences_49 rfl (lv_at hl 1 rfl) ?_
        refine lv_iload hx hb dX6_putDifferences_50 (lv_at hl 4 rfl) ?_
        refine lv_iadd hx hb dX6_putDifferences_52 ?_
        refine zz_top (y := nI (p + k)) (zadd (by omega)) ?_
        refine zz_iald (k := p + k) (f := g) hx hb hK hP 2 0 rfl rfl (by omega) (by omega) dX6_putDifferences_53 ?_
        refine zCv (is := [0, 1]) (wf := (fun (uu : Nat → Nat) => ([(m0, .inr (6, [.ref gA, .int (nI n), .ref tA, .int (nI w), .int (nI fo), .ref pA, .ref sA, .ref mA, .int ch, .int (nI ma), .ref npA, .ref nsA, .ref nmA, .int nc, .int (nI le), .ref lA, .int (nI ((T41 ++ ([zlet (g (p + k))])).length)), .ref dA, .int (nI dn)])), (dA, .inl (cC, 1500, .inl (fun jj => nI (uu jj))))] : va_W))) (va_runV (As := [.int (nI (g (p + k)))]) (rest := []) ⟨hx, hb, hml, hown, hts⟩ (j_putBase l D cI cC  m0 gA n tA w fo pA sA mA ma npA nsA nmA le lA dA dn ch nc (g (p + k)) T41 u41 (by omega) (by omega) w41 H.size) (cwV 1 hts (zgood mw_609 mw_611 mw_21 mw_32 mw_612) rfl rfl rfl (by decide +kernel) ⟨Nat.le_of_ble_eq_true rfl, Nat.le_of_ble_eq_true rfl⟩) ⟨zBlind zE0_ok, va_recv hK hP (ci := 6) (q0 := 0) rfl rfl, zAt (av := [.ref m0, .int (nI (g (p + k)))]) zE0_ok hP hD hK hS hA trivial [0, 1] rfl (by decide)⟩ rfl rfl hl.1 rfl (lv_room (Nat.le_of_ble_eq_true rfl)) dX6_putDifferences_54 ⟨Nat.zero_le _, Nat.zero_le _⟩) hP hD hS hA rfl (fun _ => rfl) (fun u54 H locs w54 hP hD hS => ?_)
        have hP : va_P D vwCl [(m0, .inr (6, [.ref gA, .int (nI n), .ref tA, .int (nI w), .int (nI fo), .ref pA, .ref sA, .ref mA, .int ch, .int (nI ma), .ref npA, .ref nsA, .ref nmA, .int nc, .int (nI le), .ref lA, .int (nI ((T41 ++ ([zlet (g (p + k))])).length)), .ref dA, .int (nI dn)])), (dA, .inl (cC, 1500, .inl (fun jj => nI (u54 jj)))), (gA, .inl (cI, 96, .inl (fun jj => nI (g jj)))), (tA, .inl (cI, 24, .inl (fun jj => nI (r jj))))] H := hP
        have hD : va_D A [(m0, .inr (6, [.ref gA, .int (nI n), .ref tA, .int (nI w), .int (nI fo), .ref pA, .ref sA, .ref mA, .int ch, .int (nI ma), .ref npA, .ref nsA, .ref nmA, .int nc, .int (nI le), .ref lA, .int (nI ((T41 ++ ([zlet (g (p + k))])).length)), .ref dA, .int (nI dn)])), (dA, .inl (cC, 1500, .inl (fun jj => nI (u54 jj)))), (gA, .inl (cI, 96, .inl (fun jj => nI (g jj)))), (tA, .inl (cI, 24, .inl (fun jj => nI (r jj))))] := hD
        obtain ⟨T54, hT54⟩ : ∃ y9, y9 = T41 ++ ([zlet (g (p + k))]) := ⟨_, rfl⟩
        rw [← hT54] at hP hD w54
        have lT54 : T54.length ≤ T41.length + 1 := by rw [hT54, List.length_append]; simp
        have hP : va_P D vwCl [(m0, .inr (6, [.ref gA, .int (nI n), .ref tA, .int (nI w), .int (nI fo), .ref pA, .ref sA, .ref mA, .int ch, .int (nI ma), .ref npA, .ref nsA, .ref nmA, .int nc, .int (nI le), .ref lA, .int (nI (T54.length)), .ref dA, .int (nI dn)])), (dA, .inl (cC, 1500, .inl (fun jj => nI (u54 jj)))), (gA, .inl (cI, 96, .inl (fun jj => nI (g jj)))), (tA, .inl (cI, 24, .inl (fun jj => nI (r jj))))] H := hP
        have hD : va_D A [(m0, .inr (6, [.ref gA, .int (nI n), .ref tA, .int (nI w), .int (nI fo), .ref pA, .ref sA, .ref mA, .int ch, .int (nI ma), .ref npA, .ref nsA, .ref nmA, .int nc, .int (nI le), .ref lA, .int (nI (T54.length)), .ref dA, .int (nI dn)])), (dA, .inl (cC, 1500, .inl (fun jj => nI (u54 jj)))), (gA, .inl (cI, 96, .inl (fun jj => nI (g jj)))), (tA, .inl (cI, 24, .inl (fun jj => nI (r jj))))] := hD
        refine lv_iconst (v := nI 0) hx hb dX6_putDifferences_57 (by decide) ?_
        refine lv_istore_n (lv' := [(3, .int (nI 0)), (0, .ref m0), (1, .int (nI p)), (2, .int (nI t)), (4, .int (nI k))]) hx hb dX6_putDifferences_58 rfl hl (by decide) rfl (fun ls hl => ?_)
        refine lv_iinc (v := nI (k + 1)) (lv' := [(4, .int (nI (k + 1))), (3, .int (nI 0)), (0, .ref m0), (1, .int (nI p)), (2, .int (nI t))]) hx hb dX6_putDifferences_59 hl (k := 4) rfl (zincE (by omega)) (by decide) rfl (fun ls hl => ?_)
        refine lv_goto (tgt := 5) hx hb dX6_putDifferences_62 (by decide) ?_
        have eT : T54 = T ++ (zdf g (zsy w r t) p (k + 1)).2 := by rw [hT54, hT41, zdf_f c30]; simp
        rw [eT] at hP hD w54
        have hP : va_P D vwCl [(m0, .inr (6, [.ref gA, .int (nI n), .ref tA, .int (nI w), .int (nI fo), .ref pA, .ref sA, .ref mA, .int ch, .int (nI ma), .ref npA, .ref nsA, .ref nmA, .int nc, .int (nI le), .ref lA, .int (nI ((T ++ (zdf g (zsy w r t) p (k + 1)).2).length)), .ref dA, .int (nI dn)])), (dA, .inl (cC, 1500, .inl (fun jj => nI (u54 jj)))), (gA, .inl (cI, 96, .inl (fun jj => nI (g jj)))), (tA, .inl (cI, 24, .inl (fun jj => nI (r jj))))] H := hP
        have hD : va_D A [(m0, .inr (6, [.ref gA, .int (nI n), .ref tA, .int (nI w), .int (nI fo), .ref pA, .ref sA, .ref mA, .int ch, .int (nI ma), .ref npA, .ref nsA, .ref nmA, .int nc, .int (nI le), .ref lA, .int (nI ((T ++ (zdf g (zsy w r t) p (k + 1)).2).length)), .ref dA, .int (nI dn)])), (dA, .inl (cC, 1500, .inl (fun jj => nI (u54 jj)))), (gA, .inl (cI, 96, .inl (fun jj => nI (g jj)))), (tA, .inl (cI, 24, .inl (fun jj => nI (r jj))))] := hD
        have hl : lv_has ls 5 [(4, .int (nI (k + 1))), (3, .int (nI ((zdf g (zsy w r t) p (k + 1)).1))), (0, .ref m0), (1, .int (nI p)), (2, .int (nI t))] := by rw [zdf_f c30]; exact hl
        exact ih (k + 1) u54 (by omega) (by omega) w54 _ _ hP hD hS ls (lv_sub hl [2, 3, 4, 1, 0] rfl)
      · skip
        refine lv_iinc (v := nI ((zdf g (zsy w r t) p k).1 + 1)) (lv' := [(3, .int (nI ((zdf g (zsy w r t) p k).1 + 1))), (0, .ref m0), (1, .int (nI p)), (2, .int (nI t)), (4, .int (nI k))]) hx hb dX6_putDifferences_33 hl (k := 3) rfl (zincE (by omega)) (by decide) rfl (fun ls hl => ?_)
        refine lv_goto (tgt := 59) hx hb dX6_putDifferences_36 (by decide) ?_
        refine lv_iinc (v := nI (k + 1)) (lv' := [(4, .int (nI (k + 1))), (3, .int (nI ((zdf g (zsy w r t) p k).1 + 1))), (0, .ref m0), (1, .int (nI p)), (2, .int (nI t))]) hx hb dX6_putDifferences_59 hl (k := 4) rfl (zincE (by omega)) (by decide) rfl (fun ls hl => ?_)
        refine lv_goto (tgt := 5) hx hb dX6_putDifferences_62 (by decide) ?_
        have hP : va_P D vwCl [(m0, .inr (6, [.ref gA, .int (nI n), .ref tA, .int (nI w), .int (nI fo), .ref pA, .ref sA, .ref mA, .int ch, .int (nI ma), .ref npA, .ref nsA, .ref nmA, .int nc, .int (nI le), .ref lA, .int (nI ((T ++ (zdf g (zsy w r t) p (k + 1)).2).length)), .ref dA, .int (nI dn)])), (dA, .inl (cC, 1500, .inl (fun jj => nI (b jj)))), (gA, .inl (cI, 96, .inl (fun jj => nI (g jj)))), (tA, .inl (cI, 24, .inl (fun jj => nI (r jj))))] H := by rw [zdf_t c30]; exact hP
        have hD : va_D A [(m0, .inr (6, [.ref gA, .int (nI n), .ref tA, .int (nI w), .int (nI fo), .ref pA, .ref sA, .ref mA, .int ch, .int (nI ma), .ref npA, .ref nsA, .ref nmA, .int nc, .int (nI le), .ref lA, .int (nI ((T ++ (zdf g (zsy w r t) p (k + 1)).2).length)), .ref dA, .int (nI dn)])), (dA, .inl (cC, 1500, .inl (fun jj => nI (b jj)))), (gA, .inl (cI, 96, .inl (fun jj => nI (g jj)))), (tA, .inl (cI, 24, .inl (fun jj => nI (r jj))))] := by rw [zdf_t c30]; exact hD
        have hl : lv_has ls 5 [(4, .int (nI (k + 1))), (3, .int (nI ((zdf g (zsy w r t) p (k + 1)).1))), (0, .ref m0), (1, .int (nI p)), (2, .int (nI t))] := by rw [zdf_t c30]; exact hl
        exact ih (k + 1) b (by omega) (by omega) (by rw [zdf_t c30]; exact hac) _ _ hP hD hS ls (lv_sub hl [2, 3, 4, 1, 0] rfl)
set_option maxHeartbeats 4000000 in
set_option maxRecDepth 100000 in
theorem j_putDifferences (l : Launch) (D : va_G) (cI cC : ClassId)  (m0 gA n tA w fo pA sA mA ma npA nsA nmA le lA dA dn : Nat) (ch nc : Int32) (p t : Nat) (g : Nat → Nat) (r : Nat → Nat) (T : List Nat) (a : Nat → Nat) (hn : n ≤ 96) (hg : ∀ i, g i ≤ 4) (hw : w ≤ 24) (hr3 : ∀ i, i < w → r i ≤ 3) (hp : p + w ≤ n) (ht : t ≤ 1) (hT : T.length + 300 ≤ 2000000) (ha : zAG a T) (sz : Nat) : Met l yX6_putDifferences wsX6_putDifferences ({ frames := 2, cells := 0, slots := 0, locals := 43 } : Room) (zPre zE0 D vwCl [(cI, .int), (cC, .char)] [.ref m0, .int (nI p), .int (nI t)] [(m0, .inr (6, [.ref gA, .int (nI n), .ref tA, .int (nI w), .int (nI fo), .ref pA, .ref sA, .ref mA, .int ch, .int (nI ma), .ref npA, .ref nsA, .ref nmA, .int nc, .int (nI le), .ref lA, .int (nI (T.length)), .ref dA, .int (nI dn)])), (dA, .inl (cC, 1500, .inl (fun jj => nI (a jj)))), (gA, .inl (cI, 96, .inl (fun jj => nI (g jj)))), (tA, .inl (cI, 24, .inl (fun jj => nI (r jj))))] sz) (va_Qv (fun (uu : Nat → Nat) => zAG uu (T ++ (zdif g (zsy w r t) p w))) (fun (uu : Nat → Nat) t9 => va_P D vwCl ([(m0, .inr (6, [.ref gA, .int (nI n), .ref tA, .int (nI w), .int (nI fo), .ref pA, .ref sA, .ref mA, .int ch, .int (nI ma), .ref npA, .ref nsA, .ref nmA, .int nc, .int (nI le), .ref lA, .int (nI ((T ++ (zdif g (zsy w r t) p w)).length)), .ref dA, .int (nI dn)])), (dA, .inl (cC, 1500, .inl (fun jj => nI (uu jj)))), (gA, .inl (cI, 96, .inl (fun jj => nI (g jj)))), (tA, .inl (cI, 24, .inl (fun jj => nI (r jj))))]) t9.heap) (va_A [(m0, .inr (6, [.ref gA, .int (nI n), .ref tA, .int (nI w), .int (nI fo), .ref pA, .ref sA, .ref mA, .int ch, .int (nI ma), .ref npA, .ref nsA, .ref nmA, .int nc, .int (nI le), .ref lA, .int (nI (T.length)), .ref dA, .int (nI dn)])), (dA, .inl (cC, 1500, .inl (fun jj => nI (a jj)))), (gA, .inl (cI, 96, .inl (fun jj => nI (g jj)))), (tA, .inl (cI, 24, .inl (fun jj => nI (r jj))))] sz)) 0 0 (va_A [(m0, .inr (6, [.ref gA, .int (nI n), .ref tA, .int (nI w), .int (nI fo), .ref pA, .ref sA, .ref mA, .int ch, .int (nI ma), .ref npA, .ref nsA, .ref nmA, .int nc, .int (nI le), .ref lA, .int (nI (T.length)), .ref dA, .int (nI dn)])), (dA, .inl (cC, 1500, .inl (fun jj => nI (a jj)))), (gA, .inl (cI, 96, .inl (fun jj => nI (g jj)))), (tA, .inl (cI, 24, .inl (fun jj => nI (r jj))))] sz) := by
  refine zMet (cc := cX6_putDifferences) (maxL := 5) (ret := none) (Qc := fun A => (va_Qv (fun (uu : Nat → Nat) => zAG uu (T ++ (zdif g (zsy w r t) p w))) (fun (uu : Nat → Nat) t9 => va_P D vwCl ([(m0, .inr (6, [.ref gA, .int (nI n), .ref tA, .int (nI w), .int (nI fo), .ref pA, .ref sA, .ref mA, .int ch, .int (nI ma), .ref npA, .ref nsA, .ref nmA, .int nc, .int (nI le), .ref lA, .int (nI ((T ++ (zdif g (zsy w r t) p w)).length)), .ref dA, .int (nI dn)])), (dA, .inl (cC, 1500, .inl (fun jj => nI (uu jj)))), (gA, .inl (cI, 96, .inl (fun jj => nI (g jj)))), (tA, .inl (cI, 24, .inl (fun jj => nI (r jj))))]) t9.heap) A)) (by decide) rfl (Nat.le_of_ble_eq_true rfl) ?_
  intro pr en s0 mi bl me co A hC hA hK hE H locs hP hD hS ls hl
  obtain ⟨hx, hb, hr, hml, hown, hts, hlocks, hin⟩ := id hC
  have hl : lv_has ls 5 [(0, .ref m0), (1, .int (nI p)), (2, .int (nI t))] := hl
  refine lv_iconst (v := nI 0) hx hb dX6_putDifferences_0 (by decide) ?_
  refine lv_istore_n (lv' := [(3, .int (nI 0)), (0, .ref m0), (1, .int (nI p)), (2, .int (nI t))]) hx hb dX6_putDifferences_1 rfl hl (by decide) rfl (fun ls hl => ?_)
  refine lv_iconst (v := nI 0) hx hb dX6_putDifferences_2 (by decide) ?_
  refine lv_istore (lv' := [(4, .int (nI 0)), (3, .int (nI 0)), (0, .ref m0), (1, .int (nI p)), (2, .int (nI t))]) hx hb dX6_putDifferences_3 hl (by decide) rfl (fun ls hl => ?_)
  have hP : va_P D vwCl [(m0, .inr (6, [.ref gA, .int (nI n), .ref tA, .int (nI w), .int (nI fo), .ref pA, .ref sA, .ref mA, .int ch, .int (nI ma), .ref npA, .ref nsA, .ref nmA, .int nc, .int (nI le), .ref lA, .int (nI ((T ++ (zdf g (zsy w r t) p 0).2).length)), .ref dA, .int (nI dn)])), (dA, .inl (cC, 1500, .inl (fun jj => nI (a jj)))), (gA, .inl (cI, 96, .inl (fun jj => nI (g jj)))), (tA, .inl (cI, 24, .inl (fun jj => nI (r jj))))] H := by rw [show (zdf g (zsy w r t) p 0).2 = [] from rfl, List.append_nil]; exact hP
  have hD : va_D A [(m0, .inr (6, [.ref gA, .int (nI n), .ref tA, .int (nI w), .int (nI fo), .ref pA, .ref sA, .ref mA, .int ch, .int (nI ma), .ref npA, .ref nsA, .ref nmA, .int nc, .int (nI le), .ref lA, .int (nI ((T ++ (zdf g (zsy w r t) p 0).2).length)), .ref dA, .int (nI dn)])), (dA, .inl (cC, 1500, .inl (fun jj => nI (a jj)))), (gA, .inl (cI, 96, .inl (fun jj => nI (g jj)))), (tA, .inl (cI, 24, .inl (fun jj => nI (r jj))))] := by rw [show (zdf g (zsy w r t) p 0).2 = [] from rfl, List.append_nil]; exact hD
  have hl : lv_has ls 5 [(4, .int (nI 0)), (3, .int (nI ((zdf g (zsy w r t) p 0).1))), (0, .ref m0), (1, .int (nI p)), (2, .int (nI t))] := by skip; exact hl
  exact j_putDifferences_L5 l D cI cC  m0 gA n tA w fo pA sA mA ma npA nsA nmA le lA dA dn ch nc p t g r T a hn hg hw hr3 hp ht hT ha hC hA hK hE _ 0 a (Nat.lt_succ_self _) (Nat.zero_le _) (by rw [show (zdf g (zsy w r t) p 0).2 = [] from rfl, List.append_nil]; exact ha) _ _ hP hD hS ls (lv_sub hl [2, 3, 4, 1, 0] rfl)
end
section
set_option maxHeartbeats 4000000 in
set_option maxRecDepth 100000 in
theorem j_quality_L14 {pr : Program} {en : Env} {s0 : State} {mi : MethodId} {bl : List Frame} {me : Method} {co : Code} {A : Nat → Prop} (l : Launch) (D : va_G) (cI cC : ClassId)  (m0 gA n tA w fo pA sA mA npA nsA nmA le lA dr dA dn : Nat) (ch : Int32) (i : Nat) (LL : List (Nat × Nat × Nat)) (ml : Nat → Nat) (hL : LL.length ≤ 192) (hi : i < LL.length) (hok : ∀ j, j < LL.length → zmF LL j ≤ 24) (hm : zAH ml LL (fun x => x.2.2)) (hC : zK pr s0 mi ([.ref m0, .int (nI i)] : List Value).toArray me co cX6_quality 4 (some .int) yX6_quality wsX6_quality) (hA : ∀ q, s0.heap.size ≤ q → A q) (hK : va_K D vwCl [(cI, .int), (cC, .char)] s0) (hE : zE0 A s0 s0.heap) :
    ∀ (N : Nat) (k x : Nat), LL.length - k < N → (k ≤ LL.length) → (i = zpri (zmF LL) LL.length) → (x = zcnt (fun j => decide (zmF LL j = zmF LL i)) k) → ∀ (H : Heap) (locs : List Loc), va_P D vwCl [(m0, .inr (6, [.ref gA, .int (nI n), .ref tA, .int (nI w), .int (nI fo), .ref pA, .ref sA, .ref mA, .int ch, .int (nI (LL.length)), .ref npA, .ref nsA, .ref nmA, .int (zprI LL), .int (nI le), .ref lA, .int (nI dr), .ref dA, .int (nI dn)])), (nmA, .inl (cI, 192, .inl (fun jj => nI (ml jj))))] H → va_D A [(m0, .inr (6, [.ref gA, .int (nI n), .ref tA, .int (nI w), .int (nI fo), .ref pA, .ref sA, .ref mA, .int ch, .int (nI (LL.length)), .ref npA, .ref nsA, .ref nmA, .int (zprI LL), .int (nI le), .ref lA, .int (nI dr), .ref dA, .int (nI dn)])), (nmA, .inl (cI, 192, .inl (fun jj => nI (ml jj))))] → va_S A s0.heap H locs → ∀ ls : Array Slot, lv_has ls 4 [(0, .ref m0), (1, .int (nI i)), (2, .int (nI x)), (3, .int (nI k))] → W pr l en ({ frames := 0, cells := 0, slots := 0, locals := 0 } : Room) s0 mi ([.ref m0, .int (nI i)] : List Value).toArray bl me co H locs 0 0 (MQ bl (va_Qi (fun (rv : Int32) (uu : Unit) => rv = nI (zqu (zmF LL) LL.length i) ∧ True) (fun (uu : Unit) t9 => va_P D vwCl ([(m0, .inr (6, [.ref gA, .int (nI n), .ref tA, .int (nI w), .int (nI fo), .ref pA, .ref sA, .ref mA, .int ch, .int (nI (LL.length)), .ref npA, .ref nsA, .ref nmA, .int (zprI LL), .int (nI le), .ref lA, .int (nI dr), .ref dA, .int (nI dn)])), (nmA, .inl (cI, 192, .inl (fun jj => nI (ml jj))))]) t9.heap) A) ([.ref m0, .int (nI i)] : List Value).toArray s0 0 0 A) (F0 mi 14 ls []) := by
  obtain ⟨hx, hb, hr, hml, hown, hts, hlocks, hin⟩ := id hC
  intro N
  induction N with
  | zero =>
    intro k x hmea
    omega
  | succ N ih =>
    intro k x hmea hk hpr hx1 H locs hP hD hS ls hl
    refine lv_iload_n hx hb dX6_quality_14 rfl (lv_at hl 3 rfl) ?_
    refine lv_aload_n hx hb dX6_quality_15 rfl (lv_at hl 0 rfl) ?_
    refine va_get (D := D) (ci := 6) (v := .int (nI (LL.length))) (C := RX6) (T := TX6) (N := 19) hx hb hts (fun w h => List.mem_cons_of_mem _ (inUX6 w h)) hown hK hP 0 rfl rfl 9 (by decide) (hts _ (List.mem_cons_of_mem _ mw_447)) (fun _ h9 => h9) rfl dX6_quality_16 ?_
    refine zz_ge (tgt := 51) hx hb dX6_quality_19 (by decide) (by omega) (by omega) (fun c19 => ?_) (fun c19 => ?_)
    · skip
      have hx2 : x = zag (zmF LL) LL.length + 1 := by rw [hx1, show k = LL.length by omega, hpr]; exact zag_cnt (zmF LL) LL.length (by omega)
      have hx3 := zcnt_le (fun j => decide (zmF LL j = zmF LL i)) k
      refine lv_aload_n hx hb dX6_quality_51 rfl (lv_at hl 0 rfl) ?_
      refine va_get (D := D) (ci := 6) (v := .int (nI (LL.length))) (C := RX6) (T := TX6) (N := 19) hx hb hts (fun w h => List.mem_cons_of_mem _ (inUX6 w h)) hown hK hP 0 rfl rfl 9 (by decide) (hts _ (List.mem_cons_of_mem _ mw_447)) (fun _ h9 => h9) rfl dX6_quality_52 ?_
      refine lv_iconst (v := nI 1) hx hb dX6_quality_55 (by decide) ?_
      refine zz_ne (tgt := 64) hx hb dX6_quality_56 (by decide) (by omega) (by omega) (fun c56 => ?_) (fun c56 => ?_)
      · skip
        refine lv_iload_n hx hb dX6_quality_64 rfl (lv_at hl 2 rfl) ?_
        refine lv_iconst (v := nI 1) hx hb dX6_quality_65 (by decide) ?_
        refine zz_ne (tgt := 74) hx hb dX6_quality_66 (by decide) (by omega) (by omega) (fun c66 => ?_) (fun c66 => ?_)
        · skip
          refine lv_iload_n hx hb dX6_quality_74 rfl (lv_at hl 2 rfl) ?_
          refine lv_iconst (v := nI 2) hx hb dX6_quality_75 (by decide) ?_
          refine zz_ne (tgt := 83) hx hb dX6_quality_76 (by decide) (by omega) (by omega) (fun c76 => ?_) (fun c76 => ?_)
          · skip
            refine lv_iconst (v := nI 0) hx hb dX6_quality_83 (by decide) ?_
            exact zIret hC hS () ⟨congrArg nI (by unfold zqu; rw [if_pos hpr]; first | rw [if_pos c56] | rw [if_neg c56, if_pos (by omega)] | rw [if_neg c56, if_neg (by omega), if_pos (by omega)] | rw [if_neg c56, if_neg (by omega), if_neg (by omega)]), trivial⟩ hP (vp_nar_int _) dX6_quality_84
          · skip
            refine lv_iconst (v := nI 3) hx hb dX6_quality_79 (by decide) ?_
            refine lv_goto (tgt := 84) hx hb dX6_quality_80 (by decide) ?_
            exact zIret hC hS () ⟨congrArg nI (by unfold zqu; rw [if_pos hpr]; first | rw [if_pos c56] | rw [if_neg c56, if_pos (by omega)] | rw [if_neg c56, if_neg (by omega), if_pos (by omega)] | rw [if_neg c56, if_neg (by omega), if_neg (by omega)]), trivial⟩ hP (vp_nar_int _) dX6_quality_84
        · skip
          refine lv_bipush (v := nI 40) hx hb dX6_quality_69 (by decide) ?_
          refine lv_goto (tgt := 84) hx hb dX6_quality_71 (by decide) ?_
          exact zIret hC hS () ⟨congrArg nI (by unfold zqu; rw [if_pos hpr]; first | rw [if_pos c56] | rw [if_neg c56, if_pos (by omega)] | rw [if_neg c56, if_neg (by omega), if_pos (by omega)] | rw [if_neg c56, if_neg (by omega), if_neg (by omega)]), trivial⟩ hP (vp_nar_int _) dX6_quality_84
      · skip
        refine lv_bipush (v := nI 60) hx hb dX6_quality_59 (by decide) ?_
        refine lv_goto (tgt := 84) hx hb dX6_quality_61 (by decide) ?_
        exact zIret hC hS () ⟨congrArg nI (by unfold zqu; rw [if_pos hpr]; first | rw [if_pos c56] | rw [if_neg c56, if_pos (by omega)] | rw [if_neg c56, if_neg (by omega), if_pos (by omega)] | rw [if_neg c56, if_neg (by omega), if_neg (by omega)]), trivial⟩ hP (vp_nar_int _) dX6_quality_84
    · skip
      have e1 : ml k = zmF LL k := hm k (by omega)
      have e2 : ml i = zmF LL i := hm i hi
      have b1 := hok k (by omega)
      have b2 := hok i hi
      refine lv_aload_n hx hb dX6_quality_22 rfl (lv_at hl 0 rfl) ?_
      refine va_get (D := D) (ci := 6) (v := .ref nmA) (C := RX6) (T := TX6) (N := 19) hx hb hts (fun w h => List.mem_cons_of_mem _ (inUX6 w h)) hown hK hP 0 rfl rfl 12 (by decide) (hts _ (List.mem_cons_of_mem _ mw_450)) (fun _ h9 => h9) rfl dX6_quality_23 ?_
      refine lv_iload_n hx hb dX6_quality_26 rfl (lv_at hl 3 rfl) ?_
      refine zz_iald (k := k) (f := ml) hx hb hK hP 1 0 rfl rfl (by omega) (by omega) dX6_quality_27 ?_
      refine lv_aload_n hx hb dX6_quality_28 rfl (lv_at hl 0 rfl) ?_
      refine va_get (D := D) (ci := 6) (v := .ref nmA) (C := RX6) (T := TX6) (N := 19) hx hb hts (fun w h => List.mem_cons_of_mem _ (inUX6 w h)) hown hK hP 0 rfl rfl 12 (by decide) (hts _ (List.mem_cons_of_mem _ mw_450)) (fun _ h9 => h9) rfl dX6_quality_29 ?_
      refine lv_iload_n hx hb dX6_quality_32 rfl (lv_at hl 1 rfl) ?_
      refine zz_iald (k := i) (f := ml) hx hb hK hP 1 0 rfl rfl (by omega) (by omega) dX6_quality_33 ?_
      refine zz_ne (tgt := 43) hx hb dX6_quality_34 (by decide) (by omega) (by omega) (fun c34 => ?_) (fun c34 => ?_)
      · skip
        refine lv_iload_n hx hb dX6_quality_43 rfl (lv_at hl 2 rfl) ?_
        refine lv_istore_n (lv' := [(2, .int (nI x)), (0, .ref m0), (1, .int (nI i)), (3, .int (nI k))]) hx hb dX6_quality_44 rfl hl (by decide) rfl (fun ls hl => ?_)
        refine lv_iinc (v := nI (k + 1)) (lv' := [(3, .int (nI (k + 1))), (2, .int (nI x)), (0, .ref m0), (1, .int (nI i))]) hx hb dX6_quality_45 hl (k := 3) rfl (zincE (by omega)) (by decide) rfl (fun ls hl => ?_)
        refine lv_goto (tgt := 14) hx hb dX6_quality_48 (by decide) ?_
        exact ih (k + 1) x (by omega) (by omega) hpr (by rw [zcnt_f (by simp only [decide_eq_true_eq]; rw [← e1, ← e2]; exact c34)]; omega) _ _ hP hD hS ls (lv_sub hl [2, 3, 1, 0] rfl)
      · skip
        refine lv_iload_n hx hb dX6_quality_37 rfl (lv_at hl 2 rfl) ?_
        refine lv_iconst (v := nI 1) hx hb dX6_quality_38 (by decide) ?_
        refine lv_iadd hx hb dX6_quality_39 ?_
        refine zz_top (y := nI (x + 1)) (zadd (by omega)) ?_
        refine lv_goto (tgt := 44) hx hb dX6_quality_40 (by decide) ?_
        refine lv_istore_n (lv' := [(2, .int (nI (x + 1))), (0, .ref m0), (1, .int (nI i)), (3, .int (nI k))]) hx hb dX6_quality_44 rfl hl (by decide) rfl (fun ls hl => ?_)
        refine lv_iinc (v := nI (k + 1)) (lv' := [(3, .int (nI (k + 1))), (2, .int (nI (x + 1))), (0, .ref m0), (1, .int (nI i))]) hx hb dX6_quality_45 hl (k := 3) rfl (zincE (by omega)) (by decide) rfl (fun ls hl => ?_)
        refine lv_goto (tgt := 14) hx hb dX6_quality_48 (by decide) ?_
        exact ih (k + 1) (x + 1) (by omega) (by omega) hpr (by rw [zcnt_t (by simp only [decide_eq_true_eq]; rw [← e1, ← e2]; exact c34)]; omega) _ _ hP hD hS ls (lv_sub hl [2, 3, 1, 0] rfl)
set_option maxHeartbeats 4000000 in
set_option maxRecDepth 100000 in
theorem j_quality (l : Launch) (D : va_G) (cI cC : ClassId)  (m0 gA n tA w fo pA sA mA npA nsA nmA le lA dr dA dn : Nat) (ch : Int32) (i : Nat) (LL : List (Nat × Nat × Nat)) (ml : Nat → Nat) (hL : LL.length ≤ 192) (hi : i < LL.length) (hok : ∀ j, j < LL.length → zmF LL j ≤ 24) (hm : zAH ml LL (fun x => x.2.2)) (sz : Nat) : Met l yX6_quality wsX6_quality ({ frames := 0, cells := 0, slots := 0, locals := 0 } : Room) (zPre zE0 D vwCl [(cI, .int), (cC, .char)] [.ref m0, .int (nI i)] [(m0, .inr (6, [.ref gA, .int (nI n), .ref tA, .int (nI w), .int (nI fo), .ref pA, .ref sA, .ref mA, .int ch, .int (nI (LL.length)), .ref npA, .ref nsA, .ref nmA, .int (zprI LL), .int (nI le), .ref lA, .int (nI dr), .ref dA, .int (nI dn)])), (nmA, .inl (cI, 192, .inl (fun jj => nI (ml jj))))] sz) (va_Qi (fun (rv : Int32) (uu : Unit) => rv = nI (zqu (zmF LL) LL.length i) ∧ True) (fun (uu : Unit) t9 => va_P D vwCl ([(m0, .inr (6, [.ref gA, .int (nI n), .ref tA, .int (nI w), .int (nI fo), .ref pA, .ref sA, .ref mA, .int ch, .int (nI (LL.length)), .ref npA, .ref nsA, .ref nmA, .int (zprI LL), .int (nI le), .ref lA, .int (nI dr), .ref dA, .int (nI dn)])), (nmA, .inl (cI, 192, .inl (fun jj => nI (ml jj))))]) t9.heap) (va_A [(m0, .inr (6, [.ref gA, .int (nI n), .ref tA, .int (nI w), .int (nI fo), .ref pA, .ref sA, .ref mA, .int ch, .int (nI (LL.length)), .ref npA, .ref nsA, .ref nmA, .int (zprI LL), .int (nI le), .ref lA, .int (nI dr), .ref dA, .int (nI dn)])), (nmA, .inl (cI, 192, .inl (fun jj => nI (ml jj))))] sz)) 0 0 (va_A [(m0, .inr (6, [.ref gA, .int (nI n), .ref tA, .int (nI w), .int (nI fo), .ref pA, .ref sA, .ref mA, .int ch, .int (nI (LL.length)), .ref npA, .ref nsA, .ref nmA, .int (zprI LL), .int (nI le), .ref lA, .int (nI dr), .ref dA, .int (nI dn)])), (nmA, .inl (cI, 192, .inl (fun jj => nI (ml jj))))] sz) := by
  refine zMet (cc := cX6_quality) (maxL := 4) (ret := (some .int)) (Qc := fun A => (va_Qi (fun (rv : Int32) (uu : Unit) => rv = nI (zqu (zmF LL) LL.length i) ∧ True) (fun (uu : Unit) t9 => va_P D vwCl ([(m0, .inr (6, [.ref gA, .int (nI n), .ref tA, .int (nI w), .int (nI fo), .ref pA, .ref sA, .ref mA, .int ch, .int (nI (LL.length)), .ref npA, .ref nsA, .ref nmA, .int (zprI LL), .int (nI le), .ref lA, .int (nI dr), .ref dA, .int (nI dn)])), (nmA, .inl (cI, 192, .inl (fun jj => nI (ml jj))))]) t9.heap) A)) (by decide) rfl (Nat.le_of_ble_eq_true rfl) ?_
  intro pr en s0 mi bl me co A hC hA hK hE H locs hP hD hS ls hl
  obtain ⟨hx, hb, hr, hml, hown, hts, hlocks, hin⟩ := id hC
  have hl : lv_has ls 4 [(0, .ref m0), (1, .int (nI i))] := hl
  refine lv_iload_n hx hb dX6_quality_0 rfl (lv_at hl 1 rfl) ?_
  refine lv_aload_n hx hb dX6_quality_1 rfl (lv_at hl 0 rfl) ?_
  refine va_get (D := D) (ci := 6) (v := .int (zprI LL)) (C := RX6) (T := TX6) (N := 19) hx hb hts (fun w h => List.mem_cons_of_mem _ (inUX6 w h)) hown hK hP 0 rfl rfl 13 (by decide) (hts _ (List.mem_cons_of_mem _ mw_451)) (fun _ h9 => h9) rfl dX6_quality_2 ?_
  refine lv_icmp_eq (tgt := 10) hx hb dX6_quality_5 (by decide) (fun c5 => ?_) (fun c5 => ?_)
  · skip
    refine lv_iconst (v := nI 0) hx hb dX6_quality_10 (by decide) ?_
    refine lv_istore_n (lv' := [(2, .int (nI 0)), (0, .ref m0), (1, .int (nI i))]) hx hb dX6_quality_11 rfl hl (by decide) rfl (fun ls hl => ?_)
    refine lv_iconst (v := nI 0) hx hb dX6_quality_12 (by decide) ?_
    refine lv_istore_n (lv' := [(3, .int (nI 0)), (2, .int (nI 0)), (0, .ref m0), (1, .int (nI i))]) hx hb dX6_quality_13 rfl hl (by decide) rfl (fun ls hl => ?_)
    exact j_quality_L14 l D cI cC  m0 gA n tA w fo pA sA mA npA nsA nmA le lA dr dA dn ch i LL ml hL hi hok hm hC hA hK hE _ 0 0 (Nat.lt_succ_self _) (Nat.zero_le _) ((zprI_at hL hi).mp c5) rfl _ _ hP hD hS ls (lv_sub hl [2, 3, 1, 0] rfl)
  · skip
    refine lv_iconst (v := nI 0) hx hb dX6_quality_8 (by decide) ?_
    exact zIret hC hS () ⟨congrArg nI (by unfold zqu; rw [if_neg (fun q => c5 ((zprI_at hL hi).mpr q))]), trivial⟩ hP (vp_nar_int _) dX6_quality_9
set_option maxHeartbeats 4000000 in
set_option maxRecDepth 100000 in
theorem j_seek_L27 {pr : Program} {en : Env} {s0 : State} {mi : MethodId} {bl : List Frame} {me : Method} {co : Code} {A : Nat → Prop} (l : Launch) (D : va_G) (cI cC : ClassId)  (m0 gA n tA w fo pA sA mA ma npA nsA nmA le lA dr dA dn : Nat) (ch nc : Int32) (b : Nat) (g : Nat → Nat) (r : Nat → Nat) (pl0 sl0 ml0 : Nat → Nat) (hn : n ≤ 96) (hg : ∀ i, g i ≤ 4) (hw : w ≤ 24) (hr3 : ∀ i, i < w → r i ≤ 3) (hb4 : b ≤ 4) (hw1 : 0 < w) (hC : zK pr s0 mi ([.ref m0, .int (nI b)] : List Value).toArray me co cX6_seek 5 none yX6_seek wsX6_seek) (hA : ∀ q, s0.heap.size ≤ q → A q) (hK : va_K D vwCl [(cI, .int), (cC, .char)] s0) (hE : zE0 A s0 s0.heap) :
    ∀ (N : Nat) (k t : Nat) (LL : List (Nat × Nat × Nat)) (pl sl ml : Nat → Nat), 3 * (n + 1 - k) - t < N → (LL = zhs g r w b k t) → (t ≤ 2) → (k + w ≤ n) → (zAH pl LL (fun x => x.1) ∧ zAH sl LL (fun x => x.2.1) ∧ zAH ml LL (fun x => x.2.2) ∧ zok n w b LL) → ∀ (H : Heap) (locs : List Loc), va_P D vwCl [(m0, .inr (6, [.ref gA, .int (nI n), .ref tA, .int (nI w), .int (nI fo), .ref pA, .ref sA, .ref mA, .int ch, .int (nI (LL.length)), .ref npA, .ref nsA, .ref nmA, .int (zprI LL), .int (nI le), .ref lA, .int (nI dr), .ref dA, .int (nI dn)])), (gA, .inl (cI, 96, .inl (fun jj => nI (g jj)))), (tA, .inl (cI, 24, .inl (fun jj => nI (r jj)))), (npA, .inl (cI, 192, .inl (fun jj => nI (pl jj)))), (nsA, .inl (cI, 192, .inl (fun jj => nI (sl jj)))), (nmA, .inl (cI, 192, .inl (fun jj => nI (ml jj))))] H → va_D A [(m0, .inr (6, [.ref gA, .int (nI n), .ref tA, .int (nI w), .int (nI fo), .ref pA, .ref sA, .ref mA, .int ch, .int (nI (LL.length)), .ref npA, .ref nsA, .ref nmA, .int (zprI LL), .int (nI le), .ref lA, .int (nI dr), .ref dA, .int (nI dn)])), (gA, .inl (cI, 96, .inl (fun jj => nI (g jj)))), (tA, .inl (cI, 24, .inl (fun jj => nI (r jj)))), (npA, .inl (cI, 192, .inl (fun jj => nI (pl jj)))), (nsA, .inl (cI, 192, .inl (fun jj => nI (sl jj)))), (nmA, .inl (cI, 192, .inl (fun jj => nI (ml jj))))] → va_S A s0.heap H locs → ∀ ls : Array Slot, lv_has ls 5 [(0, .ref m0), (1, .int (nI b)), (2, .int (nI k)), (3, .int (nI t))] → W pr l en ({ frames := 2, cells := 0, slots := 0, locals := 46 } : Room) s0 mi ([.ref m0, .int (nI b)] : List Value).toArray bl me co H locs 0 0 (MQ bl (va_Qv (fun (uu : (Nat → Nat) × (Nat → Nat) × (Nat → Nat)) => zAH uu.1 (zhits g r w b (zrm n w)) (fun x => x.1) ∧ zAH uu.2.1 (zhits g r w b (zrm n w)) (fun x => x.2.1) ∧ zAH uu.2.2 (zhits g r w b (zrm n w)) (fun x => x.2.2) ∧ zok n w b (zhits g r w b (zrm n w))) (fun (uu : (Nat → Nat) × (Nat → Nat) × (Nat → Nat)) t9 => va_P D vwCl ([(m0, .inr (6, [.ref gA, .int (nI n), .ref tA, .int (nI w), .int (nI fo), .ref pA, .ref sA, .ref mA, .int ch, .int (nI ((zhits g r w b (zrm n w)).length)), .ref npA, .ref nsA, .ref nmA, .int (zprI (zhits g r w b (zrm n w))), .int (nI le), .ref lA, .int (nI dr), .ref dA, .int (nI dn)])), (gA, .inl (cI, 96, .inl (fun jj => nI (g jj)))), (tA, .inl (cI, 24, .inl (fun jj => nI (r jj)))), (npA, .inl (cI, 192, .inl (fun jj => nI (uu.1 jj)))), (nsA, .inl (cI, 192, .inl (fun jj => nI (uu.2.1 jj)))), (nmA, .inl (cI, 192, .inl (fun jj => nI (uu.2.2 jj))))]) t9.heap) A) ([.ref m0, .int (nI b)] : List Value).toArray s0 0 0 A) (F0 mi 27 ls []) := by
  obtain ⟨hx, hb, hr, hml, hown, hts, hlocks, hin⟩ := id hC
  intro N
  induction N with
  | zero =>
    intro k t LL pl sl ml hmea
    omega
  | succ N ih =>
    intro k t LL pl sl ml hmea hLL ht2 hkw hok H locs hP hD hS ls hl
    refine lv_iload_n hx hb dX6_seek_27 rfl (lv_at hl 3 rfl) ?_
    refine lv_iconst (v := nI 2) hx hb dX6_seek_28 (by decide) ?_
    refine zz_ge (tgt := 129) hx hb dX6_seek_29 (by decide) (by omega) (by omega) (fun c29 => ?_) (fun c29 => ?_)
    · skip
      refine lv_iinc (v := nI (k + 1)) (lv' := [(2, .int (nI (k + 1))), (0, .ref m0), (1, .int (nI b)), (3, .int (nI t))]) hx hb dX6_seek_129 hl (k := 2) rfl (zincE (by omega)) (by decide) rfl (fun ls hl => ?_)
      refine lv_goto (tgt := 12) hx hb dX6_seek_132 (by decide) ?_
      refine lv_iload_n hx hb dX6_seek_12 rfl (lv_at hl 0 rfl) ?_
      refine lv_aload_n hx hb dX6_seek_13 rfl (lv_at hl 1 rfl) ?_
      refine va_get (D := D) (ci := 6) (v := .int (nI w)) (C := RX6) (T := TX6) (N := 19) hx hb hts (fun w h => List.mem_cons_of_mem _ (inUX6 w h)) hown hK hP 0 rfl rfl 3 (by decide) (hts _ (List.mem_cons_of_mem _ mw_441)) (fun _ h9 => h9) rfl dX6_seek_14 ?_
      refine lv_iadd hx hb dX6_seek_17 ?_
      refine zz_top (y := nI (k + 1 + w)) (zadd (by omega)) ?_
      refine lv_aload_n hx hb dX6_seek_18 rfl (lv_at hl 1 rfl) ?_
      refine va_get (D := D) (ci := 6) (v := .int (nI n)) (C := RX6) (T := TX6) (N := 19) hx hb hts (fun w h => List.mem_cons_of_mem _ (inUX6 w h)) hown hK hP 0 rfl rfl 1 (by decide) (hts _ (List.mem_cons_of_mem _ mw_439)) (fun _ h9 => h9) rfl dX6_seek_19 ?_
      refine zz_gt (tgt := 135) hx hb dX6_seek_22 (by decide) (by omega) (by omega) (fun c22 => ?_) (fun c22 => ?_)
      · skip
        have e0 : LL = zhits g r w b (zrm n w) := by rw [hLL, show t = 2 by omega, zhs_2, show zrm n w = k + 1 by unfold zrm; rw [if_pos (by omega)]; omega]
        subst e0
        have hP : va_P D vwCl [(m0, .inr (6, [.ref gA, .int (nI n), .ref tA, .int (nI w), .int (nI fo), .ref pA, .ref sA, .ref mA, .int ch, .int (nI ((zhits g r w b (zrm n w)).length)), .ref npA, .ref nsA, .ref nmA, .int (zprI (zhits g r w b (zrm n w))), .int (nI le), .ref lA, .int (nI dr), .ref dA, .int (nI dn)])), (gA, .inl (cI, 96, .inl (fun jj => nI (g jj)))), (tA, .inl (cI, 24, .inl (fun jj => nI (r jj)))), (npA, .inl (cI, 192, .inl (fun jj => nI (pl jj)))), (nsA, .inl (cI, 192, .inl (fun jj => nI (sl jj)))), (nmA, .inl (cI, 192, .inl (fun jj => nI (ml jj))))] H := hP
        have hD : va_D A [(m0, .inr (6, [.ref gA, .int (nI n), .ref tA, .int (nI w), .int (nI fo), .ref pA, .ref sA, .ref mA, .int ch, .int (nI ((zhits g r w b (zrm n w)).length)), .ref npA, .ref nsA, .ref nmA, .int (zprI (zhits g r w b (zrm n w))), .int (nI le), .ref lA, .int (nI dr), .ref dA, .int (nI dn)])), (gA, .inl (cI, 96, .inl (fun jj => nI (g jj)))), (tA, .inl (cI, 24, .inl (fun jj => nI (r jj)))), (npA, .inl (cI, 192, .inl (fun jj => nI (pl jj)))), (nsA, .inl (cI, 192, .inl (fun jj => nI (sl jj)))), (nmA, .inl (cI, 192, .inl (fun jj => nI (ml jj))))] := hD
        exact zVret hC hS (pl, sl, ml) hok hP dX6_seek_135
      · skip
        refine lv_iconst (v := nI 0) hx hb dX6_seek_25 (by decide) ?_
        refine lv_istore_n (lv' := [(3, .int (nI 0)), (2, .int (nI (k + 1))), (0, .ref m0), (1, .int (nI b))]) hx hb dX6_seek_26 rfl hl (by decide) rfl (fun ls hl => ?_)
        have e0 : LL = zhs g r w b (k + 1) 0 := by rw [hLL, show t = 2 by omega]; exact zhs_2 g r w b k
        exact ih (k + 1) 0 LL pl sl ml (by omega) e0 (Nat.zero_le _) (by omega) hok _ _ hP hD hS ls (lv_sub hl [2, 3, 1, 0] rfl)
    · skip
      have hl9 : LL.length ≤ 2 * k + t := by rw [hLL]; exact zhs_len g r w b k t
      have hl8 : LL.length ≤ 192 := by omega
      have mm9 := zmm_le g (zsy w r t) k w
      refine lv_aload_n hx hb dX6_seek_32 rfl (lv_at hl 0 rfl) ?_
      refine lv_iload_n hx hb dX6_seek_33 rfl (lv_at hl 2 rfl) ?_
      refine lv_iload_n hx hb dX6_seek_34 rfl (lv_at hl 3 rfl) ?_
      refine zCi (is := [0, 1, 2]) (wf := (fun (uu : Unit) => ([(m0, .inr (6, [.ref gA, .int (nI n), .ref tA, .int (nI w), .int (nI fo), .ref pA, .ref sA, .ref mA, .int ch, .int (nI (LL.length)), .ref npA, .ref nsA, .ref nmA, .int (zprI LL), .int (nI le), .ref lA, .int (nI dr), .ref dA, .int (nI dn)])), (gA, .inl (cI, 96, .inl (fun jj => nI (g jj)))), (tA, .inl (cI, 24, .inl (fun jj => nI (r jj))))] : va_W))) (va_runV (As := [.int (nI k), .int (nI t)]) (rest := []) ⟨hx, hb, hml, hown, hts⟩ (j_differ l D cI cC  m0 gA n tA w fo pA sA mA LL.length npA nsA nmA le lA dr dA dn ch (zprI LL) k t g r (by omega) hg (by omega) hr3 (by omega) (by omega) H.size) (cwV 2 hts (zgood mw_565 mw_567 mw_10 mw_32 mw_568) rfl rfl rfl (by decide +kernel) ⟨Nat.le_of_ble_eq_true rfl, Nat.le_of_ble_eq_true rfl⟩) ⟨zBlind zE0_ok, va_recv hK hP (ci := 6) (q0 := 0) rfl rfl, zAt (av := [.ref m0, .int (nI k), .int (nI t)]) zE0_ok hP hD hK hS hA trivial [0, 1, 2] rfl (by decide)⟩ rfl rfl hl.1 rfl (lv_room (Nat.le_of_ble_eq_true rfl)) dX6_seek_35 ⟨Nat.zero_le _, Nat.zero_le _⟩) hP hD hS hA rfl (fun _ => rfl) (fun r35 u35 H locs w35 hP hD hS => ?_)
      obtain ⟨rfl, w35⟩ := w35
      have hP : va_P D vwCl [(m0, .inr (6, [.ref gA, .int (nI n), .ref tA, .int (nI w), .int (nI fo), .ref pA, .ref sA, .ref mA, .int ch, .int (nI (LL.length)), .ref npA, .ref nsA, .ref nmA, .int (zprI LL), .int (nI le), .ref lA, .int (nI dr), .ref dA, .int (nI dn)])), (gA, .inl (cI, 96, .inl (fun jj => nI (g jj)))), (tA, .inl (cI, 24, .inl (fun jj => nI (r jj)))), (npA, .inl (cI, 192, .inl (fun jj => nI (pl jj)))), (nsA, .inl (cI, 192, .inl (fun jj => nI (sl jj)))), (nmA, .inl (cI, 192, .inl (fun jj => nI (ml jj))))] H := hP
      have hD : va_D A [(m0, .inr (6, [.ref gA, .int (nI n), .ref tA, .int (nI w), .int (nI fo), .ref pA, .ref sA, .ref mA, .int ch, .int (nI (LL.length)), .ref npA, .ref nsA, .ref nmA, .int (zprI LL), .int (nI le), .ref lA, .int (nI dr), .ref dA, .int (nI dn)])), (gA, .inl (cI, 96, .inl (fun jj => nI (g jj)))), (tA, .inl (cI, 24, .inl (fun jj => nI (r jj)))), (npA, .inl (cI, 192, .inl (fun jj => nI (pl jj)))), (nsA, .inl (cI, 192, .inl (fun jj => nI (sl jj)))), (nmA, .inl (cI, 192, .inl (fun jj => nI (ml jj))))] := hD
      refine lv_istore (lv' := [(4, .int (nI (zmm g (zsy w r t) k w))), (0, .ref m0), (1, .int (nI b)), (2, .int (nI k)), (3, .int (nI t))]) hx hb dX6_seek_38 hl (by decide) rfl (fun ls hl => ?_)
      refine lv_iload hx hb dX6_seek_40 (lv_at hl 0 rfl) ?_
      refine lv_iload_n hx hb dX6_seek_42 rfl (lv_at hl 2 rfl) ?_
      refine zz_gt (tgt := 123) hx hb dX6_seek_43 (by decide) (by omega) (by omega) (fun c43 => ?_) (fun c43 => ?_)
      · skip
        refine lv_iinc (v := nI (t + 1)) (lv' := [(3, .int (nI (t + 1))), (4, .int (nI (zmm g (zsy w r t) k w))), (0, .ref m0), (1, .int (nI b)), (2, .int (nI k))]) hx hb dX6_seek_123 hl (k := 4) rfl (zincE (by omega)) (by decide) rfl (fun ls hl => ?_)
        refine lv_goto (tgt := 27) hx hb dX6_seek_126 (by decide) ?_
        exact ih k (t + 1) LL pl sl ml (by omega) (by rw [hLL]; show _ = zhs g r w b k t ++ zh1 g r w b k t; rw [zh1_no (by omega), List.append_nil]) (by omega) hkw hok _ _ hP hD hS ls (lv_sub hl [2, 3, 4, 0] rfl)
      · skip
        refine lv_aload_n hx hb dX6_seek_46 rfl (lv_at hl 1 rfl) ?_
        refine va_get (D := D) (ci := 6) (v := .ref npA) (C := RX6) (T := TX6) (N := 19) hx hb hts (fun w h => List.mem_cons_of_mem _ (inUX6 w h)) hown hK hP 0 rfl rfl 10 (by decide) (hts _ (List.mem_cons_of_mem _ mw_448)) (fun _ h9 => h9) rfl dX6_seek_47 ?_
        refine lv_aload_n hx hb dX6_seek_50 rfl (lv_at hl 1 rfl) ?_
        refine va_get (D := D) (ci := 6) (v := .int (nI (LL.length))) (C := RX6) (T := TX6) (N := 19) hx hb hts (fun w h => List.mem_cons_of_mem _ (inUX6 w h)) hown hK hP 0 rfl rfl 9 (by decide) (hts _ (List.mem_cons_of_mem _ mw_447)) (fun _ h9 => h9) rfl dX6_seek_51 ?_
        refine lv_iload_n hx hb dX6_seek_54 rfl (lv_at hl 3 rfl) ?_
        refine zz_iast (k := LL.length) (x := k) (f := pl) hx hb hK hP hD hS 3 0 rfl rfl (by omega) (by omega) dX6_seek_55 (fun H locs hP hD hS => ?_)
        have hP : va_P D vwCl [(m0, .inr (6, [.ref gA, .int (nI n), .ref tA, .int (nI w), .int (nI fo), .ref pA, .ref sA, .ref mA, .int ch, .int (nI (LL.length)), .ref npA, .ref nsA, .ref nmA, .int (zprI LL), .int (nI le), .ref lA, .int (nI dr), .ref dA, .int (nI dn)])), (gA, .inl (cI, 96, .inl (fun jj => nI (g jj)))), (tA, .inl (cI, 24, .inl (fun jj => nI (r jj)))), (npA, .inl (cI, 192, .inl (fun jj => nI (zup pl LL.length k jj)))), (nsA, .inl (cI, 192, .inl (fun jj => nI (sl jj)))), (nmA, .inl (cI, 192, .inl (fun jj => nI (ml jj))))] H := hP
        have hD : va_D A [(m0, .inr (6, [.ref gA, .int (nI n), .ref tA, .int (nI w), .int (nI fo), .ref pA, .ref sA, .ref mA, .int ch, .int (nI (LL.length)), .ref npA, .ref nsA, .ref nmA, .int (zprI LL), .int (nI le), .ref lA, .int (nI dr), .ref dA, .int (nI dn)])), (gA, .inl (cI, 96, .inl (fun jj => nI (g jj)))), (tA, .inl (cI, 24, .inl (fun jj => nI (r jj)))), (npA, .inl (cI, 192, .inl (fun jj => nI (zup pl LL.length k jj)))), (nsA, .inl (cI, 192, .inl (fun jj => nI (sl jj)))), (nmA, .inl (cI, 192, .inl (fun jj => nI (ml jj))))] := hD
        refine lv_aload_n hx hb dX6_seek_56 rfl (lv_at hl 1 rfl) ?_
        refine va_get (D := D) (ci := 6) (v := .ref nsA) (C := RX6) (T := TX6) (N := 19) hx hb hts (fun w h => List.mem_cons_of_mem _ (inUX6 w h)) hown hK hP 0 rfl rfl 11 (by decide) (hts _ (List.mem_cons_of_mem _ mw_449)) (fun _ h9 => h9) rfl dX6_seek_57 ?_
        refine lv_aload_n hx hb dX6_seek_60 rfl (lv_at hl 1 rfl) ?_
        refine va_get (D := D) (ci := 6) (v := .int (nI (LL.length))) (C := RX6) (T := TX6) (N := 19) hx hb hts (fun w h => List.mem_cons_of_mem _ (inUX6 w h)) hown hK hP 0 rfl rfl 9 (by decide) (hts _ (List.mem_cons_of_mem _ mw_447)) (fun _ h9 => h9) rfl dX6_seek_61 ?_
        refine lv_iload_n hx hb dX6_seek_64 rfl (lv_at hl 4 rfl) ?_
        refine zz_iast (k := LL.length) (x := t) (f := sl) hx hb hK hP hD hS 4 0 rfl rfl (by omega) (by omega) dX6_seek_65 (fun H locs hP hD hS => ?_)
        have hP : va_P D vwCl [(m0, .inr (6, [.ref gA, .int (nI n), .ref tA, .int (nI w), .int (nI fo), .ref pA, .ref sA, .ref mA, .int ch, .int (nI (LL.length)), .ref npA, .ref nsA, .ref nmA, .int (zprI LL), .int (nI le), .ref lA, .int (nI dr), .ref dA, .int (nI dn)])), (gA, .inl (cI, 96, .inl (fun jj => nI (g jj)))), (tA, .inl (cI, 24, .inl (fun jj => nI (r jj)))), (npA, .inl (cI, 192, .inl (fun jj => nI (zup pl LL.length k jj)))), (nsA, .inl (cI, 192, .inl (fun jj => nI (zup sl LL.length t jj)))), (nmA, .inl (cI, 192, .inl (fun jj => nI (ml jj))))] H := hP
        have hD : va_D A [(m0, .inr (6, [.ref gA, .int (nI n), .ref tA, .int (nI w), .int (nI fo), .ref pA, .ref sA, .ref mA, .int ch, .int (nI (LL.length)), .ref npA, .ref nsA, .ref nmA, .int (zprI LL), .int (nI le), .ref lA, .int (nI dr), .ref dA, .int (nI dn)])), (gA, .inl (cI, 96, .inl (fun jj => nI (g jj)))), (tA, .inl (cI, 24, .inl (fun jj => nI (r jj)))), (npA, .inl (cI, 192, .inl (fun jj => nI (zup pl LL.length k jj)))), (nsA, .inl (cI, 192, .inl (fun jj => nI (zup sl LL.length t jj)))), (nmA, .inl (cI, 192, .inl (fun jj => nI (ml jj))))] := hD
        refine lv_aload_n hx hb dX6_seek_66 rfl (lv_at hl 1 rfl) ?_
        refine va_get (D := D) (ci := 6) (v := .ref nmA) (C := RX6) (T := TX6) (N := 19) hx hb hts (fun w h => List.mem_cons_of_mem _ (inUX6 w h)) hown hK hP 0 rfl rfl 12 (by decide) (hts _ (List.mem_cons_of_mem _ mw_450)) (fun _ h9 => h9) rfl dX6_seek_67 ?_
        refine lv_aload_n hx hb dX6_seek_70 rfl (lv_at hl 1 rfl) ?_
        refine va_get (D := D) (ci := 6) (v := .int (nI (LL.length))) (C := RX6) (T := TX6) (N := 19) hx hb hts (fun w h => List.mem_cons_of_mem _ (inUX6 w h)) hown hK hP 0 rfl rfl 9 (by decide) (hts _ (List.mem_cons_of_mem _ mw_447)) (fun _ h9 => h9) rfl dX6_seek_71 ?_
        refine lv_iload hx hb dX6_seek_74 (lv_at hl 0 rfl) ?_
        refine zz_iast (k := LL.length) (x := zmm g (zsy w r t) k w) (f := ml) hx hb hK hP hD hS 5 0 rfl rfl (by omega) (by omega) dX6_seek_76 (fun H locs hP hD hS => ?_)
        have hP : va_P D vwCl [(m0, .inr (6, [.ref gA, .int (nI n), .ref tA, .int (nI w), .int (nI fo), .ref pA, .ref sA, .ref mA, .int ch, .int (nI (LL.length)), .ref npA, .ref nsA, .ref nmA, .int (zprI LL), .int (nI le), .ref lA, .int (nI dr), .ref dA, .int (nI dn)])), (gA, .inl (cI, 96, .inl (fun jj => nI (g jj)))), (tA, .inl (cI, 24, .inl (fun jj => nI (r jj)))), (npA, .inl (cI, 192, .inl (fun jj => nI (zup pl LL.length k jj)))), (nsA, .inl (cI, 192, .inl (fun jj => nI (zup sl LL.length t jj)))), (nmA, .inl (cI, 192, .inl (fun jj => nI (zup ml LL.length (zmm g (zsy w r t) k w) jj))))] H := hP
        have hD : va_D A [(m0, .inr (6, [.ref gA, .int (nI n), .ref tA, .int (nI w), .int (nI fo), .ref pA, .ref sA, .ref mA, .int ch, .int (nI (LL.length)), .ref npA, .ref nsA, .ref nmA, .int (zprI LL), .int (nI le), .ref lA, .int (nI dr), .ref dA, .int (nI dn)])), (gA, .inl (cI, 96, .inl (fun jj => nI (g jj)))), (tA, .inl (cI, 24, .inl (fun jj => nI (r jj)))), (npA, .inl (cI, 192, .inl (fun jj => nI (zup pl LL.length k jj)))), (nsA, .inl (cI, 192, .inl (fun jj => nI (zup sl LL.length t jj)))), (nmA, .inl (cI, 192, .inl (fun jj => nI (zup ml LL.length (zmm g (zsy w r t) k w) jj))))] := hD
        refine lv_aload_n hx hb dX6_seek_77 rfl (lv_at hl 1 rfl) ?_
        refine lv_aload_n hx hb dX6_seek_78 rfl (lv_at hl 1 rfl) ?_
        refine va_get (D := D) (ci := 6) (v := .int (zprI LL)) (C := RX6) (T := TX6) (N := 19) hx hb hts (fun w h => List.mem_cons_of_mem _ (inUX6 w h)) hown hK hP 0 rfl rfl 13 (by decide) (hts _ (List.mem_cons_of_mem _ mw_451)) (fun _ h9 => h9) rfl dX6_seek_79 ?_
        refine lv_if_lt (tgt := 99) hx hb dX6_seek_82 (by decide) (fun c82 => ?_) (fun c82 => ?_)
        · skip
          have hnew : LL.length = 0 ∨ zmm g (zsy w r t) k w < zmF LL (zpri (zmF LL) LL.length) := by first | exact Or.inl ((zprI_lt hl8).mp c82) | exact Or.inr (by rw [← e3]; exact c96)
          refine lv_aload_n hx hb dX6_seek_99 rfl (lv_at hl 1 rfl) ?_
          refine va_get (D := D) (ci := 6) (v := .int (nI (LL.length))) (C := RX6) (T := TX6) (N := 19) hx hb hts (fun w h => List.mem_cons_of_mem _ (inUX6 w h)) hown hK hP 0 rfl rfl 9 (by decide) (hts _ (List.mem_cons_of_mem _ mw_447)) (fun _ h9 => h9) rfl dX6_seek_100 ?_
          refine lv_goto (tgt := 110) hx hb dX6_seek_103 (by decide) ?_
          refine va_put (D := D) (ci := 6) (v := .int (nI (LL.length))) (ty := .int) (C := RX6) (T := TX6) (N := 19) hx hb hts (fun w h => List.mem_cons_of_mem _ (inUX6 w h)) tyX6 tyX6_ok nmX6 hown hK hP hD hS 0 rfl rfl 13 (by decide) (hts _ (List.mem_cons_of_mem _ mw_451)) (fun _ h9 => h9) rfl (by decide +kernel) rfl rfl (Nat.le_of_ble_eq_true rfl) dX6_seek_110 (fun H locs hP hD hS => ?_)
          have hP : va_P D vwCl [(m0, .inr (6, [.ref gA, .int (nI n), .ref tA, .int (nI w), .int (nI fo), .ref pA, .ref sA, .ref mA, .int ch, .int (nI (LL.length)), .ref npA, .ref nsA, .ref nmA, .int (nI (LL.length)), .int (nI le), .ref lA, .int (nI dr), .ref dA, .int (nI dn)])), (gA, .inl (cI, 96, .inl (fun jj => nI (g jj)))), (tA, .inl (cI, 24, .inl (fun jj => nI (r jj)))), (npA, .inl (cI, 192, .inl (fun jj => nI (zup pl LL.length k jj)))), (nsA, .inl (cI, 192, .inl (fun jj => nI (zup sl LL.length t jj)))), (nmA, .inl (cI, 192, .inl (fun jj => nI (zup ml LL.length (zmm g (zsy w r t) k w) jj))))] H := hP
          have hD : va_D A [(m0, .inr (6, [.ref gA, .int (nI n), .ref tA, .int (nI w), .int (nI fo), .ref pA, .ref sA, .ref mA, .int ch, .int (nI (LL.length)), .ref npA, .ref nsA, .ref nmA, .int (nI (LL.length)), .int (nI le), .ref lA, .int (nI dr), .ref dA, .int (nI dn)])), (gA, .inl (cI, 96, .inl (fun jj => nI (g jj)))), (tA, .inl (cI, 24, .inl (fun jj => nI (r jj)))), (npA, .inl (cI, 192, .inl (fun jj => nI (zup pl LL.length k jj)))), (nsA, .inl (cI, 192, .inl (fun jj => nI (zup sl LL.length t jj)))), (nmA, .inl (cI, 192, .inl (fun jj => nI (zup ml LL.length (zmm g (zsy w r t) k w) jj))))] := hD
          refine lv_aload_n hx hb dX6_seek_113 rfl (lv_at hl 1 rfl) ?_
          refine lv_dup hx hb dX6_seek_114 rfl ?_
          refine va_get (D := D) (ci := 6) (v := .int (nI (LL.length))) (C := RX6) (T := TX6) (N := 19) hx hb hts (fun w h => List.mem_cons_of_mem _ (inUX6 w h)) hown hK hP 0 rfl rfl 9 (by decide) (hts _ (List.mem_cons_of_mem _ mw_447)) (fun _ h9 => h9) rfl dX6_seek_115 ?_
          refine lv_iconst (v := nI 1) hx hb dX6_seek_118 (by decide) ?_
          refine lv_iadd hx hb dX6_seek_119 ?_
          refine zz_top (y := nI (LL.length + 1)) (zadd (by omega)) ?_
          refine va_put (D := D) (ci := 6) (v := .int (nI (LL.length + 1))) (ty := .int) (C := RX6) (T := TX6) (N := 19) hx hb hts (fun w h => List.mem_cons_of_mem _ (inUX6 w h)) tyX6 tyX6_ok nmX6 hown hK hP hD hS 0 rfl rfl 9 (by decide) (hts _ (List.mem_cons_of_mem _ mw_447)) (fun _ h9 => h9) rfl (by decide +kernel) rfl rfl (Nat.le_of_ble_eq_true rfl) dX6_seek_120 (fun H locs hP hD hS => ?_)
          have hP : va_P D vwCl [(m0, .inr (6, [.ref gA, .int (nI n), .ref tA, .int (nI w), .int (nI fo), .ref pA, .ref sA, .ref mA, .int ch, .int (nI (LL.length + 1)), .ref npA, .ref nsA, .ref nmA, .int (nI (LL.length)), .int (nI le), .ref lA, .int (nI dr), .ref dA, .int (nI dn)])), (gA, .inl (cI, 96, .inl (fun jj => nI (g jj)))), (tA, .inl (cI, 24, .inl (fun jj => nI (r jj)))), (npA, .inl (cI, 192, .inl (fun jj => nI (zup pl LL.length k jj)))), (nsA, .inl (cI, 192, .inl (fun jj => nI (zup sl LL.length t jj)))), (nmA, .inl (cI, 192, .inl (fun jj => nI (zup ml LL.length (zmm g (zsy w r t) k w) jj))))] H := hP
          have hD : va_D A [(m0, .inr (6, [.ref gA, .int (nI n), .ref tA, .int (nI w), .int (nI fo), .ref pA, .ref sA, .ref mA, .int ch, .int (nI (LL.length + 1)), .ref npA, .ref nsA, .ref nmA, .int (nI (LL.length)), .int (nI le), .ref lA, .int (nI dr), .ref dA, .int (nI dn)])), (gA, .inl (cI, 96, .inl (fun jj => nI (g jj)))), (tA, .inl (cI, 24, .inl (fun jj => nI (r jj)))), (npA, .inl (cI, 192, .inl (fun jj => nI (zup pl LL.length k jj)))), (nsA, .inl (cI, 192, .inl (fun jj => nI (zup sl LL.length t jj)))), (nmA, .inl (cI, 192, .inl (fun jj => nI (zup ml LL.length (zmm g (zsy w r t) k w) jj))))] := hD
          refine lv_iinc (v := nI (t + 1)) (lv' := [(3, .int (nI (t + 1))), (4, .int (nI (zmm g (zsy w r t) k w))), (0, .ref m0), (1, .int (nI b)), (2, .int (nI k))]) hx hb dX6_seek_123 hl (k := 4) rfl (zincE (by omega)) (by decide) rfl (fun ls hl => ?_)
          refine lv_goto (tgt := 27) hx hb dX6_seek_126 (by decide) ?_
          have hP : va_P D vwCl [(m0, .inr (6, [.ref gA, .int (nI n), .ref tA, .int (nI w), .int (nI fo), .ref pA, .ref sA, .ref mA, .int ch, .int (nI ((LL ++ [(k, t, zmm g (zsy w r t) k w)]).length)), .ref npA, .ref nsA, .ref nmA, .int (zprI (LL ++ [(k, t, zmm g (zsy w r t) k w)])), .int (nI le), .ref lA, .int (nI dr), .ref dA, .int (nI dn)])), (gA, .inl (cI, 96, .inl (fun jj => nI (g jj)))), (tA, .inl (cI, 24, .inl (fun jj => nI (r jj)))), (npA, .inl (cI, 192, .inl (fun jj => nI (zup pl LL.length k jj)))), (nsA, .inl (cI, 192, .inl (fun jj => nI (zup sl LL.length t jj)))), (nmA, .inl (cI, 192, .inl (fun jj => nI (zup ml LL.length (zmm g (zsy w r t) k w) jj))))] H := by rw [zprI_new (x := (k, t, zmm g (zsy w r t) k w)) hnew, zlen1]; exact hP
          have hD : va_D A [(m0, .inr (6, [.ref gA, .int (nI n), .ref tA, .int (nI w), .int (nI fo), .ref pA, .ref sA, .ref mA, .int ch, .int (nI ((LL ++ [(k, t, zmm g (zsy w r t) k w)]).length)), .ref npA, .ref nsA, .ref nmA, .int (zprI (LL ++ [(k, t, zmm g (zsy w r t) k w)])), .int (nI le), .ref lA, .int (nI dr), .ref dA, .int (nI dn)])), (gA, .inl (cI, 96, .inl (fun jj => nI (g jj)))), (tA, .inl (cI, 24, .inl (fun jj => nI (r jj)))), (npA, .inl (cI, 192, .inl (fun jj => nI (zup pl LL.length k jj)))), (nsA, .inl (cI, 192, .inl (fun jj => nI (zup sl LL.length t jj)))), (nmA, .inl (cI, 192, .inl (fun jj => nI (zup ml LL.length (zmm g (zsy w r t) k w) jj))))] := by rw [zprI_new (x := (k, t, zmm g (zsy w r t) k w)) hnew, zlen1]; exact hD
          exact ih k (t + 1) (LL ++ [(k, t, zmm g (zsy w r t) k w)]) (zup pl LL.length k) (zup sl LL.length t) (zup ml LL.length (zmm g (zsy w r t) k w)) (by omega) (by rw [hLL]; show _ = zhs g r w b k t ++ zh1 g r w b k t; rw [zh1_yes (by omega)]) (by omega) hkw ⟨zAH_put (x := (k, t, zmm g (zsy w r t) k w)) hok.1, zAH_put (x := (k, t, zmm g (zsy w r t) k w)) hok.2.1, zAH_put (x := (k, t, zmm g (zsy w r t) k w)) hok.2.2.1, zok_put hok.2.2.2 hkw (show t ≤ 1 by omega) (show zmm g (zsy w r t) k w ≤ b by omega)⟩ _ _ hP hD hS ls (lv_sub hl [2, 3, 4, 0] rfl)
        · skip
          have hz0 : ¬ LL.length = 0 := fun q => c82 ((zprI_lt hl8).mpr q)
          have hz1 := zpri_lt (zmF LL) LL.length (by omega)
          have e3 : zup ml LL.length (zmm g (zsy w r t) k w) (zpri (zmF LL) LL.length) = zmF LL (zpri (zmF LL) LL.length) := by rw [zup_n (by omega)]; exact hok.2.2.1 _ hz1
          have hz2 := zok_mF hok.2.2.2 hz1
          refine lv_iload hx hb dX6_seek_85 (lv_at hl 0 rfl) ?_
          refine lv_aload_n hx hb dX6_seek_87 rfl (lv_at hl 1 rfl) ?_
          refine va_get (D := D) (ci := 6) (v := .ref nmA) (C := RX6) (T := TX6) (N := 19) hx hb hts (fun w h => List.mem_cons_of_mem _ (inUX6 w h)) hown hK hP 0 rfl rfl 12 (by decide) (hts _ (List.mem_cons_of_mem _ mw_450)) (fun _ h9 => h9) rfl dX6_seek_88 ?_
          refine lv_aload_n hx hb dX6_seek_91 rfl (lv_at hl 1 rfl) ?_
          refine va_get (D := D) (ci := 6) (v := .int (zprI LL)) (C := RX6) (T := TX6) (N := 19) hx hb hts (fun w h => List.mem_cons_of_mem _ (inUX6 w h)) hown hK hP 0 rfl rfl 13 (by decide) (hts _ (List.mem_cons_of_mem _ mw_451)) (fun _ h9 => h9) rfl dX6_seek_92 ?_
          refine zz_top (y := nI (zpri (zmF LL) LL.length)) (zprI_pos hz0) ?_
          refine zz_iald (k := zpri (zmF LL) LL.length) (f := zup ml LL.length (zmm g (zsy w r t) k w)) hx hb hK hP 5 0 rfl rfl (by omega) (by omega) dX6_seek_95 ?_
          refine zz_ge (tgt := 106) hx hb dX6_seek_96 (by decide) (by omega) (by omega) (fun c96 => ?_) (fun c96 => ?_)
          · skip
            have hold : ¬ zmm g (zsy w r t) k w < zmF LL (zpri (zmF LL) LL.length) := by rw [← e3]; omega
            refine lv_aload_n hx hb dX6_seek_106 rfl (lv_at hl 1 rfl) ?_
            refine va_get (D := D) (ci := 6) (v := .int (zprI LL)) (C := RX6) (T := TX6) (N := 19) hx hb hts (fun w h => List.mem_cons_of_mem _ (inUX6 w h)) hown hK hP 0 rfl rfl 13 (by decide) (hts _ (List.mem_cons_of_mem _ mw_451)) (fun _ h9 => h9) rfl dX6_seek_107 ?_
            refine va_put (D := D) (ci := 6) (v := .int (zprI LL)) (ty := .int) (C := RX6) (T := TX6) (N := 19) hx hb hts (fun w h => List.mem_cons_of_mem _ (inUX6 w h)) tyX6 tyX6_ok nmX6 hown hK hP hD hS 0 rfl rfl 13 (by decide) (hts _ (List.mem_cons_of_mem _ mw_451)) (fun _ h9 => h9) rfl (by decide +kernel) rfl rfl (Nat.le_of_ble_eq_true rfl) dX6_seek_110 (fun H locs hP hD hS => ?_)
            have hP : va_P D vwCl [(m0, .inr (6, [.ref gA, .int (nI n), .ref tA, .int (nI w), .int (nI fo), .ref pA, .ref sA, .ref mA, .int ch, .int (nI (LL.length)), .ref npA, .ref nsA, .ref nmA, .int (zprI LL), .int (nI le), .ref lA, .int (nI dr), .ref dA, .int (nI dn)])), (gA, .inl (cI, 96, .inl (fun jj => nI (g jj)))), (tA, .inl (cI, 24, .inl (fun jj => nI (r jj)))), (npA, .inl (cI, 192, .inl (fun jj => nI (zup pl LL.length k jj)))), (nsA, .inl (cI, 192, .inl (fun jj => nI (zup sl LL.length t jj)))), (nmA, .inl (cI, 192, .inl (fun jj => nI (zup ml LL.length (zmm g (zsy w r t) k w) jj))))] H := hP
            have hD : va_D A [(m0, .inr (6, [.ref gA, .int (nI n), .ref tA, .int (nI w), .int (nI fo), .ref pA, .ref sA, .ref mA, .int ch, .int (nI (LL.length)), .ref npA, .ref nsA, .ref nmA, .int (zprI LL), .int (nI le), .ref lA, .int (nI dr), .ref dA, .int (nI dn)])), (gA, .inl (cI, 96, .inl (fun jj => nI (g jj)))), (tA, .inl (cI, 24, .inl (fun jj => nI (r jj)))), (npA, .inl (cI, 192, .inl (fun jj => nI (zup pl LL.length k jj)))), (nsA, .inl (cI, 192, .inl (fun jj => nI (zup sl LL.length t jj)))), (nmA, .inl (cI, 192, .inl (fun jj => nI (zup ml LL.length (zmm g (zsy w r t) k w) jj))))] := hD
            refine lv_aload_n hx hb dX6_seek_113 rfl (lv_at hl 1 rfl) ?_
            refine lv_dup hx hb dX6_seek_114 rfl ?_
            refine va_get (D := D) (ci := 6) (v := .int (nI (LL.length))) (C := RX6) (T := TX6) (N := 19) hx hb hts (fun w h => List.mem_cons_of_mem _ (inUX6 w h)) hown hK hP 0 rfl rfl 9 (by decide) (hts _ (List.mem_cons_of_mem _ mw_447)) (fun _ h9 => h9) rfl dX6_seek_115 ?_
            refine lv_iconst (v := nI 1) hx hb dX6_seek_118 (by decide) ?_
            refine lv_iadd hx hb dX6_seek_119 ?_
            refine zz_top (y := nI (LL.length + 1)) (zadd (by omega)) ?_
            refine va_put (D := D) (ci := 6) (v := .int (nI (LL.length + 1))) (ty := .int) (C := RX6) (T := TX6) (N := 19) hx hb hts (fun w h => List.mem_cons_of_mem _ (inUX6 w h)) tyX6 tyX6_ok nmX6 hown hK hP hD hS 0 rfl rfl 9 (by decide) (hts _ (List.mem_cons_of_mem _ mw_447)) (fun _ h9 => h9) rfl (by decide +kernel) rfl rfl (Nat.le_of_ble_eq_true rfl) dX6_seek_120 (fun H locs hP hD hS => ?_)
            have hP : va_P D vwCl [(m0, .inr (6, [.ref gA, .int (nI n), .ref tA, .int (nI w), .int (nI fo), .ref pA, .ref sA, .ref mA, .int ch, .int (nI (LL.length + 1)), .ref npA, .ref nsA, .ref nmA, .int (zprI LL), .int (nI le), .ref lA, .int (nI dr), .ref dA, .int (nI dn)])), (gA, .inl (cI, 96, .inl (fun jj => nI (g jj)))), (tA, .inl (cI, 24, .inl (fun jj => nI (r jj)))), (npA, .inl (cI, 192, .inl (fun jj => nI (zup pl LL.length k jj)))), (nsA, .inl (cI, 192, .inl (fun jj => nI (zup sl LL.length t jj)))), (nmA, .inl (cI, 192, .inl (fun jj => nI (zup ml LL.length (zmm g (zsy w r t) k w) jj))))] H := hP
            have hD : va_D A [(m0, .inr (6, [.ref gA, .int (nI n), .ref tA, .int (nI w), .int (nI fo), .ref pA, .ref sA, .ref mA, .int ch, .int (nI (LL.length + 1)), .ref npA, .ref nsA, .ref nmA, .int (zprI LL), .int (nI le), .ref lA, .int (nI dr), .ref dA, .int (nI dn)])), (gA, .inl (cI, 96, .inl (fun jj => nI (g jj)))), (tA, .inl (cI, 24, .inl (fun jj => nI (r jj)))), (npA, .inl (cI, 192, .inl (fun jj => nI (zup pl LL.length k jj)))), (nsA, .inl (cI, 192, .inl (fun jj => nI (zup sl LL.length t jj)))), (nmA, .inl (cI, 192, .inl (fun jj => nI (zup ml LL.length (zmm g (zsy w r t) k w) jj))))] := hD
            refine lv_iinc (v := nI (t + 1)) (lv' := [(3, .int (nI (t + 1))), (4, .int (nI (zmm g (zsy w r t) k w))), (0, .ref m0), (1, .int (nI b)), (2, .int (nI k))]) hx hb dX6_seek_123 hl (k := 4) rfl (zincE (by omega)) (by decide) rfl (fun ls hl => ?_)
            refine lv_goto (tgt := 27) hx hb dX6_seek_126 (by decide) ?_
            have hP : va_P D vwCl [(m0, .inr (6, [.ref gA, .int (nI n), .ref tA, .int (nI w), .int (nI fo), .ref pA, .ref sA, .ref mA, .int ch, .int (nI ((LL ++ [(k, t, zmm g (zsy w r t) k w)]).length)), .ref npA, .ref nsA, .ref nmA, .int (zprI (LL ++ [(k, t, zmm g (zsy w r t) k w)])), .int (nI le), .ref lA, .int (nI dr), .ref dA, .int (nI dn)])), (gA, .inl (cI, 96, .inl (fun jj => nI (g jj)))), (tA, .inl (cI, 24, .inl (fun jj => nI (r jj)))), (npA, .inl (cI, 192, .inl (fun jj => nI (zup pl LL.length k jj)))), (nsA, .inl (cI, 192, .inl (fun jj => nI (zup sl LL.length t jj)))), (nmA, .inl (cI, 192, .inl (fun jj => nI (zup ml LL.length (zmm g (zsy w r t) k w) jj))))] H := by rw [zprI_old (x := (k, t, zmm g (zsy w r t) k w)) hz0 hold, zlen1]; exact hP
            have hD : va_D A [(m0, .inr (6, [.ref gA, .int (nI n), .ref tA, .int (nI w), .int (nI fo), .ref pA, .ref sA, .ref mA, .int ch, .int (nI ((LL ++ [(k, t, zmm g (zsy w r t) k w)]).length)), .ref npA, .ref nsA, .ref nmA, .int (zprI (LL ++ [(k, t, zmm g (zsy w r t) k w)])), .int (nI le), .ref lA, .int (nI dr), .ref dA, .int (nI dn)])), (gA, .inl (cI, 96, .inl (fun jj => nI (g jj)))), (tA, .inl (cI, 24, .inl (fun jj => nI (r jj)))), (npA, .inl (cI, 192, .inl (fun jj => nI (zup pl LL.length k jj)))), (nsA, .inl (cI, 192, .inl (fun jj => nI (zup sl LL.length t jj)))), (nmA, .inl (cI, 192, .inl (fun jj => nI (zup ml LL.length (zmm g (zsy w r t) k w) jj))))] := by rw [zprI_old (x := (k, t, zmm g (zsy w r t) k w)) hz0 hold, zlen1]; exact hD
            exact ih k (t + 1) (LL ++ [(k, t, zmm g (zsy w r t) k w)]) (zup pl LL.length k) (zup sl LL.length t) (zup ml LL.length (zmm g (zsy w r t) k w)) (by omega) (by rw [hLL]; show _ = zhs g r w b k t ++ zh1 g r w b k t; rw [zh1_yes (by omega)]) (by omega) hkw ⟨zAH_put (x := (k, t, zmm g (zsy w r t) k w)) hok.1, zAH_put (x := (k, t, zmm g (zsy w r t) k w)) hok.2.1, zAH_put (x := (k, t, zmm g (zsy w r t) k w)) hok.2.2.1, zok_put hok.2.2.2 hkw (show t ≤ 1 by omega) (show zmm g (zsy w r t) k w ≤ b by omega)⟩ _ _ hP hD hS ls (lv_sub hl [2, 3, 4, 0] rfl)
          · skip
            have hnew : LL.length = 0 ∨ zmm g (zsy w r t) k w < zmF LL (zpri (zmF LL) LL.length) := by first | exact Or.inl ((zprI_lt hl8).mp c82) | exact Or.inr (by rw [← e3]; exact c96)
            refine lv_aload_n hx hb dX6_seek_99 rfl (lv_at hl 1 rfl) ?_
            refine va_get (D := D) (ci := 6) (v := .int (nI (LL.length))) (C := RX6) (T := TX6) (N := 19) hx hb hts (fun w h => List.mem_cons_of_mem _ (inUX6 w h)) hown hK hP 0 rfl rfl 9 (by decide) (hts _ (List.mem_cons_of_mem _ mw_447)) (fun _ h9 => h9) rfl dX6_seek_100 ?_
            refine lv_goto (tgt := 110) hx hb dX6_seek_103 (by decide) ?_
            refine va_put (D := D) (ci := 6) (v := .int (nI (LL.length))) (ty := .int) (C := RX6) (T := TX6) (N := 19) hx hb hts (fun w h => List.mem_cons_of_mem _ (inUX6 w h)) tyX6 tyX6_ok nmX6 hown hK hP hD hS 0 rfl rfl 13 (by decide) (hts _ (List.mem_cons_of_mem _ mw_451)) (fun _ h9 => h9) rfl (by decide +kernel) rfl rfl (Nat.le_of_ble_eq_true rfl) dX6_seek_110 (fun H locs hP hD hS => ?_)
            have hP : va_P D vwCl [(m0, .inr (6, [.ref gA, .int (nI n), .ref tA, .int (nI w), .int (nI fo), .ref pA, .ref sA, .ref mA, .int ch, .int (nI (LL.length)), .ref npA, .ref nsA, .ref nmA, .int (nI (LL.length)), .int (nI le), .ref lA, .int (nI dr), .ref dA, .int (nI dn)])), (gA, .inl (cI, 96, .inl (fun jj => nI (g jj)))), (tA, .inl (cI, 24, .inl (fun jj => nI (r jj)))), (npA, .inl (cI, 192, .inl (fun jj => nI (zup pl LL.length k jj)))), (nsA, .inl (cI, 192, .inl (fun jj => nI (zup sl LL.length t jj)))), (nmA, .inl (cI, 192, .inl (fun jj => nI (zup ml LL.length (zmm g (zsy w r t) k w) jj))))] H := hP
            have hD : va_D A [(m0, .inr (6, [.ref gA, .int (nI n), .ref tA, .int (nI w), .int (nI fo), .ref pA, .ref sA, .ref mA, .int ch, .int (nI (LL.length)), .ref npA, .ref nsA, .ref nmA, .int (nI (LL.length)), .int (nI le), .ref lA, .int (nI dr), .ref dA, .int (nI dn)])), (gA, .inl (cI, 96, .inl (fun jj => nI (g jj)))), (tA, .inl (cI, 24, .inl (fun jj => nI (r jj)))), (npA, .inl (cI, 192, .inl (fun jj => nI (zup pl LL.length k jj)))), (nsA, .inl (cI, 192, .inl (fun jj => nI (zup sl LL.length t jj)))), (nmA, .inl (cI, 192, .inl (fun jj => nI (zup ml LL.length (zmm g (zsy w r t) k w) jj))))] := hD
            refine lv_aload_n hx hb dX6_seek_113 rfl (lv_at hl 1 rfl) ?_
            refine lv_dup hx hb dX6_seek_114 rfl ?_
            refine va_get (D := D) (ci := 6) (v := .int (nI (LL.length))) (C := RX6) (T := TX6) (N := 19) hx hb hts (fun w h => List.mem_cons_of_mem _ (inUX6 w h)) hown hK hP 0 rfl rfl 9 (by decide) (hts _ (List.mem_cons_of_mem _ mw_447)) (fun _ h9 => h9) rfl dX6_seek_115 ?_
            refine lv_iconst (v := nI 1) hx hb dX6_seek_118 (by decide) ?_
            refine lv_iadd hx hb dX6_seek_119 ?_
            refine zz_top (y := nI (LL.length + 1)) (zadd (by omega)) ?_
            refine va_put (D := D) (ci := 6) (v := .int (nI (LL.length + 1))) (ty := .int) (C := RX6) (T := TX6) (N := 19) hx hb hts (fun w h => List.mem_cons_of_mem _ (inUX6 w h)) tyX6 tyX6_ok nmX6 hown hK hP hD hS 0 rfl rfl 9 (by decide) (hts _ (List.mem_cons_of_mem _ mw_447)) (fun _ h9 => h9) rfl (by decide +kernel) rfl rfl (Nat.le_of_ble_eq_true rfl) dX6_seek_120 (fun H locs hP hD hS => ?_)
            have hP : va_P D vwCl [(m0, .inr (6, [.ref gA, .int (nI n), .ref tA, .int (nI w), .int (nI fo), .ref pA, .ref sA, .ref mA, .int ch, .int (nI (LL.length + 1)), .ref npA, .ref nsA, .ref nmA, .int (nI (LL.length)), .int (nI le), .ref lA, .int (nI dr), .ref dA, .int (nI dn)])), (gA, .inl (cI, 96, .inl (fun jj => nI (g jj)))), (tA, .inl (cI, 24, .inl (fun jj => nI (r jj)))), (npA, .inl (cI, 192, .inl (fun jj => nI (zup pl LL.length k jj)))), (nsA, .inl (cI, 192, .inl (fun jj => nI (zup sl LL.length t jj)))), (nmA, .inl (cI, 192, .inl (fun jj => nI (zup ml LL.length (zmm g (zsy w r t) k w) jj))))] H := hP
            have hD : va_D A [(m0, .inr (6, [.ref gA, .int (nI n), .ref tA, .int (nI w), .int (nI fo), .ref pA, .ref sA, .ref mA, .int ch, .int (nI (LL.length + 1)), .ref npA, .ref nsA, .ref nmA, .int (nI (LL.length)), .int (nI le), .ref lA, .int (nI dr), .ref dA, .int (nI dn)])), (gA, .inl (cI, 96, .inl (fun jj => nI (g jj)))), (tA, .inl (cI, 24, .inl (fun jj => nI (r jj)))), (npA, .inl (cI, 192, .inl (fun jj => nI (zup pl LL.length k jj)))), (nsA, .inl (cI, 192, .inl (fun jj => nI (zup sl LL.length t jj)))), (nmA, .inl (cI, 192, .inl (fun jj => nI (zup ml LL.length (zmm g (zsy w r t) k w) jj))))] := hD
            refine lv_iinc (v := nI (t + 1)) (lv' := [(3, .int (nI (t + 1))), (4, .int (nI (zmm g (zsy w r t) k w))), (0, .ref m0), (1, .int (nI b)), (2, .int (nI k))]) hx hb dX6_seek_123 hl (k := 4) rfl (zincE (by omega)) (by decide) rfl (fun ls hl => ?_)
            refine lv_goto (tgt := 27) hx hb dX6_seek_126 (by decide) ?_
            have hP : va_P D vwCl [(m0, .inr (6, [.ref gA, .int (nI n), .ref tA, .int (nI w), .int (nI fo), .ref pA, .ref sA, .ref mA, .int ch, .int (nI ((LL ++ [(k, t, zmm g (zsy w r t) k w)]).length)), .ref npA, .ref nsA, .ref nmA, .int (zprI (LL ++ [(k, t, zmm g (zsy w r t) k w)])), .int (nI le), .ref lA, .int (nI dr), .ref dA, .int (nI dn)])), (gA, .inl (cI, 96, .inl (fun jj => nI (g jj)))), (tA, .inl (cI, 24, .inl (fun jj => nI (r jj)))), (npA, .inl (cI, 192, .inl (fun jj => nI (zup pl LL.length k jj)))), (nsA, .inl (cI, 192, .inl (fun jj => nI (zup sl LL.length t jj)))), (nmA, .inl (cI, 192, .inl (fun jj => nI (zup ml LL.length (zmm g (zsy w r t) k w) jj))))] H := by rw [zprI_new (x := (k, t, zmm g (zsy w r t) k w)) hnew, zlen1]; exact hP
            have hD : va_D A [(m0, .inr (6, [.ref gA, .int (nI n), .ref tA, .int (nI w), .int (nI fo), .ref pA, .ref sA, .ref mA, .int ch, .int (nI ((LL ++ [(k, t, zmm g (zsy w r t) k w)]).length)), .ref npA, .ref nsA, .ref nmA, .int (zprI (LL ++ [(k, t, zmm g (zsy w r t) k w)])), .int (nI le), .ref lA, .int (nI dr), .ref dA, .int (nI dn)])), (gA, .inl (cI, 96, .inl (fun jj => nI (g jj)))), (tA, .inl (cI, 24, .inl (fun jj => nI (r jj)))), (npA, .inl (cI, 192, .inl (fun jj => nI (zup pl LL.length k jj)))), (nsA, .inl (cI, 192, .inl (fun jj => nI (zup sl LL.length t jj)))), (nmA, .inl (cI, 192, .inl (fun jj => nI (zup ml LL.length (zmm g (zsy w r t) k w) jj))))] := by rw [zprI_new (x := (k, t, zmm g (zsy w r t) k w)) hnew, zlen1]; exact hD
            exact ih k (t + 1) (LL ++ [(k, t, zmm g (zsy w r t) k w)]) (zup pl LL.length k) (zup sl LL.length t) (zup ml LL.length (zmm g (zsy w r t) k w)) (by omega) (by rw [hLL]; show _ = zhs g r w b k t ++ zh1 g r w b k t; rw [zh1_yes (by omega)]) (by omega) hkw ⟨zAH_put (x := (k, t, zmm g (zsy w r t) k w)) hok.1, zAH_put (x := (k, t, zmm g (zsy w r t) k w)) hok.2.1, zAH_put (x := (k, t, zmm g (zsy w r t) k w)) hok.2.2.1, zok_put hok.2.2.2 hkw (show t ≤ 1 by omega) (show zmm g (zsy w r t) k w ≤ b by omega)⟩ _ _ hP hD hS ls (lv_sub hl [2, 3, 4, 0] rfl)
set_option maxHeartbeats 4000000 in
set_option maxRecDepth 100000 in
theorem j_seek (l : Launch) (D : va_G) (cI cC : ClassId)  (m0 gA n tA w fo pA sA mA ma npA nsA nmA le lA dr dA dn : Nat) (ch nc : Int32) (b : Nat) (g : Nat → Nat) (r : Nat → Nat) (pl0 sl0 ml0 : Nat → Nat) (hn : n ≤ 96) (hg : ∀ i, g i ≤ 4) (hw : w ≤ 24) (hr3 : ∀ i, i < w → r i ≤ 3) (hb4 : b ≤ 4) (hw1 : 0 < w) (sz : Nat) : Met l yX6_seek wsX6_seek ({ frames := 2, cells := 0, slots := 0, locals := 46 } : Room) (zPre zE0 D vwCl [(cI, .int), (cC, .char)] [.ref m0, .int (nI b)] [(m0, .inr (6, [.ref gA, .int (nI n), .ref tA, .int (nI w), .int (nI fo), .ref pA, .ref sA, .ref mA, .int ch, .int (nI ma), .ref npA, .ref nsA, .ref nmA, .int nc, .int (nI le), .ref lA, .int (nI dr), .ref dA, .int (nI dn)])), (gA, .inl (cI, 96, .inl (fun jj => nI (g jj)))), (tA, .inl (cI, 24, .inl (fun jj => nI (r jj)))), (npA, .inl (cI, 192, .inl (fun jj => nI (pl0 jj)))), (nsA, .inl (cI, 192, .inl (fun jj => nI (sl0 jj)))), (nmA, .inl (cI, 192, .inl (fun jj => nI (ml0 jj))))] sz) (va_Qv (fun (uu : (Nat → Nat) × (Nat → Nat) × (Nat → Nat)) => zAH uu.1 (zhits g r w b (zrm n w)) (fun x => x.1) ∧ zAH uu.2.1 (zhits g r w b (zrm n w)) (fun x => x.2.1) ∧ zAH uu.2.2 (zhits g r w b (zrm n w)) (fun x => x.2.2) ∧ zok n w b (zhits g r w b (zrm n w))) (fun (uu : (Nat → Nat) × (Nat → Nat) × (Nat → Nat)) t9 => va_P D vwCl ([(m0, .inr (6, [.ref gA, .int (nI n), .ref tA, .int (nI w), .int (nI fo), .ref pA, .ref sA, .ref mA, .int ch, .int (nI ((zhits g r w b (zrm n w)).length)), .ref npA, .ref nsA, .ref nmA, .int (zprI (zhits g r w b (zrm n w))), .int (nI le), .ref lA, .int (nI dr), .ref dA, .int (nI dn)])), (gA, .inl (cI, 96, .inl (fun jj => nI (g jj)))), (tA, .inl (cI, 24, .inl (fun jj => nI (r jj)))), (npA, .inl (cI, 192, .inl (fun jj => nI (uu.1 jj)))), (nsA, .inl (cI, 192, .inl (fun jj => nI (uu.2.1 jj)))), (nmA, .inl (cI, 192, .inl (fun jj => nI (uu.2.2 jj))))]) t9.heap) (va_A [(m0, .inr (6, [.ref gA, .int (nI n), .ref tA, .int (nI w), .int (nI fo), .ref pA, .ref sA, .ref mA, .int ch, .int (nI ma), .ref npA, .ref nsA, .ref nmA, .int nc, .int (nI le), .ref lA, .int (nI dr), .ref dA, .int (nI dn)])), (gA, .inl (cI, 96, .inl (fun jj => nI (g jj)))), (tA, .inl (cI, 24, .inl (fun jj => nI (r jj)))), (npA, .inl (cI, 192, .inl (fun jj => nI (pl0 jj)))), (nsA, .inl (cI, 192, .inl (fun jj => nI (sl0 jj)))), (nmA, .inl (cI, 192, .inl (fun jj => nI (ml0 jj))))] sz)) 0 0 (va_A [(m0, .inr (6, [.ref gA, .int (nI n), .ref tA, .int (nI w), .int (nI fo), .ref pA, .ref sA, .ref mA, .int ch, .int (nI ma), .ref npA, .ref nsA, .ref nmA, .int nc, .int (nI le), .ref lA, .int (nI dr), .ref dA, .int (nI dn)])), (gA, .inl (cI, 96, .inl (fun jj => nI (g jj)))), (tA, .inl (cI, 24, .inl (fun jj => nI (r jj)))), (npA, .inl (cI, 192, .inl (fun jj => nI (pl0 jj)))), (nsA, .inl (cI, 192, .inl (fun jj => nI (sl0 jj)))), (nmA, .inl (cI, 192, .inl (fun jj => nI (ml0 jj))))] sz) := by
  refine zMet (cc := cX6_seek) (maxL := 5) (ret := none) (Qc := fun A => (va_Qv (fun (uu : (Nat → Nat) × (Nat → Nat) × (Nat → Nat)) => zAH uu.1 (zhits g r w b (zrm n w)) (fun x => x.1) ∧ zAH uu.2.1 (zhits g r w b (zrm n w)) (fun x => x.2.1) ∧ zAH uu.2.2 (zhits g r w b (zrm n w)) (fun x => x.2.2) ∧ zok n w b (zhits g r w b (zrm n w))) (fun (uu : (Nat → Nat) × (Nat → Nat) × (Nat → Nat)) t9 => va_P D vwCl ([(m0, .inr (6, [.ref gA, .int (nI n), .ref tA, .int (nI w), .int (nI fo), .ref pA, .ref sA, .ref mA, .int ch, .int (nI ((zhits g r w b (zrm n w)).length)), .ref npA, .ref nsA, .ref nmA, .int (zprI (zhits g r w b (zrm n w))), .int (nI le), .ref lA, .int (nI dr), .ref dA, .int (nI dn)])), (gA, .inl (cI, 96, .inl (fun jj => nI (g jj)))), (tA, .inl (cI, 24, .inl (fun jj => nI (r jj)))), (npA, .inl (cI, 192, .inl (fun jj => nI (uu.1 jj)))), (nsA, .inl (cI, 192, .inl (fun jj => nI (uu.2.1 jj)))), (nmA, .inl (cI, 192, .inl (fun jj => nI (uu.2.2 jj))))]) t9.heap) A)) (by decide) rfl (Nat.le_of_ble_eq_true rfl) ?_
  intro pr en s0 mi bl me co A hC hA hK hE H locs hP hD hS ls hl
  obtain ⟨hx, hb, hr, hml, hown, hts, hlocks, hin⟩ := id hC
  have hl : lv_has ls 5 [(0, .ref m0), (1, .int (nI b))] := hl
  refine lv_aload_n hx hb dX6_seek_0 rfl (lv_at hl 0 rfl) ?_
  refine lv_iconst (v := nI 0) hx hb dX6_seek_1 (by decide) ?_
  refine va_put (D := D) (ci := 6) (v := .int (nI 0)) (ty := .int) (C := RX6) (T := TX6) (N := 19) hx hb hts (fun w h => List.mem_cons_of_mem _ (inUX6 w h)) tyX6 tyX6_ok nmX6 hown hK hP hD hS 0 rfl rfl 9 (by decide) (hts _ (List.mem_cons_of_mem _ mw_447)) (fun _ h9 => h9) rfl (by decide +kernel) rfl rfl (Nat.le_of_ble_eq_true rfl) dX6_seek_2 (fun H locs hP hD hS => ?_)
  have hP : va_P D vwCl [(m0, .inr (6, [.ref gA, .int (nI n), .ref tA, .int (nI w), .int (nI fo), .ref pA, .ref sA, .ref mA, .int ch, .int (nI 0), .ref npA, .ref nsA, .ref nmA, .int nc, .int (nI le), .ref lA, .int (nI dr), .ref dA, .int (nI dn)])), (gA, .inl (cI, 96, .inl (fun jj => nI (g jj)))), (tA, .inl (cI, 24, .inl (fun jj => nI (r jj)))), (npA, .inl (cI, 192, .inl (fun jj => nI (pl0 jj)))), (nsA, .inl (cI, 192, .inl (fun jj => nI (sl0 jj)))), (nmA, .inl (cI, 192, .inl (fun jj => nI (ml0 jj))))] H := hP
  have hD : va_D A [(m0, .inr (6, [.ref gA, .int (nI n), .ref tA, .int (nI w), .int (nI fo), .ref pA, .ref sA, .ref mA, .int ch, .int (nI 0), .ref npA, .ref nsA, .ref nmA, .int nc, .int (nI le), .ref lA, .int (nI dr), .ref dA, .int (nI dn)])), (gA, .inl (cI, 96, .inl (fun jj => nI (g jj)))), (tA, .inl (cI, 24, .inl (fun jj => nI (r jj)))), (npA, .inl (cI, 192, .inl (fun jj => nI (pl0 jj)))), (nsA, .inl (cI, 192, .inl (fun jj => nI (sl0 jj)))), (nmA, .inl (cI, 192, .inl (fun jj => nI (ml0 jj))))] := hD
  refine lv_aload_n hx hb dX6_seek_5 rfl (lv_at hl 0 rfl) ?_
  refine lv_iconst (v := (-1)) hx hb dX6_seek_6 (by decide) ?_
  refine va_put (D := D) (ci := 6) (v := .int ((-1))) (ty := .int) (C := RX6) (T := TX6) (N := 19) hx hb hts (fun w h => List.mem_cons_of_mem _ (inUX6 w h)) tyX6 tyX6_ok nmX6 hown hK hP hD hS 0 rfl rfl 13 (by decide) (hts _ (List.mem_cons_of_mem _ mw_451)) (fun _ h9 => h9) rfl (by decide +kernel) rfl rfl (Nat.le_of_ble_eq_true rfl) dX6_seek_7 (fun H locs hP hD hS => ?_)
  have hP : va_P D vwCl [(m0, .inr (6, [.ref gA, .int (nI n), .ref tA, .int (nI w), .int (nI fo), .ref pA, .ref sA, .ref mA, .int ch, .int (nI 0), .ref npA, .ref nsA, .ref nmA, .int ((-1)), .int (nI le), .ref lA, .int (nI dr), .ref dA, .int (nI dn)])), (gA, .inl (cI, 96, .inl (fun jj => nI (g jj)))), (tA, .inl (cI, 24, .inl (fun jj => nI (r jj)))), (npA, .inl (cI, 192, .inl (fun jj => nI (pl0 jj)))), (nsA, .inl (cI, 192, .inl (fun jj => nI (sl0 jj)))), (nmA, .inl (cI, 192, .inl (fun jj => nI (ml0 jj))))] H := hP
  have hD : va_D A [(m0, .inr (6, [.ref gA, .int (nI n), .ref tA, .int (nI w), .int (nI fo), .ref pA, .ref sA, .ref mA, .int ch, .int (nI 0), .ref npA, .ref nsA, .ref nmA, .int ((-1)), .int (nI le), .ref lA, .int (nI dr), .ref dA, .int (nI dn)])), (gA, .inl (cI, 96, .inl (fun jj => nI (g jj)))), (tA, .inl (cI, 24, .inl (fun jj => nI (r jj)))), (npA, .inl (cI, 192, .inl (fun jj => nI (pl0 jj)))), (nsA, .inl (cI, 192, .inl (fun jj => nI (sl0 jj)))), (nmA, .inl (cI, 192, .inl (fun jj => nI (ml0 jj))))] := hD
  refine lv_iconst (v := nI 0) hx hb dX6_seek_10 (by decide) ?_
  refine lv_istore_n (lv' := [(2, .int (nI 0)), (0, .ref m0), (1, .int (nI b))]) hx hb dX6_seek_11 rfl hl (by decide) rfl (fun ls hl => ?_)
  refine lv_iload_n hx hb dX6_seek_12 rfl (lv_at hl 0 rfl) ?_
  refine lv_aload_n hx hb dX6_seek_13 rfl (lv_at hl 1 rfl) ?_
  refine va_get (D := D) (ci := 6) (v := .int (nI w)) (C := RX6) (T := TX6) (N := 19) hx hb hts (fun w h => List.mem_cons_of_mem _ (inUX6 w h)) hown hK hP 0 rfl rfl 3 (by decide) (hts _ (List.mem_cons_of_mem _ mw_441)) (fun _ h9 => h9) rfl dX6_seek_14 ?_
  refine lv_iadd hx hb dX6_seek_17 ?_
  refine zz_top (y := nI w) (zadd (by omega)) ?_
  refine lv_aload_n hx hb dX6_seek_18 rfl (lv_at hl 1 rfl) ?_
  refine va_get (D := D) (ci := 6) (v := .int (nI n)) (C := RX6) (T := TX6) (N := 19) hx hb hts (fun w h => List.mem_cons_of_mem _ (inUX6 w h)) hown hK hP 0 rfl rfl 1 (by decide) (hts _ (List.mem_cons_of_mem _ mw_439)) (fun _ h9 => h9) rfl dX6_seek_19 ?_
  refine zz_gt (tgt := 135) hx hb dX6_seek_22 (by decide) (by omega) (by omega) (fun c22 => ?_) (fun c22 => ?_)
  · skip
    have e0 : zhits g r w b (zrm n w) = [] := by rw [show zrm n w = 0 by unfold zrm; rw [if_neg (by omega)]]; rfl
    have hP : va_P D vwCl [(m0, .inr (6, [.ref gA, .int (nI n), .ref tA, .int (nI w), .int (nI fo), .ref pA, .ref sA, .ref mA, .int ch, .int (nI ((zhits g r w b (zrm n w)).length)), .ref npA, .ref nsA, .ref nmA, .int (zprI (zhits g r w b (zrm n w))), .int (nI le), .ref lA, .int (nI dr), .ref dA, .int (nI dn)])), (gA, .inl (cI, 96, .inl (fun jj => nI (g jj)))), (tA, .inl (cI, 24, .inl (fun jj => nI (r jj)))), (npA, .inl (cI, 192, .inl (fun jj => nI (pl0 jj)))), (nsA, .inl (cI, 192, .inl (fun jj => nI (sl0 jj)))), (nmA, .inl (cI, 192, .inl (fun jj => nI (ml0 jj))))] H := by rw [e0]; exact hP
    have hD : va_D A [(m0, .inr (6, [.ref gA, .int (nI n), .ref tA, .int (nI w), .int (nI fo), .ref pA, .ref sA, .ref mA, .int ch, .int (nI ((zhits g r w b (zrm n w)).length)), .ref npA, .ref nsA, .ref nmA, .int (zprI (zhits g r w b (zrm n w))), .int (nI le), .ref lA, .int (nI dr), .ref dA, .int (nI dn)])), (gA, .inl (cI, 96, .inl (fun jj => nI (g jj)))), (tA, .inl (cI, 24, .inl (fun jj => nI (r jj)))), (npA, .inl (cI, 192, .inl (fun jj => nI (pl0 jj)))), (nsA, .inl (cI, 192, .inl (fun jj => nI (sl0 jj)))), (nmA, .inl (cI, 192, .inl (fun jj => nI (ml0 jj))))] := by rw [e0]; exact hD
    exact zVret hC hS (pl0, sl0, ml0) (by rw [e0]; exact ⟨fun i h => absurd h (Nat.not_lt_zero _), fun i h => absurd h (Nat.not_lt_zero _), fun i h => absurd h (Nat.not_lt_zero _), fun i h => absurd h (Nat.not_lt_zero _)⟩) hP dX6_seek_135
  · skip
    refine lv_iconst (v := nI 0) hx hb dX6_seek_25 (by decide) ?_
    refine lv_istore_n (lv' := [(3, .int (nI 0)), (2, .int (nI 0)), (0, .ref m0), (1, .int (nI b))]) hx hb dX6_seek_26 rfl hl (by decide) rfl (fun ls hl => ?_)
    have e0 : zhs g r w b 0 0 = [] := rfl
    have hP : va_P D vwCl [(m0, .inr (6, [.ref gA, .int (nI n), .ref tA, .int (nI w), .int (nI fo), .ref pA, .ref sA, .ref mA, .int ch, .int (nI ((zhs g r w b 0 0).length)), .ref npA, .ref nsA, .ref nmA, .int (zprI (zhs g r w b 0 0)), .int (nI le), .ref lA, .int (nI dr), .ref dA, .int (nI dn)])), (gA, .inl (cI, 96, .inl (fun jj => nI (g jj)))), (tA, .inl (cI, 24, .inl (fun jj => nI (r jj)))), (npA, .inl (cI, 192, .inl (fun jj => nI (pl0 jj)))), (nsA, .inl (cI, 192, .inl (fun jj => nI (sl0 jj)))), (nmA, .inl (cI, 192, .inl (fun jj => nI (ml0 jj))))] H := by rw [e0]; exact hP
    have hD : va_D A [(m0, .inr (6, [.ref gA, .int (nI n), .ref tA, .int (nI w), .int (nI fo), .ref pA, .ref sA, .ref mA, .int ch, .int (nI ((zhs g r w b 0 0).length)), .ref npA, .ref nsA, .ref nmA, .int (zprI (zhs g r w b 0 0)), .int (nI le), .ref lA, .int (nI dr), .ref dA, .int (nI dn)])), (gA, .inl (cI, 96, .inl (fun jj => nI (g jj)))), (tA, .inl (cI, 24, .inl (fun jj => nI (r jj)))), (npA, .inl (cI, 192, .inl (fun jj => nI (pl0 jj)))), (nsA, .inl (cI, 192, .inl (fun jj => nI (sl0 jj)))), (nmA, .inl (cI, 192, .inl (fun jj => nI (ml0 jj))))] := by rw [e0]; exact hD
    exact j_seek_L27 l D cI cC  m0 gA n tA w fo pA sA mA ma npA nsA nmA le lA dr dA dn ch nc b g r pl0 sl0 ml0 hn hg hw hr3 hb4 hw1 hC hA hK hE _ 0 0 (zhs g r w b 0 0) pl0 sl0 ml0 (Nat.lt_succ_self _) rfl (Nat.zero_le _) (by omega) ⟨fun i h => absurd h (Nat.not_lt_zero _), fun i h => absurd h (Nat.not_lt_zero _), fun i h => absurd h (Nat.not_lt_zero _), fun i h => absurd h (Nat.not_lt_zero _)⟩ _ _ hP hD hS ls (lv_sub hl [2, 3, 1, 0] rfl)
end
