/-! NAMES: classes, fields, methods, words; written by a program of mine out of the tables and the listing -/
def RX0 : String := "StrandMapper$Bases"
def TX0 : u_T := fun k => match k with
  | 0 => ("StrandMapper$Bases", "symbols", "[I", true)
  | _ => ("StrandMapper$Bases", "used", "I", false)
def tyX0 : Nat → FieldType := fun k => match k with
  | 0 => .array .int
  | _ => .int
theorem nmX0 : ∀ a, a < 2 → ∀ b, b < 2 → a ≠ b → (TX0 a).2.1 ≠ (TX0 b).2.1 := by decide +kernel
theorem tyX0_ok : ∀ k, k < 2 → parseFieldDescriptor (TX0 k).2.2.1 = some (tyX0 k) := by decide +kernel
def RX1 : String := "StrandMapper$HitList"
def TX1 : u_T := fun k => match k with
  | 0 => ("StrandMapper$HitList", "places", "[I", true)
  | 1 => ("StrandMapper$HitList", "strands", "[I", true)
  | 2 => ("StrandMapper$HitList", "mismatches", "[I", true)
  | 3 => ("StrandMapper$HitList", "amount", "I", false)
  | 4 => ("StrandMapper$HitList", "primary", "I", false)
  | _ => ("StrandMapper$HitList", "asGoodAsPrimary", "I", false)
def tyX1 : Nat → FieldType := fun k => match k with
  | 0 => .array .int
  | 1 => .array .int
  | 2 => .array .int
  | 3 => .int
  | 4 => .int
  | _ => .int
theorem nmX1 : ∀ a, a < 6 → ∀ b, b < 6 → a ≠ b → (TX1 a).2.1 ≠ (TX1 b).2.1 := by decide +kernel
theorem tyX1_ok : ∀ k, k < 6 → parseFieldDescriptor (TX1 k).2.2.1 = some (tyX1 k) := by decide +kernel
def RX2 : String := "StrandMapper$MapText"
def TX2 : u_T := fun k => match k with
  | 0 => ("StrandMapper$MapText", "characters", "[C", true)
  | _ => ("StrandMapper$MapText", "written", "I", false)
def tyX2 : Nat → FieldType := fun k => match k with
  | 0 => .array .char
  | _ => .int
theorem nmX2 : ∀ a, a < 2 → ∀ b, b < 2 → a ≠ b → (TX2 a).2.1 ≠ (TX2 b).2.1 := by decide +kernel
theorem tyX2_ok : ∀ k, k < 2 → parseFieldDescriptor (TX2 k).2.2.1 = some (tyX2 k) := by decide +kernel
def RX3 : String := "StrandMapper$Mapping"
def TX3 : u_T := fun k => match k with
  | 0 => ("StrandMapper$Mapping", "found", "LStrandMapper$HitList;", true)
  | _ => ("StrandMapper$Mapping", "text", "LStrandMapper$MapText;", true)
def tyX3 : Nat → FieldType := fun k => match k with
  | 0 => .object "StrandMapper$HitList"
  | _ => .object "StrandMapper$MapText"
theorem nmX3 : ∀ a, a < 2 → ∀ b, b < 2 → a ≠ b → (TX3 a).2.1 ≠ (TX3 b).2.1 := by decide +kernel
theorem tyX3_ok : ∀ k, k < 2 → parseFieldDescriptor (TX3 k).2.2.1 = some (tyX3 k) := by decide +kernel
def RX4 : String := "StrandMapper$SortedSuffixes"
def TX4 : u_T := fun k => match k with
  | 0 => ("StrandMapper$SortedSuffixes", "genome", "LStrandMapper$Bases;", true)
  | 1 => ("StrandMapper$SortedSuffixes", "rowOfPlace", "[I", true)
  | 2 => ("StrandMapper$SortedSuffixes", "order", "[I", true)
  | _ => ("StrandMapper$SortedSuffixes", "sorted", "Z", false)
def tyX4 : Nat → FieldType := fun k => match k with
  | 0 => .object "StrandMapper$Bases"
  | 1 => .array .int
  | 2 => .array .int
  | _ => .boolean
theorem nmX4 : ∀ a, a < 4 → ∀ b, b < 4 → a ≠ b → (TX4 a).2.1 ≠ (TX4 b).2.1 := by decide +kernel
theorem tyX4_ok : ∀ k, k < 4 → parseFieldDescriptor (TX4 k).2.2.1 = some (tyX4 k) := by decide +kernel
def RX5 : String := "StrandMapper"
def TX5 : u_T := fun k => match k with
  | 0 => ("StrandMapper", "genome", "LStrandMapper$Bases;", true)
  | 1 => ("StrandMapper", "suffixes", "LStrandMapper$SortedSuffixes;", true)
  | 2 => ("StrandMapper", "read", "LStrandMapper$Bases;", false)
  | 3 => ("StrandMapper", "turned", "LStrandMapper$Bases;", false)
  | 4 => ("StrandMapper", "latest", "LStrandMapper$Mapping;", false)
  | 5 => ("StrandMapper", "spare", "LStrandMapper$Mapping;", false)
  | _ => ("StrandMapper", "mappingsDone", "I", false)
def tyX5 : Nat → FieldType := fun k => match k with
  | 0 => .object "StrandMapper$Bases"
  | 1 => .object "StrandMapper$SortedSuffixes"
  | 2 => .object "StrandMapper$Bases"
  | 3 => .object "StrandMapper$Bases"
  | 4 => .object "StrandMapper$Mapping"
  | 5 => .object "StrandMapper$Mapping"
  | _ => .int
theorem nmX5 : ∀ a, a < 7 → ∀ b, b < 7 → a ≠ b → (TX5 a).2.1 ≠ (TX5 b).2.1 := by decide +kernel
theorem tyX5_ok : ∀ k, k < 7 → parseFieldDescriptor (TX5 k).2.2.1 = some (tyX5 k) := by decide +kernel
def RX6 : String := "StrandMapperModel"
def TX6 : u_T := fun k => match k with
  | 0 => ("StrandMapperModel", "genome", "[I", true)
  | 1 => ("StrandMapperModel", "bases", "I", false)
  | 2 => ("StrandMapperModel", "text", "[I", true)
  | 3 => ("StrandMapperModel", "width", "I", false)
  | 4 => ("StrandMapperModel", "found", "I", false)
  | 5 => ("StrandMapperModel", "places", "[I", true)
  | 6 => ("StrandMapperModel", "strands", "[I", true)
  | 7 => ("StrandMapperModel", "misses", "[I", true)
  | 8 => ("StrandMapperModel", "chief", "I", false)
  | 9 => ("StrandMapperModel", "many", "I", false)
  | 10 => ("StrandMapperModel", "newPlaces", "[I", true)
  | 11 => ("StrandMapperModel", "newStrands", "[I", true)
  | 12 => ("StrandMapperModel", "newMisses", "[I", true)
  | 13 => ("StrandMapperModel", "newChief", "I", false)
  | 14 => ("StrandMapperModel", "letters", "I", false)
  | 15 => ("StrandMapperModel", "lines", "[C", true)
  | 16 => ("StrandMapperModel", "drawn", "I", false)
  | 17 => ("StrandMapperModel", "draft", "[C", true)
  | _ => ("StrandMapperModel", "done", "I", false)
def tyX6 : Nat → FieldType := fun k => match k with
  | 0 => .array .int
  | 1 => .int
  | 2 => .array .int
  | 3 => .int
  | 4 => .int
  | 5 => .array .int
  | 6 => .array .int
  | 7 => .array .int
  | 8 => .int
  | 9 => .int
  | 10 => .array .int
  | 11 => .array .int
  | 12 => .array .int
  | 13 => .int
  | 14 => .int
  | 15 => .array .char
  | 16 => .int
  | 17 => .array .char
  | _ => .int
theorem nmX6 : ∀ a, a < 19 → ∀ b, b < 19 → a ≠ b → (TX6 a).2.1 ≠ (TX6 b).2.1 := by decide +kernel
theorem tyX6_ok : ∀ k, k < 19 → parseFieldDescriptor (TX6 k).2.2.1 = some (tyX6 k) := by decide +kernel
abbrev vwCl : List vw_C := [(RX0, TX0, 2), (RX1, TX1, 6), (RX2, TX2, 2), (RX3, TX3, 2), (RX4, TX4, 4), (RX5, TX5, 7), (RX6, TX6, 19)]
/-- the words that a call keeps -/
def zT : List Cond := lw_tbl.filter goodWord
theorem zin {w : Cond} (i : Nat) (h : lw_tbl[i]? = some w) (g : goodWord w = true) : w ∈ zT := List.mem_filter.mpr ⟨List.mem_of_getElem? h, g⟩
theorem zin_l {w : Cond} (h : w ∈ zT) : w ∈ lw_tbl := (List.mem_filter.mp h).1
theorem zin_g {w : Cond} (h : w ∈ zT) : (w.onTables && w.keeps) = true ∨ ∃ ty, w = .arrayClass ty := good_of_word (List.mem_filter.mp h).2
theorem zgoodX {big : List Cond} (hb : ∀ w ∈ zT, w ∈ big) {own : String} {idx : Nat} {C : String} {y : MethodName} {c : ByteArray} {n : Nat} {r : Option FieldType} (h1 : Cond.methodLink own idx y ∈ zT) (h2 : Cond.instanceMethod y ∈ zT) (h3 : Cond.selects C y y ∈ zT) (h4 : Cond.initialized C ∈ zT) (h5 : Cond.code y c n r ∈ zT) : GoodIn big (wsV own idx C y (Cond.code y c n r :: zT)) := by
  have hz : ∀ w ∈ zT, w ∈ big ∧ ((w.onTables && w.keeps) = true ∨ ∃ ty, w = .arrayClass ty) := fun w h => ⟨hb w h, zin_g h⟩
  intro w hw
  have hw : w ∈ ([.methodLink own idx y, .instanceMethod y, .selects C y y, .initialized C] : List Cond) ++ (Cond.code y c n r :: zT) := hw
  rcases List.mem_append.mp hw with hw | hw
  · simp only [List.mem_cons, List.not_mem_nil, or_false] at hw
    rcases hw with hw | hw | hw | hw <;> rw [hw]
    · exact hz _ h1
    · exact hz _ h2
    · exact hz _ h3
    · exact hz _ h4
  · rcases List.mem_cons.mp hw with hw | hw
    · rw [hw]; exact hz _ h5
    · exact hz _ hw
theorem zgoodSX {big : List Cond} (hb : ∀ w ∈ zT, w ∈ big) {own : String} {idx : Nat} {y : MethodName} {c : ByteArray} {n : Nat} {r : Option FieldType} (h1 : Cond.methodLink own idx y ∈ zT) (h2 : Cond.static y ∈ zT) (h4 : Cond.initialized y.cls ∈ zT) (h5 : Cond.code y c n r ∈ zT) : GoodIn big (va_wsS own idx y (Cond.code y c n r :: zT)) := by
  have hz : ∀ w ∈ zT, w ∈ big ∧ ((w.onTables && w.keeps) = true ∨ ∃ ty, w = .arrayClass ty) := fun w h => ⟨hb w h, zin_g h⟩
  intro w hw
  have hw : w ∈ ([.methodLink own idx y, .static y, .initialized y.cls] : List Cond) ++ (Cond.code y c n r :: zT) := hw
  rcases List.mem_append.mp hw with hw | hw
  · simp only [List.mem_cons, List.not_mem_nil, or_false] at hw
    rcases hw with hw | hw | hw <;> rw [hw]
    · exact hz _ h1
    · exact hz _ h2
    · exact hz _ h4
  · rcases List.mem_cons.mp hw with hw | hw
    · rw [hw]; exact hz _ h5
    · exact hz _ hw
theorem zgoodIX {big : List Cond} (hb : ∀ w ∈ zT, w ∈ big) {y : MethodName} {c : ByteArray} {n : Nat} {r : Option FieldType} (h5 : Cond.code y c n r ∈ zT) : GoodIn big (Cond.code y c n r :: zT) := by
  intro w hw
  rcases List.mem_cons.mp hw with hw | hw
  · rw [hw]; exact ⟨hb _ h5, zin_g h5⟩
  · exact ⟨hb _ hw, zin_g hw⟩
theorem zgood {w0 : Cond} {own : String} {idx : Nat} {C : String} {y : MethodName} {c : ByteArray} {n : Nat} {r : Option FieldType} (h1 : Cond.methodLink own idx y ∈ zT) (h2 : Cond.instanceMethod y ∈ zT) (h3 : Cond.selects C y y ∈ zT) (h4 : Cond.initialized C ∈ zT) (h5 : Cond.code y c n r ∈ zT) : GoodIn (w0 :: zT) (wsV own idx C y (Cond.code y c n r :: zT)) := zgoodX (fun _ h => List.mem_cons_of_mem _ h) h1 h2 h3 h4 h5
theorem zgoodL {own : String} {idx : Nat} {C : String} {y : MethodName} {c : ByteArray} {n : Nat} {r : Option FieldType} (h1 : Cond.methodLink own idx y ∈ zT) (h2 : Cond.instanceMethod y ∈ zT) (h3 : Cond.selects C y y ∈ zT) (h4 : Cond.initialized C ∈ zT) (h5 : Cond.code y c n r ∈ zT) : GoodIn lw_tbl (wsV own idx C y (Cond.code y c n r :: zT)) := zgoodX (fun _ h => zin_l h) h1 h2 h3 h4 h5
theorem zgoodS {w0 : Cond} {own : String} {idx : Nat} {y : MethodName} {c : ByteArray} {n : Nat} {r : Option FieldType} (h1 : Cond.methodLink own idx y ∈ zT) (h2 : Cond.static y ∈ zT) (h4 : Cond.initialized y.cls ∈ zT) (h5 : Cond.code y c n r ∈ zT) : GoodIn (w0 :: zT) (va_wsS own idx y (Cond.code y c n r :: zT)) := zgoodSX (fun _ h => List.mem_cons_of_mem _ h) h1 h2 h4 h5
theorem zgoodI {w0 : Cond} {y : MethodName} {c : ByteArray} {n : Nat} {r : Option FieldType} (h5 : Cond.code y c n r ∈ zT) : GoodIn (w0 :: zT) (Cond.code y c n r :: zT) := zgoodIX (fun _ h => List.mem_cons_of_mem _ h) h5
theorem zgoodIL {y : MethodName} {c : ByteArray} {n : Nat} {r : Option FieldType} (h5 : Cond.code y c n r ∈ zT) : GoodIn lw_tbl (Cond.code y c n r :: zT) := zgoodIX (fun _ h => zin_l h) h5
abbrev cX0_isFull : ByteArray := prog_2_method_2_code
def yX0_isFull : MethodName := ⟨"StrandMapper$Bases", "isFull", "()Z"⟩
def wsX0_isFull : List Cond := .code yX0_isFull cX0_isFull 1 (some .boolean) :: zT
abbrev cX0_append : ByteArray := prog_2_method_3_code
def yX0_append : MethodName := ⟨"StrandMapper$Bases", "append", "(I)V"⟩
def wsX0_append : List Cond := .code yX0_append cX0_append 2 none :: zT
abbrev cX0_empty : ByteArray := prog_2_method_4_code
def yX0_empty : MethodName := ⟨"StrandMapper$Bases", "empty", "()V"⟩
def wsX0_empty : List Cond := .code yX0_empty cX0_empty 1 none :: zT
abbrev cX0_becomeTurned : ByteArray := prog_2_method_5_code
def yX0_becomeTurned : MethodName := ⟨"StrandMapper$Bases", "becomeTurned", "(LStrandMapper$Bases;)V"⟩
def wsX0_becomeTurned : List Cond := .code yX0_becomeTurned cX0_becomeTurned 3 none :: zT
abbrev cX0_hasRoomAt : ByteArray := prog_2_method_6_code
def yX0_hasRoomAt : MethodName := ⟨"StrandMapper$Bases", "hasRoomAt", "(ILStrandMapper$Bases;)Z"⟩
def wsX0_hasRoomAt : List Cond := .code yX0_hasRoomAt cX0_hasRoomAt 3 (some .boolean) :: zT
abbrev cX0_mismatchesAt : ByteArray := prog_2_method_8_code
def yX0_mismatchesAt : MethodName := ⟨"StrandMapper$Bases", "mismatchesAt", "(ILStrandMapper$Bases;I)I"⟩
def wsX0_mismatchesAt : List Cond := .code yX0_mismatchesAt cX0_mismatchesAt 6 (some .int) :: zT
abbrev cX0_holdsAt : ByteArray := prog_2_method_7_code
def yX0_holdsAt : MethodName := ⟨"StrandMapper$Bases", "holdsAt", "(ILStrandMapper$Bases;)Z"⟩
def wsX0_holdsAt : List Cond := .code yX0_holdsAt cX0_holdsAt 3 (some .boolean) :: zT
abbrev cX4_forget : ByteArray := prog_6_method_2_code
def yX4_forget : MethodName := ⟨"StrandMapper$SortedSuffixes", "forget", "()V"⟩
def wsX4_forget : List Cond := .code yX4_forget cX4_forget 1 none :: zT
abbrev cX4_rows : ByteArray := prog_6_method_3_code
def yX4_rows : MethodName := ⟨"StrandMapper$SortedSuffixes", "rows", "()I"⟩
def wsX4_rows : List Cond := .code yX4_rows cX4_rows 1 (some .int) :: zT
abbrev cX4_hasRow : ByteArray := prog_6_method_4_code
def yX4_hasRow : MethodName := ⟨"StrandMapper$SortedSuffixes", "hasRow", "(I)Z"⟩
def wsX4_hasRow : List Cond := .code yX4_hasRow cX4_hasRow 2 (some .boolean) :: zT
abbrev cX4_insert : ByteArray := prog_6_method_8_code
def yX4_insert : MethodName := ⟨"StrandMapper$SortedSuffixes", "insert", "(I)V"⟩
def wsX4_insert : List Cond := .code yX4_insert cX4_insert 8 none :: zT
abbrev cX4_sort : ByteArray := prog_6_method_7_code
def yX4_sort : MethodName := ⟨"StrandMapper$SortedSuffixes", "sort", "()V"⟩
def wsX4_sort : List Cond := .code yX4_sort cX4_sort 2 none :: zT
abbrev cX4_placeOfRow : ByteArray := prog_6_method_5_code
def yX4_placeOfRow : MethodName := ⟨"StrandMapper$SortedSuffixes", "placeOfRow", "(I)I"⟩
def wsX4_placeOfRow : List Cond := .code yX4_placeOfRow cX4_placeOfRow 2 (some .int) :: zT
abbrev cX4_symbolBefore : ByteArray := prog_6_method_6_code
def yX4_symbolBefore : MethodName := ⟨"StrandMapper$SortedSuffixes", "symbolBefore", "(I)I"⟩
def wsX4_symbolBefore : List Cond := .code yX4_symbolBefore cX4_symbolBefore 3 (some .int) :: zT
abbrev cX6_weight : ByteArray := prog_8_method_9_code
def yX6_weight : MethodName := ⟨"StrandMapperModel", "weight", "(I)I"⟩
def wsX6_weight : List Cond := .code yX6_weight cX6_weight 2 (some .int) :: zT
abbrev cX6_less : ByteArray := prog_8_method_10_code
def yX6_less : MethodName := ⟨"StrandMapperModel", "less", "(II)Z"⟩
def wsX6_less : List Cond := .code yX6_less cX6_less 6 (some .boolean) :: zT
abbrev cX6_before : ByteArray := prog_8_method_11_code
def yX6_before : MethodName := ⟨"StrandMapperModel", "before", "(I)I"⟩
def wsX6_before : List Cond := .code yX6_before cX6_before 4 (some .int) :: zT
abbrev cX6_row : ByteArray := prog_8_method_12_code
def yX6_row : MethodName := ⟨"StrandMapperModel", "row", "(I)I"⟩
def wsX6_row : List Cond := .code yX6_row cX6_row 3 (some .int) :: zT
abbrev cX6_base : ByteArray := prog_8_method_2_code
def yX6_base : MethodName := ⟨"StrandMapperModel", "base", "(I)Z"⟩
def wsX6_base : List Cond := .code yX6_base cX6_base 2 (some .boolean) :: zT
abbrev cX6_clear : ByteArray := prog_8_method_3_code
def yX6_clear : MethodName := ⟨"StrandMapperModel", "clear", "()V"⟩
def wsX6_clear : List Cond := .code yX6_clear cX6_clear 1 none :: zT
abbrev cX6_read : ByteArray := prog_8_method_4_code
def yX6_read : MethodName := ⟨"StrandMapperModel", "read", "(I)Z"⟩
def wsX6_read : List Cond := .code yX6_read cX6_read 2 (some .boolean) :: zT
abbrev cX6_wipe : ByteArray := prog_8_method_5_code
def yX6_wipe : MethodName := ⟨"StrandMapperModel", "wipe", "()V"⟩
def wsX6_wipe : List Cond := .code yX6_wipe cX6_wipe 1 none :: zT
abbrev cX6_symbol : ByteArray := prog_8_method_6_code
def yX6_symbol : MethodName := ⟨"StrandMapperModel", "symbol", "(II)I"⟩
def wsX6_symbol : List Cond := .code yX6_symbol cX6_symbol 3 (some .int) :: zT
abbrev cX6_turn : ByteArray := prog_8_method_7_code
def yX6_turn : MethodName := ⟨"StrandMapperModel", "turn", "()V"⟩
def wsX6_turn : List Cond := .code yX6_turn cX6_turn 3 none :: zT
abbrev cX6_length : ByteArray := prog_8_method_8_code
def yX6_length : MethodName := ⟨"StrandMapperModel", "length", "(Z)I"⟩
def wsX6_length : List Cond := .code yX6_length cX6_length 2 (some .int) :: zT
abbrev cX6_hits : ByteArray := prog_8_method_34_code
def yX6_hits : MethodName := ⟨"StrandMapperModel", "hits", "()I"⟩
def wsX6_hits : List Cond := .code yX6_hits cX6_hits 1 (some .int) :: zT
abbrev cX6_size : ByteArray := prog_8_method_36_code
def yX6_size : MethodName := ⟨"StrandMapperModel", "size", "()I"⟩
def wsX6_size : List Cond := .code yX6_size cX6_size 1 (some .int) :: zT
abbrev cX6_mappings : ByteArray := prog_8_method_38_code
def yX6_mappings : MethodName := ⟨"StrandMapperModel", "mappings", "()I"⟩
def wsX6_mappings : List Cond := .code yX6_mappings cX6_mappings 1 (some .int) :: zT
abbrev cX6_hit : ByteArray := prog_8_method_35_code
def yX6_hit : MethodName := ⟨"StrandMapperModel", "hit", "(II)I"⟩
def wsX6_hit : List Cond := .code yX6_hit cX6_hit 3 (some .int) :: zT
abbrev cX6_at : ByteArray := prog_8_method_37_code
def yX6_at : MethodName := ⟨"StrandMapperModel", "at", "(I)I"⟩
def wsX6_at : List Cond := .code yX6_at cX6_at 2 (some .int) :: zT
abbrev cX6_starts : ByteArray := prog_8_method_15_code
def yX6_starts : MethodName := ⟨"StrandMapperModel", "starts", "(I)Z"⟩
def wsX6_starts : List Cond := .code yX6_starts cX6_starts 4 (some .boolean) :: zT
abbrev cX6_first : ByteArray := prog_8_method_16_code
def yX6_first : MethodName := ⟨"StrandMapperModel", "first", "()I"⟩
def wsX6_first : List Cond := .code yX6_first cX6_first 4 (some .int) :: zT
abbrev cX6_count : ByteArray := prog_8_method_17_code
def yX6_count : MethodName := ⟨"StrandMapperModel", "count", "()I"⟩
def wsX6_count : List Cond := .code yX6_count cX6_count 3 (some .int) :: zT
abbrev cX6_differ : ByteArray := prog_8_method_18_code
def yX6_differ : MethodName := ⟨"StrandMapperModel", "differ", "(II)I"⟩
def wsX6_differ : List Cond := .code yX6_differ cX6_differ 5 (some .int) :: zT
abbrev cX6_last : ByteArray := prog_8_method_13_code
def yX6_last : MethodName := ⟨"StrandMapperModel", "last", "(I)I"⟩
def wsX6_last : List Cond := .code yX6_last cX6_last 3 (some .int) :: zT
abbrev cX6_rank : ByteArray := prog_8_method_14_code
def yX6_rank : MethodName := ⟨"StrandMapperModel", "rank", "(II)I"⟩
def wsX6_rank : List Cond := .code yX6_rank cX6_rank 6 (some .int) :: zT
abbrev cX5_base : ByteArray := prog_1_method_2_code
def yX5_base : MethodName := ⟨"StrandMapper", "base", "(I)Z"⟩
def wsX5_base : List Cond := .code yX5_base cX5_base 2 (some .boolean) :: zT
abbrev cX5_clear : ByteArray := prog_1_method_3_code
def yX5_clear : MethodName := ⟨"StrandMapper", "clear", "()V"⟩
def wsX5_clear : List Cond := .code yX5_clear cX5_clear 1 none :: zT
abbrev cX5_read : ByteArray := prog_1_method_4_code
def yX5_read : MethodName := ⟨"StrandMapper", "read", "(I)Z"⟩
def wsX5_read : List Cond := .code yX5_read cX5_read 2 (some .boolean) :: zT
abbrev cX5_wipe : ByteArray := prog_1_method_5_code
def yX5_wipe : MethodName := ⟨"StrandMapper", "wipe", "()V"⟩
def wsX5_wipe : List Cond := .code yX5_wipe cX5_wipe 1 none :: zT
abbrev cX5_turn : ByteArray := prog_1_method_6_code
def yX5_turn : MethodName := ⟨"StrandMapper", "turn", "()V"⟩
def wsX5_turn : List Cond := .code yX5_turn cX5_turn 2 none :: zT
abbrev cX5_length : ByteArray := prog_1_method_7_code
def yX5_length : MethodName := ⟨"StrandMapper", "length", "(Z)I"⟩
def wsX5_length : List Cond := .code yX5_length cX5_length 2 (some .int) :: zT
abbrev cX5_row : ByteArray := prog_1_method_8_code
def yX5_row : MethodName := ⟨"StrandMapper", "row", "(I)I"⟩
def wsX5_row : List Cond := .code yX5_row cX5_row 2 (some .int) :: zT
abbrev cX5_last : ByteArray := prog_1_method_9_code
def yX5_last : MethodName := ⟨"StrandMapper", "last", "(I)I"⟩
def wsX5_last : List Cond := .code yX5_last cX5_last 2 (some .int) :: zT
abbrev cX5_rank : ByteArray := prog_1_method_10_code
def yX5_rank : MethodName := ⟨"StrandMapper", "rank", "(II)I"⟩
def wsX5_rank : List Cond := .code yX5_rank cX5_rank 5 (some .int) :: zT
abbrev cX5_first : ByteArray := prog_1_method_11_code
def yX5_first : MethodName := ⟨"StrandMapper", "first", "()I"⟩
def wsX5_first : List Cond := .code yX5_first cX5_first 2 (some .int) :: zT
abbrev cX5_count : ByteArray := prog_1_method_12_code
def yX5_count : MethodName := ⟨"StrandMapper", "count", "()I"⟩
def wsX5_count : List Cond := .code yX5_count cX5_count 3 (some .int) :: zT
abbrev cX5_hits : ByteArray := prog_1_method_14_code
def yX5_hits : MethodName := ⟨"StrandMapper", "hits", "()I"⟩
def wsX5_hits : List Cond := .code yX5_hits cX5_hits 1 (some .int) :: zT
abbrev cX5_size : ByteArray := prog_1_method_16_code
def yX5_size : MethodName := ⟨"StrandMapper", "size", "()I"⟩
def wsX5_size : List Cond := .code yX5_size cX5_size 1 (some .int) :: zT
abbrev cX5_mappings : ByteArray := prog_1_method_18_code
def yX5_mappings : MethodName := ⟨"StrandMapper", "mappings", "()I"⟩
def wsX5_mappings : List Cond := .code yX5_mappings cX5_mappings 1 (some .int) :: zT
abbrev cX5_at : ByteArray := prog_1_method_17_code
def yX5_at : MethodName := ⟨"StrandMapper", "at", "(I)I"⟩
def wsX5_at : List Cond := .code yX5_at cX5_at 3 (some .int) :: zT
abbrev cX6_put : ByteArray := prog_8_method_21_code
def yX6_put : MethodName := ⟨"StrandMapperModel", "put", "(I)V"⟩
def wsX6_put : List Cond := .code yX6_put cX6_put 2 none :: zT
abbrev cX6_putNumber : ByteArray := prog_8_method_22_code
def yX6_putNumber : MethodName := ⟨"StrandMapperModel", "putNumber", "(I)V"⟩
def wsX6_putNumber : List Cond := .code yX6_putNumber cX6_putNumber 3 none :: zT
abbrev cX6_putBase : ByteArray := prog_8_method_23_code
def yX6_putBase : MethodName := ⟨"StrandMapperModel", "putBase", "(I)V"⟩
def wsX6_putBase : List Cond := .code yX6_putBase cX6_putBase 2 none :: zT
abbrev cX6_tab : ByteArray := prog_8_method_24_code
def yX6_tab : MethodName := ⟨"StrandMapperModel", "tab", "()V"⟩
def wsX6_tab : List Cond := .code yX6_tab cX6_tab 1 none :: zT
abbrev cX6_pair : ByteArray := prog_8_method_25_code
def yX6_pair : MethodName := ⟨"StrandMapperModel", "pair", "(II)V"⟩
def wsX6_pair : List Cond := .code yX6_pair cX6_pair 3 none :: zT
abbrev cX6_head : ByteArray := prog_8_method_26_code
def yX6_head : MethodName := ⟨"StrandMapperModel", "head", "()V"⟩
def wsX6_head : List Cond := .code yX6_head cX6_head 1 none :: zT
abbrev cX6_noMate : ByteArray := prog_8_method_28_code
def yX6_noMate : MethodName := ⟨"StrandMapperModel", "noMate", "()V"⟩
def wsX6_noMate : List Cond := .code yX6_noMate cX6_noMate 1 none :: zT
abbrev cX6_putRead : ByteArray := prog_8_method_27_code
def yX6_putRead : MethodName := ⟨"StrandMapperModel", "putRead", "(I)V"⟩
def wsX6_putRead : List Cond := .code yX6_putRead cX6_putRead 3 none :: zT
abbrev cX6_putDifferences : ByteArray := prog_8_method_29_code
def yX6_putDifferences : MethodName := ⟨"StrandMapperModel", "putDifferences", "(II)V"⟩
def wsX6_putDifferences : List Cond := .code yX6_putDifferences cX6_putDifferences 5 none :: zT
abbrev cX6_quality : ByteArray := prog_8_method_20_code
def yX6_quality : MethodName := ⟨"StrandMapperModel", "quality", "(I)I"⟩
def wsX6_quality : List Cond := .code yX6_quality cX6_quality 4 (some .int) :: zT
abbrev cX6_seek : ByteArray := prog_8_method_19_code
def yX6_seek : MethodName := ⟨"StrandMapperModel", "seek", "(I)V"⟩
def wsX6_seek : List Cond := .code yX6_seek cX6_seek 5 none :: zT
abbrev cX6_putHit : ByteArray := prog_8_method_30_code
def yX6_putHit : MethodName := ⟨"StrandMapperModel", "putHit", "(I)V"⟩
def wsX6_putHit : List Cond := .code yX6_putHit cX6_putHit 3 none :: zT
abbrev cX6_putNothing : ByteArray := prog_8_method_31_code
def yX6_putNothing : MethodName := ⟨"StrandMapperModel", "putNothing", "()V"⟩
def wsX6_putNothing : List Cond := .code yX6_putNothing cX6_putNothing 1 none :: zT
abbrev cX6_keep : ByteArray := prog_8_method_32_code
def yX6_keep : MethodName := ⟨"StrandMapperModel", "keep", "()V"⟩
def wsX6_keep : List Cond := .code yX6_keep cX6_keep 2 none :: zT
abbrev cX6_map : ByteArray := prog_8_method_33_code
def yX6_map : MethodName := ⟨"StrandMapperModel", "map", "(I)I"⟩
def wsX6_map : List Cond := .code yX6_map cX6_map 3 (some .int) :: zT
abbrev cX1_empty : ByteArray := prog_3_method_2_code
def yX1_empty : MethodName := ⟨"StrandMapper$HitList", "empty", "()V"⟩
def wsX1_empty : List Cond := .code yX1_empty cX1_empty 1 none :: zT
abbrev cX1_append : ByteArray := prog_3_method_3_code
def yX1_append : MethodName := ⟨"StrandMapper$HitList", "append", "(III)V"⟩
def wsX1_append : List Cond := .code yX1_append cX1_append 4 none :: zT
abbrev cX1_flagOf : ByteArray := prog_3_method_4_code
def yX1_flagOf : MethodName := ⟨"StrandMapper$HitList", "flagOf", "(I)I"⟩
def wsX1_flagOf : List Cond := .code yX1_flagOf cX1_flagOf 2 (some .int) :: zT
abbrev cX1_qualityOf : ByteArray := prog_3_method_5_code
def yX1_qualityOf : MethodName := ⟨"StrandMapper$HitList", "qualityOf", "(I)I"⟩
def wsX1_qualityOf : List Cond := .code yX1_qualityOf cX1_qualityOf 2 (some .int) :: zT
abbrev cX3_tryStrand : ByteArray := prog_5_method_3_code
def yX3_tryStrand : MethodName := ⟨"StrandMapper$Mapping", "tryStrand", "(LStrandMapper$Bases;ILStrandMapper$Bases;II)V"⟩
def wsX3_tryStrand : List Cond := .code yX3_tryStrand cX3_tryStrand 7 none :: zT
abbrev cX3_findHits : ByteArray := prog_5_method_2_code
def yX3_findHits : MethodName := ⟨"StrandMapper$Mapping", "findHits", "(LStrandMapper$Bases;LStrandMapper$Bases;LStrandMapper$Bases;I)V"⟩
def wsX3_findHits : List Cond := .code yX3_findHits cX3_findHits 6 none :: zT
abbrev cJ0_coder : ByteArray := prog_9_method_152_code
def yJ0_coder : MethodName := ⟨"java/lang/String", "coder", "()B"⟩
def wsJ0_coder : List Cond := .code yJ0_coder cJ0_coder 1 (some .byte) :: zT
abbrev cJ0_isLatin1 : ByteArray := prog_9_method_154_code
def yJ0_isLatin1 : MethodName := ⟨"java/lang/String", "isLatin1", "()Z"⟩
def wsJ0_isLatin1 : List Cond := .code yJ0_isLatin1 cJ0_isLatin1 1 (some .boolean) :: zT
abbrev cJ0_length : ByteArray := prog_9_method_54_code
def yJ0_length : MethodName := ⟨"java/lang/String", "length", "()I"⟩
def wsJ0_length : List Cond := .code yJ0_length cJ0_length 1 (some .int) :: zT
abbrev cJ3_checkIndex : ByteArray := prog_12_method_11_code
def yJ3_checkIndex : MethodName := ⟨"jdk/internal/util/Preconditions", "checkIndex", "(IILjava/util/function/BiFunction;)I"⟩
def wsJ3_checkIndex : List Cond := .code yJ3_checkIndex cJ3_checkIndex 3 (some .int) :: zT
abbrev cJ0_checkIndex : ByteArray := prog_9_method_155_code
def yJ0_checkIndex : MethodName := ⟨"java/lang/String", "checkIndex", "(II)V"⟩
def wsJ0_checkIndex : List Cond := .code yJ0_checkIndex cJ0_checkIndex 2 none :: zT
abbrev cJ1_charAt : ByteArray := prog_10_method_2_code
def yJ1_charAt : MethodName := ⟨"java/lang/StringLatin1", "charAt", "([BI)C"⟩
def wsJ1_charAt : List Cond := .code yJ1_charAt cJ1_charAt 2 (some .char) :: zT
abbrev cJ0_charAt : ByteArray := prog_9_method_56_code
def yJ0_charAt : MethodName := ⟨"java/lang/String", "charAt", "(I)C"⟩
def wsJ0_charAt : List Cond := .code yJ0_charAt cJ0_charAt 2 (some .char) :: zT
abbrev cX2_empty : ByteArray := prog_4_method_2_code
def yX2_empty : MethodName := ⟨"StrandMapper$MapText", "empty", "()V"⟩
def wsX2_empty : List Cond := .code yX2_empty cX2_empty 1 none :: zT
abbrev cX2_isOver : ByteArray := prog_4_method_3_code
def yX2_isOver : MethodName := ⟨"StrandMapper$MapText", "isOver", "()Z"⟩
def wsX2_isOver : List Cond := .code yX2_isOver cX2_isOver 1 (some .boolean) :: zT
abbrev cX2_put : ByteArray := prog_4_method_4_code
def yX2_put : MethodName := ⟨"StrandMapper$MapText", "put", "(C)V"⟩
def wsX2_put : List Cond := .code yX2_put cX2_put 2 none :: zT
abbrev cX2_putText : ByteArray := prog_4_method_5_code
def yX2_putText : MethodName := ⟨"StrandMapper$MapText", "putText", "(Ljava/lang/String;)V"⟩
def wsX2_putText : List Cond := .code yX2_putText cX2_putText 3 none :: zT
abbrev cX2_putNumber : ByteArray := prog_4_method_6_code
def yX2_putNumber : MethodName := ⟨"StrandMapper$MapText", "putNumber", "(I)V"⟩
def wsX2_putNumber : List Cond := .code yX2_putNumber cX2_putNumber 5 none :: zT
abbrev cX2_putBases : ByteArray := prog_4_method_7_code
def yX2_putBases : MethodName := ⟨"StrandMapper$MapText", "putBases", "(LStrandMapper$Bases;)V"⟩
def wsX2_putBases : List Cond := .code yX2_putBases cX2_putBases 3 none :: zT
abbrev cX2_putDifferences : ByteArray := prog_4_method_8_code
def yX2_putDifferences : MethodName := ⟨"StrandMapper$MapText", "putDifferences", "(LStrandMapper$Bases;ILStrandMapper$Bases;)V"⟩
def wsX2_putDifferences : List Cond := .code yX2_putDifferences cX2_putDifferences 7 none :: zT
abbrev cX3_writeNoHit : ByteArray := prog_5_method_5_code
def yX3_writeNoHit : MethodName := ⟨"StrandMapper$Mapping", "writeNoHit", "(LStrandMapper$Bases;I)V"⟩
def wsX3_writeNoHit : List Cond := .code yX3_writeNoHit cX3_writeNoHit 3 none :: zT
abbrev cX3_writeHit : ByteArray := prog_5_method_6_code
def yX3_writeHit : MethodName := ⟨"StrandMapper$Mapping", "writeHit", "(LStrandMapper$Bases;LStrandMapper$Bases;II)V"⟩
def wsX3_writeHit : List Cond := .code yX3_writeHit cX3_writeHit 5 none :: zT
abbrev cX3_writeMap : ByteArray := prog_5_method_4_code
def yX3_writeMap : MethodName := ⟨"StrandMapper$Mapping", "writeMap", "(LStrandMapper$Bases;LStrandMapper$Bases;LStrandMapper$Bases;I)V"⟩
def wsX3_writeMap : List Cond := .code yX3_writeMap cX3_writeMap 6 none :: zT
abbrev cX5_map : ByteArray := prog_1_method_13_code
def yX5_map : MethodName := ⟨"StrandMapper", "map", "(I)I"⟩
def wsX5_map : List Cond := .code yX5_map cX5_map 3 (some .int) :: zT
abbrev cX5_hit : ByteArray := prog_1_method_15_code
def yX5_hit : MethodName := ⟨"StrandMapper", "hit", "(II)I"⟩
def wsX5_hit : List Cond := .code yX5_hit cX5_hit 4 (some .int) :: zT
abbrev cX0_init : ByteArray := prog_2_method_1_code
def yX0_init : MethodName := ⟨"StrandMapper$Bases", "<init>", "(I)V"⟩
def wsX0_init : List Cond := .code yX0_init cX0_init 2 none :: zT
abbrev cX4_init : ByteArray := prog_6_method_1_code
def yX4_init : MethodName := ⟨"StrandMapper$SortedSuffixes", "<init>", "(LStrandMapper$Bases;)V"⟩
def wsX4_init : List Cond := .code yX4_init cX4_init 2 none :: zT
abbrev cX1_init : ByteArray := prog_3_method_1_code
def yX1_init : MethodName := ⟨"StrandMapper$HitList", "<init>", "()V"⟩
def wsX1_init : List Cond := .code yX1_init cX1_init 1 none :: zT
abbrev cX2_init : ByteArray := prog_4_method_1_code
def yX2_init : MethodName := ⟨"StrandMapper$MapText", "<init>", "()V"⟩
def wsX2_init : List Cond := .code yX2_init cX2_init 1 none :: zT
abbrev cX3_init : ByteArray := prog_5_method_1_code
def yX3_init : MethodName := ⟨"StrandMapper$Mapping", "<init>", "()V"⟩
def wsX3_init : List Cond := .code yX3_init cX3_init 1 none :: zT
abbrev cX5_init : ByteArray := prog_1_method_1_code
def yX5_init : MethodName := ⟨"StrandMapper", "<init>", "()V"⟩
def wsX5_init : List Cond := .code yX5_init cX5_init 1 none :: zT
abbrev cX6_init : ByteArray := prog_8_method_1_code
def yX6_init : MethodName := ⟨"StrandMapperModel", "<init>", "()V"⟩
def wsX6_init : List Cond := .code yX6_init cX6_init 1 none :: zT
