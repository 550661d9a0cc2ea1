section
/-! ===== BEGIN words of one list among another's, by their places ===== -/
theorem goodIn_r {big : List Cond} (ws : List Cond) (ps : List Nat) (hp : ws = ps.filterMap (fun i => big[i]?)) (h : ws.all goodWord = true) : GoodIn big ws := by
  intro w hw
  have h1 := List.all_eq_true.mp h w hw
  rw [hp] at hw
  obtain ⟨i, -, hi⟩ := List.mem_filterMap.mp hw
  have hm : w ∈ big := by first | exact List.mem_of_getElem? hi | exact List.getElem?_mem hi
  exact ⟨hm, good_of_word h1⟩
theorem goodIn_app {big a b : List Cond} (ha : GoodIn big a) (hb : GoodIn big b) : GoodIn big (a ++ b) := fun w h => (List.mem_append.mp h).elim (ha w) (hb w)
theorem goodIn_ca {big a b : List Cond} {c : Cond} (ha : GoodIn big (c :: a)) (hb : GoodIn big b) : GoodIn big (c :: (a ++ b)) := fun w h => (List.mem_cons.mp h).elim (fun e => ha w (List.mem_cons.mpr (Or.inl e))) (fun h => (List.mem_append.mp h).elim (fun h => ha w (List.mem_cons.mpr (Or.inr h))) (hb w))
theorem goodIn_sub {big ws : List Cond} (hm : ∀ w ∈ ws, w ∈ big) (h : ws.all goodWord = true) : GoodIn big ws := fun w hw => ⟨hm w hw, good_of_word (List.all_eq_true.mp h w hw)⟩
/-! ===== END ===== -/

/-! ===== BEGIN printed: names, fields, word lists, decode rows ===== -/
def RX0 : String := "HouseSorted$FairestSearch"
def TX0 : u_T := fun k => match k with
  | 0 => ("HouseSorted$FairestSearch", "house", "LHouseSorted$House;", true)
  | 1 => ("HouseSorted$FairestSearch", "shares", "LHouseSorted$Sharing;", true)
  | 2 => ("HouseSorted$FairestSearch", "sums", "[I", true)
  | 3 => ("HouseSorted$FairestSearch", "within", "[[I", true)
  | 4 => ("HouseSorted$FairestSearch", "richest", "[I", true)
  | 5 => ("HouseSorted$FairestSearch", "bestLeast", "I", false)
  | 6 => ("HouseSorted$FairestSearch", "bestTotal", "I", false)
  | _ => ("HouseSorted$FairestSearch", "best", "I", false)
def tyX0 : Nat → FieldType := fun k => match k with
  | 0 => .object "HouseSorted$House"
  | 1 => .object "HouseSorted$Sharing"
  | 2 => .array .int
  | 3 => .array (.array .int)
  | 4 => .array .int
  | 5 => .int
  | 6 => .int
  | _ => .int
abbrev wsX00 : List Cond := u_ws RX0 TX0 8
theorem nmX0 : ∀ a, a < 8 → ∀ b, b < 8 → a ≠ b → (TX0 a).2.1 ≠ (TX0 b).2.1 := by decide +kernel
theorem tyX0_ok : ∀ k, k < 8 → parseFieldDescriptor (TX0 k).2.2.1 = some (tyX0 k) := by decide +kernel
abbrev cX0_init : ByteArray := prog_2_method_1_code
def yX0_init : MethodName := ⟨RX0, "<init>", "(LHouseSorted$House;LHouseSorted$Sharing;)V"⟩
abbrev cX0_bestNumber : ByteArray := prog_2_method_2_code
def yX0_bestNumber : MethodName := ⟨RX0, "bestNumber", "()I"⟩
abbrev cX0_seek : ByteArray := prog_2_method_3_code
def yX0_seek : MethodName := ⟨RX0, "seek", "(LHouseSorted$FairestSearch;III)V"⟩
abbrev cX0_mayBeBetter : ByteArray := prog_2_method_4_code
def yX0_mayBeBetter : MethodName := ⟨RX0, "mayBeBetter", "(II)Z"⟩
abbrev cX0_leastSum : ByteArray := prog_2_method_5_code
def yX0_leastSum : MethodName := ⟨RX0, "leastSum", "()I"⟩
def RX1 : String := "HouseSorted$House"
def TX1 : u_T := fun k => match k with
  | 0 => ("HouseSorted$House", "book", "LHouseSorted$LawBook;", true)
  | 1 => ("HouseSorted$House", "heirs", "I", false)
  | 2 => ("HouseSorted$House", "things", "I", false)
  | 3 => ("HouseSorted$House", "weight", "[I", true)
  | 4 => ("HouseSorted$House", "low", "[I", true)
  | 5 => ("HouseSorted$House", "high", "[I", true)
  | 6 => ("HouseSorted$House", "age", "[I", true)
  | 7 => ("HouseSorted$House", "marks", "[I", true)
  | _ => ("HouseSorted$House", "worth", "[[I", true)
def tyX1 : Nat → FieldType := fun k => match k with
  | 0 => .object "HouseSorted$LawBook"
  | 1 => .int
  | 2 => .int
  | 3 => .array .int
  | 4 => .array .int
  | 5 => .array .int
  | 6 => .array .int
  | 7 => .array .int
  | _ => .array (.array .int)
abbrev wsX10 : List Cond := u_ws RX1 TX1 9
theorem nmX1 : ∀ a, a < 9 → ∀ b, b < 9 → a ≠ b → (TX1 a).2.1 ≠ (TX1 b).2.1 := by decide +kernel
theorem tyX1_ok : ∀ k, k < 9 → parseFieldDescriptor (TX1 k).2.2.1 = some (tyX1 k) := by decide +kernel
abbrev cX1_init : ByteArray := prog_3_method_1_code
def yX1_init : MethodName := ⟨RX1, "<init>", "(LHouseSorted$LawBook;)V"⟩
abbrev cX1_hasHeir : ByteArray := prog_3_method_2_code
def yX1_hasHeir : MethodName := ⟨RX1, "hasHeir", "(I)Z"⟩
abbrev cX1_hasThing : ByteArray := prog_3_method_3_code
def yX1_hasThing : MethodName := ⟨RX1, "hasThing", "(I)Z"⟩
abbrev cX1_addThing : ByteArray := prog_3_method_4_code
def yX1_addThing : MethodName := ⟨RX1, "addThing", "(IIIII)I"⟩
abbrev cX1_wayOf : ByteArray := prog_3_method_5_code
def yX1_wayOf : MethodName := ⟨RX1, "wayOf", "(I)I"⟩
abbrev cX1_hasMark : ByteArray := prog_3_method_6_code
def yX1_hasMark : MethodName := ⟨RX1, "hasMark", "(II)Z"⟩
abbrev cX1_isKeptPaper : ByteArray := prog_3_method_7_code
def yX1_isKeptPaper : MethodName := ⟨RX1, "isKeptPaper", "(I)Z"⟩
abbrev cX1_isWanted : ByteArray := prog_3_method_8_code
def yX1_isWanted : MethodName := ⟨RX1, "isWanted", "(I)Z"⟩
abbrev cX1_countOnWay : ByteArray := prog_3_method_9_code
def yX1_countOnWay : MethodName := ⟨RX1, "countOnWay", "(I)I"⟩
abbrev cX1_sumOnWay : ByteArray := prog_3_method_10_code
def yX1_sumOnWay : MethodName := ⟨RX1, "sumOnWay", "(I[I)I"⟩
abbrev cX1_secondLook : ByteArray := prog_3_method_11_code
def yX1_secondLook : MethodName := ⟨RX1, "secondLook", "(I)I"⟩
abbrev cX1_keenest : ByteArray := prog_3_method_12_code
def yX1_keenest : MethodName := ⟨RX1, "keenest", "(I)I"⟩
abbrev cX1_takeWorths : ByteArray := prog_3_method_13_code
def yX1_takeWorths : MethodName := ⟨RX1, "takeWorths", "(ILHouseSorted$Sheet;I)I"⟩
def RX2 : String := "HouseSorted$LawBook"
def TX2 : u_T := fun k => match k with
  | 0 => ("HouseSorted$LawBook", "value", "[I", true)
  | 1 => ("HouseSorted$LawBook", "told", "I", false)
  | 2 => ("HouseSorted$LawBook", "fault", "I", false)
  | 3 => ("HouseSorted$LawBook", "reader", "LHouseSorted$TokenReader;", true)
  | 4 => ("HouseSorted$LawBook", "draft", "[I", true)
  | _ => ("HouseSorted$LawBook", "draftBits", "I", false)
def tyX2 : Nat → FieldType := fun k => match k with
  | 0 => .array .int
  | 1 => .int
  | 2 => .int
  | 3 => .object "HouseSorted$TokenReader"
  | 4 => .array .int
  | _ => .int
abbrev wsX20 : List Cond := u_ws RX2 TX2 6
theorem nmX2 : ∀ a, a < 6 → ∀ b, b < 6 → a ≠ b → (TX2 a).2.1 ≠ (TX2 b).2.1 := by decide +kernel
theorem tyX2_ok : ∀ k, k < 6 → parseFieldDescriptor (TX2 k).2.2.1 = some (tyX2 k) := by decide +kernel
abbrev cX2_init : ByteArray := prog_4_method_1_code
def yX2_init : MethodName := ⟨RX2, "<init>", "(LHouseSorted$Tape;)V"⟩
abbrev cX2_readTape : ByteArray := prog_4_method_2_code
def yX2_readTape : MethodName := ⟨RX2, "readTape", "()I"⟩
abbrev cX2_readLaw : ByteArray := prog_4_method_3_code
def yX2_readLaw : MethodName := ⟨RX2, "readLaw", "()I"⟩
abbrev cX2_readAmount : ByteArray := prog_4_method_4_code
def yX2_readAmount : MethodName := ⟨RX2, "readAmount", "(I)I"⟩
abbrev cX2_readWay : ByteArray := prog_4_method_5_code
def yX2_readWay : MethodName := ⟨RX2, "readWay", "(I)I"⟩
abbrev cX2_misfit : ByteArray := prog_4_method_6_code
def yX2_misfit : MethodName := ⟨RX2, "misfit", "()I"⟩
def RX3 : String := "HouseSorted$Sharing"
def TX3 : u_T := fun k => match k with
  | 0 => ("HouseSorted$Sharing", "house", "LHouseSorted$House;", true)
  | 1 => ("HouseSorted$Sharing", "shared", "[I", true)
  | 2 => ("HouseSorted$Sharing", "size", "I", false)
  | _ => ("HouseSorted$Sharing", "taker", "[I", true)
def tyX3 : Nat → FieldType := fun k => match k with
  | 0 => .object "HouseSorted$House"
  | 1 => .array .int
  | 2 => .int
  | _ => .array .int
abbrev wsX30 : List Cond := u_ws RX3 TX3 4
theorem nmX3 : ∀ a, a < 4 → ∀ b, b < 4 → a ≠ b → (TX3 a).2.1 ≠ (TX3 b).2.1 := by decide +kernel
theorem tyX3_ok : ∀ k, k < 4 → parseFieldDescriptor (TX3 k).2.2.1 = some (tyX3 k) := by decide +kernel
abbrev cX3_init : ByteArray := prog_5_method_1_code
def yX3_init : MethodName := ⟨RX3, "<init>", "(LHouseSorted$House;)V"⟩
abbrev cX3_gather : ByteArray := prog_5_method_2_code
def yX3_gather : MethodName := ⟨RX3, "gather", "()V"⟩
abbrev cX3_number : ByteArray := prog_5_method_3_code
def yX3_number : MethodName := ⟨RX3, "number", "()I"⟩
abbrev cX3_readNumber : ByteArray := prog_5_method_4_code
def yX3_readNumber : MethodName := ⟨RX3, "readNumber", "(I)Z"⟩
abbrev cX3_takeTurns : ByteArray := prog_5_method_5_code
def yX3_takeTurns : MethodName := ⟨RX3, "takeTurns", "(I)V"⟩
abbrev cX3_takeTurnsWithLie : ByteArray := prog_5_method_6_code
def yX3_takeTurnsWithLie : MethodName := ⟨RX3, "takeTurnsWithLie", "(IIII)V"⟩
abbrev cX3_heirAtTurn : ByteArray := prog_5_method_7_code
def yX3_heirAtTurn : MethodName := ⟨RX3, "heirAtTurn", "(II)I"⟩
abbrev cX3_mostByLying : ByteArray := prog_5_method_8_code
def yX3_mostByLying : MethodName := ⟨RX3, "mostByLying", "(II)I"⟩
abbrev cX3_changesOrder : ByteArray := prog_5_method_9_code
def yX3_changesOrder : MethodName := ⟨RX3, "changesOrder", "(III)Z"⟩
abbrev cX3_sumOf : ByteArray := prog_5_method_10_code
def yX3_sumOf : MethodName := ⟨RX3, "sumOf", "(II)I"⟩
abbrev cX3_greatestOf : ByteArray := prog_5_method_11_code
def yX3_greatestOf : MethodName := ⟨RX3, "greatestOf", "(II)I"⟩
abbrev cX3_envyOf : ByteArray := prog_5_method_12_code
def yX3_envyOf : MethodName := ⟨RX3, "envyOf", "(II)I"⟩
abbrev cX3_envyPairs : ByteArray := prog_5_method_13_code
def yX3_envyPairs : MethodName := ⟨RX3, "envyPairs", "()I"⟩
abbrev cX3_giveToKeenest : ByteArray := prog_5_method_14_code
def yX3_giveToKeenest : MethodName := ⟨RX3, "giveToKeenest", "()V"⟩
abbrev cX3_claimOf : ByteArray := prog_5_method_15_code
def yX3_claimOf : MethodName := ⟨RX3, "claimOf", "(I)I"⟩
abbrev cX3_paymentOf : ByteArray := prog_5_method_16_code
def yX3_paymentOf : MethodName := ⟨RX3, "paymentOf", "(I)I"⟩
abbrev cX3_partOfRest : ByteArray := prog_5_method_17_code
def yX3_partOfRest : MethodName := ⟨RX3, "partOfRest", "()I"⟩
def RX4 : String := "HouseSorted$Sheet"
def TX4 : u_T := fun k => match k with
  | 0 => ("HouseSorted$Sheet", "lane", "I", false)
  | 1 => ("HouseSorted$Sheet", "size", "I", false)
  | _ => ("HouseSorted$Sheet", "cells", "[I", true)
def tyX4 : Nat → FieldType := fun k => match k with
  | 0 => .int
  | 1 => .int
  | _ => .array .int
abbrev wsX40 : List Cond := u_ws RX4 TX4 3
theorem nmX4 : ∀ a, a < 3 → ∀ b, b < 3 → a ≠ b → (TX4 a).2.1 ≠ (TX4 b).2.1 := by decide +kernel
theorem tyX4_ok : ∀ k, k < 3 → parseFieldDescriptor (TX4 k).2.2.1 = some (tyX4 k) := by decide +kernel
abbrev cX4_init : ByteArray := prog_6_method_1_code
def yX4_init : MethodName := ⟨RX4, "<init>", "()V"⟩
abbrev cX4_renew : ByteArray := prog_6_method_2_code
def yX4_renew : MethodName := ⟨RX4, "renew", "(II)V"⟩
abbrev cX4_hasCell : ByteArray := prog_6_method_3_code
def yX4_hasCell : MethodName := ⟨RX4, "hasCell", "(I)Z"⟩
abbrev cX4_put : ByteArray := prog_6_method_4_code
def yX4_put : MethodName := ⟨RX4, "put", "(II)V"⟩
abbrev cX4_refusal : ByteArray := prog_6_method_5_code
def yX4_refusal : MethodName := ⟨RX4, "refusal", "(III)I"⟩
def RX5 : String := "HouseSorted$Tape"
def TX5 : u_T := fun k => match k with
  | 0 => ("HouseSorted$Tape", "bytes", "[B", true)
  | _ => ("HouseSorted$Tape", "length", "I", false)
def tyX5 : Nat → FieldType := fun k => match k with
  | 0 => .array .byte
  | _ => .int
abbrev wsX50 : List Cond := u_ws RX5 TX5 2
theorem nmX5 : ∀ a, a < 2 → ∀ b, b < 2 → a ≠ b → (TX5 a).2.1 ≠ (TX5 b).2.1 := by decide +kernel
theorem tyX5_ok : ∀ k, k < 2 → parseFieldDescriptor (TX5 k).2.2.1 = some (tyX5 k) := by decide +kernel
abbrev cX5_init : ByteArray := prog_7_method_1_code
def yX5_init : MethodName := ⟨RX5, "<init>", "()V"⟩
abbrev cX5_append : ByteArray := prog_7_method_2_code
def yX5_append : MethodName := ⟨RX5, "append", "(J)V"⟩
abbrev cX5_hasBetween : ByteArray := prog_7_method_3_code
def yX5_hasBetween : MethodName := ⟨RX5, "hasBetween", "(ICC)Z"⟩
def RX6 : String := "HouseSorted$TokenReader"
def TX6 : u_T := fun k => match k with
  | 0 => ("HouseSorted$TokenReader", "tape", "LHouseSorted$Tape;", true)
  | 1 => ("HouseSorted$TokenReader", "place", "I", false)
  | 2 => ("HouseSorted$TokenReader", "start", "I", false)
  | 3 => ("HouseSorted$TokenReader", "kind", "I", false)
  | _ => ("HouseSorted$TokenReader", "value", "I", false)
def tyX6 : Nat → FieldType := fun k => match k with
  | 0 => .object "HouseSorted$Tape"
  | 1 => .int
  | 2 => .int
  | 3 => .int
  | _ => .int
abbrev wsX60 : List Cond := u_ws RX6 TX6 5
theorem nmX6 : ∀ a, a < 5 → ∀ b, b < 5 → a ≠ b → (TX6 a).2.1 ≠ (TX6 b).2.1 := by decide +kernel
theorem tyX6_ok : ∀ k, k < 5 → parseFieldDescriptor (TX6 k).2.2.1 = some (tyX6 k) := by decide +kernel
abbrev cX6_init : ByteArray := prog_8_method_1_code
def yX6_init : MethodName := ⟨RX6, "<init>", "(LHouseSorted$Tape;)V"⟩
abbrev cX6_rewind : ByteArray := prog_8_method_2_code
def yX6_rewind : MethodName := ⟨RX6, "rewind", "()V"⟩
abbrev cX6_advance : ByteArray := prog_8_method_3_code
def yX6_advance : MethodName := ⟨RX6, "advance", "()V"⟩
abbrev cX6_placeBehind : ByteArray := prog_8_method_4_code
def yX6_placeBehind : MethodName := ⟨RX6, "placeBehind", "(ICC)I"⟩
abbrev cX6_readName : ByteArray := prog_8_method_5_code
def yX6_readName : MethodName := ⟨RX6, "readName", "()V"⟩
abbrev cX6_isName : ByteArray := prog_8_method_6_code
def yX6_isName : MethodName := ⟨RX6, "isName", "(I)Z"⟩
abbrev cX6_readNumber : ByteArray := prog_8_method_7_code
def yX6_readNumber : MethodName := ⟨RX6, "readNumber", "()V"⟩
def RX7 : String := "HouseSorted$Vans"
def TX7 : u_T := fun k => match k with
  | 0 => ("HouseSorted$Vans", "house", "LHouseSorted$House;", true)
  | 1 => ("HouseSorted$Vans", "book", "LHouseSorted$LawBook;", true)
  | 2 => ("HouseSorted$Vans", "cargo", "[I", true)
  | 3 => ("HouseSorted$Vans", "size", "I", false)
  | 4 => ("HouseSorted$Vans", "filled", "[I", true)
  | _ => ("HouseSorted$Vans", "place", "[I", true)
def tyX7 : Nat → FieldType := fun k => match k with
  | 0 => .object "HouseSorted$House"
  | 1 => .object "HouseSorted$LawBook"
  | 2 => .array .int
  | 3 => .int
  | 4 => .array .int
  | _ => .array .int
abbrev wsX70 : List Cond := u_ws RX7 TX7 6
theorem nmX7 : ∀ a, a < 6 → ∀ b, b < 6 → a ≠ b → (TX7 a).2.1 ≠ (TX7 b).2.1 := by decide +kernel
theorem tyX7_ok : ∀ k, k < 6 → parseFieldDescriptor (TX7 k).2.2.1 = some (tyX7 k) := by decide +kernel
abbrev cX7_init : ByteArray := prog_9_method_1_code
def yX7_init : MethodName := ⟨RX7, "<init>", "(LHouseSorted$House;LHouseSorted$LawBook;)V"⟩
abbrev cX7_fewest : ByteArray := prog_9_method_2_code
def yX7_fewest : MethodName := ⟨RX7, "fewest", "(I)I"⟩
abbrev cX7_loadOf : ByteArray := prog_9_method_3_code
def yX7_loadOf : MethodName := ⟨RX7, "loadOf", "(I)I"⟩
abbrev cX7_gatherCargo : ByteArray := prog_9_method_4_code
def yX7_gatherCargo : MethodName := ⟨RX7, "gatherCargo", "(I)V"⟩
abbrev cX7_packs : ByteArray := prog_9_method_5_code
def yX7_packs : MethodName := ⟨RX7, "packs", "(LHouseSorted$Vans;III)Z"⟩
abbrev cX7_hasTwin : ByteArray := prog_9_method_6_code
def yX7_hasTwin : MethodName := ⟨RX7, "hasTwin", "(I)Z"⟩
def RX8 : String := "HouseSorted"
def TX8 : u_T := fun k => match k with
  | 0 => ("HouseSorted", "tape", "LHouseSorted$Tape;", true)
  | 1 => ("HouseSorted", "book", "LHouseSorted$LawBook;", true)
  | 2 => ("HouseSorted", "house", "LHouseSorted$House;", true)
  | 3 => ("HouseSorted", "shares", "LHouseSorted$Sharing;", true)
  | 4 => ("HouseSorted", "search", "LHouseSorted$FairestSearch;", true)
  | 5 => ("HouseSorted", "vans", "LHouseSorted$Vans;", true)
  | _ => ("HouseSorted", "sheets", "[LHouseSorted$Sheet;", true)
def tyX8 : Nat → FieldType := fun k => match k with
  | 0 => .object "HouseSorted$Tape"
  | 1 => .object "HouseSorted$LawBook"
  | 2 => .object "HouseSorted$House"
  | 3 => .object "HouseSorted$Sharing"
  | 4 => .object "HouseSorted$FairestSearch"
  | 5 => .object "HouseSorted$Vans"
  | _ => .array (.object "HouseSorted$Sheet")
abbrev wsX80 : List Cond := u_ws RX8 TX8 7
theorem nmX8 : ∀ a, a < 7 → ∀ b, b < 7 → a ≠ b → (TX8 a).2.1 ≠ (TX8 b).2.1 := by decide +kernel
theorem tyX8_ok : ∀ k, k < 7 → parseFieldDescriptor (TX8 k).2.2.1 = some (tyX8 k) := by decide +kernel
abbrev cX8_init : ByteArray := prog_1_method_1_code
def yX8_init : MethodName := ⟨RX8, "<init>", "()V"⟩
abbrev cX8_feed : ByteArray := prog_1_method_2_code
def yX8_feed : MethodName := ⟨RX8, "feed", "(J)I"⟩
abbrev cX8_end : ByteArray := prog_1_method_3_code
def yX8_end : MethodName := ⟨RX8, "end", "(I)I"⟩
abbrev cX8_laws : ByteArray := prog_1_method_4_code
def yX8_laws : MethodName := ⟨RX8, "laws", "()I"⟩
abbrev cX8_fault : ByteArray := prog_1_method_5_code
def yX8_fault : MethodName := ⟨RX8, "fault", "()I"⟩
abbrev cX8_law : ByteArray := prog_1_method_6_code
def yX8_law : MethodName := ⟨RX8, "law", "(I)I"⟩
abbrev cX8_heir : ByteArray := prog_1_method_7_code
def yX8_heir : MethodName := ⟨RX8, "heir", "()I"⟩
abbrev cX8_thing : ByteArray := prog_1_method_8_code
def yX8_thing : MethodName := ⟨RX8, "thing", "(IIIII)I"⟩
abbrev cX8_worth : ByteArray := prog_1_method_9_code
def yX8_worth : MethodName := ⟨RX8, "worth", "(III)I"⟩
abbrev cX8_gone : ByteArray := prog_1_method_10_code
def yX8_gone : MethodName := ⟨RX8, "gone", "()I"⟩
abbrev cX8_look : ByteArray := prog_1_method_11_code
def yX8_look : MethodName := ⟨RX8, "look", "(III)I"⟩
abbrev cX8_told : ByteArray := prog_1_method_12_code
def yX8_told : MethodName := ⟨RX8, "told", "(II)I"⟩
abbrev cX8_way : ByteArray := prog_1_method_13_code
def yX8_way : MethodName := ⟨RX8, "way", "(II)I"⟩
abbrev cX8_asks : ByteArray := prog_1_method_14_code
def yX8_asks : MethodName := ⟨RX8, "asks", "(I)I"⟩
abbrev cX8_turns : ByteArray := prog_1_method_15_code
def yX8_turns : MethodName := ⟨RX8, "turns", "(I)I"⟩
abbrev cX8_lie : ByteArray := prog_1_method_16_code
def yX8_lie : MethodName := ⟨RX8, "lie", "(IIII)I"⟩
abbrev cX8_gain : ByteArray := prog_1_method_17_code
def yX8_gain : MethodName := ⟨RX8, "gain", "(II)I"⟩
abbrev cX8_sum : ByteArray := prog_1_method_18_code
def yX8_sum : MethodName := ⟨RX8, "sum", "(III)I"⟩
abbrev cX8_envies : ByteArray := prog_1_method_19_code
def yX8_envies : MethodName := ⟨RX8, "envies", "(III)I"⟩
abbrev cX8_envy : ByteArray := prog_1_method_20_code
def yX8_envy : MethodName := ⟨RX8, "envy", "(I)I"⟩
abbrev cX8_fairest : ByteArray := prog_1_method_21_code
def yX8_fairest : MethodName := ⟨RX8, "fairest", "()I"⟩
abbrev cX8_bid : ByteArray := prog_1_method_22_code
def yX8_bid : MethodName := ⟨RX8, "bid", "(I)I"⟩
abbrev cX8_settled : ByteArray := prog_1_method_23_code
def yX8_settled : MethodName := ⟨RX8, "settled", "(II)I"⟩
abbrev cX8_loads : ByteArray := prog_1_method_24_code
def yX8_loads : MethodName := ⟨RX8, "loads", "(I)I"⟩
abbrev cX8_load : ByteArray := prog_1_method_25_code
def yX8_load : MethodName := ⟨RX8, "load", "(I)I"⟩
abbrev cX8_sheet : ByteArray := prog_1_method_26_code
def yX8_sheet : MethodName := ⟨RX8, "sheet", "(III)I"⟩
abbrev cX8_lay : ByteArray := prog_1_method_27_code
def yX8_lay : MethodName := ⟨RX8, "lay", "(III)I"⟩
abbrev cX8_worths : ByteArray := prog_1_method_28_code
def yX8_worths : MethodName := ⟨RX8, "worths", "(IIII)I"⟩
abbrev cX8_count : ByteArray := prog_1_method_29_code
def yX8_count : MethodName := ⟨RX8, "count", "(I)I"⟩
abbrev cX8_isWithin : ByteArray := prog_1_method_30_code
def yX8_isWithin : MethodName := ⟨RX8, "isWithin", "(III)Z"⟩
abbrev cX8_isRule : ByteArray := prog_1_method_31_code
def yX8_isRule : MethodName := ⟨RX8, "isRule", "(I)Z"⟩
abbrev cX8_isLane : ByteArray := prog_1_method_32_code
def yX8_isLane : MethodName := ⟨RX8, "isLane", "(I)Z"⟩
def RX9 : String := "HouseSortedModel"
def TX9 : u_T := fun k => match k with
  | 0 => ("HouseSortedModel", "tape", "[I", true)
  | 1 => ("HouseSortedModel", "taped", "I", false)
  | 2 => ("HouseSortedModel", "at", "I", false)
  | 3 => ("HouseSortedModel", "from", "I", false)
  | 4 => ("HouseSortedModel", "sort", "I", false)
  | 5 => ("HouseSortedModel", "value", "I", false)
  | 6 => ("HouseSortedModel", "fault", "I", false)
  | 7 => ("HouseSortedModel", "wrongAt", "I", false)
  | 8 => ("HouseSortedModel", "laws", "[I", true)
  | 9 => ("HouseSortedModel", "draft", "[I", true)
  | 10 => ("HouseSortedModel", "heirs", "I", false)
  | 11 => ("HouseSortedModel", "things", "I", false)
  | 12 => ("HouseSortedModel", "weights", "[I", true)
  | 13 => ("HouseSortedModel", "lows", "[I", true)
  | 14 => ("HouseSortedModel", "highs", "[I", true)
  | 15 => ("HouseSortedModel", "ages", "[I", true)
  | 16 => ("HouseSortedModel", "marks", "[I", true)
  | 17 => ("HouseSortedModel", "worths", "[I", true)
  | 18 => ("HouseSortedModel", "shared", "I", false)
  | 19 => ("HouseSortedModel", "which", "[I", true)
  | 20 => ("HouseSortedModel", "gets", "[I", true)
  | 21 => ("HouseSortedModel", "goods", "I", false)
  | 22 => ("HouseSortedModel", "good", "[I", true)
  | 23 => ("HouseSortedModel", "placed", "[I", true)
  | 24 => ("HouseSortedModel", "full", "[I", true)
  | 25 => ("HouseSortedModel", "lanes", "[I", true)
  | 26 => ("HouseSortedModel", "sizes", "[I", true)
  | _ => ("HouseSortedModel", "cells", "[I", true)
def tyX9 : Nat → FieldType := fun k => match k with
  | 0 => .array .int
  | 1 => .int
  | 2 => .int
  | 3 => .int
  | 4 => .int
  | 5 => .int
  | 6 => .int
  | 7 => .int
  | 8 => .array .int
  | 9 => .array .int
  | 10 => .int
  | 11 => .int
  | 12 => .array .int
  | 13 => .array .int
  | 14 => .array .int
  | 15 => .array .int
  | 16 => .array .int
  | 17 => .array .int
  | 18 => .int
  | 19 => .array .int
  | 20 => .array .int
  | 21 => .int
  | 22 => .array .int
  | 23 => .array .int
  | 24 => .array .int
  | 25 => .array .int
  | 26 => .array .int
  | _ => .array .int
abbrev wsX90 : List Cond := u_ws RX9 TX9 28
theorem nmX9 : ∀ a, a < 28 → ∀ b, b < 28 → a ≠ b → (TX9 a).2.1 ≠ (TX9 b).2.1 := by decide +kernel
theorem tyX9_ok : ∀ k, k < 28 → parseFieldDescriptor (TX9 k).2.2.1 = some (tyX9 k) := by decide +kernel
abbrev cX9_init : ByteArray := prog_11_method_1_code
def yX9_init : MethodName := ⟨RX9, "<init>", "()V"⟩
abbrev cX9_in : ByteArray := prog_11_method_3_code
def yX9_in : MethodName := ⟨RX9, "in", "(JJJ)Z"⟩
abbrev cX9_down : ByteArray := prog_11_method_4_code
def yX9_down : MethodName := ⟨RX9, "down", "(II)I"⟩
abbrev cX9_feed : ByteArray := prog_11_method_5_code
def yX9_feed : MethodName := ⟨RX9, "feed", "(J)I"⟩
abbrev cX9_end : ByteArray := prog_11_method_6_code
def yX9_end : MethodName := ⟨RX9, "end", "(I)I"⟩
abbrev cX9_fails : ByteArray := prog_11_method_7_code
def yX9_fails : MethodName := ⟨RX9, "fails", "(I)V"⟩
abbrev cX9_byteAt : ByteArray := prog_11_method_8_code
def yX9_byteAt : MethodName := ⟨RX9, "byteAt", "(I)I"⟩
abbrev cX9_is : ByteArray := prog_11_method_9_code
def yX9_is : MethodName := ⟨RX9, "is", "(IIII)Z"⟩
abbrev cX9_nameNow : ByteArray := prog_11_method_10_code
def yX9_nameNow : MethodName := ⟨RX9, "nameNow", "()I"⟩
abbrev cX9_next : ByteArray := prog_11_method_11_code
def yX9_next : MethodName := ⟨RX9, "next", "()V"⟩
abbrev cX9_wants : ByteArray := prog_11_method_12_code
def yX9_wants : MethodName := ⟨RX9, "wants", "(ZI)V"⟩
abbrev cX9_goesOn : ByteArray := prog_11_method_13_code
def yX9_goesOn : MethodName := ⟨RX9, "goesOn", "()V"⟩
abbrev cX9_wayOf : ByteArray := prog_11_method_14_code
def yX9_wayOf : MethodName := ⟨RX9, "wayOf", "(I)I"⟩
abbrev cX9_least : ByteArray := prog_11_method_15_code
def yX9_least : MethodName := ⟨RX9, "least", "(I)I"⟩
abbrev cX9_most : ByteArray := prog_11_method_16_code
def yX9_most : MethodName := ⟨RX9, "most", "(I)I"⟩
abbrev cX9_readLaw : ByteArray := prog_11_method_17_code
def yX9_readLaw : MethodName := ⟨RX9, "readLaw", "()V"⟩
abbrev cX9_lawMany : ByteArray := prog_11_method_18_code
def yX9_lawMany : MethodName := ⟨RX9, "lawMany", "()I"⟩
abbrev cX9_laws : ByteArray := prog_11_method_19_code
def yX9_laws : MethodName := ⟨RX9, "laws", "()I"⟩
abbrev cX9_fault : ByteArray := prog_11_method_20_code
def yX9_fault : MethodName := ⟨RX9, "fault", "()I"⟩
abbrev cX9_lawOf : ByteArray := prog_11_method_21_code
def yX9_lawOf : MethodName := ⟨RX9, "lawOf", "(I)I"⟩
abbrev cX9_law : ByteArray := prog_11_method_22_code
def yX9_law : MethodName := ⟨RX9, "law", "(I)I"⟩
abbrev cX9_isHeir : ByteArray := prog_11_method_23_code
def yX9_isHeir : MethodName := ⟨RX9, "isHeir", "(I)Z"⟩
abbrev cX9_isThing : ByteArray := prog_11_method_24_code
def yX9_isThing : MethodName := ⟨RX9, "isThing", "(I)Z"⟩
abbrev cX9_heir : ByteArray := prog_11_method_25_code
def yX9_heir : MethodName := ⟨RX9, "heir", "()I"⟩
abbrev cX9_thing : ByteArray := prog_11_method_26_code
def yX9_thing : MethodName := ⟨RX9, "thing", "(IIIII)I"⟩
abbrev cX9_worth : ByteArray := prog_11_method_27_code
def yX9_worth : MethodName := ⟨RX9, "worth", "(III)I"⟩
abbrev cX9_gone : ByteArray := prog_11_method_28_code
def yX9_gone : MethodName := ⟨RX9, "gone", "()I"⟩
abbrev cX9_look : ByteArray := prog_11_method_29_code
def yX9_look : MethodName := ⟨RX9, "look", "(III)I"⟩
abbrev cX9_has : ByteArray := prog_11_method_30_code
def yX9_has : MethodName := ⟨RX9, "has", "(II)Z"⟩
abbrev cX9_sent : ByteArray := prog_11_method_31_code
def yX9_sent : MethodName := ⟨RX9, "sent", "(I)I"⟩
abbrev cX9_wayNow : ByteArray := prog_11_method_32_code
def yX9_wayNow : MethodName := ⟨RX9, "wayNow", "(I)I"⟩
abbrev cX9_told : ByteArray := prog_11_method_33_code
def yX9_told : MethodName := ⟨RX9, "told", "(II)I"⟩
abbrev cX9_way : ByteArray := prog_11_method_34_code
def yX9_way : MethodName := ⟨RX9, "way", "(II)I"⟩
abbrev cX9_asks : ByteArray := prog_11_method_35_code
def yX9_asks : MethodName := ⟨RX9, "asks", "(I)I"⟩
abbrev cX9_findShared : ByteArray := prog_11_method_36_code
def yX9_findShared : MethodName := ⟨RX9, "findShared", "()V"⟩
abbrev cX9_sharings : ByteArray := prog_11_method_37_code
def yX9_sharings : MethodName := ⟨RX9, "sharings", "()I"⟩
abbrev cX9_parts : ByteArray := prog_11_method_38_code
def yX9_parts : MethodName := ⟨RX9, "parts", "(I)V"⟩
abbrev cX9_number : ByteArray := prog_11_method_39_code
def yX9_number : MethodName := ⟨RX9, "number", "()I"⟩
abbrev cX9_worthNow : ByteArray := prog_11_method_40_code
def yX9_worthNow : MethodName := ⟨RX9, "worthNow", "(IIIII)I"⟩
abbrev cX9_takes : ByteArray := prog_11_method_41_code
def yX9_takes : MethodName := ⟨RX9, "takes", "(IIII)V"⟩
abbrev cX9_turns : ByteArray := prog_11_method_42_code
def yX9_turns : MethodName := ⟨RX9, "turns", "(I)I"⟩
abbrev cX9_lie : ByteArray := prog_11_method_43_code
def yX9_lie : MethodName := ⟨RX9, "lie", "(IIII)I"⟩
abbrev cX9_sumOf : ByteArray := prog_11_method_44_code
def yX9_sumOf : MethodName := ⟨RX9, "sumOf", "(II)I"⟩
abbrev cX9_gain : ByteArray := prog_11_method_45_code
def yX9_gain : MethodName := ⟨RX9, "gain", "(II)I"⟩
abbrev cX9_isSharing : ByteArray := prog_11_method_46_code
def yX9_isSharing : MethodName := ⟨RX9, "isSharing", "(I)Z"⟩
abbrev cX9_sum : ByteArray := prog_11_method_47_code
def yX9_sum : MethodName := ⟨RX9, "sum", "(III)I"⟩
abbrev cX9_envyOf : ByteArray := prog_11_method_48_code
def yX9_envyOf : MethodName := ⟨RX9, "envyOf", "(II)I"⟩
abbrev cX9_envies : ByteArray := prog_11_method_49_code
def yX9_envies : MethodName := ⟨RX9, "envies", "(III)I"⟩
abbrev cX9_envy : ByteArray := prog_11_method_50_code
def yX9_envy : MethodName := ⟨RX9, "envy", "(I)I"⟩
abbrev cX9_fairest : ByteArray := prog_11_method_51_code
def yX9_fairest : MethodName := ⟨RX9, "fairest", "()I"⟩
abbrev cX9_bidder : ByteArray := prog_11_method_52_code
def yX9_bidder : MethodName := ⟨RX9, "bidder", "(I)I"⟩
abbrev cX9_bid : ByteArray := prog_11_method_53_code
def yX9_bid : MethodName := ⟨RX9, "bid", "(I)I"⟩
abbrev cX9_claimOf : ByteArray := prog_11_method_54_code
def yX9_claimOf : MethodName := ⟨RX9, "claimOf", "(I)I"⟩
abbrev cX9_settled : ByteArray := prog_11_method_55_code
def yX9_settled : MethodName := ⟨RX9, "settled", "(II)I"⟩
abbrev cX9_lays : ByteArray := prog_11_method_56_code
def yX9_lays : MethodName := ⟨RX9, "lays", "(I)Z"⟩
abbrev cX9_findLoads : ByteArray := prog_11_method_57_code
def yX9_findLoads : MethodName := ⟨RX9, "findLoads", "(I)I"⟩
abbrev cX9_loads : ByteArray := prog_11_method_58_code
def yX9_loads : MethodName := ⟨RX9, "loads", "(I)I"⟩
abbrev cX9_load : ByteArray := prog_11_method_59_code
def yX9_load : MethodName := ⟨RX9, "load", "(I)I"⟩
abbrev cX9_isSheet : ByteArray := prog_11_method_60_code
def yX9_isSheet : MethodName := ⟨RX9, "isSheet", "(II)Z"⟩
abbrev cX9_sheet : ByteArray := prog_11_method_61_code
def yX9_sheet : MethodName := ⟨RX9, "sheet", "(III)I"⟩
abbrev cX9_lay : ByteArray := prog_11_method_62_code
def yX9_lay : MethodName := ⟨RX9, "lay", "(III)I"⟩
abbrev cX9_worths : ByteArray := prog_11_method_63_code
def yX9_worths : MethodName := ⟨RX9, "worths", "(IIII)I"⟩
abbrev cX9_count : ByteArray := prog_11_method_64_code
def yX9_count : MethodName := ⟨RX9, "count", "(I)I"⟩
def RJx8e188 : String := "java/lang/Cloneable"
def TJx8e188 : u_T := fun k => match k with
  | _ => ("", "", "", false)
def tyJx8e188 : Nat → FieldType := fun k => match k with
  | _ => .int
abbrev wsJx8e1880 : List Cond := u_ws RJx8e188 TJx8e188 0
theorem nmJx8e188 : ∀ a, a < 0 → ∀ b, b < 0 → a ≠ b → (TJx8e188 a).2.1 ≠ (TJx8e188 b).2.1 := by decide +kernel
theorem tyJx8e188_ok : ∀ k, k < 0 → parseFieldDescriptor (TJx8e188 k).2.2.1 = some (tyJx8e188 k) := by decide +kernel
def RJ6 : String := "java/lang/Integer"
def TJ6 : u_T := fun k => match k with
  | _ => ("", "", "", false)
def tyJ6 : Nat → FieldType := fun k => match k with
  | _ => .int
abbrev wsJ60 : List Cond := u_ws RJ6 TJ6 0
theorem nmJ6 : ∀ a, a < 0 → ∀ b, b < 0 → a ≠ b → (TJ6 a).2.1 ≠ (TJ6 b).2.1 := by decide +kernel
theorem tyJ6_ok : ∀ k, k < 0 → parseFieldDescriptor (TJ6 k).2.2.1 = some (tyJ6 k) := by decide +kernel
abbrev cJ6_bitCount_0f7a4 : ByteArray := prog_13_method_49_code
def yJ6_bitCount_0f7a4 : MethodName := ⟨RJ6, "bitCount", "(I)I"⟩
def RJ9 : String := "java/lang/Math"
def TJ9 : u_T := fun k => match k with
  | _ => ("", "", "", false)
def tyJ9 : Nat → FieldType := fun k => match k with
  | _ => .int
abbrev wsJ90 : List Cond := u_ws RJ9 TJ9 0
theorem nmJ9 : ∀ a, a < 0 → ∀ b, b < 0 → a ≠ b → (TJ9 a).2.1 ≠ (TJ9 b).2.1 := by decide +kernel
theorem tyJ9_ok : ∀ k, k < 0 → parseFieldDescriptor (TJ9 k).2.2.1 = some (tyJ9 k) := by decide +kernel
abbrev cJ9_max_7cf53 : ByteArray := prog_14_method_65_code
def yJ9_max_7cf53 : MethodName := ⟨RJ9, "max", "(II)I"⟩
abbrev cJ9_min_7cf53 : ByteArray := prog_14_method_69_code
def yJ9_min_7cf53 : MethodName := ⟨RJ9, "min", "(II)I"⟩
def RJ0 : String := "java/lang/String"
def TJ0 : u_T := fun k => match k with
  | _ => ("", "", "", false)
def tyJ0 : Nat → FieldType := fun k => match k with
  | _ => .int
abbrev wsJ00 : List Cond := u_ws RJ0 TJ0 0
theorem nmJ0 : ∀ a, a < 0 → ∀ b, b < 0 → a ≠ b → (TJ0 a).2.1 ≠ (TJ0 b).2.1 := by decide +kernel
theorem tyJ0_ok : ∀ k, k < 0 → parseFieldDescriptor (TJ0 k).2.2.1 = some (tyJ0 k) := by decide +kernel
abbrev cJ0_charAt_5068e : ByteArray := prog_15_method_56_code
def yJ0_charAt_5068e : MethodName := ⟨RJ0, "charAt", "(I)C"⟩
abbrev cJ0_isLatin1_aae02 : ByteArray := prog_15_method_154_code
def yJ0_isLatin1_aae02 : MethodName := ⟨RJ0, "isLatin1", "()Z"⟩
abbrev cJ0_checkIndex_df160 : ByteArray := prog_15_method_155_code
def yJ0_checkIndex_df160 : MethodName := ⟨RJ0, "checkIndex", "(II)V"⟩
def RJ1 : String := "java/lang/StringLatin1"
def TJ1 : u_T := fun k => match k with
  | _ => ("", "", "", false)
def tyJ1 : Nat → FieldType := fun k => match k with
  | _ => .int
abbrev wsJ10 : List Cond := u_ws RJ1 TJ1 0
theorem nmJ1 : ∀ a, a < 0 → ∀ b, b < 0 → a ≠ b → (TJ1 a).2.1 ≠ (TJ1 b).2.1 := by decide +kernel
theorem tyJ1_ok : ∀ k, k < 0 → parseFieldDescriptor (TJ1 k).2.2.1 = some (tyJ1 k) := by decide +kernel
abbrev cJ1_charAt_3b067 : ByteArray := prog_16_method_2_code
def yJ1_charAt_3b067 : MethodName := ⟨RJ1, "charAt", "([BI)C"⟩
def RJ2 : String := "java/lang/StringUTF16"
def TJ2 : u_T := fun k => match k with
  | _ => ("", "", "", false)
def tyJ2 : Nat → FieldType := fun k => match k with
  | _ => .int
abbrev wsJ20 : List Cond := u_ws RJ2 TJ2 0
theorem nmJ2 : ∀ a, a < 0 → ∀ b, b < 0 → a ≠ b → (TJ2 a).2.1 ≠ (TJ2 b).2.1 := by decide +kernel
theorem tyJ2_ok : ∀ k, k < 0 → parseFieldDescriptor (TJ2 k).2.2.1 = some (tyJ2 k) := by decide +kernel
abbrev cJ2_getChar_3b067 : ByteArray := prog_17_method_5_code
def yJ2_getChar_3b067 : MethodName := ⟨RJ2, "getChar", "([BI)C"⟩
abbrev cJ2_length_9d52b : ByteArray := prog_17_method_6_code
def yJ2_length_9d52b : MethodName := ⟨RJ2, "length", "([B)I"⟩
abbrev cJ2_charAt_3b067 : ByteArray := prog_17_method_83_code
def yJ2_charAt_3b067 : MethodName := ⟨RJ2, "charAt", "([BI)C"⟩
abbrev cJ2_checkIndex_2214a : ByteArray := prog_17_method_91_code
def yJ2_checkIndex_2214a : MethodName := ⟨RJ2, "checkIndex", "(I[B)V"⟩
def RJ10 : String := "java/lang/System"
def TJ10 : u_T := fun k => match k with
  | _ => ("", "", "", false)
def tyJ10 : Nat → FieldType := fun k => match k with
  | _ => .int
abbrev wsJ100 : List Cond := u_ws RJ10 TJ10 0
theorem nmJ10 : ∀ a, a < 0 → ∀ b, b < 0 → a ≠ b → (TJ10 a).2.1 ≠ (TJ10 b).2.1 := by decide +kernel
theorem tyJ10_ok : ∀ k, k < 0 → parseFieldDescriptor (TJ10 k).2.2.1 = some (tyJ10 k) := by decide +kernel
def RJ3 : String := "jdk/internal/util/Preconditions"
def TJ3 : u_T := fun k => match k with
  | _ => ("", "", "", false)
def tyJ3 : Nat → FieldType := fun k => match k with
  | _ => .int
abbrev wsJ30 : List Cond := u_ws RJ3 TJ3 0
theorem nmJ3 : ∀ a, a < 0 → ∀ b, b < 0 → a ≠ b → (TJ3 a).2.1 ≠ (TJ3 b).2.1 := by decide +kernel
theorem tyJ3_ok : ∀ k, k < 0 → parseFieldDescriptor (TJ3 k).2.2.1 = some (tyJ3 k) := by decide +kernel
abbrev cJ3_checkIndex_8e157 : ByteArray := prog_19_method_11_code
def yJ3_checkIndex_8e157 : MethodName := ⟨RJ3, "checkIndex", "(IILjava/util/function/BiFunction;)I"⟩
def RL : String := "HouseSortedLaw"
abbrev cL_law : ByteArray := code
def yL_law : MethodName := ⟨RL, "law", "([I)Z"⟩
def wsX0_init : List Cond := .code yX0_init cX0_init 3 none :: ([.methodLink RX0 3 objectInit, .instanceMethod objectInit, .code objectInit ⟨#[0xb1]⟩ 1 none, .arrayClass .int, .fieldLink RX0 9 "HouseSorted$FairestSearch" "sums" "[I", .classLink RX0 15 "[[I", .fieldLink RX0 17 "HouseSorted$FairestSearch" "within" "[[I", .fieldLink RX0 20 "HouseSorted$FairestSearch" "richest" "[I", .fieldLink RX0 23 "HouseSorted$FairestSearch" "house" "LHouseSorted$House;", .fieldLink RX0 27 "HouseSorted$FairestSearch" "shares" "LHouseSorted$Sharing;"] ++ wsX00)
def wsX1_keenest : List Cond := .code yX1_keenest cX1_keenest 4 (some .int) :: ([.fieldLink RX1 36 "HouseSorted$House" "heirs" "I", .fieldLink RX1 29 "HouseSorted$House" "worth" "[[I"] ++ wsX10)
def wsX0_mayBeBetter : List Cond := .code yX0_mayBeBetter cX0_mayBeBetter 8 (some .boolean) :: ([.fieldLink RX0 20 "HouseSorted$FairestSearch" "richest" "[I", .fieldLink RX0 55 "HouseSorted$FairestSearch" "bestTotal" "I", .fieldLink RX0 52 "HouseSorted$FairestSearch" "bestLeast" "I", .fieldLink RX0 23 "HouseSorted$FairestSearch" "house" "LHouseSorted$House;", .fieldLink RX0 49 "HouseSorted$House" "heirs" "I", .fieldLink RX0 9 "HouseSorted$FairestSearch" "sums" "[I", .fieldLink RX0 17 "HouseSorted$FairestSearch" "within" "[[I"] ++ wsX00 ++ wsX10)
def wsX0_leastSum : List Cond := .code yX0_leastSum cX0_leastSum 3 (some .int) :: ([.fieldLink RX0 9 "HouseSorted$FairestSearch" "sums" "[I", .fieldLink RX0 23 "HouseSorted$FairestSearch" "house" "LHouseSorted$House;", .fieldLink RX0 49 "HouseSorted$House" "heirs" "I", .methodLink RX0 61 Lib.Math.min.name, .static Lib.Math.min.name, .initialized "java/lang/Math", .code Lib.Math.min.name Lib.Math.min.code 2 (some .int)] ++ wsX00 ++ wsX10)
def wsX0_seek_r1 : List Cond := [Cond.fieldLink RX0 52 "HouseSorted$FairestSearch" "bestLeast" "I", Cond.fieldLink RX0 55 "HouseSorted$FairestSearch" "bestTotal" "I", Cond.fieldLink RX0 58 "HouseSorted$FairestSearch" "best" "I", Cond.fieldLink RX0 27 "HouseSorted$FairestSearch" "shares" "LHouseSorted$Sharing;", Cond.fieldLink RX0 37 "HouseSorted$Sharing" "shared" "[I", Cond.fieldLink RX0 23 "HouseSorted$FairestSearch" "house" "LHouseSorted$House;", Cond.fieldLink RX0 49 "HouseSorted$House" "heirs" "I", Cond.fieldLink RX0 40 "HouseSorted$House" "worth" "[[I", Cond.fieldLink RX0 9 "HouseSorted$FairestSearch" "sums" "[I", Cond.methodLink RX0 71 yX0_mayBeBetter, Cond.instanceMethod yX0_mayBeBetter, Cond.selects RX0 yX0_mayBeBetter yX0_mayBeBetter, Cond.initialized RX0, Cond.code yX0_mayBeBetter cX0_mayBeBetter 8 (some .boolean), Cond.fieldLink RX0 20 "HouseSorted$FairestSearch" "richest" "[I", Cond.fieldLink RX0 17 "HouseSorted$FairestSearch" "within" "[[I", Cond.methodLink RX0 75 yX0_leastSum, Cond.instanceMethod yX0_leastSum, Cond.selects RX0 yX0_leastSum yX0_leastSum, Cond.code yX0_leastSum cX0_leastSum 3 (some .int), Cond.methodLink RX0 61 Lib.Math.min.name, Cond.static Lib.Math.min.name, Cond.initialized "java/lang/Math", Cond.code Lib.Math.min.name Lib.Math.min.code 2 (some .int)]
def wsX0_seek_r2 : List Cond := [Cond.methodLink RX0 67 yX0_seek, Cond.static yX0_seek]
def wsX0_seek : List Cond := .code yX0_seek cX0_seek 7 none :: ((wsX0_seek_r1 ++ wsX0_seek_r2) ++ wsX00 ++ wsX30 ++ wsX10)
def wsX0_bestNumber_r1 : List Cond := [Cond.fieldLink RX0 27 "HouseSorted$FairestSearch" "shares" "LHouseSorted$Sharing;", Cond.fieldLink RX0 31 "HouseSorted$Sharing" "size" "I", Cond.fieldLink RX0 37 "HouseSorted$Sharing" "shared" "[I", Cond.fieldLink RX0 20 "HouseSorted$FairestSearch" "richest" "[I", Cond.fieldLink RX0 23 "HouseSorted$FairestSearch" "house" "LHouseSorted$House;", Cond.fieldLink RX0 40 "HouseSorted$House" "worth" "[[I", Cond.fieldLink RX0 49 "HouseSorted$House" "heirs" "I", Cond.fieldLink RX0 17 "HouseSorted$FairestSearch" "within" "[[I", Cond.fieldLink RX0 52 "HouseSorted$FairestSearch" "bestLeast" "I", Cond.fieldLink RX0 55 "HouseSorted$FairestSearch" "bestTotal" "I", Cond.fieldLink RX0 58 "HouseSorted$FairestSearch" "best" "I", Cond.methodLink RX0 61 Lib.Math.min.name, Cond.static Lib.Math.min.name, Cond.initialized "java/lang/Math", Cond.code Lib.Math.min.name Lib.Math.min.code 2 (some .int), Cond.methodLink RX0 45 yX1_keenest, Cond.instanceMethod yX1_keenest, Cond.selects RX1 yX1_keenest yX1_keenest, Cond.initialized RX1, Cond.code yX1_keenest cX1_keenest 4 (some .int), Cond.fieldLink RX1 36 "HouseSorted$House" "heirs" "I", Cond.fieldLink RX1 29 "HouseSorted$House" "worth" "[[I", Cond.methodLink RX0 67 yX0_seek, Cond.static yX0_seek]
def wsX0_bestNumber_r2 : List Cond := [Cond.initialized RX0, Cond.code yX0_seek cX0_seek 7 none, Cond.fieldLink RX0 9 "HouseSorted$FairestSearch" "sums" "[I", Cond.methodLink RX0 71 yX0_mayBeBetter, Cond.instanceMethod yX0_mayBeBetter, Cond.selects RX0 yX0_mayBeBetter yX0_mayBeBetter, Cond.code yX0_mayBeBetter cX0_mayBeBetter 8 (some .boolean), Cond.methodLink RX0 75 yX0_leastSum, Cond.instanceMethod yX0_leastSum, Cond.selects RX0 yX0_leastSum yX0_leastSum, Cond.code yX0_leastSum cX0_leastSum 3 (some .int)]
def wsX0_bestNumber : List Cond := .code yX0_bestNumber cX0_bestNumber 4 (some .int) :: ((wsX0_bestNumber_r1 ++ wsX0_bestNumber_r2) ++ wsX00 ++ wsX30 ++ wsX10)
def wsX1_init : List Cond := .code yX1_init cX1_init 2 none :: ([.methodLink RX1 3 objectInit, .instanceMethod objectInit, .code objectInit ⟨#[0xb1]⟩ 1 none, .arrayClass .int, .fieldLink RX1 9 "HouseSorted$House" "weight" "[I", .fieldLink RX1 15 "HouseSorted$House" "low" "[I", .fieldLink RX1 18 "HouseSorted$House" "high" "[I", .fieldLink RX1 21 "HouseSorted$House" "age" "[I", .fieldLink RX1 24 "HouseSorted$House" "marks" "[I", .classLink RX1 27 "[[I", .fieldLink RX1 29 "HouseSorted$House" "worth" "[[I", .fieldLink RX1 32 "HouseSorted$House" "book" "LHouseSorted$LawBook;"] ++ wsX10)
def wsX1_hasHeir : List Cond := .code yX1_hasHeir cX1_hasHeir 2 (some .boolean) :: ([.fieldLink RX1 36 "HouseSorted$House" "heirs" "I"] ++ wsX10)
def wsX1_hasThing : List Cond := .code yX1_hasThing cX1_hasThing 2 (some .boolean) :: ([.fieldLink RX1 40 "HouseSorted$House" "things" "I"] ++ wsX10)
def wsX1_addThing : List Cond := .code yX1_addThing cX1_addThing 8 (some .int) :: ([.fieldLink RX1 40 "HouseSorted$House" "things" "I", .fieldLink RX1 9 "HouseSorted$House" "weight" "[I", .fieldLink RX1 15 "HouseSorted$House" "low" "[I", .fieldLink RX1 18 "HouseSorted$House" "high" "[I", .fieldLink RX1 21 "HouseSorted$House" "age" "[I", .fieldLink RX1 24 "HouseSorted$House" "marks" "[I", .fieldLink RX1 29 "HouseSorted$House" "worth" "[[I"] ++ wsX10)
def wsX1_hasMark : List Cond := .code yX1_hasMark cX1_hasMark 3 (some .boolean) :: ([.fieldLink RX1 24 "HouseSorted$House" "marks" "[I"] ++ wsX10)
def wsX1_isKeptPaper : List Cond := .code yX1_isKeptPaper cX1_isKeptPaper 2 (some .boolean) :: ([.fieldLink RX1 21 "HouseSorted$House" "age" "[I", .fieldLink RX1 32 "HouseSorted$House" "book" "LHouseSorted$LawBook;", .fieldLink RX1 47 "HouseSorted$LawBook" "value" "[I", .methodLink RX1 43 yX1_hasMark, .instanceMethod yX1_hasMark, .selects RX1 yX1_hasMark yX1_hasMark, .initialized RX1, .code yX1_hasMark cX1_hasMark 3 (some .boolean), .fieldLink RX1 24 "HouseSorted$House" "marks" "[I"] ++ wsX10 ++ wsX20)
def wsX1_isWanted : List Cond := .code yX1_isWanted cX1_isWanted 3 (some .boolean) :: ([.fieldLink RX1 36 "HouseSorted$House" "heirs" "I", .fieldLink RX1 29 "HouseSorted$House" "worth" "[[I"] ++ wsX10)
def wsX1_wayOf : List Cond := .code yX1_wayOf cX1_wayOf 2 (some .int) :: ([.fieldLink RX1 32 "HouseSorted$House" "book" "LHouseSorted$LawBook;", .fieldLink RX1 47 "HouseSorted$LawBook" "value" "[I", .fieldLink RX1 15 "HouseSorted$House" "low" "[I", .methodLink RX1 43 yX1_hasMark, .instanceMethod yX1_hasMark, .selects RX1 yX1_hasMark yX1_hasMark, .initialized RX1, .code yX1_hasMark cX1_hasMark 3 (some .boolean), .fieldLink RX1 24 "HouseSorted$House" "marks" "[I", .methodLink RX1 52 yX1_isKeptPaper, .instanceMethod yX1_isKeptPaper, .selects RX1 yX1_isKeptPaper yX1_isKeptPaper, .code yX1_isKeptPaper cX1_isKeptPaper 2 (some .boolean), .fieldLink RX1 21 "HouseSorted$House" "age" "[I", .methodLink RX1 56 yX1_isWanted, .instanceMethod yX1_isWanted, .selects RX1 yX1_isWanted yX1_isWanted, .code yX1_isWanted cX1_isWanted 3 (some .boolean), .fieldLink RX1 36 "HouseSorted$House" "heirs" "I", .fieldLink RX1 29 "HouseSorted$House" "worth" "[[I"] ++ wsX10 ++ wsX20)
def wsX1_countOnWay_r1 : List Cond := [Cond.fieldLink RX1 40 "HouseSorted$House" "things" "I", Cond.methodLink RX1 59 yX1_wayOf, Cond.instanceMethod yX1_wayOf, Cond.selects RX1 yX1_wayOf yX1_wayOf, Cond.initialized RX1, Cond.code yX1_wayOf cX1_wayOf 2 (some .int), Cond.fieldLink RX1 32 "HouseSorted$House" "book" "LHouseSorted$LawBook;", Cond.fieldLink RX1 47 "HouseSorted$LawBook" "value" "[I", Cond.fieldLink RX1 15 "HouseSorted$House" "low" "[I", Cond.methodLink RX1 43 yX1_hasMark, Cond.instanceMethod yX1_hasMark, Cond.selects RX1 yX1_hasMark yX1_hasMark, Cond.code yX1_hasMark cX1_hasMark 3 (some .boolean), Cond.fieldLink RX1 24 "HouseSorted$House" "marks" "[I", Cond.methodLink RX1 52 yX1_isKeptPaper, Cond.instanceMethod yX1_isKeptPaper, Cond.selects RX1 yX1_isKeptPaper yX1_isKeptPaper, Cond.code yX1_isKeptPaper cX1_isKeptPaper 2 (some .boolean), Cond.fieldLink RX1 21 "HouseSorted$House" "age" "[I", Cond.methodLink RX1 56 yX1_isWanted, Cond.instanceMethod yX1_isWanted, Cond.selects RX1 yX1_isWanted yX1_isWanted, Cond.code yX1_isWanted cX1_isWanted 3 (some .boolean), Cond.fieldLink RX1 36 "HouseSorted$House" "heirs" "I"]
def wsX1_countOnWay_r2 : List Cond := [Cond.fieldLink RX1 29 "HouseSorted$House" "worth" "[[I"]
def wsX1_countOnWay : List Cond := .code yX1_countOnWay cX1_countOnWay 4 (some .int) :: ((wsX1_countOnWay_r1 ++ wsX1_countOnWay_r2) ++ wsX10 ++ wsX20)
def wsX1_sumOnWay_r1 : List Cond := [Cond.fieldLink RX1 40 "HouseSorted$House" "things" "I", Cond.methodLink RX1 59 yX1_wayOf, Cond.instanceMethod yX1_wayOf, Cond.selects RX1 yX1_wayOf yX1_wayOf, Cond.initialized RX1, Cond.code yX1_wayOf cX1_wayOf 2 (some .int), Cond.fieldLink RX1 32 "HouseSorted$House" "book" "LHouseSorted$LawBook;", Cond.fieldLink RX1 47 "HouseSorted$LawBook" "value" "[I", Cond.fieldLink RX1 15 "HouseSorted$House" "low" "[I", Cond.methodLink RX1 43 yX1_hasMark, Cond.instanceMethod yX1_hasMark, Cond.selects RX1 yX1_hasMark yX1_hasMark, Cond.code yX1_hasMark cX1_hasMark 3 (some .boolean), Cond.fieldLink RX1 24 "HouseSorted$House" "marks" "[I", Cond.methodLink RX1 52 yX1_isKeptPaper, Cond.instanceMethod yX1_isKeptPaper, Cond.selects RX1 yX1_isKeptPaper yX1_isKeptPaper, Cond.code yX1_isKeptPaper cX1_isKeptPaper 2 (some .boolean), Cond.fieldLink RX1 21 "HouseSorted$House" "age" "[I", Cond.methodLink RX1 56 yX1_isWanted, Cond.instanceMethod yX1_isWanted, Cond.selects RX1 yX1_isWanted yX1_isWanted, Cond.code yX1_isWanted cX1_isWanted 3 (some .boolean), Cond.fieldLink RX1 36 "HouseSorted$House" "heirs" "I"]
def wsX1_sumOnWay_r2 : List Cond := [Cond.fieldLink RX1 29 "HouseSorted$House" "worth" "[[I"]
def wsX1_sumOnWay : List Cond := .code yX1_sumOnWay cX1_sumOnWay 5 (some .int) :: ((wsX1_sumOnWay_r1 ++ wsX1_sumOnWay_r2) ++ wsX10 ++ wsX20)
def wsX1_secondLook : List Cond := .code yX1_secondLook cX1_secondLook 3 (some .int) :: ([.fieldLink RX1 32 "HouseSorted$House" "book" "LHouseSorted$LawBook;", .fieldLink RX1 47 "HouseSorted$LawBook" "value" "[I", .fieldLink RX1 15 "HouseSorted$House" "low" "[I", .fieldLink RX1 18 "HouseSorted$House" "high" "[I", .methodLink RX1 63 Lib.Math.max.name, .static Lib.Math.max.name, .initialized "java/lang/Math", .code Lib.Math.max.name Lib.Math.max.code 2 (some .int), .methodLink RX1 43 yX1_hasMark, .instanceMethod yX1_hasMark, .selects RX1 yX1_hasMark yX1_hasMark, .initialized RX1, .code yX1_hasMark cX1_hasMark 3 (some .boolean), .fieldLink RX1 24 "HouseSorted$House" "marks" "[I", .methodLink RX1 52 yX1_isKeptPaper, .instanceMethod yX1_isKeptPaper, .selects RX1 yX1_isKeptPaper yX1_isKeptPaper, .code yX1_isKeptPaper cX1_isKeptPaper 2 (some .boolean), .fieldLink RX1 21 "HouseSorted$House" "age" "[I"] ++ wsX10 ++ wsX20)
def wsX1_takeWorths : List Cond := .code yX1_takeWorths cX1_takeWorths 7 (some .int) :: ([.fieldLink RX1 40 "HouseSorted$House" "things" "I", .fieldLink RX1 69 "HouseSorted$Sheet" "cells" "[I", .fieldLink RX1 29 "HouseSorted$House" "worth" "[[I"] ++ wsX10 ++ wsX40)
def wsX6_init : List Cond := .code yX6_init cX6_init 2 none :: ([.methodLink RX6 3 objectInit, .instanceMethod objectInit, .code objectInit ⟨#[0xb1]⟩ 1 none, .fieldLink RX6 9 "HouseSorted$TokenReader" "tape" "LHouseSorted$Tape;"] ++ wsX60)
def wsX2_init : List Cond := .code yX2_init cX2_init 2 none :: ([.methodLink RX2 3 objectInit, .instanceMethod objectInit, .code objectInit ⟨#[0xb1]⟩ 1 none, .methodLink RX2 13 ⟨"[I", "clone", "()Ljava/lang/Object;"⟩, .sameMethod "[I" "java/lang/Object" "clone" "()Ljava/lang/Object;", .native ⟨"java/lang/Object", "clone", "()Ljava/lang/Object;"⟩, .instanceMethod ⟨"java/lang/Object", "clone", "()Ljava/lang/Object;"⟩, .selects "[I" ⟨"[I", "clone", "()Ljava/lang/Object;"⟩ ⟨"java/lang/Object", "clone", "()Ljava/lang/Object;"⟩, .classLink RX2 14 "[I", .fieldLink RX2 18 "HouseSorted$LawBook" "value" "[I", .arrayClass .int, .fieldLink RX2 23 "HouseSorted$LawBook" "draft" "[I", .classLink RX2 26 RX6, .instantiable RX6 5, .initialized RX6, .fieldLink RX2 31 "HouseSorted$LawBook" "reader" "LHouseSorted$TokenReader;", .methodLink RX2 28 yX6_init, .instanceMethod yX6_init, .code yX6_init cX6_init 2 none, .methodLink RX6 3 objectInit, .fieldLink RX6 9 "HouseSorted$TokenReader" "tape" "LHouseSorted$Tape;"] ++ wsX20 ++ wsX60)
def wsX6_rewind : List Cond := .code yX6_rewind cX6_rewind 1 none :: ([.fieldLink RX6 15 "HouseSorted$TokenReader" "place" "I"] ++ wsX60)
def wsX5_hasBetween : List Cond := .code yX5_hasBetween cX5_hasBetween 4 (some .boolean) :: ([.fieldLink RX5 15 "HouseSorted$Tape" "length" "I", .fieldLink RX5 9 "HouseSorted$Tape" "bytes" "[B"] ++ wsX50)
def wsX6_placeBehind : List Cond := .code yX6_placeBehind cX6_placeBehind 5 (some .int) :: ([.fieldLink RX6 9 "HouseSorted$TokenReader" "tape" "LHouseSorted$Tape;", .fieldLink RX6 26 "HouseSorted$Tape" "length" "I", .methodLink RX6 34 yX5_hasBetween, .instanceMethod yX5_hasBetween, .selects RX5 yX5_hasBetween yX5_hasBetween, .initialized RX5, .code yX5_hasBetween cX5_hasBetween 4 (some .boolean), .fieldLink RX5 15 "HouseSorted$Tape" "length" "I", .fieldLink RX5 9 "HouseSorted$Tape" "bytes" "[B"] ++ wsX60 ++ wsX50)
def wsJ0_isLatin1_aae02 : List Cond := .code yJ0_isLatin1_aae02 cJ0_isLatin1_aae02 1 (some .boolean) :: ([.fieldLink RJ0 38 "java/lang/String" "COMPACT_STRINGS" "Z", .fieldLink RJ0 15 "java/lang/String" "coder" "B"])
def wsJ3_checkIndex_8e157 : List Cond := .code yJ3_checkIndex_8e157 cJ3_checkIndex_8e157 3 (some .int) :: ([])
def wsJ0_checkIndex_df160 : List Cond := .code yJ0_checkIndex_df160 cJ0_checkIndex_df160 2 none :: ([.fieldLink RJ0 1053 "jdk/internal/util/Preconditions" "SIOOBE_FORMATTER" "Ljava/util/function/BiFunction;", .methodLink RJ0 1059 yJ3_checkIndex_8e157, .static yJ3_checkIndex_8e157, .initialized RJ3, .code yJ3_checkIndex_8e157 cJ3_checkIndex_8e157 3 (some .int)])
def wsJ1_charAt_3b067 : List Cond := .code yJ1_charAt_3b067 cJ1_charAt_3b067 2 (some .char) :: ([.methodLink RJ1 9 yJ0_checkIndex_df160, .static yJ0_checkIndex_df160, .initialized RJ0, .code yJ0_checkIndex_df160 cJ0_checkIndex_df160 2 none, .fieldLink RJ0 1053 "jdk/internal/util/Preconditions" "SIOOBE_FORMATTER" "Ljava/util/function/BiFunction;", .methodLink RJ0 1059 yJ3_checkIndex_8e157, .static yJ3_checkIndex_8e157, .initialized RJ3, .code yJ3_checkIndex_8e157 cJ3_checkIndex_8e157 3 (some .int)])
def wsJ2_length_9d52b : List Cond := .code yJ2_length_9d52b cJ2_length_9d52b 1 (some .int) :: ([])
def wsJ2_checkIndex_2214a : List Cond := .code yJ2_checkIndex_2214a cJ2_checkIndex_2214a 2 none :: ([.methodLink RJ2 48 yJ2_length_9d52b, .static yJ2_length_9d52b, .initialized RJ2, .code yJ2_length_9d52b cJ2_length_9d52b 1 (some .int), .methodLink RJ2 414 yJ0_checkIndex_df160, .static yJ0_checkIndex_df160, .initialized RJ0, .code yJ0_checkIndex_df160 cJ0_checkIndex_df160 2 none, .fieldLink RJ0 1053 "jdk/internal/util/Preconditions" "SIOOBE_FORMATTER" "Ljava/util/function/BiFunction;", .methodLink RJ0 1059 yJ3_checkIndex_8e157, .static yJ3_checkIndex_8e157, .initialized RJ3, .code yJ3_checkIndex_8e157 cJ3_checkIndex_8e157 3 (some .int)])
def wsJ2_getChar_3b067 : List Cond := .code yJ2_getChar_3b067 cJ2_getChar_3b067 2 (some .char) :: ([.fieldLink RJ2 44 "java/lang/StringUTF16" "$assertionsDisabled" "Z", .fieldLink RJ2 59 "java/lang/StringUTF16" "HI_BYTE_SHIFT" "I", .fieldLink RJ2 63 "java/lang/StringUTF16" "LO_BYTE_SHIFT" "I", .methodLink RJ2 48 yJ2_length_9d52b, .static yJ2_length_9d52b, .initialized RJ2, .code yJ2_length_9d52b cJ2_length_9d52b 1 (some .int)])
def wsJ2_charAt_3b067 : List Cond := .code yJ2_charAt_3b067 cJ2_charAt_3b067 2 (some .char) :: ([.methodLink RJ2 67 yJ2_checkIndex_2214a, .static yJ2_checkIndex_2214a, .initialized RJ2, .code yJ2_checkIndex_2214a cJ2_checkIndex_2214a 2 none, .methodLink RJ2 48 yJ2_length_9d52b, .static yJ2_length_9d52b, .code yJ2_length_9d52b cJ2_length_9d52b 1 (some .int), .methodLink RJ2 414 yJ0_checkIndex_df160, .static yJ0_checkIndex_df160, .initialized RJ0, .code yJ0_checkIndex_df160 cJ0_checkIndex_df160 2 none, .fieldLink RJ0 1053 "jdk/internal/util/Preconditions" "SIOOBE_FORMATTER" "Ljava/util/function/BiFunction;", .methodLink RJ0 1059 yJ3_checkIndex_8e157, .static yJ3_checkIndex_8e157, .initialized RJ3, .code yJ3_checkIndex_8e157 cJ3_checkIndex_8e157 3 (some .int), .methodLink RJ2 71 yJ2_getChar_3b067, .static yJ2_getChar_3b067, .code yJ2_getChar_3b067 cJ2_getChar_3b067 2 (some .char), .fieldLink RJ2 44 "java/lang/StringUTF16" "$assertionsDisabled" "Z", .fieldLink RJ2 59 "java/lang/StringUTF16" "HI_BYTE_SHIFT" "I", .fieldLink RJ2 63 "java/lang/StringUTF16" "LO_BYTE_SHIFT" "I"])
def wsJ0_charAt_5068e_r1 : List Cond := [Cond.fieldLink RJ0 9 "java/lang/String" "value" "[B", Cond.methodLink RJ0 492 yJ0_isLatin1_aae02, Cond.instanceMethod yJ0_isLatin1_aae02, Cond.selects RJ0 yJ0_isLatin1_aae02 yJ0_isLatin1_aae02, Cond.initialized RJ0, Cond.code yJ0_isLatin1_aae02 cJ0_isLatin1_aae02 1 (some .boolean), Cond.fieldLink RJ0 38 "java/lang/String" "COMPACT_STRINGS" "Z", Cond.fieldLink RJ0 15 "java/lang/String" "coder" "B", Cond.methodLink RJ0 495 yJ1_charAt_3b067, Cond.static yJ1_charAt_3b067, Cond.initialized RJ1, Cond.code yJ1_charAt_3b067 cJ1_charAt_3b067 2 (some .char), Cond.methodLink RJ1 9 yJ0_checkIndex_df160, Cond.static yJ0_checkIndex_df160, Cond.code yJ0_checkIndex_df160 cJ0_checkIndex_df160 2 none, Cond.fieldLink RJ0 1053 "jdk/internal/util/Preconditions" "SIOOBE_FORMATTER" "Ljava/util/function/BiFunction;", Cond.methodLink RJ0 1059 yJ3_checkIndex_8e157, Cond.static yJ3_checkIndex_8e157, Cond.initialized RJ3, Cond.code yJ3_checkIndex_8e157 cJ3_checkIndex_8e157 3 (some .int), Cond.methodLink RJ0 498 yJ2_charAt_3b067, Cond.static yJ2_charAt_3b067, Cond.initialized RJ2, Cond.code yJ2_charAt_3b067 cJ2_charAt_3b067 2 (some .char)]
def wsJ0_charAt_5068e_r2 : List Cond := [Cond.methodLink RJ2 67 yJ2_checkIndex_2214a, Cond.static yJ2_checkIndex_2214a, Cond.code yJ2_checkIndex_2214a cJ2_checkIndex_2214a 2 none, Cond.methodLink RJ2 48 yJ2_length_9d52b, Cond.static yJ2_length_9d52b, Cond.code yJ2_length_9d52b cJ2_length_9d52b 1 (some .int), Cond.methodLink RJ2 414 yJ0_checkIndex_df160, Cond.methodLink RJ2 71 yJ2_getChar_3b067, Cond.static yJ2_getChar_3b067, Cond.code yJ2_getChar_3b067 cJ2_getChar_3b067 2 (some .char), Cond.fieldLink RJ2 44 "java/lang/StringUTF16" "$assertionsDisabled" "Z", Cond.fieldLink RJ2 59 "java/lang/StringUTF16" "HI_BYTE_SHIFT" "I", Cond.fieldLink RJ2 63 "java/lang/StringUTF16" "LO_BYTE_SHIFT" "I"]
def wsJ0_charAt_5068e : List Cond := .code yJ0_charAt_5068e cJ0_charAt_5068e 2 (some .char) :: ((wsJ0_charAt_5068e_r1 ++ wsJ0_charAt_5068e_r2))
def wsX6_isName_r1 : List Cond := [Cond.fieldLink RX6 15 "HouseSorted$TokenReader" "place" "I", Cond.fieldLink RX6 23 "HouseSorted$TokenReader" "start" "I", Cond.fieldLink RX6 9 "HouseSorted$TokenReader" "tape" "LHouseSorted$Tape;", Cond.fieldLink RX6 59 "HouseSorted$Tape" "bytes" "[B", Cond.methodLink RX6 53 yJ0_charAt_5068e, Cond.instanceMethod yJ0_charAt_5068e, Cond.selects RJ0 yJ0_charAt_5068e yJ0_charAt_5068e, Cond.initialized RJ0, Cond.code yJ0_charAt_5068e cJ0_charAt_5068e 2 (some .char), Cond.fieldLink RJ0 9 "java/lang/String" "value" "[B", Cond.methodLink RJ0 492 yJ0_isLatin1_aae02, Cond.instanceMethod yJ0_isLatin1_aae02, Cond.selects RJ0 yJ0_isLatin1_aae02 yJ0_isLatin1_aae02, Cond.code yJ0_isLatin1_aae02 cJ0_isLatin1_aae02 1 (some .boolean), Cond.fieldLink RJ0 38 "java/lang/String" "COMPACT_STRINGS" "Z", Cond.fieldLink RJ0 15 "java/lang/String" "coder" "B", Cond.methodLink RJ0 495 yJ1_charAt_3b067, Cond.static yJ1_charAt_3b067, Cond.initialized RJ1, Cond.code yJ1_charAt_3b067 cJ1_charAt_3b067 2 (some .char), Cond.methodLink RJ1 9 yJ0_checkIndex_df160, Cond.static yJ0_checkIndex_df160, Cond.code yJ0_checkIndex_df160 cJ0_checkIndex_df160 2 none, Cond.fieldLink RJ0 1053 "jdk/internal/util/Preconditions" "SIOOBE_FORMATTER" "Ljava/util/function/BiFunction;"]
def wsX6_isName_r2 : List Cond := [Cond.methodLink RJ0 1059 yJ3_checkIndex_8e157, Cond.static yJ3_checkIndex_8e157, Cond.initialized RJ3, Cond.code yJ3_checkIndex_8e157 cJ3_checkIndex_8e157 3 (some .int), Cond.methodLink RJ0 498 yJ2_charAt_3b067, Cond.static yJ2_charAt_3b067, Cond.initialized RJ2, Cond.code yJ2_charAt_3b067 cJ2_charAt_3b067 2 (some .char), Cond.methodLink RJ2 67 yJ2_checkIndex_2214a, Cond.static yJ2_checkIndex_2214a, Cond.code yJ2_checkIndex_2214a cJ2_checkIndex_2214a 2 none, Cond.methodLink RJ2 48 yJ2_length_9d52b, Cond.static yJ2_length_9d52b, Cond.code yJ2_length_9d52b cJ2_length_9d52b 1 (some .int), Cond.methodLink RJ2 414 yJ0_checkIndex_df160, Cond.methodLink RJ2 71 yJ2_getChar_3b067, Cond.static yJ2_getChar_3b067, Cond.code yJ2_getChar_3b067 cJ2_getChar_3b067 2 (some .char), Cond.fieldLink RJ2 44 "java/lang/StringUTF16" "$assertionsDisabled" "Z", Cond.fieldLink RJ2 59 "java/lang/StringUTF16" "HI_BYTE_SHIFT" "I", Cond.fieldLink RJ2 63 "java/lang/StringUTF16" "LO_BYTE_SHIFT" "I"]
def wsX6_isName : List Cond := .code yX6_isName cX6_isName 5 (some .boolean) :: ((wsX6_isName_r1 ++ wsX6_isName_r2) ++ wsX60 ++ wsX50)
def wsX6_readName_r1 : List Cond := [Cond.fieldLink RX6 23 "HouseSorted$TokenReader" "start" "I", Cond.fieldLink RX6 15 "HouseSorted$TokenReader" "place" "I", Cond.fieldLink RX6 31 "HouseSorted$TokenReader" "kind" "I", Cond.fieldLink RX6 48 "HouseSorted$TokenReader" "value" "I", Cond.methodLink RX6 19 yX6_placeBehind, Cond.instanceMethod yX6_placeBehind, Cond.selects RX6 yX6_placeBehind yX6_placeBehind, Cond.initialized RX6, Cond.code yX6_placeBehind cX6_placeBehind 5 (some .int), Cond.fieldLink RX6 9 "HouseSorted$TokenReader" "tape" "LHouseSorted$Tape;", Cond.fieldLink RX6 26 "HouseSorted$Tape" "length" "I", Cond.methodLink RX6 34 yX5_hasBetween, Cond.instanceMethod yX5_hasBetween, Cond.selects RX5 yX5_hasBetween yX5_hasBetween, Cond.initialized RX5, Cond.code yX5_hasBetween cX5_hasBetween 4 (some .boolean), Cond.fieldLink RX5 15 "HouseSorted$Tape" "length" "I", Cond.fieldLink RX5 9 "HouseSorted$Tape" "bytes" "[B", Cond.methodLink RX6 44 yX6_isName, Cond.instanceMethod yX6_isName, Cond.selects RX6 yX6_isName yX6_isName, Cond.code yX6_isName cX6_isName 5 (some .boolean), Cond.fieldLink RX6 59 "HouseSorted$Tape" "bytes" "[B", Cond.methodLink RX6 53 yJ0_charAt_5068e]
def wsX6_readName_r2 : List Cond := [Cond.instanceMethod yJ0_charAt_5068e, Cond.selects RJ0 yJ0_charAt_5068e yJ0_charAt_5068e, Cond.initialized RJ0, Cond.code yJ0_charAt_5068e cJ0_charAt_5068e 2 (some .char), Cond.fieldLink RJ0 9 "java/lang/String" "value" "[B", Cond.methodLink RJ0 492 yJ0_isLatin1_aae02, Cond.instanceMethod yJ0_isLatin1_aae02, Cond.selects RJ0 yJ0_isLatin1_aae02 yJ0_isLatin1_aae02, Cond.code yJ0_isLatin1_aae02 cJ0_isLatin1_aae02 1 (some .boolean), Cond.fieldLink RJ0 38 "java/lang/String" "COMPACT_STRINGS" "Z", Cond.fieldLink RJ0 15 "java/lang/String" "coder" "B", Cond.methodLink RJ0 495 yJ1_charAt_3b067, Cond.static yJ1_charAt_3b067, Cond.initialized RJ1, Cond.code yJ1_charAt_3b067 cJ1_charAt_3b067 2 (some .char), Cond.methodLink RJ1 9 yJ0_checkIndex_df160, Cond.static yJ0_checkIndex_df160, Cond.code yJ0_checkIndex_df160 cJ0_checkIndex_df160 2 none, Cond.fieldLink RJ0 1053 "jdk/internal/util/Preconditions" "SIOOBE_FORMATTER" "Ljava/util/function/BiFunction;", Cond.methodLink RJ0 1059 yJ3_checkIndex_8e157, Cond.static yJ3_checkIndex_8e157, Cond.initialized RJ3, Cond.code yJ3_checkIndex_8e157 cJ3_checkIndex_8e157 3 (some .int), Cond.methodLink RJ0 498 yJ2_charAt_3b067]
def wsX6_readName_r3 : List Cond := [Cond.static yJ2_charAt_3b067, Cond.initialized RJ2, Cond.code yJ2_charAt_3b067 cJ2_charAt_3b067 2 (some .char), Cond.methodLink RJ2 67 yJ2_checkIndex_2214a, Cond.static yJ2_checkIndex_2214a, Cond.code yJ2_checkIndex_2214a cJ2_checkIndex_2214a 2 none, Cond.methodLink RJ2 48 yJ2_length_9d52b, Cond.static yJ2_length_9d52b, Cond.code yJ2_length_9d52b cJ2_length_9d52b 1 (some .int), Cond.methodLink RJ2 414 yJ0_checkIndex_df160, Cond.methodLink RJ2 71 yJ2_getChar_3b067, Cond.static yJ2_getChar_3b067, Cond.code yJ2_getChar_3b067 cJ2_getChar_3b067 2 (some .char), Cond.fieldLink RJ2 44 "java/lang/StringUTF16" "$assertionsDisabled" "Z", Cond.fieldLink RJ2 59 "java/lang/StringUTF16" "HI_BYTE_SHIFT" "I", Cond.fieldLink RJ2 63 "java/lang/StringUTF16" "LO_BYTE_SHIFT" "I"]
def wsX6_readName : List Cond := .code yX6_readName cX6_readName 2 none :: ((wsX6_readName_r1 ++ (wsX6_readName_r2 ++ wsX6_readName_r3)) ++ wsX60 ++ wsX50)
def wsX6_readNumber : List Cond := .code yX6_readNumber cX6_readNumber 2 none :: ([.fieldLink RX6 23 "HouseSorted$TokenReader" "start" "I", .fieldLink RX6 15 "HouseSorted$TokenReader" "place" "I", .fieldLink RX6 31 "HouseSorted$TokenReader" "kind" "I", .fieldLink RX6 48 "HouseSorted$TokenReader" "value" "I", .fieldLink RX6 9 "HouseSorted$TokenReader" "tape" "LHouseSorted$Tape;", .fieldLink RX6 59 "HouseSorted$Tape" "bytes" "[B", .methodLink RX6 19 yX6_placeBehind, .instanceMethod yX6_placeBehind, .selects RX6 yX6_placeBehind yX6_placeBehind, .initialized RX6, .code yX6_placeBehind cX6_placeBehind 5 (some .int), .fieldLink RX6 26 "HouseSorted$Tape" "length" "I", .methodLink RX6 34 yX5_hasBetween, .instanceMethod yX5_hasBetween, .selects RX5 yX5_hasBetween yX5_hasBetween, .initialized RX5, .code yX5_hasBetween cX5_hasBetween 4 (some .boolean), .fieldLink RX5 15 "HouseSorted$Tape" "length" "I", .fieldLink RX5 9 "HouseSorted$Tape" "bytes" "[B"] ++ wsX60 ++ wsX50)
def wsX6_advance_r1 : List Cond := [Cond.fieldLink RX6 15 "HouseSorted$TokenReader" "place" "I", Cond.fieldLink RX6 23 "HouseSorted$TokenReader" "start" "I", Cond.fieldLink RX6 9 "HouseSorted$TokenReader" "tape" "LHouseSorted$Tape;", Cond.fieldLink RX6 26 "HouseSorted$Tape" "length" "I", Cond.fieldLink RX6 31 "HouseSorted$TokenReader" "kind" "I", Cond.methodLink RX6 19 yX6_placeBehind, Cond.instanceMethod yX6_placeBehind, Cond.selects RX6 yX6_placeBehind yX6_placeBehind, Cond.initialized RX6, Cond.code yX6_placeBehind cX6_placeBehind 5 (some .int), Cond.methodLink RX6 34 yX5_hasBetween, Cond.instanceMethod yX5_hasBetween, Cond.selects RX5 yX5_hasBetween yX5_hasBetween, Cond.initialized RX5, Cond.code yX5_hasBetween cX5_hasBetween 4 (some .boolean), Cond.fieldLink RX5 15 "HouseSorted$Tape" "length" "I", Cond.fieldLink RX5 9 "HouseSorted$Tape" "bytes" "[B", Cond.methodLink RX6 38 yX6_readName, Cond.instanceMethod yX6_readName, Cond.selects RX6 yX6_readName yX6_readName, Cond.code yX6_readName cX6_readName 2 none, Cond.fieldLink RX6 48 "HouseSorted$TokenReader" "value" "I", Cond.methodLink RX6 44 yX6_isName, Cond.instanceMethod yX6_isName]
def wsX6_advance_r2 : List Cond := [Cond.selects RX6 yX6_isName yX6_isName, Cond.code yX6_isName cX6_isName 5 (some .boolean), Cond.fieldLink RX6 59 "HouseSorted$Tape" "bytes" "[B", Cond.methodLink RX6 53 yJ0_charAt_5068e, Cond.instanceMethod yJ0_charAt_5068e, Cond.selects RJ0 yJ0_charAt_5068e yJ0_charAt_5068e, Cond.initialized RJ0, Cond.code yJ0_charAt_5068e cJ0_charAt_5068e 2 (some .char), Cond.fieldLink RJ0 9 "java/lang/String" "value" "[B", Cond.methodLink RJ0 492 yJ0_isLatin1_aae02, Cond.instanceMethod yJ0_isLatin1_aae02, Cond.selects RJ0 yJ0_isLatin1_aae02 yJ0_isLatin1_aae02, Cond.code yJ0_isLatin1_aae02 cJ0_isLatin1_aae02 1 (some .boolean), Cond.fieldLink RJ0 38 "java/lang/String" "COMPACT_STRINGS" "Z", Cond.fieldLink RJ0 15 "java/lang/String" "coder" "B", Cond.methodLink RJ0 495 yJ1_charAt_3b067, Cond.static yJ1_charAt_3b067, Cond.initialized RJ1, Cond.code yJ1_charAt_3b067 cJ1_charAt_3b067 2 (some .char), Cond.methodLink RJ1 9 yJ0_checkIndex_df160, Cond.static yJ0_checkIndex_df160, Cond.code yJ0_checkIndex_df160 cJ0_checkIndex_df160 2 none, Cond.fieldLink RJ0 1053 "jdk/internal/util/Preconditions" "SIOOBE_FORMATTER" "Ljava/util/function/BiFunction;", Cond.methodLink RJ0 1059 yJ3_checkIndex_8e157]
def wsX6_advance_r3 : List Cond := [Cond.static yJ3_checkIndex_8e157, Cond.initialized RJ3, Cond.code yJ3_checkIndex_8e157 cJ3_checkIndex_8e157 3 (some .int), Cond.methodLink RJ0 498 yJ2_charAt_3b067, Cond.static yJ2_charAt_3b067, Cond.initialized RJ2, Cond.code yJ2_charAt_3b067 cJ2_charAt_3b067 2 (some .char), Cond.methodLink RJ2 67 yJ2_checkIndex_2214a, Cond.static yJ2_checkIndex_2214a, Cond.code yJ2_checkIndex_2214a cJ2_checkIndex_2214a 2 none, Cond.methodLink RJ2 48 yJ2_length_9d52b, Cond.static yJ2_length_9d52b, Cond.code yJ2_length_9d52b cJ2_length_9d52b 1 (some .int), Cond.methodLink RJ2 414 yJ0_checkIndex_df160, Cond.methodLink RJ2 71 yJ2_getChar_3b067, Cond.static yJ2_getChar_3b067, Cond.code yJ2_getChar_3b067 cJ2_getChar_3b067 2 (some .char), Cond.fieldLink RJ2 44 "java/lang/StringUTF16" "$assertionsDisabled" "Z", Cond.fieldLink RJ2 59 "java/lang/StringUTF16" "HI_BYTE_SHIFT" "I", Cond.fieldLink RJ2 63 "java/lang/StringUTF16" "LO_BYTE_SHIFT" "I", Cond.methodLink RX6 41 yX6_readNumber, Cond.instanceMethod yX6_readNumber, Cond.selects RX6 yX6_readNumber yX6_readNumber, Cond.code yX6_readNumber cX6_readNumber 2 none]
def wsX6_advance : List Cond := .code yX6_advance cX6_advance 1 none :: ((wsX6_advance_r1 ++ (wsX6_advance_r2 ++ wsX6_advance_r3)) ++ wsX60 ++ wsX50)
def wsX2_misfit : List Cond := .code yX2_misfit cX2_misfit 1 (some .int) :: ([.fieldLink RX2 31 "HouseSorted$LawBook" "reader" "LHouseSorted$TokenReader;", .fieldLink RX2 54 "HouseSorted$TokenReader" "kind" "I"] ++ wsX20 ++ wsX60)
def wsX8_isWithin : List Cond := .code yX8_isWithin cX8_isWithin 3 (some .boolean) :: ([])
def wsX2_readAmount : List Cond := .code yX2_readAmount cX2_readAmount 2 (some .int) :: ([.fieldLink RX2 31 "HouseSorted$LawBook" "reader" "LHouseSorted$TokenReader;", .fieldLink RX2 54 "HouseSorted$TokenReader" "kind" "I", .fieldLink RX2 73 "HouseSorted$TokenReader" "value" "I", .fieldLink RX2 23 "HouseSorted$LawBook" "draft" "[I", .methodLink RX2 75 yX2_misfit, .instanceMethod yX2_misfit, .selects RX2 yX2_misfit yX2_misfit, .initialized RX2, .code yX2_misfit cX2_misfit 1 (some .int), .static yX8_isWithin, .initialized RX8, .code yX8_isWithin cX8_isWithin 3 (some .boolean)] ++ wsX20 ++ wsX60)
def wsX2_readWay : List Cond := .code yX2_readWay cX2_readWay 2 (some .int) :: ([.fieldLink RX2 31 "HouseSorted$LawBook" "reader" "LHouseSorted$TokenReader;", .fieldLink RX2 54 "HouseSorted$TokenReader" "kind" "I", .fieldLink RX2 73 "HouseSorted$TokenReader" "value" "I", .fieldLink RX2 23 "HouseSorted$LawBook" "draft" "[I", .methodLink RX2 75 yX2_misfit, .instanceMethod yX2_misfit, .selects RX2 yX2_misfit yX2_misfit, .initialized RX2, .code yX2_misfit cX2_misfit 1 (some .int)] ++ wsX20 ++ wsX60)
def wsX2_readLaw_r1 : List Cond := [Cond.fieldLink RX2 31 "HouseSorted$LawBook" "reader" "LHouseSorted$TokenReader;", Cond.fieldLink RX2 54 "HouseSorted$TokenReader" "kind" "I", Cond.fieldLink RX2 73 "HouseSorted$TokenReader" "value" "I", Cond.fieldLink RX2 44 "HouseSorted$LawBook" "draftBits" "I", Cond.methodLink RX2 75 yX2_misfit, Cond.instanceMethod yX2_misfit, Cond.selects RX2 yX2_misfit yX2_misfit, Cond.initialized RX2, Cond.code yX2_misfit cX2_misfit 1 (some .int), Cond.methodLink RX2 51 yX6_advance, Cond.instanceMethod yX6_advance, Cond.selects RX6 yX6_advance yX6_advance, Cond.initialized RX6, Cond.code yX6_advance cX6_advance 1 none, Cond.fieldLink RX6 15 "HouseSorted$TokenReader" "place" "I", Cond.fieldLink RX6 23 "HouseSorted$TokenReader" "start" "I", Cond.fieldLink RX6 9 "HouseSorted$TokenReader" "tape" "LHouseSorted$Tape;", Cond.fieldLink RX6 26 "HouseSorted$Tape" "length" "I", Cond.fieldLink RX6 31 "HouseSorted$TokenReader" "kind" "I", Cond.methodLink RX6 19 yX6_placeBehind, Cond.instanceMethod yX6_placeBehind, Cond.selects RX6 yX6_placeBehind yX6_placeBehind, Cond.code yX6_placeBehind cX6_placeBehind 5 (some .int), Cond.methodLink RX6 34 yX5_hasBetween]
def wsX2_readLaw_r2 : List Cond := [Cond.instanceMethod yX5_hasBetween, Cond.selects RX5 yX5_hasBetween yX5_hasBetween, Cond.initialized RX5, Cond.code yX5_hasBetween cX5_hasBetween 4 (some .boolean), Cond.fieldLink RX5 15 "HouseSorted$Tape" "length" "I", Cond.fieldLink RX5 9 "HouseSorted$Tape" "bytes" "[B", Cond.methodLink RX6 38 yX6_readName, Cond.instanceMethod yX6_readName, Cond.selects RX6 yX6_readName yX6_readName, Cond.code yX6_readName cX6_readName 2 none, Cond.fieldLink RX6 48 "HouseSorted$TokenReader" "value" "I", Cond.methodLink RX6 44 yX6_isName, Cond.instanceMethod yX6_isName, Cond.selects RX6 yX6_isName yX6_isName, Cond.code yX6_isName cX6_isName 5 (some .boolean), Cond.fieldLink RX6 59 "HouseSorted$Tape" "bytes" "[B", Cond.methodLink RX6 53 yJ0_charAt_5068e, Cond.instanceMethod yJ0_charAt_5068e, Cond.selects RJ0 yJ0_charAt_5068e yJ0_charAt_5068e, Cond.initialized RJ0, Cond.code yJ0_charAt_5068e cJ0_charAt_5068e 2 (some .char), Cond.fieldLink RJ0 9 "java/lang/String" "value" "[B", Cond.methodLink RJ0 492 yJ0_isLatin1_aae02, Cond.instanceMethod yJ0_isLatin1_aae02]
def wsX2_readLaw_r3 : List Cond := [Cond.selects RJ0 yJ0_isLatin1_aae02 yJ0_isLatin1_aae02, Cond.code yJ0_isLatin1_aae02 cJ0_isLatin1_aae02 1 (some .boolean), Cond.fieldLink RJ0 38 "java/lang/String" "COMPACT_STRINGS" "Z", Cond.fieldLink RJ0 15 "java/lang/String" "coder" "B", Cond.methodLink RJ0 495 yJ1_charAt_3b067, Cond.static yJ1_charAt_3b067, Cond.initialized RJ1, Cond.code yJ1_charAt_3b067 cJ1_charAt_3b067 2 (some .char), Cond.methodLink RJ1 9 yJ0_checkIndex_df160, Cond.static yJ0_checkIndex_df160, Cond.code yJ0_checkIndex_df160 cJ0_checkIndex_df160 2 none, Cond.fieldLink RJ0 1053 "jdk/internal/util/Preconditions" "SIOOBE_FORMATTER" "Ljava/util/function/BiFunction;", Cond.methodLink RJ0 1059 yJ3_checkIndex_8e157, Cond.static yJ3_checkIndex_8e157, Cond.initialized RJ3, Cond.code yJ3_checkIndex_8e157 cJ3_checkIndex_8e157 3 (some .int), Cond.methodLink RJ0 498 yJ2_charAt_3b067, Cond.static yJ2_charAt_3b067, Cond.initialized RJ2, Cond.code yJ2_charAt_3b067 cJ2_charAt_3b067 2 (some .char), Cond.methodLink RJ2 67 yJ2_checkIndex_2214a, Cond.static yJ2_checkIndex_2214a, Cond.code yJ2_checkIndex_2214a cJ2_checkIndex_2214a 2 none, Cond.methodLink RJ2 48 yJ2_length_9d52b]
def wsX2_readLaw_r4 : List Cond := [Cond.static yJ2_length_9d52b, Cond.code yJ2_length_9d52b cJ2_length_9d52b 1 (some .int), Cond.methodLink RJ2 414 yJ0_checkIndex_df160, Cond.methodLink RJ2 71 yJ2_getChar_3b067, Cond.static yJ2_getChar_3b067, Cond.code yJ2_getChar_3b067 cJ2_getChar_3b067 2 (some .char), Cond.fieldLink RJ2 44 "java/lang/StringUTF16" "$assertionsDisabled" "Z", Cond.fieldLink RJ2 59 "java/lang/StringUTF16" "HI_BYTE_SHIFT" "I", Cond.fieldLink RJ2 63 "java/lang/StringUTF16" "LO_BYTE_SHIFT" "I", Cond.methodLink RX6 41 yX6_readNumber, Cond.instanceMethod yX6_readNumber, Cond.selects RX6 yX6_readNumber yX6_readNumber, Cond.code yX6_readNumber cX6_readNumber 2 none, Cond.methodLink RX2 78 yX2_readAmount, Cond.instanceMethod yX2_readAmount, Cond.selects RX2 yX2_readAmount yX2_readAmount, Cond.code yX2_readAmount cX2_readAmount 2 (some .int), Cond.fieldLink RX2 23 "HouseSorted$LawBook" "draft" "[I", Cond.static yX8_isWithin, Cond.initialized RX8, Cond.code yX8_isWithin cX8_isWithin 3 (some .boolean), Cond.methodLink RX2 81 yX2_readWay, Cond.instanceMethod yX2_readWay, Cond.selects RX2 yX2_readWay yX2_readWay]
def wsX2_readLaw_r5 : List Cond := [Cond.code yX2_readWay cX2_readWay 2 (some .int)]
def wsX2_readLaw : List Cond := .code yX2_readLaw cX2_readLaw 3 (some .int) :: ((wsX2_readLaw_r1 ++ (wsX2_readLaw_r2 ++ (wsX2_readLaw_r3 ++ (wsX2_readLaw_r4 ++ wsX2_readLaw_r5)))) ++ wsX20 ++ wsX60 ++ wsX50)
def wsJ6_bitCount_0f7a4 : List Cond := .code yJ6_bitCount_0f7a4 cJ6_bitCount_0f7a4 1 (some .int) :: ([.constant RJ6 265 (1431655765), .constant RJ6 266 (858993459), .constant RJ6 267 (252645135)])
def wsX2_readTape_r1 : List Cond := [Cond.fieldLink RX2 31 "HouseSorted$LawBook" "reader" "LHouseSorted$TokenReader;", Cond.fieldLink RX2 23 "HouseSorted$LawBook" "draft" "[I", Cond.methodLink RX2 38 arraycopyName, Cond.native arraycopyName, Cond.static arraycopyName, Cond.initialized "java/lang/System", Cond.fieldLink RX2 44 "HouseSorted$LawBook" "draftBits" "I", Cond.fieldLink RX2 48 "HouseSorted$LawBook" "fault" "I", Cond.fieldLink RX2 54 "HouseSorted$TokenReader" "kind" "I", Cond.fieldLink RX2 61 "HouseSorted$TokenReader" "start" "I", Cond.fieldLink RX2 18 "HouseSorted$LawBook" "value" "[I", Cond.fieldLink RX2 70 "HouseSorted$LawBook" "told" "I", Cond.methodLink RX2 35 yX6_rewind, Cond.instanceMethod yX6_rewind, Cond.selects RX6 yX6_rewind yX6_rewind, Cond.initialized RX6, Cond.code yX6_rewind cX6_rewind 1 none, Cond.fieldLink RX6 15 "HouseSorted$TokenReader" "place" "I", Cond.methodLink RX2 51 yX6_advance, Cond.instanceMethod yX6_advance, Cond.selects RX6 yX6_advance yX6_advance, Cond.code yX6_advance cX6_advance 1 none, Cond.fieldLink RX6 23 "HouseSorted$TokenReader" "start" "I", Cond.fieldLink RX6 9 "HouseSorted$TokenReader" "tape" "LHouseSorted$Tape;"]
def wsX2_readTape_r2 : List Cond := [Cond.fieldLink RX6 26 "HouseSorted$Tape" "length" "I", Cond.fieldLink RX6 31 "HouseSorted$TokenReader" "kind" "I", Cond.methodLink RX6 19 yX6_placeBehind, Cond.instanceMethod yX6_placeBehind, Cond.selects RX6 yX6_placeBehind yX6_placeBehind, Cond.code yX6_placeBehind cX6_placeBehind 5 (some .int), Cond.methodLink RX6 34 yX5_hasBetween, Cond.instanceMethod yX5_hasBetween, Cond.selects RX5 yX5_hasBetween yX5_hasBetween, Cond.initialized RX5, Cond.code yX5_hasBetween cX5_hasBetween 4 (some .boolean), Cond.fieldLink RX5 15 "HouseSorted$Tape" "length" "I", Cond.fieldLink RX5 9 "HouseSorted$Tape" "bytes" "[B", Cond.methodLink RX6 38 yX6_readName, Cond.instanceMethod yX6_readName, Cond.selects RX6 yX6_readName yX6_readName, Cond.code yX6_readName cX6_readName 2 none, Cond.fieldLink RX6 48 "HouseSorted$TokenReader" "value" "I", Cond.methodLink RX6 44 yX6_isName, Cond.instanceMethod yX6_isName, Cond.selects RX6 yX6_isName yX6_isName, Cond.code yX6_isName cX6_isName 5 (some .boolean), Cond.fieldLink RX6 59 "HouseSorted$Tape" "bytes" "[B", Cond.methodLink RX6 53 yJ0_charAt_5068e]
def wsX2_readTape_r3 : List Cond := [Cond.instanceMethod yJ0_charAt_5068e, Cond.selects RJ0 yJ0_charAt_5068e yJ0_charAt_5068e, Cond.initialized RJ0, Cond.code yJ0_charAt_5068e cJ0_charAt_5068e 2 (some .char), Cond.fieldLink RJ0 9 "java/lang/String" "value" "[B", Cond.methodLink RJ0 492 yJ0_isLatin1_aae02, Cond.instanceMethod yJ0_isLatin1_aae02, Cond.selects RJ0 yJ0_isLatin1_aae02 yJ0_isLatin1_aae02, Cond.code yJ0_isLatin1_aae02 cJ0_isLatin1_aae02 1 (some .boolean), Cond.fieldLink RJ0 38 "java/lang/String" "COMPACT_STRINGS" "Z", Cond.fieldLink RJ0 15 "java/lang/String" "coder" "B", Cond.methodLink RJ0 495 yJ1_charAt_3b067, Cond.static yJ1_charAt_3b067, Cond.initialized RJ1, Cond.code yJ1_charAt_3b067 cJ1_charAt_3b067 2 (some .char), Cond.methodLink RJ1 9 yJ0_checkIndex_df160, Cond.static yJ0_checkIndex_df160, Cond.code yJ0_checkIndex_df160 cJ0_checkIndex_df160 2 none, Cond.fieldLink RJ0 1053 "jdk/internal/util/Preconditions" "SIOOBE_FORMATTER" "Ljava/util/function/BiFunction;", Cond.methodLink RJ0 1059 yJ3_checkIndex_8e157, Cond.static yJ3_checkIndex_8e157, Cond.initialized RJ3, Cond.code yJ3_checkIndex_8e157 cJ3_checkIndex_8e157 3 (some .int), Cond.methodLink RJ0 498 yJ2_charAt_3b067]
def wsX2_readTape_r4 : List Cond := [Cond.static yJ2_charAt_3b067, Cond.initialized RJ2, Cond.code yJ2_charAt_3b067 cJ2_charAt_3b067 2 (some .char), Cond.methodLink RJ2 67 yJ2_checkIndex_2214a, Cond.static yJ2_checkIndex_2214a, Cond.code yJ2_checkIndex_2214a cJ2_checkIndex_2214a 2 none, Cond.methodLink RJ2 48 yJ2_length_9d52b, Cond.static yJ2_length_9d52b, Cond.code yJ2_length_9d52b cJ2_length_9d52b 1 (some .int), Cond.methodLink RJ2 414 yJ0_checkIndex_df160, Cond.methodLink RJ2 71 yJ2_getChar_3b067, Cond.static yJ2_getChar_3b067, Cond.code yJ2_getChar_3b067 cJ2_getChar_3b067 2 (some .char), Cond.fieldLink RJ2 44 "java/lang/StringUTF16" "$assertionsDisabled" "Z", Cond.fieldLink RJ2 59 "java/lang/StringUTF16" "HI_BYTE_SHIFT" "I", Cond.fieldLink RJ2 63 "java/lang/StringUTF16" "LO_BYTE_SHIFT" "I", Cond.methodLink RX6 41 yX6_readNumber, Cond.instanceMethod yX6_readNumber, Cond.selects RX6 yX6_readNumber yX6_readNumber, Cond.code yX6_readNumber cX6_readNumber 2 none, Cond.methodLink RX2 57 yX2_readLaw, Cond.instanceMethod yX2_readLaw, Cond.selects RX2 yX2_readLaw yX2_readLaw, Cond.initialized RX2]
def wsX2_readTape_r5 : List Cond := [Cond.code yX2_readLaw cX2_readLaw 3 (some .int), Cond.fieldLink RX2 73 "HouseSorted$TokenReader" "value" "I", Cond.methodLink RX2 75 yX2_misfit, Cond.instanceMethod yX2_misfit, Cond.selects RX2 yX2_misfit yX2_misfit, Cond.code yX2_misfit cX2_misfit 1 (some .int), Cond.methodLink RX2 78 yX2_readAmount, Cond.instanceMethod yX2_readAmount, Cond.selects RX2 yX2_readAmount yX2_readAmount, Cond.code yX2_readAmount cX2_readAmount 2 (some .int), Cond.static yX8_isWithin, Cond.initialized RX8, Cond.code yX8_isWithin cX8_isWithin 3 (some .boolean), Cond.methodLink RX2 81 yX2_readWay, Cond.instanceMethod yX2_readWay, Cond.selects RX2 yX2_readWay yX2_readWay, Cond.code yX2_readWay cX2_readWay 2 (some .int), Cond.methodLink RX2 64 yJ6_bitCount_0f7a4, Cond.static yJ6_bitCount_0f7a4, Cond.initialized RJ6, Cond.code yJ6_bitCount_0f7a4 cJ6_bitCount_0f7a4 1 (some .int), Cond.constant RJ6 265 (1431655765), Cond.constant RJ6 266 (858993459), Cond.constant RJ6 267 (252645135)]
def wsX2_readTape : List Cond := .code yX2_readTape cX2_readTape 2 (some .int) :: ((wsX2_readTape_r1 ++ (wsX2_readTape_r2 ++ (wsX2_readTape_r3 ++ (wsX2_readTape_r4 ++ wsX2_readTape_r5)))) ++ wsX20 ++ wsX60 ++ wsX50)
def wsX3_init : List Cond := .code yX3_init cX3_init 2 none :: ([.methodLink RX3 3 objectInit, .instanceMethod objectInit, .code objectInit ⟨#[0xb1]⟩ 1 none, .arrayClass .int, .fieldLink RX3 9 "HouseSorted$Sharing" "shared" "[I", .fieldLink RX3 15 "HouseSorted$Sharing" "taker" "[I", .fieldLink RX3 18 "HouseSorted$Sharing" "house" "LHouseSorted$House;"] ++ wsX30)
def wsX3_gather_r1 : List Cond := [Cond.fieldLink RX3 22 "HouseSorted$Sharing" "size" "I", Cond.fieldLink RX3 18 "HouseSorted$Sharing" "house" "LHouseSorted$House;", Cond.fieldLink RX3 26 "HouseSorted$House" "things" "I", Cond.fieldLink RX3 9 "HouseSorted$Sharing" "shared" "[I", Cond.methodLink RX3 31 yX1_wayOf, Cond.instanceMethod yX1_wayOf, Cond.selects RX1 yX1_wayOf yX1_wayOf, Cond.initialized RX1, Cond.code yX1_wayOf cX1_wayOf 2 (some .int), Cond.fieldLink RX1 32 "HouseSorted$House" "book" "LHouseSorted$LawBook;", Cond.fieldLink RX1 47 "HouseSorted$LawBook" "value" "[I", Cond.fieldLink RX1 15 "HouseSorted$House" "low" "[I", Cond.methodLink RX1 43 yX1_hasMark, Cond.instanceMethod yX1_hasMark, Cond.selects RX1 yX1_hasMark yX1_hasMark, Cond.code yX1_hasMark cX1_hasMark 3 (some .boolean), Cond.fieldLink RX1 24 "HouseSorted$House" "marks" "[I", Cond.methodLink RX1 52 yX1_isKeptPaper, Cond.instanceMethod yX1_isKeptPaper, Cond.selects RX1 yX1_isKeptPaper yX1_isKeptPaper, Cond.code yX1_isKeptPaper cX1_isKeptPaper 2 (some .boolean), Cond.fieldLink RX1 21 "HouseSorted$House" "age" "[I", Cond.methodLink RX1 56 yX1_isWanted, Cond.instanceMethod yX1_isWanted]
def wsX3_gather_r2 : List Cond := [Cond.selects RX1 yX1_isWanted yX1_isWanted, Cond.code yX1_isWanted cX1_isWanted 3 (some .boolean), Cond.fieldLink RX1 36 "HouseSorted$House" "heirs" "I", Cond.fieldLink RX1 29 "HouseSorted$House" "worth" "[[I"]
def wsX3_gather : List Cond := .code yX3_gather cX3_gather 2 none :: ((wsX3_gather_r1 ++ wsX3_gather_r2) ++ wsX30 ++ wsX10 ++ wsX20)
def wsX3_number : List Cond := .code yX3_number cX3_number 3 (some .int) :: ([.fieldLink RX3 22 "HouseSorted$Sharing" "size" "I", .fieldLink RX3 18 "HouseSorted$Sharing" "house" "LHouseSorted$House;", .fieldLink RX3 35 "HouseSorted$House" "heirs" "I", .fieldLink RX3 15 "HouseSorted$Sharing" "taker" "[I"] ++ wsX30 ++ wsX10)
def wsX3_readNumber_r1 : List Cond := [Cond.fieldLink RX3 22 "HouseSorted$Sharing" "size" "I", Cond.fieldLink RX3 18 "HouseSorted$Sharing" "house" "LHouseSorted$House;", Cond.fieldLink RX3 35 "HouseSorted$House" "heirs" "I", Cond.fieldLink RX3 15 "HouseSorted$Sharing" "taker" "[I", Cond.methodLink RX3 38 yX3_gather, Cond.instanceMethod yX3_gather, Cond.selects RX3 yX3_gather yX3_gather, Cond.initialized RX3, Cond.code yX3_gather cX3_gather 2 none, Cond.fieldLink RX3 26 "HouseSorted$House" "things" "I", Cond.fieldLink RX3 9 "HouseSorted$Sharing" "shared" "[I", Cond.methodLink RX3 31 yX1_wayOf, Cond.instanceMethod yX1_wayOf, Cond.selects RX1 yX1_wayOf yX1_wayOf, Cond.initialized RX1, Cond.code yX1_wayOf cX1_wayOf 2 (some .int), Cond.fieldLink RX1 32 "HouseSorted$House" "book" "LHouseSorted$LawBook;", Cond.fieldLink RX1 47 "HouseSorted$LawBook" "value" "[I", Cond.fieldLink RX1 15 "HouseSorted$House" "low" "[I", Cond.methodLink RX1 43 yX1_hasMark, Cond.instanceMethod yX1_hasMark, Cond.selects RX1 yX1_hasMark yX1_hasMark, Cond.code yX1_hasMark cX1_hasMark 3 (some .boolean), Cond.fieldLink RX1 24 "HouseSorted$House" "marks" "[I"]
def wsX3_readNumber_r2 : List Cond := [Cond.methodLink RX1 52 yX1_isKeptPaper, Cond.instanceMethod yX1_isKeptPaper, Cond.selects RX1 yX1_isKeptPaper yX1_isKeptPaper, Cond.code yX1_isKeptPaper cX1_isKeptPaper 2 (some .boolean), Cond.fieldLink RX1 21 "HouseSorted$House" "age" "[I", Cond.methodLink RX1 56 yX1_isWanted, Cond.instanceMethod yX1_isWanted, Cond.selects RX1 yX1_isWanted yX1_isWanted, Cond.code yX1_isWanted cX1_isWanted 3 (some .boolean), Cond.fieldLink RX1 36 "HouseSorted$House" "heirs" "I", Cond.fieldLink RX1 29 "HouseSorted$House" "worth" "[[I"]
def wsX3_readNumber : List Cond := .code yX3_readNumber cX3_readNumber 4 (some .boolean) :: ((wsX3_readNumber_r1 ++ wsX3_readNumber_r2) ++ wsX30 ++ wsX10 ++ wsX20)
def wsX3_heirAtTurn : List Cond := .code yX3_heirAtTurn cX3_heirAtTurn 6 (some .int) :: ([.fieldLink RX3 18 "HouseSorted$Sharing" "house" "LHouseSorted$House;", .fieldLink RX3 35 "HouseSorted$House" "heirs" "I", .methodLink RX3 53 Lib.Math.max.name, .static Lib.Math.max.name, .initialized "java/lang/Math", .code Lib.Math.max.name Lib.Math.max.code 2 (some .int)] ++ wsX30 ++ wsX10)
def wsX3_takeTurnsWithLie : List Cond := .code yX3_takeTurnsWithLie cX3_takeTurnsWithLie 11 none :: ([.fieldLink RX3 22 "HouseSorted$Sharing" "size" "I", .fieldLink RX3 15 "HouseSorted$Sharing" "taker" "[I", .fieldLink RX3 9 "HouseSorted$Sharing" "shared" "[I", .fieldLink RX3 18 "HouseSorted$Sharing" "house" "LHouseSorted$House;", .fieldLink RX3 49 "HouseSorted$House" "worth" "[[I", .methodLink RX3 45 yX3_heirAtTurn, .instanceMethod yX3_heirAtTurn, .selects RX3 yX3_heirAtTurn yX3_heirAtTurn, .initialized RX3, .code yX3_heirAtTurn cX3_heirAtTurn 6 (some .int), .fieldLink RX3 35 "HouseSorted$House" "heirs" "I", .methodLink RX3 53 Lib.Math.max.name, .static Lib.Math.max.name, .initialized "java/lang/Math", .code Lib.Math.max.name Lib.Math.max.code 2 (some .int)] ++ wsX30 ++ wsX10)
def wsX3_takeTurns : List Cond := .code yX3_takeTurns cX3_takeTurns 2 none :: ([.methodLink RX3 41 yX3_takeTurnsWithLie, .instanceMethod yX3_takeTurnsWithLie, .selects RX3 yX3_takeTurnsWithLie yX3_takeTurnsWithLie, .initialized RX3, .code yX3_takeTurnsWithLie cX3_takeTurnsWithLie 11 none, .fieldLink RX3 22 "HouseSorted$Sharing" "size" "I", .fieldLink RX3 15 "HouseSorted$Sharing" "taker" "[I", .fieldLink RX3 9 "HouseSorted$Sharing" "shared" "[I", .fieldLink RX3 18 "HouseSorted$Sharing" "house" "LHouseSorted$House;", .fieldLink RX3 49 "HouseSorted$House" "worth" "[[I", .methodLink RX3 45 yX3_heirAtTurn, .instanceMethod yX3_heirAtTurn, .selects RX3 yX3_heirAtTurn yX3_heirAtTurn, .code yX3_heirAtTurn cX3_heirAtTurn 6 (some .int), .fieldLink RX3 35 "HouseSorted$House" "heirs" "I", .methodLink RX3 53 Lib.Math.max.name, .static Lib.Math.max.name, .initialized "java/lang/Math", .code Lib.Math.max.name Lib.Math.max.code 2 (some .int)] ++ wsX30 ++ wsX10)
def wsX3_sumOf : List Cond := .code yX3_sumOf cX3_sumOf 5 (some .int) :: ([.fieldLink RX3 22 "HouseSorted$Sharing" "size" "I", .fieldLink RX3 15 "HouseSorted$Sharing" "taker" "[I", .fieldLink RX3 18 "HouseSorted$Sharing" "house" "LHouseSorted$House;", .fieldLink RX3 49 "HouseSorted$House" "worth" "[[I", .fieldLink RX3 9 "HouseSorted$Sharing" "shared" "[I"] ++ wsX30 ++ wsX10)
def wsX3_changesOrder : List Cond := .code yX3_changesOrder cX3_changesOrder 6 (some .boolean) :: ([.fieldLink RX3 22 "HouseSorted$Sharing" "size" "I", .fieldLink RX3 18 "HouseSorted$Sharing" "house" "LHouseSorted$House;", .fieldLink RX3 49 "HouseSorted$House" "worth" "[[I", .fieldLink RX3 9 "HouseSorted$Sharing" "shared" "[I"] ++ wsX30 ++ wsX10)
def wsX3_mostByLying_r1 : List Cond := [Cond.fieldLink RX3 22 "HouseSorted$Sharing" "size" "I", Cond.fieldLink RX3 9 "HouseSorted$Sharing" "shared" "[I", Cond.methodLink RX3 53 Lib.Math.max.name, Cond.static Lib.Math.max.name, Cond.initialized "java/lang/Math", Cond.code Lib.Math.max.name Lib.Math.max.code 2 (some .int), Cond.methodLink RX3 58 yX3_takeTurns, Cond.instanceMethod yX3_takeTurns, Cond.selects RX3 yX3_takeTurns yX3_takeTurns, Cond.initialized RX3, Cond.code yX3_takeTurns cX3_takeTurns 2 none, Cond.methodLink RX3 41 yX3_takeTurnsWithLie, Cond.instanceMethod yX3_takeTurnsWithLie, Cond.selects RX3 yX3_takeTurnsWithLie yX3_takeTurnsWithLie, Cond.code yX3_takeTurnsWithLie cX3_takeTurnsWithLie 11 none, Cond.fieldLink RX3 15 "HouseSorted$Sharing" "taker" "[I", Cond.fieldLink RX3 18 "HouseSorted$Sharing" "house" "LHouseSorted$House;", Cond.fieldLink RX3 49 "HouseSorted$House" "worth" "[[I", Cond.methodLink RX3 45 yX3_heirAtTurn, Cond.instanceMethod yX3_heirAtTurn, Cond.selects RX3 yX3_heirAtTurn yX3_heirAtTurn, Cond.code yX3_heirAtTurn cX3_heirAtTurn 6 (some .int), Cond.fieldLink RX3 35 "HouseSorted$House" "heirs" "I", Cond.methodLink RX3 62 yX3_sumOf]
def wsX3_mostByLying_r2 : List Cond := [Cond.instanceMethod yX3_sumOf, Cond.selects RX3 yX3_sumOf yX3_sumOf, Cond.code yX3_sumOf cX3_sumOf 5 (some .int), Cond.methodLink RX3 65 yX3_changesOrder, Cond.instanceMethod yX3_changesOrder, Cond.selects RX3 yX3_changesOrder yX3_changesOrder, Cond.code yX3_changesOrder cX3_changesOrder 6 (some .boolean)]
def wsX3_mostByLying : List Cond := .code yX3_mostByLying cX3_mostByLying 7 (some .int) :: ((wsX3_mostByLying_r1 ++ wsX3_mostByLying_r2) ++ wsX30 ++ wsX10)
def wsX3_greatestOf : List Cond := .code yX3_greatestOf cX3_greatestOf 5 (some .int) :: ([.fieldLink RX3 22 "HouseSorted$Sharing" "size" "I", .fieldLink RX3 15 "HouseSorted$Sharing" "taker" "[I", .fieldLink RX3 18 "HouseSorted$Sharing" "house" "LHouseSorted$House;", .fieldLink RX3 49 "HouseSorted$House" "worth" "[[I", .fieldLink RX3 9 "HouseSorted$Sharing" "shared" "[I", .methodLink RX3 53 Lib.Math.max.name, .static Lib.Math.max.name, .initialized "java/lang/Math", .code Lib.Math.max.name Lib.Math.max.code 2 (some .int)] ++ wsX30 ++ wsX10)
def wsX3_envyOf : List Cond := .code yX3_envyOf cX3_envyOf 4 (some .int) :: ([.methodLink RX3 62 yX3_sumOf, .instanceMethod yX3_sumOf, .selects RX3 yX3_sumOf yX3_sumOf, .initialized RX3, .code yX3_sumOf cX3_sumOf 5 (some .int), .fieldLink RX3 22 "HouseSorted$Sharing" "size" "I", .fieldLink RX3 15 "HouseSorted$Sharing" "taker" "[I", .fieldLink RX3 18 "HouseSorted$Sharing" "house" "LHouseSorted$House;", .fieldLink RX3 49 "HouseSorted$House" "worth" "[[I", .fieldLink RX3 9 "HouseSorted$Sharing" "shared" "[I", .methodLink RX3 69 yX3_greatestOf, .instanceMethod yX3_greatestOf, .selects RX3 yX3_greatestOf yX3_greatestOf, .code yX3_greatestOf cX3_greatestOf 5 (some .int), .methodLink RX3 53 Lib.Math.max.name, .static Lib.Math.max.name, .initialized "java/lang/Math", .code Lib.Math.max.name Lib.Math.max.code 2 (some .int)] ++ wsX30 ++ wsX10)
def wsX3_envyPairs : List Cond := .code yX3_envyPairs cX3_envyPairs 4 (some .int) :: ([.fieldLink RX3 18 "HouseSorted$Sharing" "house" "LHouseSorted$House;", .fieldLink RX3 35 "HouseSorted$House" "heirs" "I", .methodLink RX3 72 yX3_envyOf, .instanceMethod yX3_envyOf, .selects RX3 yX3_envyOf yX3_envyOf, .initialized RX3, .code yX3_envyOf cX3_envyOf 4 (some .int), .methodLink RX3 62 yX3_sumOf, .instanceMethod yX3_sumOf, .selects RX3 yX3_sumOf yX3_sumOf, .code yX3_sumOf cX3_sumOf 5 (some .int), .fieldLink RX3 22 "HouseSorted$Sharing" "size" "I", .fieldLink RX3 15 "HouseSorted$Sharing" "taker" "[I", .fieldLink RX3 49 "HouseSorted$House" "worth" "[[I", .fieldLink RX3 9 "HouseSorted$Sharing" "shared" "[I", .methodLink RX3 69 yX3_greatestOf, .instanceMethod yX3_greatestOf, .selects RX3 yX3_greatestOf yX3_greatestOf, .code yX3_greatestOf cX3_greatestOf 5 (some .int), .methodLink RX3 53 Lib.Math.max.name, .static Lib.Math.max.name, .initialized "java/lang/Math", .code Lib.Math.max.name Lib.Math.max.code 2 (some .int)] ++ wsX30 ++ wsX10)
def wsX3_giveToKeenest : List Cond := .code yX3_giveToKeenest cX3_giveToKeenest 2 none :: ([.fieldLink RX3 22 "HouseSorted$Sharing" "size" "I", .fieldLink RX3 15 "HouseSorted$Sharing" "taker" "[I", .fieldLink RX3 18 "HouseSorted$Sharing" "house" "LHouseSorted$House;", .fieldLink RX3 9 "HouseSorted$Sharing" "shared" "[I", .methodLink RX3 75 yX1_keenest, .instanceMethod yX1_keenest, .selects RX1 yX1_keenest yX1_keenest, .initialized RX1, .code yX1_keenest cX1_keenest 4 (some .int), .fieldLink RX1 36 "HouseSorted$House" "heirs" "I", .fieldLink RX1 29 "HouseSorted$House" "worth" "[[I"] ++ wsX30 ++ wsX10)
def wsX3_claimOf : List Cond := .code yX3_claimOf cX3_claimOf 4 (some .int) :: ([.fieldLink RX3 22 "HouseSorted$Sharing" "size" "I", .fieldLink RX3 18 "HouseSorted$Sharing" "house" "LHouseSorted$House;", .fieldLink RX3 49 "HouseSorted$House" "worth" "[[I", .fieldLink RX3 9 "HouseSorted$Sharing" "shared" "[I", .fieldLink RX3 35 "HouseSorted$House" "heirs" "I", .methodLink RX3 53 Lib.Math.max.name, .static Lib.Math.max.name, .initialized "java/lang/Math", .code Lib.Math.max.name Lib.Math.max.code 2 (some .int)] ++ wsX30 ++ wsX10)
def wsX3_paymentOf : List Cond := .code yX3_paymentOf cX3_paymentOf 2 (some .int) :: ([.methodLink RX3 62 yX3_sumOf, .instanceMethod yX3_sumOf, .selects RX3 yX3_sumOf yX3_sumOf, .initialized RX3, .code yX3_sumOf cX3_sumOf 5 (some .int), .fieldLink RX3 22 "HouseSorted$Sharing" "size" "I", .fieldLink RX3 15 "HouseSorted$Sharing" "taker" "[I", .fieldLink RX3 18 "HouseSorted$Sharing" "house" "LHouseSorted$House;", .fieldLink RX3 49 "HouseSorted$House" "worth" "[[I", .fieldLink RX3 9 "HouseSorted$Sharing" "shared" "[I", .methodLink RX3 78 yX3_claimOf, .instanceMethod yX3_claimOf, .selects RX3 yX3_claimOf yX3_claimOf, .code yX3_claimOf cX3_claimOf 4 (some .int), .fieldLink RX3 35 "HouseSorted$House" "heirs" "I", .methodLink RX3 53 Lib.Math.max.name, .static Lib.Math.max.name, .initialized "java/lang/Math", .code Lib.Math.max.name Lib.Math.max.code 2 (some .int)] ++ wsX30 ++ wsX10)
def wsX3_partOfRest : List Cond := .code yX3_partOfRest cX3_partOfRest 3 (some .int) :: ([.fieldLink RX3 18 "HouseSorted$Sharing" "house" "LHouseSorted$House;", .fieldLink RX3 35 "HouseSorted$House" "heirs" "I", .methodLink RX3 53 Lib.Math.max.name, .static Lib.Math.max.name, .initialized "java/lang/Math", .code Lib.Math.max.name Lib.Math.max.code 2 (some .int), .methodLink RX3 81 yX3_paymentOf, .instanceMethod yX3_paymentOf, .selects RX3 yX3_paymentOf yX3_paymentOf, .initialized RX3, .code yX3_paymentOf cX3_paymentOf 2 (some .int), .methodLink RX3 62 yX3_sumOf, .instanceMethod yX3_sumOf, .selects RX3 yX3_sumOf yX3_sumOf, .code yX3_sumOf cX3_sumOf 5 (some .int), .fieldLink RX3 22 "HouseSorted$Sharing" "size" "I", .fieldLink RX3 15 "HouseSorted$Sharing" "taker" "[I", .fieldLink RX3 49 "HouseSorted$House" "worth" "[[I", .fieldLink RX3 9 "HouseSorted$Sharing" "shared" "[I", .methodLink RX3 78 yX3_claimOf, .instanceMethod yX3_claimOf, .selects RX3 yX3_claimOf yX3_claimOf, .code yX3_claimOf cX3_claimOf 4 (some .int)] ++ wsX30 ++ wsX10)
def wsX4_init : List Cond := .code yX4_init cX4_init 1 none :: ([.methodLink RX4 3 objectInit, .instanceMethod objectInit, .code objectInit ⟨#[0xb1]⟩ 1 none, .fieldLink RX4 9 "HouseSorted$Sheet" "lane" "I", .arrayClass .int, .fieldLink RX4 15 "HouseSorted$Sheet" "cells" "[I"] ++ wsX40)
def wsX4_renew : List Cond := .code yX4_renew cX4_renew 4 none :: ([.fieldLink RX4 9 "HouseSorted$Sheet" "lane" "I", .fieldLink RX4 19 "HouseSorted$Sheet" "size" "I", .fieldLink RX4 15 "HouseSorted$Sheet" "cells" "[I"] ++ wsX40)
def wsX4_hasCell : List Cond := .code yX4_hasCell cX4_hasCell 2 (some .boolean) :: ([.fieldLink RX4 19 "HouseSorted$Sheet" "size" "I"] ++ wsX40)
def wsX4_put : List Cond := .code yX4_put cX4_put 3 none :: ([.fieldLink RX4 15 "HouseSorted$Sheet" "cells" "[I", .fieldLink RX4 9 "HouseSorted$Sheet" "lane" "I"] ++ wsX40)
def wsX4_refusal : List Cond := .code yX4_refusal cX4_refusal 5 (some .int) :: ([.fieldLink RX4 9 "HouseSorted$Sheet" "lane" "I", .fieldLink RX4 15 "HouseSorted$Sheet" "cells" "[I", .methodLink RX4 22 yX4_hasCell, .instanceMethod yX4_hasCell, .selects RX4 yX4_hasCell yX4_hasCell, .initialized RX4, .code yX4_hasCell cX4_hasCell 2 (some .boolean), .fieldLink RX4 19 "HouseSorted$Sheet" "size" "I", .static yX8_isWithin, .initialized RX8, .code yX8_isWithin cX8_isWithin 3 (some .boolean)] ++ wsX40)
def wsX5_init : List Cond := .code yX5_init cX5_init 1 none :: ([.methodLink RX5 3 objectInit, .instanceMethod objectInit, .code objectInit ⟨#[0xb1]⟩ 1 none, .arrayClass .byte, .fieldLink RX5 9 "HouseSorted$Tape" "bytes" "[B"] ++ wsX50)
def wsX5_append : List Cond := .code yX5_append cX5_append 4 none :: ([.fieldLink RX5 15 "HouseSorted$Tape" "length" "I", .fieldLink RX5 9 "HouseSorted$Tape" "bytes" "[B"] ++ wsX50)
def wsX7_init : List Cond := .code yX7_init cX7_init 3 none :: ([.methodLink RX7 3 objectInit, .instanceMethod objectInit, .code objectInit ⟨#[0xb1]⟩ 1 none, .arrayClass .int, .fieldLink RX7 9 "HouseSorted$Vans" "cargo" "[I", .fieldLink RX7 15 "HouseSorted$Vans" "filled" "[I", .fieldLink RX7 18 "HouseSorted$Vans" "place" "[I", .fieldLink RX7 21 "HouseSorted$Vans" "house" "LHouseSorted$House;", .fieldLink RX7 25 "HouseSorted$Vans" "book" "LHouseSorted$LawBook;"] ++ wsX70)
def wsX7_gatherCargo_r1 : List Cond := [Cond.fieldLink RX7 38 "HouseSorted$Vans" "size" "I", Cond.fieldLink RX7 21 "HouseSorted$Vans" "house" "LHouseSorted$House;", Cond.fieldLink RX7 51 "HouseSorted$House" "things" "I", Cond.fieldLink RX7 9 "HouseSorted$Vans" "cargo" "[I", Cond.fieldLink RX7 15 "HouseSorted$Vans" "filled" "[I", Cond.methodLink RX7 54 yX1_wayOf, Cond.instanceMethod yX1_wayOf, Cond.selects RX1 yX1_wayOf yX1_wayOf, Cond.initialized RX1, Cond.code yX1_wayOf cX1_wayOf 2 (some .int), Cond.fieldLink RX1 32 "HouseSorted$House" "book" "LHouseSorted$LawBook;", Cond.fieldLink RX1 47 "HouseSorted$LawBook" "value" "[I", Cond.fieldLink RX1 15 "HouseSorted$House" "low" "[I", Cond.methodLink RX1 43 yX1_hasMark, Cond.instanceMethod yX1_hasMark, Cond.selects RX1 yX1_hasMark yX1_hasMark, Cond.code yX1_hasMark cX1_hasMark 3 (some .boolean), Cond.fieldLink RX1 24 "HouseSorted$House" "marks" "[I", Cond.methodLink RX1 52 yX1_isKeptPaper, Cond.instanceMethod yX1_isKeptPaper, Cond.selects RX1 yX1_isKeptPaper yX1_isKeptPaper, Cond.code yX1_isKeptPaper cX1_isKeptPaper 2 (some .boolean), Cond.fieldLink RX1 21 "HouseSorted$House" "age" "[I", Cond.methodLink RX1 56 yX1_isWanted]
def wsX7_gatherCargo_r2 : List Cond := [Cond.instanceMethod yX1_isWanted, Cond.selects RX1 yX1_isWanted yX1_isWanted, Cond.code yX1_isWanted cX1_isWanted 3 (some .boolean), Cond.fieldLink RX1 36 "HouseSorted$House" "heirs" "I", Cond.fieldLink RX1 29 "HouseSorted$House" "worth" "[[I"]
def wsX7_gatherCargo : List Cond := .code yX7_gatherCargo cX7_gatherCargo 3 none :: ((wsX7_gatherCargo_r1 ++ wsX7_gatherCargo_r2) ++ wsX70 ++ wsX10 ++ wsX20)
def wsX7_hasTwin : List Cond := .code yX7_hasTwin cX7_hasTwin 3 (some .boolean) :: ([.fieldLink RX7 15 "HouseSorted$Vans" "filled" "[I"] ++ wsX70)
def wsX7_packs : List Cond := .code yX7_packs cX7_packs 6 (some .boolean) :: ([.fieldLink RX7 38 "HouseSorted$Vans" "size" "I", .fieldLink RX7 21 "HouseSorted$Vans" "house" "LHouseSorted$House;", .fieldLink RX7 42 "HouseSorted$House" "weight" "[I", .fieldLink RX7 9 "HouseSorted$Vans" "cargo" "[I", .fieldLink RX7 15 "HouseSorted$Vans" "filled" "[I", .fieldLink RX7 25 "HouseSorted$Vans" "book" "LHouseSorted$LawBook;", .fieldLink RX7 33 "HouseSorted$LawBook" "value" "[I", .fieldLink RX7 18 "HouseSorted$Vans" "place" "[I", .methodLink RX7 62 Lib.Math.max.name, .static Lib.Math.max.name, .initialized "java/lang/Math", .code Lib.Math.max.name Lib.Math.max.code 2 (some .int), .methodLink RX7 58 yX7_hasTwin, .instanceMethod yX7_hasTwin, .selects RX7 yX7_hasTwin yX7_hasTwin, .initialized RX7, .code yX7_hasTwin cX7_hasTwin 3 (some .boolean), .methodLink RX7 47 yX7_packs, .static yX7_packs] ++ wsX70 ++ wsX10 ++ wsX20)
def wsX7_fewest_r1 : List Cond := [Cond.fieldLink RX7 25 "HouseSorted$Vans" "book" "LHouseSorted$LawBook;", Cond.fieldLink RX7 33 "HouseSorted$LawBook" "value" "[I", Cond.fieldLink RX7 38 "HouseSorted$Vans" "size" "I", Cond.fieldLink RX7 21 "HouseSorted$Vans" "house" "LHouseSorted$House;", Cond.fieldLink RX7 42 "HouseSorted$House" "weight" "[I", Cond.fieldLink RX7 9 "HouseSorted$Vans" "cargo" "[I", Cond.methodLink RX7 29 yX7_gatherCargo, Cond.instanceMethod yX7_gatherCargo, Cond.selects RX7 yX7_gatherCargo yX7_gatherCargo, Cond.initialized RX7, Cond.code yX7_gatherCargo cX7_gatherCargo 3 none, Cond.fieldLink RX7 51 "HouseSorted$House" "things" "I", Cond.fieldLink RX7 15 "HouseSorted$Vans" "filled" "[I", Cond.methodLink RX7 54 yX1_wayOf, Cond.instanceMethod yX1_wayOf, Cond.selects RX1 yX1_wayOf yX1_wayOf, Cond.initialized RX1, Cond.code yX1_wayOf cX1_wayOf 2 (some .int), Cond.fieldLink RX1 32 "HouseSorted$House" "book" "LHouseSorted$LawBook;", Cond.fieldLink RX1 47 "HouseSorted$LawBook" "value" "[I", Cond.fieldLink RX1 15 "HouseSorted$House" "low" "[I", Cond.methodLink RX1 43 yX1_hasMark, Cond.instanceMethod yX1_hasMark, Cond.selects RX1 yX1_hasMark yX1_hasMark]
def wsX7_fewest_r2 : List Cond := [Cond.code yX1_hasMark cX1_hasMark 3 (some .boolean), Cond.fieldLink RX1 24 "HouseSorted$House" "marks" "[I", Cond.methodLink RX1 52 yX1_isKeptPaper, Cond.instanceMethod yX1_isKeptPaper, Cond.selects RX1 yX1_isKeptPaper yX1_isKeptPaper, Cond.code yX1_isKeptPaper cX1_isKeptPaper 2 (some .boolean), Cond.fieldLink RX1 21 "HouseSorted$House" "age" "[I", Cond.methodLink RX1 56 yX1_isWanted, Cond.instanceMethod yX1_isWanted, Cond.selects RX1 yX1_isWanted yX1_isWanted, Cond.code yX1_isWanted cX1_isWanted 3 (some .boolean), Cond.fieldLink RX1 36 "HouseSorted$House" "heirs" "I", Cond.fieldLink RX1 29 "HouseSorted$House" "worth" "[[I", Cond.methodLink RX7 47 yX7_packs, Cond.static yX7_packs, Cond.code yX7_packs cX7_packs 6 (some .boolean), Cond.fieldLink RX7 18 "HouseSorted$Vans" "place" "[I", Cond.methodLink RX7 62 Lib.Math.max.name, Cond.static Lib.Math.max.name, Cond.initialized "java/lang/Math", Cond.code Lib.Math.max.name Lib.Math.max.code 2 (some .int), Cond.methodLink RX7 58 yX7_hasTwin, Cond.instanceMethod yX7_hasTwin, Cond.selects RX7 yX7_hasTwin yX7_hasTwin]
def wsX7_fewest_r3 : List Cond := [Cond.code yX7_hasTwin cX7_hasTwin 3 (some .boolean)]
def wsX7_fewest : List Cond := .code yX7_fewest cX7_fewest 6 (some .int) :: ((wsX7_fewest_r1 ++ (wsX7_fewest_r2 ++ wsX7_fewest_r3)) ++ wsX70 ++ wsX20 ++ wsX10)
def wsX7_loadOf : List Cond := .code yX7_loadOf cX7_loadOf 3 (some .int) :: ([.fieldLink RX7 38 "HouseSorted$Vans" "size" "I", .fieldLink RX7 9 "HouseSorted$Vans" "cargo" "[I", .fieldLink RX7 18 "HouseSorted$Vans" "place" "[I"] ++ wsX70)
def wsX8_init_r1 : List Cond := [Cond.methodLink RX8 1 objectInit, Cond.instanceMethod objectInit, Cond.code objectInit ⟨#[0xb1]⟩ 1 none, Cond.classLink RX8 7 RX5, Cond.instantiable RX5 2, Cond.initialized RX5, Cond.fieldLink RX8 10 "HouseSorted" "tape" "LHouseSorted$Tape;", Cond.classLink RX8 16 RX2, Cond.instantiable RX2 6, Cond.initialized RX2, Cond.fieldLink RX8 21 "HouseSorted" "book" "LHouseSorted$LawBook;", Cond.classLink RX8 25 RX1, Cond.instantiable RX1 9, Cond.initialized RX1, Cond.fieldLink RX8 30 "HouseSorted" "house" "LHouseSorted$House;", Cond.classLink RX8 34 RX3, Cond.instantiable RX3 4, Cond.initialized RX3, Cond.fieldLink RX8 39 "HouseSorted" "shares" "LHouseSorted$Sharing;", Cond.classLink RX8 43 RX0, Cond.instantiable RX0 8, Cond.initialized RX0, Cond.fieldLink RX8 48 "HouseSorted" "search" "LHouseSorted$FairestSearch;", Cond.classLink RX8 52 RX7]
def wsX8_init_r2 : List Cond := [Cond.instantiable RX7 6, Cond.initialized RX7, Cond.fieldLink RX8 57 "HouseSorted" "vans" "LHouseSorted$Vans;", Cond.classLink RX8 61 RX4, Cond.fieldLink RX8 63 "HouseSorted" "sheets" "[LHouseSorted$Sheet;", Cond.instantiable RX4 3, Cond.initialized RX4, Cond.instanceMethod yX5_init, Cond.code yX5_init cX5_init 1 none, Cond.methodLink RX5 3 objectInit, Cond.arrayClass .byte, Cond.fieldLink RX5 9 "HouseSorted$Tape" "bytes" "[B", Cond.methodLink RX8 18 yX2_init, Cond.instanceMethod yX2_init, Cond.code yX2_init cX2_init 2 none, Cond.methodLink RX2 3 objectInit, Cond.methodLink RX2 13 ⟨"[I", "clone", "()Ljava/lang/Object;"⟩, Cond.sameMethod "[I" "java/lang/Object" "clone" "()Ljava/lang/Object;", Cond.native ⟨"java/lang/Object", "clone", "()Ljava/lang/Object;"⟩, Cond.instanceMethod ⟨"java/lang/Object", "clone", "()Ljava/lang/Object;"⟩, Cond.selects "[I" ⟨"[I", "clone", "()Ljava/lang/Object;"⟩ ⟨"java/lang/Object", "clone", "()Ljava/lang/Object;"⟩, Cond.classLink RX2 14 "[I", Cond.fieldLink RX2 18 "HouseSorted$LawBook" "value" "[I", Cond.arrayClass .int]
def wsX8_init_r3 : List Cond := [Cond.fieldLink RX2 23 "HouseSorted$LawBook" "draft" "[I", Cond.classLink RX2 26 RX6, Cond.instantiable RX6 5, Cond.initialized RX6, Cond.fieldLink RX2 31 "HouseSorted$LawBook" "reader" "LHouseSorted$TokenReader;", Cond.methodLink RX2 28 yX6_init, Cond.instanceMethod yX6_init, Cond.code yX6_init cX6_init 2 none, Cond.methodLink RX6 3 objectInit, Cond.fieldLink RX6 9 "HouseSorted$TokenReader" "tape" "LHouseSorted$Tape;", Cond.methodLink RX8 27 yX1_init, Cond.instanceMethod yX1_init, Cond.code yX1_init cX1_init 2 none, Cond.methodLink RX1 3 objectInit, Cond.fieldLink RX1 9 "HouseSorted$House" "weight" "[I", Cond.fieldLink RX1 15 "HouseSorted$House" "low" "[I", Cond.fieldLink RX1 18 "HouseSorted$House" "high" "[I", Cond.fieldLink RX1 21 "HouseSorted$House" "age" "[I", Cond.fieldLink RX1 24 "HouseSorted$House" "marks" "[I", Cond.classLink RX1 27 "[[I", Cond.fieldLink RX1 29 "HouseSorted$House" "worth" "[[I", Cond.fieldLink RX1 32 "HouseSorted$House" "book" "LHouseSorted$LawBook;", Cond.methodLink RX8 36 yX3_init, Cond.instanceMethod yX3_init]
def wsX8_init_r4 : List Cond := [Cond.code yX3_init cX3_init 2 none, Cond.methodLink RX3 3 objectInit, Cond.fieldLink RX3 9 "HouseSorted$Sharing" "shared" "[I", Cond.fieldLink RX3 15 "HouseSorted$Sharing" "taker" "[I", Cond.fieldLink RX3 18 "HouseSorted$Sharing" "house" "LHouseSorted$House;", Cond.methodLink RX8 45 yX0_init, Cond.instanceMethod yX0_init, Cond.code yX0_init cX0_init 3 none, Cond.methodLink RX0 3 objectInit, Cond.fieldLink RX0 9 "HouseSorted$FairestSearch" "sums" "[I", Cond.classLink RX0 15 "[[I", Cond.fieldLink RX0 17 "HouseSorted$FairestSearch" "within" "[[I", Cond.fieldLink RX0 20 "HouseSorted$FairestSearch" "richest" "[I", Cond.fieldLink RX0 23 "HouseSorted$FairestSearch" "house" "LHouseSorted$House;", Cond.fieldLink RX0 27 "HouseSorted$FairestSearch" "shares" "LHouseSorted$Sharing;", Cond.methodLink RX8 54 yX7_init, Cond.instanceMethod yX7_init, Cond.code yX7_init cX7_init 3 none, Cond.methodLink RX7 3 objectInit, Cond.fieldLink RX7 9 "HouseSorted$Vans" "cargo" "[I", Cond.fieldLink RX7 15 "HouseSorted$Vans" "filled" "[I", Cond.fieldLink RX7 18 "HouseSorted$Vans" "place" "[I", Cond.fieldLink RX7 21 "HouseSorted$Vans" "house" "LHouseSorted$House;", Cond.fieldLink RX7 25 "HouseSorted$Vans" "book" "LHouseSorted$LawBook;"]
def wsX8_init_r5 : List Cond := [Cond.instanceMethod yX4_init, Cond.code yX4_init cX4_init 1 none, Cond.methodLink RX4 3 objectInit, Cond.fieldLink RX4 9 "HouseSorted$Sheet" "lane" "I", Cond.fieldLink RX4 15 "HouseSorted$Sheet" "cells" "[I"]
def wsX8_init : List Cond := .code yX8_init cX8_init 2 none :: ((wsX8_init_r1 ++ (wsX8_init_r2 ++ (wsX8_init_r3 ++ (wsX8_init_r4 ++ wsX8_init_r5)))) ++ wsX50 ++ wsX80 ++ wsX20 ++ wsX10 ++ wsX30 ++ wsX00 ++ wsX70 ++ wsX40 ++ wsX60)
def wsX8_feed : List Cond := .code yX8_feed cX8_feed 3 (some .int) :: ([.fieldLink RX8 10 "HouseSorted" "tape" "LHouseSorted$Tape;", .fieldLink RX8 68 "HouseSorted$Tape" "length" "I", .methodLink RX8 72 yX5_append, .instanceMethod yX5_append, .selects RX5 yX5_append yX5_append, .initialized RX5, .code yX5_append cX5_append 4 none, .fieldLink RX5 15 "HouseSorted$Tape" "length" "I", .fieldLink RX5 9 "HouseSorted$Tape" "bytes" "[B"] ++ wsX80 ++ wsX50)
def wsX8_end : List Cond := .code yX8_end cX8_end 3 (some .int) :: ([.fieldLink RX8 10 "HouseSorted" "tape" "LHouseSorted$Tape;", .fieldLink RX8 68 "HouseSorted$Tape" "length" "I"] ++ wsX80 ++ wsX50)
def wsX8_laws_r1 : List Cond := [Cond.fieldLink RX8 21 "HouseSorted" "book" "LHouseSorted$LawBook;", Cond.fieldLink RX8 10 "HouseSorted" "tape" "LHouseSorted$Tape;", Cond.fieldLink RX8 68 "HouseSorted$Tape" "length" "I", Cond.methodLink RX8 76 yX2_readTape, Cond.instanceMethod yX2_readTape, Cond.selects RX2 yX2_readTape yX2_readTape, Cond.initialized RX2, Cond.code yX2_readTape cX2_readTape 2 (some .int), Cond.fieldLink RX2 31 "HouseSorted$LawBook" "reader" "LHouseSorted$TokenReader;", Cond.fieldLink RX2 23 "HouseSorted$LawBook" "draft" "[I", Cond.methodLink RX2 38 arraycopyName, Cond.native arraycopyName, Cond.static arraycopyName, Cond.initialized "java/lang/System", Cond.fieldLink RX2 44 "HouseSorted$LawBook" "draftBits" "I", Cond.fieldLink RX2 48 "HouseSorted$LawBook" "fault" "I", Cond.fieldLink RX2 54 "HouseSorted$TokenReader" "kind" "I", Cond.fieldLink RX2 61 "HouseSorted$TokenReader" "start" "I", Cond.fieldLink RX2 18 "HouseSorted$LawBook" "value" "[I", Cond.fieldLink RX2 70 "HouseSorted$LawBook" "told" "I", Cond.methodLink RX2 35 yX6_rewind, Cond.instanceMethod yX6_rewind, Cond.selects RX6 yX6_rewind yX6_rewind, Cond.initialized RX6]
def wsX8_laws_r2 : List Cond := [Cond.code yX6_rewind cX6_rewind 1 none, Cond.fieldLink RX6 15 "HouseSorted$TokenReader" "place" "I", Cond.methodLink RX2 51 yX6_advance, Cond.instanceMethod yX6_advance, Cond.selects RX6 yX6_advance yX6_advance, Cond.code yX6_advance cX6_advance 1 none, Cond.fieldLink RX6 23 "HouseSorted$TokenReader" "start" "I", Cond.fieldLink RX6 9 "HouseSorted$TokenReader" "tape" "LHouseSorted$Tape;", Cond.fieldLink RX6 26 "HouseSorted$Tape" "length" "I", Cond.fieldLink RX6 31 "HouseSorted$TokenReader" "kind" "I", Cond.methodLink RX6 19 yX6_placeBehind, Cond.instanceMethod yX6_placeBehind, Cond.selects RX6 yX6_placeBehind yX6_placeBehind, Cond.code yX6_placeBehind cX6_placeBehind 5 (some .int), Cond.methodLink RX6 34 yX5_hasBetween, Cond.instanceMethod yX5_hasBetween, Cond.selects RX5 yX5_hasBetween yX5_hasBetween, Cond.initialized RX5, Cond.code yX5_hasBetween cX5_hasBetween 4 (some .boolean), Cond.fieldLink RX5 15 "HouseSorted$Tape" "length" "I", Cond.fieldLink RX5 9 "HouseSorted$Tape" "bytes" "[B", Cond.methodLink RX6 38 yX6_readName, Cond.instanceMethod yX6_readName, Cond.selects RX6 yX6_readName yX6_readName]
def wsX8_laws_r3 : List Cond := [Cond.code yX6_readName cX6_readName 2 none, Cond.fieldLink RX6 48 "HouseSorted$TokenReader" "value" "I", Cond.methodLink RX6 44 yX6_isName, Cond.instanceMethod yX6_isName, Cond.selects RX6 yX6_isName yX6_isName, Cond.code yX6_isName cX6_isName 5 (some .boolean), Cond.fieldLink RX6 59 "HouseSorted$Tape" "bytes" "[B", Cond.methodLink RX6 53 yJ0_charAt_5068e, Cond.instanceMethod yJ0_charAt_5068e, Cond.selects RJ0 yJ0_charAt_5068e yJ0_charAt_5068e, Cond.initialized RJ0, Cond.code yJ0_charAt_5068e cJ0_charAt_5068e 2 (some .char), Cond.fieldLink RJ0 9 "java/lang/String" "value" "[B", Cond.methodLink RJ0 492 yJ0_isLatin1_aae02, Cond.instanceMethod yJ0_isLatin1_aae02, Cond.selects RJ0 yJ0_isLatin1_aae02 yJ0_isLatin1_aae02, Cond.code yJ0_isLatin1_aae02 cJ0_isLatin1_aae02 1 (some .boolean), Cond.fieldLink RJ0 38 "java/lang/String" "COMPACT_STRINGS" "Z", Cond.fieldLink RJ0 15 "java/lang/String" "coder" "B", Cond.methodLink RJ0 495 yJ1_charAt_3b067, Cond.static yJ1_charAt_3b067, Cond.initialized RJ1, Cond.code yJ1_charAt_3b067 cJ1_charAt_3b067 2 (some .char), Cond.methodLink RJ1 9 yJ0_checkIndex_df160]
def wsX8_laws_r4 : List Cond := [Cond.static yJ0_checkIndex_df160, Cond.code yJ0_checkIndex_df160 cJ0_checkIndex_df160 2 none, Cond.fieldLink RJ0 1053 "jdk/internal/util/Preconditions" "SIOOBE_FORMATTER" "Ljava/util/function/BiFunction;", Cond.methodLink RJ0 1059 yJ3_checkIndex_8e157, Cond.static yJ3_checkIndex_8e157, Cond.initialized RJ3, Cond.code yJ3_checkIndex_8e157 cJ3_checkIndex_8e157 3 (some .int), Cond.methodLink RJ0 498 yJ2_charAt_3b067, Cond.static yJ2_charAt_3b067, Cond.initialized RJ2, Cond.code yJ2_charAt_3b067 cJ2_charAt_3b067 2 (some .char), Cond.methodLink RJ2 67 yJ2_checkIndex_2214a, Cond.static yJ2_checkIndex_2214a, Cond.code yJ2_checkIndex_2214a cJ2_checkIndex_2214a 2 none, Cond.methodLink RJ2 48 yJ2_length_9d52b, Cond.static yJ2_length_9d52b, Cond.code yJ2_length_9d52b cJ2_length_9d52b 1 (some .int), Cond.methodLink RJ2 414 yJ0_checkIndex_df160, Cond.methodLink RJ2 71 yJ2_getChar_3b067, Cond.static yJ2_getChar_3b067, Cond.code yJ2_getChar_3b067 cJ2_getChar_3b067 2 (some .char), Cond.fieldLink RJ2 44 "java/lang/StringUTF16" "$assertionsDisabled" "Z", Cond.fieldLink RJ2 59 "java/lang/StringUTF16" "HI_BYTE_SHIFT" "I", Cond.fieldLink RJ2 63 "java/lang/StringUTF16" "LO_BYTE_SHIFT" "I"]
def wsX8_laws_r5 : List Cond := [Cond.methodLink RX6 41 yX6_readNumber, Cond.instanceMethod yX6_readNumber, Cond.selects RX6 yX6_readNumber yX6_readNumber, Cond.code yX6_readNumber cX6_readNumber 2 none, Cond.methodLink RX2 57 yX2_readLaw, Cond.instanceMethod yX2_readLaw, Cond.selects RX2 yX2_readLaw yX2_readLaw, Cond.code yX2_readLaw cX2_readLaw 3 (some .int), Cond.fieldLink RX2 73 "HouseSorted$TokenReader" "value" "I", Cond.methodLink RX2 75 yX2_misfit, Cond.instanceMethod yX2_misfit, Cond.selects RX2 yX2_misfit yX2_misfit, Cond.code yX2_misfit cX2_misfit 1 (some .int), Cond.methodLink RX2 78 yX2_readAmount, Cond.instanceMethod yX2_readAmount, Cond.selects RX2 yX2_readAmount yX2_readAmount, Cond.code yX2_readAmount cX2_readAmount 2 (some .int), Cond.static yX8_isWithin, Cond.initialized RX8, Cond.code yX8_isWithin cX8_isWithin 3 (some .boolean), Cond.methodLink RX2 81 yX2_readWay, Cond.instanceMethod yX2_readWay, Cond.selects RX2 yX2_readWay yX2_readWay, Cond.code yX2_readWay cX2_readWay 2 (some .int)]
def wsX8_laws_r6 : List Cond := [Cond.methodLink RX2 64 yJ6_bitCount_0f7a4, Cond.static yJ6_bitCount_0f7a4, Cond.initialized RJ6, Cond.code yJ6_bitCount_0f7a4 cJ6_bitCount_0f7a4 1 (some .int), Cond.constant RJ6 265 (1431655765), Cond.constant RJ6 266 (858993459), Cond.constant RJ6 267 (252645135)]
def wsX8_laws : List Cond := .code yX8_laws cX8_laws 2 (some .int) :: ((wsX8_laws_r1 ++ (wsX8_laws_r2 ++ (wsX8_laws_r3 ++ (wsX8_laws_r4 ++ (wsX8_laws_r5 ++ wsX8_laws_r6))))) ++ wsX80 ++ wsX50 ++ wsX20 ++ wsX60)
def wsX8_fault : List Cond := .code yX8_fault cX8_fault 1 (some .int) :: ([.fieldLink RX8 21 "HouseSorted" "book" "LHouseSorted$LawBook;", .fieldLink RX8 80 "HouseSorted$LawBook" "fault" "I"] ++ wsX80 ++ wsX20)
def wsX8_law : List Cond := .code yX8_law cX8_law 2 (some .int) :: ([.fieldLink RX8 21 "HouseSorted" "book" "LHouseSorted$LawBook;", .fieldLink RX8 87 "HouseSorted$LawBook" "value" "[I", .methodLink RX8 83 yX8_isWithin, .static yX8_isWithin, .initialized RX8, .code yX8_isWithin cX8_isWithin 3 (some .boolean)] ++ wsX80 ++ wsX20)
def wsX8_heir : List Cond := .code yX8_heir cX8_heir 1 (some .int) :: ([.fieldLink RX8 30 "HouseSorted" "house" "LHouseSorted$House;", .fieldLink RX8 91 "HouseSorted$House" "heirs" "I"] ++ wsX80 ++ wsX10)
def wsX8_thing : List Cond := .code yX8_thing cX8_thing 6 (some .int) :: ([.fieldLink RX8 30 "HouseSorted" "house" "LHouseSorted$House;", .fieldLink RX8 94 "HouseSorted$House" "things" "I", .methodLink RX8 83 yX8_isWithin, .static yX8_isWithin, .initialized RX8, .code yX8_isWithin cX8_isWithin 3 (some .boolean), .methodLink RX8 97 yX1_addThing, .instanceMethod yX1_addThing, .selects RX1 yX1_addThing yX1_addThing, .initialized RX1, .code yX1_addThing cX1_addThing 8 (some .int), .fieldLink RX1 40 "HouseSorted$House" "things" "I", .fieldLink RX1 9 "HouseSorted$House" "weight" "[I", .fieldLink RX1 15 "HouseSorted$House" "low" "[I", .fieldLink RX1 18 "HouseSorted$House" "high" "[I", .fieldLink RX1 21 "HouseSorted$House" "age" "[I", .fieldLink RX1 24 "HouseSorted$House" "marks" "[I", .fieldLink RX1 29 "HouseSorted$House" "worth" "[[I"] ++ wsX80 ++ wsX10)
def wsX8_worth : List Cond := .code yX8_worth cX8_worth 5 (some .int) :: ([.fieldLink RX8 30 "HouseSorted" "house" "LHouseSorted$House;", .fieldLink RX8 108 "HouseSorted$House" "worth" "[[I", .methodLink RX8 101 yX1_hasHeir, .instanceMethod yX1_hasHeir, .selects RX1 yX1_hasHeir yX1_hasHeir, .initialized RX1, .code yX1_hasHeir cX1_hasHeir 2 (some .boolean), .fieldLink RX1 36 "HouseSorted$House" "heirs" "I", .methodLink RX8 105 yX1_hasThing, .instanceMethod yX1_hasThing, .selects RX1 yX1_hasThing yX1_hasThing, .code yX1_hasThing cX1_hasThing 2 (some .boolean), .fieldLink RX1 40 "HouseSorted$House" "things" "I", .methodLink RX8 83 yX8_isWithin, .static yX8_isWithin, .initialized RX8, .code yX8_isWithin cX8_isWithin 3 (some .boolean)] ++ wsX80 ++ wsX10)
def wsX8_gone : List Cond := .code yX8_gone cX8_gone 1 (some .int) :: ([.fieldLink RX8 30 "HouseSorted" "house" "LHouseSorted$House;", .fieldLink RX8 94 "HouseSorted$House" "things" "I"] ++ wsX80 ++ wsX10)
def wsX8_look : List Cond := .code yX8_look cX8_look 4 (some .int) :: ([.fieldLink RX8 30 "HouseSorted" "house" "LHouseSorted$House;", .fieldLink RX8 112 "HouseSorted$House" "low" "[I", .fieldLink RX8 115 "HouseSorted$House" "high" "[I", .methodLink RX8 105 yX1_hasThing, .instanceMethod yX1_hasThing, .selects RX1 yX1_hasThing yX1_hasThing, .initialized RX1, .code yX1_hasThing cX1_hasThing 2 (some .boolean), .fieldLink RX1 40 "HouseSorted$House" "things" "I"] ++ wsX80 ++ wsX10)
def wsX8_told_r1 : List Cond := [Cond.fieldLink RX8 30 "HouseSorted" "house" "LHouseSorted$House;", Cond.fieldLink RX8 118 "HouseSorted$House" "weight" "[I", Cond.fieldLink RX8 112 "HouseSorted$House" "low" "[I", Cond.fieldLink RX8 115 "HouseSorted$House" "high" "[I", Cond.fieldLink RX8 121 "HouseSorted$House" "age" "[I", Cond.fieldLink RX8 124 "HouseSorted$House" "marks" "[I", Cond.methodLink RX8 105 yX1_hasThing, Cond.instanceMethod yX1_hasThing, Cond.selects RX1 yX1_hasThing yX1_hasThing, Cond.initialized RX1, Cond.code yX1_hasThing cX1_hasThing 2 (some .boolean), Cond.fieldLink RX1 40 "HouseSorted$House" "things" "I", Cond.methodLink RX8 127 yX1_wayOf, Cond.instanceMethod yX1_wayOf, Cond.selects RX1 yX1_wayOf yX1_wayOf, Cond.code yX1_wayOf cX1_wayOf 2 (some .int), Cond.fieldLink RX1 32 "HouseSorted$House" "book" "LHouseSorted$LawBook;", Cond.fieldLink RX1 47 "HouseSorted$LawBook" "value" "[I", Cond.fieldLink RX1 15 "HouseSorted$House" "low" "[I", Cond.methodLink RX1 43 yX1_hasMark, Cond.instanceMethod yX1_hasMark, Cond.selects RX1 yX1_hasMark yX1_hasMark, Cond.code yX1_hasMark cX1_hasMark 3 (some .boolean), Cond.fieldLink RX1 24 "HouseSorted$House" "marks" "[I"]
def wsX8_told_r2 : List Cond := [Cond.methodLink RX1 52 yX1_isKeptPaper, Cond.instanceMethod yX1_isKeptPaper, Cond.selects RX1 yX1_isKeptPaper yX1_isKeptPaper, Cond.code yX1_isKeptPaper cX1_isKeptPaper 2 (some .boolean), Cond.fieldLink RX1 21 "HouseSorted$House" "age" "[I", Cond.methodLink RX1 56 yX1_isWanted, Cond.instanceMethod yX1_isWanted, Cond.selects RX1 yX1_isWanted yX1_isWanted, Cond.code yX1_isWanted cX1_isWanted 3 (some .boolean), Cond.fieldLink RX1 36 "HouseSorted$House" "heirs" "I", Cond.fieldLink RX1 29 "HouseSorted$House" "worth" "[[I"]
def wsX8_told : List Cond := .code yX8_told cX8_told 3 (some .int) :: ((wsX8_told_r1 ++ wsX8_told_r2) ++ wsX80 ++ wsX10 ++ wsX20)
def wsX8_way_r1 : List Cond := [Cond.fieldLink RX8 30 "HouseSorted" "house" "LHouseSorted$House;", Cond.fieldLink RX8 118 "HouseSorted$House" "weight" "[I", Cond.fieldLink RX8 112 "HouseSorted$House" "low" "[I", Cond.fieldLink RX8 115 "HouseSorted$House" "high" "[I", Cond.methodLink RX8 83 yX8_isWithin, Cond.static yX8_isWithin, Cond.initialized RX8, Cond.code yX8_isWithin cX8_isWithin 3 (some .boolean), Cond.methodLink RX8 131 yX1_countOnWay, Cond.instanceMethod yX1_countOnWay, Cond.selects RX1 yX1_countOnWay yX1_countOnWay, Cond.initialized RX1, Cond.code yX1_countOnWay cX1_countOnWay 4 (some .int), Cond.fieldLink RX1 40 "HouseSorted$House" "things" "I", Cond.methodLink RX1 59 yX1_wayOf, Cond.instanceMethod yX1_wayOf, Cond.selects RX1 yX1_wayOf yX1_wayOf, Cond.code yX1_wayOf cX1_wayOf 2 (some .int), Cond.fieldLink RX1 32 "HouseSorted$House" "book" "LHouseSorted$LawBook;", Cond.fieldLink RX1 47 "HouseSorted$LawBook" "value" "[I", Cond.fieldLink RX1 15 "HouseSorted$House" "low" "[I", Cond.methodLink RX1 43 yX1_hasMark, Cond.instanceMethod yX1_hasMark, Cond.selects RX1 yX1_hasMark yX1_hasMark]
def wsX8_way_r2 : List Cond := [Cond.code yX1_hasMark cX1_hasMark 3 (some .boolean), Cond.fieldLink RX1 24 "HouseSorted$House" "marks" "[I", Cond.methodLink RX1 52 yX1_isKeptPaper, Cond.instanceMethod yX1_isKeptPaper, Cond.selects RX1 yX1_isKeptPaper yX1_isKeptPaper, Cond.code yX1_isKeptPaper cX1_isKeptPaper 2 (some .boolean), Cond.fieldLink RX1 21 "HouseSorted$House" "age" "[I", Cond.methodLink RX1 56 yX1_isWanted, Cond.instanceMethod yX1_isWanted, Cond.selects RX1 yX1_isWanted yX1_isWanted, Cond.code yX1_isWanted cX1_isWanted 3 (some .boolean), Cond.fieldLink RX1 36 "HouseSorted$House" "heirs" "I", Cond.fieldLink RX1 29 "HouseSorted$House" "worth" "[[I", Cond.methodLink RX8 134 yX1_sumOnWay, Cond.instanceMethod yX1_sumOnWay, Cond.selects RX1 yX1_sumOnWay yX1_sumOnWay, Cond.code yX1_sumOnWay cX1_sumOnWay 5 (some .int)]
def wsX8_way : List Cond := .code yX8_way cX8_way 3 (some .int) :: ((wsX8_way_r1 ++ wsX8_way_r2) ++ wsX80 ++ wsX10 ++ wsX20)
def wsX8_asks_r1 : List Cond := [Cond.fieldLink RX8 30 "HouseSorted" "house" "LHouseSorted$House;", Cond.methodLink RX8 105 yX1_hasThing, Cond.instanceMethod yX1_hasThing, Cond.selects RX1 yX1_hasThing yX1_hasThing, Cond.initialized RX1, Cond.code yX1_hasThing cX1_hasThing 2 (some .boolean), Cond.fieldLink RX1 40 "HouseSorted$House" "things" "I", Cond.methodLink RX8 138 yX1_secondLook, Cond.instanceMethod yX1_secondLook, Cond.selects RX1 yX1_secondLook yX1_secondLook, Cond.code yX1_secondLook cX1_secondLook 3 (some .int), Cond.fieldLink RX1 32 "HouseSorted$House" "book" "LHouseSorted$LawBook;", Cond.fieldLink RX1 47 "HouseSorted$LawBook" "value" "[I", Cond.fieldLink RX1 15 "HouseSorted$House" "low" "[I", Cond.fieldLink RX1 18 "HouseSorted$House" "high" "[I", Cond.methodLink RX1 63 Lib.Math.max.name, Cond.static Lib.Math.max.name, Cond.initialized "java/lang/Math", Cond.code Lib.Math.max.name Lib.Math.max.code 2 (some .int), Cond.methodLink RX1 43 yX1_hasMark, Cond.instanceMethod yX1_hasMark, Cond.selects RX1 yX1_hasMark yX1_hasMark, Cond.code yX1_hasMark cX1_hasMark 3 (some .boolean), Cond.fieldLink RX1 24 "HouseSorted$House" "marks" "[I"]
def wsX8_asks_r2 : List Cond := [Cond.methodLink RX1 52 yX1_isKeptPaper, Cond.instanceMethod yX1_isKeptPaper, Cond.selects RX1 yX1_isKeptPaper yX1_isKeptPaper, Cond.code yX1_isKeptPaper cX1_isKeptPaper 2 (some .boolean), Cond.fieldLink RX1 21 "HouseSorted$House" "age" "[I"]
def wsX8_asks : List Cond := .code yX8_asks cX8_asks 2 (some .int) :: ((wsX8_asks_r1 ++ wsX8_asks_r2) ++ wsX80 ++ wsX10 ++ wsX20)
def wsX8_isRule : List Cond := .code yX8_isRule cX8_isRule 1 (some .boolean) :: ([])
def wsX8_turns_r1 : List Cond := [Cond.fieldLink RX8 30 "HouseSorted" "house" "LHouseSorted$House;", Cond.fieldLink RX8 91 "HouseSorted$House" "heirs" "I", Cond.fieldLink RX8 39 "HouseSorted" "shares" "LHouseSorted$Sharing;", Cond.methodLink RX8 141 yX8_isRule, Cond.static yX8_isRule, Cond.initialized RX8, Cond.code yX8_isRule cX8_isRule 1 (some .boolean), Cond.methodLink RX8 144 yX3_gather, Cond.instanceMethod yX3_gather, Cond.selects RX3 yX3_gather yX3_gather, Cond.initialized RX3, Cond.code yX3_gather cX3_gather 2 none, Cond.fieldLink RX3 22 "HouseSorted$Sharing" "size" "I", Cond.fieldLink RX3 18 "HouseSorted$Sharing" "house" "LHouseSorted$House;", Cond.fieldLink RX3 26 "HouseSorted$House" "things" "I", Cond.fieldLink RX3 9 "HouseSorted$Sharing" "shared" "[I", Cond.methodLink RX3 31 yX1_wayOf, Cond.instanceMethod yX1_wayOf, Cond.selects RX1 yX1_wayOf yX1_wayOf, Cond.initialized RX1, Cond.code yX1_wayOf cX1_wayOf 2 (some .int), Cond.fieldLink RX1 32 "HouseSorted$House" "book" "LHouseSorted$LawBook;", Cond.fieldLink RX1 47 "HouseSorted$LawBook" "value" "[I", Cond.fieldLink RX1 15 "HouseSorted$House" "low" "[I"]
def wsX8_turns_r2 : List Cond := [Cond.methodLink RX1 43 yX1_hasMark, Cond.instanceMethod yX1_hasMark, Cond.selects RX1 yX1_hasMark yX1_hasMark, Cond.code yX1_hasMark cX1_hasMark 3 (some .boolean), Cond.fieldLink RX1 24 "HouseSorted$House" "marks" "[I", Cond.methodLink RX1 52 yX1_isKeptPaper, Cond.instanceMethod yX1_isKeptPaper, Cond.selects RX1 yX1_isKeptPaper yX1_isKeptPaper, Cond.code yX1_isKeptPaper cX1_isKeptPaper 2 (some .boolean), Cond.fieldLink RX1 21 "HouseSorted$House" "age" "[I", Cond.methodLink RX1 56 yX1_isWanted, Cond.instanceMethod yX1_isWanted, Cond.selects RX1 yX1_isWanted yX1_isWanted, Cond.code yX1_isWanted cX1_isWanted 3 (some .boolean), Cond.fieldLink RX1 36 "HouseSorted$House" "heirs" "I", Cond.fieldLink RX1 29 "HouseSorted$House" "worth" "[[I", Cond.methodLink RX8 147 yX3_takeTurns, Cond.instanceMethod yX3_takeTurns, Cond.selects RX3 yX3_takeTurns yX3_takeTurns, Cond.code yX3_takeTurns cX3_takeTurns 2 none, Cond.methodLink RX3 41 yX3_takeTurnsWithLie, Cond.instanceMethod yX3_takeTurnsWithLie, Cond.selects RX3 yX3_takeTurnsWithLie yX3_takeTurnsWithLie, Cond.code yX3_takeTurnsWithLie cX3_takeTurnsWithLie 11 none]
def wsX8_turns_r3 : List Cond := [Cond.fieldLink RX3 15 "HouseSorted$Sharing" "taker" "[I", Cond.fieldLink RX3 49 "HouseSorted$House" "worth" "[[I", Cond.methodLink RX3 45 yX3_heirAtTurn, Cond.instanceMethod yX3_heirAtTurn, Cond.selects RX3 yX3_heirAtTurn yX3_heirAtTurn, Cond.code yX3_heirAtTurn cX3_heirAtTurn 6 (some .int), Cond.fieldLink RX3 35 "HouseSorted$House" "heirs" "I", Cond.methodLink RX3 53 Lib.Math.max.name, Cond.static Lib.Math.max.name, Cond.initialized "java/lang/Math", Cond.code Lib.Math.max.name Lib.Math.max.code 2 (some .int), Cond.methodLink RX8 151 yX3_number, Cond.instanceMethod yX3_number, Cond.selects RX3 yX3_number yX3_number, Cond.code yX3_number cX3_number 3 (some .int)]
def wsX8_turns : List Cond := .code yX8_turns cX8_turns 2 (some .int) :: ((wsX8_turns_r1 ++ (wsX8_turns_r2 ++ wsX8_turns_r3)) ++ wsX80 ++ wsX10 ++ wsX30 ++ wsX20)
def wsX8_lie_r1 : List Cond := [Cond.fieldLink RX8 30 "HouseSorted" "house" "LHouseSorted$House;", Cond.fieldLink RX8 39 "HouseSorted" "shares" "LHouseSorted$Sharing;", Cond.methodLink RX8 141 yX8_isRule, Cond.static yX8_isRule, Cond.initialized RX8, Cond.code yX8_isRule cX8_isRule 1 (some .boolean), Cond.methodLink RX8 101 yX1_hasHeir, Cond.instanceMethod yX1_hasHeir, Cond.selects RX1 yX1_hasHeir yX1_hasHeir, Cond.initialized RX1, Cond.code yX1_hasHeir cX1_hasHeir 2 (some .boolean), Cond.fieldLink RX1 36 "HouseSorted$House" "heirs" "I", Cond.methodLink RX8 105 yX1_hasThing, Cond.instanceMethod yX1_hasThing, Cond.selects RX1 yX1_hasThing yX1_hasThing, Cond.code yX1_hasThing cX1_hasThing 2 (some .boolean), Cond.fieldLink RX1 40 "HouseSorted$House" "things" "I", Cond.methodLink RX8 83 yX8_isWithin, Cond.static yX8_isWithin, Cond.code yX8_isWithin cX8_isWithin 3 (some .boolean), Cond.methodLink RX8 144 yX3_gather, Cond.instanceMethod yX3_gather, Cond.selects RX3 yX3_gather yX3_gather, Cond.initialized RX3]
def wsX8_lie_r2 : List Cond := [Cond.code yX3_gather cX3_gather 2 none, Cond.fieldLink RX3 22 "HouseSorted$Sharing" "size" "I", Cond.fieldLink RX3 18 "HouseSorted$Sharing" "house" "LHouseSorted$House;", Cond.fieldLink RX3 26 "HouseSorted$House" "things" "I", Cond.fieldLink RX3 9 "HouseSorted$Sharing" "shared" "[I", Cond.methodLink RX3 31 yX1_wayOf, Cond.instanceMethod yX1_wayOf, Cond.selects RX1 yX1_wayOf yX1_wayOf, Cond.code yX1_wayOf cX1_wayOf 2 (some .int), Cond.fieldLink RX1 32 "HouseSorted$House" "book" "LHouseSorted$LawBook;", Cond.fieldLink RX1 47 "HouseSorted$LawBook" "value" "[I", Cond.fieldLink RX1 15 "HouseSorted$House" "low" "[I", Cond.methodLink RX1 43 yX1_hasMark, Cond.instanceMethod yX1_hasMark, Cond.selects RX1 yX1_hasMark yX1_hasMark, Cond.code yX1_hasMark cX1_hasMark 3 (some .boolean), Cond.fieldLink RX1 24 "HouseSorted$House" "marks" "[I", Cond.methodLink RX1 52 yX1_isKeptPaper, Cond.instanceMethod yX1_isKeptPaper, Cond.selects RX1 yX1_isKeptPaper yX1_isKeptPaper, Cond.code yX1_isKeptPaper cX1_isKeptPaper 2 (some .boolean), Cond.fieldLink RX1 21 "HouseSorted$House" "age" "[I", Cond.methodLink RX1 56 yX1_isWanted, Cond.instanceMethod yX1_isWanted]
def wsX8_lie_r3 : List Cond := [Cond.selects RX1 yX1_isWanted yX1_isWanted, Cond.code yX1_isWanted cX1_isWanted 3 (some .boolean), Cond.fieldLink RX1 29 "HouseSorted$House" "worth" "[[I", Cond.methodLink RX8 154 yX3_takeTurnsWithLie, Cond.instanceMethod yX3_takeTurnsWithLie, Cond.selects RX3 yX3_takeTurnsWithLie yX3_takeTurnsWithLie, Cond.code yX3_takeTurnsWithLie cX3_takeTurnsWithLie 11 none, Cond.fieldLink RX3 15 "HouseSorted$Sharing" "taker" "[I", Cond.fieldLink RX3 49 "HouseSorted$House" "worth" "[[I", Cond.methodLink RX3 45 yX3_heirAtTurn, Cond.instanceMethod yX3_heirAtTurn, Cond.selects RX3 yX3_heirAtTurn yX3_heirAtTurn, Cond.code yX3_heirAtTurn cX3_heirAtTurn 6 (some .int), Cond.fieldLink RX3 35 "HouseSorted$House" "heirs" "I", Cond.methodLink RX3 53 Lib.Math.max.name, Cond.static Lib.Math.max.name, Cond.initialized "java/lang/Math", Cond.code Lib.Math.max.name Lib.Math.max.code 2 (some .int), Cond.methodLink RX8 151 yX3_number, Cond.instanceMethod yX3_number, Cond.selects RX3 yX3_number yX3_number, Cond.code yX3_number cX3_number 3 (some .int)]
def wsX8_lie : List Cond := .code yX8_lie cX8_lie 5 (some .int) :: ((wsX8_lie_r1 ++ (wsX8_lie_r2 ++ wsX8_lie_r3)) ++ wsX80 ++ wsX10 ++ wsX30 ++ wsX20)
def wsX8_gain_r1 : List Cond := [Cond.fieldLink RX8 30 "HouseSorted" "house" "LHouseSorted$House;", Cond.fieldLink RX8 39 "HouseSorted" "shares" "LHouseSorted$Sharing;", Cond.methodLink RX8 141 yX8_isRule, Cond.static yX8_isRule, Cond.initialized RX8, Cond.code yX8_isRule cX8_isRule 1 (some .boolean), Cond.methodLink RX8 101 yX1_hasHeir, Cond.instanceMethod yX1_hasHeir, Cond.selects RX1 yX1_hasHeir yX1_hasHeir, Cond.initialized RX1, Cond.code yX1_hasHeir cX1_hasHeir 2 (some .boolean), Cond.fieldLink RX1 36 "HouseSorted$House" "heirs" "I", Cond.methodLink RX8 144 yX3_gather, Cond.instanceMethod yX3_gather, Cond.selects RX3 yX3_gather yX3_gather, Cond.initialized RX3, Cond.code yX3_gather cX3_gather 2 none, Cond.fieldLink RX3 22 "HouseSorted$Sharing" "size" "I", Cond.fieldLink RX3 18 "HouseSorted$Sharing" "house" "LHouseSorted$House;", Cond.fieldLink RX3 26 "HouseSorted$House" "things" "I", Cond.fieldLink RX3 9 "HouseSorted$Sharing" "shared" "[I", Cond.methodLink RX3 31 yX1_wayOf, Cond.instanceMethod yX1_wayOf, Cond.selects RX1 yX1_wayOf yX1_wayOf]
def wsX8_gain_r2 : List Cond := [Cond.code yX1_wayOf cX1_wayOf 2 (some .int), Cond.fieldLink RX1 32 "HouseSorted$House" "book" "LHouseSorted$LawBook;", Cond.fieldLink RX1 47 "HouseSorted$LawBook" "value" "[I", Cond.fieldLink RX1 15 "HouseSorted$House" "low" "[I", Cond.methodLink RX1 43 yX1_hasMark, Cond.instanceMethod yX1_hasMark, Cond.selects RX1 yX1_hasMark yX1_hasMark, Cond.code yX1_hasMark cX1_hasMark 3 (some .boolean), Cond.fieldLink RX1 24 "HouseSorted$House" "marks" "[I", Cond.methodLink RX1 52 yX1_isKeptPaper, Cond.instanceMethod yX1_isKeptPaper, Cond.selects RX1 yX1_isKeptPaper yX1_isKeptPaper, Cond.code yX1_isKeptPaper cX1_isKeptPaper 2 (some .boolean), Cond.fieldLink RX1 21 "HouseSorted$House" "age" "[I", Cond.methodLink RX1 56 yX1_isWanted, Cond.instanceMethod yX1_isWanted, Cond.selects RX1 yX1_isWanted yX1_isWanted, Cond.code yX1_isWanted cX1_isWanted 3 (some .boolean), Cond.fieldLink RX1 29 "HouseSorted$House" "worth" "[[I", Cond.methodLink RX8 158 yX3_mostByLying, Cond.instanceMethod yX3_mostByLying, Cond.selects RX3 yX3_mostByLying yX3_mostByLying, Cond.code yX3_mostByLying cX3_mostByLying 7 (some .int), Cond.methodLink RX3 53 Lib.Math.max.name]
def wsX8_gain_r3 : List Cond := [Cond.static Lib.Math.max.name, Cond.initialized "java/lang/Math", Cond.code Lib.Math.max.name Lib.Math.max.code 2 (some .int), Cond.methodLink RX3 58 yX3_takeTurns, Cond.instanceMethod yX3_takeTurns, Cond.selects RX3 yX3_takeTurns yX3_takeTurns, Cond.code yX3_takeTurns cX3_takeTurns 2 none, Cond.methodLink RX3 41 yX3_takeTurnsWithLie, Cond.instanceMethod yX3_takeTurnsWithLie, Cond.selects RX3 yX3_takeTurnsWithLie yX3_takeTurnsWithLie, Cond.code yX3_takeTurnsWithLie cX3_takeTurnsWithLie 11 none, Cond.fieldLink RX3 15 "HouseSorted$Sharing" "taker" "[I", Cond.fieldLink RX3 49 "HouseSorted$House" "worth" "[[I", Cond.methodLink RX3 45 yX3_heirAtTurn, Cond.instanceMethod yX3_heirAtTurn, Cond.selects RX3 yX3_heirAtTurn yX3_heirAtTurn, Cond.code yX3_heirAtTurn cX3_heirAtTurn 6 (some .int), Cond.fieldLink RX3 35 "HouseSorted$House" "heirs" "I", Cond.methodLink RX3 62 yX3_sumOf, Cond.instanceMethod yX3_sumOf, Cond.selects RX3 yX3_sumOf yX3_sumOf, Cond.code yX3_sumOf cX3_sumOf 5 (some .int), Cond.methodLink RX3 65 yX3_changesOrder, Cond.instanceMethod yX3_changesOrder]
def wsX8_gain_r4 : List Cond := [Cond.selects RX3 yX3_changesOrder yX3_changesOrder, Cond.code yX3_changesOrder cX3_changesOrder 6 (some .boolean)]
def wsX8_gain : List Cond := .code yX8_gain cX8_gain 3 (some .int) :: ((wsX8_gain_r1 ++ (wsX8_gain_r2 ++ (wsX8_gain_r3 ++ wsX8_gain_r4))) ++ wsX80 ++ wsX10 ++ wsX30 ++ wsX20)
def wsX8_sum_r1 : List Cond := [Cond.fieldLink RX8 30 "HouseSorted" "house" "LHouseSorted$House;", Cond.fieldLink RX8 39 "HouseSorted" "shares" "LHouseSorted$Sharing;", Cond.methodLink RX8 101 yX1_hasHeir, Cond.instanceMethod yX1_hasHeir, Cond.selects RX1 yX1_hasHeir yX1_hasHeir, Cond.initialized RX1, Cond.code yX1_hasHeir cX1_hasHeir 2 (some .boolean), Cond.fieldLink RX1 36 "HouseSorted$House" "heirs" "I", Cond.methodLink RX8 162 yX3_readNumber, Cond.instanceMethod yX3_readNumber, Cond.selects RX3 yX3_readNumber yX3_readNumber, Cond.initialized RX3, Cond.code yX3_readNumber cX3_readNumber 4 (some .boolean), Cond.fieldLink RX3 22 "HouseSorted$Sharing" "size" "I", Cond.fieldLink RX3 18 "HouseSorted$Sharing" "house" "LHouseSorted$House;", Cond.fieldLink RX3 35 "HouseSorted$House" "heirs" "I", Cond.fieldLink RX3 15 "HouseSorted$Sharing" "taker" "[I", Cond.methodLink RX3 38 yX3_gather, Cond.instanceMethod yX3_gather, Cond.selects RX3 yX3_gather yX3_gather, Cond.code yX3_gather cX3_gather 2 none, Cond.fieldLink RX3 26 "HouseSorted$House" "things" "I", Cond.fieldLink RX3 9 "HouseSorted$Sharing" "shared" "[I", Cond.methodLink RX3 31 yX1_wayOf]
def wsX8_sum_r2 : List Cond := [Cond.instanceMethod yX1_wayOf, Cond.selects RX1 yX1_wayOf yX1_wayOf, Cond.code yX1_wayOf cX1_wayOf 2 (some .int), Cond.fieldLink RX1 32 "HouseSorted$House" "book" "LHouseSorted$LawBook;", Cond.fieldLink RX1 47 "HouseSorted$LawBook" "value" "[I", Cond.fieldLink RX1 15 "HouseSorted$House" "low" "[I", Cond.methodLink RX1 43 yX1_hasMark, Cond.instanceMethod yX1_hasMark, Cond.selects RX1 yX1_hasMark yX1_hasMark, Cond.code yX1_hasMark cX1_hasMark 3 (some .boolean), Cond.fieldLink RX1 24 "HouseSorted$House" "marks" "[I", Cond.methodLink RX1 52 yX1_isKeptPaper, Cond.instanceMethod yX1_isKeptPaper, Cond.selects RX1 yX1_isKeptPaper yX1_isKeptPaper, Cond.code yX1_isKeptPaper cX1_isKeptPaper 2 (some .boolean), Cond.fieldLink RX1 21 "HouseSorted$House" "age" "[I", Cond.methodLink RX1 56 yX1_isWanted, Cond.instanceMethod yX1_isWanted, Cond.selects RX1 yX1_isWanted yX1_isWanted, Cond.code yX1_isWanted cX1_isWanted 3 (some .boolean), Cond.fieldLink RX1 29 "HouseSorted$House" "worth" "[[I", Cond.methodLink RX8 165 yX3_sumOf, Cond.instanceMethod yX3_sumOf, Cond.selects RX3 yX3_sumOf yX3_sumOf]
def wsX8_sum_r3 : List Cond := [Cond.code yX3_sumOf cX3_sumOf 5 (some .int), Cond.fieldLink RX3 49 "HouseSorted$House" "worth" "[[I"]
def wsX8_sum : List Cond := .code yX8_sum cX8_sum 4 (some .int) :: ((wsX8_sum_r1 ++ (wsX8_sum_r2 ++ wsX8_sum_r3)) ++ wsX80 ++ wsX10 ++ wsX30 ++ wsX20)
def wsX8_envies_r1 : List Cond := [Cond.fieldLink RX8 30 "HouseSorted" "house" "LHouseSorted$House;", Cond.fieldLink RX8 39 "HouseSorted" "shares" "LHouseSorted$Sharing;", Cond.methodLink RX8 101 yX1_hasHeir, Cond.instanceMethod yX1_hasHeir, Cond.selects RX1 yX1_hasHeir yX1_hasHeir, Cond.initialized RX1, Cond.code yX1_hasHeir cX1_hasHeir 2 (some .boolean), Cond.fieldLink RX1 36 "HouseSorted$House" "heirs" "I", Cond.methodLink RX8 162 yX3_readNumber, Cond.instanceMethod yX3_readNumber, Cond.selects RX3 yX3_readNumber yX3_readNumber, Cond.initialized RX3, Cond.code yX3_readNumber cX3_readNumber 4 (some .boolean), Cond.fieldLink RX3 22 "HouseSorted$Sharing" "size" "I", Cond.fieldLink RX3 18 "HouseSorted$Sharing" "house" "LHouseSorted$House;", Cond.fieldLink RX3 35 "HouseSorted$House" "heirs" "I", Cond.fieldLink RX3 15 "HouseSorted$Sharing" "taker" "[I", Cond.methodLink RX3 38 yX3_gather, Cond.instanceMethod yX3_gather, Cond.selects RX3 yX3_gather yX3_gather, Cond.code yX3_gather cX3_gather 2 none, Cond.fieldLink RX3 26 "HouseSorted$House" "things" "I", Cond.fieldLink RX3 9 "HouseSorted$Sharing" "shared" "[I", Cond.methodLink RX3 31 yX1_wayOf]
def wsX8_envies_r2 : List Cond := [Cond.instanceMethod yX1_wayOf, Cond.selects RX1 yX1_wayOf yX1_wayOf, Cond.code yX1_wayOf cX1_wayOf 2 (some .int), Cond.fieldLink RX1 32 "HouseSorted$House" "book" "LHouseSorted$LawBook;", Cond.fieldLink RX1 47 "HouseSorted$LawBook" "value" "[I", Cond.fieldLink RX1 15 "HouseSorted$House" "low" "[I", Cond.methodLink RX1 43 yX1_hasMark, Cond.instanceMethod yX1_hasMark, Cond.selects RX1 yX1_hasMark yX1_hasMark, Cond.code yX1_hasMark cX1_hasMark 3 (some .boolean), Cond.fieldLink RX1 24 "HouseSorted$House" "marks" "[I", Cond.methodLink RX1 52 yX1_isKeptPaper, Cond.instanceMethod yX1_isKeptPaper, Cond.selects RX1 yX1_isKeptPaper yX1_isKeptPaper, Cond.code yX1_isKeptPaper cX1_isKeptPaper 2 (some .boolean), Cond.fieldLink RX1 21 "HouseSorted$House" "age" "[I", Cond.methodLink RX1 56 yX1_isWanted, Cond.instanceMethod yX1_isWanted, Cond.selects RX1 yX1_isWanted yX1_isWanted, Cond.code yX1_isWanted cX1_isWanted 3 (some .boolean), Cond.fieldLink RX1 29 "HouseSorted$House" "worth" "[[I", Cond.methodLink RX8 168 yX3_envyOf, Cond.instanceMethod yX3_envyOf, Cond.selects RX3 yX3_envyOf yX3_envyOf]
def wsX8_envies_r3 : List Cond := [Cond.code yX3_envyOf cX3_envyOf 4 (some .int), Cond.methodLink RX3 62 yX3_sumOf, Cond.instanceMethod yX3_sumOf, Cond.selects RX3 yX3_sumOf yX3_sumOf, Cond.code yX3_sumOf cX3_sumOf 5 (some .int), Cond.fieldLink RX3 49 "HouseSorted$House" "worth" "[[I", Cond.methodLink RX3 69 yX3_greatestOf, Cond.instanceMethod yX3_greatestOf, Cond.selects RX3 yX3_greatestOf yX3_greatestOf, Cond.code yX3_greatestOf cX3_greatestOf 5 (some .int), Cond.methodLink RX3 53 Lib.Math.max.name, Cond.static Lib.Math.max.name, Cond.initialized "java/lang/Math", Cond.code Lib.Math.max.name Lib.Math.max.code 2 (some .int)]
def wsX8_envies : List Cond := .code yX8_envies cX8_envies 4 (some .int) :: ((wsX8_envies_r1 ++ (wsX8_envies_r2 ++ wsX8_envies_r3)) ++ wsX80 ++ wsX10 ++ wsX30 ++ wsX20)
def wsX8_envy_r1 : List Cond := [Cond.fieldLink RX8 39 "HouseSorted" "shares" "LHouseSorted$Sharing;", Cond.methodLink RX8 162 yX3_readNumber, Cond.instanceMethod yX3_readNumber, Cond.selects RX3 yX3_readNumber yX3_readNumber, Cond.initialized RX3, Cond.code yX3_readNumber cX3_readNumber 4 (some .boolean), Cond.fieldLink RX3 22 "HouseSorted$Sharing" "size" "I", Cond.fieldLink RX3 18 "HouseSorted$Sharing" "house" "LHouseSorted$House;", Cond.fieldLink RX3 35 "HouseSorted$House" "heirs" "I", Cond.fieldLink RX3 15 "HouseSorted$Sharing" "taker" "[I", Cond.methodLink RX3 38 yX3_gather, Cond.instanceMethod yX3_gather, Cond.selects RX3 yX3_gather yX3_gather, Cond.code yX3_gather cX3_gather 2 none, Cond.fieldLink RX3 26 "HouseSorted$House" "things" "I", Cond.fieldLink RX3 9 "HouseSorted$Sharing" "shared" "[I", Cond.methodLink RX3 31 yX1_wayOf, Cond.instanceMethod yX1_wayOf, Cond.selects RX1 yX1_wayOf yX1_wayOf, Cond.initialized RX1, Cond.code yX1_wayOf cX1_wayOf 2 (some .int), Cond.fieldLink RX1 32 "HouseSorted$House" "book" "LHouseSorted$LawBook;", Cond.fieldLink RX1 47 "HouseSorted$LawBook" "value" "[I", Cond.fieldLink RX1 15 "HouseSorted$House" "low" "[I"]
def wsX8_envy_r2 : List Cond := [Cond.methodLink RX1 43 yX1_hasMark, Cond.instanceMethod yX1_hasMark, Cond.selects RX1 yX1_hasMark yX1_hasMark, Cond.code yX1_hasMark cX1_hasMark 3 (some .boolean), Cond.fieldLink RX1 24 "HouseSorted$House" "marks" "[I", Cond.methodLink RX1 52 yX1_isKeptPaper, Cond.instanceMethod yX1_isKeptPaper, Cond.selects RX1 yX1_isKeptPaper yX1_isKeptPaper, Cond.code yX1_isKeptPaper cX1_isKeptPaper 2 (some .boolean), Cond.fieldLink RX1 21 "HouseSorted$House" "age" "[I", Cond.methodLink RX1 56 yX1_isWanted, Cond.instanceMethod yX1_isWanted, Cond.selects RX1 yX1_isWanted yX1_isWanted, Cond.code yX1_isWanted cX1_isWanted 3 (some .boolean), Cond.fieldLink RX1 36 "HouseSorted$House" "heirs" "I", Cond.fieldLink RX1 29 "HouseSorted$House" "worth" "[[I", Cond.methodLink RX8 171 yX3_envyPairs, Cond.instanceMethod yX3_envyPairs, Cond.selects RX3 yX3_envyPairs yX3_envyPairs, Cond.code yX3_envyPairs cX3_envyPairs 4 (some .int), Cond.methodLink RX3 72 yX3_envyOf, Cond.instanceMethod yX3_envyOf, Cond.selects RX3 yX3_envyOf yX3_envyOf, Cond.code yX3_envyOf cX3_envyOf 4 (some .int)]
def wsX8_envy_r3 : List Cond := [Cond.methodLink RX3 62 yX3_sumOf, Cond.instanceMethod yX3_sumOf, Cond.selects RX3 yX3_sumOf yX3_sumOf, Cond.code yX3_sumOf cX3_sumOf 5 (some .int), Cond.fieldLink RX3 49 "HouseSorted$House" "worth" "[[I", Cond.methodLink RX3 69 yX3_greatestOf, Cond.instanceMethod yX3_greatestOf, Cond.selects RX3 yX3_greatestOf yX3_greatestOf, Cond.code yX3_greatestOf cX3_greatestOf 5 (some .int), Cond.methodLink RX3 53 Lib.Math.max.name, Cond.static Lib.Math.max.name, Cond.initialized "java/lang/Math", Cond.code Lib.Math.max.name Lib.Math.max.code 2 (some .int)]
def wsX8_envy : List Cond := .code yX8_envy cX8_envy 2 (some .int) :: ((wsX8_envy_r1 ++ (wsX8_envy_r2 ++ wsX8_envy_r3)) ++ wsX80 ++ wsX30 ++ wsX10 ++ wsX20)
def wsX8_fairest_r1 : List Cond := [Cond.fieldLink RX8 30 "HouseSorted" "house" "LHouseSorted$House;", Cond.fieldLink RX8 91 "HouseSorted$House" "heirs" "I", Cond.fieldLink RX8 39 "HouseSorted" "shares" "LHouseSorted$Sharing;", Cond.fieldLink RX8 174 "HouseSorted$Sharing" "size" "I", Cond.fieldLink RX8 48 "HouseSorted" "search" "LHouseSorted$FairestSearch;", Cond.methodLink RX8 144 yX3_gather, Cond.instanceMethod yX3_gather, Cond.selects RX3 yX3_gather yX3_gather, Cond.initialized RX3, Cond.code yX3_gather cX3_gather 2 none, Cond.fieldLink RX3 22 "HouseSorted$Sharing" "size" "I", Cond.fieldLink RX3 18 "HouseSorted$Sharing" "house" "LHouseSorted$House;", Cond.fieldLink RX3 26 "HouseSorted$House" "things" "I", Cond.fieldLink RX3 9 "HouseSorted$Sharing" "shared" "[I", Cond.methodLink RX3 31 yX1_wayOf, Cond.instanceMethod yX1_wayOf, Cond.selects RX1 yX1_wayOf yX1_wayOf, Cond.initialized RX1, Cond.code yX1_wayOf cX1_wayOf 2 (some .int), Cond.fieldLink RX1 32 "HouseSorted$House" "book" "LHouseSorted$LawBook;", Cond.fieldLink RX1 47 "HouseSorted$LawBook" "value" "[I", Cond.fieldLink RX1 15 "HouseSorted$House" "low" "[I", Cond.methodLink RX1 43 yX1_hasMark, Cond.instanceMethod yX1_hasMark]
def wsX8_fairest_r2 : List Cond := [Cond.selects RX1 yX1_hasMark yX1_hasMark, Cond.code yX1_hasMark cX1_hasMark 3 (some .boolean), Cond.fieldLink RX1 24 "HouseSorted$House" "marks" "[I", Cond.methodLink RX1 52 yX1_isKeptPaper, Cond.instanceMethod yX1_isKeptPaper, Cond.selects RX1 yX1_isKeptPaper yX1_isKeptPaper, Cond.code yX1_isKeptPaper cX1_isKeptPaper 2 (some .boolean), Cond.fieldLink RX1 21 "HouseSorted$House" "age" "[I", Cond.methodLink RX1 56 yX1_isWanted, Cond.instanceMethod yX1_isWanted, Cond.selects RX1 yX1_isWanted yX1_isWanted, Cond.code yX1_isWanted cX1_isWanted 3 (some .boolean), Cond.fieldLink RX1 36 "HouseSorted$House" "heirs" "I", Cond.fieldLink RX1 29 "HouseSorted$House" "worth" "[[I", Cond.methodLink RX8 177 yX0_bestNumber, Cond.instanceMethod yX0_bestNumber, Cond.selects RX0 yX0_bestNumber yX0_bestNumber, Cond.initialized RX0, Cond.code yX0_bestNumber cX0_bestNumber 4 (some .int), Cond.fieldLink RX0 27 "HouseSorted$FairestSearch" "shares" "LHouseSorted$Sharing;", Cond.fieldLink RX0 31 "HouseSorted$Sharing" "size" "I", Cond.fieldLink RX0 37 "HouseSorted$Sharing" "shared" "[I", Cond.fieldLink RX0 20 "HouseSorted$FairestSearch" "richest" "[I", Cond.fieldLink RX0 23 "HouseSorted$FairestSearch" "house" "LHouseSorted$House;"]
def wsX8_fairest_r3 : List Cond := [Cond.fieldLink RX0 40 "HouseSorted$House" "worth" "[[I", Cond.fieldLink RX0 49 "HouseSorted$House" "heirs" "I", Cond.fieldLink RX0 17 "HouseSorted$FairestSearch" "within" "[[I", Cond.fieldLink RX0 52 "HouseSorted$FairestSearch" "bestLeast" "I", Cond.fieldLink RX0 55 "HouseSorted$FairestSearch" "bestTotal" "I", Cond.fieldLink RX0 58 "HouseSorted$FairestSearch" "best" "I", Cond.methodLink RX0 61 Lib.Math.min.name, Cond.static Lib.Math.min.name, Cond.initialized "java/lang/Math", Cond.code Lib.Math.min.name Lib.Math.min.code 2 (some .int), Cond.methodLink RX0 45 yX1_keenest, Cond.instanceMethod yX1_keenest, Cond.selects RX1 yX1_keenest yX1_keenest, Cond.code yX1_keenest cX1_keenest 4 (some .int), Cond.methodLink RX0 67 yX0_seek, Cond.static yX0_seek, Cond.code yX0_seek cX0_seek 7 none, Cond.fieldLink RX0 9 "HouseSorted$FairestSearch" "sums" "[I", Cond.methodLink RX0 71 yX0_mayBeBetter, Cond.instanceMethod yX0_mayBeBetter, Cond.selects RX0 yX0_mayBeBetter yX0_mayBeBetter, Cond.code yX0_mayBeBetter cX0_mayBeBetter 8 (some .boolean), Cond.methodLink RX0 75 yX0_leastSum, Cond.instanceMethod yX0_leastSum]
def wsX8_fairest_r4 : List Cond := [Cond.selects RX0 yX0_leastSum yX0_leastSum, Cond.code yX0_leastSum cX0_leastSum 3 (some .int)]
def wsX8_fairest : List Cond := .code yX8_fairest cX8_fairest 1 (some .int) :: ((wsX8_fairest_r1 ++ (wsX8_fairest_r2 ++ (wsX8_fairest_r3 ++ wsX8_fairest_r4))) ++ wsX80 ++ wsX10 ++ wsX30 ++ wsX20 ++ wsX00)
def wsX8_bid_r1 : List Cond := [Cond.fieldLink RX8 30 "HouseSorted" "house" "LHouseSorted$House;", Cond.fieldLink RX8 91 "HouseSorted$House" "heirs" "I", Cond.methodLink RX8 105 yX1_hasThing, Cond.instanceMethod yX1_hasThing, Cond.selects RX1 yX1_hasThing yX1_hasThing, Cond.initialized RX1, Cond.code yX1_hasThing cX1_hasThing 2 (some .boolean), Cond.fieldLink RX1 40 "HouseSorted$House" "things" "I", Cond.methodLink RX8 127 yX1_wayOf, Cond.instanceMethod yX1_wayOf, Cond.selects RX1 yX1_wayOf yX1_wayOf, Cond.code yX1_wayOf cX1_wayOf 2 (some .int), Cond.fieldLink RX1 32 "HouseSorted$House" "book" "LHouseSorted$LawBook;", Cond.fieldLink RX1 47 "HouseSorted$LawBook" "value" "[I", Cond.fieldLink RX1 15 "HouseSorted$House" "low" "[I", Cond.methodLink RX1 43 yX1_hasMark, Cond.instanceMethod yX1_hasMark, Cond.selects RX1 yX1_hasMark yX1_hasMark, Cond.code yX1_hasMark cX1_hasMark 3 (some .boolean), Cond.fieldLink RX1 24 "HouseSorted$House" "marks" "[I", Cond.methodLink RX1 52 yX1_isKeptPaper, Cond.instanceMethod yX1_isKeptPaper, Cond.selects RX1 yX1_isKeptPaper yX1_isKeptPaper, Cond.code yX1_isKeptPaper cX1_isKeptPaper 2 (some .boolean)]
def wsX8_bid_r2 : List Cond := [Cond.fieldLink RX1 21 "HouseSorted$House" "age" "[I", Cond.methodLink RX1 56 yX1_isWanted, Cond.instanceMethod yX1_isWanted, Cond.selects RX1 yX1_isWanted yX1_isWanted, Cond.code yX1_isWanted cX1_isWanted 3 (some .boolean), Cond.fieldLink RX1 36 "HouseSorted$House" "heirs" "I", Cond.fieldLink RX1 29 "HouseSorted$House" "worth" "[[I", Cond.methodLink RX8 180 yX1_keenest, Cond.instanceMethod yX1_keenest, Cond.selects RX1 yX1_keenest yX1_keenest, Cond.code yX1_keenest cX1_keenest 4 (some .int)]
def wsX8_bid : List Cond := .code yX8_bid cX8_bid 2 (some .int) :: ((wsX8_bid_r1 ++ wsX8_bid_r2) ++ wsX80 ++ wsX10 ++ wsX20)
def wsX8_settled_r1 : List Cond := [Cond.fieldLink RX8 30 "HouseSorted" "house" "LHouseSorted$House;", Cond.constant RX8 183 (-100000), Cond.fieldLink RX8 39 "HouseSorted" "shares" "LHouseSorted$Sharing;", Cond.methodLink RX8 101 yX1_hasHeir, Cond.instanceMethod yX1_hasHeir, Cond.selects RX1 yX1_hasHeir yX1_hasHeir, Cond.initialized RX1, Cond.code yX1_hasHeir cX1_hasHeir 2 (some .boolean), Cond.fieldLink RX1 36 "HouseSorted$House" "heirs" "I", Cond.methodLink RX8 144 yX3_gather, Cond.instanceMethod yX3_gather, Cond.selects RX3 yX3_gather yX3_gather, Cond.initialized RX3, Cond.code yX3_gather cX3_gather 2 none, Cond.fieldLink RX3 22 "HouseSorted$Sharing" "size" "I", Cond.fieldLink RX3 18 "HouseSorted$Sharing" "house" "LHouseSorted$House;", Cond.fieldLink RX3 26 "HouseSorted$House" "things" "I", Cond.fieldLink RX3 9 "HouseSorted$Sharing" "shared" "[I", Cond.methodLink RX3 31 yX1_wayOf, Cond.instanceMethod yX1_wayOf, Cond.selects RX1 yX1_wayOf yX1_wayOf, Cond.code yX1_wayOf cX1_wayOf 2 (some .int), Cond.fieldLink RX1 32 "HouseSorted$House" "book" "LHouseSorted$LawBook;", Cond.fieldLink RX1 47 "HouseSorted$LawBook" "value" "[I"]
def wsX8_settled_r2 : List Cond := [Cond.fieldLink RX1 15 "HouseSorted$House" "low" "[I", Cond.methodLink RX1 43 yX1_hasMark, Cond.instanceMethod yX1_hasMark, Cond.selects RX1 yX1_hasMark yX1_hasMark, Cond.code yX1_hasMark cX1_hasMark 3 (some .boolean), Cond.fieldLink RX1 24 "HouseSorted$House" "marks" "[I", Cond.methodLink RX1 52 yX1_isKeptPaper, Cond.instanceMethod yX1_isKeptPaper, Cond.selects RX1 yX1_isKeptPaper yX1_isKeptPaper, Cond.code yX1_isKeptPaper cX1_isKeptPaper 2 (some .boolean), Cond.fieldLink RX1 21 "HouseSorted$House" "age" "[I", Cond.methodLink RX1 56 yX1_isWanted, Cond.instanceMethod yX1_isWanted, Cond.selects RX1 yX1_isWanted yX1_isWanted, Cond.code yX1_isWanted cX1_isWanted 3 (some .boolean), Cond.fieldLink RX1 29 "HouseSorted$House" "worth" "[[I", Cond.methodLink RX8 184 yX3_giveToKeenest, Cond.instanceMethod yX3_giveToKeenest, Cond.selects RX3 yX3_giveToKeenest yX3_giveToKeenest, Cond.code yX3_giveToKeenest cX3_giveToKeenest 2 none, Cond.fieldLink RX3 15 "HouseSorted$Sharing" "taker" "[I", Cond.methodLink RX3 75 yX1_keenest, Cond.instanceMethod yX1_keenest, Cond.selects RX1 yX1_keenest yX1_keenest]
def wsX8_settled_r3 : List Cond := [Cond.code yX1_keenest cX1_keenest 4 (some .int), Cond.methodLink RX8 165 yX3_sumOf, Cond.instanceMethod yX3_sumOf, Cond.selects RX3 yX3_sumOf yX3_sumOf, Cond.code yX3_sumOf cX3_sumOf 5 (some .int), Cond.fieldLink RX3 49 "HouseSorted$House" "worth" "[[I", Cond.methodLink RX8 187 yX3_claimOf, Cond.instanceMethod yX3_claimOf, Cond.selects RX3 yX3_claimOf yX3_claimOf, Cond.code yX3_claimOf cX3_claimOf 4 (some .int), Cond.fieldLink RX3 35 "HouseSorted$House" "heirs" "I", Cond.methodLink RX3 53 Lib.Math.max.name, Cond.static Lib.Math.max.name, Cond.initialized "java/lang/Math", Cond.code Lib.Math.max.name Lib.Math.max.code 2 (some .int), Cond.methodLink RX8 190 yX3_paymentOf, Cond.instanceMethod yX3_paymentOf, Cond.selects RX3 yX3_paymentOf yX3_paymentOf, Cond.code yX3_paymentOf cX3_paymentOf 2 (some .int), Cond.methodLink RX3 62 yX3_sumOf, Cond.methodLink RX3 78 yX3_claimOf, Cond.methodLink RX8 193 yX3_partOfRest, Cond.instanceMethod yX3_partOfRest, Cond.selects RX3 yX3_partOfRest yX3_partOfRest]
def wsX8_settled_r4 : List Cond := [Cond.code yX3_partOfRest cX3_partOfRest 3 (some .int), Cond.methodLink RX3 81 yX3_paymentOf]
def wsX8_settled : List Cond := .code yX8_settled cX8_settled 3 (some .int) :: ((wsX8_settled_r1 ++ (wsX8_settled_r2 ++ (wsX8_settled_r3 ++ wsX8_settled_r4))) ++ wsX80 ++ wsX10 ++ wsX30 ++ wsX20)
def wsX8_loads_r1 : List Cond := [Cond.fieldLink RX8 57 "HouseSorted" "vans" "LHouseSorted$Vans;", Cond.methodLink RX8 83 yX8_isWithin, Cond.static yX8_isWithin, Cond.initialized RX8, Cond.code yX8_isWithin cX8_isWithin 3 (some .boolean), Cond.methodLink RX8 196 yX7_fewest, Cond.instanceMethod yX7_fewest, Cond.selects RX7 yX7_fewest yX7_fewest, Cond.initialized RX7, Cond.code yX7_fewest cX7_fewest 6 (some .int), Cond.fieldLink RX7 25 "HouseSorted$Vans" "book" "LHouseSorted$LawBook;", Cond.fieldLink RX7 33 "HouseSorted$LawBook" "value" "[I", Cond.fieldLink RX7 38 "HouseSorted$Vans" "size" "I", Cond.fieldLink RX7 21 "HouseSorted$Vans" "house" "LHouseSorted$House;", Cond.fieldLink RX7 42 "HouseSorted$House" "weight" "[I", Cond.fieldLink RX7 9 "HouseSorted$Vans" "cargo" "[I", Cond.methodLink RX7 29 yX7_gatherCargo, Cond.instanceMethod yX7_gatherCargo, Cond.selects RX7 yX7_gatherCargo yX7_gatherCargo, Cond.code yX7_gatherCargo cX7_gatherCargo 3 none, Cond.fieldLink RX7 51 "HouseSorted$House" "things" "I", Cond.fieldLink RX7 15 "HouseSorted$Vans" "filled" "[I", Cond.methodLink RX7 54 yX1_wayOf, Cond.instanceMethod yX1_wayOf]
def wsX8_loads_r2 : List Cond := [Cond.selects RX1 yX1_wayOf yX1_wayOf, Cond.initialized RX1, Cond.code yX1_wayOf cX1_wayOf 2 (some .int), Cond.fieldLink RX1 32 "HouseSorted$House" "book" "LHouseSorted$LawBook;", Cond.fieldLink RX1 47 "HouseSorted$LawBook" "value" "[I", Cond.fieldLink RX1 15 "HouseSorted$House" "low" "[I", Cond.methodLink RX1 43 yX1_hasMark, Cond.instanceMethod yX1_hasMark, Cond.selects RX1 yX1_hasMark yX1_hasMark, Cond.code yX1_hasMark cX1_hasMark 3 (some .boolean), Cond.fieldLink RX1 24 "HouseSorted$House" "marks" "[I", Cond.methodLink RX1 52 yX1_isKeptPaper, Cond.instanceMethod yX1_isKeptPaper, Cond.selects RX1 yX1_isKeptPaper yX1_isKeptPaper, Cond.code yX1_isKeptPaper cX1_isKeptPaper 2 (some .boolean), Cond.fieldLink RX1 21 "HouseSorted$House" "age" "[I", Cond.methodLink RX1 56 yX1_isWanted, Cond.instanceMethod yX1_isWanted, Cond.selects RX1 yX1_isWanted yX1_isWanted, Cond.code yX1_isWanted cX1_isWanted 3 (some .boolean), Cond.fieldLink RX1 36 "HouseSorted$House" "heirs" "I", Cond.fieldLink RX1 29 "HouseSorted$House" "worth" "[[I", Cond.methodLink RX7 47 yX7_packs, Cond.static yX7_packs]
def wsX8_loads_r3 : List Cond := [Cond.code yX7_packs cX7_packs 6 (some .boolean), Cond.fieldLink RX7 18 "HouseSorted$Vans" "place" "[I", Cond.methodLink RX7 62 Lib.Math.max.name, Cond.static Lib.Math.max.name, Cond.initialized "java/lang/Math", Cond.code Lib.Math.max.name Lib.Math.max.code 2 (some .int), Cond.methodLink RX7 58 yX7_hasTwin, Cond.instanceMethod yX7_hasTwin, Cond.selects RX7 yX7_hasTwin yX7_hasTwin, Cond.code yX7_hasTwin cX7_hasTwin 3 (some .boolean)]
def wsX8_loads : List Cond := .code yX8_loads cX8_loads 2 (some .int) :: ((wsX8_loads_r1 ++ (wsX8_loads_r2 ++ wsX8_loads_r3)) ++ wsX80 ++ wsX70 ++ wsX20 ++ wsX10)
def wsX8_load_r1 : List Cond := [Cond.fieldLink RX8 30 "HouseSorted" "house" "LHouseSorted$House;", Cond.fieldLink RX8 57 "HouseSorted" "vans" "LHouseSorted$Vans;", Cond.methodLink RX8 105 yX1_hasThing, Cond.instanceMethod yX1_hasThing, Cond.selects RX1 yX1_hasThing yX1_hasThing, Cond.initialized RX1, Cond.code yX1_hasThing cX1_hasThing 2 (some .boolean), Cond.fieldLink RX1 40 "HouseSorted$House" "things" "I", Cond.methodLink RX8 127 yX1_wayOf, Cond.instanceMethod yX1_wayOf, Cond.selects RX1 yX1_wayOf yX1_wayOf, Cond.code yX1_wayOf cX1_wayOf 2 (some .int), Cond.fieldLink RX1 32 "HouseSorted$House" "book" "LHouseSorted$LawBook;", Cond.fieldLink RX1 47 "HouseSorted$LawBook" "value" "[I", Cond.fieldLink RX1 15 "HouseSorted$House" "low" "[I", Cond.methodLink RX1 43 yX1_hasMark, Cond.instanceMethod yX1_hasMark, Cond.selects RX1 yX1_hasMark yX1_hasMark, Cond.code yX1_hasMark cX1_hasMark 3 (some .boolean), Cond.fieldLink RX1 24 "HouseSorted$House" "marks" "[I", Cond.methodLink RX1 52 yX1_isKeptPaper, Cond.instanceMethod yX1_isKeptPaper, Cond.selects RX1 yX1_isKeptPaper yX1_isKeptPaper, Cond.code yX1_isKeptPaper cX1_isKeptPaper 2 (some .boolean)]
def wsX8_load_r2 : List Cond := [Cond.fieldLink RX1 21 "HouseSorted$House" "age" "[I", Cond.methodLink RX1 56 yX1_isWanted, Cond.instanceMethod yX1_isWanted, Cond.selects RX1 yX1_isWanted yX1_isWanted, Cond.code yX1_isWanted cX1_isWanted 3 (some .boolean), Cond.fieldLink RX1 36 "HouseSorted$House" "heirs" "I", Cond.fieldLink RX1 29 "HouseSorted$House" "worth" "[[I", Cond.methodLink RX8 196 yX7_fewest, Cond.instanceMethod yX7_fewest, Cond.selects RX7 yX7_fewest yX7_fewest, Cond.initialized RX7, Cond.code yX7_fewest cX7_fewest 6 (some .int), Cond.fieldLink RX7 25 "HouseSorted$Vans" "book" "LHouseSorted$LawBook;", Cond.fieldLink RX7 33 "HouseSorted$LawBook" "value" "[I", Cond.fieldLink RX7 38 "HouseSorted$Vans" "size" "I", Cond.fieldLink RX7 21 "HouseSorted$Vans" "house" "LHouseSorted$House;", Cond.fieldLink RX7 42 "HouseSorted$House" "weight" "[I", Cond.fieldLink RX7 9 "HouseSorted$Vans" "cargo" "[I", Cond.methodLink RX7 29 yX7_gatherCargo, Cond.instanceMethod yX7_gatherCargo, Cond.selects RX7 yX7_gatherCargo yX7_gatherCargo, Cond.code yX7_gatherCargo cX7_gatherCargo 3 none, Cond.fieldLink RX7 51 "HouseSorted$House" "things" "I", Cond.fieldLink RX7 15 "HouseSorted$Vans" "filled" "[I"]
def wsX8_load_r3 : List Cond := [Cond.methodLink RX7 54 yX1_wayOf, Cond.methodLink RX7 47 yX7_packs, Cond.static yX7_packs, Cond.code yX7_packs cX7_packs 6 (some .boolean), Cond.fieldLink RX7 18 "HouseSorted$Vans" "place" "[I", Cond.methodLink RX7 62 Lib.Math.max.name, Cond.static Lib.Math.max.name, Cond.initialized "java/lang/Math", Cond.code Lib.Math.max.name Lib.Math.max.code 2 (some .int), Cond.methodLink RX7 58 yX7_hasTwin, Cond.instanceMethod yX7_hasTwin, Cond.selects RX7 yX7_hasTwin yX7_hasTwin, Cond.code yX7_hasTwin cX7_hasTwin 3 (some .boolean), Cond.methodLink RX8 199 yX7_loadOf, Cond.instanceMethod yX7_loadOf, Cond.selects RX7 yX7_loadOf yX7_loadOf, Cond.code yX7_loadOf cX7_loadOf 3 (some .int)]
def wsX8_load : List Cond := .code yX8_load cX8_load 2 (some .int) :: ((wsX8_load_r1 ++ (wsX8_load_r2 ++ wsX8_load_r3)) ++ wsX80 ++ wsX10 ++ wsX20 ++ wsX70)
def wsX8_isLane : List Cond := .code yX8_isLane cX8_isLane 1 (some .boolean) :: ([.methodLink RX8 83 yX8_isWithin, .static yX8_isWithin, .initialized RX8, .code yX8_isWithin cX8_isWithin 3 (some .boolean)])
def wsX8_sheet : List Cond := .code yX8_sheet cX8_sheet 4 (some .int) :: ([.fieldLink RX8 63 "HouseSorted" "sheets" "[LHouseSorted$Sheet;", .methodLink RX8 83 yX8_isWithin, .static yX8_isWithin, .initialized RX8, .code yX8_isWithin cX8_isWithin 3 (some .boolean), .methodLink RX8 202 yX8_isLane, .static yX8_isLane, .code yX8_isLane cX8_isLane 1 (some .boolean), .methodLink RX8 205 yX4_renew, .instanceMethod yX4_renew, .selects RX4 yX4_renew yX4_renew, .initialized RX4, .code yX4_renew cX4_renew 4 none, .fieldLink RX4 9 "HouseSorted$Sheet" "lane" "I", .fieldLink RX4 19 "HouseSorted$Sheet" "size" "I", .fieldLink RX4 15 "HouseSorted$Sheet" "cells" "[I"] ++ wsX80 ++ wsX40)
def wsX8_lay : List Cond := .code yX8_lay cX8_lay 5 (some .int) :: ([.fieldLink RX8 63 "HouseSorted" "sheets" "[LHouseSorted$Sheet;", .fieldLink RX8 209 "HouseSorted$Sheet" "lane" "I", .methodLink RX8 83 yX8_isWithin, .static yX8_isWithin, .initialized RX8, .code yX8_isWithin cX8_isWithin 3 (some .boolean), .methodLink RX8 212 yX4_hasCell, .instanceMethod yX4_hasCell, .selects RX4 yX4_hasCell yX4_hasCell, .initialized RX4, .code yX4_hasCell cX4_hasCell 2 (some .boolean), .fieldLink RX4 19 "HouseSorted$Sheet" "size" "I", .methodLink RX8 215 yX4_put, .instanceMethod yX4_put, .selects RX4 yX4_put yX4_put, .code yX4_put cX4_put 3 none, .fieldLink RX4 15 "HouseSorted$Sheet" "cells" "[I", .fieldLink RX4 9 "HouseSorted$Sheet" "lane" "I"] ++ wsX80 ++ wsX40)
def wsX8_worths_r1 : List Cond := [Cond.fieldLink RX8 30 "HouseSorted" "house" "LHouseSorted$House;", Cond.fieldLink RX8 63 "HouseSorted" "sheets" "[LHouseSorted$Sheet;", Cond.fieldLink RX8 94 "HouseSorted$House" "things" "I", Cond.methodLink RX8 101 yX1_hasHeir, Cond.instanceMethod yX1_hasHeir, Cond.selects RX1 yX1_hasHeir yX1_hasHeir, Cond.initialized RX1, Cond.code yX1_hasHeir cX1_hasHeir 2 (some .boolean), Cond.fieldLink RX1 36 "HouseSorted$House" "heirs" "I", Cond.methodLink RX8 83 yX8_isWithin, Cond.static yX8_isWithin, Cond.initialized RX8, Cond.code yX8_isWithin cX8_isWithin 3 (some .boolean), Cond.methodLink RX8 202 yX8_isLane, Cond.static yX8_isLane, Cond.code yX8_isLane cX8_isLane 1 (some .boolean), Cond.methodLink RX8 218 yX4_refusal, Cond.instanceMethod yX4_refusal, Cond.selects RX4 yX4_refusal yX4_refusal, Cond.initialized RX4, Cond.code yX4_refusal cX4_refusal 5 (some .int), Cond.fieldLink RX4 9 "HouseSorted$Sheet" "lane" "I", Cond.fieldLink RX4 15 "HouseSorted$Sheet" "cells" "[I", Cond.methodLink RX4 22 yX4_hasCell]
def wsX8_worths_r2 : List Cond := [Cond.instanceMethod yX4_hasCell, Cond.selects RX4 yX4_hasCell yX4_hasCell, Cond.code yX4_hasCell cX4_hasCell 2 (some .boolean), Cond.fieldLink RX4 19 "HouseSorted$Sheet" "size" "I", Cond.methodLink RX8 222 yX1_takeWorths, Cond.instanceMethod yX1_takeWorths, Cond.selects RX1 yX1_takeWorths yX1_takeWorths, Cond.code yX1_takeWorths cX1_takeWorths 7 (some .int), Cond.fieldLink RX1 40 "HouseSorted$House" "things" "I", Cond.fieldLink RX1 69 "HouseSorted$Sheet" "cells" "[I", Cond.fieldLink RX1 29 "HouseSorted$House" "worth" "[[I"]
def wsX8_worths : List Cond := .code yX8_worths cX8_worths 6 (some .int) :: ((wsX8_worths_r1 ++ wsX8_worths_r2) ++ wsX80 ++ wsX10 ++ wsX40)
def wsX8_count_r1 : List Cond := [Cond.fieldLink RX8 30 "HouseSorted" "house" "LHouseSorted$House;", Cond.fieldLink RX8 91 "HouseSorted$House" "heirs" "I", Cond.fieldLink RX8 94 "HouseSorted$House" "things" "I", Cond.fieldLink RX8 21 "HouseSorted" "book" "LHouseSorted$LawBook;", Cond.fieldLink RX8 226 "HouseSorted$LawBook" "told" "I", Cond.methodLink RX8 131 yX1_countOnWay, Cond.instanceMethod yX1_countOnWay, Cond.selects RX1 yX1_countOnWay yX1_countOnWay, Cond.initialized RX1, Cond.code yX1_countOnWay cX1_countOnWay 4 (some .int), Cond.fieldLink RX1 40 "HouseSorted$House" "things" "I", Cond.methodLink RX1 59 yX1_wayOf, Cond.instanceMethod yX1_wayOf, Cond.selects RX1 yX1_wayOf yX1_wayOf, Cond.code yX1_wayOf cX1_wayOf 2 (some .int), Cond.fieldLink RX1 32 "HouseSorted$House" "book" "LHouseSorted$LawBook;", Cond.fieldLink RX1 47 "HouseSorted$LawBook" "value" "[I", Cond.fieldLink RX1 15 "HouseSorted$House" "low" "[I", Cond.methodLink RX1 43 yX1_hasMark, Cond.instanceMethod yX1_hasMark, Cond.selects RX1 yX1_hasMark yX1_hasMark, Cond.code yX1_hasMark cX1_hasMark 3 (some .boolean), Cond.fieldLink RX1 24 "HouseSorted$House" "marks" "[I", Cond.methodLink RX1 52 yX1_isKeptPaper]
def wsX8_count_r2 : List Cond := [Cond.instanceMethod yX1_isKeptPaper, Cond.selects RX1 yX1_isKeptPaper yX1_isKeptPaper, Cond.code yX1_isKeptPaper cX1_isKeptPaper 2 (some .boolean), Cond.fieldLink RX1 21 "HouseSorted$House" "age" "[I", Cond.methodLink RX1 56 yX1_isWanted, Cond.instanceMethod yX1_isWanted, Cond.selects RX1 yX1_isWanted yX1_isWanted, Cond.code yX1_isWanted cX1_isWanted 3 (some .boolean), Cond.fieldLink RX1 36 "HouseSorted$House" "heirs" "I", Cond.fieldLink RX1 29 "HouseSorted$House" "worth" "[[I"]
def wsX8_count : List Cond := .code yX8_count cX8_count 2 (some .int) :: ((wsX8_count_r1 ++ wsX8_count_r2) ++ wsX80 ++ wsX10 ++ wsX20)
def wsX9_init : List Cond := .code yX9_init cX9_init 2 none :: ([.methodLink RX9 1 objectInit, .instanceMethod objectInit, .code objectInit ⟨#[0xb1]⟩ 1 none, .arrayClass .int, .fieldLink RX9 7 "HouseSortedModel" "tape" "[I", .fieldLink RX9 13 "HouseSortedModel" "laws" "[I", .fieldLink RX9 16 "HouseSortedModel" "draft" "[I", .fieldLink RX9 19 "HouseSortedModel" "weights" "[I", .fieldLink RX9 22 "HouseSortedModel" "lows" "[I", .fieldLink RX9 25 "HouseSortedModel" "highs" "[I", .fieldLink RX9 28 "HouseSortedModel" "ages" "[I", .fieldLink RX9 31 "HouseSortedModel" "marks" "[I", .fieldLink RX9 34 "HouseSortedModel" "worths" "[I", .fieldLink RX9 37 "HouseSortedModel" "which" "[I", .fieldLink RX9 40 "HouseSortedModel" "gets" "[I", .fieldLink RX9 43 "HouseSortedModel" "good" "[I", .fieldLink RX9 46 "HouseSortedModel" "placed" "[I", .fieldLink RX9 49 "HouseSortedModel" "full" "[I", .fieldLink RX9 52 "HouseSortedModel" "lanes" "[I", .fieldLink RX9 55 "HouseSortedModel" "sizes" "[I", .fieldLink RX9 58 "HouseSortedModel" "cells" "[I"] ++ wsX90)
def wsX9_in : List Cond := .code yX9_in cX9_in 6 (some .boolean) :: ([])
def wsX9_down : List Cond := .code yX9_down cX9_down 3 (some .int) :: ([])
def wsX9_feed : List Cond := .code yX9_feed cX9_feed 4 (some .int) :: ([.fieldLink RX9 61 "HouseSortedModel" "taped" "I", .fieldLink RX9 7 "HouseSortedModel" "tape" "[I", .constantLong RX9 65 (255)] ++ wsX90)
def wsX9_end : List Cond := .code yX9_end cX9_end 3 (some .int) :: ([.fieldLink RX9 61 "HouseSortedModel" "taped" "I", .methodLink RX9 67 yX9_in, .static yX9_in, .initialized RX9, .code yX9_in cX9_in 6 (some .boolean)] ++ wsX90)
def wsX9_fails : List Cond := .code yX9_fails cX9_fails 2 none :: ([.fieldLink RX9 71 "HouseSortedModel" "fault" "I", .fieldLink RX9 74 "HouseSortedModel" "from" "I", .fieldLink RX9 77 "HouseSortedModel" "wrongAt" "I"] ++ wsX90)
def wsX9_byteAt : List Cond := .code yX9_byteAt cX9_byteAt 2 (some .int) :: ([.fieldLink RX9 61 "HouseSortedModel" "taped" "I", .fieldLink RX9 7 "HouseSortedModel" "tape" "[I"] ++ wsX90)
def wsX9_is : List Cond := .code yX9_is cX9_is 6 (some .boolean) :: ([.fieldLink RX9 80 "HouseSortedModel" "at" "I", .fieldLink RX9 74 "HouseSortedModel" "from" "I", .methodLink RX9 83 yX9_byteAt, .instanceMethod yX9_byteAt, .selects RX9 yX9_byteAt yX9_byteAt, .initialized RX9, .code yX9_byteAt cX9_byteAt 2 (some .int), .fieldLink RX9 61 "HouseSortedModel" "taped" "I", .fieldLink RX9 7 "HouseSortedModel" "tape" "[I"] ++ wsX90)
def wsX9_nameNow : List Cond := .code yX9_nameNow cX9_nameNow 1 (some .int) :: ([.methodLink RX9 87 yX9_is, .instanceMethod yX9_is, .selects RX9 yX9_is yX9_is, .initialized RX9, .code yX9_is cX9_is 6 (some .boolean), .fieldLink RX9 80 "HouseSortedModel" "at" "I", .fieldLink RX9 74 "HouseSortedModel" "from" "I", .methodLink RX9 83 yX9_byteAt, .instanceMethod yX9_byteAt, .selects RX9 yX9_byteAt yX9_byteAt, .code yX9_byteAt cX9_byteAt 2 (some .int), .fieldLink RX9 61 "HouseSortedModel" "taped" "I", .fieldLink RX9 7 "HouseSortedModel" "tape" "[I"] ++ wsX90)
def wsX9_next_r1 : List Cond := [Cond.fieldLink RX9 80 "HouseSortedModel" "at" "I", Cond.fieldLink RX9 74 "HouseSortedModel" "from" "I", Cond.fieldLink RX9 91 "HouseSortedModel" "sort" "I", Cond.constantLong RX9 94 (97), Cond.constantLong RX9 96 (122), Cond.fieldLink RX9 102 "HouseSortedModel" "value" "I", Cond.constantLong RX9 109 (48), Cond.constantLong RX9 111 (57), Cond.methodLink RX9 83 yX9_byteAt, Cond.instanceMethod yX9_byteAt, Cond.selects RX9 yX9_byteAt yX9_byteAt, Cond.initialized RX9, Cond.code yX9_byteAt cX9_byteAt 2 (some .int), Cond.fieldLink RX9 61 "HouseSortedModel" "taped" "I", Cond.fieldLink RX9 7 "HouseSortedModel" "tape" "[I", Cond.methodLink RX9 67 yX9_in, Cond.static yX9_in, Cond.code yX9_in cX9_in 6 (some .boolean), Cond.methodLink RX9 98 yX9_nameNow, Cond.instanceMethod yX9_nameNow, Cond.selects RX9 yX9_nameNow yX9_nameNow, Cond.code yX9_nameNow cX9_nameNow 1 (some .int), Cond.methodLink RX9 87 yX9_is, Cond.instanceMethod yX9_is]
def wsX9_next_r2 : List Cond := [Cond.selects RX9 yX9_is yX9_is, Cond.code yX9_is cX9_is 6 (some .boolean), Cond.methodLink RX9 105 yX9_fails, Cond.instanceMethod yX9_fails, Cond.selects RX9 yX9_fails yX9_fails, Cond.code yX9_fails cX9_fails 2 none, Cond.fieldLink RX9 71 "HouseSortedModel" "fault" "I", Cond.fieldLink RX9 77 "HouseSortedModel" "wrongAt" "I"]
def wsX9_next : List Cond := .code yX9_next cX9_next 2 none :: ((wsX9_next_r1 ++ wsX9_next_r2) ++ wsX90)
def wsX9_wants : List Cond := .code yX9_wants cX9_wants 3 none :: ([.methodLink RX9 105 yX9_fails, .instanceMethod yX9_fails, .selects RX9 yX9_fails yX9_fails, .initialized RX9, .code yX9_fails cX9_fails 2 none, .fieldLink RX9 71 "HouseSortedModel" "fault" "I", .fieldLink RX9 74 "HouseSortedModel" "from" "I", .fieldLink RX9 77 "HouseSortedModel" "wrongAt" "I"] ++ wsX90)
def wsX9_goesOn_r1 : List Cond := [Cond.fieldLink RX9 71 "HouseSortedModel" "fault" "I", Cond.methodLink RX9 113 yX9_next, Cond.instanceMethod yX9_next, Cond.selects RX9 yX9_next yX9_next, Cond.initialized RX9, Cond.code yX9_next cX9_next 2 none, Cond.fieldLink RX9 80 "HouseSortedModel" "at" "I", Cond.fieldLink RX9 74 "HouseSortedModel" "from" "I", Cond.fieldLink RX9 91 "HouseSortedModel" "sort" "I", Cond.constantLong RX9 94 (97), Cond.constantLong RX9 96 (122), Cond.fieldLink RX9 102 "HouseSortedModel" "value" "I", Cond.constantLong RX9 109 (48), Cond.constantLong RX9 111 (57), Cond.methodLink RX9 83 yX9_byteAt, Cond.instanceMethod yX9_byteAt, Cond.selects RX9 yX9_byteAt yX9_byteAt, Cond.code yX9_byteAt cX9_byteAt 2 (some .int), Cond.fieldLink RX9 61 "HouseSortedModel" "taped" "I", Cond.fieldLink RX9 7 "HouseSortedModel" "tape" "[I", Cond.methodLink RX9 67 yX9_in, Cond.static yX9_in, Cond.code yX9_in cX9_in 6 (some .boolean), Cond.methodLink RX9 98 yX9_nameNow]
def wsX9_goesOn_r2 : List Cond := [Cond.instanceMethod yX9_nameNow, Cond.selects RX9 yX9_nameNow yX9_nameNow, Cond.code yX9_nameNow cX9_nameNow 1 (some .int), Cond.methodLink RX9 87 yX9_is, Cond.instanceMethod yX9_is, Cond.selects RX9 yX9_is yX9_is, Cond.code yX9_is cX9_is 6 (some .boolean), Cond.methodLink RX9 105 yX9_fails, Cond.instanceMethod yX9_fails, Cond.selects RX9 yX9_fails yX9_fails, Cond.code yX9_fails cX9_fails 2 none, Cond.fieldLink RX9 77 "HouseSortedModel" "wrongAt" "I"]
def wsX9_goesOn : List Cond := .code yX9_goesOn cX9_goesOn 1 none :: ((wsX9_goesOn_r1 ++ wsX9_goesOn_r2) ++ wsX90)
def wsX9_wayOf : List Cond := .code yX9_wayOf cX9_wayOf 1 (some .int) :: ([])
def wsX9_least : List Cond := .code yX9_least cX9_least 1 (some .int) :: ([])
def wsX9_most : List Cond := .code yX9_most cX9_most 1 (some .int) :: ([])
def wsX9_readLaw_r1 : List Cond := [Cond.fieldLink RX9 91 "HouseSortedModel" "sort" "I", Cond.fieldLink RX9 102 "HouseSortedModel" "value" "I", Cond.fieldLink RX9 71 "HouseSortedModel" "fault" "I", Cond.fieldLink RX9 16 "HouseSortedModel" "draft" "[I", Cond.methodLink RX9 116 yX9_wants, Cond.instanceMethod yX9_wants, Cond.selects RX9 yX9_wants yX9_wants, Cond.initialized RX9, Cond.code yX9_wants cX9_wants 3 none, Cond.methodLink RX9 105 yX9_fails, Cond.instanceMethod yX9_fails, Cond.selects RX9 yX9_fails yX9_fails, Cond.code yX9_fails cX9_fails 2 none, Cond.fieldLink RX9 74 "HouseSortedModel" "from" "I", Cond.fieldLink RX9 77 "HouseSortedModel" "wrongAt" "I", Cond.methodLink RX9 120 yX9_goesOn, Cond.instanceMethod yX9_goesOn, Cond.selects RX9 yX9_goesOn yX9_goesOn, Cond.code yX9_goesOn cX9_goesOn 1 none, Cond.methodLink RX9 113 yX9_next, Cond.instanceMethod yX9_next, Cond.selects RX9 yX9_next yX9_next, Cond.code yX9_next cX9_next 2 none, Cond.fieldLink RX9 80 "HouseSortedModel" "at" "I"]
def wsX9_readLaw_r2 : List Cond := [Cond.constantLong RX9 94 (97), Cond.constantLong RX9 96 (122), Cond.constantLong RX9 109 (48), Cond.constantLong RX9 111 (57), Cond.methodLink RX9 83 yX9_byteAt, Cond.instanceMethod yX9_byteAt, Cond.selects RX9 yX9_byteAt yX9_byteAt, Cond.code yX9_byteAt cX9_byteAt 2 (some .int), Cond.fieldLink RX9 61 "HouseSortedModel" "taped" "I", Cond.fieldLink RX9 7 "HouseSortedModel" "tape" "[I", Cond.methodLink RX9 67 yX9_in, Cond.static yX9_in, Cond.code yX9_in cX9_in 6 (some .boolean), Cond.methodLink RX9 98 yX9_nameNow, Cond.instanceMethod yX9_nameNow, Cond.selects RX9 yX9_nameNow yX9_nameNow, Cond.code yX9_nameNow cX9_nameNow 1 (some .int), Cond.methodLink RX9 87 yX9_is, Cond.instanceMethod yX9_is, Cond.selects RX9 yX9_is yX9_is, Cond.code yX9_is cX9_is 6 (some .boolean), Cond.methodLink RX9 123 yX9_wayOf, Cond.static yX9_wayOf, Cond.code yX9_wayOf cX9_wayOf 1 (some .int)]
def wsX9_readLaw_r3 : List Cond := [Cond.methodLink RX9 126 yX9_least, Cond.static yX9_least, Cond.code yX9_least cX9_least 1 (some .int), Cond.methodLink RX9 129 yX9_most, Cond.static yX9_most, Cond.code yX9_most cX9_most 1 (some .int)]
def wsX9_readLaw : List Cond := .code yX9_readLaw cX9_readLaw 3 none :: ((wsX9_readLaw_r1 ++ (wsX9_readLaw_r2 ++ wsX9_readLaw_r3)) ++ wsX90)
def wsX9_lawMany : List Cond := .code yX9_lawMany cX9_lawMany 3 (some .int) :: ([.fieldLink RX9 13 "HouseSortedModel" "laws" "[I"] ++ wsX90)
def wsX9_laws_r1 : List Cond := [Cond.fieldLink RX9 71 "HouseSortedModel" "fault" "I", Cond.fieldLink RX9 80 "HouseSortedModel" "at" "I", Cond.fieldLink RX9 16 "HouseSortedModel" "draft" "[I", Cond.fieldLink RX9 91 "HouseSortedModel" "sort" "I", Cond.fieldLink RX9 61 "HouseSortedModel" "taped" "I", Cond.fieldLink RX9 77 "HouseSortedModel" "wrongAt" "I", Cond.fieldLink RX9 13 "HouseSortedModel" "laws" "[I", Cond.methodLink RX9 113 yX9_next, Cond.instanceMethod yX9_next, Cond.selects RX9 yX9_next yX9_next, Cond.initialized RX9, Cond.code yX9_next cX9_next 2 none, Cond.fieldLink RX9 74 "HouseSortedModel" "from" "I", Cond.constantLong RX9 94 (97), Cond.constantLong RX9 96 (122), Cond.fieldLink RX9 102 "HouseSortedModel" "value" "I", Cond.constantLong RX9 109 (48), Cond.constantLong RX9 111 (57), Cond.methodLink RX9 83 yX9_byteAt, Cond.instanceMethod yX9_byteAt, Cond.selects RX9 yX9_byteAt yX9_byteAt, Cond.code yX9_byteAt cX9_byteAt 2 (some .int), Cond.fieldLink RX9 7 "HouseSortedModel" "tape" "[I", Cond.methodLink RX9 67 yX9_in]
def wsX9_laws_r2 : List Cond := [Cond.static yX9_in, Cond.code yX9_in cX9_in 6 (some .boolean), Cond.methodLink RX9 98 yX9_nameNow, Cond.instanceMethod yX9_nameNow, Cond.selects RX9 yX9_nameNow yX9_nameNow, Cond.code yX9_nameNow cX9_nameNow 1 (some .int), Cond.methodLink RX9 87 yX9_is, Cond.instanceMethod yX9_is, Cond.selects RX9 yX9_is yX9_is, Cond.code yX9_is cX9_is 6 (some .boolean), Cond.methodLink RX9 105 yX9_fails, Cond.instanceMethod yX9_fails, Cond.selects RX9 yX9_fails yX9_fails, Cond.code yX9_fails cX9_fails 2 none, Cond.methodLink RX9 132 yX9_readLaw, Cond.instanceMethod yX9_readLaw, Cond.selects RX9 yX9_readLaw yX9_readLaw, Cond.code yX9_readLaw cX9_readLaw 3 none, Cond.methodLink RX9 116 yX9_wants, Cond.instanceMethod yX9_wants, Cond.selects RX9 yX9_wants yX9_wants, Cond.code yX9_wants cX9_wants 3 none, Cond.methodLink RX9 120 yX9_goesOn, Cond.instanceMethod yX9_goesOn]
def wsX9_laws_r3 : List Cond := [Cond.selects RX9 yX9_goesOn yX9_goesOn, Cond.code yX9_goesOn cX9_goesOn 1 none, Cond.methodLink RX9 123 yX9_wayOf, Cond.static yX9_wayOf, Cond.code yX9_wayOf cX9_wayOf 1 (some .int), Cond.methodLink RX9 126 yX9_least, Cond.static yX9_least, Cond.code yX9_least cX9_least 1 (some .int), Cond.methodLink RX9 129 yX9_most, Cond.static yX9_most, Cond.code yX9_most cX9_most 1 (some .int), Cond.methodLink RX9 135 yX9_lawMany, Cond.instanceMethod yX9_lawMany, Cond.selects RX9 yX9_lawMany yX9_lawMany, Cond.code yX9_lawMany cX9_lawMany 3 (some .int)]
def wsX9_laws : List Cond := .code yX9_laws cX9_laws 2 (some .int) :: ((wsX9_laws_r1 ++ (wsX9_laws_r2 ++ wsX9_laws_r3)) ++ wsX90)
def wsX9_fault : List Cond := .code yX9_fault cX9_fault 1 (some .int) :: ([.fieldLink RX9 71 "HouseSortedModel" "fault" "I"] ++ wsX90)
def wsX9_lawOf : List Cond := .code yX9_lawOf cX9_lawOf 2 (some .int) :: ([.fieldLink RX9 13 "HouseSortedModel" "laws" "[I"] ++ wsX90)
def wsX9_law : List Cond := .code yX9_law cX9_law 2 (some .int) :: ([.constantLong RX9 138 (6), .methodLink RX9 67 yX9_in, .static yX9_in, .initialized RX9, .code yX9_in cX9_in 6 (some .boolean), .methodLink RX9 140 yX9_lawOf, .instanceMethod yX9_lawOf, .selects RX9 yX9_lawOf yX9_lawOf, .code yX9_lawOf cX9_lawOf 2 (some .int), .fieldLink RX9 13 "HouseSortedModel" "laws" "[I"] ++ wsX90)
def wsX9_isHeir : List Cond := .code yX9_isHeir cX9_isHeir 2 (some .boolean) :: ([.fieldLink RX9 143 "HouseSortedModel" "heirs" "I", .methodLink RX9 67 yX9_in, .static yX9_in, .initialized RX9, .code yX9_in cX9_in 6 (some .boolean)] ++ wsX90)
def wsX9_isThing : List Cond := .code yX9_isThing cX9_isThing 2 (some .boolean) :: ([.fieldLink RX9 146 "HouseSortedModel" "things" "I", .methodLink RX9 67 yX9_in, .static yX9_in, .initialized RX9, .code yX9_in cX9_in 6 (some .boolean)] ++ wsX90)
def wsX9_heir : List Cond := .code yX9_heir cX9_heir 1 (some .int) :: ([.fieldLink RX9 143 "HouseSortedModel" "heirs" "I"] ++ wsX90)
def wsX9_thing : List Cond := .code yX9_thing cX9_thing 7 (some .int) :: ([.constantLong RX9 149 (50), .constantLong RX9 151 (1000), .constantLong RX9 153 (99), .constantLong RX9 155 (15), .fieldLink RX9 146 "HouseSortedModel" "things" "I", .fieldLink RX9 19 "HouseSortedModel" "weights" "[I", .fieldLink RX9 22 "HouseSortedModel" "lows" "[I", .fieldLink RX9 25 "HouseSortedModel" "highs" "[I", .fieldLink RX9 28 "HouseSortedModel" "ages" "[I", .fieldLink RX9 31 "HouseSortedModel" "marks" "[I", .fieldLink RX9 34 "HouseSortedModel" "worths" "[I", .methodLink RX9 67 yX9_in, .static yX9_in, .initialized RX9, .code yX9_in cX9_in 6 (some .boolean)] ++ wsX90)
def wsX9_worth : List Cond := .code yX9_worth cX9_worth 5 (some .int) :: ([.constantLong RX9 164 (100), .fieldLink RX9 34 "HouseSortedModel" "worths" "[I", .methodLink RX9 157 yX9_isHeir, .instanceMethod yX9_isHeir, .selects RX9 yX9_isHeir yX9_isHeir, .initialized RX9, .code yX9_isHeir cX9_isHeir 2 (some .boolean), .fieldLink RX9 143 "HouseSortedModel" "heirs" "I", .methodLink RX9 67 yX9_in, .static yX9_in, .code yX9_in cX9_in 6 (some .boolean), .methodLink RX9 161 yX9_isThing, .instanceMethod yX9_isThing, .selects RX9 yX9_isThing yX9_isThing, .code yX9_isThing cX9_isThing 2 (some .boolean), .fieldLink RX9 146 "HouseSortedModel" "things" "I"] ++ wsX90)
def wsX9_gone : List Cond := .code yX9_gone cX9_gone 1 (some .int) :: ([.fieldLink RX9 146 "HouseSortedModel" "things" "I"] ++ wsX90)
def wsX9_look : List Cond := .code yX9_look cX9_look 4 (some .int) :: ([.fieldLink RX9 22 "HouseSortedModel" "lows" "[I", .constantLong RX9 151 (1000), .fieldLink RX9 25 "HouseSortedModel" "highs" "[I", .methodLink RX9 161 yX9_isThing, .instanceMethod yX9_isThing, .selects RX9 yX9_isThing yX9_isThing, .initialized RX9, .code yX9_isThing cX9_isThing 2 (some .boolean), .fieldLink RX9 146 "HouseSortedModel" "things" "I", .methodLink RX9 67 yX9_in, .static yX9_in, .code yX9_in cX9_in 6 (some .boolean)] ++ wsX90)
def wsX9_has : List Cond := .code yX9_has cX9_has 3 (some .boolean) :: ([.fieldLink RX9 31 "HouseSortedModel" "marks" "[I"] ++ wsX90)
def wsX9_sent : List Cond := .code yX9_sent cX9_sent 2 (some .int) :: ([.fieldLink RX9 28 "HouseSortedModel" "ages" "[I", .methodLink RX9 166 yX9_has, .instanceMethod yX9_has, .selects RX9 yX9_has yX9_has, .initialized RX9, .code yX9_has cX9_has 3 (some .boolean), .fieldLink RX9 31 "HouseSortedModel" "marks" "[I", .methodLink RX9 140 yX9_lawOf, .instanceMethod yX9_lawOf, .selects RX9 yX9_lawOf yX9_lawOf, .code yX9_lawOf cX9_lawOf 2 (some .int), .fieldLink RX9 13 "HouseSortedModel" "laws" "[I"] ++ wsX90)
def wsX9_wayNow : List Cond := .code yX9_wayNow cX9_wayNow 5 (some .int) :: ([.fieldLink RX9 143 "HouseSortedModel" "heirs" "I", .fieldLink RX9 34 "HouseSortedModel" "worths" "[I", .fieldLink RX9 22 "HouseSortedModel" "lows" "[I", .methodLink RX9 170 yX9_sent, .instanceMethod yX9_sent, .selects RX9 yX9_sent yX9_sent, .initialized RX9, .code yX9_sent cX9_sent 2 (some .int), .fieldLink RX9 28 "HouseSortedModel" "ages" "[I", .methodLink RX9 166 yX9_has, .instanceMethod yX9_has, .selects RX9 yX9_has yX9_has, .code yX9_has cX9_has 3 (some .boolean), .fieldLink RX9 31 "HouseSortedModel" "marks" "[I", .methodLink RX9 140 yX9_lawOf, .instanceMethod yX9_lawOf, .selects RX9 yX9_lawOf yX9_lawOf, .code yX9_lawOf cX9_lawOf 2 (some .int), .fieldLink RX9 13 "HouseSortedModel" "laws" "[I"] ++ wsX90)
def wsX9_told_r1 : List Cond := [Cond.constantLong RX9 173 (5), Cond.fieldLink RX9 19 "HouseSortedModel" "weights" "[I", Cond.fieldLink RX9 22 "HouseSortedModel" "lows" "[I", Cond.fieldLink RX9 25 "HouseSortedModel" "highs" "[I", Cond.fieldLink RX9 28 "HouseSortedModel" "ages" "[I", Cond.fieldLink RX9 31 "HouseSortedModel" "marks" "[I", Cond.methodLink RX9 161 yX9_isThing, Cond.instanceMethod yX9_isThing, Cond.selects RX9 yX9_isThing yX9_isThing, Cond.initialized RX9, Cond.code yX9_isThing cX9_isThing 2 (some .boolean), Cond.fieldLink RX9 146 "HouseSortedModel" "things" "I", Cond.methodLink RX9 67 yX9_in, Cond.static yX9_in, Cond.code yX9_in cX9_in 6 (some .boolean), Cond.methodLink RX9 175 yX9_wayNow, Cond.instanceMethod yX9_wayNow, Cond.selects RX9 yX9_wayNow yX9_wayNow, Cond.code yX9_wayNow cX9_wayNow 5 (some .int), Cond.fieldLink RX9 143 "HouseSortedModel" "heirs" "I", Cond.fieldLink RX9 34 "HouseSortedModel" "worths" "[I", Cond.methodLink RX9 170 yX9_sent, Cond.instanceMethod yX9_sent, Cond.selects RX9 yX9_sent yX9_sent]
def wsX9_told_r2 : List Cond := [Cond.code yX9_sent cX9_sent 2 (some .int), Cond.methodLink RX9 166 yX9_has, Cond.instanceMethod yX9_has, Cond.selects RX9 yX9_has yX9_has, Cond.code yX9_has cX9_has 3 (some .boolean), Cond.methodLink RX9 140 yX9_lawOf, Cond.instanceMethod yX9_lawOf, Cond.selects RX9 yX9_lawOf yX9_lawOf, Cond.code yX9_lawOf cX9_lawOf 2 (some .int), Cond.fieldLink RX9 13 "HouseSortedModel" "laws" "[I"]
def wsX9_told : List Cond := .code yX9_told cX9_told 3 (some .int) :: ((wsX9_told_r1 ++ wsX9_told_r2) ++ wsX90)
def wsX9_way_r1 : List Cond := [Cond.constantLong RX9 178 (4), Cond.constantLong RX9 180 (3), Cond.fieldLink RX9 146 "HouseSortedModel" "things" "I", Cond.fieldLink RX9 19 "HouseSortedModel" "weights" "[I", Cond.fieldLink RX9 22 "HouseSortedModel" "lows" "[I", Cond.fieldLink RX9 25 "HouseSortedModel" "highs" "[I", Cond.methodLink RX9 67 yX9_in, Cond.static yX9_in, Cond.initialized RX9, Cond.code yX9_in cX9_in 6 (some .boolean), Cond.methodLink RX9 175 yX9_wayNow, Cond.instanceMethod yX9_wayNow, Cond.selects RX9 yX9_wayNow yX9_wayNow, Cond.code yX9_wayNow cX9_wayNow 5 (some .int), Cond.fieldLink RX9 143 "HouseSortedModel" "heirs" "I", Cond.fieldLink RX9 34 "HouseSortedModel" "worths" "[I", Cond.methodLink RX9 170 yX9_sent, Cond.instanceMethod yX9_sent, Cond.selects RX9 yX9_sent yX9_sent, Cond.code yX9_sent cX9_sent 2 (some .int), Cond.fieldLink RX9 28 "HouseSortedModel" "ages" "[I", Cond.methodLink RX9 166 yX9_has, Cond.instanceMethod yX9_has, Cond.selects RX9 yX9_has yX9_has]
def wsX9_way_r2 : List Cond := [Cond.code yX9_has cX9_has 3 (some .boolean), Cond.fieldLink RX9 31 "HouseSortedModel" "marks" "[I", Cond.methodLink RX9 140 yX9_lawOf, Cond.instanceMethod yX9_lawOf, Cond.selects RX9 yX9_lawOf yX9_lawOf, Cond.code yX9_lawOf cX9_lawOf 2 (some .int), Cond.fieldLink RX9 13 "HouseSortedModel" "laws" "[I"]
def wsX9_way : List Cond := .code yX9_way cX9_way 5 (some .int) :: ((wsX9_way_r1 ++ wsX9_way_r2) ++ wsX90)
def wsX9_asks_r1 : List Cond := [Cond.fieldLink RX9 25 "HouseSortedModel" "highs" "[I", Cond.fieldLink RX9 22 "HouseSortedModel" "lows" "[I", Cond.methodLink RX9 161 yX9_isThing, Cond.instanceMethod yX9_isThing, Cond.selects RX9 yX9_isThing yX9_isThing, Cond.initialized RX9, Cond.code yX9_isThing cX9_isThing 2 (some .boolean), Cond.fieldLink RX9 146 "HouseSortedModel" "things" "I", Cond.methodLink RX9 67 yX9_in, Cond.static yX9_in, Cond.code yX9_in cX9_in 6 (some .boolean), Cond.methodLink RX9 140 yX9_lawOf, Cond.instanceMethod yX9_lawOf, Cond.selects RX9 yX9_lawOf yX9_lawOf, Cond.code yX9_lawOf cX9_lawOf 2 (some .int), Cond.fieldLink RX9 13 "HouseSortedModel" "laws" "[I", Cond.methodLink RX9 170 yX9_sent, Cond.instanceMethod yX9_sent, Cond.selects RX9 yX9_sent yX9_sent, Cond.code yX9_sent cX9_sent 2 (some .int), Cond.fieldLink RX9 28 "HouseSortedModel" "ages" "[I", Cond.methodLink RX9 166 yX9_has, Cond.instanceMethod yX9_has, Cond.selects RX9 yX9_has yX9_has]
def wsX9_asks_r2 : List Cond := [Cond.code yX9_has cX9_has 3 (some .boolean), Cond.fieldLink RX9 31 "HouseSortedModel" "marks" "[I"]
def wsX9_asks : List Cond := .code yX9_asks cX9_asks 4 (some .int) :: ((wsX9_asks_r1 ++ wsX9_asks_r2) ++ wsX90)
def wsX9_findShared_r1 : List Cond := [Cond.fieldLink RX9 182 "HouseSortedModel" "shared" "I", Cond.fieldLink RX9 146 "HouseSortedModel" "things" "I", Cond.fieldLink RX9 37 "HouseSortedModel" "which" "[I", Cond.methodLink RX9 175 yX9_wayNow, Cond.instanceMethod yX9_wayNow, Cond.selects RX9 yX9_wayNow yX9_wayNow, Cond.initialized RX9, Cond.code yX9_wayNow cX9_wayNow 5 (some .int), Cond.fieldLink RX9 143 "HouseSortedModel" "heirs" "I", Cond.fieldLink RX9 34 "HouseSortedModel" "worths" "[I", Cond.fieldLink RX9 22 "HouseSortedModel" "lows" "[I", Cond.methodLink RX9 170 yX9_sent, Cond.instanceMethod yX9_sent, Cond.selects RX9 yX9_sent yX9_sent, Cond.code yX9_sent cX9_sent 2 (some .int), Cond.fieldLink RX9 28 "HouseSortedModel" "ages" "[I", Cond.methodLink RX9 166 yX9_has, Cond.instanceMethod yX9_has, Cond.selects RX9 yX9_has yX9_has, Cond.code yX9_has cX9_has 3 (some .boolean), Cond.fieldLink RX9 31 "HouseSortedModel" "marks" "[I", Cond.methodLink RX9 140 yX9_lawOf, Cond.instanceMethod yX9_lawOf, Cond.selects RX9 yX9_lawOf yX9_lawOf]
def wsX9_findShared_r2 : List Cond := [Cond.code yX9_lawOf cX9_lawOf 2 (some .int), Cond.fieldLink RX9 13 "HouseSortedModel" "laws" "[I"]
def wsX9_findShared : List Cond := .code yX9_findShared cX9_findShared 2 none :: ((wsX9_findShared_r1 ++ wsX9_findShared_r2) ++ wsX90)
def wsX9_sharings : List Cond := .code yX9_sharings cX9_sharings 3 (some .int) :: ([.fieldLink RX9 182 "HouseSortedModel" "shared" "I", .fieldLink RX9 143 "HouseSortedModel" "heirs" "I"] ++ wsX90)
def wsX9_parts : List Cond := .code yX9_parts cX9_parts 4 none :: ([.fieldLink RX9 182 "HouseSortedModel" "shared" "I", .fieldLink RX9 40 "HouseSortedModel" "gets" "[I", .fieldLink RX9 143 "HouseSortedModel" "heirs" "I"] ++ wsX90)
def wsX9_number : List Cond := .code yX9_number cX9_number 3 (some .int) :: ([.fieldLink RX9 182 "HouseSortedModel" "shared" "I", .fieldLink RX9 143 "HouseSortedModel" "heirs" "I", .fieldLink RX9 40 "HouseSortedModel" "gets" "[I"] ++ wsX90)
def wsX9_worthNow : List Cond := .code yX9_worthNow cX9_worthNow 6 (some .int) :: ([.fieldLink RX9 37 "HouseSortedModel" "which" "[I", .fieldLink RX9 34 "HouseSortedModel" "worths" "[I"] ++ wsX90)
def wsX9_takes : List Cond := .code yX9_takes cX9_takes 10 none :: ([.fieldLink RX9 182 "HouseSortedModel" "shared" "I", .fieldLink RX9 40 "HouseSortedModel" "gets" "[I", .fieldLink RX9 143 "HouseSortedModel" "heirs" "I", .methodLink RX9 185 yX9_worthNow, .instanceMethod yX9_worthNow, .selects RX9 yX9_worthNow yX9_worthNow, .initialized RX9, .code yX9_worthNow cX9_worthNow 6 (some .int), .fieldLink RX9 37 "HouseSortedModel" "which" "[I", .fieldLink RX9 34 "HouseSortedModel" "worths" "[I"] ++ wsX90)
def wsX9_turns_r1 : List Cond := [Cond.fieldLink RX9 143 "HouseSortedModel" "heirs" "I", Cond.methodLink RX9 67 yX9_in, Cond.static yX9_in, Cond.initialized RX9, Cond.code yX9_in cX9_in 6 (some .boolean), Cond.methodLink RX9 189 yX9_findShared, Cond.instanceMethod yX9_findShared, Cond.selects RX9 yX9_findShared yX9_findShared, Cond.code yX9_findShared cX9_findShared 2 none, Cond.fieldLink RX9 182 "HouseSortedModel" "shared" "I", Cond.fieldLink RX9 146 "HouseSortedModel" "things" "I", Cond.fieldLink RX9 37 "HouseSortedModel" "which" "[I", Cond.methodLink RX9 175 yX9_wayNow, Cond.instanceMethod yX9_wayNow, Cond.selects RX9 yX9_wayNow yX9_wayNow, Cond.code yX9_wayNow cX9_wayNow 5 (some .int), Cond.fieldLink RX9 34 "HouseSortedModel" "worths" "[I", Cond.fieldLink RX9 22 "HouseSortedModel" "lows" "[I", Cond.methodLink RX9 170 yX9_sent, Cond.instanceMethod yX9_sent, Cond.selects RX9 yX9_sent yX9_sent, Cond.code yX9_sent cX9_sent 2 (some .int), Cond.fieldLink RX9 28 "HouseSortedModel" "ages" "[I", Cond.methodLink RX9 166 yX9_has]
def wsX9_turns_r2 : List Cond := [Cond.instanceMethod yX9_has, Cond.selects RX9 yX9_has yX9_has, Cond.code yX9_has cX9_has 3 (some .boolean), Cond.fieldLink RX9 31 "HouseSortedModel" "marks" "[I", Cond.methodLink RX9 140 yX9_lawOf, Cond.instanceMethod yX9_lawOf, Cond.selects RX9 yX9_lawOf yX9_lawOf, Cond.code yX9_lawOf cX9_lawOf 2 (some .int), Cond.fieldLink RX9 13 "HouseSortedModel" "laws" "[I", Cond.methodLink RX9 192 yX9_takes, Cond.instanceMethod yX9_takes, Cond.selects RX9 yX9_takes yX9_takes, Cond.code yX9_takes cX9_takes 10 none, Cond.fieldLink RX9 40 "HouseSortedModel" "gets" "[I", Cond.methodLink RX9 185 yX9_worthNow, Cond.instanceMethod yX9_worthNow, Cond.selects RX9 yX9_worthNow yX9_worthNow, Cond.code yX9_worthNow cX9_worthNow 6 (some .int), Cond.methodLink RX9 196 yX9_number, Cond.instanceMethod yX9_number, Cond.selects RX9 yX9_number yX9_number, Cond.code yX9_number cX9_number 3 (some .int)]
def wsX9_turns : List Cond := .code yX9_turns cX9_turns 2 (some .int) :: ((wsX9_turns_r1 ++ wsX9_turns_r2) ++ wsX90)
def wsX9_lie_r1 : List Cond := [Cond.constantLong RX9 164 (100), Cond.methodLink RX9 67 yX9_in, Cond.static yX9_in, Cond.initialized RX9, Cond.code yX9_in cX9_in 6 (some .boolean), Cond.methodLink RX9 157 yX9_isHeir, Cond.instanceMethod yX9_isHeir, Cond.selects RX9 yX9_isHeir yX9_isHeir, Cond.code yX9_isHeir cX9_isHeir 2 (some .boolean), Cond.fieldLink RX9 143 "HouseSortedModel" "heirs" "I", Cond.methodLink RX9 161 yX9_isThing, Cond.instanceMethod yX9_isThing, Cond.selects RX9 yX9_isThing yX9_isThing, Cond.code yX9_isThing cX9_isThing 2 (some .boolean), Cond.fieldLink RX9 146 "HouseSortedModel" "things" "I", Cond.methodLink RX9 189 yX9_findShared, Cond.instanceMethod yX9_findShared, Cond.selects RX9 yX9_findShared yX9_findShared, Cond.code yX9_findShared cX9_findShared 2 none, Cond.fieldLink RX9 182 "HouseSortedModel" "shared" "I", Cond.fieldLink RX9 37 "HouseSortedModel" "which" "[I", Cond.methodLink RX9 175 yX9_wayNow, Cond.instanceMethod yX9_wayNow, Cond.selects RX9 yX9_wayNow yX9_wayNow]
def wsX9_lie_r2 : List Cond := [Cond.code yX9_wayNow cX9_wayNow 5 (some .int), Cond.fieldLink RX9 34 "HouseSortedModel" "worths" "[I", Cond.fieldLink RX9 22 "HouseSortedModel" "lows" "[I", Cond.methodLink RX9 170 yX9_sent, Cond.instanceMethod yX9_sent, Cond.selects RX9 yX9_sent yX9_sent, Cond.code yX9_sent cX9_sent 2 (some .int), Cond.fieldLink RX9 28 "HouseSortedModel" "ages" "[I", Cond.methodLink RX9 166 yX9_has, Cond.instanceMethod yX9_has, Cond.selects RX9 yX9_has yX9_has, Cond.code yX9_has cX9_has 3 (some .boolean), Cond.fieldLink RX9 31 "HouseSortedModel" "marks" "[I", Cond.methodLink RX9 140 yX9_lawOf, Cond.instanceMethod yX9_lawOf, Cond.selects RX9 yX9_lawOf yX9_lawOf, Cond.code yX9_lawOf cX9_lawOf 2 (some .int), Cond.fieldLink RX9 13 "HouseSortedModel" "laws" "[I", Cond.methodLink RX9 192 yX9_takes, Cond.instanceMethod yX9_takes, Cond.selects RX9 yX9_takes yX9_takes, Cond.code yX9_takes cX9_takes 10 none, Cond.fieldLink RX9 40 "HouseSortedModel" "gets" "[I", Cond.methodLink RX9 185 yX9_worthNow]
def wsX9_lie_r3 : List Cond := [Cond.instanceMethod yX9_worthNow, Cond.selects RX9 yX9_worthNow yX9_worthNow, Cond.code yX9_worthNow cX9_worthNow 6 (some .int), Cond.methodLink RX9 196 yX9_number, Cond.instanceMethod yX9_number, Cond.selects RX9 yX9_number yX9_number, Cond.code yX9_number cX9_number 3 (some .int)]
def wsX9_lie : List Cond := .code yX9_lie cX9_lie 5 (some .int) :: ((wsX9_lie_r1 ++ (wsX9_lie_r2 ++ wsX9_lie_r3)) ++ wsX90)
def wsX9_sumOf : List Cond := .code yX9_sumOf cX9_sumOf 5 (some .int) :: ([.fieldLink RX9 182 "HouseSortedModel" "shared" "I", .fieldLink RX9 40 "HouseSortedModel" "gets" "[I", .fieldLink RX9 34 "HouseSortedModel" "worths" "[I", .fieldLink RX9 37 "HouseSortedModel" "which" "[I"] ++ wsX90)
def wsX9_gain_r1 : List Cond := [Cond.fieldLink RX9 182 "HouseSortedModel" "shared" "I", Cond.fieldLink RX9 37 "HouseSortedModel" "which" "[I", Cond.methodLink RX9 67 yX9_in, Cond.static yX9_in, Cond.initialized RX9, Cond.code yX9_in cX9_in 6 (some .boolean), Cond.methodLink RX9 157 yX9_isHeir, Cond.instanceMethod yX9_isHeir, Cond.selects RX9 yX9_isHeir yX9_isHeir, Cond.code yX9_isHeir cX9_isHeir 2 (some .boolean), Cond.fieldLink RX9 143 "HouseSortedModel" "heirs" "I", Cond.methodLink RX9 189 yX9_findShared, Cond.instanceMethod yX9_findShared, Cond.selects RX9 yX9_findShared yX9_findShared, Cond.code yX9_findShared cX9_findShared 2 none, Cond.fieldLink RX9 146 "HouseSortedModel" "things" "I", Cond.methodLink RX9 175 yX9_wayNow, Cond.instanceMethod yX9_wayNow, Cond.selects RX9 yX9_wayNow yX9_wayNow, Cond.code yX9_wayNow cX9_wayNow 5 (some .int), Cond.fieldLink RX9 34 "HouseSortedModel" "worths" "[I", Cond.fieldLink RX9 22 "HouseSortedModel" "lows" "[I", Cond.methodLink RX9 170 yX9_sent, Cond.instanceMethod yX9_sent]
def wsX9_gain_r2 : List Cond := [Cond.selects RX9 yX9_sent yX9_sent, Cond.code yX9_sent cX9_sent 2 (some .int), Cond.fieldLink RX9 28 "HouseSortedModel" "ages" "[I", Cond.methodLink RX9 166 yX9_has, Cond.instanceMethod yX9_has, Cond.selects RX9 yX9_has yX9_has, Cond.code yX9_has cX9_has 3 (some .boolean), Cond.fieldLink RX9 31 "HouseSortedModel" "marks" "[I", Cond.methodLink RX9 140 yX9_lawOf, Cond.instanceMethod yX9_lawOf, Cond.selects RX9 yX9_lawOf yX9_lawOf, Cond.code yX9_lawOf cX9_lawOf 2 (some .int), Cond.fieldLink RX9 13 "HouseSortedModel" "laws" "[I", Cond.methodLink RX9 192 yX9_takes, Cond.instanceMethod yX9_takes, Cond.selects RX9 yX9_takes yX9_takes, Cond.code yX9_takes cX9_takes 10 none, Cond.fieldLink RX9 40 "HouseSortedModel" "gets" "[I", Cond.methodLink RX9 185 yX9_worthNow, Cond.instanceMethod yX9_worthNow, Cond.selects RX9 yX9_worthNow yX9_worthNow, Cond.code yX9_worthNow cX9_worthNow 6 (some .int), Cond.methodLink RX9 199 yX9_sumOf, Cond.instanceMethod yX9_sumOf]
def wsX9_gain_r3 : List Cond := [Cond.selects RX9 yX9_sumOf yX9_sumOf, Cond.code yX9_sumOf cX9_sumOf 5 (some .int)]
def wsX9_gain : List Cond := .code yX9_gain cX9_gain 8 (some .int) :: ((wsX9_gain_r1 ++ (wsX9_gain_r2 ++ wsX9_gain_r3)) ++ wsX90)
def wsX9_isSharing_r1 : List Cond := [Cond.fieldLink RX9 143 "HouseSortedModel" "heirs" "I", Cond.methodLink RX9 189 yX9_findShared, Cond.instanceMethod yX9_findShared, Cond.selects RX9 yX9_findShared yX9_findShared, Cond.initialized RX9, Cond.code yX9_findShared cX9_findShared 2 none, Cond.fieldLink RX9 182 "HouseSortedModel" "shared" "I", Cond.fieldLink RX9 146 "HouseSortedModel" "things" "I", Cond.fieldLink RX9 37 "HouseSortedModel" "which" "[I", Cond.methodLink RX9 175 yX9_wayNow, Cond.instanceMethod yX9_wayNow, Cond.selects RX9 yX9_wayNow yX9_wayNow, Cond.code yX9_wayNow cX9_wayNow 5 (some .int), Cond.fieldLink RX9 34 "HouseSortedModel" "worths" "[I", Cond.fieldLink RX9 22 "HouseSortedModel" "lows" "[I", Cond.methodLink RX9 170 yX9_sent, Cond.instanceMethod yX9_sent, Cond.selects RX9 yX9_sent yX9_sent, Cond.code yX9_sent cX9_sent 2 (some .int), Cond.fieldLink RX9 28 "HouseSortedModel" "ages" "[I", Cond.methodLink RX9 166 yX9_has, Cond.instanceMethod yX9_has, Cond.selects RX9 yX9_has yX9_has, Cond.code yX9_has cX9_has 3 (some .boolean)]
def wsX9_isSharing_r2 : List Cond := [Cond.fieldLink RX9 31 "HouseSortedModel" "marks" "[I", Cond.methodLink RX9 140 yX9_lawOf, Cond.instanceMethod yX9_lawOf, Cond.selects RX9 yX9_lawOf yX9_lawOf, Cond.code yX9_lawOf cX9_lawOf 2 (some .int), Cond.fieldLink RX9 13 "HouseSortedModel" "laws" "[I", Cond.methodLink RX9 203 yX9_sharings, Cond.instanceMethod yX9_sharings, Cond.selects RX9 yX9_sharings yX9_sharings, Cond.code yX9_sharings cX9_sharings 3 (some .int), Cond.methodLink RX9 67 yX9_in, Cond.static yX9_in, Cond.code yX9_in cX9_in 6 (some .boolean), Cond.methodLink RX9 206 yX9_parts, Cond.instanceMethod yX9_parts, Cond.selects RX9 yX9_parts yX9_parts, Cond.code yX9_parts cX9_parts 4 none, Cond.fieldLink RX9 40 "HouseSortedModel" "gets" "[I"]
def wsX9_isSharing : List Cond := .code yX9_isSharing cX9_isSharing 2 (some .boolean) :: ((wsX9_isSharing_r1 ++ wsX9_isSharing_r2) ++ wsX90)
def wsX9_sum_r1 : List Cond := [Cond.methodLink RX9 157 yX9_isHeir, Cond.instanceMethod yX9_isHeir, Cond.selects RX9 yX9_isHeir yX9_isHeir, Cond.initialized RX9, Cond.code yX9_isHeir cX9_isHeir 2 (some .boolean), Cond.fieldLink RX9 143 "HouseSortedModel" "heirs" "I", Cond.methodLink RX9 67 yX9_in, Cond.static yX9_in, Cond.code yX9_in cX9_in 6 (some .boolean), Cond.methodLink RX9 209 yX9_isSharing, Cond.instanceMethod yX9_isSharing, Cond.selects RX9 yX9_isSharing yX9_isSharing, Cond.code yX9_isSharing cX9_isSharing 2 (some .boolean), Cond.methodLink RX9 189 yX9_findShared, Cond.instanceMethod yX9_findShared, Cond.selects RX9 yX9_findShared yX9_findShared, Cond.code yX9_findShared cX9_findShared 2 none, Cond.fieldLink RX9 182 "HouseSortedModel" "shared" "I", Cond.fieldLink RX9 146 "HouseSortedModel" "things" "I", Cond.fieldLink RX9 37 "HouseSortedModel" "which" "[I", Cond.methodLink RX9 175 yX9_wayNow, Cond.instanceMethod yX9_wayNow, Cond.selects RX9 yX9_wayNow yX9_wayNow, Cond.code yX9_wayNow cX9_wayNow 5 (some .int)]
def wsX9_sum_r2 : List Cond := [Cond.fieldLink RX9 34 "HouseSortedModel" "worths" "[I", Cond.fieldLink RX9 22 "HouseSortedModel" "lows" "[I", Cond.methodLink RX9 170 yX9_sent, Cond.instanceMethod yX9_sent, Cond.selects RX9 yX9_sent yX9_sent, Cond.code yX9_sent cX9_sent 2 (some .int), Cond.fieldLink RX9 28 "HouseSortedModel" "ages" "[I", Cond.methodLink RX9 166 yX9_has, Cond.instanceMethod yX9_has, Cond.selects RX9 yX9_has yX9_has, Cond.code yX9_has cX9_has 3 (some .boolean), Cond.fieldLink RX9 31 "HouseSortedModel" "marks" "[I", Cond.methodLink RX9 140 yX9_lawOf, Cond.instanceMethod yX9_lawOf, Cond.selects RX9 yX9_lawOf yX9_lawOf, Cond.code yX9_lawOf cX9_lawOf 2 (some .int), Cond.fieldLink RX9 13 "HouseSortedModel" "laws" "[I", Cond.methodLink RX9 203 yX9_sharings, Cond.instanceMethod yX9_sharings, Cond.selects RX9 yX9_sharings yX9_sharings, Cond.code yX9_sharings cX9_sharings 3 (some .int), Cond.methodLink RX9 206 yX9_parts, Cond.instanceMethod yX9_parts, Cond.selects RX9 yX9_parts yX9_parts]
def wsX9_sum_r3 : List Cond := [Cond.code yX9_parts cX9_parts 4 none, Cond.fieldLink RX9 40 "HouseSortedModel" "gets" "[I", Cond.methodLink RX9 199 yX9_sumOf, Cond.instanceMethod yX9_sumOf, Cond.selects RX9 yX9_sumOf yX9_sumOf, Cond.code yX9_sumOf cX9_sumOf 5 (some .int)]
def wsX9_sum : List Cond := .code yX9_sum cX9_sum 4 (some .int) :: ((wsX9_sum_r1 ++ (wsX9_sum_r2 ++ wsX9_sum_r3)) ++ wsX90)
def wsX9_envyOf : List Cond := .code yX9_envyOf cX9_envyOf 8 (some .int) :: ([.fieldLink RX9 182 "HouseSortedModel" "shared" "I", .fieldLink RX9 34 "HouseSortedModel" "worths" "[I", .fieldLink RX9 37 "HouseSortedModel" "which" "[I", .fieldLink RX9 40 "HouseSortedModel" "gets" "[I", .methodLink RX9 199 yX9_sumOf, .instanceMethod yX9_sumOf, .selects RX9 yX9_sumOf yX9_sumOf, .initialized RX9, .code yX9_sumOf cX9_sumOf 5 (some .int)] ++ wsX90)
def wsX9_envies_r1 : List Cond := [Cond.methodLink RX9 157 yX9_isHeir, Cond.instanceMethod yX9_isHeir, Cond.selects RX9 yX9_isHeir yX9_isHeir, Cond.initialized RX9, Cond.code yX9_isHeir cX9_isHeir 2 (some .boolean), Cond.fieldLink RX9 143 "HouseSortedModel" "heirs" "I", Cond.methodLink RX9 67 yX9_in, Cond.static yX9_in, Cond.code yX9_in cX9_in 6 (some .boolean), Cond.methodLink RX9 209 yX9_isSharing, Cond.instanceMethod yX9_isSharing, Cond.selects RX9 yX9_isSharing yX9_isSharing, Cond.code yX9_isSharing cX9_isSharing 2 (some .boolean), Cond.methodLink RX9 189 yX9_findShared, Cond.instanceMethod yX9_findShared, Cond.selects RX9 yX9_findShared yX9_findShared, Cond.code yX9_findShared cX9_findShared 2 none, Cond.fieldLink RX9 182 "HouseSortedModel" "shared" "I", Cond.fieldLink RX9 146 "HouseSortedModel" "things" "I", Cond.fieldLink RX9 37 "HouseSortedModel" "which" "[I", Cond.methodLink RX9 175 yX9_wayNow, Cond.instanceMethod yX9_wayNow, Cond.selects RX9 yX9_wayNow yX9_wayNow, Cond.code yX9_wayNow cX9_wayNow 5 (some .int)]
def wsX9_envies_r2 : List Cond := [Cond.fieldLink RX9 34 "HouseSortedModel" "worths" "[I", Cond.fieldLink RX9 22 "HouseSortedModel" "lows" "[I", Cond.methodLink RX9 170 yX9_sent, Cond.instanceMethod yX9_sent, Cond.selects RX9 yX9_sent yX9_sent, Cond.code yX9_sent cX9_sent 2 (some .int), Cond.fieldLink RX9 28 "HouseSortedModel" "ages" "[I", Cond.methodLink RX9 166 yX9_has, Cond.instanceMethod yX9_has, Cond.selects RX9 yX9_has yX9_has, Cond.code yX9_has cX9_has 3 (some .boolean), Cond.fieldLink RX9 31 "HouseSortedModel" "marks" "[I", Cond.methodLink RX9 140 yX9_lawOf, Cond.instanceMethod yX9_lawOf, Cond.selects RX9 yX9_lawOf yX9_lawOf, Cond.code yX9_lawOf cX9_lawOf 2 (some .int), Cond.fieldLink RX9 13 "HouseSortedModel" "laws" "[I", Cond.methodLink RX9 203 yX9_sharings, Cond.instanceMethod yX9_sharings, Cond.selects RX9 yX9_sharings yX9_sharings, Cond.code yX9_sharings cX9_sharings 3 (some .int), Cond.methodLink RX9 206 yX9_parts, Cond.instanceMethod yX9_parts, Cond.selects RX9 yX9_parts yX9_parts]
def wsX9_envies_r3 : List Cond := [Cond.code yX9_parts cX9_parts 4 none, Cond.fieldLink RX9 40 "HouseSortedModel" "gets" "[I", Cond.methodLink RX9 212 yX9_envyOf, Cond.instanceMethod yX9_envyOf, Cond.selects RX9 yX9_envyOf yX9_envyOf, Cond.code yX9_envyOf cX9_envyOf 8 (some .int), Cond.methodLink RX9 199 yX9_sumOf, Cond.instanceMethod yX9_sumOf, Cond.selects RX9 yX9_sumOf yX9_sumOf, Cond.code yX9_sumOf cX9_sumOf 5 (some .int)]
def wsX9_envies : List Cond := .code yX9_envies cX9_envies 4 (some .int) :: ((wsX9_envies_r1 ++ (wsX9_envies_r2 ++ wsX9_envies_r3)) ++ wsX90)
def wsX9_envy_r1 : List Cond := [Cond.fieldLink RX9 143 "HouseSortedModel" "heirs" "I", Cond.methodLink RX9 209 yX9_isSharing, Cond.instanceMethod yX9_isSharing, Cond.selects RX9 yX9_isSharing yX9_isSharing, Cond.initialized RX9, Cond.code yX9_isSharing cX9_isSharing 2 (some .boolean), Cond.methodLink RX9 189 yX9_findShared, Cond.instanceMethod yX9_findShared, Cond.selects RX9 yX9_findShared yX9_findShared, Cond.code yX9_findShared cX9_findShared 2 none, Cond.fieldLink RX9 182 "HouseSortedModel" "shared" "I", Cond.fieldLink RX9 146 "HouseSortedModel" "things" "I", Cond.fieldLink RX9 37 "HouseSortedModel" "which" "[I", Cond.methodLink RX9 175 yX9_wayNow, Cond.instanceMethod yX9_wayNow, Cond.selects RX9 yX9_wayNow yX9_wayNow, Cond.code yX9_wayNow cX9_wayNow 5 (some .int), Cond.fieldLink RX9 34 "HouseSortedModel" "worths" "[I", Cond.fieldLink RX9 22 "HouseSortedModel" "lows" "[I", Cond.methodLink RX9 170 yX9_sent, Cond.instanceMethod yX9_sent, Cond.selects RX9 yX9_sent yX9_sent, Cond.code yX9_sent cX9_sent 2 (some .int), Cond.fieldLink RX9 28 "HouseSortedModel" "ages" "[I"]
def wsX9_envy_r2 : List Cond := [Cond.methodLink RX9 166 yX9_has, Cond.instanceMethod yX9_has, Cond.selects RX9 yX9_has yX9_has, Cond.code yX9_has cX9_has 3 (some .boolean), Cond.fieldLink RX9 31 "HouseSortedModel" "marks" "[I", Cond.methodLink RX9 140 yX9_lawOf, Cond.instanceMethod yX9_lawOf, Cond.selects RX9 yX9_lawOf yX9_lawOf, Cond.code yX9_lawOf cX9_lawOf 2 (some .int), Cond.fieldLink RX9 13 "HouseSortedModel" "laws" "[I", Cond.methodLink RX9 203 yX9_sharings, Cond.instanceMethod yX9_sharings, Cond.selects RX9 yX9_sharings yX9_sharings, Cond.code yX9_sharings cX9_sharings 3 (some .int), Cond.methodLink RX9 67 yX9_in, Cond.static yX9_in, Cond.code yX9_in cX9_in 6 (some .boolean), Cond.methodLink RX9 206 yX9_parts, Cond.instanceMethod yX9_parts, Cond.selects RX9 yX9_parts yX9_parts, Cond.code yX9_parts cX9_parts 4 none, Cond.fieldLink RX9 40 "HouseSortedModel" "gets" "[I", Cond.methodLink RX9 212 yX9_envyOf, Cond.instanceMethod yX9_envyOf]
def wsX9_envy_r3 : List Cond := [Cond.selects RX9 yX9_envyOf yX9_envyOf, Cond.code yX9_envyOf cX9_envyOf 8 (some .int), Cond.methodLink RX9 199 yX9_sumOf, Cond.instanceMethod yX9_sumOf, Cond.selects RX9 yX9_sumOf yX9_sumOf, Cond.code yX9_sumOf cX9_sumOf 5 (some .int)]
def wsX9_envy : List Cond := .code yX9_envy cX9_envy 5 (some .int) :: ((wsX9_envy_r1 ++ (wsX9_envy_r2 ++ wsX9_envy_r3)) ++ wsX90)
def wsX9_fairest_r1 : List Cond := [Cond.fieldLink RX9 143 "HouseSortedModel" "heirs" "I", Cond.fieldLink RX9 182 "HouseSortedModel" "shared" "I", Cond.methodLink RX9 189 yX9_findShared, Cond.instanceMethod yX9_findShared, Cond.selects RX9 yX9_findShared yX9_findShared, Cond.initialized RX9, Cond.code yX9_findShared cX9_findShared 2 none, Cond.fieldLink RX9 146 "HouseSortedModel" "things" "I", Cond.fieldLink RX9 37 "HouseSortedModel" "which" "[I", Cond.methodLink RX9 175 yX9_wayNow, Cond.instanceMethod yX9_wayNow, Cond.selects RX9 yX9_wayNow yX9_wayNow, Cond.code yX9_wayNow cX9_wayNow 5 (some .int), Cond.fieldLink RX9 34 "HouseSortedModel" "worths" "[I", Cond.fieldLink RX9 22 "HouseSortedModel" "lows" "[I", Cond.methodLink RX9 170 yX9_sent, Cond.instanceMethod yX9_sent, Cond.selects RX9 yX9_sent yX9_sent, Cond.code yX9_sent cX9_sent 2 (some .int), Cond.fieldLink RX9 28 "HouseSortedModel" "ages" "[I", Cond.methodLink RX9 166 yX9_has, Cond.instanceMethod yX9_has, Cond.selects RX9 yX9_has yX9_has, Cond.code yX9_has cX9_has 3 (some .boolean)]
def wsX9_fairest_r2 : List Cond := [Cond.fieldLink RX9 31 "HouseSortedModel" "marks" "[I", Cond.methodLink RX9 140 yX9_lawOf, Cond.instanceMethod yX9_lawOf, Cond.selects RX9 yX9_lawOf yX9_lawOf, Cond.code yX9_lawOf cX9_lawOf 2 (some .int), Cond.fieldLink RX9 13 "HouseSortedModel" "laws" "[I", Cond.methodLink RX9 203 yX9_sharings, Cond.instanceMethod yX9_sharings, Cond.selects RX9 yX9_sharings yX9_sharings, Cond.code yX9_sharings cX9_sharings 3 (some .int), Cond.methodLink RX9 206 yX9_parts, Cond.instanceMethod yX9_parts, Cond.selects RX9 yX9_parts yX9_parts, Cond.code yX9_parts cX9_parts 4 none, Cond.fieldLink RX9 40 "HouseSortedModel" "gets" "[I", Cond.methodLink RX9 199 yX9_sumOf, Cond.instanceMethod yX9_sumOf, Cond.selects RX9 yX9_sumOf yX9_sumOf, Cond.code yX9_sumOf cX9_sumOf 5 (some .int)]
def wsX9_fairest : List Cond := .code yX9_fairest cX9_fairest 10 (some .int) :: ((wsX9_fairest_r1 ++ wsX9_fairest_r2) ++ wsX90)
def wsX9_bidder : List Cond := .code yX9_bidder cX9_bidder 4 (some .int) :: ([.fieldLink RX9 143 "HouseSortedModel" "heirs" "I", .fieldLink RX9 34 "HouseSortedModel" "worths" "[I"] ++ wsX90)
def wsX9_bid_r1 : List Cond := [Cond.fieldLink RX9 143 "HouseSortedModel" "heirs" "I", Cond.methodLink RX9 161 yX9_isThing, Cond.instanceMethod yX9_isThing, Cond.selects RX9 yX9_isThing yX9_isThing, Cond.initialized RX9, Cond.code yX9_isThing cX9_isThing 2 (some .boolean), Cond.fieldLink RX9 146 "HouseSortedModel" "things" "I", Cond.methodLink RX9 67 yX9_in, Cond.static yX9_in, Cond.code yX9_in cX9_in 6 (some .boolean), Cond.methodLink RX9 175 yX9_wayNow, Cond.instanceMethod yX9_wayNow, Cond.selects RX9 yX9_wayNow yX9_wayNow, Cond.code yX9_wayNow cX9_wayNow 5 (some .int), Cond.fieldLink RX9 34 "HouseSortedModel" "worths" "[I", Cond.fieldLink RX9 22 "HouseSortedModel" "lows" "[I", Cond.methodLink RX9 170 yX9_sent, Cond.instanceMethod yX9_sent, Cond.selects RX9 yX9_sent yX9_sent, Cond.code yX9_sent cX9_sent 2 (some .int), Cond.fieldLink RX9 28 "HouseSortedModel" "ages" "[I", Cond.methodLink RX9 166 yX9_has, Cond.instanceMethod yX9_has, Cond.selects RX9 yX9_has yX9_has]
def wsX9_bid_r2 : List Cond := [Cond.code yX9_has cX9_has 3 (some .boolean), Cond.fieldLink RX9 31 "HouseSortedModel" "marks" "[I", Cond.methodLink RX9 140 yX9_lawOf, Cond.instanceMethod yX9_lawOf, Cond.selects RX9 yX9_lawOf yX9_lawOf, Cond.code yX9_lawOf cX9_lawOf 2 (some .int), Cond.fieldLink RX9 13 "HouseSortedModel" "laws" "[I", Cond.methodLink RX9 215 yX9_bidder, Cond.instanceMethod yX9_bidder, Cond.selects RX9 yX9_bidder yX9_bidder, Cond.code yX9_bidder cX9_bidder 4 (some .int)]
def wsX9_bid : List Cond := .code yX9_bid cX9_bid 2 (some .int) :: ((wsX9_bid_r1 ++ wsX9_bid_r2) ++ wsX90)
def wsX9_claimOf : List Cond := .code yX9_claimOf cX9_claimOf 4 (some .int) :: ([.fieldLink RX9 182 "HouseSortedModel" "shared" "I", .fieldLink RX9 34 "HouseSortedModel" "worths" "[I", .fieldLink RX9 37 "HouseSortedModel" "which" "[I", .fieldLink RX9 143 "HouseSortedModel" "heirs" "I"] ++ wsX90)
def wsX9_settled_r1 : List Cond := [Cond.constantLong RX9 180 (3), Cond.constant RX9 218 (-100000), Cond.fieldLink RX9 182 "HouseSortedModel" "shared" "I", Cond.fieldLink RX9 40 "HouseSortedModel" "gets" "[I", Cond.fieldLink RX9 37 "HouseSortedModel" "which" "[I", Cond.fieldLink RX9 143 "HouseSortedModel" "heirs" "I", Cond.methodLink RX9 157 yX9_isHeir, Cond.instanceMethod yX9_isHeir, Cond.selects RX9 yX9_isHeir yX9_isHeir, Cond.initialized RX9, Cond.code yX9_isHeir cX9_isHeir 2 (some .boolean), Cond.methodLink RX9 67 yX9_in, Cond.static yX9_in, Cond.code yX9_in cX9_in 6 (some .boolean), Cond.methodLink RX9 189 yX9_findShared, Cond.instanceMethod yX9_findShared, Cond.selects RX9 yX9_findShared yX9_findShared, Cond.code yX9_findShared cX9_findShared 2 none, Cond.fieldLink RX9 146 "HouseSortedModel" "things" "I", Cond.methodLink RX9 175 yX9_wayNow, Cond.instanceMethod yX9_wayNow, Cond.selects RX9 yX9_wayNow yX9_wayNow, Cond.code yX9_wayNow cX9_wayNow 5 (some .int), Cond.fieldLink RX9 34 "HouseSortedModel" "worths" "[I"]
def wsX9_settled_r2 : List Cond := [Cond.fieldLink RX9 22 "HouseSortedModel" "lows" "[I", Cond.methodLink RX9 170 yX9_sent, Cond.instanceMethod yX9_sent, Cond.selects RX9 yX9_sent yX9_sent, Cond.code yX9_sent cX9_sent 2 (some .int), Cond.fieldLink RX9 28 "HouseSortedModel" "ages" "[I", Cond.methodLink RX9 166 yX9_has, Cond.instanceMethod yX9_has, Cond.selects RX9 yX9_has yX9_has, Cond.code yX9_has cX9_has 3 (some .boolean), Cond.fieldLink RX9 31 "HouseSortedModel" "marks" "[I", Cond.methodLink RX9 140 yX9_lawOf, Cond.instanceMethod yX9_lawOf, Cond.selects RX9 yX9_lawOf yX9_lawOf, Cond.code yX9_lawOf cX9_lawOf 2 (some .int), Cond.fieldLink RX9 13 "HouseSortedModel" "laws" "[I", Cond.methodLink RX9 215 yX9_bidder, Cond.instanceMethod yX9_bidder, Cond.selects RX9 yX9_bidder yX9_bidder, Cond.code yX9_bidder cX9_bidder 4 (some .int), Cond.methodLink RX9 199 yX9_sumOf, Cond.instanceMethod yX9_sumOf, Cond.selects RX9 yX9_sumOf yX9_sumOf, Cond.code yX9_sumOf cX9_sumOf 5 (some .int)]
def wsX9_settled_r3 : List Cond := [Cond.methodLink RX9 219 yX9_claimOf, Cond.instanceMethod yX9_claimOf, Cond.selects RX9 yX9_claimOf yX9_claimOf, Cond.code yX9_claimOf cX9_claimOf 4 (some .int), Cond.methodLink RX9 222 yX9_down, Cond.static yX9_down, Cond.code yX9_down cX9_down 3 (some .int)]
def wsX9_settled : List Cond := .code yX9_settled cX9_settled 5 (some .int) :: ((wsX9_settled_r1 ++ (wsX9_settled_r2 ++ wsX9_settled_r3)) ++ wsX90)
def wsX9_lays : List Cond := .code yX9_lays cX9_lays 7 (some .boolean) :: ([.fieldLink RX9 49 "HouseSortedModel" "full" "[I", .fieldLink RX9 225 "HouseSortedModel" "goods" "I", .fieldLink RX9 46 "HouseSortedModel" "placed" "[I", .fieldLink RX9 19 "HouseSortedModel" "weights" "[I", .fieldLink RX9 43 "HouseSortedModel" "good" "[I", .methodLink RX9 140 yX9_lawOf, .instanceMethod yX9_lawOf, .selects RX9 yX9_lawOf yX9_lawOf, .initialized RX9, .code yX9_lawOf cX9_lawOf 2 (some .int), .fieldLink RX9 13 "HouseSortedModel" "laws" "[I"] ++ wsX90)
def wsX9_findLoads_r1 : List Cond := [Cond.fieldLink RX9 225 "HouseSortedModel" "goods" "I", Cond.fieldLink RX9 146 "HouseSortedModel" "things" "I", Cond.fieldLink RX9 43 "HouseSortedModel" "good" "[I", Cond.fieldLink RX9 19 "HouseSortedModel" "weights" "[I", Cond.methodLink RX9 175 yX9_wayNow, Cond.instanceMethod yX9_wayNow, Cond.selects RX9 yX9_wayNow yX9_wayNow, Cond.initialized RX9, Cond.code yX9_wayNow cX9_wayNow 5 (some .int), Cond.fieldLink RX9 143 "HouseSortedModel" "heirs" "I", Cond.fieldLink RX9 34 "HouseSortedModel" "worths" "[I", Cond.fieldLink RX9 22 "HouseSortedModel" "lows" "[I", Cond.methodLink RX9 170 yX9_sent, Cond.instanceMethod yX9_sent, Cond.selects RX9 yX9_sent yX9_sent, Cond.code yX9_sent cX9_sent 2 (some .int), Cond.fieldLink RX9 28 "HouseSortedModel" "ages" "[I", Cond.methodLink RX9 166 yX9_has, Cond.instanceMethod yX9_has, Cond.selects RX9 yX9_has yX9_has, Cond.code yX9_has cX9_has 3 (some .boolean), Cond.fieldLink RX9 31 "HouseSortedModel" "marks" "[I", Cond.methodLink RX9 140 yX9_lawOf, Cond.instanceMethod yX9_lawOf]
def wsX9_findLoads_r2 : List Cond := [Cond.selects RX9 yX9_lawOf yX9_lawOf, Cond.code yX9_lawOf cX9_lawOf 2 (some .int), Cond.fieldLink RX9 13 "HouseSortedModel" "laws" "[I", Cond.methodLink RX9 228 yX9_lays, Cond.instanceMethod yX9_lays, Cond.selects RX9 yX9_lays yX9_lays, Cond.code yX9_lays cX9_lays 7 (some .boolean), Cond.fieldLink RX9 49 "HouseSortedModel" "full" "[I", Cond.fieldLink RX9 46 "HouseSortedModel" "placed" "[I"]
def wsX9_findLoads : List Cond := .code yX9_findLoads cX9_findLoads 4 (some .int) :: ((wsX9_findLoads_r1 ++ wsX9_findLoads_r2) ++ wsX90)
def wsX9_loads_r1 : List Cond := [Cond.constantLong RX9 178 (4), Cond.methodLink RX9 67 yX9_in, Cond.static yX9_in, Cond.initialized RX9, Cond.code yX9_in cX9_in 6 (some .boolean), Cond.methodLink RX9 231 yX9_findLoads, Cond.instanceMethod yX9_findLoads, Cond.selects RX9 yX9_findLoads yX9_findLoads, Cond.code yX9_findLoads cX9_findLoads 4 (some .int), Cond.fieldLink RX9 225 "HouseSortedModel" "goods" "I", Cond.fieldLink RX9 146 "HouseSortedModel" "things" "I", Cond.fieldLink RX9 43 "HouseSortedModel" "good" "[I", Cond.fieldLink RX9 19 "HouseSortedModel" "weights" "[I", Cond.methodLink RX9 175 yX9_wayNow, Cond.instanceMethod yX9_wayNow, Cond.selects RX9 yX9_wayNow yX9_wayNow, Cond.code yX9_wayNow cX9_wayNow 5 (some .int), Cond.fieldLink RX9 143 "HouseSortedModel" "heirs" "I", Cond.fieldLink RX9 34 "HouseSortedModel" "worths" "[I", Cond.fieldLink RX9 22 "HouseSortedModel" "lows" "[I", Cond.methodLink RX9 170 yX9_sent, Cond.instanceMethod yX9_sent, Cond.selects RX9 yX9_sent yX9_sent, Cond.code yX9_sent cX9_sent 2 (some .int)]
def wsX9_loads_r2 : List Cond := [Cond.fieldLink RX9 28 "HouseSortedModel" "ages" "[I", Cond.methodLink RX9 166 yX9_has, Cond.instanceMethod yX9_has, Cond.selects RX9 yX9_has yX9_has, Cond.code yX9_has cX9_has 3 (some .boolean), Cond.fieldLink RX9 31 "HouseSortedModel" "marks" "[I", Cond.methodLink RX9 140 yX9_lawOf, Cond.instanceMethod yX9_lawOf, Cond.selects RX9 yX9_lawOf yX9_lawOf, Cond.code yX9_lawOf cX9_lawOf 2 (some .int), Cond.fieldLink RX9 13 "HouseSortedModel" "laws" "[I", Cond.methodLink RX9 228 yX9_lays, Cond.instanceMethod yX9_lays, Cond.selects RX9 yX9_lays yX9_lays, Cond.code yX9_lays cX9_lays 7 (some .boolean), Cond.fieldLink RX9 49 "HouseSortedModel" "full" "[I", Cond.fieldLink RX9 46 "HouseSortedModel" "placed" "[I"]
def wsX9_loads : List Cond := .code yX9_loads cX9_loads 2 (some .int) :: ((wsX9_loads_r1 ++ wsX9_loads_r2) ++ wsX90)
def wsX9_load_r1 : List Cond := [Cond.fieldLink RX9 43 "HouseSortedModel" "good" "[I", Cond.fieldLink RX9 46 "HouseSortedModel" "placed" "[I", Cond.methodLink RX9 161 yX9_isThing, Cond.instanceMethod yX9_isThing, Cond.selects RX9 yX9_isThing yX9_isThing, Cond.initialized RX9, Cond.code yX9_isThing cX9_isThing 2 (some .boolean), Cond.fieldLink RX9 146 "HouseSortedModel" "things" "I", Cond.methodLink RX9 67 yX9_in, Cond.static yX9_in, Cond.code yX9_in cX9_in 6 (some .boolean), Cond.methodLink RX9 175 yX9_wayNow, Cond.instanceMethod yX9_wayNow, Cond.selects RX9 yX9_wayNow yX9_wayNow, Cond.code yX9_wayNow cX9_wayNow 5 (some .int), Cond.fieldLink RX9 143 "HouseSortedModel" "heirs" "I", Cond.fieldLink RX9 34 "HouseSortedModel" "worths" "[I", Cond.fieldLink RX9 22 "HouseSortedModel" "lows" "[I", Cond.methodLink RX9 170 yX9_sent, Cond.instanceMethod yX9_sent, Cond.selects RX9 yX9_sent yX9_sent, Cond.code yX9_sent cX9_sent 2 (some .int), Cond.fieldLink RX9 28 "HouseSortedModel" "ages" "[I", Cond.methodLink RX9 166 yX9_has]
def wsX9_load_r2 : List Cond := [Cond.instanceMethod yX9_has, Cond.selects RX9 yX9_has yX9_has, Cond.code yX9_has cX9_has 3 (some .boolean), Cond.fieldLink RX9 31 "HouseSortedModel" "marks" "[I", Cond.methodLink RX9 140 yX9_lawOf, Cond.instanceMethod yX9_lawOf, Cond.selects RX9 yX9_lawOf yX9_lawOf, Cond.code yX9_lawOf cX9_lawOf 2 (some .int), Cond.fieldLink RX9 13 "HouseSortedModel" "laws" "[I", Cond.methodLink RX9 231 yX9_findLoads, Cond.instanceMethod yX9_findLoads, Cond.selects RX9 yX9_findLoads yX9_findLoads, Cond.code yX9_findLoads cX9_findLoads 4 (some .int), Cond.fieldLink RX9 225 "HouseSortedModel" "goods" "I", Cond.fieldLink RX9 19 "HouseSortedModel" "weights" "[I", Cond.methodLink RX9 228 yX9_lays, Cond.instanceMethod yX9_lays, Cond.selects RX9 yX9_lays yX9_lays, Cond.code yX9_lays cX9_lays 7 (some .boolean), Cond.fieldLink RX9 49 "HouseSortedModel" "full" "[I"]
def wsX9_load : List Cond := .code yX9_load cX9_load 3 (some .int) :: ((wsX9_load_r1 ++ wsX9_load_r2) ++ wsX90)
def wsX9_isSheet : List Cond := .code yX9_isSheet cX9_isSheet 2 (some .boolean) :: ([.constantLong RX9 180 (3), .constantLong RX9 234 (2), .methodLink RX9 67 yX9_in, .static yX9_in, .initialized RX9, .code yX9_in cX9_in 6 (some .boolean)])
def wsX9_sheet : List Cond := .code yX9_sheet cX9_sheet 5 (some .int) :: ([.fieldLink RX9 52 "HouseSortedModel" "lanes" "[I", .fieldLink RX9 55 "HouseSortedModel" "sizes" "[I", .fieldLink RX9 58 "HouseSortedModel" "cells" "[I", .methodLink RX9 236 yX9_isSheet, .static yX9_isSheet, .initialized RX9, .code yX9_isSheet cX9_isSheet 2 (some .boolean), .constantLong RX9 180 (3), .constantLong RX9 234 (2), .methodLink RX9 67 yX9_in, .static yX9_in, .code yX9_in cX9_in 6 (some .boolean)] ++ wsX90)
def wsX9_lay : List Cond := .code yX9_lay cX9_lay 4 (some .int) :: ([.fieldLink RX9 52 "HouseSortedModel" "lanes" "[I", .fieldLink RX9 55 "HouseSortedModel" "sizes" "[I", .fieldLink RX9 58 "HouseSortedModel" "cells" "[I", .methodLink RX9 236 yX9_isSheet, .static yX9_isSheet, .initialized RX9, .code yX9_isSheet cX9_isSheet 2 (some .boolean), .constantLong RX9 180 (3), .constantLong RX9 234 (2), .methodLink RX9 67 yX9_in, .static yX9_in, .code yX9_in cX9_in 6 (some .boolean)] ++ wsX90)
def wsX9_worths : List Cond := .code yX9_worths cX9_worths 8 (some .int) :: ([.fieldLink RX9 52 "HouseSortedModel" "lanes" "[I", .fieldLink RX9 146 "HouseSortedModel" "things" "I", .fieldLink RX9 55 "HouseSortedModel" "sizes" "[I", .fieldLink RX9 58 "HouseSortedModel" "cells" "[I", .constantLong RX9 164 (100), .fieldLink RX9 34 "HouseSortedModel" "worths" "[I", .methodLink RX9 157 yX9_isHeir, .instanceMethod yX9_isHeir, .selects RX9 yX9_isHeir yX9_isHeir, .initialized RX9, .code yX9_isHeir cX9_isHeir 2 (some .boolean), .fieldLink RX9 143 "HouseSortedModel" "heirs" "I", .methodLink RX9 67 yX9_in, .static yX9_in, .code yX9_in cX9_in 6 (some .boolean), .methodLink RX9 236 yX9_isSheet, .static yX9_isSheet, .code yX9_isSheet cX9_isSheet 2 (some .boolean), .constantLong RX9 180 (3), .constantLong RX9 234 (2)] ++ wsX90)
def wsX9_count_r1 : List Cond := [Cond.fieldLink RX9 143 "HouseSortedModel" "heirs" "I", Cond.fieldLink RX9 146 "HouseSortedModel" "things" "I", Cond.fieldLink RX9 182 "HouseSortedModel" "shared" "I", Cond.methodLink RX9 189 yX9_findShared, Cond.instanceMethod yX9_findShared, Cond.selects RX9 yX9_findShared yX9_findShared, Cond.initialized RX9, Cond.code yX9_findShared cX9_findShared 2 none, Cond.fieldLink RX9 37 "HouseSortedModel" "which" "[I", Cond.methodLink RX9 175 yX9_wayNow, Cond.instanceMethod yX9_wayNow, Cond.selects RX9 yX9_wayNow yX9_wayNow, Cond.code yX9_wayNow cX9_wayNow 5 (some .int), Cond.fieldLink RX9 34 "HouseSortedModel" "worths" "[I", Cond.fieldLink RX9 22 "HouseSortedModel" "lows" "[I", Cond.methodLink RX9 170 yX9_sent, Cond.instanceMethod yX9_sent, Cond.selects RX9 yX9_sent yX9_sent, Cond.code yX9_sent cX9_sent 2 (some .int), Cond.fieldLink RX9 28 "HouseSortedModel" "ages" "[I", Cond.methodLink RX9 166 yX9_has, Cond.instanceMethod yX9_has, Cond.selects RX9 yX9_has yX9_has, Cond.code yX9_has cX9_has 3 (some .boolean)]
def wsX9_count_r2 : List Cond := [Cond.fieldLink RX9 31 "HouseSortedModel" "marks" "[I", Cond.methodLink RX9 140 yX9_lawOf, Cond.instanceMethod yX9_lawOf, Cond.selects RX9 yX9_lawOf yX9_lawOf, Cond.code yX9_lawOf cX9_lawOf 2 (some .int), Cond.fieldLink RX9 13 "HouseSortedModel" "laws" "[I", Cond.methodLink RX9 135 yX9_lawMany, Cond.instanceMethod yX9_lawMany, Cond.selects RX9 yX9_lawMany yX9_lawMany, Cond.code yX9_lawMany cX9_lawMany 3 (some .int)]
def wsX9_count : List Cond := .code yX9_count cX9_count 2 (some .int) :: ((wsX9_count_r1 ++ wsX9_count_r2) ++ wsX90)
def wsJ9_max_7cf53 : List Cond := .code yJ9_max_7cf53 cJ9_max_7cf53 2 (some .int) :: ([])
def wsJ9_min_7cf53 : List Cond := .code yJ9_min_7cf53 cJ9_min_7cf53 2 (some .int) :: ([])
abbrev vwCl : List vw_C := [(RX0, TX0, 8), (RX1, TX1, 9), (RX2, TX2, 6), (RX3, TX3, 4), (RX4, TX4, 3), (RX5, TX5, 2), (RX6, TX6, 5), (RX7, TX7, 6), (RX8, TX8, 7), (RX9, TX9, 28)]
end
section
theorem dX0_init_0 : decode cX0_init 0 = .ok (.aload_n 0, 1) := by decide +kernel
theorem dX0_init_1 : decode cX0_init 1 = .ok (.invokespecial 3, 3) := by decide +kernel
theorem dX0_init_4 : decode cX0_init 4 = .ok (.aload_n 0, 1) := by decide +kernel
theorem dX0_init_5 : decode cX0_init 5 = .ok (.iconst 4, 1) := by decide +kernel
theorem dX0_init_6 : decode cX0_init 6 = .ok (.newarray .int, 2) := by decide +kernel
theorem dX0_init_8 : decode cX0_init 8 = .ok (.putfield 9, 3) := by decide +kernel
theorem dX0_init_11 : decode cX0_init 11 = .ok (.aload_n 0, 1) := by decide +kernel
theorem dX0_init_12 : decode cX0_init 12 = .ok (.iconst 4, 1) := by decide +kernel
theorem dX0_init_13 : decode cX0_init 13 = .ok (.bipush 11, 2) := by decide +kernel
theorem dX0_init_15 : decode cX0_init 15 = .ok (.multianewarray 15 2, 4) := by decide +kernel
theorem dX0_init_19 : decode cX0_init 19 = .ok (.putfield 17, 3) := by decide +kernel
theorem dX0_init_22 : decode cX0_init 22 = .ok (.aload_n 0, 1) := by decide +kernel
theorem dX0_init_23 : decode cX0_init 23 = .ok (.bipush 11, 2) := by decide +kernel
theorem dX0_init_25 : decode cX0_init 25 = .ok (.newarray .int, 2) := by decide +kernel
theorem dX0_init_27 : decode cX0_init 27 = .ok (.putfield 20, 3) := by decide +kernel
theorem dX0_init_30 : decode cX0_init 30 = .ok (.aload_n 0, 1) := by decide +kernel
theorem dX0_init_31 : decode cX0_init 31 = .ok (.aload_n 1, 1) := by decide +kernel
theorem dX0_init_32 : decode cX0_init 32 = .ok (.putfield 23, 3) := by decide +kernel
theorem dX0_init_35 : decode cX0_init 35 = .ok (.aload_n 0, 1) := by decide +kernel
theorem dX0_init_36 : decode cX0_init 36 = .ok (.aload_n 2, 1) := by decide +kernel
theorem dX0_init_37 : decode cX0_init 37 = .ok (.putfield 27, 3) := by decide +kernel
theorem dX0_init_40 : decode cX0_init 40 = .ok (.return_, 1) := by decide +kernel
theorem dX0_bestNumber_0 : decode cX0_bestNumber 0 = .ok (.iconst 0, 1) := by decide +kernel
theorem dX0_bestNumber_1 : decode cX0_bestNumber 1 = .ok (.istore_n 1, 1) := by decide +kernel
theorem dX0_bestNumber_2 : decode cX0_bestNumber 2 = .ok (.iload_n 1, 1) := by decide +kernel
theorem dX0_bestNumber_3 : decode cX0_bestNumber 3 = .ok (.aload_n 0, 1) := by decide +kernel
theorem dX0_bestNumber_4 : decode cX0_bestNumber 4 = .ok (.getfield 27, 3) := by decide +kernel
theorem dX0_bestNumber_7 : decode cX0_bestNumber 7 = .ok (.getfield 31, 3) := by decide +kernel
theorem dX0_bestNumber_10 : decode cX0_bestNumber 10 = .ok (.if_icmp .ge 101, 3) := by decide +kernel
theorem dX0_bestNumber_13 : decode cX0_bestNumber 13 = .ok (.aload_n 0, 1) := by decide +kernel
theorem dX0_bestNumber_14 : decode cX0_bestNumber 14 = .ok (.getfield 27, 3) := by decide +kernel
theorem dX0_bestNumber_17 : decode cX0_bestNumber 17 = .ok (.getfield 37, 3) := by decide +kernel
theorem dX0_bestNumber_20 : decode cX0_bestNumber 20 = .ok (.iload_n 1, 1) := by decide +kernel
theorem dX0_bestNumber_21 : decode cX0_bestNumber 21 = .ok (.iaload, 1) := by decide +kernel
theorem dX0_bestNumber_22 : decode cX0_bestNumber 22 = .ok (.istore_n 2, 1) := by decide +kernel
theorem dX0_bestNumber_23 : decode cX0_bestNumber 23 = .ok (.aload_n 0, 1) := by decide +kernel
theorem dX0_bestNumber_24 : decode cX0_bestNumber 24 = .ok (.getfield 20, 3) := by decide +kernel
theorem dX0_bestNumber_27 : decode cX0_bestNumber 27 = .ok (.iload_n 1, 1) := by decide +kernel
theorem dX0_bestNumber_28 : decode cX0_bestNumber 28 = .ok (.iconst 1, 1) := by decide +kernel
theorem dX0_bestNumber_29 : decode cX0_bestNumber 29 = .ok (.iadd, 1) := by decide +kernel
theorem dX0_bestNumber_30 : decode cX0_bestNumber 30 = .ok (.aload_n 0, 1) := by decide +kernel
theorem dX0_bestNumber_31 : decode cX0_bestNumber 31 = .ok (.getfield 20, 3) := by decide +kernel
theorem dX0_bestNumber_34 : decode cX0_bestNumber 34 = .ok (.iload_n 1, 1) := by decide +kernel
theorem dX0_bestNumber_35 : decode cX0_bestNumber 35 = .ok (.iaload, 1) := by decide +kernel
theorem dX0_bestNumber_36 : decode cX0_bestNumber 36 = .ok (.aload_n 0, 1) := by decide +kernel
theorem dX0_bestNumber_37 : decode cX0_bestNumber 37 = .ok (.getfield 23, 3) := by decide +kernel
theorem dX0_bestNumber_40 : decode cX0_bestNumber 40 = .ok (.getfield 40, 3) := by decide +kernel
theorem dX0_bestNumber_43 : decode cX0_bestNumber 43 = .ok (.aload_n 0, 1) := by decide +kernel
theorem dX0_bestNumber_44 : decode cX0_bestNumber 44 = .ok (.getfield 23, 3) := by decide +kernel
theorem dX0_bestNumber_47 : decode cX0_bestNumber 47 = .ok (.iload_n 2, 1) := by decide +kernel
theorem dX0_bestNumber_48 : decode cX0_bestNumber 48 = .ok (.invokevirtual 45, 3) := by decide +kernel
theorem dX0_bestNumber_51 : decode cX0_bestNumber 51 = .ok (.aaload, 1) := by decide +kernel
theorem dX0_bestNumber_52 : decode cX0_bestNumber 52 = .ok (.iload_n 2, 1) := by decide +kernel
theorem dX0_bestNumber_53 : decode cX0_bestNumber 53 = .ok (.iaload, 1) := by decide +kernel
theorem dX0_bestNumber_54 : decode cX0_bestNumber 54 = .ok (.iadd, 1) := by decide +kernel
theorem dX0_bestNumber_55 : decode cX0_bestNumber 55 = .ok (.iastore, 1) := by decide +kernel
theorem dX0_bestNumber_56 : decode cX0_bestNumber 56 = .ok (.iconst 0, 1) := by decide +kernel
theorem dX0_bestNumber_57 : decode cX0_bestNumber 57 = .ok (.istore_n 3, 1) := by decide +kernel
theorem dX0_bestNumber_58 : decode cX0_bestNumber 58 = .ok (.iload_n 3, 1) := by decide +kernel
theorem dX0_bestNumber_59 : decode cX0_bestNumber 59 = .ok (.aload_n 0, 1) := by decide +kernel
theorem dX0_bestNumber_60 : decode cX0_bestNumber 60 = .ok (.getfield 23, 3) := by decide +kernel
theorem dX0_bestNumber_63 : decode cX0_bestNumber 63 = .ok (.getfield 49, 3) := by decide +kernel
theorem dX0_bestNumber_66 : decode cX0_bestNumber 66 = .ok (.if_icmp .ge 39, 3) := by decide +kernel
theorem dX0_bestNumber_69 : decode cX0_bestNumber 69 = .ok (.aload_n 0, 1) := by decide +kernel
theorem dX0_bestNumber_70 : decode cX0_bestNumber 70 = .ok (.getfield 17, 3) := by decide +kernel
theorem dX0_bestNumber_73 : decode cX0_bestNumber 73 = .ok (.iload_n 3, 1) := by decide +kernel
theorem dX0_bestNumber_74 : decode cX0_bestNumber 74 = .ok (.aaload, 1) := by decide +kernel
theorem dX0_bestNumber_75 : decode cX0_bestNumber 75 = .ok (.iload_n 1, 1) := by decide +kernel
theorem dX0_bestNumber_76 : decode cX0_bestNumber 76 = .ok (.iconst 1, 1) := by decide +kernel
theorem dX0_bestNumber_77 : decode cX0_bestNumber 77 = .ok (.iadd, 1) := by decide +kernel
theorem dX0_bestNumber_78 : decode cX0_bestNumber 78 = .ok (.aload_n 0, 1) := by decide +kernel
theorem dX0_bestNumber_79 : decode cX0_bestNumber 79 = .ok (.getfield 17, 3) := by decide +kernel
theorem dX0_bestNumber_82 : decode cX0_bestNumber 82 = .ok (.iload_n 3, 1) := by decide +kernel
theorem dX0_bestNumber_83 : decode cX0_bestNumber 83 = .ok (.aaload, 1) := by decide +kernel
theorem dX0_bestNumber_84 : decode cX0_bestNumber 84 = .ok (.iload_n 1, 1) := by decide +kernel
theorem dX0_bestNumber_85 : decode cX0_bestNumber 85 = .ok (.iaload, 1) := by decide +kernel
theorem dX0_bestNumber_86 : decode cX0_bestNumber 86 = .ok (.aload_n 0, 1) := by decide +kernel
theorem dX0_bestNumber_87 : decode cX0_bestNumber 87 = .ok (.getfield 23, 3) := by decide +kernel
theorem dX0_bestNumber_90 : decode cX0_bestNumber 90 = .ok (.getfield 40, 3) := by decide +kernel
theorem dX0_bestNumber_93 : decode cX0_bestNumber 93 = .ok (.iload_n 3, 1) := by decide +kernel
theorem dX0_bestNumber_94 : decode cX0_bestNumber 94 = .ok (.aaload, 1) := by decide +kernel
theorem dX0_bestNumber_95 : decode cX0_bestNumber 95 = .ok (.iload_n 2, 1) := by decide +kernel
theorem dX0_bestNumber_96 : decode cX0_bestNumber 96 = .ok (.iaload, 1) := by decide +kernel
theorem dX0_bestNumber_97 : decode cX0_bestNumber 97 = .ok (.iadd, 1) := by decide +kernel
theorem dX0_bestNumber_98 : decode cX0_bestNumber 98 = .ok (.iastore, 1) := by decide +kernel
theorem dX0_bestNumber_99 : decode cX0_bestNumber 99 = .ok (.iinc 3 1, 3) := by decide +kernel
theorem dX0_bestNumber_102 : decode cX0_bestNumber 102 = .ok (.goto (-44), 3) := by decide +kernel
theorem dX0_bestNumber_105 : decode cX0_bestNumber 105 = .ok (.iinc 1 1, 3) := by decide +kernel
theorem dX0_bestNumber_108 : decode cX0_bestNumber 108 = .ok (.goto (-106), 3) := by decide +kernel
theorem dX0_bestNumber_111 : decode cX0_bestNumber 111 = .ok (.aload_n 0, 1) := by decide +kernel
theorem dX0_bestNumber_112 : decode cX0_bestNumber 112 = .ok (.iconst (-1), 1) := by decide +kernel
theorem dX0_bestNumber_113 : decode cX0_bestNumber 113 = .ok (.putfield 52, 3) := by decide +kernel
theorem dX0_bestNumber_116 : decode cX0_bestNumber 116 = .ok (.aload_n 0, 1) := by decide +kernel
theorem dX0_bestNumber_117 : decode cX0_bestNumber 117 = .ok (.iconst (-1), 1) := by decide +kernel
theorem dX0_bestNumber_118 : decode cX0_bestNumber 118 = .ok (.putfield 55, 3) := by decide +kernel
theorem dX0_bestNumber_121 : decode cX0_bestNumber 121 = .ok (.aload_n 0, 1) := by decide +kernel
theorem dX0_bestNumber_122 : decode cX0_bestNumber 122 = .ok (.iconst 0, 1) := by decide +kernel
theorem dX0_bestNumber_123 : decode cX0_bestNumber 123 = .ok (.putfield 58, 3) := by decide +kernel
theorem dX0_bestNumber_126 : decode cX0_bestNumber 126 = .ok (.aload_n 0, 1) := by decide +kernel
theorem dX0_bestNumber_127 : decode cX0_bestNumber 127 = .ok (.aload_n 0, 1) := by decide +kernel
theorem dX0_bestNumber_128 : decode cX0_bestNumber 128 = .ok (.getfield 27, 3) := by decide +kernel
theorem dX0_bestNumber_131 : decode cX0_bestNumber 131 = .ok (.getfield 31, 3) := by decide +kernel
theorem dX0_bestNumber_134 : decode cX0_bestNumber 134 = .ok (.bipush 8, 2) := by decide +kernel
theorem dX0_bestNumber_136 : decode cX0_bestNumber 136 = .ok (.invokestatic 61, 3) := by decide +kernel
theorem dX0_bestNumber_139 : decode cX0_bestNumber 139 = .ok (.iconst 0, 1) := by decide +kernel
theorem dX0_bestNumber_140 : decode cX0_bestNumber 140 = .ok (.iconst 0, 1) := by decide +kernel
theorem dX0_bestNumber_141 : decode cX0_bestNumber 141 = .ok (.invokestatic 67, 3) := by decide +kernel
theorem dX0_bestNumber_144 : decode cX0_bestNumber 144 = .ok (.aload_n 0, 1) := by decide +kernel
theorem dX0_bestNumber_145 : decode cX0_bestNumber 145 = .ok (.getfield 58, 3) := by decide +kernel
theorem dX0_bestNumber_148 : decode cX0_bestNumber 148 = .ok (.ireturn, 1) := by decide +kernel
theorem dX0_seek_0 : decode cX0_seek 0 = .ok (.aload_n 0, 1) := by decide +kernel
theorem dX0_seek_1 : decode cX0_seek 1 = .ok (.iload_n 1, 1) := by decide +kernel
theorem dX0_seek_2 : decode cX0_seek 2 = .ok (.iload_n 3, 1) := by decide +kernel
theorem dX0_seek_3 : decode cX0_seek 3 = .ok (.invokevirtual 71, 3) := by decide +kernel
theorem dX0_seek_6 : decode cX0_seek 6 = .ok (.ifCond .ne 4, 3) := by decide +kernel
theorem dX0_seek_9 : decode cX0_seek 9 = .ok (.return_, 1) := by decide +kernel
theorem dX0_seek_10 : decode cX0_seek 10 = .ok (.iload_n 1, 1) := by decide +kernel
theorem dX0_seek_11 : decode cX0_seek 11 = .ok (.ifCond .gt 22, 3) := by decide +kernel
theorem dX0_seek_14 : decode cX0_seek 14 = .ok (.aload_n 0, 1) := by decide +kernel
theorem dX0_seek_15 : decode cX0_seek 15 = .ok (.aload_n 0, 1) := by decide +kernel
theorem dX0_seek_16 : decode cX0_seek 16 = .ok (.invokevirtual 75, 3) := by decide +kernel
theorem dX0_seek_19 : decode cX0_seek 19 = .ok (.putfield 52, 3) := by decide +kernel
theorem dX0_seek_22 : decode cX0_seek 22 = .ok (.aload_n 0, 1) := by decide +kernel
theorem dX0_seek_23 : decode cX0_seek 23 = .ok (.iload_n 3, 1) := by decide +kernel
theorem dX0_seek_24 : decode cX0_seek 24 = .ok (.putfield 55, 3) := by decide +kernel
theorem dX0_seek_27 : decode cX0_seek 27 = .ok (.aload_n 0, 1) := by decide +kernel
theorem dX0_seek_28 : decode cX0_seek 28 = .ok (.iload_n 2, 1) := by decide +kernel
theorem dX0_seek_29 : decode cX0_seek 29 = .ok (.putfield 58, 3) := by decide +kernel
theorem dX0_seek_32 : decode cX0_seek 32 = .ok (.return_, 1) := by decide +kernel
theorem dX0_seek_33 : decode cX0_seek 33 = .ok (.aload_n 0, 1) := by decide +kernel
theorem dX0_seek_34 : decode cX0_seek 34 = .ok (.getfield 27, 3) := by decide +kernel
theorem dX0_seek_37 : decode cX0_seek 37 = .ok (.getfield 37, 3) := by decide +kernel
theorem dX0_seek_40 : decode cX0_seek 40 = .ok (.iload_n 1, 1) := by decide +kernel
theorem dX0_seek_41 : decode cX0_seek 41 = .ok (.iconst 1, 1) := by decide +kernel
theorem dX0_seek_42 : decode cX0_seek 42 = .ok (.isub, 1) := by decide +kernel
theorem dX0_seek_43 : decode cX0_seek 43 = .ok (.iaload, 1) := by decide +kernel
theorem dX0_seek_44 : decode cX0_seek 44 = .ok (.istore 4, 2) := by decide +kernel
theorem dX0_seek_46 : decode cX0_seek 46 = .ok (.iconst 0, 1) := by decide +kernel
theorem dX0_seek_47 : decode cX0_seek 47 = .ok (.istore 5, 2) := by decide +kernel
theorem dX0_seek_49 : decode cX0_seek 49 = .ok (.iload 5, 2) := by decide +kernel
theorem dX0_seek_51 : decode cX0_seek 51 = .ok (.aload_n 0, 1) := by decide +kernel
theorem dX0_seek_52 : decode cX0_seek 52 = .ok (.getfield 23, 3) := by decide +kernel
theorem dX0_seek_55 : decode cX0_seek 55 = .ok (.getfield 49, 3) := by decide +kernel
theorem dX0_seek_58 : decode cX0_seek 58 = .ok (.if_icmp .ge 71, 3) := by decide +kernel
theorem dX0_seek_61 : decode cX0_seek 61 = .ok (.aload_n 0, 1) := by decide +kernel
theorem dX0_seek_62 : decode cX0_seek 62 = .ok (.getfield 23, 3) := by decide +kernel
theorem dX0_seek_65 : decode cX0_seek 65 = .ok (.getfield 40, 3) := by decide +kernel
theorem dX0_seek_68 : decode cX0_seek 68 = .ok (.iload 5, 2) := by decide +kernel
theorem dX0_seek_70 : decode cX0_seek 70 = .ok (.aaload, 1) := by decide +kernel
theorem dX0_seek_71 : decode cX0_seek 71 = .ok (.iload 4, 2) := by decide +kernel
theorem dX0_seek_73 : decode cX0_seek 73 = .ok (.iaload, 1) := by decide +kernel
theorem dX0_seek_74 : decode cX0_seek 74 = .ok (.istore 6, 2) := by decide +kernel
theorem dX0_seek_76 : decode cX0_seek 76 = .ok (.aload_n 0, 1) := by decide +kernel
theorem dX0_seek_77 : decode cX0_seek 77 = .ok (.getfield 9, 3) := by decide +kernel
theorem dX0_seek_80 : decode cX0_seek 80 = .ok (.iload 5, 2) := by decide +kernel
theorem dX0_seek_82 : decode cX0_seek 82 = .ok (.dup2, 1) := by decide +kernel
theorem dX0_seek_83 : decode cX0_seek 83 = .ok (.iaload, 1) := by decide +kernel
theorem dX0_seek_84 : decode cX0_seek 84 = .ok (.iload 6, 2) := by decide +kernel
theorem dX0_seek_86 : decode cX0_seek 86 = .ok (.iadd, 1) := by decide +kernel
theorem dX0_seek_87 : decode cX0_seek 87 = .ok (.iastore, 1) := by decide +kernel
theorem dX0_seek_88 : decode cX0_seek 88 = .ok (.aload_n 0, 1) := by decide +kernel
theorem dX0_seek_89 : decode cX0_seek 89 = .ok (.iload_n 1, 1) := by decide +kernel
theorem dX0_seek_90 : decode cX0_seek 90 = .ok (.iconst 1, 1) := by decide +kernel
theorem dX0_seek_91 : decode cX0_seek 91 = .ok (.isub, 1) := by decide +kernel
theorem dX0_seek_92 : decode cX0_seek 92 = .ok (.iload_n 2, 1) := by decide +kernel
theorem dX0_seek_93 : decode cX0_seek 93 = .ok (.aload_n 0, 1) := by decide +kernel
theorem dX0_seek_94 : decode cX0_seek 94 = .ok (.getfield 23, 3) := by decide +kernel
theorem dX0_seek_97 : decode cX0_seek 97 = .ok (.getfield 49, 3) := by decide +kernel
theorem dX0_seek_100 : decode cX0_seek 100 = .ok (.imul, 1) := by decide +kernel
theorem dX0_seek_101 : decode cX0_seek 101 = .ok (.iload 5, 2) := by decide +kernel
theorem dX0_seek_103 : decode cX0_seek 103 = .ok (.iadd, 1) := by decide +kernel
theorem dX0_seek_104 : decode cX0_seek 104 = .ok (.iload_n 3, 1) := by decide +kernel
theorem dX0_seek_105 : decode cX0_seek 105 = .ok (.iload 6, 2) := by decide +kernel
theorem dX0_seek_107 : decode cX0_seek 107 = .ok (.iadd, 1) := by decide +kernel
theorem dX0_seek_108 : decode cX0_seek 108 = .ok (.invokestatic 67, 3) := by decide +kernel
theorem dX0_seek_111 : decode cX0_seek 111 = .ok (.aload_n 0, 1) := by decide +kernel
theorem dX0_seek_112 : decode cX0_seek 112 = .ok (.getfield 9, 3) := by decide +kernel
theorem dX0_seek_115 : decode cX0_seek 115 = .ok (.iload 5, 2) := by decide +kernel
theorem dX0_seek_117 : decode cX0_seek 117 = .ok (.dup2, 1) := by decide +kernel
theorem dX0_seek_118 : decode cX0_seek 118 = .ok (.iaload, 1) := by decide +kernel
theorem dX0_seek_119 : decode cX0_seek 119 = .ok (.iload 6, 2) := by decide +kernel
theorem dX0_seek_121 : decode cX0_seek 121 = .ok (.isub, 1) := by decide +kernel
theorem dX0_seek_122 : decode cX0_seek 122 = .ok (.iastore, 1) := by decide +kernel
theorem dX0_seek_123 : decode cX0_seek 123 = .ok (.iinc 5 1, 3) := by decide +kernel
theorem dX0_seek_126 : decode cX0_seek 126 = .ok (.goto (-77), 3) := by decide +kernel
theorem dX0_seek_129 : decode cX0_seek 129 = .ok (.return_, 1) := by decide +kernel
theorem dX0_mayBeBetter_0 : decode cX0_mayBeBetter 0 = .ok (.iload_n 2, 1) := by decide +kernel
theorem dX0_mayBeBetter_1 : decode cX0_mayBeBetter 1 = .ok (.aload_n 0, 1) := by decide +kernel
theorem dX0_mayBeBetter_2 : decode cX0_mayBeBetter 2 = .ok (.getfield 20, 3) := by decide +kernel
theorem dX0_mayBeBetter_5 : decode cX0_mayBeBetter 5 = .ok (.iload_n 1, 1) := by decide +kernel
theorem dX0_mayBeBetter_6 : decode cX0_mayBeBetter 6 = .ok (.iaload, 1) := by decide +kernel
theorem dX0_mayBeBetter_7 : decode cX0_mayBeBetter 7 = .ok (.iadd, 1) := by decide +kernel
theorem dX0_mayBeBetter_8 : decode cX0_mayBeBetter 8 = .ok (.aload_n 0, 1) := by decide +kernel
theorem dX0_mayBeBetter_9 : decode cX0_mayBeBetter 9 = .ok (.getfield 55, 3) := by decide +kernel
theorem dX0_mayBeBetter_12 : decode cX0_mayBeBetter 12 = .ok (.if_icmp .le 10, 3) := by decide +kernel
theorem dX0_mayBeBetter_15 : decode cX0_mayBeBetter 15 = .ok (.aload_n 0, 1) := by decide +kernel
theorem dX0_mayBeBetter_16 : decode cX0_mayBeBetter 16 = .ok (.getfield 52, 3) := by decide +kernel
theorem dX0_mayBeBetter_19 : decode cX0_mayBeBetter 19 = .ok (.goto 9, 3) := by decide +kernel
theorem dX0_mayBeBetter_22 : decode cX0_mayBeBetter 22 = .ok (.aload_n 0, 1) := by decide +kernel
theorem dX0_mayBeBetter_23 : decode cX0_mayBeBetter 23 = .ok (.getfield 52, 3) := by decide +kernel
theorem dX0_mayBeBetter_26 : decode cX0_mayBeBetter 26 = .ok (.iconst 1, 1) := by decide +kernel
theorem dX0_mayBeBetter_27 : decode cX0_mayBeBetter 27 = .ok (.iadd, 1) := by decide +kernel
theorem dX0_mayBeBetter_28 : decode cX0_mayBeBetter 28 = .ok (.istore_n 3, 1) := by decide +kernel
theorem dX0_mayBeBetter_29 : decode cX0_mayBeBetter 29 = .ok (.iconst 0, 1) := by decide +kernel
theorem dX0_mayBeBetter_30 : decode cX0_mayBeBetter 30 = .ok (.istore 4, 2) := by decide +kernel
theorem dX0_mayBeBetter_32 : decode cX0_mayBeBetter 32 = .ok (.iconst 0, 1) := by decide +kernel
theorem dX0_mayBeBetter_33 : decode cX0_mayBeBetter 33 = .ok (.istore 5, 2) := by decide +kernel
theorem dX0_mayBeBetter_35 : decode cX0_mayBeBetter 35 = .ok (.iconst 0, 1) := by decide +kernel
theorem dX0_mayBeBetter_36 : decode cX0_mayBeBetter 36 = .ok (.istore 6, 2) := by decide +kernel
theorem dX0_mayBeBetter_38 : decode cX0_mayBeBetter 38 = .ok (.iload 6, 2) := by decide +kernel
theorem dX0_mayBeBetter_40 : decode cX0_mayBeBetter 40 = .ok (.aload_n 0, 1) := by decide +kernel
theorem dX0_mayBeBetter_41 : decode cX0_mayBeBetter 41 = .ok (.getfield 23, 3) := by decide +kernel
theorem dX0_mayBeBetter_44 : decode cX0_mayBeBetter 44 = .ok (.getfield 49, 3) := by decide +kernel
theorem dX0_mayBeBetter_47 : decode cX0_mayBeBetter 47 = .ok (.if_icmp .ge 51, 3) := by decide +kernel
theorem dX0_mayBeBetter_50 : decode cX0_mayBeBetter 50 = .ok (.iload_n 3, 1) := by decide +kernel
theorem dX0_mayBeBetter_51 : decode cX0_mayBeBetter 51 = .ok (.aload_n 0, 1) := by decide +kernel
theorem dX0_mayBeBetter_52 : decode cX0_mayBeBetter 52 = .ok (.getfield 9, 3) := by decide +kernel
theorem dX0_mayBeBetter_55 : decode cX0_mayBeBetter 55 = .ok (.iload 6, 2) := by decide +kernel
theorem dX0_mayBeBetter_57 : decode cX0_mayBeBetter 57 = .ok (.iaload, 1) := by decide +kernel
theorem dX0_mayBeBetter_58 : decode cX0_mayBeBetter 58 = .ok (.isub, 1) := by decide +kernel
theorem dX0_mayBeBetter_59 : decode cX0_mayBeBetter 59 = .ok (.istore 7, 2) := by decide +kernel
theorem dX0_mayBeBetter_61 : decode cX0_mayBeBetter 61 = .ok (.iload 7, 2) := by decide +kernel
theorem dX0_mayBeBetter_63 : decode cX0_mayBeBetter 63 = .ok (.aload_n 0, 1) := by decide +kernel
theorem dX0_mayBeBetter_64 : decode cX0_mayBeBetter 64 = .ok (.getfield 17, 3) := by decide +kernel
theorem dX0_mayBeBetter_67 : decode cX0_mayBeBetter 67 = .ok (.iload 6, 2) := by decide +kernel
theorem dX0_mayBeBetter_69 : decode cX0_mayBeBetter 69 = .ok (.aaload, 1) := by decide +kernel
theorem dX0_mayBeBetter_70 : decode cX0_mayBeBetter 70 = .ok (.iload_n 1, 1) := by decide +kernel
theorem dX0_mayBeBetter_71 : decode cX0_mayBeBetter 71 = .ok (.iaload, 1) := by decide +kernel
theorem dX0_mayBeBetter_72 : decode cX0_mayBeBetter 72 = .ok (.if_icmp .le 5, 3) := by decide +kernel
theorem dX0_mayBeBetter_75 : decode cX0_mayBeBetter 75 = .ok (.iconst 0, 1) := by decide +kernel
theorem dX0_mayBeBetter_76 : decode cX0_mayBeBetter 76 = .ok (.ireturn, 1) := by decide +kernel
theorem dX0_mayBeBetter_77 : decode cX0_mayBeBetter 77 = .ok (.iload 7, 2) := by decide +kernel
theorem dX0_mayBeBetter_79 : decode cX0_mayBeBetter 79 = .ok (.ifCond .le 13, 3) := by decide +kernel
theorem dX0_mayBeBetter_82 : decode cX0_mayBeBetter 82 = .ok (.iload 4, 2) := by decide +kernel
theorem dX0_mayBeBetter_84 : decode cX0_mayBeBetter 84 = .ok (.iload 7, 2) := by decide +kernel
theorem dX0_mayBeBetter_86 : decode cX0_mayBeBetter 86 = .ok (.iadd, 1) := by decide +kernel
theorem dX0_mayBeBetter_87 : decode cX0_mayBeBetter 87 = .ok (.istore 4, 2) := by decide +kernel
theorem dX0_mayBeBetter_89 : decode cX0_mayBeBetter 89 = .ok (.iinc 5 1, 3) := by decide +kernel
theorem dX0_mayBeBetter_92 : decode cX0_mayBeBetter 92 = .ok (.iinc 6 1, 3) := by decide +kernel
theorem dX0_mayBeBetter_95 : decode cX0_mayBeBetter 95 = .ok (.goto (-57), 3) := by decide +kernel
theorem dX0_mayBeBetter_98 : decode cX0_mayBeBetter 98 = .ok (.iload 4, 2) := by decide +kernel
theorem dX0_mayBeBetter_100 : decode cX0_mayBeBetter 100 = .ok (.aload_n 0, 1) := by decide +kernel
theorem dX0_mayBeBetter_101 : decode cX0_mayBeBetter 101 = .ok (.getfield 20, 3) := by decide +kernel
theorem dX0_mayBeBetter_104 : decode cX0_mayBeBetter 104 = .ok (.iload_n 1, 1) := by decide +kernel
theorem dX0_mayBeBetter_105 : decode cX0_mayBeBetter 105 = .ok (.iaload, 1) := by decide +kernel
theorem dX0_mayBeBetter_106 : decode cX0_mayBeBetter 106 = .ok (.if_icmp .gt 13, 3) := by decide +kernel
theorem dX0_mayBeBetter_109 : decode cX0_mayBeBetter 109 = .ok (.iload 5, 2) := by decide +kernel
theorem dX0_mayBeBetter_111 : decode cX0_mayBeBetter 111 = .ok (.iload_n 1, 1) := by decide +kernel
theorem dX0_mayBeBetter_112 : decode cX0_mayBeBetter 112 = .ok (.if_icmp .gt 7, 3) := by decide +kernel
theorem dX0_mayBeBetter_115 : decode cX0_mayBeBetter 115 = .ok (.iconst 1, 1) := by decide +kernel
theorem dX0_mayBeBetter_116 : decode cX0_mayBeBetter 116 = .ok (.goto 4, 3) := by decide +kernel
theorem dX0_mayBeBetter_119 : decode cX0_mayBeBetter 119 = .ok (.iconst 0, 1) := by decide +kernel
theorem dX0_mayBeBetter_120 : decode cX0_mayBeBetter 120 = .ok (.ireturn, 1) := by decide +kernel
theorem dX0_leastSum_0 : decode cX0_leastSum 0 = .ok (.aload_n 0, 1) := by decide +kernel
theorem dX0_leastSum_1 : decode cX0_leastSum 1 = .ok (.getfield 9, 3) := by decide +kernel
theorem dX0_leastSum_4 : decode cX0_leastSum 4 = .ok (.iconst 0, 1) := by decide +kernel
theorem dX0_leastSum_5 : decode cX0_leastSum 5 = .ok (.iaload, 1) := by decide +kernel
theorem dX0_leastSum_6 : decode cX0_leastSum 6 = .ok (.istore_n 1, 1) := by decide +kernel
theorem dX0_leastSum_7 : decode cX0_leastSum 7 = .ok (.iconst 1, 1) := by decide +kernel
theorem dX0_leastSum_8 : decode cX0_leastSum 8 = .ok (.istore_n 2, 1) := by decide +kernel
theorem dX0_leastSum_9 : decode cX0_leastSum 9 = .ok (.iload_n 2, 1) := by decide +kernel
theorem dX0_leastSum_10 : decode cX0_leastSum 10 = .ok (.aload_n 0, 1) := by decide +kernel
theorem dX0_leastSum_11 : decode cX0_leastSum 11 = .ok (.getfield 23, 3) := by decide +kernel
theorem dX0_leastSum_14 : decode cX0_leastSum 14 = .ok (.getfield 49, 3) := by decide +kernel
theorem dX0_leastSum_17 : decode cX0_leastSum 17 = .ok (.if_icmp .ge 20, 3) := by decide +kernel
theorem dX0_leastSum_20 : decode cX0_leastSum 20 = .ok (.iload_n 1, 1) := by decide +kernel
theorem dX0_leastSum_21 : decode cX0_leastSum 21 = .ok (.aload_n 0, 1) := by decide +kernel
theorem dX0_leastSum_22 : decode cX0_leastSum 22 = .ok (.getfield 9, 3) := by decide +kernel
theorem dX0_leastSum_25 : decode cX0_leastSum 25 = .ok (.iload_n 2, 1) := by decide +kernel
theorem dX0_leastSum_26 : decode cX0_leastSum 26 = .ok (.iaload, 1) := by decide +kernel
theorem dX0_leastSum_27 : decode cX0_leastSum 27 = .ok (.invokestatic 61, 3) := by decide +kernel
theorem dX0_leastSum_30 : decode cX0_leastSum 30 = .ok (.istore_n 1, 1) := by decide +kernel
theorem dX0_leastSum_31 : decode cX0_leastSum 31 = .ok (.iinc 2 1, 3) := by decide +kernel
theorem dX0_leastSum_34 : decode cX0_leastSum 34 = .ok (.goto (-25), 3) := by decide +kernel
theorem dX0_leastSum_37 : decode cX0_leastSum 37 = .ok (.iload_n 1, 1) := by decide +kernel
theorem dX0_leastSum_38 : decode cX0_leastSum 38 = .ok (.ireturn, 1) := by decide +kernel
end
section
theorem dX1_init_0 : decode cX1_init 0 = .ok (.aload_n 0, 1) := by decide +kernel
theorem dX1_init_1 : decode cX1_init 1 = .ok (.invokespecial 3, 3) := by decide +kernel
theorem dX1_init_4 : decode cX1_init 4 = .ok (.aload_n 0, 1) := by decide +kernel
theorem dX1_init_5 : decode cX1_init 5 = .ok (.bipush 10, 2) := by decide +kernel
theorem dX1_init_7 : decode cX1_init 7 = .ok (.newarray .int, 2) := by decide +kernel
theorem dX1_init_9 : decode cX1_init 9 = .ok (.putfield 9, 3) := by decide +kernel
theorem dX1_init_12 : decode cX1_init 12 = .ok (.aload_n 0, 1) := by decide +kernel
theorem dX1_init_13 : decode cX1_init 13 = .ok (.bipush 10, 2) := by decide +kernel
theorem dX1_init_15 : decode cX1_init 15 = .ok (.newarray .int, 2) := by decide +kernel
theorem dX1_init_17 : decode cX1_init 17 = .ok (.putfield 15, 3) := by decide +kernel
theorem dX1_init_20 : decode cX1_init 20 = .ok (.aload_n 0, 1) := by decide +kernel
theorem dX1_init_21 : decode cX1_init 21 = .ok (.bipush 10, 2) := by decide +kernel
theorem dX1_init_23 : decode cX1_init 23 = .ok (.newarray .int, 2) := by decide +kernel
theorem dX1_init_25 : decode cX1_init 25 = .ok (.putfield 18, 3) := by decide +kernel
theorem dX1_init_28 : decode cX1_init 28 = .ok (.aload_n 0, 1) := by decide +kernel
theorem dX1_init_29 : decode cX1_init 29 = .ok (.bipush 10, 2) := by decide +kernel
theorem dX1_init_31 : decode cX1_init 31 = .ok (.newarray .int, 2) := by decide +kernel
theorem dX1_init_33 : decode cX1_init 33 = .ok (.putfield 21, 3) := by decide +kernel
theorem dX1_init_36 : decode cX1_init 36 = .ok (.aload_n 0, 1) := by decide +kernel
theorem dX1_init_37 : decode cX1_init 37 = .ok (.bipush 10, 2) := by decide +kernel
theorem dX1_init_39 : decode cX1_init 39 = .ok (.newarray .int, 2) := by decide +kernel
theorem dX1_init_41 : decode cX1_init 41 = .ok (.putfield 24, 3) := by decide +kernel
theorem dX1_init_44 : decode cX1_init 44 = .ok (.aload_n 0, 1) := by decide +kernel
theorem dX1_init_45 : decode cX1_init 45 = .ok (.iconst 4, 1) := by decide +kernel
theorem dX1_init_46 : decode cX1_init 46 = .ok (.bipush 10, 2) := by decide +kernel
theorem dX1_init_48 : decode cX1_init 48 = .ok (.multianewarray 27 2, 4) := by decide +kernel
theorem dX1_init_52 : decode cX1_init 52 = .ok (.putfield 29, 3) := by decide +kernel
theorem dX1_init_55 : decode cX1_init 55 = .ok (.aload_n 0, 1) := by decide +kernel
theorem dX1_init_56 : decode cX1_init 56 = .ok (.aload_n 1, 1) := by decide +kernel
theorem dX1_init_57 : decode cX1_init 57 = .ok (.putfield 32, 3) := by decide +kernel
theorem dX1_init_60 : decode cX1_init 60 = .ok (.return_, 1) := by decide +kernel
theorem dX1_hasHeir_0 : decode cX1_hasHeir 0 = .ok (.iload_n 1, 1) := by decide +kernel
theorem dX1_hasHeir_1 : decode cX1_hasHeir 1 = .ok (.ifCond .lt 15, 3) := by decide +kernel
theorem dX1_hasHeir_4 : decode cX1_hasHeir 4 = .ok (.iload_n 1, 1) := by decide +kernel
theorem dX1_hasHeir_5 : decode cX1_hasHeir 5 = .ok (.aload_n 0, 1) := by decide +kernel
theorem dX1_hasHeir_6 : decode cX1_hasHeir 6 = .ok (.getfield 36, 3) := by decide +kernel
theorem dX1_hasHeir_9 : decode cX1_hasHeir 9 = .ok (.if_icmp .ge 7, 3) := by decide +kernel
theorem dX1_hasHeir_12 : decode cX1_hasHeir 12 = .ok (.iconst 1, 1) := by decide +kernel
theorem dX1_hasHeir_13 : decode cX1_hasHeir 13 = .ok (.goto 4, 3) := by decide +kernel
theorem dX1_hasHeir_16 : decode cX1_hasHeir 16 = .ok (.iconst 0, 1) := by decide +kernel
theorem dX1_hasHeir_17 : decode cX1_hasHeir 17 = .ok (.ireturn, 1) := by decide +kernel
theorem dX1_hasThing_0 : decode cX1_hasThing 0 = .ok (.iload_n 1, 1) := by decide +kernel
theorem dX1_hasThing_1 : decode cX1_hasThing 1 = .ok (.ifCond .lt 15, 3) := by decide +kernel
theorem dX1_hasThing_4 : decode cX1_hasThing 4 = .ok (.iload_n 1, 1) := by decide +kernel
theorem dX1_hasThing_5 : decode cX1_hasThing 5 = .ok (.aload_n 0, 1) := by decide +kernel
theorem dX1_hasThing_6 : decode cX1_hasThing 6 = .ok (.getfield 40, 3) := by decide +kernel
theorem dX1_hasThing_9 : decode cX1_hasThing 9 = .ok (.if_icmp .ge 7, 3) := by decide +kernel
theorem dX1_hasThing_12 : decode cX1_hasThing 12 = .ok (.iconst 1, 1) := by decide +kernel
theorem dX1_hasThing_13 : decode cX1_hasThing 13 = .ok (.goto 4, 3) := by decide +kernel
theorem dX1_hasThing_16 : decode cX1_hasThing 16 = .ok (.iconst 0, 1) := by decide +kernel
theorem dX1_hasThing_17 : decode cX1_hasThing 17 = .ok (.ireturn, 1) := by decide +kernel
theorem dX1_addThing_0 : decode cX1_addThing 0 = .ok (.aload_n 0, 1) := by decide +kernel
theorem dX1_addThing_1 : decode cX1_addThing 1 = .ok (.getfield 40, 3) := by decide +kernel
theorem dX1_addThing_4 : decode cX1_addThing 4 = .ok (.istore 6, 2) := by decide +kernel
theorem dX1_addThing_6 : decode cX1_addThing 6 = .ok (.aload_n 0, 1) := by decide +kernel
theorem dX1_addThing_7 : decode cX1_addThing 7 = .ok (.getfield 9, 3) := by decide +kernel
theorem dX1_addThing_10 : decode cX1_addThing 10 = .ok (.iload 6, 2) := by decide +kernel
theorem dX1_addThing_12 : decode cX1_addThing 12 = .ok (.iload_n 1, 1) := by decide +kernel
theorem dX1_addThing_13 : decode cX1_addThing 13 = .ok (.iastore, 1) := by decide +kernel
theorem dX1_addThing_14 : decode cX1_addThing 14 = .ok (.aload_n 0, 1) := by decide +kernel
theorem dX1_addThing_15 : decode cX1_addThing 15 = .ok (.getfield 15, 3) := by decide +kernel
theorem dX1_addThing_18 : decode cX1_addThing 18 = .ok (.iload 6, 2) := by decide +kernel
theorem dX1_addThing_20 : decode cX1_addThing 20 = .ok (.iload_n 2, 1) := by decide +kernel
theorem dX1_addThing_21 : decode cX1_addThing 21 = .ok (.iastore, 1) := by decide +kernel
theorem dX1_addThing_22 : decode cX1_addThing 22 = .ok (.aload_n 0, 1) := by decide +kernel
theorem dX1_addThing_23 : decode cX1_addThing 23 = .ok (.getfield 18, 3) := by decide +kernel
theorem dX1_addThing_26 : decode cX1_addThing 26 = .ok (.iload 6, 2) := by decide +kernel
theorem dX1_addThing_28 : decode cX1_addThing 28 = .ok (.iload_n 3, 1) := by decide +kernel
theorem dX1_addThing_29 : decode cX1_addThing 29 = .ok (.iastore, 1) := by decide +kernel
theorem dX1_addThing_30 : decode cX1_addThing 30 = .ok (.aload_n 0, 1) := by decide +kernel
theorem dX1_addThing_31 : decode cX1_addThing 31 = .ok (.getfield 21, 3) := by decide +kernel
theorem dX1_addThing_34 : decode cX1_addThing 34 = .ok (.iload 6, 2) := by decide +kernel
theorem dX1_addThing_36 : decode cX1_addThing 36 = .ok (.iload 4, 2) := by decide +kernel
theorem dX1_addThing_38 : decode cX1_addThing 38 = .ok (.iastore, 1) := by decide +kernel
theorem dX1_addThing_39 : decode cX1_addThing 39 = .ok (.aload_n 0, 1) := by decide +kernel
theorem dX1_addThing_40 : decode cX1_addThing 40 = .ok (.getfield 24, 3) := by decide +kernel
theorem dX1_addThing_43 : decode cX1_addThing 43 = .ok (.iload 6, 2) := by decide +kernel
theorem dX1_addThing_45 : decode cX1_addThing 45 = .ok (.iload 5, 2) := by decide +kernel
theorem dX1_addThing_47 : decode cX1_addThing 47 = .ok (.iastore, 1) := by decide +kernel
theorem dX1_addThing_48 : decode cX1_addThing 48 = .ok (.iconst 0, 1) := by decide +kernel
theorem dX1_addThing_49 : decode cX1_addThing 49 = .ok (.istore 7, 2) := by decide +kernel
theorem dX1_addThing_51 : decode cX1_addThing 51 = .ok (.iload 7, 2) := by decide +kernel
theorem dX1_addThing_53 : decode cX1_addThing 53 = .ok (.iconst 4, 1) := by decide +kernel
theorem dX1_addThing_54 : decode cX1_addThing 54 = .ok (.if_icmp .ge 20, 3) := by decide +kernel
theorem dX1_addThing_57 : decode cX1_addThing 57 = .ok (.aload_n 0, 1) := by decide +kernel
theorem dX1_addThing_58 : decode cX1_addThing 58 = .ok (.getfield 29, 3) := by decide +kernel
theorem dX1_addThing_61 : decode cX1_addThing 61 = .ok (.iload 7, 2) := by decide +kernel
theorem dX1_addThing_63 : decode cX1_addThing 63 = .ok (.aaload, 1) := by decide +kernel
theorem dX1_addThing_64 : decode cX1_addThing 64 = .ok (.iload 6, 2) := by decide +kernel
theorem dX1_addThing_66 : decode cX1_addThing 66 = .ok (.iconst 0, 1) := by decide +kernel
theorem dX1_addThing_67 : decode cX1_addThing 67 = .ok (.iastore, 1) := by decide +kernel
theorem dX1_addThing_68 : decode cX1_addThing 68 = .ok (.iinc 7 1, 3) := by decide +kernel
theorem dX1_addThing_71 : decode cX1_addThing 71 = .ok (.goto (-20), 3) := by decide +kernel
theorem dX1_addThing_74 : decode cX1_addThing 74 = .ok (.aload_n 0, 1) := by decide +kernel
theorem dX1_addThing_75 : decode cX1_addThing 75 = .ok (.dup, 1) := by decide +kernel
theorem dX1_addThing_76 : decode cX1_addThing 76 = .ok (.getfield 40, 3) := by decide +kernel
theorem dX1_addThing_79 : decode cX1_addThing 79 = .ok (.iconst 1, 1) := by decide +kernel
theorem dX1_addThing_80 : decode cX1_addThing 80 = .ok (.iadd, 1) := by decide +kernel
theorem dX1_addThing_81 : decode cX1_addThing 81 = .ok (.putfield 40, 3) := by decide +kernel
theorem dX1_addThing_84 : decode cX1_addThing 84 = .ok (.iload 6, 2) := by decide +kernel
theorem dX1_addThing_86 : decode cX1_addThing 86 = .ok (.ireturn, 1) := by decide +kernel
theorem dX1_wayOf_0 : decode cX1_wayOf 0 = .ok (.aload_n 0, 1) := by decide +kernel
theorem dX1_wayOf_1 : decode cX1_wayOf 1 = .ok (.iload_n 1, 1) := by decide +kernel
theorem dX1_wayOf_2 : decode cX1_wayOf 2 = .ok (.iconst 4, 1) := by decide +kernel
theorem dX1_wayOf_3 : decode cX1_wayOf 3 = .ok (.invokevirtual 43, 3) := by decide +kernel
theorem dX1_wayOf_6 : decode cX1_wayOf 6 = .ok (.ifCond .eq 14, 3) := by decide +kernel
theorem dX1_wayOf_9 : decode cX1_wayOf 9 = .ok (.aload_n 0, 1) := by decide +kernel
theorem dX1_wayOf_10 : decode cX1_wayOf 10 = .ok (.getfield 32, 3) := by decide +kernel
theorem dX1_wayOf_13 : decode cX1_wayOf 13 = .ok (.getfield 47, 3) := by decide +kernel
theorem dX1_wayOf_16 : decode cX1_wayOf 16 = .ok (.bipush 6, 2) := by decide +kernel
theorem dX1_wayOf_18 : decode cX1_wayOf 18 = .ok (.iaload, 1) := by decide +kernel
theorem dX1_wayOf_19 : decode cX1_wayOf 19 = .ok (.ireturn, 1) := by decide +kernel
theorem dX1_wayOf_20 : decode cX1_wayOf 20 = .ok (.aload_n 0, 1) := by decide +kernel
theorem dX1_wayOf_21 : decode cX1_wayOf 21 = .ok (.iload_n 1, 1) := by decide +kernel
theorem dX1_wayOf_22 : decode cX1_wayOf 22 = .ok (.iconst 2, 1) := by decide +kernel
theorem dX1_wayOf_23 : decode cX1_wayOf 23 = .ok (.invokevirtual 43, 3) := by decide +kernel
theorem dX1_wayOf_26 : decode cX1_wayOf 26 = .ok (.ifCond .eq 13, 3) := by decide +kernel
theorem dX1_wayOf_29 : decode cX1_wayOf 29 = .ok (.aload_n 0, 1) := by decide +kernel
theorem dX1_wayOf_30 : decode cX1_wayOf 30 = .ok (.getfield 32, 3) := by decide +kernel
theorem dX1_wayOf_33 : decode cX1_wayOf 33 = .ok (.getfield 47, 3) := by decide +kernel
theorem dX1_wayOf_36 : decode cX1_wayOf 36 = .ok (.iconst 5, 1) := by decide +kernel
theorem dX1_wayOf_37 : decode cX1_wayOf 37 = .ok (.iaload, 1) := by decide +kernel
theorem dX1_wayOf_38 : decode cX1_wayOf 38 = .ok (.ireturn, 1) := by decide +kernel
theorem dX1_wayOf_39 : decode cX1_wayOf 39 = .ok (.aload_n 0, 1) := by decide +kernel
theorem dX1_wayOf_40 : decode cX1_wayOf 40 = .ok (.iload_n 1, 1) := by decide +kernel
theorem dX1_wayOf_41 : decode cX1_wayOf 41 = .ok (.invokevirtual 52, 3) := by decide +kernel
theorem dX1_wayOf_44 : decode cX1_wayOf 44 = .ok (.ifCond .eq 5, 3) := by decide +kernel
theorem dX1_wayOf_47 : decode cX1_wayOf 47 = .ok (.iconst 4, 1) := by decide +kernel
theorem dX1_wayOf_48 : decode cX1_wayOf 48 = .ok (.ireturn, 1) := by decide +kernel
theorem dX1_wayOf_49 : decode cX1_wayOf 49 = .ok (.aload_n 0, 1) := by decide +kernel
theorem dX1_wayOf_50 : decode cX1_wayOf 50 = .ok (.iload_n 1, 1) := by decide +kernel
theorem dX1_wayOf_51 : decode cX1_wayOf 51 = .ok (.bipush 8, 2) := by decide +kernel
theorem dX1_wayOf_53 : decode cX1_wayOf 53 = .ok (.invokevirtual 43, 3) := by decide +kernel
theorem dX1_wayOf_56 : decode cX1_wayOf 56 = .ok (.ifCond .eq 5, 3) := by decide +kernel
theorem dX1_wayOf_59 : decode cX1_wayOf 59 = .ok (.iconst 0, 1) := by decide +kernel
theorem dX1_wayOf_60 : decode cX1_wayOf 60 = .ok (.ireturn, 1) := by decide +kernel
theorem dX1_wayOf_61 : decode cX1_wayOf 61 = .ok (.aload_n 0, 1) := by decide +kernel
theorem dX1_wayOf_62 : decode cX1_wayOf 62 = .ok (.getfield 15, 3) := by decide +kernel
theorem dX1_wayOf_65 : decode cX1_wayOf 65 = .ok (.iload_n 1, 1) := by decide +kernel
theorem dX1_wayOf_66 : decode cX1_wayOf 66 = .ok (.iaload, 1) := by decide +kernel
theorem dX1_wayOf_67 : decode cX1_wayOf 67 = .ok (.aload_n 0, 1) := by decide +kernel
theorem dX1_wayOf_68 : decode cX1_wayOf 68 = .ok (.getfield 32, 3) := by decide +kernel
theorem dX1_wayOf_71 : decode cX1_wayOf 71 = .ok (.getfield 47, 3) := by decide +kernel
theorem dX1_wayOf_74 : decode cX1_wayOf 74 = .ok (.iconst 1, 1) := by decide +kernel
theorem dX1_wayOf_75 : decode cX1_wayOf 75 = .ok (.iaload, 1) := by decide +kernel
theorem dX1_wayOf_76 : decode cX1_wayOf 76 = .ok (.if_icmp .lt 5, 3) := by decide +kernel
theorem dX1_wayOf_79 : decode cX1_wayOf 79 = .ok (.iconst 1, 1) := by decide +kernel
theorem dX1_wayOf_80 : decode cX1_wayOf 80 = .ok (.ireturn, 1) := by decide +kernel
theorem dX1_wayOf_81 : decode cX1_wayOf 81 = .ok (.aload_n 0, 1) := by decide +kernel
theorem dX1_wayOf_82 : decode cX1_wayOf 82 = .ok (.iload_n 1, 1) := by decide +kernel
theorem dX1_wayOf_83 : decode cX1_wayOf 83 = .ok (.invokevirtual 56, 3) := by decide +kernel
theorem dX1_wayOf_86 : decode cX1_wayOf 86 = .ok (.ifCond .eq 5, 3) := by decide +kernel
theorem dX1_wayOf_89 : decode cX1_wayOf 89 = .ok (.iconst 0, 1) := by decide +kernel
theorem dX1_wayOf_90 : decode cX1_wayOf 90 = .ok (.ireturn, 1) := by decide +kernel
theorem dX1_wayOf_91 : decode cX1_wayOf 91 = .ok (.aload_n 0, 1) := by decide +kernel
theorem dX1_wayOf_92 : decode cX1_wayOf 92 = .ok (.getfield 15, 3) := by decide +kernel
theorem dX1_wayOf_95 : decode cX1_wayOf 95 = .ok (.iload_n 1, 1) := by decide +kernel
theorem dX1_wayOf_96 : decode cX1_wayOf 96 = .ok (.iaload, 1) := by decide +kernel
theorem dX1_wayOf_97 : decode cX1_wayOf 97 = .ok (.aload_n 0, 1) := by decide +kernel
theorem dX1_wayOf_98 : decode cX1_wayOf 98 = .ok (.getfield 32, 3) := by decide +kernel
theorem dX1_wayOf_101 : decode cX1_wayOf 101 = .ok (.getfield 47, 3) := by decide +kernel
theorem dX1_wayOf_104 : decode cX1_wayOf 104 = .ok (.iconst 2, 1) := by decide +kernel
theorem dX1_wayOf_105 : decode cX1_wayOf 105 = .ok (.iaload, 1) := by decide +kernel
theorem dX1_wayOf_106 : decode cX1_wayOf 106 = .ok (.if_icmp .lt 7, 3) := by decide +kernel
theorem dX1_wayOf_109 : decode cX1_wayOf 109 = .ok (.iconst 2, 1) := by decide +kernel
theorem dX1_wayOf_110 : decode cX1_wayOf 110 = .ok (.goto 4, 3) := by decide +kernel
theorem dX1_wayOf_113 : decode cX1_wayOf 113 = .ok (.iconst 3, 1) := by decide +kernel
theorem dX1_wayOf_114 : decode cX1_wayOf 114 = .ok (.ireturn, 1) := by decide +kernel
theorem dX1_hasMark_0 : decode cX1_hasMark 0 = .ok (.aload_n 0, 1) := by decide +kernel
theorem dX1_hasMark_1 : decode cX1_hasMark 1 = .ok (.getfield 24, 3) := by decide +kernel
theorem dX1_hasMark_4 : decode cX1_hasMark 4 = .ok (.iload_n 1, 1) := by decide +kernel
theorem dX1_hasMark_5 : decode cX1_hasMark 5 = .ok (.iaload, 1) := by decide +kernel
theorem dX1_hasMark_6 : decode cX1_hasMark 6 = .ok (.iload_n 2, 1) := by decide +kernel
theorem dX1_hasMark_7 : decode cX1_hasMark 7 = .ok (.iand, 1) := by decide +kernel
theorem dX1_hasMark_8 : decode cX1_hasMark 8 = .ok (.ifCond .eq 7, 3) := by decide +kernel
theorem dX1_hasMark_11 : decode cX1_hasMark 11 = .ok (.iconst 1, 1) := by decide +kernel
theorem dX1_hasMark_12 : decode cX1_hasMark 12 = .ok (.goto 4, 3) := by decide +kernel
theorem dX1_hasMark_15 : decode cX1_hasMark 15 = .ok (.iconst 0, 1) := by decide +kernel
theorem dX1_hasMark_16 : decode cX1_hasMark 16 = .ok (.ireturn, 1) := by decide +kernel
theorem dX1_isKeptPaper_0 : decode cX1_isKeptPaper 0 = .ok (.aload_n 0, 1) := by decide +kernel
theorem dX1_isKeptPaper_1 : decode cX1_isKeptPaper 1 = .ok (.iload_n 1, 1) := by decide +kernel
theorem dX1_isKeptPaper_2 : decode cX1_isKeptPaper 2 = .ok (.iconst 1, 1) := by decide +kernel
theorem dX1_isKeptPaper_3 : decode cX1_isKeptPaper 3 = .ok (.invokevirtual 43, 3) := by decide +kernel
theorem dX1_isKeptPaper_6 : decode cX1_isKeptPaper 6 = .ok (.ifCond .eq 25, 3) := by decide +kernel
theorem dX1_isKeptPaper_9 : decode cX1_isKeptPaper 9 = .ok (.aload_n 0, 1) := by decide +kernel
theorem dX1_isKeptPaper_10 : decode cX1_isKeptPaper 10 = .ok (.getfield 21, 3) := by decide +kernel
theorem dX1_isKeptPaper_13 : decode cX1_isKeptPaper 13 = .ok (.iload_n 1, 1) := by decide +kernel
theorem dX1_isKeptPaper_14 : decode cX1_isKeptPaper 14 = .ok (.iaload, 1) := by decide +kernel
theorem dX1_isKeptPaper_15 : decode cX1_isKeptPaper 15 = .ok (.aload_n 0, 1) := by decide +kernel
theorem dX1_isKeptPaper_16 : decode cX1_isKeptPaper 16 = .ok (.getfield 32, 3) := by decide +kernel
theorem dX1_isKeptPaper_19 : decode cX1_isKeptPaper 19 = .ok (.getfield 47, 3) := by decide +kernel
theorem dX1_isKeptPaper_22 : decode cX1_isKeptPaper 22 = .ok (.iconst 0, 1) := by decide +kernel
theorem dX1_isKeptPaper_23 : decode cX1_isKeptPaper 23 = .ok (.iaload, 1) := by decide +kernel
theorem dX1_isKeptPaper_24 : decode cX1_isKeptPaper 24 = .ok (.if_icmp .gt 7, 3) := by decide +kernel
theorem dX1_isKeptPaper_27 : decode cX1_isKeptPaper 27 = .ok (.iconst 1, 1) := by decide +kernel
theorem dX1_isKeptPaper_28 : decode cX1_isKeptPaper 28 = .ok (.goto 4, 3) := by decide +kernel
theorem dX1_isKeptPaper_31 : decode cX1_isKeptPaper 31 = .ok (.iconst 0, 1) := by decide +kernel
theorem dX1_isKeptPaper_32 : decode cX1_isKeptPaper 32 = .ok (.ireturn, 1) := by decide +kernel
theorem dX1_isWanted_0 : decode cX1_isWanted 0 = .ok (.iconst 0, 1) := by decide +kernel
theorem dX1_isWanted_1 : decode cX1_isWanted 1 = .ok (.istore_n 2, 1) := by decide +kernel
theorem dX1_isWanted_2 : decode cX1_isWanted 2 = .ok (.iload_n 2, 1) := by decide +kernel
theorem dX1_isWanted_3 : decode cX1_isWanted 3 = .ok (.aload_n 0, 1) := by decide +kernel
theorem dX1_isWanted_4 : decode cX1_isWanted 4 = .ok (.getfield 36, 3) := by decide +kernel
theorem dX1_isWanted_7 : decode cX1_isWanted 7 = .ok (.if_icmp .ge 22, 3) := by decide +kernel
theorem dX1_isWanted_10 : decode cX1_isWanted 10 = .ok (.aload_n 0, 1) := by decide +kernel
theorem dX1_isWanted_11 : decode cX1_isWanted 11 = .ok (.getfield 29, 3) := by decide +kernel
theorem dX1_isWanted_14 : decode cX1_isWanted 14 = .ok (.iload_n 2, 1) := by decide +kernel
theorem dX1_isWanted_15 : decode cX1_isWanted 15 = .ok (.aaload, 1) := by decide +kernel
theorem dX1_isWanted_16 : decode cX1_isWanted 16 = .ok (.iload_n 1, 1) := by decide +kernel
theorem dX1_isWanted_17 : decode cX1_isWanted 17 = .ok (.iaload, 1) := by decide +kernel
theorem dX1_isWanted_18 : decode cX1_isWanted 18 = .ok (.ifCond .le 5, 3) := by decide +kernel
theorem dX1_isWanted_21 : decode cX1_isWanted 21 = .ok (.iconst 1, 1) := by decide +kernel
theorem dX1_isWanted_22 : decode cX1_isWanted 22 = .ok (.ireturn, 1) := by decide +kernel
theorem dX1_isWanted_23 : decode cX1_isWanted 23 = .ok (.iinc 2 1, 3) := by decide +kernel
theorem dX1_isWanted_26 : decode cX1_isWanted 26 = .ok (.goto (-24), 3) := by decide +kernel
theorem dX1_isWanted_29 : decode cX1_isWanted 29 = .ok (.iconst 0, 1) := by decide +kernel
theorem dX1_isWanted_30 : decode cX1_isWanted 30 = .ok (.ireturn, 1) := by decide +kernel
theorem dX1_countOnWay_0 : decode cX1_countOnWay 0 = .ok (.iconst 0, 1) := by decide +kernel
theorem dX1_countOnWay_1 : decode cX1_countOnWay 1 = .ok (.istore_n 2, 1) := by decide +kernel
theorem dX1_countOnWay_2 : decode cX1_countOnWay 2 = .ok (.iconst 0, 1) := by decide +kernel
theorem dX1_countOnWay_3 : decode cX1_countOnWay 3 = .ok (.istore_n 3, 1) := by decide +kernel
theorem dX1_countOnWay_4 : decode cX1_countOnWay 4 = .ok (.iload_n 3, 1) := by decide +kernel
theorem dX1_countOnWay_5 : decode cX1_countOnWay 5 = .ok (.aload_n 0, 1) := by decide +kernel
theorem dX1_countOnWay_6 : decode cX1_countOnWay 6 = .ok (.getfield 40, 3) := by decide +kernel
theorem dX1_countOnWay_9 : decode cX1_countOnWay 9 = .ok (.if_icmp .ge 21, 3) := by decide +kernel
theorem dX1_countOnWay_12 : decode cX1_countOnWay 12 = .ok (.aload_n 0, 1) := by decide +kernel
theorem dX1_countOnWay_13 : decode cX1_countOnWay 13 = .ok (.iload_n 3, 1) := by decide +kernel
theorem dX1_countOnWay_14 : decode cX1_countOnWay 14 = .ok (.invokevirtual 59, 3) := by decide +kernel
theorem dX1_countOnWay_17 : decode cX1_countOnWay 17 = .ok (.iload_n 1, 1) := by decide +kernel
theorem dX1_countOnWay_18 : decode cX1_countOnWay 18 = .ok (.if_icmp .ne 6, 3) := by decide +kernel
theorem dX1_countOnWay_21 : decode cX1_countOnWay 21 = .ok (.iinc 2 1, 3) := by decide +kernel
theorem dX1_countOnWay_24 : decode cX1_countOnWay 24 = .ok (.iinc 3 1, 3) := by decide +kernel
theorem dX1_countOnWay_27 : decode cX1_countOnWay 27 = .ok (.goto (-23), 3) := by decide +kernel
theorem dX1_countOnWay_30 : decode cX1_countOnWay 30 = .ok (.iload_n 2, 1) := by decide +kernel
theorem dX1_countOnWay_31 : decode cX1_countOnWay 31 = .ok (.ireturn, 1) := by decide +kernel
theorem dX1_sumOnWay_0 : decode cX1_sumOnWay 0 = .ok (.iconst 0, 1) := by decide +kernel
theorem dX1_sumOnWay_1 : decode cX1_sumOnWay 1 = .ok (.istore_n 3, 1) := by decide +kernel
theorem dX1_sumOnWay_2 : decode cX1_sumOnWay 2 = .ok (.iconst 0, 1) := by decide +kernel
theorem dX1_sumOnWay_3 : decode cX1_sumOnWay 3 = .ok (.istore 4, 2) := by decide +kernel
theorem dX1_sumOnWay_5 : decode cX1_sumOnWay 5 = .ok (.iload 4, 2) := by decide +kernel
theorem dX1_sumOnWay_7 : decode cX1_sumOnWay 7 = .ok (.aload_n 0, 1) := by decide +kernel
theorem dX1_sumOnWay_8 : decode cX1_sumOnWay 8 = .ok (.getfield 40, 3) := by decide +kernel
theorem dX1_sumOnWay_11 : decode cX1_sumOnWay 11 = .ok (.if_icmp .ge 26, 3) := by decide +kernel
theorem dX1_sumOnWay_14 : decode cX1_sumOnWay 14 = .ok (.aload_n 0, 1) := by decide +kernel
theorem dX1_sumOnWay_15 : decode cX1_sumOnWay 15 = .ok (.iload 4, 2) := by decide +kernel
theorem dX1_sumOnWay_17 : decode cX1_sumOnWay 17 = .ok (.invokevirtual 59, 3) := by decide +kernel
theorem dX1_sumOnWay_20 : decode cX1_sumOnWay 20 = .ok (.iload_n 1, 1) := by decide +kernel
theorem dX1_sumOnWay_21 : decode cX1_sumOnWay 21 = .ok (.if_icmp .ne 10, 3) := by decide +kernel
theorem dX1_sumOnWay_24 : decode cX1_sumOnWay 24 = .ok (.iload_n 3, 1) := by decide +kernel
theorem dX1_sumOnWay_25 : decode cX1_sumOnWay 25 = .ok (.aload_n 2, 1) := by decide +kernel
theorem dX1_sumOnWay_26 : decode cX1_sumOnWay 26 = .ok (.iload 4, 2) := by decide +kernel
theorem dX1_sumOnWay_28 : decode cX1_sumOnWay 28 = .ok (.iaload, 1) := by decide +kernel
theorem dX1_sumOnWay_29 : decode cX1_sumOnWay 29 = .ok (.iadd, 1) := by decide +kernel
theorem dX1_sumOnWay_30 : decode cX1_sumOnWay 30 = .ok (.istore_n 3, 1) := by decide +kernel
theorem dX1_sumOnWay_31 : decode cX1_sumOnWay 31 = .ok (.iinc 4 1, 3) := by decide +kernel
theorem dX1_sumOnWay_34 : decode cX1_sumOnWay 34 = .ok (.goto (-29), 3) := by decide +kernel
theorem dX1_sumOnWay_37 : decode cX1_sumOnWay 37 = .ok (.iload_n 3, 1) := by decide +kernel
theorem dX1_sumOnWay_38 : decode cX1_sumOnWay 38 = .ok (.ireturn, 1) := by decide +kernel
theorem dX1_secondLook_0 : decode cX1_secondLook 0 = .ok (.aload_n 0, 1) := by decide +kernel
theorem dX1_secondLook_1 : decode cX1_secondLook 1 = .ok (.iload_n 1, 1) := by decide +kernel
theorem dX1_secondLook_2 : decode cX1_secondLook 2 = .ok (.bipush 14, 2) := by decide +kernel
theorem dX1_secondLook_4 : decode cX1_secondLook 4 = .ok (.invokevirtual 43, 3) := by decide +kernel
theorem dX1_secondLook_7 : decode cX1_secondLook 7 = .ok (.ifCond .ne 11, 3) := by decide +kernel
theorem dX1_secondLook_10 : decode cX1_secondLook 10 = .ok (.aload_n 0, 1) := by decide +kernel
theorem dX1_secondLook_11 : decode cX1_secondLook 11 = .ok (.iload_n 1, 1) := by decide +kernel
theorem dX1_secondLook_12 : decode cX1_secondLook 12 = .ok (.invokevirtual 52, 3) := by decide +kernel
theorem dX1_secondLook_15 : decode cX1_secondLook 15 = .ok (.ifCond .eq 5, 3) := by decide +kernel
theorem dX1_secondLook_18 : decode cX1_secondLook 18 = .ok (.iconst 0, 1) := by decide +kernel
theorem dX1_secondLook_19 : decode cX1_secondLook 19 = .ok (.ireturn, 1) := by decide +kernel
theorem dX1_secondLook_20 : decode cX1_secondLook 20 = .ok (.aload_n 0, 1) := by decide +kernel
theorem dX1_secondLook_21 : decode cX1_secondLook 21 = .ok (.getfield 32, 3) := by decide +kernel
theorem dX1_secondLook_24 : decode cX1_secondLook 24 = .ok (.getfield 47, 3) := by decide +kernel
theorem dX1_secondLook_27 : decode cX1_secondLook 27 = .ok (.iconst 1, 1) := by decide +kernel
theorem dX1_secondLook_28 : decode cX1_secondLook 28 = .ok (.iaload, 1) := by decide +kernel
theorem dX1_secondLook_29 : decode cX1_secondLook 29 = .ok (.istore_n 2, 1) := by decide +kernel
theorem dX1_secondLook_30 : decode cX1_secondLook 30 = .ok (.aload_n 0, 1) := by decide +kernel
theorem dX1_secondLook_31 : decode cX1_secondLook 31 = .ok (.getfield 15, 3) := by decide +kernel
theorem dX1_secondLook_34 : decode cX1_secondLook 34 = .ok (.iload_n 1, 1) := by decide +kernel
theorem dX1_secondLook_35 : decode cX1_secondLook 35 = .ok (.iaload, 1) := by decide +kernel
theorem dX1_secondLook_36 : decode cX1_secondLook 36 = .ok (.iload_n 2, 1) := by decide +kernel
theorem dX1_secondLook_37 : decode cX1_secondLook 37 = .ok (.if_icmp .ge 13, 3) := by decide +kernel
theorem dX1_secondLook_40 : decode cX1_secondLook 40 = .ok (.aload_n 0, 1) := by decide +kernel
theorem dX1_secondLook_41 : decode cX1_secondLook 41 = .ok (.getfield 18, 3) := by decide +kernel
theorem dX1_secondLook_44 : decode cX1_secondLook 44 = .ok (.iload_n 1, 1) := by decide +kernel
theorem dX1_secondLook_45 : decode cX1_secondLook 45 = .ok (.iaload, 1) := by decide +kernel
theorem dX1_secondLook_46 : decode cX1_secondLook 46 = .ok (.iload_n 2, 1) := by decide +kernel
theorem dX1_secondLook_47 : decode cX1_secondLook 47 = .ok (.if_icmp .ge 5, 3) := by decide +kernel
theorem dX1_secondLook_50 : decode cX1_secondLook 50 = .ok (.iconst 0, 1) := by decide +kernel
theorem dX1_secondLook_51 : decode cX1_secondLook 51 = .ok (.ireturn, 1) := by decide +kernel
theorem dX1_secondLook_52 : decode cX1_secondLook 52 = .ok (.iconst 0, 1) := by decide +kernel
theorem dX1_secondLook_53 : decode cX1_secondLook 53 = .ok (.aload_n 0, 1) := by decide +kernel
theorem dX1_secondLook_54 : decode cX1_secondLook 54 = .ok (.getfield 18, 3) := by decide +kernel
theorem dX1_secondLook_57 : decode cX1_secondLook 57 = .ok (.iload_n 1, 1) := by decide +kernel
theorem dX1_secondLook_58 : decode cX1_secondLook 58 = .ok (.iaload, 1) := by decide +kernel
theorem dX1_secondLook_59 : decode cX1_secondLook 59 = .ok (.iload_n 2, 1) := by decide +kernel
theorem dX1_secondLook_60 : decode cX1_secondLook 60 = .ok (.isub, 1) := by decide +kernel
theorem dX1_secondLook_61 : decode cX1_secondLook 61 = .ok (.aload_n 0, 1) := by decide +kernel
theorem dX1_secondLook_62 : decode cX1_secondLook 62 = .ok (.getfield 32, 3) := by decide +kernel
theorem dX1_secondLook_65 : decode cX1_secondLook 65 = .ok (.getfield 47, 3) := by decide +kernel
theorem dX1_secondLook_68 : decode cX1_secondLook 68 = .ok (.iconst 4, 1) := by decide +kernel
theorem dX1_secondLook_69 : decode cX1_secondLook 69 = .ok (.iaload, 1) := by decide +kernel
theorem dX1_secondLook_70 : decode cX1_secondLook 70 = .ok (.isub, 1) := by decide +kernel
theorem dX1_secondLook_71 : decode cX1_secondLook 71 = .ok (.invokestatic 63, 3) := by decide +kernel
theorem dX1_secondLook_74 : decode cX1_secondLook 74 = .ok (.ireturn, 1) := by decide +kernel
theorem dX1_keenest_0 : decode cX1_keenest 0 = .ok (.iconst 0, 1) := by decide +kernel
theorem dX1_keenest_1 : decode cX1_keenest 1 = .ok (.istore_n 2, 1) := by decide +kernel
theorem dX1_keenest_2 : decode cX1_keenest 2 = .ok (.iconst 1, 1) := by decide +kernel
theorem dX1_keenest_3 : decode cX1_keenest 3 = .ok (.istore_n 3, 1) := by decide +kernel
theorem dX1_keenest_4 : decode cX1_keenest 4 = .ok (.iload_n 3, 1) := by decide +kernel
theorem dX1_keenest_5 : decode cX1_keenest 5 = .ok (.aload_n 0, 1) := by decide +kernel
theorem dX1_keenest_6 : decode cX1_keenest 6 = .ok (.getfield 36, 3) := by decide +kernel
theorem dX1_keenest_9 : decode cX1_keenest 9 = .ok (.if_icmp .ge 30, 3) := by decide +kernel
theorem dX1_keenest_12 : decode cX1_keenest 12 = .ok (.aload_n 0, 1) := by decide +kernel
theorem dX1_keenest_13 : decode cX1_keenest 13 = .ok (.getfield 29, 3) := by decide +kernel
theorem dX1_keenest_16 : decode cX1_keenest 16 = .ok (.iload_n 3, 1) := by decide +kernel
theorem dX1_keenest_17 : decode cX1_keenest 17 = .ok (.aaload, 1) := by decide +kernel
theorem dX1_keenest_18 : decode cX1_keenest 18 = .ok (.iload_n 1, 1) := by decide +kernel
theorem dX1_keenest_19 : decode cX1_keenest 19 = .ok (.iaload, 1) := by decide +kernel
theorem dX1_keenest_20 : decode cX1_keenest 20 = .ok (.aload_n 0, 1) := by decide +kernel
theorem dX1_keenest_21 : decode cX1_keenest 21 = .ok (.getfield 29, 3) := by decide +kernel
theorem dX1_keenest_24 : decode cX1_keenest 24 = .ok (.iload_n 2, 1) := by decide +kernel
theorem dX1_keenest_25 : decode cX1_keenest 25 = .ok (.aaload, 1) := by decide +kernel
theorem dX1_keenest_26 : decode cX1_keenest 26 = .ok (.iload_n 1, 1) := by decide +kernel
theorem dX1_keenest_27 : decode cX1_keenest 27 = .ok (.iaload, 1) := by decide +kernel
theorem dX1_keenest_28 : decode cX1_keenest 28 = .ok (.if_icmp .le 5, 3) := by decide +kernel
theorem dX1_keenest_31 : decode cX1_keenest 31 = .ok (.iload_n 3, 1) := by decide +kernel
theorem dX1_keenest_32 : decode cX1_keenest 32 = .ok (.istore_n 2, 1) := by decide +kernel
theorem dX1_keenest_33 : decode cX1_keenest 33 = .ok (.iinc 3 1, 3) := by decide +kernel
theorem dX1_keenest_36 : decode cX1_keenest 36 = .ok (.goto (-32), 3) := by decide +kernel
theorem dX1_keenest_39 : decode cX1_keenest 39 = .ok (.iload_n 2, 1) := by decide +kernel
theorem dX1_keenest_40 : decode cX1_keenest 40 = .ok (.ireturn, 1) := by decide +kernel
theorem dX1_takeWorths_0 : decode cX1_takeWorths 0 = .ok (.iconst 0, 1) := by decide +kernel
theorem dX1_takeWorths_1 : decode cX1_takeWorths 1 = .ok (.istore 4, 2) := by decide +kernel
theorem dX1_takeWorths_3 : decode cX1_takeWorths 3 = .ok (.iconst 0, 1) := by decide +kernel
theorem dX1_takeWorths_4 : decode cX1_takeWorths 4 = .ok (.istore 5, 2) := by decide +kernel
theorem dX1_takeWorths_6 : decode cX1_takeWorths 6 = .ok (.iload 5, 2) := by decide +kernel
theorem dX1_takeWorths_8 : decode cX1_takeWorths 8 = .ok (.aload_n 0, 1) := by decide +kernel
theorem dX1_takeWorths_9 : decode cX1_takeWorths 9 = .ok (.getfield 40, 3) := by decide +kernel
theorem dX1_takeWorths_12 : decode cX1_takeWorths 12 = .ok (.if_icmp .ge 48, 3) := by decide +kernel
theorem dX1_takeWorths_15 : decode cX1_takeWorths 15 = .ok (.aload_n 2, 1) := by decide +kernel
theorem dX1_takeWorths_16 : decode cX1_takeWorths 16 = .ok (.getfield 69, 3) := by decide +kernel
theorem dX1_takeWorths_19 : decode cX1_takeWorths 19 = .ok (.iload_n 3, 1) := by decide +kernel
theorem dX1_takeWorths_20 : decode cX1_takeWorths 20 = .ok (.iload 5, 2) := by decide +kernel
theorem dX1_takeWorths_22 : decode cX1_takeWorths 22 = .ok (.iadd, 1) := by decide +kernel
theorem dX1_takeWorths_23 : decode cX1_takeWorths 23 = .ok (.iaload, 1) := by decide +kernel
theorem dX1_takeWorths_24 : decode cX1_takeWorths 24 = .ok (.istore 6, 2) := by decide +kernel
theorem dX1_takeWorths_26 : decode cX1_takeWorths 26 = .ok (.aload_n 0, 1) := by decide +kernel
theorem dX1_takeWorths_27 : decode cX1_takeWorths 27 = .ok (.getfield 29, 3) := by decide +kernel
theorem dX1_takeWorths_30 : decode cX1_takeWorths 30 = .ok (.iload_n 1, 1) := by decide +kernel
theorem dX1_takeWorths_31 : decode cX1_takeWorths 31 = .ok (.aaload, 1) := by decide +kernel
theorem dX1_takeWorths_32 : decode cX1_takeWorths 32 = .ok (.iload 5, 2) := by decide +kernel
theorem dX1_takeWorths_34 : decode cX1_takeWorths 34 = .ok (.iaload, 1) := by decide +kernel
theorem dX1_takeWorths_35 : decode cX1_takeWorths 35 = .ok (.iload 6, 2) := by decide +kernel
theorem dX1_takeWorths_37 : decode cX1_takeWorths 37 = .ok (.if_icmp .eq 17, 3) := by decide +kernel
theorem dX1_takeWorths_40 : decode cX1_takeWorths 40 = .ok (.aload_n 0, 1) := by decide +kernel
theorem dX1_takeWorths_41 : decode cX1_takeWorths 41 = .ok (.getfield 29, 3) := by decide +kernel
theorem dX1_takeWorths_44 : decode cX1_takeWorths 44 = .ok (.iload_n 1, 1) := by decide +kernel
theorem dX1_takeWorths_45 : decode cX1_takeWorths 45 = .ok (.aaload, 1) := by decide +kernel
theorem dX1_takeWorths_46 : decode cX1_takeWorths 46 = .ok (.iload 5, 2) := by decide +kernel
theorem dX1_takeWorths_48 : decode cX1_takeWorths 48 = .ok (.iload 6, 2) := by decide +kernel
theorem dX1_takeWorths_50 : decode cX1_takeWorths 50 = .ok (.iastore, 1) := by decide +kernel
theorem dX1_takeWorths_51 : decode cX1_takeWorths 51 = .ok (.iinc 4 1, 3) := by decide +kernel
theorem dX1_takeWorths_54 : decode cX1_takeWorths 54 = .ok (.iinc 5 1, 3) := by decide +kernel
theorem dX1_takeWorths_57 : decode cX1_takeWorths 57 = .ok (.goto (-51), 3) := by decide +kernel
theorem dX1_takeWorths_60 : decode cX1_takeWorths 60 = .ok (.iload 4, 2) := by decide +kernel
theorem dX1_takeWorths_62 : decode cX1_takeWorths 62 = .ok (.ireturn, 1) := by decide +kernel
end
section
theorem dX2_init_0 : decode cX2_init 0 = .ok (.aload_n 0, 1) := by decide +kernel
theorem dX2_init_1 : decode cX2_init 1 = .ok (.invokespecial 3, 3) := by decide +kernel
theorem dX2_init_4 : decode cX2_init 4 = .ok (.aload_n 0, 1) := by decide +kernel
theorem dX2_init_5 : decode cX2_init 5 = .ok (.getstatic 9, 3) := by decide +kernel
theorem dX2_init_8 : decode cX2_init 8 = .ok (.invokevirtual 13, 3) := by decide +kernel
theorem dX2_init_11 : decode cX2_init 11 = .ok (.checkcast 14, 3) := by decide +kernel
theorem dX2_init_14 : decode cX2_init 14 = .ok (.putfield 18, 3) := by decide +kernel
theorem dX2_init_17 : decode cX2_init 17 = .ok (.aload_n 0, 1) := by decide +kernel
theorem dX2_init_18 : decode cX2_init 18 = .ok (.bipush 7, 2) := by decide +kernel
theorem dX2_init_20 : decode cX2_init 20 = .ok (.newarray .int, 2) := by decide +kernel
theorem dX2_init_22 : decode cX2_init 22 = .ok (.putfield 23, 3) := by decide +kernel
theorem dX2_init_25 : decode cX2_init 25 = .ok (.aload_n 0, 1) := by decide +kernel
theorem dX2_init_26 : decode cX2_init 26 = .ok (.new 26, 3) := by decide +kernel
theorem dX2_init_29 : decode cX2_init 29 = .ok (.dup, 1) := by decide +kernel
theorem dX2_init_30 : decode cX2_init 30 = .ok (.aload_n 1, 1) := by decide +kernel
theorem dX2_init_31 : decode cX2_init 31 = .ok (.invokespecial 28, 3) := by decide +kernel
theorem dX2_init_34 : decode cX2_init 34 = .ok (.putfield 31, 3) := by decide +kernel
theorem dX2_init_37 : decode cX2_init 37 = .ok (.return_, 1) := by decide +kernel
theorem dX2_readTape_0 : decode cX2_readTape 0 = .ok (.aload_n 0, 1) := by decide +kernel
theorem dX2_readTape_1 : decode cX2_readTape 1 = .ok (.getfield 31, 3) := by decide +kernel
theorem dX2_readTape_4 : decode cX2_readTape 4 = .ok (.invokevirtual 35, 3) := by decide +kernel
theorem dX2_readTape_7 : decode cX2_readTape 7 = .ok (.getstatic 9, 3) := by decide +kernel
theorem dX2_readTape_10 : decode cX2_readTape 10 = .ok (.iconst 0, 1) := by decide +kernel
theorem dX2_readTape_11 : decode cX2_readTape 11 = .ok (.aload_n 0, 1) := by decide +kernel
theorem dX2_readTape_12 : decode cX2_readTape 12 = .ok (.getfield 23, 3) := by decide +kernel
theorem dX2_readTape_15 : decode cX2_readTape 15 = .ok (.iconst 0, 1) := by decide +kernel
theorem dX2_readTape_16 : decode cX2_readTape 16 = .ok (.bipush 7, 2) := by decide +kernel
theorem dX2_readTape_18 : decode cX2_readTape 18 = .ok (.invokestatic 38, 3) := by decide +kernel
theorem dX2_readTape_21 : decode cX2_readTape 21 = .ok (.aload_n 0, 1) := by decide +kernel
theorem dX2_readTape_22 : decode cX2_readTape 22 = .ok (.iconst 0, 1) := by decide +kernel
theorem dX2_readTape_23 : decode cX2_readTape 23 = .ok (.putfield 44, 3) := by decide +kernel
theorem dX2_readTape_26 : decode cX2_readTape 26 = .ok (.aload_n 0, 1) := by decide +kernel
theorem dX2_readTape_27 : decode cX2_readTape 27 = .ok (.iconst 0, 1) := by decide +kernel
theorem dX2_readTape_28 : decode cX2_readTape 28 = .ok (.putfield 48, 3) := by decide +kernel
theorem dX2_readTape_31 : decode cX2_readTape 31 = .ok (.iconst 0, 1) := by decide +kernel
theorem dX2_readTape_32 : decode cX2_readTape 32 = .ok (.istore_n 1, 1) := by decide +kernel
theorem dX2_readTape_33 : decode cX2_readTape 33 = .ok (.iload_n 1, 1) := by decide +kernel
theorem dX2_readTape_34 : decode cX2_readTape 34 = .ok (.bipush 7, 2) := by decide +kernel
theorem dX2_readTape_36 : decode cX2_readTape 36 = .ok (.if_icmp .gt 55, 3) := by decide +kernel
theorem dX2_readTape_39 : decode cX2_readTape 39 = .ok (.aload_n 0, 1) := by decide +kernel
theorem dX2_readTape_40 : decode cX2_readTape 40 = .ok (.getfield 31, 3) := by decide +kernel
theorem dX2_readTape_43 : decode cX2_readTape 43 = .ok (.invokevirtual 51, 3) := by decide +kernel
theorem dX2_readTape_46 : decode cX2_readTape 46 = .ok (.aload_n 0, 1) := by decide +kernel
theorem dX2_readTape_47 : decode cX2_readTape 47 = .ok (.getfield 31, 3) := by decide +kernel
theorem dX2_readTape_50 : decode cX2_readTape 50 = .ok (.getfield 54, 3) := by decide +kernel
theorem dX2_readTape_53 : decode cX2_readTape 53 = .ok (.ifCond .ne 6, 3) := by decide +kernel
theorem dX2_readTape_56 : decode cX2_readTape 56 = .ok (.goto 35, 3) := by decide +kernel
theorem dX2_readTape_59 : decode cX2_readTape 59 = .ok (.aload_n 0, 1) := by decide +kernel
theorem dX2_readTape_60 : decode cX2_readTape 60 = .ok (.aload_n 0, 1) := by decide +kernel
theorem dX2_readTape_61 : decode cX2_readTape 61 = .ok (.invokevirtual 57, 3) := by decide +kernel
theorem dX2_readTape_64 : decode cX2_readTape 64 = .ok (.putfield 48, 3) := by decide +kernel
theorem dX2_readTape_67 : decode cX2_readTape 67 = .ok (.aload_n 0, 1) := by decide +kernel
theorem dX2_readTape_68 : decode cX2_readTape 68 = .ok (.getfield 48, 3) := by decide +kernel
theorem dX2_readTape_71 : decode cX2_readTape 71 = .ok (.ifCond .eq 14, 3) := by decide +kernel
theorem dX2_readTape_74 : decode cX2_readTape 74 = .ok (.bipush (-10), 2) := by decide +kernel
theorem dX2_readTape_76 : decode cX2_readTape 76 = .ok (.aload_n 0, 1) := by decide +kernel
theorem dX2_readTape_77 : decode cX2_readTape 77 = .ok (.getfield 31, 3) := by decide +kernel
theorem dX2_readTape_80 : decode cX2_readTape 80 = .ok (.getfield 61, 3) := by decide +kernel
theorem dX2_readTape_83 : decode cX2_readTape 83 = .ok (.isub, 1) := by decide +kernel
theorem dX2_readTape_84 : decode cX2_readTape 84 = .ok (.ireturn, 1) := by decide +kernel
theorem dX2_readTape_85 : decode cX2_readTape 85 = .ok (.iinc 1 1, 3) := by decide +kernel
theorem dX2_readTape_88 : decode cX2_readTape 88 = .ok (.goto (-55), 3) := by decide +kernel
theorem dX2_readTape_91 : decode cX2_readTape 91 = .ok (.aload_n 0, 1) := by decide +kernel
theorem dX2_readTape_92 : decode cX2_readTape 92 = .ok (.getfield 23, 3) := by decide +kernel
theorem dX2_readTape_95 : decode cX2_readTape 95 = .ok (.iconst 0, 1) := by decide +kernel
theorem dX2_readTape_96 : decode cX2_readTape 96 = .ok (.aload_n 0, 1) := by decide +kernel
theorem dX2_readTape_97 : decode cX2_readTape 97 = .ok (.getfield 18, 3) := by decide +kernel
theorem dX2_readTape_100 : decode cX2_readTape 100 = .ok (.iconst 0, 1) := by decide +kernel
theorem dX2_readTape_101 : decode cX2_readTape 101 = .ok (.bipush 7, 2) := by decide +kernel
theorem dX2_readTape_103 : decode cX2_readTape 103 = .ok (.invokestatic 38, 3) := by decide +kernel
theorem dX2_readTape_106 : decode cX2_readTape 106 = .ok (.aload_n 0, 1) := by decide +kernel
theorem dX2_readTape_107 : decode cX2_readTape 107 = .ok (.aload_n 0, 1) := by decide +kernel
theorem dX2_readTape_108 : decode cX2_readTape 108 = .ok (.getfield 44, 3) := by decide +kernel
theorem dX2_readTape_111 : decode cX2_readTape 111 = .ok (.invokestatic 64, 3) := by decide +kernel
theorem dX2_readTape_114 : decode cX2_readTape 114 = .ok (.putfield 70, 3) := by decide +kernel
theorem dX2_readTape_117 : decode cX2_readTape 117 = .ok (.aload_n 0, 1) := by decide +kernel
theorem dX2_readTape_118 : decode cX2_readTape 118 = .ok (.getfield 70, 3) := by decide +kernel
theorem dX2_readTape_121 : decode cX2_readTape 121 = .ok (.ireturn, 1) := by decide +kernel
theorem dX2_readLaw_0 : decode cX2_readLaw 0 = .ok (.aload_n 0, 1) := by decide +kernel
theorem dX2_readLaw_1 : decode cX2_readLaw 1 = .ok (.getfield 31, 3) := by decide +kernel
theorem dX2_readLaw_4 : decode cX2_readLaw 4 = .ok (.getfield 54, 3) := by decide +kernel
theorem dX2_readLaw_7 : decode cX2_readLaw 7 = .ok (.iconst 1, 1) := by decide +kernel
theorem dX2_readLaw_8 : decode cX2_readLaw 8 = .ok (.if_icmp .ne 15, 3) := by decide +kernel
theorem dX2_readLaw_11 : decode cX2_readLaw 11 = .ok (.aload_n 0, 1) := by decide +kernel
theorem dX2_readLaw_12 : decode cX2_readLaw 12 = .ok (.getfield 31, 3) := by decide +kernel
theorem dX2_readLaw_15 : decode cX2_readLaw 15 = .ok (.getfield 73, 3) := by decide +kernel
theorem dX2_readLaw_18 : decode cX2_readLaw 18 = .ok (.bipush 7, 2) := by decide +kernel
theorem dX2_readLaw_20 : decode cX2_readLaw 20 = .ok (.if_icmp .lt 8, 3) := by decide +kernel
theorem dX2_readLaw_23 : decode cX2_readLaw 23 = .ok (.aload_n 0, 1) := by decide +kernel
theorem dX2_readLaw_24 : decode cX2_readLaw 24 = .ok (.invokevirtual 75, 3) := by decide +kernel
theorem dX2_readLaw_27 : decode cX2_readLaw 27 = .ok (.ireturn, 1) := by decide +kernel
theorem dX2_readLaw_28 : decode cX2_readLaw 28 = .ok (.aload_n 0, 1) := by decide +kernel
theorem dX2_readLaw_29 : decode cX2_readLaw 29 = .ok (.getfield 31, 3) := by decide +kernel
theorem dX2_readLaw_32 : decode cX2_readLaw 32 = .ok (.getfield 73, 3) := by decide +kernel
theorem dX2_readLaw_35 : decode cX2_readLaw 35 = .ok (.istore_n 1, 1) := by decide +kernel
theorem dX2_readLaw_36 : decode cX2_readLaw 36 = .ok (.aload_n 0, 1) := by decide +kernel
theorem dX2_readLaw_37 : decode cX2_readLaw 37 = .ok (.getfield 44, 3) := by decide +kernel
theorem dX2_readLaw_40 : decode cX2_readLaw 40 = .ok (.iload_n 1, 1) := by decide +kernel
theorem dX2_readLaw_41 : decode cX2_readLaw 41 = .ok (.ishr, 1) := by decide +kernel
theorem dX2_readLaw_42 : decode cX2_readLaw 42 = .ok (.iconst 1, 1) := by decide +kernel
theorem dX2_readLaw_43 : decode cX2_readLaw 43 = .ok (.iand, 1) := by decide +kernel
theorem dX2_readLaw_44 : decode cX2_readLaw 44 = .ok (.ifCond .eq 5, 3) := by decide +kernel
theorem dX2_readLaw_47 : decode cX2_readLaw 47 = .ok (.iconst 4, 1) := by decide +kernel
theorem dX2_readLaw_48 : decode cX2_readLaw 48 = .ok (.ireturn, 1) := by decide +kernel
theorem dX2_readLaw_49 : decode cX2_readLaw 49 = .ok (.aload_n 0, 1) := by decide +kernel
theorem dX2_readLaw_50 : decode cX2_readLaw 50 = .ok (.dup, 1) := by decide +kernel
theorem dX2_readLaw_51 : decode cX2_readLaw 51 = .ok (.getfield 44, 3) := by decide +kernel
theorem dX2_readLaw_54 : decode cX2_readLaw 54 = .ok (.iconst 1, 1) := by decide +kernel
theorem dX2_readLaw_55 : decode cX2_readLaw 55 = .ok (.iload_n 1, 1) := by decide +kernel
theorem dX2_readLaw_56 : decode cX2_readLaw 56 = .ok (.ishl, 1) := by decide +kernel
theorem dX2_readLaw_57 : decode cX2_readLaw 57 = .ok (.ior, 1) := by decide +kernel
theorem dX2_readLaw_58 : decode cX2_readLaw 58 = .ok (.putfield 44, 3) := by decide +kernel
theorem dX2_readLaw_61 : decode cX2_readLaw 61 = .ok (.aload_n 0, 1) := by decide +kernel
theorem dX2_readLaw_62 : decode cX2_readLaw 62 = .ok (.getfield 31, 3) := by decide +kernel
theorem dX2_readLaw_65 : decode cX2_readLaw 65 = .ok (.invokevirtual 51, 3) := by decide +kernel
theorem dX2_readLaw_68 : decode cX2_readLaw 68 = .ok (.iload_n 1, 1) := by decide +kernel
theorem dX2_readLaw_69 : decode cX2_readLaw 69 = .ok (.iconst 5, 1) := by decide +kernel
theorem dX2_readLaw_70 : decode cX2_readLaw 70 = .ok (.if_icmp .ge 11, 3) := by decide +kernel
theorem dX2_readLaw_73 : decode cX2_readLaw 73 = .ok (.aload_n 0, 1) := by decide +kernel
theorem dX2_readLaw_74 : decode cX2_readLaw 74 = .ok (.iload_n 1, 1) := by decide +kernel
theorem dX2_readLaw_75 : decode cX2_readLaw 75 = .ok (.invokevirtual 78, 3) := by decide +kernel
theorem dX2_readLaw_78 : decode cX2_readLaw 78 = .ok (.goto 8, 3) := by decide +kernel
theorem dX2_readLaw_81 : decode cX2_readLaw 81 = .ok (.aload_n 0, 1) := by decide +kernel
theorem dX2_readLaw_82 : decode cX2_readLaw 82 = .ok (.iload_n 1, 1) := by decide +kernel
theorem dX2_readLaw_83 : decode cX2_readLaw 83 = .ok (.invokevirtual 81, 3) := by decide +kernel
theorem dX2_readLaw_86 : decode cX2_readLaw 86 = .ok (.istore_n 2, 1) := by decide +kernel
theorem dX2_readLaw_87 : decode cX2_readLaw 87 = .ok (.iload_n 2, 1) := by decide +kernel
theorem dX2_readLaw_88 : decode cX2_readLaw 88 = .ok (.ifCond .eq 5, 3) := by decide +kernel
theorem dX2_readLaw_91 : decode cX2_readLaw 91 = .ok (.iload_n 2, 1) := by decide +kernel
theorem dX2_readLaw_92 : decode cX2_readLaw 92 = .ok (.ireturn, 1) := by decide +kernel
theorem dX2_readLaw_93 : decode cX2_readLaw 93 = .ok (.aload_n 0, 1) := by decide +kernel
theorem dX2_readLaw_94 : decode cX2_readLaw 94 = .ok (.getfield 31, 3) := by decide +kernel
theorem dX2_readLaw_97 : decode cX2_readLaw 97 = .ok (.invokevirtual 51, 3) := by decide +kernel
theorem dX2_readLaw_100 : decode cX2_readLaw 100 = .ok (.aload_n 0, 1) := by decide +kernel
theorem dX2_readLaw_101 : decode cX2_readLaw 101 = .ok (.getfield 31, 3) := by decide +kernel
theorem dX2_readLaw_104 : decode cX2_readLaw 104 = .ok (.getfield 54, 3) := by decide +kernel
theorem dX2_readLaw_107 : decode cX2_readLaw 107 = .ok (.iconst 3, 1) := by decide +kernel
theorem dX2_readLaw_108 : decode cX2_readLaw 108 = .ok (.if_icmp .ne 7, 3) := by decide +kernel
theorem dX2_readLaw_111 : decode cX2_readLaw 111 = .ok (.iconst 0, 1) := by decide +kernel
theorem dX2_readLaw_112 : decode cX2_readLaw 112 = .ok (.goto 7, 3) := by decide +kernel
theorem dX2_readLaw_115 : decode cX2_readLaw 115 = .ok (.aload_n 0, 1) := by decide +kernel
theorem dX2_readLaw_116 : decode cX2_readLaw 116 = .ok (.invokevirtual 75, 3) := by decide +kernel
theorem dX2_readLaw_119 : decode cX2_readLaw 119 = .ok (.ireturn, 1) := by decide +kernel
theorem dX2_readAmount_0 : decode cX2_readAmount 0 = .ok (.aload_n 0, 1) := by decide +kernel
theorem dX2_readAmount_1 : decode cX2_readAmount 1 = .ok (.getfield 31, 3) := by decide +kernel
theorem dX2_readAmount_4 : decode cX2_readAmount 4 = .ok (.getfield 54, 3) := by decide +kernel
theorem dX2_readAmount_7 : decode cX2_readAmount 7 = .ok (.iconst 2, 1) := by decide +kernel
theorem dX2_readAmount_8 : decode cX2_readAmount 8 = .ok (.if_icmp .eq 8, 3) := by decide +kernel
theorem dX2_readAmount_11 : decode cX2_readAmount 11 = .ok (.aload_n 0, 1) := by decide +kernel
theorem dX2_readAmount_12 : decode cX2_readAmount 12 = .ok (.invokevirtual 75, 3) := by decide +kernel
theorem dX2_readAmount_15 : decode cX2_readAmount 15 = .ok (.ireturn, 1) := by decide +kernel
theorem dX2_readAmount_16 : decode cX2_readAmount 16 = .ok (.aload_n 0, 1) := by decide +kernel
theorem dX2_readAmount_17 : decode cX2_readAmount 17 = .ok (.getfield 31, 3) := by decide +kernel
theorem dX2_readAmount_20 : decode cX2_readAmount 20 = .ok (.getfield 73, 3) := by decide +kernel
theorem dX2_readAmount_23 : decode cX2_readAmount 23 = .ok (.getstatic 84, 3) := by decide +kernel
theorem dX2_readAmount_26 : decode cX2_readAmount 26 = .ok (.iload_n 1, 1) := by decide +kernel
theorem dX2_readAmount_27 : decode cX2_readAmount 27 = .ok (.iaload, 1) := by decide +kernel
theorem dX2_readAmount_28 : decode cX2_readAmount 28 = .ok (.getstatic 87, 3) := by decide +kernel
theorem dX2_readAmount_31 : decode cX2_readAmount 31 = .ok (.iload_n 1, 1) := by decide +kernel
theorem dX2_readAmount_32 : decode cX2_readAmount 32 = .ok (.iaload, 1) := by decide +kernel
theorem dX2_readAmount_33 : decode cX2_readAmount 33 = .ok (.invokestatic 90, 3) := by decide +kernel
theorem dX2_readAmount_36 : decode cX2_readAmount 36 = .ok (.ifCond .ne 5, 3) := by decide +kernel
theorem dX2_readAmount_39 : decode cX2_readAmount 39 = .ok (.iconst 3, 1) := by decide +kernel
theorem dX2_readAmount_40 : decode cX2_readAmount 40 = .ok (.ireturn, 1) := by decide +kernel
theorem dX2_readAmount_41 : decode cX2_readAmount 41 = .ok (.aload_n 0, 1) := by decide +kernel
theorem dX2_readAmount_42 : decode cX2_readAmount 42 = .ok (.getfield 23, 3) := by decide +kernel
theorem dX2_readAmount_45 : decode cX2_readAmount 45 = .ok (.iload_n 1, 1) := by decide +kernel
theorem dX2_readAmount_46 : decode cX2_readAmount 46 = .ok (.aload_n 0, 1) := by decide +kernel
theorem dX2_readAmount_47 : decode cX2_readAmount 47 = .ok (.getfield 31, 3) := by decide +kernel
theorem dX2_readAmount_50 : decode cX2_readAmount 50 = .ok (.getfield 73, 3) := by decide +kernel
theorem dX2_readAmount_53 : decode cX2_readAmount 53 = .ok (.iastore, 1) := by decide +kernel
theorem dX2_readAmount_54 : decode cX2_readAmount 54 = .ok (.iconst 0, 1) := by decide +kernel
theorem dX2_readAmount_55 : decode cX2_readAmount 55 = .ok (.ireturn, 1) := by decide +kernel
theorem dX2_readWay_0 : decode cX2_readWay 0 = .ok (.aload_n 0, 1) := by decide +kernel
theorem dX2_readWay_1 : decode cX2_readWay 1 = .ok (.getfield 31, 3) := by decide +kernel
theorem dX2_readWay_4 : decode cX2_readWay 4 = .ok (.getfield 54, 3) := by decide +kernel
theorem dX2_readWay_7 : decode cX2_readWay 7 = .ok (.iconst 1, 1) := by decide +kernel
theorem dX2_readWay_8 : decode cX2_readWay 8 = .ok (.if_icmp .ne 17, 3) := by decide +kernel
theorem dX2_readWay_11 : decode cX2_readWay 11 = .ok (.getstatic 94, 3) := by decide +kernel
theorem dX2_readWay_14 : decode cX2_readWay 14 = .ok (.aload_n 0, 1) := by decide +kernel
theorem dX2_readWay_15 : decode cX2_readWay 15 = .ok (.getfield 31, 3) := by decide +kernel
theorem dX2_readWay_18 : decode cX2_readWay 18 = .ok (.getfield 73, 3) := by decide +kernel
theorem dX2_readWay_21 : decode cX2_readWay 21 = .ok (.iaload, 1) := by decide +kernel
theorem dX2_readWay_22 : decode cX2_readWay 22 = .ok (.ifCond .ge 8, 3) := by decide +kernel
theorem dX2_readWay_25 : decode cX2_readWay 25 = .ok (.aload_n 0, 1) := by decide +kernel
theorem dX2_readWay_26 : decode cX2_readWay 26 = .ok (.invokevirtual 75, 3) := by decide +kernel
theorem dX2_readWay_29 : decode cX2_readWay 29 = .ok (.ireturn, 1) := by decide +kernel
theorem dX2_readWay_30 : decode cX2_readWay 30 = .ok (.aload_n 0, 1) := by decide +kernel
theorem dX2_readWay_31 : decode cX2_readWay 31 = .ok (.getfield 23, 3) := by decide +kernel
theorem dX2_readWay_34 : decode cX2_readWay 34 = .ok (.iload_n 1, 1) := by decide +kernel
theorem dX2_readWay_35 : decode cX2_readWay 35 = .ok (.getstatic 94, 3) := by decide +kernel
theorem dX2_readWay_38 : decode cX2_readWay 38 = .ok (.aload_n 0, 1) := by decide +kernel
theorem dX2_readWay_39 : decode cX2_readWay 39 = .ok (.getfield 31, 3) := by decide +kernel
theorem dX2_readWay_42 : decode cX2_readWay 42 = .ok (.getfield 73, 3) := by decide +kernel
theorem dX2_readWay_45 : decode cX2_readWay 45 = .ok (.iaload, 1) := by decide +kernel
theorem dX2_readWay_46 : decode cX2_readWay 46 = .ok (.iastore, 1) := by decide +kernel
theorem dX2_readWay_47 : decode cX2_readWay 47 = .ok (.iconst 0, 1) := by decide +kernel
theorem dX2_readWay_48 : decode cX2_readWay 48 = .ok (.ireturn, 1) := by decide +kernel
theorem dX2_misfit_0 : decode cX2_misfit 0 = .ok (.aload_n 0, 1) := by decide +kernel
theorem dX2_misfit_1 : decode cX2_misfit 1 = .ok (.getfield 31, 3) := by decide +kernel
theorem dX2_misfit_4 : decode cX2_misfit 4 = .ok (.getfield 54, 3) := by decide +kernel
theorem dX2_misfit_7 : decode cX2_misfit 7 = .ok (.iconst 4, 1) := by decide +kernel
theorem dX2_misfit_8 : decode cX2_misfit 8 = .ok (.if_icmp .ne 7, 3) := by decide +kernel
theorem dX2_misfit_11 : decode cX2_misfit 11 = .ok (.iconst 1, 1) := by decide +kernel
theorem dX2_misfit_12 : decode cX2_misfit 12 = .ok (.goto 4, 3) := by decide +kernel
theorem dX2_misfit_15 : decode cX2_misfit 15 = .ok (.iconst 2, 1) := by decide +kernel
theorem dX2_misfit_16 : decode cX2_misfit 16 = .ok (.ireturn, 1) := by decide +kernel
end
section
theorem dX3_init_0 : decode cX3_init 0 = .ok (.aload_n 0, 1) := by decide +kernel
theorem dX3_init_1 : decode cX3_init 1 = .ok (.invokespecial 3, 3) := by decide +kernel
theorem dX3_init_4 : decode cX3_init 4 = .ok (.aload_n 0, 1) := by decide +kernel
theorem dX3_init_5 : decode cX3_init 5 = .ok (.bipush 10, 2) := by decide +kernel
theorem dX3_init_7 : decode cX3_init 7 = .ok (.newarray .int, 2) := by decide +kernel
theorem dX3_init_9 : decode cX3_init 9 = .ok (.putfield 9, 3) := by decide +kernel
theorem dX3_init_12 : decode cX3_init 12 = .ok (.aload_n 0, 1) := by decide +kernel
theorem dX3_init_13 : decode cX3_init 13 = .ok (.bipush 10, 2) := by decide +kernel
theorem dX3_init_15 : decode cX3_init 15 = .ok (.newarray .int, 2) := by decide +kernel
theorem dX3_init_17 : decode cX3_init 17 = .ok (.putfield 15, 3) := by decide +kernel
theorem dX3_init_20 : decode cX3_init 20 = .ok (.aload_n 0, 1) := by decide +kernel
theorem dX3_init_21 : decode cX3_init 21 = .ok (.aload_n 1, 1) := by decide +kernel
theorem dX3_init_22 : decode cX3_init 22 = .ok (.putfield 18, 3) := by decide +kernel
theorem dX3_init_25 : decode cX3_init 25 = .ok (.return_, 1) := by decide +kernel
theorem dX3_gather_0 : decode cX3_gather 0 = .ok (.aload_n 0, 1) := by decide +kernel
theorem dX3_gather_1 : decode cX3_gather 1 = .ok (.iconst 0, 1) := by decide +kernel
theorem dX3_gather_2 : decode cX3_gather 2 = .ok (.putfield 22, 3) := by decide +kernel
theorem dX3_gather_5 : decode cX3_gather 5 = .ok (.iconst 0, 1) := by decide +kernel
theorem dX3_gather_6 : decode cX3_gather 6 = .ok (.istore_n 1, 1) := by decide +kernel
theorem dX3_gather_7 : decode cX3_gather 7 = .ok (.iload_n 1, 1) := by decide +kernel
theorem dX3_gather_8 : decode cX3_gather 8 = .ok (.aload_n 0, 1) := by decide +kernel
theorem dX3_gather_9 : decode cX3_gather 9 = .ok (.getfield 18, 3) := by decide +kernel
theorem dX3_gather_12 : decode cX3_gather 12 = .ok (.getfield 26, 3) := by decide +kernel
theorem dX3_gather_15 : decode cX3_gather 15 = .ok (.if_icmp .ge 40, 3) := by decide +kernel
theorem dX3_gather_18 : decode cX3_gather 18 = .ok (.aload_n 0, 1) := by decide +kernel
theorem dX3_gather_19 : decode cX3_gather 19 = .ok (.getfield 18, 3) := by decide +kernel
theorem dX3_gather_22 : decode cX3_gather 22 = .ok (.iload_n 1, 1) := by decide +kernel
theorem dX3_gather_23 : decode cX3_gather 23 = .ok (.invokevirtual 31, 3) := by decide +kernel
theorem dX3_gather_26 : decode cX3_gather 26 = .ok (.ifCond .ne 23, 3) := by decide +kernel
theorem dX3_gather_29 : decode cX3_gather 29 = .ok (.aload_n 0, 1) := by decide +kernel
theorem dX3_gather_30 : decode cX3_gather 30 = .ok (.getfield 9, 3) := by decide +kernel
theorem dX3_gather_33 : decode cX3_gather 33 = .ok (.aload_n 0, 1) := by decide +kernel
theorem dX3_gather_34 : decode cX3_gather 34 = .ok (.getfield 22, 3) := by decide +kernel
theorem dX3_gather_37 : decode cX3_gather 37 = .ok (.iload_n 1, 1) := by decide +kernel
theorem dX3_gather_38 : decode cX3_gather 38 = .ok (.iastore, 1) := by decide +kernel
theorem dX3_gather_39 : decode cX3_gather 39 = .ok (.aload_n 0, 1) := by decide +kernel
theorem dX3_gather_40 : decode cX3_gather 40 = .ok (.dup, 1) := by decide +kernel
theorem dX3_gather_41 : decode cX3_gather 41 = .ok (.getfield 22, 3) := by decide +kernel
theorem dX3_gather_44 : decode cX3_gather 44 = .ok (.iconst 1, 1) := by decide +kernel
theorem dX3_gather_45 : decode cX3_gather 45 = .ok (.iadd, 1) := by decide +kernel
theorem dX3_gather_46 : decode cX3_gather 46 = .ok (.putfield 22, 3) := by decide +kernel
theorem dX3_gather_49 : decode cX3_gather 49 = .ok (.iinc 1 1, 3) := by decide +kernel
theorem dX3_gather_52 : decode cX3_gather 52 = .ok (.goto (-45), 3) := by decide +kernel
theorem dX3_gather_55 : decode cX3_gather 55 = .ok (.return_, 1) := by decide +kernel
theorem dX3_number_0 : decode cX3_number 0 = .ok (.iconst 0, 1) := by decide +kernel
theorem dX3_number_1 : decode cX3_number 1 = .ok (.istore_n 1, 1) := by decide +kernel
theorem dX3_number_2 : decode cX3_number 2 = .ok (.aload_n 0, 1) := by decide +kernel
theorem dX3_number_3 : decode cX3_number 3 = .ok (.getfield 22, 3) := by decide +kernel
theorem dX3_number_6 : decode cX3_number 6 = .ok (.iconst 1, 1) := by decide +kernel
theorem dX3_number_7 : decode cX3_number 7 = .ok (.isub, 1) := by decide +kernel
theorem dX3_number_8 : decode cX3_number 8 = .ok (.istore_n 2, 1) := by decide +kernel
theorem dX3_number_9 : decode cX3_number 9 = .ok (.iload_n 2, 1) := by decide +kernel
theorem dX3_number_10 : decode cX3_number 10 = .ok (.ifCond .lt 26, 3) := by decide +kernel
theorem dX3_number_13 : decode cX3_number 13 = .ok (.iload_n 1, 1) := by decide +kernel
theorem dX3_number_14 : decode cX3_number 14 = .ok (.aload_n 0, 1) := by decide +kernel
theorem dX3_number_15 : decode cX3_number 15 = .ok (.getfield 18, 3) := by decide +kernel
theorem dX3_number_18 : decode cX3_number 18 = .ok (.getfield 35, 3) := by decide +kernel
theorem dX3_number_21 : decode cX3_number 21 = .ok (.imul, 1) := by decide +kernel
theorem dX3_number_22 : decode cX3_number 22 = .ok (.aload_n 0, 1) := by decide +kernel
theorem dX3_number_23 : decode cX3_number 23 = .ok (.getfield 15, 3) := by decide +kernel
theorem dX3_number_26 : decode cX3_number 26 = .ok (.iload_n 2, 1) := by decide +kernel
theorem dX3_number_27 : decode cX3_number 27 = .ok (.iaload, 1) := by decide +kernel
theorem dX3_number_28 : decode cX3_number 28 = .ok (.iadd, 1) := by decide +kernel
theorem dX3_number_29 : decode cX3_number 29 = .ok (.istore_n 1, 1) := by decide +kernel
theorem dX3_number_30 : decode cX3_number 30 = .ok (.iinc 2 (-1), 3) := by decide +kernel
theorem dX3_number_33 : decode cX3_number 33 = .ok (.goto (-24), 3) := by decide +kernel
theorem dX3_number_36 : decode cX3_number 36 = .ok (.iload_n 1, 1) := by decide +kernel
theorem dX3_number_37 : decode cX3_number 37 = .ok (.ireturn, 1) := by decide +kernel
theorem dX3_readNumber_0 : decode cX3_readNumber 0 = .ok (.aload_n 0, 1) := by decide +kernel
theorem dX3_readNumber_1 : decode cX3_readNumber 1 = .ok (.invokevirtual 38, 3) := by decide +kernel
theorem dX3_readNumber_4 : decode cX3_readNumber 4 = .ok (.iload_n 1, 1) := by decide +kernel
theorem dX3_readNumber_5 : decode cX3_readNumber 5 = .ok (.ifCond .ge 5, 3) := by decide +kernel
theorem dX3_readNumber_8 : decode cX3_readNumber 8 = .ok (.iconst 0, 1) := by decide +kernel
theorem dX3_readNumber_9 : decode cX3_readNumber 9 = .ok (.ireturn, 1) := by decide +kernel
theorem dX3_readNumber_10 : decode cX3_readNumber 10 = .ok (.iload_n 1, 1) := by decide +kernel
theorem dX3_readNumber_11 : decode cX3_readNumber 11 = .ok (.istore_n 2, 1) := by decide +kernel
theorem dX3_readNumber_12 : decode cX3_readNumber 12 = .ok (.iconst 0, 1) := by decide +kernel
theorem dX3_readNumber_13 : decode cX3_readNumber 13 = .ok (.istore_n 3, 1) := by decide +kernel
theorem dX3_readNumber_14 : decode cX3_readNumber 14 = .ok (.iload_n 3, 1) := by decide +kernel
theorem dX3_readNumber_15 : decode cX3_readNumber 15 = .ok (.aload_n 0, 1) := by decide +kernel
theorem dX3_readNumber_16 : decode cX3_readNumber 16 = .ok (.getfield 22, 3) := by decide +kernel
theorem dX3_readNumber_19 : decode cX3_readNumber 19 = .ok (.if_icmp .ge 46, 3) := by decide +kernel
theorem dX3_readNumber_22 : decode cX3_readNumber 22 = .ok (.aload_n 0, 1) := by decide +kernel
theorem dX3_readNumber_23 : decode cX3_readNumber 23 = .ok (.getfield 18, 3) := by decide +kernel
theorem dX3_readNumber_26 : decode cX3_readNumber 26 = .ok (.getfield 35, 3) := by decide +kernel
theorem dX3_readNumber_29 : decode cX3_readNumber 29 = .ok (.ifCond .gt 5, 3) := by decide +kernel
theorem dX3_readNumber_32 : decode cX3_readNumber 32 = .ok (.iconst 0, 1) := by decide +kernel
theorem dX3_readNumber_33 : decode cX3_readNumber 33 = .ok (.ireturn, 1) := by decide +kernel
theorem dX3_readNumber_34 : decode cX3_readNumber 34 = .ok (.aload_n 0, 1) := by decide +kernel
theorem dX3_readNumber_35 : decode cX3_readNumber 35 = .ok (.getfield 15, 3) := by decide +kernel
theorem dX3_readNumber_38 : decode cX3_readNumber 38 = .ok (.iload_n 3, 1) := by decide +kernel
theorem dX3_readNumber_39 : decode cX3_readNumber 39 = .ok (.iload_n 2, 1) := by decide +kernel
theorem dX3_readNumber_40 : decode cX3_readNumber 40 = .ok (.aload_n 0, 1) := by decide +kernel
theorem dX3_readNumber_41 : decode cX3_readNumber 41 = .ok (.getfield 18, 3) := by decide +kernel
theorem dX3_readNumber_44 : decode cX3_readNumber 44 = .ok (.getfield 35, 3) := by decide +kernel
theorem dX3_readNumber_47 : decode cX3_readNumber 47 = .ok (.irem, 1) := by decide +kernel
theorem dX3_readNumber_48 : decode cX3_readNumber 48 = .ok (.iastore, 1) := by decide +kernel
theorem dX3_readNumber_49 : decode cX3_readNumber 49 = .ok (.iload_n 2, 1) := by decide +kernel
theorem dX3_readNumber_50 : decode cX3_readNumber 50 = .ok (.aload_n 0, 1) := by decide +kernel
theorem dX3_readNumber_51 : decode cX3_readNumber 51 = .ok (.getfield 18, 3) := by decide +kernel
theorem dX3_readNumber_54 : decode cX3_readNumber 54 = .ok (.getfield 35, 3) := by decide +kernel
theorem dX3_readNumber_57 : decode cX3_readNumber 57 = .ok (.idiv, 1) := by decide +kernel
theorem dX3_readNumber_58 : decode cX3_readNumber 58 = .ok (.istore_n 2, 1) := by decide +kernel
theorem dX3_readNumber_59 : decode cX3_readNumber 59 = .ok (.iinc 3 1, 3) := by decide +kernel
theorem dX3_readNumber_62 : decode cX3_readNumber 62 = .ok (.goto (-48), 3) := by decide +kernel
theorem dX3_readNumber_65 : decode cX3_readNumber 65 = .ok (.iload_n 2, 1) := by decide +kernel
theorem dX3_readNumber_66 : decode cX3_readNumber 66 = .ok (.ifCond .ne 7, 3) := by decide +kernel
theorem dX3_readNumber_69 : decode cX3_readNumber 69 = .ok (.iconst 1, 1) := by decide +kernel
theorem dX3_readNumber_70 : decode cX3_readNumber 70 = .ok (.goto 4, 3) := by decide +kernel
theorem dX3_readNumber_73 : decode cX3_readNumber 73 = .ok (.iconst 0, 1) := by decide +kernel
theorem dX3_readNumber_74 : decode cX3_readNumber 74 = .ok (.ireturn, 1) := by decide +kernel
theorem dX3_takeTurns_0 : decode cX3_takeTurns 0 = .ok (.aload_n 0, 1) := by decide +kernel
theorem dX3_takeTurns_1 : decode cX3_takeTurns 1 = .ok (.iload_n 1, 1) := by decide +kernel
theorem dX3_takeTurns_2 : decode cX3_takeTurns 2 = .ok (.iconst (-1), 1) := by decide +kernel
theorem dX3_takeTurns_3 : decode cX3_takeTurns 3 = .ok (.iconst 0, 1) := by decide +kernel
theorem dX3_takeTurns_4 : decode cX3_takeTurns 4 = .ok (.iconst 0, 1) := by decide +kernel
theorem dX3_takeTurns_5 : decode cX3_takeTurns 5 = .ok (.invokevirtual 41, 3) := by decide +kernel
theorem dX3_takeTurns_8 : decode cX3_takeTurns 8 = .ok (.return_, 1) := by decide +kernel
theorem dX3_takeTurnsWithLie_0 : decode cX3_takeTurnsWithLie 0 = .ok (.iconst 0, 1) := by decide +kernel
theorem dX3_takeTurnsWithLie_1 : decode cX3_takeTurnsWithLie 1 = .ok (.istore 5, 2) := by decide +kernel
theorem dX3_takeTurnsWithLie_3 : decode cX3_takeTurnsWithLie 3 = .ok (.iload 5, 2) := by decide +kernel
theorem dX3_takeTurnsWithLie_5 : decode cX3_takeTurnsWithLie 5 = .ok (.aload_n 0, 1) := by decide +kernel
theorem dX3_takeTurnsWithLie_6 : decode cX3_takeTurnsWithLie 6 = .ok (.getfield 22, 3) := by decide +kernel
theorem dX3_takeTurnsWithLie_9 : decode cX3_takeTurnsWithLie 9 = .ok (.if_icmp .ge 17, 3) := by decide +kernel
theorem dX3_takeTurnsWithLie_12 : decode cX3_takeTurnsWithLie 12 = .ok (.aload_n 0, 1) := by decide +kernel
theorem dX3_takeTurnsWithLie_13 : decode cX3_takeTurnsWithLie 13 = .ok (.getfield 15, 3) := by decide +kernel
theorem dX3_takeTurnsWithLie_16 : decode cX3_takeTurnsWithLie 16 = .ok (.iload 5, 2) := by decide +kernel
theorem dX3_takeTurnsWithLie_18 : decode cX3_takeTurnsWithLie 18 = .ok (.iconst (-1), 1) := by decide +kernel
theorem dX3_takeTurnsWithLie_19 : decode cX3_takeTurnsWithLie 19 = .ok (.iastore, 1) := by decide +kernel
theorem dX3_takeTurnsWithLie_20 : decode cX3_takeTurnsWithLie 20 = .ok (.iinc 5 1, 3) := by decide +kernel
theorem dX3_takeTurnsWithLie_23 : decode cX3_takeTurnsWithLie 23 = .ok (.goto (-20), 3) := by decide +kernel
theorem dX3_takeTurnsWithLie_26 : decode cX3_takeTurnsWithLie 26 = .ok (.iconst 0, 1) := by decide +kernel
theorem dX3_takeTurnsWithLie_27 : decode cX3_takeTurnsWithLie 27 = .ok (.istore 5, 2) := by decide +kernel
theorem dX3_takeTurnsWithLie_29 : decode cX3_takeTurnsWithLie 29 = .ok (.iload 5, 2) := by decide +kernel
theorem dX3_takeTurnsWithLie_31 : decode cX3_takeTurnsWithLie 31 = .ok (.aload_n 0, 1) := by decide +kernel
theorem dX3_takeTurnsWithLie_32 : decode cX3_takeTurnsWithLie 32 = .ok (.getfield 22, 3) := by decide +kernel
theorem dX3_takeTurnsWithLie_35 : decode cX3_takeTurnsWithLie 35 = .ok (.if_icmp .ge 128, 3) := by decide +kernel
theorem dX3_takeTurnsWithLie_38 : decode cX3_takeTurnsWithLie 38 = .ok (.aload_n 0, 1) := by decide +kernel
theorem dX3_takeTurnsWithLie_39 : decode cX3_takeTurnsWithLie 39 = .ok (.iload_n 1, 1) := by decide +kernel
theorem dX3_takeTurnsWithLie_40 : decode cX3_takeTurnsWithLie 40 = .ok (.iload 5, 2) := by decide +kernel
theorem dX3_takeTurnsWithLie_42 : decode cX3_takeTurnsWithLie 42 = .ok (.invokevirtual 45, 3) := by decide +kernel
theorem dX3_takeTurnsWithLie_45 : decode cX3_takeTurnsWithLie 45 = .ok (.istore 6, 2) := by decide +kernel
theorem dX3_takeTurnsWithLie_47 : decode cX3_takeTurnsWithLie 47 = .ok (.iconst (-1), 1) := by decide +kernel
theorem dX3_takeTurnsWithLie_48 : decode cX3_takeTurnsWithLie 48 = .ok (.istore 7, 2) := by decide +kernel
theorem dX3_takeTurnsWithLie_50 : decode cX3_takeTurnsWithLie 50 = .ok (.iconst (-1), 1) := by decide +kernel
theorem dX3_takeTurnsWithLie_51 : decode cX3_takeTurnsWithLie 51 = .ok (.istore 8, 2) := by decide +kernel
theorem dX3_takeTurnsWithLie_53 : decode cX3_takeTurnsWithLie 53 = .ok (.iconst 0, 1) := by decide +kernel
theorem dX3_takeTurnsWithLie_54 : decode cX3_takeTurnsWithLie 54 = .ok (.istore 9, 2) := by decide +kernel
theorem dX3_takeTurnsWithLie_56 : decode cX3_takeTurnsWithLie 56 = .ok (.iload 9, 2) := by decide +kernel
theorem dX3_takeTurnsWithLie_58 : decode cX3_takeTurnsWithLie 58 = .ok (.aload_n 0, 1) := by decide +kernel
theorem dX3_takeTurnsWithLie_59 : decode cX3_takeTurnsWithLie 59 = .ok (.getfield 22, 3) := by decide +kernel
theorem dX3_takeTurnsWithLie_62 : decode cX3_takeTurnsWithLie 62 = .ok (.if_icmp .ge 80, 3) := by decide +kernel
theorem dX3_takeTurnsWithLie_65 : decode cX3_takeTurnsWithLie 65 = .ok (.aload_n 0, 1) := by decide +kernel
theorem dX3_takeTurnsWithLie_66 : decode cX3_takeTurnsWithLie 66 = .ok (.getfield 15, 3) := by decide +kernel
theorem dX3_takeTurnsWithLie_69 : decode cX3_takeTurnsWithLie 69 = .ok (.iload 9, 2) := by decide +kernel
theorem dX3_takeTurnsWithLie_71 : decode cX3_takeTurnsWithLie 71 = .ok (.iaload, 1) := by decide +kernel
theorem dX3_takeTurnsWithLie_72 : decode cX3_takeTurnsWithLie 72 = .ok (.iconst (-1), 1) := by decide +kernel
theorem dX3_takeTurnsWithLie_73 : decode cX3_takeTurnsWithLie 73 = .ok (.if_icmp .eq 6, 3) := by decide +kernel
theorem dX3_takeTurnsWithLie_76 : decode cX3_takeTurnsWithLie 76 = .ok (.goto 60, 3) := by decide +kernel
theorem dX3_takeTurnsWithLie_79 : decode cX3_takeTurnsWithLie 79 = .ok (.iload 6, 2) := by decide +kernel
theorem dX3_takeTurnsWithLie_81 : decode cX3_takeTurnsWithLie 81 = .ok (.iload_n 2, 1) := by decide +kernel
theorem dX3_takeTurnsWithLie_82 : decode cX3_takeTurnsWithLie 82 = .ok (.if_icmp .ne 19, 3) := by decide +kernel
theorem dX3_takeTurnsWithLie_85 : decode cX3_takeTurnsWithLie 85 = .ok (.aload_n 0, 1) := by decide +kernel
theorem dX3_takeTurnsWithLie_86 : decode cX3_takeTurnsWithLie 86 = .ok (.getfield 9, 3) := by decide +kernel
theorem dX3_takeTurnsWithLie_89 : decode cX3_takeTurnsWithLie 89 = .ok (.iload 9, 2) := by decide +kernel
theorem dX3_takeTurnsWithLie_91 : decode cX3_takeTurnsWithLie 91 = .ok (.iaload, 1) := by decide +kernel
theorem dX3_takeTurnsWithLie_92 : decode cX3_takeTurnsWithLie 92 = .ok (.iload_n 3, 1) := by decide +kernel
theorem dX3_takeTurnsWithLie_93 : decode cX3_takeTurnsWithLie 93 = .ok (.if_icmp .ne 8, 3) := by decide +kernel
theorem dX3_takeTurnsWithLie_96 : decode cX3_takeTurnsWithLie 96 = .ok (.iload 4, 2) := by decide +kernel
theorem dX3_takeTurnsWithLie_98 : decode cX3_takeTurnsWithLie 98 = .ok (.goto 21, 3) := by decide +kernel
theorem dX3_takeTurnsWithLie_101 : decode cX3_takeTurnsWithLie 101 = .ok (.aload_n 0, 1) := by decide +kernel
theorem dX3_takeTurnsWithLie_102 : decode cX3_takeTurnsWithLie 102 = .ok (.getfield 18, 3) := by decide +kernel
theorem dX3_takeTurnsWithLie_105 : decode cX3_takeTurnsWithLie 105 = .ok (.getfield 49, 3) := by decide +kernel
theorem dX3_takeTurnsWithLie_108 : decode cX3_takeTurnsWithLie 108 = .ok (.iload 6, 2) := by decide +kernel
theorem dX3_takeTurnsWithLie_110 : decode cX3_takeTurnsWithLie 110 = .ok (.aaload, 1) := by decide +kernel
theorem dX3_takeTurnsWithLie_111 : decode cX3_takeTurnsWithLie 111 = .ok (.aload_n 0, 1) := by decide +kernel
theorem dX3_takeTurnsWithLie_112 : decode cX3_takeTurnsWithLie 112 = .ok (.getfield 9, 3) := by decide +kernel
theorem dX3_takeTurnsWithLie_115 : decode cX3_takeTurnsWithLie 115 = .ok (.iload 9, 2) := by decide +kernel
theorem dX3_takeTurnsWithLie_117 : decode cX3_takeTurnsWithLie 117 = .ok (.iaload, 1) := by decide +kernel
theorem dX3_takeTurnsWithLie_118 : decode cX3_takeTurnsWithLie 118 = .ok (.iaload, 1) := by decide +kernel
theorem dX3_takeTurnsWithLie_119 : decode cX3_takeTurnsWithLie 119 = .ok (.istore 10, 2) := by decide +kernel
theorem dX3_takeTurnsWithLie_121 : decode cX3_takeTurnsWithLie 121 = .ok (.iload 10, 2) := by decide +kernel
theorem dX3_takeTurnsWithLie_123 : decode cX3_takeTurnsWithLie 123 = .ok (.iload 8, 2) := by decide +kernel
theorem dX3_takeTurnsWithLie_125 : decode cX3_takeTurnsWithLie 125 = .ok (.if_icmp .le 11, 3) := by decide +kernel
theorem dX3_takeTurnsWithLie_128 : decode cX3_takeTurnsWithLie 128 = .ok (.iload 10, 2) := by decide +kernel
theorem dX3_takeTurnsWithLie_130 : decode cX3_takeTurnsWithLie 130 = .ok (.istore 8, 2) := by decide +kernel
theorem dX3_takeTurnsWithLie_132 : decode cX3_takeTurnsWithLie 132 = .ok (.iload 9, 2) := by decide +kernel
theorem dX3_takeTurnsWithLie_134 : decode cX3_takeTurnsWithLie 134 = .ok (.istore 7, 2) := by decide +kernel
theorem dX3_takeTurnsWithLie_136 : decode cX3_takeTurnsWithLie 136 = .ok (.iinc 9 1, 3) := by decide +kernel
theorem dX3_takeTurnsWithLie_139 : decode cX3_takeTurnsWithLie 139 = .ok (.goto (-83), 3) := by decide +kernel
theorem dX3_takeTurnsWithLie_142 : decode cX3_takeTurnsWithLie 142 = .ok (.iload 7, 2) := by decide +kernel
theorem dX3_takeTurnsWithLie_144 : decode cX3_takeTurnsWithLie 144 = .ok (.iconst (-1), 1) := by decide +kernel
theorem dX3_takeTurnsWithLie_145 : decode cX3_takeTurnsWithLie 145 = .ok (.if_icmp .eq 12, 3) := by decide +kernel
theorem dX3_takeTurnsWithLie_148 : decode cX3_takeTurnsWithLie 148 = .ok (.aload_n 0, 1) := by decide +kernel
theorem dX3_takeTurnsWithLie_149 : decode cX3_takeTurnsWithLie 149 = .ok (.getfield 15, 3) := by decide +kernel
theorem dX3_takeTurnsWithLie_152 : decode cX3_takeTurnsWithLie 152 = .ok (.iload 7, 2) := by decide +kernel
theorem dX3_takeTurnsWithLie_154 : decode cX3_takeTurnsWithLie 154 = .ok (.iload 6, 2) := by decide +kernel
theorem dX3_takeTurnsWithLie_156 : decode cX3_takeTurnsWithLie 156 = .ok (.iastore, 1) := by decide +kernel
theorem dX3_takeTurnsWithLie_157 : decode cX3_takeTurnsWithLie 157 = .ok (.iinc 5 1, 3) := by decide +kernel
theorem dX3_takeTurnsWithLie_160 : decode cX3_takeTurnsWithLie 160 = .ok (.goto (-131), 3) := by decide +kernel
theorem dX3_takeTurnsWithLie_163 : decode cX3_takeTurnsWithLie 163 = .ok (.return_, 1) := by decide +kernel
theorem dX3_heirAtTurn_0 : decode cX3_heirAtTurn 0 = .ok (.iconst 1, 1) := by decide +kernel
theorem dX3_heirAtTurn_1 : decode cX3_heirAtTurn 1 = .ok (.aload_n 0, 1) := by decide +kernel
theorem dX3_heirAtTurn_2 : decode cX3_heirAtTurn 2 = .ok (.getfield 18, 3) := by decide +kernel
theorem dX3_heirAtTurn_5 : decode cX3_heirAtTurn 5 = .ok (.getfield 35, 3) := by decide +kernel
theorem dX3_heirAtTurn_8 : decode cX3_heirAtTurn 8 = .ok (.invokestatic 53, 3) := by decide +kernel
theorem dX3_heirAtTurn_11 : decode cX3_heirAtTurn 11 = .ok (.istore_n 3, 1) := by decide +kernel
theorem dX3_heirAtTurn_12 : decode cX3_heirAtTurn 12 = .ok (.iload_n 2, 1) := by decide +kernel
theorem dX3_heirAtTurn_13 : decode cX3_heirAtTurn 13 = .ok (.iload_n 3, 1) := by decide +kernel
theorem dX3_heirAtTurn_14 : decode cX3_heirAtTurn 14 = .ok (.irem, 1) := by decide +kernel
theorem dX3_heirAtTurn_15 : decode cX3_heirAtTurn 15 = .ok (.istore 4, 2) := by decide +kernel
theorem dX3_heirAtTurn_17 : decode cX3_heirAtTurn 17 = .ok (.iload_n 1, 1) := by decide +kernel
theorem dX3_heirAtTurn_18 : decode cX3_heirAtTurn 18 = .ok (.iconst 1, 1) := by decide +kernel
theorem dX3_heirAtTurn_19 : decode cX3_heirAtTurn 19 = .ok (.if_icmp .ne 16, 3) := by decide +kernel
theorem dX3_heirAtTurn_22 : decode cX3_heirAtTurn 22 = .ok (.iload_n 2, 1) := by decide +kernel
theorem dX3_heirAtTurn_23 : decode cX3_heirAtTurn 23 = .ok (.iload_n 3, 1) := by decide +kernel
theorem dX3_heirAtTurn_24 : decode cX3_heirAtTurn 24 = .ok (.idiv, 1) := by decide +kernel
theorem dX3_heirAtTurn_25 : decode cX3_heirAtTurn 25 = .ok (.iconst 2, 1) := by decide +kernel
theorem dX3_heirAtTurn_26 : decode cX3_heirAtTurn 26 = .ok (.irem, 1) := by decide +kernel
theorem dX3_heirAtTurn_27 : decode cX3_heirAtTurn 27 = .ok (.iconst 1, 1) := by decide +kernel
theorem dX3_heirAtTurn_28 : decode cX3_heirAtTurn 28 = .ok (.if_icmp .ne 7, 3) := by decide +kernel
theorem dX3_heirAtTurn_31 : decode cX3_heirAtTurn 31 = .ok (.iconst 1, 1) := by decide +kernel
theorem dX3_heirAtTurn_32 : decode cX3_heirAtTurn 32 = .ok (.goto 4, 3) := by decide +kernel
theorem dX3_heirAtTurn_35 : decode cX3_heirAtTurn 35 = .ok (.iconst 0, 1) := by decide +kernel
theorem dX3_heirAtTurn_36 : decode cX3_heirAtTurn 36 = .ok (.istore 5, 2) := by decide +kernel
theorem dX3_heirAtTurn_38 : decode cX3_heirAtTurn 38 = .ok (.iload 5, 2) := by decide +kernel
theorem dX3_heirAtTurn_40 : decode cX3_heirAtTurn 40 = .ok (.ifCond .eq 12, 3) := by decide +kernel
theorem dX3_heirAtTurn_43 : decode cX3_heirAtTurn 43 = .ok (.iload_n 3, 1) := by decide +kernel
theorem dX3_heirAtTurn_44 : decode cX3_heirAtTurn 44 = .ok (.iconst 1, 1) := by decide +kernel
theorem dX3_heirAtTurn_45 : decode cX3_heirAtTurn 45 = .ok (.isub, 1) := by decide +kernel
theorem dX3_heirAtTurn_46 : decode cX3_heirAtTurn 46 = .ok (.iload 4, 2) := by decide +kernel
theorem dX3_heirAtTurn_48 : decode cX3_heirAtTurn 48 = .ok (.isub, 1) := by decide +kernel
theorem dX3_heirAtTurn_49 : decode cX3_heirAtTurn 49 = .ok (.goto 5, 3) := by decide +kernel
theorem dX3_heirAtTurn_52 : decode cX3_heirAtTurn 52 = .ok (.iload 4, 2) := by decide +kernel
theorem dX3_heirAtTurn_54 : decode cX3_heirAtTurn 54 = .ok (.ireturn, 1) := by decide +kernel
theorem dX3_mostByLying_0 : decode cX3_mostByLying 0 = .ok (.aload_n 0, 1) := by decide +kernel
theorem dX3_mostByLying_1 : decode cX3_mostByLying 1 = .ok (.iload_n 1, 1) := by decide +kernel
theorem dX3_mostByLying_2 : decode cX3_mostByLying 2 = .ok (.invokevirtual 58, 3) := by decide +kernel
theorem dX3_mostByLying_5 : decode cX3_mostByLying 5 = .ok (.aload_n 0, 1) := by decide +kernel
theorem dX3_mostByLying_6 : decode cX3_mostByLying 6 = .ok (.iload_n 2, 1) := by decide +kernel
theorem dX3_mostByLying_7 : decode cX3_mostByLying 7 = .ok (.iload_n 2, 1) := by decide +kernel
theorem dX3_mostByLying_8 : decode cX3_mostByLying 8 = .ok (.invokevirtual 62, 3) := by decide +kernel
theorem dX3_mostByLying_11 : decode cX3_mostByLying 11 = .ok (.istore_n 3, 1) := by decide +kernel
theorem dX3_mostByLying_12 : decode cX3_mostByLying 12 = .ok (.iload_n 3, 1) := by decide +kernel
theorem dX3_mostByLying_13 : decode cX3_mostByLying 13 = .ok (.istore 4, 2) := by decide +kernel
theorem dX3_mostByLying_15 : decode cX3_mostByLying 15 = .ok (.iconst 0, 1) := by decide +kernel
theorem dX3_mostByLying_16 : decode cX3_mostByLying 16 = .ok (.istore 5, 2) := by decide +kernel
theorem dX3_mostByLying_18 : decode cX3_mostByLying 18 = .ok (.iload 5, 2) := by decide +kernel
theorem dX3_mostByLying_20 : decode cX3_mostByLying 20 = .ok (.aload_n 0, 1) := by decide +kernel
theorem dX3_mostByLying_21 : decode cX3_mostByLying 21 = .ok (.getfield 22, 3) := by decide +kernel
theorem dX3_mostByLying_24 : decode cX3_mostByLying 24 = .ok (.if_icmp .ge 65, 3) := by decide +kernel
theorem dX3_mostByLying_27 : decode cX3_mostByLying 27 = .ok (.iconst 0, 1) := by decide +kernel
theorem dX3_mostByLying_28 : decode cX3_mostByLying 28 = .ok (.istore 6, 2) := by decide +kernel
theorem dX3_mostByLying_30 : decode cX3_mostByLying 30 = .ok (.iload 6, 2) := by decide +kernel
theorem dX3_mostByLying_32 : decode cX3_mostByLying 32 = .ok (.bipush 100, 2) := by decide +kernel
theorem dX3_mostByLying_34 : decode cX3_mostByLying 34 = .ok (.if_icmp .gt 49, 3) := by decide +kernel
theorem dX3_mostByLying_37 : decode cX3_mostByLying 37 = .ok (.aload_n 0, 1) := by decide +kernel
theorem dX3_mostByLying_38 : decode cX3_mostByLying 38 = .ok (.iload_n 2, 1) := by decide +kernel
theorem dX3_mostByLying_39 : decode cX3_mostByLying 39 = .ok (.iload 5, 2) := by decide +kernel
theorem dX3_mostByLying_41 : decode cX3_mostByLying 41 = .ok (.iload 6, 2) := by decide +kernel
theorem dX3_mostByLying_43 : decode cX3_mostByLying 43 = .ok (.invokevirtual 65, 3) := by decide +kernel
theorem dX3_mostByLying_46 : decode cX3_mostByLying 46 = .ok (.ifCond .eq 31, 3) := by decide +kernel
theorem dX3_mostByLying_49 : decode cX3_mostByLying 49 = .ok (.aload_n 0, 1) := by decide +kernel
theorem dX3_mostByLying_50 : decode cX3_mostByLying 50 = .ok (.iload_n 1, 1) := by decide +kernel
theorem dX3_mostByLying_51 : decode cX3_mostByLying 51 = .ok (.iload_n 2, 1) := by decide +kernel
theorem dX3_mostByLying_52 : decode cX3_mostByLying 52 = .ok (.aload_n 0, 1) := by decide +kernel
theorem dX3_mostByLying_53 : decode cX3_mostByLying 53 = .ok (.getfield 9, 3) := by decide +kernel
theorem dX3_mostByLying_56 : decode cX3_mostByLying 56 = .ok (.iload 5, 2) := by decide +kernel
theorem dX3_mostByLying_58 : decode cX3_mostByLying 58 = .ok (.iaload, 1) := by decide +kernel
theorem dX3_mostByLying_59 : decode cX3_mostByLying 59 = .ok (.iload 6, 2) := by decide +kernel
theorem dX3_mostByLying_61 : decode cX3_mostByLying 61 = .ok (.invokevirtual 41, 3) := by decide +kernel
theorem dX3_mostByLying_64 : decode cX3_mostByLying 64 = .ok (.iload 4, 2) := by decide +kernel
theorem dX3_mostByLying_66 : decode cX3_mostByLying 66 = .ok (.aload_n 0, 1) := by decide +kernel
theorem dX3_mostByLying_67 : decode cX3_mostByLying 67 = .ok (.iload_n 2, 1) := by decide +kernel
theorem dX3_mostByLying_68 : decode cX3_mostByLying 68 = .ok (.iload_n 2, 1) := by decide +kernel
theorem dX3_mostByLying_69 : decode cX3_mostByLying 69 = .ok (.invokevirtual 62, 3) := by decide +kernel
theorem dX3_mostByLying_72 : decode cX3_mostByLying 72 = .ok (.invokestatic 53, 3) := by decide +kernel
theorem dX3_mostByLying_75 : decode cX3_mostByLying 75 = .ok (.istore 4, 2) := by decide +kernel
theorem dX3_mostByLying_77 : decode cX3_mostByLying 77 = .ok (.iinc 6 1, 3) := by decide +kernel
theorem dX3_mostByLying_80 : decode cX3_mostByLying 80 = .ok (.goto (-50), 3) := by decide +kernel
theorem dX3_mostByLying_83 : decode cX3_mostByLying 83 = .ok (.iinc 5 1, 3) := by decide +kernel
theorem dX3_mostByLying_86 : decode cX3_mostByLying 86 = .ok (.goto (-68), 3) := by decide +kernel
theorem dX3_mostByLying_89 : decode cX3_mostByLying 89 = .ok (.iload 4, 2) := by decide +kernel
theorem dX3_mostByLying_91 : decode cX3_mostByLying 91 = .ok (.iload_n 3, 1) := by decide +kernel
theorem dX3_mostByLying_92 : decode cX3_mostByLying 92 = .ok (.isub, 1) := by decide +kernel
theorem dX3_mostByLying_93 : decode cX3_mostByLying 93 = .ok (.ireturn, 1) := by decide +kernel
theorem dX3_changesOrder_0 : decode cX3_changesOrder 0 = .ok (.iload_n 3, 1) := by decide +kernel
theorem dX3_changesOrder_1 : decode cX3_changesOrder 1 = .ok (.ifCond .ne 5, 3) := by decide +kernel
theorem dX3_changesOrder_4 : decode cX3_changesOrder 4 = .ok (.iconst 1, 1) := by decide +kernel
theorem dX3_changesOrder_5 : decode cX3_changesOrder 5 = .ok (.ireturn, 1) := by decide +kernel
theorem dX3_changesOrder_6 : decode cX3_changesOrder 6 = .ok (.iconst 0, 1) := by decide +kernel
theorem dX3_changesOrder_7 : decode cX3_changesOrder 7 = .ok (.istore 4, 2) := by decide +kernel
theorem dX3_changesOrder_9 : decode cX3_changesOrder 9 = .ok (.iload 4, 2) := by decide +kernel
theorem dX3_changesOrder_11 : decode cX3_changesOrder 11 = .ok (.aload_n 0, 1) := by decide +kernel
theorem dX3_changesOrder_12 : decode cX3_changesOrder 12 = .ok (.getfield 22, 3) := by decide +kernel
theorem dX3_changesOrder_15 : decode cX3_changesOrder 15 = .ok (.if_icmp .ge 50, 3) := by decide +kernel
theorem dX3_changesOrder_18 : decode cX3_changesOrder 18 = .ok (.aload_n 0, 1) := by decide +kernel
theorem dX3_changesOrder_19 : decode cX3_changesOrder 19 = .ok (.getfield 18, 3) := by decide +kernel
theorem dX3_changesOrder_22 : decode cX3_changesOrder 22 = .ok (.getfield 49, 3) := by decide +kernel
theorem dX3_changesOrder_25 : decode cX3_changesOrder 25 = .ok (.iload_n 1, 1) := by decide +kernel
theorem dX3_changesOrder_26 : decode cX3_changesOrder 26 = .ok (.aaload, 1) := by decide +kernel
theorem dX3_changesOrder_27 : decode cX3_changesOrder 27 = .ok (.aload_n 0, 1) := by decide +kernel
theorem dX3_changesOrder_28 : decode cX3_changesOrder 28 = .ok (.getfield 9, 3) := by decide +kernel
theorem dX3_changesOrder_31 : decode cX3_changesOrder 31 = .ok (.iload 4, 2) := by decide +kernel
theorem dX3_changesOrder_33 : decode cX3_changesOrder 33 = .ok (.iaload, 1) := by decide +kernel
theorem dX3_changesOrder_34 : decode cX3_changesOrder 34 = .ok (.iaload, 1) := by decide +kernel
theorem dX3_changesOrder_35 : decode cX3_changesOrder 35 = .ok (.istore 5, 2) := by decide +kernel
theorem dX3_changesOrder_37 : decode cX3_changesOrder 37 = .ok (.iload 4, 2) := by decide +kernel
theorem dX3_changesOrder_39 : decode cX3_changesOrder 39 = .ok (.iload_n 2, 1) := by decide +kernel
theorem dX3_changesOrder_40 : decode cX3_changesOrder 40 = .ok (.if_icmp .eq 19, 3) := by decide +kernel
theorem dX3_changesOrder_43 : decode cX3_changesOrder 43 = .ok (.iload 5, 2) := by decide +kernel
theorem dX3_changesOrder_45 : decode cX3_changesOrder 45 = .ok (.iload_n 3, 1) := by decide +kernel
theorem dX3_changesOrder_46 : decode cX3_changesOrder 46 = .ok (.if_icmp .eq 11, 3) := by decide +kernel
theorem dX3_changesOrder_49 : decode cX3_changesOrder 49 = .ok (.iload 5, 2) := by decide +kernel
theorem dX3_changesOrder_51 : decode cX3_changesOrder 51 = .ok (.iload_n 3, 1) := by decide +kernel
theorem dX3_changesOrder_52 : decode cX3_changesOrder 52 = .ok (.iconst 1, 1) := by decide +kernel
theorem dX3_changesOrder_53 : decode cX3_changesOrder 53 = .ok (.isub, 1) := by decide +kernel
theorem dX3_changesOrder_54 : decode cX3_changesOrder 54 = .ok (.if_icmp .ne 5, 3) := by decide +kernel
theorem dX3_changesOrder_57 : decode cX3_changesOrder 57 = .ok (.iconst 1, 1) := by decide +kernel
theorem dX3_changesOrder_58 : decode cX3_changesOrder 58 = .ok (.ireturn, 1) := by decide +kernel
theorem dX3_changesOrder_59 : decode cX3_changesOrder 59 = .ok (.iinc 4 1, 3) := by decide +kernel
theorem dX3_changesOrder_62 : decode cX3_changesOrder 62 = .ok (.goto (-53), 3) := by decide +kernel
theorem dX3_changesOrder_65 : decode cX3_changesOrder 65 = .ok (.iconst 0, 1) := by decide +kernel
theorem dX3_changesOrder_66 : decode cX3_changesOrder 66 = .ok (.ireturn, 1) := by decide +kernel
theorem dX3_sumOf_0 : decode cX3_sumOf 0 = .ok (.iconst 0, 1) := by decide +kernel
theorem dX3_sumOf_1 : decode cX3_sumOf 1 = .ok (.istore_n 3, 1) := by decide +kernel
theorem dX3_sumOf_2 : decode cX3_sumOf 2 = .ok (.iconst 0, 1) := by decide +kernel
theorem dX3_sumOf_3 : decode cX3_sumOf 3 = .ok (.istore 4, 2) := by decide +kernel
theorem dX3_sumOf_5 : decode cX3_sumOf 5 = .ok (.iload 4, 2) := by decide +kernel
theorem dX3_sumOf_7 : decode cX3_sumOf 7 = .ok (.aload_n 0, 1) := by decide +kernel
theorem dX3_sumOf_8 : decode cX3_sumOf 8 = .ok (.getfield 22, 3) := by decide +kernel
theorem dX3_sumOf_11 : decode cX3_sumOf 11 = .ok (.if_icmp .ge 40, 3) := by decide +kernel
theorem dX3_sumOf_14 : decode cX3_sumOf 14 = .ok (.aload_n 0, 1) := by decide +kernel
theorem dX3_sumOf_15 : decode cX3_sumOf 15 = .ok (.getfield 15, 3) := by decide +kernel
theorem dX3_sumOf_18 : decode cX3_sumOf 18 = .ok (.iload 4, 2) := by decide +kernel
theorem dX3_sumOf_20 : decode cX3_sumOf 20 = .ok (.iaload, 1) := by decide +kernel
theorem dX3_sumOf_21 : decode cX3_sumOf 21 = .ok (.iload_n 2, 1) := by decide +kernel
theorem dX3_sumOf_22 : decode cX3_sumOf 22 = .ok (.if_icmp .ne 23, 3) := by decide +kernel
theorem dX3_sumOf_25 : decode cX3_sumOf 25 = .ok (.iload_n 3, 1) := by decide +kernel
theorem dX3_sumOf_26 : decode cX3_sumOf 26 = .ok (.aload_n 0, 1) := by decide +kernel
theorem dX3_sumOf_27 : decode cX3_sumOf 27 = .ok (.getfield 18, 3) := by decide +kernel
theorem dX3_sumOf_30 : decode cX3_sumOf 30 = .ok (.getfield 49, 3) := by decide +kernel
theorem dX3_sumOf_33 : decode cX3_sumOf 33 = .ok (.iload_n 1, 1) := by decide +kernel
theorem dX3_sumOf_34 : decode cX3_sumOf 34 = .ok (.aaload, 1) := by decide +kernel
theorem dX3_sumOf_35 : decode cX3_sumOf 35 = .ok (.aload_n 0, 1) := by decide +kernel
theorem dX3_sumOf_36 : decode cX3_sumOf 36 = .ok (.getfield 9, 3) := by decide +kernel
theorem dX3_sumOf_39 : decode cX3_sumOf 39 = .ok (.iload 4, 2) := by decide +kernel
theorem dX3_sumOf_41 : decode cX3_sumOf 41 = .ok (.iaload, 1) := by decide +kernel
theorem dX3_sumOf_42 : decode cX3_sumOf 42 = .ok (.iaload, 1) := by decide +kernel
theorem dX3_sumOf_43 : decode cX3_sumOf 43 = .ok (.iadd, 1) := by decide +kernel
theorem dX3_sumOf_44 : decode cX3_sumOf 44 = .ok (.istore_n 3, 1) := by decide +kernel
theorem dX3_sumOf_45 : decode cX3_sumOf 45 = .ok (.iinc 4 1, 3) := by decide +kernel
theorem dX3_sumOf_48 : decode cX3_sumOf 48 = .ok (.goto (-43), 3) := by decide +kernel
theorem dX3_sumOf_51 : decode cX3_sumOf 51 = .ok (.iload_n 3, 1) := by decide +kernel
theorem dX3_sumOf_52 : decode cX3_sumOf 52 = .ok (.ireturn, 1) := by decide +kernel
theorem dX3_greatestOf_0 : decode cX3_greatestOf 0 = .ok (.iconst 0, 1) := by decide +kernel
theorem dX3_greatestOf_1 : decode cX3_greatestOf 1 = .ok (.istore_n 3, 1) := by decide +kernel
theorem dX3_greatestOf_2 : decode cX3_greatestOf 2 = .ok (.iconst 0, 1) := by decide +kernel
theorem dX3_greatestOf_3 : decode cX3_greatestOf 3 = .ok (.istore 4, 2) := by decide +kernel
theorem dX3_greatestOf_5 : decode cX3_greatestOf 5 = .ok (.iload 4, 2) := by decide +kernel
theorem dX3_greatestOf_7 : decode cX3_greatestOf 7 = .ok (.aload_n 0, 1) := by decide +kernel
theorem dX3_greatestOf_8 : decode cX3_greatestOf 8 = .ok (.getfield 22, 3) := by decide +kernel
theorem dX3_greatestOf_11 : decode cX3_greatestOf 11 = .ok (.if_icmp .ge 42, 3) := by decide +kernel
theorem dX3_greatestOf_14 : decode cX3_greatestOf 14 = .ok (.aload_n 0, 1) := by decide +kernel
theorem dX3_greatestOf_15 : decode cX3_greatestOf 15 = .ok (.getfield 15, 3) := by decide +kernel
theorem dX3_greatestOf_18 : decode cX3_greatestOf 18 = .ok (.iload 4, 2) := by decide +kernel
theorem dX3_greatestOf_20 : decode cX3_greatestOf 20 = .ok (.iaload, 1) := by decide +kernel
theorem dX3_greatestOf_21 : decode cX3_greatestOf 21 = .ok (.iload_n 2, 1) := by decide +kernel
theorem dX3_greatestOf_22 : decode cX3_greatestOf 22 = .ok (.if_icmp .ne 25, 3) := by decide +kernel
theorem dX3_greatestOf_25 : decode cX3_greatestOf 25 = .ok (.iload_n 3, 1) := by decide +kernel
theorem dX3_greatestOf_26 : decode cX3_greatestOf 26 = .ok (.aload_n 0, 1) := by decide +kernel
theorem dX3_greatestOf_27 : decode cX3_greatestOf 27 = .ok (.getfield 18, 3) := by decide +kernel
theorem dX3_greatestOf_30 : decode cX3_greatestOf 30 = .ok (.getfield 49, 3) := by decide +kernel
theorem dX3_greatestOf_33 : decode cX3_greatestOf 33 = .ok (.iload_n 1, 1) := by decide +kernel
theorem dX3_greatestOf_34 : decode cX3_greatestOf 34 = .ok (.aaload, 1) := by decide +kernel
theorem dX3_greatestOf_35 : decode cX3_greatestOf 35 = .ok (.aload_n 0, 1) := by decide +kernel
theorem dX3_greatestOf_36 : decode cX3_greatestOf 36 = .ok (.getfield 9, 3) := by decide +kernel
theorem dX3_greatestOf_39 : decode cX3_greatestOf 39 = .ok (.iload 4, 2) := by decide +kernel
theorem dX3_greatestOf_41 : decode cX3_greatestOf 41 = .ok (.iaload, 1) := by decide +kernel
theorem dX3_greatestOf_42 : decode cX3_greatestOf 42 = .ok (.iaload, 1) := by decide +kernel
theorem dX3_greatestOf_43 : decode cX3_greatestOf 43 = .ok (.invokestatic 53, 3) := by decide +kernel
theorem dX3_greatestOf_46 : decode cX3_greatestOf 46 = .ok (.istore_n 3, 1) := by decide +kernel
theorem dX3_greatestOf_47 : decode cX3_greatestOf 47 = .ok (.iinc 4 1, 3) := by decide +kernel
theorem dX3_greatestOf_50 : decode cX3_greatestOf 50 = .ok (.goto (-45), 3) := by decide +kernel
theorem dX3_greatestOf_53 : decode cX3_greatestOf 53 = .ok (.iload_n 3, 1) := by decide +kernel
theorem dX3_greatestOf_54 : decode cX3_greatestOf 54 = .ok (.ireturn, 1) := by decide +kernel
theorem dX3_envyOf_0 : decode cX3_envyOf 0 = .ok (.aload_n 0, 1) := by decide +kernel
theorem dX3_envyOf_1 : decode cX3_envyOf 1 = .ok (.iload_n 1, 1) := by decide +kernel
theorem dX3_envyOf_2 : decode cX3_envyOf 2 = .ok (.iload_n 2, 1) := by decide +kernel
theorem dX3_envyOf_3 : decode cX3_envyOf 3 = .ok (.invokevirtual 62, 3) := by decide +kernel
theorem dX3_envyOf_6 : decode cX3_envyOf 6 = .ok (.aload_n 0, 1) := by decide +kernel
theorem dX3_envyOf_7 : decode cX3_envyOf 7 = .ok (.iload_n 1, 1) := by decide +kernel
theorem dX3_envyOf_8 : decode cX3_envyOf 8 = .ok (.iload_n 1, 1) := by decide +kernel
theorem dX3_envyOf_9 : decode cX3_envyOf 9 = .ok (.invokevirtual 62, 3) := by decide +kernel
theorem dX3_envyOf_12 : decode cX3_envyOf 12 = .ok (.isub, 1) := by decide +kernel
theorem dX3_envyOf_13 : decode cX3_envyOf 13 = .ok (.istore_n 3, 1) := by decide +kernel
theorem dX3_envyOf_14 : decode cX3_envyOf 14 = .ok (.iload_n 3, 1) := by decide +kernel
theorem dX3_envyOf_15 : decode cX3_envyOf 15 = .ok (.ifCond .gt 5, 3) := by decide +kernel
theorem dX3_envyOf_18 : decode cX3_envyOf 18 = .ok (.iconst 0, 1) := by decide +kernel
theorem dX3_envyOf_19 : decode cX3_envyOf 19 = .ok (.ireturn, 1) := by decide +kernel
theorem dX3_envyOf_20 : decode cX3_envyOf 20 = .ok (.iload_n 3, 1) := by decide +kernel
theorem dX3_envyOf_21 : decode cX3_envyOf 21 = .ok (.aload_n 0, 1) := by decide +kernel
theorem dX3_envyOf_22 : decode cX3_envyOf 22 = .ok (.iload_n 1, 1) := by decide +kernel
theorem dX3_envyOf_23 : decode cX3_envyOf 23 = .ok (.iload_n 2, 1) := by decide +kernel
theorem dX3_envyOf_24 : decode cX3_envyOf 24 = .ok (.invokevirtual 69, 3) := by decide +kernel
theorem dX3_envyOf_27 : decode cX3_envyOf 27 = .ok (.if_icmp .gt 7, 3) := by decide +kernel
theorem dX3_envyOf_30 : decode cX3_envyOf 30 = .ok (.iconst 1, 1) := by decide +kernel
theorem dX3_envyOf_31 : decode cX3_envyOf 31 = .ok (.goto 4, 3) := by decide +kernel
theorem dX3_envyOf_34 : decode cX3_envyOf 34 = .ok (.iconst 2, 1) := by decide +kernel
theorem dX3_envyOf_35 : decode cX3_envyOf 35 = .ok (.ireturn, 1) := by decide +kernel
theorem dX3_envyPairs_0 : decode cX3_envyPairs 0 = .ok (.iconst 0, 1) := by decide +kernel
theorem dX3_envyPairs_1 : decode cX3_envyPairs 1 = .ok (.istore_n 1, 1) := by decide +kernel
theorem dX3_envyPairs_2 : decode cX3_envyPairs 2 = .ok (.iconst 0, 1) := by decide +kernel
theorem dX3_envyPairs_3 : decode cX3_envyPairs 3 = .ok (.istore_n 2, 1) := by decide +kernel
theorem dX3_envyPairs_4 : decode cX3_envyPairs 4 = .ok (.iload_n 2, 1) := by decide +kernel
theorem dX3_envyPairs_5 : decode cX3_envyPairs 5 = .ok (.aload_n 0, 1) := by decide +kernel
theorem dX3_envyPairs_6 : decode cX3_envyPairs 6 = .ok (.getfield 18, 3) := by decide +kernel
theorem dX3_envyPairs_9 : decode cX3_envyPairs 9 = .ok (.getfield 35, 3) := by decide +kernel
theorem dX3_envyPairs_12 : decode cX3_envyPairs 12 = .ok (.if_icmp .ge 45, 3) := by decide +kernel
theorem dX3_envyPairs_15 : decode cX3_envyPairs 15 = .ok (.iconst 0, 1) := by decide +kernel
theorem dX3_envyPairs_16 : decode cX3_envyPairs 16 = .ok (.istore_n 3, 1) := by decide +kernel
theorem dX3_envyPairs_17 : decode cX3_envyPairs 17 = .ok (.iload_n 3, 1) := by decide +kernel
theorem dX3_envyPairs_18 : decode cX3_envyPairs 18 = .ok (.aload_n 0, 1) := by decide +kernel
theorem dX3_envyPairs_19 : decode cX3_envyPairs 19 = .ok (.getfield 18, 3) := by decide +kernel
theorem dX3_envyPairs_22 : decode cX3_envyPairs 22 = .ok (.getfield 35, 3) := by decide +kernel
theorem dX3_envyPairs_25 : decode cX3_envyPairs 25 = .ok (.if_icmp .ge 26, 3) := by decide +kernel
theorem dX3_envyPairs_28 : decode cX3_envyPairs 28 = .ok (.iload_n 2, 1) := by decide +kernel
theorem dX3_envyPairs_29 : decode cX3_envyPairs 29 = .ok (.iload_n 3, 1) := by decide +kernel
theorem dX3_envyPairs_30 : decode cX3_envyPairs 30 = .ok (.if_icmp .eq 15, 3) := by decide +kernel
theorem dX3_envyPairs_33 : decode cX3_envyPairs 33 = .ok (.aload_n 0, 1) := by decide +kernel
theorem dX3_envyPairs_34 : decode cX3_envyPairs 34 = .ok (.iload_n 2, 1) := by decide +kernel
theorem dX3_envyPairs_35 : decode cX3_envyPairs 35 = .ok (.iload_n 3, 1) := by decide +kernel
theorem dX3_envyPairs_36 : decode cX3_envyPairs 36 = .ok (.invokevirtual 72, 3) := by decide +kernel
theorem dX3_envyPairs_39 : decode cX3_envyPairs 39 = .ok (.ifCond .le 6, 3) := by decide +kernel
theorem dX3_envyPairs_42 : decode cX3_envyPairs 42 = .ok (.iinc 1 1, 3) := by decide +kernel
theorem dX3_envyPairs_45 : decode cX3_envyPairs 45 = .ok (.iinc 3 1, 3) := by decide +kernel
theorem dX3_envyPairs_48 : decode cX3_envyPairs 48 = .ok (.goto (-31), 3) := by decide +kernel
theorem dX3_envyPairs_51 : decode cX3_envyPairs 51 = .ok (.iinc 2 1, 3) := by decide +kernel
theorem dX3_envyPairs_54 : decode cX3_envyPairs 54 = .ok (.goto (-50), 3) := by decide +kernel
theorem dX3_envyPairs_57 : decode cX3_envyPairs 57 = .ok (.iload_n 1, 1) := by decide +kernel
theorem dX3_envyPairs_58 : decode cX3_envyPairs 58 = .ok (.ireturn, 1) := by decide +kernel
theorem dX3_giveToKeenest_0 : decode cX3_giveToKeenest 0 = .ok (.iconst 0, 1) := by decide +kernel
theorem dX3_giveToKeenest_1 : decode cX3_giveToKeenest 1 = .ok (.istore_n 1, 1) := by decide +kernel
theorem dX3_giveToKeenest_2 : decode cX3_giveToKeenest 2 = .ok (.iload_n 1, 1) := by decide +kernel
theorem dX3_giveToKeenest_3 : decode cX3_giveToKeenest 3 = .ok (.aload_n 0, 1) := by decide +kernel
theorem dX3_giveToKeenest_4 : decode cX3_giveToKeenest 4 = .ok (.getfield 22, 3) := by decide +kernel
theorem dX3_giveToKeenest_7 : decode cX3_giveToKeenest 7 = .ok (.if_icmp .ge 28, 3) := by decide +kernel
theorem dX3_giveToKeenest_10 : decode cX3_giveToKeenest 10 = .ok (.aload_n 0, 1) := by decide +kernel
theorem dX3_giveToKeenest_11 : decode cX3_giveToKeenest 11 = .ok (.getfield 15, 3) := by decide +kernel
theorem dX3_giveToKeenest_14 : decode cX3_giveToKeenest 14 = .ok (.iload_n 1, 1) := by decide +kernel
theorem dX3_giveToKeenest_15 : decode cX3_giveToKeenest 15 = .ok (.aload_n 0, 1) := by decide +kernel
theorem dX3_giveToKeenest_16 : decode cX3_giveToKeenest 16 = .ok (.getfield 18, 3) := by decide +kernel
theorem dX3_giveToKeenest_19 : decode cX3_giveToKeenest 19 = .ok (.aload_n 0, 1) := by decide +kernel
theorem dX3_giveToKeenest_20 : decode cX3_giveToKeenest 20 = .ok (.getfield 9, 3) := by decide +kernel
theorem dX3_giveToKeenest_23 : decode cX3_giveToKeenest 23 = .ok (.iload_n 1, 1) := by decide +kernel
theorem dX3_giveToKeenest_24 : decode cX3_giveToKeenest 24 = .ok (.iaload, 1) := by decide +kernel
theorem dX3_giveToKeenest_25 : decode cX3_giveToKeenest 25 = .ok (.invokevirtual 75, 3) := by decide +kernel
theorem dX3_giveToKeenest_28 : decode cX3_giveToKeenest 28 = .ok (.iastore, 1) := by decide +kernel
theorem dX3_giveToKeenest_29 : decode cX3_giveToKeenest 29 = .ok (.iinc 1 1, 3) := by decide +kernel
theorem dX3_giveToKeenest_32 : decode cX3_giveToKeenest 32 = .ok (.goto (-30), 3) := by decide +kernel
theorem dX3_giveToKeenest_35 : decode cX3_giveToKeenest 35 = .ok (.return_, 1) := by decide +kernel
theorem dX3_claimOf_0 : decode cX3_claimOf 0 = .ok (.iconst 0, 1) := by decide +kernel
theorem dX3_claimOf_1 : decode cX3_claimOf 1 = .ok (.istore_n 2, 1) := by decide +kernel
theorem dX3_claimOf_2 : decode cX3_claimOf 2 = .ok (.iconst 0, 1) := by decide +kernel
theorem dX3_claimOf_3 : decode cX3_claimOf 3 = .ok (.istore_n 3, 1) := by decide +kernel
theorem dX3_claimOf_4 : decode cX3_claimOf 4 = .ok (.iload_n 3, 1) := by decide +kernel
theorem dX3_claimOf_5 : decode cX3_claimOf 5 = .ok (.aload_n 0, 1) := by decide +kernel
theorem dX3_claimOf_6 : decode cX3_claimOf 6 = .ok (.getfield 22, 3) := by decide +kernel
theorem dX3_claimOf_9 : decode cX3_claimOf 9 = .ok (.if_icmp .ge 28, 3) := by decide +kernel
theorem dX3_claimOf_12 : decode cX3_claimOf 12 = .ok (.iload_n 2, 1) := by decide +kernel
theorem dX3_claimOf_13 : decode cX3_claimOf 13 = .ok (.aload_n 0, 1) := by decide +kernel
theorem dX3_claimOf_14 : decode cX3_claimOf 14 = .ok (.getfield 18, 3) := by decide +kernel
theorem dX3_claimOf_17 : decode cX3_claimOf 17 = .ok (.getfield 49, 3) := by decide +kernel
theorem dX3_claimOf_20 : decode cX3_claimOf 20 = .ok (.iload_n 1, 1) := by decide +kernel
theorem dX3_claimOf_21 : decode cX3_claimOf 21 = .ok (.aaload, 1) := by decide +kernel
theorem dX3_claimOf_22 : decode cX3_claimOf 22 = .ok (.aload_n 0, 1) := by decide +kernel
theorem dX3_claimOf_23 : decode cX3_claimOf 23 = .ok (.getfield 9, 3) := by decide +kernel
theorem dX3_claimOf_26 : decode cX3_claimOf 26 = .ok (.iload_n 3, 1) := by decide +kernel
theorem dX3_claimOf_27 : decode cX3_claimOf 27 = .ok (.iaload, 1) := by decide +kernel
theorem dX3_claimOf_28 : decode cX3_claimOf 28 = .ok (.iaload, 1) := by decide +kernel
theorem dX3_claimOf_29 : decode cX3_claimOf 29 = .ok (.iadd, 1) := by decide +kernel
theorem dX3_claimOf_30 : decode cX3_claimOf 30 = .ok (.istore_n 2, 1) := by decide +kernel
theorem dX3_claimOf_31 : decode cX3_claimOf 31 = .ok (.iinc 3 1, 3) := by decide +kernel
theorem dX3_claimOf_34 : decode cX3_claimOf 34 = .ok (.goto (-30), 3) := by decide +kernel
theorem dX3_claimOf_37 : decode cX3_claimOf 37 = .ok (.iload_n 2, 1) := by decide +kernel
theorem dX3_claimOf_38 : decode cX3_claimOf 38 = .ok (.iconst 1, 1) := by decide +kernel
theorem dX3_claimOf_39 : decode cX3_claimOf 39 = .ok (.aload_n 0, 1) := by decide +kernel
theorem dX3_claimOf_40 : decode cX3_claimOf 40 = .ok (.getfield 18, 3) := by decide +kernel
theorem dX3_claimOf_43 : decode cX3_claimOf 43 = .ok (.getfield 35, 3) := by decide +kernel
theorem dX3_claimOf_46 : decode cX3_claimOf 46 = .ok (.invokestatic 53, 3) := by decide +kernel
theorem dX3_claimOf_49 : decode cX3_claimOf 49 = .ok (.idiv, 1) := by decide +kernel
theorem dX3_claimOf_50 : decode cX3_claimOf 50 = .ok (.ireturn, 1) := by decide +kernel
theorem dX3_paymentOf_0 : decode cX3_paymentOf 0 = .ok (.aload_n 0, 1) := by decide +kernel
theorem dX3_paymentOf_1 : decode cX3_paymentOf 1 = .ok (.iload_n 1, 1) := by decide +kernel
theorem dX3_paymentOf_2 : decode cX3_paymentOf 2 = .ok (.iload_n 1, 1) := by decide +kernel
theorem dX3_paymentOf_3 : decode cX3_paymentOf 3 = .ok (.invokevirtual 62, 3) := by decide +kernel
theorem dX3_paymentOf_6 : decode cX3_paymentOf 6 = .ok (.aload_n 0, 1) := by decide +kernel
theorem dX3_paymentOf_7 : decode cX3_paymentOf 7 = .ok (.iload_n 1, 1) := by decide +kernel
theorem dX3_paymentOf_8 : decode cX3_paymentOf 8 = .ok (.invokevirtual 78, 3) := by decide +kernel
theorem dX3_paymentOf_11 : decode cX3_paymentOf 11 = .ok (.isub, 1) := by decide +kernel
theorem dX3_paymentOf_12 : decode cX3_paymentOf 12 = .ok (.ireturn, 1) := by decide +kernel
theorem dX3_partOfRest_0 : decode cX3_partOfRest 0 = .ok (.iconst 0, 1) := by decide +kernel
theorem dX3_partOfRest_1 : decode cX3_partOfRest 1 = .ok (.istore_n 1, 1) := by decide +kernel
theorem dX3_partOfRest_2 : decode cX3_partOfRest 2 = .ok (.iconst 0, 1) := by decide +kernel
theorem dX3_partOfRest_3 : decode cX3_partOfRest 3 = .ok (.istore_n 2, 1) := by decide +kernel
theorem dX3_partOfRest_4 : decode cX3_partOfRest 4 = .ok (.iload_n 2, 1) := by decide +kernel
theorem dX3_partOfRest_5 : decode cX3_partOfRest 5 = .ok (.aload_n 0, 1) := by decide +kernel
theorem dX3_partOfRest_6 : decode cX3_partOfRest 6 = .ok (.getfield 18, 3) := by decide +kernel
theorem dX3_partOfRest_9 : decode cX3_partOfRest 9 = .ok (.getfield 35, 3) := by decide +kernel
theorem dX3_partOfRest_12 : decode cX3_partOfRest 12 = .ok (.if_icmp .ge 17, 3) := by decide +kernel
theorem dX3_partOfRest_15 : decode cX3_partOfRest 15 = .ok (.iload_n 1, 1) := by decide +kernel
theorem dX3_partOfRest_16 : decode cX3_partOfRest 16 = .ok (.aload_n 0, 1) := by decide +kernel
theorem dX3_partOfRest_17 : decode cX3_partOfRest 17 = .ok (.iload_n 2, 1) := by decide +kernel
theorem dX3_partOfRest_18 : decode cX3_partOfRest 18 = .ok (.invokevirtual 81, 3) := by decide +kernel
theorem dX3_partOfRest_21 : decode cX3_partOfRest 21 = .ok (.iadd, 1) := by decide +kernel
theorem dX3_partOfRest_22 : decode cX3_partOfRest 22 = .ok (.istore_n 1, 1) := by decide +kernel
theorem dX3_partOfRest_23 : decode cX3_partOfRest 23 = .ok (.iinc 2 1, 3) := by decide +kernel
theorem dX3_partOfRest_26 : decode cX3_partOfRest 26 = .ok (.goto (-22), 3) := by decide +kernel
theorem dX3_partOfRest_29 : decode cX3_partOfRest 29 = .ok (.iload_n 1, 1) := by decide +kernel
theorem dX3_partOfRest_30 : decode cX3_partOfRest 30 = .ok (.iconst 1, 1) := by decide +kernel
theorem dX3_partOfRest_31 : decode cX3_partOfRest 31 = .ok (.aload_n 0, 1) := by decide +kernel
theorem dX3_partOfRest_32 : decode cX3_partOfRest 32 = .ok (.getfield 18, 3) := by decide +kernel
theorem dX3_partOfRest_35 : decode cX3_partOfRest 35 = .ok (.getfield 35, 3) := by decide +kernel
theorem dX3_partOfRest_38 : decode cX3_partOfRest 38 = .ok (.invokestatic 53, 3) := by decide +kernel
theorem dX3_partOfRest_41 : decode cX3_partOfRest 41 = .ok (.idiv, 1) := by decide +kernel
theorem dX3_partOfRest_42 : decode cX3_partOfRest 42 = .ok (.ireturn, 1) := by decide +kernel
end
section
theorem dX4_init_0 : decode cX4_init 0 = .ok (.aload_n 0, 1) := by decide +kernel
theorem dX4_init_1 : decode cX4_init 1 = .ok (.invokespecial 3, 3) := by decide +kernel
theorem dX4_init_4 : decode cX4_init 4 = .ok (.aload_n 0, 1) := by decide +kernel
theorem dX4_init_5 : decode cX4_init 5 = .ok (.iconst (-1), 1) := by decide +kernel
theorem dX4_init_6 : decode cX4_init 6 = .ok (.putfield 9, 3) := by decide +kernel
theorem dX4_init_9 : decode cX4_init 9 = .ok (.aload_n 0, 1) := by decide +kernel
theorem dX4_init_10 : decode cX4_init 10 = .ok (.bipush 60, 2) := by decide +kernel
theorem dX4_init_12 : decode cX4_init 12 = .ok (.newarray .int, 2) := by decide +kernel
theorem dX4_init_14 : decode cX4_init 14 = .ok (.putfield 15, 3) := by decide +kernel
theorem dX4_init_17 : decode cX4_init 17 = .ok (.return_, 1) := by decide +kernel
theorem dX4_renew_0 : decode cX4_renew 0 = .ok (.aload_n 0, 1) := by decide +kernel
theorem dX4_renew_1 : decode cX4_renew 1 = .ok (.iload_n 1, 1) := by decide +kernel
theorem dX4_renew_2 : decode cX4_renew 2 = .ok (.putfield 9, 3) := by decide +kernel
theorem dX4_renew_5 : decode cX4_renew 5 = .ok (.aload_n 0, 1) := by decide +kernel
theorem dX4_renew_6 : decode cX4_renew 6 = .ok (.iload_n 2, 1) := by decide +kernel
theorem dX4_renew_7 : decode cX4_renew 7 = .ok (.putfield 19, 3) := by decide +kernel
theorem dX4_renew_10 : decode cX4_renew 10 = .ok (.iconst 0, 1) := by decide +kernel
theorem dX4_renew_11 : decode cX4_renew 11 = .ok (.istore_n 3, 1) := by decide +kernel
theorem dX4_renew_12 : decode cX4_renew 12 = .ok (.iload_n 3, 1) := by decide +kernel
theorem dX4_renew_13 : decode cX4_renew 13 = .ok (.bipush 60, 2) := by decide +kernel
theorem dX4_renew_15 : decode cX4_renew 15 = .ok (.if_icmp .ge 16, 3) := by decide +kernel
theorem dX4_renew_18 : decode cX4_renew 18 = .ok (.aload_n 0, 1) := by decide +kernel
theorem dX4_renew_19 : decode cX4_renew 19 = .ok (.getfield 15, 3) := by decide +kernel
theorem dX4_renew_22 : decode cX4_renew 22 = .ok (.iload_n 3, 1) := by decide +kernel
theorem dX4_renew_23 : decode cX4_renew 23 = .ok (.iconst 0, 1) := by decide +kernel
theorem dX4_renew_24 : decode cX4_renew 24 = .ok (.iastore, 1) := by decide +kernel
theorem dX4_renew_25 : decode cX4_renew 25 = .ok (.iinc 3 1, 3) := by decide +kernel
theorem dX4_renew_28 : decode cX4_renew 28 = .ok (.goto (-16), 3) := by decide +kernel
theorem dX4_renew_31 : decode cX4_renew 31 = .ok (.return_, 1) := by decide +kernel
theorem dX4_hasCell_0 : decode cX4_hasCell 0 = .ok (.iload_n 1, 1) := by decide +kernel
theorem dX4_hasCell_1 : decode cX4_hasCell 1 = .ok (.ifCond .lt 15, 3) := by decide +kernel
theorem dX4_hasCell_4 : decode cX4_hasCell 4 = .ok (.iload_n 1, 1) := by decide +kernel
theorem dX4_hasCell_5 : decode cX4_hasCell 5 = .ok (.aload_n 0, 1) := by decide +kernel
theorem dX4_hasCell_6 : decode cX4_hasCell 6 = .ok (.getfield 19, 3) := by decide +kernel
theorem dX4_hasCell_9 : decode cX4_hasCell 9 = .ok (.if_icmp .ge 7, 3) := by decide +kernel
theorem dX4_hasCell_12 : decode cX4_hasCell 12 = .ok (.iconst 1, 1) := by decide +kernel
theorem dX4_hasCell_13 : decode cX4_hasCell 13 = .ok (.goto 4, 3) := by decide +kernel
theorem dX4_hasCell_16 : decode cX4_hasCell 16 = .ok (.iconst 0, 1) := by decide +kernel
theorem dX4_hasCell_17 : decode cX4_hasCell 17 = .ok (.ireturn, 1) := by decide +kernel
theorem dX4_put_0 : decode cX4_put 0 = .ok (.aload_n 0, 1) := by decide +kernel
theorem dX4_put_1 : decode cX4_put 1 = .ok (.getfield 15, 3) := by decide +kernel
theorem dX4_put_4 : decode cX4_put 4 = .ok (.iload_n 1, 1) := by decide +kernel
theorem dX4_put_5 : decode cX4_put 5 = .ok (.aload_n 0, 1) := by decide +kernel
theorem dX4_put_6 : decode cX4_put 6 = .ok (.getfield 9, 3) := by decide +kernel
theorem dX4_put_9 : decode cX4_put 9 = .ok (.ifCond .ne 8, 3) := by decide +kernel
theorem dX4_put_12 : decode cX4_put 12 = .ok (.iload_n 2, 1) := by decide +kernel
theorem dX4_put_13 : decode cX4_put 13 = .ok (.i2b, 1) := by decide +kernel
theorem dX4_put_14 : decode cX4_put 14 = .ok (.goto 17, 3) := by decide +kernel
theorem dX4_put_17 : decode cX4_put 17 = .ok (.aload_n 0, 1) := by decide +kernel
theorem dX4_put_18 : decode cX4_put 18 = .ok (.getfield 9, 3) := by decide +kernel
theorem dX4_put_21 : decode cX4_put 21 = .ok (.iconst 1, 1) := by decide +kernel
theorem dX4_put_22 : decode cX4_put 22 = .ok (.if_icmp .ne 8, 3) := by decide +kernel
theorem dX4_put_25 : decode cX4_put 25 = .ok (.iload_n 2, 1) := by decide +kernel
theorem dX4_put_26 : decode cX4_put 26 = .ok (.i2s, 1) := by decide +kernel
theorem dX4_put_27 : decode cX4_put 27 = .ok (.goto 4, 3) := by decide +kernel
theorem dX4_put_30 : decode cX4_put 30 = .ok (.iload_n 2, 1) := by decide +kernel
theorem dX4_put_31 : decode cX4_put 31 = .ok (.iastore, 1) := by decide +kernel
theorem dX4_put_32 : decode cX4_put 32 = .ok (.return_, 1) := by decide +kernel
theorem dX4_refusal_0 : decode cX4_refusal 0 = .ok (.aload_n 0, 1) := by decide +kernel
theorem dX4_refusal_1 : decode cX4_refusal 1 = .ok (.getfield 9, 3) := by decide +kernel
theorem dX4_refusal_4 : decode cX4_refusal 4 = .ok (.iconst (-1), 1) := by decide +kernel
theorem dX4_refusal_5 : decode cX4_refusal 5 = .ok (.if_icmp .ne 6, 3) := by decide +kernel
theorem dX4_refusal_8 : decode cX4_refusal 8 = .ok (.bipush (-11), 2) := by decide +kernel
theorem dX4_refusal_10 : decode cX4_refusal 10 = .ok (.ireturn, 1) := by decide +kernel
theorem dX4_refusal_11 : decode cX4_refusal 11 = .ok (.aload_n 0, 1) := by decide +kernel
theorem dX4_refusal_12 : decode cX4_refusal 12 = .ok (.getfield 9, 3) := by decide +kernel
theorem dX4_refusal_15 : decode cX4_refusal 15 = .ok (.iload_n 1, 1) := by decide +kernel
theorem dX4_refusal_16 : decode cX4_refusal 16 = .ok (.if_icmp .eq 6, 3) := by decide +kernel
theorem dX4_refusal_19 : decode cX4_refusal 19 = .ok (.bipush (-13), 2) := by decide +kernel
theorem dX4_refusal_21 : decode cX4_refusal 21 = .ok (.ireturn, 1) := by decide +kernel
theorem dX4_refusal_22 : decode cX4_refusal 22 = .ok (.iconst 0, 1) := by decide +kernel
theorem dX4_refusal_23 : decode cX4_refusal 23 = .ok (.istore 4, 2) := by decide +kernel
theorem dX4_refusal_25 : decode cX4_refusal 25 = .ok (.iload 4, 2) := by decide +kernel
theorem dX4_refusal_27 : decode cX4_refusal 27 = .ok (.iload_n 3, 1) := by decide +kernel
theorem dX4_refusal_28 : decode cX4_refusal 28 = .ok (.if_icmp .ge 47, 3) := by decide +kernel
theorem dX4_refusal_31 : decode cX4_refusal 31 = .ok (.aload_n 0, 1) := by decide +kernel
theorem dX4_refusal_32 : decode cX4_refusal 32 = .ok (.iload_n 2, 1) := by decide +kernel
theorem dX4_refusal_33 : decode cX4_refusal 33 = .ok (.iload 4, 2) := by decide +kernel
theorem dX4_refusal_35 : decode cX4_refusal 35 = .ok (.iadd, 1) := by decide +kernel
theorem dX4_refusal_36 : decode cX4_refusal 36 = .ok (.invokevirtual 22, 3) := by decide +kernel
theorem dX4_refusal_39 : decode cX4_refusal 39 = .ok (.ifCond .ne 6, 3) := by decide +kernel
theorem dX4_refusal_42 : decode cX4_refusal 42 = .ok (.bipush (-12), 2) := by decide +kernel
theorem dX4_refusal_44 : decode cX4_refusal 44 = .ok (.ireturn, 1) := by decide +kernel
theorem dX4_refusal_45 : decode cX4_refusal 45 = .ok (.aload_n 0, 1) := by decide +kernel
theorem dX4_refusal_46 : decode cX4_refusal 46 = .ok (.getfield 15, 3) := by decide +kernel
theorem dX4_refusal_49 : decode cX4_refusal 49 = .ok (.iload_n 2, 1) := by decide +kernel
theorem dX4_refusal_50 : decode cX4_refusal 50 = .ok (.iload 4, 2) := by decide +kernel
theorem dX4_refusal_52 : decode cX4_refusal 52 = .ok (.iadd, 1) := by decide +kernel
theorem dX4_refusal_53 : decode cX4_refusal 53 = .ok (.iaload, 1) := by decide +kernel
theorem dX4_refusal_54 : decode cX4_refusal 54 = .ok (.iconst 0, 1) := by decide +kernel
theorem dX4_refusal_55 : decode cX4_refusal 55 = .ok (.bipush 100, 2) := by decide +kernel
theorem dX4_refusal_57 : decode cX4_refusal 57 = .ok (.invokestatic 26, 3) := by decide +kernel
theorem dX4_refusal_60 : decode cX4_refusal 60 = .ok (.ifCond .ne 9, 3) := by decide +kernel
theorem dX4_refusal_63 : decode cX4_refusal 63 = .ok (.bipush (-20), 2) := by decide +kernel
theorem dX4_refusal_65 : decode cX4_refusal 65 = .ok (.iload 4, 2) := by decide +kernel
theorem dX4_refusal_67 : decode cX4_refusal 67 = .ok (.isub, 1) := by decide +kernel
theorem dX4_refusal_68 : decode cX4_refusal 68 = .ok (.ireturn, 1) := by decide +kernel
theorem dX4_refusal_69 : decode cX4_refusal 69 = .ok (.iinc 4 1, 3) := by decide +kernel
theorem dX4_refusal_72 : decode cX4_refusal 72 = .ok (.goto (-47), 3) := by decide +kernel
theorem dX4_refusal_75 : decode cX4_refusal 75 = .ok (.iconst 0, 1) := by decide +kernel
theorem dX4_refusal_76 : decode cX4_refusal 76 = .ok (.ireturn, 1) := by decide +kernel
end
section
theorem dX5_init_0 : decode cX5_init 0 = .ok (.aload_n 0, 1) := by decide +kernel
theorem dX5_init_1 : decode cX5_init 1 = .ok (.invokespecial 3, 3) := by decide +kernel
theorem dX5_init_4 : decode cX5_init 4 = .ok (.aload_n 0, 1) := by decide +kernel
theorem dX5_init_5 : decode cX5_init 5 = .ok (.sipush 160, 3) := by decide +kernel
theorem dX5_init_8 : decode cX5_init 8 = .ok (.newarray .byte, 2) := by decide +kernel
theorem dX5_init_10 : decode cX5_init 10 = .ok (.putfield 9, 3) := by decide +kernel
theorem dX5_init_13 : decode cX5_init 13 = .ok (.return_, 1) := by decide +kernel
theorem dX5_append_0 : decode cX5_append 0 = .ok (.bipush 56, 2) := by decide +kernel
theorem dX5_append_2 : decode cX5_append 2 = .ok (.istore_n 3, 1) := by decide +kernel
theorem dX5_append_3 : decode cX5_append 3 = .ok (.iload_n 3, 1) := by decide +kernel
theorem dX5_append_4 : decode cX5_append 4 = .ok (.ifCond .lt 43, 3) := by decide +kernel
theorem dX5_append_7 : decode cX5_append 7 = .ok (.aload_n 0, 1) := by decide +kernel
theorem dX5_append_8 : decode cX5_append 8 = .ok (.getfield 15, 3) := by decide +kernel
theorem dX5_append_11 : decode cX5_append 11 = .ok (.sipush 160, 3) := by decide +kernel
theorem dX5_append_14 : decode cX5_append 14 = .ok (.if_icmp .ge 33, 3) := by decide +kernel
theorem dX5_append_17 : decode cX5_append 17 = .ok (.aload_n 0, 1) := by decide +kernel
theorem dX5_append_18 : decode cX5_append 18 = .ok (.getfield 9, 3) := by decide +kernel
theorem dX5_append_21 : decode cX5_append 21 = .ok (.aload_n 0, 1) := by decide +kernel
theorem dX5_append_22 : decode cX5_append 22 = .ok (.getfield 15, 3) := by decide +kernel
theorem dX5_append_25 : decode cX5_append 25 = .ok (.lload_n 1, 1) := by decide +kernel
theorem dX5_append_26 : decode cX5_append 26 = .ok (.iload_n 3, 1) := by decide +kernel
theorem dX5_append_27 : decode cX5_append 27 = .ok (.lushr, 1) := by decide +kernel
theorem dX5_append_28 : decode cX5_append 28 = .ok (.l2i, 1) := by decide +kernel
theorem dX5_append_29 : decode cX5_append 29 = .ok (.i2b, 1) := by decide +kernel
theorem dX5_append_30 : decode cX5_append 30 = .ok (.bastore, 1) := by decide +kernel
theorem dX5_append_31 : decode cX5_append 31 = .ok (.aload_n 0, 1) := by decide +kernel
theorem dX5_append_32 : decode cX5_append 32 = .ok (.dup, 1) := by decide +kernel
theorem dX5_append_33 : decode cX5_append 33 = .ok (.getfield 15, 3) := by decide +kernel
theorem dX5_append_36 : decode cX5_append 36 = .ok (.iconst 1, 1) := by decide +kernel
theorem dX5_append_37 : decode cX5_append 37 = .ok (.iadd, 1) := by decide +kernel
theorem dX5_append_38 : decode cX5_append 38 = .ok (.putfield 15, 3) := by decide +kernel
theorem dX5_append_41 : decode cX5_append 41 = .ok (.iinc 3 (-8), 3) := by decide +kernel
theorem dX5_append_44 : decode cX5_append 44 = .ok (.goto (-41), 3) := by decide +kernel
theorem dX5_append_47 : decode cX5_append 47 = .ok (.return_, 1) := by decide +kernel
theorem dX5_hasBetween_0 : decode cX5_hasBetween 0 = .ok (.iload_n 1, 1) := by decide +kernel
theorem dX5_hasBetween_1 : decode cX5_hasBetween 1 = .ok (.aload_n 0, 1) := by decide +kernel
theorem dX5_hasBetween_2 : decode cX5_hasBetween 2 = .ok (.getfield 15, 3) := by decide +kernel
theorem dX5_hasBetween_5 : decode cX5_hasBetween 5 = .ok (.if_icmp .ge 27, 3) := by decide +kernel
theorem dX5_hasBetween_8 : decode cX5_hasBetween 8 = .ok (.aload_n 0, 1) := by decide +kernel
theorem dX5_hasBetween_9 : decode cX5_hasBetween 9 = .ok (.getfield 9, 3) := by decide +kernel
theorem dX5_hasBetween_12 : decode cX5_hasBetween 12 = .ok (.iload_n 1, 1) := by decide +kernel
theorem dX5_hasBetween_13 : decode cX5_hasBetween 13 = .ok (.baload, 1) := by decide +kernel
theorem dX5_hasBetween_14 : decode cX5_hasBetween 14 = .ok (.iload_n 2, 1) := by decide +kernel
theorem dX5_hasBetween_15 : decode cX5_hasBetween 15 = .ok (.if_icmp .lt 17, 3) := by decide +kernel
theorem dX5_hasBetween_18 : decode cX5_hasBetween 18 = .ok (.aload_n 0, 1) := by decide +kernel
theorem dX5_hasBetween_19 : decode cX5_hasBetween 19 = .ok (.getfield 9, 3) := by decide +kernel
theorem dX5_hasBetween_22 : decode cX5_hasBetween 22 = .ok (.iload_n 1, 1) := by decide +kernel
theorem dX5_hasBetween_23 : decode cX5_hasBetween 23 = .ok (.baload, 1) := by decide +kernel
theorem dX5_hasBetween_24 : decode cX5_hasBetween 24 = .ok (.iload_n 3, 1) := by decide +kernel
theorem dX5_hasBetween_25 : decode cX5_hasBetween 25 = .ok (.if_icmp .gt 7, 3) := by decide +kernel
theorem dX5_hasBetween_28 : decode cX5_hasBetween 28 = .ok (.iconst 1, 1) := by decide +kernel
theorem dX5_hasBetween_29 : decode cX5_hasBetween 29 = .ok (.goto 4, 3) := by decide +kernel
theorem dX5_hasBetween_32 : decode cX5_hasBetween 32 = .ok (.iconst 0, 1) := by decide +kernel
theorem dX5_hasBetween_33 : decode cX5_hasBetween 33 = .ok (.ireturn, 1) := by decide +kernel
end
section
theorem dX6_init_0 : decode cX6_init 0 = .ok (.aload_n 0, 1) := by decide +kernel
theorem dX6_init_1 : decode cX6_init 1 = .ok (.invokespecial 3, 3) := by decide +kernel
theorem dX6_init_4 : decode cX6_init 4 = .ok (.aload_n 0, 1) := by decide +kernel
theorem dX6_init_5 : decode cX6_init 5 = .ok (.aload_n 1, 1) := by decide +kernel
theorem dX6_init_6 : decode cX6_init 6 = .ok (.putfield 9, 3) := by decide +kernel
theorem dX6_init_9 : decode cX6_init 9 = .ok (.return_, 1) := by decide +kernel
theorem dX6_rewind_0 : decode cX6_rewind 0 = .ok (.aload_n 0, 1) := by decide +kernel
theorem dX6_rewind_1 : decode cX6_rewind 1 = .ok (.iconst 0, 1) := by decide +kernel
theorem dX6_rewind_2 : decode cX6_rewind 2 = .ok (.putfield 15, 3) := by decide +kernel
theorem dX6_rewind_5 : decode cX6_rewind 5 = .ok (.return_, 1) := by decide +kernel
theorem dX6_advance_0 : decode cX6_advance 0 = .ok (.aload_n 0, 1) := by decide +kernel
theorem dX6_advance_1 : decode cX6_advance 1 = .ok (.aload_n 0, 1) := by decide +kernel
theorem dX6_advance_2 : decode cX6_advance 2 = .ok (.aload_n 0, 1) := by decide +kernel
theorem dX6_advance_3 : decode cX6_advance 3 = .ok (.getfield 15, 3) := by decide +kernel
theorem dX6_advance_6 : decode cX6_advance 6 = .ok (.bipush 32, 2) := by decide +kernel
theorem dX6_advance_8 : decode cX6_advance 8 = .ok (.bipush 32, 2) := by decide +kernel
theorem dX6_advance_10 : decode cX6_advance 10 = .ok (.invokevirtual 19, 3) := by decide +kernel
theorem dX6_advance_13 : decode cX6_advance 13 = .ok (.putfield 15, 3) := by decide +kernel
theorem dX6_advance_16 : decode cX6_advance 16 = .ok (.aload_n 0, 1) := by decide +kernel
theorem dX6_advance_17 : decode cX6_advance 17 = .ok (.aload_n 0, 1) := by decide +kernel
theorem dX6_advance_18 : decode cX6_advance 18 = .ok (.getfield 15, 3) := by decide +kernel
theorem dX6_advance_21 : decode cX6_advance 21 = .ok (.putfield 23, 3) := by decide +kernel
theorem dX6_advance_24 : decode cX6_advance 24 = .ok (.aload_n 0, 1) := by decide +kernel
theorem dX6_advance_25 : decode cX6_advance 25 = .ok (.getfield 15, 3) := by decide +kernel
theorem dX6_advance_28 : decode cX6_advance 28 = .ok (.aload_n 0, 1) := by decide +kernel
theorem dX6_advance_29 : decode cX6_advance 29 = .ok (.getfield 9, 3) := by decide +kernel
theorem dX6_advance_32 : decode cX6_advance 32 = .ok (.getfield 26, 3) := by decide +kernel
theorem dX6_advance_35 : decode cX6_advance 35 = .ok (.if_icmp .lt 11, 3) := by decide +kernel
theorem dX6_advance_38 : decode cX6_advance 38 = .ok (.aload_n 0, 1) := by decide +kernel
theorem dX6_advance_39 : decode cX6_advance 39 = .ok (.iconst 0, 1) := by decide +kernel
theorem dX6_advance_40 : decode cX6_advance 40 = .ok (.putfield 31, 3) := by decide +kernel
theorem dX6_advance_43 : decode cX6_advance 43 = .ok (.goto 94, 3) := by decide +kernel
theorem dX6_advance_46 : decode cX6_advance 46 = .ok (.aload_n 0, 1) := by decide +kernel
theorem dX6_advance_47 : decode cX6_advance 47 = .ok (.getfield 9, 3) := by decide +kernel
theorem dX6_advance_50 : decode cX6_advance 50 = .ok (.aload_n 0, 1) := by decide +kernel
theorem dX6_advance_51 : decode cX6_advance 51 = .ok (.getfield 15, 3) := by decide +kernel
theorem dX6_advance_54 : decode cX6_advance 54 = .ok (.bipush 97, 2) := by decide +kernel
theorem dX6_advance_56 : decode cX6_advance 56 = .ok (.bipush 122, 2) := by decide +kernel
theorem dX6_advance_58 : decode cX6_advance 58 = .ok (.invokevirtual 34, 3) := by decide +kernel
theorem dX6_advance_61 : decode cX6_advance 61 = .ok (.ifCond .eq 10, 3) := by decide +kernel
theorem dX6_advance_64 : decode cX6_advance 64 = .ok (.aload_n 0, 1) := by decide +kernel
theorem dX6_advance_65 : decode cX6_advance 65 = .ok (.invokevirtual 38, 3) := by decide +kernel
theorem dX6_advance_68 : decode cX6_advance 68 = .ok (.goto 69, 3) := by decide +kernel
theorem dX6_advance_71 : decode cX6_advance 71 = .ok (.aload_n 0, 1) := by decide +kernel
theorem dX6_advance_72 : decode cX6_advance 72 = .ok (.getfield 9, 3) := by decide +kernel
theorem dX6_advance_75 : decode cX6_advance 75 = .ok (.aload_n 0, 1) := by decide +kernel
theorem dX6_advance_76 : decode cX6_advance 76 = .ok (.getfield 15, 3) := by decide +kernel
theorem dX6_advance_79 : decode cX6_advance 79 = .ok (.bipush 48, 2) := by decide +kernel
theorem dX6_advance_81 : decode cX6_advance 81 = .ok (.bipush 57, 2) := by decide +kernel
theorem dX6_advance_83 : decode cX6_advance 83 = .ok (.invokevirtual 34, 3) := by decide +kernel
theorem dX6_advance_86 : decode cX6_advance 86 = .ok (.ifCond .eq 10, 3) := by decide +kernel
theorem dX6_advance_89 : decode cX6_advance 89 = .ok (.aload_n 0, 1) := by decide +kernel
theorem dX6_advance_90 : decode cX6_advance 90 = .ok (.invokevirtual 41, 3) := by decide +kernel
theorem dX6_advance_93 : decode cX6_advance 93 = .ok (.goto 44, 3) := by decide +kernel
theorem dX6_advance_96 : decode cX6_advance 96 = .ok (.aload_n 0, 1) := by decide +kernel
theorem dX6_advance_97 : decode cX6_advance 97 = .ok (.getfield 9, 3) := by decide +kernel
theorem dX6_advance_100 : decode cX6_advance 100 = .ok (.aload_n 0, 1) := by decide +kernel
theorem dX6_advance_101 : decode cX6_advance 101 = .ok (.getfield 15, 3) := by decide +kernel
theorem dX6_advance_104 : decode cX6_advance 104 = .ok (.bipush 59, 2) := by decide +kernel
theorem dX6_advance_106 : decode cX6_advance 106 = .ok (.bipush 59, 2) := by decide +kernel
theorem dX6_advance_108 : decode cX6_advance 108 = .ok (.invokevirtual 34, 3) := by decide +kernel
theorem dX6_advance_111 : decode cX6_advance 111 = .ok (.ifCond .eq 21, 3) := by decide +kernel
theorem dX6_advance_114 : decode cX6_advance 114 = .ok (.aload_n 0, 1) := by decide +kernel
theorem dX6_advance_115 : decode cX6_advance 115 = .ok (.iconst 3, 1) := by decide +kernel
theorem dX6_advance_116 : decode cX6_advance 116 = .ok (.putfield 31, 3) := by decide +kernel
theorem dX6_advance_119 : decode cX6_advance 119 = .ok (.aload_n 0, 1) := by decide +kernel
theorem dX6_advance_120 : decode cX6_advance 120 = .ok (.dup, 1) := by decide +kernel
theorem dX6_advance_121 : decode cX6_advance 121 = .ok (.getfield 15, 3) := by decide +kernel
theorem dX6_advance_124 : decode cX6_advance 124 = .ok (.iconst 1, 1) := by decide +kernel
theorem dX6_advance_125 : decode cX6_advance 125 = .ok (.iadd, 1) := by decide +kernel
theorem dX6_advance_126 : decode cX6_advance 126 = .ok (.putfield 15, 3) := by decide +kernel
theorem dX6_advance_129 : decode cX6_advance 129 = .ok (.goto 8, 3) := by decide +kernel
theorem dX6_advance_132 : decode cX6_advance 132 = .ok (.aload_n 0, 1) := by decide +kernel
theorem dX6_advance_133 : decode cX6_advance 133 = .ok (.iconst 4, 1) := by decide +kernel
theorem dX6_advance_134 : decode cX6_advance 134 = .ok (.putfield 31, 3) := by decide +kernel
theorem dX6_advance_137 : decode cX6_advance 137 = .ok (.return_, 1) := by decide +kernel
theorem dX6_placeBehind_0 : decode cX6_placeBehind 0 = .ok (.iload_n 1, 1) := by decide +kernel
theorem dX6_placeBehind_1 : decode cX6_placeBehind 1 = .ok (.istore 4, 2) := by decide +kernel
theorem dX6_placeBehind_3 : decode cX6_placeBehind 3 = .ok (.iload 4, 2) := by decide +kernel
theorem dX6_placeBehind_5 : decode cX6_placeBehind 5 = .ok (.aload_n 0, 1) := by decide +kernel
theorem dX6_placeBehind_6 : decode cX6_placeBehind 6 = .ok (.getfield 9, 3) := by decide +kernel
theorem dX6_placeBehind_9 : decode cX6_placeBehind 9 = .ok (.getfield 26, 3) := by decide +kernel
theorem dX6_placeBehind_12 : decode cX6_placeBehind 12 = .ok (.if_icmp .ge 23, 3) := by decide +kernel
theorem dX6_placeBehind_15 : decode cX6_placeBehind 15 = .ok (.aload_n 0, 1) := by decide +kernel
theorem dX6_placeBehind_16 : decode cX6_placeBehind 16 = .ok (.getfield 9, 3) := by decide +kernel
theorem dX6_placeBehind_19 : decode cX6_placeBehind 19 = .ok (.iload 4, 2) := by decide +kernel
theorem dX6_placeBehind_21 : decode cX6_placeBehind 21 = .ok (.iload_n 2, 1) := by decide +kernel
theorem dX6_placeBehind_22 : decode cX6_placeBehind 22 = .ok (.iload_n 3, 1) := by decide +kernel
theorem dX6_placeBehind_23 : decode cX6_placeBehind 23 = .ok (.invokevirtual 34, 3) := by decide +kernel
theorem dX6_placeBehind_26 : decode cX6_placeBehind 26 = .ok (.ifCond .eq 9, 3) := by decide +kernel
theorem dX6_placeBehind_29 : decode cX6_placeBehind 29 = .ok (.iinc 4 1, 3) := by decide +kernel
theorem dX6_placeBehind_32 : decode cX6_placeBehind 32 = .ok (.goto (-29), 3) := by decide +kernel
theorem dX6_placeBehind_35 : decode cX6_placeBehind 35 = .ok (.iload 4, 2) := by decide +kernel
theorem dX6_placeBehind_37 : decode cX6_placeBehind 37 = .ok (.ireturn, 1) := by decide +kernel
theorem dX6_readName_0 : decode cX6_readName 0 = .ok (.aload_n 0, 1) := by decide +kernel
theorem dX6_readName_1 : decode cX6_readName 1 = .ok (.aload_n 0, 1) := by decide +kernel
theorem dX6_readName_2 : decode cX6_readName 2 = .ok (.aload_n 0, 1) := by decide +kernel
theorem dX6_readName_3 : decode cX6_readName 3 = .ok (.getfield 23, 3) := by decide +kernel
theorem dX6_readName_6 : decode cX6_readName 6 = .ok (.bipush 97, 2) := by decide +kernel
theorem dX6_readName_8 : decode cX6_readName 8 = .ok (.bipush 122, 2) := by decide +kernel
theorem dX6_readName_10 : decode cX6_readName 10 = .ok (.invokevirtual 19, 3) := by decide +kernel
theorem dX6_readName_13 : decode cX6_readName 13 = .ok (.putfield 15, 3) := by decide +kernel
theorem dX6_readName_16 : decode cX6_readName 16 = .ok (.aload_n 0, 1) := by decide +kernel
theorem dX6_readName_17 : decode cX6_readName 17 = .ok (.iconst 4, 1) := by decide +kernel
theorem dX6_readName_18 : decode cX6_readName 18 = .ok (.putfield 31, 3) := by decide +kernel
theorem dX6_readName_21 : decode cX6_readName 21 = .ok (.iconst 0, 1) := by decide +kernel
theorem dX6_readName_22 : decode cX6_readName 22 = .ok (.istore_n 1, 1) := by decide +kernel
theorem dX6_readName_23 : decode cX6_readName 23 = .ok (.iload_n 1, 1) := by decide +kernel
theorem dX6_readName_24 : decode cX6_readName 24 = .ok (.bipush 9, 2) := by decide +kernel
theorem dX6_readName_26 : decode cX6_readName 26 = .ok (.if_icmp .ge 35, 3) := by decide +kernel
theorem dX6_readName_29 : decode cX6_readName 29 = .ok (.aload_n 0, 1) := by decide +kernel
theorem dX6_readName_30 : decode cX6_readName 30 = .ok (.getfield 31, 3) := by decide +kernel
theorem dX6_readName_33 : decode cX6_readName 33 = .ok (.iconst 4, 1) := by decide +kernel
theorem dX6_readName_34 : decode cX6_readName 34 = .ok (.if_icmp .ne 27, 3) := by decide +kernel
theorem dX6_readName_37 : decode cX6_readName 37 = .ok (.aload_n 0, 1) := by decide +kernel
theorem dX6_readName_38 : decode cX6_readName 38 = .ok (.iload_n 1, 1) := by decide +kernel
theorem dX6_readName_39 : decode cX6_readName 39 = .ok (.invokevirtual 44, 3) := by decide +kernel
theorem dX6_readName_42 : decode cX6_readName 42 = .ok (.ifCond .eq 13, 3) := by decide +kernel
theorem dX6_readName_45 : decode cX6_readName 45 = .ok (.aload_n 0, 1) := by decide +kernel
theorem dX6_readName_46 : decode cX6_readName 46 = .ok (.iconst 1, 1) := by decide +kernel
theorem dX6_readName_47 : decode cX6_readName 47 = .ok (.putfield 31, 3) := by decide +kernel
theorem dX6_readName_50 : decode cX6_readName 50 = .ok (.aload_n 0, 1) := by decide +kernel
theorem dX6_readName_51 : decode cX6_readName 51 = .ok (.iload_n 1, 1) := by decide +kernel
theorem dX6_readName_52 : decode cX6_readName 52 = .ok (.putfield 48, 3) := by decide +kernel
theorem dX6_readName_55 : decode cX6_readName 55 = .ok (.iinc 1 1, 3) := by decide +kernel
theorem dX6_readName_58 : decode cX6_readName 58 = .ok (.goto (-35), 3) := by decide +kernel
theorem dX6_readName_61 : decode cX6_readName 61 = .ok (.return_, 1) := by decide +kernel
theorem dX6_isName_0 : decode cX6_isName 0 = .ok (.aload_n 0, 1) := by decide +kernel
theorem dX6_isName_1 : decode cX6_isName 1 = .ok (.getfield 15, 3) := by decide +kernel
theorem dX6_isName_4 : decode cX6_isName 4 = .ok (.aload_n 0, 1) := by decide +kernel
theorem dX6_isName_5 : decode cX6_isName 5 = .ok (.getfield 23, 3) := by decide +kernel
theorem dX6_isName_8 : decode cX6_isName 8 = .ok (.isub, 1) := by decide +kernel
theorem dX6_isName_9 : decode cX6_isName 9 = .ok (.istore_n 2, 1) := by decide +kernel
theorem dX6_isName_10 : decode cX6_isName 10 = .ok (.iload_n 1, 1) := by decide +kernel
theorem dX6_isName_11 : decode cX6_isName 11 = .ok (.iconst 5, 1) := by decide +kernel
theorem dX6_isName_12 : decode cX6_isName 12 = .ok (.imul, 1) := by decide +kernel
theorem dX6_isName_13 : decode cX6_isName 13 = .ok (.istore_n 3, 1) := by decide +kernel
theorem dX6_isName_14 : decode cX6_isName 14 = .ok (.iload_n 2, 1) := by decide +kernel
theorem dX6_isName_15 : decode cX6_isName 15 = .ok (.iconst 5, 1) := by decide +kernel
theorem dX6_isName_16 : decode cX6_isName 16 = .ok (.if_icmp .ge 16, 3) := by decide +kernel
theorem dX6_isName_19 : decode cX6_isName 19 = .ok (.ldc 51, 2) := by decide +kernel
theorem dX6_isName_21 : decode cX6_isName 21 = .ok (.iload_n 3, 1) := by decide +kernel
theorem dX6_isName_22 : decode cX6_isName 22 = .ok (.iload_n 2, 1) := by decide +kernel
theorem dX6_isName_23 : decode cX6_isName 23 = .ok (.iadd, 1) := by decide +kernel
theorem dX6_isName_24 : decode cX6_isName 24 = .ok (.invokevirtual 53, 3) := by decide +kernel
theorem dX6_isName_27 : decode cX6_isName 27 = .ok (.bipush 32, 2) := by decide +kernel
theorem dX6_isName_29 : decode cX6_isName 29 = .ok (.if_icmp .eq 5, 3) := by decide +kernel
theorem dX6_isName_32 : decode cX6_isName 32 = .ok (.iconst 0, 1) := by decide +kernel
theorem dX6_isName_33 : decode cX6_isName 33 = .ok (.ireturn, 1) := by decide +kernel
theorem dX6_isName_34 : decode cX6_isName 34 = .ok (.iconst 0, 1) := by decide +kernel
theorem dX6_isName_35 : decode cX6_isName 35 = .ok (.istore 4, 2) := by decide +kernel
theorem dX6_isName_37 : decode cX6_isName 37 = .ok (.iload 4, 2) := by decide +kernel
theorem dX6_isName_39 : decode cX6_isName 39 = .ok (.iload_n 2, 1) := by decide +kernel
theorem dX6_isName_40 : decode cX6_isName 40 = .ok (.if_icmp .ge 38, 3) := by decide +kernel
theorem dX6_isName_43 : decode cX6_isName 43 = .ok (.aload_n 0, 1) := by decide +kernel
theorem dX6_isName_44 : decode cX6_isName 44 = .ok (.getfield 9, 3) := by decide +kernel
theorem dX6_isName_47 : decode cX6_isName 47 = .ok (.getfield 59, 3) := by decide +kernel
theorem dX6_isName_50 : decode cX6_isName 50 = .ok (.aload_n 0, 1) := by decide +kernel
theorem dX6_isName_51 : decode cX6_isName 51 = .ok (.getfield 23, 3) := by decide +kernel
theorem dX6_isName_54 : decode cX6_isName 54 = .ok (.iload 4, 2) := by decide +kernel
theorem dX6_isName_56 : decode cX6_isName 56 = .ok (.iadd, 1) := by decide +kernel
theorem dX6_isName_57 : decode cX6_isName 57 = .ok (.baload, 1) := by decide +kernel
theorem dX6_isName_58 : decode cX6_isName 58 = .ok (.ldc 51, 2) := by decide +kernel
theorem dX6_isName_60 : decode cX6_isName 60 = .ok (.iload_n 3, 1) := by decide +kernel
theorem dX6_isName_61 : decode cX6_isName 61 = .ok (.iload 4, 2) := by decide +kernel
theorem dX6_isName_63 : decode cX6_isName 63 = .ok (.iadd, 1) := by decide +kernel
theorem dX6_isName_64 : decode cX6_isName 64 = .ok (.invokevirtual 53, 3) := by decide +kernel
theorem dX6_isName_67 : decode cX6_isName 67 = .ok (.if_icmp .eq 5, 3) := by decide +kernel
theorem dX6_isName_70 : decode cX6_isName 70 = .ok (.iconst 0, 1) := by decide +kernel
theorem dX6_isName_71 : decode cX6_isName 71 = .ok (.ireturn, 1) := by decide +kernel
theorem dX6_isName_72 : decode cX6_isName 72 = .ok (.iinc 4 1, 3) := by decide +kernel
theorem dX6_isName_75 : decode cX6_isName 75 = .ok (.goto (-38), 3) := by decide +kernel
theorem dX6_isName_78 : decode cX6_isName 78 = .ok (.iconst 1, 1) := by decide +kernel
theorem dX6_isName_79 : decode cX6_isName 79 = .ok (.ireturn, 1) := by decide +kernel
theorem dX6_readNumber_0 : decode cX6_readNumber 0 = .ok (.aload_n 0, 1) := by decide +kernel
theorem dX6_readNumber_1 : decode cX6_readNumber 1 = .ok (.aload_n 0, 1) := by decide +kernel
theorem dX6_readNumber_2 : decode cX6_readNumber 2 = .ok (.aload_n 0, 1) := by decide +kernel
theorem dX6_readNumber_3 : decode cX6_readNumber 3 = .ok (.getfield 23, 3) := by decide +kernel
theorem dX6_readNumber_6 : decode cX6_readNumber 6 = .ok (.bipush 48, 2) := by decide +kernel
theorem dX6_readNumber_8 : decode cX6_readNumber 8 = .ok (.bipush 57, 2) := by decide +kernel
theorem dX6_readNumber_10 : decode cX6_readNumber 10 = .ok (.invokevirtual 19, 3) := by decide +kernel
theorem dX6_readNumber_13 : decode cX6_readNumber 13 = .ok (.putfield 15, 3) := by decide +kernel
theorem dX6_readNumber_16 : decode cX6_readNumber 16 = .ok (.aload_n 0, 1) := by decide +kernel
theorem dX6_readNumber_17 : decode cX6_readNumber 17 = .ok (.aload_n 0, 1) := by decide +kernel
theorem dX6_readNumber_18 : decode cX6_readNumber 18 = .ok (.getfield 15, 3) := by decide +kernel
theorem dX6_readNumber_21 : decode cX6_readNumber 21 = .ok (.aload_n 0, 1) := by decide +kernel
theorem dX6_readNumber_22 : decode cX6_readNumber 22 = .ok (.getfield 23, 3) := by decide +kernel
theorem dX6_readNumber_25 : decode cX6_readNumber 25 = .ok (.isub, 1) := by decide +kernel
theorem dX6_readNumber_26 : decode cX6_readNumber 26 = .ok (.iconst 4, 1) := by decide +kernel
theorem dX6_readNumber_27 : decode cX6_readNumber 27 = .ok (.if_icmp .le 7, 3) := by decide +kernel
theorem dX6_readNumber_30 : decode cX6_readNumber 30 = .ok (.iconst 4, 1) := by decide +kernel
theorem dX6_readNumber_31 : decode cX6_readNumber 31 = .ok (.goto 4, 3) := by decide +kernel
theorem dX6_readNumber_34 : decode cX6_readNumber 34 = .ok (.iconst 2, 1) := by decide +kernel
theorem dX6_readNumber_35 : decode cX6_readNumber 35 = .ok (.putfield 31, 3) := by decide +kernel
theorem dX6_readNumber_38 : decode cX6_readNumber 38 = .ok (.aload_n 0, 1) := by decide +kernel
theorem dX6_readNumber_39 : decode cX6_readNumber 39 = .ok (.iconst 0, 1) := by decide +kernel
theorem dX6_readNumber_40 : decode cX6_readNumber 40 = .ok (.putfield 48, 3) := by decide +kernel
theorem dX6_readNumber_43 : decode cX6_readNumber 43 = .ok (.aload_n 0, 1) := by decide +kernel
theorem dX6_readNumber_44 : decode cX6_readNumber 44 = .ok (.getfield 23, 3) := by decide +kernel
theorem dX6_readNumber_47 : decode cX6_readNumber 47 = .ok (.istore_n 1, 1) := by decide +kernel
theorem dX6_readNumber_48 : decode cX6_readNumber 48 = .ok (.iload_n 1, 1) := by decide +kernel
theorem dX6_readNumber_49 : decode cX6_readNumber 49 = .ok (.aload_n 0, 1) := by decide +kernel
theorem dX6_readNumber_50 : decode cX6_readNumber 50 = .ok (.getfield 15, 3) := by decide +kernel
theorem dX6_readNumber_53 : decode cX6_readNumber 53 = .ok (.if_icmp .ge 41, 3) := by decide +kernel
theorem dX6_readNumber_56 : decode cX6_readNumber 56 = .ok (.aload_n 0, 1) := by decide +kernel
theorem dX6_readNumber_57 : decode cX6_readNumber 57 = .ok (.getfield 31, 3) := by decide +kernel
theorem dX6_readNumber_60 : decode cX6_readNumber 60 = .ok (.iconst 2, 1) := by decide +kernel
theorem dX6_readNumber_61 : decode cX6_readNumber 61 = .ok (.if_icmp .ne 33, 3) := by decide +kernel
theorem dX6_readNumber_64 : decode cX6_readNumber 64 = .ok (.aload_n 0, 1) := by decide +kernel
theorem dX6_readNumber_65 : decode cX6_readNumber 65 = .ok (.aload_n 0, 1) := by decide +kernel
theorem dX6_readNumber_66 : decode cX6_readNumber 66 = .ok (.getfield 48, 3) := by decide +kernel
theorem dX6_readNumber_69 : decode cX6_readNumber 69 = .ok (.bipush 10, 2) := by decide +kernel
theorem dX6_readNumber_71 : decode cX6_readNumber 71 = .ok (.imul, 1) := by decide +kernel
theorem dX6_readNumber_72 : decode cX6_readNumber 72 = .ok (.aload_n 0, 1) := by decide +kernel
theorem dX6_readNumber_73 : decode cX6_readNumber 73 = .ok (.getfield 9, 3) := by decide +kernel
theorem dX6_readNumber_76 : decode cX6_readNumber 76 = .ok (.getfield 59, 3) := by decide +kernel
theorem dX6_readNumber_79 : decode cX6_readNumber 79 = .ok (.iload_n 1, 1) := by decide +kernel
theorem dX6_readNumber_80 : decode cX6_readNumber 80 = .ok (.baload, 1) := by decide +kernel
theorem dX6_readNumber_81 : decode cX6_readNumber 81 = .ok (.bipush 48, 2) := by decide +kernel
theorem dX6_readNumber_83 : decode cX6_readNumber 83 = .ok (.isub, 1) := by decide +kernel
theorem dX6_readNumber_84 : decode cX6_readNumber 84 = .ok (.iadd, 1) := by decide +kernel
theorem dX6_readNumber_85 : decode cX6_readNumber 85 = .ok (.putfield 48, 3) := by decide +kernel
theorem dX6_readNumber_88 : decode cX6_readNumber 88 = .ok (.iinc 1 1, 3) := by decide +kernel
theorem dX6_readNumber_91 : decode cX6_readNumber 91 = .ok (.goto (-43), 3) := by decide +kernel
theorem dX6_readNumber_94 : decode cX6_readNumber 94 = .ok (.return_, 1) := by decide +kernel
end
section
theorem dX7_init_0 : decode cX7_init 0 = .ok (.aload_n 0, 1) := by decide +kernel
theorem dX7_init_1 : decode cX7_init 1 = .ok (.invokespecial 3, 3) := by decide +kernel
theorem dX7_init_4 : decode cX7_init 4 = .ok (.aload_n 0, 1) := by decide +kernel
theorem dX7_init_5 : decode cX7_init 5 = .ok (.bipush 10, 2) := by decide +kernel
theorem dX7_init_7 : decode cX7_init 7 = .ok (.newarray .int, 2) := by decide +kernel
theorem dX7_init_9 : decode cX7_init 9 = .ok (.putfield 9, 3) := by decide +kernel
theorem dX7_init_12 : decode cX7_init 12 = .ok (.aload_n 0, 1) := by decide +kernel
theorem dX7_init_13 : decode cX7_init 13 = .ok (.bipush 10, 2) := by decide +kernel
theorem dX7_init_15 : decode cX7_init 15 = .ok (.newarray .int, 2) := by decide +kernel
theorem dX7_init_17 : decode cX7_init 17 = .ok (.putfield 15, 3) := by decide +kernel
theorem dX7_init_20 : decode cX7_init 20 = .ok (.aload_n 0, 1) := by decide +kernel
theorem dX7_init_21 : decode cX7_init 21 = .ok (.bipush 10, 2) := by decide +kernel
theorem dX7_init_23 : decode cX7_init 23 = .ok (.newarray .int, 2) := by decide +kernel
theorem dX7_init_25 : decode cX7_init 25 = .ok (.putfield 18, 3) := by decide +kernel
theorem dX7_init_28 : decode cX7_init 28 = .ok (.aload_n 0, 1) := by decide +kernel
theorem dX7_init_29 : decode cX7_init 29 = .ok (.aload_n 1, 1) := by decide +kernel
theorem dX7_init_30 : decode cX7_init 30 = .ok (.putfield 21, 3) := by decide +kernel
theorem dX7_init_33 : decode cX7_init 33 = .ok (.aload_n 0, 1) := by decide +kernel
theorem dX7_init_34 : decode cX7_init 34 = .ok (.aload_n 2, 1) := by decide +kernel
theorem dX7_init_35 : decode cX7_init 35 = .ok (.putfield 25, 3) := by decide +kernel
theorem dX7_init_38 : decode cX7_init 38 = .ok (.return_, 1) := by decide +kernel
theorem dX7_fewest_0 : decode cX7_fewest 0 = .ok (.aload_n 0, 1) := by decide +kernel
theorem dX7_fewest_1 : decode cX7_fewest 1 = .ok (.iload_n 1, 1) := by decide +kernel
theorem dX7_fewest_2 : decode cX7_fewest 2 = .ok (.invokevirtual 29, 3) := by decide +kernel
theorem dX7_fewest_5 : decode cX7_fewest 5 = .ok (.aload_n 0, 1) := by decide +kernel
theorem dX7_fewest_6 : decode cX7_fewest 6 = .ok (.getfield 25, 3) := by decide +kernel
theorem dX7_fewest_9 : decode cX7_fewest 9 = .ok (.getfield 33, 3) := by decide +kernel
theorem dX7_fewest_12 : decode cX7_fewest 12 = .ok (.iconst 3, 1) := by decide +kernel
theorem dX7_fewest_13 : decode cX7_fewest 13 = .ok (.iaload, 1) := by decide +kernel
theorem dX7_fewest_14 : decode cX7_fewest 14 = .ok (.istore_n 2, 1) := by decide +kernel
theorem dX7_fewest_15 : decode cX7_fewest 15 = .ok (.iconst 0, 1) := by decide +kernel
theorem dX7_fewest_16 : decode cX7_fewest 16 = .ok (.istore_n 3, 1) := by decide +kernel
theorem dX7_fewest_17 : decode cX7_fewest 17 = .ok (.iconst 0, 1) := by decide +kernel
theorem dX7_fewest_18 : decode cX7_fewest 18 = .ok (.istore 4, 2) := by decide +kernel
theorem dX7_fewest_20 : decode cX7_fewest 20 = .ok (.iload 4, 2) := by decide +kernel
theorem dX7_fewest_22 : decode cX7_fewest 22 = .ok (.aload_n 0, 1) := by decide +kernel
theorem dX7_fewest_23 : decode cX7_fewest 23 = .ok (.getfield 38, 3) := by decide +kernel
theorem dX7_fewest_26 : decode cX7_fewest 26 = .ok (.if_icmp .ge 40, 3) := by decide +kernel
theorem dX7_fewest_29 : decode cX7_fewest 29 = .ok (.aload_n 0, 1) := by decide +kernel
theorem dX7_fewest_30 : decode cX7_fewest 30 = .ok (.getfield 21, 3) := by decide +kernel
theorem dX7_fewest_33 : decode cX7_fewest 33 = .ok (.getfield 42, 3) := by decide +kernel
theorem dX7_fewest_36 : decode cX7_fewest 36 = .ok (.aload_n 0, 1) := by decide +kernel
theorem dX7_fewest_37 : decode cX7_fewest 37 = .ok (.getfield 9, 3) := by decide +kernel
theorem dX7_fewest_40 : decode cX7_fewest 40 = .ok (.iload 4, 2) := by decide +kernel
theorem dX7_fewest_42 : decode cX7_fewest 42 = .ok (.iaload, 1) := by decide +kernel
theorem dX7_fewest_43 : decode cX7_fewest 43 = .ok (.iaload, 1) := by decide +kernel
theorem dX7_fewest_44 : decode cX7_fewest 44 = .ok (.istore 5, 2) := by decide +kernel
theorem dX7_fewest_46 : decode cX7_fewest 46 = .ok (.iload 5, 2) := by decide +kernel
theorem dX7_fewest_48 : decode cX7_fewest 48 = .ok (.iload_n 2, 1) := by decide +kernel
theorem dX7_fewest_49 : decode cX7_fewest 49 = .ok (.if_icmp .le 6, 3) := by decide +kernel
theorem dX7_fewest_52 : decode cX7_fewest 52 = .ok (.bipush (-4), 2) := by decide +kernel
theorem dX7_fewest_54 : decode cX7_fewest 54 = .ok (.ireturn, 1) := by decide +kernel
theorem dX7_fewest_55 : decode cX7_fewest 55 = .ok (.iload_n 3, 1) := by decide +kernel
theorem dX7_fewest_56 : decode cX7_fewest 56 = .ok (.iload 5, 2) := by decide +kernel
theorem dX7_fewest_58 : decode cX7_fewest 58 = .ok (.iadd, 1) := by decide +kernel
theorem dX7_fewest_59 : decode cX7_fewest 59 = .ok (.istore_n 3, 1) := by decide +kernel
theorem dX7_fewest_60 : decode cX7_fewest 60 = .ok (.iinc 4 1, 3) := by decide +kernel
theorem dX7_fewest_63 : decode cX7_fewest 63 = .ok (.goto (-43), 3) := by decide +kernel
theorem dX7_fewest_66 : decode cX7_fewest 66 = .ok (.iconst 0, 1) := by decide +kernel
theorem dX7_fewest_67 : decode cX7_fewest 67 = .ok (.istore 4, 2) := by decide +kernel
theorem dX7_fewest_69 : decode cX7_fewest 69 = .ok (.iload 4, 2) := by decide +kernel
theorem dX7_fewest_71 : decode cX7_fewest 71 = .ok (.aload_n 0, 1) := by decide +kernel
theorem dX7_fewest_72 : decode cX7_fewest 72 = .ok (.getfield 38, 3) := by decide +kernel
theorem dX7_fewest_75 : decode cX7_fewest 75 = .ok (.if_icmp .ge 31, 3) := by decide +kernel
theorem dX7_fewest_78 : decode cX7_fewest 78 = .ok (.iload 4, 2) := by decide +kernel
theorem dX7_fewest_80 : decode cX7_fewest 80 = .ok (.iload_n 2, 1) := by decide +kernel
theorem dX7_fewest_81 : decode cX7_fewest 81 = .ok (.imul, 1) := by decide +kernel
theorem dX7_fewest_82 : decode cX7_fewest 82 = .ok (.iload_n 3, 1) := by decide +kernel
theorem dX7_fewest_83 : decode cX7_fewest 83 = .ok (.if_icmp .lt 17, 3) := by decide +kernel
theorem dX7_fewest_86 : decode cX7_fewest 86 = .ok (.aload_n 0, 1) := by decide +kernel
theorem dX7_fewest_87 : decode cX7_fewest 87 = .ok (.iconst 0, 1) := by decide +kernel
theorem dX7_fewest_88 : decode cX7_fewest 88 = .ok (.iconst 0, 1) := by decide +kernel
theorem dX7_fewest_89 : decode cX7_fewest 89 = .ok (.iload 4, 2) := by decide +kernel
theorem dX7_fewest_91 : decode cX7_fewest 91 = .ok (.invokestatic 47, 3) := by decide +kernel
theorem dX7_fewest_94 : decode cX7_fewest 94 = .ok (.ifCond .eq 6, 3) := by decide +kernel
theorem dX7_fewest_97 : decode cX7_fewest 97 = .ok (.iload 4, 2) := by decide +kernel
theorem dX7_fewest_99 : decode cX7_fewest 99 = .ok (.ireturn, 1) := by decide +kernel
theorem dX7_fewest_100 : decode cX7_fewest 100 = .ok (.iinc 4 1, 3) := by decide +kernel
theorem dX7_fewest_103 : decode cX7_fewest 103 = .ok (.goto (-34), 3) := by decide +kernel
theorem dX7_fewest_106 : decode cX7_fewest 106 = .ok (.aload_n 0, 1) := by decide +kernel
theorem dX7_fewest_107 : decode cX7_fewest 107 = .ok (.iconst 0, 1) := by decide +kernel
theorem dX7_fewest_108 : decode cX7_fewest 108 = .ok (.iconst 0, 1) := by decide +kernel
theorem dX7_fewest_109 : decode cX7_fewest 109 = .ok (.aload_n 0, 1) := by decide +kernel
theorem dX7_fewest_110 : decode cX7_fewest 110 = .ok (.getfield 38, 3) := by decide +kernel
theorem dX7_fewest_113 : decode cX7_fewest 113 = .ok (.invokestatic 47, 3) := by decide +kernel
theorem dX7_fewest_116 : decode cX7_fewest 116 = .ok (.pop, 1) := by decide +kernel
theorem dX7_fewest_117 : decode cX7_fewest 117 = .ok (.aload_n 0, 1) := by decide +kernel
theorem dX7_fewest_118 : decode cX7_fewest 118 = .ok (.getfield 38, 3) := by decide +kernel
theorem dX7_fewest_121 : decode cX7_fewest 121 = .ok (.ireturn, 1) := by decide +kernel
theorem dX7_loadOf_0 : decode cX7_loadOf 0 = .ok (.iconst 0, 1) := by decide +kernel
theorem dX7_loadOf_1 : decode cX7_loadOf 1 = .ok (.istore_n 2, 1) := by decide +kernel
theorem dX7_loadOf_2 : decode cX7_loadOf 2 = .ok (.iload_n 2, 1) := by decide +kernel
theorem dX7_loadOf_3 : decode cX7_loadOf 3 = .ok (.aload_n 0, 1) := by decide +kernel
theorem dX7_loadOf_4 : decode cX7_loadOf 4 = .ok (.getfield 38, 3) := by decide +kernel
theorem dX7_loadOf_7 : decode cX7_loadOf 7 = .ok (.if_icmp .ge 26, 3) := by decide +kernel
theorem dX7_loadOf_10 : decode cX7_loadOf 10 = .ok (.aload_n 0, 1) := by decide +kernel
theorem dX7_loadOf_11 : decode cX7_loadOf 11 = .ok (.getfield 9, 3) := by decide +kernel
theorem dX7_loadOf_14 : decode cX7_loadOf 14 = .ok (.iload_n 2, 1) := by decide +kernel
theorem dX7_loadOf_15 : decode cX7_loadOf 15 = .ok (.iaload, 1) := by decide +kernel
theorem dX7_loadOf_16 : decode cX7_loadOf 16 = .ok (.iload_n 1, 1) := by decide +kernel
theorem dX7_loadOf_17 : decode cX7_loadOf 17 = .ok (.if_icmp .ne 10, 3) := by decide +kernel
theorem dX7_loadOf_20 : decode cX7_loadOf 20 = .ok (.aload_n 0, 1) := by decide +kernel
theorem dX7_loadOf_21 : decode cX7_loadOf 21 = .ok (.getfield 18, 3) := by decide +kernel
theorem dX7_loadOf_24 : decode cX7_loadOf 24 = .ok (.iload_n 2, 1) := by decide +kernel
theorem dX7_loadOf_25 : decode cX7_loadOf 25 = .ok (.iaload, 1) := by decide +kernel
theorem dX7_loadOf_26 : decode cX7_loadOf 26 = .ok (.ireturn, 1) := by decide +kernel
theorem dX7_loadOf_27 : decode cX7_loadOf 27 = .ok (.iinc 2 1, 3) := by decide +kernel
theorem dX7_loadOf_30 : decode cX7_loadOf 30 = .ok (.goto (-28), 3) := by decide +kernel
theorem dX7_loadOf_33 : decode cX7_loadOf 33 = .ok (.bipush (-4), 2) := by decide +kernel
theorem dX7_loadOf_35 : decode cX7_loadOf 35 = .ok (.ireturn, 1) := by decide +kernel
theorem dX7_gatherCargo_0 : decode cX7_gatherCargo 0 = .ok (.aload_n 0, 1) := by decide +kernel
theorem dX7_gatherCargo_1 : decode cX7_gatherCargo 1 = .ok (.iconst 0, 1) := by decide +kernel
theorem dX7_gatherCargo_2 : decode cX7_gatherCargo 2 = .ok (.putfield 38, 3) := by decide +kernel
theorem dX7_gatherCargo_5 : decode cX7_gatherCargo 5 = .ok (.iconst 0, 1) := by decide +kernel
theorem dX7_gatherCargo_6 : decode cX7_gatherCargo 6 = .ok (.istore_n 2, 1) := by decide +kernel
theorem dX7_gatherCargo_7 : decode cX7_gatherCargo 7 = .ok (.iload_n 2, 1) := by decide +kernel
theorem dX7_gatherCargo_8 : decode cX7_gatherCargo 8 = .ok (.aload_n 0, 1) := by decide +kernel
theorem dX7_gatherCargo_9 : decode cX7_gatherCargo 9 = .ok (.getfield 21, 3) := by decide +kernel
theorem dX7_gatherCargo_12 : decode cX7_gatherCargo 12 = .ok (.getfield 51, 3) := by decide +kernel
theorem dX7_gatherCargo_15 : decode cX7_gatherCargo 15 = .ok (.if_icmp .ge 41, 3) := by decide +kernel
theorem dX7_gatherCargo_18 : decode cX7_gatherCargo 18 = .ok (.aload_n 0, 1) := by decide +kernel
theorem dX7_gatherCargo_19 : decode cX7_gatherCargo 19 = .ok (.getfield 21, 3) := by decide +kernel
theorem dX7_gatherCargo_22 : decode cX7_gatherCargo 22 = .ok (.iload_n 2, 1) := by decide +kernel
theorem dX7_gatherCargo_23 : decode cX7_gatherCargo 23 = .ok (.invokevirtual 54, 3) := by decide +kernel
theorem dX7_gatherCargo_26 : decode cX7_gatherCargo 26 = .ok (.iload_n 1, 1) := by decide +kernel
theorem dX7_gatherCargo_27 : decode cX7_gatherCargo 27 = .ok (.if_icmp .ne 23, 3) := by decide +kernel
theorem dX7_gatherCargo_30 : decode cX7_gatherCargo 30 = .ok (.aload_n 0, 1) := by decide +kernel
theorem dX7_gatherCargo_31 : decode cX7_gatherCargo 31 = .ok (.getfield 9, 3) := by decide +kernel
theorem dX7_gatherCargo_34 : decode cX7_gatherCargo 34 = .ok (.aload_n 0, 1) := by decide +kernel
theorem dX7_gatherCargo_35 : decode cX7_gatherCargo 35 = .ok (.getfield 38, 3) := by decide +kernel
theorem dX7_gatherCargo_38 : decode cX7_gatherCargo 38 = .ok (.iload_n 2, 1) := by decide +kernel
theorem dX7_gatherCargo_39 : decode cX7_gatherCargo 39 = .ok (.iastore, 1) := by decide +kernel
theorem dX7_gatherCargo_40 : decode cX7_gatherCargo 40 = .ok (.aload_n 0, 1) := by decide +kernel
theorem dX7_gatherCargo_41 : decode cX7_gatherCargo 41 = .ok (.dup, 1) := by decide +kernel
theorem dX7_gatherCargo_42 : decode cX7_gatherCargo 42 = .ok (.getfield 38, 3) := by decide +kernel
theorem dX7_gatherCargo_45 : decode cX7_gatherCargo 45 = .ok (.iconst 1, 1) := by decide +kernel
theorem dX7_gatherCargo_46 : decode cX7_gatherCargo 46 = .ok (.iadd, 1) := by decide +kernel
theorem dX7_gatherCargo_47 : decode cX7_gatherCargo 47 = .ok (.putfield 38, 3) := by decide +kernel
theorem dX7_gatherCargo_50 : decode cX7_gatherCargo 50 = .ok (.iinc 2 1, 3) := by decide +kernel
theorem dX7_gatherCargo_53 : decode cX7_gatherCargo 53 = .ok (.goto (-46), 3) := by decide +kernel
theorem dX7_gatherCargo_56 : decode cX7_gatherCargo 56 = .ok (.iconst 0, 1) := by decide +kernel
theorem dX7_gatherCargo_57 : decode cX7_gatherCargo 57 = .ok (.istore_n 2, 1) := by decide +kernel
theorem dX7_gatherCargo_58 : decode cX7_gatherCargo 58 = .ok (.iload_n 2, 1) := by decide +kernel
theorem dX7_gatherCargo_59 : decode cX7_gatherCargo 59 = .ok (.bipush 10, 2) := by decide +kernel
theorem dX7_gatherCargo_61 : decode cX7_gatherCargo 61 = .ok (.if_icmp .ge 16, 3) := by decide +kernel
theorem dX7_gatherCargo_64 : decode cX7_gatherCargo 64 = .ok (.aload_n 0, 1) := by decide +kernel
theorem dX7_gatherCargo_65 : decode cX7_gatherCargo 65 = .ok (.getfield 15, 3) := by decide +kernel
theorem dX7_gatherCargo_68 : decode cX7_gatherCargo 68 = .ok (.iload_n 2, 1) := by decide +kernel
theorem dX7_gatherCargo_69 : decode cX7_gatherCargo 69 = .ok (.iconst 0, 1) := by decide +kernel
theorem dX7_gatherCargo_70 : decode cX7_gatherCargo 70 = .ok (.iastore, 1) := by decide +kernel
theorem dX7_gatherCargo_71 : decode cX7_gatherCargo 71 = .ok (.iinc 2 1, 3) := by decide +kernel
theorem dX7_gatherCargo_74 : decode cX7_gatherCargo 74 = .ok (.goto (-16), 3) := by decide +kernel
theorem dX7_gatherCargo_77 : decode cX7_gatherCargo 77 = .ok (.return_, 1) := by decide +kernel
theorem dX7_packs_0 : decode cX7_packs 0 = .ok (.iload_n 1, 1) := by decide +kernel
theorem dX7_packs_1 : decode cX7_packs 1 = .ok (.aload_n 0, 1) := by decide +kernel
theorem dX7_packs_2 : decode cX7_packs 2 = .ok (.getfield 38, 3) := by decide +kernel
theorem dX7_packs_5 : decode cX7_packs 5 = .ok (.if_icmp .lt 5, 3) := by decide +kernel
theorem dX7_packs_8 : decode cX7_packs 8 = .ok (.iconst 1, 1) := by decide +kernel
theorem dX7_packs_9 : decode cX7_packs 9 = .ok (.ireturn, 1) := by decide +kernel
theorem dX7_packs_10 : decode cX7_packs 10 = .ok (.aload_n 0, 1) := by decide +kernel
theorem dX7_packs_11 : decode cX7_packs 11 = .ok (.getfield 21, 3) := by decide +kernel
theorem dX7_packs_14 : decode cX7_packs 14 = .ok (.getfield 42, 3) := by decide +kernel
theorem dX7_packs_17 : decode cX7_packs 17 = .ok (.aload_n 0, 1) := by decide +kernel
theorem dX7_packs_18 : decode cX7_packs 18 = .ok (.getfield 9, 3) := by decide +kernel
theorem dX7_packs_21 : decode cX7_packs 21 = .ok (.iload_n 1, 1) := by decide +kernel
theorem dX7_packs_22 : decode cX7_packs 22 = .ok (.iaload, 1) := by decide +kernel
theorem dX7_packs_23 : decode cX7_packs 23 = .ok (.iaload, 1) := by decide +kernel
theorem dX7_packs_24 : decode cX7_packs 24 = .ok (.istore 4, 2) := by decide +kernel
theorem dX7_packs_26 : decode cX7_packs 26 = .ok (.iconst 0, 1) := by decide +kernel
theorem dX7_packs_27 : decode cX7_packs 27 = .ok (.istore 5, 2) := by decide +kernel
theorem dX7_packs_29 : decode cX7_packs 29 = .ok (.iload 5, 2) := by decide +kernel
theorem dX7_packs_31 : decode cX7_packs 31 = .ok (.iload_n 2, 1) := by decide +kernel
theorem dX7_packs_32 : decode cX7_packs 32 = .ok (.if_icmp .gt 102, 3) := by decide +kernel
theorem dX7_packs_35 : decode cX7_packs 35 = .ok (.iload 5, 2) := by decide +kernel
theorem dX7_packs_37 : decode cX7_packs 37 = .ok (.iload_n 3, 1) := by decide +kernel
theorem dX7_packs_38 : decode cX7_packs 38 = .ok (.if_icmp .ge 96, 3) := by decide +kernel
theorem dX7_packs_41 : decode cX7_packs 41 = .ok (.aload_n 0, 1) := by decide +kernel
theorem dX7_packs_42 : decode cX7_packs 42 = .ok (.getfield 15, 3) := by decide +kernel
theorem dX7_packs_45 : decode cX7_packs 45 = .ok (.iload 5, 2) := by decide +kernel
theorem dX7_packs_47 : decode cX7_packs 47 = .ok (.iaload, 1) := by decide +kernel
theorem dX7_packs_48 : decode cX7_packs 48 = .ok (.iload 4, 2) := by decide +kernel
theorem dX7_packs_50 : decode cX7_packs 50 = .ok (.iadd, 1) := by decide +kernel
theorem dX7_packs_51 : decode cX7_packs 51 = .ok (.aload_n 0, 1) := by decide +kernel
theorem dX7_packs_52 : decode cX7_packs 52 = .ok (.getfield 25, 3) := by decide +kernel
theorem dX7_packs_55 : decode cX7_packs 55 = .ok (.getfield 33, 3) := by decide +kernel
theorem dX7_packs_58 : decode cX7_packs 58 = .ok (.iconst 3, 1) := by decide +kernel
theorem dX7_packs_59 : decode cX7_packs 59 = .ok (.iaload, 1) := by decide +kernel
theorem dX7_packs_60 : decode cX7_packs 60 = .ok (.if_icmp .gt 68, 3) := by decide +kernel
theorem dX7_packs_63 : decode cX7_packs 63 = .ok (.aload_n 0, 1) := by decide +kernel
theorem dX7_packs_64 : decode cX7_packs 64 = .ok (.iload 5, 2) := by decide +kernel
theorem dX7_packs_66 : decode cX7_packs 66 = .ok (.invokevirtual 58, 3) := by decide +kernel
theorem dX7_packs_69 : decode cX7_packs 69 = .ok (.ifCond .eq 6, 3) := by decide +kernel
theorem dX7_packs_72 : decode cX7_packs 72 = .ok (.goto 56, 3) := by decide +kernel
theorem dX7_packs_75 : decode cX7_packs 75 = .ok (.aload_n 0, 1) := by decide +kernel
theorem dX7_packs_76 : decode cX7_packs 76 = .ok (.getfield 15, 3) := by decide +kernel
theorem dX7_packs_79 : decode cX7_packs 79 = .ok (.iload 5, 2) := by decide +kernel
theorem dX7_packs_81 : decode cX7_packs 81 = .ok (.dup2, 1) := by decide +kernel
theorem dX7_packs_82 : decode cX7_packs 82 = .ok (.iaload, 1) := by decide +kernel
theorem dX7_packs_83 : decode cX7_packs 83 = .ok (.iload 4, 2) := by decide +kernel
theorem dX7_packs_85 : decode cX7_packs 85 = .ok (.iadd, 1) := by decide +kernel
theorem dX7_packs_86 : decode cX7_packs 86 = .ok (.iastore, 1) := by decide +kernel
theorem dX7_packs_87 : decode cX7_packs 87 = .ok (.aload_n 0, 1) := by decide +kernel
theorem dX7_packs_88 : decode cX7_packs 88 = .ok (.getfield 18, 3) := by decide +kernel
theorem dX7_packs_91 : decode cX7_packs 91 = .ok (.iload_n 1, 1) := by decide +kernel
theorem dX7_packs_92 : decode cX7_packs 92 = .ok (.iload 5, 2) := by decide +kernel
theorem dX7_packs_94 : decode cX7_packs 94 = .ok (.iastore, 1) := by decide +kernel
theorem dX7_packs_95 : decode cX7_packs 95 = .ok (.aload_n 0, 1) := by decide +kernel
theorem dX7_packs_96 : decode cX7_packs 96 = .ok (.iload_n 1, 1) := by decide +kernel
theorem dX7_packs_97 : decode cX7_packs 97 = .ok (.iconst 1, 1) := by decide +kernel
theorem dX7_packs_98 : decode cX7_packs 98 = .ok (.iadd, 1) := by decide +kernel
theorem dX7_packs_99 : decode cX7_packs 99 = .ok (.iload_n 2, 1) := by decide +kernel
theorem dX7_packs_100 : decode cX7_packs 100 = .ok (.iload 5, 2) := by decide +kernel
theorem dX7_packs_102 : decode cX7_packs 102 = .ok (.iconst 1, 1) := by decide +kernel
theorem dX7_packs_103 : decode cX7_packs 103 = .ok (.iadd, 1) := by decide +kernel
theorem dX7_packs_104 : decode cX7_packs 104 = .ok (.invokestatic 62, 3) := by decide +kernel
theorem dX7_packs_107 : decode cX7_packs 107 = .ok (.iload_n 3, 1) := by decide +kernel
theorem dX7_packs_108 : decode cX7_packs 108 = .ok (.invokestatic 47, 3) := by decide +kernel
theorem dX7_packs_111 : decode cX7_packs 111 = .ok (.ifCond .eq 5, 3) := by decide +kernel
theorem dX7_packs_114 : decode cX7_packs 114 = .ok (.iconst 1, 1) := by decide +kernel
theorem dX7_packs_115 : decode cX7_packs 115 = .ok (.ireturn, 1) := by decide +kernel
theorem dX7_packs_116 : decode cX7_packs 116 = .ok (.aload_n 0, 1) := by decide +kernel
theorem dX7_packs_117 : decode cX7_packs 117 = .ok (.getfield 15, 3) := by decide +kernel
theorem dX7_packs_120 : decode cX7_packs 120 = .ok (.iload 5, 2) := by decide +kernel
theorem dX7_packs_122 : decode cX7_packs 122 = .ok (.dup2, 1) := by decide +kernel
theorem dX7_packs_123 : decode cX7_packs 123 = .ok (.iaload, 1) := by decide +kernel
theorem dX7_packs_124 : decode cX7_packs 124 = .ok (.iload 4, 2) := by decide +kernel
theorem dX7_packs_126 : decode cX7_packs 126 = .ok (.isub, 1) := by decide +kernel
theorem dX7_packs_127 : decode cX7_packs 127 = .ok (.iastore, 1) := by decide +kernel
theorem dX7_packs_128 : decode cX7_packs 128 = .ok (.iinc 5 1, 3) := by decide +kernel
theorem dX7_packs_131 : decode cX7_packs 131 = .ok (.goto (-102), 3) := by decide +kernel
theorem dX7_packs_134 : decode cX7_packs 134 = .ok (.iconst 0, 1) := by decide +kernel
theorem dX7_packs_135 : decode cX7_packs 135 = .ok (.ireturn, 1) := by decide +kernel
theorem dX7_hasTwin_0 : decode cX7_hasTwin 0 = .ok (.iconst 0, 1) := by decide +kernel
theorem dX7_hasTwin_1 : decode cX7_hasTwin 1 = .ok (.istore_n 2, 1) := by decide +kernel
theorem dX7_hasTwin_2 : decode cX7_hasTwin 2 = .ok (.iload_n 2, 1) := by decide +kernel
theorem dX7_hasTwin_3 : decode cX7_hasTwin 3 = .ok (.iload_n 1, 1) := by decide +kernel
theorem dX7_hasTwin_4 : decode cX7_hasTwin 4 = .ok (.if_icmp .ge 26, 3) := by decide +kernel
theorem dX7_hasTwin_7 : decode cX7_hasTwin 7 = .ok (.aload_n 0, 1) := by decide +kernel
theorem dX7_hasTwin_8 : decode cX7_hasTwin 8 = .ok (.getfield 15, 3) := by decide +kernel
theorem dX7_hasTwin_11 : decode cX7_hasTwin 11 = .ok (.iload_n 2, 1) := by decide +kernel
theorem dX7_hasTwin_12 : decode cX7_hasTwin 12 = .ok (.iaload, 1) := by decide +kernel
theorem dX7_hasTwin_13 : decode cX7_hasTwin 13 = .ok (.aload_n 0, 1) := by decide +kernel
theorem dX7_hasTwin_14 : decode cX7_hasTwin 14 = .ok (.getfield 15, 3) := by decide +kernel
theorem dX7_hasTwin_17 : decode cX7_hasTwin 17 = .ok (.iload_n 1, 1) := by decide +kernel
theorem dX7_hasTwin_18 : decode cX7_hasTwin 18 = .ok (.iaload, 1) := by decide +kernel
theorem dX7_hasTwin_19 : decode cX7_hasTwin 19 = .ok (.if_icmp .ne 5, 3) := by decide +kernel
theorem dX7_hasTwin_22 : decode cX7_hasTwin 22 = .ok (.iconst 1, 1) := by decide +kernel
theorem dX7_hasTwin_23 : decode cX7_hasTwin 23 = .ok (.ireturn, 1) := by decide +kernel
theorem dX7_hasTwin_24 : decode cX7_hasTwin 24 = .ok (.iinc 2 1, 3) := by decide +kernel
theorem dX7_hasTwin_27 : decode cX7_hasTwin 27 = .ok (.goto (-25), 3) := by decide +kernel
theorem dX7_hasTwin_30 : decode cX7_hasTwin 30 = .ok (.iconst 0, 1) := by decide +kernel
theorem dX7_hasTwin_31 : decode cX7_hasTwin 31 = .ok (.ireturn, 1) := by decide +kernel
end
section
theorem dX8_init_0 : decode cX8_init 0 = .ok (.aload_n 0, 1) := by decide +kernel
theorem dX8_init_1 : decode cX8_init 1 = .ok (.invokespecial 1, 3) := by decide +kernel
theorem dX8_init_4 : decode cX8_init 4 = .ok (.aload_n 0, 1) := by decide +kernel
theorem dX8_init_5 : decode cX8_init 5 = .ok (.new 7, 3) := by decide +kernel
theorem dX8_init_8 : decode cX8_init 8 = .ok (.dup, 1) := by decide +kernel
theorem dX8_init_9 : decode cX8_init 9 = .ok (.invokespecial 9, 3) := by decide +kernel
theorem dX8_init_12 : decode cX8_init 12 = .ok (.putfield 10, 3) := by decide +kernel
theorem dX8_init_15 : decode cX8_init 15 = .ok (.aload_n 0, 1) := by decide +kernel
theorem dX8_init_16 : decode cX8_init 16 = .ok (.new 16, 3) := by decide +kernel
theorem dX8_init_19 : decode cX8_init 19 = .ok (.dup, 1) := by decide +kernel
theorem dX8_init_20 : decode cX8_init 20 = .ok (.aload_n 0, 1) := by decide +kernel
theorem dX8_init_21 : decode cX8_init 21 = .ok (.getfield 10, 3) := by decide +kernel
theorem dX8_init_24 : decode cX8_init 24 = .ok (.invokespecial 18, 3) := by decide +kernel
theorem dX8_init_27 : decode cX8_init 27 = .ok (.putfield 21, 3) := by decide +kernel
theorem dX8_init_30 : decode cX8_init 30 = .ok (.aload_n 0, 1) := by decide +kernel
theorem dX8_init_31 : decode cX8_init 31 = .ok (.new 25, 3) := by decide +kernel
theorem dX8_init_34 : decode cX8_init 34 = .ok (.dup, 1) := by decide +kernel
theorem dX8_init_35 : decode cX8_init 35 = .ok (.aload_n 0, 1) := by decide +kernel
theorem dX8_init_36 : decode cX8_init 36 = .ok (.getfield 21, 3) := by decide +kernel
theorem dX8_init_39 : decode cX8_init 39 = .ok (.invokespecial 27, 3) := by decide +kernel
theorem dX8_init_42 : decode cX8_init 42 = .ok (.putfield 30, 3) := by decide +kernel
theorem dX8_init_45 : decode cX8_init 45 = .ok (.aload_n 0, 1) := by decide +kernel
theorem dX8_init_46 : decode cX8_init 46 = .ok (.new 34, 3) := by decide +kernel
theorem dX8_init_49 : decode cX8_init 49 = .ok (.dup, 1) := by decide +kernel
theorem dX8_init_50 : decode cX8_init 50 = .ok (.aload_n 0, 1) := by decide +kernel
theorem dX8_init_51 : decode cX8_init 51 = .ok (.getfield 30, 3) := by decide +kernel
theorem dX8_init_54 : decode cX8_init 54 = .ok (.invokespecial 36, 3) := by decide +kernel
theorem dX8_init_57 : decode cX8_init 57 = .ok (.putfield 39, 3) := by decide +kernel
theorem dX8_init_60 : decode cX8_init 60 = .ok (.aload_n 0, 1) := by decide +kernel
theorem dX8_init_61 : decode cX8_init 61 = .ok (.new 43, 3) := by decide +kernel
theorem dX8_init_64 : decode cX8_init 64 = .ok (.dup, 1) := by decide +kernel
theorem dX8_init_65 : decode cX8_init 65 = .ok (.aload_n 0, 1) := by decide +kernel
theorem dX8_init_66 : decode cX8_init 66 = .ok (.getfield 30, 3) := by decide +kernel
theorem dX8_init_69 : decode cX8_init 69 = .ok (.aload_n 0, 1) := by decide +kernel
theorem dX8_init_70 : decode cX8_init 70 = .ok (.getfield 39, 3) := by decide +kernel
theorem dX8_init_73 : decode cX8_init 73 = .ok (.invokespecial 45, 3) := by decide +kernel
theorem dX8_init_76 : decode cX8_init 76 = .ok (.putfield 48, 3) := by decide +kernel
theorem dX8_init_79 : decode cX8_init 79 = .ok (.aload_n 0, 1) := by decide +kernel
theorem dX8_init_80 : decode cX8_init 80 = .ok (.new 52, 3) := by decide +kernel
theorem dX8_init_83 : decode cX8_init 83 = .ok (.dup, 1) := by decide +kernel
theorem dX8_init_84 : decode cX8_init 84 = .ok (.aload_n 0, 1) := by decide +kernel
theorem dX8_init_85 : decode cX8_init 85 = .ok (.getfield 30, 3) := by decide +kernel
theorem dX8_init_88 : decode cX8_init 88 = .ok (.aload_n 0, 1) := by decide +kernel
theorem dX8_init_89 : decode cX8_init 89 = .ok (.getfield 21, 3) := by decide +kernel
theorem dX8_init_92 : decode cX8_init 92 = .ok (.invokespecial 54, 3) := by decide +kernel
theorem dX8_init_95 : decode cX8_init 95 = .ok (.putfield 57, 3) := by decide +kernel
theorem dX8_init_98 : decode cX8_init 98 = .ok (.aload_n 0, 1) := by decide +kernel
theorem dX8_init_99 : decode cX8_init 99 = .ok (.iconst 4, 1) := by decide +kernel
theorem dX8_init_100 : decode cX8_init 100 = .ok (.anewarray 61, 3) := by decide +kernel
theorem dX8_init_103 : decode cX8_init 103 = .ok (.putfield 63, 3) := by decide +kernel
theorem dX8_init_106 : decode cX8_init 106 = .ok (.iconst 0, 1) := by decide +kernel
theorem dX8_init_107 : decode cX8_init 107 = .ok (.istore_n 1, 1) := by decide +kernel
theorem dX8_init_108 : decode cX8_init 108 = .ok (.iload_n 1, 1) := by decide +kernel
theorem dX8_init_109 : decode cX8_init 109 = .ok (.iconst 4, 1) := by decide +kernel
theorem dX8_init_110 : decode cX8_init 110 = .ok (.if_icmp .ge 22, 3) := by decide +kernel
theorem dX8_init_113 : decode cX8_init 113 = .ok (.aload_n 0, 1) := by decide +kernel
theorem dX8_init_114 : decode cX8_init 114 = .ok (.getfield 63, 3) := by decide +kernel
theorem dX8_init_117 : decode cX8_init 117 = .ok (.iload_n 1, 1) := by decide +kernel
theorem dX8_init_118 : decode cX8_init 118 = .ok (.new 61, 3) := by decide +kernel
theorem dX8_init_121 : decode cX8_init 121 = .ok (.dup, 1) := by decide +kernel
theorem dX8_init_122 : decode cX8_init 122 = .ok (.invokespecial 67, 3) := by decide +kernel
theorem dX8_init_125 : decode cX8_init 125 = .ok (.aastore, 1) := by decide +kernel
theorem dX8_init_126 : decode cX8_init 126 = .ok (.iinc 1 1, 3) := by decide +kernel
theorem dX8_init_129 : decode cX8_init 129 = .ok (.goto (-21), 3) := by decide +kernel
theorem dX8_init_132 : decode cX8_init 132 = .ok (.return_, 1) := by decide +kernel
theorem dX8_feed_0 : decode cX8_feed 0 = .ok (.aload_n 0, 1) := by decide +kernel
theorem dX8_feed_1 : decode cX8_feed 1 = .ok (.getfield 10, 3) := by decide +kernel
theorem dX8_feed_4 : decode cX8_feed 4 = .ok (.getfield 68, 3) := by decide +kernel
theorem dX8_feed_7 : decode cX8_feed 7 = .ok (.sipush 152, 3) := by decide +kernel
theorem dX8_feed_10 : decode cX8_feed 10 = .ok (.if_icmp .le 6, 3) := by decide +kernel
theorem dX8_feed_13 : decode cX8_feed 13 = .ok (.bipush (-3), 2) := by decide +kernel
theorem dX8_feed_15 : decode cX8_feed 15 = .ok (.ireturn, 1) := by decide +kernel
theorem dX8_feed_16 : decode cX8_feed 16 = .ok (.aload_n 0, 1) := by decide +kernel
theorem dX8_feed_17 : decode cX8_feed 17 = .ok (.getfield 10, 3) := by decide +kernel
theorem dX8_feed_20 : decode cX8_feed 20 = .ok (.lload_n 1, 1) := by decide +kernel
theorem dX8_feed_21 : decode cX8_feed 21 = .ok (.invokevirtual 72, 3) := by decide +kernel
theorem dX8_feed_24 : decode cX8_feed 24 = .ok (.aload_n 0, 1) := by decide +kernel
theorem dX8_feed_25 : decode cX8_feed 25 = .ok (.getfield 10, 3) := by decide +kernel
theorem dX8_feed_28 : decode cX8_feed 28 = .ok (.getfield 68, 3) := by decide +kernel
theorem dX8_feed_31 : decode cX8_feed 31 = .ok (.ireturn, 1) := by decide +kernel
theorem dX8_end_0 : decode cX8_end 0 = .ok (.iload_n 1, 1) := by decide +kernel
theorem dX8_end_1 : decode cX8_end 1 = .ok (.ifCond .lt 14, 3) := by decide +kernel
theorem dX8_end_4 : decode cX8_end 4 = .ok (.iload_n 1, 1) := by decide +kernel
theorem dX8_end_5 : decode cX8_end 5 = .ok (.aload_n 0, 1) := by decide +kernel
theorem dX8_end_6 : decode cX8_end 6 = .ok (.getfield 10, 3) := by decide +kernel
theorem dX8_end_9 : decode cX8_end 9 = .ok (.getfield 68, 3) := by decide +kernel
theorem dX8_end_12 : decode cX8_end 12 = .ok (.if_icmp .le 5, 3) := by decide +kernel
theorem dX8_end_15 : decode cX8_end 15 = .ok (.iconst (-1), 1) := by decide +kernel
theorem dX8_end_16 : decode cX8_end 16 = .ok (.ireturn, 1) := by decide +kernel
theorem dX8_end_17 : decode cX8_end 17 = .ok (.aload_n 0, 1) := by decide +kernel
theorem dX8_end_18 : decode cX8_end 18 = .ok (.getfield 10, 3) := by decide +kernel
theorem dX8_end_21 : decode cX8_end 21 = .ok (.getfield 68, 3) := by decide +kernel
theorem dX8_end_24 : decode cX8_end 24 = .ok (.istore_n 2, 1) := by decide +kernel
theorem dX8_end_25 : decode cX8_end 25 = .ok (.aload_n 0, 1) := by decide +kernel
theorem dX8_end_26 : decode cX8_end 26 = .ok (.getfield 10, 3) := by decide +kernel
theorem dX8_end_29 : decode cX8_end 29 = .ok (.iload_n 1, 1) := by decide +kernel
theorem dX8_end_30 : decode cX8_end 30 = .ok (.putfield 68, 3) := by decide +kernel
theorem dX8_end_33 : decode cX8_end 33 = .ok (.iload_n 2, 1) := by decide +kernel
theorem dX8_end_34 : decode cX8_end 34 = .ok (.ireturn, 1) := by decide +kernel
theorem dX8_laws_0 : decode cX8_laws 0 = .ok (.aload_n 0, 1) := by decide +kernel
theorem dX8_laws_1 : decode cX8_laws 1 = .ok (.getfield 21, 3) := by decide +kernel
theorem dX8_laws_4 : decode cX8_laws 4 = .ok (.invokevirtual 76, 3) := by decide +kernel
theorem dX8_laws_7 : decode cX8_laws 7 = .ok (.istore_n 1, 1) := by decide +kernel
theorem dX8_laws_8 : decode cX8_laws 8 = .ok (.aload_n 0, 1) := by decide +kernel
theorem dX8_laws_9 : decode cX8_laws 9 = .ok (.getfield 10, 3) := by decide +kernel
theorem dX8_laws_12 : decode cX8_laws 12 = .ok (.iconst 0, 1) := by decide +kernel
theorem dX8_laws_13 : decode cX8_laws 13 = .ok (.putfield 68, 3) := by decide +kernel
theorem dX8_laws_16 : decode cX8_laws 16 = .ok (.iload_n 1, 1) := by decide +kernel
theorem dX8_laws_17 : decode cX8_laws 17 = .ok (.ireturn, 1) := by decide +kernel
theorem dX8_fault_0 : decode cX8_fault 0 = .ok (.aload_n 0, 1) := by decide +kernel
theorem dX8_fault_1 : decode cX8_fault 1 = .ok (.getfield 21, 3) := by decide +kernel
theorem dX8_fault_4 : decode cX8_fault 4 = .ok (.getfield 80, 3) := by decide +kernel
theorem dX8_fault_7 : decode cX8_fault 7 = .ok (.ireturn, 1) := by decide +kernel
theorem dX8_law_0 : decode cX8_law 0 = .ok (.iload_n 1, 1) := by decide +kernel
theorem dX8_law_1 : decode cX8_law 1 = .ok (.iconst 0, 1) := by decide +kernel
theorem dX8_law_2 : decode cX8_law 2 = .ok (.bipush 6, 2) := by decide +kernel
theorem dX8_law_4 : decode cX8_law 4 = .ok (.invokestatic 83, 3) := by decide +kernel
theorem dX8_law_7 : decode cX8_law 7 = .ok (.ifCond .eq 15, 3) := by decide +kernel
theorem dX8_law_10 : decode cX8_law 10 = .ok (.aload_n 0, 1) := by decide +kernel
theorem dX8_law_11 : decode cX8_law 11 = .ok (.getfield 21, 3) := by decide +kernel
theorem dX8_law_14 : decode cX8_law 14 = .ok (.getfield 87, 3) := by decide +kernel
theorem dX8_law_17 : decode cX8_law 17 = .ok (.iload_n 1, 1) := by decide +kernel
theorem dX8_law_18 : decode cX8_law 18 = .ok (.iaload, 1) := by decide +kernel
theorem dX8_law_19 : decode cX8_law 19 = .ok (.goto 4, 3) := by decide +kernel
theorem dX8_law_22 : decode cX8_law 22 = .ok (.iconst (-1), 1) := by decide +kernel
theorem dX8_law_23 : decode cX8_law 23 = .ok (.ireturn, 1) := by decide +kernel
theorem dX8_heir_0 : decode cX8_heir 0 = .ok (.aload_n 0, 1) := by decide +kernel
theorem dX8_heir_1 : decode cX8_heir 1 = .ok (.getfield 30, 3) := by decide +kernel
theorem dX8_heir_4 : decode cX8_heir 4 = .ok (.getfield 91, 3) := by decide +kernel
theorem dX8_heir_7 : decode cX8_heir 7 = .ok (.iconst 4, 1) := by decide +kernel
theorem dX8_heir_8 : decode cX8_heir 8 = .ok (.if_icmp .lt 6, 3) := by decide +kernel
theorem dX8_heir_11 : decode cX8_heir 11 = .ok (.bipush (-3), 2) := by decide +kernel
theorem dX8_heir_13 : decode cX8_heir 13 = .ok (.ireturn, 1) := by decide +kernel
theorem dX8_heir_14 : decode cX8_heir 14 = .ok (.aload_n 0, 1) := by decide +kernel
theorem dX8_heir_15 : decode cX8_heir 15 = .ok (.getfield 30, 3) := by decide +kernel
theorem dX8_heir_18 : decode cX8_heir 18 = .ok (.dup, 1) := by decide +kernel
theorem dX8_heir_19 : decode cX8_heir 19 = .ok (.getfield 91, 3) := by decide +kernel
theorem dX8_heir_22 : decode cX8_heir 22 = .ok (.iconst 1, 1) := by decide +kernel
theorem dX8_heir_23 : decode cX8_heir 23 = .ok (.iadd, 1) := by decide +kernel
theorem dX8_heir_24 : decode cX8_heir 24 = .ok (.putfield 91, 3) := by decide +kernel
theorem dX8_heir_27 : decode cX8_heir 27 = .ok (.aload_n 0, 1) := by decide +kernel
theorem dX8_heir_28 : decode cX8_heir 28 = .ok (.getfield 30, 3) := by decide +kernel
theorem dX8_heir_31 : decode cX8_heir 31 = .ok (.getfield 91, 3) := by decide +kernel
theorem dX8_heir_34 : decode cX8_heir 34 = .ok (.iconst 1, 1) := by decide +kernel
theorem dX8_heir_35 : decode cX8_heir 35 = .ok (.isub, 1) := by decide +kernel
theorem dX8_heir_36 : decode cX8_heir 36 = .ok (.ireturn, 1) := by decide +kernel
theorem dX8_thing_0 : decode cX8_thing 0 = .ok (.iload_n 1, 1) := by decide +kernel
theorem dX8_thing_1 : decode cX8_thing 1 = .ok (.iconst 1, 1) := by decide +kernel
theorem dX8_thing_2 : decode cX8_thing 2 = .ok (.bipush 50, 2) := by decide +kernel
theorem dX8_thing_4 : decode cX8_thing 4 = .ok (.invokestatic 83, 3) := by decide +kernel
theorem dX8_thing_7 : decode cX8_thing 7 = .ok (.ifCond .eq 47, 3) := by decide +kernel
theorem dX8_thing_10 : decode cX8_thing 10 = .ok (.iload_n 2, 1) := by decide +kernel
theorem dX8_thing_11 : decode cX8_thing 11 = .ok (.iconst 0, 1) := by decide +kernel
theorem dX8_thing_12 : decode cX8_thing 12 = .ok (.sipush 1000, 3) := by decide +kernel
theorem dX8_thing_15 : decode cX8_thing 15 = .ok (.invokestatic 83, 3) := by decide +kernel
theorem dX8_thing_18 : decode cX8_thing 18 = .ok (.ifCond .eq 36, 3) := by decide +kernel
theorem dX8_thing_21 : decode cX8_thing 21 = .ok (.iload_n 3, 1) := by decide +kernel
theorem dX8_thing_22 : decode cX8_thing 22 = .ok (.iload_n 2, 1) := by decide +kernel
theorem dX8_thing_23 : decode cX8_thing 23 = .ok (.sipush 1000, 3) := by decide +kernel
theorem dX8_thing_26 : decode cX8_thing 26 = .ok (.invokestatic 83, 3) := by decide +kernel
theorem dX8_thing_29 : decode cX8_thing 29 = .ok (.ifCond .eq 25, 3) := by decide +kernel
theorem dX8_thing_32 : decode cX8_thing 32 = .ok (.iload 4, 2) := by decide +kernel
theorem dX8_thing_34 : decode cX8_thing 34 = .ok (.iconst 0, 1) := by decide +kernel
theorem dX8_thing_35 : decode cX8_thing 35 = .ok (.bipush 99, 2) := by decide +kernel
theorem dX8_thing_37 : decode cX8_thing 37 = .ok (.invokestatic 83, 3) := by decide +kernel
theorem dX8_thing_40 : decode cX8_thing 40 = .ok (.ifCond .eq 14, 3) := by decide +kernel
theorem dX8_thing_43 : decode cX8_thing 43 = .ok (.iload 5, 2) := by decide +kernel
theorem dX8_thing_45 : decode cX8_thing 45 = .ok (.iconst 0, 1) := by decide +kernel
theorem dX8_thing_46 : decode cX8_thing 46 = .ok (.bipush 15, 2) := by decide +kernel
theorem dX8_thing_48 : decode cX8_thing 48 = .ok (.invokestatic 83, 3) := by decide +kernel
theorem dX8_thing_51 : decode cX8_thing 51 = .ok (.ifCond .ne 5, 3) := by decide +kernel
theorem dX8_thing_54 : decode cX8_thing 54 = .ok (.iconst (-1), 1) := by decide +kernel
theorem dX8_thing_55 : decode cX8_thing 55 = .ok (.ireturn, 1) := by decide +kernel
theorem dX8_thing_56 : decode cX8_thing 56 = .ok (.aload_n 0, 1) := by decide +kernel
theorem dX8_thing_57 : decode cX8_thing 57 = .ok (.getfield 30, 3) := by decide +kernel
theorem dX8_thing_60 : decode cX8_thing 60 = .ok (.getfield 94, 3) := by decide +kernel
theorem dX8_thing_63 : decode cX8_thing 63 = .ok (.bipush 10, 2) := by decide +kernel
theorem dX8_thing_65 : decode cX8_thing 65 = .ok (.if_icmp .lt 6, 3) := by decide +kernel
theorem dX8_thing_68 : decode cX8_thing 68 = .ok (.bipush (-3), 2) := by decide +kernel
theorem dX8_thing_70 : decode cX8_thing 70 = .ok (.ireturn, 1) := by decide +kernel
theorem dX8_thing_71 : decode cX8_thing 71 = .ok (.aload_n 0, 1) := by decide +kernel
theorem dX8_thing_72 : decode cX8_thing 72 = .ok (.getfield 30, 3) := by decide +kernel
theorem dX8_thing_75 : decode cX8_thing 75 = .ok (.iload_n 1, 1) := by decide +kernel
theorem dX8_thing_76 : decode cX8_thing 76 = .ok (.iload_n 2, 1) := by decide +kernel
theorem dX8_thing_77 : decode cX8_thing 77 = .ok (.iload_n 3, 1) := by decide +kernel
theorem dX8_thing_78 : decode cX8_thing 78 = .ok (.iload 4, 2) := by decide +kernel
theorem dX8_thing_80 : decode cX8_thing 80 = .ok (.iload 5, 2) := by decide +kernel
theorem dX8_thing_82 : decode cX8_thing 82 = .ok (.invokevirtual 97, 3) := by decide +kernel
theorem dX8_thing_85 : decode cX8_thing 85 = .ok (.ireturn, 1) := by decide +kernel
theorem dX8_worth_0 : decode cX8_worth 0 = .ok (.aload_n 0, 1) := by decide +kernel
theorem dX8_worth_1 : decode cX8_worth 1 = .ok (.getfield 30, 3) := by decide +kernel
theorem dX8_worth_4 : decode cX8_worth 4 = .ok (.iload_n 1, 1) := by decide +kernel
theorem dX8_worth_5 : decode cX8_worth 5 = .ok (.invokevirtual 101, 3) := by decide +kernel
theorem dX8_worth_8 : decode cX8_worth 8 = .ok (.ifCond .eq 24, 3) := by decide +kernel
theorem dX8_worth_11 : decode cX8_worth 11 = .ok (.aload_n 0, 1) := by decide +kernel
theorem dX8_worth_12 : decode cX8_worth 12 = .ok (.getfield 30, 3) := by decide +kernel
theorem dX8_worth_15 : decode cX8_worth 15 = .ok (.iload_n 2, 1) := by decide +kernel
theorem dX8_worth_16 : decode cX8_worth 16 = .ok (.invokevirtual 105, 3) := by decide +kernel
theorem dX8_worth_19 : decode cX8_worth 19 = .ok (.ifCond .eq 13, 3) := by decide +kernel
theorem dX8_worth_22 : decode cX8_worth 22 = .ok (.iload_n 3, 1) := by decide +kernel
theorem dX8_worth_23 : decode cX8_worth 23 = .ok (.iconst 0, 1) := by decide +kernel
theorem dX8_worth_24 : decode cX8_worth 24 = .ok (.bipush 100, 2) := by decide +kernel
theorem dX8_worth_26 : decode cX8_worth 26 = .ok (.invokestatic 83, 3) := by decide +kernel
theorem dX8_worth_29 : decode cX8_worth 29 = .ok (.ifCond .ne 5, 3) := by decide +kernel
theorem dX8_worth_32 : decode cX8_worth 32 = .ok (.iconst (-1), 1) := by decide +kernel
theorem dX8_worth_33 : decode cX8_worth 33 = .ok (.ireturn, 1) := by decide +kernel
theorem dX8_worth_34 : decode cX8_worth 34 = .ok (.aload_n 0, 1) := by decide +kernel
theorem dX8_worth_35 : decode cX8_worth 35 = .ok (.getfield 30, 3) := by decide +kernel
theorem dX8_worth_38 : decode cX8_worth 38 = .ok (.getfield 108, 3) := by decide +kernel
theorem dX8_worth_41 : decode cX8_worth 41 = .ok (.iload_n 1, 1) := by decide +kernel
theorem dX8_worth_42 : decode cX8_worth 42 = .ok (.aaload, 1) := by decide +kernel
theorem dX8_worth_43 : decode cX8_worth 43 = .ok (.iload_n 2, 1) := by decide +kernel
theorem dX8_worth_44 : decode cX8_worth 44 = .ok (.iaload, 1) := by decide +kernel
theorem dX8_worth_45 : decode cX8_worth 45 = .ok (.istore 4, 2) := by decide +kernel
theorem dX8_worth_47 : decode cX8_worth 47 = .ok (.aload_n 0, 1) := by decide +kernel
theorem dX8_worth_48 : decode cX8_worth 48 = .ok (.getfield 30, 3) := by decide +kernel
theorem dX8_worth_51 : decode cX8_worth 51 = .ok (.getfield 108, 3) := by decide +kernel
theorem dX8_worth_54 : decode cX8_worth 54 = .ok (.iload_n 1, 1) := by decide +kernel
theorem dX8_worth_55 : decode cX8_worth 55 = .ok (.aaload, 1) := by decide +kernel
theorem dX8_worth_56 : decode cX8_worth 56 = .ok (.iload_n 2, 1) := by decide +kernel
theorem dX8_worth_57 : decode cX8_worth 57 = .ok (.iload_n 3, 1) := by decide +kernel
theorem dX8_worth_58 : decode cX8_worth 58 = .ok (.iastore, 1) := by decide +kernel
theorem dX8_worth_59 : decode cX8_worth 59 = .ok (.iload 4, 2) := by decide +kernel
theorem dX8_worth_61 : decode cX8_worth 61 = .ok (.ireturn, 1) := by decide +kernel
theorem dX8_gone_0 : decode cX8_gone 0 = .ok (.aload_n 0, 1) := by decide +kernel
theorem dX8_gone_1 : decode cX8_gone 1 = .ok (.getfield 30, 3) := by decide +kernel
theorem dX8_gone_4 : decode cX8_gone 4 = .ok (.getfield 94, 3) := by decide +kernel
theorem dX8_gone_7 : decode cX8_gone 7 = .ok (.ifCond .gt 6, 3) := by decide +kernel
theorem dX8_gone_10 : decode cX8_gone 10 = .ok (.bipush (-4), 2) := by decide +kernel
theorem dX8_gone_12 : decode cX8_gone 12 = .ok (.ireturn, 1) := by decide +kernel
theorem dX8_gone_13 : decode cX8_gone 13 = .ok (.aload_n 0, 1) := by decide +kernel
theorem dX8_gone_14 : decode cX8_gone 14 = .ok (.getfield 30, 3) := by decide +kernel
theorem dX8_gone_17 : decode cX8_gone 17 = .ok (.dup, 1) := by decide +kernel
theorem dX8_gone_18 : decode cX8_gone 18 = .ok (.getfield 94, 3) := by decide +kernel
theorem dX8_gone_21 : decode cX8_gone 21 = .ok (.iconst 1, 1) := by decide +kernel
theorem dX8_gone_22 : decode cX8_gone 22 = .ok (.isub, 1) := by decide +kernel
theorem dX8_gone_23 : decode cX8_gone 23 = .ok (.putfield 94, 3) := by decide +kernel
theorem dX8_gone_26 : decode cX8_gone 26 = .ok (.aload_n 0, 1) := by decide +kernel
theorem dX8_gone_27 : decode cX8_gone 27 = .ok (.getfield 30, 3) := by decide +kernel
theorem dX8_gone_30 : decode cX8_gone 30 = .ok (.getfield 94, 3) := by decide +kernel
theorem dX8_gone_33 : decode cX8_gone 33 = .ok (.ireturn, 1) := by decide +kernel
theorem dX8_look_0 : decode cX8_look 0 = .ok (.aload_n 0, 1) := by decide +kernel
theorem dX8_look_1 : decode cX8_look 1 = .ok (.getfield 30, 3) := by decide +kernel
theorem dX8_look_4 : decode cX8_look 4 = .ok (.iload_n 1, 1) := by decide +kernel
theorem dX8_look_5 : decode cX8_look 5 = .ok (.invokevirtual 105, 3) := by decide +kernel
theorem dX8_look_8 : decode cX8_look 8 = .ok (.ifCond .eq 34, 3) := by decide +kernel
theorem dX8_look_11 : decode cX8_look 11 = .ok (.iload_n 2, 1) := by decide +kernel
theorem dX8_look_12 : decode cX8_look 12 = .ok (.iload_n 3, 1) := by decide +kernel
theorem dX8_look_13 : decode cX8_look 13 = .ok (.if_icmp .gt 29, 3) := by decide +kernel
theorem dX8_look_16 : decode cX8_look 16 = .ok (.iload_n 2, 1) := by decide +kernel
theorem dX8_look_17 : decode cX8_look 17 = .ok (.aload_n 0, 1) := by decide +kernel
theorem dX8_look_18 : decode cX8_look 18 = .ok (.getfield 30, 3) := by decide +kernel
theorem dX8_look_21 : decode cX8_look 21 = .ok (.getfield 112, 3) := by decide +kernel
theorem dX8_look_24 : decode cX8_look 24 = .ok (.iload_n 1, 1) := by decide +kernel
theorem dX8_look_25 : decode cX8_look 25 = .ok (.iaload, 1) := by decide +kernel
theorem dX8_look_26 : decode cX8_look 26 = .ok (.if_icmp .lt 16, 3) := by decide +kernel
theorem dX8_look_29 : decode cX8_look 29 = .ok (.iload_n 3, 1) := by decide +kernel
theorem dX8_look_30 : decode cX8_look 30 = .ok (.aload_n 0, 1) := by decide +kernel
theorem dX8_look_31 : decode cX8_look 31 = .ok (.getfield 30, 3) := by decide +kernel
theorem dX8_look_34 : decode cX8_look 34 = .ok (.getfield 115, 3) := by decide +kernel
theorem dX8_look_37 : decode cX8_look 37 = .ok (.iload_n 1, 1) := by decide +kernel
theorem dX8_look_38 : decode cX8_look 38 = .ok (.iaload, 1) := by decide +kernel
theorem dX8_look_39 : decode cX8_look 39 = .ok (.if_icmp .le 5, 3) := by decide +kernel
theorem dX8_look_42 : decode cX8_look 42 = .ok (.iconst (-1), 1) := by decide +kernel
theorem dX8_look_43 : decode cX8_look 43 = .ok (.ireturn, 1) := by decide +kernel
theorem dX8_look_44 : decode cX8_look 44 = .ok (.aload_n 0, 1) := by decide +kernel
theorem dX8_look_45 : decode cX8_look 45 = .ok (.getfield 30, 3) := by decide +kernel
theorem dX8_look_48 : decode cX8_look 48 = .ok (.getfield 112, 3) := by decide +kernel
theorem dX8_look_51 : decode cX8_look 51 = .ok (.iload_n 1, 1) := by decide +kernel
theorem dX8_look_52 : decode cX8_look 52 = .ok (.iload_n 2, 1) := by decide +kernel
theorem dX8_look_53 : decode cX8_look 53 = .ok (.iastore, 1) := by decide +kernel
theorem dX8_look_54 : decode cX8_look 54 = .ok (.aload_n 0, 1) := by decide +kernel
theorem dX8_look_55 : decode cX8_look 55 = .ok (.getfield 30, 3) := by decide +kernel
theorem dX8_look_58 : decode cX8_look 58 = .ok (.getfield 115, 3) := by decide +kernel
theorem dX8_look_61 : decode cX8_look 61 = .ok (.iload_n 1, 1) := by decide +kernel
theorem dX8_look_62 : decode cX8_look 62 = .ok (.iload_n 3, 1) := by decide +kernel
theorem dX8_look_63 : decode cX8_look 63 = .ok (.iastore, 1) := by decide +kernel
theorem dX8_look_64 : decode cX8_look 64 = .ok (.iconst 1, 1) := by decide +kernel
theorem dX8_look_65 : decode cX8_look 65 = .ok (.ireturn, 1) := by decide +kernel
theorem dX8_told_0 : decode cX8_told 0 = .ok (.aload_n 0, 1) := by decide +kernel
theorem dX8_told_1 : decode cX8_told 1 = .ok (.getfield 30, 3) := by decide +kernel
theorem dX8_told_4 : decode cX8_told 4 = .ok (.iload_n 1, 1) := by decide +kernel
theorem dX8_told_5 : decode cX8_told 5 = .ok (.invokevirtual 105, 3) := by decide +kernel
theorem dX8_told_8 : decode cX8_told 8 = .ok (.ifCond .ne 5, 3) := by decide +kernel
theorem dX8_told_11 : decode cX8_told 11 = .ok (.iconst (-1), 1) := by decide +kernel
theorem dX8_told_12 : decode cX8_told 12 = .ok (.ireturn, 1) := by decide +kernel
theorem dX8_told_13 : decode cX8_told 13 = .ok (.iload_n 2, 1) := by decide +kernel
theorem dX8_told_14 : decode cX8_told 14 = .ok (.tableswitch 97 0 5 #[38, 48, 58, 68, 78, 88], 38) := by decide +kernel
theorem dX8_told_52 : decode cX8_told 52 = .ok (.aload_n 0, 1) := by decide +kernel
theorem dX8_told_53 : decode cX8_told 53 = .ok (.getfield 30, 3) := by decide +kernel
theorem dX8_told_56 : decode cX8_told 56 = .ok (.getfield 118, 3) := by decide +kernel
theorem dX8_told_59 : decode cX8_told 59 = .ok (.iload_n 1, 1) := by decide +kernel
theorem dX8_told_60 : decode cX8_told 60 = .ok (.iaload, 1) := by decide +kernel
theorem dX8_told_61 : decode cX8_told 61 = .ok (.ireturn, 1) := by decide +kernel
theorem dX8_told_62 : decode cX8_told 62 = .ok (.aload_n 0, 1) := by decide +kernel
theorem dX8_told_63 : decode cX8_told 63 = .ok (.getfield 30, 3) := by decide +kernel
theorem dX8_told_66 : decode cX8_told 66 = .ok (.getfield 112, 3) := by decide +kernel
theorem dX8_told_69 : decode cX8_told 69 = .ok (.iload_n 1, 1) := by decide +kernel
theorem dX8_told_70 : decode cX8_told 70 = .ok (.iaload, 1) := by decide +kernel
theorem dX8_told_71 : decode cX8_told 71 = .ok (.ireturn, 1) := by decide +kernel
theorem dX8_told_72 : decode cX8_told 72 = .ok (.aload_n 0, 1) := by decide +kernel
theorem dX8_told_73 : decode cX8_told 73 = .ok (.getfield 30, 3) := by decide +kernel
theorem dX8_told_76 : decode cX8_told 76 = .ok (.getfield 115, 3) := by decide +kernel
theorem dX8_told_79 : decode cX8_told 79 = .ok (.iload_n 1, 1) := by decide +kernel
theorem dX8_told_80 : decode cX8_told 80 = .ok (.iaload, 1) := by decide +kernel
theorem dX8_told_81 : decode cX8_told 81 = .ok (.ireturn, 1) := by decide +kernel
theorem dX8_told_82 : decode cX8_told 82 = .ok (.aload_n 0, 1) := by decide +kernel
theorem dX8_told_83 : decode cX8_told 83 = .ok (.getfield 30, 3) := by decide +kernel
theorem dX8_told_86 : decode cX8_told 86 = .ok (.getfield 121, 3) := by decide +kernel
theorem dX8_told_89 : decode cX8_told 89 = .ok (.iload_n 1, 1) := by decide +kernel
theorem dX8_told_90 : decode cX8_told 90 = .ok (.iaload, 1) := by decide +kernel
theorem dX8_told_91 : decode cX8_told 91 = .ok (.ireturn, 1) := by decide +kernel
theorem dX8_told_92 : decode cX8_told 92 = .ok (.aload_n 0, 1) := by decide +kernel
theorem dX8_told_93 : decode cX8_told 93 = .ok (.getfield 30, 3) := by decide +kernel
theorem dX8_told_96 : decode cX8_told 96 = .ok (.getfield 124, 3) := by decide +kernel
theorem dX8_told_99 : decode cX8_told 99 = .ok (.iload_n 1, 1) := by decide +kernel
theorem dX8_told_100 : decode cX8_told 100 = .ok (.iaload, 1) := by decide +kernel
theorem dX8_told_101 : decode cX8_told 101 = .ok (.ireturn, 1) := by decide +kernel
theorem dX8_told_102 : decode cX8_told 102 = .ok (.aload_n 0, 1) := by decide +kernel
theorem dX8_told_103 : decode cX8_told 103 = .ok (.getfield 30, 3) := by decide +kernel
theorem dX8_told_106 : decode cX8_told 106 = .ok (.iload_n 1, 1) := by decide +kernel
theorem dX8_told_107 : decode cX8_told 107 = .ok (.invokevirtual 127, 3) := by decide +kernel
theorem dX8_told_110 : decode cX8_told 110 = .ok (.ireturn, 1) := by decide +kernel
theorem dX8_told_111 : decode cX8_told 111 = .ok (.iconst (-1), 1) := by decide +kernel
theorem dX8_told_112 : decode cX8_told 112 = .ok (.ireturn, 1) := by decide +kernel
theorem dX8_way_0 : decode cX8_way 0 = .ok (.iload_n 1, 1) := by decide +kernel
theorem dX8_way_1 : decode cX8_way 1 = .ok (.iconst 0, 1) := by decide +kernel
theorem dX8_way_2 : decode cX8_way 2 = .ok (.iconst 4, 1) := by decide +kernel
theorem dX8_way_3 : decode cX8_way 3 = .ok (.invokestatic 83, 3) := by decide +kernel
theorem dX8_way_6 : decode cX8_way 6 = .ok (.ifCond .ne 5, 3) := by decide +kernel
theorem dX8_way_9 : decode cX8_way 9 = .ok (.iconst (-1), 1) := by decide +kernel
theorem dX8_way_10 : decode cX8_way 10 = .ok (.ireturn, 1) := by decide +kernel
theorem dX8_way_11 : decode cX8_way 11 = .ok (.iload_n 2, 1) := by decide +kernel
theorem dX8_way_12 : decode cX8_way 12 = .ok (.tableswitch 89 0 3 #[32, 41, 57, 73], 32) := by decide +kernel
theorem dX8_way_44 : decode cX8_way 44 = .ok (.aload_n 0, 1) := by decide +kernel
theorem dX8_way_45 : decode cX8_way 45 = .ok (.getfield 30, 3) := by decide +kernel
theorem dX8_way_48 : decode cX8_way 48 = .ok (.iload_n 1, 1) := by decide +kernel
theorem dX8_way_49 : decode cX8_way 49 = .ok (.invokevirtual 131, 3) := by decide +kernel
theorem dX8_way_52 : decode cX8_way 52 = .ok (.ireturn, 1) := by decide +kernel
theorem dX8_way_53 : decode cX8_way 53 = .ok (.aload_n 0, 1) := by decide +kernel
theorem dX8_way_54 : decode cX8_way 54 = .ok (.getfield 30, 3) := by decide +kernel
theorem dX8_way_57 : decode cX8_way 57 = .ok (.iload_n 1, 1) := by decide +kernel
theorem dX8_way_58 : decode cX8_way 58 = .ok (.aload_n 0, 1) := by decide +kernel
theorem dX8_way_59 : decode cX8_way 59 = .ok (.getfield 30, 3) := by decide +kernel
theorem dX8_way_62 : decode cX8_way 62 = .ok (.getfield 118, 3) := by decide +kernel
theorem dX8_way_65 : decode cX8_way 65 = .ok (.invokevirtual 134, 3) := by decide +kernel
theorem dX8_way_68 : decode cX8_way 68 = .ok (.ireturn, 1) := by decide +kernel
theorem dX8_way_69 : decode cX8_way 69 = .ok (.aload_n 0, 1) := by decide +kernel
theorem dX8_way_70 : decode cX8_way 70 = .ok (.getfield 30, 3) := by decide +kernel
theorem dX8_way_73 : decode cX8_way 73 = .ok (.iload_n 1, 1) := by decide +kernel
theorem dX8_way_74 : decode cX8_way 74 = .ok (.aload_n 0, 1) := by decide +kernel
theorem dX8_way_75 : decode cX8_way 75 = .ok (.getfield 30, 3) := by decide +kernel
theorem dX8_way_78 : decode cX8_way 78 = .ok (.getfield 112, 3) := by decide +kernel
theorem dX8_way_81 : decode cX8_way 81 = .ok (.invokevirtual 134, 3) := by decide +kernel
theorem dX8_way_84 : decode cX8_way 84 = .ok (.ireturn, 1) := by decide +kernel
theorem dX8_way_85 : decode cX8_way 85 = .ok (.aload_n 0, 1) := by decide +kernel
theorem dX8_way_86 : decode cX8_way 86 = .ok (.getfield 30, 3) := by decide +kernel
theorem dX8_way_89 : decode cX8_way 89 = .ok (.iload_n 1, 1) := by decide +kernel
theorem dX8_way_90 : decode cX8_way 90 = .ok (.aload_n 0, 1) := by decide +kernel
theorem dX8_way_91 : decode cX8_way 91 = .ok (.getfield 30, 3) := by decide +kernel
theorem dX8_way_94 : decode cX8_way 94 = .ok (.getfield 115, 3) := by decide +kernel
theorem dX8_way_97 : decode cX8_way 97 = .ok (.invokevirtual 134, 3) := by decide +kernel
theorem dX8_way_100 : decode cX8_way 100 = .ok (.ireturn, 1) := by decide +kernel
theorem dX8_way_101 : decode cX8_way 101 = .ok (.iconst (-1), 1) := by decide +kernel
theorem dX8_way_102 : decode cX8_way 102 = .ok (.ireturn, 1) := by decide +kernel
theorem dX8_asks_0 : decode cX8_asks 0 = .ok (.aload_n 0, 1) := by decide +kernel
theorem dX8_asks_1 : decode cX8_asks 1 = .ok (.getfield 30, 3) := by decide +kernel
theorem dX8_asks_4 : decode cX8_asks 4 = .ok (.iload_n 1, 1) := by decide +kernel
theorem dX8_asks_5 : decode cX8_asks 5 = .ok (.invokevirtual 105, 3) := by decide +kernel
theorem dX8_asks_8 : decode cX8_asks 8 = .ok (.ifCond .eq 14, 3) := by decide +kernel
theorem dX8_asks_11 : decode cX8_asks 11 = .ok (.aload_n 0, 1) := by decide +kernel
theorem dX8_asks_12 : decode cX8_asks 12 = .ok (.getfield 30, 3) := by decide +kernel
theorem dX8_asks_15 : decode cX8_asks 15 = .ok (.iload_n 1, 1) := by decide +kernel
theorem dX8_asks_16 : decode cX8_asks 16 = .ok (.invokevirtual 138, 3) := by decide +kernel
theorem dX8_asks_19 : decode cX8_asks 19 = .ok (.goto 4, 3) := by decide +kernel
theorem dX8_asks_22 : decode cX8_asks 22 = .ok (.iconst (-1), 1) := by decide +kernel
theorem dX8_asks_23 : decode cX8_asks 23 = .ok (.ireturn, 1) := by decide +kernel
theorem dX8_turns_0 : decode cX8_turns 0 = .ok (.iload_n 1, 1) := by decide +kernel
theorem dX8_turns_1 : decode cX8_turns 1 = .ok (.invokestatic 141, 3) := by decide +kernel
theorem dX8_turns_4 : decode cX8_turns 4 = .ok (.ifCond .ne 5, 3) := by decide +kernel
theorem dX8_turns_7 : decode cX8_turns 7 = .ok (.iconst (-1), 1) := by decide +kernel
theorem dX8_turns_8 : decode cX8_turns 8 = .ok (.ireturn, 1) := by decide +kernel
theorem dX8_turns_9 : decode cX8_turns 9 = .ok (.aload_n 0, 1) := by decide +kernel
theorem dX8_turns_10 : decode cX8_turns 10 = .ok (.getfield 30, 3) := by decide +kernel
theorem dX8_turns_13 : decode cX8_turns 13 = .ok (.getfield 91, 3) := by decide +kernel
theorem dX8_turns_16 : decode cX8_turns 16 = .ok (.ifCond .ne 6, 3) := by decide +kernel
theorem dX8_turns_19 : decode cX8_turns 19 = .ok (.bipush (-2), 2) := by decide +kernel
theorem dX8_turns_21 : decode cX8_turns 21 = .ok (.ireturn, 1) := by decide +kernel
theorem dX8_turns_22 : decode cX8_turns 22 = .ok (.aload_n 0, 1) := by decide +kernel
theorem dX8_turns_23 : decode cX8_turns 23 = .ok (.getfield 39, 3) := by decide +kernel
theorem dX8_turns_26 : decode cX8_turns 26 = .ok (.invokevirtual 144, 3) := by decide +kernel
theorem dX8_turns_29 : decode cX8_turns 29 = .ok (.aload_n 0, 1) := by decide +kernel
theorem dX8_turns_30 : decode cX8_turns 30 = .ok (.getfield 39, 3) := by decide +kernel
theorem dX8_turns_33 : decode cX8_turns 33 = .ok (.iload_n 1, 1) := by decide +kernel
theorem dX8_turns_34 : decode cX8_turns 34 = .ok (.invokevirtual 147, 3) := by decide +kernel
theorem dX8_turns_37 : decode cX8_turns 37 = .ok (.aload_n 0, 1) := by decide +kernel
theorem dX8_turns_38 : decode cX8_turns 38 = .ok (.getfield 39, 3) := by decide +kernel
theorem dX8_turns_41 : decode cX8_turns 41 = .ok (.invokevirtual 151, 3) := by decide +kernel
theorem dX8_turns_44 : decode cX8_turns 44 = .ok (.ireturn, 1) := by decide +kernel
theorem dX8_lie_0 : decode cX8_lie 0 = .ok (.iload_n 1, 1) := by decide +kernel
theorem dX8_lie_1 : decode cX8_lie 1 = .ok (.invokestatic 141, 3) := by decide +kernel
theorem dX8_lie_4 : decode cX8_lie 4 = .ok (.ifCond .eq 36, 3) := by decide +kernel
theorem dX8_lie_7 : decode cX8_lie 7 = .ok (.aload_n 0, 1) := by decide +kernel
theorem dX8_lie_8 : decode cX8_lie 8 = .ok (.getfield 30, 3) := by decide +kernel
theorem dX8_lie_11 : decode cX8_lie 11 = .ok (.iload_n 2, 1) := by decide +kernel
theorem dX8_lie_12 : decode cX8_lie 12 = .ok (.invokevirtual 101, 3) := by decide +kernel
theorem dX8_lie_15 : decode cX8_lie 15 = .ok (.ifCond .eq 25, 3) := by decide +kernel
theorem dX8_lie_18 : decode cX8_lie 18 = .ok (.aload_n 0, 1) := by decide +kernel
theorem dX8_lie_19 : decode cX8_lie 19 = .ok (.getfield 30, 3) := by decide +kernel
theorem dX8_lie_22 : decode cX8_lie 22 = .ok (.iload_n 3, 1) := by decide +kernel
theorem dX8_lie_23 : decode cX8_lie 23 = .ok (.invokevirtual 105, 3) := by decide +kernel
theorem dX8_lie_26 : decode cX8_lie 26 = .ok (.ifCond .eq 14, 3) := by decide +kernel
theorem dX8_lie_29 : decode cX8_lie 29 = .ok (.iload 4, 2) := by decide +kernel
theorem dX8_lie_31 : decode cX8_lie 31 = .ok (.iconst 0, 1) := by decide +kernel
theorem dX8_lie_32 : decode cX8_lie 32 = .ok (.bipush 100, 2) := by decide +kernel
theorem dX8_lie_34 : decode cX8_lie 34 = .ok (.invokestatic 83, 3) := by decide +kernel
theorem dX8_lie_37 : decode cX8_lie 37 = .ok (.ifCond .ne 5, 3) := by decide +kernel
theorem dX8_lie_40 : decode cX8_lie 40 = .ok (.iconst (-1), 1) := by decide +kernel
theorem dX8_lie_41 : decode cX8_lie 41 = .ok (.ireturn, 1) := by decide +kernel
theorem dX8_lie_42 : decode cX8_lie 42 = .ok (.aload_n 0, 1) := by decide +kernel
theorem dX8_lie_43 : decode cX8_lie 43 = .ok (.getfield 39, 3) := by decide +kernel
theorem dX8_lie_46 : decode cX8_lie 46 = .ok (.invokevirtual 144, 3) := by decide +kernel
theorem dX8_lie_49 : decode cX8_lie 49 = .ok (.aload_n 0, 1) := by decide +kernel
theorem dX8_lie_50 : decode cX8_lie 50 = .ok (.getfield 39, 3) := by decide +kernel
theorem dX8_lie_53 : decode cX8_lie 53 = .ok (.iload_n 1, 1) := by decide +kernel
theorem dX8_lie_54 : decode cX8_lie 54 = .ok (.iload_n 2, 1) := by decide +kernel
theorem dX8_lie_55 : decode cX8_lie 55 = .ok (.iload_n 3, 1) := by decide +kernel
theorem dX8_lie_56 : decode cX8_lie 56 = .ok (.iload 4, 2) := by decide +kernel
theorem dX8_lie_58 : decode cX8_lie 58 = .ok (.invokevirtual 154, 3) := by decide +kernel
theorem dX8_lie_61 : decode cX8_lie 61 = .ok (.aload_n 0, 1) := by decide +kernel
theorem dX8_lie_62 : decode cX8_lie 62 = .ok (.getfield 39, 3) := by decide +kernel
theorem dX8_lie_65 : decode cX8_lie 65 = .ok (.invokevirtual 151, 3) := by decide +kernel
theorem dX8_lie_68 : decode cX8_lie 68 = .ok (.ireturn, 1) := by decide +kernel
theorem dX8_gain_0 : decode cX8_gain 0 = .ok (.iload_n 1, 1) := by decide +kernel
theorem dX8_gain_1 : decode cX8_gain 1 = .ok (.invokestatic 141, 3) := by decide +kernel
theorem dX8_gain_4 : decode cX8_gain 4 = .ok (.ifCond .eq 14, 3) := by decide +kernel
theorem dX8_gain_7 : decode cX8_gain 7 = .ok (.aload_n 0, 1) := by decide +kernel
theorem dX8_gain_8 : decode cX8_gain 8 = .ok (.getfield 30, 3) := by decide +kernel
theorem dX8_gain_11 : decode cX8_gain 11 = .ok (.iload_n 2, 1) := by decide +kernel
theorem dX8_gain_12 : decode cX8_gain 12 = .ok (.invokevirtual 101, 3) := by decide +kernel
theorem dX8_gain_15 : decode cX8_gain 15 = .ok (.ifCond .ne 5, 3) := by decide +kernel
theorem dX8_gain_18 : decode cX8_gain 18 = .ok (.iconst (-1), 1) := by decide +kernel
theorem dX8_gain_19 : decode cX8_gain 19 = .ok (.ireturn, 1) := by decide +kernel
theorem dX8_gain_20 : decode cX8_gain 20 = .ok (.aload_n 0, 1) := by decide +kernel
theorem dX8_gain_21 : decode cX8_gain 21 = .ok (.getfield 39, 3) := by decide +kernel
theorem dX8_gain_24 : decode cX8_gain 24 = .ok (.invokevirtual 144, 3) := by decide +kernel
theorem dX8_gain_27 : decode cX8_gain 27 = .ok (.aload_n 0, 1) := by decide +kernel
theorem dX8_gain_28 : decode cX8_gain 28 = .ok (.getfield 39, 3) := by decide +kernel
theorem dX8_gain_31 : decode cX8_gain 31 = .ok (.iload_n 1, 1) := by decide +kernel
theorem dX8_gain_32 : decode cX8_gain 32 = .ok (.iload_n 2, 1) := by decide +kernel
theorem dX8_gain_33 : decode cX8_gain 33 = .ok (.invokevirtual 158, 3) := by decide +kernel
theorem dX8_gain_36 : decode cX8_gain 36 = .ok (.ireturn, 1) := by decide +kernel
theorem dX8_sum_0 : decode cX8_sum 0 = .ok (.aload_n 0, 1) := by decide +kernel
theorem dX8_sum_1 : decode cX8_sum 1 = .ok (.getfield 30, 3) := by decide +kernel
theorem dX8_sum_4 : decode cX8_sum 4 = .ok (.iload_n 2, 1) := by decide +kernel
theorem dX8_sum_5 : decode cX8_sum 5 = .ok (.invokevirtual 101, 3) := by decide +kernel
theorem dX8_sum_8 : decode cX8_sum 8 = .ok (.ifCond .eq 25, 3) := by decide +kernel
theorem dX8_sum_11 : decode cX8_sum 11 = .ok (.aload_n 0, 1) := by decide +kernel
theorem dX8_sum_12 : decode cX8_sum 12 = .ok (.getfield 30, 3) := by decide +kernel
theorem dX8_sum_15 : decode cX8_sum 15 = .ok (.iload_n 3, 1) := by decide +kernel
theorem dX8_sum_16 : decode cX8_sum 16 = .ok (.invokevirtual 101, 3) := by decide +kernel
theorem dX8_sum_19 : decode cX8_sum 19 = .ok (.ifCond .eq 14, 3) := by decide +kernel
theorem dX8_sum_22 : decode cX8_sum 22 = .ok (.aload_n 0, 1) := by decide +kernel
theorem dX8_sum_23 : decode cX8_sum 23 = .ok (.getfield 39, 3) := by decide +kernel
theorem dX8_sum_26 : decode cX8_sum 26 = .ok (.iload_n 1, 1) := by decide +kernel
theorem dX8_sum_27 : decode cX8_sum 27 = .ok (.invokevirtual 162, 3) := by decide +kernel
theorem dX8_sum_30 : decode cX8_sum 30 = .ok (.ifCond .ne 5, 3) := by decide +kernel
theorem dX8_sum_33 : decode cX8_sum 33 = .ok (.iconst (-1), 1) := by decide +kernel
theorem dX8_sum_34 : decode cX8_sum 34 = .ok (.ireturn, 1) := by decide +kernel
theorem dX8_sum_35 : decode cX8_sum 35 = .ok (.aload_n 0, 1) := by decide +kernel
theorem dX8_sum_36 : decode cX8_sum 36 = .ok (.getfield 39, 3) := by decide +kernel
theorem dX8_sum_39 : decode cX8_sum 39 = .ok (.iload_n 2, 1) := by decide +kernel
theorem dX8_sum_40 : decode cX8_sum 40 = .ok (.iload_n 3, 1) := by decide +kernel
theorem dX8_sum_41 : decode cX8_sum 41 = .ok (.invokevirtual 165, 3) := by decide +kernel
theorem dX8_sum_44 : decode cX8_sum 44 = .ok (.ireturn, 1) := by decide +kernel
theorem dX8_envies_0 : decode cX8_envies 0 = .ok (.aload_n 0, 1) := by decide +kernel
theorem dX8_envies_1 : decode cX8_envies 1 = .ok (.getfield 30, 3) := by decide +kernel
theorem dX8_envies_4 : decode cX8_envies 4 = .ok (.iload_n 2, 1) := by decide +kernel
theorem dX8_envies_5 : decode cX8_envies 5 = .ok (.invokevirtual 101, 3) := by decide +kernel
theorem dX8_envies_8 : decode cX8_envies 8 = .ok (.ifCond .eq 30, 3) := by decide +kernel
theorem dX8_envies_11 : decode cX8_envies 11 = .ok (.aload_n 0, 1) := by decide +kernel
theorem dX8_envies_12 : decode cX8_envies 12 = .ok (.getfield 30, 3) := by decide +kernel
theorem dX8_envies_15 : decode cX8_envies 15 = .ok (.iload_n 3, 1) := by decide +kernel
theorem dX8_envies_16 : decode cX8_envies 16 = .ok (.invokevirtual 101, 3) := by decide +kernel
theorem dX8_envies_19 : decode cX8_envies 19 = .ok (.ifCond .eq 19, 3) := by decide +kernel
theorem dX8_envies_22 : decode cX8_envies 22 = .ok (.iload_n 2, 1) := by decide +kernel
theorem dX8_envies_23 : decode cX8_envies 23 = .ok (.iload_n 3, 1) := by decide +kernel
theorem dX8_envies_24 : decode cX8_envies 24 = .ok (.if_icmp .eq 14, 3) := by decide +kernel
theorem dX8_envies_27 : decode cX8_envies 27 = .ok (.aload_n 0, 1) := by decide +kernel
theorem dX8_envies_28 : decode cX8_envies 28 = .ok (.getfield 39, 3) := by decide +kernel
theorem dX8_envies_31 : decode cX8_envies 31 = .ok (.iload_n 1, 1) := by decide +kernel
theorem dX8_envies_32 : decode cX8_envies 32 = .ok (.invokevirtual 162, 3) := by decide +kernel
theorem dX8_envies_35 : decode cX8_envies 35 = .ok (.ifCond .ne 5, 3) := by decide +kernel
theorem dX8_envies_38 : decode cX8_envies 38 = .ok (.iconst (-1), 1) := by decide +kernel
theorem dX8_envies_39 : decode cX8_envies 39 = .ok (.ireturn, 1) := by decide +kernel
theorem dX8_envies_40 : decode cX8_envies 40 = .ok (.aload_n 0, 1) := by decide +kernel
theorem dX8_envies_41 : decode cX8_envies 41 = .ok (.getfield 39, 3) := by decide +kernel
theorem dX8_envies_44 : decode cX8_envies 44 = .ok (.iload_n 2, 1) := by decide +kernel
theorem dX8_envies_45 : decode cX8_envies 45 = .ok (.iload_n 3, 1) := by decide +kernel
theorem dX8_envies_46 : decode cX8_envies 46 = .ok (.invokevirtual 168, 3) := by decide +kernel
theorem dX8_envies_49 : decode cX8_envies 49 = .ok (.ireturn, 1) := by decide +kernel
theorem dX8_envy_0 : decode cX8_envy 0 = .ok (.aload_n 0, 1) := by decide +kernel
theorem dX8_envy_1 : decode cX8_envy 1 = .ok (.getfield 39, 3) := by decide +kernel
theorem dX8_envy_4 : decode cX8_envy 4 = .ok (.iload_n 1, 1) := by decide +kernel
theorem dX8_envy_5 : decode cX8_envy 5 = .ok (.invokevirtual 162, 3) := by decide +kernel
theorem dX8_envy_8 : decode cX8_envy 8 = .ok (.ifCond .eq 13, 3) := by decide +kernel
theorem dX8_envy_11 : decode cX8_envy 11 = .ok (.aload_n 0, 1) := by decide +kernel
theorem dX8_envy_12 : decode cX8_envy 12 = .ok (.getfield 39, 3) := by decide +kernel
theorem dX8_envy_15 : decode cX8_envy 15 = .ok (.invokevirtual 171, 3) := by decide +kernel
theorem dX8_envy_18 : decode cX8_envy 18 = .ok (.goto 4, 3) := by decide +kernel
theorem dX8_envy_21 : decode cX8_envy 21 = .ok (.iconst (-1), 1) := by decide +kernel
theorem dX8_envy_22 : decode cX8_envy 22 = .ok (.ireturn, 1) := by decide +kernel
theorem dX8_fairest_0 : decode cX8_fairest 0 = .ok (.aload_n 0, 1) := by decide +kernel
theorem dX8_fairest_1 : decode cX8_fairest 1 = .ok (.getfield 30, 3) := by decide +kernel
theorem dX8_fairest_4 : decode cX8_fairest 4 = .ok (.getfield 91, 3) := by decide +kernel
theorem dX8_fairest_7 : decode cX8_fairest 7 = .ok (.ifCond .ne 6, 3) := by decide +kernel
theorem dX8_fairest_10 : decode cX8_fairest 10 = .ok (.bipush (-2), 2) := by decide +kernel
theorem dX8_fairest_12 : decode cX8_fairest 12 = .ok (.ireturn, 1) := by decide +kernel
theorem dX8_fairest_13 : decode cX8_fairest 13 = .ok (.aload_n 0, 1) := by decide +kernel
theorem dX8_fairest_14 : decode cX8_fairest 14 = .ok (.getfield 39, 3) := by decide +kernel
theorem dX8_fairest_17 : decode cX8_fairest 17 = .ok (.invokevirtual 144, 3) := by decide +kernel
theorem dX8_fairest_20 : decode cX8_fairest 20 = .ok (.aload_n 0, 1) := by decide +kernel
theorem dX8_fairest_21 : decode cX8_fairest 21 = .ok (.getfield 39, 3) := by decide +kernel
theorem dX8_fairest_24 : decode cX8_fairest 24 = .ok (.getfield 174, 3) := by decide +kernel
theorem dX8_fairest_27 : decode cX8_fairest 27 = .ok (.bipush 8, 2) := by decide +kernel
theorem dX8_fairest_29 : decode cX8_fairest 29 = .ok (.if_icmp .le 8, 3) := by decide +kernel
theorem dX8_fairest_32 : decode cX8_fairest 32 = .ok (.bipush (-2), 2) := by decide +kernel
theorem dX8_fairest_34 : decode cX8_fairest 34 = .ok (.goto 10, 3) := by decide +kernel
theorem dX8_fairest_37 : decode cX8_fairest 37 = .ok (.aload_n 0, 1) := by decide +kernel
theorem dX8_fairest_38 : decode cX8_fairest 38 = .ok (.getfield 48, 3) := by decide +kernel
theorem dX8_fairest_41 : decode cX8_fairest 41 = .ok (.invokevirtual 177, 3) := by decide +kernel
theorem dX8_fairest_44 : decode cX8_fairest 44 = .ok (.ireturn, 1) := by decide +kernel
theorem dX8_bid_0 : decode cX8_bid 0 = .ok (.aload_n 0, 1) := by decide +kernel
theorem dX8_bid_1 : decode cX8_bid 1 = .ok (.getfield 30, 3) := by decide +kernel
theorem dX8_bid_4 : decode cX8_bid 4 = .ok (.iload_n 1, 1) := by decide +kernel
theorem dX8_bid_5 : decode cX8_bid 5 = .ok (.invokevirtual 105, 3) := by decide +kernel
theorem dX8_bid_8 : decode cX8_bid 8 = .ok (.ifCond .ne 5, 3) := by decide +kernel
theorem dX8_bid_11 : decode cX8_bid 11 = .ok (.iconst (-1), 1) := by decide +kernel
theorem dX8_bid_12 : decode cX8_bid 12 = .ok (.ireturn, 1) := by decide +kernel
theorem dX8_bid_13 : decode cX8_bid 13 = .ok (.aload_n 0, 1) := by decide +kernel
theorem dX8_bid_14 : decode cX8_bid 14 = .ok (.getfield 30, 3) := by decide +kernel
theorem dX8_bid_17 : decode cX8_bid 17 = .ok (.getfield 91, 3) := by decide +kernel
theorem dX8_bid_20 : decode cX8_bid 20 = .ok (.ifCond .ne 6, 3) := by decide +kernel
theorem dX8_bid_23 : decode cX8_bid 23 = .ok (.bipush (-2), 2) := by decide +kernel
theorem dX8_bid_25 : decode cX8_bid 25 = .ok (.ireturn, 1) := by decide +kernel
theorem dX8_bid_26 : decode cX8_bid 26 = .ok (.aload_n 0, 1) := by decide +kernel
theorem dX8_bid_27 : decode cX8_bid 27 = .ok (.getfield 30, 3) := by decide +kernel
theorem dX8_bid_30 : decode cX8_bid 30 = .ok (.iload_n 1, 1) := by decide +kernel
theorem dX8_bid_31 : decode cX8_bid 31 = .ok (.invokevirtual 127, 3) := by decide +kernel
theorem dX8_bid_34 : decode cX8_bid 34 = .ok (.ifCond .ne 14, 3) := by decide +kernel
theorem dX8_bid_37 : decode cX8_bid 37 = .ok (.aload_n 0, 1) := by decide +kernel
theorem dX8_bid_38 : decode cX8_bid 38 = .ok (.getfield 30, 3) := by decide +kernel
theorem dX8_bid_41 : decode cX8_bid 41 = .ok (.iload_n 1, 1) := by decide +kernel
theorem dX8_bid_42 : decode cX8_bid 42 = .ok (.invokevirtual 180, 3) := by decide +kernel
theorem dX8_bid_45 : decode cX8_bid 45 = .ok (.goto 5, 3) := by decide +kernel
theorem dX8_bid_48 : decode cX8_bid 48 = .ok (.bipush (-4), 2) := by decide +kernel
theorem dX8_bid_50 : decode cX8_bid 50 = .ok (.ireturn, 1) := by decide +kernel
theorem dX8_settled_0 : decode cX8_settled 0 = .ok (.aload_n 0, 1) := by decide +kernel
theorem dX8_settled_1 : decode cX8_settled 1 = .ok (.getfield 30, 3) := by decide +kernel
theorem dX8_settled_4 : decode cX8_settled 4 = .ok (.iload_n 1, 1) := by decide +kernel
theorem dX8_settled_5 : decode cX8_settled 5 = .ok (.invokevirtual 101, 3) := by decide +kernel
theorem dX8_settled_8 : decode cX8_settled 8 = .ok (.ifCond .ne 6, 3) := by decide +kernel
theorem dX8_settled_11 : decode cX8_settled 11 = .ok (.ldc 183, 2) := by decide +kernel
theorem dX8_settled_13 : decode cX8_settled 13 = .ok (.ireturn, 1) := by decide +kernel
theorem dX8_settled_14 : decode cX8_settled 14 = .ok (.aload_n 0, 1) := by decide +kernel
theorem dX8_settled_15 : decode cX8_settled 15 = .ok (.getfield 39, 3) := by decide +kernel
theorem dX8_settled_18 : decode cX8_settled 18 = .ok (.invokevirtual 144, 3) := by decide +kernel
theorem dX8_settled_21 : decode cX8_settled 21 = .ok (.aload_n 0, 1) := by decide +kernel
theorem dX8_settled_22 : decode cX8_settled 22 = .ok (.getfield 39, 3) := by decide +kernel
theorem dX8_settled_25 : decode cX8_settled 25 = .ok (.invokevirtual 184, 3) := by decide +kernel
theorem dX8_settled_28 : decode cX8_settled 28 = .ok (.iload_n 2, 1) := by decide +kernel
theorem dX8_settled_29 : decode cX8_settled 29 = .ok (.tableswitch 76 0 3 #[31, 41, 50, 59], 31) := by decide +kernel
theorem dX8_settled_60 : decode cX8_settled 60 = .ok (.aload_n 0, 1) := by decide +kernel
theorem dX8_settled_61 : decode cX8_settled 61 = .ok (.getfield 39, 3) := by decide +kernel
theorem dX8_settled_64 : decode cX8_settled 64 = .ok (.iload_n 1, 1) := by decide +kernel
theorem dX8_settled_65 : decode cX8_settled 65 = .ok (.iload_n 1, 1) := by decide +kernel
theorem dX8_settled_66 : decode cX8_settled 66 = .ok (.invokevirtual 165, 3) := by decide +kernel
theorem dX8_settled_69 : decode cX8_settled 69 = .ok (.ireturn, 1) := by decide +kernel
theorem dX8_settled_70 : decode cX8_settled 70 = .ok (.aload_n 0, 1) := by decide +kernel
theorem dX8_settled_71 : decode cX8_settled 71 = .ok (.getfield 39, 3) := by decide +kernel
theorem dX8_settled_74 : decode cX8_settled 74 = .ok (.iload_n 1, 1) := by decide +kernel
theorem dX8_settled_75 : decode cX8_settled 75 = .ok (.invokevirtual 187, 3) := by decide +kernel
theorem dX8_settled_78 : decode cX8_settled 78 = .ok (.ireturn, 1) := by decide +kernel
theorem dX8_settled_79 : decode cX8_settled 79 = .ok (.aload_n 0, 1) := by decide +kernel
theorem dX8_settled_80 : decode cX8_settled 80 = .ok (.getfield 39, 3) := by decide +kernel
theorem dX8_settled_83 : decode cX8_settled 83 = .ok (.iload_n 1, 1) := by decide +kernel
theorem dX8_settled_84 : decode cX8_settled 84 = .ok (.invokevirtual 190, 3) := by decide +kernel
theorem dX8_settled_87 : decode cX8_settled 87 = .ok (.ireturn, 1) := by decide +kernel
theorem dX8_settled_88 : decode cX8_settled 88 = .ok (.aload_n 0, 1) := by decide +kernel
theorem dX8_settled_89 : decode cX8_settled 89 = .ok (.getfield 39, 3) := by decide +kernel
theorem dX8_settled_92 : decode cX8_settled 92 = .ok (.iload_n 1, 1) := by decide +kernel
theorem dX8_settled_93 : decode cX8_settled 93 = .ok (.invokevirtual 190, 3) := by decide +kernel
theorem dX8_settled_96 : decode cX8_settled 96 = .ok (.aload_n 0, 1) := by decide +kernel
theorem dX8_settled_97 : decode cX8_settled 97 = .ok (.getfield 39, 3) := by decide +kernel
theorem dX8_settled_100 : decode cX8_settled 100 = .ok (.invokevirtual 193, 3) := by decide +kernel
theorem dX8_settled_103 : decode cX8_settled 103 = .ok (.isub, 1) := by decide +kernel
theorem dX8_settled_104 : decode cX8_settled 104 = .ok (.ireturn, 1) := by decide +kernel
theorem dX8_settled_105 : decode cX8_settled 105 = .ok (.ldc 183, 2) := by decide +kernel
theorem dX8_settled_107 : decode cX8_settled 107 = .ok (.ireturn, 1) := by decide +kernel
theorem dX8_loads_0 : decode cX8_loads 0 = .ok (.iload_n 1, 1) := by decide +kernel
end
section
theorem dX8_loads_1 : decode cX8_loads 1 = .ok (.iconst 0, 1) := by decide +kernel
theorem dX8_loads_2 : decode cX8_loads 2 = .ok (.iconst 4, 1) := by decide +kernel
theorem dX8_loads_3 : decode cX8_loads 3 = .ok (.invokestatic 83, 3) := by decide +kernel
theorem dX8_loads_6 : decode cX8_loads 6 = .ok (.ifCond .eq 14, 3) := by decide +kernel
theorem dX8_loads_9 : decode cX8_loads 9 = .ok (.aload_n 0, 1) := by decide +kernel
theorem dX8_loads_10 : decode cX8_loads 10 = .ok (.getfield 57, 3) := by decide +kernel
theorem dX8_loads_13 : decode cX8_loads 13 = .ok (.iload_n 1, 1) := by decide +kernel
theorem dX8_loads_14 : decode cX8_loads 14 = .ok (.invokevirtual 196, 3) := by decide +kernel
theorem dX8_loads_17 : decode cX8_loads 17 = .ok (.goto 4, 3) := by decide +kernel
theorem dX8_loads_20 : decode cX8_loads 20 = .ok (.iconst (-1), 1) := by decide +kernel
theorem dX8_loads_21 : decode cX8_loads 21 = .ok (.ireturn, 1) := by decide +kernel
theorem dX8_load_0 : decode cX8_load 0 = .ok (.aload_n 0, 1) := by decide +kernel
theorem dX8_load_1 : decode cX8_load 1 = .ok (.getfield 30, 3) := by decide +kernel
theorem dX8_load_4 : decode cX8_load 4 = .ok (.iload_n 1, 1) := by decide +kernel
theorem dX8_load_5 : decode cX8_load 5 = .ok (.invokevirtual 105, 3) := by decide +kernel
theorem dX8_load_8 : decode cX8_load 8 = .ok (.ifCond .ne 5, 3) := by decide +kernel
theorem dX8_load_11 : decode cX8_load 11 = .ok (.iconst (-1), 1) := by decide +kernel
theorem dX8_load_12 : decode cX8_load 12 = .ok (.ireturn, 1) := by decide +kernel
theorem dX8_load_13 : decode cX8_load 13 = .ok (.aload_n 0, 1) := by decide +kernel
theorem dX8_load_14 : decode cX8_load 14 = .ok (.getfield 57, 3) := by decide +kernel
theorem dX8_load_17 : decode cX8_load 17 = .ok (.aload_n 0, 1) := by decide +kernel
theorem dX8_load_18 : decode cX8_load 18 = .ok (.getfield 30, 3) := by decide +kernel
theorem dX8_load_21 : decode cX8_load 21 = .ok (.iload_n 1, 1) := by decide +kernel
theorem dX8_load_22 : decode cX8_load 22 = .ok (.invokevirtual 127, 3) := by decide +kernel
theorem dX8_load_25 : decode cX8_load 25 = .ok (.invokevirtual 196, 3) := by decide +kernel
theorem dX8_load_28 : decode cX8_load 28 = .ok (.bipush (-4), 2) := by decide +kernel
theorem dX8_load_30 : decode cX8_load 30 = .ok (.if_icmp .ne 8, 3) := by decide +kernel
theorem dX8_load_33 : decode cX8_load 33 = .ok (.bipush (-4), 2) := by decide +kernel
theorem dX8_load_35 : decode cX8_load 35 = .ok (.goto 11, 3) := by decide +kernel
theorem dX8_load_38 : decode cX8_load 38 = .ok (.aload_n 0, 1) := by decide +kernel
theorem dX8_load_39 : decode cX8_load 39 = .ok (.getfield 57, 3) := by decide +kernel
theorem dX8_load_42 : decode cX8_load 42 = .ok (.iload_n 1, 1) := by decide +kernel
theorem dX8_load_43 : decode cX8_load 43 = .ok (.invokevirtual 199, 3) := by decide +kernel
theorem dX8_load_46 : decode cX8_load 46 = .ok (.ireturn, 1) := by decide +kernel
theorem dX8_sheet_0 : decode cX8_sheet 0 = .ok (.iload_n 1, 1) := by decide +kernel
theorem dX8_sheet_1 : decode cX8_sheet 1 = .ok (.iconst 0, 1) := by decide +kernel
theorem dX8_sheet_2 : decode cX8_sheet 2 = .ok (.iconst 3, 1) := by decide +kernel
theorem dX8_sheet_3 : decode cX8_sheet 3 = .ok (.invokestatic 83, 3) := by decide +kernel
theorem dX8_sheet_6 : decode cX8_sheet 6 = .ok (.ifCond .eq 16, 3) := by decide +kernel
theorem dX8_sheet_9 : decode cX8_sheet 9 = .ok (.iload_n 2, 1) := by decide +kernel
theorem dX8_sheet_10 : decode cX8_sheet 10 = .ok (.invokestatic 202, 3) := by decide +kernel
theorem dX8_sheet_13 : decode cX8_sheet 13 = .ok (.ifCond .eq 9, 3) := by decide +kernel
theorem dX8_sheet_16 : decode cX8_sheet 16 = .ok (.iload_n 3, 1) := by decide +kernel
theorem dX8_sheet_17 : decode cX8_sheet 17 = .ok (.bipush 60, 2) := by decide +kernel
theorem dX8_sheet_19 : decode cX8_sheet 19 = .ok (.if_icmp .le 5, 3) := by decide +kernel
theorem dX8_sheet_22 : decode cX8_sheet 22 = .ok (.iconst (-1), 1) := by decide +kernel
theorem dX8_sheet_23 : decode cX8_sheet 23 = .ok (.ireturn, 1) := by decide +kernel
theorem dX8_sheet_24 : decode cX8_sheet 24 = .ok (.iload_n 3, 1) := by decide +kernel
theorem dX8_sheet_25 : decode cX8_sheet 25 = .ok (.ifCond .ge 6, 3) := by decide +kernel
theorem dX8_sheet_28 : decode cX8_sheet 28 = .ok (.bipush (-14), 2) := by decide +kernel
theorem dX8_sheet_30 : decode cX8_sheet 30 = .ok (.ireturn, 1) := by decide +kernel
theorem dX8_sheet_31 : decode cX8_sheet 31 = .ok (.aload_n 0, 1) := by decide +kernel
theorem dX8_sheet_32 : decode cX8_sheet 32 = .ok (.getfield 63, 3) := by decide +kernel
theorem dX8_sheet_35 : decode cX8_sheet 35 = .ok (.iload_n 1, 1) := by decide +kernel
theorem dX8_sheet_36 : decode cX8_sheet 36 = .ok (.aaload, 1) := by decide +kernel
theorem dX8_sheet_37 : decode cX8_sheet 37 = .ok (.iload_n 2, 1) := by decide +kernel
theorem dX8_sheet_38 : decode cX8_sheet 38 = .ok (.iload_n 3, 1) := by decide +kernel
theorem dX8_sheet_39 : decode cX8_sheet 39 = .ok (.invokevirtual 205, 3) := by decide +kernel
theorem dX8_sheet_42 : decode cX8_sheet 42 = .ok (.iconst 1, 1) := by decide +kernel
theorem dX8_sheet_43 : decode cX8_sheet 43 = .ok (.ireturn, 1) := by decide +kernel
theorem dX8_lay_0 : decode cX8_lay 0 = .ok (.iload_n 1, 1) := by decide +kernel
theorem dX8_lay_1 : decode cX8_lay 1 = .ok (.iconst 0, 1) := by decide +kernel
theorem dX8_lay_2 : decode cX8_lay 2 = .ok (.iconst 3, 1) := by decide +kernel
theorem dX8_lay_3 : decode cX8_lay 3 = .ok (.invokestatic 83, 3) := by decide +kernel
theorem dX8_lay_6 : decode cX8_lay 6 = .ok (.ifCond .ne 5, 3) := by decide +kernel
theorem dX8_lay_9 : decode cX8_lay 9 = .ok (.iconst (-1), 1) := by decide +kernel
theorem dX8_lay_10 : decode cX8_lay 10 = .ok (.ireturn, 1) := by decide +kernel
theorem dX8_lay_11 : decode cX8_lay 11 = .ok (.aload_n 0, 1) := by decide +kernel
theorem dX8_lay_12 : decode cX8_lay 12 = .ok (.getfield 63, 3) := by decide +kernel
theorem dX8_lay_15 : decode cX8_lay 15 = .ok (.iload_n 1, 1) := by decide +kernel
theorem dX8_lay_16 : decode cX8_lay 16 = .ok (.aaload, 1) := by decide +kernel
theorem dX8_lay_17 : decode cX8_lay 17 = .ok (.astore 4, 2) := by decide +kernel
theorem dX8_lay_19 : decode cX8_lay 19 = .ok (.aload 4, 2) := by decide +kernel
theorem dX8_lay_21 : decode cX8_lay 21 = .ok (.getfield 209, 3) := by decide +kernel
theorem dX8_lay_24 : decode cX8_lay 24 = .ok (.iconst (-1), 1) := by decide +kernel
theorem dX8_lay_25 : decode cX8_lay 25 = .ok (.if_icmp .ne 6, 3) := by decide +kernel
theorem dX8_lay_28 : decode cX8_lay 28 = .ok (.bipush (-11), 2) := by decide +kernel
theorem dX8_lay_30 : decode cX8_lay 30 = .ok (.ireturn, 1) := by decide +kernel
theorem dX8_lay_31 : decode cX8_lay 31 = .ok (.aload 4, 2) := by decide +kernel
theorem dX8_lay_33 : decode cX8_lay 33 = .ok (.iload_n 2, 1) := by decide +kernel
theorem dX8_lay_34 : decode cX8_lay 34 = .ok (.invokevirtual 212, 3) := by decide +kernel
theorem dX8_lay_37 : decode cX8_lay 37 = .ok (.ifCond .ne 6, 3) := by decide +kernel
theorem dX8_lay_40 : decode cX8_lay 40 = .ok (.bipush (-12), 2) := by decide +kernel
theorem dX8_lay_42 : decode cX8_lay 42 = .ok (.ireturn, 1) := by decide +kernel
theorem dX8_lay_43 : decode cX8_lay 43 = .ok (.aload 4, 2) := by decide +kernel
theorem dX8_lay_45 : decode cX8_lay 45 = .ok (.iload_n 2, 1) := by decide +kernel
theorem dX8_lay_46 : decode cX8_lay 46 = .ok (.iload_n 3, 1) := by decide +kernel
theorem dX8_lay_47 : decode cX8_lay 47 = .ok (.invokevirtual 215, 3) := by decide +kernel
theorem dX8_lay_50 : decode cX8_lay 50 = .ok (.iconst 1, 1) := by decide +kernel
theorem dX8_lay_51 : decode cX8_lay 51 = .ok (.ireturn, 1) := by decide +kernel
theorem dX8_worths_0 : decode cX8_worths 0 = .ok (.aload_n 0, 1) := by decide +kernel
theorem dX8_worths_1 : decode cX8_worths 1 = .ok (.getfield 30, 3) := by decide +kernel
theorem dX8_worths_4 : decode cX8_worths 4 = .ok (.iload_n 1, 1) := by decide +kernel
theorem dX8_worths_5 : decode cX8_worths 5 = .ok (.invokevirtual 101, 3) := by decide +kernel
theorem dX8_worths_8 : decode cX8_worths 8 = .ok (.ifCond .eq 19, 3) := by decide +kernel
theorem dX8_worths_11 : decode cX8_worths 11 = .ok (.iload_n 2, 1) := by decide +kernel
theorem dX8_worths_12 : decode cX8_worths 12 = .ok (.iconst 0, 1) := by decide +kernel
theorem dX8_worths_13 : decode cX8_worths 13 = .ok (.iconst 3, 1) := by decide +kernel
theorem dX8_worths_14 : decode cX8_worths 14 = .ok (.invokestatic 83, 3) := by decide +kernel
theorem dX8_worths_17 : decode cX8_worths 17 = .ok (.ifCond .eq 10, 3) := by decide +kernel
theorem dX8_worths_20 : decode cX8_worths 20 = .ok (.iload_n 3, 1) := by decide +kernel
theorem dX8_worths_21 : decode cX8_worths 21 = .ok (.invokestatic 202, 3) := by decide +kernel
theorem dX8_worths_24 : decode cX8_worths 24 = .ok (.ifCond .ne 5, 3) := by decide +kernel
theorem dX8_worths_27 : decode cX8_worths 27 = .ok (.iconst (-1), 1) := by decide +kernel
theorem dX8_worths_28 : decode cX8_worths 28 = .ok (.ireturn, 1) := by decide +kernel
theorem dX8_worths_29 : decode cX8_worths 29 = .ok (.aload_n 0, 1) := by decide +kernel
theorem dX8_worths_30 : decode cX8_worths 30 = .ok (.getfield 63, 3) := by decide +kernel
theorem dX8_worths_33 : decode cX8_worths 33 = .ok (.iload_n 2, 1) := by decide +kernel
theorem dX8_worths_34 : decode cX8_worths 34 = .ok (.aaload, 1) := by decide +kernel
theorem dX8_worths_35 : decode cX8_worths 35 = .ok (.iload_n 3, 1) := by decide +kernel
theorem dX8_worths_36 : decode cX8_worths 36 = .ok (.iload 4, 2) := by decide +kernel
theorem dX8_worths_38 : decode cX8_worths 38 = .ok (.aload_n 0, 1) := by decide +kernel
theorem dX8_worths_39 : decode cX8_worths 39 = .ok (.getfield 30, 3) := by decide +kernel
theorem dX8_worths_42 : decode cX8_worths 42 = .ok (.getfield 94, 3) := by decide +kernel
theorem dX8_worths_45 : decode cX8_worths 45 = .ok (.invokevirtual 218, 3) := by decide +kernel
theorem dX8_worths_48 : decode cX8_worths 48 = .ok (.istore 5, 2) := by decide +kernel
theorem dX8_worths_50 : decode cX8_worths 50 = .ok (.iload 5, 2) := by decide +kernel
theorem dX8_worths_52 : decode cX8_worths 52 = .ok (.ifCond .eq 8, 3) := by decide +kernel
theorem dX8_worths_55 : decode cX8_worths 55 = .ok (.iload 5, 2) := by decide +kernel
theorem dX8_worths_57 : decode cX8_worths 57 = .ok (.goto 19, 3) := by decide +kernel
theorem dX8_worths_60 : decode cX8_worths 60 = .ok (.aload_n 0, 1) := by decide +kernel
theorem dX8_worths_61 : decode cX8_worths 61 = .ok (.getfield 30, 3) := by decide +kernel
theorem dX8_worths_64 : decode cX8_worths 64 = .ok (.iload_n 1, 1) := by decide +kernel
theorem dX8_worths_65 : decode cX8_worths 65 = .ok (.aload_n 0, 1) := by decide +kernel
theorem dX8_worths_66 : decode cX8_worths 66 = .ok (.getfield 63, 3) := by decide +kernel
theorem dX8_worths_69 : decode cX8_worths 69 = .ok (.iload_n 2, 1) := by decide +kernel
theorem dX8_worths_70 : decode cX8_worths 70 = .ok (.aaload, 1) := by decide +kernel
theorem dX8_worths_71 : decode cX8_worths 71 = .ok (.iload 4, 2) := by decide +kernel
theorem dX8_worths_73 : decode cX8_worths 73 = .ok (.invokevirtual 222, 3) := by decide +kernel
theorem dX8_worths_76 : decode cX8_worths 76 = .ok (.ireturn, 1) := by decide +kernel
theorem dX8_count_0 : decode cX8_count 0 = .ok (.iload_n 1, 1) := by decide +kernel
theorem dX8_count_1 : decode cX8_count 1 = .ok (.tableswitch 64 0 3 #[31, 39, 47, 55], 31) := by decide +kernel
theorem dX8_count_32 : decode cX8_count 32 = .ok (.aload_n 0, 1) := by decide +kernel
theorem dX8_count_33 : decode cX8_count 33 = .ok (.getfield 30, 3) := by decide +kernel
theorem dX8_count_36 : decode cX8_count 36 = .ok (.getfield 91, 3) := by decide +kernel
theorem dX8_count_39 : decode cX8_count 39 = .ok (.ireturn, 1) := by decide +kernel
theorem dX8_count_40 : decode cX8_count 40 = .ok (.aload_n 0, 1) := by decide +kernel
theorem dX8_count_41 : decode cX8_count 41 = .ok (.getfield 30, 3) := by decide +kernel
theorem dX8_count_44 : decode cX8_count 44 = .ok (.getfield 94, 3) := by decide +kernel
theorem dX8_count_47 : decode cX8_count 47 = .ok (.ireturn, 1) := by decide +kernel
theorem dX8_count_48 : decode cX8_count 48 = .ok (.aload_n 0, 1) := by decide +kernel
theorem dX8_count_49 : decode cX8_count 49 = .ok (.getfield 21, 3) := by decide +kernel
theorem dX8_count_52 : decode cX8_count 52 = .ok (.getfield 226, 3) := by decide +kernel
theorem dX8_count_55 : decode cX8_count 55 = .ok (.ireturn, 1) := by decide +kernel
theorem dX8_count_56 : decode cX8_count 56 = .ok (.aload_n 0, 1) := by decide +kernel
theorem dX8_count_57 : decode cX8_count 57 = .ok (.getfield 30, 3) := by decide +kernel
theorem dX8_count_60 : decode cX8_count 60 = .ok (.iconst 0, 1) := by decide +kernel
theorem dX8_count_61 : decode cX8_count 61 = .ok (.invokevirtual 131, 3) := by decide +kernel
theorem dX8_count_64 : decode cX8_count 64 = .ok (.ireturn, 1) := by decide +kernel
theorem dX8_count_65 : decode cX8_count 65 = .ok (.iconst (-1), 1) := by decide +kernel
theorem dX8_count_66 : decode cX8_count 66 = .ok (.ireturn, 1) := by decide +kernel
theorem dX8_isWithin_0 : decode cX8_isWithin 0 = .ok (.iload_n 0, 1) := by decide +kernel
theorem dX8_isWithin_1 : decode cX8_isWithin 1 = .ok (.iload_n 1, 1) := by decide +kernel
theorem dX8_isWithin_2 : decode cX8_isWithin 2 = .ok (.if_icmp .lt 12, 3) := by decide +kernel
theorem dX8_isWithin_5 : decode cX8_isWithin 5 = .ok (.iload_n 0, 1) := by decide +kernel
theorem dX8_isWithin_6 : decode cX8_isWithin 6 = .ok (.iload_n 2, 1) := by decide +kernel
theorem dX8_isWithin_7 : decode cX8_isWithin 7 = .ok (.if_icmp .gt 7, 3) := by decide +kernel
theorem dX8_isWithin_10 : decode cX8_isWithin 10 = .ok (.iconst 1, 1) := by decide +kernel
theorem dX8_isWithin_11 : decode cX8_isWithin 11 = .ok (.goto 4, 3) := by decide +kernel
theorem dX8_isWithin_14 : decode cX8_isWithin 14 = .ok (.iconst 0, 1) := by decide +kernel
theorem dX8_isWithin_15 : decode cX8_isWithin 15 = .ok (.ireturn, 1) := by decide +kernel
theorem dX8_isRule_0 : decode cX8_isRule 0 = .ok (.iload_n 0, 1) := by decide +kernel
theorem dX8_isRule_1 : decode cX8_isRule 1 = .ok (.ifCond .eq 8, 3) := by decide +kernel
theorem dX8_isRule_4 : decode cX8_isRule 4 = .ok (.iload_n 0, 1) := by decide +kernel
theorem dX8_isRule_5 : decode cX8_isRule 5 = .ok (.iconst 1, 1) := by decide +kernel
theorem dX8_isRule_6 : decode cX8_isRule 6 = .ok (.if_icmp .ne 7, 3) := by decide +kernel
theorem dX8_isRule_9 : decode cX8_isRule 9 = .ok (.iconst 1, 1) := by decide +kernel
theorem dX8_isRule_10 : decode cX8_isRule 10 = .ok (.goto 4, 3) := by decide +kernel
theorem dX8_isRule_13 : decode cX8_isRule 13 = .ok (.iconst 0, 1) := by decide +kernel
theorem dX8_isRule_14 : decode cX8_isRule 14 = .ok (.ireturn, 1) := by decide +kernel
theorem dX8_isLane_0 : decode cX8_isLane 0 = .ok (.iload_n 0, 1) := by decide +kernel
theorem dX8_isLane_1 : decode cX8_isLane 1 = .ok (.iconst 0, 1) := by decide +kernel
theorem dX8_isLane_2 : decode cX8_isLane 2 = .ok (.iconst 2, 1) := by decide +kernel
theorem dX8_isLane_3 : decode cX8_isLane 3 = .ok (.invokestatic 83, 3) := by decide +kernel
theorem dX8_isLane_6 : decode cX8_isLane 6 = .ok (.ireturn, 1) := by decide +kernel
end
section
set_option maxRecDepth 20000 in
theorem ggX0_bestNumber_X1_keenest : GoodIn wsX0_bestNumber wsX1_keenest := goodIn_r _ [20, 21, 22, 48, 49, 50, 51, 52, 53, 54, 55, 56] (by decide +kernel) (by decide +kernel)
set_option maxRecDepth 20000 in
theorem gX0_bestNumber_X1_keenest : GoodIn wsX0_bestNumber (wsV RX0 45 RX1 yX1_keenest wsX1_keenest) := goodIn_app (goodIn_of _ (by decide +kernel)) ggX0_bestNumber_X1_keenest
set_option maxRecDepth 20000 in
theorem ggX0_bestNumber_X0_seek : GoodIn wsX0_bestNumber wsX0_seek := goodIn_r _ [26, 9, 10, 11, 1, 3, 5, 7, 6, 27, 28, 29, 30, 25, 31, 4, 8, 32, 33, 34, 35, 12, 13, 14, 15, 23, 24, 36, 37, 38, 39, 40, 41, 42, 43, 44, 45, 46, 47, 48, 49, 50, 51, 52, 53, 54, 55, 56] (by decide +kernel) (by decide +kernel)
set_option maxRecDepth 20000 in
theorem gX0_bestNumber_X0_seek : GoodIn wsX0_bestNumber (va_wsS RX0 67 yX0_seek wsX0_seek) := goodIn_app (goodIn_of _ (by decide +kernel)) ggX0_bestNumber_X0_seek
set_option maxRecDepth 20000 in
theorem ggX0_seek_X0_mayBeBetter : GoodIn wsX0_seek wsX0_mayBeBetter := goodIn_r _ [14, 15, 2, 1, 6, 7, 9, 16, 27, 28, 29, 30, 31, 32, 33, 34, 39, 40, 41, 42, 43, 44, 45, 46, 47] (by decide +kernel) (by decide +kernel)
set_option maxRecDepth 20000 in
theorem gX0_seek_X0_mayBeBetter : GoodIn wsX0_seek (wsV RX0 71 RX0 yX0_mayBeBetter wsX0_mayBeBetter) := goodIn_app (goodIn_of _ (by decide +kernel)) ggX0_seek_X0_mayBeBetter
set_option maxRecDepth 20000 in
theorem ggX0_seek_X0_leastSum : GoodIn wsX0_seek wsX0_leastSum := goodIn_r _ [20, 9, 6, 7, 21, 22, 23, 24, 27, 28, 29, 30, 31, 32, 33, 34, 39, 40, 41, 42, 43, 44, 45, 46, 47] (by decide +kernel) (by decide +kernel)
set_option maxRecDepth 20000 in
theorem gX0_seek_X0_leastSum : GoodIn wsX0_seek (wsV RX0 75 RX0 yX0_leastSum wsX0_leastSum) := goodIn_app (goodIn_of _ (by decide +kernel)) ggX0_seek_X0_leastSum
set_option maxRecDepth 20000 in
theorem ggX0_seek_X0_seek : GoodIn wsX0_seek wsX0_seek := goodIn_r _ [0, 1, 2, 3, 4, 5, 6, 7, 8, 9, 10, 11, 12, 13, 14, 15, 16, 17, 18, 19, 20, 21, 22, 23, 24, 25, 26, 27, 28, 29, 30, 31, 32, 33, 34, 35, 36, 37, 38, 39, 40, 41, 42, 43, 44, 45, 46, 47] (by decide +kernel) (by decide +kernel)
set_option maxRecDepth 20000 in
theorem gX0_seek_X0_seek : GoodIn wsX0_seek (va_wsS RX0 67 yX0_seek wsX0_seek) := goodIn_app (goodIn_of _ (by decide +kernel)) ggX0_seek_X0_seek
end
section
set_option maxRecDepth 20000 in
theorem ggX1_wayOf_X1_hasMark : GoodIn wsX1_wayOf wsX1_hasMark := goodIn_r _ [8, 9, 21, 22, 23, 24, 25, 26, 27, 28, 29] (by decide +kernel) (by decide +kernel)
set_option maxRecDepth 20000 in
theorem gX1_wayOf_X1_hasMark : GoodIn wsX1_wayOf (wsV RX1 43 RX1 yX1_hasMark wsX1_hasMark) := goodIn_app (goodIn_of _ (by decide +kernel)) ggX1_wayOf_X1_hasMark
set_option maxRecDepth 20000 in
theorem ggX1_wayOf_X1_isKeptPaper : GoodIn wsX1_wayOf wsX1_isKeptPaper := goodIn_r _ [13, 14, 1, 2, 4, 5, 6, 7, 8, 9, 21, 22, 23, 24, 25, 26, 27, 28, 29, 30, 31, 32, 33, 34, 35] (by decide +kernel) (by decide +kernel)
set_option maxRecDepth 20000 in
theorem gX1_wayOf_X1_isKeptPaper : GoodIn wsX1_wayOf (wsV RX1 52 RX1 yX1_isKeptPaper wsX1_isKeptPaper) := goodIn_app (goodIn_of _ (by decide +kernel)) ggX1_wayOf_X1_isKeptPaper
set_option maxRecDepth 20000 in
theorem ggX1_wayOf_X1_isWanted : GoodIn wsX1_wayOf wsX1_isWanted := goodIn_r _ [18, 19, 20, 21, 22, 23, 24, 25, 26, 27, 28, 29] (by decide +kernel) (by decide +kernel)
set_option maxRecDepth 20000 in
theorem gX1_wayOf_X1_isWanted : GoodIn wsX1_wayOf (wsV RX1 56 RX1 yX1_isWanted wsX1_isWanted) := goodIn_app (goodIn_of _ (by decide +kernel)) ggX1_wayOf_X1_isWanted
set_option maxRecDepth 20000 in
theorem ggX1_isKeptPaper_X1_hasMark : GoodIn wsX1_isKeptPaper wsX1_hasMark := goodIn_r _ [8, 9, 10, 11, 12, 13, 14, 15, 16, 17, 18] (by decide +kernel) (by decide +kernel)
set_option maxRecDepth 20000 in
theorem gX1_isKeptPaper_X1_hasMark : GoodIn wsX1_isKeptPaper (wsV RX1 43 RX1 yX1_hasMark wsX1_hasMark) := goodIn_app (goodIn_of _ (by decide +kernel)) ggX1_isKeptPaper_X1_hasMark
set_option maxRecDepth 20000 in
theorem ggX1_countOnWay_X1_wayOf : GoodIn wsX1_countOnWay wsX1_wayOf := goodIn_r _ [6, 7, 8, 9, 10, 11, 12, 5, 13, 14, 15, 16, 17, 18, 19, 20, 21, 22, 23, 24, 25, 26, 27, 28, 29, 30, 31, 32, 33, 34, 35, 36, 37, 38, 39, 40] (by decide +kernel) (by decide +kernel)
set_option maxRecDepth 20000 in
theorem gX1_countOnWay_X1_wayOf : GoodIn wsX1_countOnWay (wsV RX1 59 RX1 yX1_wayOf wsX1_wayOf) := goodIn_app (goodIn_of _ (by decide +kernel)) ggX1_countOnWay_X1_wayOf
set_option maxRecDepth 20000 in
theorem ggX1_sumOnWay_X1_wayOf : GoodIn wsX1_sumOnWay wsX1_wayOf := goodIn_r _ [6, 7, 8, 9, 10, 11, 12, 5, 13, 14, 15, 16, 17, 18, 19, 20, 21, 22, 23, 24, 25, 26, 27, 28, 29, 30, 31, 32, 33, 34, 35, 36, 37, 38, 39, 40] (by decide +kernel) (by decide +kernel)
set_option maxRecDepth 20000 in
theorem gX1_sumOnWay_X1_wayOf : GoodIn wsX1_sumOnWay (wsV RX1 59 RX1 yX1_wayOf wsX1_wayOf) := goodIn_app (goodIn_of _ (by decide +kernel)) ggX1_sumOnWay_X1_wayOf
set_option maxRecDepth 20000 in
theorem ggX1_secondLook_X1_hasMark : GoodIn wsX1_secondLook wsX1_hasMark := goodIn_r _ [13, 14, 20, 21, 22, 23, 24, 25, 26, 27, 28] (by decide +kernel) (by decide +kernel)
set_option maxRecDepth 20000 in
theorem gX1_secondLook_X1_hasMark : GoodIn wsX1_secondLook (wsV RX1 43 RX1 yX1_hasMark wsX1_hasMark) := goodIn_app (goodIn_of _ (by decide +kernel)) ggX1_secondLook_X1_hasMark
set_option maxRecDepth 20000 in
theorem ggX1_secondLook_X1_isKeptPaper : GoodIn wsX1_secondLook wsX1_isKeptPaper := goodIn_r _ [18, 19, 1, 2, 9, 10, 11, 12, 13, 14, 20, 21, 22, 23, 24, 25, 26, 27, 28, 29, 30, 31, 32, 33, 34] (by decide +kernel) (by decide +kernel)
set_option maxRecDepth 20000 in
theorem gX1_secondLook_X1_isKeptPaper : GoodIn wsX1_secondLook (wsV RX1 52 RX1 yX1_isKeptPaper wsX1_isKeptPaper) := goodIn_app (goodIn_of _ (by decide +kernel)) ggX1_secondLook_X1_isKeptPaper
end
section
set_option maxRecDepth 20000 in
theorem ggX2_init_X6_init : GoodIn wsX2_init wsX6_init := goodIn_r _ [19, 20, 2, 3, 21, 28, 29, 30, 31, 32] (by decide +kernel) (by decide +kernel)
set_option maxRecDepth 20000 in
theorem gX2_init_X6_init : GoodIn wsX2_init (wsX6_init) := ggX2_init_X6_init
set_option maxRecDepth 20000 in
theorem ggX2_readTape_X6_rewind : GoodIn wsX2_readTape wsX6_rewind := goodIn_r _ [17, 18, 127, 128, 129, 130, 131] (by decide +kernel) (by decide +kernel)
set_option maxRecDepth 20000 in
theorem gX2_readTape_X6_rewind : GoodIn wsX2_readTape (wsV RX2 35 RX6 yX6_rewind wsX6_rewind) := goodIn_app (goodIn_of _ (by decide +kernel)) ggX2_readTape_X6_rewind
set_option maxRecDepth 20000 in
theorem ggX2_readTape_X6_advance : GoodIn wsX2_readTape wsX6_advance := goodIn_r _ [22, 18, 23, 24, 25, 26, 27, 28, 29, 16, 30, 31, 32, 33, 34, 35, 36, 37, 38, 39, 40, 41, 42, 43, 44, 45, 46, 47, 48, 49, 50, 51, 52, 53, 54, 55, 56, 57, 58, 59, 60, 61, 62, 63, 64, 65, 66, 67, 68, 69, 70, 71, 72, 73, 74, 75, 76, 77, 78, 79, 80, 81, 82, 83, 84, 85, 86, 87, 88, 89, 90, 91, 92, 127, 128, 129, 130, 131, 132, 133] (by decide +kernel) (by decide +kernel)
set_option maxRecDepth 20000 in
theorem gX2_readTape_X6_advance : GoodIn wsX2_readTape (wsV RX2 51 RX6 yX6_advance wsX6_advance) := goodIn_app (goodIn_of _ (by decide +kernel)) ggX2_readTape_X6_advance
set_option maxRecDepth 20000 in
theorem ggX2_readTape_X2_readLaw : GoodIn wsX2_readTape wsX2_readLaw := goodIn_r _ [97, 1, 9, 98, 7, 99, 100, 101, 96, 102, 19, 20, 21, 16, 22, 18, 23, 24, 25, 26, 27, 28, 29, 30, 31, 32, 33, 34, 35, 36, 37, 38, 39, 40, 41, 42, 43, 44, 45, 46, 47, 48, 49, 50, 51, 52, 53, 54, 55, 56, 57, 58, 59, 60, 61, 62, 63, 64, 65, 66, 67, 68, 69, 70, 71, 72, 73, 74, 75, 76, 77, 78, 79, 80, 81, 82, 83, 84, 85, 86, 87, 88, 89, 90, 91, 92, 103, 104, 105, 106, 2, 107, 108, 109, 110, 111, 112, 113, 121, 122, 123, 124, 125, 126, 127, 128, 129, 130, 131, 132, 133] (by decide +kernel) (by decide +kernel)
set_option maxRecDepth 20000 in
theorem gX2_readTape_X2_readLaw : GoodIn wsX2_readTape (wsV RX2 57 RX2 yX2_readLaw wsX2_readLaw) := goodIn_app (goodIn_of _ (by decide +kernel)) ggX2_readTape_X2_readLaw
set_option maxRecDepth 20000 in
theorem ggX2_readTape_J6_bitCount_0f7a4 : GoodIn wsX2_readTape wsJ6_bitCount_0f7a4 := goodIn_r _ [117, 118, 119, 120] (by decide +kernel) (by decide +kernel)
set_option maxRecDepth 20000 in
theorem gX2_readTape_J6_bitCount_0f7a4 : GoodIn wsX2_readTape (va_wsS RX2 64 yJ6_bitCount_0f7a4 wsJ6_bitCount_0f7a4) := goodIn_app (goodIn_of _ (by decide +kernel)) ggX2_readTape_J6_bitCount_0f7a4
set_option maxRecDepth 20000 in
theorem ggX2_readLaw_X2_misfit : GoodIn wsX2_readLaw wsX2_misfit := goodIn_r _ [9, 1, 2, 98, 99, 100, 101, 102, 103, 104, 105, 106, 107, 108] (by decide +kernel) (by decide +kernel)
set_option maxRecDepth 20000 in
theorem gX2_readLaw_X2_misfit : GoodIn wsX2_readLaw (wsV RX2 75 RX2 yX2_misfit wsX2_misfit) := goodIn_app (goodIn_of _ (by decide +kernel)) ggX2_readLaw_X2_misfit
set_option maxRecDepth 20000 in
theorem ggX2_readLaw_X6_advance : GoodIn wsX2_readLaw wsX6_advance := goodIn_r _ [14, 15, 16, 17, 18, 19, 20, 21, 22, 13, 23, 24, 25, 26, 27, 28, 29, 30, 31, 32, 33, 34, 35, 36, 37, 38, 39, 40, 41, 42, 43, 44, 45, 46, 47, 48, 49, 50, 51, 52, 53, 54, 55, 56, 57, 58, 59, 60, 61, 62, 63, 64, 65, 66, 67, 68, 69, 70, 71, 72, 73, 74, 75, 76, 77, 78, 79, 80, 81, 82, 83, 84, 85, 104, 105, 106, 107, 108, 109, 110] (by decide +kernel) (by decide +kernel)
set_option maxRecDepth 20000 in
theorem gX2_readLaw_X6_advance : GoodIn wsX2_readLaw (wsV RX2 51 RX6 yX6_advance wsX6_advance) := goodIn_app (goodIn_of _ (by decide +kernel)) ggX2_readLaw_X6_advance
set_option maxRecDepth 20000 in
theorem ggX2_readLaw_X2_readAmount : GoodIn wsX2_readLaw wsX2_readAmount := goodIn_r _ [89, 1, 2, 3, 90, 5, 6, 7, 8, 9, 91, 92, 93, 98, 99, 100, 101, 102, 103, 104, 105, 106, 107, 108] (by decide +kernel) (by decide +kernel)
set_option maxRecDepth 20000 in
theorem gX2_readLaw_X2_readAmount : GoodIn wsX2_readLaw (wsV RX2 78 RX2 yX2_readAmount wsX2_readAmount) := goodIn_app (goodIn_of _ (by decide +kernel)) ggX2_readLaw_X2_readAmount
set_option maxRecDepth 20000 in
theorem ggX2_readLaw_X2_readWay : GoodIn wsX2_readLaw wsX2_readWay := goodIn_r _ [97, 1, 2, 3, 90, 5, 6, 7, 8, 9, 98, 99, 100, 101, 102, 103, 104, 105, 106, 107, 108] (by decide +kernel) (by decide +kernel)
set_option maxRecDepth 20000 in
theorem gX2_readLaw_X2_readWay : GoodIn wsX2_readLaw (wsV RX2 81 RX2 yX2_readWay wsX2_readWay) := goodIn_app (goodIn_of _ (by decide +kernel)) ggX2_readLaw_X2_readWay
set_option maxRecDepth 20000 in
theorem ggX2_readAmount_X2_misfit : GoodIn wsX2_readAmount wsX2_misfit := goodIn_r _ [9, 1, 2, 13, 14, 15, 16, 17, 18, 19, 20, 21, 22, 23] (by decide +kernel) (by decide +kernel)
set_option maxRecDepth 20000 in
theorem gX2_readAmount_X2_misfit : GoodIn wsX2_readAmount (wsV RX2 75 RX2 yX2_misfit wsX2_misfit) := goodIn_app (goodIn_of _ (by decide +kernel)) ggX2_readAmount_X2_misfit
set_option maxRecDepth 20000 in
theorem ggX2_readAmount_X8_isWithin : GoodIn wsX2_readAmount wsX8_isWithin := goodIn_r _ [12] (by decide +kernel) (by decide +kernel)
set_option maxRecDepth 20000 in
theorem gX2_readAmount_X8_isWithin_n90 : GoodIn wsX2_readAmount (wsX8_isWithin) := ggX2_readAmount_X8_isWithin
set_option maxRecDepth 20000 in
theorem ggX2_readWay_X2_misfit : GoodIn wsX2_readWay wsX2_misfit := goodIn_r _ [9, 1, 2, 10, 11, 12, 13, 14, 15, 16, 17, 18, 19, 20] (by decide +kernel) (by decide +kernel)
set_option maxRecDepth 20000 in
theorem gX2_readWay_X2_misfit : GoodIn wsX2_readWay (wsV RX2 75 RX2 yX2_misfit wsX2_misfit) := goodIn_app (goodIn_of _ (by decide +kernel)) ggX2_readWay_X2_misfit
end
section
set_option maxRecDepth 20000 in
theorem ggX3_gather_X1_wayOf : GoodIn wsX3_gather wsX1_wayOf := goodIn_r _ [9, 10, 11, 12, 13, 14, 15, 8, 16, 17, 18, 19, 20, 21, 22, 23, 24, 25, 26, 27, 28, 33, 34, 35, 36, 37, 38, 39, 40, 41, 42, 43, 44, 45, 46, 47] (by decide +kernel) (by decide +kernel)
set_option maxRecDepth 20000 in
theorem gX3_gather_X1_wayOf : GoodIn wsX3_gather (wsV RX3 31 RX1 yX1_wayOf wsX1_wayOf) := goodIn_app (goodIn_of _ (by decide +kernel)) ggX3_gather_X1_wayOf
set_option maxRecDepth 20000 in
theorem ggX3_readNumber_X3_gather : GoodIn wsX3_readNumber wsX3_gather := goodIn_r _ [9, 1, 2, 10, 11, 12, 13, 14, 15, 16, 17, 18, 19, 20, 21, 22, 23, 24, 25, 26, 27, 28, 29, 30, 31, 32, 33, 34, 35, 36, 37, 38, 39, 40, 41, 42, 43, 44, 45, 46, 47, 48, 49, 50, 51, 52, 53, 54] (by decide +kernel) (by decide +kernel)
set_option maxRecDepth 20000 in
theorem gX3_readNumber_X3_gather : GoodIn wsX3_readNumber (wsV RX3 38 RX3 yX3_gather wsX3_gather) := goodIn_app (goodIn_of _ (by decide +kernel)) ggX3_readNumber_X3_gather
set_option maxRecDepth 20000 in
theorem ggX3_takeTurns_X3_takeTurnsWithLie : GoodIn wsX3_takeTurns wsX3_takeTurnsWithLie := goodIn_r _ [5, 6, 7, 8, 9, 10, 11, 12, 13, 4, 14, 15, 16, 17, 18, 19, 20, 21, 22, 23, 24, 25, 26, 27, 28, 29, 30, 31, 32] (by decide +kernel) (by decide +kernel)
set_option maxRecDepth 20000 in
theorem gX3_takeTurns_X3_takeTurnsWithLie : GoodIn wsX3_takeTurns (wsV RX3 41 RX3 yX3_takeTurnsWithLie wsX3_takeTurnsWithLie) := goodIn_app (goodIn_of _ (by decide +kernel)) ggX3_takeTurns_X3_takeTurnsWithLie
set_option maxRecDepth 20000 in
theorem ggX3_takeTurnsWithLie_X3_heirAtTurn : GoodIn wsX3_takeTurnsWithLie wsX3_heirAtTurn := goodIn_r _ [10, 4, 11, 12, 13, 14, 15, 16, 17, 18, 19, 20, 21, 22, 23, 24, 25, 26, 27, 28] (by decide +kernel) (by decide +kernel)
set_option maxRecDepth 20000 in
theorem gX3_takeTurnsWithLie_X3_heirAtTurn : GoodIn wsX3_takeTurnsWithLie (wsV RX3 45 RX3 yX3_heirAtTurn wsX3_heirAtTurn) := goodIn_app (goodIn_of _ (by decide +kernel)) ggX3_takeTurnsWithLie_X3_heirAtTurn
set_option maxRecDepth 20000 in
theorem ggX3_mostByLying_X3_takeTurns : GoodIn wsX3_mostByLying wsX3_takeTurns := goodIn_r _ [11, 12, 13, 14, 10, 15, 1, 16, 2, 17, 18, 19, 20, 21, 22, 23, 3, 4, 5, 6, 32, 33, 34, 35, 36, 37, 38, 39, 40, 41, 42, 43, 44] (by decide +kernel) (by decide +kernel)
set_option maxRecDepth 20000 in
theorem gX3_mostByLying_X3_takeTurns : GoodIn wsX3_mostByLying (wsV RX3 58 RX3 yX3_takeTurns wsX3_takeTurns) := goodIn_app (goodIn_of _ (by decide +kernel)) ggX3_mostByLying_X3_takeTurns
set_option maxRecDepth 20000 in
theorem ggX3_mostByLying_X3_sumOf : GoodIn wsX3_mostByLying wsX3_sumOf := goodIn_r _ [27, 1, 16, 17, 18, 2, 32, 33, 34, 35, 36, 37, 38, 39, 40, 41, 42, 43, 44] (by decide +kernel) (by decide +kernel)
set_option maxRecDepth 20000 in
theorem gX3_mostByLying_X3_sumOf : GoodIn wsX3_mostByLying (wsV RX3 62 RX3 yX3_sumOf wsX3_sumOf) := goodIn_app (goodIn_of _ (by decide +kernel)) ggX3_mostByLying_X3_sumOf
set_option maxRecDepth 20000 in
theorem ggX3_mostByLying_X3_changesOrder : GoodIn wsX3_mostByLying wsX3_changesOrder := goodIn_r _ [31, 1, 17, 18, 2, 32, 33, 34, 35, 36, 37, 38, 39, 40, 41, 42, 43, 44] (by decide +kernel) (by decide +kernel)
set_option maxRecDepth 20000 in
theorem gX3_mostByLying_X3_changesOrder : GoodIn wsX3_mostByLying (wsV RX3 65 RX3 yX3_changesOrder wsX3_changesOrder) := goodIn_app (goodIn_of _ (by decide +kernel)) ggX3_mostByLying_X3_changesOrder
set_option maxRecDepth 20000 in
theorem ggX3_mostByLying_X3_takeTurnsWithLie : GoodIn wsX3_mostByLying wsX3_takeTurnsWithLie := goodIn_r _ [15, 1, 16, 2, 17, 18, 19, 20, 21, 10, 22, 23, 3, 4, 5, 6, 32, 33, 34, 35, 36, 37, 38, 39, 40, 41, 42, 43, 44] (by decide +kernel) (by decide +kernel)
set_option maxRecDepth 20000 in
theorem gX3_mostByLying_X3_takeTurnsWithLie : GoodIn wsX3_mostByLying (wsV RX3 41 RX3 yX3_takeTurnsWithLie wsX3_takeTurnsWithLie) := goodIn_app (goodIn_of _ (by decide +kernel)) ggX3_mostByLying_X3_takeTurnsWithLie
set_option maxRecDepth 20000 in
theorem ggX3_envyOf_X3_sumOf : GoodIn wsX3_envyOf wsX3_sumOf := goodIn_r _ [5, 6, 7, 8, 9, 10, 19, 20, 21, 22, 23, 24, 25, 26, 27, 28, 29, 30, 31] (by decide +kernel) (by decide +kernel)
set_option maxRecDepth 20000 in
theorem gX3_envyOf_X3_sumOf : GoodIn wsX3_envyOf (wsV RX3 62 RX3 yX3_sumOf wsX3_sumOf) := goodIn_app (goodIn_of _ (by decide +kernel)) ggX3_envyOf_X3_sumOf
set_option maxRecDepth 20000 in
theorem ggX3_envyOf_X3_greatestOf : GoodIn wsX3_envyOf wsX3_greatestOf := goodIn_r _ [14, 6, 7, 8, 9, 10, 15, 16, 17, 18, 19, 20, 21, 22, 23, 24, 25, 26, 27, 28, 29, 30, 31] (by decide +kernel) (by decide +kernel)
set_option maxRecDepth 20000 in
theorem gX3_envyOf_X3_greatestOf : GoodIn wsX3_envyOf (wsV RX3 69 RX3 yX3_greatestOf wsX3_greatestOf) := goodIn_app (goodIn_of _ (by decide +kernel)) ggX3_envyOf_X3_greatestOf
set_option maxRecDepth 20000 in
theorem ggX3_envyPairs_X3_envyOf : GoodIn wsX3_envyPairs wsX3_envyOf := goodIn_r _ [7, 8, 9, 10, 6, 11, 12, 13, 1, 14, 15, 16, 17, 18, 19, 20, 21, 22, 23, 24, 25, 26, 27, 28, 29, 30, 31, 32, 33, 34, 35, 36] (by decide +kernel) (by decide +kernel)
set_option maxRecDepth 20000 in
theorem gX3_envyPairs_X3_envyOf : GoodIn wsX3_envyPairs (wsV RX3 72 RX3 yX3_envyOf wsX3_envyOf) := goodIn_app (goodIn_of _ (by decide +kernel)) ggX3_envyPairs_X3_envyOf
set_option maxRecDepth 20000 in
theorem ggX3_giveToKeenest_X1_keenest : GoodIn wsX3_giveToKeenest wsX1_keenest := goodIn_r _ [9, 10, 11, 16, 17, 18, 19, 20, 21, 22, 23, 24] (by decide +kernel) (by decide +kernel)
set_option maxRecDepth 20000 in
theorem gX3_giveToKeenest_X1_keenest : GoodIn wsX3_giveToKeenest (wsV RX3 75 RX1 yX1_keenest wsX1_keenest) := goodIn_app (goodIn_of _ (by decide +kernel)) ggX3_giveToKeenest_X1_keenest
set_option maxRecDepth 20000 in
theorem ggX3_paymentOf_X3_sumOf : GoodIn wsX3_paymentOf wsX3_sumOf := goodIn_r _ [5, 6, 7, 8, 9, 10, 20, 21, 22, 23, 24, 25, 26, 27, 28, 29, 30, 31, 32] (by decide +kernel) (by decide +kernel)
set_option maxRecDepth 20000 in
theorem gX3_paymentOf_X3_sumOf : GoodIn wsX3_paymentOf (wsV RX3 62 RX3 yX3_sumOf wsX3_sumOf) := goodIn_app (goodIn_of _ (by decide +kernel)) ggX3_paymentOf_X3_sumOf
set_option maxRecDepth 20000 in
theorem ggX3_paymentOf_X3_claimOf : GoodIn wsX3_paymentOf wsX3_claimOf := goodIn_r _ [14, 6, 8, 9, 10, 15, 16, 17, 18, 19, 20, 21, 22, 23, 24, 25, 26, 27, 28, 29, 30, 31, 32] (by decide +kernel) (by decide +kernel)
set_option maxRecDepth 20000 in
theorem gX3_paymentOf_X3_claimOf : GoodIn wsX3_paymentOf (wsV RX3 78 RX3 yX3_claimOf wsX3_claimOf) := goodIn_app (goodIn_of _ (by decide +kernel)) ggX3_paymentOf_X3_claimOf
set_option maxRecDepth 20000 in
theorem ggX3_partOfRest_X3_paymentOf : GoodIn wsX3_partOfRest wsX3_paymentOf := goodIn_r _ [11, 12, 13, 14, 10, 15, 16, 17, 1, 18, 19, 20, 21, 22, 23, 2, 3, 4, 5, 6, 24, 25, 26, 27, 28, 29, 30, 31, 32, 33, 34, 35, 36] (by decide +kernel) (by decide +kernel)
set_option maxRecDepth 20000 in
theorem gX3_partOfRest_X3_paymentOf : GoodIn wsX3_partOfRest (wsV RX3 81 RX3 yX3_paymentOf wsX3_paymentOf) := goodIn_app (goodIn_of _ (by decide +kernel)) ggX3_partOfRest_X3_paymentOf
end
section
set_option maxRecDepth 20000 in
theorem ggX4_refusal_X4_hasCell : GoodIn wsX4_refusal wsX4_hasCell := goodIn_r _ [7, 8, 12, 13, 14] (by decide +kernel) (by decide +kernel)
set_option maxRecDepth 20000 in
theorem gX4_refusal_X4_hasCell : GoodIn wsX4_refusal (wsV RX4 22 RX4 yX4_hasCell wsX4_hasCell) := goodIn_app (goodIn_of _ (by decide +kernel)) ggX4_refusal_X4_hasCell
set_option maxRecDepth 20000 in
theorem ggX4_refusal_X8_isWithin : GoodIn wsX4_refusal wsX8_isWithin := goodIn_r _ [11] (by decide +kernel) (by decide +kernel)
set_option maxRecDepth 20000 in
theorem gX4_refusal_X8_isWithin_n26 : GoodIn wsX4_refusal (wsX8_isWithin) := ggX4_refusal_X8_isWithin
end
section
set_option maxRecDepth 20000 in
theorem ggX6_advance_X6_placeBehind : GoodIn wsX6_advance wsX6_placeBehind := goodIn_r _ [10, 3, 4, 11, 12, 13, 14, 15, 16, 17, 73, 74, 75, 76, 77, 78, 79] (by decide +kernel) (by decide +kernel)
set_option maxRecDepth 20000 in
theorem gX6_advance_X6_placeBehind : GoodIn wsX6_advance (wsV RX6 19 RX6 yX6_placeBehind wsX6_placeBehind) := goodIn_app (goodIn_of _ (by decide +kernel)) ggX6_advance_X6_placeBehind
set_option maxRecDepth 20000 in
theorem ggX6_advance_X5_hasBetween : GoodIn wsX6_advance wsX5_hasBetween := goodIn_r _ [15, 16, 17, 78, 79] (by decide +kernel) (by decide +kernel)
set_option maxRecDepth 20000 in
theorem gX6_advance_X5_hasBetween : GoodIn wsX6_advance (wsV RX6 34 RX5 yX5_hasBetween wsX5_hasBetween) := goodIn_app (goodIn_of _ (by decide +kernel)) ggX6_advance_X5_hasBetween
set_option maxRecDepth 20000 in
theorem ggX6_advance_X6_readName : GoodIn wsX6_advance wsX6_readName := goodIn_r _ [21, 2, 1, 5, 22, 6, 7, 8, 9, 10, 3, 4, 11, 12, 13, 14, 15, 16, 17, 23, 24, 25, 26, 27, 28, 29, 30, 31, 32, 33, 34, 35, 36, 37, 38, 39, 40, 41, 42, 43, 44, 45, 46, 47, 48, 49, 50, 51, 52, 53, 54, 55, 56, 57, 58, 59, 60, 61, 62, 63, 64, 65, 66, 67, 68, 73, 74, 75, 76, 77, 78, 79] (by decide +kernel) (by decide +kernel)
set_option maxRecDepth 20000 in
theorem gX6_advance_X6_readName : GoodIn wsX6_advance (wsV RX6 38 RX6 yX6_readName wsX6_readName) := goodIn_app (goodIn_of _ (by decide +kernel)) ggX6_advance_X6_readName
set_option maxRecDepth 20000 in
theorem ggX6_advance_X6_readNumber : GoodIn wsX6_advance wsX6_readNumber := goodIn_r _ [72, 2, 1, 5, 22, 3, 27, 6, 7, 8, 9, 10, 4, 11, 12, 13, 14, 15, 16, 17, 73, 74, 75, 76, 77, 78, 79] (by decide +kernel) (by decide +kernel)
set_option maxRecDepth 20000 in
theorem gX6_advance_X6_readNumber : GoodIn wsX6_advance (wsV RX6 41 RX6 yX6_readNumber wsX6_readNumber) := goodIn_app (goodIn_of _ (by decide +kernel)) ggX6_advance_X6_readNumber
set_option maxRecDepth 20000 in
theorem ggX6_placeBehind_X5_hasBetween : GoodIn wsX6_placeBehind wsX5_hasBetween := goodIn_r _ [7, 8, 9, 15, 16] (by decide +kernel) (by decide +kernel)
set_option maxRecDepth 20000 in
theorem gX6_placeBehind_X5_hasBetween : GoodIn wsX6_placeBehind (wsV RX6 34 RX5 yX5_hasBetween wsX5_hasBetween) := goodIn_app (goodIn_of _ (by decide +kernel)) ggX6_placeBehind_X5_hasBetween
set_option maxRecDepth 20000 in
theorem ggX6_readName_X6_placeBehind : GoodIn wsX6_readName wsX6_placeBehind := goodIn_r _ [9, 10, 11, 12, 13, 14, 15, 16, 17, 18, 65, 66, 67, 68, 69, 70, 71] (by decide +kernel) (by decide +kernel)
set_option maxRecDepth 20000 in
theorem gX6_readName_X6_placeBehind : GoodIn wsX6_readName (wsV RX6 19 RX6 yX6_placeBehind wsX6_placeBehind) := goodIn_app (goodIn_of _ (by decide +kernel)) ggX6_readName_X6_placeBehind
set_option maxRecDepth 20000 in
theorem ggX6_readName_X6_isName : GoodIn wsX6_readName wsX6_isName := goodIn_r _ [22, 2, 1, 10, 23, 24, 25, 26, 27, 28, 29, 30, 31, 32, 33, 34, 35, 36, 37, 38, 39, 40, 41, 42, 43, 44, 45, 46, 47, 48, 49, 50, 51, 52, 53, 54, 55, 56, 57, 58, 59, 60, 61, 62, 63, 64, 65, 66, 67, 68, 69, 70, 71] (by decide +kernel) (by decide +kernel)
set_option maxRecDepth 20000 in
theorem gX6_readName_X6_isName : GoodIn wsX6_readName (wsV RX6 44 RX6 yX6_isName wsX6_isName) := goodIn_app (goodIn_of _ (by decide +kernel)) ggX6_readName_X6_isName
set_option maxRecDepth 20000 in
theorem ggX6_isName_J0_charAt_5068e : GoodIn wsX6_isName wsJ0_charAt_5068e := goodIn_r _ [9, 10, 11, 12, 13, 8, 14, 15, 16, 17, 18, 19, 20, 21, 22, 23, 24, 25, 26, 27, 28, 29, 30, 31, 32, 33, 34, 35, 36, 37, 38, 39, 40, 41, 42, 43, 44, 45] (by decide +kernel) (by decide +kernel)
set_option maxRecDepth 20000 in
theorem gX6_isName_J0_charAt_5068e : GoodIn wsX6_isName (wsV RX6 53 RJ0 yJ0_charAt_5068e wsJ0_charAt_5068e) := goodIn_app (goodIn_of _ (by decide +kernel)) ggX6_isName_J0_charAt_5068e
set_option maxRecDepth 20000 in
theorem ggX6_readNumber_X6_placeBehind : GoodIn wsX6_readNumber wsX6_placeBehind := goodIn_r _ [11, 5, 12, 13, 14, 15, 16, 17, 18, 19, 20, 21, 22, 23, 24, 25, 26] (by decide +kernel) (by decide +kernel)
set_option maxRecDepth 20000 in
theorem gX6_readNumber_X6_placeBehind : GoodIn wsX6_readNumber (wsV RX6 19 RX6 yX6_placeBehind wsX6_placeBehind) := goodIn_app (goodIn_of _ (by decide +kernel)) ggX6_readNumber_X6_placeBehind
end
section
set_option maxRecDepth 20000 in
theorem ggX7_fewest_X7_gatherCargo : GoodIn wsX7_fewest wsX7_gatherCargo := goodIn_r _ [11, 3, 4, 12, 6, 13, 14, 15, 16, 17, 18, 19, 20, 21, 22, 23, 24, 25, 26, 27, 28, 29, 30, 31, 32, 33, 34, 35, 36, 37, 50, 51, 52, 53, 54, 55, 62, 63, 64, 65, 66, 67, 68, 69, 70, 56, 57, 58, 59, 60, 61] (by decide +kernel) (by decide +kernel)
set_option maxRecDepth 20000 in
theorem gX7_fewest_X7_gatherCargo : GoodIn wsX7_fewest (wsV RX7 29 RX7 yX7_gatherCargo wsX7_gatherCargo) := goodIn_app (goodIn_of _ (by decide +kernel)) ggX7_fewest_X7_gatherCargo
set_option maxRecDepth 20000 in
theorem ggX7_fewest_X7_packs : GoodIn wsX7_fewest wsX7_packs := goodIn_r _ [40, 3, 4, 5, 6, 13, 1, 2, 41, 42, 43, 44, 45, 46, 47, 48, 10, 49, 38, 39, 50, 51, 52, 53, 54, 55, 62, 63, 64, 65, 66, 67, 68, 69, 70, 56, 57, 58, 59, 60, 61] (by decide +kernel) (by decide +kernel)
set_option maxRecDepth 20000 in
theorem gX7_fewest_X7_packs : GoodIn wsX7_fewest (va_wsS RX7 47 yX7_packs wsX7_packs) := goodIn_app (goodIn_of _ (by decide +kernel)) ggX7_fewest_X7_packs
set_option maxRecDepth 20000 in
theorem ggX7_gatherCargo_X1_wayOf : GoodIn wsX7_gatherCargo wsX1_wayOf := goodIn_r _ [10, 11, 12, 13, 14, 15, 16, 9, 17, 18, 19, 20, 21, 22, 23, 24, 25, 26, 27, 28, 29, 36, 37, 38, 39, 40, 41, 42, 43, 44, 45, 46, 47, 48, 49, 50] (by decide +kernel) (by decide +kernel)
set_option maxRecDepth 20000 in
theorem gX7_gatherCargo_X1_wayOf : GoodIn wsX7_gatherCargo (wsV RX7 54 RX1 yX1_wayOf wsX1_wayOf) := goodIn_app (goodIn_of _ (by decide +kernel)) ggX7_gatherCargo_X1_wayOf
set_option maxRecDepth 20000 in
theorem ggX7_packs_X7_hasTwin : GoodIn wsX7_packs wsX7_hasTwin := goodIn_r _ [17, 5, 20, 21, 22, 23, 24, 25] (by decide +kernel) (by decide +kernel)
set_option maxRecDepth 20000 in
theorem gX7_packs_X7_hasTwin : GoodIn wsX7_packs (wsV RX7 58 RX7 yX7_hasTwin wsX7_hasTwin) := goodIn_app (goodIn_of _ (by decide +kernel)) ggX7_packs_X7_hasTwin
set_option maxRecDepth 20000 in
theorem ggX7_packs_X7_packs : GoodIn wsX7_packs wsX7_packs := goodIn_r _ [0, 1, 2, 3, 4, 5, 6, 7, 8, 9, 10, 11, 12, 13, 14, 15, 16, 17, 18, 19, 20, 21, 22, 23, 24, 25, 26, 27, 28, 29, 30, 31, 32, 33, 34, 35, 36, 37, 38, 39, 40] (by decide +kernel) (by decide +kernel)
set_option maxRecDepth 20000 in
theorem gX7_packs_X7_packs : GoodIn wsX7_packs (va_wsS RX7 47 yX7_packs wsX7_packs) := goodIn_app (goodIn_of _ (by decide +kernel)) ggX7_packs_X7_packs
end
section
set_option maxRecDepth 20000 in
theorem ggX8_init_X5_init : GoodIn wsX8_init wsX5_init := goodIn_r _ [33, 34, 2, 3, 35, 36, 102, 103] (by decide +kernel) (by decide +kernel)
set_option maxRecDepth 20000 in
theorem gX8_init_X5_init_n9 : GoodIn wsX8_init (wsX5_init) := ggX8_init_X5_init
set_option maxRecDepth 20000 in
theorem ggX8_init_X2_init : GoodIn wsX8_init wsX2_init := goodIn_r _ [39, 40, 2, 3, 41, 42, 43, 44, 45, 46, 47, 48, 49, 50, 51, 52, 53, 54, 55, 56, 57, 58, 111, 112, 113, 114, 115, 116, 147, 148, 149, 150, 151] (by decide +kernel) (by decide +kernel)
set_option maxRecDepth 20000 in
theorem gX8_init_X2_init : GoodIn wsX8_init (wsX2_init) := ggX8_init_X2_init
set_option maxRecDepth 20000 in
theorem ggX8_init_X1_init : GoodIn wsX8_init wsX1_init := goodIn_r _ [61, 62, 2, 3, 48, 63, 64, 65, 66, 67, 68, 69, 70, 117, 118, 119, 120, 121, 122, 123, 124, 125] (by decide +kernel) (by decide +kernel)
set_option maxRecDepth 20000 in
theorem gX8_init_X1_init : GoodIn wsX8_init (wsX1_init) := ggX8_init_X1_init
set_option maxRecDepth 20000 in
theorem ggX8_init_X3_init : GoodIn wsX8_init wsX3_init := goodIn_r _ [73, 74, 2, 3, 48, 75, 76, 77, 126, 127, 128, 129] (by decide +kernel) (by decide +kernel)
set_option maxRecDepth 20000 in
theorem gX8_init_X3_init : GoodIn wsX8_init (wsX3_init) := ggX8_init_X3_init
set_option maxRecDepth 20000 in
theorem ggX8_init_X0_init : GoodIn wsX8_init wsX0_init := goodIn_r _ [80, 81, 2, 3, 48, 82, 83, 84, 85, 86, 87, 130, 131, 132, 133, 134, 135, 136, 137] (by decide +kernel) (by decide +kernel)
set_option maxRecDepth 20000 in
theorem gX8_init_X0_init : GoodIn wsX8_init (wsX0_init) := ggX8_init_X0_init
set_option maxRecDepth 20000 in
theorem ggX8_init_X7_init : GoodIn wsX8_init wsX7_init := goodIn_r _ [90, 91, 2, 3, 48, 92, 93, 94, 95, 96, 138, 139, 140, 141, 142, 143] (by decide +kernel) (by decide +kernel)
set_option maxRecDepth 20000 in
theorem gX8_init_X7_init : GoodIn wsX8_init (wsX7_init) := ggX8_init_X7_init
set_option maxRecDepth 20000 in
theorem ggX8_init_X4_init : GoodIn wsX8_init wsX4_init := goodIn_r _ [98, 99, 2, 3, 100, 48, 101, 144, 145, 146] (by decide +kernel) (by decide +kernel)
set_option maxRecDepth 20000 in
theorem gX8_init_X4_init_n67 : GoodIn wsX8_init (wsX4_init) := ggX8_init_X4_init
set_option maxRecDepth 20000 in
theorem ggX8_feed_X5_append : GoodIn wsX8_feed wsX5_append := goodIn_r _ [7, 8, 9, 17, 18] (by decide +kernel) (by decide +kernel)
set_option maxRecDepth 20000 in
theorem gX8_feed_X5_append : GoodIn wsX8_feed (wsV RX8 72 RX5 yX5_append wsX5_append) := goodIn_app (goodIn_of _ (by decide +kernel)) ggX8_feed_X5_append
set_option maxRecDepth 20000 in
theorem ggX8_laws_X2_readTape : GoodIn wsX8_laws wsX2_readTape := goodIn_r _ [8, 9, 10, 11, 12, 13, 14, 15, 16, 17, 18, 19, 20, 21, 22, 23, 24, 25, 26, 27, 28, 29, 30, 31, 32, 33, 34, 35, 36, 37, 38, 39, 40, 41, 42, 43, 44, 45, 46, 47, 48, 49, 50, 51, 52, 53, 54, 55, 56, 57, 58, 59, 60, 61, 62, 63, 64, 65, 66, 67, 68, 69, 70, 71, 72, 73, 74, 75, 76, 77, 78, 79, 80, 81, 82, 83, 84, 85, 86, 87, 88, 89, 90, 91, 92, 93, 94, 95, 96, 97, 98, 99, 100, 101, 102, 103, 7, 104, 105, 106, 107, 108, 109, 110, 111, 112, 113, 114, 115, 116, 117, 118, 119, 120, 121, 122, 123, 124, 125, 126, 127, 137, 138, 139, 140, 141, 142, 143, 144, 145, 146, 147, 135, 136] (by decide +kernel) (by decide +kernel)
set_option maxRecDepth 20000 in
theorem gX8_laws_X2_readTape : GoodIn wsX8_laws (wsV RX8 76 RX2 yX2_readTape wsX2_readTape) := goodIn_app (goodIn_of _ (by decide +kernel)) ggX8_laws_X2_readTape
set_option maxRecDepth 20000 in
theorem ggX8_law_X8_isWithin : GoodIn wsX8_law wsX8_isWithin := goodIn_r _ [6] (by decide +kernel) (by decide +kernel)
set_option maxRecDepth 20000 in
theorem gX8_law_X8_isWithin : GoodIn wsX8_law (va_wsS RX8 83 yX8_isWithin wsX8_isWithin) := goodIn_app (goodIn_of _ (by decide +kernel)) ggX8_law_X8_isWithin
set_option maxRecDepth 20000 in
theorem ggX8_thing_X8_isWithin : GoodIn wsX8_thing wsX8_isWithin := goodIn_r _ [6] (by decide +kernel) (by decide +kernel)
set_option maxRecDepth 20000 in
theorem gX8_thing_X8_isWithin : GoodIn wsX8_thing (va_wsS RX8 83 yX8_isWithin wsX8_isWithin) := goodIn_app (goodIn_of _ (by decide +kernel)) ggX8_thing_X8_isWithin
set_option maxRecDepth 20000 in
theorem ggX8_thing_X1_addThing : GoodIn wsX8_thing wsX1_addThing := goodIn_r _ [11, 12, 13, 14, 15, 16, 17, 18, 26, 27, 28, 29, 30, 31, 32, 33, 34] (by decide +kernel) (by decide +kernel)
set_option maxRecDepth 20000 in
theorem gX8_thing_X1_addThing : GoodIn wsX8_thing (wsV RX8 97 RX1 yX1_addThing wsX1_addThing) := goodIn_app (goodIn_of _ (by decide +kernel)) ggX8_thing_X1_addThing
set_option maxRecDepth 20000 in
theorem ggX8_worth_X1_hasHeir : GoodIn wsX8_worth wsX1_hasHeir := goodIn_r _ [7, 8, 25, 26, 27, 28, 29, 30, 31, 32, 33] (by decide +kernel) (by decide +kernel)
set_option maxRecDepth 20000 in
theorem gX8_worth_X1_hasHeir : GoodIn wsX8_worth (wsV RX8 101 RX1 yX1_hasHeir wsX1_hasHeir) := goodIn_app (goodIn_of _ (by decide +kernel)) ggX8_worth_X1_hasHeir
set_option maxRecDepth 20000 in
theorem ggX8_worth_X1_hasThing : GoodIn wsX8_worth wsX1_hasThing := goodIn_r _ [12, 13, 25, 26, 27, 28, 29, 30, 31, 32, 33] (by decide +kernel) (by decide +kernel)
set_option maxRecDepth 20000 in
theorem gX8_worth_X1_hasThing : GoodIn wsX8_worth (wsV RX8 105 RX1 yX1_hasThing wsX1_hasThing) := goodIn_app (goodIn_of _ (by decide +kernel)) ggX8_worth_X1_hasThing
set_option maxRecDepth 20000 in
theorem ggX8_worth_X8_isWithin : GoodIn wsX8_worth wsX8_isWithin := goodIn_r _ [17] (by decide +kernel) (by decide +kernel)
set_option maxRecDepth 20000 in
theorem gX8_worth_X8_isWithin : GoodIn wsX8_worth (va_wsS RX8 83 yX8_isWithin wsX8_isWithin) := goodIn_app (goodIn_of _ (by decide +kernel)) ggX8_worth_X8_isWithin
set_option maxRecDepth 20000 in
theorem ggX8_look_X1_hasThing : GoodIn wsX8_look wsX1_hasThing := goodIn_r _ [8, 9, 17, 18, 19, 20, 21, 22, 23, 24, 25] (by decide +kernel) (by decide +kernel)
set_option maxRecDepth 20000 in
theorem gX8_look_X1_hasThing : GoodIn wsX8_look (wsV RX8 105 RX1 yX1_hasThing wsX1_hasThing) := goodIn_app (goodIn_of _ (by decide +kernel)) ggX8_look_X1_hasThing
set_option maxRecDepth 20000 in
theorem ggX8_told_X1_hasThing : GoodIn wsX8_told wsX1_hasThing := goodIn_r _ [11, 12, 43, 44, 45, 46, 47, 48, 49, 50, 51] (by decide +kernel) (by decide +kernel)
set_option maxRecDepth 20000 in
theorem gX8_told_X1_hasThing : GoodIn wsX8_told (wsV RX8 105 RX1 yX1_hasThing wsX1_hasThing) := goodIn_app (goodIn_of _ (by decide +kernel)) ggX8_told_X1_hasThing
set_option maxRecDepth 20000 in
theorem ggX8_told_X1_wayOf : GoodIn wsX8_told wsX1_wayOf := goodIn_r _ [16, 17, 18, 19, 20, 21, 22, 10, 23, 24, 25, 26, 27, 28, 29, 30, 31, 32, 33, 34, 35, 43, 44, 45, 46, 47, 48, 49, 50, 51, 52, 53, 54, 55, 56, 57] (by decide +kernel) (by decide +kernel)
set_option maxRecDepth 20000 in
theorem gX8_told_X1_wayOf : GoodIn wsX8_told (wsV RX8 127 RX1 yX1_wayOf wsX1_wayOf) := goodIn_app (goodIn_of _ (by decide +kernel)) ggX8_told_X1_wayOf
set_option maxRecDepth 20000 in
theorem ggX8_way_X8_isWithin : GoodIn wsX8_way wsX8_isWithin := goodIn_r _ [8] (by decide +kernel) (by decide +kernel)
set_option maxRecDepth 20000 in
theorem gX8_way_X8_isWithin : GoodIn wsX8_way (va_wsS RX8 83 yX8_isWithin wsX8_isWithin) := goodIn_app (goodIn_of _ (by decide +kernel)) ggX8_way_X8_isWithin
set_option maxRecDepth 20000 in
theorem ggX8_way_X1_countOnWay : GoodIn wsX8_way wsX1_countOnWay := goodIn_r _ [13, 14, 15, 16, 17, 12, 18, 19, 20, 21, 22, 23, 24, 25, 26, 27, 28, 29, 30, 31, 32, 33, 34, 35, 36, 37, 49, 50, 51, 52, 53, 54, 55, 56, 57, 58, 59, 60, 61, 62, 63] (by decide +kernel) (by decide +kernel)
set_option maxRecDepth 20000 in
theorem gX8_way_X1_countOnWay : GoodIn wsX8_way (wsV RX8 131 RX1 yX1_countOnWay wsX1_countOnWay) := goodIn_app (goodIn_of _ (by decide +kernel)) ggX8_way_X1_countOnWay
set_option maxRecDepth 20000 in
theorem ggX8_way_X1_sumOnWay : GoodIn wsX8_way wsX1_sumOnWay := goodIn_r _ [41, 14, 15, 16, 17, 12, 18, 19, 20, 21, 22, 23, 24, 25, 26, 27, 28, 29, 30, 31, 32, 33, 34, 35, 36, 37, 49, 50, 51, 52, 53, 54, 55, 56, 57, 58, 59, 60, 61, 62, 63] (by decide +kernel) (by decide +kernel)
set_option maxRecDepth 20000 in
theorem gX8_way_X1_sumOnWay : GoodIn wsX8_way (wsV RX8 134 RX1 yX1_sumOnWay wsX1_sumOnWay) := goodIn_app (goodIn_of _ (by decide +kernel)) ggX8_way_X1_sumOnWay
set_option maxRecDepth 20000 in
theorem ggX8_asks_X1_hasThing : GoodIn wsX8_asks wsX1_hasThing := goodIn_r _ [6, 7, 37, 38, 39, 40, 41, 42, 43, 44, 45] (by decide +kernel) (by decide +kernel)
set_option maxRecDepth 20000 in
theorem gX8_asks_X1_hasThing : GoodIn wsX8_asks (wsV RX8 105 RX1 yX1_hasThing wsX1_hasThing) := goodIn_app (goodIn_of _ (by decide +kernel)) ggX8_asks_X1_hasThing
set_option maxRecDepth 20000 in
theorem ggX8_asks_X1_secondLook : GoodIn wsX8_asks wsX1_secondLook := goodIn_r _ [11, 12, 13, 14, 15, 16, 17, 18, 19, 20, 21, 22, 5, 23, 24, 25, 26, 27, 28, 29, 37, 38, 39, 40, 41, 42, 43, 44, 45, 46, 47, 48, 49, 50, 51] (by decide +kernel) (by decide +kernel)
set_option maxRecDepth 20000 in
theorem gX8_asks_X1_secondLook : GoodIn wsX8_asks (wsV RX8 138 RX1 yX1_secondLook wsX1_secondLook) := goodIn_app (goodIn_of _ (by decide +kernel)) ggX8_asks_X1_secondLook
set_option maxRecDepth 20000 in
theorem ggX8_turns_X8_isRule : GoodIn wsX8_turns wsX8_isRule := goodIn_r _ [7] (by decide +kernel) (by decide +kernel)
set_option maxRecDepth 20000 in
theorem gX8_turns_X8_isRule : GoodIn wsX8_turns (va_wsS RX8 141 yX8_isRule wsX8_isRule) := goodIn_app (goodIn_of _ (by decide +kernel)) ggX8_turns_X8_isRule
set_option maxRecDepth 20000 in
theorem ggX8_turns_X3_gather : GoodIn wsX8_turns wsX3_gather := goodIn_r _ [12, 13, 14, 15, 16, 17, 18, 19, 20, 21, 22, 23, 24, 25, 26, 27, 28, 29, 30, 31, 32, 33, 34, 35, 36, 37, 38, 39, 40, 80, 81, 82, 83, 71, 72, 73, 74, 75, 76, 77, 78, 79, 84, 85, 86, 87, 88, 89] (by decide +kernel) (by decide +kernel)
set_option maxRecDepth 20000 in
theorem gX8_turns_X3_gather : GoodIn wsX8_turns (wsV RX8 144 RX3 yX3_gather wsX3_gather) := goodIn_app (goodIn_of _ (by decide +kernel)) ggX8_turns_X3_gather
set_option maxRecDepth 20000 in
theorem ggX8_turns_X3_takeTurns : GoodIn wsX8_turns wsX3_takeTurns := goodIn_r _ [44, 45, 46, 47, 11, 48, 13, 49, 16, 14, 50, 51, 52, 53, 54, 55, 56, 57, 58, 59, 80, 81, 82, 83, 71, 72, 73, 74, 75, 76, 77, 78, 79] (by decide +kernel) (by decide +kernel)
set_option maxRecDepth 20000 in
theorem gX8_turns_X3_takeTurns : GoodIn wsX8_turns (wsV RX8 147 RX3 yX3_takeTurns wsX3_takeTurns) := goodIn_app (goodIn_of _ (by decide +kernel)) ggX8_turns_X3_takeTurns
set_option maxRecDepth 20000 in
theorem ggX8_turns_X3_number : GoodIn wsX8_turns wsX3_number := goodIn_r _ [63, 13, 14, 55, 49, 80, 81, 82, 83, 71, 72, 73, 74, 75, 76, 77, 78, 79] (by decide +kernel) (by decide +kernel)
set_option maxRecDepth 20000 in
theorem gX8_turns_X3_number : GoodIn wsX8_turns (wsV RX8 151 RX3 yX3_number wsX3_number) := goodIn_app (goodIn_of _ (by decide +kernel)) ggX8_turns_X3_number
set_option maxRecDepth 20000 in
theorem ggX8_lie_X8_isRule : GoodIn wsX8_lie wsX8_isRule := goodIn_r _ [6] (by decide +kernel) (by decide +kernel)
set_option maxRecDepth 20000 in
theorem gX8_lie_X8_isRule : GoodIn wsX8_lie (va_wsS RX8 141 yX8_isRule wsX8_isRule) := goodIn_app (goodIn_of _ (by decide +kernel)) ggX8_lie_X8_isRule
set_option maxRecDepth 20000 in
theorem ggX8_lie_X1_hasHeir : GoodIn wsX8_lie wsX1_hasHeir := goodIn_r _ [11, 12, 78, 79, 80, 81, 82, 83, 84, 85, 86] (by decide +kernel) (by decide +kernel)
set_option maxRecDepth 20000 in
theorem gX8_lie_X1_hasHeir : GoodIn wsX8_lie (wsV RX8 101 RX1 yX1_hasHeir wsX1_hasHeir) := goodIn_app (goodIn_of _ (by decide +kernel)) ggX8_lie_X1_hasHeir
set_option maxRecDepth 20000 in
theorem ggX8_lie_X1_hasThing : GoodIn wsX8_lie wsX1_hasThing := goodIn_r _ [16, 17, 78, 79, 80, 81, 82, 83, 84, 85, 86] (by decide +kernel) (by decide +kernel)
set_option maxRecDepth 20000 in
theorem gX8_lie_X1_hasThing : GoodIn wsX8_lie (wsV RX8 105 RX1 yX1_hasThing wsX1_hasThing) := goodIn_app (goodIn_of _ (by decide +kernel)) ggX8_lie_X1_hasThing
set_option maxRecDepth 20000 in
theorem ggX8_lie_X8_isWithin : GoodIn wsX8_lie wsX8_isWithin := goodIn_r _ [20] (by decide +kernel) (by decide +kernel)
set_option maxRecDepth 20000 in
theorem gX8_lie_X8_isWithin : GoodIn wsX8_lie (va_wsS RX8 83 yX8_isWithin wsX8_isWithin) := goodIn_app (goodIn_of _ (by decide +kernel)) ggX8_lie_X8_isWithin
set_option maxRecDepth 20000 in
theorem ggX8_lie_X3_gather : GoodIn wsX8_lie wsX3_gather := goodIn_r _ [25, 26, 27, 28, 29, 30, 31, 32, 10, 33, 34, 35, 36, 37, 38, 39, 40, 41, 42, 43, 44, 45, 46, 47, 48, 49, 50, 12, 51, 87, 88, 89, 90, 78, 79, 80, 81, 82, 83, 84, 85, 86, 91, 92, 93, 94, 95, 96] (by decide +kernel) (by decide +kernel)
set_option maxRecDepth 20000 in
theorem gX8_lie_X3_gather : GoodIn wsX8_lie (wsV RX8 144 RX3 yX3_gather wsX3_gather) := goodIn_app (goodIn_of _ (by decide +kernel)) ggX8_lie_X3_gather
set_option maxRecDepth 20000 in
theorem ggX8_lie_X3_takeTurnsWithLie : GoodIn wsX8_lie wsX3_takeTurnsWithLie := goodIn_r _ [55, 26, 56, 29, 27, 57, 58, 59, 60, 24, 61, 62, 63, 64, 65, 66, 87, 88, 89, 90, 78, 79, 80, 81, 82, 83, 84, 85, 86] (by decide +kernel) (by decide +kernel)
set_option maxRecDepth 20000 in
theorem gX8_lie_X3_takeTurnsWithLie : GoodIn wsX8_lie (wsV RX8 154 RX3 yX3_takeTurnsWithLie wsX3_takeTurnsWithLie) := goodIn_app (goodIn_of _ (by decide +kernel)) ggX8_lie_X3_takeTurnsWithLie
set_option maxRecDepth 20000 in
theorem ggX8_lie_X3_number : GoodIn wsX8_lie wsX3_number := goodIn_r _ [70, 26, 27, 62, 56, 87, 88, 89, 90, 78, 79, 80, 81, 82, 83, 84, 85, 86] (by decide +kernel) (by decide +kernel)
set_option maxRecDepth 20000 in
theorem gX8_lie_X3_number : GoodIn wsX8_lie (wsV RX8 151 RX3 yX3_number wsX3_number) := goodIn_app (goodIn_of _ (by decide +kernel)) ggX8_lie_X3_number
set_option maxRecDepth 20000 in
theorem ggX8_gain_X8_isRule : GoodIn wsX8_gain wsX8_isRule := goodIn_r _ [6] (by decide +kernel) (by decide +kernel)
set_option maxRecDepth 20000 in
theorem gX8_gain_X8_isRule : GoodIn wsX8_gain (va_wsS RX8 141 yX8_isRule wsX8_isRule) := goodIn_app (goodIn_of _ (by decide +kernel)) ggX8_gain_X8_isRule
set_option maxRecDepth 20000 in
theorem ggX8_gain_X1_hasHeir : GoodIn wsX8_gain wsX1_hasHeir := goodIn_r _ [11, 12, 82, 83, 84, 85, 86, 87, 88, 89, 90] (by decide +kernel) (by decide +kernel)
set_option maxRecDepth 20000 in
theorem gX8_gain_X1_hasHeir : GoodIn wsX8_gain (wsV RX8 101 RX1 yX1_hasHeir wsX1_hasHeir) := goodIn_app (goodIn_of _ (by decide +kernel)) ggX8_gain_X1_hasHeir
set_option maxRecDepth 20000 in
theorem ggX8_gain_X3_gather : GoodIn wsX8_gain wsX3_gather := goodIn_r _ [17, 18, 19, 20, 21, 22, 23, 24, 10, 25, 26, 27, 28, 29, 30, 31, 32, 33, 34, 35, 36, 37, 38, 39, 40, 41, 42, 12, 43, 91, 92, 93, 94, 82, 83, 84, 85, 86, 87, 88, 89, 90, 95, 96, 97, 98, 99, 100] (by decide +kernel) (by decide +kernel)
set_option maxRecDepth 20000 in
theorem gX8_gain_X3_gather : GoodIn wsX8_gain (wsV RX8 144 RX3 yX3_gather wsX3_gather) := goodIn_app (goodIn_of _ (by decide +kernel)) ggX8_gain_X3_gather
set_option maxRecDepth 20000 in
theorem ggX8_gain_X3_mostByLying : GoodIn wsX8_gain wsX3_mostByLying := goodIn_r _ [47, 18, 21, 48, 49, 50, 51, 52, 53, 54, 16, 55, 56, 57, 58, 59, 60, 19, 61, 62, 63, 64, 65, 66, 67, 68, 69, 70, 71, 72, 73, 74, 91, 92, 93, 94, 82, 83, 84, 85, 86, 87, 88, 89, 90] (by decide +kernel) (by decide +kernel)
set_option maxRecDepth 20000 in
theorem gX8_gain_X3_mostByLying : GoodIn wsX8_gain (wsV RX8 158 RX3 yX3_mostByLying wsX3_mostByLying) := goodIn_app (goodIn_of _ (by decide +kernel)) ggX8_gain_X3_mostByLying
set_option maxRecDepth 20000 in
theorem ggX8_sum_X1_hasHeir : GoodIn wsX8_sum wsX1_hasHeir := goodIn_r _ [7, 8, 58, 59, 60, 61, 62, 63, 64, 65, 66] (by decide +kernel) (by decide +kernel)
set_option maxRecDepth 20000 in
theorem gX8_sum_X1_hasHeir : GoodIn wsX8_sum (wsV RX8 101 RX1 yX1_hasHeir wsX1_hasHeir) := goodIn_app (goodIn_of _ (by decide +kernel)) ggX8_sum_X1_hasHeir
set_option maxRecDepth 20000 in
theorem ggX8_sum_X3_readNumber : GoodIn wsX8_sum wsX3_readNumber := goodIn_r _ [13, 14, 15, 16, 17, 18, 19, 20, 12, 21, 22, 23, 24, 25, 26, 6, 27, 28, 29, 30, 31, 32, 33, 34, 35, 36, 37, 38, 39, 40, 41, 42, 43, 44, 8, 45, 67, 68, 69, 70, 58, 59, 60, 61, 62, 63, 64, 65, 66, 71, 72, 73, 74, 75, 76] (by decide +kernel) (by decide +kernel)
set_option maxRecDepth 20000 in
theorem gX8_sum_X3_readNumber : GoodIn wsX8_sum (wsV RX8 162 RX3 yX3_readNumber wsX3_readNumber) := goodIn_app (goodIn_of _ (by decide +kernel)) ggX8_sum_X3_readNumber
set_option maxRecDepth 20000 in
theorem ggX8_sum_X3_sumOf : GoodIn wsX8_sum wsX3_sumOf := goodIn_r _ [49, 14, 17, 15, 50, 23, 67, 68, 69, 70, 58, 59, 60, 61, 62, 63, 64, 65, 66] (by decide +kernel) (by decide +kernel)
set_option maxRecDepth 20000 in
theorem gX8_sum_X3_sumOf : GoodIn wsX8_sum (wsV RX8 165 RX3 yX3_sumOf wsX3_sumOf) := goodIn_app (goodIn_of _ (by decide +kernel)) ggX8_sum_X3_sumOf
set_option maxRecDepth 20000 in
theorem ggX8_envies_X1_hasHeir : GoodIn wsX8_envies wsX1_hasHeir := goodIn_r _ [7, 8, 70, 71, 72, 73, 74, 75, 76, 77, 78] (by decide +kernel) (by decide +kernel)
set_option maxRecDepth 20000 in
theorem gX8_envies_X1_hasHeir : GoodIn wsX8_envies (wsV RX8 101 RX1 yX1_hasHeir wsX1_hasHeir) := goodIn_app (goodIn_of _ (by decide +kernel)) ggX8_envies_X1_hasHeir
set_option maxRecDepth 20000 in
theorem ggX8_envies_X3_readNumber : GoodIn wsX8_envies wsX3_readNumber := goodIn_r _ [13, 14, 15, 16, 17, 18, 19, 20, 12, 21, 22, 23, 24, 25, 26, 6, 27, 28, 29, 30, 31, 32, 33, 34, 35, 36, 37, 38, 39, 40, 41, 42, 43, 44, 8, 45, 79, 80, 81, 82, 70, 71, 72, 73, 74, 75, 76, 77, 78, 83, 84, 85, 86, 87, 88] (by decide +kernel) (by decide +kernel)
set_option maxRecDepth 20000 in
theorem gX8_envies_X3_readNumber : GoodIn wsX8_envies (wsV RX8 162 RX3 yX3_readNumber wsX3_readNumber) := goodIn_app (goodIn_of _ (by decide +kernel)) ggX8_envies_X3_readNumber
set_option maxRecDepth 20000 in
theorem ggX8_envies_X3_envyOf : GoodIn wsX8_envies wsX3_envyOf := goodIn_r _ [49, 50, 51, 52, 12, 53, 14, 17, 15, 54, 23, 55, 56, 57, 58, 59, 60, 61, 62, 79, 80, 81, 82, 70, 71, 72, 73, 74, 75, 76, 77, 78] (by decide +kernel) (by decide +kernel)
set_option maxRecDepth 20000 in
theorem gX8_envies_X3_envyOf : GoodIn wsX8_envies (wsV RX8 168 RX3 yX3_envyOf wsX3_envyOf) := goodIn_app (goodIn_of _ (by decide +kernel)) ggX8_envies_X3_envyOf
set_option maxRecDepth 20000 in
theorem ggX8_envy_X3_readNumber : GoodIn wsX8_envy wsX3_readNumber := goodIn_r _ [6, 7, 8, 9, 10, 11, 12, 13, 5, 14, 15, 16, 17, 18, 19, 20, 21, 22, 23, 24, 25, 26, 27, 28, 29, 30, 31, 32, 33, 34, 35, 36, 37, 38, 39, 40, 69, 70, 71, 72, 73, 74, 75, 76, 77, 78, 79, 80, 81, 82, 83, 84, 85, 86, 87] (by decide +kernel) (by decide +kernel)
set_option maxRecDepth 20000 in
theorem gX8_envy_X3_readNumber : GoodIn wsX8_envy (wsV RX8 162 RX3 yX3_readNumber wsX3_readNumber) := goodIn_app (goodIn_of _ (by decide +kernel)) ggX8_envy_X3_readNumber
set_option maxRecDepth 20000 in
theorem ggX8_envy_X3_envyPairs : GoodIn wsX8_envy wsX3_envyPairs := goodIn_r _ [44, 8, 9, 45, 46, 47, 5, 48, 49, 50, 51, 52, 7, 10, 53, 16, 54, 55, 56, 57, 58, 59, 60, 61, 69, 70, 71, 72, 73, 74, 75, 76, 77, 78, 79, 80, 81] (by decide +kernel) (by decide +kernel)
set_option maxRecDepth 20000 in
theorem gX8_envy_X3_envyPairs : GoodIn wsX8_envy (wsV RX8 171 RX3 yX3_envyPairs wsX3_envyPairs) := goodIn_app (goodIn_of _ (by decide +kernel)) ggX8_envy_X3_envyPairs
set_option maxRecDepth 20000 in
theorem ggX8_fairest_X3_gather : GoodIn wsX8_fairest wsX3_gather := goodIn_r _ [10, 11, 12, 13, 14, 15, 16, 17, 18, 19, 20, 21, 22, 23, 24, 25, 26, 27, 28, 29, 30, 31, 32, 33, 34, 35, 36, 37, 38, 91, 92, 93, 94, 82, 83, 84, 85, 86, 87, 88, 89, 90, 95, 96, 97, 98, 99, 100] (by decide +kernel) (by decide +kernel)
set_option maxRecDepth 20000 in
theorem gX8_fairest_X3_gather : GoodIn wsX8_fairest (wsV RX8 144 RX3 yX3_gather wsX3_gather) := goodIn_app (goodIn_of _ (by decide +kernel)) ggX8_fairest_X3_gather
set_option maxRecDepth 20000 in
theorem ggX8_fairest_X0_bestNumber : GoodIn wsX8_fairest wsX0_bestNumber := goodIn_r _ [43, 44, 45, 46, 47, 48, 49, 50, 51, 52, 53, 54, 55, 56, 57, 58, 59, 60, 61, 18, 62, 37, 38, 63, 64, 42, 65, 66, 67, 68, 69, 70, 71, 72, 73, 74, 101, 102, 103, 104, 105, 106, 107, 108, 91, 92, 93, 94, 82, 83, 84, 85, 86, 87, 88, 89, 90] (by decide +kernel) (by decide +kernel)
set_option maxRecDepth 20000 in
theorem gX8_fairest_X0_bestNumber : GoodIn wsX8_fairest (wsV RX8 177 RX0 yX0_bestNumber wsX0_bestNumber) := goodIn_app (goodIn_of _ (by decide +kernel)) ggX8_fairest_X0_bestNumber
set_option maxRecDepth 20000 in
theorem ggX8_bid_X1_hasThing : GoodIn wsX8_bid wsX1_hasThing := goodIn_r _ [7, 8, 43, 44, 45, 46, 47, 48, 49, 50, 51] (by decide +kernel) (by decide +kernel)
set_option maxRecDepth 20000 in
theorem gX8_bid_X1_hasThing : GoodIn wsX8_bid (wsV RX8 105 RX1 yX1_hasThing wsX1_hasThing) := goodIn_app (goodIn_of _ (by decide +kernel)) ggX8_bid_X1_hasThing
set_option maxRecDepth 20000 in
theorem ggX8_bid_X1_wayOf : GoodIn wsX8_bid wsX1_wayOf := goodIn_r _ [12, 13, 14, 15, 16, 17, 18, 6, 19, 20, 21, 22, 23, 24, 25, 26, 27, 28, 29, 30, 31, 43, 44, 45, 46, 47, 48, 49, 50, 51, 52, 53, 54, 55, 56, 57] (by decide +kernel) (by decide +kernel)
set_option maxRecDepth 20000 in
theorem gX8_bid_X1_wayOf : GoodIn wsX8_bid (wsV RX8 127 RX1 yX1_wayOf wsX1_wayOf) := goodIn_app (goodIn_of _ (by decide +kernel)) ggX8_bid_X1_wayOf
set_option maxRecDepth 20000 in
theorem ggX8_bid_X1_keenest : GoodIn wsX8_bid wsX1_keenest := goodIn_r _ [35, 30, 31, 43, 44, 45, 46, 47, 48, 49, 50, 51] (by decide +kernel) (by decide +kernel)
set_option maxRecDepth 20000 in
theorem gX8_bid_X1_keenest : GoodIn wsX8_bid (wsV RX8 180 RX1 yX1_keenest wsX1_keenest) := goodIn_app (goodIn_of _ (by decide +kernel)) ggX8_bid_X1_keenest
set_option maxRecDepth 20000 in
theorem ggX8_settled_X1_hasHeir : GoodIn wsX8_settled wsX1_hasHeir := goodIn_r _ [8, 9, 82, 83, 84, 85, 86, 87, 88, 89, 90] (by decide +kernel) (by decide +kernel)
set_option maxRecDepth 20000 in
theorem gX8_settled_X1_hasHeir : GoodIn wsX8_settled (wsV RX8 101 RX1 yX1_hasHeir wsX1_hasHeir) := goodIn_app (goodIn_of _ (by decide +kernel)) ggX8_settled_X1_hasHeir
set_option maxRecDepth 20000 in
theorem ggX8_settled_X3_gather : GoodIn wsX8_settled wsX3_gather := goodIn_r _ [14, 15, 16, 17, 18, 19, 20, 21, 7, 22, 23, 24, 25, 26, 27, 28, 29, 30, 31, 32, 33, 34, 35, 36, 37, 38, 39, 9, 40, 91, 92, 93, 94, 82, 83, 84, 85, 86, 87, 88, 89, 90, 95, 96, 97, 98, 99, 100] (by decide +kernel) (by decide +kernel)
set_option maxRecDepth 20000 in
theorem gX8_settled_X3_gather : GoodIn wsX8_settled (wsV RX8 144 RX3 yX3_gather wsX3_gather) := goodIn_app (goodIn_of _ (by decide +kernel)) ggX8_settled_X3_gather
set_option maxRecDepth 20000 in
theorem ggX8_settled_X3_giveToKeenest : GoodIn wsX8_settled wsX3_giveToKeenest := goodIn_r _ [44, 15, 45, 16, 18, 46, 47, 48, 7, 49, 9, 40, 91, 92, 93, 94, 82, 83, 84, 85, 86, 87, 88, 89, 90] (by decide +kernel) (by decide +kernel)
set_option maxRecDepth 20000 in
theorem gX8_settled_X3_giveToKeenest : GoodIn wsX8_settled (wsV RX8 184 RX3 yX3_giveToKeenest wsX3_giveToKeenest) := goodIn_app (goodIn_of _ (by decide +kernel)) ggX8_settled_X3_giveToKeenest
set_option maxRecDepth 20000 in
theorem ggX8_settled_X3_sumOf : GoodIn wsX8_settled wsX3_sumOf := goodIn_r _ [53, 15, 45, 16, 54, 18, 91, 92, 93, 94, 82, 83, 84, 85, 86, 87, 88, 89, 90] (by decide +kernel) (by decide +kernel)
set_option maxRecDepth 20000 in
theorem gX8_settled_X3_sumOf : GoodIn wsX8_settled (wsV RX8 165 RX3 yX3_sumOf wsX3_sumOf) := goodIn_app (goodIn_of _ (by decide +kernel)) ggX8_settled_X3_sumOf
set_option maxRecDepth 20000 in
theorem ggX8_settled_X3_claimOf : GoodIn wsX8_settled wsX3_claimOf := goodIn_r _ [58, 15, 16, 54, 18, 59, 60, 61, 62, 63, 91, 92, 93, 94, 82, 83, 84, 85, 86, 87, 88, 89, 90] (by decide +kernel) (by decide +kernel)
set_option maxRecDepth 20000 in
theorem gX8_settled_X3_claimOf : GoodIn wsX8_settled (wsV RX8 187 RX3 yX3_claimOf wsX3_claimOf) := goodIn_app (goodIn_of _ (by decide +kernel)) ggX8_settled_X3_claimOf
set_option maxRecDepth 20000 in
theorem ggX8_settled_X3_paymentOf : GoodIn wsX8_settled wsX3_paymentOf := goodIn_r _ [67, 68, 51, 52, 13, 53, 15, 45, 16, 54, 18, 69, 56, 57, 58, 59, 60, 61, 62, 63, 91, 92, 93, 94, 82, 83, 84, 85, 86, 87, 88, 89, 90] (by decide +kernel) (by decide +kernel)
set_option maxRecDepth 20000 in
theorem gX8_settled_X3_paymentOf : GoodIn wsX8_settled (wsV RX8 190 RX3 yX3_paymentOf wsX3_paymentOf) := goodIn_app (goodIn_of _ (by decide +kernel)) ggX8_settled_X3_paymentOf
set_option maxRecDepth 20000 in
theorem ggX8_settled_X3_partOfRest : GoodIn wsX8_settled wsX3_partOfRest := goodIn_r _ [73, 16, 59, 60, 61, 62, 63, 74, 65, 66, 13, 67, 68, 51, 52, 53, 15, 45, 54, 18, 69, 56, 57, 58, 91, 92, 93, 94, 82, 83, 84, 85, 86, 87, 88, 89, 90] (by decide +kernel) (by decide +kernel)
set_option maxRecDepth 20000 in
theorem gX8_settled_X3_partOfRest : GoodIn wsX8_settled (wsV RX8 193 RX3 yX3_partOfRest wsX3_partOfRest) := goodIn_app (goodIn_of _ (by decide +kernel)) ggX8_settled_X3_partOfRest
set_option maxRecDepth 20000 in
theorem ggX8_loads_X8_isWithin : GoodIn wsX8_loads wsX8_isWithin := goodIn_r _ [5] (by decide +kernel) (by decide +kernel)
set_option maxRecDepth 20000 in
theorem gX8_loads_X8_isWithin : GoodIn wsX8_loads (va_wsS RX8 83 yX8_isWithin wsX8_isWithin) := goodIn_app (goodIn_of _ (by decide +kernel)) ggX8_loads_X8_isWithin
set_option maxRecDepth 20000 in
theorem ggX8_loads_X7_fewest : GoodIn wsX8_loads wsX7_fewest := goodIn_r _ [10, 11, 12, 13, 14, 15, 16, 17, 18, 19, 9, 20, 21, 22, 23, 24, 25, 26, 27, 28, 29, 30, 31, 32, 33, 34, 35, 36, 37, 38, 39, 40, 41, 42, 43, 44, 45, 46, 47, 48, 49, 50, 51, 52, 53, 54, 55, 56, 57, 58, 66, 67, 68, 69, 70, 71, 72, 73, 74, 75, 76, 77, 78, 79, 80, 81, 82, 83, 84, 85, 86] (by decide +kernel) (by decide +kernel)
set_option maxRecDepth 20000 in
theorem gX8_loads_X7_fewest : GoodIn wsX8_loads (wsV RX8 196 RX7 yX7_fewest wsX7_fewest) := goodIn_app (goodIn_of _ (by decide +kernel)) ggX8_loads_X7_fewest
set_option maxRecDepth 20000 in
theorem ggX8_load_X1_hasThing : GoodIn wsX8_load wsX1_hasThing := goodIn_r _ [7, 8, 73, 74, 75, 76, 77, 78, 79, 80, 81] (by decide +kernel) (by decide +kernel)
set_option maxRecDepth 20000 in
theorem gX8_load_X1_hasThing : GoodIn wsX8_load (wsV RX8 105 RX1 yX1_hasThing wsX1_hasThing) := goodIn_app (goodIn_of _ (by decide +kernel)) ggX8_load_X1_hasThing
set_option maxRecDepth 20000 in
theorem ggX8_load_X1_wayOf : GoodIn wsX8_load wsX1_wayOf := goodIn_r _ [12, 13, 14, 15, 16, 17, 18, 6, 19, 20, 21, 22, 23, 24, 25, 26, 27, 28, 29, 30, 31, 73, 74, 75, 76, 77, 78, 79, 80, 81, 82, 83, 84, 85, 86, 87] (by decide +kernel) (by decide +kernel)
set_option maxRecDepth 20000 in
theorem gX8_load_X1_wayOf : GoodIn wsX8_load (wsV RX8 127 RX1 yX1_wayOf wsX1_wayOf) := goodIn_app (goodIn_of _ (by decide +kernel)) ggX8_load_X1_wayOf
set_option maxRecDepth 20000 in
theorem ggX8_load_X7_fewest : GoodIn wsX8_load wsX7_fewest := goodIn_r _ [36, 37, 38, 39, 40, 41, 42, 43, 44, 45, 35, 46, 47, 48, 49, 10, 11, 6, 12, 13, 14, 15, 16, 17, 18, 19, 20, 21, 22, 23, 24, 25, 26, 27, 28, 29, 30, 31, 50, 51, 52, 53, 54, 55, 56, 57, 58, 59, 60, 61, 88, 89, 90, 91, 92, 93, 82, 83, 84, 85, 86, 87, 73, 74, 75, 76, 77, 78, 79, 80, 81] (by decide +kernel) (by decide +kernel)
set_option maxRecDepth 20000 in
theorem gX8_load_X7_fewest : GoodIn wsX8_load (wsV RX8 196 RX7 yX7_fewest wsX7_fewest) := goodIn_app (goodIn_of _ (by decide +kernel)) ggX8_load_X7_fewest
set_option maxRecDepth 20000 in
theorem ggX8_load_X7_loadOf : GoodIn wsX8_load wsX7_loadOf := goodIn_r _ [65, 39, 42, 53, 88, 89, 90, 91, 92, 93] (by decide +kernel) (by decide +kernel)
set_option maxRecDepth 20000 in
theorem gX8_load_X7_loadOf : GoodIn wsX8_load (wsV RX8 199 RX7 yX7_loadOf wsX7_loadOf) := goodIn_app (goodIn_of _ (by decide +kernel)) ggX8_load_X7_loadOf
set_option maxRecDepth 20000 in
theorem ggX8_sheet_X8_isWithin : GoodIn wsX8_sheet wsX8_isWithin := goodIn_r _ [5] (by decide +kernel) (by decide +kernel)
set_option maxRecDepth 20000 in
theorem gX8_sheet_X8_isWithin : GoodIn wsX8_sheet (va_wsS RX8 83 yX8_isWithin wsX8_isWithin) := goodIn_app (goodIn_of _ (by decide +kernel)) ggX8_sheet_X8_isWithin
set_option maxRecDepth 20000 in
theorem ggX8_sheet_X8_isLane : GoodIn wsX8_sheet wsX8_isLane := goodIn_r _ [8, 2, 3, 4, 5] (by decide +kernel) (by decide +kernel)
set_option maxRecDepth 20000 in
theorem gX8_sheet_X8_isLane : GoodIn wsX8_sheet (va_wsS RX8 202 yX8_isLane wsX8_isLane) := goodIn_app (goodIn_of _ (by decide +kernel)) ggX8_sheet_X8_isLane
set_option maxRecDepth 20000 in
theorem ggX8_sheet_X4_renew : GoodIn wsX8_sheet wsX4_renew := goodIn_r _ [13, 14, 15, 16, 24, 25, 26] (by decide +kernel) (by decide +kernel)
set_option maxRecDepth 20000 in
theorem gX8_sheet_X4_renew : GoodIn wsX8_sheet (wsV RX8 205 RX4 yX4_renew wsX4_renew) := goodIn_app (goodIn_of _ (by decide +kernel)) ggX8_sheet_X4_renew
set_option maxRecDepth 20000 in
theorem ggX8_lay_X8_isWithin : GoodIn wsX8_lay wsX8_isWithin := goodIn_r _ [6] (by decide +kernel) (by decide +kernel)
set_option maxRecDepth 20000 in
theorem gX8_lay_X8_isWithin : GoodIn wsX8_lay (va_wsS RX8 83 yX8_isWithin wsX8_isWithin) := goodIn_app (goodIn_of _ (by decide +kernel)) ggX8_lay_X8_isWithin
set_option maxRecDepth 20000 in
theorem ggX8_lay_X4_hasCell : GoodIn wsX8_lay wsX4_hasCell := goodIn_r _ [11, 12, 26, 27, 28] (by decide +kernel) (by decide +kernel)
set_option maxRecDepth 20000 in
theorem gX8_lay_X4_hasCell : GoodIn wsX8_lay (wsV RX8 212 RX4 yX4_hasCell wsX4_hasCell) := goodIn_app (goodIn_of _ (by decide +kernel)) ggX8_lay_X4_hasCell
set_option maxRecDepth 20000 in
theorem ggX8_lay_X4_put : GoodIn wsX8_lay wsX4_put := goodIn_r _ [16, 17, 18, 26, 27, 28] (by decide +kernel) (by decide +kernel)
set_option maxRecDepth 20000 in
theorem gX8_lay_X4_put : GoodIn wsX8_lay (wsV RX8 215 RX4 yX4_put wsX4_put) := goodIn_app (goodIn_of _ (by decide +kernel)) ggX8_lay_X4_put
set_option maxRecDepth 20000 in
theorem ggX8_worths_X1_hasHeir : GoodIn wsX8_worths wsX1_hasHeir := goodIn_r _ [8, 9, 43, 44, 45, 46, 47, 48, 49, 50, 51] (by decide +kernel) (by decide +kernel)
set_option maxRecDepth 20000 in
theorem gX8_worths_X1_hasHeir : GoodIn wsX8_worths (wsV RX8 101 RX1 yX1_hasHeir wsX1_hasHeir) := goodIn_app (goodIn_of _ (by decide +kernel)) ggX8_worths_X1_hasHeir
set_option maxRecDepth 20000 in
theorem ggX8_worths_X8_isWithin : GoodIn wsX8_worths wsX8_isWithin := goodIn_r _ [13] (by decide +kernel) (by decide +kernel)
set_option maxRecDepth 20000 in
theorem gX8_worths_X8_isWithin : GoodIn wsX8_worths (va_wsS RX8 83 yX8_isWithin wsX8_isWithin) := goodIn_app (goodIn_of _ (by decide +kernel)) ggX8_worths_X8_isWithin
set_option maxRecDepth 20000 in
theorem ggX8_worths_X8_isLane : GoodIn wsX8_worths wsX8_isLane := goodIn_r _ [16, 10, 11, 12, 13] (by decide +kernel) (by decide +kernel)
set_option maxRecDepth 20000 in
theorem gX8_worths_X8_isLane : GoodIn wsX8_worths (va_wsS RX8 202 yX8_isLane wsX8_isLane) := goodIn_app (goodIn_of _ (by decide +kernel)) ggX8_worths_X8_isLane
set_option maxRecDepth 20000 in
theorem ggX8_worths_X4_refusal : GoodIn wsX8_worths wsX4_refusal := goodIn_r _ [21, 22, 23, 24, 25, 26, 20, 27, 28, 11, 12, 13, 52, 53, 54] (by decide +kernel) (by decide +kernel)
set_option maxRecDepth 20000 in
theorem gX8_worths_X4_refusal : GoodIn wsX8_worths (wsV RX8 218 RX4 yX4_refusal wsX4_refusal) := goodIn_app (goodIn_of _ (by decide +kernel)) ggX8_worths_X4_refusal
set_option maxRecDepth 20000 in
theorem ggX8_worths_X1_takeWorths : GoodIn wsX8_worths wsX1_takeWorths := goodIn_r _ [32, 33, 34, 35, 43, 44, 45, 46, 47, 48, 49, 50, 51, 52, 53, 54] (by decide +kernel) (by decide +kernel)
set_option maxRecDepth 20000 in
theorem gX8_worths_X1_takeWorths : GoodIn wsX8_worths (wsV RX8 222 RX1 yX1_takeWorths wsX1_takeWorths) := goodIn_app (goodIn_of _ (by decide +kernel)) ggX8_worths_X1_takeWorths
set_option maxRecDepth 20000 in
theorem ggX8_count_X1_countOnWay : GoodIn wsX8_count wsX1_countOnWay := goodIn_r _ [10, 11, 12, 13, 14, 9, 15, 16, 17, 18, 19, 20, 21, 22, 23, 24, 25, 26, 27, 28, 29, 30, 31, 32, 33, 34, 42, 43, 44, 45, 46, 47, 48, 49, 50, 51, 52, 53, 54, 55, 56] (by decide +kernel) (by decide +kernel)
set_option maxRecDepth 20000 in
theorem gX8_count_X1_countOnWay : GoodIn wsX8_count (wsV RX8 131 RX1 yX1_countOnWay wsX1_countOnWay) := goodIn_app (goodIn_of _ (by decide +kernel)) ggX8_count_X1_countOnWay
set_option maxRecDepth 20000 in
theorem ggX8_isLane_X8_isWithin : GoodIn wsX8_isLane wsX8_isWithin := goodIn_r _ [4] (by decide +kernel) (by decide +kernel)
set_option maxRecDepth 20000 in
theorem gX8_isLane_X8_isWithin : GoodIn wsX8_isLane (va_wsS RX8 83 yX8_isWithin wsX8_isWithin) := goodIn_app (goodIn_of _ (by decide +kernel)) ggX8_isLane_X8_isWithin
end
section
/-! the layer: the contents of a side's cells as one function; contracts and calls over a whole side -/
abbrev Cn : Type := Nat → Nat → Int32
def upC (σ : Cn) (k : Nat) (f : Nat → Int32) : Cn := fun j => if j = k then f else σ j
abbrev zQi (D : va_G) (tys : List (ClassId × FieldType)) (wf : Cn → va_W) (A : Nat → Prop) (post : Int32 → Cn → Prop) : Array Value → State → Outcome → State → Prop := va_Qi post (fun (σ' : Cn) (t : State) => va_P D vwCl (wf σ') t.heap ∧ va_K D vwCl tys t ∧ va_D A (wf σ')) A
abbrev zQv (D : va_G) (tys : List (ClassId × FieldType)) (wf : Cn → va_W) (A : Nat → Prop) (post : Cn → Prop) : Array Value → State → Outcome → State → Prop := va_Qv post (fun (σ' : Cn) (t : State) => va_P D vwCl (wf σ') t.heap ∧ va_K D vwCl tys t ∧ va_D A (wf σ')) A
/-- what is said of the machine's tables and of the cells that nobody writes: it stays -/
def zNok (N : (Nat → Prop) → State → Prop) : Prop := (∀ (A : Nat → Prop) (u U : State), u.vm = U.vm → u.heap = U.heap → N A u → N A U) ∧ ∀ (A B : Nat → Prop) (s U : State), s.WarmedH U.vm → (∀ q, B q → A q) → s.heap.size ≤ U.heap.size → (∀ q : Nat, q < s.heap.size → ¬ A q → U.heap[q]? = s.heap[q]?) → N A s → N B U
abbrev zPc (D : va_G) (tys : List (ClassId × FieldType)) (N : (Nat → Prop) → State → Prop) (wf : Cn → va_W) (σ : Cn) (sz : Nat) (av : List Value) : Array Value → State → Prop := va_Pc av (fun U => U.heap.size = sz ∧ va_P D vwCl (wf σ) U.heap ∧ va_K D vwCl tys U ∧ va_D (fun _ => True) (wf σ) ∧ N (va_A (wf σ) sz) U)
def zNw : List Cond := [.methodLinkNest RX2 90 yX8_isWithin RX8, .methodLinkNest RX4 26 yX8_isWithin RX8, .methodLinkNest RX8 9 yX5_init RX8, .methodLinkNest RX8 67 yX4_init RX8, .fieldLinkNest RX2 9 RX8 "USUAL" "[I" RX8, .fieldLinkNest RX2 84 RX8 "LEAST" "[I" RX8, .fieldLinkNest RX2 87 RX8 "MOST" "[I" RX8, .fieldLinkNest RX2 94 RX8 "WAY_OF_NAME" "[I" RX8]
/-- the links among the nested classes -/
def zN (U : State) : Prop := ∀ w ∈ zNw, va_Nw w U
theorem zN_same {u U : State} (h : u.vm = U.vm) (hN : zN u) : zN U := fun w hw => va_Nw.same (by revert w; decide) h (hN w hw)
theorem zN_warm {s U : State} (h : s.WarmedH U.vm) (hN : zN s) : zN U := by
  intro w hw
  have q := hN w hw
  simp only [zNw, List.mem_cons, List.not_mem_nil, or_false] at hw
  rcases hw with rfl | rfl | rfl | rfl | rfl | rfl | rfl | rfl
  · exact va_Nw.warmM h q
  · exact va_Nw.warmM h q
  · exact va_Nw.warmM h q
  · exact va_Nw.warmM h q
  · exact va_Nw.warmF h q
  · exact va_Nw.warmF h q
  · exact va_Nw.warmF h q
  · exact va_Nw.warmF h q
section ZL
variable {p : Program} {l : Launch} {e : Env} {R : Room} {s : State} {m : MethodId} {args : Array Value} {below : List Frame} {meth : Method} {c : Code} {H H0 : Heap} {locs : List Loc} {cells slots : Nat} {Q : State → Prop}
variable {pc : Nat} {ls : Array Slot} {rest st0 : List Value} {a0 : Array Value} {A : Nat → Prop} {D : va_G} {tys : List (ClassId × FieldType)} {wf : Cn → va_W} {σ : Cn}
theorem zfree (hD : va_D A (wf σ)) (hS : va_S A H0 H locs) (hA : ∀ q, H0.size ≤ q → A q) : ∀ q, va_A (wf σ) H.size q → A q := by
  intro q h
  rcases h with ⟨k, e, h⟩ | h
  · exact hD.2 k (q, e) h
  · exact hA q (Nat.le_trans hS.1 h)
theorem zcalli {post : Int32 → Cn → Prop} (hr : va_Run p l e R s m args below meth c H locs cells slots 0 0 (F0 m pc ls st0) rest (zQi D tys wf (va_A (wf σ) H.size) post a0) (va_A (wf σ) H.size)) (hD : va_D A (wf σ)) (hS : va_S A H0 H locs) (hA : ∀ q, H0.size ≤ q → A q)
    (kk : ∀ (r : Int32) (σ' : Cn) (H1 : Heap) (locs1 : List Loc), post r σ' → va_P D vwCl (wf σ') H1 → va_D A (wf σ') → va_S A H0 H1 locs1 → W p l e R s m args below meth c H1 locs1 cells slots Q (F0 m (pc + 3) ls (.int r :: rest))) : W p l e R s m args below meth c H locs cells slots Q (F0 m pc ls st0) := by
  have hF := zfree hD hS hA
  refine va_calli hr hS (fun q _ h => hF q h) hF (fun r u t H1 locs1 ht hvm hw hB hz1 hk1 hS1 => ?_)
  obtain ⟨hP1, hK1, hD1⟩ := hB
  rw [ht] at hP1
  exact kk r u H1 locs1 hw hP1 (hD1.weaken (fun _ _ _ h => hF _ h)) hS1
theorem zcallv {post : Cn → Prop} (hr : va_Run p l e R s m args below meth c H locs cells slots 0 0 (F0 m pc ls st0) rest (zQv D tys wf (va_A (wf σ) H.size) post a0) (va_A (wf σ) H.size)) (hD : va_D A (wf σ)) (hS : va_S A H0 H locs) (hA : ∀ q, H0.size ≤ q → A q)
    (kk : ∀ (σ' : Cn) (H1 : Heap) (locs1 : List Loc), post σ' → va_P D vwCl (wf σ') H1 → va_D A (wf σ') → va_S A H0 H1 locs1 → W p l e R s m args below meth c H1 locs1 cells slots Q (F0 m (pc + 3) ls rest)) : W p l e R s m args below meth c H locs cells slots Q (F0 m pc ls st0) := by
  have hF := zfree hD hS hA
  refine va_callv hr hS (fun q _ h => hF q h) hF (fun u t H1 locs1 ht hvm hw hB hz1 hk1 hS1 => ?_)
  obtain ⟨hP1, hK1, hD1⟩ := hB
  rw [ht] at hP1
  exact kk u H1 locs1 hw hP1 (hD1.weaken (fun _ _ _ h => hF _ h)) hS1
theorem zpreV {N : (Nat → Prop) → State → Prop} {b q0 ci : Nat} {C : String} {T : u_T} {n : Nat} {fs : List Value} {As : List Value} (hok : zNok N) (hN : N A s) (hS : va_S A s.heap H locs) (hA : ∀ q, s.heap.size ≤ q → A q) (hK : va_K D vwCl tys s) (hP : va_P D vwCl (wf σ) H) (hD : va_D A (wf σ)) (he : (wf σ)[q0]? = some (b, .inr (ci, fs))) (hc : vwCl[ci]? = some (C, T, n)) : PreV s H C b (zPc D tys N wf σ H.size (.ref b :: As)) As :=
  ⟨fun a U g mk q => by obtain ⟨x0, x1, xP, xK, xD, xN⟩ := q; exact ⟨x0, x1, xP, va_K.moved (u := U) (U := U.calling g mk a) (Vm.Alike.refl U.vm) xK, xD, hok.1 _ U (U.calling g mk a) rfl rfl xN⟩, va_recv hK hP hc he, fun U hU hW => ⟨rfl, by rw [hU], by rw [hU]; exact hP, va_K.moved hW.alike hK, hD.weaken (fun _ _ _ _ => trivial), hok.2 A _ s U hW (zfree hD hS hA) (by rw [hU]; exact hS.1) (by rw [hU]; exact hS.2.1) hN⟩⟩
theorem zpreS {N : (Nat → Prop) → State → Prop} {As : List Value} (hok : zNok N) (hN : N A s) (hS : va_S A s.heap H locs) (hA : ∀ q, s.heap.size ≤ q → A q) (hK : va_K D vwCl tys s) (hP : va_P D vwCl (wf σ) H) (hD : va_D A (wf σ)) : PreS s H (zPc D tys N wf σ H.size As) As :=
  ⟨fun a U g mk q => by obtain ⟨x0, x1, xP, xK, xD, xN⟩ := q; exact ⟨x0, x1, xP, va_K.moved (u := U) (U := U.calling g mk a) (Vm.Alike.refl U.vm) xK, xD, hok.1 _ U (U.calling g mk a) rfl rfl xN⟩, fun U hU hW => ⟨rfl, by rw [hU], by rw [hU]; exact hP, va_K.moved hW.alike hK, hD.weaken (fun _ _ _ _ => trivial), hok.2 A _ s U hW (zfree hD hS hA) (by rw [hU]; exact hS.1) (by rw [hU]; exact hS.2.1) hN⟩⟩
/-- a row out of an array of arrays -/
theorem zald {cc : ByteArray} {a : Nat} {cl : List vw_C} {ws : va_W} (hexec : p.tables.exec = Jvm.exec) (hb : c.code = cc) (hK : va_K D cl tys s) (hP : va_P D cl ws H) (q0 t0 : Nat) {cA : ClassId} {ty : FieldType} {n : Nat} {f : Nat → Option Nat} (ha : ws[q0]? = some (a, .inl (cA, n, .inr (.inr (.inr (.inr f)))))) (ht : tys[t0]? = some (cA, .array ty)) {i : Int32} (hin : vp_in i n) {b : Nat} (hf : f i.toNatClampNeg = some b) (hdg : decode cc pc = .ok (.aaload, 1))
    (kk : W p l e R s m args below meth c H locs cells slots Q (F0 m (pc + 1) ls (.ref b :: rest))) : W p l e R s m args below meth c H locs cells slots Q (F0 m pc ls (.int i :: .ref a :: rest)) := by
  have hlt : i.toNatClampNeg < n := Nat.not_le.mp fun q => hin (Or.inr q)
  exact W.aald (v := .ref b) (ty := .array ty) hexec hb (hP q0 _ ha) ((hK.2 t0 _ ht).1 n (fun j => va_rf (f j))) rfl (fun q => by cases q) (by show ¬ (i < 0 ∨ (arrV _ _ _).slots.size ≤ _); rw [arrV_size]; exact hin) (by show (arrV _ _ _).slots[_]? = _; rw [arrV_read _ _ hlt, hf]; rfl) rfl rfl hdg kk
end ZL
/-! whole numbers: an Int32 by its Int -/
theorem zadd (x y : Int32) : (x + y).toInt = (x.toInt + y.toInt + 2147483648) % 4294967296 - 2147483648 := by
  rw [Int32.toInt_add, Int.bmod_def]; omega
theorem zsub (x y : Int32) : (x - y).toInt = (x.toInt - y.toInt + 2147483648) % 4294967296 - 2147483648 := by
  rw [Int32.toInt_sub, Int.bmod_def]; omega
theorem zmul (x y : Int32) : (x * y).toInt = (x.toInt * y.toInt + 2147483648) % 4294967296 - 2147483648 := by
  rw [Int32.toInt_mul, Int.bmod_def]; generalize x.toInt * y.toInt = z; omega
theorem zrng (x : Int32) : -2147483648 ≤ x.toInt ∧ x.toInt < 2147483648 := by
  have h1 := x.le_toInt; have h2 := x.toInt_lt; omega
theorem zlt {x y : Int32} {a b : Int} (hx : x.toInt = a) (hy : y.toInt = b) (h : x < y) : a < b := by rw [← hx, ← hy]; exact Int32.lt_iff_toInt_lt.mp h
theorem znlt {x y : Int32} {a b : Int} (hx : x.toInt = a) (hy : y.toInt = b) (h : ¬ x < y) : b ≤ a := by rw [← hx, ← hy]; exact Int.not_lt.mp (fun q => h (Int32.lt_iff_toInt_lt.mpr q))
theorem zle {x y : Int32} {a b : Int} (hx : x.toInt = a) (hy : y.toInt = b) (h : x ≤ y) : a ≤ b := by rw [← hx, ← hy]; exact Int32.le_iff_toInt_le.mp h
theorem znle {x y : Int32} {a b : Int} (hx : x.toInt = a) (hy : y.toInt = b) (h : ¬ x ≤ y) : b < a := by rw [← hx, ← hy]; exact Int.not_le.mp (fun q => h (Int32.le_iff_toInt_le.mpr q))
theorem zeq {x y : Int32} {a b : Int} (hx : x.toInt = a) (hy : y.toInt = b) (h : x = y) : a = b := by rw [← hx, ← hy, h]
theorem zneq {x y : Int32} {a b : Int} (hx : x.toInt = a) (hy : y.toInt = b) (h : ¬ x = y) : a ≠ b := by rw [← hx, ← hy]; exact fun q => h (Int32.toInt_inj.mp q)
theorem zin {x : Int32} {n : Nat} (h1 : 0 ≤ x.toInt) (h2 : x.toInt < n) : vp_in x n := vp_in_iff.mpr ⟨h1, h2⟩
theorem zcl {x : Int32} (h : 0 ≤ x.toInt) : (x.toNatClampNeg : Int) = x.toInt := by
  show ((x.toInt.toNat : Nat) : Int) = x.toInt
  omega
end
section
/-! the cells of the two sides -/
def zro (f : Nat → Nat) (n : Nat) : Nat → Option Nat := fun i => if i < n then some (f i) else none
theorem zro_in {f : Nat → Nat} {n i : Nat} (h : i < n) : zro f n i = some (f i) := if_pos h
def wX (a : Nat → Nat) (cB cI cS cII : ClassId) (σ : Cn) : va_W := [(a 0, .inr (8, [.ref (a 1), .ref (a 2), .ref (a 4), .ref (a 5), .ref (a 6), .ref (a 7), .ref (a 37)])), (a 1, .inr (5, [.ref (a 12), .int (σ 1 1)])), (a 2, .inr (2, [.ref (a 13), .int (σ 2 1), .int (σ 2 2), .ref (a 3), .ref (a 14), .int (σ 2 5)])), (a 3, .inr (6, [.ref (a 1), .int (σ 3 1), .int (σ 3 2), .int (σ 3 3), .int (σ 3 4)])), (a 4, .inr (1, [.ref (a 2), .int (σ 4 1), .int (σ 4 2), .ref (a 15), .ref (a 16), .ref (a 17), .ref (a 18), .ref (a 19), .ref (a 20)])), (a 5, .inr (3, [.ref (a 4), .ref (a 25), .int (σ 5 2), .ref (a 26)])), (a 6, .inr (0, [.ref (a 4), .ref (a 5), .ref (a 27), .ref (a 28), .ref (a 33), .int (σ 6 5), .int (σ 6 6), .int (σ 6 7)])), (a 7, .inr (7, [.ref (a 4), .ref (a 2), .ref (a 34), .int (σ 7 3), .ref (a 35), .ref (a 36)])), (a 8, .inr (4, [.int (σ 8 0), .int (σ 8 1), .ref (a 38)])), (a 9, .inr (4, [.int (σ 9 0), .int (σ 9 1), .ref (a 39)])), (a 10, .inr (4, [.int (σ 10 0), .int (σ 10 1), .ref (a 40)])), (a 11, .inr (4, [.int (σ 11 0), .int (σ 11 1), .ref (a 41)])), (a 12, .inl (cB, 160, .inl (σ 12))), (a 13, .inl (cI, 7, .inl (σ 13))), (a 14, .inl (cI, 7, .inl (σ 14))), (a 15, .inl (cI, 10, .inl (σ 15))), (a 16, .inl (cI, 10, .inl (σ 16))), (a 17, .inl (cI, 10, .inl (σ 17))), (a 18, .inl (cI, 10, .inl (σ 18))), (a 19, .inl (cI, 10, .inl (σ 19))), (a 20, .inl (cII, 4, .inr (.inr (.inr (.inr (zro (fun i => a (21 + i)) 4)))))), (a 21, .inl (cI, 10, .inl (σ 21))), (a 22, .inl (cI, 10, .inl (σ 22))), (a 23, .inl (cI, 10, .inl (σ 23))), (a 24, .inl (cI, 10, .inl (σ 24))), (a 25, .inl (cI, 10, .inl (σ 25))), (a 26, .inl (cI, 10, .inl (σ 26))), (a 27, .inl (cI, 4, .inl (σ 27))), (a 28, .inl (cII, 4, .inr (.inr (.inr (.inr (zro (fun i => a (29 + i)) 4)))))), (a 29, .inl (cI, 11, .inl (σ 29))), (a 30, .inl (cI, 11, .inl (σ 30))), (a 31, .inl (cI, 11, .inl (σ 31))), (a 32, .inl (cI, 11, .inl (σ 32))), (a 33, .inl (cI, 11, .inl (σ 33))), (a 34, .inl (cI, 10, .inl (σ 34))), (a 35, .inl (cI, 10, .inl (σ 35))), (a 36, .inl (cI, 10, .inl (σ 36))), (a 37, .inl (cS, 4, .inr (.inr (.inr (.inr (zro (fun i => a (8 + i)) 4)))))), (a 38, .inl (cI, 60, .inl (σ 38))), (a 39, .inl (cI, 60, .inl (σ 39))), (a 40, .inl (cI, 60, .inl (σ 40))), (a 41, .inl (cI, 60, .inl (σ 41)))]
def wM (a : Nat → Nat) (cI : ClassId) (σ : Cn) : va_W := [(a 0, .inr (9, [.ref (a 1), .int (σ 0 1), .int (σ 0 2), .int (σ 0 3), .int (σ 0 4), .int (σ 0 5), .int (σ 0 6), .int (σ 0 7), .ref (a 2), .ref (a 3), .int (σ 0 10), .int (σ 0 11), .ref (a 4), .ref (a 5), .ref (a 6), .ref (a 7), .ref (a 8), .ref (a 9), .int (σ 0 18), .ref (a 10), .ref (a 11), .int (σ 0 21), .ref (a 12), .ref (a 13), .ref (a 14), .ref (a 15), .ref (a 16), .ref (a 17)])), (a 1, .inl (cI, 160, .inl (σ 1))), (a 2, .inl (cI, 7, .inl (σ 2))), (a 3, .inl (cI, 7, .inl (σ 3))), (a 4, .inl (cI, 10, .inl (σ 4))), (a 5, .inl (cI, 10, .inl (σ 5))), (a 6, .inl (cI, 10, .inl (σ 6))), (a 7, .inl (cI, 10, .inl (σ 7))), (a 8, .inl (cI, 10, .inl (σ 8))), (a 9, .inl (cI, 40, .inl (σ 9))), (a 10, .inl (cI, 10, .inl (σ 10))), (a 11, .inl (cI, 10, .inl (σ 11))), (a 12, .inl (cI, 10, .inl (σ 12))), (a 13, .inl (cI, 10, .inl (σ 13))), (a 14, .inl (cI, 11, .inl (σ 14))), (a 15, .inl (cI, 4, .inl (σ 15))), (a 16, .inl (cI, 4, .inl (σ 16))), (a 17, .inl (cI, 240, .inl (σ 17)))]
abbrev zT (cB cI cS cII : ClassId) : List (ClassId × FieldType) := [(cB, .byte), (cI, .int), (cS, .object "HouseSorted$Sheet"), (cII, .array .int)]
def upR (σ : Cn) (b n : Nat) (g : Nat → Nat → Int32) : Cn := fun j => if b ≤ j ∧ j < b + n then g (j - b) else σ j
theorem wX_row21 {a : Nat → Nat} {cB cI cS cII : ClassId} {σ : Cn} {j : Nat} (h : j < 4) : (wX a cB cI cS cII σ)[21 + j]? = some (a (21 + j), .inl (cI, 10, .inl (σ (21 + j)))) := by
  match j, h with
  | 0, _ => rfl
  | 1, _ => rfl
  | 2, _ => rfl
  | 3, _ => rfl
theorem wX_row29 {a : Nat → Nat} {cB cI cS cII : ClassId} {σ : Cn} {j : Nat} (h : j < 4) : (wX a cB cI cS cII σ)[29 + j]? = some (a (29 + j), .inl (cI, 11, .inl (σ (29 + j)))) := by
  match j, h with
  | 0, _ => rfl
  | 1, _ => rfl
  | 2, _ => rfl
  | 3, _ => rfl
theorem wX_set21 {a : Nat → Nat} {cB cI cS cII : ClassId} {σ : Cn} {j : Nat} {f : Nat → Int32} (h : j < 4) : (wX a cB cI cS cII σ).set (21 + j) (a (21 + j), .inl (cI, 10, .inl f)) = wX a cB cI cS cII (upR σ 21 4 (fun i => if i = j then f else σ (21 + i))) := by
  match j, h with
  | 0, _ => rfl
  | 1, _ => rfl
  | 2, _ => rfl
  | 3, _ => rfl
theorem wX_set29 {a : Nat → Nat} {cB cI cS cII : ClassId} {σ : Cn} {j : Nat} {f : Nat → Int32} (h : j < 4) : (wX a cB cI cS cII σ).set (29 + j) (a (29 + j), .inl (cI, 11, .inl f)) = wX a cB cI cS cII (upR σ 29 4 (fun i => if i = j then f else σ (29 + i))) := by
  match j, h with
  | 0, _ => rfl
  | 1, _ => rfl
  | 2, _ => rfl
  | 3, _ => rfl
theorem zmax {x y v : Int32} {a b : Int} (hx : x.toInt = a) (hy : y.toInt = b) (h : v = if x < y then y else x) : v.toInt = max a b := by
  rw [h, ← hx, ← hy]; split
  · rename_i q; have := Int32.lt_iff_toInt_lt.mp q; omega
  · rename_i q; have := Int.not_lt.mp (fun z => q (Int32.lt_iff_toInt_lt.mpr z)); omega
theorem zmin {x y v : Int32} {a b : Int} (hx : x.toInt = a) (hy : y.toInt = b) (h : v = if y < x then y else x) : v.toInt = min a b := by
  rw [h, ← hx, ← hy]; split
  · rename_i q; have := Int32.lt_iff_toInt_lt.mp q; omega
  · rename_i q; have := Int.not_lt.mp (fun z => q (Int32.lt_iff_toInt_lt.mpr z)); omega
section ZL2
variable {p : Program} {l : Launch} {e : Env} {R : Room} {s : State} {m : MethodId} {args : Array Value} {below : List Frame} {meth : Method} {c : Code} {H : Heap} {locs : List Loc} {cells slots : Nat} {Q : State → Prop}
variable {pc : Nat} {ls : Array Slot} {rest : List Value} {D : va_G} {tys : List (ClassId × FieldType)}
/-- an object out of an array of them -/
theorem zaldO {cc : ByteArray} {a : Nat} {cl : List vw_C} {ws : va_W} (hexec : p.tables.exec = Jvm.exec) (hb : c.code = cc) (hK : va_K D cl tys s) (hP : va_P D cl ws H) (q0 t0 : Nat) {cA : ClassId} {C : String} {n : Nat} {f : Nat → Option Nat} (ha : ws[q0]? = some (a, .inl (cA, n, .inr (.inr (.inr (.inr f)))))) (ht : tys[t0]? = some (cA, .object C)) {i : Int32} (hin : vp_in i n) {b : Nat} (hf : f i.toNatClampNeg = some b) (hdg : decode cc pc = .ok (.aaload, 1))
    (kk : W p l e R s m args below meth c H locs cells slots Q (F0 m (pc + 1) ls (.ref b :: rest))) : W p l e R s m args below meth c H locs cells slots Q (F0 m pc ls (.int i :: .ref a :: rest)) :=
  va_aldq hexec hb hK hP q0 t0 ha ht hin hdg (by rw [hf]; exact kk)
end ZL2
theorem zbool {v : Int32} (h : v.toInt = 0 ∨ v.toInt = 1) : narrow .boolean (.int v) = .int v := by
  rcases h with h | h
  · rw [show v = 0 from Int32.toInt_inj.mp (h.trans (by decide))]; decide +kernel
  · rw [show v = 1 from Int32.toInt_inj.mp (h.trans (by decide))]; decide +kernel
theorem zrem {x y w : Int32} (hx : 0 ≤ x.toInt) (hy : 0 < y.toInt) (h : w = x - x / y * y) : 0 ≤ w.toInt ∧ w.toInt < y.toInt ∧ w.toInt = x.toInt % y.toInt := by
  obtain ⟨i, hi, rfl⟩ := nI_of (x := x) (fun q => by have := zlt (a := x.toInt) (b := 0) rfl (by decide) q; omega)
  obtain ⟨j, hj, rfl⟩ := nI_of (x := y) (fun q => by have := zlt (a := y.toInt) (b := 0) rfl (by decide) q; omega)
  rw [nI_toInt hj] at hy
  have h0 : 0 < j := by omega
  rw [h, pk_rem hi h0 hj, nI_toInt (Nat.lt_of_le_of_lt (Nat.mod_le _ _) hi), nI_toInt hj, nI_toInt hi]
  have := Nat.mod_lt i h0
  omega
theorem zdiv {x y w : Int32} (hx : 0 ≤ x.toInt) (hy : 0 < y.toInt) (h : w = x / y) : 0 ≤ w.toInt ∧ w.toInt ≤ x.toInt ∧ w.toInt = x.toInt / y.toInt := by
  obtain ⟨i, hi, rfl⟩ := nI_of (x := x) (fun q => by have := zlt (a := x.toInt) (b := 0) rfl (by decide) q; omega)
  obtain ⟨j, hj, rfl⟩ := nI_of (x := y) (fun q => by have := zlt (a := y.toInt) (b := 0) rfl (by decide) q; omega)
  rw [nI_toInt hj] at hy
  have h0 : 0 < j := by omega
  rw [h, pk_div hi h0 hj, nI_toInt (Nat.lt_of_le_of_lt (Nat.div_le_self _ _) hi), nI_toInt hj, nI_toInt hi]
  exact ⟨Int.natCast_nonneg _, Int.ofNat_le.mpr (Nat.div_le_self i j), by first | exact Int.natCast_ediv i j | exact Int.ofNat_ediv i j | rfl⟩
theorem upC_id (S : Cn) (k : Nat) : S = upC S k (S k) := funext fun j => by
  unfold upC; split
  · rename_i q; rw [q]
  · rfl
end
section
/-! what the house's cells say of a THING -/
def xMark (σ : Cn) (t : Nat) (k : Int32) : Prop := ¬ (σ 19 t &&& k) = 0
def xKept (σ : Cn) (t : Nat) : Prop := xMark σ t 1 ∧ σ 18 t ≤ σ 13 0
def xWant (σ : Cn) (t : Nat) : Prop := ∃ h : Nat, (h : Int) < (σ 4 1).toInt ∧ 0 < σ (21 + h) t
/-- the WAY of a THING -/
def xWay (σ : Cn) (t : Nat) (r : Int32) : Prop :=
  (xMark σ t 4 ∧ r = σ 13 6) ∨ (¬ xMark σ t 4 ∧ xMark σ t 2 ∧ r = σ 13 5) ∨ (¬ xMark σ t 4 ∧ ¬ xMark σ t 2 ∧ xKept σ t ∧ r = 4) ∨ (¬ xMark σ t 4 ∧ ¬ xMark σ t 2 ∧ ¬ xKept σ t ∧ xMark σ t 8 ∧ r = 0) ∨
  (¬ xMark σ t 4 ∧ ¬ xMark σ t 2 ∧ ¬ xKept σ t ∧ ¬ xMark σ t 8 ∧ ¬ σ 16 t < σ 13 1 ∧ r = 1) ∨ (¬ xMark σ t 4 ∧ ¬ xMark σ t 2 ∧ ¬ xKept σ t ∧ ¬ xMark σ t 8 ∧ σ 16 t < σ 13 1 ∧ xWant σ t ∧ r = 0) ∨
  (¬ xMark σ t 4 ∧ ¬ xMark σ t 2 ∧ ¬ xKept σ t ∧ ¬ xMark σ t 8 ∧ σ 16 t < σ 13 1 ∧ ¬ xWant σ t ∧ ¬ σ 16 t < σ 13 2 ∧ r = 2) ∨ (¬ xMark σ t 4 ∧ ¬ xMark σ t 2 ∧ ¬ xKept σ t ∧ ¬ xMark σ t 8 ∧ σ 16 t < σ 13 1 ∧ ¬ xWant σ t ∧ σ 16 t < σ 13 2 ∧ r = 3)

abbrev RM_X1_hasHeir : Room := { frames := 0, cells := 0, slots := 0, locals := 0 }
set_option maxHeartbeats 4000000 in
set_option maxRecDepth 100000 in
theorem c_X1_hasHeir (l : Launch) (dC : Nat → ClassId) (dI : Nat → Nat → Nat) (cB cI cS cII : ClassId) (a : Nat → Nat) (N : (Nat → Prop) → State → Prop) (hok : zNok N) (hn : ∀ A U, N A U → zN U) (σ : Cn) (sz : Nat) (x1 : Int32)  : Met l yX1_hasHeir wsX1_hasHeir RM_X1_hasHeir (zPc (dC, dI) (zT cB cI cS cII) N (wX a cB cI cS cII) σ sz [.ref (a 4), .int x1]) (zQi (dC, dI) (zT cB cI cS cII) (wX a cB cI cS cII) (va_A (wX a cB cI cS cII σ) sz) (fun (r : Int32) (σ1 : Cn) => σ1 = σ ∧ ((r : Int32).toInt = 1 ∧ 0 ≤ x1.toInt ∧ x1.toInt < (σ 4 1).toInt ∨ (r : Int32).toInt = 0 ∧ ¬ (0 ≤ x1.toInt ∧ x1.toInt < (σ 4 1).toInt)))) 0 0 (va_A (wX a cB cI cS cII σ) sz) := by
  refine Met.ofW (cc := cX1_hasHeir) (maxL := 2) (ret := (some .boolean)) (by decide) rfl ?_
  intro p e s m args below meth c s₁ B hml hv
  obtain ⟨rfl, hsz, hP, hK, hD0, hN⟩ := hv
  have hx := B.exec
  have hb := B.bytes
  have hr := B.returns
  have hts := atoms_spec (ws := wsX1_hasHeir) B.pre
  have hown : s.vm.findClass RX1 = some m.cls := findClass_of_methodNamed B.named
  have hlocks := B.notSynchronized
  subst hsz
  have hD := hD0.self (sz := s.heap.size)
  generalize hAe : va_A (wX a cB cI cS cII σ) s.heap.size = A at hD hN ⊢
  have hA : ∀ q : Nat, s.heap.size ≤ q → A q := fun q h => by rw [← hAe]; exact Or.inr h
  clear hAe hD0
  have hS : va_S A s.heap s.heap [] := va_S.rf
  have in1 : ∀ w ∈ u_ws RX1 TX1 9, w ∈ wsX1_hasHeir := by decide +kernel
  have k36 := hts (.fieldLink RX1 36 "HouseSorted$House" "heirs" "I") (by decide +kernel)
  have hl := lv_entry ([.ref (a 4), .int x1]) (n := 2) (Nat.le_of_ble_eq_true rfl)
  rw [lg_entry_eq]
  generalize (lg_sl ([.ref (a 4), .int x1]) ++ List.replicate (2 - (lg_sl ([.ref (a 4), .int x1])).length) Slot.unset).toArray = ls at hl ⊢
  have hl : lv_has ls 2 [(0, .ref (a 4)), (1, .int x1)] := hl
  suffices main : ∀ (H : Heap) (locs : List Loc), va_P (dC, dI) vwCl (wX a cB cI cS cII σ) H → va_D A (wX a cB cI cS cII σ) → va_S A s.heap H locs → W p l e (headSpec wsX1_hasHeir RM_X1_hasHeir).room s m ([.ref (a 4), .int x1] : List Value).toArray below meth c H locs 0 0 (MQ below (zQi (dC, dI) (zT cB cI cS cII) (wX a cB cI cS cII) A (fun (r : Int32) (σ1 : Cn) => σ1 = σ ∧ ((r : Int32).toInt = 1 ∧ 0 ≤ x1.toInt ∧ x1.toInt < (σ 4 1).toInt ∨ (r : Int32).toInt = 0 ∧ ¬ (0 ≤ x1.toInt ∧ x1.toInt < (σ 4 1).toInt)))) ([.ref (a 4), .int x1] : List Value).toArray s 0 0 A) (F0 m 0 ls []) from main s.heap [] hP hD hS
  intro H locs hP hD hS
  refine lv_iload_n hx hb dX1_hasHeir_0 rfl (lv_at hl 1 rfl) ?_
  refine lv_if_lt (tgt := 16) hx hb dX1_hasHeir_1 (by decide) (fun c1 => ?_) (fun c1 => ?_)
  · skip
    have ic1 := zlt (a := x1.toInt) (b := 0) rfl (by decide) c1
    refine lv_iconst (v := 0) hx hb dX1_hasHeir_16 (by decide) ?_
    have hpost : σ = σ ∧ ((0 : Int32).toInt = 1 ∧ 0 ≤ x1.toInt ∧ x1.toInt < (σ 4 1).toInt ∨ (0 : Int32).toInt = 0 ∧ ¬ (0 ≤ x1.toInt ∧ x1.toInt < (σ 4 1).toInt)) := by exact ⟨rfl, by first | (left; exact ⟨by decide, by omega⟩) | (right; exact ⟨by decide, by omega⟩)⟩
    exact W.zret (v := 0) hx hb hr (by decide +kernel) (fun t9 ht hW => ⟨⟨0, σ, rfl, hpost, by rw [ht]; exact hP, va_K.moved hW.alike hK, hD⟩, hS.F ht⟩) hS.2.2 dX1_hasHeir_17
  · skip
    have ic1 := znlt (a := x1.toInt) (b := 0) rfl (by decide) c1
    refine lv_iload_n hx hb dX1_hasHeir_4 rfl (lv_at hl 1 rfl) ?_
    refine lv_aload_n hx hb dX1_hasHeir_5 rfl (lv_at hl 0 rfl) ?_
    refine va_get (D := (dC, dI)) (ci := 1) (v := .int (σ 4 1)) (C := RX1) (T := TX1) (N := 9) hx hb hts in1 hown hK hP 4 rfl rfl 1 (by decide) k36 (fun _ h9 => h9) rfl dX1_hasHeir_6 ?_
    refine lv_icmp_ge (tgt := 16) hx hb dX1_hasHeir_9 (by decide) (fun c9 => ?_) (fun c9 => ?_)
    · skip
      have ic9 := zle (a := (σ 4 1).toInt) (b := x1.toInt) rfl rfl c9
      refine lv_iconst (v := 0) hx hb dX1_hasHeir_16 (by decide) ?_
      have hpost : σ = σ ∧ ((0 : Int32).toInt = 1 ∧ 0 ≤ x1.toInt ∧ x1.toInt < (σ 4 1).toInt ∨ (0 : Int32).toInt = 0 ∧ ¬ (0 ≤ x1.toInt ∧ x1.toInt < (σ 4 1).toInt)) := by exact ⟨rfl, by first | (left; exact ⟨by decide, by omega⟩) | (right; exact ⟨by decide, by omega⟩)⟩
      exact W.zret (v := 0) hx hb hr (by decide +kernel) (fun t9 ht hW => ⟨⟨0, σ, rfl, hpost, by rw [ht]; exact hP, va_K.moved hW.alike hK, hD⟩, hS.F ht⟩) hS.2.2 dX1_hasHeir_17
    · skip
      have ic9 := znle (a := (σ 4 1).toInt) (b := x1.toInt) rfl rfl c9
      refine lv_iconst (v := 1) hx hb dX1_hasHeir_12 (by decide) ?_
      refine lv_goto (tgt := 17) hx hb dX1_hasHeir_13 (by decide) ?_
      have hpost : σ = σ ∧ ((1 : Int32).toInt = 1 ∧ 0 ≤ x1.toInt ∧ x1.toInt < (σ 4 1).toInt ∨ (1 : Int32).toInt = 0 ∧ ¬ (0 ≤ x1.toInt ∧ x1.toInt < (σ 4 1).toInt)) := by exact ⟨rfl, by first | (left; exact ⟨by decide, by omega⟩) | (right; exact ⟨by decide, by omega⟩)⟩
      exact W.zret (v := 1) hx hb hr (by decide +kernel) (fun t9 ht hW => ⟨⟨1, σ, rfl, hpost, by rw [ht]; exact hP, va_K.moved hW.alike hK, hD⟩, hS.F ht⟩) hS.2.2 dX1_hasHeir_17

abbrev RM_X1_hasThing : Room := { frames := 0, cells := 0, slots := 0, locals := 0 }
set_option maxHeartbeats 4000000 in
set_option maxRecDepth 100000 in
theorem c_X1_hasThing (l : Launch) (dC : Nat → ClassId) (dI : Nat → Nat → Nat) (cB cI cS cII : ClassId) (a : Nat → Nat) (N : (Nat → Prop) → State → Prop) (hok : zNok N) (hn : ∀ A U, N A U → zN U) (σ : Cn) (sz : Nat) (x1 : Int32)  : Met l yX1_hasThing wsX1_hasThing RM_X1_hasThing (zPc (dC, dI) (zT cB cI cS cII) N (wX a cB cI cS cII) σ sz [.ref (a 4), .int x1]) (zQi (dC, dI) (zT cB cI cS cII) (wX a cB cI cS cII) (va_A (wX a cB cI cS cII σ) sz) (fun (r : Int32) (σ1 : Cn) => σ1 = σ ∧ ((r : Int32).toInt = 1 ∧ 0 ≤ x1.toInt ∧ x1.toInt < (σ 4 2).toInt ∨ (r : Int32).toInt = 0 ∧ ¬ (0 ≤ x1.toInt ∧ x1.toInt < (σ 4 2).toInt)))) 0 0 (va_A (wX a cB cI cS cII σ) sz) := by
  refine Met.ofW (cc := cX1_hasThing) (maxL := 2) (ret := (some .boolean)) (by decide) rfl ?_
  intro p e s m args below meth c s₁ B hml hv
  obtain ⟨rfl, hsz, hP, hK, hD0, hN⟩ := hv
  have hx := B.exec
  have hb := B.bytes
  have hr := B.returns
  have hts := atoms_spec (ws := wsX1_hasThing) B.pre
  have hown : s.vm.findClass RX1 = some m.cls := findClass_of_methodNamed B.named
  have hlocks := B.notSynchronized
  subst hsz
  have hD := hD0.self (sz := s.heap.size)
  generalize hAe : va_A (wX a cB cI cS cII σ) s.heap.size = A at hD hN ⊢
  have hA : ∀ q : Nat, s.heap.size ≤ q → A q := fun q h => by rw [← hAe]; exact Or.inr h
  clear hAe hD0
  have hS : va_S A s.heap s.heap [] := va_S.rf
  have in1 : ∀ w ∈ u_ws RX1 TX1 9, w ∈ wsX1_hasThing := by decide +kernel
  have k40 := hts (.fieldLink RX1 40 "HouseSorted$House" "things" "I") (by decide +kernel)
  have hl := lv_entry ([.ref (a 4), .int x1]) (n := 2) (Nat.le_of_ble_eq_true rfl)
  rw [lg_entry_eq]
  generalize (lg_sl ([.ref (a 4), .int x1]) ++ List.replicate (2 - (lg_sl ([.ref (a 4), .int x1])).length) Slot.unset).toArray = ls at hl ⊢
  have hl : lv_has ls 2 [(0, .ref (a 4)), (1, .int x1)] := hl
  suffices main : ∀ (H : Heap) (locs : List Loc), va_P (dC, dI) vwCl (wX a cB cI cS cII σ) H → va_D A (wX a cB cI cS cII σ) → va_S A s.heap H locs → W p l e (headSpec wsX1_hasThing RM_X1_hasThing).room s m ([.ref (a 4), .int x1] : List Value).toArray below meth c H locs 0 0 (MQ below (zQi (dC, dI) (zT cB cI cS cII) (wX a cB cI cS cII) A (fun (r : Int32) (σ1 : Cn) => σ1 = σ ∧ ((r : Int32).toInt = 1 ∧ 0 ≤ x1.toInt ∧ x1.toInt < (σ 4 2).toInt ∨ (r : Int32).toInt = 0 ∧ ¬ (0 ≤ x1.toInt ∧ x1.toInt < (σ 4 2).toInt)))) ([.ref (a 4), .int x1] : List Value).toArray s 0 0 A) (F0 m 0 ls []) from main s.heap [] hP hD hS
  intro H locs hP hD hS
  refine lv_iload_n hx hb dX1_hasThing_0 rfl (lv_at hl 1 rfl) ?_
  refine lv_if_lt (tgt := 16) hx hb dX1_hasThing_1 (by decide) (fun c1 => ?_) (fun c1 => ?_)
  · skip
    have ic1 := zlt (a := x1.toInt) (b := 0) rfl (by decide) c1
    refine lv_iconst (v := 0) hx hb dX1_hasThing_16 (by decide) ?_
    have hpost : σ = σ ∧ ((0 : Int32).toInt = 1 ∧ 0 ≤ x1.toInt ∧ x1.toInt < (σ 4 2).toInt ∨ (0 : Int32).toInt = 0 ∧ ¬ (0 ≤ x1.toInt ∧ x1.toInt < (σ 4 2).toInt)) := by exact ⟨rfl, by first | (left; exact ⟨by decide, by omega⟩) | (right; exact ⟨by decide, by omega⟩)⟩
    exact W.zret (v := 0) hx hb hr (by decide +kernel) (fun t9 ht hW => ⟨⟨0, σ, rfl, hpost, by rw [ht]; exact hP, va_K.moved hW.alike hK, hD⟩, hS.F ht⟩) hS.2.2 dX1_hasThing_17
  · skip
    have ic1 := znlt (a := x1.toInt) (b := 0) rfl (by decide) c1
    refine lv_iload_n hx hb dX1_hasThing_4 rfl (lv_at hl 1 rfl) ?_
    refine lv_aload_n hx hb dX1_hasThing_5 rfl (lv_at hl 0 rfl) ?_
    refine va_get (D := (dC, dI)) (ci := 1) (v := .int (σ 4 2)) (C := RX1) (T := TX1) (N := 9) hx hb hts in1 hown hK hP 4 rfl rfl 2 (by decide) k40 (fun _ h9 => h9) rfl dX1_hasThing_6 ?_
    refine lv_icmp_ge (tgt := 16) hx hb dX1_hasThing_9 (by decide) (fun c9 => ?_) (fun c9 => ?_)
    · skip
      have ic9 := zle (a := (σ 4 2).toInt) (b := x1.toInt) rfl rfl c9
      refine lv_iconst (v := 0) hx hb dX1_hasThing_16 (by decide) ?_
      have hpost : σ = σ ∧ ((0 : Int32).toInt = 1 ∧ 0 ≤ x1.toInt ∧ x1.toInt < (σ 4 2).toInt ∨ (0 : Int32).toInt = 0 ∧ ¬ (0 ≤ x1.toInt ∧ x1.toInt < (σ 4 2).toInt)) := by exact ⟨rfl, by first | (left; exact ⟨by decide, by omega⟩) | (right; exact ⟨by decide, by omega⟩)⟩
      exact W.zret (v := 0) hx hb hr (by decide +kernel) (fun t9 ht hW => ⟨⟨0, σ, rfl, hpost, by rw [ht]; exact hP, va_K.moved hW.alike hK, hD⟩, hS.F ht⟩) hS.2.2 dX1_hasThing_17
    · skip
      have ic9 := znle (a := (σ 4 2).toInt) (b := x1.toInt) rfl rfl c9
      refine lv_iconst (v := 1) hx hb dX1_hasThing_12 (by decide) ?_
      refine lv_goto (tgt := 17) hx hb dX1_hasThing_13 (by decide) ?_
      have hpost : σ = σ ∧ ((1 : Int32).toInt = 1 ∧ 0 ≤ x1.toInt ∧ x1.toInt < (σ 4 2).toInt ∨ (1 : Int32).toInt = 0 ∧ ¬ (0 ≤ x1.toInt ∧ x1.toInt < (σ 4 2).toInt)) := by exact ⟨rfl, by first | (left; exact ⟨by decide, by omega⟩) | (right; exact ⟨by decide, by omega⟩)⟩
      exact W.zret (v := 1) hx hb hr (by decide +kernel) (fun t9 ht hW => ⟨⟨1, σ, rfl, hpost, by rw [ht]; exact hP, va_K.moved hW.alike hK, hD⟩, hS.F ht⟩) hS.2.2 dX1_hasThing_17

abbrev RM_X1_hasMark : Room := { frames := 0, cells := 0, slots := 0, locals := 0 }
set_option maxHeartbeats 4000000 in
set_option maxRecDepth 100000 in
theorem c_X1_hasMark (l : Launch) (dC : Nat → ClassId) (dI : Nat → Nat → Nat) (cB cI cS cII : ClassId) (a : Nat → Nat) (N : (Nat → Prop) → State → Prop) (hok : zNok N) (hn : ∀ A U, N A U → zN U) (σ : Cn) (sz : Nat) (x1 : Int32) (x2 : Int32) (h1 : 0 ≤ x1.toInt ∧ x1.toInt < 10) : Met l yX1_hasMark wsX1_hasMark RM_X1_hasMark (zPc (dC, dI) (zT cB cI cS cII) N (wX a cB cI cS cII) σ sz [.ref (a 4), .int x1, .int x2]) (zQi (dC, dI) (zT cB cI cS cII) (wX a cB cI cS cII) (va_A (wX a cB cI cS cII σ) sz) (fun (r : Int32) (σ1 : Cn) => σ1 = σ ∧ ((r : Int32).toInt = 1 ∧ xMark σ x1.toNatClampNeg x2 ∨ (r : Int32).toInt = 0 ∧ ¬ (xMark σ x1.toNatClampNeg x2)))) 0 0 (va_A (wX a cB cI cS cII σ) sz) := by
  refine Met.ofW (cc := cX1_hasMark) (maxL := 3) (ret := (some .boolean)) (by decide) rfl ?_
  intro p e s m args below meth c s₁ B hml hv
  obtain ⟨rfl, hsz, hP, hK, hD0, hN⟩ := hv
  have hx := B.exec
  have hb := B.bytes
  have hr := B.returns
  have hts := atoms_spec (ws := wsX1_hasMark) B.pre
  have hown : s.vm.findClass RX1 = some m.cls := findClass_of_methodNamed B.named
  have hlocks := B.notSynchronized
  subst hsz
  have hD := hD0.self (sz := s.heap.size)
  generalize hAe : va_A (wX a cB cI cS cII σ) s.heap.size = A at hD hN ⊢
  have hA : ∀ q : Nat, s.heap.size ≤ q → A q := fun q h => by rw [← hAe]; exact Or.inr h
  clear hAe hD0
  have hS : va_S A s.heap s.heap [] := va_S.rf
  have in1 : ∀ w ∈ u_ws RX1 TX1 9, w ∈ wsX1_hasMark := by decide +kernel
  have k24 := hts (.fieldLink RX1 24 "HouseSorted$House" "marks" "[I") (by decide +kernel)
  have hl := lv_entry ([.ref (a 4), .int x1, .int x2]) (n := 3) (Nat.le_of_ble_eq_true rfl)
  rw [lg_entry_eq]
  generalize (lg_sl ([.ref (a 4), .int x1, .int x2]) ++ List.replicate (3 - (lg_sl ([.ref (a 4), .int x1, .int x2])).length) Slot.unset).toArray = ls at hl ⊢
  have hl : lv_has ls 3 [(0, .ref (a 4)), (1, .int x1), (2, .int x2)] := hl
  suffices main : ∀ (H : Heap) (locs : List Loc), va_P (dC, dI) vwCl (wX a cB cI cS cII σ) H → va_D A (wX a cB cI cS cII σ) → va_S A s.heap H locs → W p l e (headSpec wsX1_hasMark RM_X1_hasMark).room s m ([.ref (a 4), .int x1, .int x2] : List Value).toArray below meth c H locs 0 0 (MQ below (zQi (dC, dI) (zT cB cI cS cII) (wX a cB cI cS cII) A (fun (r : Int32) (σ1 : Cn) => σ1 = σ ∧ ((r : Int32).toInt = 1 ∧ xMark σ x1.toNatClampNeg x2 ∨ (r : Int32).toInt = 0 ∧ ¬ (xMark σ x1.toNatClampNeg x2)))) ([.ref (a 4), .int x1, .int x2] : List Value).toArray s 0 0 A) (F0 m 0 ls []) from main s.heap [] hP hD hS
  intro H locs hP hD hS
  refine lv_aload_n hx hb dX1_hasMark_0 rfl (lv_at hl 0 rfl) ?_
  refine va_get (D := (dC, dI)) (ci := 1) (v := .ref (a 19)) (C := RX1) (T := TX1) (N := 9) hx hb hts in1 hown hK hP 4 rfl rfl 7 (by decide) k24 (fun _ h9 => h9) rfl dX1_hasMark_1 ?_
  refine lv_iload_n hx hb dX1_hasMark_4 rfl (lv_at hl 1 rfl) ?_
  refine va_iald (D := (dC, dI)) (f := σ 19) hx hb hK hP 19 1 rfl rfl (i := x1) (n := 10) (zin (by omega) (by omega)) dX1_hasMark_5 ?_
  refine lv_topi (fun v5 ev5 => ?_)
  have tv5 := congrArg Int32.toInt ev5
  refine lv_iload_n hx hb dX1_hasMark_6 rfl (lv_at hl 2 rfl) ?_
  refine lv_iand hx hb dX1_hasMark_7 ?_
  refine lv_topi (fun v7 ev7 => ?_)
  refine lv_if_eq (tgt := 15) hx hb dX1_hasMark_8 (by decide) (fun c8 => ?_) (fun c8 => ?_)
  · skip
    have ic8 := zeq (a := v7.toInt) (b := 0) rfl (by decide) c8
    refine lv_iconst (v := 0) hx hb dX1_hasMark_15 (by decide) ?_
    have hpost : σ = σ ∧ ((0 : Int32).toInt = 1 ∧ xMark σ x1.toNatClampNeg x2 ∨ (0 : Int32).toInt = 0 ∧ ¬ (xMark σ x1.toNatClampNeg x2)) := by refine ⟨rfl, ?_⟩; unfold xMark; simp_all
    exact W.zret (v := 0) hx hb hr (by decide +kernel) (fun t9 ht hW => ⟨⟨0, σ, rfl, hpost, by rw [ht]; exact hP, va_K.moved hW.alike hK, hD⟩, hS.F ht⟩) hS.2.2 dX1_hasMark_16
  · skip
    have ic8 := zneq (a := v7.toInt) (b := 0) rfl (by decide) c8
    refine lv_iconst (v := 1) hx hb dX1_hasMark_11 (by decide) ?_
    refine lv_goto (tgt := 16) hx hb dX1_hasMark_12 (by decide) ?_
    have hpost : σ = σ ∧ ((1 : Int32).toInt = 1 ∧ xMark σ x1.toNatClampNeg x2 ∨ (1 : Int32).toInt = 0 ∧ ¬ (xMark σ x1.toNatClampNeg x2)) := by refine ⟨rfl, ?_⟩; unfold xMark; simp_all
    exact W.zret (v := 1) hx hb hr (by decide +kernel) (fun t9 ht hW => ⟨⟨1, σ, rfl, hpost, by rw [ht]; exact hP, va_K.moved hW.alike hK, hD⟩, hS.F ht⟩) hS.2.2 dX1_hasMark_16

abbrev RM_X1_isKeptPaper : Room := { frames := 1, cells := 0, slots := 0, locals := 22 }
set_option maxHeartbeats 4000000 in
set_option maxRecDepth 100000 in
theorem c_X1_isKeptPaper (l : Launch) (dC : Nat → ClassId) (dI : Nat → Nat → Nat) (cB cI cS cII : ClassId) (a : Nat → Nat) (N : (Nat → Prop) → State → Prop) (hok : zNok N) (hn : ∀ A U, N A U → zN U) (σ : Cn) (sz : Nat) (x1 : Int32) (h1 : 0 ≤ x1.toInt ∧ x1.toInt < 10) : Met l yX1_isKeptPaper wsX1_isKeptPaper RM_X1_isKeptPaper (zPc (dC, dI) (zT cB cI cS cII) N (wX a cB cI cS cII) σ sz [.ref (a 4), .int x1]) (zQi (dC, dI) (zT cB cI cS cII) (wX a cB cI cS cII) (va_A (wX a cB cI cS cII σ) sz) (fun (r : Int32) (σ1 : Cn) => σ1 = σ ∧ ((r : Int32).toInt = 1 ∧ xKept σ x1.toNatClampNeg ∨ (r : Int32).toInt = 0 ∧ ¬ (xKept σ x1.toNatClampNeg)))) 0 0 (va_A (wX a cB cI cS cII σ) sz) := by
  refine Met.ofW (cc := cX1_isKeptPaper) (maxL := 2) (ret := (some .boolean)) (by decide) rfl ?_
  intro p e s m args below meth c s₁ B hml hv
  obtain ⟨rfl, hsz, hP, hK, hD0, hN⟩ := hv
  have hx := B.exec
  have hb := B.bytes
  have hr := B.returns
  have hts := atoms_spec (ws := wsX1_isKeptPaper) B.pre
  have hown : s.vm.findClass RX1 = some m.cls := findClass_of_methodNamed B.named
  have hlocks := B.notSynchronized
  subst hsz
  have hD := hD0.self (sz := s.heap.size)
  generalize hAe : va_A (wX a cB cI cS cII σ) s.heap.size = A at hD hN ⊢
  have hA : ∀ q : Nat, s.heap.size ≤ q → A q := fun q h => by rw [← hAe]; exact Or.inr h
  clear hAe hD0
  have hS : va_S A s.heap s.heap [] := va_S.rf
  have in1 : ∀ w ∈ u_ws RX1 TX1 9, w ∈ wsX1_isKeptPaper := by decide +kernel
  have in2 : ∀ w ∈ u_ws RX2 TX2 6, w ∈ wsX1_isKeptPaper := by decide +kernel
  have k21 := hts (.fieldLink RX1 21 "HouseSorted$House" "age" "[I") (by decide +kernel)
  have k32 := hts (.fieldLink RX1 32 "HouseSorted$House" "book" "LHouseSorted$LawBook;") (by decide +kernel)
  have k47 := hts (.fieldLink RX1 47 "HouseSorted$LawBook" "value" "[I") (by decide +kernel)
  have hl := lv_entry ([.ref (a 4), .int x1]) (n := 2) (Nat.le_of_ble_eq_true rfl)
  rw [lg_entry_eq]
  generalize (lg_sl ([.ref (a 4), .int x1]) ++ List.replicate (2 - (lg_sl ([.ref (a 4), .int x1])).length) Slot.unset).toArray = ls at hl ⊢
  have hl : lv_has ls 2 [(0, .ref (a 4)), (1, .int x1)] := hl
  suffices main : ∀ (H : Heap) (locs : List Loc), va_P (dC, dI) vwCl (wX a cB cI cS cII σ) H → va_D A (wX a cB cI cS cII σ) → va_S A s.heap H locs → W p l e (headSpec wsX1_isKeptPaper RM_X1_isKeptPaper).room s m ([.ref (a 4), .int x1] : List Value).toArray below meth c H locs 0 0 (MQ below (zQi (dC, dI) (zT cB cI cS cII) (wX a cB cI cS cII) A (fun (r : Int32) (σ1 : Cn) => σ1 = σ ∧ ((r : Int32).toInt = 1 ∧ xKept σ x1.toNatClampNeg ∨ (r : Int32).toInt = 0 ∧ ¬ (xKept σ x1.toNatClampNeg)))) ([.ref (a 4), .int x1] : List Value).toArray s 0 0 A) (F0 m 0 ls []) from main s.heap [] hP hD hS
  intro H locs hP hD hS
  refine lv_aload_n hx hb dX1_isKeptPaper_0 rfl (lv_at hl 0 rfl) ?_
  refine lv_iload_n hx hb dX1_isKeptPaper_1 rfl (lv_at hl 1 rfl) ?_
  refine lv_iconst (v := 1) hx hb dX1_isKeptPaper_2 (by decide) ?_
  refine zcalli (va_runV (As := [.int x1, .int 1]) (rest := []) ⟨hx, hb, hml, hown, hts⟩ (c_X1_hasMark l dC dI cB cI cS cII a N hok hn σ H.size (x1) (1) (by omega)) (cwV 2 hts gX1_isKeptPaper_X1_hasMark rfl rfl rfl (by decide +kernel) ⟨Nat.le_of_ble_eq_true rfl, Nat.le_of_ble_eq_true rfl⟩) (zpreV (wf := wX a cB cI cS cII) (q0 := 4) (ci := 1) hok hN hS hA hK hP hD rfl rfl) rfl rfl hl.1 rfl (lv_room (Nat.le_of_ble_eq_true rfl)) dX1_isKeptPaper_3 ⟨Nat.zero_le _, Nat.zero_le _⟩) hD hS hA (fun v3 σ1 H locs hv3 hP hD hS => ?_)
  obtain ⟨es9, hv3⟩ := hv3
  subst σ1
  try simp only [show (1 : Int32).toInt = 1 from by decide] at hv3
  refine lv_if_eq (tgt := 31) hx hb dX1_isKeptPaper_6 (by decide) (fun c6 => ?_) (fun c6 => ?_)
  · skip
    have ic6 := zeq (a := v3.toInt) (b := 0) rfl (by decide) c6
    refine lv_iconst (v := 0) hx hb dX1_isKeptPaper_31 (by decide) ?_
    have hpost : σ = σ ∧ ((0 : Int32).toInt = 1 ∧ xKept σ x1.toNatClampNeg ∨ (0 : Int32).toInt = 0 ∧ ¬ (xKept σ x1.toNatClampNeg)) := by refine ⟨rfl, ?_⟩; unfold xKept; simp_all
    exact W.zret (v := 0) hx hb hr (by decide +kernel) (fun t9 ht hW => ⟨⟨0, σ, rfl, hpost, by rw [ht]; exact hP, va_K.moved hW.alike hK, hD⟩, hS.F ht⟩) hS.2.2 dX1_isKeptPaper_32
  · skip
    have ic6 := zneq (a := v3.toInt) (b := 0) rfl (by decide) c6
    refine lv_aload_n hx hb dX1_isKeptPaper_9 rfl (lv_at hl 0 rfl) ?_
    refine va_get (D := (dC, dI)) (ci := 1) (v := .ref (a 18)) (C := RX1) (T := TX1) (N := 9) hx hb hts in1 hown hK hP 4 rfl rfl 6 (by decide) k21 (fun _ h9 => h9) rfl dX1_isKeptPaper_10 ?_
    refine lv_iload_n hx hb dX1_isKeptPaper_13 rfl (lv_at hl 1 rfl) ?_
    refine va_iald (D := (dC, dI)) (f := σ 18) hx hb hK hP 18 1 rfl rfl (i := x1) (n := 10) (zin (by omega) (by omega)) dX1_isKeptPaper_14 ?_
    refine lv_topi (fun v14 ev14 => ?_)
    have tv14 := congrArg Int32.toInt ev14
    refine lv_aload_n hx hb dX1_isKeptPaper_15 rfl (lv_at hl 0 rfl) ?_
    refine va_get (D := (dC, dI)) (ci := 1) (v := .ref (a 2)) (C := RX1) (T := TX1) (N := 9) hx hb hts in1 hown hK hP 4 rfl rfl 0 (by decide) k32 (fun _ h9 => h9) rfl dX1_isKeptPaper_16 ?_
    refine va_get (D := (dC, dI)) (ci := 2) (v := .ref (a 13)) (C := RX2) (T := TX2) (N := 6) hx hb hts in2 hown hK hP 2 rfl rfl 0 (by decide) k47 (fun _ h9 => h9) rfl dX1_isKeptPaper_19 ?_
    refine lv_iconst (v := 0) hx hb dX1_isKeptPaper_22 (by decide) ?_
    refine va_iald (D := (dC, dI)) (f := σ 13) hx hb hK hP 13 1 rfl rfl (i := 0) (n := 7) (zin (by decide) (by decide)) dX1_isKeptPaper_23 ?_
    refine lv_topi (fun v23 ev23 => ?_)
    have tv23 := congrArg Int32.toInt ev23
    refine lv_icmp_gt (tgt := 31) hx hb dX1_isKeptPaper_24 (by decide) (fun c24 => ?_) (fun c24 => ?_)
    · skip
      have ic24 := zlt (a := v23.toInt) (b := v14.toInt) rfl rfl c24
      refine lv_iconst (v := 0) hx hb dX1_isKeptPaper_31 (by decide) ?_
      have hpost : σ = σ ∧ ((0 : Int32).toInt = 1 ∧ xKept σ x1.toNatClampNeg ∨ (0 : Int32).toInt = 0 ∧ ¬ (xKept σ x1.toNatClampNeg)) := by refine ⟨rfl, ?_⟩; unfold xKept; simp_all
      exact W.zret (v := 0) hx hb hr (by decide +kernel) (fun t9 ht hW => ⟨⟨0, σ, rfl, hpost, by rw [ht]; exact hP, va_K.moved hW.alike hK, hD⟩, hS.F ht⟩) hS.2.2 dX1_isKeptPaper_32
    · skip
      have ic24 := znlt (a := v23.toInt) (b := v14.toInt) rfl rfl c24
      refine lv_iconst (v := 1) hx hb dX1_isKeptPaper_27 (by decide) ?_
      refine lv_goto (tgt := 32) hx hb dX1_isKeptPaper_28 (by decide) ?_
      have hpost : σ = σ ∧ ((1 : Int32).toInt = 1 ∧ xKept σ x1.toNatClampNeg ∨ (1 : Int32).toInt = 0 ∧ ¬ (xKept σ x1.toNatClampNeg)) := by refine ⟨rfl, ?_⟩; unfold xKept; simp_all
      exact W.zret (v := 1) hx hb hr (by decide +kernel) (fun t9 ht hW => ⟨⟨1, σ, rfl, hpost, by rw [ht]; exact hP, va_K.moved hW.alike hK, hD⟩, hS.F ht⟩) hS.2.2 dX1_isKeptPaper_32
end
section
abbrev RM_X1_isWanted : Room := { frames := 0, cells := 0, slots := 0, locals := 0 }
set_option maxHeartbeats 4000000 in
set_option maxRecDepth 100000 in
theorem c_X1_isWanted (l : Launch) (dC : Nat → ClassId) (dI : Nat → Nat → Nat) (cB cI cS cII : ClassId) (a : Nat → Nat) (N : (Nat → Prop) → State → Prop) (hok : zNok N) (hn : ∀ A U, N A U → zN U) (σ : Cn) (sz : Nat) (x1 : Int32) (h0 : 0 ≤ (σ 4 1).toInt ∧ (σ 4 1).toInt ≤ 4) (h1 : 0 ≤ x1.toInt ∧ x1.toInt < 10) : Met l yX1_isWanted wsX1_isWanted RM_X1_isWanted (zPc (dC, dI) (zT cB cI cS cII) N (wX a cB cI cS cII) σ sz [.ref (a 4), .int x1]) (zQi (dC, dI) (zT cB cI cS cII) (wX a cB cI cS cII) (va_A (wX a cB cI cS cII σ) sz) (fun (r : Int32) (σ1 : Cn) => σ1 = σ ∧ ((r : Int32).toInt = 1 ∧ xWant σ x1.toNatClampNeg ∨ (r : Int32).toInt = 0 ∧ ¬ (xWant σ x1.toNatClampNeg)))) 0 0 (va_A (wX a cB cI cS cII σ) sz) := by
  refine Met.ofW (cc := cX1_isWanted) (maxL := 3) (ret := (some .boolean)) (by decide) rfl ?_
  intro p e s m args below meth c s₁ B hml hv
  obtain ⟨rfl, hsz, hP, hK, hD0, hN⟩ := hv
  have hx := B.exec
  have hb := B.bytes
  have hr := B.returns
  have hts := atoms_spec (ws := wsX1_isWanted) B.pre
  have hown : s.vm.findClass RX1 = some m.cls := findClass_of_methodNamed B.named
  have hlocks := B.notSynchronized
  subst hsz
  have hD := hD0.self (sz := s.heap.size)
  generalize hAe : va_A (wX a cB cI cS cII σ) s.heap.size = A at hD hN ⊢
  have hA : ∀ q : Nat, s.heap.size ≤ q → A q := fun q h => by rw [← hAe]; exact Or.inr h
  clear hAe hD0
  have hS : va_S A s.heap s.heap [] := va_S.rf
  have in1 : ∀ w ∈ u_ws RX1 TX1 9, w ∈ wsX1_isWanted := by decide +kernel
  have k29 := hts (.fieldLink RX1 29 "HouseSorted$House" "worth" "[[I") (by decide +kernel)
  have k36 := hts (.fieldLink RX1 36 "HouseSorted$House" "heirs" "I") (by decide +kernel)
  have LP : ∀ n : Nat, (∀ (j : Int32) (H : Heap) (locs : List Loc) (ls : Array Slot), 0 ≤ j.toInt ∧ j.toInt ≤ 4 → (∀ h : Nat, (h : Int) < j.toInt → ¬ 0 < σ (21 + h) x1.toNatClampNeg) → (4 - j.toInt).toNat < n → va_P (dC, dI) vwCl (wX a cB cI cS cII σ) H → va_D A (wX a cB cI cS cII σ) → va_S A s.heap H locs → lv_has ls 3 [(0, .ref (a 4)), (1, .int x1), (2, .int j)] → W p l e (headSpec wsX1_isWanted RM_X1_isWanted).room s m ([.ref (a 4), .int x1] : List Value).toArray below meth c H locs 0 0 (MQ below (zQi (dC, dI) (zT cB cI cS cII) (wX a cB cI cS cII) A (fun (r : Int32) (σ1 : Cn) => σ1 = σ ∧ ((r : Int32).toInt = 1 ∧ xWant σ x1.toNatClampNeg ∨ (r : Int32).toInt = 0 ∧ ¬ (xWant σ x1.toNatClampNeg)))) ([.ref (a 4), .int x1] : List Value).toArray s 0 0 A) (F0 m 2 ls [])) := by
    intro n
    induction n with
    | zero => exact by intros; omega
    | succ n ih =>
      · intro j H locs ls g1 g2 hmu hP hD hS hl
        refine lv_iload_n hx hb dX1_isWanted_2 rfl (lv_at hl 2 rfl) ?_
        refine lv_aload_n hx hb dX1_isWanted_3 rfl (lv_at hl 0 rfl) ?_
        refine va_get (D := (dC, dI)) (ci := 1) (v := .int (σ 4 1)) (C := RX1) (T := TX1) (N := 9) hx hb hts in1 hown hK hP 4 rfl rfl 1 (by decide) k36 (fun _ h9 => h9) rfl dX1_isWanted_4 ?_
        refine lv_icmp_ge (tgt := 29) hx hb dX1_isWanted_7 (by decide) (fun c7 => ?_) (fun c7 => ?_)
        · skip
          have ic7 := zle (a := (σ 4 1).toInt) (b := j.toInt) rfl rfl c7
          refine lv_iconst (v := 0) hx hb dX1_isWanted_29 (by decide) ?_
          have hpost : σ = σ ∧ ((0 : Int32).toInt = 1 ∧ xWant σ x1.toNatClampNeg ∨ (0 : Int32).toInt = 0 ∧ ¬ (xWant σ x1.toNatClampNeg)) := by refine ⟨rfl, Or.inr ⟨by decide, ?_⟩⟩; rintro ⟨h, q1, q2⟩; exact g2 h (by omega) q2
          exact W.zret (v := 0) hx hb hr (by decide +kernel) (fun t9 ht hW => ⟨⟨0, σ, rfl, hpost, by rw [ht]; exact hP, va_K.moved hW.alike hK, hD⟩, hS.F ht⟩) hS.2.2 dX1_isWanted_30
        · skip
          have ic7 := znle (a := (σ 4 1).toInt) (b := j.toInt) rfl rfl c7
          refine lv_aload_n hx hb dX1_isWanted_10 rfl (lv_at hl 0 rfl) ?_
          refine va_get (D := (dC, dI)) (ci := 1) (v := .ref (a 20)) (C := RX1) (T := TX1) (N := 9) hx hb hts in1 hown hK hP 4 rfl rfl 8 (by decide) k29 (fun _ h9 => h9) rfl dX1_isWanted_11 ?_
          refine lv_iload_n hx hb dX1_isWanted_14 rfl (lv_at hl 2 rfl) ?_
          have hr15 : (j).toNatClampNeg < 4 := by have h9 := zcl (x := j) (by omega); omega
          refine zald hx hb hK hP 20 3 rfl rfl (i := j) (n := 4) (zin (by omega) (by omega)) (zro_in hr15) dX1_isWanted_15 ?_
          refine lv_iload_n hx hb dX1_isWanted_16 rfl (lv_at hl 1 rfl) ?_
          refine va_iald (D := (dC, dI)) (f := σ (21 + (j).toNatClampNeg)) hx hb hK hP (21 + (j).toNatClampNeg) 1 (wX_row21 hr15) rfl (i := x1) (n := 10) (zin (by omega) (by omega)) dX1_isWanted_17 ?_
          refine lv_topi (fun v17 ev17 => ?_)
          have tv17 := congrArg Int32.toInt ev17
          refine lv_if_le (tgt := 23) hx hb dX1_isWanted_18 (by decide) (fun c18 => ?_) (fun c18 => ?_)
          · skip
            have ic18 := zle (a := v17.toInt) (b := 0) rfl (by decide) c18
            obtain ⟨v23, ev23⟩ : ∃ y : Int32, y = j + 1 := ⟨_, rfl⟩
            refine lv_iinc (v := v23) (lv' := [(2, .int v23), (0, .ref (a 4)), (1, .int x1)]) hx hb dX1_isWanted_23 hl (k := 2) rfl (by rw [ev23]; rfl) (by decide) rfl (fun ls hl => ?_)
            have tv23 : v23.toInt = j.toInt + 1 := by rw [ev23, zadd, show (1 : Int32).toInt = 1 from by decide]; omega
            refine lv_goto (tgt := 2) hx hb dX1_isWanted_26 (by decide) ?_
            exact ih (v23)  H locs ls (by first | decide | omega) (by intro h hh; rcases (show (h : Int) < j.toInt ∨ (h : Int) = j.toInt from by omega) with q | q; exact g2 h q; have q2 := zcl (x := j) (by omega); rw [show h = j.toNatClampNeg from by omega, ← ev17]; exact fun q3 => by have := zlt (a := 0) (b := v17.toInt) (by decide) rfl q3; omega) (by omega) hP hD hS (lv_sub hl [1, 2, 0] rfl)
          · skip
            have ic18 := znle (a := v17.toInt) (b := 0) rfl (by decide) c18
            refine lv_iconst (v := 1) hx hb dX1_isWanted_21 (by decide) ?_
            have hpost : σ = σ ∧ ((1 : Int32).toInt = 1 ∧ xWant σ x1.toNatClampNeg ∨ (1 : Int32).toInt = 0 ∧ ¬ (xWant σ x1.toNatClampNeg)) := by refine ⟨rfl, Or.inl ⟨by decide, j.toNatClampNeg, by have q2 := zcl (x := j) (by omega); omega, ?_⟩⟩; rw [← ev17]; exact Int32.lt_iff_toInt_lt.mpr (by rw [show (0 : Int32).toInt = 0 from by decide]; omega)
            exact W.zret (v := 1) hx hb hr (by decide +kernel) (fun t9 ht hW => ⟨⟨1, σ, rfl, hpost, by rw [ht]; exact hP, va_K.moved hW.alike hK, hD⟩, hS.F ht⟩) hS.2.2 dX1_isWanted_22
  have hl := lv_entry ([.ref (a 4), .int x1]) (n := 3) (Nat.le_of_ble_eq_true rfl)
  rw [lg_entry_eq]
  generalize (lg_sl ([.ref (a 4), .int x1]) ++ List.replicate (3 - (lg_sl ([.ref (a 4), .int x1])).length) Slot.unset).toArray = ls at hl ⊢
  have hl : lv_has ls 3 [(0, .ref (a 4)), (1, .int x1)] := hl
  suffices main : ∀ (H : Heap) (locs : List Loc), va_P (dC, dI) vwCl (wX a cB cI cS cII σ) H → va_D A (wX a cB cI cS cII σ) → va_S A s.heap H locs → W p l e (headSpec wsX1_isWanted RM_X1_isWanted).room s m ([.ref (a 4), .int x1] : List Value).toArray below meth c H locs 0 0 (MQ below (zQi (dC, dI) (zT cB cI cS cII) (wX a cB cI cS cII) A (fun (r : Int32) (σ1 : Cn) => σ1 = σ ∧ ((r : Int32).toInt = 1 ∧ xWant σ x1.toNatClampNeg ∨ (r : Int32).toInt = 0 ∧ ¬ (xWant σ x1.toNatClampNeg)))) ([.ref (a 4), .int x1] : List Value).toArray s 0 0 A) (F0 m 0 ls []) from main s.heap [] hP hD hS
  intro H locs hP hD hS
  refine lv_iconst (v := 0) hx hb dX1_isWanted_0 (by decide) ?_
  refine lv_istore_n (lv' := [(2, .int 0), (0, .ref (a 4)), (1, .int x1)]) hx hb dX1_isWanted_1 rfl hl (by decide) rfl (fun ls hl => ?_)
  exact (LP _) (0)  H locs ls (by decide) (by intro h hh; rw [show (0 : Int32).toInt = 0 from by decide] at hh; omega) (Nat.lt_succ_self _) hP hD hS (lv_sub hl [1, 2, 0] rfl)
end
section
abbrev RM_X1_wayOf : Room := { frames := 2, cells := 0, slots := 0, locals := 43 }
set_option maxHeartbeats 4000000 in
set_option maxRecDepth 100000 in
theorem c_X1_wayOf (l : Launch) (dC : Nat → ClassId) (dI : Nat → Nat → Nat) (cB cI cS cII : ClassId) (a : Nat → Nat) (N : (Nat → Prop) → State → Prop) (hok : zNok N) (hn : ∀ A U, N A U → zN U) (σ : Cn) (sz : Nat) (x1 : Int32) (h0 : 0 ≤ (σ 4 1).toInt ∧ (σ 4 1).toInt ≤ 4) (h1 : 0 ≤ x1.toInt ∧ x1.toInt < 10) : Met l yX1_wayOf wsX1_wayOf RM_X1_wayOf (zPc (dC, dI) (zT cB cI cS cII) N (wX a cB cI cS cII) σ sz [.ref (a 4), .int x1]) (zQi (dC, dI) (zT cB cI cS cII) (wX a cB cI cS cII) (va_A (wX a cB cI cS cII σ) sz) (fun (r : Int32) (σ1 : Cn) => σ1 = σ ∧ xWay σ x1.toNatClampNeg r)) 0 0 (va_A (wX a cB cI cS cII σ) sz) := by
  refine Met.ofW (cc := cX1_wayOf) (maxL := 2) (ret := (some .int)) (by decide) rfl ?_
  intro p e s m args below meth c s₁ B hml hv
  obtain ⟨rfl, hsz, hP, hK, hD0, hN⟩ := hv
  have hx := B.exec
  have hb := B.bytes
  have hr := B.returns
  have hts := atoms_spec (ws := wsX1_wayOf) B.pre
  have hown : s.vm.findClass RX1 = some m.cls := findClass_of_methodNamed B.named
  have hlocks := B.notSynchronized
  subst hsz
  have hD := hD0.self (sz := s.heap.size)
  generalize hAe : va_A (wX a cB cI cS cII σ) s.heap.size = A at hD hN ⊢
  have hA : ∀ q : Nat, s.heap.size ≤ q → A q := fun q h => by rw [← hAe]; exact Or.inr h
  clear hAe hD0
  have hS : va_S A s.heap s.heap [] := va_S.rf
  have in1 : ∀ w ∈ u_ws RX1 TX1 9, w ∈ wsX1_wayOf := by decide +kernel
  have in2 : ∀ w ∈ u_ws RX2 TX2 6, w ∈ wsX1_wayOf := by decide +kernel
  have k15 := hts (.fieldLink RX1 15 "HouseSorted$House" "low" "[I") (by decide +kernel)
  have k32 := hts (.fieldLink RX1 32 "HouseSorted$House" "book" "LHouseSorted$LawBook;") (by decide +kernel)
  have k47 := hts (.fieldLink RX1 47 "HouseSorted$LawBook" "value" "[I") (by decide +kernel)
  have hl := lv_entry ([.ref (a 4), .int x1]) (n := 2) (Nat.le_of_ble_eq_true rfl)
  rw [lg_entry_eq]
  generalize (lg_sl ([.ref (a 4), .int x1]) ++ List.replicate (2 - (lg_sl ([.ref (a 4), .int x1])).length) Slot.unset).toArray = ls at hl ⊢
  have hl : lv_has ls 2 [(0, .ref (a 4)), (1, .int x1)] := hl
  suffices main : ∀ (H : Heap) (locs : List Loc), va_P (dC, dI) vwCl (wX a cB cI cS cII σ) H → va_D A (wX a cB cI cS cII σ) → va_S A s.heap H locs → W p l e (headSpec wsX1_wayOf RM_X1_wayOf).room s m ([.ref (a 4), .int x1] : List Value).toArray below meth c H locs 0 0 (MQ below (zQi (dC, dI) (zT cB cI cS cII) (wX a cB cI cS cII) A (fun (r : Int32) (σ1 : Cn) => σ1 = σ ∧ xWay σ x1.toNatClampNeg r)) ([.ref (a 4), .int x1] : List Value).toArray s 0 0 A) (F0 m 0 ls []) from main s.heap [] hP hD hS
  intro H locs hP hD hS
  refine lv_aload_n hx hb dX1_wayOf_0 rfl (lv_at hl 0 rfl) ?_
  refine lv_iload_n hx hb dX1_wayOf_1 rfl (lv_at hl 1 rfl) ?_
  refine lv_iconst (v := 4) hx hb dX1_wayOf_2 (by decide) ?_
  refine zcalli (va_runV (As := [.int x1, .int 4]) (rest := []) ⟨hx, hb, hml, hown, hts⟩ (c_X1_hasMark l dC dI cB cI cS cII a N hok hn σ H.size (x1) (4) (by omega)) (cwV 2 hts gX1_wayOf_X1_hasMark rfl rfl rfl (by decide +kernel) ⟨Nat.le_of_ble_eq_true rfl, Nat.le_of_ble_eq_true rfl⟩) (zpreV (wf := wX a cB cI cS cII) (q0 := 4) (ci := 1) hok hN hS hA hK hP hD rfl rfl) rfl rfl hl.1 rfl (lv_room (Nat.le_of_ble_eq_true rfl)) dX1_wayOf_3 ⟨Nat.zero_le _, Nat.zero_le _⟩) hD hS hA (fun v3 σ1 H locs hv3 hP hD hS => ?_)
  obtain ⟨es9, hv3⟩ := hv3
  subst σ1
  try simp only [show (4 : Int32).toInt = 4 from by decide] at hv3
  refine lv_if_eq (tgt := 20) hx hb dX1_wayOf_6 (by decide) (fun c6 => ?_) (fun c6 => ?_)
  · skip
    have ic6 := zeq (a := v3.toInt) (b := 0) rfl (by decide) c6
    replace hv3 := (hv3.resolve_left (fun q => by omega)).2
    refine lv_aload_n hx hb dX1_wayOf_20 rfl (lv_at hl 0 rfl) ?_
    refine lv_iload_n hx hb dX1_wayOf_21 rfl (lv_at hl 1 rfl) ?_
    refine lv_iconst (v := 2) hx hb dX1_wayOf_22 (by decide) ?_
    refine zcalli (va_runV (As := [.int x1, .int 2]) (rest := []) ⟨hx, hb, hml, hown, hts⟩ (c_X1_hasMark l dC dI cB cI cS cII a N hok hn σ H.size (x1) (2) (by omega)) (cwV 2 hts gX1_wayOf_X1_hasMark rfl rfl rfl (by decide +kernel) ⟨Nat.le_of_ble_eq_true rfl, Nat.le_of_ble_eq_true rfl⟩) (zpreV (wf := wX a cB cI cS cII) (q0 := 4) (ci := 1) hok hN hS hA hK hP hD rfl rfl) rfl rfl hl.1 rfl (lv_room (Nat.le_of_ble_eq_true rfl)) dX1_wayOf_23 ⟨Nat.zero_le _, Nat.zero_le _⟩) hD hS hA (fun v23 σ1 H locs hv23 hP hD hS => ?_)
    obtain ⟨es9, hv23⟩ := hv23
    subst σ1
    try simp only [show (2 : Int32).toInt = 2 from by decide] at hv23
    refine lv_if_eq (tgt := 39) hx hb dX1_wayOf_26 (by decide) (fun c26 => ?_) (fun c26 => ?_)
    · skip
      have ic26 := zeq (a := v23.toInt) (b := 0) rfl (by decide) c26
      replace hv23 := (hv23.resolve_left (fun q => by omega)).2
      refine lv_aload_n hx hb dX1_wayOf_39 rfl (lv_at hl 0 rfl) ?_
      refine lv_iload_n hx hb dX1_wayOf_40 rfl (lv_at hl 1 rfl) ?_
      refine zcalli (va_runV (As := [.int x1]) (rest := []) ⟨hx, hb, hml, hown, hts⟩ (c_X1_isKeptPaper l dC dI cB cI cS cII a N hok hn σ H.size (x1) (by omega)) (cwV 1 hts gX1_wayOf_X1_isKeptPaper rfl rfl rfl (by decide +kernel) ⟨Nat.le_of_ble_eq_true rfl, Nat.le_of_ble_eq_true rfl⟩) (zpreV (wf := wX a cB cI cS cII) (q0 := 4) (ci := 1) hok hN hS hA hK hP hD rfl rfl) rfl rfl hl.1 rfl (lv_room (Nat.le_of_ble_eq_true rfl)) dX1_wayOf_41 ⟨Nat.zero_le _, Nat.zero_le _⟩) hD hS hA (fun v41 σ1 H locs hv41 hP hD hS => ?_)
      obtain ⟨es9, hv41⟩ := hv41
      subst σ1
      refine lv_if_eq (tgt := 49) hx hb dX1_wayOf_44 (by decide) (fun c44 => ?_) (fun c44 => ?_)
      · skip
        have ic44 := zeq (a := v41.toInt) (b := 0) rfl (by decide) c44
        replace hv41 := (hv41.resolve_left (fun q => by omega)).2
        refine lv_aload_n hx hb dX1_wayOf_49 rfl (lv_at hl 0 rfl) ?_
        refine lv_iload_n hx hb dX1_wayOf_50 rfl (lv_at hl 1 rfl) ?_
        refine lv_bipush (v := 8) hx hb dX1_wayOf_51 (by decide) ?_
        refine zcalli (va_runV (As := [.int x1, .int 8]) (rest := []) ⟨hx, hb, hml, hown, hts⟩ (c_X1_hasMark l dC dI cB cI cS cII a N hok hn σ H.size (x1) (8) (by omega)) (cwV 2 hts gX1_wayOf_X1_hasMark rfl rfl rfl (by decide +kernel) ⟨Nat.le_of_ble_eq_true rfl, Nat.le_of_ble_eq_true rfl⟩) (zpreV (wf := wX a cB cI cS cII) (q0 := 4) (ci := 1) hok hN hS hA hK hP hD rfl rfl) rfl rfl hl.1 rfl (lv_room (Nat.le_of_ble_eq_true rfl)) dX1_wayOf_53 ⟨Nat.zero_le _, Nat.zero_le _⟩) hD hS hA (fun v53 σ1 H locs hv53 hP hD hS => ?_)
        obtain ⟨es9, hv53⟩ := hv53
        subst σ1
        try simp only [show (8 : Int32).toInt = 8 from by decide] at hv53
        refine lv_if_eq (tgt := 61) hx hb dX1_wayOf_56 (by decide) (fun c56 => ?_) (fun c56 => ?_)
        · skip
          have ic56 := zeq (a := v53.toInt) (b := 0) rfl (by decide) c56
          replace hv53 := (hv53.resolve_left (fun q => by omega)).2
          refine lv_aload_n hx hb dX1_wayOf_61 rfl (lv_at hl 0 rfl) ?_
          refine va_get (D := (dC, dI)) (ci := 1) (v := .ref (a 16)) (C := RX1) (T := TX1) (N := 9) hx hb hts in1 hown hK hP 4 rfl rfl 4 (by decide) k15 (fun _ h9 => h9) rfl dX1_wayOf_62 ?_
          refine lv_iload_n hx hb dX1_wayOf_65 rfl (lv_at hl 1 rfl) ?_
          refine va_iald (D := (dC, dI)) (f := σ 16) hx hb hK hP 16 1 rfl rfl (i := x1) (n := 10) (zin (by omega) (by omega)) dX1_wayOf_66 ?_
          refine lv_topi (fun v66 ev66 => ?_)
          have tv66 := congrArg Int32.toInt ev66
          refine lv_aload_n hx hb dX1_wayOf_67 rfl (lv_at hl 0 rfl) ?_
          refine va_get (D := (dC, dI)) (ci := 1) (v := .ref (a 2)) (C := RX1) (T := TX1) (N := 9) hx hb hts in1 hown hK hP 4 rfl rfl 0 (by decide) k32 (fun _ h9 => h9) rfl dX1_wayOf_68 ?_
          refine va_get (D := (dC, dI)) (ci := 2) (v := .ref (a 13)) (C := RX2) (T := TX2) (N := 6) hx hb hts in2 hown hK hP 2 rfl rfl 0 (by decide) k47 (fun _ h9 => h9) rfl dX1_wayOf_71 ?_
          refine lv_iconst (v := 1) hx hb dX1_wayOf_74 (by decide) ?_
          refine va_iald (D := (dC, dI)) (f := σ 13) hx hb hK hP 13 1 rfl rfl (i := 1) (n := 7) (zin (by decide) (by decide)) dX1_wayOf_75 ?_
          refine lv_topi (fun v75 ev75 => ?_)
          have tv75 := congrArg Int32.toInt ev75
          refine lv_icmp_lt (tgt := 81) hx hb dX1_wayOf_76 (by decide) (fun c76 => ?_) (fun c76 => ?_)
          · skip
            have ic76 := zlt (a := v66.toInt) (b := v75.toInt) rfl rfl c76
            refine lv_aload_n hx hb dX1_wayOf_81 rfl (lv_at hl 0 rfl) ?_
            refine lv_iload_n hx hb dX1_wayOf_82 rfl (lv_at hl 1 rfl) ?_
            refine zcalli (va_runV (As := [.int x1]) (rest := []) ⟨hx, hb, hml, hown, hts⟩ (c_X1_isWanted l dC dI cB cI cS cII a N hok hn σ H.size (x1) h0 (by omega)) (cwV 1 hts gX1_wayOf_X1_isWanted rfl rfl rfl (by decide +kernel) ⟨Nat.le_of_ble_eq_true rfl, Nat.le_of_ble_eq_true rfl⟩) (zpreV (wf := wX a cB cI cS cII) (q0 := 4) (ci := 1) hok hN hS hA hK hP hD rfl rfl) rfl rfl hl.1 rfl (lv_room (Nat.le_of_ble_eq_true rfl)) dX1_wayOf_83 ⟨Nat.zero_le _, Nat.zero_le _⟩) hD hS hA (fun v83 σ1 H locs hv83 hP hD hS => ?_)
            obtain ⟨es9, hv83⟩ := hv83
            subst σ1
            refine lv_if_eq (tgt := 91) hx hb dX1_wayOf_86 (by decide) (fun c86 => ?_) (fun c86 => ?_)
            · skip
              have ic86 := zeq (a := v83.toInt) (b := 0) rfl (by decide) c86
              replace hv83 := (hv83.resolve_left (fun q => by omega)).2
              refine lv_aload_n hx hb dX1_wayOf_91 rfl (lv_at hl 0 rfl) ?_
              refine va_get (D := (dC, dI)) (ci := 1) (v := .ref (a 16)) (C := RX1) (T := TX1) (N := 9) hx hb hts in1 hown hK hP 4 rfl rfl 4 (by decide) k15 (fun _ h9 => h9) rfl dX1_wayOf_92 ?_
              refine lv_iload_n hx hb dX1_wayOf_95 rfl (lv_at hl 1 rfl) ?_
              refine va_iald (D := (dC, dI)) (f := σ 16) hx hb hK hP 16 1 rfl rfl (i := x1) (n := 10) (zin (by omega) (by omega)) dX1_wayOf_96 ?_
              refine lv_topi (fun v96 ev96 => ?_)
              have tv96 := congrArg Int32.toInt ev96
              refine lv_aload_n hx hb dX1_wayOf_97 rfl (lv_at hl 0 rfl) ?_
              refine va_get (D := (dC, dI)) (ci := 1) (v := .ref (a 2)) (C := RX1) (T := TX1) (N := 9) hx hb hts in1 hown hK hP 4 rfl rfl 0 (by decide) k32 (fun _ h9 => h9) rfl dX1_wayOf_98 ?_
              refine va_get (D := (dC, dI)) (ci := 2) (v := .ref (a 13)) (C := RX2) (T := TX2) (N := 6) hx hb hts in2 hown hK hP 2 rfl rfl 0 (by decide) k47 (fun _ h9 => h9) rfl dX1_wayOf_101 ?_
              refine lv_iconst (v := 2) hx hb dX1_wayOf_104 (by decide) ?_
              refine va_iald (D := (dC, dI)) (f := σ 13) hx hb hK hP 13 1 rfl rfl (i := 2) (n := 7) (zin (by decide) (by decide)) dX1_wayOf_105 ?_
              refine lv_topi (fun v105 ev105 => ?_)
              have tv105 := congrArg Int32.toInt ev105
              refine lv_icmp_lt (tgt := 113) hx hb dX1_wayOf_106 (by decide) (fun c106 => ?_) (fun c106 => ?_)
              · skip
                have ic106 := zlt (a := v96.toInt) (b := v105.toInt) rfl rfl c106
                refine lv_iconst (v := 3) hx hb dX1_wayOf_113 (by decide) ?_
                have hpost : σ = σ ∧ xWay σ x1.toNatClampNeg 3 := by refine ⟨rfl, Or.inr (Or.inr (Or.inr (Or.inr (Or.inr (Or.inr ?_)))))⟩; rw [ev66, show (v75 : Int32) = σ 13 1 from ev75] at c76; rw [ev96, show (v105 : Int32) = σ 13 2 from ev105] at c106; first | exact Or.inl ⟨hv3, hv23, hv41, hv53, c76, hv83, c106, rfl⟩ | exact Or.inr ⟨hv3, hv23, hv41, hv53, c76, hv83, c106, rfl⟩
                exact W.iret (v := 3) hx hb hr (fun t9 ht hW => ⟨⟨3, σ, rfl, hpost, by rw [ht]; exact hP, va_K.moved hW.alike hK, hD⟩, hS.F ht⟩) hS.2.2 dX1_wayOf_114
              · skip
                have ic106 := znlt (a := v96.toInt) (b := v105.toInt) rfl rfl c106
                refine lv_iconst (v := 2) hx hb dX1_wayOf_109 (by decide) ?_
                refine lv_goto (tgt := 114) hx hb dX1_wayOf_110 (by decide) ?_
                have hpost : σ = σ ∧ xWay σ x1.toNatClampNeg 2 := by refine ⟨rfl, Or.inr (Or.inr (Or.inr (Or.inr (Or.inr (Or.inr ?_)))))⟩; rw [ev66, show (v75 : Int32) = σ 13 1 from ev75] at c76; rw [ev96, show (v105 : Int32) = σ 13 2 from ev105] at c106; first | exact Or.inl ⟨hv3, hv23, hv41, hv53, c76, hv83, c106, rfl⟩ | exact Or.inr ⟨hv3, hv23, hv41, hv53, c76, hv83, c106, rfl⟩
                exact W.iret (v := 2) hx hb hr (fun t9 ht hW => ⟨⟨2, σ, rfl, hpost, by rw [ht]; exact hP, va_K.moved hW.alike hK, hD⟩, hS.F ht⟩) hS.2.2 dX1_wayOf_114
            · skip
              have ic86 := zneq (a := v83.toInt) (b := 0) rfl (by decide) c86
              replace hv83 := (hv83.resolve_right (fun q => by omega)).2
              refine lv_iconst (v := 0) hx hb dX1_wayOf_89 (by decide) ?_
              have hpost : σ = σ ∧ xWay σ x1.toNatClampNeg 0 := by exact ⟨rfl, Or.inr (Or.inr (Or.inr (Or.inr (Or.inr (Or.inl ⟨hv3, hv23, hv41, hv53, by rw [← ev66, ← show (v75 : Int32) = σ 13 1 from ev75]; exact c76, hv83, rfl⟩)))))⟩
              exact W.iret (v := 0) hx hb hr (fun t9 ht hW => ⟨⟨0, σ, rfl, hpost, by rw [ht]; exact hP, va_K.moved hW.alike hK, hD⟩, hS.F ht⟩) hS.2.2 dX1_wayOf_90
          · skip
            have ic76 := znlt (a := v66.toInt) (b := v75.toInt) rfl rfl c76
            refine lv_iconst (v := 1) hx hb dX1_wayOf_79 (by decide) ?_
            have hpost : σ = σ ∧ xWay σ x1.toNatClampNeg 1 := by exact ⟨rfl, Or.inr (Or.inr (Or.inr (Or.inr (Or.inl ⟨hv3, hv23, hv41, hv53, by rw [← ev66, ← show (v75 : Int32) = σ 13 1 from ev75]; exact c76, rfl⟩))))⟩
            exact W.iret (v := 1) hx hb hr (fun t9 ht hW => ⟨⟨1, σ, rfl, hpost, by rw [ht]; exact hP, va_K.moved hW.alike hK, hD⟩, hS.F ht⟩) hS.2.2 dX1_wayOf_80
        · skip
          have ic56 := zneq (a := v53.toInt) (b := 0) rfl (by decide) c56
          replace hv53 := (hv53.resolve_right (fun q => by omega)).2
          refine lv_iconst (v := 0) hx hb dX1_wayOf_59 (by decide) ?_
          have hpost : σ = σ ∧ xWay σ x1.toNatClampNeg 0 := by exact ⟨rfl, Or.inr (Or.inr (Or.inr (Or.inl ⟨hv3, hv23, hv41, hv53, rfl⟩)))⟩
          exact W.iret (v := 0) hx hb hr (fun t9 ht hW => ⟨⟨0, σ, rfl, hpost, by rw [ht]; exact hP, va_K.moved hW.alike hK, hD⟩, hS.F ht⟩) hS.2.2 dX1_wayOf_60
      · skip
        have ic44 := zneq (a := v41.toInt) (b := 0) rfl (by decide) c44
        replace hv41 := (hv41.resolve_right (fun q => by omega)).2
        refine lv_iconst (v := 4) hx hb dX1_wayOf_47 (by decide) ?_
        have hpost : σ = σ ∧ xWay σ x1.toNatClampNeg 4 := by exact ⟨rfl, Or.inr (Or.inr (Or.inl ⟨hv3, hv23, hv41, rfl⟩))⟩
        exact W.iret (v := 4) hx hb hr (fun t9 ht hW => ⟨⟨4, σ, rfl, hpost, by rw [ht]; exact hP, va_K.moved hW.alike hK, hD⟩, hS.F ht⟩) hS.2.2 dX1_wayOf_48
    · skip
      have ic26 := zneq (a := v23.toInt) (b := 0) rfl (by decide) c26
      replace hv23 := (hv23.resolve_right (fun q => by omega)).2
      refine lv_aload_n hx hb dX1_wayOf_29 rfl (lv_at hl 0 rfl) ?_
      refine va_get (D := (dC, dI)) (ci := 1) (v := .ref (a 2)) (C := RX1) (T := TX1) (N := 9) hx hb hts in1 hown hK hP 4 rfl rfl 0 (by decide) k32 (fun _ h9 => h9) rfl dX1_wayOf_30 ?_
      refine va_get (D := (dC, dI)) (ci := 2) (v := .ref (a 13)) (C := RX2) (T := TX2) (N := 6) hx hb hts in2 hown hK hP 2 rfl rfl 0 (by decide) k47 (fun _ h9 => h9) rfl dX1_wayOf_33 ?_
      refine lv_iconst (v := 5) hx hb dX1_wayOf_36 (by decide) ?_
      refine va_iald (D := (dC, dI)) (f := σ 13) hx hb hK hP 13 1 rfl rfl (i := 5) (n := 7) (zin (by decide) (by decide)) dX1_wayOf_37 ?_
      refine lv_topi (fun v37 ev37 => ?_)
      have tv37 := congrArg Int32.toInt ev37
      have hpost : σ = σ ∧ xWay σ x1.toNatClampNeg v37 := by exact ⟨rfl, Or.inr (Or.inl ⟨hv3, hv23, ev37⟩)⟩
      exact W.iret (v := v37) hx hb hr (fun t9 ht hW => ⟨⟨v37, σ, rfl, hpost, by rw [ht]; exact hP, va_K.moved hW.alike hK, hD⟩, hS.F ht⟩) hS.2.2 dX1_wayOf_38
  · skip
    have ic6 := zneq (a := v3.toInt) (b := 0) rfl (by decide) c6
    replace hv3 := (hv3.resolve_right (fun q => by omega)).2
    refine lv_aload_n hx hb dX1_wayOf_9 rfl (lv_at hl 0 rfl) ?_
    refine va_get (D := (dC, dI)) (ci := 1) (v := .ref (a 2)) (C := RX1) (T := TX1) (N := 9) hx hb hts in1 hown hK hP 4 rfl rfl 0 (by decide) k32 (fun _ h9 => h9) rfl dX1_wayOf_10 ?_
    refine va_get (D := (dC, dI)) (ci := 2) (v := .ref (a 13)) (C := RX2) (T := TX2) (N := 6) hx hb hts in2 hown hK hP 2 rfl rfl 0 (by decide) k47 (fun _ h9 => h9) rfl dX1_wayOf_13 ?_
    refine lv_bipush (v := 6) hx hb dX1_wayOf_16 (by decide) ?_
    refine va_iald (D := (dC, dI)) (f := σ 13) hx hb hK hP 13 1 rfl rfl (i := 6) (n := 7) (zin (by decide) (by decide)) dX1_wayOf_18 ?_
    refine lv_topi (fun v18 ev18 => ?_)
    have tv18 := congrArg Int32.toInt ev18
    have hpost : σ = σ ∧ xWay σ x1.toNatClampNeg v18 := by exact ⟨rfl, Or.inl ⟨hv3, ev18⟩⟩
    exact W.iret (v := v18) hx hb hr (fun t9 ht hW => ⟨⟨v18, σ, rfl, hpost, by rw [ht]; exact hP, va_K.moved hW.alike hK, hD⟩, hS.F ht⟩) hS.2.2 dX1_wayOf_19

abbrev RM_X1_keenest : Room := { frames := 0, cells := 0, slots := 0, locals := 0 }
set_option maxHeartbeats 4000000 in
set_option maxRecDepth 100000 in
theorem c_X1_keenest (l : Launch) (dC : Nat → ClassId) (dI : Nat → Nat → Nat) (cB cI cS cII : ClassId) (a : Nat → Nat) (N : (Nat → Prop) → State → Prop) (hok : zNok N) (hn : ∀ A U, N A U → zN U) (σ : Cn) (sz : Nat) (x1 : Int32) (h0 : 0 ≤ (σ 4 1).toInt ∧ (σ 4 1).toInt ≤ 4) (h1 : 0 ≤ x1.toInt ∧ x1.toInt < 10) : Met l yX1_keenest wsX1_keenest RM_X1_keenest (zPc (dC, dI) (zT cB cI cS cII) N (wX a cB cI cS cII) σ sz [.ref (a 4), .int x1]) (zQi (dC, dI) (zT cB cI cS cII) (wX a cB cI cS cII) (va_A (wX a cB cI cS cII σ) sz) (fun (r : Int32) (σ1 : Cn) => σ1 = σ ∧ 0 ≤ (r : Int32).toInt ∧ (r : Int32).toInt < 4)) 0 0 (va_A (wX a cB cI cS cII σ) sz) := by
  refine Met.ofW (cc := cX1_keenest) (maxL := 4) (ret := (some .int)) (by decide) rfl ?_
  intro p e s m args below meth c s₁ B hml hv
  obtain ⟨rfl, hsz, hP, hK, hD0, hN⟩ := hv
  have hx := B.exec
  have hb := B.bytes
  have hr := B.returns
  have hts := atoms_spec (ws := wsX1_keenest) B.pre
  have hown : s.vm.findClass RX1 = some m.cls := findClass_of_methodNamed B.named
  have hlocks := B.notSynchronized
  subst hsz
  have hD := hD0.self (sz := s.heap.size)
  generalize hAe : va_A (wX a cB cI cS cII σ) s.heap.size = A at hD hN ⊢
  have hA : ∀ q : Nat, s.heap.size ≤ q → A q := fun q h => by rw [← hAe]; exact Or.inr h
  clear hAe hD0
  have hS : va_S A s.heap s.heap [] := va_S.rf
  have in1 : ∀ w ∈ u_ws RX1 TX1 9, w ∈ wsX1_keenest := by decide +kernel
  have k29 := hts (.fieldLink RX1 29 "HouseSorted$House" "worth" "[[I") (by decide +kernel)
  have k36 := hts (.fieldLink RX1 36 "HouseSorted$House" "heirs" "I") (by decide +kernel)
  have LP : ∀ n : Nat, (∀ (b : Int32) (j : Int32) (H : Heap) (locs : List Loc) (ls : Array Slot), 0 ≤ b.toInt ∧ b.toInt < 4 → 1 ≤ j.toInt ∧ j.toInt ≤ 5 → (5 - j.toInt).toNat < n → va_P (dC, dI) vwCl (wX a cB cI cS cII σ) H → va_D A (wX a cB cI cS cII σ) → va_S A s.heap H locs → lv_has ls 4 [(0, .ref (a 4)), (1, .int x1), (2, .int b), (3, .int j)] → W p l e (headSpec wsX1_keenest RM_X1_keenest).room s m ([.ref (a 4), .int x1] : List Value).toArray below meth c H locs 0 0 (MQ below (zQi (dC, dI) (zT cB cI cS cII) (wX a cB cI cS cII) A (fun (r : Int32) (σ1 : Cn) => σ1 = σ ∧ 0 ≤ (r : Int32).toInt ∧ (r : Int32).toInt < 4)) ([.ref (a 4), .int x1] : List Value).toArray s 0 0 A) (F0 m 4 ls [])) := by
    intro n
    induction n with
    | zero => exact by intros; omega
    | succ n ih =>
      · intro b j H locs ls g1 g2 hmu hP hD hS hl
        refine lv_iload_n hx hb dX1_keenest_4 rfl (lv_at hl 3 rfl) ?_
        refine lv_aload_n hx hb dX1_keenest_5 rfl (lv_at hl 0 rfl) ?_
        refine va_get (D := (dC, dI)) (ci := 1) (v := .int (σ 4 1)) (C := RX1) (T := TX1) (N := 9) hx hb hts in1 hown hK hP 4 rfl rfl 1 (by decide) k36 (fun _ h9 => h9) rfl dX1_keenest_6 ?_
        refine lv_icmp_ge (tgt := 39) hx hb dX1_keenest_9 (by decide) (fun c9 => ?_) (fun c9 => ?_)
        · skip
          have ic9 := zle (a := (σ 4 1).toInt) (b := j.toInt) rfl rfl c9
          refine lv_iload_n hx hb dX1_keenest_39 rfl (lv_at hl 2 rfl) ?_
          have hpost : σ = σ ∧ 0 ≤ (b : Int32).toInt ∧ (b : Int32).toInt < 4 := by exact ⟨rfl, by omega⟩
          exact W.iret (v := b) hx hb hr (fun t9 ht hW => ⟨⟨b, σ, rfl, hpost, by rw [ht]; exact hP, va_K.moved hW.alike hK, hD⟩, hS.F ht⟩) hS.2.2 dX1_keenest_40
        · skip
          have ic9 := znle (a := (σ 4 1).toInt) (b := j.toInt) rfl rfl c9
          refine lv_aload_n hx hb dX1_keenest_12 rfl (lv_at hl 0 rfl) ?_
          refine va_get (D := (dC, dI)) (ci := 1) (v := .ref (a 20)) (C := RX1) (T := TX1) (N := 9) hx hb hts in1 hown hK hP 4 rfl rfl 8 (by decide) k29 (fun _ h9 => h9) rfl dX1_keenest_13 ?_
          refine lv_iload_n hx hb dX1_keenest_16 rfl (lv_at hl 3 rfl) ?_
          have hr17 : (j).toNatClampNeg < 4 := by have h9 := zcl (x := j) (by omega); omega
          refine zald hx hb hK hP 20 3 rfl rfl (i := j) (n := 4) (zin (by omega) (by omega)) (zro_in hr17) dX1_keenest_17 ?_
          refine lv_iload_n hx hb dX1_keenest_18 rfl (lv_at hl 1 rfl) ?_
          refine va_iald (D := (dC, dI)) (f := σ (21 + (j).toNatClampNeg)) hx hb hK hP (21 + (j).toNatClampNeg) 1 (wX_row21 hr17) rfl (i := x1) (n := 10) (zin (by omega) (by omega)) dX1_keenest_19 ?_
          refine lv_topi (fun v19 ev19 => ?_)
          have tv19 := congrArg Int32.toInt ev19
          refine lv_aload_n hx hb dX1_keenest_20 rfl (lv_at hl 0 rfl) ?_
          refine va_get (D := (dC, dI)) (ci := 1) (v := .ref (a 20)) (C := RX1) (T := TX1) (N := 9) hx hb hts in1 hown hK hP 4 rfl rfl 8 (by decide) k29 (fun _ h9 => h9) rfl dX1_keenest_21 ?_
          refine lv_iload_n hx hb dX1_keenest_24 rfl (lv_at hl 2 rfl) ?_
          have hr25 : (b).toNatClampNeg < 4 := by have h9 := zcl (x := b) (by omega); omega
          refine zald hx hb hK hP 20 3 rfl rfl (i := b) (n := 4) (zin (by omega) (by omega)) (zro_in hr25) dX1_keenest_25 ?_
          refine lv_iload_n hx hb dX1_keenest_26 rfl (lv_at hl 1 rfl) ?_
          refine va_iald (D := (dC, dI)) (f := σ (21 + (b).toNatClampNeg)) hx hb hK hP (21 + (b).toNatClampNeg) 1 (wX_row21 hr25) rfl (i := x1) (n := 10) (zin (by omega) (by omega)) dX1_keenest_27 ?_
          refine lv_topi (fun v27 ev27 => ?_)
          have tv27 := congrArg Int32.toInt ev27
          refine lv_icmp_le (tgt := 33) hx hb dX1_keenest_28 (by decide) (fun c28 => ?_) (fun c28 => ?_)
          · skip
            have ic28 := zle (a := v19.toInt) (b := v27.toInt) rfl rfl c28
            obtain ⟨v33, ev33⟩ : ∃ y : Int32, y = j + 1 := ⟨_, rfl⟩
            refine lv_iinc (v := v33) (lv' := [(3, .int v33), (0, .ref (a 4)), (1, .int x1), (2, .int b)]) hx hb dX1_keenest_33 hl (k := 3) rfl (by rw [ev33]; rfl) (by decide) rfl (fun ls hl => ?_)
            have tv33 : v33.toInt = j.toInt + 1 := by rw [ev33, zadd, show (1 : Int32).toInt = 1 from by decide]; omega
            refine lv_goto (tgt := 4) hx hb dX1_keenest_36 (by decide) ?_
            exact ih (b) (v33)  H locs ls (by omega) (by omega) (by omega) hP hD hS (lv_sub hl [1, 2, 3, 0] rfl)
          · skip
            have ic28 := znle (a := v19.toInt) (b := v27.toInt) rfl rfl c28
            refine lv_iload_n hx hb dX1_keenest_31 rfl (lv_at hl 3 rfl) ?_
            refine lv_istore_n (lv' := [(2, .int j), (0, .ref (a 4)), (1, .int x1), (3, .int j)]) hx hb dX1_keenest_32 rfl hl (by decide) rfl (fun ls hl => ?_)
            obtain ⟨v33, ev33⟩ : ∃ y : Int32, y = j + 1 := ⟨_, rfl⟩
            refine lv_iinc (v := v33) (lv' := [(3, .int v33), (2, .int j), (0, .ref (a 4)), (1, .int x1)]) hx hb dX1_keenest_33 hl (k := 3) rfl (by rw [ev33]; rfl) (by decide) rfl (fun ls hl => ?_)
            have tv33 : v33.toInt = j.toInt + 1 := by rw [ev33, zadd, show (1 : Int32).toInt = 1 from by decide]; omega
            refine lv_goto (tgt := 4) hx hb dX1_keenest_36 (by decide) ?_
            exact ih (j) (v33)  H locs ls (by omega) (by omega) (by omega) hP hD hS (lv_sub hl [2, 3, 1, 0] rfl)
  have hl := lv_entry ([.ref (a 4), .int x1]) (n := 4) (Nat.le_of_ble_eq_true rfl)
  rw [lg_entry_eq]
  generalize (lg_sl ([.ref (a 4), .int x1]) ++ List.replicate (4 - (lg_sl ([.ref (a 4), .int x1])).length) Slot.unset).toArray = ls at hl ⊢
  have hl : lv_has ls 4 [(0, .ref (a 4)), (1, .int x1)] := hl
  suffices main : ∀ (H : Heap) (locs : List Loc), va_P (dC, dI) vwCl (wX a cB cI cS cII σ) H → va_D A (wX a cB cI cS cII σ) → va_S A s.heap H locs → W p l e (headSpec wsX1_keenest RM_X1_keenest).room s m ([.ref (a 4), .int x1] : List Value).toArray below meth c H locs 0 0 (MQ below (zQi (dC, dI) (zT cB cI cS cII) (wX a cB cI cS cII) A (fun (r : Int32) (σ1 : Cn) => σ1 = σ ∧ 0 ≤ (r : Int32).toInt ∧ (r : Int32).toInt < 4)) ([.ref (a 4), .int x1] : List Value).toArray s 0 0 A) (F0 m 0 ls []) from main s.heap [] hP hD hS
  intro H locs hP hD hS
  refine lv_iconst (v := 0) hx hb dX1_keenest_0 (by decide) ?_
  refine lv_istore_n (lv' := [(2, .int 0), (0, .ref (a 4)), (1, .int x1)]) hx hb dX1_keenest_1 rfl hl (by decide) rfl (fun ls hl => ?_)
  refine lv_iconst (v := 1) hx hb dX1_keenest_2 (by decide) ?_
  refine lv_istore_n (lv' := [(3, .int 1), (2, .int 0), (0, .ref (a 4)), (1, .int x1)]) hx hb dX1_keenest_3 rfl hl (by decide) rfl (fun ls hl => ?_)
  exact (LP _) (0) (1)  H locs ls (by decide) (by decide) (Nat.lt_succ_self _) hP hD hS (lv_sub hl [2, 3, 1, 0] rfl)

abbrev RM_X1_countOnWay : Room := { frames := 3, cells := 0, slots := 0, locals := 64 }
set_option maxHeartbeats 4000000 in
set_option maxRecDepth 100000 in
theorem c_X1_countOnWay (l : Launch) (dC : Nat → ClassId) (dI : Nat → Nat → Nat) (cB cI cS cII : ClassId) (a : Nat → Nat) (N : (Nat → Prop) → State → Prop) (hok : zNok N) (hn : ∀ A U, N A U → zN U) (σ : Cn) (sz : Nat) (x1 : Int32) (h0 : 0 ≤ (σ 4 1).toInt ∧ (σ 4 1).toInt ≤ 4) (h2 : 0 ≤ (σ 4 2).toInt ∧ (σ 4 2).toInt ≤ 10) : Met l yX1_countOnWay wsX1_countOnWay RM_X1_countOnWay (zPc (dC, dI) (zT cB cI cS cII) N (wX a cB cI cS cII) σ sz [.ref (a 4), .int x1]) (zQi (dC, dI) (zT cB cI cS cII) (wX a cB cI cS cII) (va_A (wX a cB cI cS cII σ) sz) (fun (r : Int32) (σ1 : Cn) => σ1 = σ ∧ True)) 0 0 (va_A (wX a cB cI cS cII σ) sz) := by
  refine Met.ofW (cc := cX1_countOnWay) (maxL := 4) (ret := (some .int)) (by decide) rfl ?_
  intro p e s m args below meth c s₁ B hml hv
  obtain ⟨rfl, hsz, hP, hK, hD0, hN⟩ := hv
  have hx := B.exec
  have hb := B.bytes
  have hr := B.returns
  have hts := atoms_spec (ws := wsX1_countOnWay) B.pre
  have hown : s.vm.findClass RX1 = some m.cls := findClass_of_methodNamed B.named
  have hlocks := B.notSynchronized
  subst hsz
  have hD := hD0.self (sz := s.heap.size)
  generalize hAe : va_A (wX a cB cI cS cII σ) s.heap.size = A at hD hN ⊢
  have hA : ∀ q : Nat, s.heap.size ≤ q → A q := fun q h => by rw [← hAe]; exact Or.inr h
  clear hAe hD0
  have hS : va_S A s.heap s.heap [] := va_S.rf
  have in1 : ∀ w ∈ u_ws RX1 TX1 9, w ∈ wsX1_countOnWay := by decide +kernel
  have k40 := hts (.fieldLink RX1 40 "HouseSorted$House" "things" "I") (by decide +kernel)
  have LP : ∀ n : Nat, (∀ (f : Int32) (j : Int32) (H : Heap) (locs : List Loc) (ls : Array Slot), 0 ≤ j.toInt ∧ j.toInt ≤ 10 → (10 - j.toInt).toNat < n → va_P (dC, dI) vwCl (wX a cB cI cS cII σ) H → va_D A (wX a cB cI cS cII σ) → va_S A s.heap H locs → lv_has ls 4 [(0, .ref (a 4)), (1, .int x1), (2, .int f), (3, .int j)] → W p l e (headSpec wsX1_countOnWay RM_X1_countOnWay).room s m ([.ref (a 4), .int x1] : List Value).toArray below meth c H locs 0 0 (MQ below (zQi (dC, dI) (zT cB cI cS cII) (wX a cB cI cS cII) A (fun (r : Int32) (σ1 : Cn) => σ1 = σ ∧ True)) ([.ref (a 4), .int x1] : List Value).toArray s 0 0 A) (F0 m 4 ls [])) := by
    intro n
    induction n with
    | zero => exact by intros; omega
    | succ n ih =>
      · intro f j H locs ls g1 hmu hP hD hS hl
        refine lv_iload_n hx hb dX1_countOnWay_4 rfl (lv_at hl 3 rfl) ?_
        refine lv_aload_n hx hb dX1_countOnWay_5 rfl (lv_at hl 0 rfl) ?_
        refine va_get (D := (dC, dI)) (ci := 1) (v := .int (σ 4 2)) (C := RX1) (T := TX1) (N := 9) hx hb hts in1 hown hK hP 4 rfl rfl 2 (by decide) k40 (fun _ h9 => h9) rfl dX1_countOnWay_6 ?_
        refine lv_icmp_ge (tgt := 30) hx hb dX1_countOnWay_9 (by decide) (fun c9 => ?_) (fun c9 => ?_)
        · skip
          have ic9 := zle (a := (σ 4 2).toInt) (b := j.toInt) rfl rfl c9
          refine lv_iload_n hx hb dX1_countOnWay_30 rfl (lv_at hl 2 rfl) ?_
          have hpost : σ = σ ∧ True := by exact ⟨rfl, trivial⟩
          exact W.iret (v := f) hx hb hr (fun t9 ht hW => ⟨⟨f, σ, rfl, hpost, by rw [ht]; exact hP, va_K.moved hW.alike hK, hD⟩, hS.F ht⟩) hS.2.2 dX1_countOnWay_31
        · skip
          have ic9 := znle (a := (σ 4 2).toInt) (b := j.toInt) rfl rfl c9
          refine lv_aload_n hx hb dX1_countOnWay_12 rfl (lv_at hl 0 rfl) ?_
          refine lv_iload_n hx hb dX1_countOnWay_13 rfl (lv_at hl 3 rfl) ?_
          refine zcalli (va_runV (As := [.int j]) (rest := []) ⟨hx, hb, hml, hown, hts⟩ (c_X1_wayOf l dC dI cB cI cS cII a N hok hn σ H.size (j) h0 (by omega)) (cwV 1 hts gX1_countOnWay_X1_wayOf rfl rfl rfl (by decide +kernel) ⟨Nat.le_of_ble_eq_true rfl, Nat.le_of_ble_eq_true rfl⟩) (zpreV (wf := wX a cB cI cS cII) (q0 := 4) (ci := 1) hok hN hS hA hK hP hD rfl rfl) rfl rfl hl.1 rfl (lv_room (Nat.le_of_ble_eq_true rfl)) dX1_countOnWay_14 ⟨Nat.zero_le _, Nat.zero_le _⟩) hD hS hA (fun v14 σ1 H locs hv14 hP hD hS => ?_)
          obtain ⟨es9, hv14⟩ := hv14
          subst σ1
          refine lv_iload_n hx hb dX1_countOnWay_17 rfl (lv_at hl 1 rfl) ?_
          refine lv_icmp_ne (tgt := 24) hx hb dX1_countOnWay_18 (by decide) (fun c18 => ?_) (fun c18 => ?_)
          · skip
            have ic18 := zneq (a := v14.toInt) (b := x1.toInt) rfl rfl c18
            obtain ⟨v24, ev24⟩ : ∃ y : Int32, y = j + 1 := ⟨_, rfl⟩
            refine lv_iinc (v := v24) (lv' := [(3, .int v24), (0, .ref (a 4)), (1, .int x1), (2, .int f)]) hx hb dX1_countOnWay_24 hl (k := 3) rfl (by rw [ev24]; rfl) (by decide) rfl (fun ls hl => ?_)
            have tv24 : v24.toInt = j.toInt + 1 := by rw [ev24, zadd, show (1 : Int32).toInt = 1 from by decide]; omega
            refine lv_goto (tgt := 4) hx hb dX1_countOnWay_27 (by decide) ?_
            exact ih (f) (v24)  H locs ls (by omega) (by omega) hP hD hS (lv_sub hl [1, 2, 3, 0] rfl)
          · skip
            have ic18 := zeq (a := v14.toInt) (b := x1.toInt) rfl rfl c18
            obtain ⟨v21, ev21⟩ : ∃ y : Int32, y = f + 1 := ⟨_, rfl⟩
            refine lv_iinc (v := v21) (lv' := [(2, .int v21), (0, .ref (a 4)), (1, .int x1), (3, .int j)]) hx hb dX1_countOnWay_21 hl (k := 2) rfl (by rw [ev21]; rfl) (by decide) rfl (fun ls hl => ?_)
            obtain ⟨v24, ev24⟩ : ∃ y : Int32, y = j + 1 := ⟨_, rfl⟩
            refine lv_iinc (v := v24) (lv' := [(3, .int v24), (2, .int v21), (0, .ref (a 4)), (1, .int x1)]) hx hb dX1_countOnWay_24 hl (k := 3) rfl (by rw [ev24]; rfl) (by decide) rfl (fun ls hl => ?_)
            have tv24 : v24.toInt = j.toInt + 1 := by rw [ev24, zadd, show (1 : Int32).toInt = 1 from by decide]; omega
            refine lv_goto (tgt := 4) hx hb dX1_countOnWay_27 (by decide) ?_
            exact ih (v21) (v24)  H locs ls (by omega) (by omega) hP hD hS (lv_sub hl [2, 3, 1, 0] rfl)
  have hl := lv_entry ([.ref (a 4), .int x1]) (n := 4) (Nat.le_of_ble_eq_true rfl)
  rw [lg_entry_eq]
  generalize (lg_sl ([.ref (a 4), .int x1]) ++ List.replicate (4 - (lg_sl ([.ref (a 4), .int x1])).length) Slot.unset).toArray = ls at hl ⊢
  have hl : lv_has ls 4 [(0, .ref (a 4)), (1, .int x1)] := hl
  suffices main : ∀ (H : Heap) (locs : List Loc), va_P (dC, dI) vwCl (wX a cB cI cS cII σ) H → va_D A (wX a cB cI cS cII σ) → va_S A s.heap H locs → W p l e (headSpec wsX1_countOnWay RM_X1_countOnWay).room s m ([.ref (a 4), .int x1] : List Value).toArray below meth c H locs 0 0 (MQ below (zQi (dC, dI) (zT cB cI cS cII) (wX a cB cI cS cII) A (fun (r : Int32) (σ1 : Cn) => σ1 = σ ∧ True)) ([.ref (a 4), .int x1] : List Value).toArray s 0 0 A) (F0 m 0 ls []) from main s.heap [] hP hD hS
  intro H locs hP hD hS
  refine lv_iconst (v := 0) hx hb dX1_countOnWay_0 (by decide) ?_
  refine lv_istore_n (lv' := [(2, .int 0), (0, .ref (a 4)), (1, .int x1)]) hx hb dX1_countOnWay_1 rfl hl (by decide) rfl (fun ls hl => ?_)
  refine lv_iconst (v := 0) hx hb dX1_countOnWay_2 (by decide) ?_
  refine lv_istore_n (lv' := [(3, .int 0), (2, .int 0), (0, .ref (a 4)), (1, .int x1)]) hx hb dX1_countOnWay_3 rfl hl (by decide) rfl (fun ls hl => ?_)
  exact (LP _) (0) (0)  H locs ls (by decide) (Nat.lt_succ_self _) hP hD hS (lv_sub hl [2, 3, 1, 0] rfl)

abbrev RM_X1_sumOnWay : Room := { frames := 3, cells := 0, slots := 0, locals := 64 }
set_option maxHeartbeats 4000000 in
set_option maxRecDepth 100000 in
theorem c_X1_sumOnWay_15 (l : Launch) (dC : Nat → ClassId) (dI : Nat → Nat → Nat) (cB cI cS cII : ClassId) (a : Nat → Nat) (N : (Nat → Prop) → State → Prop) (hok : zNok N) (hn : ∀ A U, N A U → zN U) (σ : Cn) (sz : Nat) (x1 : Int32) (h0 : 0 ≤ (σ 4 1).toInt ∧ (σ 4 1).toInt ≤ 4) (h2 : 0 ≤ (σ 4 2).toInt ∧ (σ 4 2).toInt ≤ 10) : Met l yX1_sumOnWay wsX1_sumOnWay RM_X1_sumOnWay (zPc (dC, dI) (zT cB cI cS cII) N (wX a cB cI cS cII) σ sz [.ref (a 4), .int x1, .ref (a 15)]) (zQi (dC, dI) (zT cB cI cS cII) (wX a cB cI cS cII) (va_A (wX a cB cI cS cII σ) sz) (fun (r : Int32) (σ1 : Cn) => σ1 = σ ∧ True)) 0 0 (va_A (wX a cB cI cS cII σ) sz) := by
  refine Met.ofW (cc := cX1_sumOnWay) (maxL := 5) (ret := (some .int)) (by decide) rfl ?_
  intro p e s m args below meth c s₁ B hml hv
  obtain ⟨rfl, hsz, hP, hK, hD0, hN⟩ := hv
  have hx := B.exec
  have hb := B.bytes
  have hr := B.returns
  have hts := atoms_spec (ws := wsX1_sumOnWay) B.pre
  have hown : s.vm.findClass RX1 = some m.cls := findClass_of_methodNamed B.named
  have hlocks := B.notSynchronized
  subst hsz
  have hD := hD0.self (sz := s.heap.size)
  generalize hAe : va_A (wX a cB cI cS cII σ) s.heap.size = A at hD hN ⊢
  have hA : ∀ q : Nat, s.heap.size ≤ q → A q := fun q h => by rw [← hAe]; exact Or.inr h
  clear hAe hD0
  have hS : va_S A s.heap s.heap [] := va_S.rf
  have in1 : ∀ w ∈ u_ws RX1 TX1 9, w ∈ wsX1_sumOnWay := by decide +kernel
  have k40 := hts (.fieldLink RX1 40 "HouseSorted$House" "things" "I") (by decide +kernel)
  have LP : ∀ n : Nat, (∀ (f : Int32) (j : Int32) (H : Heap) (locs : List Loc) (ls : Array Slot), 0 ≤ j.toInt ∧ j.toInt ≤ 10 → (10 - j.toInt).toNat < n → va_P (dC, dI) vwCl (wX a cB cI cS cII σ) H → va_D A (wX a cB cI cS cII σ) → va_S A s.heap H locs → lv_has ls 5 [(0, .ref (a 4)), (1, .int x1), (2, .ref (a 15)), (3, .int f), (4, .int j)] → W p l e (headSpec wsX1_sumOnWay RM_X1_sumOnWay).room s m ([.ref (a 4), .int x1, .ref (a 15)] : List Value).toArray below meth c H locs 0 0 (MQ below (zQi (dC, dI) (zT cB cI cS cII) (wX a cB cI cS cII) A (fun (r : Int32) (σ1 : Cn) => σ1 = σ ∧ True)) ([.ref (a 4), .int x1, .ref (a 15)] : List Value).toArray s 0 0 A) (F0 m 5 ls [])) := by
    intro n
    induction n with
    | zero => exact by intros; omega
    | succ n ih =>
      · intro f j H locs ls g1 hmu hP hD hS hl
        refine lv_iload hx hb dX1_sumOnWay_5 (lv_at hl 4 rfl) ?_
        refine lv_aload_n hx hb dX1_sumOnWay_7 rfl (lv_at hl 0 rfl) ?_
        refine va_get (D := (dC, dI)) (ci := 1) (v := .int (σ 4 2)) (C := RX1) (T := TX1) (N := 9) hx hb hts in1 hown hK hP 4 rfl rfl 2 (by decide) k40 (fun _ h9 => h9) rfl dX1_sumOnWay_8 ?_
        refine lv_icmp_ge (tgt := 37) hx hb dX1_sumOnWay_11 (by decide) (fun c11 => ?_) (fun c11 => ?_)
        · skip
          have ic11 := zle (a := (σ 4 2).toInt) (b := j.toInt) rfl rfl c11
          refine lv_iload_n hx hb dX1_sumOnWay_37 rfl (lv_at hl 3 rfl) ?_
          have hpost : σ = σ ∧ True := by exact ⟨rfl, trivial⟩
          exact W.iret (v := f) hx hb hr (fun t9 ht hW => ⟨⟨f, σ, rfl, hpost, by rw [ht]; exact hP, va_K.moved hW.alike hK, hD⟩, hS.F ht⟩) hS.2.2 dX1_sumOnWay_38
        · skip
          have ic11 := znle (a := (σ 4 2).toInt) (b := j.toInt) rfl rfl c11
          refine lv_aload_n hx hb dX1_sumOnWay_14 rfl (lv_at hl 0 rfl) ?_
          refine lv_iload hx hb dX1_sumOnWay_15 (lv_at hl 4 rfl) ?_
          refine zcalli (va_runV (As := [.int j]) (rest := []) ⟨hx, hb, hml, hown, hts⟩ (c_X1_wayOf l dC dI cB cI cS cII a N hok hn σ H.size (j) h0 (by omega)) (cwV 1 hts gX1_sumOnWay_X1_wayOf rfl rfl rfl (by decide +kernel) ⟨Nat.le_of_ble_eq_true rfl, Nat.le_of_ble_eq_true rfl⟩) (zpreV (wf := wX a cB cI cS cII) (q0 := 4) (ci := 1) hok hN hS hA hK hP hD rfl rfl) rfl rfl hl.1 rfl (lv_room (Nat.le_of_ble_eq_true rfl)) dX1_sumOnWay_17 ⟨Nat.zero_le _, Nat.zero_le _⟩) hD hS hA (fun v17 σ1 H locs hv17 hP hD hS => ?_)
          obtain ⟨es9, hv17⟩ := hv17
          subst σ1
          refine lv_iload_n hx hb dX1_sumOnWay_20 rfl (lv_at hl 1 rfl) ?_
          refine lv_icmp_ne (tgt := 31) hx hb dX1_sumOnWay_21 (by decide) (fun c21 => ?_) (fun c21 => ?_)
          · skip
            have ic21 := zneq (a := v17.toInt) (b := x1.toInt) rfl rfl c21
            obtain ⟨v31, ev31⟩ : ∃ y : Int32, y = j + 1 := ⟨_, rfl⟩
            refine lv_iinc (v := v31) (lv' := [(4, .int v31), (0, .ref (a 4)), (1, .int x1), (2, .ref (a 15)), (3, .int f)]) hx hb dX1_sumOnWay_31 hl (k := 4) rfl (by rw [ev31]; rfl) (by decide) rfl (fun ls hl => ?_)
            have tv31 : v31.toInt = j.toInt + 1 := by rw [ev31, zadd, show (1 : Int32).toInt = 1 from by decide]; omega
            refine lv_goto (tgt := 5) hx hb dX1_sumOnWay_34 (by decide) ?_
            exact ih (f) (v31)  H locs ls (by omega) (by omega) hP hD hS (lv_sub hl [1, 2, 3, 4, 0] rfl)
          · skip
            have ic21 := zeq (a := v17.toInt) (b := x1.toInt) rfl rfl c21
            refine lv_iload_n hx hb dX1_sumOnWay_24 rfl (lv_at hl 3 rfl) ?_
            refine lv_aload_n hx hb dX1_sumOnWay_25 rfl (lv_at hl 2 rfl) ?_
            refine lv_iload hx hb dX1_sumOnWay_26 (lv_at hl 4 rfl) ?_
            refine va_iald (D := (dC, dI)) (f := σ 15) hx hb hK hP 15 1 rfl rfl (i := j) (n := 10) (zin (by omega) (by omega)) dX1_sumOnWay_28 ?_
            refine lv_topi (fun v28 ev28 => ?_)
            have tv28 := congrArg Int32.toInt ev28
            refine lv_iadd hx hb dX1_sumOnWay_29 ?_
            refine lv_topi (fun v29 ev29 => ?_)
            refine lv_istore_n (lv' := [(3, .int v29), (0, .ref (a 4)), (1, .int x1), (2, .ref (a 15)), (4, .int j)]) hx hb dX1_sumOnWay_30 rfl hl (by decide) rfl (fun ls hl => ?_)
            obtain ⟨v31, ev31⟩ : ∃ y : Int32, y = j + 1 := ⟨_, rfl⟩
            refine lv_iinc (v := v31) (lv' := [(4, .int v31), (3, .int v29), (0, .ref (a 4)), (1, .int x1), (2, .ref (a 15))]) hx hb dX1_sumOnWay_31 hl (k := 4) rfl (by rw [ev31]; rfl) (by decide) rfl (fun ls hl => ?_)
            have tv31 : v31.toInt = j.toInt + 1 := by rw [ev31, zadd, show (1 : Int32).toInt = 1 from by decide]; omega
            refine lv_goto (tgt := 5) hx hb dX1_sumOnWay_34 (by decide) ?_
            exact ih (v29) (v31)  H locs ls (by omega) (by omega) hP hD hS (lv_sub hl [2, 3, 4, 1, 0] rfl)
  have hl := lv_entry ([.ref (a 4), .int x1, .ref (a 15)]) (n := 5) (Nat.le_of_ble_eq_true rfl)
  rw [lg_entry_eq]
  generalize (lg_sl ([.ref (a 4), .int x1, .ref (a 15)]) ++ List.replicate (5 - (lg_sl ([.ref (a 4), .int x1, .ref (a 15)])).length) Slot.unset).toArray = ls at hl ⊢
  have hl : lv_has ls 5 [(0, .ref (a 4)), (1, .int x1), (2, .ref (a 15))] := hl
  suffices main : ∀ (H : Heap) (locs : List Loc), va_P (dC, dI) vwCl (wX a cB cI cS cII σ) H → va_D A (wX a cB cI cS cII σ) → va_S A s.heap H locs → W p l e (headSpec wsX1_sumOnWay RM_X1_sumOnWay).room s m ([.ref (a 4), .int x1, .ref (a 15)] : List Value).toArray below meth c H locs 0 0 (MQ below (zQi (dC, dI) (zT cB cI cS cII) (wX a cB cI cS cII) A (fun (r : Int32) (σ1 : Cn) => σ1 = σ ∧ True)) ([.ref (a 4), .int x1, .ref (a 15)] : List Value).toArray s 0 0 A) (F0 m 0 ls []) from main s.heap [] hP hD hS
  intro H locs hP hD hS
  refine lv_iconst (v := 0) hx hb dX1_sumOnWay_0 (by decide) ?_
  refine lv_istore_n (lv' := [(3, .int 0), (0, .ref (a 4)), (1, .int x1), (2, .ref (a 15))]) hx hb dX1_sumOnWay_1 rfl hl (by decide) rfl (fun ls hl => ?_)
  refine lv_iconst (v := 0) hx hb dX1_sumOnWay_2 (by decide) ?_
  refine lv_istore (lv' := [(4, .int 0), (3, .int 0), (0, .ref (a 4)), (1, .int x1), (2, .ref (a 15))]) hx hb dX1_sumOnWay_3 hl (by decide) rfl (fun ls hl => ?_)
  exact (LP _) (0) (0)  H locs ls (by decide) (Nat.lt_succ_self _) hP hD hS (lv_sub hl [2, 3, 4, 1, 0] rfl)

set_option maxHeartbeats 4000000 in
set_option maxRecDepth 100000 in
theorem c_X1_sumOnWay_16 (l : Launch) (dC : Nat → ClassId) (dI : Nat → Nat → Nat) (cB cI cS cII : ClassId) (a : Nat → Nat) (N : (Nat → Prop) → State → Prop) (hok : zNok N) (hn : ∀ A U, N A U → zN U) (σ : Cn) (sz : Nat) (x1 : Int32) (h0 : 0 ≤ (σ 4 1).toInt ∧ (σ 4 1).toInt ≤ 4) (h2 : 0 ≤ (σ 4 2).toInt ∧ (σ 4 2).toInt ≤ 10) : Met l yX1_sumOnWay wsX1_sumOnWay RM_X1_sumOnWay (zPc (dC, dI) (zT cB cI cS cII) N (wX a cB cI cS cII) σ sz [.ref (a 4), .int x1, .ref (a 16)]) (zQi (dC, dI) (zT cB cI cS cII) (wX a cB cI cS cII) (va_A (wX a cB cI cS cII σ) sz) (fun (r : Int32) (σ1 : Cn) => σ1 = σ ∧ True)) 0 0 (va_A (wX a cB cI cS cII σ) sz) := by
  refine Met.ofW (cc := cX1_sumOnWay) (maxL := 5) (ret := (some .int)) (by decide) rfl ?_
  intro p e s m args below meth c s₁ B hml hv
  obtain ⟨rfl, hsz, hP, hK, hD0, hN⟩ := hv
  have hx := B.exec
  have hb := B.bytes
  have hr := B.returns
  have hts := atoms_spec (ws := wsX1_sumOnWay) B.pre
  have hown : s.vm.findClass RX1 = some m.cls := findClass_of_methodNamed B.named
  have hlocks := B.notSynchronized
  subst hsz
  have hD := hD0.self (sz := s.heap.size)
  generalize hAe : va_A (wX a cB cI cS cII σ) s.heap.size = A at hD hN ⊢
  have hA : ∀ q : Nat, s.heap.size ≤ q → A q := fun q h => by rw [← hAe]; exact Or.inr h
  clear hAe hD0
  have hS : va_S A s.heap s.heap [] := va_S.rf
  have in1 : ∀ w ∈ u_ws RX1 TX1 9, w ∈ wsX1_sumOnWay := by decide +kernel
  have k40 := hts (.fieldLink RX1 40 "HouseSorted$House" "things" "I") (by decide +kernel)
  have LP : ∀ n : Nat, (∀ (f : Int32) (j : Int32) (H : Heap) (locs : List Loc) (ls : Array Slot), 0 ≤ j.toInt ∧ j.toInt ≤ 10 → (10 - j.toInt).toNat < n → va_P (dC, dI) vwCl (wX a cB cI cS cII σ) H → va_D A (wX a cB cI cS cII σ) → va_S A s.heap H locs → lv_has ls 5 [(0, .ref (a 4)), (1, .int x1), (2, .ref (a 16)), (3, .int f), (4, .int j)] → W p l e (headSpec wsX1_sumOnWay RM_X1_sumOnWay).room s m ([.ref (a 4), .int x1, .ref (a 16)] : List Value).toArray below meth c H locs 0 0 (MQ below (zQi (dC, dI) (zT cB cI cS cII) (wX a cB cI cS cII) A (fun (r : Int32) (σ1 : Cn) => σ1 = σ ∧ True)) ([.ref (a 4), .int x1, .ref (a 16)] : List Value).toArray s 0 0 A) (F0 m 5 ls [])) := by
    intro n
    induction n with
    | zero => exact by intros; omega
    | succ n ih =>
      · intro f j H locs ls g1 hmu hP hD hS hl
        refine lv_iload hx hb dX1_sumOnWay_5 (lv_at hl 4 rfl) ?_
        refine lv_aload_n hx hb dX1_sumOnWay_7 rfl (lv_at hl 0 rfl) ?_
        refine va_get (D := (dC, dI)) (ci := 1) (v := .int (σ 4 2)) (C := RX1) (T := TX1) (N := 9) hx hb hts in1 hown hK hP 4 rfl rfl 2 (by decide) k40 (fun _ h9 => h9) rfl dX1_sumOnWay_8 ?_
        refine lv_icmp_ge (tgt := 37) hx hb dX1_sumOnWay_11 (by decide) (fun c11 => ?_) (fun c11 => ?_)
        · skip
          have ic11 := zle (a := (σ 4 2).toInt) (b := j.toInt) rfl rfl c11
          refine lv_iload_n hx hb dX1_sumOnWay_37 rfl (lv_at hl 3 rfl) ?_
          have hpost : σ = σ ∧ True := by exact ⟨rfl, trivial⟩
          exact W.iret (v := f) hx hb hr (fun t9 ht hW => ⟨⟨f, σ, rfl, hpost, by rw [ht]; exact hP, va_K.moved hW.alike hK, hD⟩, hS.F ht⟩) hS.2.2 dX1_sumOnWay_38
        · skip
          have ic11 := znle (a := (σ 4 2).toInt) (b := j.toInt) rfl rfl c11
          refine lv_aload_n hx hb dX1_sumOnWay_14 rfl (lv_at hl 0 rfl) ?_
          refine lv_iload hx hb dX1_sumOnWay_15 (lv_at hl 4 rfl) ?_
          refine zcalli (va_runV (As := [.int j]) (rest := []) ⟨hx, hb, hml, hown, hts⟩ (c_X1_wayOf l dC dI cB cI cS cII a N hok hn σ H.size (j) h0 (by omega)) (cwV 1 hts gX1_sumOnWay_X1_wayOf rfl rfl rfl (by decide +kernel) ⟨Nat.le_of_ble_eq_true rfl, Nat.le_of_ble_eq_true rfl⟩) (zpreV (wf := wX a cB cI cS cII) (q0 := 4) (ci := 1) hok hN hS hA hK hP hD rfl rfl) rfl rfl hl.1 rfl (lv_room (Nat.le_of_ble_eq_true rfl)) dX1_sumOnWay_17 ⟨Nat.zero_le _, Nat.zero_le _⟩) hD hS hA (fun v17 σ1 H locs hv17 hP hD hS => ?_)
          obtain ⟨es9, hv17⟩ := hv17
          subst σ1
          refine lv_iload_n hx hb dX1_sumOnWay_20 rfl (lv_at hl 1 rfl) ?_
          refine lv_icmp_ne (tgt := 31) hx hb dX1_sumOnWay_21 (by decide) (fun c21 => ?_) (fun c21 => ?_)
          · skip
            have ic21 := zneq (a := v17.toInt) (b := x1.toInt) rfl rfl c21
            obtain ⟨v31, ev31⟩ : ∃ y : Int32, y = j + 1 := ⟨_, rfl⟩
            refine lv_iinc (v := v31) (lv' := [(4, .int v31), (0, .ref (a 4)), (1, .int x1), (2, .ref (a 16)), (3, .int f)]) hx hb dX1_sumOnWay_31 hl (k := 4) rfl (by rw [ev31]; rfl) (by decide) rfl (fun ls hl => ?_)
            have tv31 : v31.toInt = j.toInt + 1 := by rw [ev31, zadd, show (1 : Int32).toInt = 1 from by decide]; omega
            refine lv_goto (tgt := 5) hx hb dX1_sumOnWay_34 (by decide) ?_
            exact ih (f) (v31)  H locs ls (by omega) (by omega) hP hD hS (lv_sub hl [1, 2, 3, 4, 0] rfl)
          · skip
            have ic21 := zeq (a := v17.toInt) (b := x1.toInt) rfl rfl c21
            refine lv_iload_n hx hb dX1_sumOnWay_24 rfl (lv_at hl 3 rfl) ?_
            refine lv_aload_n hx hb dX1_sumOnWay_25 rfl (lv_at hl 2 rfl) ?_
            refine lv_iload hx hb dX1_sumOnWay_26 (lv_at hl 4 rfl) ?_
            refine va_iald (D := (dC, dI)) (f := σ 16) hx hb hK hP 16 1 rfl rfl (i := j) (n := 10) (zin (by omega) (by omega)) dX1_sumOnWay_28 ?_
            refine lv_topi (fun v28 ev28 => ?_)
            have tv28 := congrArg Int32.toInt ev28
            refine lv_iadd hx hb dX1_sumOnWay_29 ?_
            refine lv_topi (fun v29 ev29 => ?_)
            refine lv_istore_n (lv' := [(3, .int v29), (0, .ref (a 4)), (1, .int x1), (2, .ref (a 16)), (4, .int j)]) hx hb dX1_sumOnWay_30 rfl hl (by decide) rfl (fun ls hl => ?_)
            obtain ⟨v31, ev31⟩ : ∃ y : Int32, y = j + 1 := ⟨_, rfl⟩
            refine lv_iinc (v := v31) (lv' := [(4, .int v31), (3, .int v29), (0, .ref (a 4)), (1, .int x1), (2, .ref (a 16))]) hx hb dX1_sumOnWay_31 hl (k := 4) rfl (by rw [ev31]; rfl) (by decide) rfl (fun ls hl => ?_)
            have tv31 : v31.toInt = j.toInt + 1 := by rw [ev31, zadd, show (1 : Int32).toInt = 1 from by decide]; omega
            refine lv_goto (tgt := 5) hx hb dX1_sumOnWay_34 (by decide) ?_
            exact ih (v29) (v31)  H locs ls (by omega) (by omega) hP hD hS (lv_sub hl [2, 3, 4, 1, 0] rfl)
  have hl := lv_entry ([.ref (a 4), .int x1, .ref (a 16)]) (n := 5) (Nat.le_of_ble_eq_true rfl)
  rw [lg_entry_eq]
  generalize (lg_sl ([.ref (a 4), .int x1, .ref (a 16)]) ++ List.replicate (5 - (lg_sl ([.ref (a 4), .int x1, .ref (a 16)])).length) Slot.unset).toArray = ls at hl ⊢
  have hl : lv_has ls 5 [(0, .ref (a 4)), (1, .int x1), (2, .ref (a 16))] := hl
  suffices main : ∀ (H : Heap) (locs : List Loc), va_P (dC, dI) vwCl (wX a cB cI cS cII σ) H → va_D A (wX a cB cI cS cII σ) → va_S A s.heap H locs → W p l e (headSpec wsX1_sumOnWay RM_X1_sumOnWay).room s m ([.ref (a 4), .int x1, .ref (a 16)] : List Value).toArray below meth c H locs 0 0 (MQ below (zQi (dC, dI) (zT cB cI cS cII) (wX a cB cI cS cII) A (fun (r : Int32) (σ1 : Cn) => σ1 = σ ∧ True)) ([.ref (a 4), .int x1, .ref (a 16)] : List Value).toArray s 0 0 A) (F0 m 0 ls []) from main s.heap [] hP hD hS
  intro H locs hP hD hS
  refine lv_iconst (v := 0) hx hb dX1_sumOnWay_0 (by decide) ?_
  refine lv_istore_n (lv' := [(3, .int 0), (0, .ref (a 4)), (1, .int x1), (2, .ref (a 16))]) hx hb dX1_sumOnWay_1 rfl hl (by decide) rfl (fun ls hl => ?_)
  refine lv_iconst (v := 0) hx hb dX1_sumOnWay_2 (by decide) ?_
  refine lv_istore (lv' := [(4, .int 0), (3, .int 0), (0, .ref (a 4)), (1, .int x1), (2, .ref (a 16))]) hx hb dX1_sumOnWay_3 hl (by decide) rfl (fun ls hl => ?_)
  exact (LP _) (0) (0)  H locs ls (by decide) (Nat.lt_succ_self _) hP hD hS (lv_sub hl [2, 3, 4, 1, 0] rfl)

set_option maxHeartbeats 4000000 in
set_option maxRecDepth 100000 in
theorem c_X1_sumOnWay_17 (l : Launch) (dC : Nat → ClassId) (dI : Nat → Nat → Nat) (cB cI cS cII : ClassId) (a : Nat → Nat) (N : (Nat → Prop) → State → Prop) (hok : zNok N) (hn : ∀ A U, N A U → zN U) (σ : Cn) (sz : Nat) (x1 : Int32) (h0 : 0 ≤ (σ 4 1).toInt ∧ (σ 4 1).toInt ≤ 4) (h2 : 0 ≤ (σ 4 2).toInt ∧ (σ 4 2).toInt ≤ 10) : Met l yX1_sumOnWay wsX1_sumOnWay RM_X1_sumOnWay (zPc (dC, dI) (zT cB cI cS cII) N (wX a cB cI cS cII) σ sz [.ref (a 4), .int x1, .ref (a 17)]) (zQi (dC, dI) (zT cB cI cS cII) (wX a cB cI cS cII) (va_A (wX a cB cI cS cII σ) sz) (fun (r : Int32) (σ1 : Cn) => σ1 = σ ∧ True)) 0 0 (va_A (wX a cB cI cS cII σ) sz) := by
  refine Met.ofW (cc := cX1_sumOnWay) (maxL := 5) (ret := (some .int)) (by decide) rfl ?_
  intro p e s m args below meth c s₁ B hml hv
  obtain ⟨rfl, hsz, hP, hK, hD0, hN⟩ := hv
  have hx := B.exec
  have hb := B.bytes
  have hr := B.returns
  have hts := atoms_spec (ws := wsX1_sumOnWay) B.pre
  have hown : s.vm.findClass RX1 = some m.cls := findClass_of_methodNamed B.named
  have hlocks := B.notSynchronized
  subst hsz
  have hD := hD0.self (sz := s.heap.size)
  generalize hAe : va_A (wX a cB cI cS cII σ) s.heap.size = A at hD hN ⊢
  have hA : ∀ q : Nat, s.heap.size ≤ q → A q := fun q h => by rw [← hAe]; exact Or.inr h
  clear hAe hD0
  have hS : va_S A s.heap s.heap [] := va_S.rf
  have in1 : ∀ w ∈ u_ws RX1 TX1 9, w ∈ wsX1_sumOnWay := by decide +kernel
  have k40 := hts (.fieldLink RX1 40 "HouseSorted$House" "things" "I") (by decide +kernel)
  have LP : ∀ n : Nat, (∀ (f : Int32) (j : Int32) (H : Heap) (locs : List Loc) (ls : Array Slot), 0 ≤ j.toInt ∧ j.toInt ≤ 10 → (10 - j.toInt).toNat < n → va_P (dC, dI) vwCl (wX a cB cI cS cII σ) H → va_D A (wX a cB cI cS cII σ) → va_S A s.heap H locs → lv_has ls 5 [(0, .ref (a 4)), (1, .int x1), (2, .ref (a 17)), (3, .int f), (4, .int j)] → W p l e (headSpec wsX1_sumOnWay RM_X1_sumOnWay).room s m ([.ref (a 4), .int x1, .ref (a 17)] : List Value).toArray below meth c H locs 0 0 (MQ below (zQi (dC, dI) (zT cB cI cS cII) (wX a cB cI cS cII) A (fun (r : Int32) (σ1 : Cn) => σ1 = σ ∧ True)) ([.ref (a 4), .int x1, .ref (a 17)] : List Value).toArray s 0 0 A) (F0 m 5 ls [])) := by
    intro n
    induction n with
    | zero => exact by intros; omega
    | succ n ih =>
      · intro f j H locs ls g1 hmu hP hD hS hl
        refine lv_iload hx hb dX1_sumOnWay_5 (lv_at hl 4 rfl) ?_
        refine lv_aload_n hx hb dX1_sumOnWay_7 rfl (lv_at hl 0 rfl) ?_
        refine va_get (D := (dC, dI)) (ci := 1) (v := .int (σ 4 2)) (C := RX1) (T := TX1) (N := 9) hx hb hts in1 hown hK hP 4 rfl rfl 2 (by decide) k40 (fun _ h9 => h9) rfl dX1_sumOnWay_8 ?_
        refine lv_icmp_ge (tgt := 37) hx hb dX1_sumOnWay_11 (by decide) (fun c11 => ?_) (fun c11 => ?_)
        · skip
          have ic11 := zle (a := (σ 4 2).toInt) (b := j.toInt) rfl rfl c11
          refine lv_iload_n hx hb dX1_sumOnWay_37 rfl (lv_at hl 3 rfl) ?_
          have hpost : σ = σ ∧ True := by exact ⟨rfl, trivial⟩
          exact W.iret (v := f) hx hb hr (fun t9 ht hW => ⟨⟨f, σ, rfl, hpost, by rw [ht]; exact hP, va_K.moved hW.alike hK, hD⟩, hS.F ht⟩) hS.2.2 dX1_sumOnWay_38
        · skip
          have ic11 := znle (a := (σ 4 2).toInt) (b := j.toInt) rfl rfl c11
          refine lv_aload_n hx hb dX1_sumOnWay_14 rfl (lv_at hl 0 rfl) ?_
          refine lv_iload hx hb dX1_sumOnWay_15 (lv_at hl 4 rfl) ?_
          refine zcalli (va_runV (As := [.int j]) (rest := []) ⟨hx, hb, hml, hown, hts⟩ (c_X1_wayOf l dC dI cB cI cS cII a N hok hn σ H.size (j) h0 (by omega)) (cwV 1 hts gX1_sumOnWay_X1_wayOf rfl rfl rfl (by decide +kernel) ⟨Nat.le_of_ble_eq_true rfl, Nat.le_of_ble_eq_true rfl⟩) (zpreV (wf := wX a cB cI cS cII) (q0 := 4) (ci := 1) hok hN hS hA hK hP hD rfl rfl) rfl rfl hl.1 rfl (lv_room (Nat.le_of_ble_eq_true rfl)) dX1_sumOnWay_17 ⟨Nat.zero_le _, Nat.zero_le _⟩) hD hS hA (fun v17 σ1 H locs hv17 hP hD hS => ?_)
          obtain ⟨es9, hv17⟩ := hv17
          subst σ1
          refine lv_iload_n hx hb dX1_sumOnWay_20 rfl (lv_at hl 1 rfl) ?_
          refine lv_icmp_ne (tgt := 31) hx hb dX1_sumOnWay_21 (by decide) (fun c21 => ?_) (fun c21 => ?_)
          · skip
            have ic21 := zneq (a := v17.toInt) (b := x1.toInt) rfl rfl c21
            obtain ⟨v31, ev31⟩ : ∃ y : Int32, y = j + 1 := ⟨_, rfl⟩
            refine lv_iinc (v := v31) (lv' := [(4, .int v31), (0, .ref (a 4)), (1, .int x1), (2, .ref (a 17)), (3, .int f)]) hx hb dX1_sumOnWay_31 hl (k := 4) rfl (by rw [ev31]; rfl) (by decide) rfl (fun ls hl => ?_)
            have tv31 : v31.toInt = j.toInt + 1 := by rw [ev31, zadd, show (1 : Int32).toInt = 1 from by decide]; omega
            refine lv_goto (tgt := 5) hx hb dX1_sumOnWay_34 (by decide) ?_
            exact ih (f) (v31)  H locs ls (by omega) (by omega) hP hD hS (lv_sub hl [1, 2, 3, 4, 0] rfl)
          · skip
            have ic21 := zeq (a := v17.toInt) (b := x1.toInt) rfl rfl c21
            refine lv_iload_n hx hb dX1_sumOnWay_24 rfl (lv_at hl 3 rfl) ?_
            refine lv_aload_n hx hb dX1_sumOnWay_25 rfl (lv_at hl 2 rfl) ?_
            refine lv_iload hx hb dX1_sumOnWay_26 (lv_at hl 4 rfl) ?_
            refine va_iald (D := (dC, dI)) (f := σ 17) hx hb hK hP 17 1 rfl rfl (i := j) (n := 10) (zin (by omega) (by omega)) dX1_sumOnWay_28 ?_
            refine lv_topi (fun v28 ev28 => ?_)
            have tv28 := congrArg Int32.toInt ev28
            refine lv_iadd hx hb dX1_sumOnWay_29 ?_
            refine lv_topi (fun v29 ev29 => ?_)
            refine lv_istore_n (lv' := [(3, .int v29), (0, .ref (a 4)), (1, .int x1), (2, .ref (a 17)), (4, .int j)]) hx hb dX1_sumOnWay_30 rfl hl (by decide) rfl (fun ls hl => ?_)
            obtain ⟨v31, ev31⟩ : ∃ y : Int32, y = j + 1 := ⟨_, rfl⟩
            refine lv_iinc (v := v31) (lv' := [(4, .int v31), (3, .int v29), (0, .ref (a 4)), (1, .int x1), (2, .ref (a 17))]) hx hb dX1_sumOnWay_31 hl (k := 4) rfl (by rw [ev31]; rfl) (by decide) rfl (fun ls hl => ?_)
            have tv31 : v31.toInt = j.toInt + 1 := by rw [ev31, zadd, show (1 : Int32).toInt = 1 from by decide]; omega
            refine lv_goto (tgt := 5) hx hb dX1_sumOnWay_34 (by decide) ?_
            exact ih (v29) (v31)  H locs ls (by omega) (by omega) hP hD hS (lv_sub hl [2, 3, 4, 1, 0] rfl)
  have hl := lv_entry ([.ref (a 4), .int x1, .ref (a 17)]) (n := 5) (Nat.le_of_ble_eq_true rfl)
  rw [lg_entry_eq]
  generalize (lg_sl ([.ref (a 4), .int x1, .ref (a 17)]) ++ List.replicate (5 - (lg_sl ([.ref (a 4), .int x1, .ref (a 17)])).length) Slot.unset).toArray = ls at hl ⊢
  have hl : lv_has ls 5 [(0, .ref (a 4)), (1, .int x1), (2, .ref (a 17))] := hl
  suffices main : ∀ (H : Heap) (locs : List Loc), va_P (dC, dI) vwCl (wX a cB cI cS cII σ) H → va_D A (wX a cB cI cS cII σ) → va_S A s.heap H locs → W p l e (headSpec wsX1_sumOnWay RM_X1_sumOnWay).room s m ([.ref (a 4), .int x1, .ref (a 17)] : List Value).toArray below meth c H locs 0 0 (MQ below (zQi (dC, dI) (zT cB cI cS cII) (wX a cB cI cS cII) A (fun (r : Int32) (σ1 : Cn) => σ1 = σ ∧ True)) ([.ref (a 4), .int x1, .ref (a 17)] : List Value).toArray s 0 0 A) (F0 m 0 ls []) from main s.heap [] hP hD hS
  intro H locs hP hD hS
  refine lv_iconst (v := 0) hx hb dX1_sumOnWay_0 (by decide) ?_
  refine lv_istore_n (lv' := [(3, .int 0), (0, .ref (a 4)), (1, .int x1), (2, .ref (a 17))]) hx hb dX1_sumOnWay_1 rfl hl (by decide) rfl (fun ls hl => ?_)
  refine lv_iconst (v := 0) hx hb dX1_sumOnWay_2 (by decide) ?_
  refine lv_istore (lv' := [(4, .int 0), (3, .int 0), (0, .ref (a 4)), (1, .int x1), (2, .ref (a 17))]) hx hb dX1_sumOnWay_3 hl (by decide) rfl (fun ls hl => ?_)
  exact (LP _) (0) (0)  H locs ls (by decide) (Nat.lt_succ_self _) hP hD hS (lv_sub hl [2, 3, 4, 1, 0] rfl)

abbrev RM_X1_secondLook : Room := { frames := 2, cells := 0, slots := 0, locals := 43 }
set_option maxHeartbeats 4000000 in
set_option maxRecDepth 100000 in
theorem c_X1_secondLook (l : Launch) (dC : Nat → ClassId) (dI : Nat → Nat → Nat) (cB cI cS cII : ClassId) (a : Nat → Nat) (N : (Nat → Prop) → State → Prop) (hok : zNok N) (hn : ∀ A U, N A U → zN U) (σ : Cn) (sz : Nat) (x1 : Int32) (h1 : 0 ≤ x1.toInt ∧ x1.toInt < 10) : Met l yX1_secondLook wsX1_secondLook RM_X1_secondLook (zPc (dC, dI) (zT cB cI cS cII) N (wX a cB cI cS cII) σ sz [.ref (a 4), .int x1]) (zQi (dC, dI) (zT cB cI cS cII) (wX a cB cI cS cII) (va_A (wX a cB cI cS cII σ) sz) (fun (r : Int32) (σ1 : Cn) => σ1 = σ ∧ True)) 0 0 (va_A (wX a cB cI cS cII σ) sz) := by
  refine Met.ofW (cc := cX1_secondLook) (maxL := 3) (ret := (some .int)) (by decide) rfl ?_
  intro p e s m args below meth c s₁ B hml hv
  obtain ⟨rfl, hsz, hP, hK, hD0, hN⟩ := hv
  have hx := B.exec
  have hb := B.bytes
  have hr := B.returns
  have hts := atoms_spec (ws := wsX1_secondLook) B.pre
  have hown : s.vm.findClass RX1 = some m.cls := findClass_of_methodNamed B.named
  have hlocks := B.notSynchronized
  subst hsz
  have hD := hD0.self (sz := s.heap.size)
  generalize hAe : va_A (wX a cB cI cS cII σ) s.heap.size = A at hD hN ⊢
  have hA : ∀ q : Nat, s.heap.size ≤ q → A q := fun q h => by rw [← hAe]; exact Or.inr h
  clear hAe hD0
  have hS : va_S A s.heap s.heap [] := va_S.rf
  have in1 : ∀ w ∈ u_ws RX1 TX1 9, w ∈ wsX1_secondLook := by decide +kernel
  have in2 : ∀ w ∈ u_ws RX2 TX2 6, w ∈ wsX1_secondLook := by decide +kernel
  have k15 := hts (.fieldLink RX1 15 "HouseSorted$House" "low" "[I") (by decide +kernel)
  have k18 := hts (.fieldLink RX1 18 "HouseSorted$House" "high" "[I") (by decide +kernel)
  have k32 := hts (.fieldLink RX1 32 "HouseSorted$House" "book" "LHouseSorted$LawBook;") (by decide +kernel)
  have k47 := hts (.fieldLink RX1 47 "HouseSorted$LawBook" "value" "[I") (by decide +kernel)
  have kcmax := hts (.code Lib.Math.max.name Lib.Math.max.code 2 (some .int)) (by decide +kernel)
  have kiM := hts (.initialized "java/lang/Math") (by decide +kernel)
  have km63 := hts (.methodLink RX1 63 Lib.Math.max.name) (by decide +kernel)
  have ksmax := hts (.static Lib.Math.max.name) (by decide +kernel)
  have hl := lv_entry ([.ref (a 4), .int x1]) (n := 3) (Nat.le_of_ble_eq_true rfl)
  rw [lg_entry_eq]
  generalize (lg_sl ([.ref (a 4), .int x1]) ++ List.replicate (3 - (lg_sl ([.ref (a 4), .int x1])).length) Slot.unset).toArray = ls at hl ⊢
  have hl : lv_has ls 3 [(0, .ref (a 4)), (1, .int x1)] := hl
  suffices main : ∀ (H : Heap) (locs : List Loc), va_P (dC, dI) vwCl (wX a cB cI cS cII σ) H → va_D A (wX a cB cI cS cII σ) → va_S A s.heap H locs → W p l e (headSpec wsX1_secondLook RM_X1_secondLook).room s m ([.ref (a 4), .int x1] : List Value).toArray below meth c H locs 0 0 (MQ below (zQi (dC, dI) (zT cB cI cS cII) (wX a cB cI cS cII) A (fun (r : Int32) (σ1 : Cn) => σ1 = σ ∧ True)) ([.ref (a 4), .int x1] : List Value).toArray s 0 0 A) (F0 m 0 ls []) from main s.heap [] hP hD hS
  intro H locs hP hD hS
  refine lv_aload_n hx hb dX1_secondLook_0 rfl (lv_at hl 0 rfl) ?_
  refine lv_iload_n hx hb dX1_secondLook_1 rfl (lv_at hl 1 rfl) ?_
  refine lv_bipush (v := 14) hx hb dX1_secondLook_2 (by decide) ?_
  refine zcalli (va_runV (As := [.int x1, .int 14]) (rest := []) ⟨hx, hb, hml, hown, hts⟩ (c_X1_hasMark l dC dI cB cI cS cII a N hok hn σ H.size (x1) (14) (by omega)) (cwV 2 hts gX1_secondLook_X1_hasMark rfl rfl rfl (by decide +kernel) ⟨Nat.le_of_ble_eq_true rfl, Nat.le_of_ble_eq_true rfl⟩) (zpreV (wf := wX a cB cI cS cII) (q0 := 4) (ci := 1) hok hN hS hA hK hP hD rfl rfl) rfl rfl hl.1 rfl (lv_room (Nat.le_of_ble_eq_true rfl)) dX1_secondLook_4 ⟨Nat.zero_le _, Nat.zero_le _⟩) hD hS hA (fun v4 σ1 H locs hv4 hP hD hS => ?_)
  obtain ⟨es9, hv4⟩ := hv4
  subst σ1
  try simp only [show (14 : Int32).toInt = 14 from by decide] at hv4
  refine lv_if_ne (tgt := 18) hx hb dX1_secondLook_7 (by decide) (fun c7 => ?_) (fun c7 => ?_)
  · skip
    have ic7 := zneq (a := v4.toInt) (b := 0) rfl (by decide) c7
    refine lv_iconst (v := 0) hx hb dX1_secondLook_18 (by decide) ?_
    have hpost : σ = σ ∧ True := by exact ⟨rfl, trivial⟩
    exact W.iret (v := 0) hx hb hr (fun t9 ht hW => ⟨⟨0, σ, rfl, hpost, by rw [ht]; exact hP, va_K.moved hW.alike hK, hD⟩, hS.F ht⟩) hS.2.2 dX1_secondLook_19
  · skip
    have ic7 := zeq (a := v4.toInt) (b := 0) rfl (by decide) c7
    refine lv_aload_n hx hb dX1_secondLook_10 rfl (lv_at hl 0 rfl) ?_
    refine lv_iload_n hx hb dX1_secondLook_11 rfl (lv_at hl 1 rfl) ?_
    refine zcalli (va_runV (As := [.int x1]) (rest := []) ⟨hx, hb, hml, hown, hts⟩ (c_X1_isKeptPaper l dC dI cB cI cS cII a N hok hn σ H.size (x1) (by omega)) (cwV 1 hts gX1_secondLook_X1_isKeptPaper rfl rfl rfl (by decide +kernel) ⟨Nat.le_of_ble_eq_true rfl, Nat.le_of_ble_eq_true rfl⟩) (zpreV (wf := wX a cB cI cS cII) (q0 := 4) (ci := 1) hok hN hS hA hK hP hD rfl rfl) rfl rfl hl.1 rfl (lv_room (Nat.le_of_ble_eq_true rfl)) dX1_secondLook_12 ⟨Nat.zero_le _, Nat.zero_le _⟩) hD hS hA (fun v12 σ1 H locs hv12 hP hD hS => ?_)
    obtain ⟨es9, hv12⟩ := hv12
    subst σ1
    refine lv_if_eq (tgt := 20) hx hb dX1_secondLook_15 (by decide) (fun c15 => ?_) (fun c15 => ?_)
    · skip
      have ic15 := zeq (a := v12.toInt) (b := 0) rfl (by decide) c15
      refine lv_aload_n hx hb dX1_secondLook_20 rfl (lv_at hl 0 rfl) ?_
      refine va_get (D := (dC, dI)) (ci := 1) (v := .ref (a 2)) (C := RX1) (T := TX1) (N := 9) hx hb hts in1 hown hK hP 4 rfl rfl 0 (by decide) k32 (fun _ h9 => h9) rfl dX1_secondLook_21 ?_
      refine va_get (D := (dC, dI)) (ci := 2) (v := .ref (a 13)) (C := RX2) (T := TX2) (N := 6) hx hb hts in2 hown hK hP 2 rfl rfl 0 (by decide) k47 (fun _ h9 => h9) rfl dX1_secondLook_24 ?_
      refine lv_iconst (v := 1) hx hb dX1_secondLook_27 (by decide) ?_
      refine va_iald (D := (dC, dI)) (f := σ 13) hx hb hK hP 13 1 rfl rfl (i := 1) (n := 7) (zin (by decide) (by decide)) dX1_secondLook_28 ?_
      refine lv_topi (fun v28 ev28 => ?_)
      have tv28 := congrArg Int32.toInt ev28
      refine lv_istore_n (lv' := [(2, .int v28), (0, .ref (a 4)), (1, .int x1)]) hx hb dX1_secondLook_29 rfl hl (by decide) rfl (fun ls hl => ?_)
      refine lv_aload_n hx hb dX1_secondLook_30 rfl (lv_at hl 1 rfl) ?_
      refine va_get (D := (dC, dI)) (ci := 1) (v := .ref (a 16)) (C := RX1) (T := TX1) (N := 9) hx hb hts in1 hown hK hP 4 rfl rfl 4 (by decide) k15 (fun _ h9 => h9) rfl dX1_secondLook_31 ?_
      refine lv_iload_n hx hb dX1_secondLook_34 rfl (lv_at hl 2 rfl) ?_
      refine va_iald (D := (dC, dI)) (f := σ 16) hx hb hK hP 16 1 rfl rfl (i := x1) (n := 10) (zin (by omega) (by omega)) dX1_secondLook_35 ?_
      refine lv_topi (fun v35 ev35 => ?_)
      have tv35 := congrArg Int32.toInt ev35
      refine lv_iload_n hx hb dX1_secondLook_36 rfl (lv_at hl 0 rfl) ?_
      refine lv_icmp_ge (tgt := 50) hx hb dX1_secondLook_37 (by decide) (fun c37 => ?_) (fun c37 => ?_)
      · skip
        have ic37 := zle (a := v28.toInt) (b := v35.toInt) rfl rfl c37
        refine lv_iconst (v := 0) hx hb dX1_secondLook_50 (by decide) ?_
        have hpost : σ = σ ∧ True := by exact ⟨rfl, trivial⟩
        exact W.iret (v := 0) hx hb hr (fun t9 ht hW => ⟨⟨0, σ, rfl, hpost, by rw [ht]; exact hP, va_K.moved hW.alike hK, hD⟩, hS.F ht⟩) hS.2.2 dX1_secondLook_51
      · skip
        have ic37 := znle (a := v28.toInt) (b := v35.toInt) rfl rfl c37
        refine lv_aload_n hx hb dX1_secondLook_40 rfl (lv_at hl 1 rfl) ?_
        refine va_get (D := (dC, dI)) (ci := 1) (v := .ref (a 17)) (C := RX1) (T := TX1) (N := 9) hx hb hts in1 hown hK hP 4 rfl rfl 5 (by decide) k18 (fun _ h9 => h9) rfl dX1_secondLook_41 ?_
        refine lv_iload_n hx hb dX1_secondLook_44 rfl (lv_at hl 2 rfl) ?_
        refine va_iald (D := (dC, dI)) (f := σ 17) hx hb hK hP 17 1 rfl rfl (i := x1) (n := 10) (zin (by omega) (by omega)) dX1_secondLook_45 ?_
        refine lv_topi (fun v45 ev45 => ?_)
        have tv45 := congrArg Int32.toInt ev45
        refine lv_iload_n hx hb dX1_secondLook_46 rfl (lv_at hl 0 rfl) ?_
        refine lv_icmp_ge (tgt := 52) hx hb dX1_secondLook_47 (by decide) (fun c47 => ?_) (fun c47 => ?_)
        · skip
          have ic47 := zle (a := v28.toInt) (b := v45.toInt) rfl rfl c47
          refine lv_iconst (v := 0) hx hb dX1_secondLook_52 (by decide) ?_
          refine lv_aload_n hx hb dX1_secondLook_53 rfl (lv_at hl 1 rfl) ?_
          refine va_get (D := (dC, dI)) (ci := 1) (v := .ref (a 17)) (C := RX1) (T := TX1) (N := 9) hx hb hts in1 hown hK hP 4 rfl rfl 5 (by decide) k18 (fun _ h9 => h9) rfl dX1_secondLook_54 ?_
          refine lv_iload_n hx hb dX1_secondLook_57 rfl (lv_at hl 2 rfl) ?_
          refine va_iald (D := (dC, dI)) (f := σ 17) hx hb hK hP 17 1 rfl rfl (i := x1) (n := 10) (zin (by omega) (by omega)) dX1_secondLook_58 ?_
          refine lv_topi (fun v58 ev58 => ?_)
          have tv58 := congrArg Int32.toInt ev58
          refine lv_iload_n hx hb dX1_secondLook_59 rfl (lv_at hl 0 rfl) ?_
          refine lv_isub hx hb dX1_secondLook_60 ?_
          refine lv_topi (fun v60 ev60 => ?_)
          refine lv_aload_n hx hb dX1_secondLook_61 rfl (lv_at hl 1 rfl) ?_
          refine va_get (D := (dC, dI)) (ci := 1) (v := .ref (a 2)) (C := RX1) (T := TX1) (N := 9) hx hb hts in1 hown hK hP 4 rfl rfl 0 (by decide) k32 (fun _ h9 => h9) rfl dX1_secondLook_62 ?_
          refine va_get (D := (dC, dI)) (ci := 2) (v := .ref (a 13)) (C := RX2) (T := TX2) (N := 6) hx hb hts in2 hown hK hP 2 rfl rfl 0 (by decide) k47 (fun _ h9 => h9) rfl dX1_secondLook_65 ?_
          refine lv_iconst (v := 4) hx hb dX1_secondLook_68 (by decide) ?_
          refine va_iald (D := (dC, dI)) (f := σ 13) hx hb hK hP 13 1 rfl rfl (i := 4) (n := 7) (zin (by decide) (by decide)) dX1_secondLook_69 ?_
          refine lv_topi (fun v69 ev69 => ?_)
          have tv69 := congrArg Int32.toInt ev69
          refine lv_isub hx hb dX1_secondLook_70 ?_
          refine lv_topi (fun v70 ev70 => ?_)
          refine va_mmax hx hb (hml.trans hl.1.symm) hown km63 ksmax kiM kcmax (Nat.le_of_ble_eq_true rfl) (Nat.le_of_ble_eq_true rfl) (Nat.zero_le _) (Nat.zero_le _) dX1_secondLook_71 ?_
          refine lv_topi (fun v71 ev71 => ?_)
          have tv71 := zmax (x := 0) (y := v70) (a := 0) (b := v70.toInt) (by decide) rfl ev71
          have hpost : σ = σ ∧ True := by exact ⟨rfl, trivial⟩
          exact W.iret (v := v71) hx hb hr (fun t9 ht hW => ⟨⟨v71, σ, rfl, hpost, by rw [ht]; exact hP, va_K.moved hW.alike hK, hD⟩, hS.F ht⟩) hS.2.2 dX1_secondLook_74
        · skip
          have ic47 := znle (a := v28.toInt) (b := v45.toInt) rfl rfl c47
          refine lv_iconst (v := 0) hx hb dX1_secondLook_50 (by decide) ?_
          have hpost : σ = σ ∧ True := by exact ⟨rfl, trivial⟩
          exact W.iret (v := 0) hx hb hr (fun t9 ht hW => ⟨⟨0, σ, rfl, hpost, by rw [ht]; exact hP, va_K.moved hW.alike hK, hD⟩, hS.F ht⟩) hS.2.2 dX1_secondLook_51
    · skip
      have ic15 := zneq (a := v12.toInt) (b := 0) rfl (by decide) c15
      refine lv_iconst (v := 0) hx hb dX1_secondLook_18 (by decide) ?_
      have hpost : σ = σ ∧ True := by exact ⟨rfl, trivial⟩
      exact W.iret (v := 0) hx hb hr (fun t9 ht hW => ⟨⟨0, σ, rfl, hpost, by rw [ht]; exact hP, va_K.moved hW.alike hK, hD⟩, hS.F ht⟩) hS.2.2 dX1_secondLook_19

abbrev RM_X1_addThing : Room := { frames := 0, cells := 0, slots := 0, locals := 0 }
set_option maxHeartbeats 4000000 in
set_option maxRecDepth 100000 in
theorem c_X1_addThing (l : Launch) (dC : Nat → ClassId) (dI : Nat → Nat → Nat) (cB cI cS cII : ClassId) (a : Nat → Nat) (N : (Nat → Prop) → State → Prop) (hok : zNok N) (hn : ∀ A U, N A U → zN U) (σ : Cn) (sz : Nat) (x1 : Int32) (x2 : Int32) (x3 : Int32) (x4 : Int32) (x5 : Int32) (h2 : 0 ≤ (σ 4 2).toInt ∧ (σ 4 2).toInt < 10) : Met l yX1_addThing wsX1_addThing RM_X1_addThing (zPc (dC, dI) (zT cB cI cS cII) N (wX a cB cI cS cII) σ sz [.ref (a 4), .int x1, .int x2, .int x3, .int x4, .int x5]) (zQi (dC, dI) (zT cB cI cS cII) (wX a cB cI cS cII) (va_A (wX a cB cI cS cII σ) sz) (fun (r : Int32) (σ1 : Cn) => ∃ u4 : Nat → Int32, ∃ u15 : Nat → Int32, ∃ u16 : Nat → Int32, ∃ u17 : Nat → Int32, ∃ u18 : Nat → Int32, ∃ u19 : Nat → Int32, ∃ u21 : Nat → Nat → Int32, σ1 = (upR (upC (upC (upC (upC (upC (upC σ 4 u4) 15 u15) 16 u16) 17 u17) 18 u18) 19 u19) 21 4 u21) ∧ u4 1 = σ 4 1 ∧ (u4 2).toInt = (σ 4 2).toInt + 1 ∧ (r : Int32) = σ 4 2)) 0 0 (va_A (wX a cB cI cS cII σ) sz) := by
  refine Met.ofW (cc := cX1_addThing) (maxL := 8) (ret := (some .int)) (by decide) rfl ?_
  intro p e s m args below meth c s₁ B hml hv
  obtain ⟨rfl, hsz, hP, hK, hD0, hN⟩ := hv
  have hx := B.exec
  have hb := B.bytes
  have hr := B.returns
  have hts := atoms_spec (ws := wsX1_addThing) B.pre
  have hown : s.vm.findClass RX1 = some m.cls := findClass_of_methodNamed B.named
  have hlocks := B.notSynchronized
  subst hsz
  have hD := hD0.self (sz := s.heap.size)
  generalize hAe : va_A (wX a cB cI cS cII σ) s.heap.size = A at hD hN ⊢
  have hA : ∀ q : Nat, s.heap.size ≤ q → A q := fun q h => by rw [← hAe]; exact Or.inr h
  clear hAe hD0
  have hS : va_S A s.heap s.heap [] := va_S.rf
  have in1 : ∀ w ∈ u_ws RX1 TX1 9, w ∈ wsX1_addThing := by decide +kernel
  have k15 := hts (.fieldLink RX1 15 "HouseSorted$House" "low" "[I") (by decide +kernel)
  have k18 := hts (.fieldLink RX1 18 "HouseSorted$House" "high" "[I") (by decide +kernel)
  have k21 := hts (.fieldLink RX1 21 "HouseSorted$House" "age" "[I") (by decide +kernel)
  have k24 := hts (.fieldLink RX1 24 "HouseSorted$House" "marks" "[I") (by decide +kernel)
  have k29 := hts (.fieldLink RX1 29 "HouseSorted$House" "worth" "[[I") (by decide +kernel)
  have k40 := hts (.fieldLink RX1 40 "HouseSorted$House" "things" "I") (by decide +kernel)
  have k9 := hts (.fieldLink RX1 9 "HouseSorted$House" "weight" "[I") (by decide +kernel)
  have LP : ∀ n : Nat, (∀ (t : Int32) (j : Int32) (w15 : Nat → Int32) (w16 : Nat → Int32) (w17 : Nat → Int32) (w18 : Nat → Int32) (w19 : Nat → Int32) (w21 : Nat → Nat → Int32) (H : Heap) (locs : List Loc) (ls : Array Slot), 0 ≤ j.toInt ∧ j.toInt ≤ 4 → t = σ 4 2 → (4 - j.toInt).toNat < n → va_P (dC, dI) vwCl (wX a cB cI cS cII (upR (upC (upC (upC (upC (upC σ 15 w15) 16 w16) 17 w17) 18 w18) 19 w19) 21 4 w21)) H → va_D A (wX a cB cI cS cII (upR (upC (upC (upC (upC (upC σ 15 w15) 16 w16) 17 w17) 18 w18) 19 w19) 21 4 w21)) → va_S A s.heap H locs → lv_has ls 8 [(0, .ref (a 4)), (6, .int t), (7, .int j)] → W p l e (headSpec wsX1_addThing RM_X1_addThing).room s m ([.ref (a 4), .int x1, .int x2, .int x3, .int x4, .int x5] : List Value).toArray below meth c H locs 0 0 (MQ below (zQi (dC, dI) (zT cB cI cS cII) (wX a cB cI cS cII) A (fun (r : Int32) (σ1 : Cn) => ∃ u4 : Nat → Int32, ∃ u15 : Nat → Int32, ∃ u16 : Nat → Int32, ∃ u17 : Nat → Int32, ∃ u18 : Nat → Int32, ∃ u19 : Nat → Int32, ∃ u21 : Nat → Nat → Int32, σ1 = (upR (upC (upC (upC (upC (upC (upC σ 4 u4) 15 u15) 16 u16) 17 u17) 18 u18) 19 u19) 21 4 u21) ∧ u4 1 = σ 4 1 ∧ (u4 2).toInt = (σ 4 2).toInt + 1 ∧ (r : Int32) = σ 4 2)) ([.ref (a 4), .int x1, .int x2, .int x3, .int x4, .int x5] : List Value).toArray s 0 0 A) (F0 m 51 ls [])) := by
    intro n
    induction n with
    | zero => exact by intros; omega
    | succ n ih =>
      · intro t j w15 w16 w17 w18 w19 w21 H locs ls g1 g2 hmu hP hD hS hl
        have ht6 : 0 ≤ t.toInt ∧ t.toInt < 10 := by rw [g2]; exact h2
        refine lv_iload hx hb dX1_addThing_51 (lv_at hl 2 rfl) ?_
        refine lv_iconst (v := 4) hx hb dX1_addThing_53 (by decide) ?_
        refine lv_icmp_ge (tgt := 74) hx hb dX1_addThing_54 (by decide) (fun c54 => ?_) (fun c54 => ?_)
        · skip
          have ic54 := zle (a := 4) (b := j.toInt) (by decide) rfl c54
          refine lv_aload_n hx hb dX1_addThing_74 rfl (lv_at hl 0 rfl) ?_
          refine lv_dup hx hb dX1_addThing_75 rfl ?_
          refine va_get (D := (dC, dI)) (ci := 1) (v := .int (σ 4 2)) (C := RX1) (T := TX1) (N := 9) hx hb hts in1 hown hK hP 4 rfl rfl 2 (by decide) k40 (fun _ h9 => h9) rfl dX1_addThing_76 ?_
          refine lv_iconst (v := 1) hx hb dX1_addThing_79 (by decide) ?_
          refine lv_iadd hx hb dX1_addThing_80 ?_
          refine lv_topi (fun v80 ev80 => ?_)
          have tv80 : v80.toInt = (σ 4 2).toInt + 1 := by rw [ev80, zadd, show (1 : Int32).toInt = 1 from by decide]; omega
          refine va_put (D := (dC, dI)) (ci := 1) (v := .int v80) (ty := .int) (C := RX1) (T := TX1) (N := 9) hx hb hts in1 tyX1 tyX1_ok nmX1 hown hK hP hD hS 4 rfl rfl 2 (by decide) k40 (fun _ h9 => h9) rfl (by decide +kernel) rfl rfl (Nat.le_of_ble_eq_true rfl) dX1_addThing_81 (fun H locs hP hD hS => ?_)
          have hP : va_P (dC, dI) vwCl (wX a cB cI cS cII (upR (upC (upC (upC (upC (upC (upC σ 4 (upd (σ 4) 2 v80)) 15 w15) 16 w16) 17 w17) 18 w18) 19 w19) 21 4 w21)) H := hP
          have hD : va_D A (wX a cB cI cS cII (upR (upC (upC (upC (upC (upC (upC σ 4 (upd (σ 4) 2 v80)) 15 w15) 16 w16) 17 w17) 18 w18) 19 w19) 21 4 w21)) := hD
          refine lv_iload hx hb dX1_addThing_84 (lv_at hl 1 rfl) ?_
          have hpost : ∃ u4 : Nat → Int32, ∃ u15 : Nat → Int32, ∃ u16 : Nat → Int32, ∃ u17 : Nat → Int32, ∃ u18 : Nat → Int32, ∃ u19 : Nat → Int32, ∃ u21 : Nat → Nat → Int32, (upR (upC (upC (upC (upC (upC (upC σ 4 (upd (σ 4) 2 v80)) 15 w15) 16 w16) 17 w17) 18 w18) 19 w19) 21 4 w21) = (upR (upC (upC (upC (upC (upC (upC σ 4 u4) 15 u15) 16 u16) 17 u17) 18 u18) 19 u19) 21 4 u21) ∧ u4 1 = σ 4 1 ∧ (u4 2).toInt = (σ 4 2).toInt + 1 ∧ (t : Int32) = σ 4 2 := by exact ⟨_, _, _, _, _, _, _, rfl, rfl, tv80, g2⟩
          exact W.iret (v := t) hx hb hr (fun t9 ht hW => ⟨⟨t, (upR (upC (upC (upC (upC (upC (upC σ 4 (upd (σ 4) 2 v80)) 15 w15) 16 w16) 17 w17) 18 w18) 19 w19) 21 4 w21), rfl, hpost, by rw [ht]; exact hP, va_K.moved hW.alike hK, hD⟩, hS.F ht⟩) hS.2.2 dX1_addThing_86
        · skip
          have ic54 := znle (a := 4) (b := j.toInt) (by decide) rfl c54
          refine lv_aload_n hx hb dX1_addThing_57 rfl (lv_at hl 0 rfl) ?_
          refine va_get (D := (dC, dI)) (ci := 1) (v := .ref (a 20)) (C := RX1) (T := TX1) (N := 9) hx hb hts in1 hown hK hP 4 rfl rfl 8 (by decide) k29 (fun _ h9 => h9) rfl dX1_addThing_58 ?_
          refine lv_iload hx hb dX1_addThing_61 (lv_at hl 2 rfl) ?_
          have hr63 : (j).toNatClampNeg < 4 := by have h9 := zcl (x := j) (by omega); omega
          refine zald hx hb hK hP 20 3 rfl rfl (i := j) (n := 4) (zin (by omega) (by omega)) (zro_in hr63) dX1_addThing_63 ?_
          refine lv_iload hx hb dX1_addThing_64 (lv_at hl 1 rfl) ?_
          refine lv_iconst (v := 0) hx hb dX1_addThing_66 (by decide) ?_
          refine va_iast (D := (dC, dI)) (f := (upR (upC (upC (upC (upC (upC σ 15 w15) 16 w16) 17 w17) 18 w18) 19 w19) 21 4 w21) (21 + (j).toNatClampNeg)) hx hb hK hP hD hS (21 + (j).toNatClampNeg) 1 (wX_row21 hr63) rfl (i := t) (n := 10) (zin (by omega) (by omega)) dX1_addThing_67 (fun H locs hP hD hS => ?_)
          rw [wX_set21 hr63] at hP hD
          obtain ⟨g67, eg67, hP, hD⟩ : ∃ g67 : Nat → Nat → Int32, g67 = (fun i => if i = (j).toNatClampNeg then upd ((upR (upC (upC (upC (upC (upC σ 15 w15) 16 w16) 17 w17) 18 w18) 19 w19) 21 4 w21) (21 + (j).toNatClampNeg)) (t).toNatClampNeg 0 else (upR (upC (upC (upC (upC (upC σ 15 w15) 16 w16) 17 w17) 18 w18) 19 w19) 21 4 w21) (21 + i)) ∧ va_P (dC, dI) vwCl (wX a cB cI cS cII (upR (upC (upC (upC (upC (upC σ 15 w15) 16 w16) 17 w17) 18 w18) 19 w19) 21 4 g67)) H ∧ va_D A (wX a cB cI cS cII (upR (upC (upC (upC (upC (upC σ 15 w15) 16 w16) 17 w17) 18 w18) 19 w19) 21 4 g67)) := ⟨_, rfl, hP, hD⟩
          obtain ⟨v68, ev68⟩ : ∃ y : Int32, y = j + 1 := ⟨_, rfl⟩
          refine lv_iinc (v := v68) (lv' := [(7, .int v68), (0, .ref (a 4)), (6, .int t)]) hx hb dX1_addThing_68 hl (k := 2) rfl (by rw [ev68]; rfl) (by decide) rfl (fun ls hl => ?_)
          have tv68 : v68.toInt = j.toInt + 1 := by rw [ev68, zadd, show (1 : Int32).toInt = 1 from by decide]; omega
          refine lv_goto (tgt := 51) hx hb dX1_addThing_71 (by decide) ?_
          exact ih (t) (v68) (w15) (w16) (w17) (w18) (w19) (g67) H locs ls (by omega) (by assumption) (by omega) hP hD hS (lv_sub hl [1, 2, 0] rfl)
  have hl := lv_entry ([.ref (a 4), .int x1, .int x2, .int x3, .int x4, .int x5]) (n := 8) (Nat.le_of_ble_eq_true rfl)
  rw [lg_entry_eq]
  generalize (lg_sl ([.ref (a 4), .int x1, .int x2, .int x3, .int x4, .int x5]) ++ List.replicate (8 - (lg_sl ([.ref (a 4), .int x1, .int x2, .int x3, .int x4, .int x5])).length) Slot.unset).toArray = ls at hl ⊢
  have hl : lv_has ls 8 [(0, .ref (a 4)), (1, .int x1), (2, .int x2), (3, .int x3), (4, .int x4), (5, .int x5)] := hl
  suffices main : ∀ (H : Heap) (locs : List Loc), va_P (dC, dI) vwCl (wX a cB cI cS cII σ) H → va_D A (wX a cB cI cS cII σ) → va_S A s.heap H locs → W p l e (headSpec wsX1_addThing RM_X1_addThing).room s m ([.ref (a 4), .int x1, .int x2, .int x3, .int x4, .int x5] : List Value).toArray below meth c H locs 0 0 (MQ below (zQi (dC, dI) (zT cB cI cS cII) (wX a cB cI cS cII) A (fun (r : Int32) (σ1 : Cn) => ∃ u4 : Nat → Int32, ∃ u15 : Nat → Int32, ∃ u16 : Nat → Int32, ∃ u17 : Nat → Int32, ∃ u18 : Nat → Int32, ∃ u19 : Nat → Int32, ∃ u21 : Nat → Nat → Int32, σ1 = (upR (upC (upC (upC (upC (upC (upC σ 4 u4) 15 u15) 16 u16) 17 u17) 18 u18) 19 u19) 21 4 u21) ∧ u4 1 = σ 4 1 ∧ (u4 2).toInt = (σ 4 2).toInt + 1 ∧ (r : Int32) = σ 4 2)) ([.ref (a 4), .int x1, .int x2, .int x3, .int x4, .int x5] : List Value).toArray s 0 0 A) (F0 m 0 ls []) from main s.heap [] hP hD hS
  intro H locs hP hD hS
  refine lv_aload_n hx hb dX1_addThing_0 rfl (lv_at hl 0 rfl) ?_
  refine va_get (D := (dC, dI)) (ci := 1) (v := .int (σ 4 2)) (C := RX1) (T := TX1) (N := 9) hx hb hts in1 hown hK hP 4 rfl rfl 2 (by decide) k40 (fun _ h9 => h9) rfl dX1_addThing_1 ?_
  refine lv_istore (lv' := [(6, .int (σ 4 2)), (0, .ref (a 4)), (1, .int x1), (2, .int x2), (3, .int x3), (4, .int x4), (5, .int x5)]) hx hb dX1_addThing_4 hl (by decide) rfl (fun ls hl => ?_)
  refine lv_aload_n hx hb dX1_addThing_6 rfl (lv_at hl 1 rfl) ?_
  refine va_get (D := (dC, dI)) (ci := 1) (v := .ref (a 15)) (C := RX1) (T := TX1) (N := 9) hx hb hts in1 hown hK hP 4 rfl rfl 3 (by decide) k9 (fun _ h9 => h9) rfl dX1_addThing_7 ?_
  refine lv_iload hx hb dX1_addThing_10 (lv_at hl 0 rfl) ?_
  refine lv_iload_n hx hb dX1_addThing_12 rfl (lv_at hl 2 rfl) ?_
  refine va_iast (D := (dC, dI)) (f := σ 15) hx hb hK hP hD hS 15 1 rfl rfl (i := σ 4 2) (n := 10) (zin (by omega) (by omega)) dX1_addThing_13 (fun H locs hP hD hS => ?_)
  have hP : va_P (dC, dI) vwCl (wX a cB cI cS cII (upC σ 15 (upd (σ 15) (σ 4 2 : Int32).toNatClampNeg x1))) H := hP
  have hD : va_D A (wX a cB cI cS cII (upC σ 15 (upd (σ 15) (σ 4 2 : Int32).toNatClampNeg x1))) := hD
  refine lv_aload_n hx hb dX1_addThing_14 rfl (lv_at hl 1 rfl) ?_
  refine va_get (D := (dC, dI)) (ci := 1) (v := .ref (a 16)) (C := RX1) (T := TX1) (N := 9) hx hb hts in1 hown hK hP 4 rfl rfl 4 (by decide) k15 (fun _ h9 => h9) rfl dX1_addThing_15 ?_
  refine lv_iload hx hb dX1_addThing_18 (lv_at hl 0 rfl) ?_
  refine lv_iload_n hx hb dX1_addThing_20 rfl (lv_at hl 3 rfl) ?_
  refine va_iast (D := (dC, dI)) (f := σ 16) hx hb hK hP hD hS 16 1 rfl rfl (i := σ 4 2) (n := 10) (zin (by omega) (by omega)) dX1_addThing_21 (fun H locs hP hD hS => ?_)
  have hP : va_P (dC, dI) vwCl (wX a cB cI cS cII (upC (upC σ 15 (upd (σ 15) (σ 4 2 : Int32).toNatClampNeg x1)) 16 (upd (σ 16) (σ 4 2 : Int32).toNatClampNeg x2))) H := hP
  have hD : va_D A (wX a cB cI cS cII (upC (upC σ 15 (upd (σ 15) (σ 4 2 : Int32).toNatClampNeg x1)) 16 (upd (σ 16) (σ 4 2 : Int32).toNatClampNeg x2))) := hD
  refine lv_aload_n hx hb dX1_addThing_22 rfl (lv_at hl 1 rfl) ?_
  refine va_get (D := (dC, dI)) (ci := 1) (v := .ref (a 17)) (C := RX1) (T := TX1) (N := 9) hx hb hts in1 hown hK hP 4 rfl rfl 5 (by decide) k18 (fun _ h9 => h9) rfl dX1_addThing_23 ?_
  refine lv_iload hx hb dX1_addThing_26 (lv_at hl 0 rfl) ?_
  refine lv_iload_n hx hb dX1_addThing_28 rfl (lv_at hl 4 rfl) ?_
  refine va_iast (D := (dC, dI)) (f := σ 17) hx hb hK hP hD hS 17 1 rfl rfl (i := σ 4 2) (n := 10) (zin (by omega) (by omega)) dX1_addThing_29 (fun H locs hP hD hS => ?_)
  have hP : va_P (dC, dI) vwCl (wX a cB cI cS cII (upC (upC (upC σ 15 (upd (σ 15) (σ 4 2 : Int32).toNatClampNeg x1)) 16 (upd (σ 16) (σ 4 2 : Int32).toNatClampNeg x2)) 17 (upd (σ 17) (σ 4 2 : Int32).toNatClampNeg x3))) H := hP
  have hD : va_D A (wX a cB cI cS cII (upC (upC (upC σ 15 (upd (σ 15) (σ 4 2 : Int32).toNatClampNeg x1)) 16 (upd (σ 16) (σ 4 2 : Int32).toNatClampNeg x2)) 17 (upd (σ 17) (σ 4 2 : Int32).toNatClampNeg x3))) := hD
  refine lv_aload_n hx hb dX1_addThing_30 rfl (lv_at hl 1 rfl) ?_
  refine va_get (D := (dC, dI)) (ci := 1) (v := .ref (a 18)) (C := RX1) (T := TX1) (N := 9) hx hb hts in1 hown hK hP 4 rfl rfl 6 (by decide) k21 (fun _ h9 => h9) rfl dX1_addThing_31 ?_
  refine lv_iload hx hb dX1_addThing_34 (lv_at hl 0 rfl) ?_
  refine lv_iload hx hb dX1_addThing_36 (lv_at hl 5 rfl) ?_
  refine va_iast (D := (dC, dI)) (f := σ 18) hx hb hK hP hD hS 18 1 rfl rfl (i := σ 4 2) (n := 10) (zin (by omega) (by omega)) dX1_addThing_38 (fun H locs hP hD hS => ?_)
  have hP : va_P (dC, dI) vwCl (wX a cB cI cS cII (upC (upC (upC (upC σ 15 (upd (σ 15) (σ 4 2 : Int32).toNatClampNeg x1)) 16 (upd (σ 16) (σ 4 2 : Int32).toNatClampNeg x2)) 17 (upd (σ 17) (σ 4 2 : Int32).toNatClampNeg x3)) 18 (upd (σ 18) (σ 4 2 : Int32).toNatClampNeg x4))) H := hP
  have hD : va_D A (wX a cB cI cS cII (upC (upC (upC (upC σ 15 (upd (σ 15) (σ 4 2 : Int32).toNatClampNeg x1)) 16 (upd (σ 16) (σ 4 2 : Int32).toNatClampNeg x2)) 17 (upd (σ 17) (σ 4 2 : Int32).toNatClampNeg x3)) 18 (upd (σ 18) (σ 4 2 : Int32).toNatClampNeg x4))) := hD
  refine lv_aload_n hx hb dX1_addThing_39 rfl (lv_at hl 1 rfl) ?_
  refine va_get (D := (dC, dI)) (ci := 1) (v := .ref (a 19)) (C := RX1) (T := TX1) (N := 9) hx hb hts in1 hown hK hP 4 rfl rfl 7 (by decide) k24 (fun _ h9 => h9) rfl dX1_addThing_40 ?_
  refine lv_iload hx hb dX1_addThing_43 (lv_at hl 0 rfl) ?_
  refine lv_iload hx hb dX1_addThing_45 (lv_at hl 6 rfl) ?_
  refine va_iast (D := (dC, dI)) (f := σ 19) hx hb hK hP hD hS 19 1 rfl rfl (i := σ 4 2) (n := 10) (zin (by omega) (by omega)) dX1_addThing_47 (fun H locs hP hD hS => ?_)
  have hP : va_P (dC, dI) vwCl (wX a cB cI cS cII (upC (upC (upC (upC (upC σ 15 (upd (σ 15) (σ 4 2 : Int32).toNatClampNeg x1)) 16 (upd (σ 16) (σ 4 2 : Int32).toNatClampNeg x2)) 17 (upd (σ 17) (σ 4 2 : Int32).toNatClampNeg x3)) 18 (upd (σ 18) (σ 4 2 : Int32).toNatClampNeg x4)) 19 (upd (σ 19) (σ 4 2 : Int32).toNatClampNeg x5))) H := hP
  have hD : va_D A (wX a cB cI cS cII (upC (upC (upC (upC (upC σ 15 (upd (σ 15) (σ 4 2 : Int32).toNatClampNeg x1)) 16 (upd (σ 16) (σ 4 2 : Int32).toNatClampNeg x2)) 17 (upd (σ 17) (σ 4 2 : Int32).toNatClampNeg x3)) 18 (upd (σ 18) (σ 4 2 : Int32).toNatClampNeg x4)) 19 (upd (σ 19) (σ 4 2 : Int32).toNatClampNeg x5))) := hD
  refine lv_iconst (v := 0) hx hb dX1_addThing_48 (by decide) ?_
  refine lv_istore (lv' := [(7, .int 0), (6, .int (σ 4 2)), (0, .ref (a 4)), (1, .int x1), (2, .int x2), (3, .int x3), (4, .int x4), (5, .int x5)]) hx hb dX1_addThing_49 hl (by decide) rfl (fun ls hl => ?_)
  exact (LP _) (σ 4 2) (0) (upd (σ 15) (σ 4 2 : Int32).toNatClampNeg x1) (upd (σ 16) (σ 4 2 : Int32).toNatClampNeg x2) (upd (σ 17) (σ 4 2 : Int32).toNatClampNeg x3) (upd (σ 18) (σ 4 2 : Int32).toNatClampNeg x4) (upd (σ 19) (σ 4 2 : Int32).toNatClampNeg x5) (fun i => σ (21 + i)) H locs ls (by decide) (rfl) (Nat.lt_succ_self _) hP hD hS (lv_sub hl [2, 1, 0] rfl)
end
section
abbrev RM_X8_isWithin : Room := { frames := 0, cells := 0, slots := 0, locals := 0 }
set_option maxHeartbeats 4000000 in
set_option maxRecDepth 100000 in
theorem c_X8_isWithin (l : Launch) (dC : Nat → ClassId) (dI : Nat → Nat → Nat) (cB cI cS cII : ClassId) (a : Nat → Nat) (N : (Nat → Prop) → State → Prop) (hok : zNok N) (hn : ∀ A U, N A U → zN U) (σ : Cn) (sz : Nat) (x0 : Int32) (x1 : Int32) (x2 : Int32)  : Met l yX8_isWithin wsX8_isWithin RM_X8_isWithin (zPc (dC, dI) (zT cB cI cS cII) N (wX a cB cI cS cII) σ sz [.int x0, .int x1, .int x2]) (zQi (dC, dI) (zT cB cI cS cII) (wX a cB cI cS cII) (va_A (wX a cB cI cS cII σ) sz) (fun (r : Int32) (σ1 : Cn) => σ1 = σ ∧ ((r : Int32).toInt = 1 ∧ x1.toInt ≤ x0.toInt ∧ x0.toInt ≤ x2.toInt ∨ (r : Int32).toInt = 0 ∧ ¬ (x1.toInt ≤ x0.toInt ∧ x0.toInt ≤ x2.toInt)))) 0 0 (va_A (wX a cB cI cS cII σ) sz) := by
  refine Met.ofW (cc := cX8_isWithin) (maxL := 3) (ret := (some .boolean)) (by decide) rfl ?_
  intro p e s m args below meth c s₁ B hml hv
  obtain ⟨rfl, hsz, hP, hK, hD0, hN⟩ := hv
  have hx := B.exec
  have hb := B.bytes
  have hr := B.returns
  have hts := atoms_spec (ws := wsX8_isWithin) B.pre
  have hown : s.vm.findClass RX8 = some m.cls := findClass_of_methodNamed B.named
  have hlocks := B.notSynchronized
  subst hsz
  have hD := hD0.self (sz := s.heap.size)
  generalize hAe : va_A (wX a cB cI cS cII σ) s.heap.size = A at hD hN ⊢
  have hA : ∀ q : Nat, s.heap.size ≤ q → A q := fun q h => by rw [← hAe]; exact Or.inr h
  clear hAe hD0
  have hS : va_S A s.heap s.heap [] := va_S.rf
  have hl := lv_entry ([.int x0, .int x1, .int x2]) (n := 3) (Nat.le_of_ble_eq_true rfl)
  rw [lg_entry_eq]
  generalize (lg_sl ([.int x0, .int x1, .int x2]) ++ List.replicate (3 - (lg_sl ([.int x0, .int x1, .int x2])).length) Slot.unset).toArray = ls at hl ⊢
  have hl : lv_has ls 3 [(0, .int x0), (1, .int x1), (2, .int x2)] := hl
  suffices main : ∀ (H : Heap) (locs : List Loc), va_P (dC, dI) vwCl (wX a cB cI cS cII σ) H → va_D A (wX a cB cI cS cII σ) → va_S A s.heap H locs → W p l e (headSpec wsX8_isWithin RM_X8_isWithin).room s m ([.int x0, .int x1, .int x2] : List Value).toArray below meth c H locs 0 0 (MQ below (zQi (dC, dI) (zT cB cI cS cII) (wX a cB cI cS cII) A (fun (r : Int32) (σ1 : Cn) => σ1 = σ ∧ ((r : Int32).toInt = 1 ∧ x1.toInt ≤ x0.toInt ∧ x0.toInt ≤ x2.toInt ∨ (r : Int32).toInt = 0 ∧ ¬ (x1.toInt ≤ x0.toInt ∧ x0.toInt ≤ x2.toInt)))) ([.int x0, .int x1, .int x2] : List Value).toArray s 0 0 A) (F0 m 0 ls []) from main s.heap [] hP hD hS
  intro H locs hP hD hS
  refine lv_iload_n hx hb dX8_isWithin_0 rfl (lv_at hl 0 rfl) ?_
  refine lv_iload_n hx hb dX8_isWithin_1 rfl (lv_at hl 1 rfl) ?_
  refine lv_icmp_lt (tgt := 14) hx hb dX8_isWithin_2 (by decide) (fun c2 => ?_) (fun c2 => ?_)
  · skip
    have ic2 := zlt (a := x0.toInt) (b := x1.toInt) rfl rfl c2
    refine lv_iconst (v := 0) hx hb dX8_isWithin_14 (by decide) ?_
    have hpost : σ = σ ∧ ((0 : Int32).toInt = 1 ∧ x1.toInt ≤ x0.toInt ∧ x0.toInt ≤ x2.toInt ∨ (0 : Int32).toInt = 0 ∧ ¬ (x1.toInt ≤ x0.toInt ∧ x0.toInt ≤ x2.toInt)) := by exact ⟨rfl, by first | (left; exact ⟨by decide, by omega⟩) | (right; exact ⟨by decide, by omega⟩)⟩
    exact W.zret (v := 0) hx hb hr (by decide +kernel) (fun t9 ht hW => ⟨⟨0, σ, rfl, hpost, by rw [ht]; exact hP, va_K.moved hW.alike hK, hD⟩, hS.F ht⟩) hS.2.2 dX8_isWithin_15
  · skip
    have ic2 := znlt (a := x0.toInt) (b := x1.toInt) rfl rfl c2
    refine lv_iload_n hx hb dX8_isWithin_5 rfl (lv_at hl 0 rfl) ?_
    refine lv_iload_n hx hb dX8_isWithin_6 rfl (lv_at hl 2 rfl) ?_
    refine lv_icmp_gt (tgt := 14) hx hb dX8_isWithin_7 (by decide) (fun c7 => ?_) (fun c7 => ?_)
    · skip
      have ic7 := zlt (a := x2.toInt) (b := x0.toInt) rfl rfl c7
      refine lv_iconst (v := 0) hx hb dX8_isWithin_14 (by decide) ?_
      have hpost : σ = σ ∧ ((0 : Int32).toInt = 1 ∧ x1.toInt ≤ x0.toInt ∧ x0.toInt ≤ x2.toInt ∨ (0 : Int32).toInt = 0 ∧ ¬ (x1.toInt ≤ x0.toInt ∧ x0.toInt ≤ x2.toInt)) := by exact ⟨rfl, by first | (left; exact ⟨by decide, by omega⟩) | (right; exact ⟨by decide, by omega⟩)⟩
      exact W.zret (v := 0) hx hb hr (by decide +kernel) (fun t9 ht hW => ⟨⟨0, σ, rfl, hpost, by rw [ht]; exact hP, va_K.moved hW.alike hK, hD⟩, hS.F ht⟩) hS.2.2 dX8_isWithin_15
    · skip
      have ic7 := znlt (a := x2.toInt) (b := x0.toInt) rfl rfl c7
      refine lv_iconst (v := 1) hx hb dX8_isWithin_10 (by decide) ?_
      refine lv_goto (tgt := 15) hx hb dX8_isWithin_11 (by decide) ?_
      have hpost : σ = σ ∧ ((1 : Int32).toInt = 1 ∧ x1.toInt ≤ x0.toInt ∧ x0.toInt ≤ x2.toInt ∨ (1 : Int32).toInt = 0 ∧ ¬ (x1.toInt ≤ x0.toInt ∧ x0.toInt ≤ x2.toInt)) := by exact ⟨rfl, by first | (left; exact ⟨by decide, by omega⟩) | (right; exact ⟨by decide, by omega⟩)⟩
      exact W.zret (v := 1) hx hb hr (by decide +kernel) (fun t9 ht hW => ⟨⟨1, σ, rfl, hpost, by rw [ht]; exact hP, va_K.moved hW.alike hK, hD⟩, hS.F ht⟩) hS.2.2 dX8_isWithin_15

abbrev RM_X8_isRule : Room := { frames := 0, cells := 0, slots := 0, locals := 0 }
set_option maxHeartbeats 4000000 in
set_option maxRecDepth 100000 in
theorem c_X8_isRule (l : Launch) (dC : Nat → ClassId) (dI : Nat → Nat → Nat) (cB cI cS cII : ClassId) (a : Nat → Nat) (N : (Nat → Prop) → State → Prop) (hok : zNok N) (hn : ∀ A U, N A U → zN U) (σ : Cn) (sz : Nat) (x0 : Int32)  : Met l yX8_isRule wsX8_isRule RM_X8_isRule (zPc (dC, dI) (zT cB cI cS cII) N (wX a cB cI cS cII) σ sz [.int x0]) (zQi (dC, dI) (zT cB cI cS cII) (wX a cB cI cS cII) (va_A (wX a cB cI cS cII σ) sz) (fun (r : Int32) (σ1 : Cn) => σ1 = σ ∧ ((r : Int32).toInt = 1 ∧ (x0.toInt = 0 ∨ x0.toInt = 1) ∨ (r : Int32).toInt = 0 ∧ ¬ ((x0.toInt = 0 ∨ x0.toInt = 1))))) 0 0 (va_A (wX a cB cI cS cII σ) sz) := by
  refine Met.ofW (cc := cX8_isRule) (maxL := 1) (ret := (some .boolean)) (by decide) rfl ?_
  intro p e s m args below meth c s₁ B hml hv
  obtain ⟨rfl, hsz, hP, hK, hD0, hN⟩ := hv
  have hx := B.exec
  have hb := B.bytes
  have hr := B.returns
  have hts := atoms_spec (ws := wsX8_isRule) B.pre
  have hown : s.vm.findClass RX8 = some m.cls := findClass_of_methodNamed B.named
  have hlocks := B.notSynchronized
  subst hsz
  have hD := hD0.self (sz := s.heap.size)
  generalize hAe : va_A (wX a cB cI cS cII σ) s.heap.size = A at hD hN ⊢
  have hA : ∀ q : Nat, s.heap.size ≤ q → A q := fun q h => by rw [← hAe]; exact Or.inr h
  clear hAe hD0
  have hS : va_S A s.heap s.heap [] := va_S.rf
  have hl := lv_entry ([.int x0]) (n := 1) (Nat.le_of_ble_eq_true rfl)
  rw [lg_entry_eq]
  generalize (lg_sl ([.int x0]) ++ List.replicate (1 - (lg_sl ([.int x0])).length) Slot.unset).toArray = ls at hl ⊢
  have hl : lv_has ls 1 [(0, .int x0)] := hl
  suffices main : ∀ (H : Heap) (locs : List Loc), va_P (dC, dI) vwCl (wX a cB cI cS cII σ) H → va_D A (wX a cB cI cS cII σ) → va_S A s.heap H locs → W p l e (headSpec wsX8_isRule RM_X8_isRule).room s m ([.int x0] : List Value).toArray below meth c H locs 0 0 (MQ below (zQi (dC, dI) (zT cB cI cS cII) (wX a cB cI cS cII) A (fun (r : Int32) (σ1 : Cn) => σ1 = σ ∧ ((r : Int32).toInt = 1 ∧ (x0.toInt = 0 ∨ x0.toInt = 1) ∨ (r : Int32).toInt = 0 ∧ ¬ ((x0.toInt = 0 ∨ x0.toInt = 1))))) ([.int x0] : List Value).toArray s 0 0 A) (F0 m 0 ls []) from main s.heap [] hP hD hS
  intro H locs hP hD hS
  refine lv_iload_n hx hb dX8_isRule_0 rfl (lv_at hl 0 rfl) ?_
  refine lv_if_eq (tgt := 9) hx hb dX8_isRule_1 (by decide) (fun c1 => ?_) (fun c1 => ?_)
  · skip
    have ic1 := zeq (a := x0.toInt) (b := 0) rfl (by decide) c1
    refine lv_iconst (v := 1) hx hb dX8_isRule_9 (by decide) ?_
    refine lv_goto (tgt := 14) hx hb dX8_isRule_10 (by decide) ?_
    have hpost : σ = σ ∧ ((1 : Int32).toInt = 1 ∧ (x0.toInt = 0 ∨ x0.toInt = 1) ∨ (1 : Int32).toInt = 0 ∧ ¬ ((x0.toInt = 0 ∨ x0.toInt = 1))) := by exact ⟨rfl, by first | (left; exact ⟨by decide, by omega⟩) | (right; exact ⟨by decide, by omega⟩)⟩
    exact W.zret (v := 1) hx hb hr (by decide +kernel) (fun t9 ht hW => ⟨⟨1, σ, rfl, hpost, by rw [ht]; exact hP, va_K.moved hW.alike hK, hD⟩, hS.F ht⟩) hS.2.2 dX8_isRule_14
  · skip
    have ic1 := zneq (a := x0.toInt) (b := 0) rfl (by decide) c1
    refine lv_iload_n hx hb dX8_isRule_4 rfl (lv_at hl 0 rfl) ?_
    refine lv_iconst (v := 1) hx hb dX8_isRule_5 (by decide) ?_
    refine lv_icmp_ne (tgt := 13) hx hb dX8_isRule_6 (by decide) (fun c6 => ?_) (fun c6 => ?_)
    · skip
      have ic6 := zneq (a := x0.toInt) (b := 1) rfl (by decide) c6
      refine lv_iconst (v := 0) hx hb dX8_isRule_13 (by decide) ?_
      have hpost : σ = σ ∧ ((0 : Int32).toInt = 1 ∧ (x0.toInt = 0 ∨ x0.toInt = 1) ∨ (0 : Int32).toInt = 0 ∧ ¬ ((x0.toInt = 0 ∨ x0.toInt = 1))) := by exact ⟨rfl, by first | (left; exact ⟨by decide, by omega⟩) | (right; exact ⟨by decide, by omega⟩)⟩
      exact W.zret (v := 0) hx hb hr (by decide +kernel) (fun t9 ht hW => ⟨⟨0, σ, rfl, hpost, by rw [ht]; exact hP, va_K.moved hW.alike hK, hD⟩, hS.F ht⟩) hS.2.2 dX8_isRule_14
    · skip
      have ic6 := zeq (a := x0.toInt) (b := 1) rfl (by decide) c6
      refine lv_iconst (v := 1) hx hb dX8_isRule_9 (by decide) ?_
      refine lv_goto (tgt := 14) hx hb dX8_isRule_10 (by decide) ?_
      have hpost : σ = σ ∧ ((1 : Int32).toInt = 1 ∧ (x0.toInt = 0 ∨ x0.toInt = 1) ∨ (1 : Int32).toInt = 0 ∧ ¬ ((x0.toInt = 0 ∨ x0.toInt = 1))) := by exact ⟨rfl, by first | (left; exact ⟨by decide, by omega⟩) | (right; exact ⟨by decide, by omega⟩)⟩
      exact W.zret (v := 1) hx hb hr (by decide +kernel) (fun t9 ht hW => ⟨⟨1, σ, rfl, hpost, by rw [ht]; exact hP, va_K.moved hW.alike hK, hD⟩, hS.F ht⟩) hS.2.2 dX8_isRule_14

abbrev RM_X8_isLane : Room := { frames := 1, cells := 0, slots := 0, locals := 22 }
set_option maxHeartbeats 4000000 in
set_option maxRecDepth 100000 in
theorem c_X8_isLane (l : Launch) (dC : Nat → ClassId) (dI : Nat → Nat → Nat) (cB cI cS cII : ClassId) (a : Nat → Nat) (N : (Nat → Prop) → State → Prop) (hok : zNok N) (hn : ∀ A U, N A U → zN U) (σ : Cn) (sz : Nat) (x0 : Int32)  : Met l yX8_isLane wsX8_isLane RM_X8_isLane (zPc (dC, dI) (zT cB cI cS cII) N (wX a cB cI cS cII) σ sz [.int x0]) (zQi (dC, dI) (zT cB cI cS cII) (wX a cB cI cS cII) (va_A (wX a cB cI cS cII σ) sz) (fun (r : Int32) (σ1 : Cn) => σ1 = σ ∧ ((r : Int32).toInt = 1 ∧ 0 ≤ x0.toInt ∧ x0.toInt ≤ 2 ∨ (r : Int32).toInt = 0 ∧ ¬ (0 ≤ x0.toInt ∧ x0.toInt ≤ 2)))) 0 0 (va_A (wX a cB cI cS cII σ) sz) := by
  refine Met.ofW (cc := cX8_isLane) (maxL := 1) (ret := (some .boolean)) (by decide) rfl ?_
  intro p e s m args below meth c s₁ B hml hv
  obtain ⟨rfl, hsz, hP, hK, hD0, hN⟩ := hv
  have hx := B.exec
  have hb := B.bytes
  have hr := B.returns
  have hts := atoms_spec (ws := wsX8_isLane) B.pre
  have hown : s.vm.findClass RX8 = some m.cls := findClass_of_methodNamed B.named
  have hlocks := B.notSynchronized
  subst hsz
  have hD := hD0.self (sz := s.heap.size)
  generalize hAe : va_A (wX a cB cI cS cII σ) s.heap.size = A at hD hN ⊢
  have hA : ∀ q : Nat, s.heap.size ≤ q → A q := fun q h => by rw [← hAe]; exact Or.inr h
  clear hAe hD0
  have hS : va_S A s.heap s.heap [] := va_S.rf
  have hl := lv_entry ([.int x0]) (n := 1) (Nat.le_of_ble_eq_true rfl)
  rw [lg_entry_eq]
  generalize (lg_sl ([.int x0]) ++ List.replicate (1 - (lg_sl ([.int x0])).length) Slot.unset).toArray = ls at hl ⊢
  have hl : lv_has ls 1 [(0, .int x0)] := hl
  suffices main : ∀ (H : Heap) (locs : List Loc), va_P (dC, dI) vwCl (wX a cB cI cS cII σ) H → va_D A (wX a cB cI cS cII σ) → va_S A s.heap H locs → W p l e (headSpec wsX8_isLane RM_X8_isLane).room s m ([.int x0] : List Value).toArray below meth c H locs 0 0 (MQ below (zQi (dC, dI) (zT cB cI cS cII) (wX a cB cI cS cII) A (fun (r : Int32) (σ1 : Cn) => σ1 = σ ∧ ((r : Int32).toInt = 1 ∧ 0 ≤ x0.toInt ∧ x0.toInt ≤ 2 ∨ (r : Int32).toInt = 0 ∧ ¬ (0 ≤ x0.toInt ∧ x0.toInt ≤ 2)))) ([.int x0] : List Value).toArray s 0 0 A) (F0 m 0 ls []) from main s.heap [] hP hD hS
  intro H locs hP hD hS
  refine lv_iload_n hx hb dX8_isLane_0 rfl (lv_at hl 0 rfl) ?_
  refine lv_iconst (v := 0) hx hb dX8_isLane_1 (by decide) ?_
  refine lv_iconst (v := 2) hx hb dX8_isLane_2 (by decide) ?_
  refine zcalli (va_runS (As := [.int x0, .int 0, .int 2]) (rest := []) ⟨hx, hb, hml, hown, hts⟩ (c_X8_isWithin l dC dI cB cI cS cII a N hok hn σ H.size (x0) (0) (2) ) (va_cwS 3 hts gX8_isLane_X8_isWithin rfl rfl rfl (by decide +kernel) ⟨Nat.le_of_ble_eq_true rfl, Nat.le_of_ble_eq_true rfl⟩) (zpreS (wf := wX a cB cI cS cII) hok hN hS hA hK hP hD) rfl rfl hl.1 rfl (lv_room (Nat.le_of_ble_eq_true rfl)) dX8_isLane_3 ⟨Nat.zero_le _, Nat.zero_le _⟩) hD hS hA (fun v3 σ1 H locs hv3 hP hD hS => ?_)
  obtain ⟨es9, hv3⟩ := hv3
  subst σ1
  try simp only [show (0 : Int32).toInt = 0 from by decide, show (2 : Int32).toInt = 2 from by decide] at hv3
  have hpost : σ = σ ∧ ((v3 : Int32).toInt = 1 ∧ 0 ≤ x0.toInt ∧ x0.toInt ≤ 2 ∨ (v3 : Int32).toInt = 0 ∧ ¬ (0 ≤ x0.toInt ∧ x0.toInt ≤ 2)) := by refine ⟨rfl, ?_⟩; omega
  exact W.zret (v := v3) hx hb hr (zbool (by omega)) (fun t9 ht hW => ⟨⟨v3, σ, rfl, hpost, by rw [ht]; exact hP, va_K.moved hW.alike hK, hD⟩, hS.F ht⟩) hS.2.2 dX8_isLane_6

abbrev RM_X5_append : Room := { frames := 0, cells := 0, slots := 0, locals := 0 }
set_option maxHeartbeats 4000000 in
set_option maxRecDepth 100000 in
theorem c_X5_append (l : Launch) (dC : Nat → ClassId) (dI : Nat → Nat → Nat) (cB cI cS cII : ClassId) (a : Nat → Nat) (N : (Nat → Prop) → State → Prop) (hok : zNok N) (hn : ∀ A U, N A U → zN U) (σ : Cn) (sz : Nat) (x1 : Int64) (h1 : 0 ≤ (σ 1 1).toInt ∧ (σ 1 1).toInt ≤ 160) : Met l yX5_append wsX5_append RM_X5_append (zPc (dC, dI) (zT cB cI cS cII) N (wX a cB cI cS cII) σ sz [.ref (a 1), .long x1]) (zQv (dC, dI) (zT cB cI cS cII) (wX a cB cI cS cII) (va_A (wX a cB cI cS cII σ) sz) (fun (σ1 : Cn) => ∃ u1 : Nat → Int32, ∃ u12 : Nat → Int32, σ1 = (upC (upC σ 1 u1) 12 u12) ∧ (0 ≤ (u1 1).toInt ∧ (u1 1).toInt ≤ 160) ∧ ((σ 1 1).toInt ≤ 152 → (u1 1).toInt = (σ 1 1).toInt + 8))) 0 0 (va_A (wX a cB cI cS cII σ) sz) := by
  refine Met.ofW (cc := cX5_append) (maxL := 4) (ret := none) (by decide) rfl ?_
  intro p e s m args below meth c s₁ B hml hv
  obtain ⟨rfl, hsz, hP, hK, hD0, hN⟩ := hv
  have hx := B.exec
  have hb := B.bytes
  have hr := B.returns
  have hts := atoms_spec (ws := wsX5_append) B.pre
  have hown : s.vm.findClass RX5 = some m.cls := findClass_of_methodNamed B.named
  have hlocks := B.notSynchronized
  subst hsz
  have hD := hD0.self (sz := s.heap.size)
  generalize hAe : va_A (wX a cB cI cS cII σ) s.heap.size = A at hD hN ⊢
  have hA : ∀ q : Nat, s.heap.size ≤ q → A q := fun q h => by rw [← hAe]; exact Or.inr h
  clear hAe hD0
  have hS : va_S A s.heap s.heap [] := va_S.rf
  have in5 : ∀ w ∈ u_ws RX5 TX5 2, w ∈ wsX5_append := by decide +kernel
  have k15 := hts (.fieldLink RX5 15 "HouseSorted$Tape" "length" "I") (by decide +kernel)
  have k9 := hts (.fieldLink RX5 9 "HouseSorted$Tape" "bytes" "[B") (by decide +kernel)
  have LP : ∀ n : Nat, (∀ (k : Int32) (w1 : Nat → Int32) (w12 : Nat → Int32) (H : Heap) (locs : List Loc) (ls : Array Slot), 0 ≤ (w1 1).toInt ∧ (w1 1).toInt ≤ 160 → -8 ≤ k.toInt ∧ k.toInt ≤ 56 ∧ k.toInt % 8 = 0 → ((σ 1 1).toInt ≤ 152 → 8 * (w1 1).toInt = 8 * (σ 1 1).toInt + 56 - k.toInt) → (k.toInt + 8).toNat < n → va_P (dC, dI) vwCl (wX a cB cI cS cII (upC (upC σ 1 w1) 12 w12)) H → va_D A (wX a cB cI cS cII (upC (upC σ 1 w1) 12 w12)) → va_S A s.heap H locs → lv_has ls 4 [(0, .ref (a 1)), (1, .long x1), (3, .int k)] → W p l e (headSpec wsX5_append RM_X5_append).room s m ([.ref (a 1), .long x1] : List Value).toArray below meth c H locs 0 0 (MQ below (zQv (dC, dI) (zT cB cI cS cII) (wX a cB cI cS cII) A (fun (σ1 : Cn) => ∃ u1 : Nat → Int32, ∃ u12 : Nat → Int32, σ1 = (upC (upC σ 1 u1) 12 u12) ∧ (0 ≤ (u1 1).toInt ∧ (u1 1).toInt ≤ 160) ∧ ((σ 1 1).toInt ≤ 152 → (u1 1).toInt = (σ 1 1).toInt + 8))) ([.ref (a 1), .long x1] : List Value).toArray s 0 0 A) (F0 m 3 ls [])) := by
    intro n
    induction n with
    | zero => exact by intros; omega
    | succ n ih =>
      · intro k w1 w12 H locs ls g1 g2 g3 hmu hP hD hS hl
        refine lv_iload_n hx hb dX5_append_3 rfl (lv_at hl 2 rfl) ?_
        refine lv_if_lt (tgt := 47) hx hb dX5_append_4 (by decide) (fun c4 => ?_) (fun c4 => ?_)
        · skip
          have ic4 := zlt (a := k.toInt) (b := 0) rfl (by decide) c4
          have hpost : ∃ u1 : Nat → Int32, ∃ u12 : Nat → Int32, (upC (upC σ 1 w1) 12 w12) = (upC (upC σ 1 u1) 12 u12) ∧ (0 ≤ (u1 1).toInt ∧ (u1 1).toInt ≤ 160) ∧ ((σ 1 1).toInt ≤ 152 → (u1 1).toInt = (σ 1 1).toInt + 8) := by refine ⟨_, _, rfl, ?_, ?_⟩ <;> omega
          exact W.vret hx hb hr (fun t9 ht hW => ⟨⟨(upC (upC σ 1 w1) 12 w12), rfl, hpost, by rw [ht]; exact hP, va_K.moved hW.alike hK, hD⟩, hS.F ht⟩) hS.2.2 dX5_append_47
        · skip
          have ic4 := znlt (a := k.toInt) (b := 0) rfl (by decide) c4
          refine lv_aload_n hx hb dX5_append_7 rfl (lv_at hl 0 rfl) ?_
          refine va_get (D := (dC, dI)) (ci := 5) (v := .int (w1 1)) (C := RX5) (T := TX5) (N := 2) hx hb hts in5 hown hK hP 1 rfl rfl 1 (by decide) k15 (fun _ h9 => h9) rfl dX5_append_8 ?_
          refine lv_sipush (v := 160) hx hb dX5_append_11 (by decide) ?_
          refine lv_icmp_ge (tgt := 47) hx hb dX5_append_14 (by decide) (fun c14 => ?_) (fun c14 => ?_)
          · skip
            have ic14 := zle (a := 160) (b := (w1 1).toInt) (by decide) rfl c14
            have hpost : ∃ u1 : Nat → Int32, ∃ u12 : Nat → Int32, (upC (upC σ 1 w1) 12 w12) = (upC (upC σ 1 u1) 12 u12) ∧ (0 ≤ (u1 1).toInt ∧ (u1 1).toInt ≤ 160) ∧ ((σ 1 1).toInt ≤ 152 → (u1 1).toInt = (σ 1 1).toInt + 8) := by refine ⟨_, _, rfl, ?_, ?_⟩ <;> omega
            exact W.vret hx hb hr (fun t9 ht hW => ⟨⟨(upC (upC σ 1 w1) 12 w12), rfl, hpost, by rw [ht]; exact hP, va_K.moved hW.alike hK, hD⟩, hS.F ht⟩) hS.2.2 dX5_append_47
          · skip
            have ic14 := znle (a := 160) (b := (w1 1).toInt) (by decide) rfl c14
            refine lv_aload_n hx hb dX5_append_17 rfl (lv_at hl 0 rfl) ?_
            refine va_get (D := (dC, dI)) (ci := 5) (v := .ref (a 12)) (C := RX5) (T := TX5) (N := 2) hx hb hts in5 hown hK hP 1 rfl rfl 0 (by decide) k9 (fun _ h9 => h9) rfl dX5_append_18 ?_
            refine lv_aload_n hx hb dX5_append_21 rfl (lv_at hl 0 rfl) ?_
            refine va_get (D := (dC, dI)) (ci := 5) (v := .int (w1 1)) (C := RX5) (T := TX5) (N := 2) hx hb hts in5 hown hK hP 1 rfl rfl 1 (by decide) k15 (fun _ h9 => h9) rfl dX5_append_22 ?_
            refine lv_lload_n hx hb dX5_append_25 rfl (lv_at hl 1 rfl) ?_
            refine lv_iload_n hx hb dX5_append_26 rfl (lv_at hl 2 rfl) ?_
            refine lv_lushr hx hb dX5_append_27 rfl ?_
            refine lv_topl (fun v27 ev27 => ?_)
            refine lv_l2i hx hb dX5_append_28 rfl ?_
            refine lv_topi (fun v28 ev28 => ?_)
            refine lv_i2b hx hb dX5_append_29 rfl ?_
            refine lv_topi (fun v29 ev29 => ?_)
            refine va_bast (D := (dC, dI)) (f := w12) hx hb hK hP hD hS 12 0 rfl rfl (i := w1 1) (n := 160) (zin (by omega) (by omega)) dX5_append_30 (fun H locs hP hD hS => ?_)
            have hP : va_P (dC, dI) vwCl (wX a cB cI cS cII (upC (upC σ 1 w1) 12 (upd (w12) (w1 1 : Int32).toNatClampNeg (vp_nar .byte v29)))) H := hP
            have hD : va_D A (wX a cB cI cS cII (upC (upC σ 1 w1) 12 (upd (w12) (w1 1 : Int32).toNatClampNeg (vp_nar .byte v29)))) := hD
            refine lv_aload_n hx hb dX5_append_31 rfl (lv_at hl 0 rfl) ?_
            refine lv_dup hx hb dX5_append_32 rfl ?_
            refine va_get (D := (dC, dI)) (ci := 5) (v := .int (w1 1)) (C := RX5) (T := TX5) (N := 2) hx hb hts in5 hown hK hP 1 rfl rfl 1 (by decide) k15 (fun _ h9 => h9) rfl dX5_append_33 ?_
            refine lv_iconst (v := 1) hx hb dX5_append_36 (by decide) ?_
            refine lv_iadd hx hb dX5_append_37 ?_
            refine lv_topi (fun v37 ev37 => ?_)
            have tv37 : v37.toInt = (w1 1).toInt + 1 := by rw [ev37, zadd, show (1 : Int32).toInt = 1 from by decide]; omega
            refine va_put (D := (dC, dI)) (ci := 5) (v := .int v37) (ty := .int) (C := RX5) (T := TX5) (N := 2) hx hb hts in5 tyX5 tyX5_ok nmX5 hown hK hP hD hS 1 rfl rfl 1 (by decide) k15 (fun _ h9 => h9) rfl (by decide +kernel) rfl rfl (Nat.le_of_ble_eq_true rfl) dX5_append_38 (fun H locs hP hD hS => ?_)
            have hP : va_P (dC, dI) vwCl (wX a cB cI cS cII (upC (upC σ 1 (upd (w1) 1 v37)) 12 (upd (w12) (w1 1 : Int32).toNatClampNeg (vp_nar .byte v29)))) H := hP
            have hD : va_D A (wX a cB cI cS cII (upC (upC σ 1 (upd (w1) 1 v37)) 12 (upd (w12) (w1 1 : Int32).toNatClampNeg (vp_nar .byte v29)))) := hD
            obtain ⟨v41, ev41⟩ : ∃ y : Int32, y = k + (-8) := ⟨_, rfl⟩
            refine lv_iinc (v := v41) (lv' := [(3, .int v41), (0, .ref (a 1)), (1, .long x1)]) hx hb dX5_append_41 hl (k := 2) rfl (by rw [ev41]; rfl) (by decide) rfl (fun ls hl => ?_)
            have tv41 : v41.toInt = k.toInt + (-8) := by rw [ev41, zadd, show ((-8) : Int32).toInt = (-8) from by decide]; omega
            refine lv_goto (tgt := 3) hx hb dX5_append_44 (by decide) ?_
            exact ih (v41) (upd (w1) 1 v37) (upd (w12) (w1 1 : Int32).toNatClampNeg (vp_nar .byte v29)) H locs ls (by show 0 ≤ v37.toInt ∧ v37.toInt ≤ 160; omega) (by omega) (by show (σ 1 1).toInt ≤ 152 → 8 * v37.toInt = 8 * (σ 1 1).toInt + 56 - v41.toInt; omega) (by omega) hP hD hS (lv_sub hl [1, 2, 0] rfl)
  have hl := lv_entry ([.ref (a 1), .long x1]) (n := 4) (Nat.le_of_ble_eq_true rfl)
  rw [lg_entry_eq]
  generalize (lg_sl ([.ref (a 1), .long x1]) ++ List.replicate (4 - (lg_sl ([.ref (a 1), .long x1])).length) Slot.unset).toArray = ls at hl ⊢
  have hl : lv_has ls 4 [(0, .ref (a 1)), (1, .long x1)] := hl
  suffices main : ∀ (H : Heap) (locs : List Loc), va_P (dC, dI) vwCl (wX a cB cI cS cII σ) H → va_D A (wX a cB cI cS cII σ) → va_S A s.heap H locs → W p l e (headSpec wsX5_append RM_X5_append).room s m ([.ref (a 1), .long x1] : List Value).toArray below meth c H locs 0 0 (MQ below (zQv (dC, dI) (zT cB cI cS cII) (wX a cB cI cS cII) A (fun (σ1 : Cn) => ∃ u1 : Nat → Int32, ∃ u12 : Nat → Int32, σ1 = (upC (upC σ 1 u1) 12 u12) ∧ (0 ≤ (u1 1).toInt ∧ (u1 1).toInt ≤ 160) ∧ ((σ 1 1).toInt ≤ 152 → (u1 1).toInt = (σ 1 1).toInt + 8))) ([.ref (a 1), .long x1] : List Value).toArray s 0 0 A) (F0 m 0 ls []) from main s.heap [] hP hD hS
  intro H locs hP hD hS
  refine lv_bipush (v := 56) hx hb dX5_append_0 (by decide) ?_
  refine lv_istore_n (lv' := [(3, .int 56), (0, .ref (a 1)), (1, .long x1)]) hx hb dX5_append_2 rfl hl (by decide) rfl (fun ls hl => ?_)
  exact (LP _) (56) (σ 1) (σ 12) H locs ls (h1) (by decide) (by rw [show (56 : Int32).toInt = 56 from by decide]; omega) (Nat.lt_succ_self _) hP hD hS (lv_sub hl [1, 2, 0] rfl)

abbrev RM_X5_hasBetween : Room := { frames := 0, cells := 0, slots := 0, locals := 0 }
set_option maxHeartbeats 4000000 in
set_option maxRecDepth 100000 in
theorem c_X5_hasBetween (l : Launch) (dC : Nat → ClassId) (dI : Nat → Nat → Nat) (cB cI cS cII : ClassId) (a : Nat → Nat) (N : (Nat → Prop) → State → Prop) (hok : zNok N) (hn : ∀ A U, N A U → zN U) (σ : Cn) (sz : Nat) (x1 : Int32) (x2 : Int32) (x3 : Int32) (h1 : 0 ≤ (σ 1 1).toInt ∧ (σ 1 1).toInt ≤ 160) (h2 : 0 ≤ x1.toInt) : Met l yX5_hasBetween wsX5_hasBetween RM_X5_hasBetween (zPc (dC, dI) (zT cB cI cS cII) N (wX a cB cI cS cII) σ sz [.ref (a 1), .int x1, .int x2, .int x3]) (zQi (dC, dI) (zT cB cI cS cII) (wX a cB cI cS cII) (va_A (wX a cB cI cS cII σ) sz) (fun (r : Int32) (σ1 : Cn) => σ1 = σ ∧ ((r : Int32).toInt = 1 ∧ x1.toInt < (σ 1 1).toInt ∧ x2.toInt ≤ (σ 12 x1.toNatClampNeg).toInt ∧ (σ 12 x1.toNatClampNeg).toInt ≤ x3.toInt ∨ (r : Int32).toInt = 0 ∧ ¬ (x1.toInt < (σ 1 1).toInt ∧ x2.toInt ≤ (σ 12 x1.toNatClampNeg).toInt ∧ (σ 12 x1.toNatClampNeg).toInt ≤ x3.toInt)))) 0 0 (va_A (wX a cB cI cS cII σ) sz) := by
  refine Met.ofW (cc := cX5_hasBetween) (maxL := 4) (ret := (some .boolean)) (by decide) rfl ?_
  intro p e s m args below meth c s₁ B hml hv
  obtain ⟨rfl, hsz, hP, hK, hD0, hN⟩ := hv
  have hx := B.exec
  have hb := B.bytes
  have hr := B.returns
  have hts := atoms_spec (ws := wsX5_hasBetween) B.pre
  have hown : s.vm.findClass RX5 = some m.cls := findClass_of_methodNamed B.named
  have hlocks := B.notSynchronized
  subst hsz
  have hD := hD0.self (sz := s.heap.size)
  generalize hAe : va_A (wX a cB cI cS cII σ) s.heap.size = A at hD hN ⊢
  have hA : ∀ q : Nat, s.heap.size ≤ q → A q := fun q h => by rw [← hAe]; exact Or.inr h
  clear hAe hD0
  have hS : va_S A s.heap s.heap [] := va_S.rf
  have in5 : ∀ w ∈ u_ws RX5 TX5 2, w ∈ wsX5_hasBetween := by decide +kernel
  have k15 := hts (.fieldLink RX5 15 "HouseSorted$Tape" "length" "I") (by decide +kernel)
  have k9 := hts (.fieldLink RX5 9 "HouseSorted$Tape" "bytes" "[B") (by decide +kernel)
  have hl := lv_entry ([.ref (a 1), .int x1, .int x2, .int x3]) (n := 4) (Nat.le_of_ble_eq_true rfl)
  rw [lg_entry_eq]
  generalize (lg_sl ([.ref (a 1), .int x1, .int x2, .int x3]) ++ List.replicate (4 - (lg_sl ([.ref (a 1), .int x1, .int x2, .int x3])).length) Slot.unset).toArray = ls at hl ⊢
  have hl : lv_has ls 4 [(0, .ref (a 1)), (1, .int x1), (2, .int x2), (3, .int x3)] := hl
  suffices main : ∀ (H : Heap) (locs : List Loc), va_P (dC, dI) vwCl (wX a cB cI cS cII σ) H → va_D A (wX a cB cI cS cII σ) → va_S A s.heap H locs → W p l e (headSpec wsX5_hasBetween RM_X5_hasBetween).room s m ([.ref (a 1), .int x1, .int x2, .int x3] : List Value).toArray below meth c H locs 0 0 (MQ below (zQi (dC, dI) (zT cB cI cS cII) (wX a cB cI cS cII) A (fun (r : Int32) (σ1 : Cn) => σ1 = σ ∧ ((r : Int32).toInt = 1 ∧ x1.toInt < (σ 1 1).toInt ∧ x2.toInt ≤ (σ 12 x1.toNatClampNeg).toInt ∧ (σ 12 x1.toNatClampNeg).toInt ≤ x3.toInt ∨ (r : Int32).toInt = 0 ∧ ¬ (x1.toInt < (σ 1 1).toInt ∧ x2.toInt ≤ (σ 12 x1.toNatClampNeg).toInt ∧ (σ 12 x1.toNatClampNeg).toInt ≤ x3.toInt)))) ([.ref (a 1), .int x1, .int x2, .int x3] : List Value).toArray s 0 0 A) (F0 m 0 ls []) from main s.heap [] hP hD hS
  intro H locs hP hD hS
  refine lv_iload_n hx hb dX5_hasBetween_0 rfl (lv_at hl 1 rfl) ?_
  refine lv_aload_n hx hb dX5_hasBetween_1 rfl (lv_at hl 0 rfl) ?_
  refine va_get (D := (dC, dI)) (ci := 5) (v := .int (σ 1 1)) (C := RX5) (T := TX5) (N := 2) hx hb hts in5 hown hK hP 1 rfl rfl 1 (by decide) k15 (fun _ h9 => h9) rfl dX5_hasBetween_2 ?_
  refine lv_icmp_ge (tgt := 32) hx hb dX5_hasBetween_5 (by decide) (fun c5 => ?_) (fun c5 => ?_)
  · skip
    have ic5 := zle (a := (σ 1 1).toInt) (b := x1.toInt) rfl rfl c5
    refine lv_iconst (v := 0) hx hb dX5_hasBetween_32 (by decide) ?_
    have hpost : σ = σ ∧ ((0 : Int32).toInt = 1 ∧ x1.toInt < (σ 1 1).toInt ∧ x2.toInt ≤ (σ 12 x1.toNatClampNeg).toInt ∧ (σ 12 x1.toNatClampNeg).toInt ≤ x3.toInt ∨ (0 : Int32).toInt = 0 ∧ ¬ (x1.toInt < (σ 1 1).toInt ∧ x2.toInt ≤ (σ 12 x1.toNatClampNeg).toInt ∧ (σ 12 x1.toNatClampNeg).toInt ≤ x3.toInt)) := by refine ⟨rfl, ?_⟩; first | (left; exact ⟨by decide, by omega⟩) | (right; exact ⟨by decide, by omega⟩)
    exact W.zret (v := 0) hx hb hr (by decide +kernel) (fun t9 ht hW => ⟨⟨0, σ, rfl, hpost, by rw [ht]; exact hP, va_K.moved hW.alike hK, hD⟩, hS.F ht⟩) hS.2.2 dX5_hasBetween_33
  · skip
    have ic5 := znle (a := (σ 1 1).toInt) (b := x1.toInt) rfl rfl c5
    refine lv_aload_n hx hb dX5_hasBetween_8 rfl (lv_at hl 0 rfl) ?_
    refine va_get (D := (dC, dI)) (ci := 5) (v := .ref (a 12)) (C := RX5) (T := TX5) (N := 2) hx hb hts in5 hown hK hP 1 rfl rfl 0 (by decide) k9 (fun _ h9 => h9) rfl dX5_hasBetween_9 ?_
    refine lv_iload_n hx hb dX5_hasBetween_12 rfl (lv_at hl 1 rfl) ?_
    refine va_bald (D := (dC, dI)) (f := σ 12) hx hb hK hP 12 0 rfl rfl (i := x1) (n := 160) (zin (by omega) (by omega)) dX5_hasBetween_13 ?_
    refine lv_topi (fun v13 ev13 => ?_)
    have tv13 := congrArg Int32.toInt ev13
    refine lv_iload_n hx hb dX5_hasBetween_14 rfl (lv_at hl 2 rfl) ?_
    refine lv_icmp_lt (tgt := 32) hx hb dX5_hasBetween_15 (by decide) (fun c15 => ?_) (fun c15 => ?_)
    · skip
      have ic15 := zlt (a := v13.toInt) (b := x2.toInt) rfl rfl c15
      refine lv_iconst (v := 0) hx hb dX5_hasBetween_32 (by decide) ?_
      have hpost : σ = σ ∧ ((0 : Int32).toInt = 1 ∧ x1.toInt < (σ 1 1).toInt ∧ x2.toInt ≤ (σ 12 x1.toNatClampNeg).toInt ∧ (σ 12 x1.toNatClampNeg).toInt ≤ x3.toInt ∨ (0 : Int32).toInt = 0 ∧ ¬ (x1.toInt < (σ 1 1).toInt ∧ x2.toInt ≤ (σ 12 x1.toNatClampNeg).toInt ∧ (σ 12 x1.toNatClampNeg).toInt ≤ x3.toInt)) := by refine ⟨rfl, ?_⟩; first | (left; exact ⟨by decide, by omega⟩) | (right; exact ⟨by decide, by omega⟩)
      exact W.zret (v := 0) hx hb hr (by decide +kernel) (fun t9 ht hW => ⟨⟨0, σ, rfl, hpost, by rw [ht]; exact hP, va_K.moved hW.alike hK, hD⟩, hS.F ht⟩) hS.2.2 dX5_hasBetween_33
    · skip
      have ic15 := znlt (a := v13.toInt) (b := x2.toInt) rfl rfl c15
      refine lv_aload_n hx hb dX5_hasBetween_18 rfl (lv_at hl 0 rfl) ?_
      refine va_get (D := (dC, dI)) (ci := 5) (v := .ref (a 12)) (C := RX5) (T := TX5) (N := 2) hx hb hts in5 hown hK hP 1 rfl rfl 0 (by decide) k9 (fun _ h9 => h9) rfl dX5_hasBetween_19 ?_
      refine lv_iload_n hx hb dX5_hasBetween_22 rfl (lv_at hl 1 rfl) ?_
      refine va_bald (D := (dC, dI)) (f := σ 12) hx hb hK hP 12 0 rfl rfl (i := x1) (n := 160) (zin (by omega) (by omega)) dX5_hasBetween_23 ?_
      refine lv_topi (fun v23 ev23 => ?_)
      have tv23 := congrArg Int32.toInt ev23
      refine lv_iload_n hx hb dX5_hasBetween_24 rfl (lv_at hl 3 rfl) ?_
      refine lv_icmp_gt (tgt := 32) hx hb dX5_hasBetween_25 (by decide) (fun c25 => ?_) (fun c25 => ?_)
      · skip
        have ic25 := zlt (a := x3.toInt) (b := v23.toInt) rfl rfl c25
        refine lv_iconst (v := 0) hx hb dX5_hasBetween_32 (by decide) ?_
        have hpost : σ = σ ∧ ((0 : Int32).toInt = 1 ∧ x1.toInt < (σ 1 1).toInt ∧ x2.toInt ≤ (σ 12 x1.toNatClampNeg).toInt ∧ (σ 12 x1.toNatClampNeg).toInt ≤ x3.toInt ∨ (0 : Int32).toInt = 0 ∧ ¬ (x1.toInt < (σ 1 1).toInt ∧ x2.toInt ≤ (σ 12 x1.toNatClampNeg).toInt ∧ (σ 12 x1.toNatClampNeg).toInt ≤ x3.toInt)) := by refine ⟨rfl, ?_⟩; first | (left; exact ⟨by decide, by omega⟩) | (right; exact ⟨by decide, by omega⟩)
        exact W.zret (v := 0) hx hb hr (by decide +kernel) (fun t9 ht hW => ⟨⟨0, σ, rfl, hpost, by rw [ht]; exact hP, va_K.moved hW.alike hK, hD⟩, hS.F ht⟩) hS.2.2 dX5_hasBetween_33
      · skip
        have ic25 := znlt (a := x3.toInt) (b := v23.toInt) rfl rfl c25
        refine lv_iconst (v := 1) hx hb dX5_hasBetween_28 (by decide) ?_
        refine lv_goto (tgt := 33) hx hb dX5_hasBetween_29 (by decide) ?_
        have hpost : σ = σ ∧ ((1 : Int32).toInt = 1 ∧ x1.toInt < (σ 1 1).toInt ∧ x2.toInt ≤ (σ 12 x1.toNatClampNeg).toInt ∧ (σ 12 x1.toNatClampNeg).toInt ≤ x3.toInt ∨ (1 : Int32).toInt = 0 ∧ ¬ (x1.toInt < (σ 1 1).toInt ∧ x2.toInt ≤ (σ 12 x1.toNatClampNeg).toInt ∧ (σ 12 x1.toNatClampNeg).toInt ≤ x3.toInt)) := by refine ⟨rfl, ?_⟩; first | (left; exact ⟨by decide, by omega⟩) | (right; exact ⟨by decide, by omega⟩)
        exact W.zret (v := 1) hx hb hr (by decide +kernel) (fun t9 ht hW => ⟨⟨1, σ, rfl, hpost, by rw [ht]; exact hP, va_K.moved hW.alike hK, hD⟩, hS.F ht⟩) hS.2.2 dX5_hasBetween_33
end
section
abbrev RM_X4_renew : Room := { frames := 0, cells := 0, slots := 0, locals := 0 }
set_option maxHeartbeats 4000000 in
set_option maxRecDepth 100000 in
theorem c_X4_renew_8 (l : Launch) (dC : Nat → ClassId) (dI : Nat → Nat → Nat) (cB cI cS cII : ClassId) (a : Nat → Nat) (N : (Nat → Prop) → State → Prop) (hok : zNok N) (hn : ∀ A U, N A U → zN U) (σ : Cn) (sz : Nat) (x1 : Int32) (x2 : Int32)  : Met l yX4_renew wsX4_renew RM_X4_renew (zPc (dC, dI) (zT cB cI cS cII) N (wX a cB cI cS cII) σ sz [.ref (a 8), .int x1, .int x2]) (zQv (dC, dI) (zT cB cI cS cII) (wX a cB cI cS cII) (va_A (wX a cB cI cS cII σ) sz) (fun (σ1 : Cn) => ∃ u8 : Nat → Int32, ∃ u38 : Nat → Int32, σ1 = (upC (upC σ 8 u8) 38 u38) ∧ u8 0 = x1 ∧ u8 1 = x2)) 0 0 (va_A (wX a cB cI cS cII σ) sz) := by
  refine Met.ofW (cc := cX4_renew) (maxL := 4) (ret := none) (by decide) rfl ?_
  intro p e s m args below meth c s₁ B hml hv
  obtain ⟨rfl, hsz, hP, hK, hD0, hN⟩ := hv
  have hx := B.exec
  have hb := B.bytes
  have hr := B.returns
  have hts := atoms_spec (ws := wsX4_renew) B.pre
  have hown : s.vm.findClass RX4 = some m.cls := findClass_of_methodNamed B.named
  have hlocks := B.notSynchronized
  subst hsz
  have hD := hD0.self (sz := s.heap.size)
  generalize hAe : va_A (wX a cB cI cS cII σ) s.heap.size = A at hD hN ⊢
  have hA : ∀ q : Nat, s.heap.size ≤ q → A q := fun q h => by rw [← hAe]; exact Or.inr h
  clear hAe hD0
  have hS : va_S A s.heap s.heap [] := va_S.rf
  have in4 : ∀ w ∈ u_ws RX4 TX4 3, w ∈ wsX4_renew := by decide +kernel
  have k15 := hts (.fieldLink RX4 15 "HouseSorted$Sheet" "cells" "[I") (by decide +kernel)
  have k19 := hts (.fieldLink RX4 19 "HouseSorted$Sheet" "size" "I") (by decide +kernel)
  have k9 := hts (.fieldLink RX4 9 "HouseSorted$Sheet" "lane" "I") (by decide +kernel)
  have LP : ∀ n : Nat, (∀ (j : Int32) (w8 : Nat → Int32) (w38 : Nat → Int32) (H : Heap) (locs : List Loc) (ls : Array Slot), 0 ≤ j.toInt ∧ j.toInt ≤ 60 → w8 0 = x1 ∧ w8 1 = x2 → (60 - j.toInt).toNat < n → va_P (dC, dI) vwCl (wX a cB cI cS cII (upC (upC σ 8 w8) 38 w38)) H → va_D A (wX a cB cI cS cII (upC (upC σ 8 w8) 38 w38)) → va_S A s.heap H locs → lv_has ls 4 [(0, .ref (a 8)), (3, .int j)] → W p l e (headSpec wsX4_renew RM_X4_renew).room s m ([.ref (a 8), .int x1, .int x2] : List Value).toArray below meth c H locs 0 0 (MQ below (zQv (dC, dI) (zT cB cI cS cII) (wX a cB cI cS cII) A (fun (σ1 : Cn) => ∃ u8 : Nat → Int32, ∃ u38 : Nat → Int32, σ1 = (upC (upC σ 8 u8) 38 u38) ∧ u8 0 = x1 ∧ u8 1 = x2)) ([.ref (a 8), .int x1, .int x2] : List Value).toArray s 0 0 A) (F0 m 12 ls [])) := by
    intro n
    induction n with
    | zero => exact by intros; omega
    | succ n ih =>
      · intro j w8 w38 H locs ls g1 g2 hmu hP hD hS hl
        refine lv_iload_n hx hb dX4_renew_12 rfl (lv_at hl 1 rfl) ?_
        refine lv_bipush (v := 60) hx hb dX4_renew_13 (by decide) ?_
        refine lv_icmp_ge (tgt := 31) hx hb dX4_renew_15 (by decide) (fun c15 => ?_) (fun c15 => ?_)
        · skip
          have ic15 := zle (a := 60) (b := j.toInt) (by decide) rfl c15
          have hpost : ∃ u8 : Nat → Int32, ∃ u38 : Nat → Int32, (upC (upC σ 8 w8) 38 w38) = (upC (upC σ 8 u8) 38 u38) ∧ u8 0 = x1 ∧ u8 1 = x2 := by exact ⟨_, _, rfl, g2⟩
          exact W.vret hx hb hr (fun t9 ht hW => ⟨⟨(upC (upC σ 8 w8) 38 w38), rfl, hpost, by rw [ht]; exact hP, va_K.moved hW.alike hK, hD⟩, hS.F ht⟩) hS.2.2 dX4_renew_31
        · skip
          have ic15 := znle (a := 60) (b := j.toInt) (by decide) rfl c15
          refine lv_aload_n hx hb dX4_renew_18 rfl (lv_at hl 0 rfl) ?_
          refine va_get (D := (dC, dI)) (ci := 4) (v := .ref (a 38)) (C := RX4) (T := TX4) (N := 3) hx hb hts in4 hown hK hP 8 rfl rfl 2 (by decide) k15 (fun _ h9 => h9) rfl dX4_renew_19 ?_
          refine lv_iload_n hx hb dX4_renew_22 rfl (lv_at hl 1 rfl) ?_
          refine lv_iconst (v := 0) hx hb dX4_renew_23 (by decide) ?_
          refine va_iast (D := (dC, dI)) (f := w38) hx hb hK hP hD hS 38 1 rfl rfl (i := j) (n := 60) (zin (by omega) (by omega)) dX4_renew_24 (fun H locs hP hD hS => ?_)
          have hP : va_P (dC, dI) vwCl (wX a cB cI cS cII (upC (upC σ 8 w8) 38 (upd (w38) (j).toNatClampNeg 0))) H := hP
          have hD : va_D A (wX a cB cI cS cII (upC (upC σ 8 w8) 38 (upd (w38) (j).toNatClampNeg 0))) := hD
          obtain ⟨v25, ev25⟩ : ∃ y : Int32, y = j + 1 := ⟨_, rfl⟩
          refine lv_iinc (v := v25) (lv' := [(3, .int v25), (0, .ref (a 8))]) hx hb dX4_renew_25 hl (k := 1) rfl (by rw [ev25]; rfl) (by decide) rfl (fun ls hl => ?_)
          have tv25 : v25.toInt = j.toInt + 1 := by rw [ev25, zadd, show (1 : Int32).toInt = 1 from by decide]; omega
          refine lv_goto (tgt := 12) hx hb dX4_renew_28 (by decide) ?_
          exact ih (v25) (w8) (upd (w38) (j).toNatClampNeg 0) H locs ls (by omega) (g2) (by omega) hP hD hS (lv_sub hl [1, 0] rfl)
  have hl := lv_entry ([.ref (a 8), .int x1, .int x2]) (n := 4) (Nat.le_of_ble_eq_true rfl)
  rw [lg_entry_eq]
  generalize (lg_sl ([.ref (a 8), .int x1, .int x2]) ++ List.replicate (4 - (lg_sl ([.ref (a 8), .int x1, .int x2])).length) Slot.unset).toArray = ls at hl ⊢
  have hl : lv_has ls 4 [(0, .ref (a 8)), (1, .int x1), (2, .int x2)] := hl
  suffices main : ∀ (H : Heap) (locs : List Loc), va_P (dC, dI) vwCl (wX a cB cI cS cII σ) H → va_D A (wX a cB cI cS cII σ) → va_S A s.heap H locs → W p l e (headSpec wsX4_renew RM_X4_renew).room s m ([.ref (a 8), .int x1, .int x2] : List Value).toArray below meth c H locs 0 0 (MQ below (zQv (dC, dI) (zT cB cI cS cII) (wX a cB cI cS cII) A (fun (σ1 : Cn) => ∃ u8 : Nat → Int32, ∃ u38 : Nat → Int32, σ1 = (upC (upC σ 8 u8) 38 u38) ∧ u8 0 = x1 ∧ u8 1 = x2)) ([.ref (a 8), .int x1, .int x2] : List Value).toArray s 0 0 A) (F0 m 0 ls []) from main s.heap [] hP hD hS
  intro H locs hP hD hS
  refine lv_aload_n hx hb dX4_renew_0 rfl (lv_at hl 0 rfl) ?_
  refine lv_iload_n hx hb dX4_renew_1 rfl (lv_at hl 1 rfl) ?_
  refine va_put (D := (dC, dI)) (ci := 4) (v := .int x1) (ty := .int) (C := RX4) (T := TX4) (N := 3) hx hb hts in4 tyX4 tyX4_ok nmX4 hown hK hP hD hS 8 rfl rfl 0 (by decide) k9 (fun _ h9 => h9) rfl (by decide +kernel) rfl rfl (Nat.le_of_ble_eq_true rfl) dX4_renew_2 (fun H locs hP hD hS => ?_)
  have hP : va_P (dC, dI) vwCl (wX a cB cI cS cII (upC σ 8 (upd (σ 8) 0 x1))) H := hP
  have hD : va_D A (wX a cB cI cS cII (upC σ 8 (upd (σ 8) 0 x1))) := hD
  refine lv_aload_n hx hb dX4_renew_5 rfl (lv_at hl 0 rfl) ?_
  refine lv_iload_n hx hb dX4_renew_6 rfl (lv_at hl 2 rfl) ?_
  refine va_put (D := (dC, dI)) (ci := 4) (v := .int x2) (ty := .int) (C := RX4) (T := TX4) (N := 3) hx hb hts in4 tyX4 tyX4_ok nmX4 hown hK hP hD hS 8 rfl rfl 1 (by decide) k19 (fun _ h9 => h9) rfl (by decide +kernel) rfl rfl (Nat.le_of_ble_eq_true rfl) dX4_renew_7 (fun H locs hP hD hS => ?_)
  have hP : va_P (dC, dI) vwCl (wX a cB cI cS cII (upC σ 8 (upd (upd (σ 8) 0 x1) 1 x2))) H := hP
  have hD : va_D A (wX a cB cI cS cII (upC σ 8 (upd (upd (σ 8) 0 x1) 1 x2))) := hD
  refine lv_iconst (v := 0) hx hb dX4_renew_10 (by decide) ?_
  refine lv_istore_n (lv' := [(3, .int 0), (0, .ref (a 8)), (1, .int x1), (2, .int x2)]) hx hb dX4_renew_11 rfl hl (by decide) rfl (fun ls hl => ?_)
  exact (LP _) (0) (upd (upd (σ 8) 0 x1) 1 x2) (σ 38) H locs ls (by decide) (⟨rfl, rfl⟩) (Nat.lt_succ_self _) hP hD hS (lv_sub hl [1, 0] rfl)

abbrev RM_X4_hasCell : Room := { frames := 0, cells := 0, slots := 0, locals := 0 }
set_option maxHeartbeats 4000000 in
set_option maxRecDepth 100000 in
theorem c_X4_hasCell_8 (l : Launch) (dC : Nat → ClassId) (dI : Nat → Nat → Nat) (cB cI cS cII : ClassId) (a : Nat → Nat) (N : (Nat → Prop) → State → Prop) (hok : zNok N) (hn : ∀ A U, N A U → zN U) (σ : Cn) (sz : Nat) (x1 : Int32)  : Met l yX4_hasCell wsX4_hasCell RM_X4_hasCell (zPc (dC, dI) (zT cB cI cS cII) N (wX a cB cI cS cII) σ sz [.ref (a 8), .int x1]) (zQi (dC, dI) (zT cB cI cS cII) (wX a cB cI cS cII) (va_A (wX a cB cI cS cII σ) sz) (fun (r : Int32) (σ1 : Cn) => σ1 = σ ∧ ((r : Int32).toInt = 1 ∧ 0 ≤ x1.toInt ∧ x1.toInt < (σ 8 1).toInt ∨ (r : Int32).toInt = 0 ∧ ¬ (0 ≤ x1.toInt ∧ x1.toInt < (σ 8 1).toInt)))) 0 0 (va_A (wX a cB cI cS cII σ) sz) := by
  refine Met.ofW (cc := cX4_hasCell) (maxL := 2) (ret := (some .boolean)) (by decide) rfl ?_
  intro p e s m args below meth c s₁ B hml hv
  obtain ⟨rfl, hsz, hP, hK, hD0, hN⟩ := hv
  have hx := B.exec
  have hb := B.bytes
  have hr := B.returns
  have hts := atoms_spec (ws := wsX4_hasCell) B.pre
  have hown : s.vm.findClass RX4 = some m.cls := findClass_of_methodNamed B.named
  have hlocks := B.notSynchronized
  subst hsz
  have hD := hD0.self (sz := s.heap.size)
  generalize hAe : va_A (wX a cB cI cS cII σ) s.heap.size = A at hD hN ⊢
  have hA : ∀ q : Nat, s.heap.size ≤ q → A q := fun q h => by rw [← hAe]; exact Or.inr h
  clear hAe hD0
  have hS : va_S A s.heap s.heap [] := va_S.rf
  have in4 : ∀ w ∈ u_ws RX4 TX4 3, w ∈ wsX4_hasCell := by decide +kernel
  have k19 := hts (.fieldLink RX4 19 "HouseSorted$Sheet" "size" "I") (by decide +kernel)
  have hl := lv_entry ([.ref (a 8), .int x1]) (n := 2) (Nat.le_of_ble_eq_true rfl)
  rw [lg_entry_eq]
  generalize (lg_sl ([.ref (a 8), .int x1]) ++ List.replicate (2 - (lg_sl ([.ref (a 8), .int x1])).length) Slot.unset).toArray = ls at hl ⊢
  have hl : lv_has ls 2 [(0, .ref (a 8)), (1, .int x1)] := hl
  suffices main : ∀ (H : Heap) (locs : List Loc), va_P (dC, dI) vwCl (wX a cB cI cS cII σ) H → va_D A (wX a cB cI cS cII σ) → va_S A s.heap H locs → W p l e (headSpec wsX4_hasCell RM_X4_hasCell).room s m ([.ref (a 8), .int x1] : List Value).toArray below meth c H locs 0 0 (MQ below (zQi (dC, dI) (zT cB cI cS cII) (wX a cB cI cS cII) A (fun (r : Int32) (σ1 : Cn) => σ1 = σ ∧ ((r : Int32).toInt = 1 ∧ 0 ≤ x1.toInt ∧ x1.toInt < (σ 8 1).toInt ∨ (r : Int32).toInt = 0 ∧ ¬ (0 ≤ x1.toInt ∧ x1.toInt < (σ 8 1).toInt)))) ([.ref (a 8), .int x1] : List Value).toArray s 0 0 A) (F0 m 0 ls []) from main s.heap [] hP hD hS
  intro H locs hP hD hS
  refine lv_iload_n hx hb dX4_hasCell_0 rfl (lv_at hl 1 rfl) ?_
  refine lv_if_lt (tgt := 16) hx hb dX4_hasCell_1 (by decide) (fun c1 => ?_) (fun c1 => ?_)
  · skip
    have ic1 := zlt (a := x1.toInt) (b := 0) rfl (by decide) c1
    refine lv_iconst (v := 0) hx hb dX4_hasCell_16 (by decide) ?_
    have hpost : σ = σ ∧ ((0 : Int32).toInt = 1 ∧ 0 ≤ x1.toInt ∧ x1.toInt < (σ 8 1).toInt ∨ (0 : Int32).toInt = 0 ∧ ¬ (0 ≤ x1.toInt ∧ x1.toInt < (σ 8 1).toInt)) := by exact ⟨rfl, by first | (left; exact ⟨by decide, by omega⟩) | (right; exact ⟨by decide, by omega⟩)⟩
    exact W.zret (v := 0) hx hb hr (by decide +kernel) (fun t9 ht hW => ⟨⟨0, σ, rfl, hpost, by rw [ht]; exact hP, va_K.moved hW.alike hK, hD⟩, hS.F ht⟩) hS.2.2 dX4_hasCell_17
  · skip
    have ic1 := znlt (a := x1.toInt) (b := 0) rfl (by decide) c1
    refine lv_iload_n hx hb dX4_hasCell_4 rfl (lv_at hl 1 rfl) ?_
    refine lv_aload_n hx hb dX4_hasCell_5 rfl (lv_at hl 0 rfl) ?_
    refine va_get (D := (dC, dI)) (ci := 4) (v := .int (σ 8 1)) (C := RX4) (T := TX4) (N := 3) hx hb hts in4 hown hK hP 8 rfl rfl 1 (by decide) k19 (fun _ h9 => h9) rfl dX4_hasCell_6 ?_
    refine lv_icmp_ge (tgt := 16) hx hb dX4_hasCell_9 (by decide) (fun c9 => ?_) (fun c9 => ?_)
    · skip
      have ic9 := zle (a := (σ 8 1).toInt) (b := x1.toInt) rfl rfl c9
      refine lv_iconst (v := 0) hx hb dX4_hasCell_16 (by decide) ?_
      have hpost : σ = σ ∧ ((0 : Int32).toInt = 1 ∧ 0 ≤ x1.toInt ∧ x1.toInt < (σ 8 1).toInt ∨ (0 : Int32).toInt = 0 ∧ ¬ (0 ≤ x1.toInt ∧ x1.toInt < (σ 8 1).toInt)) := by exact ⟨rfl, by first | (left; exact ⟨by decide, by omega⟩) | (right; exact ⟨by decide, by omega⟩)⟩
      exact W.zret (v := 0) hx hb hr (by decide +kernel) (fun t9 ht hW => ⟨⟨0, σ, rfl, hpost, by rw [ht]; exact hP, va_K.moved hW.alike hK, hD⟩, hS.F ht⟩) hS.2.2 dX4_hasCell_17
    · skip
      have ic9 := znle (a := (σ 8 1).toInt) (b := x1.toInt) rfl rfl c9
      refine lv_iconst (v := 1) hx hb dX4_hasCell_12 (by decide) ?_
      refine lv_goto (tgt := 17) hx hb dX4_hasCell_13 (by decide) ?_
      have hpost : σ = σ ∧ ((1 : Int32).toInt = 1 ∧ 0 ≤ x1.toInt ∧ x1.toInt < (σ 8 1).toInt ∨ (1 : Int32).toInt = 0 ∧ ¬ (0 ≤ x1.toInt ∧ x1.toInt < (σ 8 1).toInt)) := by exact ⟨rfl, by first | (left; exact ⟨by decide, by omega⟩) | (right; exact ⟨by decide, by omega⟩)⟩
      exact W.zret (v := 1) hx hb hr (by decide +kernel) (fun t9 ht hW => ⟨⟨1, σ, rfl, hpost, by rw [ht]; exact hP, va_K.moved hW.alike hK, hD⟩, hS.F ht⟩) hS.2.2 dX4_hasCell_17

abbrev RM_X4_put : Room := { frames := 0, cells := 0, slots := 0, locals := 0 }
set_option maxHeartbeats 4000000 in
set_option maxRecDepth 100000 in
theorem c_X4_put_8 (l : Launch) (dC : Nat → ClassId) (dI : Nat → Nat → Nat) (cB cI cS cII : ClassId) (a : Nat → Nat) (N : (Nat → Prop) → State → Prop) (hok : zNok N) (hn : ∀ A U, N A U → zN U) (σ : Cn) (sz : Nat) (x1 : Int32) (x2 : Int32) (h1 : 0 ≤ x1.toInt ∧ x1.toInt < 60) : Met l yX4_put wsX4_put RM_X4_put (zPc (dC, dI) (zT cB cI cS cII) N (wX a cB cI cS cII) σ sz [.ref (a 8), .int x1, .int x2]) (zQv (dC, dI) (zT cB cI cS cII) (wX a cB cI cS cII) (va_A (wX a cB cI cS cII σ) sz) (fun (σ1 : Cn) => ∃ u38 : Nat → Int32, σ1 = (upC σ 38 u38) ∧ True)) 0 0 (va_A (wX a cB cI cS cII σ) sz) := by
  refine Met.ofW (cc := cX4_put) (maxL := 3) (ret := none) (by decide) rfl ?_
  intro p e s m args below meth c s₁ B hml hv
  obtain ⟨rfl, hsz, hP, hK, hD0, hN⟩ := hv
  have hx := B.exec
  have hb := B.bytes
  have hr := B.returns
  have hts := atoms_spec (ws := wsX4_put) B.pre
  have hown : s.vm.findClass RX4 = some m.cls := findClass_of_methodNamed B.named
  have hlocks := B.notSynchronized
  subst hsz
  have hD := hD0.self (sz := s.heap.size)
  generalize hAe : va_A (wX a cB cI cS cII σ) s.heap.size = A at hD hN ⊢
  have hA : ∀ q : Nat, s.heap.size ≤ q → A q := fun q h => by rw [← hAe]; exact Or.inr h
  clear hAe hD0
  have hS : va_S A s.heap s.heap [] := va_S.rf
  have in4 : ∀ w ∈ u_ws RX4 TX4 3, w ∈ wsX4_put := by decide +kernel
  have k15 := hts (.fieldLink RX4 15 "HouseSorted$Sheet" "cells" "[I") (by decide +kernel)
  have k9 := hts (.fieldLink RX4 9 "HouseSorted$Sheet" "lane" "I") (by decide +kernel)
  have hl := lv_entry ([.ref (a 8), .int x1, .int x2]) (n := 3) (Nat.le_of_ble_eq_true rfl)
  rw [lg_entry_eq]
  generalize (lg_sl ([.ref (a 8), .int x1, .int x2]) ++ List.replicate (3 - (lg_sl ([.ref (a 8), .int x1, .int x2])).length) Slot.unset).toArray = ls at hl ⊢
  have hl : lv_has ls 3 [(0, .ref (a 8)), (1, .int x1), (2, .int x2)] := hl
  suffices main : ∀ (H : Heap) (locs : List Loc), va_P (dC, dI) vwCl (wX a cB cI cS cII σ) H → va_D A (wX a cB cI cS cII σ) → va_S A s.heap H locs → W p l e (headSpec wsX4_put RM_X4_put).room s m ([.ref (a 8), .int x1, .int x2] : List Value).toArray below meth c H locs 0 0 (MQ below (zQv (dC, dI) (zT cB cI cS cII) (wX a cB cI cS cII) A (fun (σ1 : Cn) => ∃ u38 : Nat → Int32, σ1 = (upC σ 38 u38) ∧ True)) ([.ref (a 8), .int x1, .int x2] : List Value).toArray s 0 0 A) (F0 m 0 ls []) from main s.heap [] hP hD hS
  intro H locs hP hD hS
  refine lv_aload_n hx hb dX4_put_0 rfl (lv_at hl 0 rfl) ?_
  refine va_get (D := (dC, dI)) (ci := 4) (v := .ref (a 38)) (C := RX4) (T := TX4) (N := 3) hx hb hts in4 hown hK hP 8 rfl rfl 2 (by decide) k15 (fun _ h9 => h9) rfl dX4_put_1 ?_
  refine lv_iload_n hx hb dX4_put_4 rfl (lv_at hl 1 rfl) ?_
  refine lv_aload_n hx hb dX4_put_5 rfl (lv_at hl 0 rfl) ?_
  refine va_get (D := (dC, dI)) (ci := 4) (v := .int (σ 8 0)) (C := RX4) (T := TX4) (N := 3) hx hb hts in4 hown hK hP 8 rfl rfl 0 (by decide) k9 (fun _ h9 => h9) rfl dX4_put_6 ?_
  refine lv_if_ne (tgt := 17) hx hb dX4_put_9 (by decide) (fun c9 => ?_) (fun c9 => ?_)
  · skip
    have ic9 := zneq (a := (σ 8 0).toInt) (b := 0) rfl (by decide) c9
    refine lv_aload_n hx hb dX4_put_17 rfl (lv_at hl 0 rfl) ?_
    refine va_get (D := (dC, dI)) (ci := 4) (v := .int (σ 8 0)) (C := RX4) (T := TX4) (N := 3) hx hb hts in4 hown hK hP 8 rfl rfl 0 (by decide) k9 (fun _ h9 => h9) rfl dX4_put_18 ?_
    refine lv_iconst (v := 1) hx hb dX4_put_21 (by decide) ?_
    refine lv_icmp_ne (tgt := 30) hx hb dX4_put_22 (by decide) (fun c22 => ?_) (fun c22 => ?_)
    · skip
      have ic22 := zneq (a := (σ 8 0).toInt) (b := 1) rfl (by decide) c22
      refine lv_iload_n hx hb dX4_put_30 rfl (lv_at hl 2 rfl) ?_
      refine va_iast (D := (dC, dI)) (f := σ 38) hx hb hK hP hD hS 38 1 rfl rfl (i := x1) (n := 60) (zin (by omega) (by omega)) dX4_put_31 (fun H locs hP hD hS => ?_)
      have hP : va_P (dC, dI) vwCl (wX a cB cI cS cII (upC σ 38 (upd (σ 38) (x1).toNatClampNeg x2))) H := hP
      have hD : va_D A (wX a cB cI cS cII (upC σ 38 (upd (σ 38) (x1).toNatClampNeg x2))) := hD
      have hpost : ∃ u38 : Nat → Int32, (upC σ 38 (upd (σ 38) (x1).toNatClampNeg x2)) = (upC σ 38 u38) ∧ True := by exact ⟨_, rfl, trivial⟩
      exact W.vret hx hb hr (fun t9 ht hW => ⟨⟨(upC σ 38 (upd (σ 38) (x1).toNatClampNeg x2)), rfl, hpost, by rw [ht]; exact hP, va_K.moved hW.alike hK, hD⟩, hS.F ht⟩) hS.2.2 dX4_put_32
    · skip
      have ic22 := zeq (a := (σ 8 0).toInt) (b := 1) rfl (by decide) c22
      refine lv_iload_n hx hb dX4_put_25 rfl (lv_at hl 2 rfl) ?_
      refine lv_i2s hx hb dX4_put_26 rfl ?_
      refine lv_topi (fun v26 ev26 => ?_)
      refine lv_goto (tgt := 31) hx hb dX4_put_27 (by decide) ?_
      refine va_iast (D := (dC, dI)) (f := σ 38) hx hb hK hP hD hS 38 1 rfl rfl (i := x1) (n := 60) (zin (by omega) (by omega)) dX4_put_31 (fun H locs hP hD hS => ?_)
      have hP : va_P (dC, dI) vwCl (wX a cB cI cS cII (upC σ 38 (upd (σ 38) (x1).toNatClampNeg v26))) H := hP
      have hD : va_D A (wX a cB cI cS cII (upC σ 38 (upd (σ 38) (x1).toNatClampNeg v26))) := hD
      have hpost : ∃ u38 : Nat → Int32, (upC σ 38 (upd (σ 38) (x1).toNatClampNeg v26)) = (upC σ 38 u38) ∧ True := by exact ⟨_, rfl, trivial⟩
      exact W.vret hx hb hr (fun t9 ht hW => ⟨⟨(upC σ 38 (upd (σ 38) (x1).toNatClampNeg v26)), rfl, hpost, by rw [ht]; exact hP, va_K.moved hW.alike hK, hD⟩, hS.F ht⟩) hS.2.2 dX4_put_32
  · skip
    have ic9 := zeq (a := (σ 8 0).toInt) (b := 0) rfl (by decide) c9
    refine lv_iload_n hx hb dX4_put_12 rfl (lv_at hl 2 rfl) ?_
    refine lv_i2b hx hb dX4_put_13 rfl ?_
    refine lv_topi (fun v13 ev13 => ?_)
    refine lv_goto (tgt := 31) hx hb dX4_put_14 (by decide) ?_
    refine va_iast (D := (dC, dI)) (f := σ 38) hx hb hK hP hD hS 38 1 rfl rfl (i := x1) (n := 60) (zin (by omega) (by omega)) dX4_put_31 (fun H locs hP hD hS => ?_)
    have hP : va_P (dC, dI) vwCl (wX a cB cI cS cII (upC σ 38 (upd (σ 38) (x1).toNatClampNeg v13))) H := hP
    have hD : va_D A (wX a cB cI cS cII (upC σ 38 (upd (σ 38) (x1).toNatClampNeg v13))) := hD
    have hpost : ∃ u38 : Nat → Int32, (upC σ 38 (upd (σ 38) (x1).toNatClampNeg v13)) = (upC σ 38 u38) ∧ True := by exact ⟨_, rfl, trivial⟩
    exact W.vret hx hb hr (fun t9 ht hW => ⟨⟨(upC σ 38 (upd (σ 38) (x1).toNatClampNeg v13)), rfl, hpost, by rw [ht]; exact hP, va_K.moved hW.alike hK, hD⟩, hS.F ht⟩) hS.2.2 dX4_put_32

abbrev RM_X4_refusal : Room := { frames := 1, cells := 0, slots := 0, locals := 22 }
set_option maxHeartbeats 4000000 in
set_option maxRecDepth 100000 in
theorem c_X4_refusal_8 (l : Launch) (dC : Nat → ClassId) (dI : Nat → Nat → Nat) (cB cI cS cII : ClassId) (a : Nat → Nat) (N : (Nat → Prop) → State → Prop) (hok : zNok N) (hn : ∀ A U, N A U → zN U) (σ : Cn) (sz : Nat) (x1 : Int32) (x2 : Int32) (x3 : Int32) (h1 : 0 ≤ (σ 8 1).toInt ∧ (σ 8 1).toInt ≤ 60) (h3 : 0 ≤ x3.toInt ∧ x3.toInt ≤ 10) : Met l yX4_refusal wsX4_refusal RM_X4_refusal (zPc (dC, dI) (zT cB cI cS cII) N (wX a cB cI cS cII) σ sz [.ref (a 8), .int x1, .int x2, .int x3]) (zQi (dC, dI) (zT cB cI cS cII) (wX a cB cI cS cII) (va_A (wX a cB cI cS cII σ) sz) (fun (r : Int32) (σ1 : Cn) => σ1 = σ ∧ ((r : Int32).toInt = 0 → ∀ t : Nat, (t : Int) < x3.toInt → 0 ≤ x2.toInt + t ∧ x2.toInt + t < 60))) 0 0 (va_A (wX a cB cI cS cII σ) sz) := by
  refine Met.ofW (cc := cX4_refusal) (maxL := 5) (ret := (some .int)) (by decide) rfl ?_
  intro p e s m args below meth c s₁ B hml hv
  obtain ⟨rfl, hsz, hP, hK, hD0, hN⟩ := hv
  have hx := B.exec
  have hb := B.bytes
  have hr := B.returns
  have hts := atoms_spec (ws := wsX4_refusal) B.pre
  have hown : s.vm.findClass RX4 = some m.cls := findClass_of_methodNamed B.named
  have hlocks := B.notSynchronized
  subst hsz
  have hD := hD0.self (sz := s.heap.size)
  generalize hAe : va_A (wX a cB cI cS cII σ) s.heap.size = A at hD hN ⊢
  have hA : ∀ q : Nat, s.heap.size ≤ q → A q := fun q h => by rw [← hAe]; exact Or.inr h
  clear hAe hD0
  have hS : va_S A s.heap s.heap [] := va_S.rf
  have in4 : ∀ w ∈ u_ws RX4 TX4 3, w ∈ wsX4_refusal := by decide +kernel
  have k15 := hts (.fieldLink RX4 15 "HouseSorted$Sheet" "cells" "[I") (by decide +kernel)
  have k9 := hts (.fieldLink RX4 9 "HouseSorted$Sheet" "lane" "I") (by decide +kernel)
  have kin8 := hts (.initialized RX8) (by decide +kernel)
  have kst := hts (.static yX8_isWithin) (by decide +kernel)
  have LP : ∀ n : Nat, (∀ (j : Int32) (H : Heap) (locs : List Loc) (ls : Array Slot), 0 ≤ j.toInt ∧ j.toInt ≤ 10 → (∀ t : Nat, (t : Int) < j.toInt → 0 ≤ x2.toInt + t ∧ x2.toInt + t < 60) → (10 - j.toInt).toNat < n → va_P (dC, dI) vwCl (wX a cB cI cS cII σ) H → va_D A (wX a cB cI cS cII σ) → va_S A s.heap H locs → lv_has ls 5 [(0, .ref (a 8)), (1, .int x1), (2, .int x2), (3, .int x3), (4, .int j)] → W p l e (headSpec wsX4_refusal RM_X4_refusal).room s m ([.ref (a 8), .int x1, .int x2, .int x3] : List Value).toArray below meth c H locs 0 0 (MQ below (zQi (dC, dI) (zT cB cI cS cII) (wX a cB cI cS cII) A (fun (r : Int32) (σ1 : Cn) => σ1 = σ ∧ ((r : Int32).toInt = 0 → ∀ t : Nat, (t : Int) < x3.toInt → 0 ≤ x2.toInt + t ∧ x2.toInt + t < 60))) ([.ref (a 8), .int x1, .int x2, .int x3] : List Value).toArray s 0 0 A) (F0 m 25 ls [])) := by
    intro n
    induction n with
    | zero => exact by intros; omega
    | succ n ih =>
      · intro j H locs ls g1 g2 hmu hP hD hS hl
        refine lv_iload hx hb dX4_refusal_25 (lv_at hl 4 rfl) ?_
        refine lv_iload_n hx hb dX4_refusal_27 rfl (lv_at hl 3 rfl) ?_
        refine lv_icmp_ge (tgt := 75) hx hb dX4_refusal_28 (by decide) (fun c28 => ?_) (fun c28 => ?_)
        · skip
          have ic28 := zle (a := x3.toInt) (b := j.toInt) rfl rfl c28
          refine lv_iconst (v := 0) hx hb dX4_refusal_75 (by decide) ?_
          have hpost : σ = σ ∧ ((0 : Int32).toInt = 0 → ∀ t : Nat, (t : Int) < x3.toInt → 0 ≤ x2.toInt + t ∧ x2.toInt + t < 60) := by exact ⟨rfl, fun _ t ht => g2 t (by omega)⟩
          exact W.iret (v := 0) hx hb hr (fun t9 ht hW => ⟨⟨0, σ, rfl, hpost, by rw [ht]; exact hP, va_K.moved hW.alike hK, hD⟩, hS.F ht⟩) hS.2.2 dX4_refusal_76
        · skip
          have ic28 := znle (a := x3.toInt) (b := j.toInt) rfl rfl c28
          refine lv_aload_n hx hb dX4_refusal_31 rfl (lv_at hl 0 rfl) ?_
          refine lv_iload_n hx hb dX4_refusal_32 rfl (lv_at hl 2 rfl) ?_
          refine lv_iload hx hb dX4_refusal_33 (lv_at hl 4 rfl) ?_
          refine lv_iadd hx hb dX4_refusal_35 ?_
          refine lv_topi (fun v35 ev35 => ?_)
          have tv35 : v35.toInt = (x2.toInt + j.toInt + 2147483648) % 4294967296 - 2147483648 := by rw [ev35, zadd]
          refine zcalli (va_runV (As := [.int v35]) (rest := []) ⟨hx, hb, hml, hown, hts⟩ (c_X4_hasCell_8 l dC dI cB cI cS cII a N hok hn σ H.size (v35) ) (cwV 1 hts gX4_refusal_X4_hasCell rfl rfl rfl (by decide +kernel) ⟨Nat.le_of_ble_eq_true rfl, Nat.le_of_ble_eq_true rfl⟩) (zpreV (wf := wX a cB cI cS cII) (q0 := 8) (ci := 4) hok hN hS hA hK hP hD rfl rfl) rfl rfl hl.1 rfl (lv_room (Nat.le_of_ble_eq_true rfl)) dX4_refusal_36 ⟨Nat.zero_le _, Nat.zero_le _⟩) hD hS hA (fun v36 σ1 H locs hv36 hP hD hS => ?_)
          obtain ⟨es9, hv36⟩ := hv36
          subst σ1
          refine lv_if_ne (tgt := 45) hx hb dX4_refusal_39 (by decide) (fun c39 => ?_) (fun c39 => ?_)
          · skip
            have ic39 := zneq (a := v36.toInt) (b := 0) rfl (by decide) c39
            refine lv_aload_n hx hb dX4_refusal_45 rfl (lv_at hl 0 rfl) ?_
            refine va_get (D := (dC, dI)) (ci := 4) (v := .ref (a 38)) (C := RX4) (T := TX4) (N := 3) hx hb hts in4 hown hK hP 8 rfl rfl 2 (by decide) k15 (fun _ h9 => h9) rfl dX4_refusal_46 ?_
            refine lv_iload_n hx hb dX4_refusal_49 rfl (lv_at hl 2 rfl) ?_
            refine lv_iload hx hb dX4_refusal_50 (lv_at hl 4 rfl) ?_
            refine lv_iadd hx hb dX4_refusal_52 ?_
            refine lv_topi (fun v52 ev52 => ?_)
            have tv52 : v52.toInt = (x2.toInt + j.toInt + 2147483648) % 4294967296 - 2147483648 := by rw [ev52, zadd]
            refine va_iald (D := (dC, dI)) (f := σ 38) hx hb hK hP 38 1 rfl rfl (i := v52) (n := 60) (zin (by omega) (by omega)) dX4_refusal_53 ?_
            refine lv_topi (fun v53 ev53 => ?_)
            have tv53 := congrArg Int32.toInt ev53
            refine lv_iconst (v := 0) hx hb dX4_refusal_54 (by decide) ?_
            refine lv_bipush (v := 100) hx hb dX4_refusal_55 (by decide) ?_
            refine zcalli (va_runSN (As := [.int v53, .int 0, .int 100]) (rest := []) ⟨hx, hb, hml, hown, hts⟩ (c_X8_isWithin l dC dI cB cI cS cII a N hok hn σ H.size (v53) (0) (100) ) ⟨va_cnB (host := RX8) 3 hts ggX4_refusal_X8_isWithin rfl rfl rfl (hn _ _ hN (.methodLinkNest RX4 26 yX8_isWithin RX8) (by decide)) kin8 (by decide +kernel) ⟨Nat.le_of_ble_eq_true rfl, Nat.le_of_ble_eq_true rfl⟩, kst, trivial⟩ (zpreS (wf := wX a cB cI cS cII) hok hN hS hA hK hP hD) rfl rfl hl.1 rfl (lv_room (Nat.le_of_ble_eq_true rfl)) dX4_refusal_57 ⟨Nat.zero_le _, Nat.zero_le _⟩) hD hS hA (fun v57 σ1 H locs hv57 hP hD hS => ?_)
            obtain ⟨es9, hv57⟩ := hv57
            subst σ1
            try simp only [show (0 : Int32).toInt = 0 from by decide, show (100 : Int32).toInt = 100 from by decide] at hv57
            refine lv_if_ne (tgt := 69) hx hb dX4_refusal_60 (by decide) (fun c60 => ?_) (fun c60 => ?_)
            · skip
              have ic60 := zneq (a := v57.toInt) (b := 0) rfl (by decide) c60
              obtain ⟨v69, ev69⟩ : ∃ y : Int32, y = j + 1 := ⟨_, rfl⟩
              refine lv_iinc (v := v69) (lv' := [(4, .int v69), (0, .ref (a 8)), (1, .int x1), (2, .int x2), (3, .int x3)]) hx hb dX4_refusal_69 hl (k := 4) rfl (by rw [ev69]; rfl) (by decide) rfl (fun ls hl => ?_)
              have tv69 : v69.toInt = j.toInt + 1 := by rw [ev69, zadd, show (1 : Int32).toInt = 1 from by decide]; omega
              refine lv_goto (tgt := 25) hx hb dX4_refusal_72 (by decide) ?_
              exact ih (v69)  H locs ls (by omega) (by intro t ht; rcases (show (t : Int) < j.toInt ∨ (t : Int) = j.toInt from by omega) with q9 | q9; exact g2 t q9; have r2 := zrng x2; omega) (by omega) hP hD hS (lv_sub hl [1, 2, 3, 4, 0] rfl)
            · skip
              have ic60 := zeq (a := v57.toInt) (b := 0) rfl (by decide) c60
              refine lv_bipush (v := (-20)) hx hb dX4_refusal_63 (by decide) ?_
              refine lv_iload hx hb dX4_refusal_65 (lv_at hl 4 rfl) ?_
              refine lv_isub hx hb dX4_refusal_67 ?_
              refine lv_topi (fun v67 ev67 => ?_)
              have tv67 : v67.toInt = (-20) - j.toInt := by rw [ev67, zsub, show ((-20) : Int32).toInt = (-20) from by decide]; omega
              have hpost : σ = σ ∧ ((v67 : Int32).toInt = 0 → ∀ t : Nat, (t : Int) < x3.toInt → 0 ≤ x2.toInt + t ∧ x2.toInt + t < 60) := by exact ⟨rfl, fun q9 => by omega⟩
              exact W.iret (v := v67) hx hb hr (fun t9 ht hW => ⟨⟨v67, σ, rfl, hpost, by rw [ht]; exact hP, va_K.moved hW.alike hK, hD⟩, hS.F ht⟩) hS.2.2 dX4_refusal_68
          · skip
            have ic39 := zeq (a := v36.toInt) (b := 0) rfl (by decide) c39
            refine lv_bipush (v := (-12)) hx hb dX4_refusal_42 (by decide) ?_
            have hpost : σ = σ ∧ (((-12) : Int32).toInt = 0 → ∀ t : Nat, (t : Int) < x3.toInt → 0 ≤ x2.toInt + t ∧ x2.toInt + t < 60) := by exact ⟨rfl, fun q9 => absurd q9 (by decide)⟩
            exact W.iret (v := (-12)) hx hb hr (fun t9 ht hW => ⟨⟨(-12), σ, rfl, hpost, by rw [ht]; exact hP, va_K.moved hW.alike hK, hD⟩, hS.F ht⟩) hS.2.2 dX4_refusal_44
  have hl := lv_entry ([.ref (a 8), .int x1, .int x2, .int x3]) (n := 5) (Nat.le_of_ble_eq_true rfl)
  rw [lg_entry_eq]
  generalize (lg_sl ([.ref (a 8), .int x1, .int x2, .int x3]) ++ List.replicate (5 - (lg_sl ([.ref (a 8), .int x1, .int x2, .int x3])).length) Slot.unset).toArray = ls at hl ⊢
  have hl : lv_has ls 5 [(0, .ref (a 8)), (1, .int x1), (2, .int x2), (3, .int x3)] := hl
  suffices main : ∀ (H : Heap) (locs : List Loc), va_P (dC, dI) vwCl (wX a cB cI cS cII σ) H → va_D A (wX a cB cI cS cII σ) → va_S A s.heap H locs → W p l e (headSpec wsX4_refusal RM_X4_refusal).room s m ([.ref (a 8), .int x1, .int x2, .int x3] : List Value).toArray below meth c H locs 0 0 (MQ below (zQi (dC, dI) (zT cB cI cS cII) (wX a cB cI cS cII) A (fun (r : Int32) (σ1 : Cn) => σ1 = σ ∧ ((r : Int32).toInt = 0 → ∀ t : Nat, (t : Int) < x3.toInt → 0 ≤ x2.toInt + t ∧ x2.toInt + t < 60))) ([.ref (a 8), .int x1, .int x2, .int x3] : List Value).toArray s 0 0 A) (F0 m 0 ls []) from main s.heap [] hP hD hS
  intro H locs hP hD hS
  refine lv_aload_n hx hb dX4_refusal_0 rfl (lv_at hl 0 rfl) ?_
  refine va_get (D := (dC, dI)) (ci := 4) (v := .int (σ 8 0)) (C := RX4) (T := TX4) (N := 3) hx hb hts in4 hown hK hP 8 rfl rfl 0 (by decide) k9 (fun _ h9 => h9) rfl dX4_refusal_1 ?_
  refine lv_iconst (v := (-1)) hx hb dX4_refusal_4 (by decide) ?_
  refine lv_icmp_ne (tgt := 11) hx hb dX4_refusal_5 (by decide) (fun c5 => ?_) (fun c5 => ?_)
  · skip
    have ic5 := zneq (a := (σ 8 0).toInt) (b := (-1)) rfl (by decide) c5
    refine lv_aload_n hx hb dX4_refusal_11 rfl (lv_at hl 0 rfl) ?_
    refine va_get (D := (dC, dI)) (ci := 4) (v := .int (σ 8 0)) (C := RX4) (T := TX4) (N := 3) hx hb hts in4 hown hK hP 8 rfl rfl 0 (by decide) k9 (fun _ h9 => h9) rfl dX4_refusal_12 ?_
    refine lv_iload_n hx hb dX4_refusal_15 rfl (lv_at hl 1 rfl) ?_
    refine lv_icmp_eq (tgt := 22) hx hb dX4_refusal_16 (by decide) (fun c16 => ?_) (fun c16 => ?_)
    · skip
      have ic16 := zeq (a := (σ 8 0).toInt) (b := x1.toInt) rfl rfl c16
      refine lv_iconst (v := 0) hx hb dX4_refusal_22 (by decide) ?_
      refine lv_istore (lv' := [(4, .int 0), (0, .ref (a 8)), (1, .int x1), (2, .int x2), (3, .int x3)]) hx hb dX4_refusal_23 hl (by decide) rfl (fun ls hl => ?_)
      exact (LP _) (0)  H locs ls (by decide) (by intro t ht; rw [show (0 : Int32).toInt = 0 from by decide] at ht; omega) (Nat.lt_succ_self _) hP hD hS (lv_sub hl [1, 2, 3, 4, 0] rfl)
    · skip
      have ic16 := zneq (a := (σ 8 0).toInt) (b := x1.toInt) rfl rfl c16
      refine lv_bipush (v := (-13)) hx hb dX4_refusal_19 (by decide) ?_
      have hpost : σ = σ ∧ (((-13) : Int32).toInt = 0 → ∀ t : Nat, (t : Int) < x3.toInt → 0 ≤ x2.toInt + t ∧ x2.toInt + t < 60) := by exact ⟨rfl, fun q9 => absurd q9 (by decide)⟩
      exact W.iret (v := (-13)) hx hb hr (fun t9 ht hW => ⟨⟨(-13), σ, rfl, hpost, by rw [ht]; exact hP, va_K.moved hW.alike hK, hD⟩, hS.F ht⟩) hS.2.2 dX4_refusal_21
  · skip
    have ic5 := zeq (a := (σ 8 0).toInt) (b := (-1)) rfl (by decide) c5
    refine lv_bipush (v := (-11)) hx hb dX4_refusal_8 (by decide) ?_
    have hpost : σ = σ ∧ (((-11) : Int32).toInt = 0 → ∀ t : Nat, (t : Int) < x3.toInt → 0 ≤ x2.toInt + t ∧ x2.toInt + t < 60) := by exact ⟨rfl, fun q9 => absurd q9 (by decide)⟩
    exact W.iret (v := (-11)) hx hb hr (fun t9 ht hW => ⟨⟨(-11), σ, rfl, hpost, by rw [ht]; exact hP, va_K.moved hW.alike hK, hD⟩, hS.F ht⟩) hS.2.2 dX4_refusal_10

set_option maxHeartbeats 4000000 in
set_option maxRecDepth 100000 in
theorem c_X4_renew_9 (l : Launch) (dC : Nat → ClassId) (dI : Nat → Nat → Nat) (cB cI cS cII : ClassId) (a : Nat → Nat) (N : (Nat → Prop) → State → Prop) (hok : zNok N) (hn : ∀ A U, N A U → zN U) (σ : Cn) (sz : Nat) (x1 : Int32) (x2 : Int32)  : Met l yX4_renew wsX4_renew RM_X4_renew (zPc (dC, dI) (zT cB cI cS cII) N (wX a cB cI cS cII) σ sz [.ref (a 9), .int x1, .int x2]) (zQv (dC, dI) (zT cB cI cS cII) (wX a cB cI cS cII) (va_A (wX a cB cI cS cII σ) sz) (fun (σ1 : Cn) => ∃ u9 : Nat → Int32, ∃ u39 : Nat → Int32, σ1 = (upC (upC σ 9 u9) 39 u39) ∧ u9 0 = x1 ∧ u9 1 = x2)) 0 0 (va_A (wX a cB cI cS cII σ) sz) := by
  refine Met.ofW (cc := cX4_renew) (maxL := 4) (ret := none) (by decide) rfl ?_
  intro p e s m args below meth c s₁ B hml hv
  obtain ⟨rfl, hsz, hP, hK, hD0, hN⟩ := hv
  have hx := B.exec
  have hb := B.bytes
  have hr := B.returns
  have hts := atoms_spec (ws := wsX4_renew) B.pre
  have hown : s.vm.findClass RX4 = some m.cls := findClass_of_methodNamed B.named
  have hlocks := B.notSynchronized
  subst hsz
  have hD := hD0.self (sz := s.heap.size)
  generalize hAe : va_A (wX a cB cI cS cII σ) s.heap.size = A at hD hN ⊢
  have hA : ∀ q : Nat, s.heap.size ≤ q → A q := fun q h => by rw [← hAe]; exact Or.inr h
  clear hAe hD0
  have hS : va_S A s.heap s.heap [] := va_S.rf
  have in4 : ∀ w ∈ u_ws RX4 TX4 3, w ∈ wsX4_renew := by decide +kernel
  have k15 := hts (.fieldLink RX4 15 "HouseSorted$Sheet" "cells" "[I") (by decide +kernel)
  have k19 := hts (.fieldLink RX4 19 "HouseSorted$Sheet" "size" "I") (by decide +kernel)
  have k9 := hts (.fieldLink RX4 9 "HouseSorted$Sheet" "lane" "I") (by decide +kernel)
  have LP : ∀ n : Nat, (∀ (j : Int32) (w9 : Nat → Int32) (w39 : Nat → Int32) (H : Heap) (locs : List Loc) (ls : Array Slot), 0 ≤ j.toInt ∧ j.toInt ≤ 60 → w9 0 = x1 ∧ w9 1 = x2 → (60 - j.toInt).toNat < n → va_P (dC, dI) vwCl (wX a cB cI cS cII (upC (upC σ 9 w9) 39 w39)) H → va_D A (wX a cB cI cS cII (upC (upC σ 9 w9) 39 w39)) → va_S A s.heap H locs → lv_has ls 4 [(0, .ref (a 9)), (3, .int j)] → W p l e (headSpec wsX4_renew RM_X4_renew).room s m ([.ref (a 9), .int x1, .int x2] : List Value).toArray below meth c H locs 0 0 (MQ below (zQv (dC, dI) (zT cB cI cS cII) (wX a cB cI cS cII) A (fun (σ1 : Cn) => ∃ u9 : Nat → Int32, ∃ u39 : Nat → Int32, σ1 = (upC (upC σ 9 u9) 39 u39) ∧ u9 0 = x1 ∧ u9 1 = x2)) ([.ref (a 9), .int x1, .int x2] : List Value).toArray s 0 0 A) (F0 m 12 ls [])) := by
    intro n
    induction n with
    | zero => exact by intros; omega
    | succ n ih =>
      · intro j w9 w39 H locs ls g1 g2 hmu hP hD hS hl
        refine lv_iload_n hx hb dX4_renew_12 rfl (lv_at hl 1 rfl) ?_
        refine lv_bipush (v := 60) hx hb dX4_renew_13 (by decide) ?_
        refine lv_icmp_ge (tgt := 31) hx hb dX4_renew_15 (by decide) (fun c15 => ?_) (fun c15 => ?_)
        · skip
          have ic15 := zle (a := 60) (b := j.toInt) (by decide) rfl c15
          have hpost : ∃ u9 : Nat → Int32, ∃ u39 : Nat → Int32, (upC (upC σ 9 w9) 39 w39) = (upC (upC σ 9 u9) 39 u39) ∧ u9 0 = x1 ∧ u9 1 = x2 := by exact ⟨_, _, rfl, g2⟩
          exact W.vret hx hb hr (fun t9 ht hW => ⟨⟨(upC (upC σ 9 w9) 39 w39), rfl, hpost, by rw [ht]; exact hP, va_K.moved hW.alike hK, hD⟩, hS.F ht⟩) hS.2.2 dX4_renew_31
        · skip
          have ic15 := znle (a := 60) (b := j.toInt) (by decide) rfl c15
          refine lv_aload_n hx hb dX4_renew_18 rfl (lv_at hl 0 rfl) ?_
          refine va_get (D := (dC, dI)) (ci := 4) (v := .ref (a 39)) (C := RX4) (T := TX4) (N := 3) hx hb hts in4 hown hK hP 9 rfl rfl 2 (by decide) k15 (fun _ h9 => h9) rfl dX4_renew_19 ?_
          refine lv_iload_n hx hb dX4_renew_22 rfl (lv_at hl 1 rfl) ?_
          refine lv_iconst (v := 0) hx hb dX4_renew_23 (by decide) ?_
          refine va_iast (D := (dC, dI)) (f := w39) hx hb hK hP hD hS 39 1 rfl rfl (i := j) (n := 60) (zin (by omega) (by omega)) dX4_renew_24 (fun H locs hP hD hS => ?_)
          have hP : va_P (dC, dI) vwCl (wX a cB cI cS cII (upC (upC σ 9 w9) 39 (upd (w39) (j).toNatClampNeg 0))) H := hP
          have hD : va_D A (wX a cB cI cS cII (upC (upC σ 9 w9) 39 (upd (w39) (j).toNatClampNeg 0))) := hD
          obtain ⟨v25, ev25⟩ : ∃ y : Int32, y = j + 1 := ⟨_, rfl⟩
          refine lv_iinc (v := v25) (lv' := [(3, .int v25), (0, .ref (a 9))]) hx hb dX4_renew_25 hl (k := 1) rfl (by rw [ev25]; rfl) (by decide) rfl (fun ls hl => ?_)
          have tv25 : v25.toInt = j.toInt + 1 := by rw [ev25, zadd, show (1 : Int32).toInt = 1 from by decide]; omega
          refine lv_goto (tgt := 12) hx hb dX4_renew_28 (by decide) ?_
          exact ih (v25) (w9) (upd (w39) (j).toNatClampNeg 0) H locs ls (by omega) (g2) (by omega) hP hD hS (lv_sub hl [1, 0] rfl)
  have hl := lv_entry ([.ref (a 9), .int x1, .int x2]) (n := 4) (Nat.le_of_ble_eq_true rfl)
  rw [lg_entry_eq]
  generalize (lg_sl ([.ref (a 9), .int x1, .int x2]) ++ List.replicate (4 - (lg_sl ([.ref (a 9), .int x1, .int x2])).length) Slot.unset).toArray = ls at hl ⊢
  have hl : lv_has ls 4 [(0, .ref (a 9)), (1, .int x1), (2, .int x2)] := hl
  suffices main : ∀ (H : Heap) (locs : List Loc), va_P (dC, dI) vwCl (wX a cB cI cS cII σ) H → va_D A (wX a cB cI cS cII σ) → va_S A s.heap H locs → W p l e (headSpec wsX4_renew RM_X4_renew).room s m ([.ref (a 9), .int x1, .int x2] : List Value).toArray below meth c H locs 0 0 (MQ below (zQv (dC, dI) (zT cB cI cS cII) (wX a cB cI cS cII) A (fun (σ1 : Cn) => ∃ u9 : Nat → Int32, ∃ u39 : Nat → Int32, σ1 = (upC (upC σ 9 u9) 39 u39) ∧ u9 0 = x1 ∧ u9 1 = x2)) ([.ref (a 9), .int x1, .int x2] : List Value).toArray s 0 0 A) (F0 m 0 ls []) from main s.heap [] hP hD hS
  intro H locs hP hD hS
  refine lv_aload_n hx hb dX4_renew_0 rfl (lv_at hl 0 rfl) ?_
  refine lv_iload_n hx hb dX4_renew_1 rfl (lv_at hl 1 rfl) ?_
  refine va_put (D := (dC, dI)) (ci := 4) (v := .int x1) (ty := .int) (C := RX4) (T := TX4) (N := 3) hx hb hts in4 tyX4 tyX4_ok nmX4 hown hK hP hD hS 9 rfl rfl 0 (by decide) k9 (fun _ h9 => h9) rfl (by decide +kernel) rfl rfl (Nat.le_of_ble_eq_true rfl) dX4_renew_2 (fun H locs hP hD hS => ?_)
  have hP : va_P (dC, dI) vwCl (wX a cB cI cS cII (upC σ 9 (upd (σ 9) 0 x1))) H := hP
  have hD : va_D A (wX a cB cI cS cII (upC σ 9 (upd (σ 9) 0 x1))) := hD
  refine lv_aload_n hx hb dX4_renew_5 rfl (lv_at hl 0 rfl) ?_
  refine lv_iload_n hx hb dX4_renew_6 rfl (lv_at hl 2 rfl) ?_
  refine va_put (D := (dC, dI)) (ci := 4) (v := .int x2) (ty := .int) (C := RX4) (T := TX4) (N := 3) hx hb hts in4 tyX4 tyX4_ok nmX4 hown hK hP hD hS 9 rfl rfl 1 (by decide) k19 (fun _ h9 => h9) rfl (by decide +kernel) rfl rfl (Nat.le_of_ble_eq_true rfl) dX4_renew_7 (fun H locs hP hD hS => ?_)
  have hP : va_P (dC, dI) vwCl (wX a cB cI cS cII (upC σ 9 (upd (upd (σ 9) 0 x1) 1 x2))) H := hP
  have hD : va_D A (wX a cB cI cS cII (upC σ 9 (upd (upd (σ 9) 0 x1) 1 x2))) := hD
  refine lv_iconst (v := 0) hx hb dX4_renew_10 (by decide) ?_
  refine lv_istore_n (lv' := [(3, .int 0), (0, .ref (a 9)), (1, .int x1), (2, .int x2)]) hx hb dX4_renew_11 rfl hl (by decide) rfl (fun ls hl => ?_)
  exact (LP _) (0) (upd (upd (σ 9) 0 x1) 1 x2) (σ 39) H locs ls (by decide) (⟨rfl, rfl⟩) (Nat.lt_succ_self _) hP hD hS (lv_sub hl [1, 0] rfl)

set_option maxHeartbeats 4000000 in
set_option maxRecDepth 100000 in
theorem c_X4_hasCell_9 (l : Launch) (dC : Nat → ClassId) (dI : Nat → Nat → Nat) (cB cI cS cII : ClassId) (a : Nat → Nat) (N : (Nat → Prop) → State → Prop) (hok : zNok N) (hn : ∀ A U, N A U → zN U) (σ : Cn) (sz : Nat) (x1 : Int32)  : Met l yX4_hasCell wsX4_hasCell RM_X4_hasCell (zPc (dC, dI) (zT cB cI cS cII) N (wX a cB cI cS cII) σ sz [.ref (a 9), .int x1]) (zQi (dC, dI) (zT cB cI cS cII) (wX a cB cI cS cII) (va_A (wX a cB cI cS cII σ) sz) (fun (r : Int32) (σ1 : Cn) => σ1 = σ ∧ ((r : Int32).toInt = 1 ∧ 0 ≤ x1.toInt ∧ x1.toInt < (σ 9 1).toInt ∨ (r : Int32).toInt = 0 ∧ ¬ (0 ≤ x1.toInt ∧ x1.toInt < (σ 9 1).toInt)))) 0 0 (va_A (wX a cB cI cS cII σ) sz) := by
  refine Met.ofW (cc := cX4_hasCell) (maxL := 2) (ret := (some .boolean)) (by decide) rfl ?_
  intro p e s m args below meth c s₁ B hml hv
  obtain ⟨rfl, hsz, hP, hK, hD0, hN⟩ := hv
  have hx := B.exec
  have hb := B.bytes
  have hr := B.returns
  have hts := atoms_spec (ws := wsX4_hasCell) B.pre
  have hown : s.vm.findClass RX4 = some m.cls := findClass_of_methodNamed B.named
  have hlocks := B.notSynchronized
  subst hsz
  have hD := hD0.self (sz := s.heap.size)
  generalize hAe : va_A (wX a cB cI cS cII σ) s.heap.size = A at hD hN ⊢
  have hA : ∀ q : Nat, s.heap.size ≤ q → A q := fun q h => by rw [← hAe]; exact Or.inr h
  clear hAe hD0
  have hS : va_S A s.heap s.heap [] := va_S.rf
  have in4 : ∀ w ∈ u_ws RX4 TX4 3, w ∈ wsX4_hasCell := by decide +kernel
  have k19 := hts (.fieldLink RX4 19 "HouseSorted$Sheet" "size" "I") (by decide +kernel)
  have hl := lv_entry ([.ref (a 9), .int x1]) (n := 2) (Nat.le_of_ble_eq_true rfl)
  rw [lg_entry_eq]
  generalize (lg_sl ([.ref (a 9), .int x1]) ++ List.replicate (2 - (lg_sl ([.ref (a 9), .int x1])).length) Slot.unset).toArray = ls at hl ⊢
  have hl : lv_has ls 2 [(0, .ref (a 9)), (1, .int x1)] := hl
  suffices main : ∀ (H : Heap) (locs : List Loc), va_P (dC, dI) vwCl (wX a cB cI cS cII σ) H → va_D A (wX a cB cI cS cII σ) → va_S A s.heap H locs → W p l e (headSpec wsX4_hasCell RM_X4_hasCell).room s m ([.ref (a 9), .int x1] : List Value).toArray below meth c H locs 0 0 (MQ below (zQi (dC, dI) (zT cB cI cS cII) (wX a cB cI cS cII) A (fun (r : Int32) (σ1 : Cn) => σ1 = σ ∧ ((r : Int32).toInt = 1 ∧ 0 ≤ x1.toInt ∧ x1.toInt < (σ 9 1).toInt ∨ (r : Int32).toInt = 0 ∧ ¬ (0 ≤ x1.toInt ∧ x1.toInt < (σ 9 1).toInt)))) ([.ref (a 9), .int x1] : List Value).toArray s 0 0 A) (F0 m 0 ls []) from main s.heap [] hP hD hS
  intro H locs hP hD hS
  refine lv_iload_n hx hb dX4_hasCell_0 rfl (lv_at hl 1 rfl) ?_
  refine lv_if_lt (tgt := 16) hx hb dX4_hasCell_1 (by decide) (fun c1 => ?_) (fun c1 => ?_)
  · skip
    have ic1 := zlt (a := x1.toInt) (b := 0) rfl (by decide) c1
    refine lv_iconst (v := 0) hx hb dX4_hasCell_16 (by decide) ?_
    have hpost : σ = σ ∧ ((0 : Int32).toInt = 1 ∧ 0 ≤ x1.toInt ∧ x1.toInt < (σ 9 1).toInt ∨ (0 : Int32).toInt = 0 ∧ ¬ (0 ≤ x1.toInt ∧ x1.toInt < (σ 9 1).toInt)) := by exact ⟨rfl, by first | (left; exact ⟨by decide, by omega⟩) | (right; exact ⟨by decide, by omega⟩)⟩
    exact W.zret (v := 0) hx hb hr (by decide +kernel) (fun t9 ht hW => ⟨⟨0, σ, rfl, hpost, by rw [ht]; exact hP, va_K.moved hW.alike hK, hD⟩, hS.F ht⟩) hS.2.2 dX4_hasCell_17
  · skip
    have ic1 := znlt (a := x1.toInt) (b := 0) rfl (by decide) c1
    refine lv_iload_n hx hb dX4_hasCell_4 rfl (lv_at hl 1 rfl) ?_
    refine lv_aload_n hx hb dX4_hasCell_5 rfl (lv_at hl 0 rfl) ?_
    refine va_get (D := (dC, dI)) (ci := 4) (v := .int (σ 9 1)) (C := RX4) (T := TX4) (N := 3) hx hb hts in4 hown hK hP 9 rfl rfl 1 (by decide) k19 (fun _ h9 => h9) rfl dX4_hasCell_6 ?_
    refine lv_icmp_ge (tgt := 16) hx hb dX4_hasCell_9 (by decide) (fun c9 => ?_) (fun c9 => ?_)
    · skip
      have ic9 := zle (a := (σ 9 1).toInt) (b := x1.toInt) rfl rfl c9
      refine lv_iconst (v := 0) hx hb dX4_hasCell_16 (by decide) ?_
      have hpost : σ = σ ∧ ((0 : Int32).toInt = 1 ∧ 0 ≤ x1.toInt ∧ x1.toInt < (σ 9 1).toInt ∨ (0 : Int32).toInt = 0 ∧ ¬ (0 ≤ x1.toInt ∧ x1.toInt < (σ 9 1).toInt)) := by exact ⟨rfl, by first | (left; exact ⟨by decide, by omega⟩) | (right; exact ⟨by decide, by omega⟩)⟩
      exact W.zret (v := 0) hx hb hr (by decide +kernel) (fun t9 ht hW => ⟨⟨0, σ, rfl, hpost, by rw [ht]; exact hP, va_K.moved hW.alike hK, hD⟩, hS.F ht⟩) hS.2.2 dX4_hasCell_17
    · skip
      have ic9 := znle (a := (σ 9 1).toInt) (b := x1.toInt) rfl rfl c9
      refine lv_iconst (v := 1) hx hb dX4_hasCell_12 (by decide) ?_
      refine lv_goto (tgt := 17) hx hb dX4_hasCell_13 (by decide) ?_
      have hpost : σ = σ ∧ ((1 : Int32).toInt = 1 ∧ 0 ≤ x1.toInt ∧ x1.toInt < (σ 9 1).toInt ∨ (1 : Int32).toInt = 0 ∧ ¬ (0 ≤ x1.toInt ∧ x1.toInt < (σ 9 1).toInt)) := by exact ⟨rfl, by first | (left; exact ⟨by decide, by omega⟩) | (right; exact ⟨by decide, by omega⟩)⟩
      exact W.zret (v := 1) hx hb hr (by decide +kernel) (fun t9 ht hW => ⟨⟨1, σ, rfl, hpost, by rw [ht]; exact hP, va_K.moved hW.alike hK, hD⟩, hS.F ht⟩) hS.2.2 dX4_hasCell_17

set_option maxHeartbeats 4000000 in
set_option maxRecDepth 100000 in
theorem c_X4_put_9 (l : Launch) (dC : Nat → ClassId) (dI : Nat → Nat → Nat) (cB cI cS cII : ClassId) (a : Nat → Nat) (N : (Nat → Prop) → State → Prop) (hok : zNok N) (hn : ∀ A U, N A U → zN U) (σ : Cn) (sz : Nat) (x1 : Int32) (x2 : Int32) (h1 : 0 ≤ x1.toInt ∧ x1.toInt < 60) : Met l yX4_put wsX4_put RM_X4_put (zPc (dC, dI) (zT cB cI cS cII) N (wX a cB cI cS cII) σ sz [.ref (a 9), .int x1, .int x2]) (zQv (dC, dI) (zT cB cI cS cII) (wX a cB cI cS cII) (va_A (wX a cB cI cS cII σ) sz) (fun (σ1 : Cn) => ∃ u39 : Nat → Int32, σ1 = (upC σ 39 u39) ∧ True)) 0 0 (va_A (wX a cB cI cS cII σ) sz) := by
  refine Met.ofW (cc := cX4_put) (maxL := 3) (ret := none) (by decide) rfl ?_
  intro p e s m args below meth c s₁ B hml hv
  obtain ⟨rfl, hsz, hP, hK, hD0, hN⟩ := hv
  have hx := B.exec
  have hb := B.bytes
  have hr := B.returns
  have hts := atoms_spec (ws := wsX4_put) B.pre
  have hown : s.vm.findClass RX4 = some m.cls := findClass_of_methodNamed B.named
  have hlocks := B.notSynchronized
  subst hsz
  have hD := hD0.self (sz := s.heap.size)
  generalize hAe : va_A (wX a cB cI cS cII σ) s.heap.size = A at hD hN ⊢
  have hA : ∀ q : Nat, s.heap.size ≤ q → A q := fun q h => by rw [← hAe]; exact Or.inr h
  clear hAe hD0
  have hS : va_S A s.heap s.heap [] := va_S.rf
  have in4 : ∀ w ∈ u_ws RX4 TX4 3, w ∈ wsX4_put := by decide +kernel
  have k15 := hts (.fieldLink RX4 15 "HouseSorted$Sheet" "cells" "[I") (by decide +kernel)
  have k9 := hts (.fieldLink RX4 9 "HouseSorted$Sheet" "lane" "I") (by decide +kernel)
  have hl := lv_entry ([.ref (a 9), .int x1, .int x2]) (n := 3) (Nat.le_of_ble_eq_true rfl)
  rw [lg_entry_eq]
  generalize (lg_sl ([.ref (a 9), .int x1, .int x2]) ++ List.replicate (3 - (lg_sl ([.ref (a 9), .int x1, .int x2])).length) Slot.unset).toArray = ls at hl ⊢
  have hl : lv_has ls 3 [(0, .ref (a 9)), (1, .int x1), (2, .int x2)] := hl
  suffices main : ∀ (H : Heap) (locs : List Loc), va_P (dC, dI) vwCl (wX a cB cI cS cII σ) H → va_D A (wX a cB cI cS cII σ) → va_S A s.heap H locs → W p l e (headSpec wsX4_put RM_X4_put).room s m ([.ref (a 9), .int x1, .int x2] : List Value).toArray below meth c H locs 0 0 (MQ below (zQv (dC, dI) (zT cB cI cS cII) (wX a cB cI cS cII) A (fun (σ1 : Cn) => ∃ u39 : Nat → Int32, σ1 = (upC σ 39 u39) ∧ True)) ([.ref (a 9), .int x1, .int x2] : List Value).toArray s 0 0 A) (F0 m 0 ls []) from main s.heap [] hP hD hS
  intro H locs hP hD hS
  refine lv_aload_n hx hb dX4_put_0 rfl (lv_at hl 0 rfl) ?_
  refine va_get (D := (dC, dI)) (ci := 4) (v := .ref (a 39)) (C := RX4) (T := TX4) (N := 3) hx hb hts in4 hown hK hP 9 rfl rfl 2 (by decide) k15 (fun _ h9 => h9) rfl dX4_put_1 ?_
  refine lv_iload_n hx hb dX4_put_4 rfl (lv_at hl 1 rfl) ?_
  refine lv_aload_n hx hb dX4_put_5 rfl (lv_at hl 0 rfl) ?_
  refine va_get (D := (dC, dI)) (ci := 4) (v := .int (σ 9 0)) (C := RX4) (T := TX4) (N := 3) hx hb hts in4 hown hK hP 9 rfl rfl 0 (by decide) k9 (fun _ h9 => h9) rfl dX4_put_6 ?_
  refine lv_if_ne (tgt := 17) hx hb dX4_put_9 (by decide) (fun c9 => ?_) (fun c9 => ?_)
  · skip
    have ic9 := zneq (a := (σ 9 0).toInt) (b := 0) rfl (by decide) c9
    refine lv_aload_n hx hb dX4_put_17 rfl (lv_at hl 0 rfl) ?_
    refine va_get (D := (dC, dI)) (ci := 4) (v := .int (σ 9 0)) (C := RX4) (T := TX4) (N := 3) hx hb hts in4 hown hK hP 9 rfl rfl 0 (by decide) k9 (fun _ h9 => h9) rfl dX4_put_18 ?_
    refine lv_iconst (v := 1) hx hb dX4_put_21 (by decide) ?_
    refine lv_icmp_ne (tgt := 30) hx hb dX4_put_22 (by decide) (fun c22 => ?_) (fun c22 => ?_)
    · skip
      have ic22 := zneq (a := (σ 9 0).toInt) (b := 1) rfl (by decide) c22
      refine lv_iload_n hx hb dX4_put_30 rfl (lv_at hl 2 rfl) ?_
      refine va_iast (D := (dC, dI)) (f := σ 39) hx hb hK hP hD hS 39 1 rfl rfl (i := x1) (n := 60) (zin (by omega) (by omega)) dX4_put_31 (fun H locs hP hD hS => ?_)
      have hP : va_P (dC, dI) vwCl (wX a cB cI cS cII (upC σ 39 (upd (σ 39) (x1).toNatClampNeg x2))) H := hP
      have hD : va_D A (wX a cB cI cS cII (upC σ 39 (upd (σ 39) (x1).toNatClampNeg x2))) := hD
      have hpost : ∃ u39 : Nat → Int32, (upC σ 39 (upd (σ 39) (x1).toNatClampNeg x2)) = (upC σ 39 u39) ∧ True := by exact ⟨_, rfl, trivial⟩
      exact W.vret hx hb hr (fun t9 ht hW => ⟨⟨(upC σ 39 (upd (σ 39) (x1).toNatClampNeg x2)), rfl, hpost, by rw [ht]; exact hP, va_K.moved hW.alike hK, hD⟩, hS.F ht⟩) hS.2.2 dX4_put_32
    · skip
      have ic22 := zeq (a := (σ 9 0).toInt) (b := 1) rfl (by decide) c22
      refine lv_iload_n hx hb dX4_put_25 rfl (lv_at hl 2 rfl) ?_
      refine lv_i2s hx hb dX4_put_26 rfl ?_
      refine lv_topi (fun v26 ev26 => ?_)
      refine lv_goto (tgt := 31) hx hb dX4_put_27 (by decide) ?_
      refine va_iast (D := (dC, dI)) (f := σ 39) hx hb hK hP hD hS 39 1 rfl rfl (i := x1) (n := 60) (zin (by omega) (by omega)) dX4_put_31 (fun H locs hP hD hS => ?_)
      have hP : va_P (dC, dI) vwCl (wX a cB cI cS cII (upC σ 39 (upd (σ 39) (x1).toNatClampNeg v26))) H := hP
      have hD : va_D A (wX a cB cI cS cII (upC σ 39 (upd (σ 39) (x1).toNatClampNeg v26))) := hD
      have hpost : ∃ u39 : Nat → Int32, (upC σ 39 (upd (σ 39) (x1).toNatClampNeg v26)) = (upC σ 39 u39) ∧ True := by exact ⟨_, rfl, trivial⟩
      exact W.vret hx hb hr (fun t9 ht hW => ⟨⟨(upC σ 39 (upd (σ 39) (x1).toNatClampNeg v26)), rfl, hpost, by rw [ht]; exact hP, va_K.moved hW.alike hK, hD⟩, hS.F ht⟩) hS.2.2 dX4_put_32
  · skip
    have ic9 := zeq (a := (σ 9 0).toInt) (b := 0) rfl (by decide) c9
    refine lv_iload_n hx hb dX4_put_12 rfl (lv_at hl 2 rfl) ?_
    refine lv_i2b hx hb dX4_put_13 rfl ?_
    refine lv_topi (fun v13 ev13 => ?_)
    refine lv_goto (tgt := 31) hx hb dX4_put_14 (by decide) ?_
    refine va_iast (D := (dC, dI)) (f := σ 39) hx hb hK hP hD hS 39 1 rfl rfl (i := x1) (n := 60) (zin (by omega) (by omega)) dX4_put_31 (fun H locs hP hD hS => ?_)
    have hP : va_P (dC, dI) vwCl (wX a cB cI cS cII (upC σ 39 (upd (σ 39) (x1).toNatClampNeg v13))) H := hP
    have hD : va_D A (wX a cB cI cS cII (upC σ 39 (upd (σ 39) (x1).toNatClampNeg v13))) := hD
    have hpost : ∃ u39 : Nat → Int32, (upC σ 39 (upd (σ 39) (x1).toNatClampNeg v13)) = (upC σ 39 u39) ∧ True := by exact ⟨_, rfl, trivial⟩
    exact W.vret hx hb hr (fun t9 ht hW => ⟨⟨(upC σ 39 (upd (σ 39) (x1).toNatClampNeg v13)), rfl, hpost, by rw [ht]; exact hP, va_K.moved hW.alike hK, hD⟩, hS.F ht⟩) hS.2.2 dX4_put_32

set_option maxHeartbeats 4000000 in
set_option maxRecDepth 100000 in
theorem c_X4_refusal_9 (l : Launch) (dC : Nat → ClassId) (dI : Nat → Nat → Nat) (cB cI cS cII : ClassId) (a : Nat → Nat) (N : (Nat → Prop) → State → Prop) (hok : zNok N) (hn : ∀ A U, N A U → zN U) (σ : Cn) (sz : Nat) (x1 : Int32) (x2 : Int32) (x3 : Int32) (h1 : 0 ≤ (σ 9 1).toInt ∧ (σ 9 1).toInt ≤ 60) (h3 : 0 ≤ x3.toInt ∧ x3.toInt ≤ 10) : Met l yX4_refusal wsX4_refusal RM_X4_refusal (zPc (dC, dI) (zT cB cI cS cII) N (wX a cB cI cS cII) σ sz [.ref (a 9), .int x1, .int x2, .int x3]) (zQi (dC, dI) (zT cB cI cS cII) (wX a cB cI cS cII) (va_A (wX a cB cI cS cII σ) sz) (fun (r : Int32) (σ1 : Cn) => σ1 = σ ∧ ((r : Int32).toInt = 0 → ∀ t : Nat, (t : Int) < x3.toInt → 0 ≤ x2.toInt + t ∧ x2.toInt + t < 60))) 0 0 (va_A (wX a cB cI cS cII σ) sz) := by
  refine Met.ofW (cc := cX4_refusal) (maxL := 5) (ret := (some .int)) (by decide) rfl ?_
  intro p e s m args below meth c s₁ B hml hv
  obtain ⟨rfl, hsz, hP, hK, hD0, hN⟩ := hv
  have hx := B.exec
  have hb := B.bytes
  have hr := B.returns
  have hts := atoms_spec (ws := wsX4_refusal) B.pre
  have hown : s.vm.findClass RX4 = some m.cls := findClass_of_methodNamed B.named
  have hlocks := B.notSynchronized
  subst hsz
  have hD := hD0.self (sz := s.heap.size)
  generalize hAe : va_A (wX a cB cI cS cII σ) s.heap.size = A at hD hN ⊢
  have hA : ∀ q : Nat, s.heap.size ≤ q → A q := fun q h => by rw [← hAe]; exact Or.inr h
  clear hAe hD0
  have hS : va_S A s.heap s.heap [] := va_S.rf
  have in4 : ∀ w ∈ u_ws RX4 TX4 3, w ∈ wsX4_refusal := by decide +kernel
  have k15 := hts (.fieldLink RX4 15 "HouseSorted$Sheet" "cells" "[I") (by decide +kernel)
  have k9 := hts (.fieldLink RX4 9 "HouseSorted$Sheet" "lane" "I") (by decide +kernel)
  have kin8 := hts (.initialized RX8) (by decide +kernel)
  have kst := hts (.static yX8_isWithin) (by decide +kernel)
  have LP : ∀ n : Nat, (∀ (j : Int32) (H : Heap) (locs : List Loc) (ls : Array Slot), 0 ≤ j.toInt ∧ j.toInt ≤ 10 → (∀ t : Nat, (t : Int) < j.toInt → 0 ≤ x2.toInt + t ∧ x2.toInt + t < 60) → (10 - j.toInt).toNat < n → va_P (dC, dI) vwCl (wX a cB cI cS cII σ) H → va_D A (wX a cB cI cS cII σ) → va_S A s.heap H locs → lv_has ls 5 [(0, .ref (a 9)), (1, .int x1), (2, .int x2), (3, .int x3), (4, .int j)] → W p l e (headSpec wsX4_refusal RM_X4_refusal).room s m ([.ref (a 9), .int x1, .int x2, .int x3] : List Value).toArray below meth c H locs 0 0 (MQ below (zQi (dC, dI) (zT cB cI cS cII) (wX a cB cI cS cII) A (fun (r : Int32) (σ1 : Cn) => σ1 = σ ∧ ((r : Int32).toInt = 0 → ∀ t : Nat, (t : Int) < x3.toInt → 0 ≤ x2.toInt + t ∧ x2.toInt + t < 60))) ([.ref (a 9), .int x1, .int x2, .int x3] : List Value).toArray s 0 0 A) (F0 m 25 ls [])) := by
    intro n
    induction n with
    | zero => exact by intros; omega
    | succ n ih =>
      · intro j H locs ls g1 g2 hmu hP hD hS hl
        refine lv_iload hx hb dX4_refusal_25 (lv_at hl 4 rfl) ?_
        refine lv_iload_n hx hb dX4_refusal_27 rfl (lv_at hl 3 rfl) ?_
        refine lv_icmp_ge (tgt := 75) hx hb dX4_refusal_28 (by decide) (fun c28 => ?_) (fun c28 => ?_)
        · skip
          have ic28 := zle (a := x3.toInt) (b := j.toInt) rfl rfl c28
          refine lv_iconst (v := 0) hx hb dX4_refusal_75 (by decide) ?_
          have hpost : σ = σ ∧ ((0 : Int32).toInt = 0 → ∀ t : Nat, (t : Int) < x3.toInt → 0 ≤ x2.toInt + t ∧ x2.toInt + t < 60) := by exact ⟨rfl, fun _ t ht => g2 t (by omega)⟩
          exact W.iret (v := 0) hx hb hr (fun t9 ht hW => ⟨⟨0, σ, rfl, hpost, by rw [ht]; exact hP, va_K.moved hW.alike hK, hD⟩, hS.F ht⟩) hS.2.2 dX4_refusal_76
        · skip
          have ic28 := znle (a := x3.toInt) (b := j.toInt) rfl rfl c28
          refine lv_aload_n hx hb dX4_refusal_31 rfl (lv_at hl 0 rfl) ?_
          refine lv_iload_n hx hb dX4_refusal_32 rfl (lv_at hl 2 rfl) ?_
          refine lv_iload hx hb dX4_refusal_33 (lv_at hl 4 rfl) ?_
          refine lv_iadd hx hb dX4_refusal_35 ?_
          refine lv_topi (fun v35 ev35 => ?_)
          have tv35 : v35.toInt = (x2.toInt + j.toInt + 2147483648) % 4294967296 - 2147483648 := by rw [ev35, zadd]
          refine zcalli (va_runV (As := [.int v35]) (rest := []) ⟨hx, hb, hml, hown, hts⟩ (c_X4_hasCell_9 l dC dI cB cI cS cII a N hok hn σ H.size (v35) ) (cwV 1 hts gX4_refusal_X4_hasCell rfl rfl rfl (by decide +kernel) ⟨Nat.le_of_ble_eq_true rfl, Nat.le_of_ble_eq_true rfl⟩) (zpreV (wf := wX a cB cI cS cII) (q0 := 9) (ci := 4) hok hN hS hA hK hP hD rfl rfl) rfl rfl hl.1 rfl (lv_room (Nat.le_of_ble_eq_true rfl)) dX4_refusal_36 ⟨Nat.zero_le _, Nat.zero_le _⟩) hD hS hA (fun v36 σ1 H locs hv36 hP hD hS => ?_)
          obtain ⟨es9, hv36⟩ := hv36
          subst σ1
          refine lv_if_ne (tgt := 45) hx hb dX4_refusal_39 (by decide) (fun c39 => ?_) (fun c39 => ?_)
          · skip
            have ic39 := zneq (a := v36.toInt) (b := 0) rfl (by decide) c39
            refine lv_aload_n hx hb dX4_refusal_45 rfl (lv_at hl 0 rfl) ?_
            refine va_get (D := (dC, dI)) (ci := 4) (v := .ref (a 39)) (C := RX4) (T := TX4) (N := 3) hx hb hts in4 hown hK hP 9 rfl rfl 2 (by decide) k15 (fun _ h9 => h9) rfl dX4_refusal_46 ?_
            refine lv_iload_n hx hb dX4_refusal_49 rfl (lv_at hl 2 rfl) ?_
            refine lv_iload hx hb dX4_refusal_50 (lv_at hl 4 rfl) ?_
            refine lv_iadd hx hb dX4_refusal_52 ?_
            refine lv_topi (fun v52 ev52 => ?_)
            have tv52 : v52.toInt = (x2.toInt + j.toInt + 2147483648) % 4294967296 - 2147483648 := by rw [ev52, zadd]
            refine va_iald (D := (dC, dI)) (f := σ 39) hx hb hK hP 39 1 rfl rfl (i := v52) (n := 60) (zin (by omega) (by omega)) dX4_refusal_53 ?_
            refine lv_topi (fun v53 ev53 => ?_)
            have tv53 := congrArg Int32.toInt ev53
            refine lv_iconst (v := 0) hx hb dX4_refusal_54 (by decide) ?_
            refine lv_bipush (v := 100) hx hb dX4_refusal_55 (by decide) ?_
            refine zcalli (va_runSN (As := [.int v53, .int 0, .int 100]) (rest := []) ⟨hx, hb, hml, hown, hts⟩ (c_X8_isWithin l dC dI cB cI cS cII a N hok hn σ H.size (v53) (0) (100) ) ⟨va_cnB (host := RX8) 3 hts ggX4_refusal_X8_isWithin rfl rfl rfl (hn _ _ hN (.methodLinkNest RX4 26 yX8_isWithin RX8) (by decide)) kin8 (by decide +kernel) ⟨Nat.le_of_ble_eq_true rfl, Nat.le_of_ble_eq_true rfl⟩, kst, trivial⟩ (zpreS (wf := wX a cB cI cS cII) hok hN hS hA hK hP hD) rfl rfl hl.1 rfl (lv_room (Nat.le_of_ble_eq_true rfl)) dX4_refusal_57 ⟨Nat.zero_le _, Nat.zero_le _⟩) hD hS hA (fun v57 σ1 H locs hv57 hP hD hS => ?_)
            obtain ⟨es9, hv57⟩ := hv57
            subst σ1
            try simp only [show (0 : Int32).toInt = 0 from by decide, show (100 : Int32).toInt = 100 from by decide] at hv57
            refine lv_if_ne (tgt := 69) hx hb dX4_refusal_60 (by decide) (fun c60 => ?_) (fun c60 => ?_)
            · skip
              have ic60 := zneq (a := v57.toInt) (b := 0) rfl (by decide) c60
              obtain ⟨v69, ev69⟩ : ∃ y : Int32, y = j + 1 := ⟨_, rfl⟩
              refine lv_iinc (v := v69) (lv' := [(4, .int v69), (0, .ref (a 9)), (1, .int x1), (2, .int x2), (3, .int x3)]) hx hb dX4_refusal_69 hl (k := 4) rfl (by rw [ev69]; rfl) (by decide) rfl (fun ls hl => ?_)
              have tv69 : v69.toInt = j.toInt + 1 := by rw [ev69, zadd, show (1 : Int32).toInt = 1 from by decide]; omega
              refine lv_goto (tgt := 25) hx hb dX4_refusal_72 (by decide) ?_
              exact ih (v69)  H locs ls (by omega) (by intro t ht; rcases (show (t : Int) < j.toInt ∨ (t : Int) = j.toInt from by omega) with q9 | q9; exact g2 t q9; have r2 := zrng x2; omega) (by omega) hP hD hS (lv_sub hl [1, 2, 3, 4, 0] rfl)
            · skip
              have ic60 := zeq (a := v57.toInt) (b := 0) rfl (by decide) c60
              refine lv_bipush (v := (-20)) hx hb dX4_refusal_63 (by decide) ?_
              refine lv_iload hx hb dX4_refusal_65 (lv_at hl 4 rfl) ?_
              refine lv_isub hx hb dX4_refusal_67 ?_
              refine lv_topi (fun v67 ev67 => ?_)
              have tv67 : v67.toInt = (-20) - j.toInt := by rw [ev67, zsub, show ((-20) : Int32).toInt = (-20) from by decide]; omega
              have hpost : σ = σ ∧ ((v67 : Int32).toInt = 0 → ∀ t : Nat, (t : Int) < x3.toInt → 0 ≤ x2.toInt + t ∧ x2.toInt + t < 60) := by exact ⟨rfl, fun q9 => by omega⟩
              exact W.iret (v := v67) hx hb hr (fun t9 ht hW => ⟨⟨v67, σ, rfl, hpost, by rw [ht]; exact hP, va_K.moved hW.alike hK, hD⟩, hS.F ht⟩) hS.2.2 dX4_refusal_68
          · skip
            have ic39 := zeq (a := v36.toInt) (b := 0) rfl (by decide) c39
            refine lv_bipush (v := (-12)) hx hb dX4_refusal_42 (by decide) ?_
            have hpost : σ = σ ∧ (((-12) : Int32).toInt = 0 → ∀ t : Nat, (t : Int) < x3.toInt → 0 ≤ x2.toInt + t ∧ x2.toInt + t < 60) := by exact ⟨rfl, fun q9 => absurd q9 (by decide)⟩
            exact W.iret (v := (-12)) hx hb hr (fun t9 ht hW => ⟨⟨(-12), σ, rfl, hpost, by rw [ht]; exact hP, va_K.moved hW.alike hK, hD⟩, hS.F ht⟩) hS.2.2 dX4_refusal_44
  have hl := lv_entry ([.ref (a 9), .int x1, .int x2, .int x3]) (n := 5) (Nat.le_of_ble_eq_true rfl)
  rw [lg_entry_eq]
  generalize (lg_sl ([.ref (a 9), .int x1, .int x2, .int x3]) ++ List.replicate (5 - (lg_sl ([.ref (a 9), .int x1, .int x2, .int x3])).length) Slot.unset).toArray = ls at hl ⊢
  have hl : lv_has ls 5 [(0, .ref (a 9)), (1, .int x1), (2, .int x2), (3, .int x3)] := hl
  suffices main : ∀ (H : Heap) (locs : List Loc), va_P (dC, dI) vwCl (wX a cB cI cS cII σ) H → va_D A (wX a cB cI cS cII σ) → va_S A s.heap H locs → W p l e (headSpec wsX4_refusal RM_X4_refusal).room s m ([.ref (a 9), .int x1, .int x2, .int x3] : List Value).toArray below meth c H locs 0 0 (MQ below (zQi (dC, dI) (zT cB cI cS cII) (wX a cB cI cS cII) A (fun (r : Int32) (σ1 : Cn) => σ1 = σ ∧ ((r : Int32).toInt = 0 → ∀ t : Nat, (t : Int) < x3.toInt → 0 ≤ x2.toInt + t ∧ x2.toInt + t < 60))) ([.ref (a 9), .int x1, .int x2, .int x3] : List Value).toArray s 0 0 A) (F0 m 0 ls []) from main s.heap [] hP hD hS
  intro H locs hP hD hS
  refine lv_aload_n hx hb dX4_refusal_0 rfl (lv_at hl 0 rfl) ?_
  refine va_get (D := (dC, dI)) (ci := 4) (v := .int (σ 9 0)) (C := RX4) (T := TX4) (N := 3) hx hb hts in4 hown hK hP 9 rfl rfl 0 (by decide) k9 (fun _ h9 => h9) rfl dX4_refusal_1 ?_
  refine lv_iconst (v := (-1)) hx hb dX4_refusal_4 (by decide) ?_
  refine lv_icmp_ne (tgt := 11) hx hb dX4_refusal_5 (by decide) (fun c5 => ?_) (fun c5 => ?_)
  · skip
    have ic5 := zneq (a := (σ 9 0).toInt) (b := (-1)) rfl (by decide) c5
    refine lv_aload_n hx hb dX4_refusal_11 rfl (lv_at hl 0 rfl) ?_
    refine va_get (D := (dC, dI)) (ci := 4) (v := .int (σ 9 0)) (C := RX4) (T := TX4) (N := 3) hx hb hts in4 hown hK hP 9 rfl rfl 0 (by decide) k9 (fun _ h9 => h9) rfl dX4_refusal_12 ?_
    refine lv_iload_n hx hb dX4_refusal_15 rfl (lv_at hl 1 rfl) ?_
    refine lv_icmp_eq (tgt := 22) hx hb dX4_refusal_16 (by decide) (fun c16 => ?_) (fun c16 => ?_)
    · skip
      have ic16 := zeq (a := (σ 9 0).toInt) (b := x1.toInt) rfl rfl c16
      refine lv_iconst (v := 0) hx hb dX4_refusal_22 (by decide) ?_
      refine lv_istore (lv' := [(4, .int 0), (0, .ref (a 9)), (1, .int x1), (2, .int x2), (3, .int x3)]) hx hb dX4_refusal_23 hl (by decide) rfl (fun ls hl => ?_)
      exact (LP _) (0)  H locs ls (by decide) (by intro t ht; rw [show (0 : Int32).toInt = 0 from by decide] at ht; omega) (Nat.lt_succ_self _) hP hD hS (lv_sub hl [1, 2, 3, 4, 0] rfl)
    · skip
      have ic16 := zneq (a := (σ 9 0).toInt) (b := x1.toInt) rfl rfl c16
      refine lv_bipush (v := (-13)) hx hb dX4_refusal_19 (by decide) ?_
      have hpost : σ = σ ∧ (((-13) : Int32).toInt = 0 → ∀ t : Nat, (t : Int) < x3.toInt → 0 ≤ x2.toInt + t ∧ x2.toInt + t < 60) := by exact ⟨rfl, fun q9 => absurd q9 (by decide)⟩
      exact W.iret (v := (-13)) hx hb hr (fun t9 ht hW => ⟨⟨(-13), σ, rfl, hpost, by rw [ht]; exact hP, va_K.moved hW.alike hK, hD⟩, hS.F ht⟩) hS.2.2 dX4_refusal_21
  · skip
    have ic5 := zeq (a := (σ 9 0).toInt) (b := (-1)) rfl (by decide) c5
    refine lv_bipush (v := (-11)) hx hb dX4_refusal_8 (by decide) ?_
    have hpost : σ = σ ∧ (((-11) : Int32).toInt = 0 → ∀ t : Nat, (t : Int) < x3.toInt → 0 ≤ x2.toInt + t ∧ x2.toInt + t < 60) := by exact ⟨rfl, fun q9 => absurd q9 (by decide)⟩
    exact W.iret (v := (-11)) hx hb hr (fun t9 ht hW => ⟨⟨(-11), σ, rfl, hpost, by rw [ht]; exact hP, va_K.moved hW.alike hK, hD⟩, hS.F ht⟩) hS.2.2 dX4_refusal_10

set_option maxHeartbeats 4000000 in
set_option maxRecDepth 100000 in
theorem c_X4_renew_10 (l : Launch) (dC : Nat → ClassId) (dI : Nat → Nat → Nat) (cB cI cS cII : ClassId) (a : Nat → Nat) (N : (Nat → Prop) → State → Prop) (hok : zNok N) (hn : ∀ A U, N A U → zN U) (σ : Cn) (sz : Nat) (x1 : Int32) (x2 : Int32)  : Met l yX4_renew wsX4_renew RM_X4_renew (zPc (dC, dI) (zT cB cI cS cII) N (wX a cB cI cS cII) σ sz [.ref (a 10), .int x1, .int x2]) (zQv (dC, dI) (zT cB cI cS cII) (wX a cB cI cS cII) (va_A (wX a cB cI cS cII σ) sz) (fun (σ1 : Cn) => ∃ u10 : Nat → Int32, ∃ u40 : Nat → Int32, σ1 = (upC (upC σ 10 u10) 40 u40) ∧ u10 0 = x1 ∧ u10 1 = x2)) 0 0 (va_A (wX a cB cI cS cII σ) sz) := by
  refine Met.ofW (cc := cX4_renew) (maxL := 4) (ret := none) (by decide) rfl ?_
  intro p e s m args below meth c s₁ B hml hv
  obtain ⟨rfl, hsz, hP, hK, hD0, hN⟩ := hv
  have hx := B.exec
  have hb := B.bytes
  have hr := B.returns
  have hts := atoms_spec (ws := wsX4_renew) B.pre
  have hown : s.vm.findClass RX4 = some m.cls := findClass_of_methodNamed B.named
  have hlocks := B.notSynchronized
  subst hsz
  have hD := hD0.self (sz := s.heap.size)
  generalize hAe : va_A (wX a cB cI cS cII σ) s.heap.size = A at hD hN ⊢
  have hA : ∀ q : Nat, s.heap.size ≤ q → A q := fun q h => by rw [← hAe]; exact Or.inr h
  clear hAe hD0
  have hS : va_S A s.heap s.heap [] := va_S.rf
  have in4 : ∀ w ∈ u_ws RX4 TX4 3, w ∈ wsX4_renew := by decide +kernel
  have k15 := hts (.fieldLink RX4 15 "HouseSorted$Sheet" "cells" "[I") (by decide +kernel)
  have k19 := hts (.fieldLink RX4 19 "HouseSorted$Sheet" "size" "I") (by decide +kernel)
  have k9 := hts (.fieldLink RX4 9 "HouseSorted$Sheet" "lane" "I") (by decide +kernel)
  have LP : ∀ n : Nat, (∀ (j : Int32) (w10 : Nat → Int32) (w40 : Nat → Int32) (H : Heap) (locs : List Loc) (ls : Array Slot), 0 ≤ j.toInt ∧ j.toInt ≤ 60 → w10 0 = x1 ∧ w10 1 = x2 → (60 - j.toInt).toNat < n → va_P (dC, dI) vwCl (wX a cB cI cS cII (upC (upC σ 10 w10) 40 w40)) H → va_D A (wX a cB cI cS cII (upC (upC σ 10 w10) 40 w40)) → va_S A s.heap H locs → lv_has ls 4 [(0, .ref (a 10)), (3, .int j)] → W p l e (headSpec wsX4_renew RM_X4_renew).room s m ([.ref (a 10), .int x1, .int x2] : List Value).toArray below meth c H locs 0 0 (MQ below (zQv (dC, dI) (zT cB cI cS cII) (wX a cB cI cS cII) A (fun (σ1 : Cn) => ∃ u10 : Nat → Int32, ∃ u40 : Nat → Int32, σ1 = (upC (upC σ 10 u10) 40 u40) ∧ u10 0 = x1 ∧ u10 1 = x2)) ([.ref (a 10), .int x1, .int x2] : List Value).toArray s 0 0 A) (F0 m 12 ls [])) := by
    intro n
    induction n with
    | zero => exact by intros; omega
    | succ n ih =>
      · intro j w10 w40 H locs ls g1 g2 hmu hP hD hS hl
        refine lv_iload_n hx hb dX4_renew_12 rfl (lv_at hl 1 rfl) ?_
        refine lv_bipush (v := 60) hx hb dX4_renew_13 (by decide) ?_
        refine lv_icmp_ge (tgt := 31) hx hb dX4_renew_15 (by decide) (fun c15 => ?_) (fun c15 => ?_)
        · skip
          have ic15 := zle (a := 60) (b := j.toInt) (by decide) rfl c15
          have hpost : ∃ u10 : Nat → Int32, ∃ u40 : Nat → Int32, (upC (upC σ 10 w10) 40 w40) = (upC (upC σ 10 u10) 40 u40) ∧ u10 0 = x1 ∧ u10 1 = x2 := by exact ⟨_, _, rfl, g2⟩
          exact W.vret hx hb hr (fun t9 ht hW => ⟨⟨(upC (upC σ 10 w10) 40 w40), rfl, hpost, by rw [ht]; exact hP, va_K.moved hW.alike hK, hD⟩, hS.F ht⟩) hS.2.2 dX4_renew_31
        · skip
          have ic15 := znle (a := 60) (b := j.toInt) (by decide) rfl c15
          refine lv_aload_n hx hb dX4_renew_18 rfl (lv_at hl 0 rfl) ?_
          refine va_get (D := (dC, dI)) (ci := 4) (v := .ref (a 40)) (C := RX4) (T := TX4) (N := 3) hx hb hts in4 hown hK hP 10 rfl rfl 2 (by decide) k15 (fun _ h9 => h9) rfl dX4_renew_19 ?_
          refine lv_iload_n hx hb dX4_renew_22 rfl (lv_at hl 1 rfl) ?_
          refine lv_iconst (v := 0) hx hb dX4_renew_23 (by decide) ?_
          refine va_iast (D := (dC, dI)) (f := w40) hx hb hK hP hD hS 40 1 rfl rfl (i := j) (n := 60) (zin (by omega) (by omega)) dX4_renew_24 (fun H locs hP hD hS => ?_)
          have hP : va_P (dC, dI) vwCl (wX a cB cI cS cII (upC (upC σ 10 w10) 40 (upd (w40) (j).toNatClampNeg 0))) H := hP
          have hD : va_D A (wX a cB cI cS cII (upC (upC σ 10 w10) 40 (upd (w40) (j).toNatClampNeg 0))) := hD
          obtain ⟨v25, ev25⟩ : ∃ y : Int32, y = j + 1 := ⟨_, rfl⟩
          refine lv_iinc (v := v25) (lv' := [(3, .int v25), (0, .ref (a 10))]) hx hb dX4_renew_25 hl (k := 1) rfl (by rw [ev25]; rfl) (by decide) rfl (fun ls hl => ?_)
          have tv25 : v25.toInt = j.toInt + 1 := by rw [ev25, zadd, show (1 : Int32).toInt = 1 from by decide]; omega
          refine lv_goto (tgt := 12) hx hb dX4_renew_28 (by decide) ?_
          exact ih (v25) (w10) (upd (w40) (j).toNatClampNeg 0) H locs ls (by omega) (g2) (by omega) hP hD hS (lv_sub hl [1, 0] rfl)
  have hl := lv_entry ([.ref (a 10), .int x1, .int x2]) (n := 4) (Nat.le_of_ble_eq_true rfl)
  rw [lg_entry_eq]
  generalize (lg_sl ([.ref (a 10), .int x1, .int x2]) ++ List.replicate (4 - (lg_sl ([.ref (a 10), .int x1, .int x2])).length) Slot.unset).toArray = ls at hl ⊢
  have hl : lv_has ls 4 [(0, .ref (a 10)), (1, .int x1), (2, .int x2)] := hl
  suffices main : ∀ (H : Heap) (locs : List Loc), va_P (dC, dI) vwCl (wX a cB cI cS cII σ) H → va_D A (wX a cB cI cS cII σ) → va_S A s.heap H locs → W p l e (headSpec wsX4_renew RM_X4_renew).room s m ([.ref (a 10), .int x1, .int x2] : List Value).toArray below meth c H locs 0 0 (MQ below (zQv (dC, dI) (zT cB cI cS cII) (wX a cB cI cS cII) A (fun (σ1 : Cn) => ∃ u10 : Nat → Int32, ∃ u40 : Nat → Int32, σ1 = (upC (upC σ 10 u10) 40 u40) ∧ u10 0 = x1 ∧ u10 1 = x2)) ([.ref (a 10), .int x1, .int x2] : List Value).toArray s 0 0 A) (F0 m 0 ls []) from main s.heap [] hP hD hS
  intro H locs hP hD hS
  refine lv_aload_n hx hb dX4_renew_0 rfl (lv_at hl 0 rfl) ?_
  refine lv_iload_n hx hb dX4_renew_1 rfl (lv_at hl 1 rfl) ?_
  refine va_put (D := (dC, dI)) (ci := 4) (v := .int x1) (ty := .int) (C := RX4) (T := TX4) (N := 3) hx hb hts in4 tyX4 tyX4_ok nmX4 hown hK hP hD hS 10 rfl rfl 0 (by decide) k9 (fun _ h9 => h9) rfl (by decide +kernel) rfl rfl (Nat.le_of_ble_eq_true rfl) dX4_renew_2 (fun H locs hP hD hS => ?_)
  have hP : va_P (dC, dI) vwCl (wX a cB cI cS cII (upC σ 10 (upd (σ 10) 0 x1))) H := hP
  have hD : va_D A (wX a cB cI cS cII (upC σ 10 (upd (σ 10) 0 x1))) := hD
  refine lv_aload_n hx hb dX4_renew_5 rfl (lv_at hl 0 rfl) ?_
  refine lv_iload_n hx hb dX4_renew_6 rfl (lv_at hl 2 rfl) ?_
  refine va_put (D := (dC, dI)) (ci := 4) (v := .int x2) (ty := .int) (C := RX4) (T := TX4) (N := 3) hx hb hts in4 tyX4 tyX4_ok nmX4 hown hK hP hD hS 10 rfl rfl 1 (by decide) k19 (fun _ h9 => h9) rfl (by decide +kernel) rfl rfl (Nat.le_of_ble_eq_true rfl) dX4_renew_7 (fun H locs hP hD hS => ?_)
  have hP : va_P (dC, dI) vwCl (wX a cB cI cS cII (upC σ 10 (upd (upd (σ 10) 0 x1) 1 x2))) H := hP
  have hD : va_D A (wX a cB cI cS cII (upC σ 10 (upd (upd (σ 10) 0 x1) 1 x2))) := hD
  refine lv_iconst (v := 0) hx hb dX4_renew_10 (by decide) ?_
  refine lv_istore_n (lv' := [(3, .int 0), (0, .ref (a 10)), (1, .int x1), (2, .int x2)]) hx hb dX4_renew_11 rfl hl (by decide) rfl (fun ls hl => ?_)
  exact (LP _) (0) (upd (upd (σ 10) 0 x1) 1 x2) (σ 40) H locs ls (by decide) (⟨rfl, rfl⟩) (Nat.lt_succ_self _) hP hD hS (lv_sub hl [1, 0] rfl)

set_option maxHeartbeats 4000000 in
set_option maxRecDepth 100000 in
theorem c_X4_hasCell_10 (l : Launch) (dC : Nat → ClassId) (dI : Nat → Nat → Nat) (cB cI cS cII : ClassId) (a : Nat → Nat) (N : (Nat → Prop) → State → Prop) (hok : zNok N) (hn : ∀ A U, N A U → zN U) (σ : Cn) (sz : Nat) (x1 : Int32)  : Met l yX4_hasCell wsX4_hasCell RM_X4_hasCell (zPc (dC, dI) (zT cB cI cS cII) N (wX a cB cI cS cII) σ sz [.ref (a 10), .int x1]) (zQi (dC, dI) (zT cB cI cS cII) (wX a cB cI cS cII) (va_A (wX a cB cI cS cII σ) sz) (fun (r : Int32) (σ1 : Cn) => σ1 = σ ∧ ((r : Int32).toInt = 1 ∧ 0 ≤ x1.toInt ∧ x1.toInt < (σ 10 1).toInt ∨ (r : Int32).toInt = 0 ∧ ¬ (0 ≤ x1.toInt ∧ x1.toInt < (σ 10 1).toInt)))) 0 0 (va_A (wX a cB cI cS cII σ) sz) := by
  refine Met.ofW (cc := cX4_hasCell) (maxL := 2) (ret := (some .boolean)) (by decide) rfl ?_
  intro p e s m args below meth c s₁ B hml hv
  obtain ⟨rfl, hsz, hP, hK, hD0, hN⟩ := hv
  have hx := B.exec
  have hb := B.bytes
  have hr := B.returns
  have hts := atoms_spec (ws := wsX4_hasCell) B.pre
  have hown : s.vm.findClass RX4 = some m.cls := findClass_of_methodNamed B.named
  have hlocks := B.notSynchronized
  subst hsz
  have hD := hD0.self (sz := s.heap.size)
  generalize hAe : va_A (wX a cB cI cS cII σ) s.heap.size = A at hD hN ⊢
  have hA : ∀ q : Nat, s.heap.size ≤ q → A q := fun q h => by rw [← hAe]; exact Or.inr h
  clear hAe hD0
  have hS : va_S A s.heap s.heap [] := va_S.rf
  have in4 : ∀ w ∈ u_ws RX4 TX4 3, w ∈ wsX4_hasCell := by decide +kernel
  have k19 := hts (.fieldLink RX4 19 "HouseSorted$Sheet" "size" "I") (by decide +kernel)
  have hl := lv_entry ([.ref (a 10), .int x1]) (n := 2) (Nat.le_of_ble_eq_true rfl)
  rw [lg_entry_eq]
  generalize (lg_sl ([.ref (a 10), .int x1]) ++ List.replicate (2 - (lg_sl ([.ref (a 10), .int x1])).length) Slot.unset).toArray = ls at hl ⊢
  have hl : lv_has ls 2 [(0, .ref (a 10)), (1, .int x1)] := hl
  suffices main : ∀ (H : Heap) (locs : List Loc), va_P (dC, dI) vwCl (wX a cB cI cS cII σ) H → va_D A (wX a cB cI cS cII σ) → va_S A s.heap H locs → W p l e (headSpec wsX4_hasCell RM_X4_hasCell).room s m ([.ref (a 10), .int x1] : List Value).toArray below meth c H locs 0 0 (MQ below (zQi (dC, dI) (zT cB cI cS cII) (wX a cB cI cS cII) A (fun (r : Int32) (σ1 : Cn) => σ1 = σ ∧ ((r : Int32).toInt = 1 ∧ 0 ≤ x1.toInt ∧ x1.toInt < (σ 10 1).toInt ∨ (r : Int32).toInt = 0 ∧ ¬ (0 ≤ x1.toInt ∧ x1.toInt < (σ 10 1).toInt)))) ([.ref (a 10), .int x1] : List Value).toArray s 0 0 A) (F0 m 0 ls []) from main s.heap [] hP hD hS
  intro H locs hP hD hS
  refine lv_iload_n hx hb dX4_hasCell_0 rfl (lv_at hl 1 rfl) ?_
  refine lv_if_lt (tgt := 16) hx hb dX4_hasCell_1 (by decide) (fun c1 => ?_) (fun c1 => ?_)
  · skip
    have ic1 := zlt (a := x1.toInt) (b := 0) rfl (by decide) c1
    refine lv_iconst (v := 0) hx hb dX4_hasCell_16 (by decide) ?_
    have hpost : σ = σ ∧ ((0 : Int32).toInt = 1 ∧ 0 ≤ x1.toInt ∧ x1.toInt < (σ 10 1).toInt ∨ (0 : Int32).toInt = 0 ∧ ¬ (0 ≤ x1.toInt ∧ x1.toInt < (σ 10 1).toInt)) := by exact ⟨rfl, by first | (left; exact ⟨by decide, by omega⟩) | (right; exact ⟨by decide, by omega⟩)⟩
    exact W.zret (v := 0) hx hb hr (by decide +kernel) (fun t9 ht hW => ⟨⟨0, σ, rfl, hpost, by rw [ht]; exact hP, va_K.moved hW.alike hK, hD⟩, hS.F ht⟩) hS.2.2 dX4_hasCell_17
  · skip
    have ic1 := znlt (a := x1.toInt) (b := 0) rfl (by decide) c1
    refine lv_iload_n hx hb dX4_hasCell_4 rfl (lv_at hl 1 rfl) ?_
    refine lv_aload_n hx hb dX4_hasCell_5 rfl (lv_at hl 0 rfl) ?_
    refine va_get (D := (dC, dI)) (ci := 4) (v := .int (σ 10 1)) (C := RX4) (T := TX4) (N := 3) hx hb hts in4 hown hK hP 10 rfl rfl 1 (by decide) k19 (fun _ h9 => h9) rfl dX4_hasCell_6 ?_
    refine lv_icmp_ge (tgt := 16) hx hb dX4_hasCell_9 (by decide) (fun c9 => ?_) (fun c9 => ?_)
    · skip
      have ic9 := zle (a := (σ 10 1).toInt) (b := x1.toInt) rfl rfl c9
      refine lv_iconst (v := 0) hx hb dX4_hasCell_16 (by decide) ?_
      have hpost : σ = σ ∧ ((0 : Int32).toInt = 1 ∧ 0 ≤ x1.toInt ∧ x1.toInt < (σ 10 1).toInt ∨ (0 : Int32).toInt = 0 ∧ ¬ (0 ≤ x1.toInt ∧ x1.toInt < (σ 10 1).toInt)) := by exact ⟨rfl, by first | (left; exact ⟨by decide, by omega⟩) | (right; exact ⟨by decide, by omega⟩)⟩
      exact W.zret (v := 0) hx hb hr (by decide +kernel) (fun t9 ht hW => ⟨⟨0, σ, rfl, hpost, by rw [ht]; exact hP, va_K.moved hW.alike hK, hD⟩, hS.F ht⟩) hS.2.2 dX4_hasCell_17
    · skip
      have ic9 := znle (a := (σ 10 1).toInt) (b := x1.toInt) rfl rfl c9
      refine lv_iconst (v := 1) hx hb dX4_hasCell_12 (by decide) ?_
      refine lv_goto (tgt := 17) hx hb dX4_hasCell_13 (by decide) ?_
      have hpost : σ = σ ∧ ((1 : Int32).toInt = 1 ∧ 0 ≤ x1.toInt ∧ x1.toInt < (σ 10 1).toInt ∨ (1 : Int32).toInt = 0 ∧ ¬ (0 ≤ x1.toInt ∧ x1.toInt < (σ 10 1).toInt)) := by exact ⟨rfl, by first | (left; exact ⟨by decide, by omega⟩) | (right; exact ⟨by decide, by omega⟩)⟩
      exact W.zret (v := 1) hx hb hr (by decide +kernel) (fun t9 ht hW => ⟨⟨1, σ, rfl, hpost, by rw [ht]; exact hP, va_K.moved hW.alike hK, hD⟩, hS.F ht⟩) hS.2.2 dX4_hasCell_17

set_option maxHeartbeats 4000000 in
set_option maxRecDepth 100000 in
theorem c_X4_put_10 (l : Launch) (dC : Nat → ClassId) (dI : Nat → Nat → Nat) (cB cI cS cII : ClassId) (a : Nat → Nat) (N : (Nat → Prop) → State → Prop) (hok : zNok N) (hn : ∀ A U, N A U → zN U) (σ : Cn) (sz : Nat) (x1 : Int32) (x2 : Int32) (h1 : 0 ≤ x1.toInt ∧ x1.toInt < 60) : Met l yX4_put wsX4_put RM_X4_put (zPc (dC, dI) (zT cB cI cS cII) N (wX a cB cI cS cII) σ sz [.ref (a 10), .int x1, .int x2]) (zQv (dC, dI) (zT cB cI cS cII) (wX a cB cI cS cII) (va_A (wX a cB cI cS cII σ) sz) (fun (σ1 : Cn) => ∃ u40 : Nat → Int32, σ1 = (upC σ 40 u40) ∧ True)) 0 0 (va_A (wX a cB cI cS cII σ) sz) := by
  refine Met.ofW (cc := cX4_put) (maxL := 3) (ret := none) (by decide) rfl ?_
  intro p e s m args below meth c s₁ B hml hv
  obtain ⟨rfl, hsz, hP, hK, hD0, hN⟩ := hv
  have hx := B.exec
  have hb := B.bytes
  have hr := B.returns
  have hts := atoms_spec (ws := wsX4_put) B.pre
  have hown : s.vm.findClass RX4 = some m.cls := findClass_of_methodNamed B.named
  have hlocks := B.notSynchronized
  subst hsz
  have hD := hD0.self (sz := s.heap.size)
  generalize hAe : va_A (wX a cB cI cS cII σ) s.heap.size = A at hD hN ⊢
  have hA : ∀ q : Nat, s.heap.size ≤ q → A q := fun q h => by rw [← hAe]; exact Or.inr h
  clear hAe hD0
  have hS : va_S A s.heap s.heap [] := va_S.rf
  have in4 : ∀ w ∈ u_ws RX4 TX4 3, w ∈ wsX4_put := by decide +kernel
  have k15 := hts (.fieldLink RX4 15 "HouseSorted$Sheet" "cells" "[I") (by decide +kernel)
  have k9 := hts (.fieldLink RX4 9 "HouseSorted$Sheet" "lane" "I") (by decide +kernel)
  have hl := lv_entry ([.ref (a 10), .int x1, .int x2]) (n := 3) (Nat.le_of_ble_eq_true rfl)
  rw [lg_entry_eq]
  generalize (lg_sl ([.ref (a 10), .int x1, .int x2]) ++ List.replicate (3 - (lg_sl ([.ref (a 10), .int x1, .int x2])).length) Slot.unset).toArray = ls at hl ⊢
  have hl : lv_has ls 3 [(0, .ref (a 10)), (1, .int x1), (2, .int x2)] := hl
  suffices main : ∀ (H : Heap) (locs : List Loc), va_P (dC, dI) vwCl (wX a cB cI cS cII σ) H → va_D A (wX a cB cI cS cII σ) → va_S A s.heap H locs → W p l e (headSpec wsX4_put RM_X4_put).room s m ([.ref (a 10), .int x1, .int x2] : List Value).toArray below meth c H locs 0 0 (MQ below (zQv (dC, dI) (zT cB cI cS cII) (wX a cB cI cS cII) A (fun (σ1 : Cn) => ∃ u40 : Nat → Int32, σ1 = (upC σ 40 u40) ∧ True)) ([.ref (a 10), .int x1, .int x2] : List Value).toArray s 0 0 A) (F0 m 0 ls []) from main s.heap [] hP hD hS
  intro H locs hP hD hS
  refine lv_aload_n hx hb dX4_put_0 rfl (lv_at hl 0 rfl) ?_
  refine va_get (D := (dC, dI)) (ci := 4) (v := .ref (a 40)) (C := RX4) (T := TX4) (N := 3) hx hb hts in4 hown hK hP 10 rfl rfl 2 (by decide) k15 (fun _ h9 => h9) rfl dX4_put_1 ?_
  refine lv_iload_n hx hb dX4_put_4 rfl (lv_at hl 1 rfl) ?_
  refine lv_aload_n hx hb dX4_put_5 rfl (lv_at hl 0 rfl) ?_
  refine va_get (D := (dC, dI)) (ci := 4) (v := .int (σ 10 0)) (C := RX4) (T := TX4) (N := 3) hx hb hts in4 hown hK hP 10 rfl rfl 0 (by decide) k9 (fun _ h9 => h9) rfl dX4_put_6 ?_
  refine lv_if_ne (tgt := 17) hx hb dX4_put_9 (by decide) (fun c9 => ?_) (fun c9 => ?_)
  · skip
    have ic9 := zneq (a := (σ 10 0).toInt) (b := 0) rfl (by decide) c9
    refine lv_aload_n hx hb dX4_put_17 rfl (lv_at hl 0 rfl) ?_
    refine va_get (D := (dC, dI)) (ci := 4) (v := .int (σ 10 0)) (C := RX4) (T := TX4) (N := 3) hx hb hts in4 hown hK hP 10 rfl rfl 0 (by decide) k9 (fun _ h9 => h9) rfl dX4_put_18 ?_
    refine lv_iconst (v := 1) hx hb dX4_put_21 (by decide) ?_
    refine lv_icmp_ne (tgt := 30) hx hb dX4_put_22 (by decide) (fun c22 => ?_) (fun c22 => ?_)
    · skip
      have ic22 := zneq (a := (σ 10 0).toInt) (b := 1) rfl (by decide) c22
      refine lv_iload_n hx hb dX4_put_30 rfl (lv_at hl 2 rfl) ?_
      refine va_iast (D := (dC, dI)) (f := σ 40) hx hb hK hP hD hS 40 1 rfl rfl (i := x1) (n := 60) (zin (by omega) (by omega)) dX4_put_31 (fun H locs hP hD hS => ?_)
      have hP : va_P (dC, dI) vwCl (wX a cB cI cS cII (upC σ 40 (upd (σ 40) (x1).toNatClampNeg x2))) H := hP
      have hD : va_D A (wX a cB cI cS cII (upC σ 40 (upd (σ 40) (x1).toNatClampNeg x2))) := hD
      have hpost : ∃ u40 : Nat → Int32, (upC σ 40 (upd (σ 40) (x1).toNatClampNeg x2)) = (upC σ 40 u40) ∧ True := by exact ⟨_, rfl, trivial⟩
      exact W.vret hx hb hr (fun t9 ht hW => ⟨⟨(upC σ 40 (upd (σ 40) (x1).toNatClampNeg x2)), rfl, hpost, by rw [ht]; exact hP, va_K.moved hW.alike hK, hD⟩, hS.F ht⟩) hS.2.2 dX4_put_32
    · skip
      have ic22 := zeq (a := (σ 10 0).toInt) (b := 1) rfl (by decide) c22
      refine lv_iload_n hx hb dX4_put_25 rfl (lv_at hl 2 rfl) ?_
      refine lv_i2s hx hb dX4_put_26 rfl ?_
      refine lv_topi (fun v26 ev26 => ?_)
      refine lv_goto (tgt := 31) hx hb dX4_put_27 (by decide) ?_
      refine va_iast (D := (dC, dI)) (f := σ 40) hx hb hK hP hD hS 40 1 rfl rfl (i := x1) (n := 60) (zin (by omega) (by omega)) dX4_put_31 (fun H locs hP hD hS => ?_)
      have hP : va_P (dC, dI) vwCl (wX a cB cI cS cII (upC σ 40 (upd (σ 40) (x1).toNatClampNeg v26))) H := hP
      have hD : va_D A (wX a cB cI cS cII (upC σ 40 (upd (σ 40) (x1).toNatClampNeg v26))) := hD
      have hpost : ∃ u40 : Nat → Int32, (upC σ 40 (upd (σ 40) (x1).toNatClampNeg v26)) = (upC σ 40 u40) ∧ True := by exact ⟨_, rfl, trivial⟩
      exact W.vret hx hb hr (fun t9 ht hW => ⟨⟨(upC σ 40 (upd (σ 40) (x1).toNatClampNeg v26)), rfl, hpost, by rw [ht]; exact hP, va_K.moved hW.alike hK, hD⟩, hS.F ht⟩) hS.2.2 dX4_put_32
  · skip
    have ic9 := zeq (a := (σ 10 0).toInt) (b := 0) rfl (by decide) c9
    refine lv_iload_n hx hb dX4_put_12 rfl (lv_at hl 2 rfl) ?_
    refine lv_i2b hx hb dX4_put_13 rfl ?_
    refine lv_topi (fun v13 ev13 => ?_)
    refine lv_goto (tgt := 31) hx hb dX4_put_14 (by decide) ?_
    refine va_iast (D := (dC, dI)) (f := σ 40) hx hb hK hP hD hS 40 1 rfl rfl (i := x1) (n := 60) (zin (by omega) (by omega)) dX4_put_31 (fun H locs hP hD hS => ?_)
    have hP : va_P (dC, dI) vwCl (wX a cB cI cS cII (upC σ 40 (upd (σ 40) (x1).toNatClampNeg v13))) H := hP
    have hD : va_D A (wX a cB cI cS cII (upC σ 40 (upd (σ 40) (x1).toNatClampNeg v13))) := hD
    have hpost : ∃ u40 : Nat → Int32, (upC σ 40 (upd (σ 40) (x1).toNatClampNeg v13)) = (upC σ 40 u40) ∧ True := by exact ⟨_, rfl, trivial⟩
    exact W.vret hx hb hr (fun t9 ht hW => ⟨⟨(upC σ 40 (upd (σ 40) (x1).toNatClampNeg v13)), rfl, hpost, by rw [ht]; exact hP, va_K.moved hW.alike hK, hD⟩, hS.F ht⟩) hS.2.2 dX4_put_32

set_option maxHeartbeats 4000000 in
set_option maxRecDepth 100000 in
theorem c_X4_refusal_10 (l : Launch) (dC : Nat → ClassId) (dI : Nat → Nat → Nat) (cB cI cS cII : ClassId) (a : Nat → Nat) (N : (Nat → Prop) → State → Prop) (hok : zNok N) (hn : ∀ A U, N A U → zN U) (σ : Cn) (sz : Nat) (x1 : Int32) (x2 : Int32) (x3 : Int32) (h1 : 0 ≤ (σ 10 1).toInt ∧ (σ 10 1).toInt ≤ 60) (h3 : 0 ≤ x3.toInt ∧ x3.toInt ≤ 10) : Met l yX4_refusal wsX4_refusal RM_X4_refusal (zPc (dC, dI) (zT cB cI cS cII) N (wX a cB cI cS cII) σ sz [.ref (a 10), .int x1, .int x2, .int x3]) (zQi (dC, dI) (zT cB cI cS cII) (wX a cB cI cS cII) (va_A (wX a cB cI cS cII σ) sz) (fun (r : Int32) (σ1 : Cn) => σ1 = σ ∧ ((r : Int32).toInt = 0 → ∀ t : Nat, (t : Int) < x3.toInt → 0 ≤ x2.toInt + t ∧ x2.toInt + t < 60))) 0 0 (va_A (wX a cB cI cS cII σ) sz) := by
  refine Met.ofW (cc := cX4_refusal) (maxL := 5) (ret := (some .int)) (by decide) rfl ?_
  intro p e s m args below meth c s₁ B hml hv
  obtain ⟨rfl, hsz, hP, hK, hD0, hN⟩ := hv
  have hx := B.exec
  have hb := B.bytes
  have hr := B.returns
  have hts := atoms_spec (ws := wsX4_refusal) B.pre
  have hown : s.vm.findClass RX4 = some m.cls := findClass_of_methodNamed B.named
  have hlocks := B.notSynchronized
  subst hsz
  have hD := hD0.self (sz := s.heap.size)
  generalize hAe : va_A (wX a cB cI cS cII σ) s.heap.size = A at hD hN ⊢
  have hA : ∀ q : Nat, s.heap.size ≤ q → A q := fun q h => by rw [← hAe]; exact Or.inr h
  clear hAe hD0
  have hS : va_S A s.heap s.heap [] := va_S.rf
  have in4 : ∀ w ∈ u_ws RX4 TX4 3, w ∈ wsX4_refusal := by decide +kernel
  have k15 := hts (.fieldLink RX4 15 "HouseSorted$Sheet" "cells" "[I") (by decide +kernel)
  have k9 := hts (.fieldLink RX4 9 "HouseSorted$Sheet" "lane" "I") (by decide +kernel)
  have kin8 := hts (.initialized RX8) (by decide +kernel)
  have kst := hts (.static yX8_isWithin) (by decide +kernel)
  have LP : ∀ n : Nat, (∀ (j : Int32) (H : Heap) (locs : List Loc) (ls : Array Slot), 0 ≤ j.toInt ∧ j.toInt ≤ 10 → (∀ t : Nat, (t : Int) < j.toInt → 0 ≤ x2.toInt + t ∧ x2.toInt + t < 60) → (10 - j.toInt).toNat < n → va_P (dC, dI) vwCl (wX a cB cI cS cII σ) H → va_D A (wX a cB cI cS cII σ) → va_S A s.heap H locs → lv_has ls 5 [(0, .ref (a 10)), (1, .int x1), (2, .int x2), (3, .int x3), (4, .int j)] → W p l e (headSpec wsX4_refusal RM_X4_refusal).room s m ([.ref (a 10), .int x1, .int x2, .int x3] : List Value).toArray below meth c H locs 0 0 (MQ below (zQi (dC, dI) (zT cB cI cS cII) (wX a cB cI cS cII) A (fun (r : Int32) (σ1 : Cn) => σ1 = σ ∧ ((r : Int32).toInt = 0 → ∀ t : Nat, (t : Int) < x3.toInt → 0 ≤ x2.toInt + t ∧ x2.toInt + t < 60))) ([.ref (a 10), .int x1, .int x2, .int x3] : List Value).toArray s 0 0 A) (F0 m 25 ls [])) := by
    intro n
    induction n with
    | zero => exact by intros; omega
    | succ n ih =>
      · intro j H locs ls g1 g2 hmu hP hD hS hl
        refine lv_iload hx hb dX4_refusal_25 (lv_at hl 4 rfl) ?_
        refine lv_iload_n hx hb dX4_refusal_27 rfl (lv_at hl 3 rfl) ?_
        refine lv_icmp_ge (tgt := 75) hx hb dX4_refusal_28 (by decide) (fun c28 => ?_) (fun c28 => ?_)
        · skip
          have ic28 := zle (a := x3.toInt) (b := j.toInt) rfl rfl c28
          refine lv_iconst (v := 0) hx hb dX4_refusal_75 (by decide) ?_
          have hpost : σ = σ ∧ ((0 : Int32).toInt = 0 → ∀ t : Nat, (t : Int) < x3.toInt → 0 ≤ x2.toInt + t ∧ x2.toInt + t < 60) := by exact ⟨rfl, fun _ t ht => g2 t (by omega)⟩
          exact W.iret (v := 0) hx hb hr (fun t9 ht hW => ⟨⟨0, σ, rfl, hpost, by rw [ht]; exact hP, va_K.moved hW.alike hK, hD⟩, hS.F ht⟩) hS.2.2 dX4_refusal_76
        · skip
          have ic28 := znle (a := x3.toInt) (b := j.toInt) rfl rfl c28
          refine lv_aload_n hx hb dX4_refusal_31 rfl (lv_at hl 0 rfl) ?_
          refine lv_iload_n hx hb dX4_refusal_32 rfl (lv_at hl 2 rfl) ?_
          refine lv_iload hx hb dX4_refusal_33 (lv_at hl 4 rfl) ?_
          refine lv_iadd hx hb dX4_refusal_35 ?_
          refine lv_topi (fun v35 ev35 => ?_)
          have tv35 : v35.toInt = (x2.toInt + j.toInt + 2147483648) % 4294967296 - 2147483648 := by rw [ev35, zadd]
          refine zcalli (va_runV (As := [.int v35]) (rest := []) ⟨hx, hb, hml, hown, hts⟩ (c_X4_hasCell_10 l dC dI cB cI cS cII a N hok hn σ H.size (v35) ) (cwV 1 hts gX4_refusal_X4_hasCell rfl rfl rfl (by decide +kernel) ⟨Nat.le_of_ble_eq_true rfl, Nat.le_of_ble_eq_true rfl⟩) (zpreV (wf := wX a cB cI cS cII) (q0 := 10) (ci := 4) hok hN hS hA hK hP hD rfl rfl) rfl rfl hl.1 rfl (lv_room (Nat.le_of_ble_eq_true rfl)) dX4_refusal_36 ⟨Nat.zero_le _, Nat.zero_le _⟩) hD hS hA (fun v36 σ1 H locs hv36 hP hD hS => ?_)
          obtain ⟨es9, hv36⟩ := hv36
          subst σ1
          refine lv_if_ne (tgt := 45) hx hb dX4_refusal_39 (by decide) (fun c39 => ?_) (fun c39 => ?_)
          · skip
            have ic39 := zneq (a := v36.toInt) (b := 0) rfl (by decide) c39
            refine lv_aload_n hx hb dX4_refusal_45 rfl (lv_at hl 0 rfl) ?_
            refine va_get (D := (dC, dI)) (ci := 4) (v := .ref (a 40)) (C := RX4) (T := TX4) (N := 3) hx hb hts in4 hown hK hP 10 rfl rfl 2 (by decide) k15 (fun _ h9 => h9) rfl dX4_refusal_46 ?_
            refine lv_iload_n hx hb dX4_refusal_49 rfl (lv_at hl 2 rfl) ?_
            refine lv_iload hx hb dX4_refusal_50 (lv_at hl 4 rfl) ?_
            refine lv_iadd hx hb dX4_refusal_52 ?_
            refine lv_topi (fun v52 ev52 => ?_)
            have tv52 : v52.toInt = (x2.toInt + j.toInt + 2147483648) % 4294967296 - 2147483648 := by rw [ev52, zadd]
            refine va_iald (D := (dC, dI)) (f := σ 40) hx hb hK hP 40 1 rfl rfl (i := v52) (n := 60) (zin (by omega) (by omega)) dX4_refusal_53 ?_
            refine lv_topi (fun v53 ev53 => ?_)
            have tv53 := congrArg Int32.toInt ev53
            refine lv_iconst (v := 0) hx hb dX4_refusal_54 (by decide) ?_
            refine lv_bipush (v := 100) hx hb dX4_refusal_55 (by decide) ?_
            refine zcalli (va_runSN (As := [.int v53, .int 0, .int 100]) (rest := []) ⟨hx, hb, hml, hown, hts⟩ (c_X8_isWithin l dC dI cB cI cS cII a N hok hn σ H.size (v53) (0) (100) ) ⟨va_cnB (host := RX8) 3 hts ggX4_refusal_X8_isWithin rfl rfl rfl (hn _ _ hN (.methodLinkNest RX4 26 yX8_isWithin RX8) (by decide)) kin8 (by decide +kernel) ⟨Nat.le_of_ble_eq_true rfl, Nat.le_of_ble_eq_true rfl⟩, kst, trivial⟩ (zpreS (wf := wX a cB cI cS cII) hok hN hS hA hK hP hD) rfl rfl hl.1 rfl (lv_room (Nat.le_of_ble_eq_true rfl)) dX4_refusal_57 ⟨Nat.zero_le _, Nat.zero_le _⟩) hD hS hA (fun v57 σ1 H locs hv57 hP hD hS => ?_)
            obtain ⟨es9, hv57⟩ := hv57
            subst σ1
            try simp only [show (0 : Int32).toInt = 0 from by decide, show (100 : Int32).toInt = 100 from by decide] at hv57
            refine lv_if_ne (tgt := 69) hx hb dX4_refusal_60 (by decide) (fun c60 => ?_) (fun c60 => ?_)
            · skip
              have ic60 := zneq (a := v57.toInt) (b := 0) rfl (by decide) c60
              obtain ⟨v69, ev69⟩ : ∃ y : Int32, y = j + 1 := ⟨_, rfl⟩
              refine lv_iinc (v := v69) (lv' := [(4, .int v69), (0, .ref (a 10)), (1, .int x1), (2, .int x2), (3, .int x3)]) hx hb dX4_refusal_69 hl (k := 4) rfl (by rw [ev69]; rfl) (by decide) rfl (fun ls hl => ?_)
              have tv69 : v69.toInt = j.toInt + 1 := by rw [ev69, zadd, show (1 : Int32).toInt = 1 from by decide]; omega
              refine lv_goto (tgt := 25) hx hb dX4_refusal_72 (by decide) ?_
              exact ih (v69)  H locs ls (by omega) (by intro t ht; rcases (show (t : Int) < j.toInt ∨ (t : Int) = j.toInt from by omega) with q9 | q9; exact g2 t q9; have r2 := zrng x2; omega) (by omega) hP hD hS (lv_sub hl [1, 2, 3, 4, 0] rfl)
            · skip
              have ic60 := zeq (a := v57.toInt) (b := 0) rfl (by decide) c60
              refine lv_bipush (v := (-20)) hx hb dX4_refusal_63 (by decide) ?_
              refine lv_iload hx hb dX4_refusal_65 (lv_at hl 4 rfl) ?_
              refine lv_isub hx hb dX4_refusal_67 ?_
              refine lv_topi (fun v67 ev67 => ?_)
              have tv67 : v67.toInt = (-20) - j.toInt := by rw [ev67, zsub, show ((-20) : Int32).toInt = (-20) from by decide]; omega
              have hpost : σ = σ ∧ ((v67 : Int32).toInt = 0 → ∀ t : Nat, (t : Int) < x3.toInt → 0 ≤ x2.toInt + t ∧ x2.toInt + t < 60) := by exact ⟨rfl, fun q9 => by omega⟩
              exact W.iret (v := v67) hx hb hr (fun t9 ht hW => ⟨⟨v67, σ, rfl, hpost, by rw [ht]; exact hP, va_K.moved hW.alike hK, hD⟩, hS.F ht⟩) hS.2.2 dX4_refusal_68
          · skip
            have ic39 := zeq (a := v36.toInt) (b := 0) rfl (by decide) c39
            refine lv_bipush (v := (-12)) hx hb dX4_refusal_42 (by decide) ?_
            have hpost : σ = σ ∧ (((-12) : Int32).toInt = 0 → ∀ t : Nat, (t : Int) < x3.toInt → 0 ≤ x2.toInt + t ∧ x2.toInt + t < 60) := by exact ⟨rfl, fun q9 => absurd q9 (by decide)⟩
            exact W.iret (v := (-12)) hx hb hr (fun t9 ht hW => ⟨⟨(-12), σ, rfl, hpost, by rw [ht]; exact hP, va_K.moved hW.alike hK, hD⟩, hS.F ht⟩) hS.2.2 dX4_refusal_44
  have hl := lv_entry ([.ref (a 10), .int x1, .int x2, .int x3]) (n := 5) (Nat.le_of_ble_eq_true rfl)
  rw [lg_entry_eq]
  generalize (lg_sl ([.ref (a 10), .int x1, .int x2, .int x3]) ++ List.replicate (5 - (lg_sl ([.ref (a 10), .int x1, .int x2, .int x3])).length) Slot.unset).toArray = ls at hl ⊢
  have hl : lv_has ls 5 [(0, .ref (a 10)), (1, .int x1), (2, .int x2), (3, .int x3)] := hl
  suffices main : ∀ (H : Heap) (locs : List Loc), va_P (dC, dI) vwCl (wX a cB cI cS cII σ) H → va_D A (wX a cB cI cS cII σ) → va_S A s.heap H locs → W p l e (headSpec wsX4_refusal RM_X4_refusal).room s m ([.ref (a 10), .int x1, .int x2, .int x3] : List Value).toArray below meth c H locs 0 0 (MQ below (zQi (dC, dI) (zT cB cI cS cII) (wX a cB cI cS cII) A (fun (r : Int32) (σ1 : Cn) => σ1 = σ ∧ ((r : Int32).toInt = 0 → ∀ t : Nat, (t : Int) < x3.toInt → 0 ≤ x2.toInt + t ∧ x2.toInt + t < 60))) ([.ref (a 10), .int x1, .int x2, .int x3] : List Value).toArray s 0 0 A) (F0 m 0 ls []) from main s.heap [] hP hD hS
  intro H locs hP hD hS
  refine lv_aload_n hx hb dX4_refusal_0 rfl (lv_at hl 0 rfl) ?_
  refine va_get (D := (dC, dI)) (ci := 4) (v := .int (σ 10 0)) (C := RX4) (T := TX4) (N := 3) hx hb hts in4 hown hK hP 10 rfl rfl 0 (by decide) k9 (fun _ h9 => h9) rfl dX4_refusal_1 ?_
  refine lv_iconst (v := (-1)) hx hb dX4_refusal_4 (by decide) ?_
  refine lv_icmp_ne (tgt := 11) hx hb dX4_refusal_5 (by decide) (fun c5 => ?_) (fun c5 => ?_)
  · skip
    have ic5 := zneq (a := (σ 10 0).toInt) (b := (-1)) rfl (by decide) c5
    refine lv_aload_n hx hb dX4_refusal_11 rfl (lv_at hl 0 rfl) ?_
    refine va_get (D := (dC, dI)) (ci := 4) (v := .int (σ 10 0)) (C := RX4) (T := TX4) (N := 3) hx hb hts in4 hown hK hP 10 rfl rfl 0 (by decide) k9 (fun _ h9 => h9) rfl dX4_refusal_12 ?_
    refine lv_iload_n hx hb dX4_refusal_15 rfl (lv_at hl 1 rfl) ?_
    refine lv_icmp_eq (tgt := 22) hx hb dX4_refusal_16 (by decide) (fun c16 => ?_) (fun c16 => ?_)
    · skip
      have ic16 := zeq (a := (σ 10 0).toInt) (b := x1.toInt) rfl rfl c16
      refine lv_iconst (v := 0) hx hb dX4_refusal_22 (by decide) ?_
      refine lv_istore (lv' := [(4, .int 0), (0, .ref (a 10)), (1, .int x1), (2, .int x2), (3, .int x3)]) hx hb dX4_refusal_23 hl (by decide) rfl (fun ls hl => ?_)
      exact (LP _) (0)  H locs ls (by decide) (by intro t ht; rw [show (0 : Int32).toInt = 0 from by decide] at ht; omega) (Nat.lt_succ_self _) hP hD hS (lv_sub hl [1, 2, 3, 4, 0] rfl)
    · skip
      have ic16 := zneq (a := (σ 10 0).toInt) (b := x1.toInt) rfl rfl c16
      refine lv_bipush (v := (-13)) hx hb dX4_refusal_19 (by decide) ?_
      have hpost : σ = σ ∧ (((-13) : Int32).toInt = 0 → ∀ t : Nat, (t : Int) < x3.toInt → 0 ≤ x2.toInt + t ∧ x2.toInt + t < 60) := by exact ⟨rfl, fun q9 => absurd q9 (by decide)⟩
      exact W.iret (v := (-13)) hx hb hr (fun t9 ht hW => ⟨⟨(-13), σ, rfl, hpost, by rw [ht]; exact hP, va_K.moved hW.alike hK, hD⟩, hS.F ht⟩) hS.2.2 dX4_refusal_21
  · skip
    have ic5 := zeq (a := (σ 10 0).toInt) (b := (-1)) rfl (by decide) c5
    refine lv_bipush (v := (-11)) hx hb dX4_refusal_8 (by decide) ?_
    have hpost : σ = σ ∧ (((-11) : Int32).toInt = 0 → ∀ t : Nat, (t : Int) < x3.toInt → 0 ≤ x2.toInt + t ∧ x2.toInt + t < 60) := by exact ⟨rfl, fun q9 => absurd q9 (by decide)⟩
    exact W.iret (v := (-11)) hx hb hr (fun t9 ht hW => ⟨⟨(-11), σ, rfl, hpost, by rw [ht]; exact hP, va_K.moved hW.alike hK, hD⟩, hS.F ht⟩) hS.2.2 dX4_refusal_10

set_option maxHeartbeats 4000000 in
set_option maxRecDepth 100000 in
theorem c_X4_renew_11 (l : Launch) (dC : Nat → ClassId) (dI : Nat → Nat → Nat) (cB cI cS cII : ClassId) (a : Nat → Nat) (N : (Nat → Prop) → State → Prop) (hok : zNok N) (hn : ∀ A U, N A U → zN U) (σ : Cn) (sz : Nat) (x1 : Int32) (x2 : Int32)  : Met l yX4_renew wsX4_renew RM_X4_renew (zPc (dC, dI) (zT cB cI cS cII) N (wX a cB cI cS cII) σ sz [.ref (a 11), .int x1, .int x2]) (zQv (dC, dI) (zT cB cI cS cII) (wX a cB cI cS cII) (va_A (wX a cB cI cS cII σ) sz) (fun (σ1 : Cn) => ∃ u11 : Nat → Int32, ∃ u41 : Nat → Int32, σ1 = (upC (upC σ 11 u11) 41 u41) ∧ u11 0 = x1 ∧ u11 1 = x2)) 0 0 (va_A (wX a cB cI cS cII σ) sz) := by
  refine Met.ofW (cc := cX4_renew) (maxL := 4) (ret := none) (by decide) rfl ?_
  intro p e s m args below meth c s₁ B hml hv
  obtain ⟨rfl, hsz, hP, hK, hD0, hN⟩ := hv
  have hx := B.exec
  have hb := B.bytes
  have hr := B.returns
  have hts := atoms_spec (ws := wsX4_renew) B.pre
  have hown : s.vm.findClass RX4 = some m.cls := findClass_of_methodNamed B.named
  have hlocks := B.notSynchronized
  subst hsz
  have hD := hD0.self (sz := s.heap.size)
  generalize hAe : va_A (wX a cB cI cS cII σ) s.heap.size = A at hD hN ⊢
  have hA : ∀ q : Nat, s.heap.size ≤ q → A q := fun q h => by rw [← hAe]; exact Or.inr h
  clear hAe hD0
  have hS : va_S A s.heap s.heap [] := va_S.rf
  have in4 : ∀ w ∈ u_ws RX4 TX4 3, w ∈ wsX4_renew := by decide +kernel
  have k15 := hts (.fieldLink RX4 15 "HouseSorted$Sheet" "cells" "[I") (by decide +kernel)
  have k19 := hts (.fieldLink RX4 19 "HouseSorted$Sheet" "size" "I") (by decide +kernel)
  have k9 := hts (.fieldLink RX4 9 "HouseSorted$Sheet" "lane" "I") (by decide +kernel)
  have LP : ∀ n : Nat, (∀ (j : Int32) (w11 : Nat → Int32) (w41 : Nat → Int32) (H : Heap) (locs : List Loc) (ls : Array Slot), 0 ≤ j.toInt ∧ j.toInt ≤ 60 → w11 0 = x1 ∧ w11 1 = x2 → (60 - j.toInt).toNat < n → va_P (dC, dI) vwCl (wX a cB cI cS cII (upC (upC σ 11 w11) 41 w41)) H → va_D A (wX a cB cI cS cII (upC (upC σ 11 w11) 41 w41)) → va_S A s.heap H locs → lv_has ls 4 [(0, .ref (a 11)), (3, .int j)] → W p l e (headSpec wsX4_renew RM_X4_renew).room s m ([.ref (a 11), .int x1, .int x2] : List Value).toArray below meth c H locs 0 0 (MQ below (zQv (dC, dI) (zT cB cI cS cII) (wX a cB cI cS cII) A (fun (σ1 : Cn) => ∃ u11 : Nat → Int32, ∃ u41 : Nat → Int32, σ1 = (upC (upC σ 11 u11) 41 u41) ∧ u11 0 = x1 ∧ u11 1 = x2)) ([.ref (a 11), .int x1, .int x2] : List Value).toArray s 0 0 A) (F0 m 12 ls [])) := by
    intro n
    induction n with
    | zero => exact by intros; omega
    | succ n ih =>
      · intro j w11 w41 H locs ls g1 g2 hmu hP hD hS hl
        refine lv_iload_n hx hb dX4_renew_12 rfl (lv_at hl 1 rfl) ?_
        refine lv_bipush (v := 60) hx hb dX4_renew_13 (by decide) ?_
        refine lv_icmp_ge (tgt := 31) hx hb dX4_renew_15 (by decide) (fun c15 => ?_) (fun c15 => ?_)
        · skip
          have ic15 := zle (a := 60) (b := j.toInt) (by decide) rfl c15
          have hpost : ∃ u11 : Nat → Int32, ∃ u41 : Nat → Int32, (upC (upC σ 11 w11) 41 w41) = (upC (upC σ 11 u11) 41 u41) ∧ u11 0 = x1 ∧ u11 1 = x2 := by exact ⟨_, _, rfl, g2⟩
          exact W.vret hx hb hr (fun t9 ht hW => ⟨⟨(upC (upC σ 11 w11) 41 w41), rfl, hpost, by rw [ht]; exact hP, va_K.moved hW.alike hK, hD⟩, hS.F ht⟩) hS.2.2 dX4_renew_31
        · skip
          have ic15 := znle (a := 60) (b := j.toInt) (by decide) rfl c15
          refine lv_aload_n hx hb dX4_renew_18 rfl (lv_at hl 0 rfl) ?_
          refine va_get (D := (dC, dI)) (ci := 4) (v := .ref (a 41)) (C := RX4) (T := TX4) (N := 3) hx hb hts in4 hown hK hP 11 rfl rfl 2 (by decide) k15 (fun _ h9 => h9) rfl dX4_renew_19 ?_
          refine lv_iload_n hx hb dX4_renew_22 rfl (lv_at hl 1 rfl) ?_
          refine lv_iconst (v := 0) hx hb dX4_renew_23 (by decide) ?_
          refine va_iast (D := (dC, dI)) (f := w41) hx hb hK hP hD hS 41 1 rfl rfl (i := j) (n := 60) (zin (by omega) (by omega)) dX4_renew_24 (fun H locs hP hD hS => ?_)
          have hP : va_P (dC, dI) vwCl (wX a cB cI cS cII (upC (upC σ 11 w11) 41 (upd (w41) (j).toNatClampNeg 0))) H := hP
          have hD : va_D A (wX a cB cI cS cII (upC (upC σ 11 w11) 41 (upd (w41) (j).toNatClampNeg 0))) := hD
          obtain ⟨v25, ev25⟩ : ∃ y : Int32, y = j + 1 := ⟨_, rfl⟩
          refine lv_iinc (v := v25) (lv' := [(3, .int v25), (0, .ref (a 11))]) hx hb dX4_renew_25 hl (k := 1) rfl (by rw [ev25]; rfl) (by decide) rfl (fun ls hl => ?_)
          have tv25 : v25.toInt = j.toInt + 1 := by rw [ev25, zadd, show (1 : Int32).toInt = 1 from by decide]; omega
          refine lv_goto (tgt := 12) hx hb dX4_renew_28 (by decide) ?_
          exact ih (v25) (w11) (upd (w41) (j).toNatClampNeg 0) H locs ls (by omega) (g2) (by omega) hP hD hS (lv_sub hl [1, 0] rfl)
  have hl := lv_entry ([.ref (a 11), .int x1, .int x2]) (n := 4) (Nat.le_of_ble_eq_true rfl)
  rw [lg_entry_eq]
  generalize (lg_sl ([.ref (a 11), .int x1, .int x2]) ++ List.replicate (4 - (lg_sl ([.ref (a 11), .int x1, .int x2])).length) Slot.unset).toArray = ls at hl ⊢
  have hl : lv_has ls 4 [(0, .ref (a 11)), (1, .int x1), (2, .int x2)] := hl
  suffices main : ∀ (H : Heap) (locs : List Loc), va_P (dC, dI) vwCl (wX a cB cI cS cII σ) H → va_D A (wX a cB cI cS cII σ) → va_S A s.heap H locs → W p l e (headSpec wsX4_renew RM_X4_renew).room s m ([.ref (a 11), .int x1, .int x2] : List Value).toArray below meth c H locs 0 0 (MQ below (zQv (dC, dI) (zT cB cI cS cII) (wX a cB cI cS cII) A (fun (σ1 : Cn) => ∃ u11 : Nat → Int32, ∃ u41 : Nat → Int32, σ1 = (upC (upC σ 11 u11) 41 u41) ∧ u11 0 = x1 ∧ u11 1 = x2)) ([.ref (a 11), .int x1, .int x2] : List Value).toArray s 0 0 A) (F0 m 0 ls []) from main s.heap [] hP hD hS
  intro H locs hP hD hS
  refine lv_aload_n hx hb dX4_renew_0 rfl (lv_at hl 0 rfl) ?_
  refine lv_iload_n hx hb dX4_renew_1 rfl (lv_at hl 1 rfl) ?_
  refine va_put (D := (dC, dI)) (ci := 4) (v := .int x1) (ty := .int) (C := RX4) (T := TX4) (N := 3) hx hb hts in4 tyX4 tyX4_ok nmX4 hown hK hP hD hS 11 rfl rfl 0 (by decide) k9 (fun _ h9 => h9) rfl (by decide +kernel) rfl rfl (Nat.le_of_ble_eq_true rfl) dX4_renew_2 (fun H locs hP hD hS => ?_)
  have hP : va_P (dC, dI) vwCl (wX a cB cI cS cII (upC σ 11 (upd (σ 11) 0 x1))) H := hP
  have hD : va_D A (wX a cB cI cS cII (upC σ 11 (upd (σ 11) 0 x1))) := hD
  refine lv_aload_n hx hb dX4_renew_5 rfl (lv_at hl 0 rfl) ?_
  refine lv_iload_n hx hb dX4_renew_6 rfl (lv_at hl 2 rfl) ?_
  refine va_put (D := (dC, dI)) (ci := 4) (v := .int x2) (ty := .int) (C := RX4) (T := TX4) (N := 3) hx hb hts in4 tyX4 tyX4_ok nmX4 hown hK hP hD hS 11 rfl rfl 1 (by decide) k19 (fun _ h9 => h9) rfl (by decide +kernel) rfl rfl (Nat.le_of_ble_eq_true rfl) dX4_renew_7 (fun H locs hP hD hS => ?_)
  have hP : va_P (dC, dI) vwCl (wX a cB cI cS cII (upC σ 11 (upd (upd (σ 11) 0 x1) 1 x2))) H := hP
  have hD : va_D A (wX a cB cI cS cII (upC σ 11 (upd (upd (σ 11) 0 x1) 1 x2))) := hD
  refine lv_iconst (v := 0) hx hb dX4_renew_10 (by decide) ?_
  refine lv_istore_n (lv' := [(3, .int 0), (0, .ref (a 11)), (1, .int x1), (2, .int x2)]) hx hb dX4_renew_11 rfl hl (by decide) rfl (fun ls hl => ?_)
  exact (LP _) (0) (upd (upd (σ 11) 0 x1) 1 x2) (σ 41) H locs ls (by decide) (⟨rfl, rfl⟩) (Nat.lt_succ_self _) hP hD hS (lv_sub hl [1, 0] rfl)

set_option maxHeartbeats 4000000 in
set_option maxRecDepth 100000 in
theorem c_X4_hasCell_11 (l : Launch) (dC : Nat → ClassId) (dI : Nat → Nat → Nat) (cB cI cS cII : ClassId) (a : Nat → Nat) (N : (Nat → Prop) → State → Prop) (hok : zNok N) (hn : ∀ A U, N A U → zN U) (σ : Cn) (sz : Nat) (x1 : Int32)  : Met l yX4_hasCell wsX4_hasCell RM_X4_hasCell (zPc (dC, dI) (zT cB cI cS cII) N (wX a cB cI cS cII) σ sz [.ref (a 11), .int x1]) (zQi (dC, dI) (zT cB cI cS cII) (wX a cB cI cS cII) (va_A (wX a cB cI cS cII σ) sz) (fun (r : Int32) (σ1 : Cn) => σ1 = σ ∧ ((r : Int32).toInt = 1 ∧ 0 ≤ x1.toInt ∧ x1.toInt < (σ 11 1).toInt ∨ (r : Int32).toInt = 0 ∧ ¬ (0 ≤ x1.toInt ∧ x1.toInt < (σ 11 1).toInt)))) 0 0 (va_A (wX a cB cI cS cII σ) sz) := by
  refine Met.ofW (cc := cX4_hasCell) (maxL := 2) (ret := (some .boolean)) (by decide) rfl ?_
  intro p e s m args below meth c s₁ B hml hv
  obtain ⟨rfl, hsz, hP, hK, hD0, hN⟩ := hv
  have hx := B.exec
  have hb := B.bytes
  have hr := B.returns
  have hts := atoms_spec (ws := wsX4_hasCell) B.pre
  have hown : s.vm.findClass RX4 = some m.cls := findClass_of_methodNamed B.named
  have hlocks := B.notSynchronized
  subst hsz
  have hD := hD0.self (sz := s.heap.size)
  generalize hAe : va_A (wX a cB cI cS cII σ) s.heap.size = A at hD hN ⊢
  have hA : ∀ q : Nat, s.heap.size ≤ q → A q := fun q h => by rw [← hAe]; exact Or.inr h
  clear hAe hD0
  have hS : va_S A s.heap s.heap [] := va_S.rf
  have in4 : ∀ w ∈ u_ws RX4 TX4 3, w ∈ wsX4_hasCell := by decide +kernel
  have k19 := hts (.fieldLink RX4 19 "HouseSorted$Sheet" "size" "I") (by decide +kernel)
  have hl := lv_entry ([.ref (a 11), .int x1]) (n := 2) (Nat.le_of_ble_eq_true rfl)
  rw [lg_entry_eq]
  generalize (lg_sl ([.ref (a 11), .int x1]) ++ List.replicate (2 - (lg_sl ([.ref (a 11), .int x1])).length) Slot.unset).toArray = ls at hl ⊢
  have hl : lv_has ls 2 [(0, .ref (a 11)), (1, .int x1)] := hl
  suffices main : ∀ (H : Heap) (locs : List Loc), va_P (dC, dI) vwCl (wX a cB cI cS cII σ) H → va_D A (wX a cB cI cS cII σ) → va_S A s.heap H locs → W p l e (headSpec wsX4_hasCell RM_X4_hasCell).room s m ([.ref (a 11), .int x1] : List Value).toArray below meth c H locs 0 0 (MQ below (zQi (dC, dI) (zT cB cI cS cII) (wX a cB cI cS cII) A (fun (r : Int32) (σ1 : Cn) => σ1 = σ ∧ ((r : Int32).toInt = 1 ∧ 0 ≤ x1.toInt ∧ x1.toInt < (σ 11 1).toInt ∨ (r : Int32).toInt = 0 ∧ ¬ (0 ≤ x1.toInt ∧ x1.toInt < (σ 11 1).toInt)))) ([.ref (a 11), .int x1] : List Value).toArray s 0 0 A) (F0 m 0 ls []) from main s.heap [] hP hD hS
  intro H locs hP hD hS
  refine lv_iload_n hx hb dX4_hasCell_0 rfl (lv_at hl 1 rfl) ?_
  refine lv_if_lt (tgt := 16) hx hb dX4_hasCell_1 (by decide) (fun c1 => ?_) (fun c1 => ?_)
  · skip
    have ic1 := zlt (a := x1.toInt) (b := 0) rfl (by decide) c1
    refine lv_iconst (v := 0) hx hb dX4_hasCell_16 (by decide) ?_
    have hpost : σ = σ ∧ ((0 : Int32).toInt = 1 ∧ 0 ≤ x1.toInt ∧ x1.toInt < (σ 11 1).toInt ∨ (0 : Int32).toInt = 0 ∧ ¬ (0 ≤ x1.toInt ∧ x1.toInt < (σ 11 1).toInt)) := by exact ⟨rfl, by first | (left; exact ⟨by decide, by omega⟩) | (right; exact ⟨by decide, by omega⟩)⟩
    exact W.zret (v := 0) hx hb hr (by decide +kernel) (fun t9 ht hW => ⟨⟨0, σ, rfl, hpost, by rw [ht]; exact hP, va_K.moved hW.alike hK, hD⟩, hS.F ht⟩) hS.2.2 dX4_hasCell_17
  · skip
    have ic1 := znlt (a := x1.toInt) (b := 0) rfl (by decide) c1
    refine lv_iload_n hx hb dX4_hasCell_4 rfl (lv_at hl 1 rfl) ?_
    refine lv_aload_n hx hb dX4_hasCell_5 rfl (lv_at hl 0 rfl) ?_
    refine va_get (D := (dC, dI)) (ci := 4) (v := .int (σ 11 1)) (C := RX4) (T := TX4) (N := 3) hx hb hts in4 hown hK hP 11 rfl rfl 1 (by decide) k19 (fun _ h9 => h9) rfl dX4_hasCell_6 ?_
    refine lv_icmp_ge (tgt := 16) hx hb dX4_hasCell_9 (by decide) (fun c9 => ?_) (fun c9 => ?_)
    · skip
      have ic9 := zle (a := (σ 11 1).toInt) (b := x1.toInt) rfl rfl c9
      refine lv_iconst (v := 0) hx hb dX4_hasCell_16 (by decide) ?_
      have hpost : σ = σ ∧ ((0 : Int32).toInt = 1 ∧ 0 ≤ x1.toInt ∧ x1.toInt < (σ 11 1).toInt ∨ (0 : Int32).toInt = 0 ∧ ¬ (0 ≤ x1.toInt ∧ x1.toInt < (σ 11 1).toInt)) := by exact ⟨rfl, by first | (left; exact ⟨by decide, by omega⟩) | (right; exact ⟨by decide, by omega⟩)⟩
      exact W.zret (v := 0) hx hb hr (by decide +kernel) (fun t9 ht hW => ⟨⟨0, σ, rfl, hpost, by rw [ht]; exact hP, va_K.moved hW.alike hK, hD⟩, hS.F ht⟩) hS.2.2 dX4_hasCell_17
    · skip
      have ic9 := znle (a := (σ 11 1).toInt) (b := x1.toInt) rfl rfl c9
      refine lv_iconst (v := 1) hx hb dX4_hasCell_12 (by decide) ?_
      refine lv_goto (tgt := 17) hx hb dX4_hasCell_13 (by decide) ?_
      have hpost : σ = σ ∧ ((1 : Int32).toInt = 1 ∧ 0 ≤ x1.toInt ∧ x1.toInt < (σ 11 1).toInt ∨ (1 : Int32).toInt = 0 ∧ ¬ (0 ≤ x1.toInt ∧ x1.toInt < (σ 11 1).toInt)) := by exact ⟨rfl, by first | (left; exact ⟨by decide, by omega⟩) | (right; exact ⟨by decide, by omega⟩)⟩
      exact W.zret (v := 1) hx hb hr (by decide +kernel) (fun t9 ht hW => ⟨⟨1, σ, rfl, hpost, by rw [ht]; exact hP, va_K.moved hW.alike hK, hD⟩, hS.F ht⟩) hS.2.2 dX4_hasCell_17

set_option maxHeartbeats 4000000 in
set_option maxRecDepth 100000 in
theorem c_X4_put_11 (l : Launch) (dC : Nat → ClassId) (dI : Nat → Nat → Nat) (cB cI cS cII : ClassId) (a : Nat → Nat) (N : (Nat → Prop) → State → Prop) (hok : zNok N) (hn : ∀ A U, N A U → zN U) (σ : Cn) (sz : Nat) (x1 : Int32) (x2 : Int32) (h1 : 0 ≤ x1.toInt ∧ x1.toInt < 60) : Met l yX4_put wsX4_put RM_X4_put (zPc (dC, dI) (zT cB cI cS cII) N (wX a cB cI cS cII) σ sz [.ref (a 11), .int x1, .int x2]) (zQv (dC, dI) (zT cB cI cS cII) (wX a cB cI cS cII) (va_A (wX a cB cI cS cII σ) sz) (fun (σ1 : Cn) => ∃ u41 : Nat → Int32, σ1 = (upC σ 41 u41) ∧ True)) 0 0 (va_A (wX a cB cI cS cII σ) sz) := by
  refine Met.ofW (cc := cX4_put) (maxL := 3) (ret := none) (by decide) rfl ?_
  intro p e s m args below meth c s₁ B hml hv
  obtain ⟨rfl, hsz, hP, hK, hD0, hN⟩ := hv
  have hx := B.exec
  have hb := B.bytes
  have hr := B.returns
  have hts := atoms_spec (ws := wsX4_put) B.pre
  have hown : s.vm.findClass RX4 = some m.cls := findClass_of_methodNamed B.named
  have hlocks := B.notSynchronized
  subst hsz
  have hD := hD0.self (sz := s.heap.size)
  generalize hAe : va_A (wX a cB cI cS cII σ) s.heap.size = A at hD hN ⊢
  have hA : ∀ q : Nat, s.heap.size ≤ q → A q := fun q h => by rw [← hAe]; exact Or.inr h
  clear hAe hD0
  have hS : va_S A s.heap s.heap [] := va_S.rf
  have in4 : ∀ w ∈ u_ws RX4 TX4 3, w ∈ wsX4_put := by decide +kernel
  have k15 := hts (.fieldLink RX4 15 "HouseSorted$Sheet" "cells" "[I") (by decide +kernel)
  have k9 := hts (.fieldLink RX4 9 "HouseSorted$Sheet" "lane" "I") (by decide +kernel)
  have hl := lv_entry ([.ref (a 11), .int x1, .int x2]) (n := 3) (Nat.le_of_ble_eq_true rfl)
  rw [lg_entry_eq]
  generalize (lg_sl ([.ref (a 11), .int x1, .int x2]) ++ List.replicate (3 - (lg_sl ([.ref (a 11), .int x1, .int x2])).length) Slot.unset).toArray = ls at hl ⊢
  have hl : lv_has ls 3 [(0, .ref (a 11)), (1, .int x1), (2, .int x2)] := hl
  suffices main : ∀ (H : Heap) (locs : List Loc), va_P (dC, dI) vwCl (wX a cB cI cS cII σ) H → va_D A (wX a cB cI cS cII σ) → va_S A s.heap H locs → W p l e (headSpec wsX4_put RM_X4_put).room s m ([.ref (a 11), .int x1, .int x2] : List Value).toArray below meth c H locs 0 0 (MQ below (zQv (dC, dI) (zT cB cI cS cII) (wX a cB cI cS cII) A (fun (σ1 : Cn) => ∃ u41 : Nat → Int32, σ1 = (upC σ 41 u41) ∧ True)) ([.ref (a 11), .int x1, .int x2] : List Value).toArray s 0 0 A) (F0 m 0 ls []) from main s.heap [] hP hD hS
  intro H locs hP hD hS
  refine lv_aload_n hx hb dX4_put_0 rfl (lv_at hl 0 rfl) ?_
  refine va_get (D := (dC, dI)) (ci := 4) (v := .ref (a 41)) (C := RX4) (T := TX4) (N := 3) hx hb hts in4 hown hK hP 11 rfl rfl 2 (by decide) k15 (fun _ h9 => h9) rfl dX4_put_1 ?_
  refine lv_iload_n hx hb dX4_put_4 rfl (lv_at hl 1 rfl) ?_
  refine lv_aload_n hx hb dX4_put_5 rfl (lv_at hl 0 rfl) ?_
  refine va_get (D := (dC, dI)) (ci := 4) (v := .int (σ 11 0)) (C := RX4) (T := TX4) (N := 3) hx hb hts in4 hown hK hP 11 rfl rfl 0 (by decide) k9 (fun _ h9 => h9) rfl dX4_put_6 ?_
  refine lv_if_ne (tgt := 17) hx hb dX4_put_9 (by decide) (fun c9 => ?_) (fun c9 => ?_)
  · skip
    have ic9 := zneq (a := (σ 11 0).toInt) (b := 0) rfl (by decide) c9
    refine lv_aload_n hx hb dX4_put_17 rfl (lv_at hl 0 rfl) ?_
    refine va_get (D := (dC, dI)) (ci := 4) (v := .int (σ 11 0)) (C := RX4) (T := TX4) (N := 3) hx hb hts in4 hown hK hP 11 rfl rfl 0 (by decide) k9 (fun _ h9 => h9) rfl dX4_put_18 ?_
    refine lv_iconst (v := 1) hx hb dX4_put_21 (by decide) ?_
    refine lv_icmp_ne (tgt := 30) hx hb dX4_put_22 (by decide) (fun c22 => ?_) (fun c22 => ?_)
    · skip
      have ic22 := zneq (a := (σ 11 0).toInt) (b := 1) rfl (by decide) c22
      refine lv_iload_n hx hb dX4_put_30 rfl (lv_at hl 2 rfl) ?_
      refine va_iast (D := (dC, dI)) (f := σ 41) hx hb hK hP hD hS 41 1 rfl rfl (i := x1) (n := 60) (zin (by omega) (by omega)) dX4_put_31 (fun H locs hP hD hS => ?_)
      have hP : va_P (dC, dI) vwCl (wX a cB cI cS cII (upC σ 41 (upd (σ 41) (x1).toNatClampNeg x2))) H := hP
      have hD : va_D A (wX a cB cI cS cII (upC σ 41 (upd (σ 41) (x1).toNatClampNeg x2))) := hD
      have hpost : ∃ u41 : Nat → Int32, (upC σ 41 (upd (σ 41) (x1).toNatClampNeg x2)) = (upC σ 41 u41) ∧ True := by exact ⟨_, rfl, trivial⟩
      exact W.vret hx hb hr (fun t9 ht hW => ⟨⟨(upC σ 41 (upd (σ 41) (x1).toNatClampNeg x2)), rfl, hpost, by rw [ht]; exact hP, va_K.moved hW.alike hK, hD⟩, hS.F ht⟩) hS.2.2 dX4_put_32
    · skip
      have ic22 := zeq (a := (σ 11 0).toInt) (b := 1) rfl (by decide) c22
      refine lv_iload_n hx hb dX4_put_25 rfl (lv_at hl 2 rfl) ?_
      refine lv_i2s hx hb dX4_put_26 rfl ?_
      refine lv_topi (fun v26 ev26 => ?_)
      refine lv_goto (tgt := 31) hx hb dX4_put_27 (by decide) ?_
      refine va_iast (D := (dC, dI)) (f := σ 41) hx hb hK hP hD hS 41 1 rfl rfl (i := x1) (n := 60) (zin (by omega) (by omega)) dX4_put_31 (fun H locs hP hD hS => ?_)
      have hP : va_P (dC, dI) vwCl (wX a cB cI cS cII (upC σ 41 (upd (σ 41) (x1).toNatClampNeg v26))) H := hP
      have hD : va_D A (wX a cB cI cS cII (upC σ 41 (upd (σ 41) (x1).toNatClampNeg v26))) := hD
      have hpost : ∃ u41 : Nat → Int32, (upC σ 41 (upd (σ 41) (x1).toNatClampNeg v26)) = (upC σ 41 u41) ∧ True := by exact ⟨_, rfl, trivial⟩
      exact W.vret hx hb hr (fun t9 ht hW => ⟨⟨(upC σ 41 (upd (σ 41) (x1).toNatClampNeg v26)), rfl, hpost, by rw [ht]; exact hP, va_K.moved hW.alike hK, hD⟩, hS.F ht⟩) hS.2.2 dX4_put_32
  · skip
    have ic9 := zeq (a := (σ 11 0).toInt) (b := 0) rfl (by decide) c9
    refine lv_iload_n hx hb dX4_put_12 rfl (lv_at hl 2 rfl) ?_
    refine lv_i2b hx hb dX4_put_13 rfl ?_
    refine lv_topi (fun v13 ev13 => ?_)
    refine lv_goto (tgt := 31) hx hb dX4_put_14 (by decide) ?_
    refine va_iast (D := (dC, dI)) (f := σ 41) hx hb hK hP hD hS 41 1 rfl rfl (i := x1) (n := 60) (zin (by omega) (by omega)) dX4_put_31 (fun H locs hP hD hS => ?_)
    have hP : va_P (dC, dI) vwCl (wX a cB cI cS cII (upC σ 41 (upd (σ 41) (x1).toNatClampNeg v13))) H := hP
    have hD : va_D A (wX a cB cI cS cII (upC σ 41 (upd (σ 41) (x1).toNatClampNeg v13))) := hD
    have hpost : ∃ u41 : Nat → Int32, (upC σ 41 (upd (σ 41) (x1).toNatClampNeg v13)) = (upC σ 41 u41) ∧ True := by exact ⟨_, rfl, trivial⟩
    exact W.vret hx hb hr (fun t9 ht hW => ⟨⟨(upC σ 41 (upd (σ 41) (x1).toNatClampNeg v13)), rfl, hpost, by rw [ht]; exact hP, va_K.moved hW.alike hK, hD⟩, hS.F ht⟩) hS.2.2 dX4_put_32

set_option maxHeartbeats 4000000 in
set_option maxRecDepth 100000 in
theorem c_X4_refusal_11 (l : Launch) (dC : Nat → ClassId) (dI : Nat → Nat → Nat) (cB cI cS cII : ClassId) (a : Nat → Nat) (N : (Nat → Prop) → State → Prop) (hok : zNok N) (hn : ∀ A U, N A U → zN U) (σ : Cn) (sz : Nat) (x1 : Int32) (x2 : Int32) (x3 : Int32) (h1 : 0 ≤ (σ 11 1).toInt ∧ (σ 11 1).toInt ≤ 60) (h3 : 0 ≤ x3.toInt ∧ x3.toInt ≤ 10) : Met l yX4_refusal wsX4_refusal RM_X4_refusal (zPc (dC, dI) (zT cB cI cS cII) N (wX a cB cI cS cII) σ sz [.ref (a 11), .int x1, .int x2, .int x3]) (zQi (dC, dI) (zT cB cI cS cII) (wX a cB cI cS cII) (va_A (wX a cB cI cS cII σ) sz) (fun (r : Int32) (σ1 : Cn) => σ1 = σ ∧ ((r : Int32).toInt = 0 → ∀ t : Nat, (t : Int) < x3.toInt → 0 ≤ x2.toInt + t ∧ x2.toInt + t < 60))) 0 0 (va_A (wX a cB cI cS cII σ) sz) := by
  refine Met.ofW (cc := cX4_refusal) (maxL := 5) (ret := (some .int)) (by decide) rfl ?_
  intro p e s m args below meth c s₁ B hml hv
  obtain ⟨rfl, hsz, hP, hK, hD0, hN⟩ := hv
  have hx := B.exec
  have hb := B.bytes
  have hr := B.returns
  have hts := atoms_spec (ws := wsX4_refusal) B.pre
  have hown : s.vm.findClass RX4 = some m.cls := findClass_of_methodNamed B.named
  have hlocks := B.notSynchronized
  subst hsz
  have hD := hD0.self (sz := s.heap.size)
  generalize hAe : va_A (wX a cB cI cS cII σ) s.heap.size = A at hD hN ⊢
  have hA : ∀ q : Nat, s.heap.size ≤ q → A q := fun q h => by rw [← hAe]; exact Or.inr h
  clear hAe hD0
  have hS : va_S A s.heap s.heap [] := va_S.rf
  have in4 : ∀ w ∈ u_ws RX4 TX4 3, w ∈ wsX4_refusal := by decide +kernel
  have k15 := hts (.fieldLink RX4 15 "HouseSorted$Sheet" "cells" "[I") (by decide +kernel)
  have k9 := hts (.fieldLink RX4 9 "HouseSorted$Sheet" "lane" "I") (by decide +kernel)
  have kin8 := hts (.initialized RX8) (by decide +kernel)
  have kst := hts (.static yX8_isWithin) (by decide +kernel)
  have LP : ∀ n : Nat, (∀ (j : Int32) (H : Heap) (locs : List Loc) (ls : Array Slot), 0 ≤ j.toInt ∧ j.toInt ≤ 10 → (∀ t : Nat, (t : Int) < j.toInt → 0 ≤ x2.toInt + t ∧ x2.toInt + t < 60) → (10 - j.toInt).toNat < n → va_P (dC, dI) vwCl (wX a cB cI cS cII σ) H → va_D A (wX a cB cI cS cII σ) → va_S A s.heap H locs → lv_has ls 5 [(0, .ref (a 11)), (1, .int x1), (2, .int x2), (3, .int x3), (4, .int j)] → W p l e (headSpec wsX4_refusal RM_X4_refusal).room s m ([.ref (a 11), .int x1, .int x2, .int x3] : List Value).toArray below meth c H locs 0 0 (MQ below (zQi (dC, dI) (zT cB cI cS cII) (wX a cB cI cS cII) A (fun (r : Int32) (σ1 : Cn) => σ1 = σ ∧ ((r : Int32).toInt = 0 → ∀ t : Nat, (t : Int) < x3.toInt → 0 ≤ x2.toInt + t ∧ x2.toInt + t < 60))) ([.ref (a 11), .int x1, .int x2, .int x3] : List Value).toArray s 0 0 A) (F0 m 25 ls [])) := by
    intro n
    induction n with
    | zero => exact by intros; omega
    | succ n ih =>
      · intro j H locs ls g1 g2 hmu hP hD hS hl
        refine lv_iload hx hb dX4_refusal_25 (lv_at hl 4 rfl) ?_
        refine lv_iload_n hx hb dX4_refusal_27 rfl (lv_at hl 3 rfl) ?_
        refine lv_icmp_ge (tgt := 75) hx hb dX4_refusal_28 (by decide) (fun c28 => ?_) (fun c28 => ?_)
        · skip
          have ic28 := zle (a := x3.toInt) (b := j.toInt) rfl rfl c28
          refine lv_iconst (v := 0) hx hb dX4_refusal_75 (by decide) ?_
          have hpost : σ = σ ∧ ((0 : Int32).toInt = 0 → ∀ t : Nat, (t : Int) < x3.toInt → 0 ≤ x2.toInt + t ∧ x2.toInt + t < 60) := by exact ⟨rfl, fun _ t ht => g2 t (by omega)⟩
          exact W.iret (v := 0) hx hb hr (fun t9 ht hW => ⟨⟨0, σ, rfl, hpost, by rw [ht]; exact hP, va_K.moved hW.alike hK, hD⟩, hS.F ht⟩) hS.2.2 dX4_refusal_76
        · skip
          have ic28 := znle (a := x3.toInt) (b := j.toInt) rfl rfl c28
          refine lv_aload_n hx hb dX4_refusal_31 rfl (lv_at hl 0 rfl) ?_
          refine lv_iload_n hx hb dX4_refusal_32 rfl (lv_at hl 2 rfl) ?_
          refine lv_iload hx hb dX4_refusal_33 (lv_at hl 4 rfl) ?_
          refine lv_iadd hx hb dX4_refusal_35 ?_
          refine lv_topi (fun v35 ev35 => ?_)
          have tv35 : v35.toInt = (x2.toInt + j.toInt + 2147483648) % 4294967296 - 2147483648 := by rw [ev35, zadd]
          refine zcalli (va_runV (As := [.int v35]) (rest := []) ⟨hx, hb, hml, hown, hts⟩ (c_X4_hasCell_11 l dC dI cB cI cS cII a N hok hn σ H.size (v35) ) (cwV 1 hts gX4_refusal_X4_hasCell rfl rfl rfl (by decide +kernel) ⟨Nat.le_of_ble_eq_true rfl, Nat.le_of_ble_eq_true rfl⟩) (zpreV (wf := wX a cB cI cS cII) (q0 := 11) (ci := 4) hok hN hS hA hK hP hD rfl rfl) rfl rfl hl.1 rfl (lv_room (Nat.le_of_ble_eq_true rfl)) dX4_refusal_36 ⟨Nat.zero_le _, Nat.zero_le _⟩) hD hS hA (fun v36 σ1 H locs hv36 hP hD hS => ?_)
          obtain ⟨es9, hv36⟩ := hv36
          subst σ1
          refine lv_if_ne (tgt := 45) hx hb dX4_refusal_39 (by decide) (fun c39 => ?_) (fun c39 => ?_)
          · skip
            have ic39 := zneq (a := v36.toInt) (b := 0) rfl (by decide) c39
            refine lv_aload_n hx hb dX4_refusal_45 rfl (lv_at hl 0 rfl) ?_
            refine va_get (D := (dC, dI)) (ci := 4) (v := .ref (a 41)) (C := RX4) (T := TX4) (N := 3) hx hb hts in4 hown hK hP 11 rfl rfl 2 (by decide) k15 (fun _ h9 => h9) rfl dX4_refusal_46 ?_
            refine lv_iload_n hx hb dX4_refusal_49 rfl (lv_at hl 2 rfl) ?_
            refine lv_iload hx hb dX4_refusal_50 (lv_at hl 4 rfl) ?_
            refine lv_iadd hx hb dX4_refusal_52 ?_
            refine lv_topi (fun v52 ev52 => ?_)
            have tv52 : v52.toInt = (x2.toInt + j.toInt + 2147483648) % 4294967296 - 2147483648 := by rw [ev52, zadd]
            refine va_iald (D := (dC, dI)) (f := σ 41) hx hb hK hP 41 1 rfl rfl (i := v52) (n := 60) (zin (by omega) (by omega)) dX4_refusal_53 ?_
            refine lv_topi (fun v53 ev53 => ?_)
            have tv53 := congrArg Int32.toInt ev53
            refine lv_iconst (v := 0) hx hb dX4_refusal_54 (by decide) ?_
            refine lv_bipush (v := 100) hx hb dX4_refusal_55 (by decide) ?_
            refine zcalli (va_runSN (As := [.int v53, .int 0, .int 100]) (rest := []) ⟨hx, hb, hml, hown, hts⟩ (c_X8_isWithin l dC dI cB cI cS cII a N hok hn σ H.size (v53) (0) (100) ) ⟨va_cnB (host := RX8) 3 hts ggX4_refusal_X8_isWithin rfl rfl rfl (hn _ _ hN (.methodLinkNest RX4 26 yX8_isWithin RX8) (by decide)) kin8 (by decide +kernel) ⟨Nat.le_of_ble_eq_true rfl, Nat.le_of_ble_eq_true rfl⟩, kst, trivial⟩ (zpreS (wf := wX a cB cI cS cII) hok hN hS hA hK hP hD) rfl rfl hl.1 rfl (lv_room (Nat.le_of_ble_eq_true rfl)) dX4_refusal_57 ⟨Nat.zero_le _, Nat.zero_le _⟩) hD hS hA (fun v57 σ1 H locs hv57 hP hD hS => ?_)
            obtain ⟨es9, hv57⟩ := hv57
            subst σ1
            try simp only [show (0 : Int32).toInt = 0 from by decide, show (100 : Int32).toInt = 100 from by decide] at hv57
            refine lv_if_ne (tgt := 69) hx hb dX4_refusal_60 (by decide) (fun c60 => ?_) (fun c60 => ?_)
            · skip
              have ic60 := zneq (a := v57.toInt) (b := 0) rfl (by decide) c60
              obtain ⟨v69, ev69⟩ : ∃ y : Int32, y = j + 1 := ⟨_, rfl⟩
              refine lv_iinc (v := v69) (lv' := [(4, .int v69), (0, .ref (a 11)), (1, .int x1), (2, .int x2), (3, .int x3)]) hx hb dX4_refusal_69 hl (k := 4) rfl (by rw [ev69]; rfl) (by decide) rfl (fun ls hl => ?_)
              have tv69 : v69.toInt = j.toInt + 1 := by rw [ev69, zadd, show (1 : Int32).toInt = 1 from by decide]; omega
              refine lv_goto (tgt := 25) hx hb dX4_refusal_72 (by decide) ?_
              exact ih (v69)  H locs ls (by omega) (by intro t ht; rcases (show (t : Int) < j.toInt ∨ (t : Int) = j.toInt from by omega) with q9 | q9; exact g2 t q9; have r2 := zrng x2; omega) (by omega) hP hD hS (lv_sub hl [1, 2, 3, 4, 0] rfl)
            · skip
              have ic60 := zeq (a := v57.toInt) (b := 0) rfl (by decide) c60
              refine lv_bipush (v := (-20)) hx hb dX4_refusal_63 (by decide) ?_
              refine lv_iload hx hb dX4_refusal_65 (lv_at hl 4 rfl) ?_
              refine lv_isub hx hb dX4_refusal_67 ?_
              refine lv_topi (fun v67 ev67 => ?_)
              have tv67 : v67.toInt = (-20) - j.toInt := by rw [ev67, zsub, show ((-20) : Int32).toInt = (-20) from by decide]; omega
              have hpost : σ = σ ∧ ((v67 : Int32).toInt = 0 → ∀ t : Nat, (t : Int) < x3.toInt → 0 ≤ x2.toInt + t ∧ x2.toInt + t < 60) := by exact ⟨rfl, fun q9 => by omega⟩
              exact W.iret (v := v67) hx hb hr (fun t9 ht hW => ⟨⟨v67, σ, rfl, hpost, by rw [ht]; exact hP, va_K.moved hW.alike hK, hD⟩, hS.F ht⟩) hS.2.2 dX4_refusal_68
          · skip
            have ic39 := zeq (a := v36.toInt) (b := 0) rfl (by decide) c39
            refine lv_bipush (v := (-12)) hx hb dX4_refusal_42 (by decide) ?_
            have hpost : σ = σ ∧ (((-12) : Int32).toInt = 0 → ∀ t : Nat, (t : Int) < x3.toInt → 0 ≤ x2.toInt + t ∧ x2.toInt + t < 60) := by exact ⟨rfl, fun q9 => absurd q9 (by decide)⟩
            exact W.iret (v := (-12)) hx hb hr (fun t9 ht hW => ⟨⟨(-12), σ, rfl, hpost, by rw [ht]; exact hP, va_K.moved hW.alike hK, hD⟩, hS.F ht⟩) hS.2.2 dX4_refusal_44
  have hl := lv_entry ([.ref (a 11), .int x1, .int x2, .int x3]) (n := 5) (Nat.le_of_ble_eq_true rfl)
  rw [lg_entry_eq]
  generalize (lg_sl ([.ref (a 11), .int x1, .int x2, .int x3]) ++ List.replicate (5 - (lg_sl ([.ref (a 11), .int x1, .int x2, .int x3])).length) Slot.unset).toArray = ls at hl ⊢
  have hl : lv_has ls 5 [(0, .ref (a 11)), (1, .int x1), (2, .int x2), (3, .int x3)] := hl
  suffices main : ∀ (H : Heap) (locs : List Loc), va_P (dC, dI) vwCl (wX a cB cI cS cII σ) H → va_D A (wX a cB cI cS cII σ) → va_S A s.heap H locs → W p l e (headSpec wsX4_refusal RM_X4_refusal).room s m ([.ref (a 11), .int x1, .int x2, .int x3] : List Value).toArray below meth c H locs 0 0 (MQ below (zQi (dC, dI) (zT cB cI cS cII) (wX a cB cI cS cII) A (fun (r : Int32) (σ1 : Cn) => σ1 = σ ∧ ((r : Int32).toInt = 0 → ∀ t : Nat, (t : Int) < x3.toInt → 0 ≤ x2.toInt + t ∧ x2.toInt + t < 60))) ([.ref (a 11), .int x1, .int x2, .int x3] : List Value).toArray s 0 0 A) (F0 m 0 ls []) from main s.heap [] hP hD hS
  intro H locs hP hD hS
  refine lv_aload_n hx hb dX4_refusal_0 rfl (lv_at hl 0 rfl) ?_
  refine va_get (D := (dC, dI)) (ci := 4) (v := .int (σ 11 0)) (C := RX4) (T := TX4) (N := 3) hx hb hts in4 hown hK hP 11 rfl rfl 0 (by decide) k9 (fun _ h9 => h9) rfl dX4_refusal_1 ?_
  refine lv_iconst (v := (-1)) hx hb dX4_refusal_4 (by decide) ?_
  refine lv_icmp_ne (tgt := 11) hx hb dX4_refusal_5 (by decide) (fun c5 => ?_) (fun c5 => ?_)
  · skip
    have ic5 := zneq (a := (σ 11 0).toInt) (b := (-1)) rfl (by decide) c5
    refine lv_aload_n hx hb dX4_refusal_11 rfl (lv_at hl 0 rfl) ?_
    refine va_get (D := (dC, dI)) (ci := 4) (v := .int (σ 11 0)) (C := RX4) (T := TX4) (N := 3) hx hb hts in4 hown hK hP 11 rfl rfl 0 (by decide) k9 (fun _ h9 => h9) rfl dX4_refusal_12 ?_
    refine lv_iload_n hx hb dX4_refusal_15 rfl (lv_at hl 1 rfl) ?_
    refine lv_icmp_eq (tgt := 22) hx hb dX4_refusal_16 (by decide) (fun c16 => ?_) (fun c16 => ?_)
    · skip
      have ic16 := zeq (a := (σ 11 0).toInt) (b := x1.toInt) rfl rfl c16
      refine lv_iconst (v := 0) hx hb dX4_refusal_22 (by decide) ?_
      refine lv_istore (lv' := [(4, .int 0), (0, .ref (a 11)), (1, .int x1), (2, .int x2), (3, .int x3)]) hx hb dX4_refusal_23 hl (by decide) rfl (fun ls hl => ?_)
      exact (LP _) (0)  H locs ls (by decide) (by intro t ht; rw [show (0 : Int32).toInt = 0 from by decide] at ht; omega) (Nat.lt_succ_self _) hP hD hS (lv_sub hl [1, 2, 3, 4, 0] rfl)
    · skip
      have ic16 := zneq (a := (σ 11 0).toInt) (b := x1.toInt) rfl rfl c16
      refine lv_bipush (v := (-13)) hx hb dX4_refusal_19 (by decide) ?_
      have hpost : σ = σ ∧ (((-13) : Int32).toInt = 0 → ∀ t : Nat, (t : Int) < x3.toInt → 0 ≤ x2.toInt + t ∧ x2.toInt + t < 60) := by exact ⟨rfl, fun q9 => absurd q9 (by decide)⟩
      exact W.iret (v := (-13)) hx hb hr (fun t9 ht hW => ⟨⟨(-13), σ, rfl, hpost, by rw [ht]; exact hP, va_K.moved hW.alike hK, hD⟩, hS.F ht⟩) hS.2.2 dX4_refusal_21
  · skip
    have ic5 := zeq (a := (σ 11 0).toInt) (b := (-1)) rfl (by decide) c5
    refine lv_bipush (v := (-11)) hx hb dX4_refusal_8 (by decide) ?_
    have hpost : σ = σ ∧ (((-11) : Int32).toInt = 0 → ∀ t : Nat, (t : Int) < x3.toInt → 0 ≤ x2.toInt + t ∧ x2.toInt + t < 60) := by exact ⟨rfl, fun q9 => absurd q9 (by decide)⟩
    exact W.iret (v := (-11)) hx hb hr (fun t9 ht hW => ⟨⟨(-11), σ, rfl, hpost, by rw [ht]; exact hP, va_K.moved hW.alike hK, hD⟩, hS.F ht⟩) hS.2.2 dX4_refusal_10
end
section
abbrev RM_X3_gather : Room := { frames := 3, cells := 0, slots := 0, locals := 64 }
set_option maxHeartbeats 4000000 in
set_option maxRecDepth 100000 in
theorem c_X3_gather (l : Launch) (dC : Nat → ClassId) (dI : Nat → Nat → Nat) (cB cI cS cII : ClassId) (a : Nat → Nat) (N : (Nat → Prop) → State → Prop) (hok : zNok N) (hn : ∀ A U, N A U → zN U) (σ : Cn) (sz : Nat)  (h0 : 0 ≤ (σ 4 1).toInt ∧ (σ 4 1).toInt ≤ 4) (h2 : 0 ≤ (σ 4 2).toInt ∧ (σ 4 2).toInt ≤ 10) : Met l yX3_gather wsX3_gather RM_X3_gather (zPc (dC, dI) (zT cB cI cS cII) N (wX a cB cI cS cII) σ sz [.ref (a 5)]) (zQv (dC, dI) (zT cB cI cS cII) (wX a cB cI cS cII) (va_A (wX a cB cI cS cII σ) sz) (fun (σ1 : Cn) => ∃ u5 : Nat → Int32, ∃ u25 : Nat → Int32, σ1 = (upC (upC σ 5 u5) 25 u25) ∧ (0 ≤ (u5 2).toInt ∧ (u5 2).toInt ≤ (σ 4 2).toInt) ∧ ∀ j : Nat, (j : Int) < (u5 2).toInt → 0 ≤ (u25 j).toInt ∧ (u25 j).toInt < (σ 4 2).toInt)) 0 0 (va_A (wX a cB cI cS cII σ) sz) := by
  refine Met.ofW (cc := cX3_gather) (maxL := 2) (ret := none) (by decide) rfl ?_
  intro p e s m args below meth c s₁ B hml hv
  obtain ⟨rfl, hsz, hP, hK, hD0, hN⟩ := hv
  have hx := B.exec
  have hb := B.bytes
  have hr := B.returns
  have hts := atoms_spec (ws := wsX3_gather) B.pre
  have hown : s.vm.findClass RX3 = some m.cls := findClass_of_methodNamed B.named
  have hlocks := B.notSynchronized
  subst hsz
  have hD := hD0.self (sz := s.heap.size)
  generalize hAe : va_A (wX a cB cI cS cII σ) s.heap.size = A at hD hN ⊢
  have hA : ∀ q : Nat, s.heap.size ≤ q → A q := fun q h => by rw [← hAe]; exact Or.inr h
  clear hAe hD0
  have hS : va_S A s.heap s.heap [] := va_S.rf
  have in1 : ∀ w ∈ u_ws RX1 TX1 9, w ∈ wsX3_gather := by decide +kernel
  have in3 : ∀ w ∈ u_ws RX3 TX3 4, w ∈ wsX3_gather := by decide +kernel
  have k18 := hts (.fieldLink RX3 18 "HouseSorted$Sharing" "house" "LHouseSorted$House;") (by decide +kernel)
  have k22 := hts (.fieldLink RX3 22 "HouseSorted$Sharing" "size" "I") (by decide +kernel)
  have k26 := hts (.fieldLink RX3 26 "HouseSorted$House" "things" "I") (by decide +kernel)
  have k9 := hts (.fieldLink RX3 9 "HouseSorted$Sharing" "shared" "[I") (by decide +kernel)
  have LP : ∀ n : Nat, (∀ (j : Int32) (w5 : Nat → Int32) (w25 : Nat → Int32) (H : Heap) (locs : List Loc) (ls : Array Slot), 0 ≤ j.toInt ∧ j.toInt ≤ (σ 4 2).toInt → 0 ≤ (w5 2).toInt ∧ (w5 2).toInt ≤ j.toInt → (∀ i : Nat, (i : Int) < (w5 2).toInt → 0 ≤ (w25 i).toInt ∧ (w25 i).toInt < (σ 4 2).toInt) → (10 - j.toInt).toNat < n → va_P (dC, dI) vwCl (wX a cB cI cS cII (upC (upC σ 5 w5) 25 w25)) H → va_D A (wX a cB cI cS cII (upC (upC σ 5 w5) 25 w25)) → va_S A s.heap H locs → lv_has ls 2 [(0, .ref (a 5)), (1, .int j)] → W p l e (headSpec wsX3_gather RM_X3_gather).room s m ([.ref (a 5)] : List Value).toArray below meth c H locs 0 0 (MQ below (zQv (dC, dI) (zT cB cI cS cII) (wX a cB cI cS cII) A (fun (σ1 : Cn) => ∃ u5 : Nat → Int32, ∃ u25 : Nat → Int32, σ1 = (upC (upC σ 5 u5) 25 u25) ∧ (0 ≤ (u5 2).toInt ∧ (u5 2).toInt ≤ (σ 4 2).toInt) ∧ ∀ j : Nat, (j : Int) < (u5 2).toInt → 0 ≤ (u25 j).toInt ∧ (u25 j).toInt < (σ 4 2).toInt)) ([.ref (a 5)] : List Value).toArray s 0 0 A) (F0 m 7 ls [])) := by
    intro n
    induction n with
    | zero => exact by intros; omega
    | succ n ih =>
      · intro j w5 w25 H locs ls g1 g2 g3 hmu hP hD hS hl
        refine lv_iload_n hx hb dX3_gather_7 rfl (lv_at hl 1 rfl) ?_
        refine lv_aload_n hx hb dX3_gather_8 rfl (lv_at hl 0 rfl) ?_
        refine va_get (D := (dC, dI)) (ci := 3) (v := .ref (a 4)) (C := RX3) (T := TX3) (N := 4) hx hb hts in3 hown hK hP 5 rfl rfl 0 (by decide) k18 (fun _ h9 => h9) rfl dX3_gather_9 ?_
        refine va_get (D := (dC, dI)) (ci := 1) (v := .int (σ 4 2)) (C := RX1) (T := TX1) (N := 9) hx hb hts in1 hown hK hP 4 rfl rfl 2 (by decide) k26 (fun _ h9 => h9) rfl dX3_gather_12 ?_
        refine lv_icmp_ge (tgt := 55) hx hb dX3_gather_15 (by decide) (fun c15 => ?_) (fun c15 => ?_)
        · skip
          have ic15 := zle (a := (σ 4 2).toInt) (b := j.toInt) rfl rfl c15
          have hpost : ∃ u5 : Nat → Int32, ∃ u25 : Nat → Int32, (upC (upC σ 5 w5) 25 w25) = (upC (upC σ 5 u5) 25 u25) ∧ (0 ≤ (u5 2).toInt ∧ (u5 2).toInt ≤ (σ 4 2).toInt) ∧ ∀ j : Nat, (j : Int) < (u5 2).toInt → 0 ≤ (u25 j).toInt ∧ (u25 j).toInt < (σ 4 2).toInt := by exact ⟨_, _, rfl, by omega, g3⟩
          exact W.vret hx hb hr (fun t9 ht hW => ⟨⟨(upC (upC σ 5 w5) 25 w25), rfl, hpost, by rw [ht]; exact hP, va_K.moved hW.alike hK, hD⟩, hS.F ht⟩) hS.2.2 dX3_gather_55
        · skip
          have ic15 := znle (a := (σ 4 2).toInt) (b := j.toInt) rfl rfl c15
          refine lv_aload_n hx hb dX3_gather_18 rfl (lv_at hl 0 rfl) ?_
          refine va_get (D := (dC, dI)) (ci := 3) (v := .ref (a 4)) (C := RX3) (T := TX3) (N := 4) hx hb hts in3 hown hK hP 5 rfl rfl 0 (by decide) k18 (fun _ h9 => h9) rfl dX3_gather_19 ?_
          refine lv_iload_n hx hb dX3_gather_22 rfl (lv_at hl 1 rfl) ?_
          refine zcalli (va_runV (As := [.int j]) (rest := []) ⟨hx, hb, hml, hown, hts⟩ (c_X1_wayOf l dC dI cB cI cS cII a N hok hn (upC (upC σ 5 w5) 25 w25) H.size (j) h0 (by omega)) (cwV 1 hts gX3_gather_X1_wayOf rfl rfl rfl (by decide +kernel) ⟨Nat.le_of_ble_eq_true rfl, Nat.le_of_ble_eq_true rfl⟩) (zpreV (wf := wX a cB cI cS cII) (q0 := 4) (ci := 1) hok hN hS hA hK hP hD rfl rfl) rfl rfl hl.1 rfl (lv_room (Nat.le_of_ble_eq_true rfl)) dX3_gather_23 ⟨Nat.zero_le _, Nat.zero_le _⟩) hD hS hA (fun v23 σ1 H locs hv23 hP hD hS => ?_)
          obtain ⟨es9, hv23⟩ := hv23
          subst σ1
          refine lv_if_ne (tgt := 49) hx hb dX3_gather_26 (by decide) (fun c26 => ?_) (fun c26 => ?_)
          · skip
            have ic26 := zneq (a := v23.toInt) (b := 0) rfl (by decide) c26
            obtain ⟨v49, ev49⟩ : ∃ y : Int32, y = j + 1 := ⟨_, rfl⟩
            refine lv_iinc (v := v49) (lv' := [(1, .int v49), (0, .ref (a 5))]) hx hb dX3_gather_49 hl (k := 1) rfl (by rw [ev49]; rfl) (by decide) rfl (fun ls hl => ?_)
            have tv49 : v49.toInt = j.toInt + 1 := by rw [ev49, zadd, show (1 : Int32).toInt = 1 from by decide]; omega
            refine lv_goto (tgt := 7) hx hb dX3_gather_52 (by decide) ?_
            exact ih (v49) (w5) (w25) H locs ls (by omega) (by first | omega | (show 0 ≤ v45.toInt ∧ v45.toInt ≤ v49.toInt; omega)) (by first | exact g3 | (show ∀ i : Nat, (i : Int) < v45.toInt → 0 ≤ (upd w25 (w5 2).toNatClampNeg j i).toInt ∧ (upd w25 (w5 2).toNatClampNeg j i).toInt < (σ 4 2).toInt; have q8 := zcl (x := w5 2) (by omega); intro i hi; by_cases q : i = (w5 2).toNatClampNeg; rw [q, pk_us]; omega; rw [pk_un q]; exact g3 i (by omega))) (by omega) hP hD hS (lv_sub hl [1, 0] rfl)
          · skip
            have ic26 := zeq (a := v23.toInt) (b := 0) rfl (by decide) c26
            refine lv_aload_n hx hb dX3_gather_29 rfl (lv_at hl 0 rfl) ?_
            refine va_get (D := (dC, dI)) (ci := 3) (v := .ref (a 25)) (C := RX3) (T := TX3) (N := 4) hx hb hts in3 hown hK hP 5 rfl rfl 1 (by decide) k9 (fun _ h9 => h9) rfl dX3_gather_30 ?_
            refine lv_aload_n hx hb dX3_gather_33 rfl (lv_at hl 0 rfl) ?_
            refine va_get (D := (dC, dI)) (ci := 3) (v := .int (w5 2)) (C := RX3) (T := TX3) (N := 4) hx hb hts in3 hown hK hP 5 rfl rfl 2 (by decide) k22 (fun _ h9 => h9) rfl dX3_gather_34 ?_
            refine lv_iload_n hx hb dX3_gather_37 rfl (lv_at hl 1 rfl) ?_
            refine va_iast (D := (dC, dI)) (f := w25) hx hb hK hP hD hS 25 1 rfl rfl (i := w5 2) (n := 10) (zin (by omega) (by omega)) dX3_gather_38 (fun H locs hP hD hS => ?_)
            have hP : va_P (dC, dI) vwCl (wX a cB cI cS cII (upC (upC σ 5 w5) 25 (upd (w25) (w5 2 : Int32).toNatClampNeg j))) H := hP
            have hD : va_D A (wX a cB cI cS cII (upC (upC σ 5 w5) 25 (upd (w25) (w5 2 : Int32).toNatClampNeg j))) := hD
            refine lv_aload_n hx hb dX3_gather_39 rfl (lv_at hl 0 rfl) ?_
            refine lv_dup hx hb dX3_gather_40 rfl ?_
            refine va_get (D := (dC, dI)) (ci := 3) (v := .int (w5 2)) (C := RX3) (T := TX3) (N := 4) hx hb hts in3 hown hK hP 5 rfl rfl 2 (by decide) k22 (fun _ h9 => h9) rfl dX3_gather_41 ?_
            refine lv_iconst (v := 1) hx hb dX3_gather_44 (by decide) ?_
            refine lv_iadd hx hb dX3_gather_45 ?_
            refine lv_topi (fun v45 ev45 => ?_)
            have tv45 : v45.toInt = (w5 2).toInt + 1 := by rw [ev45, zadd, show (1 : Int32).toInt = 1 from by decide]; omega
            refine va_put (D := (dC, dI)) (ci := 3) (v := .int v45) (ty := .int) (C := RX3) (T := TX3) (N := 4) hx hb hts in3 tyX3 tyX3_ok nmX3 hown hK hP hD hS 5 rfl rfl 2 (by decide) k22 (fun _ h9 => h9) rfl (by decide +kernel) rfl rfl (Nat.le_of_ble_eq_true rfl) dX3_gather_46 (fun H locs hP hD hS => ?_)
            have hP : va_P (dC, dI) vwCl (wX a cB cI cS cII (upC (upC σ 5 (upd (w5) 2 v45)) 25 (upd (w25) (w5 2 : Int32).toNatClampNeg j))) H := hP
            have hD : va_D A (wX a cB cI cS cII (upC (upC σ 5 (upd (w5) 2 v45)) 25 (upd (w25) (w5 2 : Int32).toNatClampNeg j))) := hD
            obtain ⟨v49, ev49⟩ : ∃ y : Int32, y = j + 1 := ⟨_, rfl⟩
            refine lv_iinc (v := v49) (lv' := [(1, .int v49), (0, .ref (a 5))]) hx hb dX3_gather_49 hl (k := 1) rfl (by rw [ev49]; rfl) (by decide) rfl (fun ls hl => ?_)
            have tv49 : v49.toInt = j.toInt + 1 := by rw [ev49, zadd, show (1 : Int32).toInt = 1 from by decide]; omega
            refine lv_goto (tgt := 7) hx hb dX3_gather_52 (by decide) ?_
            exact ih (v49) (upd (w5) 2 v45) (upd (w25) (w5 2 : Int32).toNatClampNeg j) H locs ls (by omega) (by first | omega | (show 0 ≤ v45.toInt ∧ v45.toInt ≤ v49.toInt; omega)) (by first | exact g3 | (show ∀ i : Nat, (i : Int) < v45.toInt → 0 ≤ (upd w25 (w5 2).toNatClampNeg j i).toInt ∧ (upd w25 (w5 2).toNatClampNeg j i).toInt < (σ 4 2).toInt; have q8 := zcl (x := w5 2) (by omega); intro i hi; by_cases q : i = (w5 2).toNatClampNeg; rw [q, pk_us]; omega; rw [pk_un q]; exact g3 i (by omega))) (by omega) hP hD hS (lv_sub hl [1, 0] rfl)
  have hl := lv_entry ([.ref (a 5)]) (n := 2) (Nat.le_of_ble_eq_true rfl)
  rw [lg_entry_eq]
  generalize (lg_sl ([.ref (a 5)]) ++ List.replicate (2 - (lg_sl ([.ref (a 5)])).length) Slot.unset).toArray = ls at hl ⊢
  have hl : lv_has ls 2 [(0, .ref (a 5))] := hl
  suffices main : ∀ (H : Heap) (locs : List Loc), va_P (dC, dI) vwCl (wX a cB cI cS cII σ) H → va_D A (wX a cB cI cS cII σ) → va_S A s.heap H locs → W p l e (headSpec wsX3_gather RM_X3_gather).room s m ([.ref (a 5)] : List Value).toArray below meth c H locs 0 0 (MQ below (zQv (dC, dI) (zT cB cI cS cII) (wX a cB cI cS cII) A (fun (σ1 : Cn) => ∃ u5 : Nat → Int32, ∃ u25 : Nat → Int32, σ1 = (upC (upC σ 5 u5) 25 u25) ∧ (0 ≤ (u5 2).toInt ∧ (u5 2).toInt ≤ (σ 4 2).toInt) ∧ ∀ j : Nat, (j : Int) < (u5 2).toInt → 0 ≤ (u25 j).toInt ∧ (u25 j).toInt < (σ 4 2).toInt)) ([.ref (a 5)] : List Value).toArray s 0 0 A) (F0 m 0 ls []) from main s.heap [] hP hD hS
  intro H locs hP hD hS
  refine lv_aload_n hx hb dX3_gather_0 rfl (lv_at hl 0 rfl) ?_
  refine lv_iconst (v := 0) hx hb dX3_gather_1 (by decide) ?_
  refine va_put (D := (dC, dI)) (ci := 3) (v := .int 0) (ty := .int) (C := RX3) (T := TX3) (N := 4) hx hb hts in3 tyX3 tyX3_ok nmX3 hown hK hP hD hS 5 rfl rfl 2 (by decide) k22 (fun _ h9 => h9) rfl (by decide +kernel) rfl rfl (Nat.le_of_ble_eq_true rfl) dX3_gather_2 (fun H locs hP hD hS => ?_)
  have hP : va_P (dC, dI) vwCl (wX a cB cI cS cII (upC σ 5 (upd (σ 5) 2 0))) H := hP
  have hD : va_D A (wX a cB cI cS cII (upC σ 5 (upd (σ 5) 2 0))) := hD
  refine lv_iconst (v := 0) hx hb dX3_gather_5 (by decide) ?_
  refine lv_istore_n (lv' := [(1, .int 0), (0, .ref (a 5))]) hx hb dX3_gather_6 rfl hl (by decide) rfl (fun ls hl => ?_)
  exact (LP _) (0) (upd (σ 5) 2 0) (σ 25) H locs ls (by rw [show (0 : Int32).toInt = 0 from by decide]; omega) (by show 0 ≤ (0 : Int32).toInt ∧ (0 : Int32).toInt ≤ (0 : Int32).toInt; decide) (by show ∀ i : Nat, (i : Int) < (0 : Int32).toInt → _; intro i hi; rw [show (0 : Int32).toInt = 0 from by decide] at hi; omega) (Nat.lt_succ_self _) hP hD hS (lv_sub hl [1, 0] rfl)

abbrev RM_X3_number : Room := { frames := 0, cells := 0, slots := 0, locals := 0 }
set_option maxHeartbeats 4000000 in
set_option maxRecDepth 100000 in
theorem c_X3_number (l : Launch) (dC : Nat → ClassId) (dI : Nat → Nat → Nat) (cB cI cS cII : ClassId) (a : Nat → Nat) (N : (Nat → Prop) → State → Prop) (hok : zNok N) (hn : ∀ A U, N A U → zN U) (σ : Cn) (sz : Nat)  (hs : 0 ≤ (σ 5 2).toInt ∧ (σ 5 2).toInt ≤ 10) : Met l yX3_number wsX3_number RM_X3_number (zPc (dC, dI) (zT cB cI cS cII) N (wX a cB cI cS cII) σ sz [.ref (a 5)]) (zQi (dC, dI) (zT cB cI cS cII) (wX a cB cI cS cII) (va_A (wX a cB cI cS cII σ) sz) (fun (r : Int32) (σ1 : Cn) => σ1 = σ ∧ True)) 0 0 (va_A (wX a cB cI cS cII σ) sz) := by
  refine Met.ofW (cc := cX3_number) (maxL := 3) (ret := (some .int)) (by decide) rfl ?_
  intro p e s m args below meth c s₁ B hml hv
  obtain ⟨rfl, hsz, hP, hK, hD0, hN⟩ := hv
  have hx := B.exec
  have hb := B.bytes
  have hr := B.returns
  have hts := atoms_spec (ws := wsX3_number) B.pre
  have hown : s.vm.findClass RX3 = some m.cls := findClass_of_methodNamed B.named
  have hlocks := B.notSynchronized
  subst hsz
  have hD := hD0.self (sz := s.heap.size)
  generalize hAe : va_A (wX a cB cI cS cII σ) s.heap.size = A at hD hN ⊢
  have hA : ∀ q : Nat, s.heap.size ≤ q → A q := fun q h => by rw [← hAe]; exact Or.inr h
  clear hAe hD0
  have hS : va_S A s.heap s.heap [] := va_S.rf
  have in1 : ∀ w ∈ u_ws RX1 TX1 9, w ∈ wsX3_number := by decide +kernel
  have in3 : ∀ w ∈ u_ws RX3 TX3 4, w ∈ wsX3_number := by decide +kernel
  have k15 := hts (.fieldLink RX3 15 "HouseSorted$Sharing" "taker" "[I") (by decide +kernel)
  have k18 := hts (.fieldLink RX3 18 "HouseSorted$Sharing" "house" "LHouseSorted$House;") (by decide +kernel)
  have k22 := hts (.fieldLink RX3 22 "HouseSorted$Sharing" "size" "I") (by decide +kernel)
  have k35 := hts (.fieldLink RX3 35 "HouseSorted$House" "heirs" "I") (by decide +kernel)
  have LP : ∀ n : Nat, (∀ (f : Int32) (j : Int32) (H : Heap) (locs : List Loc) (ls : Array Slot), -1 ≤ j.toInt ∧ j.toInt < 10 → (j.toInt + 1).toNat < n → va_P (dC, dI) vwCl (wX a cB cI cS cII σ) H → va_D A (wX a cB cI cS cII σ) → va_S A s.heap H locs → lv_has ls 3 [(0, .ref (a 5)), (1, .int f), (2, .int j)] → W p l e (headSpec wsX3_number RM_X3_number).room s m ([.ref (a 5)] : List Value).toArray below meth c H locs 0 0 (MQ below (zQi (dC, dI) (zT cB cI cS cII) (wX a cB cI cS cII) A (fun (r : Int32) (σ1 : Cn) => σ1 = σ ∧ True)) ([.ref (a 5)] : List Value).toArray s 0 0 A) (F0 m 9 ls [])) := by
    intro n
    induction n with
    | zero => exact by intros; omega
    | succ n ih =>
      · intro f j H locs ls g1 hmu hP hD hS hl
        refine lv_iload_n hx hb dX3_number_9 rfl (lv_at hl 2 rfl) ?_
        refine lv_if_lt (tgt := 36) hx hb dX3_number_10 (by decide) (fun c10 => ?_) (fun c10 => ?_)
        · skip
          have ic10 := zlt (a := j.toInt) (b := 0) rfl (by decide) c10
          refine lv_iload_n hx hb dX3_number_36 rfl (lv_at hl 1 rfl) ?_
          have hpost : σ = σ ∧ True := by exact ⟨rfl, trivial⟩
          exact W.iret (v := f) hx hb hr (fun t9 ht hW => ⟨⟨f, σ, rfl, hpost, by rw [ht]; exact hP, va_K.moved hW.alike hK, hD⟩, hS.F ht⟩) hS.2.2 dX3_number_37
        · skip
          have ic10 := znlt (a := j.toInt) (b := 0) rfl (by decide) c10
          refine lv_iload_n hx hb dX3_number_13 rfl (lv_at hl 1 rfl) ?_
          refine lv_aload_n hx hb dX3_number_14 rfl (lv_at hl 0 rfl) ?_
          refine va_get (D := (dC, dI)) (ci := 3) (v := .ref (a 4)) (C := RX3) (T := TX3) (N := 4) hx hb hts in3 hown hK hP 5 rfl rfl 0 (by decide) k18 (fun _ h9 => h9) rfl dX3_number_15 ?_
          refine va_get (D := (dC, dI)) (ci := 1) (v := .int (σ 4 1)) (C := RX1) (T := TX1) (N := 9) hx hb hts in1 hown hK hP 4 rfl rfl 1 (by decide) k35 (fun _ h9 => h9) rfl dX3_number_18 ?_
          refine lv_imul hx hb dX3_number_21 ?_
          refine lv_topi (fun v21 ev21 => ?_)
          refine lv_aload_n hx hb dX3_number_22 rfl (lv_at hl 0 rfl) ?_
          refine va_get (D := (dC, dI)) (ci := 3) (v := .ref (a 26)) (C := RX3) (T := TX3) (N := 4) hx hb hts in3 hown hK hP 5 rfl rfl 3 (by decide) k15 (fun _ h9 => h9) rfl dX3_number_23 ?_
          refine lv_iload_n hx hb dX3_number_26 rfl (lv_at hl 2 rfl) ?_
          refine va_iald (D := (dC, dI)) (f := σ 26) hx hb hK hP 26 1 rfl rfl (i := j) (n := 10) (zin (by omega) (by omega)) dX3_number_27 ?_
          refine lv_topi (fun v27 ev27 => ?_)
          have tv27 := congrArg Int32.toInt ev27
          refine lv_iadd hx hb dX3_number_28 ?_
          refine lv_topi (fun v28 ev28 => ?_)
          refine lv_istore_n (lv' := [(1, .int v28), (0, .ref (a 5)), (2, .int j)]) hx hb dX3_number_29 rfl hl (by decide) rfl (fun ls hl => ?_)
          obtain ⟨v30, ev30⟩ : ∃ y : Int32, y = j + (-1) := ⟨_, rfl⟩
          refine lv_iinc (v := v30) (lv' := [(2, .int v30), (1, .int v28), (0, .ref (a 5))]) hx hb dX3_number_30 hl (k := 2) rfl (by rw [ev30]; rfl) (by decide) rfl (fun ls hl => ?_)
          have tv30 : v30.toInt = j.toInt + (-1) := by rw [ev30, zadd, show ((-1) : Int32).toInt = (-1) from by decide]; omega
          refine lv_goto (tgt := 9) hx hb dX3_number_33 (by decide) ?_
          exact ih (v28) (v30)  H locs ls (by omega) (by omega) hP hD hS (lv_sub hl [2, 1, 0] rfl)
  have hl := lv_entry ([.ref (a 5)]) (n := 3) (Nat.le_of_ble_eq_true rfl)
  rw [lg_entry_eq]
  generalize (lg_sl ([.ref (a 5)]) ++ List.replicate (3 - (lg_sl ([.ref (a 5)])).length) Slot.unset).toArray = ls at hl ⊢
  have hl : lv_has ls 3 [(0, .ref (a 5))] := hl
  suffices main : ∀ (H : Heap) (locs : List Loc), va_P (dC, dI) vwCl (wX a cB cI cS cII σ) H → va_D A (wX a cB cI cS cII σ) → va_S A s.heap H locs → W p l e (headSpec wsX3_number RM_X3_number).room s m ([.ref (a 5)] : List Value).toArray below meth c H locs 0 0 (MQ below (zQi (dC, dI) (zT cB cI cS cII) (wX a cB cI cS cII) A (fun (r : Int32) (σ1 : Cn) => σ1 = σ ∧ True)) ([.ref (a 5)] : List Value).toArray s 0 0 A) (F0 m 0 ls []) from main s.heap [] hP hD hS
  intro H locs hP hD hS
  refine lv_iconst (v := 0) hx hb dX3_number_0 (by decide) ?_
  refine lv_istore_n (lv' := [(1, .int 0), (0, .ref (a 5))]) hx hb dX3_number_1 rfl hl (by decide) rfl (fun ls hl => ?_)
  refine lv_aload_n hx hb dX3_number_2 rfl (lv_at hl 1 rfl) ?_
  refine va_get (D := (dC, dI)) (ci := 3) (v := .int (σ 5 2)) (C := RX3) (T := TX3) (N := 4) hx hb hts in3 hown hK hP 5 rfl rfl 2 (by decide) k22 (fun _ h9 => h9) rfl dX3_number_3 ?_
  refine lv_iconst (v := 1) hx hb dX3_number_6 (by decide) ?_
  refine lv_isub hx hb dX3_number_7 ?_
  refine lv_topi (fun v7 ev7 => ?_)
  have tv7 : v7.toInt = (σ 5 2).toInt - 1 := by rw [ev7, zsub, show (1 : Int32).toInt = 1 from by decide]; omega
  refine lv_istore_n (lv' := [(2, .int v7), (1, .int 0), (0, .ref (a 5))]) hx hb dX3_number_8 rfl hl (by decide) rfl (fun ls hl => ?_)
  exact (LP _) (0) (v7)  H locs ls (by omega) (Nat.lt_succ_self _) hP hD hS (lv_sub hl [2, 1, 0] rfl)

abbrev RM_X3_readNumber : Room := { frames := 4, cells := 0, slots := 0, locals := 85 }
set_option maxHeartbeats 4000000 in
set_option maxRecDepth 100000 in
theorem c_X3_readNumber (l : Launch) (dC : Nat → ClassId) (dI : Nat → Nat → Nat) (cB cI cS cII : ClassId) (a : Nat → Nat) (N : (Nat → Prop) → State → Prop) (hok : zNok N) (hn : ∀ A U, N A U → zN U) (σ : Cn) (sz : Nat) (x1 : Int32) (h0 : 0 ≤ (σ 4 1).toInt ∧ (σ 4 1).toInt ≤ 4) (h2 : 0 ≤ (σ 4 2).toInt ∧ (σ 4 2).toInt ≤ 10) : Met l yX3_readNumber wsX3_readNumber RM_X3_readNumber (zPc (dC, dI) (zT cB cI cS cII) N (wX a cB cI cS cII) σ sz [.ref (a 5), .int x1]) (zQi (dC, dI) (zT cB cI cS cII) (wX a cB cI cS cII) (va_A (wX a cB cI cS cII σ) sz) (fun (r : Int32) (σ1 : Cn) => ∃ u5 : Nat → Int32, ∃ u25 : Nat → Int32, ∃ u26 : Nat → Int32, σ1 = (upC (upC (upC σ 5 u5) 25 u25) 26 u26) ∧ ((r : Int32).toInt = 1 ∨ (r : Int32).toInt = 0) ∧ (0 ≤ (u5 2).toInt ∧ (u5 2).toInt ≤ 10) ∧ ∀ j : Nat, (j : Int) < (u5 2).toInt → 0 ≤ (u25 j).toInt ∧ (u25 j).toInt < 10)) 0 0 (va_A (wX a cB cI cS cII σ) sz) := by
  refine Met.ofW (cc := cX3_readNumber) (maxL := 4) (ret := (some .boolean)) (by decide) rfl ?_
  intro p e s m args below meth c s₁ B hml hv
  obtain ⟨rfl, hsz, hP, hK, hD0, hN⟩ := hv
  have hx := B.exec
  have hb := B.bytes
  have hr := B.returns
  have hts := atoms_spec (ws := wsX3_readNumber) B.pre
  have hown : s.vm.findClass RX3 = some m.cls := findClass_of_methodNamed B.named
  have hlocks := B.notSynchronized
  subst hsz
  have hD := hD0.self (sz := s.heap.size)
  generalize hAe : va_A (wX a cB cI cS cII σ) s.heap.size = A at hD hN ⊢
  have hA : ∀ q : Nat, s.heap.size ≤ q → A q := fun q h => by rw [← hAe]; exact Or.inr h
  clear hAe hD0
  have hS : va_S A s.heap s.heap [] := va_S.rf
  have in1 : ∀ w ∈ u_ws RX1 TX1 9, w ∈ wsX3_readNumber := by decide +kernel
  have in3 : ∀ w ∈ u_ws RX3 TX3 4, w ∈ wsX3_readNumber := by decide +kernel
  have k15 := hts (.fieldLink RX3 15 "HouseSorted$Sharing" "taker" "[I") (by decide +kernel)
  have k18 := hts (.fieldLink RX3 18 "HouseSorted$Sharing" "house" "LHouseSorted$House;") (by decide +kernel)
  have k22 := hts (.fieldLink RX3 22 "HouseSorted$Sharing" "size" "I") (by decide +kernel)
  have k35 := hts (.fieldLink RX3 35 "HouseSorted$House" "heirs" "I") (by decide +kernel)
  have LP : ∀ n : Nat, (∀ (f : Int32) (j : Int32) (w5 : Nat → Int32) (w25 : Nat → Int32) (w26 : Nat → Int32) (H : Heap) (locs : List Loc) (ls : Array Slot), 0 ≤ j.toInt ∧ j.toInt ≤ 10 → 0 ≤ (w5 2).toInt ∧ (w5 2).toInt ≤ 10 → (∀ i : Nat, (i : Int) < (w5 2).toInt → 0 ≤ (w25 i).toInt ∧ (w25 i).toInt < 10) → 0 ≤ f.toInt → (10 - j.toInt).toNat < n → va_P (dC, dI) vwCl (wX a cB cI cS cII (upC (upC (upC σ 5 w5) 25 w25) 26 w26)) H → va_D A (wX a cB cI cS cII (upC (upC (upC σ 5 w5) 25 w25) 26 w26)) → va_S A s.heap H locs → lv_has ls 4 [(0, .ref (a 5)), (1, .int x1), (2, .int f), (3, .int j)] → W p l e (headSpec wsX3_readNumber RM_X3_readNumber).room s m ([.ref (a 5), .int x1] : List Value).toArray below meth c H locs 0 0 (MQ below (zQi (dC, dI) (zT cB cI cS cII) (wX a cB cI cS cII) A (fun (r : Int32) (σ1 : Cn) => ∃ u5 : Nat → Int32, ∃ u25 : Nat → Int32, ∃ u26 : Nat → Int32, σ1 = (upC (upC (upC σ 5 u5) 25 u25) 26 u26) ∧ ((r : Int32).toInt = 1 ∨ (r : Int32).toInt = 0) ∧ (0 ≤ (u5 2).toInt ∧ (u5 2).toInt ≤ 10) ∧ ∀ j : Nat, (j : Int) < (u5 2).toInt → 0 ≤ (u25 j).toInt ∧ (u25 j).toInt < 10)) ([.ref (a 5), .int x1] : List Value).toArray s 0 0 A) (F0 m 14 ls [])) := by
    intro n
    induction n with
    | zero => exact by intros; omega
    | succ n ih =>
      · intro f j w5 w25 w26 H locs ls g1 g2 g3 g4 hmu hP hD hS hl
        refine lv_iload_n hx hb dX3_readNumber_14 rfl (lv_at hl 3 rfl) ?_
        refine lv_aload_n hx hb dX3_readNumber_15 rfl (lv_at hl 0 rfl) ?_
        refine va_get (D := (dC, dI)) (ci := 3) (v := .int (w5 2)) (C := RX3) (T := TX3) (N := 4) hx hb hts in3 hown hK hP 5 rfl rfl 2 (by decide) k22 (fun _ h9 => h9) rfl dX3_readNumber_16 ?_
        refine lv_icmp_ge (tgt := 65) hx hb dX3_readNumber_19 (by decide) (fun c19 => ?_) (fun c19 => ?_)
        · skip
          have ic19 := zle (a := (w5 2).toInt) (b := j.toInt) rfl rfl c19
          refine lv_iload_n hx hb dX3_readNumber_65 rfl (lv_at hl 2 rfl) ?_
          refine lv_if_ne (tgt := 73) hx hb dX3_readNumber_66 (by decide) (fun c66 => ?_) (fun c66 => ?_)
          · skip
            have ic66 := zneq (a := f.toInt) (b := 0) rfl (by decide) c66
            refine lv_iconst (v := 0) hx hb dX3_readNumber_73 (by decide) ?_
            have hpost : ∃ u5 : Nat → Int32, ∃ u25 : Nat → Int32, ∃ u26 : Nat → Int32, (upC (upC (upC σ 5 w5) 25 w25) 26 w26) = (upC (upC (upC σ 5 u5) 25 u25) 26 u26) ∧ ((0 : Int32).toInt = 1 ∨ (0 : Int32).toInt = 0) ∧ (0 ≤ (u5 2).toInt ∧ (u5 2).toInt ≤ 10) ∧ ∀ j : Nat, (j : Int) < (u5 2).toInt → 0 ≤ (u25 j).toInt ∧ (u25 j).toInt < 10 := by exact ⟨_, _, _, rfl, by decide, g2, g3⟩
            exact W.zret (v := 0) hx hb hr (by decide +kernel) (fun t9 ht hW => ⟨⟨0, (upC (upC (upC σ 5 w5) 25 w25) 26 w26), rfl, hpost, by rw [ht]; exact hP, va_K.moved hW.alike hK, hD⟩, hS.F ht⟩) hS.2.2 dX3_readNumber_74
          · skip
            have ic66 := zeq (a := f.toInt) (b := 0) rfl (by decide) c66
            refine lv_iconst (v := 1) hx hb dX3_readNumber_69 (by decide) ?_
            refine lv_goto (tgt := 74) hx hb dX3_readNumber_70 (by decide) ?_
            have hpost : ∃ u5 : Nat → Int32, ∃ u25 : Nat → Int32, ∃ u26 : Nat → Int32, (upC (upC (upC σ 5 w5) 25 w25) 26 w26) = (upC (upC (upC σ 5 u5) 25 u25) 26 u26) ∧ ((1 : Int32).toInt = 1 ∨ (1 : Int32).toInt = 0) ∧ (0 ≤ (u5 2).toInt ∧ (u5 2).toInt ≤ 10) ∧ ∀ j : Nat, (j : Int) < (u5 2).toInt → 0 ≤ (u25 j).toInt ∧ (u25 j).toInt < 10 := by exact ⟨_, _, _, rfl, by decide, g2, g3⟩
            exact W.zret (v := 1) hx hb hr (by decide +kernel) (fun t9 ht hW => ⟨⟨1, (upC (upC (upC σ 5 w5) 25 w25) 26 w26), rfl, hpost, by rw [ht]; exact hP, va_K.moved hW.alike hK, hD⟩, hS.F ht⟩) hS.2.2 dX3_readNumber_74
        · skip
          have ic19 := znle (a := (w5 2).toInt) (b := j.toInt) rfl rfl c19
          refine lv_aload_n hx hb dX3_readNumber_22 rfl (lv_at hl 0 rfl) ?_
          refine va_get (D := (dC, dI)) (ci := 3) (v := .ref (a 4)) (C := RX3) (T := TX3) (N := 4) hx hb hts in3 hown hK hP 5 rfl rfl 0 (by decide) k18 (fun _ h9 => h9) rfl dX3_readNumber_23 ?_
          refine va_get (D := (dC, dI)) (ci := 1) (v := .int (σ 4 1)) (C := RX1) (T := TX1) (N := 9) hx hb hts in1 hown hK hP 4 rfl rfl 1 (by decide) k35 (fun _ h9 => h9) rfl dX3_readNumber_26 ?_
          refine lv_if_gt (tgt := 34) hx hb dX3_readNumber_29 (by decide) (fun c29 => ?_) (fun c29 => ?_)
          · skip
            have ic29 := zlt (a := 0) (b := (σ 4 1).toInt) (by decide) rfl c29
            refine lv_aload_n hx hb dX3_readNumber_34 rfl (lv_at hl 0 rfl) ?_
            refine va_get (D := (dC, dI)) (ci := 3) (v := .ref (a 26)) (C := RX3) (T := TX3) (N := 4) hx hb hts in3 hown hK hP 5 rfl rfl 3 (by decide) k15 (fun _ h9 => h9) rfl dX3_readNumber_35 ?_
            refine lv_iload_n hx hb dX3_readNumber_38 rfl (lv_at hl 3 rfl) ?_
            refine lv_iload_n hx hb dX3_readNumber_39 rfl (lv_at hl 2 rfl) ?_
            refine lv_aload_n hx hb dX3_readNumber_40 rfl (lv_at hl 0 rfl) ?_
            refine va_get (D := (dC, dI)) (ci := 3) (v := .ref (a 4)) (C := RX3) (T := TX3) (N := 4) hx hb hts in3 hown hK hP 5 rfl rfl 0 (by decide) k18 (fun _ h9 => h9) rfl dX3_readNumber_41 ?_
            refine va_get (D := (dC, dI)) (ci := 1) (v := .int (σ 4 1)) (C := RX1) (T := TX1) (N := 9) hx hb hts in1 hown hK hP 4 rfl rfl 1 (by decide) k35 (fun _ h9 => h9) rfl dX3_readNumber_44 ?_
            refine lv_irem hx hb dX3_readNumber_47 (fun h0 => by have h1 := zeq (a := (σ 4 1).toInt) (b := 0) rfl (by decide) h0; omega) ?_
            refine lv_topi (fun v47 ev47 => ?_)
            have tv47 := zrem (x := f) (y := σ 4 1) (by omega) (by omega) ev47
            refine va_iast (D := (dC, dI)) (f := w26) hx hb hK hP hD hS 26 1 rfl rfl (i := j) (n := 10) (zin (by omega) (by omega)) dX3_readNumber_48 (fun H locs hP hD hS => ?_)
            have hP : va_P (dC, dI) vwCl (wX a cB cI cS cII (upC (upC (upC σ 5 w5) 25 w25) 26 (upd (w26) (j).toNatClampNeg v47))) H := hP
            have hD : va_D A (wX a cB cI cS cII (upC (upC (upC σ 5 w5) 25 w25) 26 (upd (w26) (j).toNatClampNeg v47))) := hD
            refine lv_iload_n hx hb dX3_readNumber_49 rfl (lv_at hl 2 rfl) ?_
            refine lv_aload_n hx hb dX3_readNumber_50 rfl (lv_at hl 0 rfl) ?_
            refine va_get (D := (dC, dI)) (ci := 3) (v := .ref (a 4)) (C := RX3) (T := TX3) (N := 4) hx hb hts in3 hown hK hP 5 rfl rfl 0 (by decide) k18 (fun _ h9 => h9) rfl dX3_readNumber_51 ?_
            refine va_get (D := (dC, dI)) (ci := 1) (v := .int (σ 4 1)) (C := RX1) (T := TX1) (N := 9) hx hb hts in1 hown hK hP 4 rfl rfl 1 (by decide) k35 (fun _ h9 => h9) rfl dX3_readNumber_54 ?_
            refine lv_idiv hx hb dX3_readNumber_57 (fun h0 => by have h1 := zeq (a := (σ 4 1).toInt) (b := 0) rfl (by decide) h0; omega) ?_
            refine lv_topi (fun v57 ev57 => ?_)
            have tv57 := zdiv (x := f) (y := σ 4 1) (by omega) (by omega) ev57
            refine lv_istore_n (lv' := [(2, .int v57), (0, .ref (a 5)), (1, .int x1), (3, .int j)]) hx hb dX3_readNumber_58 rfl hl (by decide) rfl (fun ls hl => ?_)
            obtain ⟨v59, ev59⟩ : ∃ y : Int32, y = j + 1 := ⟨_, rfl⟩
            refine lv_iinc (v := v59) (lv' := [(3, .int v59), (2, .int v57), (0, .ref (a 5)), (1, .int x1)]) hx hb dX3_readNumber_59 hl (k := 3) rfl (by rw [ev59]; rfl) (by decide) rfl (fun ls hl => ?_)
            have tv59 : v59.toInt = j.toInt + 1 := by rw [ev59, zadd, show (1 : Int32).toInt = 1 from by decide]; omega
            refine lv_goto (tgt := 14) hx hb dX3_readNumber_62 (by decide) ?_
            exact ih (v57) (v59) (w5) (w25) (upd (w26) (j).toNatClampNeg v47) H locs ls (by omega) (g2) (g3) (by omega) (by omega) hP hD hS (lv_sub hl [2, 3, 1, 0] rfl)
          · skip
            have ic29 := znlt (a := 0) (b := (σ 4 1).toInt) (by decide) rfl c29
            refine lv_iconst (v := 0) hx hb dX3_readNumber_32 (by decide) ?_
            have hpost : ∃ u5 : Nat → Int32, ∃ u25 : Nat → Int32, ∃ u26 : Nat → Int32, (upC (upC (upC σ 5 w5) 25 w25) 26 w26) = (upC (upC (upC σ 5 u5) 25 u25) 26 u26) ∧ ((0 : Int32).toInt = 1 ∨ (0 : Int32).toInt = 0) ∧ (0 ≤ (u5 2).toInt ∧ (u5 2).toInt ≤ 10) ∧ ∀ j : Nat, (j : Int) < (u5 2).toInt → 0 ≤ (u25 j).toInt ∧ (u25 j).toInt < 10 := by exact ⟨_, _, _, rfl, by decide, g2, g3⟩
            exact W.zret (v := 0) hx hb hr (by decide +kernel) (fun t9 ht hW => ⟨⟨0, (upC (upC (upC σ 5 w5) 25 w25) 26 w26), rfl, hpost, by rw [ht]; exact hP, va_K.moved hW.alike hK, hD⟩, hS.F ht⟩) hS.2.2 dX3_readNumber_33
  have hl := lv_entry ([.ref (a 5), .int x1]) (n := 4) (Nat.le_of_ble_eq_true rfl)
  rw [lg_entry_eq]
  generalize (lg_sl ([.ref (a 5), .int x1]) ++ List.replicate (4 - (lg_sl ([.ref (a 5), .int x1])).length) Slot.unset).toArray = ls at hl ⊢
  have hl : lv_has ls 4 [(0, .ref (a 5)), (1, .int x1)] := hl
  suffices main : ∀ (H : Heap) (locs : List Loc), va_P (dC, dI) vwCl (wX a cB cI cS cII σ) H → va_D A (wX a cB cI cS cII σ) → va_S A s.heap H locs → W p l e (headSpec wsX3_readNumber RM_X3_readNumber).room s m ([.ref (a 5), .int x1] : List Value).toArray below meth c H locs 0 0 (MQ below (zQi (dC, dI) (zT cB cI cS cII) (wX a cB cI cS cII) A (fun (r : Int32) (σ1 : Cn) => ∃ u5 : Nat → Int32, ∃ u25 : Nat → Int32, ∃ u26 : Nat → Int32, σ1 = (upC (upC (upC σ 5 u5) 25 u25) 26 u26) ∧ ((r : Int32).toInt = 1 ∨ (r : Int32).toInt = 0) ∧ (0 ≤ (u5 2).toInt ∧ (u5 2).toInt ≤ 10) ∧ ∀ j : Nat, (j : Int) < (u5 2).toInt → 0 ≤ (u25 j).toInt ∧ (u25 j).toInt < 10)) ([.ref (a 5), .int x1] : List Value).toArray s 0 0 A) (F0 m 0 ls []) from main s.heap [] hP hD hS
  intro H locs hP hD hS
  refine lv_aload_n hx hb dX3_readNumber_0 rfl (lv_at hl 0 rfl) ?_
  refine zcallv (va_runV (As := []) (rest := []) ⟨hx, hb, hml, hown, hts⟩ (c_X3_gather l dC dI cB cI cS cII a N hok hn σ H.size  h0 h2) (cwV 0 hts gX3_readNumber_X3_gather rfl rfl rfl (by decide +kernel) ⟨Nat.le_of_ble_eq_true rfl, Nat.le_of_ble_eq_true rfl⟩) (zpreV (wf := wX a cB cI cS cII) (q0 := 5) (ci := 3) hok hN hS hA hK hP hD rfl rfl) rfl rfl hl.1 rfl (lv_room (Nat.le_of_ble_eq_true rfl)) dX3_readNumber_1 ⟨Nat.zero_le _, Nat.zero_le _⟩) hD hS hA (fun σ1 H locs hv1 hP hD hS => ?_)
  obtain ⟨u5_1, u25_1, es9, hv1⟩ := hv1
  subst σ1
  have hP : va_P (dC, dI) vwCl (wX a cB cI cS cII (upC (upC σ 5 u5_1) 25 u25_1)) H := hP
  have hD : va_D A (wX a cB cI cS cII (upC (upC σ 5 u5_1) 25 u25_1)) := hD
  refine lv_iload_n hx hb dX3_readNumber_4 rfl (lv_at hl 1 rfl) ?_
  refine lv_if_ge (tgt := 10) hx hb dX3_readNumber_5 (by decide) (fun c5 => ?_) (fun c5 => ?_)
  · skip
    have ic5 := zle (a := 0) (b := x1.toInt) (by decide) rfl c5
    refine lv_iload_n hx hb dX3_readNumber_10 rfl (lv_at hl 1 rfl) ?_
    refine lv_istore_n (lv' := [(2, .int x1), (0, .ref (a 5)), (1, .int x1)]) hx hb dX3_readNumber_11 rfl hl (by decide) rfl (fun ls hl => ?_)
    refine lv_iconst (v := 0) hx hb dX3_readNumber_12 (by decide) ?_
    refine lv_istore_n (lv' := [(3, .int 0), (2, .int x1), (0, .ref (a 5)), (1, .int x1)]) hx hb dX3_readNumber_13 rfl hl (by decide) rfl (fun ls hl => ?_)
    exact (LP _) (x1) (0) (u5_1) (u25_1) (σ 26) H locs ls (by decide) (by omega) (fun i hi => by have q := hv1.2 i hi; omega) (by omega) (Nat.lt_succ_self _) hP hD hS (lv_sub hl [2, 3, 1, 0] rfl)
  · skip
    have ic5 := znle (a := 0) (b := x1.toInt) (by decide) rfl c5
    refine lv_iconst (v := 0) hx hb dX3_readNumber_8 (by decide) ?_
    have hpost : ∃ u5 : Nat → Int32, ∃ u25 : Nat → Int32, ∃ u26 : Nat → Int32, (upC (upC σ 5 u5_1) 25 u25_1) = (upC (upC (upC σ 5 u5) 25 u25) 26 u26) ∧ ((0 : Int32).toInt = 1 ∨ (0 : Int32).toInt = 0) ∧ (0 ≤ (u5 2).toInt ∧ (u5 2).toInt ≤ 10) ∧ ∀ j : Nat, (j : Int) < (u5 2).toInt → 0 ≤ (u25 j).toInt ∧ (u25 j).toInt < 10 := by exact ⟨u5_1, u25_1, σ 26, upC_id (upC (upC σ 5 u5_1) 25 u25_1) 26, by decide, by omega, fun i hi => by have q := hv1.2 i hi; omega⟩
    exact W.zret (v := 0) hx hb hr (by decide +kernel) (fun t9 ht hW => ⟨⟨0, (upC (upC σ 5 u5_1) 25 u25_1), rfl, hpost, by rw [ht]; exact hP, va_K.moved hW.alike hK, hD⟩, hS.F ht⟩) hS.2.2 dX3_readNumber_9

abbrev RM_X3_heirAtTurn : Room := { frames := 1, cells := 0, slots := 0, locals := 21 }
set_option maxHeartbeats 4000000 in
set_option maxRecDepth 100000 in
theorem c_X3_heirAtTurn (l : Launch) (dC : Nat → ClassId) (dI : Nat → Nat → Nat) (cB cI cS cII : ClassId) (a : Nat → Nat) (N : (Nat → Prop) → State → Prop) (hok : zNok N) (hn : ∀ A U, N A U → zN U) (σ : Cn) (sz : Nat) (x1 : Int32) (x2 : Int32) (h0 : 0 ≤ (σ 4 1).toInt ∧ (σ 4 1).toInt ≤ 4) (h1 : 0 ≤ x2.toInt) : Met l yX3_heirAtTurn wsX3_heirAtTurn RM_X3_heirAtTurn (zPc (dC, dI) (zT cB cI cS cII) N (wX a cB cI cS cII) σ sz [.ref (a 5), .int x1, .int x2]) (zQi (dC, dI) (zT cB cI cS cII) (wX a cB cI cS cII) (va_A (wX a cB cI cS cII σ) sz) (fun (r : Int32) (σ1 : Cn) => σ1 = σ ∧ 0 ≤ (r : Int32).toInt ∧ (r : Int32).toInt < 4)) 0 0 (va_A (wX a cB cI cS cII σ) sz) := by
  refine Met.ofW (cc := cX3_heirAtTurn) (maxL := 6) (ret := (some .int)) (by decide) rfl ?_
  intro p e s m args below meth c s₁ B hml hv
  obtain ⟨rfl, hsz, hP, hK, hD0, hN⟩ := hv
  have hx := B.exec
  have hb := B.bytes
  have hr := B.returns
  have hts := atoms_spec (ws := wsX3_heirAtTurn) B.pre
  have hown : s.vm.findClass RX3 = some m.cls := findClass_of_methodNamed B.named
  have hlocks := B.notSynchronized
  subst hsz
  have hD := hD0.self (sz := s.heap.size)
  generalize hAe : va_A (wX a cB cI cS cII σ) s.heap.size = A at hD hN ⊢
  have hA : ∀ q : Nat, s.heap.size ≤ q → A q := fun q h => by rw [← hAe]; exact Or.inr h
  clear hAe hD0
  have hS : va_S A s.heap s.heap [] := va_S.rf
  have in1 : ∀ w ∈ u_ws RX1 TX1 9, w ∈ wsX3_heirAtTurn := by decide +kernel
  have in3 : ∀ w ∈ u_ws RX3 TX3 4, w ∈ wsX3_heirAtTurn := by decide +kernel
  have k18 := hts (.fieldLink RX3 18 "HouseSorted$Sharing" "house" "LHouseSorted$House;") (by decide +kernel)
  have k35 := hts (.fieldLink RX3 35 "HouseSorted$House" "heirs" "I") (by decide +kernel)
  have kcmax := hts (.code Lib.Math.max.name Lib.Math.max.code 2 (some .int)) (by decide +kernel)
  have kiM := hts (.initialized "java/lang/Math") (by decide +kernel)
  have km53 := hts (.methodLink RX3 53 Lib.Math.max.name) (by decide +kernel)
  have ksmax := hts (.static Lib.Math.max.name) (by decide +kernel)
  have hl := lv_entry ([.ref (a 5), .int x1, .int x2]) (n := 6) (Nat.le_of_ble_eq_true rfl)
  rw [lg_entry_eq]
  generalize (lg_sl ([.ref (a 5), .int x1, .int x2]) ++ List.replicate (6 - (lg_sl ([.ref (a 5), .int x1, .int x2])).length) Slot.unset).toArray = ls at hl ⊢
  have hl : lv_has ls 6 [(0, .ref (a 5)), (1, .int x1), (2, .int x2)] := hl
  suffices main : ∀ (H : Heap) (locs : List Loc), va_P (dC, dI) vwCl (wX a cB cI cS cII σ) H → va_D A (wX a cB cI cS cII σ) → va_S A s.heap H locs → W p l e (headSpec wsX3_heirAtTurn RM_X3_heirAtTurn).room s m ([.ref (a 5), .int x1, .int x2] : List Value).toArray below meth c H locs 0 0 (MQ below (zQi (dC, dI) (zT cB cI cS cII) (wX a cB cI cS cII) A (fun (r : Int32) (σ1 : Cn) => σ1 = σ ∧ 0 ≤ (r : Int32).toInt ∧ (r : Int32).toInt < 4)) ([.ref (a 5), .int x1, .int x2] : List Value).toArray s 0 0 A) (F0 m 0 ls []) from main s.heap [] hP hD hS
  intro H locs hP hD hS
  refine lv_iconst (v := 1) hx hb dX3_heirAtTurn_0 (by decide) ?_
  refine lv_aload_n hx hb dX3_heirAtTurn_1 rfl (lv_at hl 0 rfl) ?_
  refine va_get (D := (dC, dI)) (ci := 3) (v := .ref (a 4)) (C := RX3) (T := TX3) (N := 4) hx hb hts in3 hown hK hP 5 rfl rfl 0 (by decide) k18 (fun _ h9 => h9) rfl dX3_heirAtTurn_2 ?_
  refine va_get (D := (dC, dI)) (ci := 1) (v := .int (σ 4 1)) (C := RX1) (T := TX1) (N := 9) hx hb hts in1 hown hK hP 4 rfl rfl 1 (by decide) k35 (fun _ h9 => h9) rfl dX3_heirAtTurn_5 ?_
  refine va_mmax hx hb (hml.trans hl.1.symm) hown km53 ksmax kiM kcmax (Nat.le_of_ble_eq_true rfl) (Nat.le_of_ble_eq_true rfl) (Nat.zero_le _) (Nat.zero_le _) dX3_heirAtTurn_8 ?_
  refine lv_topi (fun v8 ev8 => ?_)
  have tv8 := zmax (x := 1) (y := σ 4 1) (a := 1) (b := (σ 4 1).toInt) (by decide) rfl ev8
  refine lv_istore_n (lv' := [(3, .int v8), (0, .ref (a 5)), (1, .int x1), (2, .int x2)]) hx hb dX3_heirAtTurn_11 rfl hl (by decide) rfl (fun ls hl => ?_)
  refine lv_iload_n hx hb dX3_heirAtTurn_12 rfl (lv_at hl 3 rfl) ?_
  refine lv_iload_n hx hb dX3_heirAtTurn_13 rfl (lv_at hl 0 rfl) ?_
  refine lv_irem hx hb dX3_heirAtTurn_14 (fun h0 => by have h1 := zeq (a := v8.toInt) (b := 0) rfl (by decide) h0; omega) ?_
  refine lv_topi (fun v14 ev14 => ?_)
  have tv14 := zrem (x := x2) (y := v8) (by omega) (by omega) ev14
  refine lv_istore (lv' := [(4, .int v14), (3, .int v8), (0, .ref (a 5)), (1, .int x1), (2, .int x2)]) hx hb dX3_heirAtTurn_15 hl (by decide) rfl (fun ls hl => ?_)
  refine lv_iload_n hx hb dX3_heirAtTurn_17 rfl (lv_at hl 3 rfl) ?_
  refine lv_iconst (v := 1) hx hb dX3_heirAtTurn_18 (by decide) ?_
  refine lv_icmp_ne (tgt := 35) hx hb dX3_heirAtTurn_19 (by decide) (fun c19 => ?_) (fun c19 => ?_)
  · skip
    have ic19 := zneq (a := x1.toInt) (b := 1) rfl (by decide) c19
    refine lv_iconst (v := 0) hx hb dX3_heirAtTurn_35 (by decide) ?_
    refine lv_istore (lv' := [(5, .int 0), (4, .int v14), (3, .int v8), (0, .ref (a 5)), (1, .int x1), (2, .int x2)]) hx hb dX3_heirAtTurn_36 hl (by decide) rfl (fun ls hl => ?_)
    refine lv_iload hx hb dX3_heirAtTurn_38 (lv_at hl 0 rfl) ?_
    refine lv_if_eq (tgt := 52) hx hb dX3_heirAtTurn_40 (by decide) (fun c40 => ?_) (fun c40 => ?_)
    · skip
      have ic40 := zeq (a := 0) (b := 0) (by decide) (by decide) c40
      refine lv_iload hx hb dX3_heirAtTurn_52 (lv_at hl 1 rfl) ?_
      have hpost : σ = σ ∧ 0 ≤ (v14 : Int32).toInt ∧ (v14 : Int32).toInt < 4 := by exact ⟨rfl, by omega⟩
      exact W.iret (v := v14) hx hb hr (fun t9 ht hW => ⟨⟨v14, σ, rfl, hpost, by rw [ht]; exact hP, va_K.moved hW.alike hK, hD⟩, hS.F ht⟩) hS.2.2 dX3_heirAtTurn_54
    · skip
      have ic40 := zneq (a := 0) (b := 0) (by decide) (by decide) c40
      refine lv_iload_n hx hb dX3_heirAtTurn_43 rfl (lv_at hl 2 rfl) ?_
      refine lv_iconst (v := 1) hx hb dX3_heirAtTurn_44 (by decide) ?_
      refine lv_isub hx hb dX3_heirAtTurn_45 ?_
      refine lv_topi (fun v45 ev45 => ?_)
      have tv45 : v45.toInt = v8.toInt - 1 := by rw [ev45, zsub, show (1 : Int32).toInt = 1 from by decide]; omega
      refine lv_iload hx hb dX3_heirAtTurn_46 (lv_at hl 1 rfl) ?_
      refine lv_isub hx hb dX3_heirAtTurn_48 ?_
      refine lv_topi (fun v48 ev48 => ?_)
      have tv48 : v48.toInt = v45.toInt - v14.toInt := by rw [ev48, zsub]; omega
      refine lv_goto (tgt := 54) hx hb dX3_heirAtTurn_49 (by decide) ?_
      have hpost : σ = σ ∧ 0 ≤ (v48 : Int32).toInt ∧ (v48 : Int32).toInt < 4 := by exact ⟨rfl, by omega⟩
      exact W.iret (v := v48) hx hb hr (fun t9 ht hW => ⟨⟨v48, σ, rfl, hpost, by rw [ht]; exact hP, va_K.moved hW.alike hK, hD⟩, hS.F ht⟩) hS.2.2 dX3_heirAtTurn_54
  · skip
    have ic19 := zeq (a := x1.toInt) (b := 1) rfl (by decide) c19
    refine lv_iload_n hx hb dX3_heirAtTurn_22 rfl (lv_at hl 4 rfl) ?_
    refine lv_iload_n hx hb dX3_heirAtTurn_23 rfl (lv_at hl 1 rfl) ?_
    refine lv_idiv hx hb dX3_heirAtTurn_24 (fun h0 => by have h1 := zeq (a := v8.toInt) (b := 0) rfl (by decide) h0; omega) ?_
    refine lv_topi (fun v24 ev24 => ?_)
    have tv24 := zdiv (x := x2) (y := v8) (by omega) (by omega) ev24
    refine lv_iconst (v := 2) hx hb dX3_heirAtTurn_25 (by decide) ?_
    refine lv_irem hx hb dX3_heirAtTurn_26 (fun h0 => by have h1 := zeq (a := 2) (b := 0) (by decide) (by decide) h0; omega) ?_
    refine lv_topi (fun v26 ev26 => ?_)
    have tv26 := zrem (x := v24) (y := 2) (by omega) (by decide) ev26
    refine lv_iconst (v := 1) hx hb dX3_heirAtTurn_27 (by decide) ?_
    refine lv_icmp_ne (tgt := 35) hx hb dX3_heirAtTurn_28 (by decide) (fun c28 => ?_) (fun c28 => ?_)
    · skip
      have ic28 := zneq (a := v26.toInt) (b := 1) rfl (by decide) c28
      refine lv_iconst (v := 0) hx hb dX3_heirAtTurn_35 (by decide) ?_
      refine lv_istore (lv' := [(5, .int 0), (4, .int v14), (3, .int v8), (0, .ref (a 5)), (1, .int x1), (2, .int x2)]) hx hb dX3_heirAtTurn_36 hl (by decide) rfl (fun ls hl => ?_)
      refine lv_iload hx hb dX3_heirAtTurn_38 (lv_at hl 0 rfl) ?_
      refine lv_if_eq (tgt := 52) hx hb dX3_heirAtTurn_40 (by decide) (fun c40 => ?_) (fun c40 => ?_)
      · skip
        have ic40 := zeq (a := 0) (b := 0) (by decide) (by decide) c40
        refine lv_iload hx hb dX3_heirAtTurn_52 (lv_at hl 1 rfl) ?_
        have hpost : σ = σ ∧ 0 ≤ (v14 : Int32).toInt ∧ (v14 : Int32).toInt < 4 := by exact ⟨rfl, by omega⟩
        exact W.iret (v := v14) hx hb hr (fun t9 ht hW => ⟨⟨v14, σ, rfl, hpost, by rw [ht]; exact hP, va_K.moved hW.alike hK, hD⟩, hS.F ht⟩) hS.2.2 dX3_heirAtTurn_54
      · skip
        have ic40 := zneq (a := 0) (b := 0) (by decide) (by decide) c40
        refine lv_iload_n hx hb dX3_heirAtTurn_43 rfl (lv_at hl 2 rfl) ?_
        refine lv_iconst (v := 1) hx hb dX3_heirAtTurn_44 (by decide) ?_
        refine lv_isub hx hb dX3_heirAtTurn_45 ?_
        refine lv_topi (fun v45 ev45 => ?_)
        have tv45 : v45.toInt = v8.toInt - 1 := by rw [ev45, zsub, show (1 : Int32).toInt = 1 from by decide]; omega
        refine lv_iload hx hb dX3_heirAtTurn_46 (lv_at hl 1 rfl) ?_
        refine lv_isub hx hb dX3_heirAtTurn_48 ?_
        refine lv_topi (fun v48 ev48 => ?_)
        have tv48 : v48.toInt = v45.toInt - v14.toInt := by rw [ev48, zsub]; omega
        refine lv_goto (tgt := 54) hx hb dX3_heirAtTurn_49 (by decide) ?_
        have hpost : σ = σ ∧ 0 ≤ (v48 : Int32).toInt ∧ (v48 : Int32).toInt < 4 := by exact ⟨rfl, by omega⟩
        exact W.iret (v := v48) hx hb hr (fun t9 ht hW => ⟨⟨v48, σ, rfl, hpost, by rw [ht]; exact hP, va_K.moved hW.alike hK, hD⟩, hS.F ht⟩) hS.2.2 dX3_heirAtTurn_54
    · skip
      have ic28 := zeq (a := v26.toInt) (b := 1) rfl (by decide) c28
      refine lv_iconst (v := 1) hx hb dX3_heirAtTurn_31 (by decide) ?_
      refine lv_goto (tgt := 36) hx hb dX3_heirAtTurn_32 (by decide) ?_
      refine lv_istore (lv' := [(5, .int 1), (4, .int v14), (3, .int v8), (0, .ref (a 5)), (1, .int x1), (2, .int x2)]) hx hb dX3_heirAtTurn_36 hl (by decide) rfl (fun ls hl => ?_)
      refine lv_iload hx hb dX3_heirAtTurn_38 (lv_at hl 0 rfl) ?_
      refine lv_if_eq (tgt := 52) hx hb dX3_heirAtTurn_40 (by decide) (fun c40 => ?_) (fun c40 => ?_)
      · skip
        have ic40 := zeq (a := 1) (b := 0) (by decide) (by decide) c40
        refine lv_iload hx hb dX3_heirAtTurn_52 (lv_at hl 1 rfl) ?_
        have hpost : σ = σ ∧ 0 ≤ (v14 : Int32).toInt ∧ (v14 : Int32).toInt < 4 := by exact ⟨rfl, by omega⟩
        exact W.iret (v := v14) hx hb hr (fun t9 ht hW => ⟨⟨v14, σ, rfl, hpost, by rw [ht]; exact hP, va_K.moved hW.alike hK, hD⟩, hS.F ht⟩) hS.2.2 dX3_heirAtTurn_54
      · skip
        have ic40 := zneq (a := 1) (b := 0) (by decide) (by decide) c40
        refine lv_iload_n hx hb dX3_heirAtTurn_43 rfl (lv_at hl 2 rfl) ?_
        refine lv_iconst (v := 1) hx hb dX3_heirAtTurn_44 (by decide) ?_
        refine lv_isub hx hb dX3_heirAtTurn_45 ?_
        refine lv_topi (fun v45 ev45 => ?_)
        have tv45 : v45.toInt = v8.toInt - 1 := by rw [ev45, zsub, show (1 : Int32).toInt = 1 from by decide]; omega
        refine lv_iload hx hb dX3_heirAtTurn_46 (lv_at hl 1 rfl) ?_
        refine lv_isub hx hb dX3_heirAtTurn_48 ?_
        refine lv_topi (fun v48 ev48 => ?_)
        have tv48 : v48.toInt = v45.toInt - v14.toInt := by rw [ev48, zsub]; omega
        refine lv_goto (tgt := 54) hx hb dX3_heirAtTurn_49 (by decide) ?_
        have hpost : σ = σ ∧ 0 ≤ (v48 : Int32).toInt ∧ (v48 : Int32).toInt < 4 := by exact ⟨rfl, by omega⟩
        exact W.iret (v := v48) hx hb hr (fun t9 ht hW => ⟨⟨v48, σ, rfl, hpost, by rw [ht]; exact hP, va_K.moved hW.alike hK, hD⟩, hS.F ht⟩) hS.2.2 dX3_heirAtTurn_54

abbrev RM_X3_takeTurnsWithLie : Room := { frames := 2, cells := 0, slots := 0, locals := 46 }
set_option maxHeartbeats 4000000 in
set_option maxRecDepth 100000 in
theorem c_X3_takeTurnsWithLie (l : Launch) (dC : Nat → ClassId) (dI : Nat → Nat → Nat) (cB cI cS cII : ClassId) (a : Nat → Nat) (N : (Nat → Prop) → State → Prop) (hok : zNok N) (hn : ∀ A U, N A U → zN U) (σ : Cn) (sz : Nat) (x1 : Int32) (x2 : Int32) (x3 : Int32) (x4 : Int32) (h0 : 0 ≤ (σ 4 1).toInt ∧ (σ 4 1).toInt ≤ 4) (hs : 0 ≤ (σ 5 2).toInt ∧ (σ 5 2).toInt ≤ 10) (hq : ∀ j : Nat, (j : Int) < (σ 5 2).toInt → 0 ≤ (σ 25 j).toInt ∧ (σ 25 j).toInt < 10) : Met l yX3_takeTurnsWithLie wsX3_takeTurnsWithLie RM_X3_takeTurnsWithLie (zPc (dC, dI) (zT cB cI cS cII) N (wX a cB cI cS cII) σ sz [.ref (a 5), .int x1, .int x2, .int x3, .int x4]) (zQv (dC, dI) (zT cB cI cS cII) (wX a cB cI cS cII) (va_A (wX a cB cI cS cII σ) sz) (fun (σ1 : Cn) => ∃ u26 : Nat → Int32, σ1 = (upC σ 26 u26) ∧ True)) 0 0 (va_A (wX a cB cI cS cII σ) sz) := by
  refine Met.ofW (cc := cX3_takeTurnsWithLie) (maxL := 11) (ret := none) (by decide) rfl ?_
  intro p e s m args below meth c s₁ B hml hv
  obtain ⟨rfl, hsz, hP, hK, hD0, hN⟩ := hv
  have hx := B.exec
  have hb := B.bytes
  have hr := B.returns
  have hts := atoms_spec (ws := wsX3_takeTurnsWithLie) B.pre
  have hown : s.vm.findClass RX3 = some m.cls := findClass_of_methodNamed B.named
  have hlocks := B.notSynchronized
  subst hsz
  have hD := hD0.self (sz := s.heap.size)
  generalize hAe : va_A (wX a cB cI cS cII σ) s.heap.size = A at hD hN ⊢
  have hA : ∀ q : Nat, s.heap.size ≤ q → A q := fun q h => by rw [← hAe]; exact Or.inr h
  clear hAe hD0
  have hS : va_S A s.heap s.heap [] := va_S.rf
  have in1 : ∀ w ∈ u_ws RX1 TX1 9, w ∈ wsX3_takeTurnsWithLie := by decide +kernel
  have in3 : ∀ w ∈ u_ws RX3 TX3 4, w ∈ wsX3_takeTurnsWithLie := by decide +kernel
  have k15 := hts (.fieldLink RX3 15 "HouseSorted$Sharing" "taker" "[I") (by decide +kernel)
  have k18 := hts (.fieldLink RX3 18 "HouseSorted$Sharing" "house" "LHouseSorted$House;") (by decide +kernel)
  have k22 := hts (.fieldLink RX3 22 "HouseSorted$Sharing" "size" "I") (by decide +kernel)
  have k49 := hts (.fieldLink RX3 49 "HouseSorted$House" "worth" "[[I") (by decide +kernel)
  have k9 := hts (.fieldLink RX3 9 "HouseSorted$Sharing" "shared" "[I") (by decide +kernel)
  have LP : ∀ n : Nat, (∀ (j : Int32) (w26 : Nat → Int32) (H : Heap) (locs : List Loc) (ls : Array Slot), 0 ≤ j.toInt ∧ j.toInt ≤ 10 → (2000 + (10 - j.toInt).toNat) < n → va_P (dC, dI) vwCl (wX a cB cI cS cII (upC σ 26 w26)) H → va_D A (wX a cB cI cS cII (upC σ 26 w26)) → va_S A s.heap H locs → lv_has ls 11 [(0, .ref (a 5)), (1, .int x1), (2, .int x2), (3, .int x3), (4, .int x4), (5, .int j)] → W p l e (headSpec wsX3_takeTurnsWithLie RM_X3_takeTurnsWithLie).room s m ([.ref (a 5), .int x1, .int x2, .int x3, .int x4] : List Value).toArray below meth c H locs 0 0 (MQ below (zQv (dC, dI) (zT cB cI cS cII) (wX a cB cI cS cII) A (fun (σ1 : Cn) => ∃ u26 : Nat → Int32, σ1 = (upC σ 26 u26) ∧ True)) ([.ref (a 5), .int x1, .int x2, .int x3, .int x4] : List Value).toArray s 0 0 A) (F0 m 3 ls [])) ∧ (∀ (j : Int32) (w26 : Nat → Int32) (H : Heap) (locs : List Loc) (ls : Array Slot), 0 ≤ j.toInt ∧ j.toInt ≤ 10 → ((10 - j.toInt).toNat * 20) < n → va_P (dC, dI) vwCl (wX a cB cI cS cII (upC σ 26 w26)) H → va_D A (wX a cB cI cS cII (upC σ 26 w26)) → va_S A s.heap H locs → lv_has ls 11 [(0, .ref (a 5)), (1, .int x1), (2, .int x2), (3, .int x3), (4, .int x4), (5, .int j)] → W p l e (headSpec wsX3_takeTurnsWithLie RM_X3_takeTurnsWithLie).room s m ([.ref (a 5), .int x1, .int x2, .int x3, .int x4] : List Value).toArray below meth c H locs 0 0 (MQ below (zQv (dC, dI) (zT cB cI cS cII) (wX a cB cI cS cII) A (fun (σ1 : Cn) => ∃ u26 : Nat → Int32, σ1 = (upC σ 26 u26) ∧ True)) ([.ref (a 5), .int x1, .int x2, .int x3, .int x4] : List Value).toArray s 0 0 A) (F0 m 29 ls [])) ∧ (∀ (j : Int32) (hr : Int32) (wi : Int32) (mo : Int32) (k : Int32) (w26 : Nat → Int32) (H : Heap) (locs : List Loc) (ls : Array Slot), 0 ≤ j.toInt ∧ j.toInt < 10 → 0 ≤ hr.toInt ∧ hr.toInt < 4 → -1 ≤ wi.toInt ∧ wi.toInt < 10 → 0 ≤ k.toInt ∧ k.toInt ≤ 10 → ((9 - j.toInt).toNat * 20 + (10 - k.toInt).toNat + 1) < n → va_P (dC, dI) vwCl (wX a cB cI cS cII (upC σ 26 w26)) H → va_D A (wX a cB cI cS cII (upC σ 26 w26)) → va_S A s.heap H locs → lv_has ls 11 [(0, .ref (a 5)), (1, .int x1), (2, .int x2), (3, .int x3), (4, .int x4), (5, .int j), (6, .int hr), (7, .int wi), (8, .int mo), (9, .int k)] → W p l e (headSpec wsX3_takeTurnsWithLie RM_X3_takeTurnsWithLie).room s m ([.ref (a 5), .int x1, .int x2, .int x3, .int x4] : List Value).toArray below meth c H locs 0 0 (MQ below (zQv (dC, dI) (zT cB cI cS cII) (wX a cB cI cS cII) A (fun (σ1 : Cn) => ∃ u26 : Nat → Int32, σ1 = (upC σ 26 u26) ∧ True)) ([.ref (a 5), .int x1, .int x2, .int x3, .int x4] : List Value).toArray s 0 0 A) (F0 m 56 ls [])) := by
    intro n
    induction n with
    | zero => exact ⟨(by intros; omega), (by intros; omega), (by intros; omega)⟩
    | succ n ih =>
      refine ⟨?_, ?_, ?_⟩
      · intro j w26 H locs ls g1 hmu hP hD hS hl
        refine lv_iload hx hb dX3_takeTurnsWithLie_3 (lv_at hl 5 rfl) ?_
        refine lv_aload_n hx hb dX3_takeTurnsWithLie_5 rfl (lv_at hl 0 rfl) ?_
        refine va_get (D := (dC, dI)) (ci := 3) (v := .int (σ 5 2)) (C := RX3) (T := TX3) (N := 4) hx hb hts in3 hown hK hP 5 rfl rfl 2 (by decide) k22 (fun _ h9 => h9) rfl dX3_takeTurnsWithLie_6 ?_
        refine lv_icmp_ge (tgt := 26) hx hb dX3_takeTurnsWithLie_9 (by decide) (fun c9 => ?_) (fun c9 => ?_)
        · skip
          have ic9 := zle (a := (σ 5 2).toInt) (b := j.toInt) rfl rfl c9
          refine lv_iconst (v := 0) hx hb dX3_takeTurnsWithLie_26 (by decide) ?_
          refine lv_istore (lv' := [(5, .int 0), (0, .ref (a 5)), (1, .int x1), (2, .int x2), (3, .int x3), (4, .int x4)]) hx hb dX3_takeTurnsWithLie_27 hl (by decide) rfl (fun ls hl => ?_)
          exact ih.2.1 (0) (w26) H locs ls (by first | omega | decide) (by first | omega | (rw [show (0 : Int32).toInt = 0 from by decide]; omega)) hP hD hS (lv_sub hl [1, 2, 3, 4, 5, 0] rfl)
        · skip
          have ic9 := znle (a := (σ 5 2).toInt) (b := j.toInt) rfl rfl c9
          refine lv_aload_n hx hb dX3_takeTurnsWithLie_12 rfl (lv_at hl 0 rfl) ?_
          refine va_get (D := (dC, dI)) (ci := 3) (v := .ref (a 26)) (C := RX3) (T := TX3) (N := 4) hx hb hts in3 hown hK hP 5 rfl rfl 3 (by decide) k15 (fun _ h9 => h9) rfl dX3_takeTurnsWithLie_13 ?_
          refine lv_iload hx hb dX3_takeTurnsWithLie_16 (lv_at hl 5 rfl) ?_
          refine lv_iconst (v := (-1)) hx hb dX3_takeTurnsWithLie_18 (by decide) ?_
          refine va_iast (D := (dC, dI)) (f := w26) hx hb hK hP hD hS 26 1 rfl rfl (i := j) (n := 10) (zin (by omega) (by omega)) dX3_takeTurnsWithLie_19 (fun H locs hP hD hS => ?_)
          have hP : va_P (dC, dI) vwCl (wX a cB cI cS cII (upC σ 26 (upd (w26) (j).toNatClampNeg (-1)))) H := hP
          have hD : va_D A (wX a cB cI cS cII (upC σ 26 (upd (w26) (j).toNatClampNeg (-1)))) := hD
          obtain ⟨v20, ev20⟩ : ∃ y : Int32, y = j + 1 := ⟨_, rfl⟩
          refine lv_iinc (v := v20) (lv' := [(5, .int v20), (0, .ref (a 5)), (1, .int x1), (2, .int x2), (3, .int x3), (4, .int x4)]) hx hb dX3_takeTurnsWithLie_20 hl (k := 5) rfl (by rw [ev20]; rfl) (by decide) rfl (fun ls hl => ?_)
          have tv20 : v20.toInt = j.toInt + 1 := by rw [ev20, zadd, show (1 : Int32).toInt = 1 from by decide]; omega
          refine lv_goto (tgt := 3) hx hb dX3_takeTurnsWithLie_23 (by decide) ?_
          exact ih.1 (v20) (upd (w26) (j).toNatClampNeg (-1)) H locs ls (by omega) (by omega) hP hD hS (lv_sub hl [1, 2, 3, 4, 5, 0] rfl)
      · intro j w26 H locs ls g1 hmu hP hD hS hl
        refine lv_iload hx hb dX3_takeTurnsWithLie_29 (lv_at hl 5 rfl) ?_
        refine lv_aload_n hx hb dX3_takeTurnsWithLie_31 rfl (lv_at hl 0 rfl) ?_
        refine va_get (D := (dC, dI)) (ci := 3) (v := .int (σ 5 2)) (C := RX3) (T := TX3) (N := 4) hx hb hts in3 hown hK hP 5 rfl rfl 2 (by decide) k22 (fun _ h9 => h9) rfl dX3_takeTurnsWithLie_32 ?_
        refine lv_icmp_ge (tgt := 163) hx hb dX3_takeTurnsWithLie_35 (by decide) (fun c35 => ?_) (fun c35 => ?_)
        · skip
          have ic35 := zle (a := (σ 5 2).toInt) (b := j.toInt) rfl rfl c35
          have hpost : ∃ u26 : Nat → Int32, (upC σ 26 w26) = (upC σ 26 u26) ∧ True := by exact ⟨_, rfl, trivial⟩
          exact W.vret hx hb hr (fun t9 ht hW => ⟨⟨(upC σ 26 w26), rfl, hpost, by rw [ht]; exact hP, va_K.moved hW.alike hK, hD⟩, hS.F ht⟩) hS.2.2 dX3_takeTurnsWithLie_163
        · skip
          have ic35 := znle (a := (σ 5 2).toInt) (b := j.toInt) rfl rfl c35
          refine lv_aload_n hx hb dX3_takeTurnsWithLie_38 rfl (lv_at hl 0 rfl) ?_
          refine lv_iload_n hx hb dX3_takeTurnsWithLie_39 rfl (lv_at hl 1 rfl) ?_
          refine lv_iload hx hb dX3_takeTurnsWithLie_40 (lv_at hl 5 rfl) ?_
          refine zcalli (va_runV (As := [.int x1, .int j]) (rest := []) ⟨hx, hb, hml, hown, hts⟩ (c_X3_heirAtTurn l dC dI cB cI cS cII a N hok hn (upC σ 26 w26) H.size (x1) (j) h0 (by omega)) (cwV 2 hts gX3_takeTurnsWithLie_X3_heirAtTurn rfl rfl rfl (by decide +kernel) ⟨Nat.le_of_ble_eq_true rfl, Nat.le_of_ble_eq_true rfl⟩) (zpreV (wf := wX a cB cI cS cII) (q0 := 5) (ci := 3) hok hN hS hA hK hP hD rfl rfl) rfl rfl hl.1 rfl (lv_room (Nat.le_of_ble_eq_true rfl)) dX3_takeTurnsWithLie_42 ⟨Nat.zero_le _, Nat.zero_le _⟩) hD hS hA (fun v42 σ1 H locs hv42 hP hD hS => ?_)
          obtain ⟨es9, hv42⟩ := hv42
          subst σ1
          refine lv_istore (lv' := [(6, .int v42), (0, .ref (a 5)), (1, .int x1), (2, .int x2), (3, .int x3), (4, .int x4), (5, .int j)]) hx hb dX3_takeTurnsWithLie_45 hl (by decide) rfl (fun ls hl => ?_)
          refine lv_iconst (v := (-1)) hx hb dX3_takeTurnsWithLie_47 (by decide) ?_
          refine lv_istore (lv' := [(7, .int (-1)), (6, .int v42), (0, .ref (a 5)), (1, .int x1), (2, .int x2), (3, .int x3), (4, .int x4), (5, .int j)]) hx hb dX3_takeTurnsWithLie_48 hl (by decide) rfl (fun ls hl => ?_)
          refine lv_iconst (v := (-1)) hx hb dX3_takeTurnsWithLie_50 (by decide) ?_
          refine lv_istore (lv' := [(8, .int (-1)), (7, .int (-1)), (6, .int v42), (0, .ref (a 5)), (1, .int x1), (2, .int x2), (3, .int x3), (4, .int x4), (5, .int j)]) hx hb dX3_takeTurnsWithLie_51 hl (by decide) rfl (fun ls hl => ?_)
          refine lv_iconst (v := 0) hx hb dX3_takeTurnsWithLie_53 (by decide) ?_
          refine lv_istore (lv' := [(9, .int 0), (8, .int (-1)), (7, .int (-1)), (6, .int v42), (0, .ref (a 5)), (1, .int x1), (2, .int x2), (3, .int x3), (4, .int x4), (5, .int j)]) hx hb dX3_takeTurnsWithLie_54 hl (by decide) rfl (fun ls hl => ?_)
          exact ih.2.2 (j) (v42) ((-1)) ((-1)) (0) (w26) H locs ls (by omega) (by omega) (by first | omega | decide) (by first | omega | decide) (by first | omega | (rw [show (0 : Int32).toInt = 0 from by decide]; omega)) hP hD hS (lv_sub hl [4, 5, 6, 7, 8, 9, 3, 2, 1, 0] rfl)
      · intro j hr wi mo k w26 H locs ls g1 g2 g3 g4 hmu hP hD hS hl
        refine lv_iload hx hb dX3_takeTurnsWithLie_56 (lv_at hl 9 rfl) ?_
        refine lv_aload_n hx hb dX3_takeTurnsWithLie_58 rfl (lv_at hl 0 rfl) ?_
        refine va_get (D := (dC, dI)) (ci := 3) (v := .int (σ 5 2)) (C := RX3) (T := TX3) (N := 4) hx hb hts in3 hown hK hP 5 rfl rfl 2 (by decide) k22 (fun _ h9 => h9) rfl dX3_takeTurnsWithLie_59 ?_
        refine lv_icmp_ge (tgt := 142) hx hb dX3_takeTurnsWithLie_62 (by decide) (fun c62 => ?_) (fun c62 => ?_)
        · skip
          have ic62 := zle (a := (σ 5 2).toInt) (b := k.toInt) rfl rfl c62
          refine lv_iload hx hb dX3_takeTurnsWithLie_142 (lv_at hl 7 rfl) ?_
          refine lv_iconst (v := (-1)) hx hb dX3_takeTurnsWithLie_144 (by decide) ?_
          refine lv_icmp_eq (tgt := 157) hx hb dX3_takeTurnsWithLie_145 (by decide) (fun c145 => ?_) (fun c145 => ?_)
          · skip
            have ic145 := zeq (a := wi.toInt) (b := (-1)) rfl (by decide) c145
            obtain ⟨v157, ev157⟩ : ∃ y : Int32, y = j + 1 := ⟨_, rfl⟩
            refine lv_iinc (v := v157) (lv' := [(5, .int v157), (0, .ref (a 5)), (1, .int x1), (2, .int x2), (3, .int x3), (4, .int x4), (6, .int hr), (7, .int wi), (8, .int mo), (9, .int k)]) hx hb dX3_takeTurnsWithLie_157 hl (k := 5) rfl (by rw [ev157]; rfl) (by decide) rfl (fun ls hl => ?_)
            have tv157 : v157.toInt = j.toInt + 1 := by rw [ev157, zadd, show (1 : Int32).toInt = 1 from by decide]; omega
            refine lv_goto (tgt := 29) hx hb dX3_takeTurnsWithLie_160 (by decide) ?_
            exact ih.2.1 (v157) (w26) H locs ls (by first | omega | decide) (by first | omega | (rw [show (0 : Int32).toInt = 0 from by decide]; omega)) hP hD hS (lv_sub hl [1, 2, 3, 4, 5, 0] rfl)
          · skip
            have ic145 := zneq (a := wi.toInt) (b := (-1)) rfl (by decide) c145
            refine lv_aload_n hx hb dX3_takeTurnsWithLie_148 rfl (lv_at hl 0 rfl) ?_
            refine va_get (D := (dC, dI)) (ci := 3) (v := .ref (a 26)) (C := RX3) (T := TX3) (N := 4) hx hb hts in3 hown hK hP 5 rfl rfl 3 (by decide) k15 (fun _ h9 => h9) rfl dX3_takeTurnsWithLie_149 ?_
            refine lv_iload hx hb dX3_takeTurnsWithLie_152 (lv_at hl 7 rfl) ?_
            refine lv_iload hx hb dX3_takeTurnsWithLie_154 (lv_at hl 6 rfl) ?_
            refine va_iast (D := (dC, dI)) (f := w26) hx hb hK hP hD hS 26 1 rfl rfl (i := wi) (n := 10) (zin (by omega) (by omega)) dX3_takeTurnsWithLie_156 (fun H locs hP hD hS => ?_)
            have hP : va_P (dC, dI) vwCl (wX a cB cI cS cII (upC σ 26 (upd (w26) (wi).toNatClampNeg hr))) H := hP
            have hD : va_D A (wX a cB cI cS cII (upC σ 26 (upd (w26) (wi).toNatClampNeg hr))) := hD
            obtain ⟨v157, ev157⟩ : ∃ y : Int32, y = j + 1 := ⟨_, rfl⟩
            refine lv_iinc (v := v157) (lv' := [(5, .int v157), (0, .ref (a 5)), (1, .int x1), (2, .int x2), (3, .int x3), (4, .int x4), (6, .int hr), (7, .int wi), (8, .int mo), (9, .int k)]) hx hb dX3_takeTurnsWithLie_157 hl (k := 5) rfl (by rw [ev157]; rfl) (by decide) rfl (fun ls hl => ?_)
            have tv157 : v157.toInt = j.toInt + 1 := by rw [ev157, zadd, show (1 : Int32).toInt = 1 from by decide]; omega
            refine lv_goto (tgt := 29) hx hb dX3_takeTurnsWithLie_160 (by decide) ?_
            exact ih.2.1 (v157) (upd (w26) (wi).toNatClampNeg hr) H locs ls (by first | omega | decide) (by first | omega | (rw [show (0 : Int32).toInt = 0 from by decide]; omega)) hP hD hS (lv_sub hl [1, 2, 3, 4, 5, 0] rfl)
        · skip
          have ic62 := znle (a := (σ 5 2).toInt) (b := k.toInt) rfl rfl c62
          refine lv_aload_n hx hb dX3_takeTurnsWithLie_65 rfl (lv_at hl 0 rfl) ?_
          refine va_get (D := (dC, dI)) (ci := 3) (v := .ref (a 26)) (C := RX3) (T := TX3) (N := 4) hx hb hts in3 hown hK hP 5 rfl rfl 3 (by decide) k15 (fun _ h9 => h9) rfl dX3_takeTurnsWithLie_66 ?_
          refine lv_iload hx hb dX3_takeTurnsWithLie_69 (lv_at hl 9 rfl) ?_
          refine va_iald (D := (dC, dI)) (f := w26) hx hb hK hP 26 1 rfl rfl (i := k) (n := 10) (zin (by omega) (by omega)) dX3_takeTurnsWithLie_71 ?_
          refine lv_topi (fun v71 ev71 => ?_)
          have tv71 := congrArg Int32.toInt ev71
          refine lv_iconst (v := (-1)) hx hb dX3_takeTurnsWithLie_72 (by decide) ?_
          refine lv_icmp_eq (tgt := 79) hx hb dX3_takeTurnsWithLie_73 (by decide) (fun c73 => ?_) (fun c73 => ?_)
          · skip
            have ic73 := zeq (a := v71.toInt) (b := (-1)) rfl (by decide) c73
            refine lv_iload hx hb dX3_takeTurnsWithLie_79 (lv_at hl 6 rfl) ?_
            refine lv_iload_n hx hb dX3_takeTurnsWithLie_81 rfl (lv_at hl 2 rfl) ?_
            refine lv_icmp_ne (tgt := 101) hx hb dX3_takeTurnsWithLie_82 (by decide) (fun c82 => ?_) (fun c82 => ?_)
            · skip
              have ic82 := zneq (a := hr.toInt) (b := x2.toInt) rfl rfl c82
              refine lv_aload_n hx hb dX3_takeTurnsWithLie_101 rfl (lv_at hl 0 rfl) ?_
              refine va_get (D := (dC, dI)) (ci := 3) (v := .ref (a 4)) (C := RX3) (T := TX3) (N := 4) hx hb hts in3 hown hK hP 5 rfl rfl 0 (by decide) k18 (fun _ h9 => h9) rfl dX3_takeTurnsWithLie_102 ?_
              refine va_get (D := (dC, dI)) (ci := 1) (v := .ref (a 20)) (C := RX1) (T := TX1) (N := 9) hx hb hts in1 hown hK hP 4 rfl rfl 8 (by decide) k49 (fun _ h9 => h9) rfl dX3_takeTurnsWithLie_105 ?_
              refine lv_iload hx hb dX3_takeTurnsWithLie_108 (lv_at hl 6 rfl) ?_
              have hr110 : (hr).toNatClampNeg < 4 := by have h9 := zcl (x := hr) (by omega); omega
              refine zald hx hb hK hP 20 3 rfl rfl (i := hr) (n := 4) (zin (by omega) (by omega)) (zro_in hr110) dX3_takeTurnsWithLie_110 ?_
              refine lv_aload_n hx hb dX3_takeTurnsWithLie_111 rfl (lv_at hl 0 rfl) ?_
              refine va_get (D := (dC, dI)) (ci := 3) (v := .ref (a 25)) (C := RX3) (T := TX3) (N := 4) hx hb hts in3 hown hK hP 5 rfl rfl 1 (by decide) k9 (fun _ h9 => h9) rfl dX3_takeTurnsWithLie_112 ?_
              refine lv_iload hx hb dX3_takeTurnsWithLie_115 (lv_at hl 9 rfl) ?_
              refine va_iald (D := (dC, dI)) (f := σ 25) hx hb hK hP 25 1 rfl rfl (i := k) (n := 10) (zin (by omega) (by omega)) dX3_takeTurnsWithLie_117 ?_
              refine lv_topi (fun v117 ev117 => ?_)
              have tv117 := congrArg Int32.toInt ev117
              have hb9 := hq ((k).toNatClampNeg) (by have q := zcl (x := k) (by omega); omega)
              refine va_iald (D := (dC, dI)) (f := (upC σ 26 w26) (21 + (hr).toNatClampNeg)) hx hb hK hP (21 + (hr).toNatClampNeg) 1 (wX_row21 hr110) rfl (i := v117) (n := 10) (zin (by omega) (by omega)) dX3_takeTurnsWithLie_118 ?_
              refine lv_topi (fun v118 ev118 => ?_)
              have tv118 := congrArg Int32.toInt ev118
              refine lv_istore (lv' := [(10, .int v118), (0, .ref (a 5)), (1, .int x1), (2, .int x2), (3, .int x3), (4, .int x4), (5, .int j), (6, .int hr), (7, .int wi), (8, .int mo), (9, .int k)]) hx hb dX3_takeTurnsWithLie_119 hl (by decide) rfl (fun ls hl => ?_)
              refine lv_iload hx hb dX3_takeTurnsWithLie_121 (lv_at hl 0 rfl) ?_
              refine lv_iload hx hb dX3_takeTurnsWithLie_123 (lv_at hl 9 rfl) ?_
              refine lv_icmp_le (tgt := 136) hx hb dX3_takeTurnsWithLie_125 (by decide) (fun c125 => ?_) (fun c125 => ?_)
              · skip
                have ic125 := zle (a := v118.toInt) (b := mo.toInt) rfl rfl c125
                obtain ⟨v136, ev136⟩ : ∃ y : Int32, y = k + 1 := ⟨_, rfl⟩
                refine lv_iinc (v := v136) (lv' := [(9, .int v136), (10, .int v118), (0, .ref (a 5)), (1, .int x1), (2, .int x2), (3, .int x3), (4, .int x4), (5, .int j), (6, .int hr), (7, .int wi), (8, .int mo)]) hx hb dX3_takeTurnsWithLie_136 hl (k := 10) rfl (by rw [ev136]; rfl) (by decide) rfl (fun ls hl => ?_)
                have tv136 : v136.toInt = k.toInt + 1 := by rw [ev136, zadd, show (1 : Int32).toInt = 1 from by decide]; omega
                refine lv_goto (tgt := 56) hx hb dX3_takeTurnsWithLie_139 (by decide) ?_
                exact ih.2.2 (j) (hr) (wi) (mo) (v136) (w26) H locs ls (by omega) (by omega) (by first | omega | decide) (by first | omega | decide) (by first | omega | (rw [show (0 : Int32).toInt = 0 from by decide]; omega)) hP hD hS (lv_sub hl [2, 3, 4, 5, 6, 7, 8, 9, 10, 0] rfl)
              · skip
                have ic125 := znle (a := v118.toInt) (b := mo.toInt) rfl rfl c125
                refine lv_iload hx hb dX3_takeTurnsWithLie_128 (lv_at hl 0 rfl) ?_
                refine lv_istore (lv' := [(8, .int v118), (10, .int v118), (0, .ref (a 5)), (1, .int x1), (2, .int x2), (3, .int x3), (4, .int x4), (5, .int j), (6, .int hr), (7, .int wi), (9, .int k)]) hx hb dX3_takeTurnsWithLie_130 hl (by decide) rfl (fun ls hl => ?_)
                refine lv_iload hx hb dX3_takeTurnsWithLie_132 (lv_at hl 10 rfl) ?_
                refine lv_istore (lv' := [(7, .int k), (8, .int v118), (10, .int v118), (0, .ref (a 5)), (1, .int x1), (2, .int x2), (3, .int x3), (4, .int x4), (5, .int j), (6, .int hr), (9, .int k)]) hx hb dX3_takeTurnsWithLie_134 hl (by decide) rfl (fun ls hl => ?_)
                obtain ⟨v136, ev136⟩ : ∃ y : Int32, y = k + 1 := ⟨_, rfl⟩
                refine lv_iinc (v := v136) (lv' := [(9, .int v136), (7, .int k), (8, .int v118), (10, .int v118), (0, .ref (a 5)), (1, .int x1), (2, .int x2), (3, .int x3), (4, .int x4), (5, .int j), (6, .int hr)]) hx hb dX3_takeTurnsWithLie_136 hl (k := 10) rfl (by rw [ev136]; rfl) (by decide) rfl (fun ls hl => ?_)
                have tv136 : v136.toInt = k.toInt + 1 := by rw [ev136, zadd, show (1 : Int32).toInt = 1 from by decide]; omega
                refine lv_goto (tgt := 56) hx hb dX3_takeTurnsWithLie_139 (by decide) ?_
                exact ih.2.2 (j) (hr) (k) (v118) (v136) (w26) H locs ls (by omega) (by omega) (by first | omega | decide) (by first | omega | decide) (by first | omega | (rw [show (0 : Int32).toInt = 0 from by decide]; omega)) hP hD hS (lv_sub hl [4, 5, 6, 7, 8, 9, 10, 1, 2, 0] rfl)
            · skip
              have ic82 := zeq (a := hr.toInt) (b := x2.toInt) rfl rfl c82
              refine lv_aload_n hx hb dX3_takeTurnsWithLie_85 rfl (lv_at hl 0 rfl) ?_
              refine va_get (D := (dC, dI)) (ci := 3) (v := .ref (a 25)) (C := RX3) (T := TX3) (N := 4) hx hb hts in3 hown hK hP 5 rfl rfl 1 (by decide) k9 (fun _ h9 => h9) rfl dX3_takeTurnsWithLie_86 ?_
              refine lv_iload hx hb dX3_takeTurnsWithLie_89 (lv_at hl 9 rfl) ?_
              refine va_iald (D := (dC, dI)) (f := σ 25) hx hb hK hP 25 1 rfl rfl (i := k) (n := 10) (zin (by omega) (by omega)) dX3_takeTurnsWithLie_91 ?_
              refine lv_topi (fun v91 ev91 => ?_)
              have tv91 := congrArg Int32.toInt ev91
              refine lv_iload_n hx hb dX3_takeTurnsWithLie_92 rfl (lv_at hl 3 rfl) ?_
              refine lv_icmp_ne (tgt := 101) hx hb dX3_takeTurnsWithLie_93 (by decide) (fun c93 => ?_) (fun c93 => ?_)
              · skip
                have ic93 := zneq (a := v91.toInt) (b := x3.toInt) rfl rfl c93
                refine lv_aload_n hx hb dX3_takeTurnsWithLie_101 rfl (lv_at hl 0 rfl) ?_
                refine va_get (D := (dC, dI)) (ci := 3) (v := .ref (a 4)) (C := RX3) (T := TX3) (N := 4) hx hb hts in3 hown hK hP 5 rfl rfl 0 (by decide) k18 (fun _ h9 => h9) rfl dX3_takeTurnsWithLie_102 ?_
                refine va_get (D := (dC, dI)) (ci := 1) (v := .ref (a 20)) (C := RX1) (T := TX1) (N := 9) hx hb hts in1 hown hK hP 4 rfl rfl 8 (by decide) k49 (fun _ h9 => h9) rfl dX3_takeTurnsWithLie_105 ?_
                refine lv_iload hx hb dX3_takeTurnsWithLie_108 (lv_at hl 6 rfl) ?_
                have hr110 : (hr).toNatClampNeg < 4 := by have h9 := zcl (x := hr) (by omega); omega
                refine zald hx hb hK hP 20 3 rfl rfl (i := hr) (n := 4) (zin (by omega) (by omega)) (zro_in hr110) dX3_takeTurnsWithLie_110 ?_
                refine lv_aload_n hx hb dX3_takeTurnsWithLie_111 rfl (lv_at hl 0 rfl) ?_
                refine va_get (D := (dC, dI)) (ci := 3) (v := .ref (a 25)) (C := RX3) (T := TX3) (N := 4) hx hb hts in3 hown hK hP 5 rfl rfl 1 (by decide) k9 (fun _ h9 => h9) rfl dX3_takeTurnsWithLie_112 ?_
                refine lv_iload hx hb dX3_takeTurnsWithLie_115 (lv_at hl 9 rfl) ?_
                refine va_iald (D := (dC, dI)) (f := σ 25) hx hb hK hP 25 1 rfl rfl (i := k) (n := 10) (zin (by omega) (by omega)) dX3_takeTurnsWithLie_117 ?_
                refine lv_topi (fun v117 ev117 => ?_)
                have tv117 := congrArg Int32.toInt ev117
                have hb9 := hq ((k).toNatClampNeg) (by have q := zcl (x := k) (by omega); omega)
                refine va_iald (D := (dC, dI)) (f := (upC σ 26 w26) (21 + (hr).toNatClampNeg)) hx hb hK hP (21 + (hr).toNatClampNeg) 1 (wX_row21 hr110) rfl (i := v117) (n := 10) (zin (by omega) (by omega)) dX3_takeTurnsWithLie_118 ?_
                refine lv_topi (fun v118 ev118 => ?_)
                have tv118 := congrArg Int32.toInt ev118
                refine lv_istore (lv' := [(10, .int v118), (0, .ref (a 5)), (1, .int x1), (2, .int x2), (3, .int x3), (4, .int x4), (5, .int j), (6, .int hr), (7, .int wi), (8, .int mo), (9, .int k)]) hx hb dX3_takeTurnsWithLie_119 hl (by decide) rfl (fun ls hl => ?_)
                refine lv_iload hx hb dX3_takeTurnsWithLie_121 (lv_at hl 0 rfl) ?_
                refine lv_iload hx hb dX3_takeTurnsWithLie_123 (lv_at hl 9 rfl) ?_
                refine lv_icmp_le (tgt := 136) hx hb dX3_takeTurnsWithLie_125 (by decide) (fun c125 => ?_) (fun c125 => ?_)
                · skip
                  have ic125 := zle (a := v118.toInt) (b := mo.toInt) rfl rfl c125
                  obtain ⟨v136, ev136⟩ : ∃ y : Int32, y = k + 1 := ⟨_, rfl⟩
                  refine lv_iinc (v := v136) (lv' := [(9, .int v136), (10, .int v118), (0, .ref (a 5)), (1, .int x1), (2, .int x2), (3, .int x3), (4, .int x4), (5, .int j), (6, .int hr), (7, .int wi), (8, .int mo)]) hx hb dX3_takeTurnsWithLie_136 hl (k := 10) rfl (by rw [ev136]; rfl) (by decide) rfl (fun ls hl => ?_)
                  have tv136 : v136.toInt = k.toInt + 1 := by rw [ev136, zadd, show (1 : Int32).toInt = 1 from by decide]; omega
                  refine lv_goto (tgt := 56) hx hb dX3_takeTurnsWithLie_139 (by decide) ?_
                  exact ih.2.2 (j) (hr) (wi) (mo) (v136) (w26) H locs ls (by omega) (by omega) (by first | omega | decide) (by first | omega | decide) (by first | omega | (rw [show (0 : Int32).toInt = 0 from by decide]; omega)) hP hD hS (lv_sub hl [2, 3, 4, 5, 6, 7, 8, 9, 10, 0] rfl)
                · skip
                  have ic125 := znle (a := v118.toInt) (b := mo.toInt) rfl rfl c125
                  refine lv_iload hx hb dX3_takeTurnsWithLie_128 (lv_at hl 0 rfl) ?_
                  refine lv_istore (lv' := [(8, .int v118), (10, .int v118), (0, .ref (a 5)), (1, .int x1), (2, .int x2), (3, .int x3), (4, .int x4), (5, .int j), (6, .int hr), (7, .int wi), (9, .int k)]) hx hb dX3_takeTurnsWithLie_130 hl (by decide) rfl (fun ls hl => ?_)
                  refine lv_iload hx hb dX3_takeTurnsWithLie_132 (lv_at hl 10 rfl) ?_
                  refine lv_istore (lv' := [(7, .int k), (8, .int v118), (10, .int v118), (0, .ref (a 5)), (1, .int x1), (2, .int x2), (3, .int x3), (4, .int x4), (5, .int j), (6, .int hr), (9, .int k)]) hx hb dX3_takeTurnsWithLie_134 hl (by decide) rfl (fun ls hl => ?_)
                  obtain ⟨v136, ev136⟩ : ∃ y : Int32, y = k + 1 := ⟨_, rfl⟩
                  refine lv_iinc (v := v136) (lv' := [(9, .int v136), (7, .int k), (8, .int v118), (10, .int v118), (0, .ref (a 5)), (1, .int x1), (2, .int x2), (3, .int x3), (4, .int x4), (5, .int j), (6, .int hr)]) hx hb dX3_takeTurnsWithLie_136 hl (k := 10) rfl (by rw [ev136]; rfl) (by decide) rfl (fun ls hl => ?_)
                  have tv136 : v136.toInt = k.toInt + 1 := by rw [ev136, zadd, show (1 : Int32).toInt = 1 from by decide]; omega
                  refine lv_goto (tgt := 56) hx hb dX3_takeTurnsWithLie_139 (by decide) ?_
                  exact ih.2.2 (j) (hr) (k) (v118) (v136) (w26) H locs ls (by omega) (by omega) (by first | omega | decide) (by first | omega | decide) (by first | omega | (rw [show (0 : Int32).toInt = 0 from by decide]; omega)) hP hD hS (lv_sub hl [4, 5, 6, 7, 8, 9, 10, 1, 2, 0] rfl)
              · skip
                have ic93 := zeq (a := v91.toInt) (b := x3.toInt) rfl rfl c93
                refine lv_iload hx hb dX3_takeTurnsWithLie_96 (lv_at hl 4 rfl) ?_
                refine lv_goto (tgt := 119) hx hb dX3_takeTurnsWithLie_98 (by decide) ?_
                refine lv_istore (lv' := [(10, .int x4), (0, .ref (a 5)), (1, .int x1), (2, .int x2), (3, .int x3), (4, .int x4), (5, .int j), (6, .int hr), (7, .int wi), (8, .int mo), (9, .int k)]) hx hb dX3_takeTurnsWithLie_119 hl (by decide) rfl (fun ls hl => ?_)
                refine lv_iload hx hb dX3_takeTurnsWithLie_121 (lv_at hl 0 rfl) ?_
                refine lv_iload hx hb dX3_takeTurnsWithLie_123 (lv_at hl 9 rfl) ?_
                refine lv_icmp_le (tgt := 136) hx hb dX3_takeTurnsWithLie_125 (by decide) (fun c125 => ?_) (fun c125 => ?_)
                · skip
                  have ic125 := zle (a := x4.toInt) (b := mo.toInt) rfl rfl c125
                  obtain ⟨v136, ev136⟩ : ∃ y : Int32, y = k + 1 := ⟨_, rfl⟩
                  refine lv_iinc (v := v136) (lv' := [(9, .int v136), (10, .int x4), (0, .ref (a 5)), (1, .int x1), (2, .int x2), (3, .int x3), (4, .int x4), (5, .int j), (6, .int hr), (7, .int wi), (8, .int mo)]) hx hb dX3_takeTurnsWithLie_136 hl (k := 10) rfl (by rw [ev136]; rfl) (by decide) rfl (fun ls hl => ?_)
                  have tv136 : v136.toInt = k.toInt + 1 := by rw [ev136, zadd, show (1 : Int32).toInt = 1 from by decide]; omega
                  refine lv_goto (tgt := 56) hx hb dX3_takeTurnsWithLie_139 (by decide) ?_
                  exact ih.2.2 (j) (hr) (wi) (mo) (v136) (w26) H locs ls (by omega) (by omega) (by first | omega | decide) (by first | omega | decide) (by first | omega | (rw [show (0 : Int32).toInt = 0 from by decide]; omega)) hP hD hS (lv_sub hl [2, 3, 4, 5, 6, 7, 8, 9, 10, 0] rfl)
                · skip
                  have ic125 := znle (a := x4.toInt) (b := mo.toInt) rfl rfl c125
                  refine lv_iload hx hb dX3_takeTurnsWithLie_128 (lv_at hl 0 rfl) ?_
                  refine lv_istore (lv' := [(8, .int x4), (10, .int x4), (0, .ref (a 5)), (1, .int x1), (2, .int x2), (3, .int x3), (4, .int x4), (5, .int j), (6, .int hr), (7, .int wi), (9, .int k)]) hx hb dX3_takeTurnsWithLie_130 hl (by decide) rfl (fun ls hl => ?_)
                  refine lv_iload hx hb dX3_takeTurnsWithLie_132 (lv_at hl 10 rfl) ?_
                  refine lv_istore (lv' := [(7, .int k), (8, .int x4), (10, .int x4), (0, .ref (a 5)), (1, .int x1), (2, .int x2), (3, .int x3), (4, .int x4), (5, .int j), (6, .int hr), (9, .int k)]) hx hb dX3_takeTurnsWithLie_134 hl (by decide) rfl (fun ls hl => ?_)
                  obtain ⟨v136, ev136⟩ : ∃ y : Int32, y = k + 1 := ⟨_, rfl⟩
                  refine lv_iinc (v := v136) (lv' := [(9, .int v136), (7, .int k), (8, .int x4), (10, .int x4), (0, .ref (a 5)), (1, .int x1), (2, .int x2), (3, .int x3), (4, .int x4), (5, .int j), (6, .int hr)]) hx hb dX3_takeTurnsWithLie_136 hl (k := 10) rfl (by rw [ev136]; rfl) (by decide) rfl (fun ls hl => ?_)
                  have tv136 : v136.toInt = k.toInt + 1 := by rw [ev136, zadd, show (1 : Int32).toInt = 1 from by decide]; omega
                  refine lv_goto (tgt := 56) hx hb dX3_takeTurnsWithLie_139 (by decide) ?_
                  exact ih.2.2 (j) (hr) (k) (x4) (v136) (w26) H locs ls (by omega) (by omega) (by first | omega | decide) (by first | omega | decide) (by first | omega | (rw [show (0 : Int32).toInt = 0 from by decide]; omega)) hP hD hS (lv_sub hl [4, 5, 6, 7, 8, 9, 10, 1, 2, 0] rfl)
          · skip
            have ic73 := zneq (a := v71.toInt) (b := (-1)) rfl (by decide) c73
            refine lv_goto (tgt := 136) hx hb dX3_takeTurnsWithLie_76 (by decide) ?_
            obtain ⟨v136, ev136⟩ : ∃ y : Int32, y = k + 1 := ⟨_, rfl⟩
            refine lv_iinc (v := v136) (lv' := [(9, .int v136), (0, .ref (a 5)), (1, .int x1), (2, .int x2), (3, .int x3), (4, .int x4), (5, .int j), (6, .int hr), (7, .int wi), (8, .int mo)]) hx hb dX3_takeTurnsWithLie_136 hl (k := 9) rfl (by rw [ev136]; rfl) (by decide) rfl (fun ls hl => ?_)
            have tv136 : v136.toInt = k.toInt + 1 := by rw [ev136, zadd, show (1 : Int32).toInt = 1 from by decide]; omega
            refine lv_goto (tgt := 56) hx hb dX3_takeTurnsWithLie_139 (by decide) ?_
            exact ih.2.2 (j) (hr) (wi) (mo) (v136) (w26) H locs ls (by omega) (by omega) (by first | omega | decide) (by first | omega | decide) (by first | omega | (rw [show (0 : Int32).toInt = 0 from by decide]; omega)) hP hD hS (lv_sub hl [1, 2, 3, 4, 5, 6, 7, 8, 9, 0] rfl)
  have hl := lv_entry ([.ref (a 5), .int x1, .int x2, .int x3, .int x4]) (n := 11) (Nat.le_of_ble_eq_true rfl)
  rw [lg_entry_eq]
  generalize (lg_sl ([.ref (a 5), .int x1, .int x2, .int x3, .int x4]) ++ List.replicate (11 - (lg_sl ([.ref (a 5), .int x1, .int x2, .int x3, .int x4])).length) Slot.unset).toArray = ls at hl ⊢
  have hl : lv_has ls 11 [(0, .ref (a 5)), (1, .int x1), (2, .int x2), (3, .int x3), (4, .int x4)] := hl
  suffices main : ∀ (H : Heap) (locs : List Loc), va_P (dC, dI) vwCl (wX a cB cI cS cII σ) H → va_D A (wX a cB cI cS cII σ) → va_S A s.heap H locs → W p l e (headSpec wsX3_takeTurnsWithLie RM_X3_takeTurnsWithLie).room s m ([.ref (a 5), .int x1, .int x2, .int x3, .int x4] : List Value).toArray below meth c H locs 0 0 (MQ below (zQv (dC, dI) (zT cB cI cS cII) (wX a cB cI cS cII) A (fun (σ1 : Cn) => ∃ u26 : Nat → Int32, σ1 = (upC σ 26 u26) ∧ True)) ([.ref (a 5), .int x1, .int x2, .int x3, .int x4] : List Value).toArray s 0 0 A) (F0 m 0 ls []) from main s.heap [] hP hD hS
  intro H locs hP hD hS
  refine lv_iconst (v := 0) hx hb dX3_takeTurnsWithLie_0 (by decide) ?_
  refine lv_istore (lv' := [(5, .int 0), (0, .ref (a 5)), (1, .int x1), (2, .int x2), (3, .int x3), (4, .int x4)]) hx hb dX3_takeTurnsWithLie_1 hl (by decide) rfl (fun ls hl => ?_)
  exact (LP _).1 (0) (σ 26) H locs ls (by decide) (Nat.lt_succ_self _) hP hD hS (lv_sub hl [1, 2, 3, 4, 5, 0] rfl)
end
section
abbrev RM_X3_takeTurns : Room := { frames := 3, cells := 0, slots := 0, locals := 76 }
set_option maxHeartbeats 4000000 in
set_option maxRecDepth 100000 in
theorem c_X3_takeTurns (l : Launch) (dC : Nat → ClassId) (dI : Nat → Nat → Nat) (cB cI cS cII : ClassId) (a : Nat → Nat) (N : (Nat → Prop) → State → Prop) (hok : zNok N) (hn : ∀ A U, N A U → zN U) (σ : Cn) (sz : Nat) (x1 : Int32) (h0 : 0 ≤ (σ 4 1).toInt ∧ (σ 4 1).toInt ≤ 4) (hs : 0 ≤ (σ 5 2).toInt ∧ (σ 5 2).toInt ≤ 10) (hq : ∀ j : Nat, (j : Int) < (σ 5 2).toInt → 0 ≤ (σ 25 j).toInt ∧ (σ 25 j).toInt < 10) : Met l yX3_takeTurns wsX3_takeTurns RM_X3_takeTurns (zPc (dC, dI) (zT cB cI cS cII) N (wX a cB cI cS cII) σ sz [.ref (a 5), .int x1]) (zQv (dC, dI) (zT cB cI cS cII) (wX a cB cI cS cII) (va_A (wX a cB cI cS cII σ) sz) (fun (σ1 : Cn) => ∃ u26 : Nat → Int32, σ1 = (upC σ 26 u26) ∧ True)) 0 0 (va_A (wX a cB cI cS cII σ) sz) := by
  refine Met.ofW (cc := cX3_takeTurns) (maxL := 2) (ret := none) (by decide) rfl ?_
  intro p e s m args below meth c s₁ B hml hv
  obtain ⟨rfl, hsz, hP, hK, hD0, hN⟩ := hv
  have hx := B.exec
  have hb := B.bytes
  have hr := B.returns
  have hts := atoms_spec (ws := wsX3_takeTurns) B.pre
  have hown : s.vm.findClass RX3 = some m.cls := findClass_of_methodNamed B.named
  have hlocks := B.notSynchronized
  subst hsz
  have hD := hD0.self (sz := s.heap.size)
  generalize hAe : va_A (wX a cB cI cS cII σ) s.heap.size = A at hD hN ⊢
  have hA : ∀ q : Nat, s.heap.size ≤ q → A q := fun q h => by rw [← hAe]; exact Or.inr h
  clear hAe hD0
  have hS : va_S A s.heap s.heap [] := va_S.rf
  have hl := lv_entry ([.ref (a 5), .int x1]) (n := 2) (Nat.le_of_ble_eq_true rfl)
  rw [lg_entry_eq]
  generalize (lg_sl ([.ref (a 5), .int x1]) ++ List.replicate (2 - (lg_sl ([.ref (a 5), .int x1])).length) Slot.unset).toArray = ls at hl ⊢
  have hl : lv_has ls 2 [(0, .ref (a 5)), (1, .int x1)] := hl
  suffices main : ∀ (H : Heap) (locs : List Loc), va_P (dC, dI) vwCl (wX a cB cI cS cII σ) H → va_D A (wX a cB cI cS cII σ) → va_S A s.heap H locs → W p l e (headSpec wsX3_takeTurns RM_X3_takeTurns).room s m ([.ref (a 5), .int x1] : List Value).toArray below meth c H locs 0 0 (MQ below (zQv (dC, dI) (zT cB cI cS cII) (wX a cB cI cS cII) A (fun (σ1 : Cn) => ∃ u26 : Nat → Int32, σ1 = (upC σ 26 u26) ∧ True)) ([.ref (a 5), .int x1] : List Value).toArray s 0 0 A) (F0 m 0 ls []) from main s.heap [] hP hD hS
  intro H locs hP hD hS
  refine lv_aload_n hx hb dX3_takeTurns_0 rfl (lv_at hl 0 rfl) ?_
  refine lv_iload_n hx hb dX3_takeTurns_1 rfl (lv_at hl 1 rfl) ?_
  refine lv_iconst (v := (-1)) hx hb dX3_takeTurns_2 (by decide) ?_
  refine lv_iconst (v := 0) hx hb dX3_takeTurns_3 (by decide) ?_
  refine lv_iconst (v := 0) hx hb dX3_takeTurns_4 (by decide) ?_
  refine zcallv (va_runV (As := [.int x1, .int (-1), .int 0, .int 0]) (rest := []) ⟨hx, hb, hml, hown, hts⟩ (c_X3_takeTurnsWithLie l dC dI cB cI cS cII a N hok hn σ H.size (x1) ((-1)) (0) (0) h0 hs hq) (cwV 4 hts gX3_takeTurns_X3_takeTurnsWithLie rfl rfl rfl (by decide +kernel) ⟨Nat.le_of_ble_eq_true rfl, Nat.le_of_ble_eq_true rfl⟩) (zpreV (wf := wX a cB cI cS cII) (q0 := 5) (ci := 3) hok hN hS hA hK hP hD rfl rfl) rfl rfl hl.1 rfl (lv_room (Nat.le_of_ble_eq_true rfl)) dX3_takeTurns_5 ⟨Nat.zero_le _, Nat.zero_le _⟩) hD hS hA (fun σ1 H locs hv5 hP hD hS => ?_)
  obtain ⟨u26_5, es9, hv5⟩ := hv5
  subst σ1
  try simp only [show ((-1) : Int32).toInt = (-1) from by decide, show (0 : Int32).toInt = 0 from by decide] at hv5
  have hP : va_P (dC, dI) vwCl (wX a cB cI cS cII (upC σ 26 u26_5)) H := hP
  have hD : va_D A (wX a cB cI cS cII (upC σ 26 u26_5)) := hD
  have hpost : ∃ u26 : Nat → Int32, (upC σ 26 u26_5) = (upC σ 26 u26) ∧ True := by exact ⟨_, rfl, trivial⟩
  exact W.vret hx hb hr (fun t9 ht hW => ⟨⟨(upC σ 26 u26_5), rfl, hpost, by rw [ht]; exact hP, va_K.moved hW.alike hK, hD⟩, hS.F ht⟩) hS.2.2 dX3_takeTurns_8

abbrev RM_X3_sumOf : Room := { frames := 0, cells := 0, slots := 0, locals := 0 }
set_option maxHeartbeats 4000000 in
set_option maxRecDepth 100000 in
theorem c_X3_sumOf (l : Launch) (dC : Nat → ClassId) (dI : Nat → Nat → Nat) (cB cI cS cII : ClassId) (a : Nat → Nat) (N : (Nat → Prop) → State → Prop) (hok : zNok N) (hn : ∀ A U, N A U → zN U) (σ : Cn) (sz : Nat) (x1 : Int32) (x2 : Int32) (h1 : 0 ≤ x1.toInt ∧ x1.toInt < 4) (hs : 0 ≤ (σ 5 2).toInt ∧ (σ 5 2).toInt ≤ 10) (hq : ∀ j : Nat, (j : Int) < (σ 5 2).toInt → 0 ≤ (σ 25 j).toInt ∧ (σ 25 j).toInt < 10) : Met l yX3_sumOf wsX3_sumOf RM_X3_sumOf (zPc (dC, dI) (zT cB cI cS cII) N (wX a cB cI cS cII) σ sz [.ref (a 5), .int x1, .int x2]) (zQi (dC, dI) (zT cB cI cS cII) (wX a cB cI cS cII) (va_A (wX a cB cI cS cII σ) sz) (fun (r : Int32) (σ1 : Cn) => σ1 = σ ∧ True)) 0 0 (va_A (wX a cB cI cS cII σ) sz) := by
  refine Met.ofW (cc := cX3_sumOf) (maxL := 5) (ret := (some .int)) (by decide) rfl ?_
  intro p e s m args below meth c s₁ B hml hv
  obtain ⟨rfl, hsz, hP, hK, hD0, hN⟩ := hv
  have hx := B.exec
  have hb := B.bytes
  have hr := B.returns
  have hts := atoms_spec (ws := wsX3_sumOf) B.pre
  have hown : s.vm.findClass RX3 = some m.cls := findClass_of_methodNamed B.named
  have hlocks := B.notSynchronized
  subst hsz
  have hD := hD0.self (sz := s.heap.size)
  generalize hAe : va_A (wX a cB cI cS cII σ) s.heap.size = A at hD hN ⊢
  have hA : ∀ q : Nat, s.heap.size ≤ q → A q := fun q h => by rw [← hAe]; exact Or.inr h
  clear hAe hD0
  have hS : va_S A s.heap s.heap [] := va_S.rf
  have in1 : ∀ w ∈ u_ws RX1 TX1 9, w ∈ wsX3_sumOf := by decide +kernel
  have in3 : ∀ w ∈ u_ws RX3 TX3 4, w ∈ wsX3_sumOf := by decide +kernel
  have k15 := hts (.fieldLink RX3 15 "HouseSorted$Sharing" "taker" "[I") (by decide +kernel)
  have k18 := hts (.fieldLink RX3 18 "HouseSorted$Sharing" "house" "LHouseSorted$House;") (by decide +kernel)
  have k22 := hts (.fieldLink RX3 22 "HouseSorted$Sharing" "size" "I") (by decide +kernel)
  have k49 := hts (.fieldLink RX3 49 "HouseSorted$House" "worth" "[[I") (by decide +kernel)
  have k9 := hts (.fieldLink RX3 9 "HouseSorted$Sharing" "shared" "[I") (by decide +kernel)
  have LP : ∀ n : Nat, (∀ (f : Int32) (j : Int32) (H : Heap) (locs : List Loc) (ls : Array Slot), 0 ≤ j.toInt ∧ j.toInt ≤ 10 → (10 - j.toInt).toNat < n → va_P (dC, dI) vwCl (wX a cB cI cS cII σ) H → va_D A (wX a cB cI cS cII σ) → va_S A s.heap H locs → lv_has ls 5 [(0, .ref (a 5)), (1, .int x1), (2, .int x2), (3, .int f), (4, .int j)] → W p l e (headSpec wsX3_sumOf RM_X3_sumOf).room s m ([.ref (a 5), .int x1, .int x2] : List Value).toArray below meth c H locs 0 0 (MQ below (zQi (dC, dI) (zT cB cI cS cII) (wX a cB cI cS cII) A (fun (r : Int32) (σ1 : Cn) => σ1 = σ ∧ True)) ([.ref (a 5), .int x1, .int x2] : List Value).toArray s 0 0 A) (F0 m 5 ls [])) := by
    intro n
    induction n with
    | zero => exact by intros; omega
    | succ n ih =>
      · intro f j H locs ls g1 hmu hP hD hS hl
        refine lv_iload hx hb dX3_sumOf_5 (lv_at hl 4 rfl) ?_
        refine lv_aload_n hx hb dX3_sumOf_7 rfl (lv_at hl 0 rfl) ?_
        refine va_get (D := (dC, dI)) (ci := 3) (v := .int (σ 5 2)) (C := RX3) (T := TX3) (N := 4) hx hb hts in3 hown hK hP 5 rfl rfl 2 (by decide) k22 (fun _ h9 => h9) rfl dX3_sumOf_8 ?_
        refine lv_icmp_ge (tgt := 51) hx hb dX3_sumOf_11 (by decide) (fun c11 => ?_) (fun c11 => ?_)
        · skip
          have ic11 := zle (a := (σ 5 2).toInt) (b := j.toInt) rfl rfl c11
          refine lv_iload_n hx hb dX3_sumOf_51 rfl (lv_at hl 3 rfl) ?_
          have hpost : σ = σ ∧ True := by exact ⟨rfl, trivial⟩
          exact W.iret (v := f) hx hb hr (fun t9 ht hW => ⟨⟨f, σ, rfl, hpost, by rw [ht]; exact hP, va_K.moved hW.alike hK, hD⟩, hS.F ht⟩) hS.2.2 dX3_sumOf_52
        · skip
          have ic11 := znle (a := (σ 5 2).toInt) (b := j.toInt) rfl rfl c11
          refine lv_aload_n hx hb dX3_sumOf_14 rfl (lv_at hl 0 rfl) ?_
          refine va_get (D := (dC, dI)) (ci := 3) (v := .ref (a 26)) (C := RX3) (T := TX3) (N := 4) hx hb hts in3 hown hK hP 5 rfl rfl 3 (by decide) k15 (fun _ h9 => h9) rfl dX3_sumOf_15 ?_
          refine lv_iload hx hb dX3_sumOf_18 (lv_at hl 4 rfl) ?_
          refine va_iald (D := (dC, dI)) (f := σ 26) hx hb hK hP 26 1 rfl rfl (i := j) (n := 10) (zin (by omega) (by omega)) dX3_sumOf_20 ?_
          refine lv_topi (fun v20 ev20 => ?_)
          have tv20 := congrArg Int32.toInt ev20
          refine lv_iload_n hx hb dX3_sumOf_21 rfl (lv_at hl 2 rfl) ?_
          refine lv_icmp_ne (tgt := 45) hx hb dX3_sumOf_22 (by decide) (fun c22 => ?_) (fun c22 => ?_)
          · skip
            have ic22 := zneq (a := v20.toInt) (b := x2.toInt) rfl rfl c22
            obtain ⟨v45, ev45⟩ : ∃ y : Int32, y = j + 1 := ⟨_, rfl⟩
            refine lv_iinc (v := v45) (lv' := [(4, .int v45), (0, .ref (a 5)), (1, .int x1), (2, .int x2), (3, .int f)]) hx hb dX3_sumOf_45 hl (k := 4) rfl (by rw [ev45]; rfl) (by decide) rfl (fun ls hl => ?_)
            have tv45 : v45.toInt = j.toInt + 1 := by rw [ev45, zadd, show (1 : Int32).toInt = 1 from by decide]; omega
            refine lv_goto (tgt := 5) hx hb dX3_sumOf_48 (by decide) ?_
            exact ih (f) (v45)  H locs ls (by omega) (by omega) hP hD hS (lv_sub hl [1, 2, 3, 4, 0] rfl)
          · skip
            have ic22 := zeq (a := v20.toInt) (b := x2.toInt) rfl rfl c22
            refine lv_iload_n hx hb dX3_sumOf_25 rfl (lv_at hl 3 rfl) ?_
            refine lv_aload_n hx hb dX3_sumOf_26 rfl (lv_at hl 0 rfl) ?_
            refine va_get (D := (dC, dI)) (ci := 3) (v := .ref (a 4)) (C := RX3) (T := TX3) (N := 4) hx hb hts in3 hown hK hP 5 rfl rfl 0 (by decide) k18 (fun _ h9 => h9) rfl dX3_sumOf_27 ?_
            refine va_get (D := (dC, dI)) (ci := 1) (v := .ref (a 20)) (C := RX1) (T := TX1) (N := 9) hx hb hts in1 hown hK hP 4 rfl rfl 8 (by decide) k49 (fun _ h9 => h9) rfl dX3_sumOf_30 ?_
            refine lv_iload_n hx hb dX3_sumOf_33 rfl (lv_at hl 1 rfl) ?_
            have hr34 : (x1).toNatClampNeg < 4 := by have h9 := zcl (x := x1) (by omega); omega
            refine zald hx hb hK hP 20 3 rfl rfl (i := x1) (n := 4) (zin (by omega) (by omega)) (zro_in hr34) dX3_sumOf_34 ?_
            refine lv_aload_n hx hb dX3_sumOf_35 rfl (lv_at hl 0 rfl) ?_
            refine va_get (D := (dC, dI)) (ci := 3) (v := .ref (a 25)) (C := RX3) (T := TX3) (N := 4) hx hb hts in3 hown hK hP 5 rfl rfl 1 (by decide) k9 (fun _ h9 => h9) rfl dX3_sumOf_36 ?_
            refine lv_iload hx hb dX3_sumOf_39 (lv_at hl 4 rfl) ?_
            refine va_iald (D := (dC, dI)) (f := σ 25) hx hb hK hP 25 1 rfl rfl (i := j) (n := 10) (zin (by omega) (by omega)) dX3_sumOf_41 ?_
            refine lv_topi (fun v41 ev41 => ?_)
            have tv41 := congrArg Int32.toInt ev41
            have hb9 := hq ((j).toNatClampNeg) (by have q := zcl (x := j) (by omega); omega)
            refine va_iald (D := (dC, dI)) (f := σ (21 + (x1).toNatClampNeg)) hx hb hK hP (21 + (x1).toNatClampNeg) 1 (wX_row21 hr34) rfl (i := v41) (n := 10) (zin (by omega) (by omega)) dX3_sumOf_42 ?_
            refine lv_topi (fun v42 ev42 => ?_)
            have tv42 := congrArg Int32.toInt ev42
            refine lv_iadd hx hb dX3_sumOf_43 ?_
            refine lv_topi (fun v43 ev43 => ?_)
            refine lv_istore_n (lv' := [(3, .int v43), (0, .ref (a 5)), (1, .int x1), (2, .int x2), (4, .int j)]) hx hb dX3_sumOf_44 rfl hl (by decide) rfl (fun ls hl => ?_)
            obtain ⟨v45, ev45⟩ : ∃ y : Int32, y = j + 1 := ⟨_, rfl⟩
            refine lv_iinc (v := v45) (lv' := [(4, .int v45), (3, .int v43), (0, .ref (a 5)), (1, .int x1), (2, .int x2)]) hx hb dX3_sumOf_45 hl (k := 4) rfl (by rw [ev45]; rfl) (by decide) rfl (fun ls hl => ?_)
            have tv45 : v45.toInt = j.toInt + 1 := by rw [ev45, zadd, show (1 : Int32).toInt = 1 from by decide]; omega
            refine lv_goto (tgt := 5) hx hb dX3_sumOf_48 (by decide) ?_
            exact ih (v43) (v45)  H locs ls (by omega) (by omega) hP hD hS (lv_sub hl [2, 3, 4, 1, 0] rfl)
  have hl := lv_entry ([.ref (a 5), .int x1, .int x2]) (n := 5) (Nat.le_of_ble_eq_true rfl)
  rw [lg_entry_eq]
  generalize (lg_sl ([.ref (a 5), .int x1, .int x2]) ++ List.replicate (5 - (lg_sl ([.ref (a 5), .int x1, .int x2])).length) Slot.unset).toArray = ls at hl ⊢
  have hl : lv_has ls 5 [(0, .ref (a 5)), (1, .int x1), (2, .int x2)] := hl
  suffices main : ∀ (H : Heap) (locs : List Loc), va_P (dC, dI) vwCl (wX a cB cI cS cII σ) H → va_D A (wX a cB cI cS cII σ) → va_S A s.heap H locs → W p l e (headSpec wsX3_sumOf RM_X3_sumOf).room s m ([.ref (a 5), .int x1, .int x2] : List Value).toArray below meth c H locs 0 0 (MQ below (zQi (dC, dI) (zT cB cI cS cII) (wX a cB cI cS cII) A (fun (r : Int32) (σ1 : Cn) => σ1 = σ ∧ True)) ([.ref (a 5), .int x1, .int x2] : List Value).toArray s 0 0 A) (F0 m 0 ls []) from main s.heap [] hP hD hS
  intro H locs hP hD hS
  refine lv_iconst (v := 0) hx hb dX3_sumOf_0 (by decide) ?_
  refine lv_istore_n (lv' := [(3, .int 0), (0, .ref (a 5)), (1, .int x1), (2, .int x2)]) hx hb dX3_sumOf_1 rfl hl (by decide) rfl (fun ls hl => ?_)
  refine lv_iconst (v := 0) hx hb dX3_sumOf_2 (by decide) ?_
  refine lv_istore (lv' := [(4, .int 0), (3, .int 0), (0, .ref (a 5)), (1, .int x1), (2, .int x2)]) hx hb dX3_sumOf_3 hl (by decide) rfl (fun ls hl => ?_)
  exact (LP _) (0) (0)  H locs ls (by decide) (Nat.lt_succ_self _) hP hD hS (lv_sub hl [2, 3, 4, 1, 0] rfl)

abbrev RM_X3_greatestOf : Room := { frames := 1, cells := 0, slots := 0, locals := 21 }
set_option maxHeartbeats 4000000 in
set_option maxRecDepth 100000 in
theorem c_X3_greatestOf (l : Launch) (dC : Nat → ClassId) (dI : Nat → Nat → Nat) (cB cI cS cII : ClassId) (a : Nat → Nat) (N : (Nat → Prop) → State → Prop) (hok : zNok N) (hn : ∀ A U, N A U → zN U) (σ : Cn) (sz : Nat) (x1 : Int32) (x2 : Int32) (h1 : 0 ≤ x1.toInt ∧ x1.toInt < 4) (hs : 0 ≤ (σ 5 2).toInt ∧ (σ 5 2).toInt ≤ 10) (hq : ∀ j : Nat, (j : Int) < (σ 5 2).toInt → 0 ≤ (σ 25 j).toInt ∧ (σ 25 j).toInt < 10) : Met l yX3_greatestOf wsX3_greatestOf RM_X3_greatestOf (zPc (dC, dI) (zT cB cI cS cII) N (wX a cB cI cS cII) σ sz [.ref (a 5), .int x1, .int x2]) (zQi (dC, dI) (zT cB cI cS cII) (wX a cB cI cS cII) (va_A (wX a cB cI cS cII σ) sz) (fun (r : Int32) (σ1 : Cn) => σ1 = σ ∧ True)) 0 0 (va_A (wX a cB cI cS cII σ) sz) := by
  refine Met.ofW (cc := cX3_greatestOf) (maxL := 5) (ret := (some .int)) (by decide) rfl ?_
  intro p e s m args below meth c s₁ B hml hv
  obtain ⟨rfl, hsz, hP, hK, hD0, hN⟩ := hv
  have hx := B.exec
  have hb := B.bytes
  have hr := B.returns
  have hts := atoms_spec (ws := wsX3_greatestOf) B.pre
  have hown : s.vm.findClass RX3 = some m.cls := findClass_of_methodNamed B.named
  have hlocks := B.notSynchronized
  subst hsz
  have hD := hD0.self (sz := s.heap.size)
  generalize hAe : va_A (wX a cB cI cS cII σ) s.heap.size = A at hD hN ⊢
  have hA : ∀ q : Nat, s.heap.size ≤ q → A q := fun q h => by rw [← hAe]; exact Or.inr h
  clear hAe hD0
  have hS : va_S A s.heap s.heap [] := va_S.rf
  have in1 : ∀ w ∈ u_ws RX1 TX1 9, w ∈ wsX3_greatestOf := by decide +kernel
  have in3 : ∀ w ∈ u_ws RX3 TX3 4, w ∈ wsX3_greatestOf := by decide +kernel
  have k15 := hts (.fieldLink RX3 15 "HouseSorted$Sharing" "taker" "[I") (by decide +kernel)
  have k18 := hts (.fieldLink RX3 18 "HouseSorted$Sharing" "house" "LHouseSorted$House;") (by decide +kernel)
  have k22 := hts (.fieldLink RX3 22 "HouseSorted$Sharing" "size" "I") (by decide +kernel)
  have k49 := hts (.fieldLink RX3 49 "HouseSorted$House" "worth" "[[I") (by decide +kernel)
  have k9 := hts (.fieldLink RX3 9 "HouseSorted$Sharing" "shared" "[I") (by decide +kernel)
  have kcmax := hts (.code Lib.Math.max.name Lib.Math.max.code 2 (some .int)) (by decide +kernel)
  have kiM := hts (.initialized "java/lang/Math") (by decide +kernel)
  have km53 := hts (.methodLink RX3 53 Lib.Math.max.name) (by decide +kernel)
  have ksmax := hts (.static Lib.Math.max.name) (by decide +kernel)
  have LP : ∀ n : Nat, (∀ (f : Int32) (j : Int32) (H : Heap) (locs : List Loc) (ls : Array Slot), 0 ≤ j.toInt ∧ j.toInt ≤ 10 → (10 - j.toInt).toNat < n → va_P (dC, dI) vwCl (wX a cB cI cS cII σ) H → va_D A (wX a cB cI cS cII σ) → va_S A s.heap H locs → lv_has ls 5 [(0, .ref (a 5)), (1, .int x1), (2, .int x2), (3, .int f), (4, .int j)] → W p l e (headSpec wsX3_greatestOf RM_X3_greatestOf).room s m ([.ref (a 5), .int x1, .int x2] : List Value).toArray below meth c H locs 0 0 (MQ below (zQi (dC, dI) (zT cB cI cS cII) (wX a cB cI cS cII) A (fun (r : Int32) (σ1 : Cn) => σ1 = σ ∧ True)) ([.ref (a 5), .int x1, .int x2] : List Value).toArray s 0 0 A) (F0 m 5 ls [])) := by
    intro n
    induction n with
    | zero => exact by intros; omega
    | succ n ih =>
      · intro f j H locs ls g1 hmu hP hD hS hl
        refine lv_iload hx hb dX3_greatestOf_5 (lv_at hl 4 rfl) ?_
        refine lv_aload_n hx hb dX3_greatestOf_7 rfl (lv_at hl 0 rfl) ?_
        refine va_get (D := (dC, dI)) (ci := 3) (v := .int (σ 5 2)) (C := RX3) (T := TX3) (N := 4) hx hb hts in3 hown hK hP 5 rfl rfl 2 (by decide) k22 (fun _ h9 => h9) rfl dX3_greatestOf_8 ?_
        refine lv_icmp_ge (tgt := 53) hx hb dX3_greatestOf_11 (by decide) (fun c11 => ?_) (fun c11 => ?_)
        · skip
          have ic11 := zle (a := (σ 5 2).toInt) (b := j.toInt) rfl rfl c11
          refine lv_iload_n hx hb dX3_greatestOf_53 rfl (lv_at hl 3 rfl) ?_
          have hpost : σ = σ ∧ True := by exact ⟨rfl, trivial⟩
          exact W.iret (v := f) hx hb hr (fun t9 ht hW => ⟨⟨f, σ, rfl, hpost, by rw [ht]; exact hP, va_K.moved hW.alike hK, hD⟩, hS.F ht⟩) hS.2.2 dX3_greatestOf_54
        · skip
          have ic11 := znle (a := (σ 5 2).toInt) (b := j.toInt) rfl rfl c11
          refine lv_aload_n hx hb dX3_greatestOf_14 rfl (lv_at hl 0 rfl) ?_
          refine va_get (D := (dC, dI)) (ci := 3) (v := .ref (a 26)) (C := RX3) (T := TX3) (N := 4) hx hb hts in3 hown hK hP 5 rfl rfl 3 (by decide) k15 (fun _ h9 => h9) rfl dX3_greatestOf_15 ?_
          refine lv_iload hx hb dX3_greatestOf_18 (lv_at hl 4 rfl) ?_
          refine va_iald (D := (dC, dI)) (f := σ 26) hx hb hK hP 26 1 rfl rfl (i := j) (n := 10) (zin (by omega) (by omega)) dX3_greatestOf_20 ?_
          refine lv_topi (fun v20 ev20 => ?_)
          have tv20 := congrArg Int32.toInt ev20
          refine lv_iload_n hx hb dX3_greatestOf_21 rfl (lv_at hl 2 rfl) ?_
          refine lv_icmp_ne (tgt := 47) hx hb dX3_greatestOf_22 (by decide) (fun c22 => ?_) (fun c22 => ?_)
          · skip
            have ic22 := zneq (a := v20.toInt) (b := x2.toInt) rfl rfl c22
            obtain ⟨v47, ev47⟩ : ∃ y : Int32, y = j + 1 := ⟨_, rfl⟩
            refine lv_iinc (v := v47) (lv' := [(4, .int v47), (0, .ref (a 5)), (1, .int x1), (2, .int x2), (3, .int f)]) hx hb dX3_greatestOf_47 hl (k := 4) rfl (by rw [ev47]; rfl) (by decide) rfl (fun ls hl => ?_)
            have tv47 : v47.toInt = j.toInt + 1 := by rw [ev47, zadd, show (1 : Int32).toInt = 1 from by decide]; omega
            refine lv_goto (tgt := 5) hx hb dX3_greatestOf_50 (by decide) ?_
            exact ih (f) (v47)  H locs ls (by omega) (by omega) hP hD hS (lv_sub hl [1, 2, 3, 4, 0] rfl)
          · skip
            have ic22 := zeq (a := v20.toInt) (b := x2.toInt) rfl rfl c22
            refine lv_iload_n hx hb dX3_greatestOf_25 rfl (lv_at hl 3 rfl) ?_
            refine lv_aload_n hx hb dX3_greatestOf_26 rfl (lv_at hl 0 rfl) ?_
            refine va_get (D := (dC, dI)) (ci := 3) (v := .ref (a 4)) (C := RX3) (T := TX3) (N := 4) hx hb hts in3 hown hK hP 5 rfl rfl 0 (by decide) k18 (fun _ h9 => h9) rfl dX3_greatestOf_27 ?_
            refine va_get (D := (dC, dI)) (ci := 1) (v := .ref (a 20)) (C := RX1) (T := TX1) (N := 9) hx hb hts in1 hown hK hP 4 rfl rfl 8 (by decide) k49 (fun _ h9 => h9) rfl dX3_greatestOf_30 ?_
            refine lv_iload_n hx hb dX3_greatestOf_33 rfl (lv_at hl 1 rfl) ?_
            have hr34 : (x1).toNatClampNeg < 4 := by have h9 := zcl (x := x1) (by omega); omega
            refine zald hx hb hK hP 20 3 rfl rfl (i := x1) (n := 4) (zin (by omega) (by omega)) (zro_in hr34) dX3_greatestOf_34 ?_
            refine lv_aload_n hx hb dX3_greatestOf_35 rfl (lv_at hl 0 rfl) ?_
            refine va_get (D := (dC, dI)) (ci := 3) (v := .ref (a 25)) (C := RX3) (T := TX3) (N := 4) hx hb hts in3 hown hK hP 5 rfl rfl 1 (by decide) k9 (fun _ h9 => h9) rfl dX3_greatestOf_36 ?_
            refine lv_iload hx hb dX3_greatestOf_39 (lv_at hl 4 rfl) ?_
            refine va_iald (D := (dC, dI)) (f := σ 25) hx hb hK hP 25 1 rfl rfl (i := j) (n := 10) (zin (by omega) (by omega)) dX3_greatestOf_41 ?_
            refine lv_topi (fun v41 ev41 => ?_)
            have tv41 := congrArg Int32.toInt ev41
            have hb9 := hq ((j).toNatClampNeg) (by have q := zcl (x := j) (by omega); omega)
            refine va_iald (D := (dC, dI)) (f := σ (21 + (x1).toNatClampNeg)) hx hb hK hP (21 + (x1).toNatClampNeg) 1 (wX_row21 hr34) rfl (i := v41) (n := 10) (zin (by omega) (by omega)) dX3_greatestOf_42 ?_
            refine lv_topi (fun v42 ev42 => ?_)
            have tv42 := congrArg Int32.toInt ev42
            refine va_mmax hx hb (hml.trans hl.1.symm) hown km53 ksmax kiM kcmax (Nat.le_of_ble_eq_true rfl) (Nat.le_of_ble_eq_true rfl) (Nat.zero_le _) (Nat.zero_le _) dX3_greatestOf_43 ?_
            refine lv_topi (fun v43 ev43 => ?_)
            have tv43 := zmax (x := f) (y := v42) (a := f.toInt) (b := v42.toInt) rfl rfl ev43
            refine lv_istore_n (lv' := [(3, .int v43), (0, .ref (a 5)), (1, .int x1), (2, .int x2), (4, .int j)]) hx hb dX3_greatestOf_46 rfl hl (by decide) rfl (fun ls hl => ?_)
            obtain ⟨v47, ev47⟩ : ∃ y : Int32, y = j + 1 := ⟨_, rfl⟩
            refine lv_iinc (v := v47) (lv' := [(4, .int v47), (3, .int v43), (0, .ref (a 5)), (1, .int x1), (2, .int x2)]) hx hb dX3_greatestOf_47 hl (k := 4) rfl (by rw [ev47]; rfl) (by decide) rfl (fun ls hl => ?_)
            have tv47 : v47.toInt = j.toInt + 1 := by rw [ev47, zadd, show (1 : Int32).toInt = 1 from by decide]; omega
            refine lv_goto (tgt := 5) hx hb dX3_greatestOf_50 (by decide) ?_
            exact ih (v43) (v47)  H locs ls (by omega) (by omega) hP hD hS (lv_sub hl [2, 3, 4, 1, 0] rfl)
  have hl := lv_entry ([.ref (a 5), .int x1, .int x2]) (n := 5) (Nat.le_of_ble_eq_true rfl)
  rw [lg_entry_eq]
  generalize (lg_sl ([.ref (a 5), .int x1, .int x2]) ++ List.replicate (5 - (lg_sl ([.ref (a 5), .int x1, .int x2])).length) Slot.unset).toArray = ls at hl ⊢
  have hl : lv_has ls 5 [(0, .ref (a 5)), (1, .int x1), (2, .int x2)] := hl
  suffices main : ∀ (H : Heap) (locs : List Loc), va_P (dC, dI) vwCl (wX a cB cI cS cII σ) H → va_D A (wX a cB cI cS cII σ) → va_S A s.heap H locs → W p l e (headSpec wsX3_greatestOf RM_X3_greatestOf).room s m ([.ref (a 5), .int x1, .int x2] : List Value).toArray below meth c H locs 0 0 (MQ below (zQi (dC, dI) (zT cB cI cS cII) (wX a cB cI cS cII) A (fun (r : Int32) (σ1 : Cn) => σ1 = σ ∧ True)) ([.ref (a 5), .int x1, .int x2] : List Value).toArray s 0 0 A) (F0 m 0 ls []) from main s.heap [] hP hD hS
  intro H locs hP hD hS
  refine lv_iconst (v := 0) hx hb dX3_greatestOf_0 (by decide) ?_
  refine lv_istore_n (lv' := [(3, .int 0), (0, .ref (a 5)), (1, .int x1), (2, .int x2)]) hx hb dX3_greatestOf_1 rfl hl (by decide) rfl (fun ls hl => ?_)
  refine lv_iconst (v := 0) hx hb dX3_greatestOf_2 (by decide) ?_
  refine lv_istore (lv' := [(4, .int 0), (3, .int 0), (0, .ref (a 5)), (1, .int x1), (2, .int x2)]) hx hb dX3_greatestOf_3 hl (by decide) rfl (fun ls hl => ?_)
  exact (LP _) (0) (0)  H locs ls (by decide) (Nat.lt_succ_self _) hP hD hS (lv_sub hl [2, 3, 4, 1, 0] rfl)

abbrev RM_X3_changesOrder : Room := { frames := 0, cells := 0, slots := 0, locals := 0 }
set_option maxHeartbeats 4000000 in
set_option maxRecDepth 100000 in
theorem c_X3_changesOrder (l : Launch) (dC : Nat → ClassId) (dI : Nat → Nat → Nat) (cB cI cS cII : ClassId) (a : Nat → Nat) (N : (Nat → Prop) → State → Prop) (hok : zNok N) (hn : ∀ A U, N A U → zN U) (σ : Cn) (sz : Nat) (x1 : Int32) (x2 : Int32) (x3 : Int32) (h1 : 0 ≤ x1.toInt ∧ x1.toInt < 4) (hs : 0 ≤ (σ 5 2).toInt ∧ (σ 5 2).toInt ≤ 10) (hq : ∀ j : Nat, (j : Int) < (σ 5 2).toInt → 0 ≤ (σ 25 j).toInt ∧ (σ 25 j).toInt < 10) : Met l yX3_changesOrder wsX3_changesOrder RM_X3_changesOrder (zPc (dC, dI) (zT cB cI cS cII) N (wX a cB cI cS cII) σ sz [.ref (a 5), .int x1, .int x2, .int x3]) (zQi (dC, dI) (zT cB cI cS cII) (wX a cB cI cS cII) (va_A (wX a cB cI cS cII σ) sz) (fun (r : Int32) (σ1 : Cn) => σ1 = σ ∧ ((r : Int32).toInt = 1 ∨ (r : Int32).toInt = 0))) 0 0 (va_A (wX a cB cI cS cII σ) sz) := by
  refine Met.ofW (cc := cX3_changesOrder) (maxL := 6) (ret := (some .boolean)) (by decide) rfl ?_
  intro p e s m args below meth c s₁ B hml hv
  obtain ⟨rfl, hsz, hP, hK, hD0, hN⟩ := hv
  have hx := B.exec
  have hb := B.bytes
  have hr := B.returns
  have hts := atoms_spec (ws := wsX3_changesOrder) B.pre
  have hown : s.vm.findClass RX3 = some m.cls := findClass_of_methodNamed B.named
  have hlocks := B.notSynchronized
  subst hsz
  have hD := hD0.self (sz := s.heap.size)
  generalize hAe : va_A (wX a cB cI cS cII σ) s.heap.size = A at hD hN ⊢
  have hA : ∀ q : Nat, s.heap.size ≤ q → A q := fun q h => by rw [← hAe]; exact Or.inr h
  clear hAe hD0
  have hS : va_S A s.heap s.heap [] := va_S.rf
  have in1 : ∀ w ∈ u_ws RX1 TX1 9, w ∈ wsX3_changesOrder := by decide +kernel
  have in3 : ∀ w ∈ u_ws RX3 TX3 4, w ∈ wsX3_changesOrder := by decide +kernel
  have k18 := hts (.fieldLink RX3 18 "HouseSorted$Sharing" "house" "LHouseSorted$House;") (by decide +kernel)
  have k22 := hts (.fieldLink RX3 22 "HouseSorted$Sharing" "size" "I") (by decide +kernel)
  have k49 := hts (.fieldLink RX3 49 "HouseSorted$House" "worth" "[[I") (by decide +kernel)
  have k9 := hts (.fieldLink RX3 9 "HouseSorted$Sharing" "shared" "[I") (by decide +kernel)
  have LP : ∀ n : Nat, (∀ (j : Int32) (H : Heap) (locs : List Loc) (ls : Array Slot), 0 ≤ j.toInt ∧ j.toInt ≤ 10 → (10 - j.toInt).toNat < n → va_P (dC, dI) vwCl (wX a cB cI cS cII σ) H → va_D A (wX a cB cI cS cII σ) → va_S A s.heap H locs → lv_has ls 6 [(0, .ref (a 5)), (1, .int x1), (2, .int x2), (3, .int x3), (4, .int j)] → W p l e (headSpec wsX3_changesOrder RM_X3_changesOrder).room s m ([.ref (a 5), .int x1, .int x2, .int x3] : List Value).toArray below meth c H locs 0 0 (MQ below (zQi (dC, dI) (zT cB cI cS cII) (wX a cB cI cS cII) A (fun (r : Int32) (σ1 : Cn) => σ1 = σ ∧ ((r : Int32).toInt = 1 ∨ (r : Int32).toInt = 0))) ([.ref (a 5), .int x1, .int x2, .int x3] : List Value).toArray s 0 0 A) (F0 m 9 ls [])) := by
    intro n
    induction n with
    | zero => exact by intros; omega
    | succ n ih =>
      · intro j H locs ls g1 hmu hP hD hS hl
        refine lv_iload hx hb dX3_changesOrder_9 (lv_at hl 4 rfl) ?_
        refine lv_aload_n hx hb dX3_changesOrder_11 rfl (lv_at hl 0 rfl) ?_
        refine va_get (D := (dC, dI)) (ci := 3) (v := .int (σ 5 2)) (C := RX3) (T := TX3) (N := 4) hx hb hts in3 hown hK hP 5 rfl rfl 2 (by decide) k22 (fun _ h9 => h9) rfl dX3_changesOrder_12 ?_
        refine lv_icmp_ge (tgt := 65) hx hb dX3_changesOrder_15 (by decide) (fun c15 => ?_) (fun c15 => ?_)
        · skip
          have ic15 := zle (a := (σ 5 2).toInt) (b := j.toInt) rfl rfl c15
          refine lv_iconst (v := 0) hx hb dX3_changesOrder_65 (by decide) ?_
          have hpost : σ = σ ∧ ((0 : Int32).toInt = 1 ∨ (0 : Int32).toInt = 0) := by exact ⟨rfl, by decide⟩
          exact W.zret (v := 0) hx hb hr (by decide +kernel) (fun t9 ht hW => ⟨⟨0, σ, rfl, hpost, by rw [ht]; exact hP, va_K.moved hW.alike hK, hD⟩, hS.F ht⟩) hS.2.2 dX3_changesOrder_66
        · skip
          have ic15 := znle (a := (σ 5 2).toInt) (b := j.toInt) rfl rfl c15
          refine lv_aload_n hx hb dX3_changesOrder_18 rfl (lv_at hl 0 rfl) ?_
          refine va_get (D := (dC, dI)) (ci := 3) (v := .ref (a 4)) (C := RX3) (T := TX3) (N := 4) hx hb hts in3 hown hK hP 5 rfl rfl 0 (by decide) k18 (fun _ h9 => h9) rfl dX3_changesOrder_19 ?_
          refine va_get (D := (dC, dI)) (ci := 1) (v := .ref (a 20)) (C := RX1) (T := TX1) (N := 9) hx hb hts in1 hown hK hP 4 rfl rfl 8 (by decide) k49 (fun _ h9 => h9) rfl dX3_changesOrder_22 ?_
          refine lv_iload_n hx hb dX3_changesOrder_25 rfl (lv_at hl 1 rfl) ?_
          have hr26 : (x1).toNatClampNeg < 4 := by have h9 := zcl (x := x1) (by omega); omega
          refine zald hx hb hK hP 20 3 rfl rfl (i := x1) (n := 4) (zin (by omega) (by omega)) (zro_in hr26) dX3_changesOrder_26 ?_
          refine lv_aload_n hx hb dX3_changesOrder_27 rfl (lv_at hl 0 rfl) ?_
          refine va_get (D := (dC, dI)) (ci := 3) (v := .ref (a 25)) (C := RX3) (T := TX3) (N := 4) hx hb hts in3 hown hK hP 5 rfl rfl 1 (by decide) k9 (fun _ h9 => h9) rfl dX3_changesOrder_28 ?_
          refine lv_iload hx hb dX3_changesOrder_31 (lv_at hl 4 rfl) ?_
          refine va_iald (D := (dC, dI)) (f := σ 25) hx hb hK hP 25 1 rfl rfl (i := j) (n := 10) (zin (by omega) (by omega)) dX3_changesOrder_33 ?_
          refine lv_topi (fun v33 ev33 => ?_)
          have tv33 := congrArg Int32.toInt ev33
          have hb9 := hq ((j).toNatClampNeg) (by have q := zcl (x := j) (by omega); omega)
          refine va_iald (D := (dC, dI)) (f := σ (21 + (x1).toNatClampNeg)) hx hb hK hP (21 + (x1).toNatClampNeg) 1 (wX_row21 hr26) rfl (i := v33) (n := 10) (zin (by omega) (by omega)) dX3_changesOrder_34 ?_
          refine lv_topi (fun v34 ev34 => ?_)
          have tv34 := congrArg Int32.toInt ev34
          refine lv_istore (lv' := [(5, .int v34), (0, .ref (a 5)), (1, .int x1), (2, .int x2), (3, .int x3), (4, .int j)]) hx hb dX3_changesOrder_35 hl (by decide) rfl (fun ls hl => ?_)
          refine lv_iload hx hb dX3_changesOrder_37 (lv_at hl 5 rfl) ?_
          refine lv_iload_n hx hb dX3_changesOrder_39 rfl (lv_at hl 3 rfl) ?_
          refine lv_icmp_eq (tgt := 59) hx hb dX3_changesOrder_40 (by decide) (fun c40 => ?_) (fun c40 => ?_)
          · skip
            have ic40 := zeq (a := j.toInt) (b := x2.toInt) rfl rfl c40
            obtain ⟨v59, ev59⟩ : ∃ y : Int32, y = j + 1 := ⟨_, rfl⟩
            refine lv_iinc (v := v59) (lv' := [(4, .int v59), (5, .int v34), (0, .ref (a 5)), (1, .int x1), (2, .int x2), (3, .int x3)]) hx hb dX3_changesOrder_59 hl (k := 5) rfl (by rw [ev59]; rfl) (by decide) rfl (fun ls hl => ?_)
            have tv59 : v59.toInt = j.toInt + 1 := by rw [ev59, zadd, show (1 : Int32).toInt = 1 from by decide]; omega
            refine lv_goto (tgt := 9) hx hb dX3_changesOrder_62 (by decide) ?_
            exact ih (v59)  H locs ls (by omega) (by omega) hP hD hS (lv_sub hl [2, 3, 4, 5, 0] rfl)
          · skip
            have ic40 := zneq (a := j.toInt) (b := x2.toInt) rfl rfl c40
            refine lv_iload hx hb dX3_changesOrder_43 (lv_at hl 0 rfl) ?_
            refine lv_iload_n hx hb dX3_changesOrder_45 rfl (lv_at hl 4 rfl) ?_
            refine lv_icmp_eq (tgt := 57) hx hb dX3_changesOrder_46 (by decide) (fun c46 => ?_) (fun c46 => ?_)
            · skip
              have ic46 := zeq (a := v34.toInt) (b := x3.toInt) rfl rfl c46
              refine lv_iconst (v := 1) hx hb dX3_changesOrder_57 (by decide) ?_
              have hpost : σ = σ ∧ ((1 : Int32).toInt = 1 ∨ (1 : Int32).toInt = 0) := by exact ⟨rfl, by decide⟩
              exact W.zret (v := 1) hx hb hr (by decide +kernel) (fun t9 ht hW => ⟨⟨1, σ, rfl, hpost, by rw [ht]; exact hP, va_K.moved hW.alike hK, hD⟩, hS.F ht⟩) hS.2.2 dX3_changesOrder_58
            · skip
              have ic46 := zneq (a := v34.toInt) (b := x3.toInt) rfl rfl c46
              refine lv_iload hx hb dX3_changesOrder_49 (lv_at hl 0 rfl) ?_
              refine lv_iload_n hx hb dX3_changesOrder_51 rfl (lv_at hl 4 rfl) ?_
              refine lv_iconst (v := 1) hx hb dX3_changesOrder_52 (by decide) ?_
              refine lv_isub hx hb dX3_changesOrder_53 ?_
              refine lv_topi (fun v53 ev53 => ?_)
              refine lv_icmp_ne (tgt := 59) hx hb dX3_changesOrder_54 (by decide) (fun c54 => ?_) (fun c54 => ?_)
              · skip
                have ic54 := zneq (a := v34.toInt) (b := v53.toInt) rfl rfl c54
                obtain ⟨v59, ev59⟩ : ∃ y : Int32, y = j + 1 := ⟨_, rfl⟩
                refine lv_iinc (v := v59) (lv' := [(4, .int v59), (5, .int v34), (0, .ref (a 5)), (1, .int x1), (2, .int x2), (3, .int x3)]) hx hb dX3_changesOrder_59 hl (k := 5) rfl (by rw [ev59]; rfl) (by decide) rfl (fun ls hl => ?_)
                have tv59 : v59.toInt = j.toInt + 1 := by rw [ev59, zadd, show (1 : Int32).toInt = 1 from by decide]; omega
                refine lv_goto (tgt := 9) hx hb dX3_changesOrder_62 (by decide) ?_
                exact ih (v59)  H locs ls (by omega) (by omega) hP hD hS (lv_sub hl [2, 3, 4, 5, 0] rfl)
              · skip
                have ic54 := zeq (a := v34.toInt) (b := v53.toInt) rfl rfl c54
                refine lv_iconst (v := 1) hx hb dX3_changesOrder_57 (by decide) ?_
                have hpost : σ = σ ∧ ((1 : Int32).toInt = 1 ∨ (1 : Int32).toInt = 0) := by exact ⟨rfl, by decide⟩
                exact W.zret (v := 1) hx hb hr (by decide +kernel) (fun t9 ht hW => ⟨⟨1, σ, rfl, hpost, by rw [ht]; exact hP, va_K.moved hW.alike hK, hD⟩, hS.F ht⟩) hS.2.2 dX3_changesOrder_58
  have hl := lv_entry ([.ref (a 5), .int x1, .int x2, .int x3]) (n := 6) (Nat.le_of_ble_eq_true rfl)
  rw [lg_entry_eq]
  generalize (lg_sl ([.ref (a 5), .int x1, .int x2, .int x3]) ++ List.replicate (6 - (lg_sl ([.ref (a 5), .int x1, .int x2, .int x3])).length) Slot.unset).toArray = ls at hl ⊢
  have hl : lv_has ls 6 [(0, .ref (a 5)), (1, .int x1), (2, .int x2), (3, .int x3)] := hl
  suffices main : ∀ (H : Heap) (locs : List Loc), va_P (dC, dI) vwCl (wX a cB cI cS cII σ) H → va_D A (wX a cB cI cS cII σ) → va_S A s.heap H locs → W p l e (headSpec wsX3_changesOrder RM_X3_changesOrder).room s m ([.ref (a 5), .int x1, .int x2, .int x3] : List Value).toArray below meth c H locs 0 0 (MQ below (zQi (dC, dI) (zT cB cI cS cII) (wX a cB cI cS cII) A (fun (r : Int32) (σ1 : Cn) => σ1 = σ ∧ ((r : Int32).toInt = 1 ∨ (r : Int32).toInt = 0))) ([.ref (a 5), .int x1, .int x2, .int x3] : List Value).toArray s 0 0 A) (F0 m 0 ls []) from main s.heap [] hP hD hS
  intro H locs hP hD hS
  refine lv_iload_n hx hb dX3_changesOrder_0 rfl (lv_at hl 3 rfl) ?_
  refine lv_if_ne (tgt := 6) hx hb dX3_changesOrder_1 (by decide) (fun c1 => ?_) (fun c1 => ?_)
  · skip
    have ic1 := zneq (a := x3.toInt) (b := 0) rfl (by decide) c1
    refine lv_iconst (v := 0) hx hb dX3_changesOrder_6 (by decide) ?_
    refine lv_istore (lv' := [(4, .int 0), (0, .ref (a 5)), (1, .int x1), (2, .int x2), (3, .int x3)]) hx hb dX3_changesOrder_7 hl (by decide) rfl (fun ls hl => ?_)
    exact (LP _) (0)  H locs ls (by decide) (Nat.lt_succ_self _) hP hD hS (lv_sub hl [1, 2, 3, 4, 0] rfl)
  · skip
    have ic1 := zeq (a := x3.toInt) (b := 0) rfl (by decide) c1
    refine lv_iconst (v := 1) hx hb dX3_changesOrder_4 (by decide) ?_
    have hpost : σ = σ ∧ ((1 : Int32).toInt = 1 ∨ (1 : Int32).toInt = 0) := by exact ⟨rfl, by decide⟩
    exact W.zret (v := 1) hx hb hr (by decide +kernel) (fun t9 ht hW => ⟨⟨1, σ, rfl, hpost, by rw [ht]; exact hP, va_K.moved hW.alike hK, hD⟩, hS.F ht⟩) hS.2.2 dX3_changesOrder_5

abbrev RM_X3_mostByLying : Room := { frames := 4, cells := 0, slots := 0, locals := 97 }
set_option maxHeartbeats 4000000 in
set_option maxRecDepth 100000 in
theorem c_X3_mostByLying (l : Launch) (dC : Nat → ClassId) (dI : Nat → Nat → Nat) (cB cI cS cII : ClassId) (a : Nat → Nat) (N : (Nat → Prop) → State → Prop) (hok : zNok N) (hn : ∀ A U, N A U → zN U) (σ : Cn) (sz : Nat) (x1 : Int32) (x2 : Int32) (h0 : 0 ≤ (σ 4 1).toInt ∧ (σ 4 1).toInt ≤ 4) (h1 : 0 ≤ x2.toInt ∧ x2.toInt < 4) (hs : 0 ≤ (σ 5 2).toInt ∧ (σ 5 2).toInt ≤ 10) (hq : ∀ j : Nat, (j : Int) < (σ 5 2).toInt → 0 ≤ (σ 25 j).toInt ∧ (σ 25 j).toInt < 10) : Met l yX3_mostByLying wsX3_mostByLying RM_X3_mostByLying (zPc (dC, dI) (zT cB cI cS cII) N (wX a cB cI cS cII) σ sz [.ref (a 5), .int x1, .int x2]) (zQi (dC, dI) (zT cB cI cS cII) (wX a cB cI cS cII) (va_A (wX a cB cI cS cII σ) sz) (fun (r : Int32) (σ1 : Cn) => ∃ u26 : Nat → Int32, σ1 = (upC σ 26 u26) ∧ True)) 0 0 (va_A (wX a cB cI cS cII σ) sz) := by
  refine Met.ofW (cc := cX3_mostByLying) (maxL := 7) (ret := (some .int)) (by decide) rfl ?_
  intro p e s m args below meth c s₁ B hml hv
  obtain ⟨rfl, hsz, hP, hK, hD0, hN⟩ := hv
  have hx := B.exec
  have hb := B.bytes
  have hr := B.returns
  have hts := atoms_spec (ws := wsX3_mostByLying) B.pre
  have hown : s.vm.findClass RX3 = some m.cls := findClass_of_methodNamed B.named
  have hlocks := B.notSynchronized
  subst hsz
  have hD := hD0.self (sz := s.heap.size)
  generalize hAe : va_A (wX a cB cI cS cII σ) s.heap.size = A at hD hN ⊢
  have hA : ∀ q : Nat, s.heap.size ≤ q → A q := fun q h => by rw [← hAe]; exact Or.inr h
  clear hAe hD0
  have hS : va_S A s.heap s.heap [] := va_S.rf
  have in3 : ∀ w ∈ u_ws RX3 TX3 4, w ∈ wsX3_mostByLying := by decide +kernel
  have k22 := hts (.fieldLink RX3 22 "HouseSorted$Sharing" "size" "I") (by decide +kernel)
  have k9 := hts (.fieldLink RX3 9 "HouseSorted$Sharing" "shared" "[I") (by decide +kernel)
  have kcmax := hts (.code Lib.Math.max.name Lib.Math.max.code 2 (some .int)) (by decide +kernel)
  have kiM := hts (.initialized "java/lang/Math") (by decide +kernel)
  have km53 := hts (.methodLink RX3 53 Lib.Math.max.name) (by decide +kernel)
  have ksmax := hts (.static Lib.Math.max.name) (by decide +kernel)
  have LP : ∀ n : Nat, (∀ (ho : Int32) (be : Int32) (j : Int32) (w26 : Nat → Int32) (H : Heap) (locs : List Loc) (ls : Array Slot), 0 ≤ j.toInt ∧ j.toInt ≤ 10 → ((10 - j.toInt).toNat * 200) < n → va_P (dC, dI) vwCl (wX a cB cI cS cII (upC σ 26 w26)) H → va_D A (wX a cB cI cS cII (upC σ 26 w26)) → va_S A s.heap H locs → lv_has ls 7 [(0, .ref (a 5)), (1, .int x1), (2, .int x2), (3, .int ho), (4, .int be), (5, .int j)] → W p l e (headSpec wsX3_mostByLying RM_X3_mostByLying).room s m ([.ref (a 5), .int x1, .int x2] : List Value).toArray below meth c H locs 0 0 (MQ below (zQi (dC, dI) (zT cB cI cS cII) (wX a cB cI cS cII) A (fun (r : Int32) (σ1 : Cn) => ∃ u26 : Nat → Int32, σ1 = (upC σ 26 u26) ∧ True)) ([.ref (a 5), .int x1, .int x2] : List Value).toArray s 0 0 A) (F0 m 18 ls [])) ∧ (∀ (ho : Int32) (be : Int32) (j : Int32) (k : Int32) (w26 : Nat → Int32) (H : Heap) (locs : List Loc) (ls : Array Slot), 0 ≤ j.toInt ∧ j.toInt < (σ 5 2).toInt → 0 ≤ k.toInt ∧ k.toInt ≤ 101 → ((9 - j.toInt).toNat * 200 + (101 - k.toInt).toNat + 1) < n → va_P (dC, dI) vwCl (wX a cB cI cS cII (upC σ 26 w26)) H → va_D A (wX a cB cI cS cII (upC σ 26 w26)) → va_S A s.heap H locs → lv_has ls 7 [(0, .ref (a 5)), (1, .int x1), (2, .int x2), (3, .int ho), (4, .int be), (5, .int j), (6, .int k)] → W p l e (headSpec wsX3_mostByLying RM_X3_mostByLying).room s m ([.ref (a 5), .int x1, .int x2] : List Value).toArray below meth c H locs 0 0 (MQ below (zQi (dC, dI) (zT cB cI cS cII) (wX a cB cI cS cII) A (fun (r : Int32) (σ1 : Cn) => ∃ u26 : Nat → Int32, σ1 = (upC σ 26 u26) ∧ True)) ([.ref (a 5), .int x1, .int x2] : List Value).toArray s 0 0 A) (F0 m 30 ls [])) := by
    intro n
    induction n with
    | zero => exact ⟨(by intros; omega), (by intros; omega)⟩
    | succ n ih =>
      refine ⟨?_, ?_⟩
      · intro ho be j w26 H locs ls g1 hmu hP hD hS hl
        refine lv_iload hx hb dX3_mostByLying_18 (lv_at hl 5 rfl) ?_
        refine lv_aload_n hx hb dX3_mostByLying_20 rfl (lv_at hl 0 rfl) ?_
        refine va_get (D := (dC, dI)) (ci := 3) (v := .int (σ 5 2)) (C := RX3) (T := TX3) (N := 4) hx hb hts in3 hown hK hP 5 rfl rfl 2 (by decide) k22 (fun _ h9 => h9) rfl dX3_mostByLying_21 ?_
        refine lv_icmp_ge (tgt := 89) hx hb dX3_mostByLying_24 (by decide) (fun c24 => ?_) (fun c24 => ?_)
        · skip
          have ic24 := zle (a := (σ 5 2).toInt) (b := j.toInt) rfl rfl c24
          refine lv_iload hx hb dX3_mostByLying_89 (lv_at hl 4 rfl) ?_
          refine lv_iload_n hx hb dX3_mostByLying_91 rfl (lv_at hl 3 rfl) ?_
          refine lv_isub hx hb dX3_mostByLying_92 ?_
          refine lv_topi (fun v92 ev92 => ?_)
          have hpost : ∃ u26 : Nat → Int32, (upC σ 26 w26) = (upC σ 26 u26) ∧ True := by exact ⟨_, rfl, trivial⟩
          exact W.iret (v := v92) hx hb hr (fun t9 ht hW => ⟨⟨v92, (upC σ 26 w26), rfl, hpost, by rw [ht]; exact hP, va_K.moved hW.alike hK, hD⟩, hS.F ht⟩) hS.2.2 dX3_mostByLying_93
        · skip
          have ic24 := znle (a := (σ 5 2).toInt) (b := j.toInt) rfl rfl c24
          refine lv_iconst (v := 0) hx hb dX3_mostByLying_27 (by decide) ?_
          refine lv_istore (lv' := [(6, .int 0), (0, .ref (a 5)), (1, .int x1), (2, .int x2), (3, .int ho), (4, .int be), (5, .int j)]) hx hb dX3_mostByLying_28 hl (by decide) rfl (fun ls hl => ?_)
          exact ih.2 (ho) (be) (j) (0) (w26) H locs ls (by omega) (by first | omega | decide) (by first | omega | (rw [show (0 : Int32).toInt = 0 from by decide]; omega)) hP hD hS (lv_sub hl [1, 2, 3, 4, 5, 6, 0] rfl)
      · intro ho be j k w26 H locs ls g1 g2 hmu hP hD hS hl
        refine lv_iload hx hb dX3_mostByLying_30 (lv_at hl 6 rfl) ?_
        refine lv_bipush (v := 100) hx hb dX3_mostByLying_32 (by decide) ?_
        refine lv_icmp_gt (tgt := 83) hx hb dX3_mostByLying_34 (by decide) (fun c34 => ?_) (fun c34 => ?_)
        · skip
          have ic34 := zlt (a := 100) (b := k.toInt) (by decide) rfl c34
          obtain ⟨v83, ev83⟩ : ∃ y : Int32, y = j + 1 := ⟨_, rfl⟩
          refine lv_iinc (v := v83) (lv' := [(5, .int v83), (0, .ref (a 5)), (1, .int x1), (2, .int x2), (3, .int ho), (4, .int be), (6, .int k)]) hx hb dX3_mostByLying_83 hl (k := 5) rfl (by rw [ev83]; rfl) (by decide) rfl (fun ls hl => ?_)
          have tv83 : v83.toInt = j.toInt + 1 := by rw [ev83, zadd, show (1 : Int32).toInt = 1 from by decide]; omega
          refine lv_goto (tgt := 18) hx hb dX3_mostByLying_86 (by decide) ?_
          exact ih.1 (ho) (be) (v83) (w26) H locs ls (by first | omega | decide) (by omega) hP hD hS (lv_sub hl [1, 2, 3, 4, 5, 0] rfl)
        · skip
          have ic34 := znlt (a := 100) (b := k.toInt) (by decide) rfl c34
          refine lv_aload_n hx hb dX3_mostByLying_37 rfl (lv_at hl 0 rfl) ?_
          refine lv_iload_n hx hb dX3_mostByLying_38 rfl (lv_at hl 2 rfl) ?_
          refine lv_iload hx hb dX3_mostByLying_39 (lv_at hl 5 rfl) ?_
          refine lv_iload hx hb dX3_mostByLying_41 (lv_at hl 6 rfl) ?_
          refine zcalli (va_runV (As := [.int x2, .int j, .int k]) (rest := []) ⟨hx, hb, hml, hown, hts⟩ (c_X3_changesOrder l dC dI cB cI cS cII a N hok hn (upC σ 26 w26) H.size (x2) (j) (k) (by omega) hs hq) (cwV 3 hts gX3_mostByLying_X3_changesOrder rfl rfl rfl (by decide +kernel) ⟨Nat.le_of_ble_eq_true rfl, Nat.le_of_ble_eq_true rfl⟩) (zpreV (wf := wX a cB cI cS cII) (q0 := 5) (ci := 3) hok hN hS hA hK hP hD rfl rfl) rfl rfl hl.1 rfl (lv_room (Nat.le_of_ble_eq_true rfl)) dX3_mostByLying_43 ⟨Nat.zero_le _, Nat.zero_le _⟩) hD hS hA (fun v43 σ1 H locs hv43 hP hD hS => ?_)
          obtain ⟨es9, hv43⟩ := hv43
          subst σ1
          refine lv_if_eq (tgt := 77) hx hb dX3_mostByLying_46 (by decide) (fun c46 => ?_) (fun c46 => ?_)
          · skip
            have ic46 := zeq (a := v43.toInt) (b := 0) rfl (by decide) c46
            obtain ⟨v77, ev77⟩ : ∃ y : Int32, y = k + 1 := ⟨_, rfl⟩
            refine lv_iinc (v := v77) (lv' := [(6, .int v77), (0, .ref (a 5)), (1, .int x1), (2, .int x2), (3, .int ho), (4, .int be), (5, .int j)]) hx hb dX3_mostByLying_77 hl (k := 6) rfl (by rw [ev77]; rfl) (by decide) rfl (fun ls hl => ?_)
            have tv77 : v77.toInt = k.toInt + 1 := by rw [ev77, zadd, show (1 : Int32).toInt = 1 from by decide]; omega
            refine lv_goto (tgt := 30) hx hb dX3_mostByLying_80 (by decide) ?_
            exact ih.2 (ho) (be) (j) (v77) (w26) H locs ls (by omega) (by first | omega | decide) (by first | omega | (rw [show (0 : Int32).toInt = 0 from by decide]; omega)) hP hD hS (lv_sub hl [1, 2, 3, 4, 5, 6, 0] rfl)
          · skip
            have ic46 := zneq (a := v43.toInt) (b := 0) rfl (by decide) c46
            refine lv_aload_n hx hb dX3_mostByLying_49 rfl (lv_at hl 0 rfl) ?_
            refine lv_iload_n hx hb dX3_mostByLying_50 rfl (lv_at hl 1 rfl) ?_
            refine lv_iload_n hx hb dX3_mostByLying_51 rfl (lv_at hl 2 rfl) ?_
            refine lv_aload_n hx hb dX3_mostByLying_52 rfl (lv_at hl 0 rfl) ?_
            refine va_get (D := (dC, dI)) (ci := 3) (v := .ref (a 25)) (C := RX3) (T := TX3) (N := 4) hx hb hts in3 hown hK hP 5 rfl rfl 1 (by decide) k9 (fun _ h9 => h9) rfl dX3_mostByLying_53 ?_
            refine lv_iload hx hb dX3_mostByLying_56 (lv_at hl 5 rfl) ?_
            refine va_iald (D := (dC, dI)) (f := σ 25) hx hb hK hP 25 1 rfl rfl (i := j) (n := 10) (zin (by omega) (by omega)) dX3_mostByLying_58 ?_
            refine lv_topi (fun v58 ev58 => ?_)
            have tv58 := congrArg Int32.toInt ev58
            refine lv_iload hx hb dX3_mostByLying_59 (lv_at hl 6 rfl) ?_
            refine zcallv (va_runV (As := [.int x1, .int x2, .int v58, .int k]) (rest := []) ⟨hx, hb, hml, hown, hts⟩ (c_X3_takeTurnsWithLie l dC dI cB cI cS cII a N hok hn (upC σ 26 w26) H.size (x1) (x2) (v58) (k) h0 hs hq) (cwV 4 hts gX3_mostByLying_X3_takeTurnsWithLie rfl rfl rfl (by decide +kernel) ⟨Nat.le_of_ble_eq_true rfl, Nat.le_of_ble_eq_true rfl⟩) (zpreV (wf := wX a cB cI cS cII) (q0 := 5) (ci := 3) hok hN hS hA hK hP hD rfl rfl) rfl rfl hl.1 rfl (lv_room (Nat.le_of_ble_eq_true rfl)) dX3_mostByLying_61 ⟨Nat.zero_le _, Nat.zero_le _⟩) hD hS hA (fun σ1 H locs hv61 hP hD hS => ?_)
            obtain ⟨u26_61, es9, hv61⟩ := hv61
            subst σ1
            have hP : va_P (dC, dI) vwCl (wX a cB cI cS cII (upC σ 26 u26_61)) H := hP
            have hD : va_D A (wX a cB cI cS cII (upC σ 26 u26_61)) := hD
            refine lv_iload hx hb dX3_mostByLying_64 (lv_at hl 4 rfl) ?_
            refine lv_aload_n hx hb dX3_mostByLying_66 rfl (lv_at hl 0 rfl) ?_
            refine lv_iload_n hx hb dX3_mostByLying_67 rfl (lv_at hl 2 rfl) ?_
            refine lv_iload_n hx hb dX3_mostByLying_68 rfl (lv_at hl 2 rfl) ?_
            refine zcalli (va_runV (As := [.int x2, .int x2]) (rest := [.int be]) ⟨hx, hb, hml, hown, hts⟩ (c_X3_sumOf l dC dI cB cI cS cII a N hok hn (upC σ 26 u26_61) H.size (x2) (x2) (by omega) hs hq) (cwV 2 hts gX3_mostByLying_X3_sumOf rfl rfl rfl (by decide +kernel) ⟨Nat.le_of_ble_eq_true rfl, Nat.le_of_ble_eq_true rfl⟩) (zpreV (wf := wX a cB cI cS cII) (q0 := 5) (ci := 3) hok hN hS hA hK hP hD rfl rfl) rfl rfl hl.1 rfl (lv_room (Nat.le_of_ble_eq_true rfl)) dX3_mostByLying_69 ⟨Nat.zero_le _, Nat.zero_le _⟩) hD hS hA (fun v69 σ1 H locs hv69 hP hD hS => ?_)
            obtain ⟨es9, hv69⟩ := hv69
            subst σ1
            refine va_mmax hx hb (hml.trans hl.1.symm) hown km53 ksmax kiM kcmax (Nat.le_of_ble_eq_true rfl) (Nat.le_of_ble_eq_true rfl) (Nat.zero_le _) (Nat.zero_le _) dX3_mostByLying_72 ?_
            refine lv_topi (fun v72 ev72 => ?_)
            have tv72 := zmax (x := be) (y := v69) (a := be.toInt) (b := v69.toInt) rfl rfl ev72
            refine lv_istore (lv' := [(4, .int v72), (0, .ref (a 5)), (1, .int x1), (2, .int x2), (3, .int ho), (5, .int j), (6, .int k)]) hx hb dX3_mostByLying_75 hl (by decide) rfl (fun ls hl => ?_)
            obtain ⟨v77, ev77⟩ : ∃ y : Int32, y = k + 1 := ⟨_, rfl⟩
            refine lv_iinc (v := v77) (lv' := [(6, .int v77), (4, .int v72), (0, .ref (a 5)), (1, .int x1), (2, .int x2), (3, .int ho), (5, .int j)]) hx hb dX3_mostByLying_77 hl (k := 6) rfl (by rw [ev77]; rfl) (by decide) rfl (fun ls hl => ?_)
            have tv77 : v77.toInt = k.toInt + 1 := by rw [ev77, zadd, show (1 : Int32).toInt = 1 from by decide]; omega
            refine lv_goto (tgt := 30) hx hb dX3_mostByLying_80 (by decide) ?_
            exact ih.2 (ho) (v72) (j) (v77) (u26_61) H locs ls (by omega) (by first | omega | decide) (by first | omega | (rw [show (0 : Int32).toInt = 0 from by decide]; omega)) hP hD hS (lv_sub hl [2, 3, 4, 5, 1, 6, 0] rfl)
  have hl := lv_entry ([.ref (a 5), .int x1, .int x2]) (n := 7) (Nat.le_of_ble_eq_true rfl)
  rw [lg_entry_eq]
  generalize (lg_sl ([.ref (a 5), .int x1, .int x2]) ++ List.replicate (7 - (lg_sl ([.ref (a 5), .int x1, .int x2])).length) Slot.unset).toArray = ls at hl ⊢
  have hl : lv_has ls 7 [(0, .ref (a 5)), (1, .int x1), (2, .int x2)] := hl
  suffices main : ∀ (H : Heap) (locs : List Loc), va_P (dC, dI) vwCl (wX a cB cI cS cII σ) H → va_D A (wX a cB cI cS cII σ) → va_S A s.heap H locs → W p l e (headSpec wsX3_mostByLying RM_X3_mostByLying).room s m ([.ref (a 5), .int x1, .int x2] : List Value).toArray below meth c H locs 0 0 (MQ below (zQi (dC, dI) (zT cB cI cS cII) (wX a cB cI cS cII) A (fun (r : Int32) (σ1 : Cn) => ∃ u26 : Nat → Int32, σ1 = (upC σ 26 u26) ∧ True)) ([.ref (a 5), .int x1, .int x2] : List Value).toArray s 0 0 A) (F0 m 0 ls []) from main s.heap [] hP hD hS
  intro H locs hP hD hS
  refine lv_aload_n hx hb dX3_mostByLying_0 rfl (lv_at hl 0 rfl) ?_
  refine lv_iload_n hx hb dX3_mostByLying_1 rfl (lv_at hl 1 rfl) ?_
  refine zcallv (va_runV (As := [.int x1]) (rest := []) ⟨hx, hb, hml, hown, hts⟩ (c_X3_takeTurns l dC dI cB cI cS cII a N hok hn σ H.size (x1) h0 hs hq) (cwV 1 hts gX3_mostByLying_X3_takeTurns rfl rfl rfl (by decide +kernel) ⟨Nat.le_of_ble_eq_true rfl, Nat.le_of_ble_eq_true rfl⟩) (zpreV (wf := wX a cB cI cS cII) (q0 := 5) (ci := 3) hok hN hS hA hK hP hD rfl rfl) rfl rfl hl.1 rfl (lv_room (Nat.le_of_ble_eq_true rfl)) dX3_mostByLying_2 ⟨Nat.zero_le _, Nat.zero_le _⟩) hD hS hA (fun σ1 H locs hv2 hP hD hS => ?_)
  obtain ⟨u26_2, es9, hv2⟩ := hv2
  subst σ1
  have hP : va_P (dC, dI) vwCl (wX a cB cI cS cII (upC σ 26 u26_2)) H := hP
  have hD : va_D A (wX a cB cI cS cII (upC σ 26 u26_2)) := hD
  refine lv_aload_n hx hb dX3_mostByLying_5 rfl (lv_at hl 0 rfl) ?_
  refine lv_iload_n hx hb dX3_mostByLying_6 rfl (lv_at hl 2 rfl) ?_
  refine lv_iload_n hx hb dX3_mostByLying_7 rfl (lv_at hl 2 rfl) ?_
  refine zcalli (va_runV (As := [.int x2, .int x2]) (rest := []) ⟨hx, hb, hml, hown, hts⟩ (c_X3_sumOf l dC dI cB cI cS cII a N hok hn (upC σ 26 u26_2) H.size (x2) (x2) (by omega) hs hq) (cwV 2 hts gX3_mostByLying_X3_sumOf rfl rfl rfl (by decide +kernel) ⟨Nat.le_of_ble_eq_true rfl, Nat.le_of_ble_eq_true rfl⟩) (zpreV (wf := wX a cB cI cS cII) (q0 := 5) (ci := 3) hok hN hS hA hK hP hD rfl rfl) rfl rfl hl.1 rfl (lv_room (Nat.le_of_ble_eq_true rfl)) dX3_mostByLying_8 ⟨Nat.zero_le _, Nat.zero_le _⟩) hD hS hA (fun v8 σ1 H locs hv8 hP hD hS => ?_)
  obtain ⟨es9, hv8⟩ := hv8
  subst σ1
  refine lv_istore_n (lv' := [(3, .int v8), (0, .ref (a 5)), (1, .int x1), (2, .int x2)]) hx hb dX3_mostByLying_11 rfl hl (by decide) rfl (fun ls hl => ?_)
  refine lv_iload_n hx hb dX3_mostByLying_12 rfl (lv_at hl 0 rfl) ?_
  refine lv_istore (lv' := [(4, .int v8), (3, .int v8), (0, .ref (a 5)), (1, .int x1), (2, .int x2)]) hx hb dX3_mostByLying_13 hl (by decide) rfl (fun ls hl => ?_)
  refine lv_iconst (v := 0) hx hb dX3_mostByLying_15 (by decide) ?_
  refine lv_istore (lv' := [(5, .int 0), (4, .int v8), (3, .int v8), (0, .ref (a 5)), (1, .int x1), (2, .int x2)]) hx hb dX3_mostByLying_16 hl (by decide) rfl (fun ls hl => ?_)
  exact (LP _).1 (v8) (v8) (0) (u26_2) H locs ls (by decide) (Nat.lt_succ_self _) hP hD hS (lv_sub hl [3, 4, 5, 2, 1, 0] rfl)

abbrev RM_X3_envyOf : Room := { frames := 2, cells := 0, slots := 0, locals := 45 }
set_option maxHeartbeats 4000000 in
set_option maxRecDepth 100000 in
theorem c_X3_envyOf (l : Launch) (dC : Nat → ClassId) (dI : Nat → Nat → Nat) (cB cI cS cII : ClassId) (a : Nat → Nat) (N : (Nat → Prop) → State → Prop) (hok : zNok N) (hn : ∀ A U, N A U → zN U) (σ : Cn) (sz : Nat) (x1 : Int32) (x2 : Int32) (h1 : 0 ≤ x1.toInt ∧ x1.toInt < 4) (hs : 0 ≤ (σ 5 2).toInt ∧ (σ 5 2).toInt ≤ 10) (hq : ∀ j : Nat, (j : Int) < (σ 5 2).toInt → 0 ≤ (σ 25 j).toInt ∧ (σ 25 j).toInt < 10) : Met l yX3_envyOf wsX3_envyOf RM_X3_envyOf (zPc (dC, dI) (zT cB cI cS cII) N (wX a cB cI cS cII) σ sz [.ref (a 5), .int x1, .int x2]) (zQi (dC, dI) (zT cB cI cS cII) (wX a cB cI cS cII) (va_A (wX a cB cI cS cII σ) sz) (fun (r : Int32) (σ1 : Cn) => σ1 = σ ∧ True)) 0 0 (va_A (wX a cB cI cS cII σ) sz) := by
  refine Met.ofW (cc := cX3_envyOf) (maxL := 4) (ret := (some .int)) (by decide) rfl ?_
  intro p e s m args below meth c s₁ B hml hv
  obtain ⟨rfl, hsz, hP, hK, hD0, hN⟩ := hv
  have hx := B.exec
  have hb := B.bytes
  have hr := B.returns
  have hts := atoms_spec (ws := wsX3_envyOf) B.pre
  have hown : s.vm.findClass RX3 = some m.cls := findClass_of_methodNamed B.named
  have hlocks := B.notSynchronized
  subst hsz
  have hD := hD0.self (sz := s.heap.size)
  generalize hAe : va_A (wX a cB cI cS cII σ) s.heap.size = A at hD hN ⊢
  have hA : ∀ q : Nat, s.heap.size ≤ q → A q := fun q h => by rw [← hAe]; exact Or.inr h
  clear hAe hD0
  have hS : va_S A s.heap s.heap [] := va_S.rf
  have hl := lv_entry ([.ref (a 5), .int x1, .int x2]) (n := 4) (Nat.le_of_ble_eq_true rfl)
  rw [lg_entry_eq]
  generalize (lg_sl ([.ref (a 5), .int x1, .int x2]) ++ List.replicate (4 - (lg_sl ([.ref (a 5), .int x1, .int x2])).length) Slot.unset).toArray = ls at hl ⊢
  have hl : lv_has ls 4 [(0, .ref (a 5)), (1, .int x1), (2, .int x2)] := hl
  suffices main : ∀ (H : Heap) (locs : List Loc), va_P (dC, dI) vwCl (wX a cB cI cS cII σ) H → va_D A (wX a cB cI cS cII σ) → va_S A s.heap H locs → W p l e (headSpec wsX3_envyOf RM_X3_envyOf).room s m ([.ref (a 5), .int x1, .int x2] : List Value).toArray below meth c H locs 0 0 (MQ below (zQi (dC, dI) (zT cB cI cS cII) (wX a cB cI cS cII) A (fun (r : Int32) (σ1 : Cn) => σ1 = σ ∧ True)) ([.ref (a 5), .int x1, .int x2] : List Value).toArray s 0 0 A) (F0 m 0 ls []) from main s.heap [] hP hD hS
  intro H locs hP hD hS
  refine lv_aload_n hx hb dX3_envyOf_0 rfl (lv_at hl 0 rfl) ?_
  refine lv_iload_n hx hb dX3_envyOf_1 rfl (lv_at hl 1 rfl) ?_
  refine lv_iload_n hx hb dX3_envyOf_2 rfl (lv_at hl 2 rfl) ?_
  refine zcalli (va_runV (As := [.int x1, .int x2]) (rest := []) ⟨hx, hb, hml, hown, hts⟩ (c_X3_sumOf l dC dI cB cI cS cII a N hok hn σ H.size (x1) (x2) (by omega) hs hq) (cwV 2 hts gX3_envyOf_X3_sumOf rfl rfl rfl (by decide +kernel) ⟨Nat.le_of_ble_eq_true rfl, Nat.le_of_ble_eq_true rfl⟩) (zpreV (wf := wX a cB cI cS cII) (q0 := 5) (ci := 3) hok hN hS hA hK hP hD rfl rfl) rfl rfl hl.1 rfl (lv_room (Nat.le_of_ble_eq_true rfl)) dX3_envyOf_3 ⟨Nat.zero_le _, Nat.zero_le _⟩) hD hS hA (fun v3 σ1 H locs hv3 hP hD hS => ?_)
  obtain ⟨es9, hv3⟩ := hv3
  subst σ1
  refine lv_aload_n hx hb dX3_envyOf_6 rfl (lv_at hl 0 rfl) ?_
  refine lv_iload_n hx hb dX3_envyOf_7 rfl (lv_at hl 1 rfl) ?_
  refine lv_iload_n hx hb dX3_envyOf_8 rfl (lv_at hl 1 rfl) ?_
  refine zcalli (va_runV (As := [.int x1, .int x1]) (rest := [.int v3]) ⟨hx, hb, hml, hown, hts⟩ (c_X3_sumOf l dC dI cB cI cS cII a N hok hn σ H.size (x1) (x1) (by omega) hs hq) (cwV 2 hts gX3_envyOf_X3_sumOf rfl rfl rfl (by decide +kernel) ⟨Nat.le_of_ble_eq_true rfl, Nat.le_of_ble_eq_true rfl⟩) (zpreV (wf := wX a cB cI cS cII) (q0 := 5) (ci := 3) hok hN hS hA hK hP hD rfl rfl) rfl rfl hl.1 rfl (lv_room (Nat.le_of_ble_eq_true rfl)) dX3_envyOf_9 ⟨Nat.zero_le _, Nat.zero_le _⟩) hD hS hA (fun v9 σ1 H locs hv9 hP hD hS => ?_)
  obtain ⟨es9, hv9⟩ := hv9
  subst σ1
  refine lv_isub hx hb dX3_envyOf_12 ?_
  refine lv_topi (fun v12 ev12 => ?_)
  refine lv_istore_n (lv' := [(3, .int v12), (0, .ref (a 5)), (1, .int x1), (2, .int x2)]) hx hb dX3_envyOf_13 rfl hl (by decide) rfl (fun ls hl => ?_)
  refine lv_iload_n hx hb dX3_envyOf_14 rfl (lv_at hl 0 rfl) ?_
  refine lv_if_gt (tgt := 20) hx hb dX3_envyOf_15 (by decide) (fun c15 => ?_) (fun c15 => ?_)
  · skip
    have ic15 := zlt (a := 0) (b := v12.toInt) (by decide) rfl c15
    refine lv_iload_n hx hb dX3_envyOf_20 rfl (lv_at hl 0 rfl) ?_
    refine lv_aload_n hx hb dX3_envyOf_21 rfl (lv_at hl 1 rfl) ?_
    refine lv_iload_n hx hb dX3_envyOf_22 rfl (lv_at hl 2 rfl) ?_
    refine lv_iload_n hx hb dX3_envyOf_23 rfl (lv_at hl 3 rfl) ?_
    refine zcalli (va_runV (As := [.int x1, .int x2]) (rest := [.int v12]) ⟨hx, hb, hml, hown, hts⟩ (c_X3_greatestOf l dC dI cB cI cS cII a N hok hn σ H.size (x1) (x2) (by omega) hs hq) (cwV 2 hts gX3_envyOf_X3_greatestOf rfl rfl rfl (by decide +kernel) ⟨Nat.le_of_ble_eq_true rfl, Nat.le_of_ble_eq_true rfl⟩) (zpreV (wf := wX a cB cI cS cII) (q0 := 5) (ci := 3) hok hN hS hA hK hP hD rfl rfl) rfl rfl hl.1 rfl (lv_room (Nat.le_of_ble_eq_true rfl)) dX3_envyOf_24 ⟨Nat.zero_le _, Nat.zero_le _⟩) hD hS hA (fun v24 σ1 H locs hv24 hP hD hS => ?_)
    obtain ⟨es9, hv24⟩ := hv24
    subst σ1
    refine lv_icmp_gt (tgt := 34) hx hb dX3_envyOf_27 (by decide) (fun c27 => ?_) (fun c27 => ?_)
    · skip
      have ic27 := zlt (a := v24.toInt) (b := v12.toInt) rfl rfl c27
      refine lv_iconst (v := 2) hx hb dX3_envyOf_34 (by decide) ?_
      have hpost : σ = σ ∧ True := by exact ⟨rfl, trivial⟩
      exact W.iret (v := 2) hx hb hr (fun t9 ht hW => ⟨⟨2, σ, rfl, hpost, by rw [ht]; exact hP, va_K.moved hW.alike hK, hD⟩, hS.F ht⟩) hS.2.2 dX3_envyOf_35
    · skip
      have ic27 := znlt (a := v24.toInt) (b := v12.toInt) rfl rfl c27
      refine lv_iconst (v := 1) hx hb dX3_envyOf_30 (by decide) ?_
      refine lv_goto (tgt := 35) hx hb dX3_envyOf_31 (by decide) ?_
      have hpost : σ = σ ∧ True := by exact ⟨rfl, trivial⟩
      exact W.iret (v := 1) hx hb hr (fun t9 ht hW => ⟨⟨1, σ, rfl, hpost, by rw [ht]; exact hP, va_K.moved hW.alike hK, hD⟩, hS.F ht⟩) hS.2.2 dX3_envyOf_35
  · skip
    have ic15 := znlt (a := 0) (b := v12.toInt) (by decide) rfl c15
    refine lv_iconst (v := 0) hx hb dX3_envyOf_18 (by decide) ?_
    have hpost : σ = σ ∧ True := by exact ⟨rfl, trivial⟩
    exact W.iret (v := 0) hx hb hr (fun t9 ht hW => ⟨⟨0, σ, rfl, hpost, by rw [ht]; exact hP, va_K.moved hW.alike hK, hD⟩, hS.F ht⟩) hS.2.2 dX3_envyOf_19

abbrev RM_X3_envyPairs : Room := { frames := 3, cells := 0, slots := 0, locals := 68 }
set_option maxHeartbeats 4000000 in
set_option maxRecDepth 100000 in
theorem c_X3_envyPairs (l : Launch) (dC : Nat → ClassId) (dI : Nat → Nat → Nat) (cB cI cS cII : ClassId) (a : Nat → Nat) (N : (Nat → Prop) → State → Prop) (hok : zNok N) (hn : ∀ A U, N A U → zN U) (σ : Cn) (sz : Nat)  (h0 : 0 ≤ (σ 4 1).toInt ∧ (σ 4 1).toInt ≤ 4) (hs : 0 ≤ (σ 5 2).toInt ∧ (σ 5 2).toInt ≤ 10) (hq : ∀ j : Nat, (j : Int) < (σ 5 2).toInt → 0 ≤ (σ 25 j).toInt ∧ (σ 25 j).toInt < 10) : Met l yX3_envyPairs wsX3_envyPairs RM_X3_envyPairs (zPc (dC, dI) (zT cB cI cS cII) N (wX a cB cI cS cII) σ sz [.ref (a 5)]) (zQi (dC, dI) (zT cB cI cS cII) (wX a cB cI cS cII) (va_A (wX a cB cI cS cII σ) sz) (fun (r : Int32) (σ1 : Cn) => σ1 = σ ∧ True)) 0 0 (va_A (wX a cB cI cS cII σ) sz) := by
  refine Met.ofW (cc := cX3_envyPairs) (maxL := 4) (ret := (some .int)) (by decide) rfl ?_
  intro p e s m args below meth c s₁ B hml hv
  obtain ⟨rfl, hsz, hP, hK, hD0, hN⟩ := hv
  have hx := B.exec
  have hb := B.bytes
  have hr := B.returns
  have hts := atoms_spec (ws := wsX3_envyPairs) B.pre
  have hown : s.vm.findClass RX3 = some m.cls := findClass_of_methodNamed B.named
  have hlocks := B.notSynchronized
  subst hsz
  have hD := hD0.self (sz := s.heap.size)
  generalize hAe : va_A (wX a cB cI cS cII σ) s.heap.size = A at hD hN ⊢
  have hA : ∀ q : Nat, s.heap.size ≤ q → A q := fun q h => by rw [← hAe]; exact Or.inr h
  clear hAe hD0
  have hS : va_S A s.heap s.heap [] := va_S.rf
  have in1 : ∀ w ∈ u_ws RX1 TX1 9, w ∈ wsX3_envyPairs := by decide +kernel
  have in3 : ∀ w ∈ u_ws RX3 TX3 4, w ∈ wsX3_envyPairs := by decide +kernel
  have k18 := hts (.fieldLink RX3 18 "HouseSorted$Sharing" "house" "LHouseSorted$House;") (by decide +kernel)
  have k35 := hts (.fieldLink RX3 35 "HouseSorted$House" "heirs" "I") (by decide +kernel)
  have LP : ∀ n : Nat, (∀ (f : Int32) (j : Int32) (H : Heap) (locs : List Loc) (ls : Array Slot), 0 ≤ j.toInt ∧ j.toInt ≤ 4 → ((4 - j.toInt).toNat * 10) < n → va_P (dC, dI) vwCl (wX a cB cI cS cII σ) H → va_D A (wX a cB cI cS cII σ) → va_S A s.heap H locs → lv_has ls 4 [(0, .ref (a 5)), (1, .int f), (2, .int j)] → W p l e (headSpec wsX3_envyPairs RM_X3_envyPairs).room s m ([.ref (a 5)] : List Value).toArray below meth c H locs 0 0 (MQ below (zQi (dC, dI) (zT cB cI cS cII) (wX a cB cI cS cII) A (fun (r : Int32) (σ1 : Cn) => σ1 = σ ∧ True)) ([.ref (a 5)] : List Value).toArray s 0 0 A) (F0 m 4 ls [])) ∧ (∀ (f : Int32) (j : Int32) (k : Int32) (H : Heap) (locs : List Loc) (ls : Array Slot), 0 ≤ j.toInt ∧ j.toInt < 4 → 0 ≤ k.toInt ∧ k.toInt ≤ 4 → ((3 - j.toInt).toNat * 10 + (4 - k.toInt).toNat + 1) < n → va_P (dC, dI) vwCl (wX a cB cI cS cII σ) H → va_D A (wX a cB cI cS cII σ) → va_S A s.heap H locs → lv_has ls 4 [(0, .ref (a 5)), (1, .int f), (2, .int j), (3, .int k)] → W p l e (headSpec wsX3_envyPairs RM_X3_envyPairs).room s m ([.ref (a 5)] : List Value).toArray below meth c H locs 0 0 (MQ below (zQi (dC, dI) (zT cB cI cS cII) (wX a cB cI cS cII) A (fun (r : Int32) (σ1 : Cn) => σ1 = σ ∧ True)) ([.ref (a 5)] : List Value).toArray s 0 0 A) (F0 m 17 ls [])) := by
    intro n
    induction n with
    | zero => exact ⟨(by intros; omega), (by intros; omega)⟩
    | succ n ih =>
      refine ⟨?_, ?_⟩
      · intro f j H locs ls g1 hmu hP hD hS hl
        refine lv_iload_n hx hb dX3_envyPairs_4 rfl (lv_at hl 2 rfl) ?_
        refine lv_aload_n hx hb dX3_envyPairs_5 rfl (lv_at hl 0 rfl) ?_
        refine va_get (D := (dC, dI)) (ci := 3) (v := .ref (a 4)) (C := RX3) (T := TX3) (N := 4) hx hb hts in3 hown hK hP 5 rfl rfl 0 (by decide) k18 (fun _ h9 => h9) rfl dX3_envyPairs_6 ?_
        refine va_get (D := (dC, dI)) (ci := 1) (v := .int (σ 4 1)) (C := RX1) (T := TX1) (N := 9) hx hb hts in1 hown hK hP 4 rfl rfl 1 (by decide) k35 (fun _ h9 => h9) rfl dX3_envyPairs_9 ?_
        refine lv_icmp_ge (tgt := 57) hx hb dX3_envyPairs_12 (by decide) (fun c12 => ?_) (fun c12 => ?_)
        · skip
          have ic12 := zle (a := (σ 4 1).toInt) (b := j.toInt) rfl rfl c12
          refine lv_iload_n hx hb dX3_envyPairs_57 rfl (lv_at hl 1 rfl) ?_
          have hpost : σ = σ ∧ True := by exact ⟨rfl, trivial⟩
          exact W.iret (v := f) hx hb hr (fun t9 ht hW => ⟨⟨f, σ, rfl, hpost, by rw [ht]; exact hP, va_K.moved hW.alike hK, hD⟩, hS.F ht⟩) hS.2.2 dX3_envyPairs_58
        · skip
          have ic12 := znle (a := (σ 4 1).toInt) (b := j.toInt) rfl rfl c12
          refine lv_iconst (v := 0) hx hb dX3_envyPairs_15 (by decide) ?_
          refine lv_istore_n (lv' := [(3, .int 0), (0, .ref (a 5)), (1, .int f), (2, .int j)]) hx hb dX3_envyPairs_16 rfl hl (by decide) rfl (fun ls hl => ?_)
          exact ih.2 (f) (j) (0)  H locs ls (by omega) (by first | omega | decide) (by first | omega | (rw [show (0 : Int32).toInt = 0 from by decide]; omega)) hP hD hS (lv_sub hl [1, 2, 3, 0] rfl)
      · intro f j k H locs ls g1 g2 hmu hP hD hS hl
        refine lv_iload_n hx hb dX3_envyPairs_17 rfl (lv_at hl 3 rfl) ?_
        refine lv_aload_n hx hb dX3_envyPairs_18 rfl (lv_at hl 0 rfl) ?_
        refine va_get (D := (dC, dI)) (ci := 3) (v := .ref (a 4)) (C := RX3) (T := TX3) (N := 4) hx hb hts in3 hown hK hP 5 rfl rfl 0 (by decide) k18 (fun _ h9 => h9) rfl dX3_envyPairs_19 ?_
        refine va_get (D := (dC, dI)) (ci := 1) (v := .int (σ 4 1)) (C := RX1) (T := TX1) (N := 9) hx hb hts in1 hown hK hP 4 rfl rfl 1 (by decide) k35 (fun _ h9 => h9) rfl dX3_envyPairs_22 ?_
        refine lv_icmp_ge (tgt := 51) hx hb dX3_envyPairs_25 (by decide) (fun c25 => ?_) (fun c25 => ?_)
        · skip
          have ic25 := zle (a := (σ 4 1).toInt) (b := k.toInt) rfl rfl c25
          obtain ⟨v51, ev51⟩ : ∃ y : Int32, y = j + 1 := ⟨_, rfl⟩
          refine lv_iinc (v := v51) (lv' := [(2, .int v51), (0, .ref (a 5)), (1, .int f), (3, .int k)]) hx hb dX3_envyPairs_51 hl (k := 2) rfl (by rw [ev51]; rfl) (by decide) rfl (fun ls hl => ?_)
          have tv51 : v51.toInt = j.toInt + 1 := by rw [ev51, zadd, show (1 : Int32).toInt = 1 from by decide]; omega
          refine lv_goto (tgt := 4) hx hb dX3_envyPairs_54 (by decide) ?_
          exact ih.1 (f) (v51)  H locs ls (by first | omega | decide) (by omega) hP hD hS (lv_sub hl [1, 2, 0] rfl)
        · skip
          have ic25 := znle (a := (σ 4 1).toInt) (b := k.toInt) rfl rfl c25
          refine lv_iload_n hx hb dX3_envyPairs_28 rfl (lv_at hl 2 rfl) ?_
          refine lv_iload_n hx hb dX3_envyPairs_29 rfl (lv_at hl 3 rfl) ?_
          refine lv_icmp_eq (tgt := 45) hx hb dX3_envyPairs_30 (by decide) (fun c30 => ?_) (fun c30 => ?_)
          · skip
            have ic30 := zeq (a := j.toInt) (b := k.toInt) rfl rfl c30
            obtain ⟨v45, ev45⟩ : ∃ y : Int32, y = k + 1 := ⟨_, rfl⟩
            refine lv_iinc (v := v45) (lv' := [(3, .int v45), (0, .ref (a 5)), (1, .int f), (2, .int j)]) hx hb dX3_envyPairs_45 hl (k := 3) rfl (by rw [ev45]; rfl) (by decide) rfl (fun ls hl => ?_)
            have tv45 : v45.toInt = k.toInt + 1 := by rw [ev45, zadd, show (1 : Int32).toInt = 1 from by decide]; omega
            refine lv_goto (tgt := 17) hx hb dX3_envyPairs_48 (by decide) ?_
            exact ih.2 (f) (j) (v45)  H locs ls (by omega) (by first | omega | decide) (by first | omega | (rw [show (0 : Int32).toInt = 0 from by decide]; omega)) hP hD hS (lv_sub hl [1, 2, 3, 0] rfl)
          · skip
            have ic30 := zneq (a := j.toInt) (b := k.toInt) rfl rfl c30
            refine lv_aload_n hx hb dX3_envyPairs_33 rfl (lv_at hl 0 rfl) ?_
            refine lv_iload_n hx hb dX3_envyPairs_34 rfl (lv_at hl 2 rfl) ?_
            refine lv_iload_n hx hb dX3_envyPairs_35 rfl (lv_at hl 3 rfl) ?_
            refine zcalli (va_runV (As := [.int j, .int k]) (rest := []) ⟨hx, hb, hml, hown, hts⟩ (c_X3_envyOf l dC dI cB cI cS cII a N hok hn σ H.size (j) (k) (by omega) hs hq) (cwV 2 hts gX3_envyPairs_X3_envyOf rfl rfl rfl (by decide +kernel) ⟨Nat.le_of_ble_eq_true rfl, Nat.le_of_ble_eq_true rfl⟩) (zpreV (wf := wX a cB cI cS cII) (q0 := 5) (ci := 3) hok hN hS hA hK hP hD rfl rfl) rfl rfl hl.1 rfl (lv_room (Nat.le_of_ble_eq_true rfl)) dX3_envyPairs_36 ⟨Nat.zero_le _, Nat.zero_le _⟩) hD hS hA (fun v36 σ1 H locs hv36 hP hD hS => ?_)
            obtain ⟨es9, hv36⟩ := hv36
            subst σ1
            refine lv_if_le (tgt := 45) hx hb dX3_envyPairs_39 (by decide) (fun c39 => ?_) (fun c39 => ?_)
            · skip
              have ic39 := zle (a := v36.toInt) (b := 0) rfl (by decide) c39
              obtain ⟨v45, ev45⟩ : ∃ y : Int32, y = k + 1 := ⟨_, rfl⟩
              refine lv_iinc (v := v45) (lv' := [(3, .int v45), (0, .ref (a 5)), (1, .int f), (2, .int j)]) hx hb dX3_envyPairs_45 hl (k := 3) rfl (by rw [ev45]; rfl) (by decide) rfl (fun ls hl => ?_)
              have tv45 : v45.toInt = k.toInt + 1 := by rw [ev45, zadd, show (1 : Int32).toInt = 1 from by decide]; omega
              refine lv_goto (tgt := 17) hx hb dX3_envyPairs_48 (by decide) ?_
              exact ih.2 (f) (j) (v45)  H locs ls (by omega) (by first | omega | decide) (by first | omega | (rw [show (0 : Int32).toInt = 0 from by decide]; omega)) hP hD hS (lv_sub hl [1, 2, 3, 0] rfl)
            · skip
              have ic39 := znle (a := v36.toInt) (b := 0) rfl (by decide) c39
              obtain ⟨v42, ev42⟩ : ∃ y : Int32, y = f + 1 := ⟨_, rfl⟩
              refine lv_iinc (v := v42) (lv' := [(1, .int v42), (0, .ref (a 5)), (2, .int j), (3, .int k)]) hx hb dX3_envyPairs_42 hl (k := 1) rfl (by rw [ev42]; rfl) (by decide) rfl (fun ls hl => ?_)
              obtain ⟨v45, ev45⟩ : ∃ y : Int32, y = k + 1 := ⟨_, rfl⟩
              refine lv_iinc (v := v45) (lv' := [(3, .int v45), (1, .int v42), (0, .ref (a 5)), (2, .int j)]) hx hb dX3_envyPairs_45 hl (k := 3) rfl (by rw [ev45]; rfl) (by decide) rfl (fun ls hl => ?_)
              have tv45 : v45.toInt = k.toInt + 1 := by rw [ev45, zadd, show (1 : Int32).toInt = 1 from by decide]; omega
              refine lv_goto (tgt := 17) hx hb dX3_envyPairs_48 (by decide) ?_
              exact ih.2 (v42) (j) (v45)  H locs ls (by omega) (by first | omega | decide) (by first | omega | (rw [show (0 : Int32).toInt = 0 from by decide]; omega)) hP hD hS (lv_sub hl [2, 1, 3, 0] rfl)
  have hl := lv_entry ([.ref (a 5)]) (n := 4) (Nat.le_of_ble_eq_true rfl)
  rw [lg_entry_eq]
  generalize (lg_sl ([.ref (a 5)]) ++ List.replicate (4 - (lg_sl ([.ref (a 5)])).length) Slot.unset).toArray = ls at hl ⊢
  have hl : lv_has ls 4 [(0, .ref (a 5))] := hl
  suffices main : ∀ (H : Heap) (locs : List Loc), va_P (dC, dI) vwCl (wX a cB cI cS cII σ) H → va_D A (wX a cB cI cS cII σ) → va_S A s.heap H locs → W p l e (headSpec wsX3_envyPairs RM_X3_envyPairs).room s m ([.ref (a 5)] : List Value).toArray below meth c H locs 0 0 (MQ below (zQi (dC, dI) (zT cB cI cS cII) (wX a cB cI cS cII) A (fun (r : Int32) (σ1 : Cn) => σ1 = σ ∧ True)) ([.ref (a 5)] : List Value).toArray s 0 0 A) (F0 m 0 ls []) from main s.heap [] hP hD hS
  intro H locs hP hD hS
  refine lv_iconst (v := 0) hx hb dX3_envyPairs_0 (by decide) ?_
  refine lv_istore_n (lv' := [(1, .int 0), (0, .ref (a 5))]) hx hb dX3_envyPairs_1 rfl hl (by decide) rfl (fun ls hl => ?_)
  refine lv_iconst (v := 0) hx hb dX3_envyPairs_2 (by decide) ?_
  refine lv_istore_n (lv' := [(2, .int 0), (1, .int 0), (0, .ref (a 5))]) hx hb dX3_envyPairs_3 rfl hl (by decide) rfl (fun ls hl => ?_)
  exact (LP _).1 (0) (0)  H locs ls (by decide) (Nat.lt_succ_self _) hP hD hS (lv_sub hl [2, 1, 0] rfl)

abbrev RM_X3_giveToKeenest : Room := { frames := 1, cells := 0, slots := 0, locals := 23 }
set_option maxHeartbeats 4000000 in
set_option maxRecDepth 100000 in
theorem c_X3_giveToKeenest (l : Launch) (dC : Nat → ClassId) (dI : Nat → Nat → Nat) (cB cI cS cII : ClassId) (a : Nat → Nat) (N : (Nat → Prop) → State → Prop) (hok : zNok N) (hn : ∀ A U, N A U → zN U) (σ : Cn) (sz : Nat)  (h0 : 0 ≤ (σ 4 1).toInt ∧ (σ 4 1).toInt ≤ 4) (hs : 0 ≤ (σ 5 2).toInt ∧ (σ 5 2).toInt ≤ 10) (hq : ∀ j : Nat, (j : Int) < (σ 5 2).toInt → 0 ≤ (σ 25 j).toInt ∧ (σ 25 j).toInt < 10) : Met l yX3_giveToKeenest wsX3_giveToKeenest RM_X3_giveToKeenest (zPc (dC, dI) (zT cB cI cS cII) N (wX a cB cI cS cII) σ sz [.ref (a 5)]) (zQv (dC, dI) (zT cB cI cS cII) (wX a cB cI cS cII) (va_A (wX a cB cI cS cII σ) sz) (fun (σ1 : Cn) => ∃ u26 : Nat → Int32, σ1 = (upC σ 26 u26) ∧ True)) 0 0 (va_A (wX a cB cI cS cII σ) sz) := by
  refine Met.ofW (cc := cX3_giveToKeenest) (maxL := 2) (ret := none) (by decide) rfl ?_
  intro p e s m args below meth c s₁ B hml hv
  obtain ⟨rfl, hsz, hP, hK, hD0, hN⟩ := hv
  have hx := B.exec
  have hb := B.bytes
  have hr := B.returns
  have hts := atoms_spec (ws := wsX3_giveToKeenest) B.pre
  have hown : s.vm.findClass RX3 = some m.cls := findClass_of_methodNamed B.named
  have hlocks := B.notSynchronized
  subst hsz
  have hD := hD0.self (sz := s.heap.size)
  generalize hAe : va_A (wX a cB cI cS cII σ) s.heap.size = A at hD hN ⊢
  have hA : ∀ q : Nat, s.heap.size ≤ q → A q := fun q h => by rw [← hAe]; exact Or.inr h
  clear hAe hD0
  have hS : va_S A s.heap s.heap [] := va_S.rf
  have in3 : ∀ w ∈ u_ws RX3 TX3 4, w ∈ wsX3_giveToKeenest := by decide +kernel
  have k15 := hts (.fieldLink RX3 15 "HouseSorted$Sharing" "taker" "[I") (by decide +kernel)
  have k18 := hts (.fieldLink RX3 18 "HouseSorted$Sharing" "house" "LHouseSorted$House;") (by decide +kernel)
  have k22 := hts (.fieldLink RX3 22 "HouseSorted$Sharing" "size" "I") (by decide +kernel)
  have k9 := hts (.fieldLink RX3 9 "HouseSorted$Sharing" "shared" "[I") (by decide +kernel)
  have LP : ∀ n : Nat, (∀ (j : Int32) (w26 : Nat → Int32) (H : Heap) (locs : List Loc) (ls : Array Slot), 0 ≤ j.toInt ∧ j.toInt ≤ 10 → (10 - j.toInt).toNat < n → va_P (dC, dI) vwCl (wX a cB cI cS cII (upC σ 26 w26)) H → va_D A (wX a cB cI cS cII (upC σ 26 w26)) → va_S A s.heap H locs → lv_has ls 2 [(0, .ref (a 5)), (1, .int j)] → W p l e (headSpec wsX3_giveToKeenest RM_X3_giveToKeenest).room s m ([.ref (a 5)] : List Value).toArray below meth c H locs 0 0 (MQ below (zQv (dC, dI) (zT cB cI cS cII) (wX a cB cI cS cII) A (fun (σ1 : Cn) => ∃ u26 : Nat → Int32, σ1 = (upC σ 26 u26) ∧ True)) ([.ref (a 5)] : List Value).toArray s 0 0 A) (F0 m 2 ls [])) := by
    intro n
    induction n with
    | zero => exact by intros; omega
    | succ n ih =>
      · intro j w26 H locs ls g1 hmu hP hD hS hl
        refine lv_iload_n hx hb dX3_giveToKeenest_2 rfl (lv_at hl 1 rfl) ?_
        refine lv_aload_n hx hb dX3_giveToKeenest_3 rfl (lv_at hl 0 rfl) ?_
        refine va_get (D := (dC, dI)) (ci := 3) (v := .int (σ 5 2)) (C := RX3) (T := TX3) (N := 4) hx hb hts in3 hown hK hP 5 rfl rfl 2 (by decide) k22 (fun _ h9 => h9) rfl dX3_giveToKeenest_4 ?_
        refine lv_icmp_ge (tgt := 35) hx hb dX3_giveToKeenest_7 (by decide) (fun c7 => ?_) (fun c7 => ?_)
        · skip
          have ic7 := zle (a := (σ 5 2).toInt) (b := j.toInt) rfl rfl c7
          have hpost : ∃ u26 : Nat → Int32, (upC σ 26 w26) = (upC σ 26 u26) ∧ True := by exact ⟨_, rfl, trivial⟩
          exact W.vret hx hb hr (fun t9 ht hW => ⟨⟨(upC σ 26 w26), rfl, hpost, by rw [ht]; exact hP, va_K.moved hW.alike hK, hD⟩, hS.F ht⟩) hS.2.2 dX3_giveToKeenest_35
        · skip
          have ic7 := znle (a := (σ 5 2).toInt) (b := j.toInt) rfl rfl c7
          refine lv_aload_n hx hb dX3_giveToKeenest_10 rfl (lv_at hl 0 rfl) ?_
          refine va_get (D := (dC, dI)) (ci := 3) (v := .ref (a 26)) (C := RX3) (T := TX3) (N := 4) hx hb hts in3 hown hK hP 5 rfl rfl 3 (by decide) k15 (fun _ h9 => h9) rfl dX3_giveToKeenest_11 ?_
          refine lv_iload_n hx hb dX3_giveToKeenest_14 rfl (lv_at hl 1 rfl) ?_
          refine lv_aload_n hx hb dX3_giveToKeenest_15 rfl (lv_at hl 0 rfl) ?_
          refine va_get (D := (dC, dI)) (ci := 3) (v := .ref (a 4)) (C := RX3) (T := TX3) (N := 4) hx hb hts in3 hown hK hP 5 rfl rfl 0 (by decide) k18 (fun _ h9 => h9) rfl dX3_giveToKeenest_16 ?_
          refine lv_aload_n hx hb dX3_giveToKeenest_19 rfl (lv_at hl 0 rfl) ?_
          refine va_get (D := (dC, dI)) (ci := 3) (v := .ref (a 25)) (C := RX3) (T := TX3) (N := 4) hx hb hts in3 hown hK hP 5 rfl rfl 1 (by decide) k9 (fun _ h9 => h9) rfl dX3_giveToKeenest_20 ?_
          refine lv_iload_n hx hb dX3_giveToKeenest_23 rfl (lv_at hl 1 rfl) ?_
          refine va_iald (D := (dC, dI)) (f := σ 25) hx hb hK hP 25 1 rfl rfl (i := j) (n := 10) (zin (by omega) (by omega)) dX3_giveToKeenest_24 ?_
          refine lv_topi (fun v24 ev24 => ?_)
          have tv24 := congrArg Int32.toInt ev24
          have hb9 := hq ((j).toNatClampNeg) (by have q := zcl (x := j) (by omega); omega)
          refine zcalli (va_runV (As := [.int v24]) (rest := [.int j, .ref (a 26)]) ⟨hx, hb, hml, hown, hts⟩ (c_X1_keenest l dC dI cB cI cS cII a N hok hn (upC σ 26 w26) H.size (v24) h0 (by omega)) (cwV 1 hts gX3_giveToKeenest_X1_keenest rfl rfl rfl (by decide +kernel) ⟨Nat.le_of_ble_eq_true rfl, Nat.le_of_ble_eq_true rfl⟩) (zpreV (wf := wX a cB cI cS cII) (q0 := 4) (ci := 1) hok hN hS hA hK hP hD rfl rfl) rfl rfl hl.1 rfl (lv_room (Nat.le_of_ble_eq_true rfl)) dX3_giveToKeenest_25 ⟨Nat.zero_le _, Nat.zero_le _⟩) hD hS hA (fun v25 σ1 H locs hv25 hP hD hS => ?_)
          obtain ⟨es9, hv25⟩ := hv25
          subst σ1
          refine va_iast (D := (dC, dI)) (f := w26) hx hb hK hP hD hS 26 1 rfl rfl (i := j) (n := 10) (zin (by omega) (by omega)) dX3_giveToKeenest_28 (fun H locs hP hD hS => ?_)
          have hP : va_P (dC, dI) vwCl (wX a cB cI cS cII (upC σ 26 (upd (w26) (j).toNatClampNeg v25))) H := hP
          have hD : va_D A (wX a cB cI cS cII (upC σ 26 (upd (w26) (j).toNatClampNeg v25))) := hD
          obtain ⟨v29, ev29⟩ : ∃ y : Int32, y = j + 1 := ⟨_, rfl⟩
          refine lv_iinc (v := v29) (lv' := [(1, .int v29), (0, .ref (a 5))]) hx hb dX3_giveToKeenest_29 hl (k := 1) rfl (by rw [ev29]; rfl) (by decide) rfl (fun ls hl => ?_)
          have tv29 : v29.toInt = j.toInt + 1 := by rw [ev29, zadd, show (1 : Int32).toInt = 1 from by decide]; omega
          refine lv_goto (tgt := 2) hx hb dX3_giveToKeenest_32 (by decide) ?_
          exact ih (v29) (upd (w26) (j).toNatClampNeg v25) H locs ls (by omega) (by omega) hP hD hS (lv_sub hl [1, 0] rfl)
  have hl := lv_entry ([.ref (a 5)]) (n := 2) (Nat.le_of_ble_eq_true rfl)
  rw [lg_entry_eq]
  generalize (lg_sl ([.ref (a 5)]) ++ List.replicate (2 - (lg_sl ([.ref (a 5)])).length) Slot.unset).toArray = ls at hl ⊢
  have hl : lv_has ls 2 [(0, .ref (a 5))] := hl
  suffices main : ∀ (H : Heap) (locs : List Loc), va_P (dC, dI) vwCl (wX a cB cI cS cII σ) H → va_D A (wX a cB cI cS cII σ) → va_S A s.heap H locs → W p l e (headSpec wsX3_giveToKeenest RM_X3_giveToKeenest).room s m ([.ref (a 5)] : List Value).toArray below meth c H locs 0 0 (MQ below (zQv (dC, dI) (zT cB cI cS cII) (wX a cB cI cS cII) A (fun (σ1 : Cn) => ∃ u26 : Nat → Int32, σ1 = (upC σ 26 u26) ∧ True)) ([.ref (a 5)] : List Value).toArray s 0 0 A) (F0 m 0 ls []) from main s.heap [] hP hD hS
  intro H locs hP hD hS
  refine lv_iconst (v := 0) hx hb dX3_giveToKeenest_0 (by decide) ?_
  refine lv_istore_n (lv' := [(1, .int 0), (0, .ref (a 5))]) hx hb dX3_giveToKeenest_1 rfl hl (by decide) rfl (fun ls hl => ?_)
  exact (LP _) (0) (σ 26) H locs ls (by decide) (Nat.lt_succ_self _) hP hD hS (lv_sub hl [1, 0] rfl)

abbrev RM_X3_claimOf : Room := { frames := 1, cells := 0, slots := 0, locals := 21 }
set_option maxHeartbeats 4000000 in
set_option maxRecDepth 100000 in
theorem c_X3_claimOf (l : Launch) (dC : Nat → ClassId) (dI : Nat → Nat → Nat) (cB cI cS cII : ClassId) (a : Nat → Nat) (N : (Nat → Prop) → State → Prop) (hok : zNok N) (hn : ∀ A U, N A U → zN U) (σ : Cn) (sz : Nat) (x1 : Int32) (h0 : 0 ≤ (σ 4 1).toInt ∧ (σ 4 1).toInt ≤ 4) (h1 : 0 ≤ x1.toInt ∧ x1.toInt < 4) (hs : 0 ≤ (σ 5 2).toInt ∧ (σ 5 2).toInt ≤ 10) (hq : ∀ j : Nat, (j : Int) < (σ 5 2).toInt → 0 ≤ (σ 25 j).toInt ∧ (σ 25 j).toInt < 10) : Met l yX3_claimOf wsX3_claimOf RM_X3_claimOf (zPc (dC, dI) (zT cB cI cS cII) N (wX a cB cI cS cII) σ sz [.ref (a 5), .int x1]) (zQi (dC, dI) (zT cB cI cS cII) (wX a cB cI cS cII) (va_A (wX a cB cI cS cII σ) sz) (fun (r : Int32) (σ1 : Cn) => σ1 = σ ∧ True)) 0 0 (va_A (wX a cB cI cS cII σ) sz) := by
  refine Met.ofW (cc := cX3_claimOf) (maxL := 4) (ret := (some .int)) (by decide) rfl ?_
  intro p e s m args below meth c s₁ B hml hv
  obtain ⟨rfl, hsz, hP, hK, hD0, hN⟩ := hv
  have hx := B.exec
  have hb := B.bytes
  have hr := B.returns
  have hts := atoms_spec (ws := wsX3_claimOf) B.pre
  have hown : s.vm.findClass RX3 = some m.cls := findClass_of_methodNamed B.named
  have hlocks := B.notSynchronized
  subst hsz
  have hD := hD0.self (sz := s.heap.size)
  generalize hAe : va_A (wX a cB cI cS cII σ) s.heap.size = A at hD hN ⊢
  have hA : ∀ q : Nat, s.heap.size ≤ q → A q := fun q h => by rw [← hAe]; exact Or.inr h
  clear hAe hD0
  have hS : va_S A s.heap s.heap [] := va_S.rf
  have in1 : ∀ w ∈ u_ws RX1 TX1 9, w ∈ wsX3_claimOf := by decide +kernel
  have in3 : ∀ w ∈ u_ws RX3 TX3 4, w ∈ wsX3_claimOf := by decide +kernel
  have k18 := hts (.fieldLink RX3 18 "HouseSorted$Sharing" "house" "LHouseSorted$House;") (by decide +kernel)
  have k22 := hts (.fieldLink RX3 22 "HouseSorted$Sharing" "size" "I") (by decide +kernel)
  have k35 := hts (.fieldLink RX3 35 "HouseSorted$House" "heirs" "I") (by decide +kernel)
  have k49 := hts (.fieldLink RX3 49 "HouseSorted$House" "worth" "[[I") (by decide +kernel)
  have k9 := hts (.fieldLink RX3 9 "HouseSorted$Sharing" "shared" "[I") (by decide +kernel)
  have kcmax := hts (.code Lib.Math.max.name Lib.Math.max.code 2 (some .int)) (by decide +kernel)
  have kiM := hts (.initialized "java/lang/Math") (by decide +kernel)
  have km53 := hts (.methodLink RX3 53 Lib.Math.max.name) (by decide +kernel)
  have ksmax := hts (.static Lib.Math.max.name) (by decide +kernel)
  have LP : ∀ n : Nat, (∀ (f : Int32) (j : Int32) (H : Heap) (locs : List Loc) (ls : Array Slot), 0 ≤ j.toInt ∧ j.toInt ≤ 10 → (10 - j.toInt).toNat < n → va_P (dC, dI) vwCl (wX a cB cI cS cII σ) H → va_D A (wX a cB cI cS cII σ) → va_S A s.heap H locs → lv_has ls 4 [(0, .ref (a 5)), (1, .int x1), (2, .int f), (3, .int j)] → W p l e (headSpec wsX3_claimOf RM_X3_claimOf).room s m ([.ref (a 5), .int x1] : List Value).toArray below meth c H locs 0 0 (MQ below (zQi (dC, dI) (zT cB cI cS cII) (wX a cB cI cS cII) A (fun (r : Int32) (σ1 : Cn) => σ1 = σ ∧ True)) ([.ref (a 5), .int x1] : List Value).toArray s 0 0 A) (F0 m 4 ls [])) := by
    intro n
    induction n with
    | zero => exact by intros; omega
    | succ n ih =>
      · intro f j H locs ls g1 hmu hP hD hS hl
        refine lv_iload_n hx hb dX3_claimOf_4 rfl (lv_at hl 3 rfl) ?_
        refine lv_aload_n hx hb dX3_claimOf_5 rfl (lv_at hl 0 rfl) ?_
        refine va_get (D := (dC, dI)) (ci := 3) (v := .int (σ 5 2)) (C := RX3) (T := TX3) (N := 4) hx hb hts in3 hown hK hP 5 rfl rfl 2 (by decide) k22 (fun _ h9 => h9) rfl dX3_claimOf_6 ?_
        refine lv_icmp_ge (tgt := 37) hx hb dX3_claimOf_9 (by decide) (fun c9 => ?_) (fun c9 => ?_)
        · skip
          have ic9 := zle (a := (σ 5 2).toInt) (b := j.toInt) rfl rfl c9
          refine lv_iload_n hx hb dX3_claimOf_37 rfl (lv_at hl 2 rfl) ?_
          refine lv_iconst (v := 1) hx hb dX3_claimOf_38 (by decide) ?_
          refine lv_aload_n hx hb dX3_claimOf_39 rfl (lv_at hl 0 rfl) ?_
          refine va_get (D := (dC, dI)) (ci := 3) (v := .ref (a 4)) (C := RX3) (T := TX3) (N := 4) hx hb hts in3 hown hK hP 5 rfl rfl 0 (by decide) k18 (fun _ h9 => h9) rfl dX3_claimOf_40 ?_
          refine va_get (D := (dC, dI)) (ci := 1) (v := .int (σ 4 1)) (C := RX1) (T := TX1) (N := 9) hx hb hts in1 hown hK hP 4 rfl rfl 1 (by decide) k35 (fun _ h9 => h9) rfl dX3_claimOf_43 ?_
          refine va_mmax hx hb (hml.trans hl.1.symm) hown km53 ksmax kiM kcmax (Nat.le_of_ble_eq_true rfl) (Nat.le_of_ble_eq_true rfl) (Nat.zero_le _) (Nat.zero_le _) dX3_claimOf_46 ?_
          refine lv_topi (fun v46 ev46 => ?_)
          have tv46 := zmax (x := 1) (y := σ 4 1) (a := 1) (b := (σ 4 1).toInt) (by decide) rfl ev46
          refine lv_idiv hx hb dX3_claimOf_49 (fun h0 => by have h1 := zeq (a := v46.toInt) (b := 0) rfl (by decide) h0; omega) ?_
          refine lv_topi (fun v49 ev49 => ?_)
          have hpost : σ = σ ∧ True := by exact ⟨rfl, trivial⟩
          exact W.iret (v := v49) hx hb hr (fun t9 ht hW => ⟨⟨v49, σ, rfl, hpost, by rw [ht]; exact hP, va_K.moved hW.alike hK, hD⟩, hS.F ht⟩) hS.2.2 dX3_claimOf_50
        · skip
          have ic9 := znle (a := (σ 5 2).toInt) (b := j.toInt) rfl rfl c9
          refine lv_iload_n hx hb dX3_claimOf_12 rfl (lv_at hl 2 rfl) ?_
          refine lv_aload_n hx hb dX3_claimOf_13 rfl (lv_at hl 0 rfl) ?_
          refine va_get (D := (dC, dI)) (ci := 3) (v := .ref (a 4)) (C := RX3) (T := TX3) (N := 4) hx hb hts in3 hown hK hP 5 rfl rfl 0 (by decide) k18 (fun _ h9 => h9) rfl dX3_claimOf_14 ?_
          refine va_get (D := (dC, dI)) (ci := 1) (v := .ref (a 20)) (C := RX1) (T := TX1) (N := 9) hx hb hts in1 hown hK hP 4 rfl rfl 8 (by decide) k49 (fun _ h9 => h9) rfl dX3_claimOf_17 ?_
          refine lv_iload_n hx hb dX3_claimOf_20 rfl (lv_at hl 1 rfl) ?_
          have hr21 : (x1).toNatClampNeg < 4 := by have h9 := zcl (x := x1) (by omega); omega
          refine zald hx hb hK hP 20 3 rfl rfl (i := x1) (n := 4) (zin (by omega) (by omega)) (zro_in hr21) dX3_claimOf_21 ?_
          refine lv_aload_n hx hb dX3_claimOf_22 rfl (lv_at hl 0 rfl) ?_
          refine va_get (D := (dC, dI)) (ci := 3) (v := .ref (a 25)) (C := RX3) (T := TX3) (N := 4) hx hb hts in3 hown hK hP 5 rfl rfl 1 (by decide) k9 (fun _ h9 => h9) rfl dX3_claimOf_23 ?_
          refine lv_iload_n hx hb dX3_claimOf_26 rfl (lv_at hl 3 rfl) ?_
          refine va_iald (D := (dC, dI)) (f := σ 25) hx hb hK hP 25 1 rfl rfl (i := j) (n := 10) (zin (by omega) (by omega)) dX3_claimOf_27 ?_
          refine lv_topi (fun v27 ev27 => ?_)
          have tv27 := congrArg Int32.toInt ev27
          have hb9 := hq ((j).toNatClampNeg) (by have q := zcl (x := j) (by omega); omega)
          refine va_iald (D := (dC, dI)) (f := σ (21 + (x1).toNatClampNeg)) hx hb hK hP (21 + (x1).toNatClampNeg) 1 (wX_row21 hr21) rfl (i := v27) (n := 10) (zin (by omega) (by omega)) dX3_claimOf_28 ?_
          refine lv_topi (fun v28 ev28 => ?_)
          have tv28 := congrArg Int32.toInt ev28
          refine lv_iadd hx hb dX3_claimOf_29 ?_
          refine lv_topi (fun v29 ev29 => ?_)
          refine lv_istore_n (lv' := [(2, .int v29), (0, .ref (a 5)), (1, .int x1), (3, .int j)]) hx hb dX3_claimOf_30 rfl hl (by decide) rfl (fun ls hl => ?_)
          obtain ⟨v31, ev31⟩ : ∃ y : Int32, y = j + 1 := ⟨_, rfl⟩
          refine lv_iinc (v := v31) (lv' := [(3, .int v31), (2, .int v29), (0, .ref (a 5)), (1, .int x1)]) hx hb dX3_claimOf_31 hl (k := 3) rfl (by rw [ev31]; rfl) (by decide) rfl (fun ls hl => ?_)
          have tv31 : v31.toInt = j.toInt + 1 := by rw [ev31, zadd, show (1 : Int32).toInt = 1 from by decide]; omega
          refine lv_goto (tgt := 4) hx hb dX3_claimOf_34 (by decide) ?_
          exact ih (v29) (v31)  H locs ls (by omega) (by omega) hP hD hS (lv_sub hl [2, 3, 1, 0] rfl)
  have hl := lv_entry ([.ref (a 5), .int x1]) (n := 4) (Nat.le_of_ble_eq_true rfl)
  rw [lg_entry_eq]
  generalize (lg_sl ([.ref (a 5), .int x1]) ++ List.replicate (4 - (lg_sl ([.ref (a 5), .int x1])).length) Slot.unset).toArray = ls at hl ⊢
  have hl : lv_has ls 4 [(0, .ref (a 5)), (1, .int x1)] := hl
  suffices main : ∀ (H : Heap) (locs : List Loc), va_P (dC, dI) vwCl (wX a cB cI cS cII σ) H → va_D A (wX a cB cI cS cII σ) → va_S A s.heap H locs → W p l e (headSpec wsX3_claimOf RM_X3_claimOf).room s m ([.ref (a 5), .int x1] : List Value).toArray below meth c H locs 0 0 (MQ below (zQi (dC, dI) (zT cB cI cS cII) (wX a cB cI cS cII) A (fun (r : Int32) (σ1 : Cn) => σ1 = σ ∧ True)) ([.ref (a 5), .int x1] : List Value).toArray s 0 0 A) (F0 m 0 ls []) from main s.heap [] hP hD hS
  intro H locs hP hD hS
  refine lv_iconst (v := 0) hx hb dX3_claimOf_0 (by decide) ?_
  refine lv_istore_n (lv' := [(2, .int 0), (0, .ref (a 5)), (1, .int x1)]) hx hb dX3_claimOf_1 rfl hl (by decide) rfl (fun ls hl => ?_)
  refine lv_iconst (v := 0) hx hb dX3_claimOf_2 (by decide) ?_
  refine lv_istore_n (lv' := [(3, .int 0), (2, .int 0), (0, .ref (a 5)), (1, .int x1)]) hx hb dX3_claimOf_3 rfl hl (by decide) rfl (fun ls hl => ?_)
  exact (LP _) (0) (0)  H locs ls (by decide) (Nat.lt_succ_self _) hP hD hS (lv_sub hl [2, 3, 1, 0] rfl)

abbrev RM_X3_paymentOf : Room := { frames := 2, cells := 0, slots := 0, locals := 44 }
set_option maxHeartbeats 4000000 in
set_option maxRecDepth 100000 in
theorem c_X3_paymentOf (l : Launch) (dC : Nat → ClassId) (dI : Nat → Nat → Nat) (cB cI cS cII : ClassId) (a : Nat → Nat) (N : (Nat → Prop) → State → Prop) (hok : zNok N) (hn : ∀ A U, N A U → zN U) (σ : Cn) (sz : Nat) (x1 : Int32) (h0 : 0 ≤ (σ 4 1).toInt ∧ (σ 4 1).toInt ≤ 4) (h1 : 0 ≤ x1.toInt ∧ x1.toInt < 4) (hs : 0 ≤ (σ 5 2).toInt ∧ (σ 5 2).toInt ≤ 10) (hq : ∀ j : Nat, (j : Int) < (σ 5 2).toInt → 0 ≤ (σ 25 j).toInt ∧ (σ 25 j).toInt < 10) : Met l yX3_paymentOf wsX3_paymentOf RM_X3_paymentOf (zPc (dC, dI) (zT cB cI cS cII) N (wX a cB cI cS cII) σ sz [.ref (a 5), .int x1]) (zQi (dC, dI) (zT cB cI cS cII) (wX a cB cI cS cII) (va_A (wX a cB cI cS cII σ) sz) (fun (r : Int32) (σ1 : Cn) => σ1 = σ ∧ True)) 0 0 (va_A (wX a cB cI cS cII σ) sz) := by
  refine Met.ofW (cc := cX3_paymentOf) (maxL := 2) (ret := (some .int)) (by decide) rfl ?_
  intro p e s m args below meth c s₁ B hml hv
  obtain ⟨rfl, hsz, hP, hK, hD0, hN⟩ := hv
  have hx := B.exec
  have hb := B.bytes
  have hr := B.returns
  have hts := atoms_spec (ws := wsX3_paymentOf) B.pre
  have hown : s.vm.findClass RX3 = some m.cls := findClass_of_methodNamed B.named
  have hlocks := B.notSynchronized
  subst hsz
  have hD := hD0.self (sz := s.heap.size)
  generalize hAe : va_A (wX a cB cI cS cII σ) s.heap.size = A at hD hN ⊢
  have hA : ∀ q : Nat, s.heap.size ≤ q → A q := fun q h => by rw [← hAe]; exact Or.inr h
  clear hAe hD0
  have hS : va_S A s.heap s.heap [] := va_S.rf
  have hl := lv_entry ([.ref (a 5), .int x1]) (n := 2) (Nat.le_of_ble_eq_true rfl)
  rw [lg_entry_eq]
  generalize (lg_sl ([.ref (a 5), .int x1]) ++ List.replicate (2 - (lg_sl ([.ref (a 5), .int x1])).length) Slot.unset).toArray = ls at hl ⊢
  have hl : lv_has ls 2 [(0, .ref (a 5)), (1, .int x1)] := hl
  suffices main : ∀ (H : Heap) (locs : List Loc), va_P (dC, dI) vwCl (wX a cB cI cS cII σ) H → va_D A (wX a cB cI cS cII σ) → va_S A s.heap H locs → W p l e (headSpec wsX3_paymentOf RM_X3_paymentOf).room s m ([.ref (a 5), .int x1] : List Value).toArray below meth c H locs 0 0 (MQ below (zQi (dC, dI) (zT cB cI cS cII) (wX a cB cI cS cII) A (fun (r : Int32) (σ1 : Cn) => σ1 = σ ∧ True)) ([.ref (a 5), .int x1] : List Value).toArray s 0 0 A) (F0 m 0 ls []) from main s.heap [] hP hD hS
  intro H locs hP hD hS
  refine lv_aload_n hx hb dX3_paymentOf_0 rfl (lv_at hl 0 rfl) ?_
  refine lv_iload_n hx hb dX3_paymentOf_1 rfl (lv_at hl 1 rfl) ?_
  refine lv_iload_n hx hb dX3_paymentOf_2 rfl (lv_at hl 1 rfl) ?_
  refine zcalli (va_runV (As := [.int x1, .int x1]) (rest := []) ⟨hx, hb, hml, hown, hts⟩ (c_X3_sumOf l dC dI cB cI cS cII a N hok hn σ H.size (x1) (x1) (by omega) hs hq) (cwV 2 hts gX3_paymentOf_X3_sumOf rfl rfl rfl (by decide +kernel) ⟨Nat.le_of_ble_eq_true rfl, Nat.le_of_ble_eq_true rfl⟩) (zpreV (wf := wX a cB cI cS cII) (q0 := 5) (ci := 3) hok hN hS hA hK hP hD rfl rfl) rfl rfl hl.1 rfl (lv_room (Nat.le_of_ble_eq_true rfl)) dX3_paymentOf_3 ⟨Nat.zero_le _, Nat.zero_le _⟩) hD hS hA (fun v3 σ1 H locs hv3 hP hD hS => ?_)
  obtain ⟨es9, hv3⟩ := hv3
  subst σ1
  refine lv_aload_n hx hb dX3_paymentOf_6 rfl (lv_at hl 0 rfl) ?_
  refine lv_iload_n hx hb dX3_paymentOf_7 rfl (lv_at hl 1 rfl) ?_
  refine zcalli (va_runV (As := [.int x1]) (rest := [.int v3]) ⟨hx, hb, hml, hown, hts⟩ (c_X3_claimOf l dC dI cB cI cS cII a N hok hn σ H.size (x1) h0 (by omega) hs hq) (cwV 1 hts gX3_paymentOf_X3_claimOf rfl rfl rfl (by decide +kernel) ⟨Nat.le_of_ble_eq_true rfl, Nat.le_of_ble_eq_true rfl⟩) (zpreV (wf := wX a cB cI cS cII) (q0 := 5) (ci := 3) hok hN hS hA hK hP hD rfl rfl) rfl rfl hl.1 rfl (lv_room (Nat.le_of_ble_eq_true rfl)) dX3_paymentOf_8 ⟨Nat.zero_le _, Nat.zero_le _⟩) hD hS hA (fun v8 σ1 H locs hv8 hP hD hS => ?_)
  obtain ⟨es9, hv8⟩ := hv8
  subst σ1
  refine lv_isub hx hb dX3_paymentOf_11 ?_
  refine lv_topi (fun v11 ev11 => ?_)
  have hpost : σ = σ ∧ True := by exact ⟨rfl, trivial⟩
  exact W.iret (v := v11) hx hb hr (fun t9 ht hW => ⟨⟨v11, σ, rfl, hpost, by rw [ht]; exact hP, va_K.moved hW.alike hK, hD⟩, hS.F ht⟩) hS.2.2 dX3_paymentOf_12

abbrev RM_X3_partOfRest : Room := { frames := 3, cells := 0, slots := 0, locals := 65 }
set_option maxHeartbeats 4000000 in
set_option maxRecDepth 100000 in
theorem c_X3_partOfRest (l : Launch) (dC : Nat → ClassId) (dI : Nat → Nat → Nat) (cB cI cS cII : ClassId) (a : Nat → Nat) (N : (Nat → Prop) → State → Prop) (hok : zNok N) (hn : ∀ A U, N A U → zN U) (σ : Cn) (sz : Nat)  (h0 : 0 ≤ (σ 4 1).toInt ∧ (σ 4 1).toInt ≤ 4) (hs : 0 ≤ (σ 5 2).toInt ∧ (σ 5 2).toInt ≤ 10) (hq : ∀ j : Nat, (j : Int) < (σ 5 2).toInt → 0 ≤ (σ 25 j).toInt ∧ (σ 25 j).toInt < 10) : Met l yX3_partOfRest wsX3_partOfRest RM_X3_partOfRest (zPc (dC, dI) (zT cB cI cS cII) N (wX a cB cI cS cII) σ sz [.ref (a 5)]) (zQi (dC, dI) (zT cB cI cS cII) (wX a cB cI cS cII) (va_A (wX a cB cI cS cII σ) sz) (fun (r : Int32) (σ1 : Cn) => σ1 = σ ∧ True)) 0 0 (va_A (wX a cB cI cS cII σ) sz) := by
  refine Met.ofW (cc := cX3_partOfRest) (maxL := 3) (ret := (some .int)) (by decide) rfl ?_
  intro p e s m args below meth c s₁ B hml hv
  obtain ⟨rfl, hsz, hP, hK, hD0, hN⟩ := hv
  have hx := B.exec
  have hb := B.bytes
  have hr := B.returns
  have hts := atoms_spec (ws := wsX3_partOfRest) B.pre
  have hown : s.vm.findClass RX3 = some m.cls := findClass_of_methodNamed B.named
  have hlocks := B.notSynchronized
  subst hsz
  have hD := hD0.self (sz := s.heap.size)
  generalize hAe : va_A (wX a cB cI cS cII σ) s.heap.size = A at hD hN ⊢
  have hA : ∀ q : Nat, s.heap.size ≤ q → A q := fun q h => by rw [← hAe]; exact Or.inr h
  clear hAe hD0
  have hS : va_S A s.heap s.heap [] := va_S.rf
  have in1 : ∀ w ∈ u_ws RX1 TX1 9, w ∈ wsX3_partOfRest := by decide +kernel
  have in3 : ∀ w ∈ u_ws RX3 TX3 4, w ∈ wsX3_partOfRest := by decide +kernel
  have k18 := hts (.fieldLink RX3 18 "HouseSorted$Sharing" "house" "LHouseSorted$House;") (by decide +kernel)
  have k35 := hts (.fieldLink RX3 35 "HouseSorted$House" "heirs" "I") (by decide +kernel)
  have kcmax := hts (.code Lib.Math.max.name Lib.Math.max.code 2 (some .int)) (by decide +kernel)
  have kiM := hts (.initialized "java/lang/Math") (by decide +kernel)
  have km53 := hts (.methodLink RX3 53 Lib.Math.max.name) (by decide +kernel)
  have ksmax := hts (.static Lib.Math.max.name) (by decide +kernel)
  have LP : ∀ n : Nat, (∀ (f : Int32) (j : Int32) (H : Heap) (locs : List Loc) (ls : Array Slot), 0 ≤ j.toInt ∧ j.toInt ≤ 4 → (4 - j.toInt).toNat < n → va_P (dC, dI) vwCl (wX a cB cI cS cII σ) H → va_D A (wX a cB cI cS cII σ) → va_S A s.heap H locs → lv_has ls 3 [(0, .ref (a 5)), (1, .int f), (2, .int j)] → W p l e (headSpec wsX3_partOfRest RM_X3_partOfRest).room s m ([.ref (a 5)] : List Value).toArray below meth c H locs 0 0 (MQ below (zQi (dC, dI) (zT cB cI cS cII) (wX a cB cI cS cII) A (fun (r : Int32) (σ1 : Cn) => σ1 = σ ∧ True)) ([.ref (a 5)] : List Value).toArray s 0 0 A) (F0 m 4 ls [])) := by
    intro n
    induction n with
    | zero => exact by intros; omega
    | succ n ih =>
      · intro f j H locs ls g1 hmu hP hD hS hl
        refine lv_iload_n hx hb dX3_partOfRest_4 rfl (lv_at hl 2 rfl) ?_
        refine lv_aload_n hx hb dX3_partOfRest_5 rfl (lv_at hl 0 rfl) ?_
        refine va_get (D := (dC, dI)) (ci := 3) (v := .ref (a 4)) (C := RX3) (T := TX3) (N := 4) hx hb hts in3 hown hK hP 5 rfl rfl 0 (by decide) k18 (fun _ h9 => h9) rfl dX3_partOfRest_6 ?_
        refine va_get (D := (dC, dI)) (ci := 1) (v := .int (σ 4 1)) (C := RX1) (T := TX1) (N := 9) hx hb hts in1 hown hK hP 4 rfl rfl 1 (by decide) k35 (fun _ h9 => h9) rfl dX3_partOfRest_9 ?_
        refine lv_icmp_ge (tgt := 29) hx hb dX3_partOfRest_12 (by decide) (fun c12 => ?_) (fun c12 => ?_)
        · skip
          have ic12 := zle (a := (σ 4 1).toInt) (b := j.toInt) rfl rfl c12
          refine lv_iload_n hx hb dX3_partOfRest_29 rfl (lv_at hl 1 rfl) ?_
          refine lv_iconst (v := 1) hx hb dX3_partOfRest_30 (by decide) ?_
          refine lv_aload_n hx hb dX3_partOfRest_31 rfl (lv_at hl 0 rfl) ?_
          refine va_get (D := (dC, dI)) (ci := 3) (v := .ref (a 4)) (C := RX3) (T := TX3) (N := 4) hx hb hts in3 hown hK hP 5 rfl rfl 0 (by decide) k18 (fun _ h9 => h9) rfl dX3_partOfRest_32 ?_
          refine va_get (D := (dC, dI)) (ci := 1) (v := .int (σ 4 1)) (C := RX1) (T := TX1) (N := 9) hx hb hts in1 hown hK hP 4 rfl rfl 1 (by decide) k35 (fun _ h9 => h9) rfl dX3_partOfRest_35 ?_
          refine va_mmax hx hb (hml.trans hl.1.symm) hown km53 ksmax kiM kcmax (Nat.le_of_ble_eq_true rfl) (Nat.le_of_ble_eq_true rfl) (Nat.zero_le _) (Nat.zero_le _) dX3_partOfRest_38 ?_
          refine lv_topi (fun v38 ev38 => ?_)
          have tv38 := zmax (x := 1) (y := σ 4 1) (a := 1) (b := (σ 4 1).toInt) (by decide) rfl ev38
          refine lv_idiv hx hb dX3_partOfRest_41 (fun h0 => by have h1 := zeq (a := v38.toInt) (b := 0) rfl (by decide) h0; omega) ?_
          refine lv_topi (fun v41 ev41 => ?_)
          have hpost : σ = σ ∧ True := by exact ⟨rfl, trivial⟩
          exact W.iret (v := v41) hx hb hr (fun t9 ht hW => ⟨⟨v41, σ, rfl, hpost, by rw [ht]; exact hP, va_K.moved hW.alike hK, hD⟩, hS.F ht⟩) hS.2.2 dX3_partOfRest_42
        · skip
          have ic12 := znle (a := (σ 4 1).toInt) (b := j.toInt) rfl rfl c12
          refine lv_iload_n hx hb dX3_partOfRest_15 rfl (lv_at hl 1 rfl) ?_
          refine lv_aload_n hx hb dX3_partOfRest_16 rfl (lv_at hl 0 rfl) ?_
          refine lv_iload_n hx hb dX3_partOfRest_17 rfl (lv_at hl 2 rfl) ?_
          refine zcalli (va_runV (As := [.int j]) (rest := [.int f]) ⟨hx, hb, hml, hown, hts⟩ (c_X3_paymentOf l dC dI cB cI cS cII a N hok hn σ H.size (j) h0 (by omega) hs hq) (cwV 1 hts gX3_partOfRest_X3_paymentOf rfl rfl rfl (by decide +kernel) ⟨Nat.le_of_ble_eq_true rfl, Nat.le_of_ble_eq_true rfl⟩) (zpreV (wf := wX a cB cI cS cII) (q0 := 5) (ci := 3) hok hN hS hA hK hP hD rfl rfl) rfl rfl hl.1 rfl (lv_room (Nat.le_of_ble_eq_true rfl)) dX3_partOfRest_18 ⟨Nat.zero_le _, Nat.zero_le _⟩) hD hS hA (fun v18 σ1 H locs hv18 hP hD hS => ?_)
          obtain ⟨es9, hv18⟩ := hv18
          subst σ1
          refine lv_iadd hx hb dX3_partOfRest_21 ?_
          refine lv_topi (fun v21 ev21 => ?_)
          refine lv_istore_n (lv' := [(1, .int v21), (0, .ref (a 5)), (2, .int j)]) hx hb dX3_partOfRest_22 rfl hl (by decide) rfl (fun ls hl => ?_)
          obtain ⟨v23, ev23⟩ : ∃ y : Int32, y = j + 1 := ⟨_, rfl⟩
          refine lv_iinc (v := v23) (lv' := [(2, .int v23), (1, .int v21), (0, .ref (a 5))]) hx hb dX3_partOfRest_23 hl (k := 2) rfl (by rw [ev23]; rfl) (by decide) rfl (fun ls hl => ?_)
          have tv23 : v23.toInt = j.toInt + 1 := by rw [ev23, zadd, show (1 : Int32).toInt = 1 from by decide]; omega
          refine lv_goto (tgt := 4) hx hb dX3_partOfRest_26 (by decide) ?_
          exact ih (v21) (v23)  H locs ls (by omega) (by omega) hP hD hS (lv_sub hl [2, 1, 0] rfl)
  have hl := lv_entry ([.ref (a 5)]) (n := 3) (Nat.le_of_ble_eq_true rfl)
  rw [lg_entry_eq]
  generalize (lg_sl ([.ref (a 5)]) ++ List.replicate (3 - (lg_sl ([.ref (a 5)])).length) Slot.unset).toArray = ls at hl ⊢
  have hl : lv_has ls 3 [(0, .ref (a 5))] := hl
  suffices main : ∀ (H : Heap) (locs : List Loc), va_P (dC, dI) vwCl (wX a cB cI cS cII σ) H → va_D A (wX a cB cI cS cII σ) → va_S A s.heap H locs → W p l e (headSpec wsX3_partOfRest RM_X3_partOfRest).room s m ([.ref (a 5)] : List Value).toArray below meth c H locs 0 0 (MQ below (zQi (dC, dI) (zT cB cI cS cII) (wX a cB cI cS cII) A (fun (r : Int32) (σ1 : Cn) => σ1 = σ ∧ True)) ([.ref (a 5)] : List Value).toArray s 0 0 A) (F0 m 0 ls []) from main s.heap [] hP hD hS
  intro H locs hP hD hS
  refine lv_iconst (v := 0) hx hb dX3_partOfRest_0 (by decide) ?_
  refine lv_istore_n (lv' := [(1, .int 0), (0, .ref (a 5))]) hx hb dX3_partOfRest_1 rfl hl (by decide) rfl (fun ls hl => ?_)
  refine lv_iconst (v := 0) hx hb dX3_partOfRest_2 (by decide) ?_
  refine lv_istore_n (lv' := [(2, .int 0), (1, .int 0), (0, .ref (a 5))]) hx hb dX3_partOfRest_3 rfl hl (by decide) rfl (fun ls hl => ?_)
  exact (LP _) (0) (0)  H locs ls (by decide) (Nat.lt_succ_self _) hP hD hS (lv_sub hl [2, 1, 0] rfl)
end
