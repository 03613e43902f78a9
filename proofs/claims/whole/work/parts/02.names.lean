def GW : List Cond := lw_tbl.filter goodWord
theorem gw_i {w : Cond} (i : Nat) (h : lw_tbl[i]? = some w) (hg : goodWord w = true) : w ∈ GW := List.mem_filter.mpr ⟨List.mem_of_getElem? h, hg⟩
theorem gw_tbl {w : Cond} (h : w ∈ GW) : w ∈ lw_tbl := (List.mem_filter.mp h).1
theorem gw_G {ws : List Cond} (h : ∀ w ∈ ws, w ∈ GW) : GoodIn GW ws := fun w hw => ⟨h w hw, good_of_word (List.mem_filter.mp (h w hw)).2⟩
theorem gw_c {c : Cond} (h : c ∈ GW) : ∀ w ∈ c :: GW, w ∈ GW := fun w hw => (List.mem_cons.mp hw).elim (fun e => e ▸ h) id
theorem gw_V {own C : String} {i : Nat} {y : MethodName} {c : Cond} (h1 : Cond.methodLink own i y ∈ GW) (h2 : Cond.instanceMethod y ∈ GW) (h3 : Cond.selects C y y ∈ GW) (h4 : Cond.initialized C ∈ GW) (h5 : c ∈ GW) : GoodIn GW (wsV own i C y (c :: GW)) := gw_G fun w hw => by
  unfold wsV at hw
  rcases List.mem_append.mp hw with h | h
  · simp only [List.mem_cons, List.not_mem_nil, or_false] at h
    rcases h with rfl | rfl | rfl | rfl <;> assumption
  · exact gw_c h5 w h
theorem gw_S {own : String} {i : Nat} {y : MethodName} {c : Cond} (h1 : Cond.methodLink own i y ∈ GW) (h2 : Cond.static y ∈ GW) (h3 : Cond.initialized y.cls ∈ GW) (h5 : c ∈ GW) : GoodIn GW (va_wsS own i y (c :: GW)) := gw_G fun w hw => by
  unfold va_wsS at hw
  rcases List.mem_append.mp hw with h | h
  · simp only [List.mem_cons, List.not_mem_nil, or_false] at h
    rcases h with rfl | rfl | rfl <;> assumption
  · exact gw_c h5 w h
def TX0 : u_T := fun k => match k with
  | 0 => ("FindLog$Bytes", "row", "[I", true)
  | _ => ("FindLog$Bytes", "size", "I", false)
def tyX0 : Nat → FieldType := fun k => match k with
  | 0 => .array .int
  | _ => .int
theorem nmX0 : ∀ a, a < 2 → ∀ b, b < 2 → a ≠ b → (TX0 a).2.1 ≠ (TX0 b).2.1 := by decide +kernel
theorem okX0 : ∀ k, k < 2 → parseFieldDescriptor (TX0 k).2.2.1 = some (tyX0 k) := by decide +kernel
set_option maxRecDepth 20000 in
theorem inX0 : ∀ w ∈ u_ws "FindLog$Bytes" TX0 2, w ∈ GW := by decide +kernel
def TX1 : u_T := fun k => match k with
  | 0 => ("FindLog$Finds", "days", "[I", true)
  | 1 => ("FindLog$Finds", "counts", "[I", true)
  | _ => ("FindLog$Finds", "bytes", "[I", true)
def tyX1 : Nat → FieldType := fun k => match k with
  | 0 => .array .int
  | 1 => .array .int
  | _ => .array .int
theorem nmX1 : ∀ a, a < 3 → ∀ b, b < 3 → a ≠ b → (TX1 a).2.1 ≠ (TX1 b).2.1 := by decide +kernel
theorem okX1 : ∀ k, k < 3 → parseFieldDescriptor (TX1 k).2.2.1 = some (tyX1 k) := by decide +kernel
set_option maxRecDepth 20000 in
theorem inX1 : ∀ w ∈ u_ws "FindLog$Finds" TX1 3, w ∈ GW := by decide +kernel
def TX2 : u_T := fun k => match k with
  | 0 => ("FindLog$Head", "finds", "LFindLog$Finds;", true)
  | 1 => ("FindLog$Head", "upTo", "[I", true)
  | 2 => ("FindLog$Head", "generation", "I", false)
  | 3 => ("FindLog$Head", "first", "I", false)
  | 4 => ("FindLog$Head", "firstAt", "I", false)
  | 5 => ("FindLog$Head", "seal", "J", false)
  | _ => ("FindLog$Head", "whole", "Z", false)
def tyX2 : Nat → FieldType := fun k => match k with
  | 0 => .object "FindLog$Finds"
  | 1 => .array .int
  | 2 => .int
  | 3 => .int
  | 4 => .int
  | 5 => .long
  | _ => .boolean
theorem nmX2 : ∀ a, a < 7 → ∀ b, b < 7 → a ≠ b → (TX2 a).2.1 ≠ (TX2 b).2.1 := by decide +kernel
theorem okX2 : ∀ k, k < 7 → parseFieldDescriptor (TX2 k).2.2.1 = some (tyX2 k) := by decide +kernel
set_option maxRecDepth 20000 in
theorem inX2 : ∀ w ∈ u_ws "FindLog$Head" TX2 7, w ∈ GW := by decide +kernel
def TX3 : u_T := fun k => match k with
  | 0 => ("FindLog$StoredAct", "thing", "I", false)
  | 1 => ("FindLog$StoredAct", "day", "I", false)
  | 2 => ("FindLog$StoredAct", "count", "I", false)
  | _ => ("FindLog$StoredAct", "sum", "J", false)
def tyX3 : Nat → FieldType := fun k => match k with
  | 0 => .int
  | 1 => .int
  | 2 => .int
  | _ => .long
theorem nmX3 : ∀ a, a < 4 → ∀ b, b < 4 → a ≠ b → (TX3 a).2.1 ≠ (TX3 b).2.1 := by decide +kernel
theorem okX3 : ∀ k, k < 4 → parseFieldDescriptor (TX3 k).2.2.1 = some (tyX3 k) := by decide +kernel
set_option maxRecDepth 20000 in
theorem inX3 : ∀ w ∈ u_ws "FindLog$StoredAct" TX3 4, w ∈ GW := by decide +kernel
def TX4 : u_T := fun k => match k with
  | 0 => ("FindLog", "pad", "LFindLog$Bytes;", true)
  | 1 => ("FindLog", "log", "LFindLog$Bytes;", true)
  | 2 => ("FindLog", "latest", "LFindLog$Finds;", true)
  | 3 => ("FindLog", "read", "LFindLog$StoredAct;", true)
  | 4 => ("FindLog", "used", "LFindLog$Head;", false)
  | 5 => ("FindLog", "other", "LFindLog$Head;", false)
  | 6 => ("FindLog", "begin", "I", false)
  | 7 => ("FindLog", "next", "I", false)
  | 8 => ("FindLog", "acknowledged", "I", false)
  | 9 => ("FindLog", "acknowledgedBytes", "I", false)
  | 10 => ("FindLog", "turn", "I", false)
  | 11 => ("FindLog", "bad", "I", false)
  | 12 => ("FindLog", "sealNow", "J", false)
  | _ => ("FindLog", "behindCut", "Z", false)
def tyX4 : Nat → FieldType := fun k => match k with
  | 0 => .object "FindLog$Bytes"
  | 1 => .object "FindLog$Bytes"
  | 2 => .object "FindLog$Finds"
  | 3 => .object "FindLog$StoredAct"
  | 4 => .object "FindLog$Head"
  | 5 => .object "FindLog$Head"
  | 6 => .int
  | 7 => .int
  | 8 => .int
  | 9 => .int
  | 10 => .int
  | 11 => .int
  | 12 => .long
  | _ => .boolean
theorem nmX4 : ∀ a, a < 14 → ∀ b, b < 14 → a ≠ b → (TX4 a).2.1 ≠ (TX4 b).2.1 := by decide +kernel
theorem okX4 : ∀ k, k < 14 → parseFieldDescriptor (TX4 k).2.2.1 = some (tyX4 k) := by decide +kernel
set_option maxRecDepth 20000 in
theorem inX4 : ∀ w ∈ u_ws "FindLog" TX4 14, w ∈ GW := by decide +kernel
def TX5 : u_T := fun k => match k with
  | 0 => ("FindLogModel", "thrownCode", "I", false)
  | 1 => ("FindLogModel", "pad", "[I", true)
  | 2 => ("FindLogModel", "padded", "I", false)
  | 3 => ("FindLogModel", "log", "[I", true)
  | 4 => ("FindLogModel", "bytes", "I", false)
  | 5 => ("FindLogModel", "where", "[I", true)
  | 6 => ("FindLogModel", "begin", "I", false)
  | 7 => ("FindLogModel", "next", "I", false)
  | 8 => ("FindLogModel", "acked", "I", false)
  | 9 => ("FindLogModel", "broken", "Z", false)
  | 10 => ("FindLogModel", "bad", "I", false)
  | 11 => ("FindLogModel", "turn", "I", false)
  | 12 => ("FindLogModel", "use", "I", false)
  | 13 => ("FindLogModel", "generation", "[I", true)
  | 14 => ("FindLogModel", "first", "[I", true)
  | 15 => ("FindLogModel", "seals", "[J", true)
  | 16 => ("FindLogModel", "whole", "[Z", true)
  | 17 => ("FindLogModel", "upTo", "[I", true)
  | 18 => ("FindLogModel", "days", "[I", true)
  | 19 => ("FindLogModel", "many", "[I", true)
  | _ => ("FindLogModel", "kept", "[I", true)
def tyX5 : Nat → FieldType := fun k => match k with
  | 0 => .int
  | 1 => .array .int
  | 2 => .int
  | 3 => .array .int
  | 4 => .int
  | 5 => .array .int
  | 6 => .int
  | 7 => .int
  | 8 => .int
  | 9 => .boolean
  | 10 => .int
  | 11 => .int
  | 12 => .int
  | 13 => .array .int
  | 14 => .array .int
  | 15 => .array .long
  | 16 => .array .boolean
  | 17 => .array .int
  | 18 => .array .int
  | 19 => .array .int
  | _ => .array .int
theorem nmX5 : ∀ a, a < 21 → ∀ b, b < 21 → a ≠ b → (TX5 a).2.1 ≠ (TX5 b).2.1 := by decide +kernel
theorem okX5 : ∀ k, k < 21 → parseFieldDescriptor (TX5 k).2.2.1 = some (tyX5 k) := by decide +kernel
set_option maxRecDepth 20000 in
theorem inX5 : ∀ w ∈ u_ws "FindLogModel" TX5 21, w ∈ GW := by decide +kernel
abbrev vwC : List vw_C := [("FindLog$Bytes", TX0, 2), ("FindLog$Finds", TX1, 3), ("FindLog$Head", TX2, 7), ("FindLog$StoredAct", TX3, 4), ("FindLog", TX4, 14), ("FindLogModel", TX5, 21)]
abbrev yX4_init : MethodName := ⟨"FindLog", "<init>", "()V"⟩
abbrev bX4_init : ByteArray := prog_1_method_1_code
abbrev yX0_init : MethodName := ⟨"FindLog$Bytes", "<init>", "(I)V"⟩
abbrev bX0_init : ByteArray := prog_2_method_1_code
abbrev yX1_init : MethodName := ⟨"FindLog$Finds", "<init>", "()V"⟩
abbrev bX1_init : ByteArray := prog_3_method_1_code
abbrev yX3_init : MethodName := ⟨"FindLog$StoredAct", "<init>", "()V"⟩
abbrev bX3_init : ByteArray := prog_5_method_1_code
abbrev yX2_init : MethodName := ⟨"FindLog$Head", "<init>", "()V"⟩
abbrev bX2_init : ByteArray := prog_4_method_1_code
abbrev yX4_badAt : MethodName := ⟨"FindLog", "badAt", "()I"⟩
abbrev bX4_badAt : ByteArray := prog_1_method_14_code
abbrev yL_feed : MethodName := ⟨"FindLogLaw", "feed", "(LFindLog;I[J)I"⟩
abbrev bL_feed : ByteArray := method_3_code
abbrev yX4_feed : MethodName := ⟨"FindLog", "feed", "(I)I"⟩
abbrev bX4_feed : ByteArray := prog_1_method_2_code
abbrev yX4_refuseBehindCut : MethodName := ⟨"FindLog", "refuseBehindCut", "()V"⟩
abbrev bX4_refuseBehindCut : ByteArray := prog_1_method_17_code
abbrev yX0_size : MethodName := ⟨"FindLog$Bytes", "size", "()I"⟩
abbrev bX0_size : ByteArray := prog_2_method_2_code
abbrev yX0_add : MethodName := ⟨"FindLog$Bytes", "add", "(I)V"⟩
abbrev bX0_add : ByteArray := prog_2_method_5_code
abbrev yL_act : MethodName := ⟨"FindLogLaw", "act", "(LFindLog;II[J)I"⟩
abbrev bL_act : ByteArray := method_4_code
abbrev yX4_act : MethodName := ⟨"FindLog", "act", "(II)I"⟩
abbrev bX4_act : ByteArray := prog_1_method_3_code
abbrev yX4_refuseNoThing : MethodName := ⟨"FindLog", "refuseNoThing", "(I)V"⟩
abbrev bX4_refuseNoThing : ByteArray := prog_1_method_20_code
abbrev yX4_storeAct : MethodName := ⟨"FindLog", "storeAct", "(II)J"⟩
abbrev bX4_storeAct : ByteArray := prog_1_method_22_code
abbrev yX0_addNumber : MethodName := ⟨"FindLog$Bytes", "addNumber", "(JI)V"⟩
abbrev bX0_addNumber : ByteArray := prog_2_method_6_code
abbrev yX0_get : MethodName := ⟨"FindLog$Bytes", "get", "(I)I"⟩
abbrev bX0_get : ByteArray := prog_2_method_3_code
abbrev yX0_sumOf : MethodName := ⟨"FindLog$Bytes", "sumOf", "(II)J"⟩
abbrev bX0_sumOf : ByteArray := prog_2_method_8_code
abbrev yX4_mixed : MethodName := ⟨"FindLog", "mixed", "(JJ)J"⟩
abbrev bX4_mixed : ByteArray := prog_1_method_21_code
abbrev yX1_keep : MethodName := ⟨"FindLog$Finds", "keep", "(IILFindLog$Bytes;II)V"⟩
abbrev bX1_keep : ByteArray := prog_3_method_5_code
abbrev yX0_shorten : MethodName := ⟨"FindLog$Bytes", "shorten", "(I)V"⟩
abbrev bX0_shorten : ByteArray := prog_2_method_9_code
abbrev yL_flush : MethodName := ⟨"FindLogLaw", "flush", "(LFindLog;[J)I"⟩
abbrev bL_flush : ByteArray := method_5_code
abbrev yX4_flush : MethodName := ⟨"FindLog", "flush", "()I"⟩
abbrev bX4_flush : ByteArray := prog_1_method_4_code
abbrev yX4_acknowledgeAll : MethodName := ⟨"FindLog", "acknowledgeAll", "()V"⟩
abbrev bX4_acknowledgeAll : ByteArray := prog_1_method_23_code
abbrev yL_part : MethodName := ⟨"FindLogLaw", "part", "(LFindLog;[J)I"⟩
abbrev bL_part : ByteArray := method_6_code
abbrev yX4_part : MethodName := ⟨"FindLog", "part", "()I"⟩
abbrev bX4_part : ByteArray := prog_1_method_5_code
abbrev yX2_follow : MethodName := ⟨"FindLog$Head", "follow", "(LFindLog$Head;)V"⟩
abbrev bX2_follow : ByteArray := prog_4_method_4_code
abbrev yX2_copy : MethodName := ⟨"FindLog$Head", "copy", "(LFindLog$Head;)V"⟩
abbrev bX2_copy : ByteArray := prog_4_method_5_code
abbrev yX2_startFrom : MethodName := ⟨"FindLog$Head", "startFrom", "(IIJ)V"⟩
abbrev bX2_startFrom : ByteArray := prog_4_method_6_code
abbrev yX1_takeAll : MethodName := ⟨"FindLog$Finds", "takeAll", "(LFindLog$Finds;)V"⟩
abbrev bX1_takeAll : ByteArray := prog_3_method_6_code
abbrev yX2_takeSnapshot : MethodName := ⟨"FindLog$Head", "takeSnapshot", "(ILFindLog$Finds;I)V"⟩
abbrev bX2_takeSnapshot : ByteArray := prog_4_method_7_code
abbrev yX1_takePart : MethodName := ⟨"FindLog$Finds", "takePart", "(LFindLog$Finds;I)V"⟩
abbrev bX1_takePart : ByteArray := prog_3_method_7_code
abbrev yX4_useOther : MethodName := ⟨"FindLog", "useOther", "()V"⟩
abbrev bX4_useOther : ByteArray := prog_1_method_25_code
abbrev yX4_swapHeads : MethodName := ⟨"FindLog", "swapHeads", "()V"⟩
abbrev bX4_swapHeads : ByteArray := prog_1_method_24_code
abbrev yX0_dropAhead : MethodName := ⟨"FindLog$Bytes", "dropAhead", "(I)V"⟩
abbrev bX0_dropAhead : ByteArray := prog_2_method_10_code
abbrev yL_cut : MethodName := ⟨"FindLogLaw", "cut", "(LFindLog;[J)I"⟩
abbrev bL_cut : ByteArray := method_7_code
abbrev yX4_cut : MethodName := ⟨"FindLog", "cut", "()I"⟩
abbrev bX4_cut : ByteArray := prog_1_method_6_code
abbrev yX3_isWholeAt : MethodName := ⟨"FindLog$StoredAct", "isWholeAt", "(LFindLog$Bytes;I)Z"⟩
abbrev bX3_isWholeAt : ByteArray := prog_5_method_2_code
abbrev yX0_numberAt : MethodName := ⟨"FindLog$Bytes", "numberAt", "(II)J"⟩
abbrev bX0_numberAt : ByteArray := prog_2_method_7_code
abbrev yX3_length : MethodName := ⟨"FindLog$StoredAct", "length", "()I"⟩
abbrev bX3_length : ByteArray := prog_5_method_3_code
abbrev yX2_hasInSnapshot : MethodName := ⟨"FindLog$Head", "hasInSnapshot", "(II)Z"⟩
abbrev bX2_hasInSnapshot : ByteArray := prog_4_method_2_code
abbrev yL_find : MethodName := ⟨"FindLogLaw", "find", "(LFindLog;II[J)I"⟩
abbrev bL_find : ByteArray := method_8_code
abbrev yX4_find : MethodName := ⟨"FindLog", "find", "(II)I"⟩
abbrev bX4_find : ByteArray := prog_1_method_7_code
abbrev yX1_countOf : MethodName := ⟨"FindLog$Finds", "countOf", "(I)I"⟩
abbrev bX1_countOf : ByteArray := prog_3_method_3_code
abbrev yX1_byteOf : MethodName := ⟨"FindLog$Finds", "byteOf", "(II)I"⟩
abbrev bX1_byteOf : ByteArray := prog_3_method_4_code
abbrev yL_day : MethodName := ⟨"FindLogLaw", "day", "(LFindLog;I[J)I"⟩
abbrev bL_day : ByteArray := method_9_code
abbrev yX4_day : MethodName := ⟨"FindLog", "day", "(I)I"⟩
abbrev bX4_day : ByteArray := prog_1_method_8_code
abbrev yX1_dayOf : MethodName := ⟨"FindLog$Finds", "dayOf", "(I)I"⟩
abbrev bX1_dayOf : ByteArray := prog_3_method_2_code
abbrev yL_seal : MethodName := ⟨"FindLogLaw", "seal", "(LFindLog;[J)I"⟩
abbrev bL_seal : ByteArray := method_10_code
abbrev yX4_seal : MethodName := ⟨"FindLog", "seal", "()J"⟩
abbrev bX4_seal : ByteArray := prog_1_method_9_code
abbrev yL_crash : MethodName := ⟨"FindLogLaw", "crash", "(LFindLog;I[J)I"⟩
abbrev bL_crash : ByteArray := method_11_code
abbrev yX4_crash : MethodName := ⟨"FindLog", "crash", "(I)I"⟩
abbrev bX4_crash : ByteArray := prog_1_method_10_code
abbrev yL_tear : MethodName := ⟨"FindLogLaw", "tear", "(LFindLog;[J)I"⟩
abbrev bL_tear : ByteArray := method_12_code
abbrev yX4_tear : MethodName := ⟨"FindLog", "tear", "()I"⟩
abbrev bX4_tear : ByteArray := prog_1_method_11_code
abbrev yX4_refuseWithoutCut : MethodName := ⟨"FindLog", "refuseWithoutCut", "()V"⟩
abbrev bX4_refuseWithoutCut : ByteArray := prog_1_method_18_code
abbrev yL_poke : MethodName := ⟨"FindLogLaw", "poke", "(LFindLog;II[J)I"⟩
abbrev bL_poke : ByteArray := method_13_code
abbrev yX4_poke : MethodName := ⟨"FindLog", "poke", "(II)I"⟩
abbrev bX4_poke : ByteArray := prog_1_method_12_code
abbrev yX4_refuseNoByte : MethodName := ⟨"FindLog", "refuseNoByte", "(I)V"⟩
abbrev bX4_refuseNoByte : ByteArray := prog_1_method_19_code
abbrev yX0_set : MethodName := ⟨"FindLog$Bytes", "set", "(II)V"⟩
abbrev bX0_set : ByteArray := prog_2_method_4_code
abbrev yL_reopen : MethodName := ⟨"FindLogLaw", "reopen", "(LFindLog;[J)I"⟩
abbrev bL_reopen : ByteArray := method_14_code
abbrev yX4_reopen : MethodName := ⟨"FindLog", "reopen", "()I"⟩
abbrev bX4_reopen : ByteArray := prog_1_method_13_code
abbrev yX4_readLog : MethodName := ⟨"FindLog", "readLog", "()I"⟩
abbrev bX4_readLog : ByteArray := prog_1_method_26_code
abbrev yX4_startAnew : MethodName := ⟨"FindLog", "startAnew", "()V"⟩
abbrev bX4_startAnew : ByteArray := prog_1_method_27_code
abbrev yX2_greatestUpTo : MethodName := ⟨"FindLog$Head", "greatestUpTo", "()I"⟩
abbrev bX2_greatestUpTo : ByteArray := prog_4_method_3_code
abbrev yL_stored : MethodName := ⟨"FindLogLaw", "stored", "(LFindLog;I[J)I"⟩
abbrev bL_stored : ByteArray := method_15_code
abbrev yX4_stored : MethodName := ⟨"FindLog", "stored", "(I)I"⟩
abbrev bX4_stored : ByteArray := prog_1_method_15_code
abbrev yL_head : MethodName := ⟨"FindLogLaw", "head", "(LFindLog;I[J)I"⟩
abbrev bL_head : ByteArray := method_16_code
abbrev yX4_head : MethodName := ⟨"FindLog", "head", "(I)I"⟩
abbrev bX4_head : ByteArray := prog_1_method_16_code
abbrev yX5_init : MethodName := ⟨"FindLogModel", "<init>", "()V"⟩
abbrev bX5_init : ByteArray := prog_7_method_1_code
abbrev yX5_thrown : MethodName := ⟨"FindLogModel", "thrown", "()I"⟩
abbrev bX5_thrown : ByteArray := prog_7_method_12_code
abbrev yX5_feed : MethodName := ⟨"FindLogModel", "feed", "(I)I"⟩
abbrev bX5_feed : ByteArray := prog_7_method_14_code
abbrev yX5_none : MethodName := ⟨"FindLogModel", "none", "(II)Z"⟩
abbrev bX5_none : ByteArray := prog_7_method_13_code
abbrev yX5_act : MethodName := ⟨"FindLogModel", "act", "(II)I"⟩
abbrev bX5_act : ByteArray := prog_7_method_16_code
abbrev yX5_write : MethodName := ⟨"FindLogModel", "write", "(JI)V"⟩
abbrev bX5_write : ByteArray := prog_7_method_15_code
abbrev yX5_sum : MethodName := ⟨"FindLogModel", "sum", "(II)J"⟩
abbrev bX5_sum : ByteArray := prog_7_method_3_code
abbrev yX5_goOn : MethodName := ⟨"FindLogModel", "goOn", "(JJ)J"⟩
abbrev bX5_goOn : ByteArray := prog_7_method_2_code
abbrev yX5_holds : MethodName := ⟨"FindLogModel", "holds", "(I)V"⟩
abbrev bX5_holds : ByteArray := prog_7_method_8_code
abbrev yX5_number : MethodName := ⟨"FindLogModel", "number", "(II)J"⟩
abbrev bX5_number : ByteArray := prog_7_method_4_code
abbrev yX5_flush : MethodName := ⟨"FindLogModel", "flush", "()I"⟩
abbrev bX5_flush : ByteArray := prog_7_method_17_code
abbrev yX5_part : MethodName := ⟨"FindLogModel", "part", "()I"⟩
abbrev bX5_part : ByteArray := prog_7_method_18_code
abbrev yX5_newHead : MethodName := ⟨"FindLogModel", "newHead", "()V"⟩
abbrev bX5_newHead : ByteArray := prog_7_method_10_code
abbrev yX5_copyThing : MethodName := ⟨"FindLogModel", "copyThing", "(II)V"⟩
abbrev bX5_copyThing : ByteArray := prog_7_method_7_code
abbrev yX5_drop : MethodName := ⟨"FindLogModel", "drop", "()V"⟩
abbrev bX5_drop : ByteArray := prog_7_method_9_code
abbrev yX5_cut : MethodName := ⟨"FindLogModel", "cut", "()I"⟩
abbrev bX5_cut : ByteArray := prog_7_method_19_code
abbrev yX5_sealTo : MethodName := ⟨"FindLogModel", "sealTo", "(I)J"⟩
abbrev bX5_sealTo : ByteArray := prog_7_method_11_code
abbrev yX5_lengthAt : MethodName := ⟨"FindLogModel", "lengthAt", "(I)I"⟩
abbrev bX5_lengthAt : ByteArray := prog_7_method_5_code
abbrev yX5_find : MethodName := ⟨"FindLogModel", "find", "(II)I"⟩
abbrev bX5_find : ByteArray := prog_7_method_20_code
abbrev yX5_day : MethodName := ⟨"FindLogModel", "day", "(I)I"⟩
abbrev bX5_day : ByteArray := prog_7_method_21_code
abbrev yX5_seal : MethodName := ⟨"FindLogModel", "seal", "()J"⟩
abbrev bX5_seal : ByteArray := prog_7_method_22_code
abbrev yX5_crash : MethodName := ⟨"FindLogModel", "crash", "(I)I"⟩
abbrev bX5_crash : ByteArray := prog_7_method_23_code
abbrev yX5_tear : MethodName := ⟨"FindLogModel", "tear", "()I"⟩
abbrev bX5_tear : ByteArray := prog_7_method_25_code
abbrev yX5_better : MethodName := ⟨"FindLogModel", "better", "()I"⟩
abbrev bX5_better : ByteArray := prog_7_method_24_code
abbrev yX5_poke : MethodName := ⟨"FindLogModel", "poke", "(II)I"⟩
abbrev bX5_poke : ByteArray := prog_7_method_26_code
abbrev yX5_reopen : MethodName := ⟨"FindLogModel", "reopen", "()I"⟩
abbrev bX5_reopen : ByteArray := prog_7_method_27_code
abbrev yX5_isAct : MethodName := ⟨"FindLogModel", "isAct", "(I)Z"⟩
abbrev bX5_isAct : ByteArray := prog_7_method_6_code
abbrev yX5_badAt : MethodName := ⟨"FindLogModel", "badAt", "()I"⟩
abbrev bX5_badAt : ByteArray := prog_7_method_28_code
abbrev yX5_stored : MethodName := ⟨"FindLogModel", "stored", "(I)I"⟩
abbrev bX5_stored : ByteArray := prog_7_method_29_code
abbrev yX5_head : MethodName := ⟨"FindLogModel", "head", "(I)I"⟩
abbrev bX5_head : ByteArray := prog_7_method_30_code
abbrev yL_law : MethodName := ⟨"FindLogLaw", "law", "([I)Z"⟩
abbrev bL_law : ByteArray := code
