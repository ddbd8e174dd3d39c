def RX0 : String := "BranchPacker$Grove"
def TX0 : u_T := fun k => match k with
  | 0 => ("BranchPacker$Grove", "roots", "[I", true)
  | _ => ("BranchPacker$Grove", "size", "I", false)
def tyX0 : Nat → FieldType := fun k => match k with
  | 0 => .array .int
  | _ => .int
theorem nmX0 : ∀ a, a < 2 → ∀ b, b < 2 → a ≠ b → (TX0 a).2.1 ≠ (TX0 b).2.1 := by decide +kernel
theorem tyX0_ok : ∀ k, k < 2 → parseFieldDescriptor (TX0 k).2.2.1 = some (tyX0 k) := by decide +kernel
def RX1 : String := "BranchPacker$Net"
def TX1 : u_T := fun k => match k with
  | 0 => ("BranchPacker$Net", "tails", "[I", true)
  | 1 => ("BranchPacker$Net", "heads", "[I", true)
  | 2 => ("BranchPacker$Net", "vertexCount", "I", false)
  | _ => ("BranchPacker$Net", "arcCount", "I", false)
def tyX1 : Nat → FieldType := fun k => match k with
  | 0 => .array .int
  | 1 => .array .int
  | 2 => .int
  | _ => .int
theorem nmX1 : ∀ a, a < 4 → ∀ b, b < 4 → a ≠ b → (TX1 a).2.1 ≠ (TX1 b).2.1 := by decide +kernel
theorem tyX1_ok : ∀ k, k < 4 → parseFieldDescriptor (TX1 k).2.2.1 = some (tyX1 k) := by decide +kernel
def RX2 : String := "BranchPacker$Packing"
def TX2 : u_T := fun k => match k with
  | 0 => ("BranchPacker$Packing", "owners", "[I", true)
  | 1 => ("BranchPacker$Packing", "surplus", "[I", true)
  | _ => ("BranchPacker$Packing", "isStale", "Z", false)
def tyX2 : Nat → FieldType := fun k => match k with
  | 0 => .array .int
  | 1 => .array .int
  | _ => .boolean
theorem nmX2 : ∀ a, a < 3 → ∀ b, b < 3 → a ≠ b → (TX2 a).2.1 ≠ (TX2 b).2.1 := by decide +kernel
theorem tyX2_ok : ∀ k, k < 3 → parseFieldDescriptor (TX2 k).2.2.1 = some (tyX2 k) := by decide +kernel
def RX3 : String := "BranchPacker"
def TX3 : u_T := fun k => match k with
  | 0 => ("BranchPacker", "net", "LBranchPacker$Net;", true)
  | 1 => ("BranchPacker", "grove", "LBranchPacker$Grove;", true)
  | _ => ("BranchPacker", "packing", "LBranchPacker$Packing;", true)
def tyX3 : Nat → FieldType := fun k => match k with
  | 0 => .object "BranchPacker$Net"
  | 1 => .object "BranchPacker$Grove"
  | _ => .object "BranchPacker$Packing"
theorem nmX3 : ∀ a, a < 3 → ∀ b, b < 3 → a ≠ b → (TX3 a).2.1 ≠ (TX3 b).2.1 := by decide +kernel
theorem tyX3_ok : ∀ k, k < 3 → parseFieldDescriptor (TX3 k).2.2.1 = some (tyX3 k) := by decide +kernel
def RX4 : String := "BranchPackerModel"
def RJ6 : String := "java/lang/Integer"
def RJ9 : String := "java/lang/Math"
def RJ7 : String := "java/util/Arrays"
def RL : String := "BranchPackerLaw"
def TX4 : u_T := fun k => match k with
  | 0 => ("BranchPackerModel", "n", "I", false)
  | 1 => ("BranchPackerModel", "arcs", "I", false)
  | 2 => ("BranchPackerModel", "branchings", "I", false)
  | 3 => ("BranchPackerModel", "from", "[I", true)
  | 4 => ("BranchPackerModel", "to", "[I", true)
  | 5 => ("BranchPackerModel", "roots", "[I", true)
  | 6 => ("BranchPackerModel", "owners", "[I", true)
  | 7 => ("BranchPackerModel", "ways", "[I", true)
  | 8 => ("BranchPackerModel", "trees", "[I", true)
  | 9 => ("BranchPackerModel", "hads", "[I", true)
  | 10 => ("BranchPackerModel", "useds", "[I", true)
  | _ => ("BranchPackerModel", "nexts", "[I", true)
def tyX4 : Nat → FieldType := fun k => match k with
  | 0 => .int
  | 1 => .int
  | 2 => .int
  | 3 => .array .int
  | 4 => .array .int
  | 5 => .array .int
  | 6 => .array .int
  | 7 => .array .int
  | 8 => .array .int
  | 9 => .array .int
  | 10 => .array .int
  | _ => .array .int
theorem nmX4 : ∀ a, a < 12 → ∀ b, b < 12 → a ≠ b → (TX4 a).2.1 ≠ (TX4 b).2.1 := by decide +kernel
theorem tyX4_ok : ∀ k, k < 12 → parseFieldDescriptor (TX4 k).2.2.1 = some (tyX4 k) := by decide +kernel
abbrev cX3_init : ByteArray := prog_1_method_1_code
def yX3_init : MethodName := ⟨RX3, "<init>", "()V"⟩
abbrev cX1_init : ByteArray := prog_3_method_1_code
def yX1_init : MethodName := ⟨RX1, "<init>", "()V"⟩
abbrev cX0_init : ByteArray := prog_2_method_1_code
def yX0_init : MethodName := ⟨RX0, "<init>", "()V"⟩
abbrev cX2_init : ByteArray := prog_4_method_1_code
def yX2_init : MethodName := ⟨RX2, "<init>", "()V"⟩
abbrev cX3_begin : ByteArray := prog_1_method_2_code
def yX3_begin : MethodName := ⟨RX3, "begin", "(I)Z"⟩
abbrev cX1_restart : ByteArray := prog_3_method_2_code
def yX1_restart : MethodName := ⟨RX1, "restart", "(I)V"⟩
abbrev cX3_arc : ByteArray := prog_1_method_3_code
def yX3_arc : MethodName := ⟨RX3, "arc", "(II)I"⟩
abbrev cX1_hasVertex : ByteArray := prog_3_method_5_code
def yX1_hasVertex : MethodName := ⟨RX1, "hasVertex", "(I)Z"⟩
abbrev cX1_addArc : ByteArray := prog_3_method_3_code
def yX1_addArc : MethodName := ⟨RX1, "addArc", "(II)V"⟩
abbrev cX3_drop : ByteArray := prog_1_method_4_code
def yX3_drop : MethodName := ⟨RX3, "drop", "(I)Z"⟩
abbrev cX1_hasArc : ByteArray := prog_3_method_6_code
def yX1_hasArc : MethodName := ⟨RX1, "hasArc", "(I)Z"⟩
abbrev cX1_removeArc : ByteArray := prog_3_method_4_code
def yX1_removeArc : MethodName := ⟨RX1, "removeArc", "(I)V"⟩
abbrev cX3_plant : ByteArray := prog_1_method_5_code
def yX3_plant : MethodName := ⟨RX3, "plant", "(I)I"⟩
abbrev cX1_hasSet : ByteArray := prog_3_method_7_code
def yX1_hasSet : MethodName := ⟨RX1, "hasSet", "(I)Z"⟩
abbrev cX1_allVertices : ByteArray := prog_3_method_8_code
def yX1_allVertices : MethodName := ⟨RX1, "allVertices", "()I"⟩
abbrev cX0_add : ByteArray := prog_2_method_2_code
def yX0_add : MethodName := ⟨RX0, "add", "(I)V"⟩
abbrev cX3_fell : ByteArray := prog_1_method_6_code
def yX3_fell : MethodName := ⟨RX3, "fell", "()I"⟩
abbrev cX3_count : ByteArray := prog_1_method_7_code
def yX3_count : MethodName := ⟨RX3, "count", "(I)I"⟩
abbrev cX3_end : ByteArray := prog_1_method_8_code
def yX3_end : MethodName := ⟨RX3, "end", "(II)I"⟩
abbrev cX3_entry : ByteArray := prog_1_method_9_code
def yX3_entry : MethodName := ⟨RX3, "entry", "(I)I"⟩
abbrev cX1_entrySize : ByteArray := prog_3_method_10_code
def yX1_entrySize : MethodName := ⟨RX1, "entrySize", "(I)I"⟩
abbrev cX1_enters : ByteArray := prog_3_method_9_code
def yX1_enters : MethodName := ⟨RX1, "enters", "(II)Z"⟩
abbrev cX3_missed : ByteArray := prog_1_method_10_code
def yX3_missed : MethodName := ⟨RX3, "missed", "(I)I"⟩
abbrev cX0_missing : ByteArray := prog_2_method_3_code
def yX0_missing : MethodName := ⟨RX0, "missing", "(I)I"⟩
abbrev cX3_packs : ByteArray := prog_1_method_11_code
def yX3_packs : MethodName := ⟨RX3, "packs", "()Z"⟩
abbrev cX3_firstStopper : ByteArray := prog_1_method_17_code
def yX3_firstStopper : MethodName := ⟨RX3, "firstStopper", "(I)I"⟩
abbrev cX3_comesBefore : ByteArray := prog_1_method_19_code
def yX3_comesBefore : MethodName := ⟨RX3, "comesBefore", "(II)Z"⟩
abbrev cJ6_bitCount : ByteArray := prog_7_method_49_code
def yJ6_bitCount : MethodName := ⟨RJ6, "bitCount", "(I)I"⟩
abbrev cX3_stops : ByteArray := prog_1_method_18_code
def yX3_stops : MethodName := ⟨RX3, "stops", "(II)Z"⟩
abbrev cX3_stopper : ByteArray := prog_1_method_12_code
def yX3_stopper : MethodName := ⟨RX3, "stopper", "()I"⟩
abbrev cX3_owner : ByteArray := prog_1_method_13_code
def yX3_owner : MethodName := ⟨RX3, "owner", "(I)I"⟩
abbrev cX2_refresh : ByteArray := prog_4_method_2_code
def yX2_refresh : MethodName := ⟨RX2, "refresh", "(LBranchPacker$Net;LBranchPacker$Grove;)V"⟩
abbrev cJ7_fill : ByteArray := prog_9_method_103_code
def yJ7_fill : MethodName := ⟨RJ7, "fill", "([II)V"⟩
abbrev cX2_measureSurplus : ByteArray := prog_4_method_3_code
def yX2_measureSurplus : MethodName := ⟨RX2, "measureSurplus", "(LBranchPacker$Net;LBranchPacker$Grove;)Z"⟩
abbrev cX2_growToAll : ByteArray := prog_4_method_4_code
def yX2_growToAll : MethodName := ⟨RX2, "growToAll", "(LBranchPacker$Net;II)V"⟩
abbrev cX2_leastSafeArc : ByteArray := prog_4_method_5_code
def yX2_leastSafeArc : MethodName := ⟨RX2, "leastSafeArc", "(LBranchPacker$Net;I)I"⟩
abbrev cX2_leadsOut : ByteArray := prog_4_method_6_code
def yX2_leadsOut : MethodName := ⟨RX2, "leadsOut", "(LBranchPacker$Net;II)Z"⟩
abbrev cX2_isSafe : ByteArray := prog_4_method_7_code
def yX2_isSafe : MethodName := ⟨RX2, "isSafe", "(LBranchPacker$Net;II)Z"⟩
abbrev cX2_takesFrom : ByteArray := prog_4_method_9_code
def yX2_takesFrom : MethodName := ⟨RX2, "takesFrom", "(LBranchPacker$Net;III)Z"⟩
abbrev cX2_use : ByteArray := prog_4_method_8_code
def yX2_use : MethodName := ⟨RX2, "use", "(LBranchPacker$Net;III)V"⟩
abbrev cX3_way : ByteArray := prog_1_method_14_code
def yX3_way : MethodName := ⟨RX3, "way", "(II)I"⟩
abbrev cX3_spare : ByteArray := prog_1_method_15_code
def yX3_spare : MethodName := ⟨RX3, "spare", "(I)Z"⟩
abbrev cX3_most : ByteArray := prog_1_method_16_code
def yX3_most : MethodName := ⟨RX3, "most", "(I)I"⟩
abbrev cJ9_min : ByteArray := prog_8_method_69_code
def yJ9_min : MethodName := ⟨RJ9, "min", "(II)I"⟩
abbrev cX4_init : ByteArray := prog_6_method_1_code
def yX4_init : MethodName := ⟨RX4, "<init>", "()V"⟩
abbrev cX4_begin : ByteArray := prog_6_method_9_code
def yX4_begin : MethodName := ⟨RX4, "begin", "(I)Z"⟩
abbrev cX4_arc : ByteArray := prog_6_method_10_code
def yX4_arc : MethodName := ⟨RX4, "arc", "(II)I"⟩
abbrev cX4_drop : ByteArray := prog_6_method_11_code
def yX4_drop : MethodName := ⟨RX4, "drop", "(I)Z"⟩
abbrev cX4_isArc : ByteArray := prog_6_method_6_code
def yX4_isArc : MethodName := ⟨RX4, "isArc", "(I)Z"⟩
abbrev cX4_remove : ByteArray := prog_6_method_12_code
def yX4_remove : MethodName := ⟨RX4, "remove", "(I)V"⟩
abbrev cX4_plant : ByteArray := prog_6_method_13_code
def yX4_plant : MethodName := ⟨RX4, "plant", "(I)I"⟩
abbrev cX4_isSet : ByteArray := prog_6_method_5_code
def yX4_isSet : MethodName := ⟨RX4, "isSet", "(I)Z"⟩
abbrev cX4_all : ByteArray := prog_6_method_4_code
def yX4_all : MethodName := ⟨RX4, "all", "()I"⟩
abbrev cX4_fell : ByteArray := prog_6_method_14_code
def yX4_fell : MethodName := ⟨RX4, "fell", "()I"⟩
abbrev cX4_count : ByteArray := prog_6_method_15_code
def yX4_count : MethodName := ⟨RX4, "count", "(I)I"⟩
abbrev cX4_end : ByteArray := prog_6_method_16_code
def yX4_end : MethodName := ⟨RX4, "end", "(II)I"⟩
abbrev cX4_entry : ByteArray := prog_6_method_18_code
def yX4_entry : MethodName := ⟨RX4, "entry", "(I)I"⟩
abbrev cX4_entryOf : ByteArray := prog_6_method_17_code
def yX4_entryOf : MethodName := ⟨RX4, "entryOf", "(II)I"⟩
abbrev cX4_has : ByteArray := prog_6_method_3_code
def yX4_has : MethodName := ⟨RX4, "has", "(II)Z"⟩
abbrev cX4_missed : ByteArray := prog_6_method_19_code
def yX4_missed : MethodName := ⟨RX4, "missed", "(I)I"⟩
abbrev cX4_stopper : ByteArray := prog_6_method_20_code
def yX4_stopper : MethodName := ⟨RX4, "stopper", "()I"⟩
abbrev cX4_isBefore : ByteArray := prog_6_method_8_code
def yX4_isBefore : MethodName := ⟨RX4, "isBefore", "(II)Z"⟩
abbrev cX4_size : ByteArray := prog_6_method_7_code
def yX4_size : MethodName := ⟨RX4, "size", "(I)I"⟩
abbrev cX4_packs : ByteArray := prog_6_method_25_code
def yX4_packs : MethodName := ⟨RX4, "packs", "()Z"⟩
abbrev cX4_canGoOn : ByteArray := prog_6_method_23_code
def yX4_canGoOn : MethodName := ⟨RX4, "canGoOn", "(III)Z"⟩
abbrev cX4_isDone : ByteArray := prog_6_method_22_code
def yX4_isDone : MethodName := ⟨RX4, "isDone", "(IIII)Z"⟩
abbrev cX4_isStopped : ByteArray := prog_6_method_21_code
def yX4_isStopped : MethodName := ⟨RX4, "isStopped", "(III)Z"⟩
abbrev cX4_grows : ByteArray := prog_6_method_24_code
def yX4_grows : MethodName := ⟨RX4, "grows", "(III)Z"⟩
abbrev cX4_owner : ByteArray := prog_6_method_27_code
def yX4_owner : MethodName := ⟨RX4, "owner", "(I)I"⟩
abbrev cX4_pack : ByteArray := prog_6_method_26_code
def yX4_pack : MethodName := ⟨RX4, "pack", "()Z"⟩
abbrev cX4_way : ByteArray := prog_6_method_28_code
def yX4_way : MethodName := ⟨RX4, "way", "(II)I"⟩
abbrev cX4_spare : ByteArray := prog_6_method_29_code
def yX4_spare : MethodName := ⟨RX4, "spare", "(I)Z"⟩
abbrev cX4_most : ByteArray := prog_6_method_30_code
def yX4_most : MethodName := ⟨RX4, "most", "(I)I"⟩
abbrev cL_law : ByteArray := code
def yL_law : MethodName := ⟨RL, "law", "([I)Z"⟩
abbrev classes : List vw_C := [(RX0, TX0, 2), (RX1, TX1, 4), (RX2, TX2, 3), (RX3, TX3, 3), (RX4, TX4, 12)]
def bigW : List Cond := lw_tbl.filter goodWord
abbrev wq (y : MethodName) (c : ByteArray) (n : Nat) (r : Option FieldType) : List Cond := .code y c n r :: bigW
theorem bw_t (i : Nat) {w : Cond} (h : tables_1[i]? = some w) (hg : goodWord w = true) : w ∈ bigW := List.mem_filter.mpr ⟨List.mem_append_right _ (List.mem_of_getElem? h), hg⟩
theorem bw_s (i : Nat) {w : Cond} (h : (k2_sels lw_privs)[i]? = some w) (hg : goodWord w = true) : w ∈ bigW := List.mem_filter.mpr ⟨List.mem_append_left _ (List.mem_of_getElem? h), hg⟩
theorem bw_l {w : Cond} (h : w ∈ bigW) : w ∈ lw_tbl := (List.mem_filter.mp h).1
theorem bw_g {w : Cond} (h : w ∈ bigW) : (w.onTables && w.keeps) = true ∨ ∃ ty, w = .arrayClass ty := good_of_word (List.mem_filter.mp h).2
theorem bw_c {c0 c1 : Cond} (h1 : c1 ∈ bigW) : GoodIn (c0 :: bigW) (c1 :: bigW) := by
  intro w hw
  rcases List.mem_cons.mp hw with rfl | h
  · exact ⟨List.mem_cons_of_mem _ h1, bw_g h1⟩
  · exact ⟨List.mem_cons_of_mem _ h, bw_g h⟩
theorem bw_V {c0 : Cond} {own C : String} {idx n : Nat} {y : MethodName} {b : ByteArray} {r : Option FieldType} (hl : Cond.methodLink own idx y ∈ bigW) (hi : Cond.instanceMethod y ∈ bigW) (hs : Cond.selects C y y ∈ bigW) (hn : Cond.initialized C ∈ bigW) (hc : Cond.code y b n r ∈ bigW) : GoodIn (c0 :: bigW) (wsV own idx C y (wq y b n r)) := by
  intro w hw
  rcases List.mem_append.mp hw with h | h
  · simp only [List.mem_cons, List.not_mem_nil, or_false] at h
    have hm : w ∈ bigW := by
      rcases h with rfl | rfl | rfl | rfl
      · exact hl
      · exact hi
      · exact hs
      · exact hn
    exact ⟨List.mem_cons_of_mem _ hm, bw_g hm⟩
  · exact bw_c hc w h
theorem bw_S {c0 : Cond} {own : String} {idx n : Nat} {y : MethodName} {b : ByteArray} {r : Option FieldType} (hl : Cond.methodLink own idx y ∈ bigW) (hi : Cond.static y ∈ bigW) (hn : Cond.initialized own ∈ bigW) (hc : Cond.code y b n r ∈ bigW) : GoodIn (c0 :: bigW) (wsS own idx y (wq y b n r)) := by
  intro w hw
  rcases List.mem_append.mp hw with h | h
  · simp only [List.mem_cons, List.not_mem_nil, or_false] at h
    have hm : w ∈ bigW := by
      rcases h with rfl | rfl | rfl
      · exact hl
      · exact hi
      · exact hn
    exact ⟨List.mem_cons_of_mem _ hm, bw_g hm⟩
  · exact bw_c hc w h
theorem in_X0 : ∀ w ∈ u_ws RX0 TX0 2, w ∈ bigW := fun w h => List.mem_filter.mpr ⟨List.mem_append_right _ ((by decide +kernel : ∀ w ∈ u_ws RX0 TX0 2, w ∈ tables_1) w h), (by decide +kernel : ∀ w ∈ u_ws RX0 TX0 2, goodWord w = true) w h⟩
theorem in_X1 : ∀ w ∈ u_ws RX1 TX1 4, w ∈ bigW := fun w h => List.mem_filter.mpr ⟨List.mem_append_right _ ((by decide +kernel : ∀ w ∈ u_ws RX1 TX1 4, w ∈ tables_1) w h), (by decide +kernel : ∀ w ∈ u_ws RX1 TX1 4, goodWord w = true) w h⟩
theorem in_X2 : ∀ w ∈ u_ws RX2 TX2 3, w ∈ bigW := fun w h => List.mem_filter.mpr ⟨List.mem_append_right _ ((by decide +kernel : ∀ w ∈ u_ws RX2 TX2 3, w ∈ tables_1) w h), (by decide +kernel : ∀ w ∈ u_ws RX2 TX2 3, goodWord w = true) w h⟩
theorem in_X3 : ∀ w ∈ u_ws RX3 TX3 3, w ∈ bigW := fun w h => List.mem_filter.mpr ⟨List.mem_append_right _ ((by decide +kernel : ∀ w ∈ u_ws RX3 TX3 3, w ∈ tables_1) w h), (by decide +kernel : ∀ w ∈ u_ws RX3 TX3 3, goodWord w = true) w h⟩
theorem in_X4 : ∀ w ∈ u_ws RX4 TX4 12, w ∈ bigW := fun w h => List.mem_filter.mpr ⟨List.mem_append_right _ ((by decide +kernel : ∀ w ∈ u_ws RX4 TX4 12, w ∈ tables_1) w h), (by decide +kernel : ∀ w ∈ u_ws RX4 TX4 12, goodWord w = true) w h⟩
theorem mq_in_L : (.initialized RL : Cond) ∈ bigW := bw_t 0 rfl rfl
theorem mq_in_X3 : (.initialized RX3 : Cond) ∈ bigW := bw_t 1 rfl rfl
theorem mq_in_X1 : (.initialized RX1 : Cond) ∈ bigW := bw_t 2 rfl rfl
theorem mq_in_X0 : (.initialized RX0 : Cond) ∈ bigW := bw_t 3 rfl rfl
theorem mq_in_X2 : (.initialized RX2 : Cond) ∈ bigW := bw_t 4 rfl rfl
theorem mq_in_X4 : (.initialized RX4 : Cond) ∈ bigW := bw_t 5 rfl rfl
theorem mq_in_J6 : (.initialized RJ6 : Cond) ∈ bigW := bw_t 6 rfl rfl
theorem mq_in_J7 : (.initialized RJ7 : Cond) ∈ bigW := bw_t 7 rfl rfl
theorem mq_in_J9 : (.initialized "java/lang/Math" : Cond) ∈ bigW := bw_t 8 rfl rfl
theorem mq_cl_L_7 : (.classLink RL 7 RX3 : Cond) ∈ bigW := bw_t 9 rfl rfl
theorem mq_ins_X3 : (.instantiable RX3 3 : Cond) ∈ bigW := bw_t 10 rfl rfl
theorem mq_ml_L_9 : (.methodLink RL 9 yX3_init : Cond) ∈ bigW := bw_t 11 rfl rfl
theorem mq_im_X3_init : (.instanceMethod yX3_init : Cond) ∈ bigW := bw_t 12 rfl rfl
theorem mq_co_X3_init : (.code yX3_init cX3_init 1 none : Cond) ∈ bigW := bw_t 13 rfl rfl
theorem mq_ml_X3_1 : (.methodLink RX3 1 objectInit : Cond) ∈ bigW := bw_t 14 rfl rfl
theorem mq_im_obj : (.instanceMethod objectInit : Cond) ∈ bigW := bw_t 15 rfl rfl
theorem mq_co_obj : (.code objectInit ⟨#[0xb1]⟩ 1 none : Cond) ∈ bigW := bw_t 16 rfl rfl
theorem mq_cl_X3_7 : (.classLink RX3 7 RX1 : Cond) ∈ bigW := bw_t 17 rfl rfl
theorem mq_ins_X1 : (.instantiable RX1 4 : Cond) ∈ bigW := bw_t 18 rfl rfl
theorem mq_im_X1_init : (.instanceMethod yX1_init : Cond) ∈ bigW := bw_t 20 rfl rfl
theorem mq_co_X1_init : (.code yX1_init cX1_init 1 none : Cond) ∈ bigW := bw_t 21 rfl rfl
theorem mq_ml_X1_3 : (.methodLink RX1 3 objectInit : Cond) ∈ bigW := bw_t 22 rfl rfl
theorem mq_fl_X1_9 : (.fieldLink RX1 9 "BranchPacker$Net" "tails" "[I" : Cond) ∈ bigW := bw_t 23 rfl rfl
theorem mq_fl_X1_15 : (.fieldLink RX1 15 "BranchPacker$Net" "heads" "[I" : Cond) ∈ bigW := bw_t 26 rfl rfl
theorem mq_fl_X1_18 : (.fieldLink RX1 18 "BranchPacker$Net" "vertexCount" "I" : Cond) ∈ bigW := bw_t 29 rfl rfl
theorem mq_fl_X1_22 : (.fieldLink RX1 22 "BranchPacker$Net" "arcCount" "I" : Cond) ∈ bigW := bw_t 32 rfl rfl
theorem mq_ac : (.arrayClass .int : Cond) ∈ bigW := bw_t 44 rfl rfl
theorem mq_cl_X3_16 : (.classLink RX3 16 RX0 : Cond) ∈ bigW := bw_t 45 rfl rfl
theorem mq_ins_X0 : (.instantiable RX0 2 : Cond) ∈ bigW := bw_t 46 rfl rfl
theorem mq_im_X0_init : (.instanceMethod yX0_init : Cond) ∈ bigW := bw_t 48 rfl rfl
theorem mq_co_X0_init : (.code yX0_init cX0_init 1 none : Cond) ∈ bigW := bw_t 49 rfl rfl
theorem mq_ml_X0_3 : (.methodLink RX0 3 objectInit : Cond) ∈ bigW := bw_t 50 rfl rfl
theorem mq_fl_X0_9 : (.fieldLink RX0 9 "BranchPacker$Grove" "roots" "[I" : Cond) ∈ bigW := bw_t 51 rfl rfl
theorem mq_fl_X0_15 : (.fieldLink RX0 15 "BranchPacker$Grove" "size" "I" : Cond) ∈ bigW := bw_t 53 rfl rfl
theorem mq_cl_X3_23 : (.classLink RX3 23 RX2 : Cond) ∈ bigW := bw_t 61 rfl rfl
theorem mq_ins_X2 : (.instantiable RX2 3 : Cond) ∈ bigW := bw_t 62 rfl rfl
theorem mq_im_X2_init : (.instanceMethod yX2_init : Cond) ∈ bigW := bw_t 64 rfl rfl
theorem mq_co_X2_init : (.code yX2_init cX2_init 1 none : Cond) ∈ bigW := bw_t 65 rfl rfl
theorem mq_ml_X2_3 : (.methodLink RX2 3 objectInit : Cond) ∈ bigW := bw_t 66 rfl rfl
theorem mq_fl_X2_9 : (.fieldLink RX2 9 "BranchPacker$Packing" "owners" "[I" : Cond) ∈ bigW := bw_t 67 rfl rfl
theorem mq_fl_X2_15 : (.fieldLink RX2 15 "BranchPacker$Packing" "surplus" "[I" : Cond) ∈ bigW := bw_t 69 rfl rfl
theorem mq_fl_X2_18 : (.fieldLink RX2 18 "BranchPacker$Packing" "isStale" "Z" : Cond) ∈ bigW := bw_t 70 rfl rfl
theorem mq_fl_X3_10 : (.fieldLink RX3 10 "BranchPacker" "net" "LBranchPacker$Net;" : Cond) ∈ bigW := bw_t 79 rfl rfl
theorem mq_fl_X3_19 : (.fieldLink RX3 19 "BranchPacker" "grove" "LBranchPacker$Grove;" : Cond) ∈ bigW := bw_t 80 rfl rfl
theorem mq_fl_X3_26 : (.fieldLink RX3 26 "BranchPacker" "packing" "LBranchPacker$Packing;" : Cond) ∈ bigW := bw_t 81 rfl rfl
theorem mq_ml_L_13 : (.methodLink RL 13 yX3_begin : Cond) ∈ bigW := bw_t 89 rfl rfl
theorem mq_im_X3_begin : (.instanceMethod yX3_begin : Cond) ∈ bigW := bw_t 90 rfl rfl
theorem mq_se_X3_begin : (.selects RX3 yX3_begin yX3_begin : Cond) ∈ bigW := bw_t 91 rfl rfl
theorem mq_co_X3_begin : (.code yX3_begin cX3_begin 2 (some .boolean) : Cond) ∈ bigW := bw_t 92 rfl rfl
theorem mq_ml_X3_30 : (.methodLink RX3 30 yX1_restart : Cond) ∈ bigW := bw_t 93 rfl rfl
theorem mq_im_X1_restart : (.instanceMethod yX1_restart : Cond) ∈ bigW := bw_t 94 rfl rfl
theorem mq_se_X1_restart : (.selects RX1 yX1_restart yX1_restart : Cond) ∈ bigW := bw_t 95 rfl rfl
theorem mq_co_X1_restart : (.code yX1_restart cX1_restart 2 none : Cond) ∈ bigW := bw_t 96 rfl rfl
theorem mq_ml_L_18 : (.methodLink RL 18 yX3_arc : Cond) ∈ bigW := bw_t 97 rfl rfl
theorem mq_im_X3_arc : (.instanceMethod yX3_arc : Cond) ∈ bigW := bw_t 98 rfl rfl
theorem mq_se_X3_arc : (.selects RX3 yX3_arc yX3_arc : Cond) ∈ bigW := bw_t 99 rfl rfl
theorem mq_co_X3_arc : (.code yX3_arc cX3_arc 3 (some .int) : Cond) ∈ bigW := bw_t 100 rfl rfl
theorem mq_ml_X3_45 : (.methodLink RX3 45 yX1_hasVertex : Cond) ∈ bigW := bw_t 101 rfl rfl
theorem mq_im_X1_hasVertex : (.instanceMethod yX1_hasVertex : Cond) ∈ bigW := bw_t 102 rfl rfl
theorem mq_se_X1_hasVertex : (.selects RX1 yX1_hasVertex yX1_hasVertex : Cond) ∈ bigW := bw_t 103 rfl rfl
theorem mq_co_X1_hasVertex : (.code yX1_hasVertex cX1_hasVertex 2 (some .boolean) : Cond) ∈ bigW := bw_t 104 rfl rfl
theorem mq_ml_X3_49 : (.methodLink RX3 49 yX1_addArc : Cond) ∈ bigW := bw_t 105 rfl rfl
theorem mq_im_X1_addArc : (.instanceMethod yX1_addArc : Cond) ∈ bigW := bw_t 106 rfl rfl
theorem mq_se_X1_addArc : (.selects RX1 yX1_addArc yX1_addArc : Cond) ∈ bigW := bw_t 107 rfl rfl
theorem mq_co_X1_addArc : (.code yX1_addArc cX1_addArc 3 none : Cond) ∈ bigW := bw_t 108 rfl rfl
theorem mq_ml_L_23 : (.methodLink RL 23 yX3_drop : Cond) ∈ bigW := bw_t 109 rfl rfl
theorem mq_im_X3_drop : (.instanceMethod yX3_drop : Cond) ∈ bigW := bw_t 110 rfl rfl
theorem mq_se_X3_drop : (.selects RX3 yX3_drop yX3_drop : Cond) ∈ bigW := bw_t 111 rfl rfl
theorem mq_co_X3_drop : (.code yX3_drop cX3_drop 2 (some .boolean) : Cond) ∈ bigW := bw_t 112 rfl rfl
theorem mq_ml_X3_53 : (.methodLink RX3 53 yX1_hasArc : Cond) ∈ bigW := bw_t 113 rfl rfl
theorem mq_im_X1_hasArc : (.instanceMethod yX1_hasArc : Cond) ∈ bigW := bw_t 114 rfl rfl
theorem mq_se_X1_hasArc : (.selects RX1 yX1_hasArc yX1_hasArc : Cond) ∈ bigW := bw_t 115 rfl rfl
theorem mq_co_X1_hasArc : (.code yX1_hasArc cX1_hasArc 2 (some .boolean) : Cond) ∈ bigW := bw_t 116 rfl rfl
theorem mq_ml_X3_56 : (.methodLink RX3 56 yX1_removeArc : Cond) ∈ bigW := bw_t 117 rfl rfl
theorem mq_im_X1_removeArc : (.instanceMethod yX1_removeArc : Cond) ∈ bigW := bw_t 118 rfl rfl
theorem mq_se_X1_removeArc : (.selects RX1 yX1_removeArc yX1_removeArc : Cond) ∈ bigW := bw_t 119 rfl rfl
theorem mq_co_X1_removeArc : (.code yX1_removeArc cX1_removeArc 3 none : Cond) ∈ bigW := bw_t 120 rfl rfl
theorem mq_ml_L_27 : (.methodLink RL 27 yX3_plant : Cond) ∈ bigW := bw_t 121 rfl rfl
theorem mq_im_X3_plant : (.instanceMethod yX3_plant : Cond) ∈ bigW := bw_t 122 rfl rfl
theorem mq_se_X3_plant : (.selects RX3 yX3_plant yX3_plant : Cond) ∈ bigW := bw_t 123 rfl rfl
theorem mq_co_X3_plant : (.code yX3_plant cX3_plant 2 (some .int) : Cond) ∈ bigW := bw_t 124 rfl rfl
theorem mq_ml_X3_59 : (.methodLink RX3 59 yX1_hasSet : Cond) ∈ bigW := bw_t 125 rfl rfl
theorem mq_im_X1_hasSet : (.instanceMethod yX1_hasSet : Cond) ∈ bigW := bw_t 126 rfl rfl
theorem mq_se_X1_hasSet : (.selects RX1 yX1_hasSet yX1_hasSet : Cond) ∈ bigW := bw_t 127 rfl rfl
theorem mq_co_X1_hasSet : (.code yX1_hasSet cX1_hasSet 2 (some .boolean) : Cond) ∈ bigW := bw_t 128 rfl rfl
theorem mq_ml_X1_25 : (.methodLink RX1 25 yX1_allVertices : Cond) ∈ bigW := bw_t 129 rfl rfl
theorem mq_im_X1_allVertices : (.instanceMethod yX1_allVertices : Cond) ∈ bigW := bw_t 130 rfl rfl
theorem mq_se_X1_allVertices : (.selects RX1 yX1_allVertices yX1_allVertices : Cond) ∈ bigW := bw_t 131 rfl rfl
theorem mq_co_X1_allVertices : (.code yX1_allVertices cX1_allVertices 1 (some .int) : Cond) ∈ bigW := bw_t 132 rfl rfl
theorem mq_ml_X3_62 : (.methodLink RX3 62 yX0_add : Cond) ∈ bigW := bw_t 133 rfl rfl
theorem mq_im_X0_add : (.instanceMethod yX0_add : Cond) ∈ bigW := bw_t 134 rfl rfl
theorem mq_se_X0_add : (.selects RX0 yX0_add yX0_add : Cond) ∈ bigW := bw_t 135 rfl rfl
theorem mq_co_X0_add : (.code yX0_add cX0_add 2 none : Cond) ∈ bigW := bw_t 136 rfl rfl
theorem mq_ml_L_32 : (.methodLink RL 32 yX3_fell : Cond) ∈ bigW := bw_t 137 rfl rfl
theorem mq_im_X3_fell : (.instanceMethod yX3_fell : Cond) ∈ bigW := bw_t 138 rfl rfl
theorem mq_se_X3_fell : (.selects RX3 yX3_fell yX3_fell : Cond) ∈ bigW := bw_t 139 rfl rfl
theorem mq_co_X3_fell : (.code yX3_fell cX3_fell 1 (some .int) : Cond) ∈ bigW := bw_t 140 rfl rfl
theorem mq_ml_L_37 : (.methodLink RL 37 yX3_count : Cond) ∈ bigW := bw_t 141 rfl rfl
theorem mq_im_X3_count : (.instanceMethod yX3_count : Cond) ∈ bigW := bw_t 142 rfl rfl
theorem mq_se_X3_count : (.selects RX3 yX3_count yX3_count : Cond) ∈ bigW := bw_t 143 rfl rfl
theorem mq_co_X3_count : (.code yX3_count cX3_count 2 (some .int) : Cond) ∈ bigW := bw_t 144 rfl rfl
theorem mq_ml_L_41 : (.methodLink RL 41 yX3_end : Cond) ∈ bigW := bw_t 145 rfl rfl
theorem mq_im_X3_end : (.instanceMethod yX3_end : Cond) ∈ bigW := bw_t 146 rfl rfl
theorem mq_se_X3_end : (.selects RX3 yX3_end yX3_end : Cond) ∈ bigW := bw_t 147 rfl rfl
theorem mq_co_X3_end : (.code yX3_end cX3_end 3 (some .int) : Cond) ∈ bigW := bw_t 148 rfl rfl
theorem mq_ml_L_45 : (.methodLink RL 45 yX3_entry : Cond) ∈ bigW := bw_t 149 rfl rfl
theorem mq_im_X3_entry : (.instanceMethod yX3_entry : Cond) ∈ bigW := bw_t 150 rfl rfl
theorem mq_se_X3_entry : (.selects RX3 yX3_entry yX3_entry : Cond) ∈ bigW := bw_t 151 rfl rfl
theorem mq_co_X3_entry : (.code yX3_entry cX3_entry 2 (some .int) : Cond) ∈ bigW := bw_t 152 rfl rfl
theorem mq_ml_X3_75 : (.methodLink RX3 75 yX1_entrySize : Cond) ∈ bigW := bw_t 153 rfl rfl
theorem mq_im_X1_entrySize : (.instanceMethod yX1_entrySize : Cond) ∈ bigW := bw_t 154 rfl rfl
theorem mq_se_X1_entrySize : (.selects RX1 yX1_entrySize yX1_entrySize : Cond) ∈ bigW := bw_t 155 rfl rfl
theorem mq_co_X1_entrySize : (.code yX1_entrySize cX1_entrySize 4 (some .int) : Cond) ∈ bigW := bw_t 156 rfl rfl
theorem mq_ml_X1_29 : (.methodLink RX1 29 yX1_enters : Cond) ∈ bigW := bw_t 157 rfl rfl
theorem mq_im_X1_enters : (.instanceMethod yX1_enters : Cond) ∈ bigW := bw_t 158 rfl rfl
theorem mq_se_X1_enters : (.selects RX1 yX1_enters yX1_enters : Cond) ∈ bigW := bw_t 159 rfl rfl
theorem mq_co_X1_enters : (.code yX1_enters cX1_enters 3 (some .boolean) : Cond) ∈ bigW := bw_t 160 rfl rfl
theorem mq_ml_L_49 : (.methodLink RL 49 yX3_missed : Cond) ∈ bigW := bw_t 161 rfl rfl
theorem mq_im_X3_missed : (.instanceMethod yX3_missed : Cond) ∈ bigW := bw_t 162 rfl rfl
theorem mq_se_X3_missed : (.selects RX3 yX3_missed yX3_missed : Cond) ∈ bigW := bw_t 163 rfl rfl
theorem mq_co_X3_missed : (.code yX3_missed cX3_missed 2 (some .int) : Cond) ∈ bigW := bw_t 164 rfl rfl
theorem mq_ml_X3_79 : (.methodLink RX3 79 yX0_missing : Cond) ∈ bigW := bw_t 165 rfl rfl
theorem mq_im_X0_missing : (.instanceMethod yX0_missing : Cond) ∈ bigW := bw_t 166 rfl rfl
theorem mq_se_X0_missing : (.selects RX0 yX0_missing yX0_missing : Cond) ∈ bigW := bw_t 167 rfl rfl
theorem mq_co_X0_missing : (.code yX0_missing cX0_missing 4 (some .int) : Cond) ∈ bigW := bw_t 168 rfl rfl
theorem mq_ml_L_53 : (.methodLink RL 53 yX3_packs : Cond) ∈ bigW := bw_t 169 rfl rfl
theorem mq_im_X3_packs : (.instanceMethod yX3_packs : Cond) ∈ bigW := bw_t 170 rfl rfl
theorem mq_se_X3_packs : (.selects RX3 yX3_packs yX3_packs : Cond) ∈ bigW := bw_t 171 rfl rfl
theorem mq_co_X3_packs : (.code yX3_packs cX3_packs 1 (some .boolean) : Cond) ∈ bigW := bw_t 172 rfl rfl
theorem mq_ml_X3_82 : (.methodLink RX3 82 yX3_firstStopper : Cond) ∈ bigW := bw_t 173 rfl rfl
theorem mq_im_X3_firstStopper : (.instanceMethod yX3_firstStopper : Cond) ∈ bigW := bw_t 175 rfl rfl
theorem mq_co_X3_firstStopper : (.code yX3_firstStopper cX3_firstStopper 4 (some .int) : Cond) ∈ bigW := bw_t 176 rfl rfl
theorem mq_ml_X3_92 : (.methodLink RX3 92 yX1_allVertices : Cond) ∈ bigW := bw_t 177 rfl rfl
theorem mq_ml_X3_102 : (.methodLink RX3 102 yX3_comesBefore : Cond) ∈ bigW := bw_t 178 rfl rfl
theorem mq_st_X3_comesBefore : (.static yX3_comesBefore : Cond) ∈ bigW := bw_t 179 rfl rfl
theorem mq_co_X3_comesBefore : (.code yX3_comesBefore cX3_comesBefore 6 (some .boolean) : Cond) ∈ bigW := bw_t 180 rfl rfl
theorem mq_ml_X3_112 : (.methodLink RX3 112 yJ6_bitCount : Cond) ∈ bigW := bw_t 181 rfl rfl
theorem mq_st_J6_bitCount : (.static yJ6_bitCount : Cond) ∈ bigW := bw_t 182 rfl rfl
theorem mq_co_J6_bitCount : (.code yJ6_bitCount cJ6_bitCount 1 (some .int) : Cond) ∈ bigW := bw_t 183 rfl rfl
theorem mq_k_J6_265 : (.constant RJ6 265 1431655765 : Cond) ∈ bigW := bw_t 184 rfl rfl
theorem mq_k_J6_266 : (.constant RJ6 266 858993459 : Cond) ∈ bigW := bw_t 185 rfl rfl
theorem mq_k_J6_267 : (.constant RJ6 267 252645135 : Cond) ∈ bigW := bw_t 186 rfl rfl
theorem mq_ml_X3_106 : (.methodLink RX3 106 yX3_stops : Cond) ∈ bigW := bw_t 187 rfl rfl
theorem mq_im_X3_stops : (.instanceMethod yX3_stops : Cond) ∈ bigW := bw_t 189 rfl rfl
theorem mq_co_X3_stops : (.code yX3_stops cX3_stops 4 (some .boolean) : Cond) ∈ bigW := bw_t 190 rfl rfl
theorem mq_ml_X3_109 : (.methodLink RX3 109 yX1_enters : Cond) ∈ bigW := bw_t 191 rfl rfl
theorem mq_ml_L_58 : (.methodLink RL 58 yX3_stopper : Cond) ∈ bigW := bw_t 192 rfl rfl
theorem mq_im_X3_stopper : (.instanceMethod yX3_stopper : Cond) ∈ bigW := bw_t 193 rfl rfl
theorem mq_se_X3_stopper : (.selects RX3 yX3_stopper yX3_stopper : Cond) ∈ bigW := bw_t 194 rfl rfl
theorem mq_co_X3_stopper : (.code yX3_stopper cX3_stopper 1 (some .int) : Cond) ∈ bigW := bw_t 195 rfl rfl
theorem mq_ml_L_62 : (.methodLink RL 62 yX3_owner : Cond) ∈ bigW := bw_t 196 rfl rfl
theorem mq_im_X3_owner : (.instanceMethod yX3_owner : Cond) ∈ bigW := bw_t 197 rfl rfl
theorem mq_se_X3_owner : (.selects RX3 yX3_owner yX3_owner : Cond) ∈ bigW := bw_t 198 rfl rfl
theorem mq_co_X3_owner : (.code yX3_owner cX3_owner 2 (some .int) : Cond) ∈ bigW := bw_t 199 rfl rfl
theorem mq_ml_X3_85 : (.methodLink RX3 85 yX2_refresh : Cond) ∈ bigW := bw_t 200 rfl rfl
theorem mq_im_X2_refresh : (.instanceMethod yX2_refresh : Cond) ∈ bigW := bw_t 201 rfl rfl
theorem mq_se_X2_refresh : (.selects RX2 yX2_refresh yX2_refresh : Cond) ∈ bigW := bw_t 202 rfl rfl
theorem mq_co_X2_refresh : (.code yX2_refresh cX2_refresh 4 none : Cond) ∈ bigW := bw_t 203 rfl rfl
theorem mq_ml_X2_22 : (.methodLink RX2 22 yJ7_fill : Cond) ∈ bigW := bw_t 204 rfl rfl
theorem mq_st_J7_fill : (.static yJ7_fill : Cond) ∈ bigW := bw_t 205 rfl rfl
theorem mq_co_J7_fill : (.code yJ7_fill cJ7_fill 4 none : Cond) ∈ bigW := bw_t 206 rfl rfl
theorem mq_ml_X2_28 : (.methodLink RX2 28 yX2_measureSurplus : Cond) ∈ bigW := bw_t 207 rfl rfl
theorem mq_im_X2_measureSurplus : (.instanceMethod yX2_measureSurplus : Cond) ∈ bigW := bw_t 209 rfl rfl
theorem mq_co_X2_measureSurplus : (.code yX2_measureSurplus cX2_measureSurplus 4 (some .boolean) : Cond) ∈ bigW := bw_t 210 rfl rfl
theorem mq_ml_X2_45 : (.methodLink RX2 45 yX1_allVertices : Cond) ∈ bigW := bw_t 211 rfl rfl
theorem mq_ml_X2_51 : (.methodLink RX2 51 yX1_entrySize : Cond) ∈ bigW := bw_t 212 rfl rfl
theorem mq_ml_X2_55 : (.methodLink RX2 55 yX0_missing : Cond) ∈ bigW := bw_t 213 rfl rfl
theorem mq_ml_X2_41 : (.methodLink RX2 41 yX2_growToAll : Cond) ∈ bigW := bw_t 214 rfl rfl
theorem mq_im_X2_growToAll : (.instanceMethod yX2_growToAll : Cond) ∈ bigW := bw_t 216 rfl rfl
theorem mq_co_X2_growToAll : (.code yX2_growToAll cX2_growToAll 7 none : Cond) ∈ bigW := bw_t 217 rfl rfl
theorem mq_ml_X2_61 : (.methodLink RX2 61 yX2_leastSafeArc : Cond) ∈ bigW := bw_t 218 rfl rfl
theorem mq_im_X2_leastSafeArc : (.instanceMethod yX2_leastSafeArc : Cond) ∈ bigW := bw_t 220 rfl rfl
theorem mq_co_X2_leastSafeArc : (.code yX2_leastSafeArc cX2_leastSafeArc 4 (some .int) : Cond) ∈ bigW := bw_t 221 rfl rfl
theorem mq_ml_X2_75 : (.methodLink RX2 75 yX2_leadsOut : Cond) ∈ bigW := bw_t 222 rfl rfl
theorem mq_st_X2_leadsOut : (.static yX2_leadsOut : Cond) ∈ bigW := bw_t 223 rfl rfl
theorem mq_co_X2_leadsOut : (.code yX2_leadsOut cX2_leadsOut 3 (some .boolean) : Cond) ∈ bigW := bw_t 224 rfl rfl
theorem mq_ml_X2_79 : (.methodLink RX2 79 yX2_isSafe : Cond) ∈ bigW := bw_t 225 rfl rfl
theorem mq_im_X2_isSafe : (.instanceMethod yX2_isSafe : Cond) ∈ bigW := bw_t 227 rfl rfl
theorem mq_co_X2_isSafe : (.code yX2_isSafe cX2_isSafe 5 (some .boolean) : Cond) ∈ bigW := bw_t 228 rfl rfl
theorem mq_ml_X2_85 : (.methodLink RX2 85 yX2_takesFrom : Cond) ∈ bigW := bw_t 229 rfl rfl
theorem mq_st_X2_takesFrom : (.static yX2_takesFrom : Cond) ∈ bigW := bw_t 230 rfl rfl
theorem mq_co_X2_takesFrom : (.code yX2_takesFrom cX2_takesFrom 4 (some .boolean) : Cond) ∈ bigW := bw_t 231 rfl rfl
theorem mq_ml_X2_89 : (.methodLink RX2 89 yX1_enters : Cond) ∈ bigW := bw_t 232 rfl rfl
theorem mq_ml_X2_65 : (.methodLink RX2 65 yX2_use : Cond) ∈ bigW := bw_t 233 rfl rfl
theorem mq_im_X2_use : (.instanceMethod yX2_use : Cond) ∈ bigW := bw_t 235 rfl rfl
theorem mq_co_X2_use : (.code yX2_use cX2_use 6 none : Cond) ∈ bigW := bw_t 236 rfl rfl
theorem mq_ml_L_66 : (.methodLink RL 66 yX3_way : Cond) ∈ bigW := bw_t 237 rfl rfl
theorem mq_im_X3_way : (.instanceMethod yX3_way : Cond) ∈ bigW := bw_t 238 rfl rfl
theorem mq_se_X3_way : (.selects RX3 yX3_way yX3_way : Cond) ∈ bigW := bw_t 239 rfl rfl
theorem mq_co_X3_way : (.code yX3_way cX3_way 4 (some .int) : Cond) ∈ bigW := bw_t 240 rfl rfl
theorem mq_ml_L_70 : (.methodLink RL 70 yX3_spare : Cond) ∈ bigW := bw_t 241 rfl rfl
theorem mq_im_X3_spare : (.instanceMethod yX3_spare : Cond) ∈ bigW := bw_t 242 rfl rfl
theorem mq_se_X3_spare : (.selects RX3 yX3_spare yX3_spare : Cond) ∈ bigW := bw_t 243 rfl rfl
theorem mq_co_X3_spare : (.code yX3_spare cX3_spare 2 (some .boolean) : Cond) ∈ bigW := bw_t 244 rfl rfl
theorem mq_ml_L_74 : (.methodLink RL 74 yX3_most : Cond) ∈ bigW := bw_t 245 rfl rfl
theorem mq_im_X3_most : (.instanceMethod yX3_most : Cond) ∈ bigW := bw_t 246 rfl rfl
theorem mq_se_X3_most : (.selects RX3 yX3_most yX3_most : Cond) ∈ bigW := bw_t 247 rfl rfl
theorem mq_co_X3_most : (.code yX3_most cX3_most 4 (some .int) : Cond) ∈ bigW := bw_t 248 rfl rfl
theorem mq_ml_X3_96 : (.methodLink RX3 96 yJ9_min : Cond) ∈ bigW := bw_t 249 rfl rfl
theorem mq_st_J9_min : (.static yJ9_min : Cond) ∈ bigW := bw_t 250 rfl rfl
theorem mq_co_J9_min : (.code yJ9_min cJ9_min 2 (some .int) : Cond) ∈ bigW := bw_t 251 rfl rfl
theorem mq_cl_L_10 : (.classLink RL 10 RX4 : Cond) ∈ bigW := bw_t 252 rfl rfl
theorem mq_ins_X4 : (.instantiable RX4 12 : Cond) ∈ bigW := bw_t 253 rfl rfl
theorem mq_ml_L_12 : (.methodLink RL 12 yX4_init : Cond) ∈ bigW := bw_t 254 rfl rfl
theorem mq_im_X4_init : (.instanceMethod yX4_init : Cond) ∈ bigW := bw_t 255 rfl rfl
theorem mq_co_X4_init : (.code yX4_init cX4_init 1 none : Cond) ∈ bigW := bw_t 256 rfl rfl
theorem mq_ml_X4_1 : (.methodLink RX4 1 objectInit : Cond) ∈ bigW := bw_t 257 rfl rfl
theorem mq_fl_X4_7 : (.fieldLink RX4 7 "BranchPackerModel" "n" "I" : Cond) ∈ bigW := bw_t 258 rfl rfl
theorem mq_fl_X4_45 : (.fieldLink RX4 45 "BranchPackerModel" "arcs" "I" : Cond) ∈ bigW := bw_t 259 rfl rfl
theorem mq_fl_X4_56 : (.fieldLink RX4 56 "BranchPackerModel" "branchings" "I" : Cond) ∈ bigW := bw_t 260 rfl rfl
theorem mq_fl_X4_13 : (.fieldLink RX4 13 "BranchPackerModel" "from" "[I" : Cond) ∈ bigW := bw_t 261 rfl rfl
theorem mq_fl_X4_17 : (.fieldLink RX4 17 "BranchPackerModel" "to" "[I" : Cond) ∈ bigW := bw_t 262 rfl rfl
theorem mq_fl_X4_20 : (.fieldLink RX4 20 "BranchPackerModel" "roots" "[I" : Cond) ∈ bigW := bw_t 263 rfl rfl
theorem mq_fl_X4_23 : (.fieldLink RX4 23 "BranchPackerModel" "owners" "[I" : Cond) ∈ bigW := bw_t 264 rfl rfl
theorem mq_fl_X4_26 : (.fieldLink RX4 26 "BranchPackerModel" "ways" "[I" : Cond) ∈ bigW := bw_t 265 rfl rfl
theorem mq_fl_X4_29 : (.fieldLink RX4 29 "BranchPackerModel" "trees" "[I" : Cond) ∈ bigW := bw_t 266 rfl rfl
theorem mq_fl_X4_32 : (.fieldLink RX4 32 "BranchPackerModel" "hads" "[I" : Cond) ∈ bigW := bw_t 267 rfl rfl
theorem mq_fl_X4_35 : (.fieldLink RX4 35 "BranchPackerModel" "useds" "[I" : Cond) ∈ bigW := bw_t 268 rfl rfl
theorem mq_fl_X4_38 : (.fieldLink RX4 38 "BranchPackerModel" "nexts" "[I" : Cond) ∈ bigW := bw_t 269 rfl rfl
theorem mq_ml_L_17 : (.methodLink RL 17 yX4_begin : Cond) ∈ bigW := bw_t 295 rfl rfl
theorem mq_im_X4_begin : (.instanceMethod yX4_begin : Cond) ∈ bigW := bw_t 296 rfl rfl
theorem mq_se_X4_begin : (.selects RX4 yX4_begin yX4_begin : Cond) ∈ bigW := bw_t 297 rfl rfl
theorem mq_co_X4_begin : (.code yX4_begin cX4_begin 2 (some .boolean) : Cond) ∈ bigW := bw_t 298 rfl rfl
theorem mq_ml_L_22 : (.methodLink RL 22 yX4_arc : Cond) ∈ bigW := bw_t 299 rfl rfl
theorem mq_im_X4_arc : (.instanceMethod yX4_arc : Cond) ∈ bigW := bw_t 300 rfl rfl
theorem mq_se_X4_arc : (.selects RX4 yX4_arc yX4_arc : Cond) ∈ bigW := bw_t 301 rfl rfl
theorem mq_co_X4_arc : (.code yX4_arc cX4_arc 3 (some .int) : Cond) ∈ bigW := bw_t 302 rfl rfl
theorem mq_ml_L_26 : (.methodLink RL 26 yX4_drop : Cond) ∈ bigW := bw_t 303 rfl rfl
theorem mq_im_X4_drop : (.instanceMethod yX4_drop : Cond) ∈ bigW := bw_t 304 rfl rfl
theorem mq_se_X4_drop : (.selects RX4 yX4_drop yX4_drop : Cond) ∈ bigW := bw_t 305 rfl rfl
theorem mq_co_X4_drop : (.code yX4_drop cX4_drop 2 (some .boolean) : Cond) ∈ bigW := bw_t 306 rfl rfl
theorem mq_ml_X4_59 : (.methodLink RX4 59 yX4_isArc : Cond) ∈ bigW := bw_t 307 rfl rfl
theorem mq_im_X4_isArc : (.instanceMethod yX4_isArc : Cond) ∈ bigW := bw_t 309 rfl rfl
theorem mq_co_X4_isArc : (.code yX4_isArc cX4_isArc 2 (some .boolean) : Cond) ∈ bigW := bw_t 310 rfl rfl
theorem mq_ml_X4_63 : (.methodLink RX4 63 yX4_remove : Cond) ∈ bigW := bw_t 311 rfl rfl
theorem mq_im_X4_remove : (.instanceMethod yX4_remove : Cond) ∈ bigW := bw_t 313 rfl rfl
theorem mq_co_X4_remove : (.code yX4_remove cX4_remove 3 none : Cond) ∈ bigW := bw_t 314 rfl rfl
theorem mq_ml_L_31 : (.methodLink RL 31 yX4_plant : Cond) ∈ bigW := bw_t 315 rfl rfl
theorem mq_im_X4_plant : (.instanceMethod yX4_plant : Cond) ∈ bigW := bw_t 316 rfl rfl
theorem mq_se_X4_plant : (.selects RX4 yX4_plant yX4_plant : Cond) ∈ bigW := bw_t 317 rfl rfl
theorem mq_co_X4_plant : (.code yX4_plant cX4_plant 2 (some .int) : Cond) ∈ bigW := bw_t 318 rfl rfl
theorem mq_ml_X4_67 : (.methodLink RX4 67 yX4_isSet : Cond) ∈ bigW := bw_t 319 rfl rfl
theorem mq_im_X4_isSet : (.instanceMethod yX4_isSet : Cond) ∈ bigW := bw_t 321 rfl rfl
theorem mq_co_X4_isSet : (.code yX4_isSet cX4_isSet 2 (some .boolean) : Cond) ∈ bigW := bw_t 322 rfl rfl
theorem mq_ml_X4_41 : (.methodLink RX4 41 yX4_all : Cond) ∈ bigW := bw_t 323 rfl rfl
theorem mq_im_X4_all : (.instanceMethod yX4_all : Cond) ∈ bigW := bw_t 325 rfl rfl
theorem mq_co_X4_all : (.code yX4_all cX4_all 1 (some .int) : Cond) ∈ bigW := bw_t 326 rfl rfl
theorem mq_ml_L_36 : (.methodLink RL 36 yX4_fell : Cond) ∈ bigW := bw_t 327 rfl rfl
theorem mq_im_X4_fell : (.instanceMethod yX4_fell : Cond) ∈ bigW := bw_t 328 rfl rfl
theorem mq_se_X4_fell : (.selects RX4 yX4_fell yX4_fell : Cond) ∈ bigW := bw_t 329 rfl rfl
theorem mq_co_X4_fell : (.code yX4_fell cX4_fell 1 (some .int) : Cond) ∈ bigW := bw_t 330 rfl rfl
theorem mq_ml_L_40 : (.methodLink RL 40 yX4_count : Cond) ∈ bigW := bw_t 331 rfl rfl
theorem mq_im_X4_count : (.instanceMethod yX4_count : Cond) ∈ bigW := bw_t 332 rfl rfl
theorem mq_se_X4_count : (.selects RX4 yX4_count yX4_count : Cond) ∈ bigW := bw_t 333 rfl rfl
theorem mq_co_X4_count : (.code yX4_count cX4_count 2 (some .int) : Cond) ∈ bigW := bw_t 334 rfl rfl
theorem mq_ml_L_44 : (.methodLink RL 44 yX4_end : Cond) ∈ bigW := bw_t 335 rfl rfl
theorem mq_im_X4_end : (.instanceMethod yX4_end : Cond) ∈ bigW := bw_t 336 rfl rfl
theorem mq_se_X4_end : (.selects RX4 yX4_end yX4_end : Cond) ∈ bigW := bw_t 337 rfl rfl
theorem mq_co_X4_end : (.code yX4_end cX4_end 3 (some .int) : Cond) ∈ bigW := bw_t 338 rfl rfl
theorem mq_ml_L_48 : (.methodLink RL 48 yX4_entry : Cond) ∈ bigW := bw_t 339 rfl rfl
theorem mq_im_X4_entry : (.instanceMethod yX4_entry : Cond) ∈ bigW := bw_t 340 rfl rfl
theorem mq_se_X4_entry : (.selects RX4 yX4_entry yX4_entry : Cond) ∈ bigW := bw_t 341 rfl rfl
theorem mq_co_X4_entry : (.code yX4_entry cX4_entry 2 (some .int) : Cond) ∈ bigW := bw_t 342 rfl rfl
theorem mq_ml_X4_70 : (.methodLink RX4 70 yX4_entryOf : Cond) ∈ bigW := bw_t 343 rfl rfl
theorem mq_im_X4_entryOf : (.instanceMethod yX4_entryOf : Cond) ∈ bigW := bw_t 345 rfl rfl
theorem mq_co_X4_entryOf : (.code yX4_entryOf cX4_entryOf 5 (some .int) : Cond) ∈ bigW := bw_t 346 rfl rfl
theorem mq_ml_X4_48 : (.methodLink RX4 48 yX4_has : Cond) ∈ bigW := bw_t 347 rfl rfl
theorem mq_st_X4_has : (.static yX4_has : Cond) ∈ bigW := bw_t 348 rfl rfl
theorem mq_co_X4_has : (.code yX4_has cX4_has 2 (some .boolean) : Cond) ∈ bigW := bw_t 349 rfl rfl
theorem mq_ml_L_52 : (.methodLink RL 52 yX4_missed : Cond) ∈ bigW := bw_t 350 rfl rfl
theorem mq_im_X4_missed : (.instanceMethod yX4_missed : Cond) ∈ bigW := bw_t 351 rfl rfl
theorem mq_se_X4_missed : (.selects RX4 yX4_missed yX4_missed : Cond) ∈ bigW := bw_t 352 rfl rfl
theorem mq_co_X4_missed : (.code yX4_missed cX4_missed 4 (some .int) : Cond) ∈ bigW := bw_t 353 rfl rfl
theorem mq_ml_L_61 : (.methodLink RL 61 yX4_stopper : Cond) ∈ bigW := bw_t 354 rfl rfl
theorem mq_im_X4_stopper : (.instanceMethod yX4_stopper : Cond) ∈ bigW := bw_t 355 rfl rfl
theorem mq_se_X4_stopper : (.selects RX4 yX4_stopper yX4_stopper : Cond) ∈ bigW := bw_t 356 rfl rfl
theorem mq_co_X4_stopper : (.code yX4_stopper cX4_stopper 3 (some .int) : Cond) ∈ bigW := bw_t 357 rfl rfl
theorem mq_ml_X4_74 : (.methodLink RX4 74 yX4_entry : Cond) ∈ bigW := bw_t 358 rfl rfl
theorem mq_ml_X4_77 : (.methodLink RX4 77 yX4_missed : Cond) ∈ bigW := bw_t 359 rfl rfl
theorem mq_ml_X4_80 : (.methodLink RX4 80 yX4_isBefore : Cond) ∈ bigW := bw_t 360 rfl rfl
theorem mq_st_X4_isBefore : (.static yX4_isBefore : Cond) ∈ bigW := bw_t 361 rfl rfl
theorem mq_co_X4_isBefore : (.code yX4_isBefore cX4_isBefore 3 (some .boolean) : Cond) ∈ bigW := bw_t 362 rfl rfl
theorem mq_ml_X4_52 : (.methodLink RX4 52 yX4_size : Cond) ∈ bigW := bw_t 363 rfl rfl
theorem mq_st_X4_size : (.static yX4_size : Cond) ∈ bigW := bw_t 364 rfl rfl
theorem mq_co_X4_size : (.code yX4_size cX4_size 3 (some .int) : Cond) ∈ bigW := bw_t 365 rfl rfl
theorem mq_ml_L_57 : (.methodLink RL 57 yX4_packs : Cond) ∈ bigW := bw_t 366 rfl rfl
theorem mq_im_X4_packs : (.instanceMethod yX4_packs : Cond) ∈ bigW := bw_t 367 rfl rfl
theorem mq_se_X4_packs : (.selects RX4 yX4_packs yX4_packs : Cond) ∈ bigW := bw_t 368 rfl rfl
theorem mq_co_X4_packs : (.code yX4_packs cX4_packs 1 (some .boolean) : Cond) ∈ bigW := bw_t 369 rfl rfl
theorem mq_ml_X4_94 : (.methodLink RX4 94 yX4_canGoOn : Cond) ∈ bigW := bw_t 370 rfl rfl
theorem mq_im_X4_canGoOn : (.instanceMethod yX4_canGoOn : Cond) ∈ bigW := bw_t 372 rfl rfl
theorem mq_co_X4_canGoOn : (.code yX4_canGoOn cX4_canGoOn 7 (some .boolean) : Cond) ∈ bigW := bw_t 373 rfl rfl
theorem mq_ml_X4_87 : (.methodLink RX4 87 yX4_isDone : Cond) ∈ bigW := bw_t 374 rfl rfl
theorem mq_im_X4_isDone : (.instanceMethod yX4_isDone : Cond) ∈ bigW := bw_t 376 rfl rfl
theorem mq_co_X4_isDone : (.code yX4_isDone cX4_isDone 7 (some .boolean) : Cond) ∈ bigW := bw_t 377 rfl rfl
theorem mq_ml_X4_83 : (.methodLink RX4 83 yX4_isStopped : Cond) ∈ bigW := bw_t 378 rfl rfl
theorem mq_im_X4_isStopped : (.instanceMethod yX4_isStopped : Cond) ∈ bigW := bw_t 380 rfl rfl
theorem mq_co_X4_isStopped : (.code yX4_isStopped cX4_isStopped 7 (some .boolean) : Cond) ∈ bigW := bw_t 381 rfl rfl
theorem mq_ml_X4_91 : (.methodLink RX4 91 yX4_grows : Cond) ∈ bigW := bw_t 382 rfl rfl
theorem mq_im_X4_grows : (.instanceMethod yX4_grows : Cond) ∈ bigW := bw_t 384 rfl rfl
theorem mq_co_X4_grows : (.code yX4_grows cX4_grows 4 (some .boolean) : Cond) ∈ bigW := bw_t 385 rfl rfl
theorem mq_ml_L_65 : (.methodLink RL 65 yX4_owner : Cond) ∈ bigW := bw_t 386 rfl rfl
theorem mq_im_X4_owner : (.instanceMethod yX4_owner : Cond) ∈ bigW := bw_t 387 rfl rfl
theorem mq_se_X4_owner : (.selects RX4 yX4_owner yX4_owner : Cond) ∈ bigW := bw_t 388 rfl rfl
theorem mq_co_X4_owner : (.code yX4_owner cX4_owner 2 (some .int) : Cond) ∈ bigW := bw_t 389 rfl rfl
theorem mq_ml_X4_101 : (.methodLink RX4 101 yX4_pack : Cond) ∈ bigW := bw_t 390 rfl rfl
theorem mq_im_X4_pack : (.instanceMethod yX4_pack : Cond) ∈ bigW := bw_t 392 rfl rfl
theorem mq_co_X4_pack : (.code yX4_pack cX4_pack 5 (some .boolean) : Cond) ∈ bigW := bw_t 393 rfl rfl
theorem mq_ml_X4_97 : (.methodLink RX4 97 yX4_packs : Cond) ∈ bigW := bw_t 394 rfl rfl
theorem mq_ml_L_69 : (.methodLink RL 69 yX4_way : Cond) ∈ bigW := bw_t 395 rfl rfl
theorem mq_im_X4_way : (.instanceMethod yX4_way : Cond) ∈ bigW := bw_t 396 rfl rfl
theorem mq_se_X4_way : (.selects RX4 yX4_way yX4_way : Cond) ∈ bigW := bw_t 397 rfl rfl
theorem mq_co_X4_way : (.code yX4_way cX4_way 4 (some .int) : Cond) ∈ bigW := bw_t 398 rfl rfl
theorem mq_ml_L_73 : (.methodLink RL 73 yX4_spare : Cond) ∈ bigW := bw_t 399 rfl rfl
theorem mq_im_X4_spare : (.instanceMethod yX4_spare : Cond) ∈ bigW := bw_t 400 rfl rfl
theorem mq_se_X4_spare : (.selects RX4 yX4_spare yX4_spare : Cond) ∈ bigW := bw_t 401 rfl rfl
theorem mq_co_X4_spare : (.code yX4_spare cX4_spare 6 (some .boolean) : Cond) ∈ bigW := bw_t 402 rfl rfl
theorem mq_ml_L_77 : (.methodLink RL 77 yX4_most : Cond) ∈ bigW := bw_t 403 rfl rfl
theorem mq_im_X4_most : (.instanceMethod yX4_most : Cond) ∈ bigW := bw_t 404 rfl rfl
theorem mq_se_X4_most : (.selects RX4 yX4_most yX4_most : Cond) ∈ bigW := bw_t 405 rfl rfl
theorem mq_co_X4_most : (.code yX4_most cX4_most 5 (some .int) : Cond) ∈ bigW := bw_t 406 rfl rfl
theorem mq_se_X3_firstStopper : (.selects RX3 yX3_firstStopper yX3_firstStopper : Cond) ∈ bigW := bw_s 0 rfl rfl
theorem mq_se_X3_stops : (.selects RX3 yX3_stops yX3_stops : Cond) ∈ bigW := bw_s 1 rfl rfl
theorem mq_se_X2_measureSurplus : (.selects RX2 yX2_measureSurplus yX2_measureSurplus : Cond) ∈ bigW := bw_s 2 rfl rfl
theorem mq_se_X2_growToAll : (.selects RX2 yX2_growToAll yX2_growToAll : Cond) ∈ bigW := bw_s 3 rfl rfl
theorem mq_se_X2_leastSafeArc : (.selects RX2 yX2_leastSafeArc yX2_leastSafeArc : Cond) ∈ bigW := bw_s 4 rfl rfl
theorem mq_se_X2_isSafe : (.selects RX2 yX2_isSafe yX2_isSafe : Cond) ∈ bigW := bw_s 5 rfl rfl
theorem mq_se_X2_use : (.selects RX2 yX2_use yX2_use : Cond) ∈ bigW := bw_s 6 rfl rfl
theorem mq_se_X4_isArc : (.selects RX4 yX4_isArc yX4_isArc : Cond) ∈ bigW := bw_s 7 rfl rfl
theorem mq_se_X4_remove : (.selects RX4 yX4_remove yX4_remove : Cond) ∈ bigW := bw_s 8 rfl rfl
theorem mq_se_X4_isSet : (.selects RX4 yX4_isSet yX4_isSet : Cond) ∈ bigW := bw_s 9 rfl rfl
theorem mq_se_X4_all : (.selects RX4 yX4_all yX4_all : Cond) ∈ bigW := bw_s 10 rfl rfl
theorem mq_se_X4_entryOf : (.selects RX4 yX4_entryOf yX4_entryOf : Cond) ∈ bigW := bw_s 11 rfl rfl
theorem mq_se_X4_canGoOn : (.selects RX4 yX4_canGoOn yX4_canGoOn : Cond) ∈ bigW := bw_s 12 rfl rfl
theorem mq_se_X4_isDone : (.selects RX4 yX4_isDone yX4_isDone : Cond) ∈ bigW := bw_s 13 rfl rfl
theorem mq_se_X4_isStopped : (.selects RX4 yX4_isStopped yX4_isStopped : Cond) ∈ bigW := bw_s 14 rfl rfl
theorem mq_se_X4_grows : (.selects RX4 yX4_grows yX4_grows : Cond) ∈ bigW := bw_s 15 rfl rfl
theorem mq_se_X4_pack : (.selects RX4 yX4_pack yX4_pack : Cond) ∈ bigW := bw_s 16 rfl rfl
def nx_F : List (String × Nat × String × String × String × String) := [(RX2, 82, "BranchPacker$Net", "tails", "[I", RX3), (RX3, 68, "BranchPacker$Net", "tails", "[I", RX3), (RX2, 69, "BranchPacker$Net", "heads", "[I", RX3), (RX3, 72, "BranchPacker$Net", "heads", "[I", RX3), (RX2, 58, "BranchPacker$Net", "vertexCount", "I", RX3), (RX3, 65, "BranchPacker$Net", "vertexCount", "I", RX3), (RX3, 42, "BranchPacker$Net", "arcCount", "I", RX3), (RX2, 72, "BranchPacker$Net", "arcCount", "I", RX3), (RX2, 38, "BranchPacker$Grove", "roots", "[I", RX3), (RX3, 34, "BranchPacker$Grove", "size", "I", RX3), (RX2, 32, "BranchPacker$Grove", "size", "I", RX3), (RX3, 89, "BranchPacker$Packing", "owners", "[I", RX3), (RX3, 38, "BranchPacker$Packing", "isStale", "Z", RX3)]
def nx_M : List (String × Nat × MethodName × String) := [(RX3, 9, yX1_init, RX3), (RX3, 18, yX0_init, RX3), (RX3, 25, yX2_init, RX3)]
def nx_ok (U : State) : Prop := (∀ q ∈ nx_F, va_Nw (.fieldLinkNest q.1 q.2.1 q.2.2.1 q.2.2.2.1 q.2.2.2.2.1 q.2.2.2.2.2) U) ∧ ∀ q ∈ nx_M, va_Nw (.methodLinkNest q.1 q.2.1 q.2.2.1 q.2.2.2) U
theorem nx_warm {s U : State} (hW : s.WarmedH U.vm) (h : nx_ok s) : nx_ok U := ⟨fun q hq => va_Nw.warmF hW (h.1 q hq), fun q hq => va_Nw.warmM hW (h.2 q hq)⟩
theorem nx_same {s U : State} (hv : s.vm = U.vm) (h : nx_ok s) : nx_ok U := ⟨fun q hq => va_Nw.same rfl hv (h.1 q hq), fun q hq => va_Nw.same rfl hv (h.2 q hq)⟩
theorem nf_X2_82 {s : State} {args : Array Value} (h : nx_ok s) : (Cond.fieldLinkNest RX2 82 "BranchPacker$Net" "tails" "[I" RX3).before args s = true := va_Nw.use rfl (h.1 (RX2, 82, "BranchPacker$Net", "tails", "[I", RX3) (List.mem_of_getElem? (i := 0) rfl))
theorem nf_X3_68 {s : State} {args : Array Value} (h : nx_ok s) : (Cond.fieldLinkNest RX3 68 "BranchPacker$Net" "tails" "[I" RX3).before args s = true := va_Nw.use rfl (h.1 (RX3, 68, "BranchPacker$Net", "tails", "[I", RX3) (List.mem_of_getElem? (i := 1) rfl))
theorem nf_X2_69 {s : State} {args : Array Value} (h : nx_ok s) : (Cond.fieldLinkNest RX2 69 "BranchPacker$Net" "heads" "[I" RX3).before args s = true := va_Nw.use rfl (h.1 (RX2, 69, "BranchPacker$Net", "heads", "[I", RX3) (List.mem_of_getElem? (i := 2) rfl))
theorem nf_X3_72 {s : State} {args : Array Value} (h : nx_ok s) : (Cond.fieldLinkNest RX3 72 "BranchPacker$Net" "heads" "[I" RX3).before args s = true := va_Nw.use rfl (h.1 (RX3, 72, "BranchPacker$Net", "heads", "[I", RX3) (List.mem_of_getElem? (i := 3) rfl))
theorem nf_X2_58 {s : State} {args : Array Value} (h : nx_ok s) : (Cond.fieldLinkNest RX2 58 "BranchPacker$Net" "vertexCount" "I" RX3).before args s = true := va_Nw.use rfl (h.1 (RX2, 58, "BranchPacker$Net", "vertexCount", "I", RX3) (List.mem_of_getElem? (i := 4) rfl))
theorem nf_X3_65 {s : State} {args : Array Value} (h : nx_ok s) : (Cond.fieldLinkNest RX3 65 "BranchPacker$Net" "vertexCount" "I" RX3).before args s = true := va_Nw.use rfl (h.1 (RX3, 65, "BranchPacker$Net", "vertexCount", "I", RX3) (List.mem_of_getElem? (i := 5) rfl))
theorem nf_X3_42 {s : State} {args : Array Value} (h : nx_ok s) : (Cond.fieldLinkNest RX3 42 "BranchPacker$Net" "arcCount" "I" RX3).before args s = true := va_Nw.use rfl (h.1 (RX3, 42, "BranchPacker$Net", "arcCount", "I", RX3) (List.mem_of_getElem? (i := 6) rfl))
theorem nf_X2_72 {s : State} {args : Array Value} (h : nx_ok s) : (Cond.fieldLinkNest RX2 72 "BranchPacker$Net" "arcCount" "I" RX3).before args s = true := va_Nw.use rfl (h.1 (RX2, 72, "BranchPacker$Net", "arcCount", "I", RX3) (List.mem_of_getElem? (i := 7) rfl))
theorem nf_X2_38 {s : State} {args : Array Value} (h : nx_ok s) : (Cond.fieldLinkNest RX2 38 "BranchPacker$Grove" "roots" "[I" RX3).before args s = true := va_Nw.use rfl (h.1 (RX2, 38, "BranchPacker$Grove", "roots", "[I", RX3) (List.mem_of_getElem? (i := 8) rfl))
theorem nf_X3_34 {s : State} {args : Array Value} (h : nx_ok s) : (Cond.fieldLinkNest RX3 34 "BranchPacker$Grove" "size" "I" RX3).before args s = true := va_Nw.use rfl (h.1 (RX3, 34, "BranchPacker$Grove", "size", "I", RX3) (List.mem_of_getElem? (i := 9) rfl))
theorem nf_X2_32 {s : State} {args : Array Value} (h : nx_ok s) : (Cond.fieldLinkNest RX2 32 "BranchPacker$Grove" "size" "I" RX3).before args s = true := va_Nw.use rfl (h.1 (RX2, 32, "BranchPacker$Grove", "size", "I", RX3) (List.mem_of_getElem? (i := 10) rfl))
theorem nf_X3_89 {s : State} {args : Array Value} (h : nx_ok s) : (Cond.fieldLinkNest RX3 89 "BranchPacker$Packing" "owners" "[I" RX3).before args s = true := va_Nw.use rfl (h.1 (RX3, 89, "BranchPacker$Packing", "owners", "[I", RX3) (List.mem_of_getElem? (i := 11) rfl))
theorem nf_X3_38 {s : State} {args : Array Value} (h : nx_ok s) : (Cond.fieldLinkNest RX3 38 "BranchPacker$Packing" "isStale" "Z" RX3).before args s = true := va_Nw.use rfl (h.1 (RX3, 38, "BranchPacker$Packing", "isStale", "Z", RX3) (List.mem_of_getElem? (i := 12) rfl))
theorem nm_X3_9 {s : State} (h : nx_ok s) : va_Nw (.methodLinkNest RX3 9 yX1_init RX3) s := h.2 (RX3, 9, yX1_init, RX3) (List.mem_of_getElem? (i := 0) rfl)
theorem nm_X3_18 {s : State} (h : nx_ok s) : va_Nw (.methodLinkNest RX3 18 yX0_init RX3) s := h.2 (RX3, 18, yX0_init, RX3) (List.mem_of_getElem? (i := 1) rfl)
theorem nm_X3_25 {s : State} (h : nx_ok s) : va_Nw (.methodLinkNest RX3 25 yX2_init RX3) s := h.2 (RX3, 25, yX2_init, RX3) (List.mem_of_getElem? (i := 2) rfl)
