def RX0 : String := "CallFrames"
def RX1 : String := "CallFramesModel"
def RL : String := "CallFramesLaw"
def RJ0 : String := "java/lang/Integer"
def TX0 : u_T := fun k => match k with
  | 0 => ("CallFrames", "kinds", "[I", true)
  | 1 => ("CallFrames", "homes", "[I", true)
  | 2 => ("CallFrames", "bytes", "[I", true)
  | 3 => ("CallFrames", "count", "I", false)
  | 4 => ("CallFrames", "result", "I", false)
  | 5 => ("CallFrames", "open", "Z", false)
  | 6 => ("CallFrames", "end", "I", false)
  | 7 => ("CallFrames", "calls", "I", false)
  | 8 => ("CallFrames", "greatestArea", "I", false)
  | 9 => ("CallFrames", "localsPlace", "I", false)
  | 10 => ("CallFrames", "fractionsPlace", "I", false)
  | 11 => ("CallFrames", "generalPlace", "I", false)
  | 12 => ("CallFrames", "savedGeneral", "I", false)
  | _ => ("CallFrames", "savedFractions", "I", false)
def tyX0 : Nat → FieldType := fun k => match k with
  | 0 => .array .int
  | 1 => .array .int
  | 2 => .array .int
  | 3 => .int
  | 4 => .int
  | 5 => .boolean
  | 6 => .int
  | 7 => .int
  | 8 => .int
  | 9 => .int
  | 10 => .int
  | 11 => .int
  | 12 => .int
  | _ => .int
abbrev wsX00 : List Cond := u_ws RX0 TX0 14
theorem nmX0 : ∀ a, a < 14 → ∀ b, b < 14 → a ≠ b → (TX0 a).2.1 ≠ (TX0 b).2.1 := by decide +kernel
theorem tyX0_ok : ∀ k, k < 14 → parseFieldDescriptor (TX0 k).2.2.1 = some (tyX0 k) := by decide +kernel
def TX1 : u_T := fun k => match k with
  | 0 => ("CallFramesModel", "thrown", "I", false)
  | 1 => ("CallFramesModel", "result", "I", false)
  | 2 => ("CallFramesModel", "arguments", "I", false)
  | 3 => ("CallFramesModel", "calls", "I", false)
  | 4 => ("CallFramesModel", "greatest", "I", false)
  | 5 => ("CallFramesModel", "laidGeneral", "I", false)
  | 6 => ("CallFramesModel", "laidFractions", "I", false)
  | 7 => ("CallFramesModel", "laidLocals", "I", false)
  | 8 => ("CallFramesModel", "laidArea", "I", false)
  | 9 => ("CallFramesModel", "open", "Z", false)
  | 10 => ("CallFramesModel", "kinds", "[I", true)
  | 11 => ("CallFramesModel", "sizes", "[I", true)
  | _ => ("CallFramesModel", "alignments", "[I", true)
def tyX1 : Nat → FieldType := fun k => match k with
  | 0 => .int
  | 1 => .int
  | 2 => .int
  | 3 => .int
  | 4 => .int
  | 5 => .int
  | 6 => .int
  | 7 => .int
  | 8 => .int
  | 9 => .boolean
  | 10 => .array .int
  | 11 => .array .int
  | _ => .array .int
abbrev wsX10 : List Cond := u_ws RX1 TX1 13
theorem nmX1 : ∀ a, a < 13 → ∀ b, b < 13 → a ≠ b → (TX1 a).2.1 ≠ (TX1 b).2.1 := by decide +kernel
theorem tyX1_ok : ∀ k, k < 13 → parseFieldDescriptor (TX1 k).2.2.1 = some (tyX1 k) := by decide +kernel
abbrev cX0_init : ByteArray := prog_1_method_1_code
def yX0_init : MethodName := ⟨RX0, "<init>", "()V"⟩
abbrev cX0_call : ByteArray := prog_1_method_7_code
def yX0_call : MethodName := ⟨RX0, "call", "()I"⟩
abbrev cX0_areaSize : ByteArray := prog_1_method_24_code
def yX0_areaSize : MethodName := ⟨RX0, "areaSize", "()I"⟩
abbrev cX0_fill : ByteArray := prog_1_method_12_code
def yX0_fill : MethodName := ⟨RX0, "fill", "(II)I"⟩
abbrev cX0_clear : ByteArray := prog_1_method_10_code
def yX0_clear : MethodName := ⟨RX0, "clear", "()I"⟩
abbrev cL_begin : ByteArray := method_3_code
def yL_begin : MethodName := ⟨RL, "begin", "(LCallFrames;IIIZ)I"⟩
abbrev cX0_begin : ByteArray := prog_1_method_2_code
def yX0_begin : MethodName := ⟨RX0, "begin", "(IIIZ)V"⟩
abbrev cX0_isRecord : ByteArray := prog_1_method_11_code
def yX0_isRecord : MethodName := ⟨RX0, "isRecord", "(II)Z"⟩
abbrev cL_add : ByteArray := method_4_code
def yL_add : MethodName := ⟨RL, "add", "(LCallFrames;III[J)I"⟩
abbrev cX0_add : ByteArray := prog_1_method_3_code
def yX0_add : MethodName := ⟨RX0, "add", "(III)I"⟩
abbrev cX0_bytesOf : ByteArray := prog_1_method_13_code
def yX0_bytesOf : MethodName := ⟨RX0, "bytesOf", "(II)I"⟩
abbrev cX0_homeAlignment : ByteArray := prog_1_method_14_code
def yX0_homeAlignment : MethodName := ⟨RX0, "homeAlignment", "(II)I"⟩
abbrev cL_where : ByteArray := method_5_code
def yL_where : MethodName := ⟨RL, "where", "(LCallFrames;II[J)I"⟩
abbrev cX0_where : ByteArray := prog_1_method_4_code
def yX0_where : MethodName := ⟨RX0, "where", "(II)I"⟩
abbrev cX0_isArgument : ByteArray := prog_1_method_15_code
def yX0_isArgument : MethodName := ⟨RX0, "isArgument", "(I)Z"⟩
abbrev cX0_isAdded : ByteArray := prog_1_method_16_code
def yX0_isAdded : MethodName := ⟨RX0, "isAdded", "(I)Z"⟩
abbrev cX0_wordsAt : ByteArray := prog_1_method_19_code
def yX0_wordsAt : MethodName := ⟨RX0, "wordsAt", "(I)I"⟩
abbrev cX0_bytesAt : ByteArray := prog_1_method_18_code
def yX0_bytesAt : MethodName := ⟨RX0, "bytesAt", "(I)I"⟩
abbrev cX0_isInFraction : ByteArray := prog_1_method_21_code
def yX0_isInFraction : MethodName := ⟨RX0, "isInFraction", "(I)Z"⟩
abbrev cX0_isFractional : ByteArray := prog_1_method_20_code
def yX0_isFractional : MethodName := ⟨RX0, "isFractional", "(I)Z"⟩
abbrev cX0_fractionOf : ByteArray := prog_1_method_22_code
def yX0_fractionOf : MethodName := ⟨RX0, "fractionOf", "(II)I"⟩
abbrev cX0_homeAt : ByteArray := prog_1_method_17_code
def yX0_homeAt : MethodName := ⟨RX0, "homeAt", "(I)I"⟩
abbrev cX0_registerOrMemory : ByteArray := prog_1_method_23_code
def yX0_registerOrMemory : MethodName := ⟨RX0, "registerOrMemory", "(I)I"⟩
abbrev cL_about : ByteArray := method_6_code
def yL_about : MethodName := ⟨RL, "about", "(LCallFrames;II[J)I"⟩
abbrev cX0_about : ByteArray := prog_1_method_5_code
def yX0_about : MethodName := ⟨RX0, "about", "(II)I"⟩
abbrev cL_signature : ByteArray := method_7_code
def yL_signature : MethodName := ⟨RL, "signature", "(LCallFrames;I[J)I"⟩
abbrev cX0_signature : ByteArray := prog_1_method_6_code
def yX0_signature : MethodName := ⟨RX0, "signature", "(I)I"⟩
abbrev cX0_resultPlace : ByteArray := prog_1_method_25_code
def yX0_resultPlace : MethodName := ⟨RX0, "resultPlace", "()I"⟩
abbrev cL_frame : ByteArray := method_8_code
def yL_frame : MethodName := ⟨RL, "frame", "(LCallFrames;III[J)I"⟩
abbrev cX0_frame : ByteArray := prog_1_method_8_code
def yX0_frame : MethodName := ⟨RX0, "frame", "(III)I"⟩
abbrev cJ0_bitCount : ByteArray := prog_8_method_49_code
def yJ0_bitCount : MethodName := ⟨RJ0, "bitCount", "(I)I"⟩
abbrev cL_place : ByteArray := method_9_code
def yL_place : MethodName := ⟨RL, "place", "(LCallFrames;II[J)I"⟩
abbrev cX0_place : ByteArray := prog_1_method_9_code
def yX0_place : MethodName := ⟨RX0, "place", "(II)I"⟩
abbrev cX0_savedPlace : ByteArray := prog_1_method_26_code
def yX0_savedPlace : MethodName := ⟨RX0, "savedPlace", "(IIII)I"⟩
abbrev cX1_init : ByteArray := prog_3_method_1_code
def yX1_init : MethodName := ⟨RX1, "<init>", "()V"⟩
abbrev cX1_thrown : ByteArray := prog_3_method_2_code
def yX1_thrown : MethodName := ⟨RX1, "thrown", "()I"⟩
abbrev cX1_begin : ByteArray := prog_3_method_5_code
def yX1_begin : MethodName := ⟨RX1, "begin", "(IIIZ)V"⟩
abbrev cX1_isGood : ByteArray := prog_3_method_4_code
def yX1_isGood : MethodName := ⟨RX1, "isGood", "(IIII)Z"⟩
abbrev cX1_add : ByteArray := prog_3_method_10_code
def yX1_add : MethodName := ⟨RX1, "add", "(III)I"⟩
abbrev cX1_fail : ByteArray := prog_3_method_3_code
def yX1_fail : MethodName := ⟨RX1, "fail", "(I)I"⟩
abbrev cX1_home : ByteArray := prog_3_method_9_code
def yX1_home : MethodName := ⟨RX1, "home", "(I)I"⟩
abbrev cX1_isWide : ByteArray := prog_3_method_8_code
def yX1_isWide : MethodName := ⟨RX1, "isWide", "(I)Z"⟩
abbrev cX1_filled : ByteArray := prog_3_method_6_code
def yX1_filled : MethodName := ⟨RX1, "filled", "(II)I"⟩
abbrev cX1_bytes : ByteArray := prog_3_method_7_code
def yX1_bytes : MethodName := ⟨RX1, "bytes", "(I)I"⟩
abbrev cX1_where : ByteArray := prog_3_method_14_code
def yX1_where : MethodName := ⟨RX1, "where", "(II)I"⟩
abbrev cX1_isThere : ByteArray := prog_3_method_11_code
def yX1_isThere : MethodName := ⟨RX1, "isThere", "(I)Z"⟩
abbrev cX1_words : ByteArray := prog_3_method_12_code
def yX1_words : MethodName := ⟨RX1, "words", "(I)I"⟩
abbrev cX1_isFraction : ByteArray := prog_3_method_13_code
def yX1_isFraction : MethodName := ⟨RX1, "isFraction", "(I)Z"⟩
abbrev cX1_about : ByteArray := prog_3_method_15_code
def yX1_about : MethodName := ⟨RX1, "about", "(II)I"⟩
abbrev cX1_signature : ByteArray := prog_3_method_17_code
def yX1_signature : MethodName := ⟨RX1, "signature", "(I)I"⟩
abbrev cX1_area : ByteArray := prog_3_method_16_code
def yX1_area : MethodName := ⟨RX1, "area", "()I"⟩
abbrev cX1_call : ByteArray := prog_3_method_18_code
def yX1_call : MethodName := ⟨RX1, "call", "()I"⟩
abbrev cX1_frame : ByteArray := prog_3_method_22_code
def yX1_frame : MethodName := ⟨RX1, "frame", "(III)I"⟩
abbrev cX1_generalAt : ByteArray := prog_3_method_21_code
def yX1_generalAt : MethodName := ⟨RX1, "generalAt", "()I"⟩
abbrev cX1_fractionsAt : ByteArray := prog_3_method_20_code
def yX1_fractionsAt : MethodName := ⟨RX1, "fractionsAt", "()I"⟩
abbrev cX1_saved : ByteArray := prog_3_method_19_code
def yX1_saved : MethodName := ⟨RX1, "saved", "(III)I"⟩
abbrev cX1_place : ByteArray := prog_3_method_23_code
def yX1_place : MethodName := ⟨RX1, "place", "(II)I"⟩
abbrev cX1_clear : ByteArray := prog_3_method_24_code
def yX1_clear : MethodName := ⟨RX1, "clear", "()I"⟩
abbrev cL_law : ByteArray := code
abbrev vwCl : List vw_C := [(RX0, TX0, 14), (RX1, TX1, 13)]
/-- the good words of the tables: one list for all methods -/
def wG : List Cond := lw_tbl.filter goodWord
theorem wd_in {w : Cond} (i : Nat) (h : lw_tbl[i]? = some w) (g : goodWord w = true) : w ∈ wG := List.mem_filter.mpr ⟨List.mem_of_getElem? h, g⟩
theorem wG_good : ∀ w ∈ wG, (w.onTables && w.keeps) = true ∨ ∃ ty, w = .arrayClass ty := fun w h => good_of_word (List.mem_filter.mp h).2
theorem wG_sub {Ts : List Cond} (h : ∀ w ∈ Ts, w ∈ wG) : GoodIn wG Ts := fun w hw => ⟨h w hw, wG_good w (h w hw)⟩
theorem wG_c {b : Cond} (hb : b ∈ wG) : ∀ w ∈ b :: wG, w ∈ wG := fun w h => (List.mem_cons.mp h).elim (fun e => by rw [e]; exact hb) id
theorem wG_I {b : Cond} (hb : b ∈ wG) : GoodIn wG (b :: wG) := wG_sub (wG_c hb)
theorem wG_V {b : Cond} {own C : String} {idx : Nat} {y : MethodName} (h1 : .methodLink own idx y ∈ wG) (h2 : .instanceMethod y ∈ wG) (h3 : .selects C y y ∈ wG) (h4 : .initialized C ∈ wG) (hb : b ∈ wG) : GoodIn wG (wsV own idx C y (b :: wG)) := wG_sub (fun w h => by
  unfold wsV at h
  rcases List.mem_append.mp h with h | h
  · simp only [List.mem_cons, List.not_mem_nil, or_false] at h
    rcases h with h | h | h | h <;> rw [h] <;> assumption
  · exact wG_c hb w h)
theorem wG_S {b : Cond} {own : String} {idx : Nat} {y : MethodName} (h1 : .methodLink own idx y ∈ wG) (h2 : .static y ∈ wG) (h4 : .initialized y.cls ∈ wG) (hb : b ∈ wG) : GoodIn wG (va_wsS own idx y (b :: wG)) := wG_sub (fun w h => by
  unfold va_wsS at h
  rcases List.mem_append.mp h with h | h
  · simp only [List.mem_cons, List.not_mem_nil, or_false] at h
    rcases h with h | h | h <;> rw [h] <;> assumption
  · exact wG_c hb w h)
theorem inX0 : ∀ w ∈ wsX00, w ∈ wG := by decide +kernel
theorem inX1 : ∀ w ∈ wsX10, w ∈ wG := by decide +kernel
