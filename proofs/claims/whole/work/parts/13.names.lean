/-! names: classes, fields, methods; one list of words for all methods: the good ones of the tables -/
def tb_W : List Cond := lw_tbl.filter goodWord
theorem tb_in {w : Cond} (h : w ∈ tables_1) (g : goodWord w = true) : w ∈ tb_W := List.mem_filter.mpr ⟨List.mem_append_right _ h, g⟩
theorem tb_sel {w : Cond} (h : w ∈ k2_sels lw_privs) (g : goodWord w = true) : w ∈ tb_W := List.mem_filter.mpr ⟨List.mem_append_left _ h, g⟩
theorem tb_good {w : Cond} (h : w ∈ tb_W) : (w.onTables && w.keeps) = true ∨ ∃ ty, w = .arrayClass ty := good_of_word (List.mem_filter.mp h).2
theorem ub_I {c c' : Cond} (h : c' ∈ tb_W) : GoodIn (c :: tb_W) (c' :: tb_W) := by
  intro w hw
  rcases List.mem_cons.mp hw with rfl | hw
  · exact ⟨List.mem_cons_of_mem _ h, tb_good h⟩
  · exact ⟨List.mem_cons_of_mem _ hw, tb_good hw⟩
theorem ub_V {c c' : Cond} {own C : String} {idx : Nat} {y : MethodName} (h1 : Cond.methodLink own idx y ∈ tb_W) (h2 : Cond.instanceMethod y ∈ tb_W) (h3 : Cond.selects C y y ∈ tb_W) (h4 : Cond.initialized C ∈ tb_W) (h5 : c' ∈ tb_W) : GoodIn (c :: tb_W) (wsV own idx C y (c' :: tb_W)) := by
  intro w hw
  unfold wsV at hw
  rcases List.mem_append.mp hw with hw | hw
  · have : w ∈ tb_W := by
      rcases List.mem_cons.mp hw with rfl | hw
      · exact h1
      rcases List.mem_cons.mp hw with rfl | hw
      · exact h2
      rcases List.mem_cons.mp hw with rfl | hw
      · exact h3
      rcases List.mem_cons.mp hw with rfl | hw
      · exact h4
      cases hw
    exact ⟨List.mem_cons_of_mem _ this, tb_good this⟩
  · exact ub_I h5 w hw
theorem ub_S {c c' : Cond} {own : String} {idx : Nat} {y : MethodName} (h1 : Cond.methodLink own idx y ∈ tb_W) (h2 : Cond.static y ∈ tb_W) (h4 : Cond.initialized y.cls ∈ tb_W) (h5 : c' ∈ tb_W) : GoodIn (c :: tb_W) (va_wsS own idx y (c' :: tb_W)) := by
  intro w hw
  unfold va_wsS at hw
  rcases List.mem_append.mp hw with hw | hw
  · have : w ∈ tb_W := by
      rcases List.mem_cons.mp hw with rfl | hw
      · exact h1
      rcases List.mem_cons.mp hw with rfl | hw
      · exact h2
      rcases List.mem_cons.mp hw with rfl | hw
      · exact h4
      cases hw
    exact ⟨List.mem_cons_of_mem _ this, tb_good this⟩
  · exact ub_I h5 w hw
abbrev RX0 : String := "SpanDesk$Assembly"
def TX0 : u_T := fun k => match k with
  | 0 => ("SpanDesk$Assembly", "source", "LSpanDesk$Program;", true)
  | 1 => ("SpanDesk$Assembly", "starts", "[I", true)
  | 2 => ("SpanDesk$Assembly", "forms", "[I", true)
  | _ => ("SpanDesk$Assembly", "values", "[I", true)
def tyX0 : Nat → FieldType := fun k => match k with
  | 0 => .object "SpanDesk$Program"
  | 1 => .array .int
  | 2 => .array .int
  | _ => .array .int
theorem nmX0 : ∀ a, a < 4 → ∀ b, b < 4 → a ≠ b → (TX0 a).2.1 ≠ (TX0 b).2.1 := by decide +kernel
theorem tyX0_ok : ∀ k, k < 4 → parseFieldDescriptor (TX0 k).2.2.1 = some (tyX0 k) := by decide +kernel
theorem inX0 : ∀ w ∈ u_ws RX0 TX0 4, w ∈ tb_W := by decide +kernel
abbrev RX1 : String := "SpanDesk$Program"
def TX1 : u_T := fun k => match k with
  | 0 => ("SpanDesk$Program", "kinds", "[I", true)
  | 1 => ("SpanDesk$Program", "firsts", "[I", true)
  | 2 => ("SpanDesk$Program", "seconds", "[I", true)
  | _ => ("SpanDesk$Program", "count", "I", false)
def tyX1 : Nat → FieldType := fun k => match k with
  | 0 => .array .int
  | 1 => .array .int
  | 2 => .array .int
  | _ => .int
theorem nmX1 : ∀ a, a < 4 → ∀ b, b < 4 → a ≠ b → (TX1 a).2.1 ≠ (TX1 b).2.1 := by decide +kernel
theorem tyX1_ok : ∀ k, k < 4 → parseFieldDescriptor (TX1 k).2.2.1 = some (tyX1 k) := by decide +kernel
theorem inX1 : ∀ w ∈ u_ws RX1 TX1 4, w ∈ tb_W := by decide +kernel
abbrev RX2 : String := "SpanDesk"
def TX2 : u_T := fun k => match k with
  | 0 => ("SpanDesk", "program", "LSpanDesk$Program;", true)
  | _ => ("SpanDesk", "assembly", "LSpanDesk$Assembly;", true)
def tyX2 : Nat → FieldType := fun k => match k with
  | 0 => .object "SpanDesk$Program"
  | _ => .object "SpanDesk$Assembly"
theorem nmX2 : ∀ a, a < 2 → ∀ b, b < 2 → a ≠ b → (TX2 a).2.1 ≠ (TX2 b).2.1 := by decide +kernel
theorem tyX2_ok : ∀ k, k < 2 → parseFieldDescriptor (TX2 k).2.2.1 = some (tyX2 k) := by decide +kernel
theorem inX2 : ∀ w ∈ u_ws RX2 TX2 2, w ∈ tb_W := by decide +kernel
abbrev RX3 : String := "SpanDeskModel"
def TX3 : u_T := fun k => match k with
  | 0 => ("SpanDeskModel", "thrown", "I", false)
  | 1 => ("SpanDeskModel", "lines", "I", false)
  | 2 => ("SpanDeskModel", "kind", "[I", true)
  | 3 => ("SpanDeskModel", "a", "[I", true)
  | 4 => ("SpanDeskModel", "b", "[I", true)
  | 5 => ("SpanDeskModel", "made", "I", false)
  | 6 => ("SpanDeskModel", "madeKind", "[I", true)
  | 7 => ("SpanDeskModel", "madeA", "[I", true)
  | 8 => ("SpanDeskModel", "madeB", "[I", true)
  | 9 => ("SpanDeskModel", "size", "[I", true)
  | _ => ("SpanDeskModel", "bytes", "I", false)
def tyX3 : Nat → FieldType := fun k => match k with
  | 0 => .int
  | 1 => .int
  | 2 => .array .int
  | 3 => .array .int
  | 4 => .array .int
  | 5 => .int
  | 6 => .array .int
  | 7 => .array .int
  | 8 => .array .int
  | 9 => .array .int
  | _ => .int
theorem nmX3 : ∀ a, a < 11 → ∀ b, b < 11 → a ≠ b → (TX3 a).2.1 ≠ (TX3 b).2.1 := by decide +kernel
theorem tyX3_ok : ∀ k, k < 11 → parseFieldDescriptor (TX3 k).2.2.1 = some (tyX3 k) := by decide +kernel
theorem inX3 : ∀ w ∈ u_ws RX3 TX3 11, w ∈ tb_W := by decide +kernel
abbrev RJ7 : String := "java/util/Arrays"
abbrev RL : String := "SpanDeskLaw"
abbrev vwCl : List vw_C := [(RX0, TX0, 4), (RX1, TX1, 4), (RX2, TX2, 2), (RX3, TX3, 11)]
abbrev cX2_init : ByteArray := prog_1_method_1_code
abbrev yX2_init : MethodName := ⟨"SpanDesk", "<init>", "()V"⟩
abbrev wsX2_init : List Cond := Cond.code yX2_init cX2_init 1 none :: tb_W
abbrev cX1_init : ByteArray := prog_3_method_1_code
abbrev yX1_init : MethodName := ⟨"SpanDesk$Program", "<init>", "()V"⟩
abbrev wsX1_init : List Cond := Cond.code yX1_init cX1_init 1 none :: tb_W
abbrev cX0_init : ByteArray := prog_2_method_1_code
abbrev yX0_init : MethodName := ⟨"SpanDesk$Assembly", "<init>", "()V"⟩
abbrev wsX0_init : List Cond := Cond.code yX0_init cX0_init 1 none :: tb_W
abbrev cJ7_fill : ByteArray := prog_14_method_103_code
abbrev yJ7_fill : MethodName := ⟨"java/util/Arrays", "fill", "([II)V"⟩
abbrev wsJ7_fill : List Cond := Cond.code yJ7_fill cJ7_fill 4 none :: tb_W
abbrev cX2_insert : ByteArray := prog_1_method_2_code
abbrev yX2_insert : MethodName := ⟨"SpanDesk", "insert", "(IIII)Z"⟩
abbrev wsX2_insert : List Cond := Cond.code yX2_insert cX2_insert 5 (some .boolean) :: tb_W
abbrev cX2_isLine : ByteArray := prog_1_method_14_code
abbrev yX2_isLine : MethodName := ⟨"SpanDesk", "isLine", "(III)Z"⟩
abbrev wsX2_isLine : List Cond := Cond.code yX2_isLine cX2_isLine 3 (some .boolean) :: tb_W
abbrev cX2_isLabel : ByteArray := prog_1_method_15_code
abbrev yX2_isLabel : MethodName := ⟨"SpanDesk", "isLabel", "(I)Z"⟩
abbrev wsX2_isLabel : List Cond := Cond.code yX2_isLabel cX2_isLabel 1 (some .boolean) :: tb_W
abbrev cX2_isWithin : ByteArray := prog_1_method_16_code
abbrev yX2_isWithin : MethodName := ⟨"SpanDesk", "isWithin", "(III)Z"⟩
abbrev wsX2_isWithin : List Cond := Cond.code yX2_isWithin cX2_isWithin 3 (some .boolean) :: tb_W
abbrev cX1_open : ByteArray := prog_3_method_3_code
abbrev yX1_open : MethodName := ⟨"SpanDesk$Program", "open", "(IIII)Z"⟩
abbrev wsX1_open : List Cond := Cond.code yX1_open cX1_open 5 (some .boolean) :: tb_W
abbrev cX1_shift : ByteArray := prog_3_method_5_code
abbrev yX1_shift : MethodName := ⟨"SpanDesk$Program", "shift", "(III)V"⟩
abbrev wsX1_shift : List Cond := Cond.code yX1_shift cX1_shift 4 none :: tb_W
abbrev cX2_remove : ByteArray := prog_1_method_3_code
abbrev yX2_remove : MethodName := ⟨"SpanDesk", "remove", "(I)Z"⟩
abbrev wsX2_remove : List Cond := Cond.code yX2_remove cX2_remove 2 (some .boolean) :: tb_W
abbrev cX1_close : ByteArray := prog_3_method_4_code
abbrev yX1_close : MethodName := ⟨"SpanDesk$Program", "close", "(I)Z"⟩
abbrev wsX1_close : List Cond := Cond.code yX1_close cX1_close 2 (some .boolean) :: tb_W
abbrev cX1_has : ByteArray := prog_3_method_2_code
abbrev yX1_has : MethodName := ⟨"SpanDesk$Program", "has", "(I)Z"⟩
abbrev wsX1_has : List Cond := Cond.code yX1_has cX1_has 2 (some .boolean) :: tb_W
abbrev cX2_lines : ByteArray := prog_1_method_4_code
abbrev yX2_lines : MethodName := ⟨"SpanDesk", "lines", "()I"⟩
abbrev wsX2_lines : List Cond := Cond.code yX2_lines cX2_lines 1 (some .int) :: tb_W
abbrev cX2_at : ByteArray := prog_1_method_6_code
abbrev yX2_at : MethodName := ⟨"SpanDesk", "at", "(I)I"⟩
abbrev wsX2_at : List Cond := Cond.code yX2_at cX2_at 2 (some .int) :: tb_W
abbrev cX0_byteAt : ByteArray := prog_2_method_10_code
abbrev yX0_byteAt : MethodName := ⟨"SpanDesk$Assembly", "byteAt", "(I)I"⟩
abbrev wsX0_byteAt : List Cond := Cond.code yX0_byteAt cX0_byteAt 3 (some .int) :: tb_W
abbrev cX0_lineByte : ByteArray := prog_2_method_11_code
abbrev yX0_lineByte : MethodName := ⟨"SpanDesk$Assembly", "lineByte", "(II)I"⟩
abbrev wsX0_lineByte : List Cond := Cond.code yX0_lineByte cX0_lineByte 4 (some .int) :: tb_W
abbrev cX0_pairByte : ByteArray := prog_2_method_15_code
abbrev yX0_pairByte : MethodName := ⟨"SpanDesk$Assembly", "pairByte", "(II)I"⟩
abbrev wsX0_pairByte : List Cond := Cond.code yX0_pairByte cX0_pairByte 2 (some .int) :: tb_W
abbrev cX0_longByte : ByteArray := prog_2_method_13_code
abbrev yX0_longByte : MethodName := ⟨"SpanDesk$Assembly", "longByte", "(II)I"⟩
abbrev wsX0_longByte : List Cond := Cond.code yX0_longByte cX0_longByte 4 (some .int) :: tb_W
abbrev cX0_lineSize : ByteArray := prog_2_method_7_code
abbrev yX0_lineSize : MethodName := ⟨"SpanDesk$Assembly", "lineSize", "(I)I"⟩
abbrev wsX0_lineSize : List Cond := Cond.code yX0_lineSize cX0_lineSize 3 (some .int) :: tb_W
abbrev cX0_oppositeCode : ByteArray := prog_2_method_14_code
abbrev yX0_oppositeCode : MethodName := ⟨"SpanDesk$Assembly", "oppositeCode", "(I)I"⟩
abbrev wsX0_oppositeCode : List Cond := Cond.code yX0_oppositeCode cX0_oppositeCode 2 (some .int) :: tb_W
abbrev cX0_distance : ByteArray := prog_2_method_8_code
abbrev yX0_distance : MethodName := ⟨"SpanDesk$Assembly", "distance", "(I)I"⟩
abbrev wsX0_distance : List Cond := Cond.code yX0_distance cX0_distance 2 (some .int) :: tb_W
abbrev cX0_shortByte : ByteArray := prog_2_method_12_code
abbrev yX0_shortByte : MethodName := ⟨"SpanDesk$Assembly", "shortByte", "(II)I"⟩
abbrev wsX0_shortByte : List Cond := Cond.code yX0_shortByte cX0_shortByte 3 (some .int) :: tb_W
abbrev cX2_address : ByteArray := prog_1_method_7_code
abbrev yX2_address : MethodName := ⟨"SpanDesk", "address", "(I)I"⟩
abbrev wsX2_address : List Cond := Cond.code yX2_address cX2_address 2 (some .int) :: tb_W
abbrev cX2_form : ByteArray := prog_1_method_8_code
abbrev yX2_form : MethodName := ⟨"SpanDesk", "form", "(I)I"⟩
abbrev wsX2_form : List Cond := Cond.code yX2_form cX2_form 2 (some .int) :: tb_W
abbrev cX2_longs : ByteArray := prog_1_method_9_code
abbrev yX2_longs : MethodName := ⟨"SpanDesk", "longs", "()I"⟩
abbrev wsX2_longs : List Cond := Cond.code yX2_longs cX2_longs 1 (some .int) :: tb_W
abbrev cX0_countLong : ByteArray := prog_2_method_9_code
abbrev yX0_countLong : MethodName := ⟨"SpanDesk$Assembly", "countLong", "()I"⟩
abbrev wsX0_countLong : List Cond := Cond.code yX0_countLong cX0_countLong 3 (some .int) :: tb_W
abbrev cX2_value : ByteArray := prog_1_method_10_code
abbrev yX2_value : MethodName := ⟨"SpanDesk", "value", "(I)I"⟩
abbrev wsX2_value : List Cond := Cond.code yX2_value cX2_value 2 (some .int) :: tb_W
abbrev cX2_jumps : ByteArray := prog_1_method_12_code
abbrev yX2_jumps : MethodName := ⟨"SpanDesk", "jumps", "(I)Z"⟩
abbrev wsX2_jumps : List Cond := Cond.code yX2_jumps cX2_jumps 2 (some .boolean) :: tb_W
abbrev cX0_operationSize : ByteArray := prog_2_method_16_code
abbrev yX0_operationSize : MethodName := ⟨"SpanDesk$Assembly", "operationSize", "(I)I"⟩
abbrev wsX0_operationSize : List Cond := Cond.code yX0_operationSize cX0_operationSize 4 (some .int) :: tb_W
abbrev cX0_size : ByteArray := prog_2_method_2_code
abbrev yX0_size : MethodName := ⟨"SpanDesk$Assembly", "size", "()I"⟩
abbrev wsX0_size : List Cond := Cond.code yX0_size cX0_size 1 (some .int) :: tb_W
abbrev cX2_trace : ByteArray := prog_1_method_13_code
abbrev yX2_trace : MethodName := ⟨"SpanDesk", "trace", "(III)I"⟩
abbrev wsX2_trace : List Cond := Cond.code yX2_trace cX2_trace 8 (some .int) :: tb_W
abbrev cX0_goesAlways : ByteArray := prog_2_method_17_code
abbrev yX0_goesAlways : MethodName := ⟨"SpanDesk$Assembly", "goesAlways", "(I)Z"⟩
abbrev wsX0_goesAlways : List Cond := Cond.code yX0_goesAlways cX0_goesAlways 3 (some .boolean) :: tb_W
abbrev cX0_target : ByteArray := prog_2_method_18_code
abbrev yX0_target : MethodName := ⟨"SpanDesk$Assembly", "target", "(II)I"⟩
abbrev wsX0_target : List Cond := Cond.code yX0_target cX0_target 4 (some .int) :: tb_W
abbrev cL_assemble : ByteArray := method_3_code
abbrev yL_assemble : MethodName := ⟨"SpanDeskLaw", "assemble", "(LSpanDesk;[J)I"⟩
abbrev wsL_assemble : List Cond := Cond.codeWith yL_assemble cL_assemble 3 (some .int) [(0, 8, 11, 13), (0, 8, 14, 15)] :: tb_W
abbrev cX2_assemble : ByteArray := prog_1_method_5_code
abbrev yX2_assemble : MethodName := ⟨"SpanDesk", "assemble", "()I"⟩
abbrev wsX2_assemble : List Cond := Cond.code yX2_assemble cX2_assemble 1 (some .int) :: tb_W
abbrev cX1_definesTwice : ByteArray := prog_3_method_7_code
abbrev yX1_definesTwice : MethodName := ⟨"SpanDesk$Program", "definesTwice", "()Z"⟩
abbrev wsX1_definesTwice : List Cond := Cond.code yX1_definesTwice cX1_definesTwice 2 (some .boolean) :: tb_W
abbrev cX1_countDefined : ByteArray := prog_3_method_9_code
abbrev yX1_countDefined : MethodName := ⟨"SpanDesk$Program", "countDefined", "(I)I"⟩
abbrev wsX1_countDefined : List Cond := Cond.code yX1_countDefined cX1_countDefined 4 (some .int) :: tb_W
abbrev cX1_namesUndefined : ByteArray := prog_3_method_8_code
abbrev yX1_namesUndefined : MethodName := ⟨"SpanDesk$Program", "namesUndefined", "()Z"⟩
abbrev wsX1_namesUndefined : List Cond := Cond.code yX1_namesUndefined cX1_namesUndefined 3 (some .boolean) :: tb_W
abbrev cX0_make : ByteArray := prog_2_method_3_code
abbrev yX0_make : MethodName := ⟨"SpanDesk$Assembly", "make", "(LSpanDesk$Program;)V"⟩
abbrev wsX0_make : List Cond := Cond.code yX0_make cX0_make 3 none :: tb_W
abbrev cX1_copyFrom : ByteArray := prog_3_method_6_code
abbrev yX1_copyFrom : MethodName := ⟨"SpanDesk$Program", "copyFrom", "(LSpanDesk$Program;)V"⟩
abbrev wsX1_copyFrom : List Cond := Cond.code yX1_copyFrom cX1_copyFrom 2 none :: tb_W
abbrev cX0_makeAllShort : ByteArray := prog_2_method_4_code
abbrev yX0_makeAllShort : MethodName := ⟨"SpanDesk$Assembly", "makeAllShort", "()V"⟩
abbrev wsX0_makeAllShort : List Cond := Cond.code yX0_makeAllShort cX0_makeAllShort 2 none :: tb_W
abbrev cX0_place : ByteArray := prog_2_method_5_code
abbrev yX0_place : MethodName := ⟨"SpanDesk$Assembly", "place", "()V"⟩
abbrev wsX0_place : List Cond := Cond.code yX0_place cX0_place 3 none :: tb_W
abbrev cX0_lengthen : ByteArray := prog_2_method_6_code
abbrev yX0_lengthen : MethodName := ⟨"SpanDesk$Assembly", "lengthen", "()Z"⟩
abbrev wsX0_lengthen : List Cond := Cond.code yX0_lengthen cX0_lengthen 3 (some .boolean) :: tb_W
abbrev cL_follow : ByteArray := method_4_code
abbrev yL_follow : MethodName := ⟨"SpanDeskLaw", "follow", "(LSpanDesk;IZ[J)I"⟩
abbrev wsL_follow : List Cond := Cond.codeWith yL_follow cL_follow 5 (some .int) [(0, 10, 13, 21)] :: tb_W
abbrev cX2_follow : ByteArray := prog_1_method_11_code
abbrev yX2_follow : MethodName := ⟨"SpanDesk", "follow", "(IZ)I"⟩
abbrev wsX2_follow : List Cond := Cond.code yX2_follow cX2_follow 4 (some .int) :: tb_W
abbrev cX3_init : ByteArray := prog_5_method_1_code
abbrev yX3_init : MethodName := ⟨"SpanDeskModel", "<init>", "()V"⟩
abbrev wsX3_init : List Cond := Cond.code yX3_init cX3_init 1 none :: tb_W
abbrev cX3_thrown : ByteArray := prog_5_method_2_code
abbrev yX3_thrown : MethodName := ⟨"SpanDeskModel", "thrown", "()I"⟩
abbrev wsX3_thrown : List Cond := Cond.code yX3_thrown cX3_thrown 1 (some .int) :: tb_W
abbrev cX3_insert : ByteArray := prog_5_method_5_code
abbrev yX3_insert : MethodName := ⟨"SpanDeskModel", "insert", "(IIII)Z"⟩
abbrev wsX3_insert : List Cond := Cond.code yX3_insert cX3_insert 6 (some .boolean) :: tb_W
abbrev cX3_good : ByteArray := prog_5_method_4_code
abbrev yX3_good : MethodName := ⟨"SpanDeskModel", "good", "(III)Z"⟩
abbrev wsX3_good : List Cond := Cond.code yX3_good cX3_good 3 (some .boolean) :: tb_W
abbrev cX3_in : ByteArray := prog_5_method_3_code
abbrev yX3_in : MethodName := ⟨"SpanDeskModel", "in", "(III)Z"⟩
abbrev wsX3_in : List Cond := Cond.code yX3_in cX3_in 3 (some .boolean) :: tb_W
abbrev cX3_remove : ByteArray := prog_5_method_6_code
abbrev yX3_remove : MethodName := ⟨"SpanDeskModel", "remove", "(I)Z"⟩
abbrev wsX3_remove : List Cond := Cond.code yX3_remove cX3_remove 3 (some .boolean) :: tb_W
abbrev cX3_lines : ByteArray := prog_5_method_7_code
abbrev yX3_lines : MethodName := ⟨"SpanDeskModel", "lines", "()I"⟩
abbrev wsX3_lines : List Cond := Cond.code yX3_lines cX3_lines 1 (some .int) :: tb_W
abbrev cX3_assemble : ByteArray := prog_5_method_13_code
abbrev yX3_assemble : MethodName := ⟨"SpanDeskModel", "assemble", "()I"⟩
abbrev wsX3_assemble : List Cond := Cond.code yX3_assemble cX3_assemble 4 (some .int) :: tb_W
abbrev cX3_wrong : ByteArray := prog_5_method_9_code
abbrev yX3_wrong : MethodName := ⟨"SpanDeskModel", "wrong", "()I"⟩
abbrev wsX3_wrong : List Cond := Cond.code yX3_wrong cX3_wrong 3 (some .int) :: tb_W
abbrev cX3_definitions : ByteArray := prog_5_method_8_code
abbrev yX3_definitions : MethodName := ⟨"SpanDeskModel", "definitions", "(I)I"⟩
abbrev wsX3_definitions : List Cond := Cond.code yX3_definitions cX3_definitions 4 (some .int) :: tb_W
abbrev cX3_span : ByteArray := prog_5_method_12_code
abbrev yX3_span : MethodName := ⟨"SpanDeskModel", "span", "(I)I"⟩
abbrev wsX3_span : List Cond := Cond.code yX3_span cX3_span 2 (some .int) :: tb_W
abbrev cX3_labelled : ByteArray := prog_5_method_11_code
abbrev yX3_labelled : MethodName := ⟨"SpanDeskModel", "labelled", "(I)I"⟩
abbrev wsX3_labelled : List Cond := Cond.code yX3_labelled cX3_labelled 3 (some .int) :: tb_W
abbrev cX3_place : ByteArray := prog_5_method_10_code
abbrev yX3_place : MethodName := ⟨"SpanDeskModel", "place", "(I)I"⟩
abbrev wsX3_place : List Cond := Cond.code yX3_place cX3_place 4 (some .int) :: tb_W
abbrev cX3_at : ByteArray := prog_5_method_16_code
abbrev yX3_at : MethodName := ⟨"SpanDeskModel", "at", "(I)I"⟩
abbrev wsX3_at : List Cond := Cond.code yX3_at cX3_at 2 (some .int) :: tb_W
abbrev cX3_byteAt : ByteArray := prog_5_method_15_code
abbrev yX3_byteAt : MethodName := ⟨"SpanDeskModel", "byteAt", "(I)I"⟩
abbrev wsX3_byteAt : List Cond := Cond.code yX3_byteAt cX3_byteAt 5 (some .int) :: tb_W
abbrev cX3_jumpByte : ByteArray := prog_5_method_14_code
abbrev yX3_jumpByte : MethodName := ⟨"SpanDeskModel", "jumpByte", "(II)I"⟩
abbrev wsX3_jumpByte : List Cond := Cond.code yX3_jumpByte cX3_jumpByte 7 (some .int) :: tb_W
abbrev cX3_address : ByteArray := prog_5_method_17_code
abbrev yX3_address : MethodName := ⟨"SpanDeskModel", "address", "(I)I"⟩
abbrev wsX3_address : List Cond := Cond.code yX3_address cX3_address 2 (some .int) :: tb_W
abbrev cX3_form : ByteArray := prog_5_method_18_code
abbrev yX3_form : MethodName := ⟨"SpanDeskModel", "form", "(I)I"⟩
abbrev wsX3_form : List Cond := Cond.code yX3_form cX3_form 2 (some .int) :: tb_W
abbrev cX3_longs : ByteArray := prog_5_method_19_code
abbrev yX3_longs : MethodName := ⟨"SpanDeskModel", "longs", "()I"⟩
abbrev wsX3_longs : List Cond := Cond.code yX3_longs cX3_longs 3 (some .int) :: tb_W
abbrev cX3_value : ByteArray := prog_5_method_20_code
abbrev yX3_value : MethodName := ⟨"SpanDeskModel", "value", "(I)I"⟩
abbrev wsX3_value : List Cond := Cond.code yX3_value cX3_value 2 (some .int) :: tb_W
abbrev cX3_follow : ByteArray := prog_5_method_23_code
abbrev yX3_follow : MethodName := ⟨"SpanDeskModel", "follow", "(IZ)I"⟩
abbrev wsX3_follow : List Cond := Cond.code yX3_follow cX3_follow 3 (some .int) :: tb_W
abbrev cX3_length : ByteArray := prog_5_method_21_code
abbrev yX3_length : MethodName := ⟨"SpanDeskModel", "length", "(I)I"⟩
abbrev wsX3_length : List Cond := Cond.code yX3_length cX3_length 4 (some .int) :: tb_W
abbrev cX3_next : ByteArray := prog_5_method_22_code
abbrev yX3_next : MethodName := ⟨"SpanDeskModel", "next", "(IZ)I"⟩
abbrev wsX3_next : List Cond := Cond.code yX3_next cX3_next 7 (some .int) :: tb_W
abbrev cX3_jumps : ByteArray := prog_5_method_24_code
abbrev yX3_jumps : MethodName := ⟨"SpanDeskModel", "jumps", "(I)Z"⟩
abbrev wsX3_jumps : List Cond := Cond.code yX3_jumps cX3_jumps 2 (some .boolean) :: tb_W
abbrev cX3_trace : ByteArray := prog_5_method_25_code
abbrev yX3_trace : MethodName := ⟨"SpanDeskModel", "trace", "(III)I"⟩
abbrev wsX3_trace : List Cond := Cond.code yX3_trace cX3_trace 8 (some .int) :: tb_W
theorem tm_0 : Cond.initialized "SpanDeskLaw" ∈ tb_W := tb_in (List.mem_of_getElem? (i := 0) (by decide +kernel)) (by decide +kernel)
theorem tm_1 : Cond.initialized "SpanDesk" ∈ tb_W := tb_in (List.mem_of_getElem? (i := 1) (by decide +kernel)) (by decide +kernel)
theorem tm_2 : Cond.initialized "SpanDesk$Program" ∈ tb_W := tb_in (List.mem_of_getElem? (i := 2) (by decide +kernel)) (by decide +kernel)
theorem tm_3 : Cond.initialized "SpanDesk$Assembly" ∈ tb_W := tb_in (List.mem_of_getElem? (i := 3) (by decide +kernel)) (by decide +kernel)
theorem tm_4 : Cond.initialized "java/util/Arrays" ∈ tb_W := tb_in (List.mem_of_getElem? (i := 4) (by decide +kernel)) (by decide +kernel)
theorem tm_5 : Cond.initialized "SpanDeskModel" ∈ tb_W := tb_in (List.mem_of_getElem? (i := 5) (by decide +kernel)) (by decide +kernel)
theorem tm_6 : Cond.initialized "java/lang/System" ∈ tb_W := tb_in (List.mem_of_getElem? (i := 6) (by decide +kernel)) (by decide +kernel)
theorem tm_7 : Cond.initialized "java/lang/Throwable" ∈ tb_W := tb_in (List.mem_of_getElem? (i := 7) (by decide +kernel)) (by decide +kernel)
theorem tm_8 : Cond.initialized "java/lang/Exception" ∈ tb_W := tb_in (List.mem_of_getElem? (i := 8) (by decide +kernel)) (by decide +kernel)
theorem tm_9 : Cond.initialized "java/lang/RuntimeException" ∈ tb_W := tb_in (List.mem_of_getElem? (i := 9) (by decide +kernel)) (by decide +kernel)
theorem tm_10 : Cond.initialized "java/lang/IllegalArgumentException" ∈ tb_W := tb_in (List.mem_of_getElem? (i := 10) (by decide +kernel)) (by decide +kernel)
theorem tm_11 : Cond.initialized "java/lang/IllegalStateException" ∈ tb_W := tb_in (List.mem_of_getElem? (i := 11) (by decide +kernel)) (by decide +kernel)
theorem tm_12 : Cond.initialized "java/lang/IndexOutOfBoundsException" ∈ tb_W := tb_in (List.mem_of_getElem? (i := 12) (by decide +kernel)) (by decide +kernel)
theorem tm_13 : Cond.classLink "SpanDeskLaw" 8 "SpanDesk" ∈ tb_W := tb_in (List.mem_of_getElem? (i := 13) (by decide +kernel)) (by decide +kernel)
theorem tm_14 : Cond.instantiable "SpanDesk" 2 ∈ tb_W := tb_in (List.mem_of_getElem? (i := 14) (by decide +kernel)) (by decide +kernel)
theorem tm_15 : Cond.methodLink "SpanDeskLaw" 23 ⟨"SpanDesk", "<init>", "()V"⟩ ∈ tb_W := tb_in (List.mem_of_getElem? (i := 15) (by decide +kernel)) (by decide +kernel)
theorem tm_16 : Cond.instanceMethod ⟨"SpanDesk", "<init>", "()V"⟩ ∈ tb_W := tb_in (List.mem_of_getElem? (i := 16) (by decide +kernel)) (by decide +kernel)
theorem tm_17 : Cond.code ⟨"SpanDesk", "<init>", "()V"⟩ prog_1_method_1_code 1 (Option.none : Option Jvm.ClassFile.FieldType) ∈ tb_W := tb_in (List.mem_of_getElem? (i := 17) (by decide +kernel)) (by decide +kernel)
theorem tm_18 : Cond.methodLink "SpanDesk" 1 ⟨"java/lang/Object", "<init>", "()V"⟩ ∈ tb_W := tb_in (List.mem_of_getElem? (i := 18) (by decide +kernel)) (by decide +kernel)
theorem tm_19 : Cond.instanceMethod ⟨"java/lang/Object", "<init>", "()V"⟩ ∈ tb_W := tb_in (List.mem_of_getElem? (i := 19) (by decide +kernel)) (by decide +kernel)
theorem tm_20 : Cond.code ⟨"java/lang/Object", "<init>", "()V"⟩ object_method_1_code 1 (Option.none : Option Jvm.ClassFile.FieldType) ∈ tb_W := tb_in (List.mem_of_getElem? (i := 20) (by decide +kernel)) (by decide +kernel)
theorem tm_21 : Cond.classLink "SpanDesk" 7 "SpanDesk$Program" ∈ tb_W := tb_in (List.mem_of_getElem? (i := 21) (by decide +kernel)) (by decide +kernel)
theorem tm_22 : Cond.instantiable "SpanDesk$Program" 4 ∈ tb_W := tb_in (List.mem_of_getElem? (i := 22) (by decide +kernel)) (by decide +kernel)
theorem tm_23 : Cond.methodLink "SpanDesk" 9 ⟨"SpanDesk$Program", "<init>", "()V"⟩ ∈ tb_W := tb_in (List.mem_of_getElem? (i := 23) (by decide +kernel)) (by decide +kernel)
theorem tm_24 : Cond.instanceMethod ⟨"SpanDesk$Program", "<init>", "()V"⟩ ∈ tb_W := tb_in (List.mem_of_getElem? (i := 24) (by decide +kernel)) (by decide +kernel)
theorem tm_25 : Cond.code ⟨"SpanDesk$Program", "<init>", "()V"⟩ prog_3_method_1_code 1 (Option.none : Option Jvm.ClassFile.FieldType) ∈ tb_W := tb_in (List.mem_of_getElem? (i := 25) (by decide +kernel)) (by decide +kernel)
theorem tm_26 : Cond.methodLink "SpanDesk$Program" 3 ⟨"java/lang/Object", "<init>", "()V"⟩ ∈ tb_W := tb_in (List.mem_of_getElem? (i := 26) (by decide +kernel)) (by decide +kernel)
theorem tm_27 : Cond.fieldLink "SpanDesk$Program" 9 "SpanDesk$Program" "kinds" "[I" ∈ tb_W := tb_in (List.mem_of_getElem? (i := 27) (by decide +kernel)) (by decide +kernel)
theorem tm_29 : Cond.fieldLink "SpanDesk$Program" 15 "SpanDesk$Program" "firsts" "[I" ∈ tb_W := tb_in (List.mem_of_getElem? (i := 29) (by decide +kernel)) (by decide +kernel)
theorem tm_31 : Cond.fieldLink "SpanDesk$Program" 18 "SpanDesk$Program" "seconds" "[I" ∈ tb_W := tb_in (List.mem_of_getElem? (i := 31) (by decide +kernel)) (by decide +kernel)
theorem tm_33 : Cond.fieldLink "SpanDesk$Program" 21 "SpanDesk$Program" "count" "I" ∈ tb_W := tb_in (List.mem_of_getElem? (i := 33) (by decide +kernel)) (by decide +kernel)
theorem tm_45 : Cond.arrayClass Jvm.ClassFile.FieldType.int ∈ tb_W := tb_in (List.mem_of_getElem? (i := 45) (by decide +kernel)) (by decide +kernel)
theorem tm_46 : Cond.classLink "SpanDesk" 16 "SpanDesk$Assembly" ∈ tb_W := tb_in (List.mem_of_getElem? (i := 46) (by decide +kernel)) (by decide +kernel)
theorem tm_47 : Cond.instantiable "SpanDesk$Assembly" 4 ∈ tb_W := tb_in (List.mem_of_getElem? (i := 47) (by decide +kernel)) (by decide +kernel)
theorem tm_48 : Cond.methodLink "SpanDesk" 18 ⟨"SpanDesk$Assembly", "<init>", "()V"⟩ ∈ tb_W := tb_in (List.mem_of_getElem? (i := 48) (by decide +kernel)) (by decide +kernel)
theorem tm_49 : Cond.instanceMethod ⟨"SpanDesk$Assembly", "<init>", "()V"⟩ ∈ tb_W := tb_in (List.mem_of_getElem? (i := 49) (by decide +kernel)) (by decide +kernel)
theorem tm_50 : Cond.code ⟨"SpanDesk$Assembly", "<init>", "()V"⟩ prog_2_method_1_code 1 (Option.none : Option Jvm.ClassFile.FieldType) ∈ tb_W := tb_in (List.mem_of_getElem? (i := 50) (by decide +kernel)) (by decide +kernel)
theorem tm_51 : Cond.methodLink "SpanDesk$Assembly" 3 ⟨"java/lang/Object", "<init>", "()V"⟩ ∈ tb_W := tb_in (List.mem_of_getElem? (i := 51) (by decide +kernel)) (by decide +kernel)
theorem tm_52 : Cond.classLink "SpanDesk$Assembly" 9 "SpanDesk$Program" ∈ tb_W := tb_in (List.mem_of_getElem? (i := 52) (by decide +kernel)) (by decide +kernel)
theorem tm_53 : Cond.methodLink "SpanDesk$Assembly" 11 ⟨"SpanDesk$Program", "<init>", "()V"⟩ ∈ tb_W := tb_in (List.mem_of_getElem? (i := 53) (by decide +kernel)) (by decide +kernel)
theorem tm_54 : Cond.methodLink "SpanDesk$Assembly" 28 ⟨"java/util/Arrays", "fill", "([II)V"⟩ ∈ tb_W := tb_in (List.mem_of_getElem? (i := 54) (by decide +kernel)) (by decide +kernel)
theorem tm_55 : Cond.static ⟨"java/util/Arrays", "fill", "([II)V"⟩ ∈ tb_W := tb_in (List.mem_of_getElem? (i := 55) (by decide +kernel)) (by decide +kernel)
theorem tm_56 : Cond.code ⟨"java/util/Arrays", "fill", "([II)V"⟩ prog_14_method_103_code 4 (Option.none : Option Jvm.ClassFile.FieldType) ∈ tb_W := tb_in (List.mem_of_getElem? (i := 56) (by decide +kernel)) (by decide +kernel)
theorem tm_57 : Cond.fieldLink "SpanDesk$Assembly" 12 "SpanDesk$Assembly" "source" "LSpanDesk$Program;" ∈ tb_W := tb_in (List.mem_of_getElem? (i := 57) (by decide +kernel)) (by decide +kernel)
theorem tm_59 : Cond.fieldLink "SpanDesk$Assembly" 18 "SpanDesk$Assembly" "starts" "[I" ∈ tb_W := tb_in (List.mem_of_getElem? (i := 59) (by decide +kernel)) (by decide +kernel)
theorem tm_61 : Cond.fieldLink "SpanDesk$Assembly" 22 "SpanDesk$Assembly" "forms" "[I" ∈ tb_W := tb_in (List.mem_of_getElem? (i := 61) (by decide +kernel)) (by decide +kernel)
theorem tm_63 : Cond.fieldLink "SpanDesk$Assembly" 25 "SpanDesk$Assembly" "values" "[I" ∈ tb_W := tb_in (List.mem_of_getElem? (i := 63) (by decide +kernel)) (by decide +kernel)
theorem tm_74 : Cond.fieldLink "SpanDesk" 10 "SpanDesk" "program" "LSpanDesk$Program;" ∈ tb_W := tb_in (List.mem_of_getElem? (i := 74) (by decide +kernel)) (by decide +kernel)
theorem tm_75 : Cond.fieldLink "SpanDesk" 19 "SpanDesk" "assembly" "LSpanDesk$Assembly;" ∈ tb_W := tb_in (List.mem_of_getElem? (i := 75) (by decide +kernel)) (by decide +kernel)
theorem tm_81 : Cond.methodLink "SpanDeskLaw" 27 ⟨"SpanDesk", "insert", "(IIII)Z"⟩ ∈ tb_W := tb_in (List.mem_of_getElem? (i := 81) (by decide +kernel)) (by decide +kernel)
theorem tm_82 : Cond.instanceMethod ⟨"SpanDesk", "insert", "(IIII)Z"⟩ ∈ tb_W := tb_in (List.mem_of_getElem? (i := 82) (by decide +kernel)) (by decide +kernel)
theorem tm_83 : Cond.selects "SpanDesk" ⟨"SpanDesk", "insert", "(IIII)Z"⟩ ⟨"SpanDesk", "insert", "(IIII)Z"⟩ ∈ tb_W := tb_in (List.mem_of_getElem? (i := 83) (by decide +kernel)) (by decide +kernel)
theorem tm_84 : Cond.code ⟨"SpanDesk", "insert", "(IIII)Z"⟩ prog_1_method_2_code 5 (Option.some Jvm.ClassFile.FieldType.boolean) ∈ tb_W := tb_in (List.mem_of_getElem? (i := 84) (by decide +kernel)) (by decide +kernel)
theorem tm_85 : Cond.methodLink "SpanDesk" 23 ⟨"SpanDesk", "isLine", "(III)Z"⟩ ∈ tb_W := tb_in (List.mem_of_getElem? (i := 85) (by decide +kernel)) (by decide +kernel)
theorem tm_86 : Cond.static ⟨"SpanDesk", "isLine", "(III)Z"⟩ ∈ tb_W := tb_in (List.mem_of_getElem? (i := 86) (by decide +kernel)) (by decide +kernel)
theorem tm_87 : Cond.code ⟨"SpanDesk", "isLine", "(III)Z"⟩ prog_1_method_14_code 3 (Option.some Jvm.ClassFile.FieldType.boolean) ∈ tb_W := tb_in (List.mem_of_getElem? (i := 87) (by decide +kernel)) (by decide +kernel)
theorem tm_88 : Cond.methodLink "SpanDesk" 86 ⟨"SpanDesk", "isLabel", "(I)Z"⟩ ∈ tb_W := tb_in (List.mem_of_getElem? (i := 88) (by decide +kernel)) (by decide +kernel)
theorem tm_89 : Cond.static ⟨"SpanDesk", "isLabel", "(I)Z"⟩ ∈ tb_W := tb_in (List.mem_of_getElem? (i := 89) (by decide +kernel)) (by decide +kernel)
theorem tm_90 : Cond.code ⟨"SpanDesk", "isLabel", "(I)Z"⟩ prog_1_method_15_code 1 (Option.some Jvm.ClassFile.FieldType.boolean) ∈ tb_W := tb_in (List.mem_of_getElem? (i := 90) (by decide +kernel)) (by decide +kernel)
theorem tm_91 : Cond.methodLink "SpanDesk" 107 ⟨"SpanDesk", "isWithin", "(III)Z"⟩ ∈ tb_W := tb_in (List.mem_of_getElem? (i := 91) (by decide +kernel)) (by decide +kernel)
theorem tm_92 : Cond.static ⟨"SpanDesk", "isWithin", "(III)Z"⟩ ∈ tb_W := tb_in (List.mem_of_getElem? (i := 92) (by decide +kernel)) (by decide +kernel)
theorem tm_93 : Cond.code ⟨"SpanDesk", "isWithin", "(III)Z"⟩ prog_1_method_16_code 3 (Option.some Jvm.ClassFile.FieldType.boolean) ∈ tb_W := tb_in (List.mem_of_getElem? (i := 93) (by decide +kernel)) (by decide +kernel)
theorem tm_94 : Cond.methodLink "SpanDesk" 27 ⟨"SpanDesk$Program", "open", "(IIII)Z"⟩ ∈ tb_W := tb_in (List.mem_of_getElem? (i := 94) (by decide +kernel)) (by decide +kernel)
theorem tm_95 : Cond.instanceMethod ⟨"SpanDesk$Program", "open", "(IIII)Z"⟩ ∈ tb_W := tb_in (List.mem_of_getElem? (i := 95) (by decide +kernel)) (by decide +kernel)
theorem tm_96 : Cond.selects "SpanDesk$Program" ⟨"SpanDesk$Program", "open", "(IIII)Z"⟩ ⟨"SpanDesk$Program", "open", "(IIII)Z"⟩ ∈ tb_W := tb_in (List.mem_of_getElem? (i := 96) (by decide +kernel)) (by decide +kernel)
theorem tm_97 : Cond.code ⟨"SpanDesk$Program", "open", "(IIII)Z"⟩ prog_3_method_3_code 5 (Option.some Jvm.ClassFile.FieldType.boolean) ∈ tb_W := tb_in (List.mem_of_getElem? (i := 97) (by decide +kernel)) (by decide +kernel)
theorem tm_98 : Cond.methodLink "SpanDesk$Program" 25 ⟨"SpanDesk$Program", "shift", "(III)V"⟩ ∈ tb_W := tb_in (List.mem_of_getElem? (i := 98) (by decide +kernel)) (by decide +kernel)
theorem tm_100 : Cond.instanceMethod ⟨"SpanDesk$Program", "shift", "(III)V"⟩ ∈ tb_W := tb_in (List.mem_of_getElem? (i := 100) (by decide +kernel)) (by decide +kernel)
theorem tm_101 : Cond.code ⟨"SpanDesk$Program", "shift", "(III)V"⟩ prog_3_method_5_code 4 (Option.none : Option Jvm.ClassFile.FieldType) ∈ tb_W := tb_in (List.mem_of_getElem? (i := 101) (by decide +kernel)) (by decide +kernel)
theorem tm_102 : Cond.methodLink "SpanDesk$Program" 33 ⟨"java/lang/System", "arraycopy", "(Ljava/lang/Object;ILjava/lang/Object;II)V"⟩ ∈ tb_W := tb_in (List.mem_of_getElem? (i := 102) (by decide +kernel)) (by decide +kernel)
theorem tm_103 : Cond.static ⟨"java/lang/System", "arraycopy", "(Ljava/lang/Object;ILjava/lang/Object;II)V"⟩ ∈ tb_W := tb_in (List.mem_of_getElem? (i := 103) (by decide +kernel)) (by decide +kernel)
theorem tm_104 : Cond.native ⟨"java/lang/System", "arraycopy", "(Ljava/lang/Object;ILjava/lang/Object;II)V"⟩ ∈ tb_W := tb_in (List.mem_of_getElem? (i := 104) (by decide +kernel)) (by decide +kernel)
theorem tm_105 : Cond.methodLink "SpanDeskLaw" 32 ⟨"SpanDesk", "remove", "(I)Z"⟩ ∈ tb_W := tb_in (List.mem_of_getElem? (i := 105) (by decide +kernel)) (by decide +kernel)
theorem tm_106 : Cond.instanceMethod ⟨"SpanDesk", "remove", "(I)Z"⟩ ∈ tb_W := tb_in (List.mem_of_getElem? (i := 106) (by decide +kernel)) (by decide +kernel)
theorem tm_107 : Cond.selects "SpanDesk" ⟨"SpanDesk", "remove", "(I)Z"⟩ ⟨"SpanDesk", "remove", "(I)Z"⟩ ∈ tb_W := tb_in (List.mem_of_getElem? (i := 107) (by decide +kernel)) (by decide +kernel)
theorem tm_108 : Cond.code ⟨"SpanDesk", "remove", "(I)Z"⟩ prog_1_method_3_code 2 (Option.some Jvm.ClassFile.FieldType.boolean) ∈ tb_W := tb_in (List.mem_of_getElem? (i := 108) (by decide +kernel)) (by decide +kernel)
theorem tm_109 : Cond.methodLink "SpanDesk" 31 ⟨"SpanDesk$Program", "close", "(I)Z"⟩ ∈ tb_W := tb_in (List.mem_of_getElem? (i := 109) (by decide +kernel)) (by decide +kernel)
theorem tm_110 : Cond.instanceMethod ⟨"SpanDesk$Program", "close", "(I)Z"⟩ ∈ tb_W := tb_in (List.mem_of_getElem? (i := 110) (by decide +kernel)) (by decide +kernel)
theorem tm_111 : Cond.selects "SpanDesk$Program" ⟨"SpanDesk$Program", "close", "(I)Z"⟩ ⟨"SpanDesk$Program", "close", "(I)Z"⟩ ∈ tb_W := tb_in (List.mem_of_getElem? (i := 111) (by decide +kernel)) (by decide +kernel)
theorem tm_112 : Cond.code ⟨"SpanDesk$Program", "close", "(I)Z"⟩ prog_3_method_4_code 2 (Option.some Jvm.ClassFile.FieldType.boolean) ∈ tb_W := tb_in (List.mem_of_getElem? (i := 112) (by decide +kernel)) (by decide +kernel)
theorem tm_113 : Cond.methodLink "SpanDesk$Program" 29 ⟨"SpanDesk$Program", "has", "(I)Z"⟩ ∈ tb_W := tb_in (List.mem_of_getElem? (i := 113) (by decide +kernel)) (by decide +kernel)
theorem tm_114 : Cond.instanceMethod ⟨"SpanDesk$Program", "has", "(I)Z"⟩ ∈ tb_W := tb_in (List.mem_of_getElem? (i := 114) (by decide +kernel)) (by decide +kernel)
theorem tm_115 : Cond.selects "SpanDesk$Program" ⟨"SpanDesk$Program", "has", "(I)Z"⟩ ⟨"SpanDesk$Program", "has", "(I)Z"⟩ ∈ tb_W := tb_in (List.mem_of_getElem? (i := 115) (by decide +kernel)) (by decide +kernel)
theorem tm_116 : Cond.code ⟨"SpanDesk$Program", "has", "(I)Z"⟩ prog_3_method_2_code 2 (Option.some Jvm.ClassFile.FieldType.boolean) ∈ tb_W := tb_in (List.mem_of_getElem? (i := 116) (by decide +kernel)) (by decide +kernel)
theorem tm_117 : Cond.methodLink "SpanDeskLaw" 37 ⟨"SpanDesk", "lines", "()I"⟩ ∈ tb_W := tb_in (List.mem_of_getElem? (i := 117) (by decide +kernel)) (by decide +kernel)
theorem tm_118 : Cond.instanceMethod ⟨"SpanDesk", "lines", "()I"⟩ ∈ tb_W := tb_in (List.mem_of_getElem? (i := 118) (by decide +kernel)) (by decide +kernel)
theorem tm_119 : Cond.selects "SpanDesk" ⟨"SpanDesk", "lines", "()I"⟩ ⟨"SpanDesk", "lines", "()I"⟩ ∈ tb_W := tb_in (List.mem_of_getElem? (i := 119) (by decide +kernel)) (by decide +kernel)
theorem tm_120 : Cond.code ⟨"SpanDesk", "lines", "()I"⟩ prog_1_method_4_code 1 (Option.some Jvm.ClassFile.FieldType.int) ∈ tb_W := tb_in (List.mem_of_getElem? (i := 120) (by decide +kernel)) (by decide +kernel)
theorem tm_121 : Cond.methodLink "SpanDeskLaw" 50 ⟨"SpanDesk", "at", "(I)I"⟩ ∈ tb_W := tb_in (List.mem_of_getElem? (i := 121) (by decide +kernel)) (by decide +kernel)
theorem tm_122 : Cond.instanceMethod ⟨"SpanDesk", "at", "(I)I"⟩ ∈ tb_W := tb_in (List.mem_of_getElem? (i := 122) (by decide +kernel)) (by decide +kernel)
theorem tm_123 : Cond.selects "SpanDesk" ⟨"SpanDesk", "at", "(I)I"⟩ ⟨"SpanDesk", "at", "(I)I"⟩ ∈ tb_W := tb_in (List.mem_of_getElem? (i := 123) (by decide +kernel)) (by decide +kernel)
theorem tm_124 : Cond.code ⟨"SpanDesk", "at", "(I)I"⟩ prog_1_method_6_code 2 (Option.some Jvm.ClassFile.FieldType.int) ∈ tb_W := tb_in (List.mem_of_getElem? (i := 124) (by decide +kernel)) (by decide +kernel)
theorem tm_125 : Cond.methodLink "SpanDesk" 66 ⟨"SpanDesk$Assembly", "byteAt", "(I)I"⟩ ∈ tb_W := tb_in (List.mem_of_getElem? (i := 125) (by decide +kernel)) (by decide +kernel)
theorem tm_126 : Cond.instanceMethod ⟨"SpanDesk$Assembly", "byteAt", "(I)I"⟩ ∈ tb_W := tb_in (List.mem_of_getElem? (i := 126) (by decide +kernel)) (by decide +kernel)
theorem tm_127 : Cond.selects "SpanDesk$Assembly" ⟨"SpanDesk$Assembly", "byteAt", "(I)I"⟩ ⟨"SpanDesk$Assembly", "byteAt", "(I)I"⟩ ∈ tb_W := tb_in (List.mem_of_getElem? (i := 127) (by decide +kernel)) (by decide +kernel)
theorem tm_128 : Cond.code ⟨"SpanDesk$Assembly", "byteAt", "(I)I"⟩ prog_2_method_10_code 3 (Option.some Jvm.ClassFile.FieldType.int) ∈ tb_W := tb_in (List.mem_of_getElem? (i := 128) (by decide +kernel)) (by decide +kernel)
theorem tm_129 : Cond.methodLink "SpanDesk$Assembly" 72 ⟨"SpanDesk$Assembly", "lineByte", "(II)I"⟩ ∈ tb_W := tb_in (List.mem_of_getElem? (i := 129) (by decide +kernel)) (by decide +kernel)
theorem tm_131 : Cond.instanceMethod ⟨"SpanDesk$Assembly", "lineByte", "(II)I"⟩ ∈ tb_W := tb_in (List.mem_of_getElem? (i := 131) (by decide +kernel)) (by decide +kernel)
theorem tm_132 : Cond.code ⟨"SpanDesk$Assembly", "lineByte", "(II)I"⟩ prog_2_method_11_code 4 (Option.some Jvm.ClassFile.FieldType.int) ∈ tb_W := tb_in (List.mem_of_getElem? (i := 132) (by decide +kernel)) (by decide +kernel)
theorem tm_133 : Cond.methodLink "SpanDesk$Assembly" 76 ⟨"SpanDesk$Assembly", "pairByte", "(II)I"⟩ ∈ tb_W := tb_in (List.mem_of_getElem? (i := 133) (by decide +kernel)) (by decide +kernel)
theorem tm_134 : Cond.static ⟨"SpanDesk$Assembly", "pairByte", "(II)I"⟩ ∈ tb_W := tb_in (List.mem_of_getElem? (i := 134) (by decide +kernel)) (by decide +kernel)
theorem tm_135 : Cond.code ⟨"SpanDesk$Assembly", "pairByte", "(II)I"⟩ prog_2_method_15_code 2 (Option.some Jvm.ClassFile.FieldType.int) ∈ tb_W := tb_in (List.mem_of_getElem? (i := 135) (by decide +kernel)) (by decide +kernel)
theorem tm_136 : Cond.methodLink "SpanDesk$Assembly" 79 ⟨"SpanDesk$Assembly", "longByte", "(II)I"⟩ ∈ tb_W := tb_in (List.mem_of_getElem? (i := 136) (by decide +kernel)) (by decide +kernel)
theorem tm_138 : Cond.instanceMethod ⟨"SpanDesk$Assembly", "longByte", "(II)I"⟩ ∈ tb_W := tb_in (List.mem_of_getElem? (i := 138) (by decide +kernel)) (by decide +kernel)
theorem tm_139 : Cond.code ⟨"SpanDesk$Assembly", "longByte", "(II)I"⟩ prog_2_method_13_code 4 (Option.some Jvm.ClassFile.FieldType.int) ∈ tb_W := tb_in (List.mem_of_getElem? (i := 139) (by decide +kernel)) (by decide +kernel)
theorem tm_140 : Cond.methodLink "SpanDesk$Assembly" 58 ⟨"SpanDesk$Assembly", "lineSize", "(I)I"⟩ ∈ tb_W := tb_in (List.mem_of_getElem? (i := 140) (by decide +kernel)) (by decide +kernel)
theorem tm_142 : Cond.instanceMethod ⟨"SpanDesk$Assembly", "lineSize", "(I)I"⟩ ∈ tb_W := tb_in (List.mem_of_getElem? (i := 142) (by decide +kernel)) (by decide +kernel)
theorem tm_143 : Cond.code ⟨"SpanDesk$Assembly", "lineSize", "(I)I"⟩ prog_2_method_7_code 3 (Option.some Jvm.ClassFile.FieldType.int) ∈ tb_W := tb_in (List.mem_of_getElem? (i := 143) (by decide +kernel)) (by decide +kernel)
theorem tm_144 : Cond.methodLink "SpanDesk$Assembly" 85 ⟨"SpanDesk$Assembly", "oppositeCode", "(I)I"⟩ ∈ tb_W := tb_in (List.mem_of_getElem? (i := 144) (by decide +kernel)) (by decide +kernel)
theorem tm_145 : Cond.static ⟨"SpanDesk$Assembly", "oppositeCode", "(I)I"⟩ ∈ tb_W := tb_in (List.mem_of_getElem? (i := 145) (by decide +kernel)) (by decide +kernel)
theorem tm_146 : Cond.code ⟨"SpanDesk$Assembly", "oppositeCode", "(I)I"⟩ prog_2_method_14_code 2 (Option.some Jvm.ClassFile.FieldType.int) ∈ tb_W := tb_in (List.mem_of_getElem? (i := 146) (by decide +kernel)) (by decide +kernel)
theorem tm_147 : Cond.methodLink "SpanDesk$Assembly" 62 ⟨"SpanDesk$Assembly", "distance", "(I)I"⟩ ∈ tb_W := tb_in (List.mem_of_getElem? (i := 147) (by decide +kernel)) (by decide +kernel)
theorem tm_149 : Cond.instanceMethod ⟨"SpanDesk$Assembly", "distance", "(I)I"⟩ ∈ tb_W := tb_in (List.mem_of_getElem? (i := 149) (by decide +kernel)) (by decide +kernel)
theorem tm_150 : Cond.code ⟨"SpanDesk$Assembly", "distance", "(I)I"⟩ prog_2_method_8_code 2 (Option.some Jvm.ClassFile.FieldType.int) ∈ tb_W := tb_in (List.mem_of_getElem? (i := 150) (by decide +kernel)) (by decide +kernel)
theorem tm_151 : Cond.methodLink "SpanDesk$Assembly" 82 ⟨"SpanDesk$Assembly", "shortByte", "(II)I"⟩ ∈ tb_W := tb_in (List.mem_of_getElem? (i := 151) (by decide +kernel)) (by decide +kernel)
theorem tm_153 : Cond.instanceMethod ⟨"SpanDesk$Assembly", "shortByte", "(II)I"⟩ ∈ tb_W := tb_in (List.mem_of_getElem? (i := 153) (by decide +kernel)) (by decide +kernel)
theorem tm_154 : Cond.code ⟨"SpanDesk$Assembly", "shortByte", "(II)I"⟩ prog_2_method_12_code 3 (Option.some Jvm.ClassFile.FieldType.int) ∈ tb_W := tb_in (List.mem_of_getElem? (i := 154) (by decide +kernel)) (by decide +kernel)
theorem tm_155 : Cond.methodLink "SpanDeskLaw" 55 ⟨"SpanDesk", "address", "(I)I"⟩ ∈ tb_W := tb_in (List.mem_of_getElem? (i := 155) (by decide +kernel)) (by decide +kernel)
theorem tm_156 : Cond.instanceMethod ⟨"SpanDesk", "address", "(I)I"⟩ ∈ tb_W := tb_in (List.mem_of_getElem? (i := 156) (by decide +kernel)) (by decide +kernel)
theorem tm_157 : Cond.selects "SpanDesk" ⟨"SpanDesk", "address", "(I)I"⟩ ⟨"SpanDesk", "address", "(I)I"⟩ ∈ tb_W := tb_in (List.mem_of_getElem? (i := 157) (by decide +kernel)) (by decide +kernel)
theorem tm_158 : Cond.code ⟨"SpanDesk", "address", "(I)I"⟩ prog_1_method_7_code 2 (Option.some Jvm.ClassFile.FieldType.int) ∈ tb_W := tb_in (List.mem_of_getElem? (i := 158) (by decide +kernel)) (by decide +kernel)
theorem tm_159 : Cond.methodLink "SpanDesk" 73 ⟨"SpanDesk$Program", "has", "(I)Z"⟩ ∈ tb_W := tb_in (List.mem_of_getElem? (i := 159) (by decide +kernel)) (by decide +kernel)
theorem tm_160 : Cond.methodLink "SpanDeskLaw" 59 ⟨"SpanDesk", "form", "(I)I"⟩ ∈ tb_W := tb_in (List.mem_of_getElem? (i := 160) (by decide +kernel)) (by decide +kernel)
theorem tm_161 : Cond.instanceMethod ⟨"SpanDesk", "form", "(I)I"⟩ ∈ tb_W := tb_in (List.mem_of_getElem? (i := 161) (by decide +kernel)) (by decide +kernel)
theorem tm_162 : Cond.selects "SpanDesk" ⟨"SpanDesk", "form", "(I)I"⟩ ⟨"SpanDesk", "form", "(I)I"⟩ ∈ tb_W := tb_in (List.mem_of_getElem? (i := 162) (by decide +kernel)) (by decide +kernel)
theorem tm_163 : Cond.code ⟨"SpanDesk", "form", "(I)I"⟩ prog_1_method_8_code 2 (Option.some Jvm.ClassFile.FieldType.int) ∈ tb_W := tb_in (List.mem_of_getElem? (i := 163) (by decide +kernel)) (by decide +kernel)
theorem tm_164 : Cond.methodLink "SpanDeskLaw" 63 ⟨"SpanDesk", "longs", "()I"⟩ ∈ tb_W := tb_in (List.mem_of_getElem? (i := 164) (by decide +kernel)) (by decide +kernel)
theorem tm_165 : Cond.instanceMethod ⟨"SpanDesk", "longs", "()I"⟩ ∈ tb_W := tb_in (List.mem_of_getElem? (i := 165) (by decide +kernel)) (by decide +kernel)
theorem tm_166 : Cond.selects "SpanDesk" ⟨"SpanDesk", "longs", "()I"⟩ ⟨"SpanDesk", "longs", "()I"⟩ ∈ tb_W := tb_in (List.mem_of_getElem? (i := 166) (by decide +kernel)) (by decide +kernel)
theorem tm_167 : Cond.code ⟨"SpanDesk", "longs", "()I"⟩ prog_1_method_9_code 1 (Option.some Jvm.ClassFile.FieldType.int) ∈ tb_W := tb_in (List.mem_of_getElem? (i := 167) (by decide +kernel)) (by decide +kernel)
theorem tm_168 : Cond.methodLink "SpanDesk" 83 ⟨"SpanDesk$Assembly", "countLong", "()I"⟩ ∈ tb_W := tb_in (List.mem_of_getElem? (i := 168) (by decide +kernel)) (by decide +kernel)
theorem tm_169 : Cond.instanceMethod ⟨"SpanDesk$Assembly", "countLong", "()I"⟩ ∈ tb_W := tb_in (List.mem_of_getElem? (i := 169) (by decide +kernel)) (by decide +kernel)
theorem tm_170 : Cond.selects "SpanDesk$Assembly" ⟨"SpanDesk$Assembly", "countLong", "()I"⟩ ⟨"SpanDesk$Assembly", "countLong", "()I"⟩ ∈ tb_W := tb_in (List.mem_of_getElem? (i := 170) (by decide +kernel)) (by decide +kernel)
theorem tm_171 : Cond.code ⟨"SpanDesk$Assembly", "countLong", "()I"⟩ prog_2_method_9_code 3 (Option.some Jvm.ClassFile.FieldType.int) ∈ tb_W := tb_in (List.mem_of_getElem? (i := 171) (by decide +kernel)) (by decide +kernel)
theorem tm_172 : Cond.methodLink "SpanDeskLaw" 67 ⟨"SpanDesk", "value", "(I)I"⟩ ∈ tb_W := tb_in (List.mem_of_getElem? (i := 172) (by decide +kernel)) (by decide +kernel)
theorem tm_173 : Cond.instanceMethod ⟨"SpanDesk", "value", "(I)I"⟩ ∈ tb_W := tb_in (List.mem_of_getElem? (i := 173) (by decide +kernel)) (by decide +kernel)
theorem tm_174 : Cond.selects "SpanDesk" ⟨"SpanDesk", "value", "(I)I"⟩ ⟨"SpanDesk", "value", "(I)I"⟩ ∈ tb_W := tb_in (List.mem_of_getElem? (i := 174) (by decide +kernel)) (by decide +kernel)
theorem tm_175 : Cond.code ⟨"SpanDesk", "value", "(I)I"⟩ prog_1_method_10_code 2 (Option.some Jvm.ClassFile.FieldType.int) ∈ tb_W := tb_in (List.mem_of_getElem? (i := 175) (by decide +kernel)) (by decide +kernel)
theorem tm_176 : Cond.methodLink "SpanDeskLaw" 75 ⟨"SpanDesk", "jumps", "(I)Z"⟩ ∈ tb_W := tb_in (List.mem_of_getElem? (i := 176) (by decide +kernel)) (by decide +kernel)
theorem tm_177 : Cond.instanceMethod ⟨"SpanDesk", "jumps", "(I)Z"⟩ ∈ tb_W := tb_in (List.mem_of_getElem? (i := 177) (by decide +kernel)) (by decide +kernel)
theorem tm_178 : Cond.selects "SpanDesk" ⟨"SpanDesk", "jumps", "(I)Z"⟩ ⟨"SpanDesk", "jumps", "(I)Z"⟩ ∈ tb_W := tb_in (List.mem_of_getElem? (i := 178) (by decide +kernel)) (by decide +kernel)
theorem tm_179 : Cond.code ⟨"SpanDesk", "jumps", "(I)Z"⟩ prog_1_method_12_code 2 (Option.some Jvm.ClassFile.FieldType.boolean) ∈ tb_W := tb_in (List.mem_of_getElem? (i := 179) (by decide +kernel)) (by decide +kernel)
theorem tm_180 : Cond.methodLink "SpanDesk" 92 ⟨"SpanDesk$Assembly", "operationSize", "(I)I"⟩ ∈ tb_W := tb_in (List.mem_of_getElem? (i := 180) (by decide +kernel)) (by decide +kernel)
theorem tm_181 : Cond.instanceMethod ⟨"SpanDesk$Assembly", "operationSize", "(I)I"⟩ ∈ tb_W := tb_in (List.mem_of_getElem? (i := 181) (by decide +kernel)) (by decide +kernel)
theorem tm_182 : Cond.selects "SpanDesk$Assembly" ⟨"SpanDesk$Assembly", "operationSize", "(I)I"⟩ ⟨"SpanDesk$Assembly", "operationSize", "(I)I"⟩ ∈ tb_W := tb_in (List.mem_of_getElem? (i := 182) (by decide +kernel)) (by decide +kernel)
theorem tm_183 : Cond.code ⟨"SpanDesk$Assembly", "operationSize", "(I)I"⟩ prog_2_method_16_code 4 (Option.some Jvm.ClassFile.FieldType.int) ∈ tb_W := tb_in (List.mem_of_getElem? (i := 183) (by decide +kernel)) (by decide +kernel)
theorem tm_184 : Cond.methodLink "SpanDesk$Assembly" 88 ⟨"SpanDesk$Assembly", "byteAt", "(I)I"⟩ ∈ tb_W := tb_in (List.mem_of_getElem? (i := 184) (by decide +kernel)) (by decide +kernel)
theorem tm_186 : Cond.methodLink "SpanDesk$Assembly" 91 ⟨"SpanDesk$Assembly", "size", "()I"⟩ ∈ tb_W := tb_in (List.mem_of_getElem? (i := 186) (by decide +kernel)) (by decide +kernel)
theorem tm_187 : Cond.instanceMethod ⟨"SpanDesk$Assembly", "size", "()I"⟩ ∈ tb_W := tb_in (List.mem_of_getElem? (i := 187) (by decide +kernel)) (by decide +kernel)
theorem tm_188 : Cond.selects "SpanDesk$Assembly" ⟨"SpanDesk$Assembly", "size", "()I"⟩ ⟨"SpanDesk$Assembly", "size", "()I"⟩ ∈ tb_W := tb_in (List.mem_of_getElem? (i := 188) (by decide +kernel)) (by decide +kernel)
theorem tm_189 : Cond.code ⟨"SpanDesk$Assembly", "size", "()I"⟩ prog_2_method_2_code 1 (Option.some Jvm.ClassFile.FieldType.int) ∈ tb_W := tb_in (List.mem_of_getElem? (i := 189) (by decide +kernel)) (by decide +kernel)
theorem tm_190 : Cond.methodLink "SpanDeskLaw" 79 ⟨"SpanDesk", "trace", "(III)I"⟩ ∈ tb_W := tb_in (List.mem_of_getElem? (i := 190) (by decide +kernel)) (by decide +kernel)
theorem tm_191 : Cond.instanceMethod ⟨"SpanDesk", "trace", "(III)I"⟩ ∈ tb_W := tb_in (List.mem_of_getElem? (i := 191) (by decide +kernel)) (by decide +kernel)
theorem tm_192 : Cond.selects "SpanDesk" ⟨"SpanDesk", "trace", "(III)I"⟩ ⟨"SpanDesk", "trace", "(III)I"⟩ ∈ tb_W := tb_in (List.mem_of_getElem? (i := 192) (by decide +kernel)) (by decide +kernel)
theorem tm_193 : Cond.code ⟨"SpanDesk", "trace", "(III)I"⟩ prog_1_method_13_code 8 (Option.some Jvm.ClassFile.FieldType.int) ∈ tb_W := tb_in (List.mem_of_getElem? (i := 193) (by decide +kernel)) (by decide +kernel)
theorem tm_194 : Cond.methodLink "SpanDesk" 104 ⟨"SpanDesk$Assembly", "goesAlways", "(I)Z"⟩ ∈ tb_W := tb_in (List.mem_of_getElem? (i := 194) (by decide +kernel)) (by decide +kernel)
theorem tm_195 : Cond.instanceMethod ⟨"SpanDesk$Assembly", "goesAlways", "(I)Z"⟩ ∈ tb_W := tb_in (List.mem_of_getElem? (i := 195) (by decide +kernel)) (by decide +kernel)
theorem tm_196 : Cond.selects "SpanDesk$Assembly" ⟨"SpanDesk$Assembly", "goesAlways", "(I)Z"⟩ ⟨"SpanDesk$Assembly", "goesAlways", "(I)Z"⟩ ∈ tb_W := tb_in (List.mem_of_getElem? (i := 196) (by decide +kernel)) (by decide +kernel)
theorem tm_197 : Cond.code ⟨"SpanDesk$Assembly", "goesAlways", "(I)Z"⟩ prog_2_method_17_code 3 (Option.some Jvm.ClassFile.FieldType.boolean) ∈ tb_W := tb_in (List.mem_of_getElem? (i := 197) (by decide +kernel)) (by decide +kernel)
theorem tm_198 : Cond.methodLink "SpanDesk" 100 ⟨"SpanDesk$Assembly", "target", "(II)I"⟩ ∈ tb_W := tb_in (List.mem_of_getElem? (i := 198) (by decide +kernel)) (by decide +kernel)
theorem tm_199 : Cond.instanceMethod ⟨"SpanDesk$Assembly", "target", "(II)I"⟩ ∈ tb_W := tb_in (List.mem_of_getElem? (i := 199) (by decide +kernel)) (by decide +kernel)
theorem tm_200 : Cond.selects "SpanDesk$Assembly" ⟨"SpanDesk$Assembly", "target", "(II)I"⟩ ⟨"SpanDesk$Assembly", "target", "(II)I"⟩ ∈ tb_W := tb_in (List.mem_of_getElem? (i := 200) (by decide +kernel)) (by decide +kernel)
theorem tm_201 : Cond.code ⟨"SpanDesk$Assembly", "target", "(II)I"⟩ prog_2_method_18_code 4 (Option.some Jvm.ClassFile.FieldType.int) ∈ tb_W := tb_in (List.mem_of_getElem? (i := 201) (by decide +kernel)) (by decide +kernel)
theorem tm_202 : Cond.methodLink "SpanDeskLaw" 41 ⟨"SpanDeskLaw", "assemble", "(LSpanDesk;[J)I"⟩ ∈ tb_W := tb_in (List.mem_of_getElem? (i := 202) (by decide +kernel)) (by decide +kernel)
theorem tm_203 : Cond.static ⟨"SpanDeskLaw", "assemble", "(LSpanDesk;[J)I"⟩ ∈ tb_W := tb_in (List.mem_of_getElem? (i := 203) (by decide +kernel)) (by decide +kernel)
theorem tm_204 : Cond.codeWith ⟨"SpanDeskLaw", "assemble", "(LSpanDesk;[J)I"⟩ method_3_code 3 (Option.some Jvm.ClassFile.FieldType.int) [(0, 8, 11, 13), (0, 8, 14, 15)] ∈ tb_W := tb_in (List.mem_of_getElem? (i := 204) (by decide +kernel)) (by decide +kernel)
theorem tm_205 : Cond.classLink "SpanDeskLaw" 13 "java/lang/IllegalArgumentException" ∈ tb_W := tb_in (List.mem_of_getElem? (i := 205) (by decide +kernel)) (by decide +kernel)
theorem tm_206 : Cond.classLink "SpanDeskLaw" 15 "java/lang/IllegalStateException" ∈ tb_W := tb_in (List.mem_of_getElem? (i := 206) (by decide +kernel)) (by decide +kernel)
theorem tm_207 : Cond.methodLink "SpanDeskLaw" 7 ⟨"SpanDesk", "assemble", "()I"⟩ ∈ tb_W := tb_in (List.mem_of_getElem? (i := 207) (by decide +kernel)) (by decide +kernel)
theorem tm_208 : Cond.instanceMethod ⟨"SpanDesk", "assemble", "()I"⟩ ∈ tb_W := tb_in (List.mem_of_getElem? (i := 208) (by decide +kernel)) (by decide +kernel)
theorem tm_209 : Cond.selects "SpanDesk" ⟨"SpanDesk", "assemble", "()I"⟩ ⟨"SpanDesk", "assemble", "()I"⟩ ∈ tb_W := tb_in (List.mem_of_getElem? (i := 209) (by decide +kernel)) (by decide +kernel)
theorem tm_210 : Cond.code ⟨"SpanDesk", "assemble", "()I"⟩ prog_1_method_5_code 1 (Option.some Jvm.ClassFile.FieldType.int) ∈ tb_W := tb_in (List.mem_of_getElem? (i := 210) (by decide +kernel)) (by decide +kernel)
theorem tm_211 : Cond.methodLink "SpanDesk" 39 ⟨"SpanDesk$Program", "definesTwice", "()Z"⟩ ∈ tb_W := tb_in (List.mem_of_getElem? (i := 211) (by decide +kernel)) (by decide +kernel)
theorem tm_212 : Cond.instanceMethod ⟨"SpanDesk$Program", "definesTwice", "()Z"⟩ ∈ tb_W := tb_in (List.mem_of_getElem? (i := 212) (by decide +kernel)) (by decide +kernel)
theorem tm_213 : Cond.selects "SpanDesk$Program" ⟨"SpanDesk$Program", "definesTwice", "()Z"⟩ ⟨"SpanDesk$Program", "definesTwice", "()Z"⟩ ∈ tb_W := tb_in (List.mem_of_getElem? (i := 213) (by decide +kernel)) (by decide +kernel)
theorem tm_214 : Cond.code ⟨"SpanDesk$Program", "definesTwice", "()Z"⟩ prog_3_method_7_code 2 (Option.some Jvm.ClassFile.FieldType.boolean) ∈ tb_W := tb_in (List.mem_of_getElem? (i := 214) (by decide +kernel)) (by decide +kernel)
theorem tm_215 : Cond.methodLink "SpanDesk$Program" 39 ⟨"SpanDesk$Program", "countDefined", "(I)I"⟩ ∈ tb_W := tb_in (List.mem_of_getElem? (i := 215) (by decide +kernel)) (by decide +kernel)
theorem tm_217 : Cond.instanceMethod ⟨"SpanDesk$Program", "countDefined", "(I)I"⟩ ∈ tb_W := tb_in (List.mem_of_getElem? (i := 217) (by decide +kernel)) (by decide +kernel)
theorem tm_218 : Cond.code ⟨"SpanDesk$Program", "countDefined", "(I)I"⟩ prog_3_method_9_code 4 (Option.some Jvm.ClassFile.FieldType.int) ∈ tb_W := tb_in (List.mem_of_getElem? (i := 218) (by decide +kernel)) (by decide +kernel)
theorem tm_219 : Cond.classLink "SpanDesk" 43 "java/lang/IllegalArgumentException" ∈ tb_W := tb_in (List.mem_of_getElem? (i := 219) (by decide +kernel)) (by decide +kernel)
theorem tm_220 : Cond.instantiable "java/lang/IllegalArgumentException" 6 ∈ tb_W := tb_in (List.mem_of_getElem? (i := 220) (by decide +kernel)) (by decide +kernel)
theorem tm_228 : Cond.selects "java/lang/IllegalArgumentException" ⟨"java/lang/Throwable", "fillInStackTrace", "(I)Ljava/lang/Throwable;"⟩ ⟨"java/lang/Throwable", "fillInStackTrace", "(I)Ljava/lang/Throwable;"⟩ ∈ tb_W := tb_in (List.mem_of_getElem? (i := 228) (by decide +kernel)) (by decide +kernel)
theorem tm_229 : Cond.selects "java/lang/IllegalArgumentException" ⟨"java/lang/Throwable", "fillInStackTrace", "()Ljava/lang/Throwable;"⟩ ⟨"java/lang/Throwable", "fillInStackTrace", "()Ljava/lang/Throwable;"⟩ ∈ tb_W := tb_in (List.mem_of_getElem? (i := 229) (by decide +kernel)) (by decide +kernel)
theorem tm_240 : Cond.fieldLink "java/lang/Throwable" 198 "java/lang/Throwable" "backtrace" "Ljava/lang/Object;" ∈ tb_W := tb_in (List.mem_of_getElem? (i := 240) (by decide +kernel)) (by decide +kernel)
theorem tm_242 : Cond.instanceMethod ⟨"java/lang/Throwable", "<init>", "()V"⟩ ∈ tb_W := tb_in (List.mem_of_getElem? (i := 242) (by decide +kernel)) (by decide +kernel)
theorem tm_243 : Cond.code ⟨"java/lang/Throwable", "<init>", "()V"⟩ prog_13_method_1_code 1 (Option.none : Option Jvm.ClassFile.FieldType) ∈ tb_W := tb_in (List.mem_of_getElem? (i := 243) (by decide +kernel)) (by decide +kernel)
theorem tm_244 : Cond.methodLink "java/lang/Throwable" 1 ⟨"java/lang/Object", "<init>", "()V"⟩ ∈ tb_W := tb_in (List.mem_of_getElem? (i := 244) (by decide +kernel)) (by decide +kernel)
theorem tm_245 : Cond.fieldLink "java/lang/Throwable" 13 "java/lang/Throwable" "UNASSIGNED_STACK" "[Ljava/lang/StackTraceElement;" ∈ tb_W := tb_in (List.mem_of_getElem? (i := 245) (by decide +kernel)) (by decide +kernel)
theorem tm_247 : Cond.fieldLink "java/lang/Throwable" 20 "java/lang/Throwable" "SUPPRESSED_SENTINEL" "Ljava/util/List;" ∈ tb_W := tb_in (List.mem_of_getElem? (i := 247) (by decide +kernel)) (by decide +kernel)
theorem tm_249 : Cond.methodLink "java/lang/Throwable" 27 ⟨"java/lang/Throwable", "fillInStackTrace", "()Ljava/lang/Throwable;"⟩ ∈ tb_W := tb_in (List.mem_of_getElem? (i := 249) (by decide +kernel)) (by decide +kernel)
theorem tm_250 : Cond.instanceMethod ⟨"java/lang/Throwable", "fillInStackTrace", "()Ljava/lang/Throwable;"⟩ ∈ tb_W := tb_in (List.mem_of_getElem? (i := 250) (by decide +kernel)) (by decide +kernel)
theorem tm_252 : Cond.selects "java/lang/IllegalStateException" ⟨"java/lang/Throwable", "fillInStackTrace", "()Ljava/lang/Throwable;"⟩ ⟨"java/lang/Throwable", "fillInStackTrace", "()Ljava/lang/Throwable;"⟩ ∈ tb_W := tb_in (List.mem_of_getElem? (i := 252) (by decide +kernel)) (by decide +kernel)
theorem tm_253 : Cond.selects "java/lang/IndexOutOfBoundsException" ⟨"java/lang/Throwable", "fillInStackTrace", "()Ljava/lang/Throwable;"⟩ ⟨"java/lang/Throwable", "fillInStackTrace", "()Ljava/lang/Throwable;"⟩ ∈ tb_W := tb_in (List.mem_of_getElem? (i := 253) (by decide +kernel)) (by decide +kernel)
theorem tm_255 : Cond.methodLink "java/lang/Throwable" 202 ⟨"java/lang/Throwable", "fillInStackTrace", "(I)Ljava/lang/Throwable;"⟩ ∈ tb_W := tb_in (List.mem_of_getElem? (i := 255) (by decide +kernel)) (by decide +kernel)
theorem tm_257 : Cond.instanceMethod ⟨"java/lang/Throwable", "fillInStackTrace", "(I)Ljava/lang/Throwable;"⟩ ∈ tb_W := tb_in (List.mem_of_getElem? (i := 257) (by decide +kernel)) (by decide +kernel)
theorem tm_258 : Cond.instantiable "java/lang/Throwable" 6 ∈ tb_W := tb_in (List.mem_of_getElem? (i := 258) (by decide +kernel)) (by decide +kernel)
theorem tm_259 : Cond.native ⟨"java/lang/Throwable", "fillInStackTrace", "(I)Ljava/lang/Throwable;"⟩ ∈ tb_W := tb_in (List.mem_of_getElem? (i := 259) (by decide +kernel)) (by decide +kernel)
theorem tm_261 : Cond.methodLink "SpanDesk" 47 ⟨"java/lang/IllegalArgumentException", "<init>", "(Ljava/lang/String;)V"⟩ ∈ tb_W := tb_in (List.mem_of_getElem? (i := 261) (by decide +kernel)) (by decide +kernel)
theorem tm_262 : Cond.instanceMethod ⟨"java/lang/IllegalArgumentException", "<init>", "(Ljava/lang/String;)V"⟩ ∈ tb_W := tb_in (List.mem_of_getElem? (i := 262) (by decide +kernel)) (by decide +kernel)
theorem tm_263 : Cond.code ⟨"java/lang/IllegalArgumentException", "<init>", "(Ljava/lang/String;)V"⟩ prog_7_method_2_code 2 (Option.none : Option Jvm.ClassFile.FieldType) ∈ tb_W := tb_in (List.mem_of_getElem? (i := 263) (by decide +kernel)) (by decide +kernel)
theorem tm_264 : Cond.methodLink "java/lang/IllegalArgumentException" 7 ⟨"java/lang/RuntimeException", "<init>", "(Ljava/lang/String;)V"⟩ ∈ tb_W := tb_in (List.mem_of_getElem? (i := 264) (by decide +kernel)) (by decide +kernel)
theorem tm_265 : Cond.instanceMethod ⟨"java/lang/RuntimeException", "<init>", "(Ljava/lang/String;)V"⟩ ∈ tb_W := tb_in (List.mem_of_getElem? (i := 265) (by decide +kernel)) (by decide +kernel)
theorem tm_266 : Cond.code ⟨"java/lang/RuntimeException", "<init>", "(Ljava/lang/String;)V"⟩ prog_10_method_2_code 2 (Option.none : Option Jvm.ClassFile.FieldType) ∈ tb_W := tb_in (List.mem_of_getElem? (i := 266) (by decide +kernel)) (by decide +kernel)
theorem tm_267 : Cond.methodLink "java/lang/RuntimeException" 7 ⟨"java/lang/Exception", "<init>", "(Ljava/lang/String;)V"⟩ ∈ tb_W := tb_in (List.mem_of_getElem? (i := 267) (by decide +kernel)) (by decide +kernel)
theorem tm_268 : Cond.instanceMethod ⟨"java/lang/Exception", "<init>", "(Ljava/lang/String;)V"⟩ ∈ tb_W := tb_in (List.mem_of_getElem? (i := 268) (by decide +kernel)) (by decide +kernel)
theorem tm_269 : Cond.code ⟨"java/lang/Exception", "<init>", "(Ljava/lang/String;)V"⟩ prog_6_method_2_code 2 (Option.none : Option Jvm.ClassFile.FieldType) ∈ tb_W := tb_in (List.mem_of_getElem? (i := 269) (by decide +kernel)) (by decide +kernel)
theorem tm_270 : Cond.methodLink "java/lang/Exception" 7 ⟨"java/lang/Throwable", "<init>", "(Ljava/lang/String;)V"⟩ ∈ tb_W := tb_in (List.mem_of_getElem? (i := 270) (by decide +kernel)) (by decide +kernel)
theorem tm_271 : Cond.instanceMethod ⟨"java/lang/Throwable", "<init>", "(Ljava/lang/String;)V"⟩ ∈ tb_W := tb_in (List.mem_of_getElem? (i := 271) (by decide +kernel)) (by decide +kernel)
theorem tm_272 : Cond.code ⟨"java/lang/Throwable", "<init>", "(Ljava/lang/String;)V"⟩ prog_13_method_2_code 2 (Option.none : Option Jvm.ClassFile.FieldType) ∈ tb_W := tb_in (List.mem_of_getElem? (i := 272) (by decide +kernel)) (by decide +kernel)
theorem tm_274 : Cond.fieldLink "java/lang/Throwable" 31 "java/lang/Throwable" "detailMessage" "Ljava/lang/String;" ∈ tb_W := tb_in (List.mem_of_getElem? (i := 274) (by decide +kernel)) (by decide +kernel)
theorem tm_275 : Cond.fieldLink "java/lang/Throwable" 7 "java/lang/Throwable" "cause" "Ljava/lang/Throwable;" ∈ tb_W := tb_in (List.mem_of_getElem? (i := 275) (by decide +kernel)) (by decide +kernel)
theorem tm_276 : Cond.fieldLink "java/lang/Throwable" 17 "java/lang/Throwable" "stackTrace" "[Ljava/lang/StackTraceElement;" ∈ tb_W := tb_in (List.mem_of_getElem? (i := 276) (by decide +kernel)) (by decide +kernel)
theorem tm_277 : Cond.fieldLink "java/lang/Throwable" 24 "java/lang/Throwable" "suppressedExceptions" "Ljava/util/List;" ∈ tb_W := tb_in (List.mem_of_getElem? (i := 277) (by decide +kernel)) (by decide +kernel)
theorem tm_286 : Cond.arrayClass Jvm.ClassFile.FieldType.byte ∈ tb_W := tb_in (List.mem_of_getElem? (i := 286) (by decide +kernel)) (by decide +kernel)
theorem tm_287 : Cond.methodLink "SpanDesk" 50 ⟨"SpanDesk$Program", "namesUndefined", "()Z"⟩ ∈ tb_W := tb_in (List.mem_of_getElem? (i := 287) (by decide +kernel)) (by decide +kernel)
theorem tm_288 : Cond.instanceMethod ⟨"SpanDesk$Program", "namesUndefined", "()Z"⟩ ∈ tb_W := tb_in (List.mem_of_getElem? (i := 288) (by decide +kernel)) (by decide +kernel)
theorem tm_289 : Cond.selects "SpanDesk$Program" ⟨"SpanDesk$Program", "namesUndefined", "()Z"⟩ ⟨"SpanDesk$Program", "namesUndefined", "()Z"⟩ ∈ tb_W := tb_in (List.mem_of_getElem? (i := 289) (by decide +kernel)) (by decide +kernel)
theorem tm_290 : Cond.code ⟨"SpanDesk$Program", "namesUndefined", "()Z"⟩ prog_3_method_8_code 3 (Option.some Jvm.ClassFile.FieldType.boolean) ∈ tb_W := tb_in (List.mem_of_getElem? (i := 290) (by decide +kernel)) (by decide +kernel)
theorem tm_291 : Cond.classLink "SpanDesk" 53 "java/lang/IllegalStateException" ∈ tb_W := tb_in (List.mem_of_getElem? (i := 291) (by decide +kernel)) (by decide +kernel)
theorem tm_292 : Cond.instantiable "java/lang/IllegalStateException" 6 ∈ tb_W := tb_in (List.mem_of_getElem? (i := 292) (by decide +kernel)) (by decide +kernel)
theorem tm_294 : Cond.selects "java/lang/IllegalStateException" ⟨"java/lang/Throwable", "fillInStackTrace", "(I)Ljava/lang/Throwable;"⟩ ⟨"java/lang/Throwable", "fillInStackTrace", "(I)Ljava/lang/Throwable;"⟩ ∈ tb_W := tb_in (List.mem_of_getElem? (i := 294) (by decide +kernel)) (by decide +kernel)
theorem tm_301 : Cond.methodLink "SpanDesk" 57 ⟨"java/lang/IllegalStateException", "<init>", "(Ljava/lang/String;)V"⟩ ∈ tb_W := tb_in (List.mem_of_getElem? (i := 301) (by decide +kernel)) (by decide +kernel)
theorem tm_302 : Cond.instanceMethod ⟨"java/lang/IllegalStateException", "<init>", "(Ljava/lang/String;)V"⟩ ∈ tb_W := tb_in (List.mem_of_getElem? (i := 302) (by decide +kernel)) (by decide +kernel)
theorem tm_303 : Cond.code ⟨"java/lang/IllegalStateException", "<init>", "(Ljava/lang/String;)V"⟩ prog_8_method_2_code 2 (Option.none : Option Jvm.ClassFile.FieldType) ∈ tb_W := tb_in (List.mem_of_getElem? (i := 303) (by decide +kernel)) (by decide +kernel)
theorem tm_304 : Cond.methodLink "java/lang/IllegalStateException" 7 ⟨"java/lang/RuntimeException", "<init>", "(Ljava/lang/String;)V"⟩ ∈ tb_W := tb_in (List.mem_of_getElem? (i := 304) (by decide +kernel)) (by decide +kernel)
theorem tm_307 : Cond.methodLink "SpanDesk" 58 ⟨"SpanDesk$Assembly", "make", "(LSpanDesk$Program;)V"⟩ ∈ tb_W := tb_in (List.mem_of_getElem? (i := 307) (by decide +kernel)) (by decide +kernel)
theorem tm_308 : Cond.instanceMethod ⟨"SpanDesk$Assembly", "make", "(LSpanDesk$Program;)V"⟩ ∈ tb_W := tb_in (List.mem_of_getElem? (i := 308) (by decide +kernel)) (by decide +kernel)
theorem tm_309 : Cond.selects "SpanDesk$Assembly" ⟨"SpanDesk$Assembly", "make", "(LSpanDesk$Program;)V"⟩ ⟨"SpanDesk$Assembly", "make", "(LSpanDesk$Program;)V"⟩ ∈ tb_W := tb_in (List.mem_of_getElem? (i := 309) (by decide +kernel)) (by decide +kernel)
theorem tm_310 : Cond.code ⟨"SpanDesk$Assembly", "make", "(LSpanDesk$Program;)V"⟩ prog_2_method_3_code 3 (Option.none : Option Jvm.ClassFile.FieldType) ∈ tb_W := tb_in (List.mem_of_getElem? (i := 310) (by decide +kernel)) (by decide +kernel)
theorem tm_311 : Cond.methodLink "SpanDesk$Assembly" 38 ⟨"SpanDesk$Program", "copyFrom", "(LSpanDesk$Program;)V"⟩ ∈ tb_W := tb_in (List.mem_of_getElem? (i := 311) (by decide +kernel)) (by decide +kernel)
theorem tm_312 : Cond.instanceMethod ⟨"SpanDesk$Program", "copyFrom", "(LSpanDesk$Program;)V"⟩ ∈ tb_W := tb_in (List.mem_of_getElem? (i := 312) (by decide +kernel)) (by decide +kernel)
theorem tm_313 : Cond.selects "SpanDesk$Program" ⟨"SpanDesk$Program", "copyFrom", "(LSpanDesk$Program;)V"⟩ ⟨"SpanDesk$Program", "copyFrom", "(LSpanDesk$Program;)V"⟩ ∈ tb_W := tb_in (List.mem_of_getElem? (i := 313) (by decide +kernel)) (by decide +kernel)
theorem tm_314 : Cond.code ⟨"SpanDesk$Program", "copyFrom", "(LSpanDesk$Program;)V"⟩ prog_3_method_6_code 2 (Option.none : Option Jvm.ClassFile.FieldType) ∈ tb_W := tb_in (List.mem_of_getElem? (i := 314) (by decide +kernel)) (by decide +kernel)
theorem tm_315 : Cond.methodLink "SpanDesk$Assembly" 42 ⟨"SpanDesk$Assembly", "makeAllShort", "()V"⟩ ∈ tb_W := tb_in (List.mem_of_getElem? (i := 315) (by decide +kernel)) (by decide +kernel)
theorem tm_317 : Cond.instanceMethod ⟨"SpanDesk$Assembly", "makeAllShort", "()V"⟩ ∈ tb_W := tb_in (List.mem_of_getElem? (i := 317) (by decide +kernel)) (by decide +kernel)
theorem tm_318 : Cond.code ⟨"SpanDesk$Assembly", "makeAllShort", "()V"⟩ prog_2_method_4_code 2 (Option.none : Option Jvm.ClassFile.FieldType) ∈ tb_W := tb_in (List.mem_of_getElem? (i := 318) (by decide +kernel)) (by decide +kernel)
theorem tm_319 : Cond.methodLink "SpanDesk$Assembly" 45 ⟨"SpanDesk$Assembly", "place", "()V"⟩ ∈ tb_W := tb_in (List.mem_of_getElem? (i := 319) (by decide +kernel)) (by decide +kernel)
theorem tm_321 : Cond.instanceMethod ⟨"SpanDesk$Assembly", "place", "()V"⟩ ∈ tb_W := tb_in (List.mem_of_getElem? (i := 321) (by decide +kernel)) (by decide +kernel)
theorem tm_322 : Cond.code ⟨"SpanDesk$Assembly", "place", "()V"⟩ prog_2_method_5_code 3 (Option.none : Option Jvm.ClassFile.FieldType) ∈ tb_W := tb_in (List.mem_of_getElem? (i := 322) (by decide +kernel)) (by decide +kernel)
theorem tm_323 : Cond.methodLink "SpanDesk$Assembly" 48 ⟨"SpanDesk$Assembly", "lengthen", "()Z"⟩ ∈ tb_W := tb_in (List.mem_of_getElem? (i := 323) (by decide +kernel)) (by decide +kernel)
theorem tm_325 : Cond.instanceMethod ⟨"SpanDesk$Assembly", "lengthen", "()Z"⟩ ∈ tb_W := tb_in (List.mem_of_getElem? (i := 325) (by decide +kernel)) (by decide +kernel)
theorem tm_326 : Cond.code ⟨"SpanDesk$Assembly", "lengthen", "()Z"⟩ prog_2_method_6_code 3 (Option.some Jvm.ClassFile.FieldType.boolean) ∈ tb_W := tb_in (List.mem_of_getElem? (i := 326) (by decide +kernel)) (by decide +kernel)
theorem tm_327 : Cond.methodLink "SpanDesk" 62 ⟨"SpanDesk$Assembly", "size", "()I"⟩ ∈ tb_W := tb_in (List.mem_of_getElem? (i := 327) (by decide +kernel)) (by decide +kernel)
theorem tm_328 : Cond.methodLink "SpanDeskLaw" 71 ⟨"SpanDeskLaw", "follow", "(LSpanDesk;IZ[J)I"⟩ ∈ tb_W := tb_in (List.mem_of_getElem? (i := 328) (by decide +kernel)) (by decide +kernel)
theorem tm_329 : Cond.static ⟨"SpanDeskLaw", "follow", "(LSpanDesk;IZ[J)I"⟩ ∈ tb_W := tb_in (List.mem_of_getElem? (i := 329) (by decide +kernel)) (by decide +kernel)
theorem tm_330 : Cond.codeWith ⟨"SpanDeskLaw", "follow", "(LSpanDesk;IZ[J)I"⟩ method_4_code 5 (Option.some Jvm.ClassFile.FieldType.int) [(0, 10, 13, 21)] ∈ tb_W := tb_in (List.mem_of_getElem? (i := 330) (by decide +kernel)) (by decide +kernel)
theorem tm_331 : Cond.classLink "SpanDeskLaw" 21 "java/lang/IndexOutOfBoundsException" ∈ tb_W := tb_in (List.mem_of_getElem? (i := 331) (by decide +kernel)) (by decide +kernel)
theorem tm_332 : Cond.methodLink "SpanDeskLaw" 17 ⟨"SpanDesk", "follow", "(IZ)I"⟩ ∈ tb_W := tb_in (List.mem_of_getElem? (i := 332) (by decide +kernel)) (by decide +kernel)
theorem tm_333 : Cond.instanceMethod ⟨"SpanDesk", "follow", "(IZ)I"⟩ ∈ tb_W := tb_in (List.mem_of_getElem? (i := 333) (by decide +kernel)) (by decide +kernel)
theorem tm_334 : Cond.selects "SpanDesk" ⟨"SpanDesk", "follow", "(IZ)I"⟩ ⟨"SpanDesk", "follow", "(IZ)I"⟩ ∈ tb_W := tb_in (List.mem_of_getElem? (i := 334) (by decide +kernel)) (by decide +kernel)
theorem tm_335 : Cond.code ⟨"SpanDesk", "follow", "(IZ)I"⟩ prog_1_method_11_code 4 (Option.some Jvm.ClassFile.FieldType.int) ∈ tb_W := tb_in (List.mem_of_getElem? (i := 335) (by decide +kernel)) (by decide +kernel)
theorem tm_336 : Cond.classLink "SpanDesk" 95 "java/lang/IndexOutOfBoundsException" ∈ tb_W := tb_in (List.mem_of_getElem? (i := 336) (by decide +kernel)) (by decide +kernel)
theorem tm_337 : Cond.instantiable "java/lang/IndexOutOfBoundsException" 6 ∈ tb_W := tb_in (List.mem_of_getElem? (i := 337) (by decide +kernel)) (by decide +kernel)
theorem tm_339 : Cond.selects "java/lang/IndexOutOfBoundsException" ⟨"java/lang/Throwable", "fillInStackTrace", "(I)Ljava/lang/Throwable;"⟩ ⟨"java/lang/Throwable", "fillInStackTrace", "(I)Ljava/lang/Throwable;"⟩ ∈ tb_W := tb_in (List.mem_of_getElem? (i := 339) (by decide +kernel)) (by decide +kernel)
theorem tm_346 : Cond.methodLink "SpanDesk" 99 ⟨"java/lang/IndexOutOfBoundsException", "<init>", "(Ljava/lang/String;)V"⟩ ∈ tb_W := tb_in (List.mem_of_getElem? (i := 346) (by decide +kernel)) (by decide +kernel)
theorem tm_347 : Cond.instanceMethod ⟨"java/lang/IndexOutOfBoundsException", "<init>", "(Ljava/lang/String;)V"⟩ ∈ tb_W := tb_in (List.mem_of_getElem? (i := 347) (by decide +kernel)) (by decide +kernel)
theorem tm_348 : Cond.code ⟨"java/lang/IndexOutOfBoundsException", "<init>", "(Ljava/lang/String;)V"⟩ prog_9_method_2_code 2 (Option.none : Option Jvm.ClassFile.FieldType) ∈ tb_W := tb_in (List.mem_of_getElem? (i := 348) (by decide +kernel)) (by decide +kernel)
theorem tm_349 : Cond.methodLink "java/lang/IndexOutOfBoundsException" 7 ⟨"java/lang/RuntimeException", "<init>", "(Ljava/lang/String;)V"⟩ ∈ tb_W := tb_in (List.mem_of_getElem? (i := 349) (by decide +kernel)) (by decide +kernel)
theorem tm_352 : Cond.classLink "SpanDeskLaw" 24 "SpanDeskModel" ∈ tb_W := tb_in (List.mem_of_getElem? (i := 352) (by decide +kernel)) (by decide +kernel)
theorem tm_353 : Cond.instantiable "SpanDeskModel" 11 ∈ tb_W := tb_in (List.mem_of_getElem? (i := 353) (by decide +kernel)) (by decide +kernel)
theorem tm_354 : Cond.methodLink "SpanDeskLaw" 26 ⟨"SpanDeskModel", "<init>", "()V"⟩ ∈ tb_W := tb_in (List.mem_of_getElem? (i := 354) (by decide +kernel)) (by decide +kernel)
theorem tm_355 : Cond.instanceMethod ⟨"SpanDeskModel", "<init>", "()V"⟩ ∈ tb_W := tb_in (List.mem_of_getElem? (i := 355) (by decide +kernel)) (by decide +kernel)
theorem tm_356 : Cond.code ⟨"SpanDeskModel", "<init>", "()V"⟩ prog_5_method_1_code 1 (Option.none : Option Jvm.ClassFile.FieldType) ∈ tb_W := tb_in (List.mem_of_getElem? (i := 356) (by decide +kernel)) (by decide +kernel)
theorem tm_357 : Cond.methodLink "SpanDeskModel" 1 ⟨"java/lang/Object", "<init>", "()V"⟩ ∈ tb_W := tb_in (List.mem_of_getElem? (i := 357) (by decide +kernel)) (by decide +kernel)
theorem tm_358 : Cond.fieldLink "SpanDeskModel" 31 "SpanDeskModel" "thrown" "I" ∈ tb_W := tb_in (List.mem_of_getElem? (i := 358) (by decide +kernel)) (by decide +kernel)
theorem tm_359 : Cond.fieldLink "SpanDeskModel" 39 "SpanDeskModel" "lines" "I" ∈ tb_W := tb_in (List.mem_of_getElem? (i := 359) (by decide +kernel)) (by decide +kernel)
theorem tm_360 : Cond.fieldLink "SpanDeskModel" 7 "SpanDeskModel" "kind" "[I" ∈ tb_W := tb_in (List.mem_of_getElem? (i := 360) (by decide +kernel)) (by decide +kernel)
theorem tm_361 : Cond.fieldLink "SpanDeskModel" 13 "SpanDeskModel" "a" "[I" ∈ tb_W := tb_in (List.mem_of_getElem? (i := 361) (by decide +kernel)) (by decide +kernel)
theorem tm_362 : Cond.fieldLink "SpanDeskModel" 16 "SpanDeskModel" "b" "[I" ∈ tb_W := tb_in (List.mem_of_getElem? (i := 362) (by decide +kernel)) (by decide +kernel)
theorem tm_363 : Cond.fieldLink "SpanDeskModel" 49 "SpanDeskModel" "made" "I" ∈ tb_W := tb_in (List.mem_of_getElem? (i := 363) (by decide +kernel)) (by decide +kernel)
theorem tm_364 : Cond.fieldLink "SpanDeskModel" 19 "SpanDeskModel" "madeKind" "[I" ∈ tb_W := tb_in (List.mem_of_getElem? (i := 364) (by decide +kernel)) (by decide +kernel)
theorem tm_365 : Cond.fieldLink "SpanDeskModel" 22 "SpanDeskModel" "madeA" "[I" ∈ tb_W := tb_in (List.mem_of_getElem? (i := 365) (by decide +kernel)) (by decide +kernel)
theorem tm_366 : Cond.fieldLink "SpanDeskModel" 25 "SpanDeskModel" "madeB" "[I" ∈ tb_W := tb_in (List.mem_of_getElem? (i := 366) (by decide +kernel)) (by decide +kernel)
theorem tm_367 : Cond.fieldLink "SpanDeskModel" 28 "SpanDeskModel" "size" "[I" ∈ tb_W := tb_in (List.mem_of_getElem? (i := 367) (by decide +kernel)) (by decide +kernel)
theorem tm_368 : Cond.fieldLink "SpanDeskModel" 65 "SpanDeskModel" "bytes" "I" ∈ tb_W := tb_in (List.mem_of_getElem? (i := 368) (by decide +kernel)) (by decide +kernel)
theorem tm_392 : Cond.methodLink "SpanDeskLaw" 47 ⟨"SpanDeskModel", "thrown", "()I"⟩ ∈ tb_W := tb_in (List.mem_of_getElem? (i := 392) (by decide +kernel)) (by decide +kernel)
theorem tm_393 : Cond.instanceMethod ⟨"SpanDeskModel", "thrown", "()I"⟩ ∈ tb_W := tb_in (List.mem_of_getElem? (i := 393) (by decide +kernel)) (by decide +kernel)
theorem tm_394 : Cond.selects "SpanDeskModel" ⟨"SpanDeskModel", "thrown", "()I"⟩ ⟨"SpanDeskModel", "thrown", "()I"⟩ ∈ tb_W := tb_in (List.mem_of_getElem? (i := 394) (by decide +kernel)) (by decide +kernel)
theorem tm_395 : Cond.code ⟨"SpanDeskModel", "thrown", "()I"⟩ prog_5_method_2_code 1 (Option.some Jvm.ClassFile.FieldType.int) ∈ tb_W := tb_in (List.mem_of_getElem? (i := 395) (by decide +kernel)) (by decide +kernel)
theorem tm_396 : Cond.methodLink "SpanDeskLaw" 31 ⟨"SpanDeskModel", "insert", "(IIII)Z"⟩ ∈ tb_W := tb_in (List.mem_of_getElem? (i := 396) (by decide +kernel)) (by decide +kernel)
theorem tm_397 : Cond.instanceMethod ⟨"SpanDeskModel", "insert", "(IIII)Z"⟩ ∈ tb_W := tb_in (List.mem_of_getElem? (i := 397) (by decide +kernel)) (by decide +kernel)
theorem tm_398 : Cond.selects "SpanDeskModel" ⟨"SpanDeskModel", "insert", "(IIII)Z"⟩ ⟨"SpanDeskModel", "insert", "(IIII)Z"⟩ ∈ tb_W := tb_in (List.mem_of_getElem? (i := 398) (by decide +kernel)) (by decide +kernel)
theorem tm_399 : Cond.code ⟨"SpanDeskModel", "insert", "(IIII)Z"⟩ prog_5_method_5_code 6 (Option.some Jvm.ClassFile.FieldType.boolean) ∈ tb_W := tb_in (List.mem_of_getElem? (i := 399) (by decide +kernel)) (by decide +kernel)
theorem tm_400 : Cond.methodLink "SpanDeskModel" 42 ⟨"SpanDeskModel", "good", "(III)Z"⟩ ∈ tb_W := tb_in (List.mem_of_getElem? (i := 400) (by decide +kernel)) (by decide +kernel)
theorem tm_401 : Cond.static ⟨"SpanDeskModel", "good", "(III)Z"⟩ ∈ tb_W := tb_in (List.mem_of_getElem? (i := 401) (by decide +kernel)) (by decide +kernel)
theorem tm_402 : Cond.code ⟨"SpanDeskModel", "good", "(III)Z"⟩ prog_5_method_4_code 3 (Option.some Jvm.ClassFile.FieldType.boolean) ∈ tb_W := tb_in (List.mem_of_getElem? (i := 402) (by decide +kernel)) (by decide +kernel)
theorem tm_403 : Cond.methodLink "SpanDeskModel" 35 ⟨"SpanDeskModel", "in", "(III)Z"⟩ ∈ tb_W := tb_in (List.mem_of_getElem? (i := 403) (by decide +kernel)) (by decide +kernel)
theorem tm_404 : Cond.static ⟨"SpanDeskModel", "in", "(III)Z"⟩ ∈ tb_W := tb_in (List.mem_of_getElem? (i := 404) (by decide +kernel)) (by decide +kernel)
theorem tm_405 : Cond.code ⟨"SpanDeskModel", "in", "(III)Z"⟩ prog_5_method_3_code 3 (Option.some Jvm.ClassFile.FieldType.boolean) ∈ tb_W := tb_in (List.mem_of_getElem? (i := 405) (by decide +kernel)) (by decide +kernel)
theorem tm_406 : Cond.methodLink "SpanDeskLaw" 36 ⟨"SpanDeskModel", "remove", "(I)Z"⟩ ∈ tb_W := tb_in (List.mem_of_getElem? (i := 406) (by decide +kernel)) (by decide +kernel)
theorem tm_407 : Cond.instanceMethod ⟨"SpanDeskModel", "remove", "(I)Z"⟩ ∈ tb_W := tb_in (List.mem_of_getElem? (i := 407) (by decide +kernel)) (by decide +kernel)
theorem tm_408 : Cond.selects "SpanDeskModel" ⟨"SpanDeskModel", "remove", "(I)Z"⟩ ⟨"SpanDeskModel", "remove", "(I)Z"⟩ ∈ tb_W := tb_in (List.mem_of_getElem? (i := 408) (by decide +kernel)) (by decide +kernel)
theorem tm_409 : Cond.code ⟨"SpanDeskModel", "remove", "(I)Z"⟩ prog_5_method_6_code 3 (Option.some Jvm.ClassFile.FieldType.boolean) ∈ tb_W := tb_in (List.mem_of_getElem? (i := 409) (by decide +kernel)) (by decide +kernel)
theorem tm_410 : Cond.methodLink "SpanDeskLaw" 40 ⟨"SpanDeskModel", "lines", "()I"⟩ ∈ tb_W := tb_in (List.mem_of_getElem? (i := 410) (by decide +kernel)) (by decide +kernel)
theorem tm_411 : Cond.instanceMethod ⟨"SpanDeskModel", "lines", "()I"⟩ ∈ tb_W := tb_in (List.mem_of_getElem? (i := 411) (by decide +kernel)) (by decide +kernel)
theorem tm_412 : Cond.selects "SpanDeskModel" ⟨"SpanDeskModel", "lines", "()I"⟩ ⟨"SpanDeskModel", "lines", "()I"⟩ ∈ tb_W := tb_in (List.mem_of_getElem? (i := 412) (by decide +kernel)) (by decide +kernel)
theorem tm_413 : Cond.code ⟨"SpanDeskModel", "lines", "()I"⟩ prog_5_method_7_code 1 (Option.some Jvm.ClassFile.FieldType.int) ∈ tb_W := tb_in (List.mem_of_getElem? (i := 413) (by decide +kernel)) (by decide +kernel)
theorem tm_414 : Cond.methodLink "SpanDeskLaw" 46 ⟨"SpanDeskModel", "assemble", "()I"⟩ ∈ tb_W := tb_in (List.mem_of_getElem? (i := 414) (by decide +kernel)) (by decide +kernel)
theorem tm_415 : Cond.instanceMethod ⟨"SpanDeskModel", "assemble", "()I"⟩ ∈ tb_W := tb_in (List.mem_of_getElem? (i := 415) (by decide +kernel)) (by decide +kernel)
theorem tm_416 : Cond.selects "SpanDeskModel" ⟨"SpanDeskModel", "assemble", "()I"⟩ ⟨"SpanDeskModel", "assemble", "()I"⟩ ∈ tb_W := tb_in (List.mem_of_getElem? (i := 416) (by decide +kernel)) (by decide +kernel)
theorem tm_417 : Cond.code ⟨"SpanDeskModel", "assemble", "()I"⟩ prog_5_method_13_code 4 (Option.some Jvm.ClassFile.FieldType.int) ∈ tb_W := tb_in (List.mem_of_getElem? (i := 417) (by decide +kernel)) (by decide +kernel)
theorem tm_418 : Cond.methodLink "SpanDeskModel" 58 ⟨"SpanDeskModel", "wrong", "()I"⟩ ∈ tb_W := tb_in (List.mem_of_getElem? (i := 418) (by decide +kernel)) (by decide +kernel)
theorem tm_420 : Cond.instanceMethod ⟨"SpanDeskModel", "wrong", "()I"⟩ ∈ tb_W := tb_in (List.mem_of_getElem? (i := 420) (by decide +kernel)) (by decide +kernel)
theorem tm_421 : Cond.code ⟨"SpanDeskModel", "wrong", "()I"⟩ prog_5_method_9_code 3 (Option.some Jvm.ClassFile.FieldType.int) ∈ tb_W := tb_in (List.mem_of_getElem? (i := 421) (by decide +kernel)) (by decide +kernel)
theorem tm_422 : Cond.methodLink "SpanDeskModel" 45 ⟨"SpanDeskModel", "definitions", "(I)I"⟩ ∈ tb_W := tb_in (List.mem_of_getElem? (i := 422) (by decide +kernel)) (by decide +kernel)
theorem tm_424 : Cond.instanceMethod ⟨"SpanDeskModel", "definitions", "(I)I"⟩ ∈ tb_W := tb_in (List.mem_of_getElem? (i := 424) (by decide +kernel)) (by decide +kernel)
theorem tm_425 : Cond.code ⟨"SpanDeskModel", "definitions", "(I)I"⟩ prog_5_method_8_code 4 (Option.some Jvm.ClassFile.FieldType.int) ∈ tb_W := tb_in (List.mem_of_getElem? (i := 425) (by decide +kernel)) (by decide +kernel)
theorem tm_426 : Cond.methodLink "SpanDeskModel" 62 ⟨"SpanDeskModel", "span", "(I)I"⟩ ∈ tb_W := tb_in (List.mem_of_getElem? (i := 426) (by decide +kernel)) (by decide +kernel)
theorem tm_428 : Cond.instanceMethod ⟨"SpanDeskModel", "span", "(I)I"⟩ ∈ tb_W := tb_in (List.mem_of_getElem? (i := 428) (by decide +kernel)) (by decide +kernel)
theorem tm_429 : Cond.code ⟨"SpanDeskModel", "span", "(I)I"⟩ prog_5_method_12_code 2 (Option.some Jvm.ClassFile.FieldType.int) ∈ tb_W := tb_in (List.mem_of_getElem? (i := 429) (by decide +kernel)) (by decide +kernel)
theorem tm_430 : Cond.methodLink "SpanDeskModel" 55 ⟨"SpanDeskModel", "labelled", "(I)I"⟩ ∈ tb_W := tb_in (List.mem_of_getElem? (i := 430) (by decide +kernel)) (by decide +kernel)
theorem tm_432 : Cond.instanceMethod ⟨"SpanDeskModel", "labelled", "(I)I"⟩ ∈ tb_W := tb_in (List.mem_of_getElem? (i := 432) (by decide +kernel)) (by decide +kernel)
theorem tm_433 : Cond.code ⟨"SpanDeskModel", "labelled", "(I)I"⟩ prog_5_method_11_code 3 (Option.some Jvm.ClassFile.FieldType.int) ∈ tb_W := tb_in (List.mem_of_getElem? (i := 433) (by decide +kernel)) (by decide +kernel)
theorem tm_434 : Cond.methodLink "SpanDeskModel" 52 ⟨"SpanDeskModel", "place", "(I)I"⟩ ∈ tb_W := tb_in (List.mem_of_getElem? (i := 434) (by decide +kernel)) (by decide +kernel)
theorem tm_436 : Cond.instanceMethod ⟨"SpanDeskModel", "place", "(I)I"⟩ ∈ tb_W := tb_in (List.mem_of_getElem? (i := 436) (by decide +kernel)) (by decide +kernel)
theorem tm_437 : Cond.code ⟨"SpanDeskModel", "place", "(I)I"⟩ prog_5_method_10_code 4 (Option.some Jvm.ClassFile.FieldType.int) ∈ tb_W := tb_in (List.mem_of_getElem? (i := 437) (by decide +kernel)) (by decide +kernel)
theorem tm_438 : Cond.methodLink "SpanDeskLaw" 54 ⟨"SpanDeskModel", "at", "(I)I"⟩ ∈ tb_W := tb_in (List.mem_of_getElem? (i := 438) (by decide +kernel)) (by decide +kernel)
theorem tm_439 : Cond.instanceMethod ⟨"SpanDeskModel", "at", "(I)I"⟩ ∈ tb_W := tb_in (List.mem_of_getElem? (i := 439) (by decide +kernel)) (by decide +kernel)
theorem tm_440 : Cond.selects "SpanDeskModel" ⟨"SpanDeskModel", "at", "(I)I"⟩ ⟨"SpanDeskModel", "at", "(I)I"⟩ ∈ tb_W := tb_in (List.mem_of_getElem? (i := 440) (by decide +kernel)) (by decide +kernel)
theorem tm_441 : Cond.code ⟨"SpanDeskModel", "at", "(I)I"⟩ prog_5_method_16_code 2 (Option.some Jvm.ClassFile.FieldType.int) ∈ tb_W := tb_in (List.mem_of_getElem? (i := 441) (by decide +kernel)) (by decide +kernel)
theorem tm_442 : Cond.methodLink "SpanDeskModel" 72 ⟨"SpanDeskModel", "byteAt", "(I)I"⟩ ∈ tb_W := tb_in (List.mem_of_getElem? (i := 442) (by decide +kernel)) (by decide +kernel)
theorem tm_444 : Cond.instanceMethod ⟨"SpanDeskModel", "byteAt", "(I)I"⟩ ∈ tb_W := tb_in (List.mem_of_getElem? (i := 444) (by decide +kernel)) (by decide +kernel)
theorem tm_445 : Cond.code ⟨"SpanDeskModel", "byteAt", "(I)I"⟩ prog_5_method_15_code 5 (Option.some Jvm.ClassFile.FieldType.int) ∈ tb_W := tb_in (List.mem_of_getElem? (i := 445) (by decide +kernel)) (by decide +kernel)
theorem tm_446 : Cond.methodLink "SpanDeskModel" 68 ⟨"SpanDeskModel", "jumpByte", "(II)I"⟩ ∈ tb_W := tb_in (List.mem_of_getElem? (i := 446) (by decide +kernel)) (by decide +kernel)
theorem tm_448 : Cond.instanceMethod ⟨"SpanDeskModel", "jumpByte", "(II)I"⟩ ∈ tb_W := tb_in (List.mem_of_getElem? (i := 448) (by decide +kernel)) (by decide +kernel)
theorem tm_449 : Cond.code ⟨"SpanDeskModel", "jumpByte", "(II)I"⟩ prog_5_method_14_code 7 (Option.some Jvm.ClassFile.FieldType.int) ∈ tb_W := tb_in (List.mem_of_getElem? (i := 449) (by decide +kernel)) (by decide +kernel)
theorem tm_450 : Cond.methodLink "SpanDeskLaw" 58 ⟨"SpanDeskModel", "address", "(I)I"⟩ ∈ tb_W := tb_in (List.mem_of_getElem? (i := 450) (by decide +kernel)) (by decide +kernel)
theorem tm_451 : Cond.instanceMethod ⟨"SpanDeskModel", "address", "(I)I"⟩ ∈ tb_W := tb_in (List.mem_of_getElem? (i := 451) (by decide +kernel)) (by decide +kernel)
theorem tm_452 : Cond.selects "SpanDeskModel" ⟨"SpanDeskModel", "address", "(I)I"⟩ ⟨"SpanDeskModel", "address", "(I)I"⟩ ∈ tb_W := tb_in (List.mem_of_getElem? (i := 452) (by decide +kernel)) (by decide +kernel)
theorem tm_453 : Cond.code ⟨"SpanDeskModel", "address", "(I)I"⟩ prog_5_method_17_code 2 (Option.some Jvm.ClassFile.FieldType.int) ∈ tb_W := tb_in (List.mem_of_getElem? (i := 453) (by decide +kernel)) (by decide +kernel)
theorem tm_454 : Cond.methodLink "SpanDeskLaw" 62 ⟨"SpanDeskModel", "form", "(I)I"⟩ ∈ tb_W := tb_in (List.mem_of_getElem? (i := 454) (by decide +kernel)) (by decide +kernel)
theorem tm_455 : Cond.instanceMethod ⟨"SpanDeskModel", "form", "(I)I"⟩ ∈ tb_W := tb_in (List.mem_of_getElem? (i := 455) (by decide +kernel)) (by decide +kernel)
theorem tm_456 : Cond.selects "SpanDeskModel" ⟨"SpanDeskModel", "form", "(I)I"⟩ ⟨"SpanDeskModel", "form", "(I)I"⟩ ∈ tb_W := tb_in (List.mem_of_getElem? (i := 456) (by decide +kernel)) (by decide +kernel)
theorem tm_457 : Cond.code ⟨"SpanDeskModel", "form", "(I)I"⟩ prog_5_method_18_code 2 (Option.some Jvm.ClassFile.FieldType.int) ∈ tb_W := tb_in (List.mem_of_getElem? (i := 457) (by decide +kernel)) (by decide +kernel)
theorem tm_458 : Cond.methodLink "SpanDeskLaw" 66 ⟨"SpanDeskModel", "longs", "()I"⟩ ∈ tb_W := tb_in (List.mem_of_getElem? (i := 458) (by decide +kernel)) (by decide +kernel)
theorem tm_459 : Cond.instanceMethod ⟨"SpanDeskModel", "longs", "()I"⟩ ∈ tb_W := tb_in (List.mem_of_getElem? (i := 459) (by decide +kernel)) (by decide +kernel)
theorem tm_460 : Cond.selects "SpanDeskModel" ⟨"SpanDeskModel", "longs", "()I"⟩ ⟨"SpanDeskModel", "longs", "()I"⟩ ∈ tb_W := tb_in (List.mem_of_getElem? (i := 460) (by decide +kernel)) (by decide +kernel)
theorem tm_461 : Cond.code ⟨"SpanDeskModel", "longs", "()I"⟩ prog_5_method_19_code 3 (Option.some Jvm.ClassFile.FieldType.int) ∈ tb_W := tb_in (List.mem_of_getElem? (i := 461) (by decide +kernel)) (by decide +kernel)
theorem tm_462 : Cond.methodLink "SpanDeskLaw" 70 ⟨"SpanDeskModel", "value", "(I)I"⟩ ∈ tb_W := tb_in (List.mem_of_getElem? (i := 462) (by decide +kernel)) (by decide +kernel)
theorem tm_463 : Cond.instanceMethod ⟨"SpanDeskModel", "value", "(I)I"⟩ ∈ tb_W := tb_in (List.mem_of_getElem? (i := 463) (by decide +kernel)) (by decide +kernel)
theorem tm_464 : Cond.selects "SpanDeskModel" ⟨"SpanDeskModel", "value", "(I)I"⟩ ⟨"SpanDeskModel", "value", "(I)I"⟩ ∈ tb_W := tb_in (List.mem_of_getElem? (i := 464) (by decide +kernel)) (by decide +kernel)
theorem tm_465 : Cond.code ⟨"SpanDeskModel", "value", "(I)I"⟩ prog_5_method_20_code 2 (Option.some Jvm.ClassFile.FieldType.int) ∈ tb_W := tb_in (List.mem_of_getElem? (i := 465) (by decide +kernel)) (by decide +kernel)
theorem tm_466 : Cond.methodLink "SpanDeskLaw" 74 ⟨"SpanDeskModel", "follow", "(IZ)I"⟩ ∈ tb_W := tb_in (List.mem_of_getElem? (i := 466) (by decide +kernel)) (by decide +kernel)
theorem tm_467 : Cond.instanceMethod ⟨"SpanDeskModel", "follow", "(IZ)I"⟩ ∈ tb_W := tb_in (List.mem_of_getElem? (i := 467) (by decide +kernel)) (by decide +kernel)
theorem tm_468 : Cond.selects "SpanDeskModel" ⟨"SpanDeskModel", "follow", "(IZ)I"⟩ ⟨"SpanDeskModel", "follow", "(IZ)I"⟩ ∈ tb_W := tb_in (List.mem_of_getElem? (i := 468) (by decide +kernel)) (by decide +kernel)
theorem tm_469 : Cond.code ⟨"SpanDeskModel", "follow", "(IZ)I"⟩ prog_5_method_23_code 3 (Option.some Jvm.ClassFile.FieldType.int) ∈ tb_W := tb_in (List.mem_of_getElem? (i := 469) (by decide +kernel)) (by decide +kernel)
theorem tm_470 : Cond.methodLink "SpanDeskModel" 75 ⟨"SpanDeskModel", "length", "(I)I"⟩ ∈ tb_W := tb_in (List.mem_of_getElem? (i := 470) (by decide +kernel)) (by decide +kernel)
theorem tm_472 : Cond.instanceMethod ⟨"SpanDeskModel", "length", "(I)I"⟩ ∈ tb_W := tb_in (List.mem_of_getElem? (i := 472) (by decide +kernel)) (by decide +kernel)
theorem tm_473 : Cond.code ⟨"SpanDeskModel", "length", "(I)I"⟩ prog_5_method_21_code 4 (Option.some Jvm.ClassFile.FieldType.int) ∈ tb_W := tb_in (List.mem_of_getElem? (i := 473) (by decide +kernel)) (by decide +kernel)
theorem tm_474 : Cond.methodLink "SpanDeskModel" 78 ⟨"SpanDeskModel", "next", "(IZ)I"⟩ ∈ tb_W := tb_in (List.mem_of_getElem? (i := 474) (by decide +kernel)) (by decide +kernel)
theorem tm_476 : Cond.instanceMethod ⟨"SpanDeskModel", "next", "(IZ)I"⟩ ∈ tb_W := tb_in (List.mem_of_getElem? (i := 476) (by decide +kernel)) (by decide +kernel)
theorem tm_477 : Cond.code ⟨"SpanDeskModel", "next", "(IZ)I"⟩ prog_5_method_22_code 7 (Option.some Jvm.ClassFile.FieldType.int) ∈ tb_W := tb_in (List.mem_of_getElem? (i := 477) (by decide +kernel)) (by decide +kernel)
theorem tm_478 : Cond.methodLink "SpanDeskLaw" 78 ⟨"SpanDeskModel", "jumps", "(I)Z"⟩ ∈ tb_W := tb_in (List.mem_of_getElem? (i := 478) (by decide +kernel)) (by decide +kernel)
theorem tm_479 : Cond.instanceMethod ⟨"SpanDeskModel", "jumps", "(I)Z"⟩ ∈ tb_W := tb_in (List.mem_of_getElem? (i := 479) (by decide +kernel)) (by decide +kernel)
theorem tm_480 : Cond.selects "SpanDeskModel" ⟨"SpanDeskModel", "jumps", "(I)Z"⟩ ⟨"SpanDeskModel", "jumps", "(I)Z"⟩ ∈ tb_W := tb_in (List.mem_of_getElem? (i := 480) (by decide +kernel)) (by decide +kernel)
theorem tm_481 : Cond.code ⟨"SpanDeskModel", "jumps", "(I)Z"⟩ prog_5_method_24_code 2 (Option.some Jvm.ClassFile.FieldType.boolean) ∈ tb_W := tb_in (List.mem_of_getElem? (i := 481) (by decide +kernel)) (by decide +kernel)
theorem tm_482 : Cond.methodLink "SpanDeskLaw" 83 ⟨"SpanDeskModel", "trace", "(III)I"⟩ ∈ tb_W := tb_in (List.mem_of_getElem? (i := 482) (by decide +kernel)) (by decide +kernel)
theorem tm_483 : Cond.instanceMethod ⟨"SpanDeskModel", "trace", "(III)I"⟩ ∈ tb_W := tb_in (List.mem_of_getElem? (i := 483) (by decide +kernel)) (by decide +kernel)
theorem tm_484 : Cond.selects "SpanDeskModel" ⟨"SpanDeskModel", "trace", "(III)I"⟩ ⟨"SpanDeskModel", "trace", "(III)I"⟩ ∈ tb_W := tb_in (List.mem_of_getElem? (i := 484) (by decide +kernel)) (by decide +kernel)
theorem tm_485 : Cond.code ⟨"SpanDeskModel", "trace", "(III)I"⟩ prog_5_method_25_code 8 (Option.some Jvm.ClassFile.FieldType.int) ∈ tb_W := tb_in (List.mem_of_getElem? (i := 485) (by decide +kernel)) (by decide +kernel)
theorem tm_486 : Cond.arrayClass Jvm.ClassFile.FieldType.long ∈ tb_W := tb_in (List.mem_of_getElem? (i := 486) (by decide +kernel)) (by decide +kernel)
theorem tm_s0 : Cond.selects "SpanDesk$Program" ⟨"SpanDesk$Program", "shift", "(III)V"⟩ ⟨"SpanDesk$Program", "shift", "(III)V"⟩ ∈ tb_W := tb_sel (List.mem_of_getElem? (i := 0) (by decide +kernel)) (by decide +kernel)
theorem tm_s1 : Cond.selects "SpanDesk$Assembly" ⟨"SpanDesk$Assembly", "lineByte", "(II)I"⟩ ⟨"SpanDesk$Assembly", "lineByte", "(II)I"⟩ ∈ tb_W := tb_sel (List.mem_of_getElem? (i := 1) (by decide +kernel)) (by decide +kernel)
theorem tm_s2 : Cond.selects "SpanDesk$Assembly" ⟨"SpanDesk$Assembly", "longByte", "(II)I"⟩ ⟨"SpanDesk$Assembly", "longByte", "(II)I"⟩ ∈ tb_W := tb_sel (List.mem_of_getElem? (i := 2) (by decide +kernel)) (by decide +kernel)
theorem tm_s3 : Cond.selects "SpanDesk$Assembly" ⟨"SpanDesk$Assembly", "lineSize", "(I)I"⟩ ⟨"SpanDesk$Assembly", "lineSize", "(I)I"⟩ ∈ tb_W := tb_sel (List.mem_of_getElem? (i := 3) (by decide +kernel)) (by decide +kernel)
theorem tm_s4 : Cond.selects "SpanDesk$Assembly" ⟨"SpanDesk$Assembly", "distance", "(I)I"⟩ ⟨"SpanDesk$Assembly", "distance", "(I)I"⟩ ∈ tb_W := tb_sel (List.mem_of_getElem? (i := 4) (by decide +kernel)) (by decide +kernel)
theorem tm_s5 : Cond.selects "SpanDesk$Assembly" ⟨"SpanDesk$Assembly", "shortByte", "(II)I"⟩ ⟨"SpanDesk$Assembly", "shortByte", "(II)I"⟩ ∈ tb_W := tb_sel (List.mem_of_getElem? (i := 5) (by decide +kernel)) (by decide +kernel)
theorem tm_s6 : Cond.selects "SpanDesk$Program" ⟨"SpanDesk$Program", "countDefined", "(I)I"⟩ ⟨"SpanDesk$Program", "countDefined", "(I)I"⟩ ∈ tb_W := tb_sel (List.mem_of_getElem? (i := 6) (by decide +kernel)) (by decide +kernel)
theorem tm_s7 : Cond.selects "java/lang/Throwable" ⟨"java/lang/Throwable", "fillInStackTrace", "(I)Ljava/lang/Throwable;"⟩ ⟨"java/lang/Throwable", "fillInStackTrace", "(I)Ljava/lang/Throwable;"⟩ ∈ tb_W := tb_sel (List.mem_of_getElem? (i := 7) (by decide +kernel)) (by decide +kernel)
theorem tm_s8 : Cond.selects "SpanDesk$Assembly" ⟨"SpanDesk$Assembly", "makeAllShort", "()V"⟩ ⟨"SpanDesk$Assembly", "makeAllShort", "()V"⟩ ∈ tb_W := tb_sel (List.mem_of_getElem? (i := 8) (by decide +kernel)) (by decide +kernel)
theorem tm_s9 : Cond.selects "SpanDesk$Assembly" ⟨"SpanDesk$Assembly", "place", "()V"⟩ ⟨"SpanDesk$Assembly", "place", "()V"⟩ ∈ tb_W := tb_sel (List.mem_of_getElem? (i := 9) (by decide +kernel)) (by decide +kernel)
theorem tm_s10 : Cond.selects "SpanDesk$Assembly" ⟨"SpanDesk$Assembly", "lengthen", "()Z"⟩ ⟨"SpanDesk$Assembly", "lengthen", "()Z"⟩ ∈ tb_W := tb_sel (List.mem_of_getElem? (i := 10) (by decide +kernel)) (by decide +kernel)
theorem tm_s11 : Cond.selects "SpanDeskModel" ⟨"SpanDeskModel", "wrong", "()I"⟩ ⟨"SpanDeskModel", "wrong", "()I"⟩ ∈ tb_W := tb_sel (List.mem_of_getElem? (i := 11) (by decide +kernel)) (by decide +kernel)
theorem tm_s12 : Cond.selects "SpanDeskModel" ⟨"SpanDeskModel", "definitions", "(I)I"⟩ ⟨"SpanDeskModel", "definitions", "(I)I"⟩ ∈ tb_W := tb_sel (List.mem_of_getElem? (i := 12) (by decide +kernel)) (by decide +kernel)
theorem tm_s13 : Cond.selects "SpanDeskModel" ⟨"SpanDeskModel", "span", "(I)I"⟩ ⟨"SpanDeskModel", "span", "(I)I"⟩ ∈ tb_W := tb_sel (List.mem_of_getElem? (i := 13) (by decide +kernel)) (by decide +kernel)
theorem tm_s14 : Cond.selects "SpanDeskModel" ⟨"SpanDeskModel", "labelled", "(I)I"⟩ ⟨"SpanDeskModel", "labelled", "(I)I"⟩ ∈ tb_W := tb_sel (List.mem_of_getElem? (i := 14) (by decide +kernel)) (by decide +kernel)
theorem tm_s15 : Cond.selects "SpanDeskModel" ⟨"SpanDeskModel", "place", "(I)I"⟩ ⟨"SpanDeskModel", "place", "(I)I"⟩ ∈ tb_W := tb_sel (List.mem_of_getElem? (i := 15) (by decide +kernel)) (by decide +kernel)
theorem tm_s16 : Cond.selects "SpanDeskModel" ⟨"SpanDeskModel", "byteAt", "(I)I"⟩ ⟨"SpanDeskModel", "byteAt", "(I)I"⟩ ∈ tb_W := tb_sel (List.mem_of_getElem? (i := 16) (by decide +kernel)) (by decide +kernel)
theorem tm_s17 : Cond.selects "SpanDeskModel" ⟨"SpanDeskModel", "jumpByte", "(II)I"⟩ ⟨"SpanDeskModel", "jumpByte", "(II)I"⟩ ∈ tb_W := tb_sel (List.mem_of_getElem? (i := 17) (by decide +kernel)) (by decide +kernel)
theorem tm_s18 : Cond.selects "SpanDeskModel" ⟨"SpanDeskModel", "length", "(I)I"⟩ ⟨"SpanDeskModel", "length", "(I)I"⟩ ∈ tb_W := tb_sel (List.mem_of_getElem? (i := 18) (by decide +kernel)) (by decide +kernel)
theorem tm_s19 : Cond.selects "SpanDeskModel" ⟨"SpanDeskModel", "next", "(IZ)I"⟩ ⟨"SpanDeskModel", "next", "(IZ)I"⟩ ∈ tb_W := tb_sel (List.mem_of_getElem? (i := 19) (by decide +kernel)) (by decide +kernel)
