/-! names: classes, fields, methods; words of the tables by their places: printed by a program of mine (wip/whole/names.py) -/
def R_Yd : String := "ForwardYard"
def F_Yd : u_T := fun k => match k with
  | 0 => ("ForwardYard", "registers", "[I", true)
  | 1 => ("ForwardYard", "weakRegisters", "[I", true)
  | 2 => ("ForwardYard", "crew", "LForwardYard$Crew;", true)
  | 3 => ("ForwardYard", "walk", "LForwardYard$Walk;", true)
  | 4 => ("ForwardYard", "space", "LForwardYard$Space;", false)
  | 5 => ("ForwardYard", "spare", "LForwardYard$Space;", false)
  | 6 => ("ForwardYard", "made", "I", false)
  | _ => ("ForwardYard", "collections", "I", false)
def t_Yd : Nat → FieldType := fun k => match k with
  | 0 => .array .int
  | 1 => .array .int
  | 2 => .object "ForwardYard$Crew"
  | 3 => .object "ForwardYard$Walk"
  | 4 => .object "ForwardYard$Space"
  | 5 => .object "ForwardYard$Space"
  | 6 => .int
  | _ => .int
def R_Cr : String := "ForwardYard$Crew"
def F_Cr : u_T := fun k => match k with
  | 0 => ("ForwardYard$Crew", "workers", "[LForwardYard$Worker;", true)
  | 1 => ("ForwardYard$Crew", "forward", "[I", true)
  | 2 => ("ForwardYard$Crew", "working", "I", false)
  | 3 => ("ForwardYard$Crew", "turns", "I", false)
  | _ => ("ForwardYard$Crew", "steps", "I", false)
def t_Cr : Nat → FieldType := fun k => match k with
  | 0 => .array (.object "ForwardYard$Worker")
  | 1 => .array .int
  | 2 => .int
  | 3 => .int
  | _ => .int
def R_Wa : String := "ForwardYard$Walk"
def F_Wa : u_T := fun k => match k with
  | 0 => ("ForwardYard$Walk", "seen", "[I", true)
  | 1 => ("ForwardYard$Walk", "queue", "[I", true)
  | _ => ("ForwardYard$Walk", "found", "I", false)
def t_Wa : Nat → FieldType := fun k => match k with
  | 0 => .array .int
  | 1 => .array .int
  | _ => .int
def R_Wo : String := "ForwardYard$Worker"
def F_Wo : u_T := fun k => match k with
  | 0 => ("ForwardYard$Worker", "pile", "[I", true)
  | _ => ("ForwardYard$Worker", "height", "I", false)
def t_Wo : Nat → FieldType := fun k => match k with
  | 0 => .array .int
  | _ => .int
def R_Sp : String := "ForwardYard$Space"
def F_Sp : u_T := fun k => match k with
  | 0 => ("ForwardYard$Space", "row", "[I", true)
  | 1 => ("ForwardYard$Space", "words", "I", false)
  | _ => ("ForwardYard$Space", "objects", "I", false)
def t_Sp : Nat → FieldType := fun k => match k with
  | 0 => .array .int
  | 1 => .int
  | _ => .int
def R_Mo : String := "ForwardYardModel"
def F_Mo : u_T := fun k => match k with
  | 0 => ("ForwardYardModel", "code", "I", false)
  | 1 => ("ForwardYardModel", "made", "I", false)
  | 2 => ("ForwardYardModel", "collections", "I", false)
  | 3 => ("ForwardYardModel", "count", "I", false)
  | 4 => ("ForwardYardModel", "number", "[I", true)
  | 5 => ("ForwardYardModel", "value", "[I", true)
  | 6 => ("ForwardYardModel", "age", "[I", true)
  | 7 => ("ForwardYardModel", "fields", "[I", true)
  | 8 => ("ForwardYardModel", "refers", "[I", true)
  | 9 => ("ForwardYardModel", "mark", "[Z", true)
  | 10 => ("ForwardYardModel", "register", "[I", true)
  | _ => ("ForwardYardModel", "weak", "[I", true)
def t_Mo : Nat → FieldType := fun k => match k with
  | 0 => .int
  | 1 => .int
  | 2 => .int
  | 3 => .int
  | 4 => .array .int
  | 5 => .array .int
  | 6 => .array .int
  | 7 => .array .int
  | 8 => .array .int
  | 9 => .array .boolean
  | 10 => .array .int
  | _ => .array .int
def R_La : String := "ForwardYardLaw"
def R_Ar : String := "java/util/Arrays"
abbrev vwCl : List vw_C := [(R_Yd, F_Yd, 8), (R_Cr, F_Cr, 5), (R_Wa, F_Wa, 3), (R_Wo, F_Wo, 2), (R_Sp, F_Sp, 3), (R_Mo, F_Mo, 12)]
def fy_tys (cI cZ cJ cW : ClassId) : List (ClassId × FieldType) := [(cI, .int), (cZ, .boolean), (cJ, .long), (cW, .object "ForwardYard$Worker")]
theorem n_Yd : ∀ a, a < 8 → ∀ b, b < 8 → a ≠ b → (F_Yd a).2.1 ≠ (F_Yd b).2.1 := by decide +kernel
theorem tk_Yd : ∀ k, k < 8 → parseFieldDescriptor (F_Yd k).2.2.1 = some (t_Yd k) := by decide +kernel
theorem n_Cr : ∀ a, a < 5 → ∀ b, b < 5 → a ≠ b → (F_Cr a).2.1 ≠ (F_Cr b).2.1 := by decide +kernel
theorem tk_Cr : ∀ k, k < 5 → parseFieldDescriptor (F_Cr k).2.2.1 = some (t_Cr k) := by decide +kernel
theorem n_Wa : ∀ a, a < 3 → ∀ b, b < 3 → a ≠ b → (F_Wa a).2.1 ≠ (F_Wa b).2.1 := by decide +kernel
theorem tk_Wa : ∀ k, k < 3 → parseFieldDescriptor (F_Wa k).2.2.1 = some (t_Wa k) := by decide +kernel
theorem n_Wo : ∀ a, a < 2 → ∀ b, b < 2 → a ≠ b → (F_Wo a).2.1 ≠ (F_Wo b).2.1 := by decide +kernel
theorem tk_Wo : ∀ k, k < 2 → parseFieldDescriptor (F_Wo k).2.2.1 = some (t_Wo k) := by decide +kernel
theorem n_Sp : ∀ a, a < 3 → ∀ b, b < 3 → a ≠ b → (F_Sp a).2.1 ≠ (F_Sp b).2.1 := by decide +kernel
theorem tk_Sp : ∀ k, k < 3 → parseFieldDescriptor (F_Sp k).2.2.1 = some (t_Sp k) := by decide +kernel
theorem n_Mo : ∀ a, a < 12 → ∀ b, b < 12 → a ≠ b → (F_Mo a).2.1 ≠ (F_Mo b).2.1 := by decide +kernel
theorem tk_Mo : ∀ k, k < 12 → parseFieldDescriptor (F_Mo k).2.2.1 = some (t_Mo k) := by decide +kernel
abbrev b_Yd_init : ByteArray := prog_1_method_1_code
abbrev y_Yd_init : MethodName := ⟨"ForwardYard", "<init>", "()V"⟩
abbrev w_Yd_init : List Cond := [.code y_Yd_init b_Yd_init 1 (none)]
abbrev b_Cr_init : ByteArray := prog_2_method_1_code
abbrev y_Cr_init : MethodName := ⟨"ForwardYard$Crew", "<init>", "()V"⟩
abbrev w_Cr_init : List Cond := [.code y_Cr_init b_Cr_init 2 (none)]
abbrev b_Wo_init : ByteArray := prog_5_method_1_code
abbrev y_Wo_init : MethodName := ⟨"ForwardYard$Worker", "<init>", "()V"⟩
abbrev w_Wo_init : List Cond := [.code y_Wo_init b_Wo_init 1 (none)]
abbrev b_Wa_init : ByteArray := prog_4_method_1_code
abbrev y_Wa_init : MethodName := ⟨"ForwardYard$Walk", "<init>", "()V"⟩
abbrev w_Wa_init : List Cond := [.code y_Wa_init b_Wa_init 1 (none)]
abbrev b_Sp_init : ByteArray := prog_3_method_1_code
abbrev y_Sp_init : MethodName := ⟨"ForwardYard$Space", "<init>", "()V"⟩
abbrev w_Sp_init : List Cond := [.code y_Sp_init b_Sp_init 1 (none)]
abbrev b_Ar_fill : ByteArray := prog_16_method_103_code
abbrev y_Ar_fill : MethodName := ⟨"java/util/Arrays", "fill", "([II)V"⟩
abbrev w_Ar_fill : List Cond := [.code y_Ar_fill b_Ar_fill 4 (none)]
abbrev b_Yd_make : ByteArray := prog_1_method_2_code
abbrev y_Yd_make : MethodName := ⟨"ForwardYard", "make", "(III)I"⟩
abbrev w_Yd_make : List Cond := [.code y_Yd_make b_Yd_make 5 (some .int)]
abbrev b_Yd_checkRegister : ByteArray := prog_1_method_17_code
abbrev y_Yd_checkRegister : MethodName := ⟨"ForwardYard", "checkRegister", "(I)V"⟩
abbrev w_Yd_checkRegister : List Cond := [.code y_Yd_checkRegister b_Yd_checkRegister 1 (none)]
abbrev b_Sp_hasRoomFor : ByteArray := prog_3_method_5_code
abbrev y_Sp_hasRoomFor : MethodName := ⟨"ForwardYard$Space", "hasRoomFor", "(I)Z"⟩
abbrev w_Sp_hasRoomFor : List Cond := [.code y_Sp_hasRoomFor b_Sp_hasRoomFor 2 (some .boolean)]
abbrev b_Sp_layDown : ByteArray := prog_3_method_6_code
abbrev y_Sp_layDown : MethodName := ⟨"ForwardYard$Space", "layDown", "(III)I"⟩
abbrev w_Sp_layDown : List Cond := [.code y_Sp_layDown b_Sp_layDown 6 (some .int)]
abbrev b_Yd_set : ByteArray := prog_1_method_3_code
abbrev y_Yd_set : MethodName := ⟨"ForwardYard", "set", "(III)V"⟩
abbrev w_Yd_set : List Cond := [.code y_Yd_set b_Yd_set 5 (none)]
abbrev b_Yd_objectOf : ByteArray := prog_1_method_20_code
abbrev y_Yd_objectOf : MethodName := ⟨"ForwardYard", "objectOf", "(I)I"⟩
abbrev w_Yd_objectOf : List Cond := [.code y_Yd_objectOf b_Yd_objectOf 3 (some .int)]
abbrev b_Yd_checkField : ByteArray := prog_1_method_19_code
abbrev y_Yd_checkField : MethodName := ⟨"ForwardYard", "checkField", "(II)V"⟩
abbrev w_Yd_checkField : List Cond := [.code y_Yd_checkField b_Yd_checkField 3 (none)]
abbrev b_Sp_fieldCountOf : ByteArray := prog_3_method_12_code
abbrev y_Sp_fieldCountOf : MethodName := ⟨"ForwardYard$Space", "fieldCountOf", "(I)I"⟩
abbrev w_Sp_fieldCountOf : List Cond := [.code y_Sp_fieldCountOf b_Sp_fieldCountOf 2 (some .int)]
abbrev b_Sp_refer : ByteArray := prog_3_method_14_code
abbrev y_Sp_refer : MethodName := ⟨"ForwardYard$Space", "refer", "(III)V"⟩
abbrev w_Sp_refer : List Cond := [.code y_Sp_refer b_Sp_refer 4 (none)]
abbrev b_Yd_get : ByteArray := prog_1_method_4_code
abbrev y_Yd_get : MethodName := ⟨"ForwardYard", "get", "(III)V"⟩
abbrev w_Yd_get : List Cond := [.code y_Yd_get b_Yd_get 5 (none)]
abbrev b_Sp_referent : ByteArray := prog_3_method_13_code
abbrev y_Sp_referent : MethodName := ⟨"ForwardYard$Space", "referent", "(II)I"⟩
abbrev w_Sp_referent : List Cond := [.code y_Sp_referent b_Sp_referent 3 (some .int)]
abbrev b_Yd_copy : ByteArray := prog_1_method_5_code
abbrev y_Yd_copy : MethodName := ⟨"ForwardYard", "copy", "(II)V"⟩
abbrev w_Yd_copy : List Cond := [.code y_Yd_copy b_Yd_copy 3 (none)]
abbrev b_Yd_clear : ByteArray := prog_1_method_6_code
abbrev y_Yd_clear : MethodName := ⟨"ForwardYard", "clear", "(I)Z"⟩
abbrev w_Yd_clear : List Cond := [.code y_Yd_clear b_Yd_clear 3 (some .boolean)]
abbrev b_Yd_write : ByteArray := prog_1_method_7_code
abbrev y_Yd_write : MethodName := ⟨"ForwardYard", "write", "(II)I"⟩
abbrev w_Yd_write : List Cond := [.code y_Yd_write b_Yd_write 5 (some .int)]
abbrev b_Sp_valueOf : ByteArray := prog_3_method_9_code
abbrev y_Sp_valueOf : MethodName := ⟨"ForwardYard$Space", "valueOf", "(I)I"⟩
abbrev w_Sp_valueOf : List Cond := [.code y_Sp_valueOf b_Sp_valueOf 2 (some .int)]
abbrev b_Sp_putValue : ByteArray := prog_3_method_10_code
abbrev y_Sp_putValue : MethodName := ⟨"ForwardYard$Space", "putValue", "(II)V"⟩
abbrev w_Sp_putValue : List Cond := [.code y_Sp_putValue b_Sp_putValue 3 (none)]
abbrev b_Yd_watch : ByteArray := prog_1_method_8_code
abbrev y_Yd_watch : MethodName := ⟨"ForwardYard", "watch", "(II)V"⟩
abbrev w_Yd_watch : List Cond := [.code y_Yd_watch b_Yd_watch 3 (none)]
abbrev b_Yd_checkWeakRegister : ByteArray := prog_1_method_18_code
abbrev y_Yd_checkWeakRegister : MethodName := ⟨"ForwardYard", "checkWeakRegister", "(I)V"⟩
abbrev w_Yd_checkWeakRegister : List Cond := [.code y_Yd_checkWeakRegister b_Yd_checkWeakRegister 1 (none)]
abbrev b_Yd_revive : ByteArray := prog_1_method_9_code
abbrev y_Yd_revive : MethodName := ⟨"ForwardYard", "revive", "(II)V"⟩
abbrev w_Yd_revive : List Cond := [.code y_Yd_revive b_Yd_revive 3 (none)]
abbrev b_Yd_watched : ByteArray := prog_1_method_10_code
abbrev y_Yd_watched : MethodName := ⟨"ForwardYard", "watched", "(I)I"⟩
abbrev w_Yd_watched : List Cond := [.code y_Yd_watched b_Yd_watched 2 (some .int)]
abbrev b_Yd_numberOrNothing : ByteArray := prog_1_method_21_code
abbrev y_Yd_numberOrNothing : MethodName := ⟨"ForwardYard", "numberOrNothing", "(I)I"⟩
abbrev w_Yd_numberOrNothing : List Cond := [.code y_Yd_numberOrNothing b_Yd_numberOrNothing 2 (some .int)]
abbrev b_Sp_numberOf : ByteArray := prog_3_method_8_code
abbrev y_Sp_numberOf : MethodName := ⟨"ForwardYard$Space", "numberOf", "(I)I"⟩
abbrev w_Sp_numberOf : List Cond := [.code y_Sp_numberOf b_Sp_numberOf 2 (some .int)]
abbrev b_Yd_about : ByteArray := prog_1_method_11_code
abbrev y_Yd_about : MethodName := ⟨"ForwardYard", "about", "(II)I"⟩
abbrev w_Yd_about : List Cond := [.code y_Yd_about b_Yd_about 4 (some .int)]
abbrev b_Sp_ageOf : ByteArray := prog_3_method_11_code
abbrev y_Sp_ageOf : MethodName := ⟨"ForwardYard$Space", "ageOf", "(I)I"⟩
abbrev w_Sp_ageOf : List Cond := [.code y_Sp_ageOf b_Sp_ageOf 2 (some .int)]
abbrev b_Yd_field : ByteArray := prog_1_method_12_code
abbrev y_Yd_field : MethodName := ⟨"ForwardYard", "field", "(II)I"⟩
abbrev w_Yd_field : List Cond := [.code y_Yd_field b_Yd_field 4 (some .int)]
abbrev b_Yd_same : ByteArray := prog_1_method_13_code
abbrev y_Yd_same : MethodName := ⟨"ForwardYard", "same", "(II)Z"⟩
abbrev w_Yd_same : List Cond := [.code y_Yd_same b_Yd_same 3 (some .boolean)]
abbrev b_Yd_reach : ByteArray := prog_1_method_14_code
abbrev y_Yd_reach : MethodName := ⟨"ForwardYard", "reach", "(I)I"⟩
abbrev w_Yd_reach : List Cond := [.code y_Yd_reach b_Yd_reach 2 (some .int)]
abbrev b_Wa_countFrom : ByteArray := prog_4_method_2_code
abbrev y_Wa_countFrom : MethodName := ⟨"ForwardYard$Walk", "countFrom", "(LForwardYard$Space;I)I"⟩
abbrev w_Wa_countFrom : List Cond := [.code y_Wa_countFrom b_Wa_countFrom 6 (some .int)]
abbrev b_Wa_find : ByteArray := prog_4_method_3_code
abbrev y_Wa_find : MethodName := ⟨"ForwardYard$Walk", "find", "(I)V"⟩
abbrev w_Wa_find : List Cond := [.code y_Wa_find b_Wa_find 2 (none)]
abbrev b_Yd_collect : ByteArray := prog_1_method_15_code
abbrev y_Yd_collect : MethodName := ⟨"ForwardYard", "collect", "(II)I"⟩
abbrev w_Yd_collect : List Cond := [.code y_Yd_collect b_Yd_collect 5 (some .int)]
abbrev b_Sp_objects : ByteArray := prog_3_method_3_code
abbrev y_Sp_objects : MethodName := ⟨"ForwardYard$Space", "objects", "()I"⟩
abbrev w_Sp_objects : List Cond := [.code y_Sp_objects b_Sp_objects 1 (some .int)]
abbrev b_Sp_makeEmpty : ByteArray := prog_3_method_4_code
abbrev y_Sp_makeEmpty : MethodName := ⟨"ForwardYard$Space", "makeEmpty", "()V"⟩
abbrev w_Sp_makeEmpty : List Cond := [.code y_Sp_makeEmpty b_Sp_makeEmpty 1 (none)]
abbrev b_Cr_begin : ByteArray := prog_2_method_2_code
abbrev y_Cr_begin : MethodName := ⟨"ForwardYard$Crew", "begin", "(II)V"⟩
abbrev w_Cr_begin : List Cond := [.code y_Cr_begin b_Cr_begin 3 (none)]
abbrev b_Cr_bringRoots : ByteArray := prog_2_method_3_code
abbrev y_Cr_bringRoots : MethodName := ⟨"ForwardYard$Crew", "bringRoots", "(LForwardYard$Space;LForwardYard$Space;[I)V"⟩
abbrev w_Cr_bringRoots : List Cond := [.code y_Cr_bringRoots b_Cr_bringRoots 5 (none)]
abbrev b_Cr_whoseTurn : ByteArray := prog_2_method_6_code
abbrev y_Cr_whoseTurn : MethodName := ⟨"ForwardYard$Crew", "whoseTurn", "()I"⟩
abbrev w_Cr_whoseTurn : List Cond := [.code y_Cr_whoseTurn b_Cr_whoseTurn 3 (some .int)]
abbrev b_Cr_bring : ByteArray := prog_2_method_9_code
abbrev y_Cr_bring : MethodName := ⟨"ForwardYard$Crew", "bring", "(LForwardYard$Worker;LForwardYard$Space;LForwardYard$Space;I)I"⟩
abbrev w_Cr_bring : List Cond := [.code y_Cr_bring b_Cr_bring 5 (some .int)]
abbrev b_Sp_takeOver : ByteArray := prog_3_method_7_code
abbrev y_Sp_takeOver : MethodName := ⟨"ForwardYard$Space", "takeOver", "(LForwardYard$Space;I)I"⟩
abbrev w_Sp_takeOver : List Cond := [.code y_Sp_takeOver b_Sp_takeOver 5 (some .int)]
abbrev b_Wo_pileUp : ByteArray := prog_5_method_2_code
abbrev y_Wo_pileUp : MethodName := ⟨"ForwardYard$Worker", "pileUp", "(I)V"⟩
abbrev w_Wo_pileUp : List Cond := [.code y_Wo_pileUp b_Wo_pileUp 2 (none)]
abbrev b_Cr_bringAllReached : ByteArray := prog_2_method_4_code
abbrev y_Cr_bringAllReached : MethodName := ⟨"ForwardYard$Crew", "bringAllReached", "(LForwardYard$Space;LForwardYard$Space;)V"⟩
abbrev w_Cr_bringAllReached : List Cond := [.code y_Cr_bringAllReached b_Cr_bringAllReached 6 (none)]
abbrev b_Cr_takeFor : ByteArray := prog_2_method_7_code
abbrev y_Cr_takeFor : MethodName := ⟨"ForwardYard$Crew", "takeFor", "(I)I"⟩
abbrev w_Cr_takeFor : List Cond := [.code y_Cr_takeFor b_Cr_takeFor 4 (some .int)]
abbrev b_Wo_takeTop : ByteArray := prog_5_method_3_code
abbrev y_Wo_takeTop : MethodName := ⟨"ForwardYard$Worker", "takeTop", "()I"⟩
abbrev w_Wo_takeTop : List Cond := [.code y_Wo_takeTop b_Wo_takeTop 1 (some .int)]
abbrev b_Cr_bringFields : ByteArray := prog_2_method_8_code
abbrev y_Cr_bringFields : MethodName := ⟨"ForwardYard$Crew", "bringFields", "(LForwardYard$Worker;LForwardYard$Space;LForwardYard$Space;I)V"⟩
abbrev w_Cr_bringFields : List Cond := [.code y_Cr_bringFields b_Cr_bringFields 6 (none)]
abbrev b_Cr_followWeak : ByteArray := prog_2_method_5_code
abbrev y_Cr_followWeak : MethodName := ⟨"ForwardYard$Crew", "followWeak", "([I)V"⟩
abbrev w_Cr_followWeak : List Cond := [.code y_Cr_followWeak b_Cr_followWeak 3 (none)]
abbrev b_Yd_figure : ByteArray := prog_1_method_16_code
abbrev y_Yd_figure : MethodName := ⟨"ForwardYard", "figure", "(I)I"⟩
abbrev w_Yd_figure : List Cond := [.code y_Yd_figure b_Yd_figure 2 (some .int)]
abbrev b_Sp_words : ByteArray := prog_3_method_2_code
abbrev y_Sp_words : MethodName := ⟨"ForwardYard$Space", "words", "()I"⟩
abbrev w_Sp_words : List Cond := [.code y_Sp_words b_Sp_words 1 (some .int)]
abbrev b_Mo_init : ByteArray := prog_7_method_1_code
abbrev y_Mo_init : MethodName := ⟨"ForwardYardModel", "<init>", "()V"⟩
abbrev w_Mo_init : List Cond := [.code y_Mo_init b_Mo_init 2 (none)]
abbrev b_Mo_thrown : ByteArray := prog_7_method_2_code
abbrev y_Mo_thrown : MethodName := ⟨"ForwardYardModel", "thrown", "()I"⟩
abbrev w_Mo_thrown : List Cond := [.code y_Mo_thrown b_Mo_thrown 1 (some .int)]
abbrev b_Mo_make : ByteArray := prog_7_method_7_code
abbrev y_Mo_make : MethodName := ⟨"ForwardYardModel", "make", "(III)I"⟩
abbrev w_Mo_make : List Cond := [.code y_Mo_make b_Mo_make 5 (some .int)]
abbrev b_Mo_isRegister : ByteArray := prog_7_method_3_code
abbrev y_Mo_isRegister : MethodName := ⟨"ForwardYardModel", "isRegister", "(I)Z"⟩
abbrev w_Mo_isRegister : List Cond := [.code y_Mo_isRegister b_Mo_isRegister 1 (some .boolean)]
abbrev b_Mo_words : ByteArray := prog_7_method_6_code
abbrev y_Mo_words : MethodName := ⟨"ForwardYardModel", "words", "()I"⟩
abbrev w_Mo_words : List Cond := [.code y_Mo_words b_Mo_words 3 (some .int)]
abbrev b_Mo_set : ByteArray := prog_7_method_9_code
abbrev y_Mo_set : MethodName := ⟨"ForwardYardModel", "set", "(III)V"⟩
abbrev w_Mo_set : List Cond := [.code y_Mo_set b_Mo_set 5 (none)]
abbrev b_Mo_fieldAt : ByteArray := prog_7_method_8_code
abbrev y_Mo_fieldAt : MethodName := ⟨"ForwardYardModel", "fieldAt", "(II)I"⟩
abbrev w_Mo_fieldAt : List Cond := [.code y_Mo_fieldAt b_Mo_fieldAt 4 (some .int)]
abbrev b_Mo_find : ByteArray := prog_7_method_5_code
abbrev y_Mo_find : MethodName := ⟨"ForwardYardModel", "find", "(I)I"⟩
abbrev w_Mo_find : List Cond := [.code y_Mo_find b_Mo_find 4 (some .int)]
abbrev b_Mo_get : ByteArray := prog_7_method_10_code
abbrev y_Mo_get : MethodName := ⟨"ForwardYardModel", "get", "(III)V"⟩
abbrev w_Mo_get : List Cond := [.code y_Mo_get b_Mo_get 5 (none)]
abbrev b_Mo_copy : ByteArray := prog_7_method_11_code
abbrev y_Mo_copy : MethodName := ⟨"ForwardYardModel", "copy", "(II)V"⟩
abbrev w_Mo_copy : List Cond := [.code y_Mo_copy b_Mo_copy 3 (none)]
abbrev b_Mo_clear : ByteArray := prog_7_method_12_code
abbrev y_Mo_clear : MethodName := ⟨"ForwardYardModel", "clear", "(I)Z"⟩
abbrev w_Mo_clear : List Cond := [.code y_Mo_clear b_Mo_clear 3 (some .boolean)]
abbrev b_Mo_write : ByteArray := prog_7_method_13_code
abbrev y_Mo_write : MethodName := ⟨"ForwardYardModel", "write", "(II)I"⟩
abbrev w_Mo_write : List Cond := [.code y_Mo_write b_Mo_write 5 (some .int)]
abbrev b_Mo_watch : ByteArray := prog_7_method_14_code
abbrev y_Mo_watch : MethodName := ⟨"ForwardYardModel", "watch", "(II)V"⟩
abbrev w_Mo_watch : List Cond := [.code y_Mo_watch b_Mo_watch 3 (none)]
abbrev b_Mo_isWeak : ByteArray := prog_7_method_4_code
abbrev y_Mo_isWeak : MethodName := ⟨"ForwardYardModel", "isWeak", "(I)Z"⟩
abbrev w_Mo_isWeak : List Cond := [.code y_Mo_isWeak b_Mo_isWeak 1 (some .boolean)]
abbrev b_Mo_revive : ByteArray := prog_7_method_15_code
abbrev y_Mo_revive : MethodName := ⟨"ForwardYardModel", "revive", "(II)V"⟩
abbrev w_Mo_revive : List Cond := [.code y_Mo_revive b_Mo_revive 3 (none)]
abbrev b_Mo_watched : ByteArray := prog_7_method_16_code
abbrev y_Mo_watched : MethodName := ⟨"ForwardYardModel", "watched", "(I)I"⟩
abbrev w_Mo_watched : List Cond := [.code y_Mo_watched b_Mo_watched 2 (some .int)]
abbrev b_Mo_about : ByteArray := prog_7_method_17_code
abbrev y_Mo_about : MethodName := ⟨"ForwardYardModel", "about", "(II)I"⟩
abbrev w_Mo_about : List Cond := [.code y_Mo_about b_Mo_about 4 (some .int)]
abbrev b_Mo_field : ByteArray := prog_7_method_18_code
abbrev y_Mo_field : MethodName := ⟨"ForwardYardModel", "field", "(II)I"⟩
abbrev w_Mo_field : List Cond := [.code y_Mo_field b_Mo_field 4 (some .int)]
abbrev b_Mo_same : ByteArray := prog_7_method_19_code
abbrev y_Mo_same : MethodName := ⟨"ForwardYardModel", "same", "(II)Z"⟩
abbrev w_Mo_same : List Cond := [.code y_Mo_same b_Mo_same 3 (some .boolean)]
abbrev b_Mo_reach : ByteArray := prog_7_method_24_code
abbrev y_Mo_reach : MethodName := ⟨"ForwardYardModel", "reach", "(I)I"⟩
abbrev w_Mo_reach : List Cond := [.code y_Mo_reach b_Mo_reach 2 (some .int)]
abbrev b_Mo_forget : ByteArray := prog_7_method_20_code
abbrev y_Mo_forget : MethodName := ⟨"ForwardYardModel", "forget", "()V"⟩
abbrev w_Mo_forget : List Cond := [.code y_Mo_forget b_Mo_forget 2 (none)]
abbrev b_Mo_begin : ByteArray := prog_7_method_21_code
abbrev y_Mo_begin : MethodName := ⟨"ForwardYardModel", "begin", "(I)V"⟩
abbrev w_Mo_begin : List Cond := [.code y_Mo_begin b_Mo_begin 3 (none)]
abbrev b_Mo_spread : ByteArray := prog_7_method_22_code
abbrev y_Mo_spread : MethodName := ⟨"ForwardYardModel", "spread", "()V"⟩
abbrev w_Mo_spread : List Cond := [.code y_Mo_spread b_Mo_spread 5 (none)]
abbrev b_Mo_marked : ByteArray := prog_7_method_23_code
abbrev y_Mo_marked : MethodName := ⟨"ForwardYardModel", "marked", "()I"⟩
abbrev w_Mo_marked : List Cond := [.code y_Mo_marked b_Mo_marked 3 (some .int)]
abbrev b_Mo_collect : ByteArray := prog_7_method_26_code
abbrev y_Mo_collect : MethodName := ⟨"ForwardYardModel", "collect", "(II)I"⟩
abbrev w_Mo_collect : List Cond := [.code y_Mo_collect b_Mo_collect 6 (some .int)]
abbrev b_Mo_move : ByteArray := prog_7_method_25_code
abbrev y_Mo_move : MethodName := ⟨"ForwardYardModel", "move", "(II)V"⟩
abbrev w_Mo_move : List Cond := [.code y_Mo_move b_Mo_move 4 (none)]
abbrev b_Mo_figure : ByteArray := prog_7_method_27_code
abbrev y_Mo_figure : MethodName := ⟨"ForwardYardModel", "figure", "(I)I"⟩
abbrev w_Mo_figure : List Cond := [.code y_Mo_figure b_Mo_figure 2 (some .int)]
abbrev b_La_make : ByteArray := method_3_code
abbrev y_La_make : MethodName := ⟨"ForwardYardLaw", "make", "(LForwardYard;III[J)I"⟩
abbrev w_La_make : List Cond := [.codeWith y_La_make b_La_make 6 (some .int) [(0, 12, 15, 13), (0, 12, 19, 15)]]
abbrev b_La_set : ByteArray := method_4_code
abbrev y_La_set : MethodName := ⟨"ForwardYardLaw", "set", "(LForwardYard;III)I"⟩
abbrev w_La_set : List Cond := [.codeWith y_La_set b_La_set 5 (some .int) [(0, 7, 10, 13), (0, 7, 14, 21), (0, 7, 18, 23)]]
abbrev b_La_get : ByteArray := method_5_code
abbrev y_La_get : MethodName := ⟨"ForwardYardLaw", "get", "(LForwardYard;III)I"⟩
abbrev w_La_get : List Cond := [.codeWith y_La_get b_La_get 5 (some .int) [(0, 7, 10, 13), (0, 7, 14, 21), (0, 7, 18, 23)]]
abbrev b_La_copy : ByteArray := method_6_code
abbrev y_La_copy : MethodName := ⟨"ForwardYardLaw", "copy", "(LForwardYard;II)I"⟩
abbrev w_La_copy : List Cond := [.codeWith y_La_copy b_La_copy 4 (some .int) [(0, 6, 9, 13)]]
abbrev b_La_clear : ByteArray := method_7_code
abbrev y_La_clear : MethodName := ⟨"ForwardYardLaw", "clear", "(LForwardYard;I[J)I"⟩
abbrev w_La_clear : List Cond := [.codeWith y_La_clear b_La_clear 4 (some .int) [(0, 16, 19, 13)]]
abbrev b_La_write : ByteArray := method_8_code
abbrev y_La_write : MethodName := ⟨"ForwardYardLaw", "write", "(LForwardYard;II[J)I"⟩
abbrev w_La_write : List Cond := [.codeWith y_La_write b_La_write 5 (some .int) [(0, 10, 13, 13), (0, 10, 17, 21)]]
abbrev b_La_watch : ByteArray := method_9_code
abbrev y_La_watch : MethodName := ⟨"ForwardYardLaw", "watch", "(LForwardYard;II)I"⟩
abbrev w_La_watch : List Cond := [.codeWith y_La_watch b_La_watch 4 (some .int) [(0, 6, 9, 13)]]
abbrev b_La_revive : ByteArray := method_10_code
abbrev y_La_revive : MethodName := ⟨"ForwardYardLaw", "revive", "(LForwardYard;II)I"⟩
abbrev w_La_revive : List Cond := [.codeWith y_La_revive b_La_revive 4 (some .int) [(0, 6, 9, 13)]]
abbrev b_La_watched : ByteArray := method_11_code
abbrev y_La_watched : MethodName := ⟨"ForwardYardLaw", "watched", "(LForwardYard;I[J)I"⟩
abbrev w_La_watched : List Cond := [.codeWith y_La_watched b_La_watched 4 (some .int) [(0, 9, 12, 13)]]
abbrev b_La_about : ByteArray := method_12_code
abbrev y_La_about : MethodName := ⟨"ForwardYardLaw", "about", "(LForwardYard;II[J)I"⟩
abbrev w_La_about : List Cond := [.codeWith y_La_about b_La_about 5 (some .int) [(0, 10, 13, 13), (0, 10, 17, 21)]]
abbrev b_La_field : ByteArray := method_13_code
abbrev y_La_field : MethodName := ⟨"ForwardYardLaw", "field", "(LForwardYard;II[J)I"⟩
abbrev w_La_field : List Cond := [.codeWith y_La_field b_La_field 5 (some .int) [(0, 10, 13, 13), (0, 10, 17, 21), (0, 10, 21, 23)]]
abbrev b_La_same : ByteArray := method_14_code
abbrev y_La_same : MethodName := ⟨"ForwardYardLaw", "same", "(LForwardYard;II[J)I"⟩
abbrev w_La_same : List Cond := [.codeWith y_La_same b_La_same 5 (some .int) [(0, 17, 20, 13)]]
abbrev b_La_reach : ByteArray := method_15_code
abbrev y_La_reach : MethodName := ⟨"ForwardYardLaw", "reach", "(LForwardYard;I[J)I"⟩
abbrev w_La_reach : List Cond := [.codeWith y_La_reach b_La_reach 4 (some .int) [(0, 9, 12, 13)]]
abbrev b_La_collect : ByteArray := method_16_code
abbrev y_La_collect : MethodName := ⟨"ForwardYardLaw", "collect", "(LForwardYard;II[J)I"⟩
abbrev w_La_collect : List Cond := [.codeWith y_La_collect b_La_collect 5 (some .int) [(0, 10, 13, 13)]]
abbrev b_La_figure : ByteArray := method_17_code
abbrev y_La_figure : MethodName := ⟨"ForwardYardLaw", "figure", "(LForwardYard;I[J)I"⟩
abbrev w_La_figure : List Cond := [.codeWith y_La_figure b_La_figure 4 (some .int) [(0, 9, 12, 13)]]
def fy_T : List Cond := lw_tbl.filter goodWord
theorem fy_mem {w : Cond} {i : Nat} (h : lw_tbl[i]? = some w) (hg : goodWord w = true) : w ∈ fy_T := List.mem_filter.mpr ⟨List.mem_of_getElem? h, hg⟩
theorem fy_T_good : ∀ w ∈ fy_T, goodWord w = true := fun w h => (List.mem_filter.mp h).2
theorem fy_good {ws : List Cond} (h : ∀ w ∈ ws, w ∈ fy_T) : GoodIn fy_T ws := fun w hw => ⟨h w hw, good_of_word (fy_T_good w (h w hw))⟩
theorem fy_w1 {T : List Cond} {a : Cond} (h1 : a ∈ T) : ∀ w ∈ [a], w ∈ T := List.forall_mem_cons.mpr ⟨h1, fun _ h => absurd h List.not_mem_nil⟩
theorem fy_w4 {T : List Cond} {a b c d : Cond} (h1 : a ∈ T) (h2 : b ∈ T) (h3 : c ∈ T) (h4 : d ∈ T) : ∀ w ∈ ([a, b, c] : List Cond) ++ [d], w ∈ T := List.forall_mem_cons.mpr ⟨h1, List.forall_mem_cons.mpr ⟨h2, List.forall_mem_cons.mpr ⟨h3, fy_w1 h4⟩⟩⟩
theorem fy_w5 {T : List Cond} {a b c d e : Cond} (h1 : a ∈ T) (h2 : b ∈ T) (h3 : c ∈ T) (h4 : d ∈ T) (h5 : e ∈ T) : ∀ w ∈ ([a, b, c, d] : List Cond) ++ [e], w ∈ T := List.forall_mem_cons.mpr ⟨h1, List.forall_mem_cons.mpr ⟨h2, List.forall_mem_cons.mpr ⟨h3, List.forall_mem_cons.mpr ⟨h4, fy_w1 h5⟩⟩⟩⟩
theorem k_l_Yd_registers : (.laysFinal "ForwardYard" "ForwardYard" "registers" "[I" : Cond) ∈ fy_T := fy_mem (i := 121) rfl rfl
theorem k_l_Yd_weakRegisters : (.laysFinal "ForwardYard" "ForwardYard" "weakRegisters" "[I" : Cond) ∈ fy_T := fy_mem (i := 123) rfl rfl
theorem k_l_Yd_crew : (.laysFinal "ForwardYard" "ForwardYard" "crew" "LForwardYard$Crew;" : Cond) ∈ fy_T := fy_mem (i := 125) rfl rfl
theorem k_l_Yd_walk : (.laysFinal "ForwardYard" "ForwardYard" "walk" "LForwardYard$Walk;" : Cond) ∈ fy_T := fy_mem (i := 127) rfl rfl
theorem k_l_Yd_space : (.lays "ForwardYard" "ForwardYard" "space" "LForwardYard$Space;" : Cond) ∈ fy_T := fy_mem (i := 129) rfl rfl
theorem k_l_Yd_spare : (.lays "ForwardYard" "ForwardYard" "spare" "LForwardYard$Space;" : Cond) ∈ fy_T := fy_mem (i := 131) rfl rfl
theorem k_l_Yd_made : (.lays "ForwardYard" "ForwardYard" "made" "I" : Cond) ∈ fy_T := fy_mem (i := 133) rfl rfl
theorem k_l_Yd_collections : (.lays "ForwardYard" "ForwardYard" "collections" "I" : Cond) ∈ fy_T := fy_mem (i := 135) rfl rfl
theorem i_Yd : ∀ w ∈ u_ws R_Yd F_Yd 8, w ∈ fy_T := List.forall_mem_cons.mpr ⟨k_l_Yd_registers, List.forall_mem_cons.mpr ⟨k_l_Yd_weakRegisters, List.forall_mem_cons.mpr ⟨k_l_Yd_crew, List.forall_mem_cons.mpr ⟨k_l_Yd_walk, List.forall_mem_cons.mpr ⟨k_l_Yd_space, List.forall_mem_cons.mpr ⟨k_l_Yd_spare, List.forall_mem_cons.mpr ⟨k_l_Yd_made, List.forall_mem_cons.mpr ⟨k_l_Yd_collections, fun _ h => absurd h List.not_mem_nil⟩⟩⟩⟩⟩⟩⟩⟩
theorem k_l_Cr_workers : (.laysFinal "ForwardYard$Crew" "ForwardYard$Crew" "workers" "[LForwardYard$Worker;" : Cond) ∈ fy_T := fy_mem (i := 67) rfl rfl
theorem k_l_Cr_forward : (.laysFinal "ForwardYard$Crew" "ForwardYard$Crew" "forward" "[I" : Cond) ∈ fy_T := fy_mem (i := 69) rfl rfl
theorem k_l_Cr_working : (.lays "ForwardYard$Crew" "ForwardYard$Crew" "working" "I" : Cond) ∈ fy_T := fy_mem (i := 71) rfl rfl
theorem k_l_Cr_turns : (.lays "ForwardYard$Crew" "ForwardYard$Crew" "turns" "I" : Cond) ∈ fy_T := fy_mem (i := 73) rfl rfl
theorem k_l_Cr_steps : (.lays "ForwardYard$Crew" "ForwardYard$Crew" "steps" "I" : Cond) ∈ fy_T := fy_mem (i := 75) rfl rfl
theorem i_Cr : ∀ w ∈ u_ws R_Cr F_Cr 5, w ∈ fy_T := List.forall_mem_cons.mpr ⟨k_l_Cr_workers, List.forall_mem_cons.mpr ⟨k_l_Cr_forward, List.forall_mem_cons.mpr ⟨k_l_Cr_working, List.forall_mem_cons.mpr ⟨k_l_Cr_turns, List.forall_mem_cons.mpr ⟨k_l_Cr_steps, fun _ h => absurd h List.not_mem_nil⟩⟩⟩⟩⟩
theorem k_l_Wa_seen : (.laysFinal "ForwardYard$Walk" "ForwardYard$Walk" "seen" "[I" : Cond) ∈ fy_T := fy_mem (i := 87) rfl rfl
theorem k_l_Wa_queue : (.laysFinal "ForwardYard$Walk" "ForwardYard$Walk" "queue" "[I" : Cond) ∈ fy_T := fy_mem (i := 89) rfl rfl
theorem k_l_Wa_found : (.lays "ForwardYard$Walk" "ForwardYard$Walk" "found" "I" : Cond) ∈ fy_T := fy_mem (i := 91) rfl rfl
theorem i_Wa : ∀ w ∈ u_ws R_Wa F_Wa 3, w ∈ fy_T := List.forall_mem_cons.mpr ⟨k_l_Wa_seen, List.forall_mem_cons.mpr ⟨k_l_Wa_queue, List.forall_mem_cons.mpr ⟨k_l_Wa_found, fun _ h => absurd h List.not_mem_nil⟩⟩⟩
theorem k_l_Wo_pile : (.laysFinal "ForwardYard$Worker" "ForwardYard$Worker" "pile" "[I" : Cond) ∈ fy_T := fy_mem (i := 56) rfl rfl
theorem k_l_Wo_height : (.lays "ForwardYard$Worker" "ForwardYard$Worker" "height" "I" : Cond) ∈ fy_T := fy_mem (i := 58) rfl rfl
theorem i_Wo : ∀ w ∈ u_ws R_Wo F_Wo 2, w ∈ fy_T := List.forall_mem_cons.mpr ⟨k_l_Wo_pile, List.forall_mem_cons.mpr ⟨k_l_Wo_height, fun _ h => absurd h List.not_mem_nil⟩⟩
theorem k_l_Sp_row : (.laysFinal "ForwardYard$Space" "ForwardYard$Space" "row" "[I" : Cond) ∈ fy_T := fy_mem (i := 103) rfl rfl
theorem k_l_Sp_words : (.lays "ForwardYard$Space" "ForwardYard$Space" "words" "I" : Cond) ∈ fy_T := fy_mem (i := 105) rfl rfl
theorem k_l_Sp_objects : (.lays "ForwardYard$Space" "ForwardYard$Space" "objects" "I" : Cond) ∈ fy_T := fy_mem (i := 107) rfl rfl
theorem i_Sp : ∀ w ∈ u_ws R_Sp F_Sp 3, w ∈ fy_T := List.forall_mem_cons.mpr ⟨k_l_Sp_row, List.forall_mem_cons.mpr ⟨k_l_Sp_words, List.forall_mem_cons.mpr ⟨k_l_Sp_objects, fun _ h => absurd h List.not_mem_nil⟩⟩⟩
set_option maxRecDepth 20000 in
theorem k_l_Mo_code : (.lays "ForwardYardModel" "ForwardYardModel" "code" "I" : Cond) ∈ fy_T := fy_mem (i := 517) rfl rfl
set_option maxRecDepth 20000 in
theorem k_l_Mo_made : (.lays "ForwardYardModel" "ForwardYardModel" "made" "I" : Cond) ∈ fy_T := fy_mem (i := 519) rfl rfl
set_option maxRecDepth 20000 in
theorem k_l_Mo_collections : (.lays "ForwardYardModel" "ForwardYardModel" "collections" "I" : Cond) ∈ fy_T := fy_mem (i := 521) rfl rfl
set_option maxRecDepth 20000 in
theorem k_l_Mo_count : (.lays "ForwardYardModel" "ForwardYardModel" "count" "I" : Cond) ∈ fy_T := fy_mem (i := 523) rfl rfl
set_option maxRecDepth 20000 in
theorem k_l_Mo_number : (.laysFinal "ForwardYardModel" "ForwardYardModel" "number" "[I" : Cond) ∈ fy_T := fy_mem (i := 525) rfl rfl
set_option maxRecDepth 20000 in
theorem k_l_Mo_value : (.laysFinal "ForwardYardModel" "ForwardYardModel" "value" "[I" : Cond) ∈ fy_T := fy_mem (i := 527) rfl rfl
set_option maxRecDepth 20000 in
theorem k_l_Mo_age : (.laysFinal "ForwardYardModel" "ForwardYardModel" "age" "[I" : Cond) ∈ fy_T := fy_mem (i := 529) rfl rfl
set_option maxRecDepth 20000 in
theorem k_l_Mo_fields : (.laysFinal "ForwardYardModel" "ForwardYardModel" "fields" "[I" : Cond) ∈ fy_T := fy_mem (i := 531) rfl rfl
set_option maxRecDepth 20000 in
theorem k_l_Mo_refers : (.laysFinal "ForwardYardModel" "ForwardYardModel" "refers" "[I" : Cond) ∈ fy_T := fy_mem (i := 533) rfl rfl
set_option maxRecDepth 20000 in
theorem k_l_Mo_mark : (.laysFinal "ForwardYardModel" "ForwardYardModel" "mark" "[Z" : Cond) ∈ fy_T := fy_mem (i := 535) rfl rfl
set_option maxRecDepth 20000 in
theorem k_l_Mo_register : (.laysFinal "ForwardYardModel" "ForwardYardModel" "register" "[I" : Cond) ∈ fy_T := fy_mem (i := 537) rfl rfl
set_option maxRecDepth 20000 in
theorem k_l_Mo_weak : (.laysFinal "ForwardYardModel" "ForwardYardModel" "weak" "[I" : Cond) ∈ fy_T := fy_mem (i := 539) rfl rfl
theorem i_Mo : ∀ w ∈ u_ws R_Mo F_Mo 12, w ∈ fy_T := List.forall_mem_cons.mpr ⟨k_l_Mo_code, List.forall_mem_cons.mpr ⟨k_l_Mo_made, List.forall_mem_cons.mpr ⟨k_l_Mo_collections, List.forall_mem_cons.mpr ⟨k_l_Mo_count, List.forall_mem_cons.mpr ⟨k_l_Mo_number, List.forall_mem_cons.mpr ⟨k_l_Mo_value, List.forall_mem_cons.mpr ⟨k_l_Mo_age, List.forall_mem_cons.mpr ⟨k_l_Mo_fields, List.forall_mem_cons.mpr ⟨k_l_Mo_refers, List.forall_mem_cons.mpr ⟨k_l_Mo_mark, List.forall_mem_cons.mpr ⟨k_l_Mo_register, List.forall_mem_cons.mpr ⟨k_l_Mo_weak, fun _ h => absurd h List.not_mem_nil⟩⟩⟩⟩⟩⟩⟩⟩⟩⟩⟩⟩
theorem k_ini_La : (.initialized "ForwardYardLaw" : Cond) ∈ fy_T := fy_mem (i := 17) rfl rfl
theorem k_ini_Yd : (.initialized "ForwardYard" : Cond) ∈ fy_T := fy_mem (i := 18) rfl rfl
theorem k_ini_Cr : (.initialized "ForwardYard$Crew" : Cond) ∈ fy_T := fy_mem (i := 19) rfl rfl
theorem k_ini_Wo : (.initialized "ForwardYard$Worker" : Cond) ∈ fy_T := fy_mem (i := 20) rfl rfl
theorem k_ini_Wa : (.initialized "ForwardYard$Walk" : Cond) ∈ fy_T := fy_mem (i := 21) rfl rfl
theorem k_ini_Sp : (.initialized "ForwardYard$Space" : Cond) ∈ fy_T := fy_mem (i := 22) rfl rfl
theorem k_ini_Ar : (.initialized "java/util/Arrays" : Cond) ∈ fy_T := fy_mem (i := 23) rfl rfl
theorem k_ini_Mo : (.initialized "ForwardYardModel" : Cond) ∈ fy_T := fy_mem (i := 24) rfl rfl
theorem k_ini_Sy : (.initialized "java/lang/System" : Cond) ∈ fy_T := fy_mem (i := 32) rfl rfl
theorem k_cl_La_8 : (.classLink "ForwardYardLaw" 8 "ForwardYard" : Cond) ∈ fy_T := fy_mem (i := 33) rfl rfl
theorem k_new_Yd : (.instantiable "ForwardYard" 8 : Cond) ∈ fy_T := fy_mem (i := 34) rfl rfl
theorem k_cl_Yd_16 : (.classLink "ForwardYard" 16 "ForwardYard$Crew" : Cond) ∈ fy_T := fy_mem (i := 41) rfl rfl
theorem k_new_Cr : (.instantiable "ForwardYard$Crew" 5 : Cond) ∈ fy_T := fy_mem (i := 42) rfl rfl
theorem k_cl_Cr_9 : (.classLink "ForwardYard$Crew" 9 "ForwardYard$Worker" : Cond) ∈ fy_T := fy_mem (i := 47) rfl rfl
theorem k_new_Wo : (.instantiable "ForwardYard$Worker" 2 : Cond) ∈ fy_T := fy_mem (i := 49) rfl rfl
theorem k_f_Wo_9 : (.fieldLink "ForwardYard$Worker" 9 "ForwardYard$Worker" "pile" "[I" : Cond) ∈ fy_T := fy_mem (i := 54) rfl rfl
theorem k_f_Wo_15 : (.fieldLink "ForwardYard$Worker" 15 "ForwardYard$Worker" "height" "I" : Cond) ∈ fy_T := fy_mem (i := 55) rfl rfl
theorem k_arr_int : (.arrayClass .int : Cond) ∈ fy_T := fy_mem (i := 61) rfl rfl
theorem k_f_Cr_11 : (.fieldLink "ForwardYard$Crew" 11 "ForwardYard$Crew" "workers" "[LForwardYard$Worker;" : Cond) ∈ fy_T := fy_mem (i := 62) rfl rfl
theorem k_f_Cr_17 : (.fieldLink "ForwardYard$Crew" 17 "ForwardYard$Crew" "forward" "[I" : Cond) ∈ fy_T := fy_mem (i := 63) rfl rfl
theorem k_f_Cr_21 : (.fieldLink "ForwardYard$Crew" 21 "ForwardYard$Crew" "working" "I" : Cond) ∈ fy_T := fy_mem (i := 64) rfl rfl
theorem k_f_Cr_26 : (.fieldLink "ForwardYard$Crew" 26 "ForwardYard$Crew" "turns" "I" : Cond) ∈ fy_T := fy_mem (i := 65) rfl rfl
theorem k_f_Cr_29 : (.fieldLink "ForwardYard$Crew" 29 "ForwardYard$Crew" "steps" "I" : Cond) ∈ fy_T := fy_mem (i := 66) rfl rfl
theorem k_cl_Yd_23 : (.classLink "ForwardYard" 23 "ForwardYard$Walk" : Cond) ∈ fy_T := fy_mem (i := 78) rfl rfl
theorem k_new_Wa : (.instantiable "ForwardYard$Walk" 3 : Cond) ∈ fy_T := fy_mem (i := 79) rfl rfl
theorem k_f_Wa_9 : (.fieldLink "ForwardYard$Walk" 9 "ForwardYard$Walk" "seen" "[I" : Cond) ∈ fy_T := fy_mem (i := 84) rfl rfl
theorem k_f_Wa_15 : (.fieldLink "ForwardYard$Walk" 15 "ForwardYard$Walk" "queue" "[I" : Cond) ∈ fy_T := fy_mem (i := 85) rfl rfl
theorem k_f_Wa_24 : (.fieldLink "ForwardYard$Walk" 24 "ForwardYard$Walk" "found" "I" : Cond) ∈ fy_T := fy_mem (i := 86) rfl rfl
theorem k_cl_Yd_30 : (.classLink "ForwardYard" 30 "ForwardYard$Space" : Cond) ∈ fy_T := fy_mem (i := 94) rfl rfl
theorem k_new_Sp : (.instantiable "ForwardYard$Space" 3 : Cond) ∈ fy_T := fy_mem (i := 95) rfl rfl
theorem k_f_Sp_11 : (.fieldLink "ForwardYard$Space" 11 "ForwardYard$Space" "row" "[I" : Cond) ∈ fy_T := fy_mem (i := 100) rfl rfl
theorem k_f_Sp_15 : (.fieldLink "ForwardYard$Space" 15 "ForwardYard$Space" "words" "I" : Cond) ∈ fy_T := fy_mem (i := 101) rfl rfl
theorem k_f_Sp_19 : (.fieldLink "ForwardYard$Space" 19 "ForwardYard$Space" "objects" "I" : Cond) ∈ fy_T := fy_mem (i := 102) rfl rfl
theorem k_f_Yd_9 : (.fieldLink "ForwardYard" 9 "ForwardYard" "registers" "[I" : Cond) ∈ fy_T := fy_mem (i := 113) rfl rfl
theorem k_f_Yd_13 : (.fieldLink "ForwardYard" 13 "ForwardYard" "weakRegisters" "[I" : Cond) ∈ fy_T := fy_mem (i := 114) rfl rfl
theorem k_f_Yd_19 : (.fieldLink "ForwardYard" 19 "ForwardYard" "crew" "LForwardYard$Crew;" : Cond) ∈ fy_T := fy_mem (i := 115) rfl rfl
theorem k_f_Yd_26 : (.fieldLink "ForwardYard" 26 "ForwardYard" "walk" "LForwardYard$Walk;" : Cond) ∈ fy_T := fy_mem (i := 116) rfl rfl
theorem k_f_Yd_33 : (.fieldLink "ForwardYard" 33 "ForwardYard" "space" "LForwardYard$Space;" : Cond) ∈ fy_T := fy_mem (i := 117) rfl rfl
theorem k_f_Yd_37 : (.fieldLink "ForwardYard" 37 "ForwardYard" "spare" "LForwardYard$Space;" : Cond) ∈ fy_T := fy_mem (i := 118) rfl rfl
theorem k_f_Yd_66 : (.fieldLink "ForwardYard" 66 "ForwardYard" "made" "I" : Cond) ∈ fy_T := fy_mem (i := 119) rfl rfl
theorem k_f_Yd_141 : (.fieldLink "ForwardYard" 141 "ForwardYard" "collections" "I" : Cond) ∈ fy_T := fy_mem (i := 120) rfl rfl
theorem k_cl_La_13 : (.classLink "ForwardYardLaw" 13 "java/lang/IllegalArgumentException" : Cond) ∈ fy_T := fy_mem (i := 141) rfl rfl
theorem k_cl_La_15 : (.classLink "ForwardYardLaw" 15 "java/lang/IllegalStateException" : Cond) ∈ fy_T := fy_mem (i := 142) rfl rfl
theorem k_cl_Yd_50 : (.classLink "ForwardYard" 50 "java/lang/IllegalArgumentException" : Cond) ∈ fy_T := fy_mem (i := 150) rfl rfl
set_option maxRecDepth 20000 in
theorem k_arr_byte : (.arrayClass .byte : Cond) ∈ fy_T := fy_mem (i := 218) rfl rfl
set_option maxRecDepth 20000 in
theorem k_cl_Yd_61 : (.classLink "ForwardYard" 61 "java/lang/IllegalStateException" : Cond) ∈ fy_T := fy_mem (i := 224) rfl rfl
set_option maxRecDepth 20000 in
theorem k_cl_La_21 : (.classLink "ForwardYardLaw" 21 "java/util/NoSuchElementException" : Cond) ∈ fy_T := fy_mem (i := 247) rfl rfl
set_option maxRecDepth 20000 in
theorem k_cl_La_23 : (.classLink "ForwardYardLaw" 23 "java/lang/IndexOutOfBoundsException" : Cond) ∈ fy_T := fy_mem (i := 248) rfl rfl
set_option maxRecDepth 20000 in
theorem k_cl_Yd_158 : (.classLink "ForwardYard" 158 "java/util/NoSuchElementException" : Cond) ∈ fy_T := fy_mem (i := 257) rfl rfl
set_option maxRecDepth 20000 in
theorem k_cl_Yd_153 : (.classLink "ForwardYard" 153 "java/lang/IndexOutOfBoundsException" : Cond) ∈ fy_T := fy_mem (i := 281) rfl rfl
set_option maxRecDepth 20000 in
theorem k_cl_La_70 : (.classLink "ForwardYardLaw" 70 "ForwardYardModel" : Cond) ∈ fy_T := fy_mem (i := 499) rfl rfl
set_option maxRecDepth 20000 in
theorem k_new_Mo : (.instantiable "ForwardYardModel" 12 : Cond) ∈ fy_T := fy_mem (i := 500) rfl rfl
set_option maxRecDepth 20000 in
theorem k_f_Mo_35 : (.fieldLink "ForwardYardModel" 35 "ForwardYardModel" "code" "I" : Cond) ∈ fy_T := fy_mem (i := 505) rfl rfl
set_option maxRecDepth 20000 in
theorem k_f_Mo_50 : (.fieldLink "ForwardYardModel" 50 "ForwardYardModel" "made" "I" : Cond) ∈ fy_T := fy_mem (i := 506) rfl rfl
set_option maxRecDepth 20000 in
theorem k_f_Mo_81 : (.fieldLink "ForwardYardModel" 81 "ForwardYardModel" "collections" "I" : Cond) ∈ fy_T := fy_mem (i := 507) rfl rfl
set_option maxRecDepth 20000 in
theorem k_f_Mo_39 : (.fieldLink "ForwardYardModel" 39 "ForwardYardModel" "count" "I" : Cond) ∈ fy_T := fy_mem (i := 508) rfl rfl
set_option maxRecDepth 20000 in
theorem k_f_Mo_7 : (.fieldLink "ForwardYardModel" 7 "ForwardYardModel" "number" "[I" : Cond) ∈ fy_T := fy_mem (i := 509) rfl rfl
set_option maxRecDepth 20000 in
theorem k_f_Mo_13 : (.fieldLink "ForwardYardModel" 13 "ForwardYardModel" "value" "[I" : Cond) ∈ fy_T := fy_mem (i := 510) rfl rfl
set_option maxRecDepth 20000 in
theorem k_f_Mo_16 : (.fieldLink "ForwardYardModel" 16 "ForwardYardModel" "age" "[I" : Cond) ∈ fy_T := fy_mem (i := 511) rfl rfl
set_option maxRecDepth 20000 in
theorem k_f_Mo_19 : (.fieldLink "ForwardYardModel" 19 "ForwardYardModel" "fields" "[I" : Cond) ∈ fy_T := fy_mem (i := 512) rfl rfl
set_option maxRecDepth 20000 in
theorem k_f_Mo_22 : (.fieldLink "ForwardYardModel" 22 "ForwardYardModel" "refers" "[I" : Cond) ∈ fy_T := fy_mem (i := 513) rfl rfl
set_option maxRecDepth 20000 in
theorem k_f_Mo_25 : (.fieldLink "ForwardYardModel" 25 "ForwardYardModel" "mark" "[Z" : Cond) ∈ fy_T := fy_mem (i := 514) rfl rfl
set_option maxRecDepth 20000 in
theorem k_f_Mo_29 : (.fieldLink "ForwardYardModel" 29 "ForwardYardModel" "register" "[I" : Cond) ∈ fy_T := fy_mem (i := 515) rfl rfl
set_option maxRecDepth 20000 in
theorem k_f_Mo_32 : (.fieldLink "ForwardYardModel" 32 "ForwardYardModel" "weak" "[I" : Cond) ∈ fy_T := fy_mem (i := 516) rfl rfl
set_option maxRecDepth 20000 in
theorem k_arr_boolean : (.arrayClass .boolean : Cond) ∈ fy_T := fy_mem (i := 542) rfl rfl
set_option maxRecDepth 20000 in
theorem k_arr_long : (.arrayClass .long : Cond) ∈ fy_T := fy_mem (i := 645) rfl rfl
theorem k_c_Yd_init : (.code y_Yd_init b_Yd_init 1 (none) : Cond) ∈ fy_T := fy_mem (i := 37) rfl rfl
theorem k_i_Yd_init : (.instanceMethod y_Yd_init : Cond) ∈ fy_T := fy_mem (i := 36) rfl rfl
theorem k_c_Cr_init : (.code y_Cr_init b_Cr_init 2 (none) : Cond) ∈ fy_T := fy_mem (i := 45) rfl rfl
theorem k_i_Cr_init : (.instanceMethod y_Cr_init : Cond) ∈ fy_T := fy_mem (i := 44) rfl rfl
theorem k_c_Wo_init : (.code y_Wo_init b_Wo_init 1 (none) : Cond) ∈ fy_T := fy_mem (i := 52) rfl rfl
theorem k_i_Wo_init : (.instanceMethod y_Wo_init : Cond) ∈ fy_T := fy_mem (i := 51) rfl rfl
theorem k_c_Wa_init : (.code y_Wa_init b_Wa_init 1 (none) : Cond) ∈ fy_T := fy_mem (i := 82) rfl rfl
theorem k_i_Wa_init : (.instanceMethod y_Wa_init : Cond) ∈ fy_T := fy_mem (i := 81) rfl rfl
theorem k_c_Sp_init : (.code y_Sp_init b_Sp_init 1 (none) : Cond) ∈ fy_T := fy_mem (i := 98) rfl rfl
theorem k_i_Sp_init : (.instanceMethod y_Sp_init : Cond) ∈ fy_T := fy_mem (i := 97) rfl rfl
theorem k_c_Ar_fill : (.code y_Ar_fill b_Ar_fill 4 (none) : Cond) ∈ fy_T := fy_mem (i := 112) rfl rfl
theorem k_s_Ar_fill : (.static y_Ar_fill : Cond) ∈ fy_T := fy_mem (i := 111) rfl rfl
theorem k_c_Yd_make : (.code y_Yd_make b_Yd_make 5 (some .int) : Cond) ∈ fy_T := fy_mem (i := 146) rfl rfl
theorem k_i_Yd_make : (.instanceMethod y_Yd_make : Cond) ∈ fy_T := fy_mem (i := 144) rfl rfl
theorem k_sel_Yd_make : (.selects "ForwardYard" y_Yd_make y_Yd_make : Cond) ∈ fy_T := fy_mem (i := 145) rfl rfl
theorem k_c_Yd_checkRegister : (.code y_Yd_checkRegister b_Yd_checkRegister 1 (none) : Cond) ∈ fy_T := fy_mem (i := 149) rfl rfl
theorem k_s_Yd_checkRegister : (.static y_Yd_checkRegister : Cond) ∈ fy_T := fy_mem (i := 148) rfl rfl
set_option maxRecDepth 20000 in
theorem k_c_Sp_hasRoomFor : (.code y_Sp_hasRoomFor b_Sp_hasRoomFor 2 (some .boolean) : Cond) ∈ fy_T := fy_mem (i := 223) rfl rfl
set_option maxRecDepth 20000 in
theorem k_i_Sp_hasRoomFor : (.instanceMethod y_Sp_hasRoomFor : Cond) ∈ fy_T := fy_mem (i := 221) rfl rfl
set_option maxRecDepth 20000 in
theorem k_sel_Sp_hasRoomFor : (.selects "ForwardYard$Space" y_Sp_hasRoomFor y_Sp_hasRoomFor : Cond) ∈ fy_T := fy_mem (i := 222) rfl rfl
set_option maxRecDepth 20000 in
theorem k_c_Sp_layDown : (.code y_Sp_layDown b_Sp_layDown 6 (some .int) : Cond) ∈ fy_T := fy_mem (i := 243) rfl rfl
set_option maxRecDepth 20000 in
theorem k_i_Sp_layDown : (.instanceMethod y_Sp_layDown : Cond) ∈ fy_T := fy_mem (i := 241) rfl rfl
set_option maxRecDepth 20000 in
theorem k_sel_Sp_layDown : (.selects "ForwardYard$Space" y_Sp_layDown y_Sp_layDown : Cond) ∈ fy_T := fy_mem (i := 242) rfl rfl
set_option maxRecDepth 20000 in
theorem k_c_Yd_set : (.code y_Yd_set b_Yd_set 5 (none) : Cond) ∈ fy_T := fy_mem (i := 252) rfl rfl
set_option maxRecDepth 20000 in
theorem k_i_Yd_set : (.instanceMethod y_Yd_set : Cond) ∈ fy_T := fy_mem (i := 250) rfl rfl
set_option maxRecDepth 20000 in
theorem k_sel_Yd_set : (.selects "ForwardYard" y_Yd_set y_Yd_set : Cond) ∈ fy_T := fy_mem (i := 251) rfl rfl
set_option maxRecDepth 20000 in
theorem k_c_Yd_objectOf : (.code y_Yd_objectOf b_Yd_objectOf 3 (some .int) : Cond) ∈ fy_T := fy_mem (i := 256) rfl rfl
set_option maxRecDepth 20000 in
theorem k_i_Yd_objectOf : (.instanceMethod y_Yd_objectOf : Cond) ∈ fy_T := fy_mem (i := 255) rfl rfl
theorem k_sel_Yd_objectOf : (.selects "ForwardYard" y_Yd_objectOf y_Yd_objectOf : Cond) ∈ fy_T := fy_mem (i := 1) rfl rfl
set_option maxRecDepth 20000 in
theorem k_c_Yd_checkField : (.code y_Yd_checkField b_Yd_checkField 3 (none) : Cond) ∈ fy_T := fy_mem (i := 276) rfl rfl
set_option maxRecDepth 20000 in
theorem k_i_Yd_checkField : (.instanceMethod y_Yd_checkField : Cond) ∈ fy_T := fy_mem (i := 275) rfl rfl
theorem k_sel_Yd_checkField : (.selects "ForwardYard" y_Yd_checkField y_Yd_checkField : Cond) ∈ fy_T := fy_mem (i := 2) rfl rfl
set_option maxRecDepth 20000 in
theorem k_c_Sp_fieldCountOf : (.code y_Sp_fieldCountOf b_Sp_fieldCountOf 2 (some .int) : Cond) ∈ fy_T := fy_mem (i := 280) rfl rfl
set_option maxRecDepth 20000 in
theorem k_i_Sp_fieldCountOf : (.instanceMethod y_Sp_fieldCountOf : Cond) ∈ fy_T := fy_mem (i := 278) rfl rfl
set_option maxRecDepth 20000 in
theorem k_sel_Sp_fieldCountOf : (.selects "ForwardYard$Space" y_Sp_fieldCountOf y_Sp_fieldCountOf : Cond) ∈ fy_T := fy_mem (i := 279) rfl rfl
set_option maxRecDepth 20000 in
theorem k_c_Sp_refer : (.code y_Sp_refer b_Sp_refer 4 (none) : Cond) ∈ fy_T := fy_mem (i := 300) rfl rfl
set_option maxRecDepth 20000 in
theorem k_i_Sp_refer : (.instanceMethod y_Sp_refer : Cond) ∈ fy_T := fy_mem (i := 298) rfl rfl
set_option maxRecDepth 20000 in
theorem k_sel_Sp_refer : (.selects "ForwardYard$Space" y_Sp_refer y_Sp_refer : Cond) ∈ fy_T := fy_mem (i := 299) rfl rfl
set_option maxRecDepth 20000 in
theorem k_c_Yd_get : (.code y_Yd_get b_Yd_get 5 (none) : Cond) ∈ fy_T := fy_mem (i := 307) rfl rfl
set_option maxRecDepth 20000 in
theorem k_i_Yd_get : (.instanceMethod y_Yd_get : Cond) ∈ fy_T := fy_mem (i := 305) rfl rfl
set_option maxRecDepth 20000 in
theorem k_sel_Yd_get : (.selects "ForwardYard" y_Yd_get y_Yd_get : Cond) ∈ fy_T := fy_mem (i := 306) rfl rfl
set_option maxRecDepth 20000 in
theorem k_c_Sp_referent : (.code y_Sp_referent b_Sp_referent 3 (some .int) : Cond) ∈ fy_T := fy_mem (i := 311) rfl rfl
set_option maxRecDepth 20000 in
theorem k_i_Sp_referent : (.instanceMethod y_Sp_referent : Cond) ∈ fy_T := fy_mem (i := 309) rfl rfl
set_option maxRecDepth 20000 in
theorem k_sel_Sp_referent : (.selects "ForwardYard$Space" y_Sp_referent y_Sp_referent : Cond) ∈ fy_T := fy_mem (i := 310) rfl rfl
set_option maxRecDepth 20000 in
theorem k_c_Yd_copy : (.code y_Yd_copy b_Yd_copy 3 (none) : Cond) ∈ fy_T := fy_mem (i := 318) rfl rfl
set_option maxRecDepth 20000 in
theorem k_i_Yd_copy : (.instanceMethod y_Yd_copy : Cond) ∈ fy_T := fy_mem (i := 316) rfl rfl
set_option maxRecDepth 20000 in
theorem k_sel_Yd_copy : (.selects "ForwardYard" y_Yd_copy y_Yd_copy : Cond) ∈ fy_T := fy_mem (i := 317) rfl rfl
set_option maxRecDepth 20000 in
theorem k_c_Yd_clear : (.code y_Yd_clear b_Yd_clear 3 (some .boolean) : Cond) ∈ fy_T := fy_mem (i := 325) rfl rfl
set_option maxRecDepth 20000 in
theorem k_i_Yd_clear : (.instanceMethod y_Yd_clear : Cond) ∈ fy_T := fy_mem (i := 323) rfl rfl
set_option maxRecDepth 20000 in
theorem k_sel_Yd_clear : (.selects "ForwardYard" y_Yd_clear y_Yd_clear : Cond) ∈ fy_T := fy_mem (i := 324) rfl rfl
set_option maxRecDepth 20000 in
theorem k_c_Yd_write : (.code y_Yd_write b_Yd_write 5 (some .int) : Cond) ∈ fy_T := fy_mem (i := 332) rfl rfl
set_option maxRecDepth 20000 in
theorem k_i_Yd_write : (.instanceMethod y_Yd_write : Cond) ∈ fy_T := fy_mem (i := 330) rfl rfl
set_option maxRecDepth 20000 in
theorem k_sel_Yd_write : (.selects "ForwardYard" y_Yd_write y_Yd_write : Cond) ∈ fy_T := fy_mem (i := 331) rfl rfl
set_option maxRecDepth 20000 in
theorem k_c_Sp_valueOf : (.code y_Sp_valueOf b_Sp_valueOf 2 (some .int) : Cond) ∈ fy_T := fy_mem (i := 336) rfl rfl
set_option maxRecDepth 20000 in
theorem k_i_Sp_valueOf : (.instanceMethod y_Sp_valueOf : Cond) ∈ fy_T := fy_mem (i := 334) rfl rfl
set_option maxRecDepth 20000 in
theorem k_sel_Sp_valueOf : (.selects "ForwardYard$Space" y_Sp_valueOf y_Sp_valueOf : Cond) ∈ fy_T := fy_mem (i := 335) rfl rfl
set_option maxRecDepth 20000 in
theorem k_c_Sp_putValue : (.code y_Sp_putValue b_Sp_putValue 3 (none) : Cond) ∈ fy_T := fy_mem (i := 340) rfl rfl
set_option maxRecDepth 20000 in
theorem k_i_Sp_putValue : (.instanceMethod y_Sp_putValue : Cond) ∈ fy_T := fy_mem (i := 338) rfl rfl
set_option maxRecDepth 20000 in
theorem k_sel_Sp_putValue : (.selects "ForwardYard$Space" y_Sp_putValue y_Sp_putValue : Cond) ∈ fy_T := fy_mem (i := 339) rfl rfl
set_option maxRecDepth 20000 in
theorem k_c_Yd_watch : (.code y_Yd_watch b_Yd_watch 3 (none) : Cond) ∈ fy_T := fy_mem (i := 347) rfl rfl
set_option maxRecDepth 20000 in
theorem k_i_Yd_watch : (.instanceMethod y_Yd_watch : Cond) ∈ fy_T := fy_mem (i := 345) rfl rfl
set_option maxRecDepth 20000 in
theorem k_sel_Yd_watch : (.selects "ForwardYard" y_Yd_watch y_Yd_watch : Cond) ∈ fy_T := fy_mem (i := 346) rfl rfl
set_option maxRecDepth 20000 in
theorem k_c_Yd_checkWeakRegister : (.code y_Yd_checkWeakRegister b_Yd_checkWeakRegister 1 (none) : Cond) ∈ fy_T := fy_mem (i := 350) rfl rfl
set_option maxRecDepth 20000 in
theorem k_s_Yd_checkWeakRegister : (.static y_Yd_checkWeakRegister : Cond) ∈ fy_T := fy_mem (i := 349) rfl rfl
set_option maxRecDepth 20000 in
theorem k_c_Yd_revive : (.code y_Yd_revive b_Yd_revive 3 (none) : Cond) ∈ fy_T := fy_mem (i := 358) rfl rfl
set_option maxRecDepth 20000 in
theorem k_i_Yd_revive : (.instanceMethod y_Yd_revive : Cond) ∈ fy_T := fy_mem (i := 356) rfl rfl
set_option maxRecDepth 20000 in
theorem k_sel_Yd_revive : (.selects "ForwardYard" y_Yd_revive y_Yd_revive : Cond) ∈ fy_T := fy_mem (i := 357) rfl rfl
set_option maxRecDepth 20000 in
theorem k_c_Yd_watched : (.code y_Yd_watched b_Yd_watched 2 (some .int) : Cond) ∈ fy_T := fy_mem (i := 365) rfl rfl
set_option maxRecDepth 20000 in
theorem k_i_Yd_watched : (.instanceMethod y_Yd_watched : Cond) ∈ fy_T := fy_mem (i := 363) rfl rfl
set_option maxRecDepth 20000 in
theorem k_sel_Yd_watched : (.selects "ForwardYard" y_Yd_watched y_Yd_watched : Cond) ∈ fy_T := fy_mem (i := 364) rfl rfl
set_option maxRecDepth 20000 in
theorem k_c_Yd_numberOrNothing : (.code y_Yd_numberOrNothing b_Yd_numberOrNothing 2 (some .int) : Cond) ∈ fy_T := fy_mem (i := 369) rfl rfl
set_option maxRecDepth 20000 in
theorem k_i_Yd_numberOrNothing : (.instanceMethod y_Yd_numberOrNothing : Cond) ∈ fy_T := fy_mem (i := 368) rfl rfl
theorem k_sel_Yd_numberOrNothing : (.selects "ForwardYard" y_Yd_numberOrNothing y_Yd_numberOrNothing : Cond) ∈ fy_T := fy_mem (i := 3) rfl rfl
set_option maxRecDepth 20000 in
theorem k_c_Sp_numberOf : (.code y_Sp_numberOf b_Sp_numberOf 2 (some .int) : Cond) ∈ fy_T := fy_mem (i := 373) rfl rfl
set_option maxRecDepth 20000 in
theorem k_i_Sp_numberOf : (.instanceMethod y_Sp_numberOf : Cond) ∈ fy_T := fy_mem (i := 371) rfl rfl
set_option maxRecDepth 20000 in
theorem k_sel_Sp_numberOf : (.selects "ForwardYard$Space" y_Sp_numberOf y_Sp_numberOf : Cond) ∈ fy_T := fy_mem (i := 372) rfl rfl
set_option maxRecDepth 20000 in
theorem k_c_Yd_about : (.code y_Yd_about b_Yd_about 4 (some .int) : Cond) ∈ fy_T := fy_mem (i := 380) rfl rfl
set_option maxRecDepth 20000 in
theorem k_i_Yd_about : (.instanceMethod y_Yd_about : Cond) ∈ fy_T := fy_mem (i := 378) rfl rfl
set_option maxRecDepth 20000 in
theorem k_sel_Yd_about : (.selects "ForwardYard" y_Yd_about y_Yd_about : Cond) ∈ fy_T := fy_mem (i := 379) rfl rfl
set_option maxRecDepth 20000 in
theorem k_c_Sp_ageOf : (.code y_Sp_ageOf b_Sp_ageOf 2 (some .int) : Cond) ∈ fy_T := fy_mem (i := 385) rfl rfl
set_option maxRecDepth 20000 in
theorem k_i_Sp_ageOf : (.instanceMethod y_Sp_ageOf : Cond) ∈ fy_T := fy_mem (i := 383) rfl rfl
set_option maxRecDepth 20000 in
theorem k_sel_Sp_ageOf : (.selects "ForwardYard$Space" y_Sp_ageOf y_Sp_ageOf : Cond) ∈ fy_T := fy_mem (i := 384) rfl rfl
set_option maxRecDepth 20000 in
theorem k_c_Yd_field : (.code y_Yd_field b_Yd_field 4 (some .int) : Cond) ∈ fy_T := fy_mem (i := 392) rfl rfl
set_option maxRecDepth 20000 in
theorem k_i_Yd_field : (.instanceMethod y_Yd_field : Cond) ∈ fy_T := fy_mem (i := 390) rfl rfl
set_option maxRecDepth 20000 in
theorem k_sel_Yd_field : (.selects "ForwardYard" y_Yd_field y_Yd_field : Cond) ∈ fy_T := fy_mem (i := 391) rfl rfl
set_option maxRecDepth 20000 in
theorem k_c_Yd_same : (.code y_Yd_same b_Yd_same 3 (some .boolean) : Cond) ∈ fy_T := fy_mem (i := 399) rfl rfl
set_option maxRecDepth 20000 in
theorem k_i_Yd_same : (.instanceMethod y_Yd_same : Cond) ∈ fy_T := fy_mem (i := 397) rfl rfl
set_option maxRecDepth 20000 in
theorem k_sel_Yd_same : (.selects "ForwardYard" y_Yd_same y_Yd_same : Cond) ∈ fy_T := fy_mem (i := 398) rfl rfl
set_option maxRecDepth 20000 in
theorem k_c_Yd_reach : (.code y_Yd_reach b_Yd_reach 2 (some .int) : Cond) ∈ fy_T := fy_mem (i := 406) rfl rfl
set_option maxRecDepth 20000 in
theorem k_i_Yd_reach : (.instanceMethod y_Yd_reach : Cond) ∈ fy_T := fy_mem (i := 404) rfl rfl
set_option maxRecDepth 20000 in
theorem k_sel_Yd_reach : (.selects "ForwardYard" y_Yd_reach y_Yd_reach : Cond) ∈ fy_T := fy_mem (i := 405) rfl rfl
set_option maxRecDepth 20000 in
theorem k_c_Wa_countFrom : (.code y_Wa_countFrom b_Wa_countFrom 6 (some .int) : Cond) ∈ fy_T := fy_mem (i := 410) rfl rfl
set_option maxRecDepth 20000 in
theorem k_i_Wa_countFrom : (.instanceMethod y_Wa_countFrom : Cond) ∈ fy_T := fy_mem (i := 408) rfl rfl
set_option maxRecDepth 20000 in
theorem k_sel_Wa_countFrom : (.selects "ForwardYard$Walk" y_Wa_countFrom y_Wa_countFrom : Cond) ∈ fy_T := fy_mem (i := 409) rfl rfl
set_option maxRecDepth 20000 in
theorem k_c_Wa_find : (.code y_Wa_find b_Wa_find 2 (none) : Cond) ∈ fy_T := fy_mem (i := 415) rfl rfl
set_option maxRecDepth 20000 in
theorem k_i_Wa_find : (.instanceMethod y_Wa_find : Cond) ∈ fy_T := fy_mem (i := 414) rfl rfl
theorem k_sel_Wa_find : (.selects "ForwardYard$Walk" y_Wa_find y_Wa_find : Cond) ∈ fy_T := fy_mem (i := 4) rfl rfl
set_option maxRecDepth 20000 in
theorem k_c_Yd_collect : (.code y_Yd_collect b_Yd_collect 5 (some .int) : Cond) ∈ fy_T := fy_mem (i := 424) rfl rfl
set_option maxRecDepth 20000 in
theorem k_i_Yd_collect : (.instanceMethod y_Yd_collect : Cond) ∈ fy_T := fy_mem (i := 422) rfl rfl
set_option maxRecDepth 20000 in
theorem k_sel_Yd_collect : (.selects "ForwardYard" y_Yd_collect y_Yd_collect : Cond) ∈ fy_T := fy_mem (i := 423) rfl rfl
set_option maxRecDepth 20000 in
theorem k_c_Sp_objects : (.code y_Sp_objects b_Sp_objects 1 (some .int) : Cond) ∈ fy_T := fy_mem (i := 429) rfl rfl
set_option maxRecDepth 20000 in
theorem k_i_Sp_objects : (.instanceMethod y_Sp_objects : Cond) ∈ fy_T := fy_mem (i := 427) rfl rfl
set_option maxRecDepth 20000 in
theorem k_sel_Sp_objects : (.selects "ForwardYard$Space" y_Sp_objects y_Sp_objects : Cond) ∈ fy_T := fy_mem (i := 428) rfl rfl
set_option maxRecDepth 20000 in
theorem k_c_Sp_makeEmpty : (.code y_Sp_makeEmpty b_Sp_makeEmpty 1 (none) : Cond) ∈ fy_T := fy_mem (i := 433) rfl rfl
set_option maxRecDepth 20000 in
theorem k_i_Sp_makeEmpty : (.instanceMethod y_Sp_makeEmpty : Cond) ∈ fy_T := fy_mem (i := 431) rfl rfl
set_option maxRecDepth 20000 in
theorem k_sel_Sp_makeEmpty : (.selects "ForwardYard$Space" y_Sp_makeEmpty y_Sp_makeEmpty : Cond) ∈ fy_T := fy_mem (i := 432) rfl rfl
set_option maxRecDepth 20000 in
theorem k_c_Cr_begin : (.code y_Cr_begin b_Cr_begin 3 (none) : Cond) ∈ fy_T := fy_mem (i := 437) rfl rfl
set_option maxRecDepth 20000 in
theorem k_i_Cr_begin : (.instanceMethod y_Cr_begin : Cond) ∈ fy_T := fy_mem (i := 435) rfl rfl
set_option maxRecDepth 20000 in
theorem k_sel_Cr_begin : (.selects "ForwardYard$Crew" y_Cr_begin y_Cr_begin : Cond) ∈ fy_T := fy_mem (i := 436) rfl rfl
set_option maxRecDepth 20000 in
theorem k_c_Cr_bringRoots : (.code y_Cr_bringRoots b_Cr_bringRoots 5 (none) : Cond) ∈ fy_T := fy_mem (i := 442) rfl rfl
set_option maxRecDepth 20000 in
theorem k_i_Cr_bringRoots : (.instanceMethod y_Cr_bringRoots : Cond) ∈ fy_T := fy_mem (i := 440) rfl rfl
set_option maxRecDepth 20000 in
theorem k_sel_Cr_bringRoots : (.selects "ForwardYard$Crew" y_Cr_bringRoots y_Cr_bringRoots : Cond) ∈ fy_T := fy_mem (i := 441) rfl rfl
set_option maxRecDepth 20000 in
theorem k_c_Cr_whoseTurn : (.code y_Cr_whoseTurn b_Cr_whoseTurn 3 (some .int) : Cond) ∈ fy_T := fy_mem (i := 446) rfl rfl
set_option maxRecDepth 20000 in
theorem k_i_Cr_whoseTurn : (.instanceMethod y_Cr_whoseTurn : Cond) ∈ fy_T := fy_mem (i := 445) rfl rfl
theorem k_sel_Cr_whoseTurn : (.selects "ForwardYard$Crew" y_Cr_whoseTurn y_Cr_whoseTurn : Cond) ∈ fy_T := fy_mem (i := 5) rfl rfl
set_option maxRecDepth 20000 in
theorem k_c_Cr_bring : (.code y_Cr_bring b_Cr_bring 5 (some .int) : Cond) ∈ fy_T := fy_mem (i := 450) rfl rfl
set_option maxRecDepth 20000 in
theorem k_i_Cr_bring : (.instanceMethod y_Cr_bring : Cond) ∈ fy_T := fy_mem (i := 449) rfl rfl
theorem k_sel_Cr_bring : (.selects "ForwardYard$Crew" y_Cr_bring y_Cr_bring : Cond) ∈ fy_T := fy_mem (i := 6) rfl rfl
set_option maxRecDepth 20000 in
theorem k_c_Sp_takeOver : (.code y_Sp_takeOver b_Sp_takeOver 5 (some .int) : Cond) ∈ fy_T := fy_mem (i := 454) rfl rfl
set_option maxRecDepth 20000 in
theorem k_i_Sp_takeOver : (.instanceMethod y_Sp_takeOver : Cond) ∈ fy_T := fy_mem (i := 452) rfl rfl
set_option maxRecDepth 20000 in
theorem k_sel_Sp_takeOver : (.selects "ForwardYard$Space" y_Sp_takeOver y_Sp_takeOver : Cond) ∈ fy_T := fy_mem (i := 453) rfl rfl
set_option maxRecDepth 20000 in
theorem k_c_Wo_pileUp : (.code y_Wo_pileUp b_Wo_pileUp 2 (none) : Cond) ∈ fy_T := fy_mem (i := 462) rfl rfl
set_option maxRecDepth 20000 in
theorem k_i_Wo_pileUp : (.instanceMethod y_Wo_pileUp : Cond) ∈ fy_T := fy_mem (i := 460) rfl rfl
set_option maxRecDepth 20000 in
theorem k_sel_Wo_pileUp : (.selects "ForwardYard$Worker" y_Wo_pileUp y_Wo_pileUp : Cond) ∈ fy_T := fy_mem (i := 461) rfl rfl
set_option maxRecDepth 20000 in
theorem k_c_Cr_bringAllReached : (.code y_Cr_bringAllReached b_Cr_bringAllReached 6 (none) : Cond) ∈ fy_T := fy_mem (i := 466) rfl rfl
set_option maxRecDepth 20000 in
theorem k_i_Cr_bringAllReached : (.instanceMethod y_Cr_bringAllReached : Cond) ∈ fy_T := fy_mem (i := 464) rfl rfl
set_option maxRecDepth 20000 in
theorem k_sel_Cr_bringAllReached : (.selects "ForwardYard$Crew" y_Cr_bringAllReached y_Cr_bringAllReached : Cond) ∈ fy_T := fy_mem (i := 465) rfl rfl
set_option maxRecDepth 20000 in
theorem k_c_Cr_takeFor : (.code y_Cr_takeFor b_Cr_takeFor 4 (some .int) : Cond) ∈ fy_T := fy_mem (i := 471) rfl rfl
set_option maxRecDepth 20000 in
theorem k_i_Cr_takeFor : (.instanceMethod y_Cr_takeFor : Cond) ∈ fy_T := fy_mem (i := 470) rfl rfl
theorem k_sel_Cr_takeFor : (.selects "ForwardYard$Crew" y_Cr_takeFor y_Cr_takeFor : Cond) ∈ fy_T := fy_mem (i := 7) rfl rfl
set_option maxRecDepth 20000 in
theorem k_c_Wo_takeTop : (.code y_Wo_takeTop b_Wo_takeTop 1 (some .int) : Cond) ∈ fy_T := fy_mem (i := 475) rfl rfl
set_option maxRecDepth 20000 in
theorem k_i_Wo_takeTop : (.instanceMethod y_Wo_takeTop : Cond) ∈ fy_T := fy_mem (i := 473) rfl rfl
set_option maxRecDepth 20000 in
theorem k_sel_Wo_takeTop : (.selects "ForwardYard$Worker" y_Wo_takeTop y_Wo_takeTop : Cond) ∈ fy_T := fy_mem (i := 474) rfl rfl
set_option maxRecDepth 20000 in
theorem k_c_Cr_bringFields : (.code y_Cr_bringFields b_Cr_bringFields 6 (none) : Cond) ∈ fy_T := fy_mem (i := 479) rfl rfl
set_option maxRecDepth 20000 in
theorem k_i_Cr_bringFields : (.instanceMethod y_Cr_bringFields : Cond) ∈ fy_T := fy_mem (i := 478) rfl rfl
theorem k_sel_Cr_bringFields : (.selects "ForwardYard$Crew" y_Cr_bringFields y_Cr_bringFields : Cond) ∈ fy_T := fy_mem (i := 8) rfl rfl
set_option maxRecDepth 20000 in
theorem k_c_Cr_followWeak : (.code y_Cr_followWeak b_Cr_followWeak 3 (none) : Cond) ∈ fy_T := fy_mem (i := 486) rfl rfl
set_option maxRecDepth 20000 in
theorem k_i_Cr_followWeak : (.instanceMethod y_Cr_followWeak : Cond) ∈ fy_T := fy_mem (i := 484) rfl rfl
set_option maxRecDepth 20000 in
theorem k_sel_Cr_followWeak : (.selects "ForwardYard$Crew" y_Cr_followWeak y_Cr_followWeak : Cond) ∈ fy_T := fy_mem (i := 485) rfl rfl
set_option maxRecDepth 20000 in
theorem k_c_Yd_figure : (.code y_Yd_figure b_Yd_figure 2 (some .int) : Cond) ∈ fy_T := fy_mem (i := 493) rfl rfl
set_option maxRecDepth 20000 in
theorem k_i_Yd_figure : (.instanceMethod y_Yd_figure : Cond) ∈ fy_T := fy_mem (i := 491) rfl rfl
set_option maxRecDepth 20000 in
theorem k_sel_Yd_figure : (.selects "ForwardYard" y_Yd_figure y_Yd_figure : Cond) ∈ fy_T := fy_mem (i := 492) rfl rfl
set_option maxRecDepth 20000 in
theorem k_c_Sp_words : (.code y_Sp_words b_Sp_words 1 (some .int) : Cond) ∈ fy_T := fy_mem (i := 497) rfl rfl
set_option maxRecDepth 20000 in
theorem k_i_Sp_words : (.instanceMethod y_Sp_words : Cond) ∈ fy_T := fy_mem (i := 495) rfl rfl
set_option maxRecDepth 20000 in
theorem k_sel_Sp_words : (.selects "ForwardYard$Space" y_Sp_words y_Sp_words : Cond) ∈ fy_T := fy_mem (i := 496) rfl rfl
set_option maxRecDepth 20000 in
theorem k_c_Mo_init : (.code y_Mo_init b_Mo_init 2 (none) : Cond) ∈ fy_T := fy_mem (i := 503) rfl rfl
set_option maxRecDepth 20000 in
theorem k_i_Mo_init : (.instanceMethod y_Mo_init : Cond) ∈ fy_T := fy_mem (i := 502) rfl rfl
set_option maxRecDepth 20000 in
theorem k_c_Mo_thrown : (.code y_Mo_thrown b_Mo_thrown 1 (some .int) : Cond) ∈ fy_T := fy_mem (i := 546) rfl rfl
set_option maxRecDepth 20000 in
theorem k_i_Mo_thrown : (.instanceMethod y_Mo_thrown : Cond) ∈ fy_T := fy_mem (i := 544) rfl rfl
set_option maxRecDepth 20000 in
theorem k_sel_Mo_thrown : (.selects "ForwardYardModel" y_Mo_thrown y_Mo_thrown : Cond) ∈ fy_T := fy_mem (i := 545) rfl rfl
set_option maxRecDepth 20000 in
theorem k_c_Mo_make : (.code y_Mo_make b_Mo_make 5 (some .int) : Cond) ∈ fy_T := fy_mem (i := 550) rfl rfl
set_option maxRecDepth 20000 in
theorem k_i_Mo_make : (.instanceMethod y_Mo_make : Cond) ∈ fy_T := fy_mem (i := 548) rfl rfl
set_option maxRecDepth 20000 in
theorem k_sel_Mo_make : (.selects "ForwardYardModel" y_Mo_make y_Mo_make : Cond) ∈ fy_T := fy_mem (i := 549) rfl rfl
set_option maxRecDepth 20000 in
theorem k_c_Mo_isRegister : (.code y_Mo_isRegister b_Mo_isRegister 1 (some .boolean) : Cond) ∈ fy_T := fy_mem (i := 553) rfl rfl
set_option maxRecDepth 20000 in
theorem k_s_Mo_isRegister : (.static y_Mo_isRegister : Cond) ∈ fy_T := fy_mem (i := 552) rfl rfl
set_option maxRecDepth 20000 in
theorem k_c_Mo_words : (.code y_Mo_words b_Mo_words 3 (some .int) : Cond) ∈ fy_T := fy_mem (i := 557) rfl rfl
set_option maxRecDepth 20000 in
theorem k_i_Mo_words : (.instanceMethod y_Mo_words : Cond) ∈ fy_T := fy_mem (i := 556) rfl rfl
theorem k_sel_Mo_words : (.selects "ForwardYardModel" y_Mo_words y_Mo_words : Cond) ∈ fy_T := fy_mem (i := 9) rfl rfl
set_option maxRecDepth 20000 in
theorem k_c_Mo_set : (.code y_Mo_set b_Mo_set 5 (none) : Cond) ∈ fy_T := fy_mem (i := 561) rfl rfl
set_option maxRecDepth 20000 in
theorem k_i_Mo_set : (.instanceMethod y_Mo_set : Cond) ∈ fy_T := fy_mem (i := 559) rfl rfl
set_option maxRecDepth 20000 in
theorem k_sel_Mo_set : (.selects "ForwardYardModel" y_Mo_set y_Mo_set : Cond) ∈ fy_T := fy_mem (i := 560) rfl rfl
set_option maxRecDepth 20000 in
theorem k_c_Mo_fieldAt : (.code y_Mo_fieldAt b_Mo_fieldAt 4 (some .int) : Cond) ∈ fy_T := fy_mem (i := 565) rfl rfl
set_option maxRecDepth 20000 in
theorem k_i_Mo_fieldAt : (.instanceMethod y_Mo_fieldAt : Cond) ∈ fy_T := fy_mem (i := 564) rfl rfl
theorem k_sel_Mo_fieldAt : (.selects "ForwardYardModel" y_Mo_fieldAt y_Mo_fieldAt : Cond) ∈ fy_T := fy_mem (i := 10) rfl rfl
set_option maxRecDepth 20000 in
theorem k_c_Mo_find : (.code y_Mo_find b_Mo_find 4 (some .int) : Cond) ∈ fy_T := fy_mem (i := 569) rfl rfl
set_option maxRecDepth 20000 in
theorem k_i_Mo_find : (.instanceMethod y_Mo_find : Cond) ∈ fy_T := fy_mem (i := 568) rfl rfl
theorem k_sel_Mo_find : (.selects "ForwardYardModel" y_Mo_find y_Mo_find : Cond) ∈ fy_T := fy_mem (i := 11) rfl rfl
set_option maxRecDepth 20000 in
theorem k_c_Mo_get : (.code y_Mo_get b_Mo_get 5 (none) : Cond) ∈ fy_T := fy_mem (i := 573) rfl rfl
set_option maxRecDepth 20000 in
theorem k_i_Mo_get : (.instanceMethod y_Mo_get : Cond) ∈ fy_T := fy_mem (i := 571) rfl rfl
set_option maxRecDepth 20000 in
theorem k_sel_Mo_get : (.selects "ForwardYardModel" y_Mo_get y_Mo_get : Cond) ∈ fy_T := fy_mem (i := 572) rfl rfl
set_option maxRecDepth 20000 in
theorem k_c_Mo_copy : (.code y_Mo_copy b_Mo_copy 3 (none) : Cond) ∈ fy_T := fy_mem (i := 577) rfl rfl
set_option maxRecDepth 20000 in
theorem k_i_Mo_copy : (.instanceMethod y_Mo_copy : Cond) ∈ fy_T := fy_mem (i := 575) rfl rfl
set_option maxRecDepth 20000 in
theorem k_sel_Mo_copy : (.selects "ForwardYardModel" y_Mo_copy y_Mo_copy : Cond) ∈ fy_T := fy_mem (i := 576) rfl rfl
set_option maxRecDepth 20000 in
theorem k_c_Mo_clear : (.code y_Mo_clear b_Mo_clear 3 (some .boolean) : Cond) ∈ fy_T := fy_mem (i := 581) rfl rfl
set_option maxRecDepth 20000 in
theorem k_i_Mo_clear : (.instanceMethod y_Mo_clear : Cond) ∈ fy_T := fy_mem (i := 579) rfl rfl
set_option maxRecDepth 20000 in
theorem k_sel_Mo_clear : (.selects "ForwardYardModel" y_Mo_clear y_Mo_clear : Cond) ∈ fy_T := fy_mem (i := 580) rfl rfl
set_option maxRecDepth 20000 in
theorem k_c_Mo_write : (.code y_Mo_write b_Mo_write 5 (some .int) : Cond) ∈ fy_T := fy_mem (i := 585) rfl rfl
set_option maxRecDepth 20000 in
theorem k_i_Mo_write : (.instanceMethod y_Mo_write : Cond) ∈ fy_T := fy_mem (i := 583) rfl rfl
set_option maxRecDepth 20000 in
theorem k_sel_Mo_write : (.selects "ForwardYardModel" y_Mo_write y_Mo_write : Cond) ∈ fy_T := fy_mem (i := 584) rfl rfl
set_option maxRecDepth 20000 in
theorem k_c_Mo_watch : (.code y_Mo_watch b_Mo_watch 3 (none) : Cond) ∈ fy_T := fy_mem (i := 589) rfl rfl
set_option maxRecDepth 20000 in
theorem k_i_Mo_watch : (.instanceMethod y_Mo_watch : Cond) ∈ fy_T := fy_mem (i := 587) rfl rfl
set_option maxRecDepth 20000 in
theorem k_sel_Mo_watch : (.selects "ForwardYardModel" y_Mo_watch y_Mo_watch : Cond) ∈ fy_T := fy_mem (i := 588) rfl rfl
set_option maxRecDepth 20000 in
theorem k_c_Mo_isWeak : (.code y_Mo_isWeak b_Mo_isWeak 1 (some .boolean) : Cond) ∈ fy_T := fy_mem (i := 592) rfl rfl
set_option maxRecDepth 20000 in
theorem k_s_Mo_isWeak : (.static y_Mo_isWeak : Cond) ∈ fy_T := fy_mem (i := 591) rfl rfl
set_option maxRecDepth 20000 in
theorem k_c_Mo_revive : (.code y_Mo_revive b_Mo_revive 3 (none) : Cond) ∈ fy_T := fy_mem (i := 596) rfl rfl
set_option maxRecDepth 20000 in
theorem k_i_Mo_revive : (.instanceMethod y_Mo_revive : Cond) ∈ fy_T := fy_mem (i := 594) rfl rfl
set_option maxRecDepth 20000 in
theorem k_sel_Mo_revive : (.selects "ForwardYardModel" y_Mo_revive y_Mo_revive : Cond) ∈ fy_T := fy_mem (i := 595) rfl rfl
set_option maxRecDepth 20000 in
theorem k_c_Mo_watched : (.code y_Mo_watched b_Mo_watched 2 (some .int) : Cond) ∈ fy_T := fy_mem (i := 600) rfl rfl
set_option maxRecDepth 20000 in
theorem k_i_Mo_watched : (.instanceMethod y_Mo_watched : Cond) ∈ fy_T := fy_mem (i := 598) rfl rfl
set_option maxRecDepth 20000 in
theorem k_sel_Mo_watched : (.selects "ForwardYardModel" y_Mo_watched y_Mo_watched : Cond) ∈ fy_T := fy_mem (i := 599) rfl rfl
set_option maxRecDepth 20000 in
theorem k_c_Mo_about : (.code y_Mo_about b_Mo_about 4 (some .int) : Cond) ∈ fy_T := fy_mem (i := 604) rfl rfl
set_option maxRecDepth 20000 in
theorem k_i_Mo_about : (.instanceMethod y_Mo_about : Cond) ∈ fy_T := fy_mem (i := 602) rfl rfl
set_option maxRecDepth 20000 in
theorem k_sel_Mo_about : (.selects "ForwardYardModel" y_Mo_about y_Mo_about : Cond) ∈ fy_T := fy_mem (i := 603) rfl rfl
set_option maxRecDepth 20000 in
theorem k_c_Mo_field : (.code y_Mo_field b_Mo_field 4 (some .int) : Cond) ∈ fy_T := fy_mem (i := 608) rfl rfl
set_option maxRecDepth 20000 in
theorem k_i_Mo_field : (.instanceMethod y_Mo_field : Cond) ∈ fy_T := fy_mem (i := 606) rfl rfl
set_option maxRecDepth 20000 in
theorem k_sel_Mo_field : (.selects "ForwardYardModel" y_Mo_field y_Mo_field : Cond) ∈ fy_T := fy_mem (i := 607) rfl rfl
set_option maxRecDepth 20000 in
theorem k_c_Mo_same : (.code y_Mo_same b_Mo_same 3 (some .boolean) : Cond) ∈ fy_T := fy_mem (i := 612) rfl rfl
set_option maxRecDepth 20000 in
theorem k_i_Mo_same : (.instanceMethod y_Mo_same : Cond) ∈ fy_T := fy_mem (i := 610) rfl rfl
set_option maxRecDepth 20000 in
theorem k_sel_Mo_same : (.selects "ForwardYardModel" y_Mo_same y_Mo_same : Cond) ∈ fy_T := fy_mem (i := 611) rfl rfl
set_option maxRecDepth 20000 in
theorem k_c_Mo_reach : (.code y_Mo_reach b_Mo_reach 2 (some .int) : Cond) ∈ fy_T := fy_mem (i := 616) rfl rfl
set_option maxRecDepth 20000 in
theorem k_i_Mo_reach : (.instanceMethod y_Mo_reach : Cond) ∈ fy_T := fy_mem (i := 614) rfl rfl
set_option maxRecDepth 20000 in
theorem k_sel_Mo_reach : (.selects "ForwardYardModel" y_Mo_reach y_Mo_reach : Cond) ∈ fy_T := fy_mem (i := 615) rfl rfl
set_option maxRecDepth 20000 in
theorem k_c_Mo_forget : (.code y_Mo_forget b_Mo_forget 2 (none) : Cond) ∈ fy_T := fy_mem (i := 620) rfl rfl
set_option maxRecDepth 20000 in
theorem k_i_Mo_forget : (.instanceMethod y_Mo_forget : Cond) ∈ fy_T := fy_mem (i := 619) rfl rfl
theorem k_sel_Mo_forget : (.selects "ForwardYardModel" y_Mo_forget y_Mo_forget : Cond) ∈ fy_T := fy_mem (i := 12) rfl rfl
set_option maxRecDepth 20000 in
theorem k_c_Mo_begin : (.code y_Mo_begin b_Mo_begin 3 (none) : Cond) ∈ fy_T := fy_mem (i := 624) rfl rfl
set_option maxRecDepth 20000 in
theorem k_i_Mo_begin : (.instanceMethod y_Mo_begin : Cond) ∈ fy_T := fy_mem (i := 623) rfl rfl
theorem k_sel_Mo_begin : (.selects "ForwardYardModel" y_Mo_begin y_Mo_begin : Cond) ∈ fy_T := fy_mem (i := 13) rfl rfl
set_option maxRecDepth 20000 in
theorem k_c_Mo_spread : (.code y_Mo_spread b_Mo_spread 5 (none) : Cond) ∈ fy_T := fy_mem (i := 628) rfl rfl
set_option maxRecDepth 20000 in
theorem k_i_Mo_spread : (.instanceMethod y_Mo_spread : Cond) ∈ fy_T := fy_mem (i := 627) rfl rfl
theorem k_sel_Mo_spread : (.selects "ForwardYardModel" y_Mo_spread y_Mo_spread : Cond) ∈ fy_T := fy_mem (i := 14) rfl rfl
set_option maxRecDepth 20000 in
theorem k_c_Mo_marked : (.code y_Mo_marked b_Mo_marked 3 (some .int) : Cond) ∈ fy_T := fy_mem (i := 632) rfl rfl
set_option maxRecDepth 20000 in
theorem k_i_Mo_marked : (.instanceMethod y_Mo_marked : Cond) ∈ fy_T := fy_mem (i := 631) rfl rfl
theorem k_sel_Mo_marked : (.selects "ForwardYardModel" y_Mo_marked y_Mo_marked : Cond) ∈ fy_T := fy_mem (i := 15) rfl rfl
set_option maxRecDepth 20000 in
theorem k_c_Mo_collect : (.code y_Mo_collect b_Mo_collect 6 (some .int) : Cond) ∈ fy_T := fy_mem (i := 636) rfl rfl
set_option maxRecDepth 20000 in
theorem k_i_Mo_collect : (.instanceMethod y_Mo_collect : Cond) ∈ fy_T := fy_mem (i := 634) rfl rfl
set_option maxRecDepth 20000 in
theorem k_sel_Mo_collect : (.selects "ForwardYardModel" y_Mo_collect y_Mo_collect : Cond) ∈ fy_T := fy_mem (i := 635) rfl rfl
set_option maxRecDepth 20000 in
theorem k_c_Mo_move : (.code y_Mo_move b_Mo_move 4 (none) : Cond) ∈ fy_T := fy_mem (i := 640) rfl rfl
set_option maxRecDepth 20000 in
theorem k_i_Mo_move : (.instanceMethod y_Mo_move : Cond) ∈ fy_T := fy_mem (i := 639) rfl rfl
theorem k_sel_Mo_move : (.selects "ForwardYardModel" y_Mo_move y_Mo_move : Cond) ∈ fy_T := fy_mem (i := 16) rfl rfl
set_option maxRecDepth 20000 in
theorem k_c_Mo_figure : (.code y_Mo_figure b_Mo_figure 2 (some .int) : Cond) ∈ fy_T := fy_mem (i := 644) rfl rfl
set_option maxRecDepth 20000 in
theorem k_i_Mo_figure : (.instanceMethod y_Mo_figure : Cond) ∈ fy_T := fy_mem (i := 642) rfl rfl
set_option maxRecDepth 20000 in
theorem k_sel_Mo_figure : (.selects "ForwardYardModel" y_Mo_figure y_Mo_figure : Cond) ∈ fy_T := fy_mem (i := 643) rfl rfl
theorem k_c_La_make : (.codeWith y_La_make b_La_make 6 (some .int) [(0, 12, 15, 13), (0, 12, 19, 15)] : Cond) ∈ fy_T := fy_mem (i := 140) rfl rfl
theorem k_s_La_make : (.static y_La_make : Cond) ∈ fy_T := fy_mem (i := 139) rfl rfl
set_option maxRecDepth 20000 in
theorem k_c_La_set : (.codeWith y_La_set b_La_set 5 (some .int) [(0, 7, 10, 13), (0, 7, 14, 21), (0, 7, 18, 23)] : Cond) ∈ fy_T := fy_mem (i := 246) rfl rfl
set_option maxRecDepth 20000 in
theorem k_s_La_set : (.static y_La_set : Cond) ∈ fy_T := fy_mem (i := 245) rfl rfl
set_option maxRecDepth 20000 in
theorem k_c_La_get : (.codeWith y_La_get b_La_get 5 (some .int) [(0, 7, 10, 13), (0, 7, 14, 21), (0, 7, 18, 23)] : Cond) ∈ fy_T := fy_mem (i := 303) rfl rfl
set_option maxRecDepth 20000 in
theorem k_s_La_get : (.static y_La_get : Cond) ∈ fy_T := fy_mem (i := 302) rfl rfl
set_option maxRecDepth 20000 in
theorem k_c_La_copy : (.codeWith y_La_copy b_La_copy 4 (some .int) [(0, 6, 9, 13)] : Cond) ∈ fy_T := fy_mem (i := 314) rfl rfl
set_option maxRecDepth 20000 in
theorem k_s_La_copy : (.static y_La_copy : Cond) ∈ fy_T := fy_mem (i := 313) rfl rfl
set_option maxRecDepth 20000 in
theorem k_c_La_clear : (.codeWith y_La_clear b_La_clear 4 (some .int) [(0, 16, 19, 13)] : Cond) ∈ fy_T := fy_mem (i := 321) rfl rfl
set_option maxRecDepth 20000 in
theorem k_s_La_clear : (.static y_La_clear : Cond) ∈ fy_T := fy_mem (i := 320) rfl rfl
set_option maxRecDepth 20000 in
theorem k_c_La_write : (.codeWith y_La_write b_La_write 5 (some .int) [(0, 10, 13, 13), (0, 10, 17, 21)] : Cond) ∈ fy_T := fy_mem (i := 328) rfl rfl
set_option maxRecDepth 20000 in
theorem k_s_La_write : (.static y_La_write : Cond) ∈ fy_T := fy_mem (i := 327) rfl rfl
set_option maxRecDepth 20000 in
theorem k_c_La_watch : (.codeWith y_La_watch b_La_watch 4 (some .int) [(0, 6, 9, 13)] : Cond) ∈ fy_T := fy_mem (i := 343) rfl rfl
set_option maxRecDepth 20000 in
theorem k_s_La_watch : (.static y_La_watch : Cond) ∈ fy_T := fy_mem (i := 342) rfl rfl
set_option maxRecDepth 20000 in
theorem k_c_La_revive : (.codeWith y_La_revive b_La_revive 4 (some .int) [(0, 6, 9, 13)] : Cond) ∈ fy_T := fy_mem (i := 354) rfl rfl
set_option maxRecDepth 20000 in
theorem k_s_La_revive : (.static y_La_revive : Cond) ∈ fy_T := fy_mem (i := 353) rfl rfl
set_option maxRecDepth 20000 in
theorem k_c_La_watched : (.codeWith y_La_watched b_La_watched 4 (some .int) [(0, 9, 12, 13)] : Cond) ∈ fy_T := fy_mem (i := 361) rfl rfl
set_option maxRecDepth 20000 in
theorem k_s_La_watched : (.static y_La_watched : Cond) ∈ fy_T := fy_mem (i := 360) rfl rfl
set_option maxRecDepth 20000 in
theorem k_c_La_about : (.codeWith y_La_about b_La_about 5 (some .int) [(0, 10, 13, 13), (0, 10, 17, 21)] : Cond) ∈ fy_T := fy_mem (i := 376) rfl rfl
set_option maxRecDepth 20000 in
theorem k_s_La_about : (.static y_La_about : Cond) ∈ fy_T := fy_mem (i := 375) rfl rfl
set_option maxRecDepth 20000 in
theorem k_c_La_field : (.codeWith y_La_field b_La_field 5 (some .int) [(0, 10, 13, 13), (0, 10, 17, 21), (0, 10, 21, 23)] : Cond) ∈ fy_T := fy_mem (i := 388) rfl rfl
set_option maxRecDepth 20000 in
theorem k_s_La_field : (.static y_La_field : Cond) ∈ fy_T := fy_mem (i := 387) rfl rfl
set_option maxRecDepth 20000 in
theorem k_c_La_same : (.codeWith y_La_same b_La_same 5 (some .int) [(0, 17, 20, 13)] : Cond) ∈ fy_T := fy_mem (i := 395) rfl rfl
set_option maxRecDepth 20000 in
theorem k_s_La_same : (.static y_La_same : Cond) ∈ fy_T := fy_mem (i := 394) rfl rfl
set_option maxRecDepth 20000 in
theorem k_c_La_reach : (.codeWith y_La_reach b_La_reach 4 (some .int) [(0, 9, 12, 13)] : Cond) ∈ fy_T := fy_mem (i := 402) rfl rfl
set_option maxRecDepth 20000 in
theorem k_s_La_reach : (.static y_La_reach : Cond) ∈ fy_T := fy_mem (i := 401) rfl rfl
set_option maxRecDepth 20000 in
theorem k_c_La_collect : (.codeWith y_La_collect b_La_collect 5 (some .int) [(0, 10, 13, 13)] : Cond) ∈ fy_T := fy_mem (i := 420) rfl rfl
set_option maxRecDepth 20000 in
theorem k_s_La_collect : (.static y_La_collect : Cond) ∈ fy_T := fy_mem (i := 419) rfl rfl
set_option maxRecDepth 20000 in
theorem k_c_La_figure : (.codeWith y_La_figure b_La_figure 4 (some .int) [(0, 9, 12, 13)] : Cond) ∈ fy_T := fy_mem (i := 489) rfl rfl
set_option maxRecDepth 20000 in
theorem k_s_La_figure : (.static y_La_figure : Cond) ∈ fy_T := fy_mem (i := 488) rfl rfl
theorem k_m_La_69 : (.methodLink "ForwardYardLaw" 69 y_Yd_init : Cond) ∈ fy_T := fy_mem (i := 35) rfl rfl
theorem k_m_Yd_3 : (.methodLink "ForwardYard" 3 objectInit : Cond) ∈ fy_T := fy_mem (i := 38) rfl rfl
theorem k_i_Ob : (.instanceMethod objectInit : Cond) ∈ fy_T := fy_mem (i := 39) rfl rfl
theorem k_c_Ob : (.code objectInit ⟨#[0xb1]⟩ 1 none : Cond) ∈ fy_T := fy_mem (i := 40) rfl rfl
theorem k_m_Yd_18 : (.methodLink "ForwardYard" 18 y_Cr_init : Cond) ∈ fy_T := fy_mem (i := 43) rfl rfl
theorem k_m_Cr_3 : (.methodLink "ForwardYard$Crew" 3 objectInit : Cond) ∈ fy_T := fy_mem (i := 46) rfl rfl
theorem k_m_Wo_3 : (.methodLink "ForwardYard$Worker" 3 objectInit : Cond) ∈ fy_T := fy_mem (i := 53) rfl rfl
theorem k_m_Wa_3 : (.methodLink "ForwardYard$Walk" 3 objectInit : Cond) ∈ fy_T := fy_mem (i := 83) rfl rfl
theorem k_m_Sp_5 : (.methodLink "ForwardYard$Space" 5 objectInit : Cond) ∈ fy_T := fy_mem (i := 99) rfl rfl
theorem k_m_Yd_40 : (.methodLink "ForwardYard" 40 y_Ar_fill : Cond) ∈ fy_T := fy_mem (i := 110) rfl rfl
theorem g_Yd_40 : GoodIn fy_T (va_wsS R_Yd 40 y_Ar_fill w_Ar_fill) := fy_good (fy_w4 k_m_Yd_40 k_s_Ar_fill k_ini_Ar k_c_Ar_fill)
theorem k_m_La_73 : (.methodLink "ForwardYardLaw" 73 y_La_make : Cond) ∈ fy_T := fy_mem (i := 138) rfl rfl
theorem k_m_La_7 : (.methodLink "ForwardYardLaw" 7 y_Yd_make : Cond) ∈ fy_T := fy_mem (i := 143) rfl rfl
theorem g_La_7 : GoodIn fy_T (wsV R_La 7 R_Yd y_Yd_make w_Yd_make) := fy_good (fy_w5 k_m_La_7 k_i_Yd_make k_sel_Yd_make k_ini_Yd k_c_Yd_make)
theorem k_m_Yd_46 : (.methodLink "ForwardYard" 46 y_Yd_checkRegister : Cond) ∈ fy_T := fy_mem (i := 147) rfl rfl
theorem g_Yd_46 : GoodIn fy_T (va_wsS R_Yd 46 y_Yd_checkRegister w_Yd_checkRegister) := fy_good (fy_w4 k_m_Yd_46 k_s_Yd_checkRegister k_ini_Yd k_c_Yd_checkRegister)
set_option maxRecDepth 20000 in
theorem k_m_Yd_57 : (.methodLink "ForwardYard" 57 y_Sp_hasRoomFor : Cond) ∈ fy_T := fy_mem (i := 220) rfl rfl
theorem g_Yd_57 : GoodIn fy_T (wsV R_Yd 57 R_Sp y_Sp_hasRoomFor w_Sp_hasRoomFor) := fy_good (fy_w5 k_m_Yd_57 k_i_Sp_hasRoomFor k_sel_Sp_hasRoomFor k_ini_Sp k_c_Sp_hasRoomFor)
set_option maxRecDepth 20000 in
theorem k_m_Yd_70 : (.methodLink "ForwardYard" 70 y_Sp_layDown : Cond) ∈ fy_T := fy_mem (i := 240) rfl rfl
theorem g_Yd_70 : GoodIn fy_T (wsV R_Yd 70 R_Sp y_Sp_layDown w_Sp_layDown) := fy_good (fy_w5 k_m_Yd_70 k_i_Sp_layDown k_sel_Sp_layDown k_ini_Sp k_c_Sp_layDown)
set_option maxRecDepth 20000 in
theorem k_m_La_83 : (.methodLink "ForwardYardLaw" 83 y_La_set : Cond) ∈ fy_T := fy_mem (i := 244) rfl rfl
set_option maxRecDepth 20000 in
theorem k_m_La_17 : (.methodLink "ForwardYardLaw" 17 y_Yd_set : Cond) ∈ fy_T := fy_mem (i := 249) rfl rfl
theorem g_La_17 : GoodIn fy_T (wsV R_La 17 R_Yd y_Yd_set w_Yd_set) := fy_good (fy_w5 k_m_La_17 k_i_Yd_set k_sel_Yd_set k_ini_Yd k_c_Yd_set)
set_option maxRecDepth 20000 in
theorem k_m_Yd_74 : (.methodLink "ForwardYard" 74 y_Yd_objectOf : Cond) ∈ fy_T := fy_mem (i := 253) rfl rfl
theorem g_Yd_74 : GoodIn fy_T (wsV R_Yd 74 R_Yd y_Yd_objectOf w_Yd_objectOf) := fy_good (fy_w5 k_m_Yd_74 k_i_Yd_objectOf k_sel_Yd_objectOf k_ini_Yd k_c_Yd_objectOf)
set_option maxRecDepth 20000 in
theorem k_m_Yd_78 : (.methodLink "ForwardYard" 78 y_Yd_checkField : Cond) ∈ fy_T := fy_mem (i := 273) rfl rfl
theorem g_Yd_78 : GoodIn fy_T (wsV R_Yd 78 R_Yd y_Yd_checkField w_Yd_checkField) := fy_good (fy_w5 k_m_Yd_78 k_i_Yd_checkField k_sel_Yd_checkField k_ini_Yd k_c_Yd_checkField)
set_option maxRecDepth 20000 in
theorem k_m_Yd_110 : (.methodLink "ForwardYard" 110 y_Sp_fieldCountOf : Cond) ∈ fy_T := fy_mem (i := 277) rfl rfl
theorem g_Yd_110 : GoodIn fy_T (wsV R_Yd 110 R_Sp y_Sp_fieldCountOf w_Sp_fieldCountOf) := fy_good (fy_w5 k_m_Yd_110 k_i_Sp_fieldCountOf k_sel_Sp_fieldCountOf k_ini_Sp k_c_Sp_fieldCountOf)
set_option maxRecDepth 20000 in
theorem k_m_Yd_82 : (.methodLink "ForwardYard" 82 y_Sp_refer : Cond) ∈ fy_T := fy_mem (i := 297) rfl rfl
theorem g_Yd_82 : GoodIn fy_T (wsV R_Yd 82 R_Sp y_Sp_refer w_Sp_refer) := fy_good (fy_w5 k_m_Yd_82 k_i_Sp_refer k_sel_Sp_refer k_ini_Sp k_c_Sp_refer)
set_option maxRecDepth 20000 in
theorem k_m_La_87 : (.methodLink "ForwardYardLaw" 87 y_La_get : Cond) ∈ fy_T := fy_mem (i := 301) rfl rfl
set_option maxRecDepth 20000 in
theorem k_m_La_25 : (.methodLink "ForwardYardLaw" 25 y_Yd_get : Cond) ∈ fy_T := fy_mem (i := 304) rfl rfl
theorem g_La_25 : GoodIn fy_T (wsV R_La 25 R_Yd y_Yd_get w_Yd_get) := fy_good (fy_w5 k_m_La_25 k_i_Yd_get k_sel_Yd_get k_ini_Yd k_c_Yd_get)
set_option maxRecDepth 20000 in
theorem k_m_Yd_86 : (.methodLink "ForwardYard" 86 y_Sp_referent : Cond) ∈ fy_T := fy_mem (i := 308) rfl rfl
theorem g_Yd_86 : GoodIn fy_T (wsV R_Yd 86 R_Sp y_Sp_referent w_Sp_referent) := fy_good (fy_w5 k_m_Yd_86 k_i_Sp_referent k_sel_Sp_referent k_ini_Sp k_c_Sp_referent)
set_option maxRecDepth 20000 in
theorem k_m_La_90 : (.methodLink "ForwardYardLaw" 90 y_La_copy : Cond) ∈ fy_T := fy_mem (i := 312) rfl rfl
set_option maxRecDepth 20000 in
theorem k_m_La_28 : (.methodLink "ForwardYardLaw" 28 y_Yd_copy : Cond) ∈ fy_T := fy_mem (i := 315) rfl rfl
theorem g_La_28 : GoodIn fy_T (wsV R_La 28 R_Yd y_Yd_copy w_Yd_copy) := fy_good (fy_w5 k_m_La_28 k_i_Yd_copy k_sel_Yd_copy k_ini_Yd k_c_Yd_copy)
set_option maxRecDepth 20000 in
theorem k_m_La_94 : (.methodLink "ForwardYardLaw" 94 y_La_clear : Cond) ∈ fy_T := fy_mem (i := 319) rfl rfl
set_option maxRecDepth 20000 in
theorem k_m_La_32 : (.methodLink "ForwardYardLaw" 32 y_Yd_clear : Cond) ∈ fy_T := fy_mem (i := 322) rfl rfl
theorem g_La_32 : GoodIn fy_T (wsV R_La 32 R_Yd y_Yd_clear w_Yd_clear) := fy_good (fy_w5 k_m_La_32 k_i_Yd_clear k_sel_Yd_clear k_ini_Yd k_c_Yd_clear)
set_option maxRecDepth 20000 in
theorem k_m_La_98 : (.methodLink "ForwardYardLaw" 98 y_La_write : Cond) ∈ fy_T := fy_mem (i := 326) rfl rfl
set_option maxRecDepth 20000 in
theorem k_m_La_36 : (.methodLink "ForwardYardLaw" 36 y_Yd_write : Cond) ∈ fy_T := fy_mem (i := 329) rfl rfl
theorem g_La_36 : GoodIn fy_T (wsV R_La 36 R_Yd y_Yd_write w_Yd_write) := fy_good (fy_w5 k_m_La_36 k_i_Yd_write k_sel_Yd_write k_ini_Yd k_c_Yd_write)
set_option maxRecDepth 20000 in
theorem k_m_Yd_90 : (.methodLink "ForwardYard" 90 y_Sp_valueOf : Cond) ∈ fy_T := fy_mem (i := 333) rfl rfl
theorem g_Yd_90 : GoodIn fy_T (wsV R_Yd 90 R_Sp y_Sp_valueOf w_Sp_valueOf) := fy_good (fy_w5 k_m_Yd_90 k_i_Sp_valueOf k_sel_Sp_valueOf k_ini_Sp k_c_Sp_valueOf)
set_option maxRecDepth 20000 in
theorem k_m_Yd_93 : (.methodLink "ForwardYard" 93 y_Sp_putValue : Cond) ∈ fy_T := fy_mem (i := 337) rfl rfl
theorem g_Yd_93 : GoodIn fy_T (wsV R_Yd 93 R_Sp y_Sp_putValue w_Sp_putValue) := fy_good (fy_w5 k_m_Yd_93 k_i_Sp_putValue k_sel_Sp_putValue k_ini_Sp k_c_Sp_putValue)
set_option maxRecDepth 20000 in
theorem k_m_La_102 : (.methodLink "ForwardYardLaw" 102 y_La_watch : Cond) ∈ fy_T := fy_mem (i := 341) rfl rfl
set_option maxRecDepth 20000 in
theorem k_m_La_40 : (.methodLink "ForwardYardLaw" 40 y_Yd_watch : Cond) ∈ fy_T := fy_mem (i := 344) rfl rfl
theorem g_La_40 : GoodIn fy_T (wsV R_La 40 R_Yd y_Yd_watch w_Yd_watch) := fy_good (fy_w5 k_m_La_40 k_i_Yd_watch k_sel_Yd_watch k_ini_Yd k_c_Yd_watch)
set_option maxRecDepth 20000 in
theorem k_m_Yd_96 : (.methodLink "ForwardYard" 96 y_Yd_checkWeakRegister : Cond) ∈ fy_T := fy_mem (i := 348) rfl rfl
theorem g_Yd_96 : GoodIn fy_T (va_wsS R_Yd 96 y_Yd_checkWeakRegister w_Yd_checkWeakRegister) := fy_good (fy_w4 k_m_Yd_96 k_s_Yd_checkWeakRegister k_ini_Yd k_c_Yd_checkWeakRegister)
set_option maxRecDepth 20000 in
theorem k_m_La_105 : (.methodLink "ForwardYardLaw" 105 y_La_revive : Cond) ∈ fy_T := fy_mem (i := 352) rfl rfl
set_option maxRecDepth 20000 in
theorem k_m_La_43 : (.methodLink "ForwardYardLaw" 43 y_Yd_revive : Cond) ∈ fy_T := fy_mem (i := 355) rfl rfl
theorem g_La_43 : GoodIn fy_T (wsV R_La 43 R_Yd y_Yd_revive w_Yd_revive) := fy_good (fy_w5 k_m_La_43 k_i_Yd_revive k_sel_Yd_revive k_ini_Yd k_c_Yd_revive)
set_option maxRecDepth 20000 in
theorem k_m_La_108 : (.methodLink "ForwardYardLaw" 108 y_La_watched : Cond) ∈ fy_T := fy_mem (i := 359) rfl rfl
set_option maxRecDepth 20000 in
theorem k_m_La_46 : (.methodLink "ForwardYardLaw" 46 y_Yd_watched : Cond) ∈ fy_T := fy_mem (i := 362) rfl rfl
theorem g_La_46 : GoodIn fy_T (wsV R_La 46 R_Yd y_Yd_watched w_Yd_watched) := fy_good (fy_w5 k_m_La_46 k_i_Yd_watched k_sel_Yd_watched k_ini_Yd k_c_Yd_watched)
set_option maxRecDepth 20000 in
theorem k_m_Yd_99 : (.methodLink "ForwardYard" 99 y_Yd_numberOrNothing : Cond) ∈ fy_T := fy_mem (i := 366) rfl rfl
theorem g_Yd_99 : GoodIn fy_T (wsV R_Yd 99 R_Yd y_Yd_numberOrNothing w_Yd_numberOrNothing) := fy_good (fy_w5 k_m_Yd_99 k_i_Yd_numberOrNothing k_sel_Yd_numberOrNothing k_ini_Yd k_c_Yd_numberOrNothing)
set_option maxRecDepth 20000 in
theorem k_m_Yd_104 : (.methodLink "ForwardYard" 104 y_Sp_numberOf : Cond) ∈ fy_T := fy_mem (i := 370) rfl rfl
theorem g_Yd_104 : GoodIn fy_T (wsV R_Yd 104 R_Sp y_Sp_numberOf w_Sp_numberOf) := fy_good (fy_w5 k_m_Yd_104 k_i_Sp_numberOf k_sel_Sp_numberOf k_ini_Sp k_c_Sp_numberOf)
set_option maxRecDepth 20000 in
theorem k_m_La_111 : (.methodLink "ForwardYardLaw" 111 y_La_about : Cond) ∈ fy_T := fy_mem (i := 374) rfl rfl
set_option maxRecDepth 20000 in
theorem k_m_La_50 : (.methodLink "ForwardYardLaw" 50 y_Yd_about : Cond) ∈ fy_T := fy_mem (i := 377) rfl rfl
theorem g_La_50 : GoodIn fy_T (wsV R_La 50 R_Yd y_Yd_about w_Yd_about) := fy_good (fy_w5 k_m_La_50 k_i_Yd_about k_sel_Yd_about k_ini_Yd k_c_Yd_about)
set_option maxRecDepth 20000 in
theorem k_m_Yd_107 : (.methodLink "ForwardYard" 107 y_Sp_ageOf : Cond) ∈ fy_T := fy_mem (i := 382) rfl rfl
theorem g_Yd_107 : GoodIn fy_T (wsV R_Yd 107 R_Sp y_Sp_ageOf w_Sp_ageOf) := fy_good (fy_w5 k_m_Yd_107 k_i_Sp_ageOf k_sel_Sp_ageOf k_ini_Sp k_c_Sp_ageOf)
set_option maxRecDepth 20000 in
theorem k_m_La_114 : (.methodLink "ForwardYardLaw" 114 y_La_field : Cond) ∈ fy_T := fy_mem (i := 386) rfl rfl
set_option maxRecDepth 20000 in
theorem k_m_La_53 : (.methodLink "ForwardYardLaw" 53 y_Yd_field : Cond) ∈ fy_T := fy_mem (i := 389) rfl rfl
theorem g_La_53 : GoodIn fy_T (wsV R_La 53 R_Yd y_Yd_field w_Yd_field) := fy_good (fy_w5 k_m_La_53 k_i_Yd_field k_sel_Yd_field k_ini_Yd k_c_Yd_field)
set_option maxRecDepth 20000 in
theorem k_m_La_117 : (.methodLink "ForwardYardLaw" 117 y_La_same : Cond) ∈ fy_T := fy_mem (i := 393) rfl rfl
set_option maxRecDepth 20000 in
theorem k_m_La_56 : (.methodLink "ForwardYardLaw" 56 y_Yd_same : Cond) ∈ fy_T := fy_mem (i := 396) rfl rfl
theorem g_La_56 : GoodIn fy_T (wsV R_La 56 R_Yd y_Yd_same w_Yd_same) := fy_good (fy_w5 k_m_La_56 k_i_Yd_same k_sel_Yd_same k_ini_Yd k_c_Yd_same)
set_option maxRecDepth 20000 in
theorem k_m_La_120 : (.methodLink "ForwardYardLaw" 120 y_La_reach : Cond) ∈ fy_T := fy_mem (i := 400) rfl rfl
set_option maxRecDepth 20000 in
theorem k_m_La_60 : (.methodLink "ForwardYardLaw" 60 y_Yd_reach : Cond) ∈ fy_T := fy_mem (i := 403) rfl rfl
theorem g_La_60 : GoodIn fy_T (wsV R_La 60 R_Yd y_Yd_reach w_Yd_reach) := fy_good (fy_w5 k_m_La_60 k_i_Yd_reach k_sel_Yd_reach k_ini_Yd k_c_Yd_reach)
set_option maxRecDepth 20000 in
theorem k_m_Yd_113 : (.methodLink "ForwardYard" 113 y_Wa_countFrom : Cond) ∈ fy_T := fy_mem (i := 407) rfl rfl
theorem g_Yd_113 : GoodIn fy_T (wsV R_Yd 113 R_Wa y_Wa_countFrom w_Wa_countFrom) := fy_good (fy_w5 k_m_Yd_113 k_i_Wa_countFrom k_sel_Wa_countFrom k_ini_Wa k_c_Wa_countFrom)
set_option maxRecDepth 20000 in
theorem k_m_Wa_18 : (.methodLink "ForwardYard$Walk" 18 y_Ar_fill : Cond) ∈ fy_T := fy_mem (i := 411) rfl rfl
theorem g_Wa_18 : GoodIn fy_T (va_wsS R_Wa 18 y_Ar_fill w_Ar_fill) := fy_good (fy_w4 k_m_Wa_18 k_s_Ar_fill k_ini_Ar k_c_Ar_fill)
set_option maxRecDepth 20000 in
theorem k_m_Wa_28 : (.methodLink "ForwardYard$Walk" 28 y_Wa_find : Cond) ∈ fy_T := fy_mem (i := 412) rfl rfl
theorem g_Wa_28 : GoodIn fy_T (wsV R_Wa 28 R_Wa y_Wa_find w_Wa_find) := fy_good (fy_w5 k_m_Wa_28 k_i_Wa_find k_sel_Wa_find k_ini_Wa k_c_Wa_find)
set_option maxRecDepth 20000 in
theorem k_m_Wa_32 : (.methodLink "ForwardYard$Walk" 32 y_Sp_fieldCountOf : Cond) ∈ fy_T := fy_mem (i := 416) rfl rfl
theorem g_Wa_32 : GoodIn fy_T (wsV R_Wa 32 R_Sp y_Sp_fieldCountOf w_Sp_fieldCountOf) := fy_good (fy_w5 k_m_Wa_32 k_i_Sp_fieldCountOf k_sel_Sp_fieldCountOf k_ini_Sp k_c_Sp_fieldCountOf)
set_option maxRecDepth 20000 in
theorem k_m_Wa_38 : (.methodLink "ForwardYard$Walk" 38 y_Sp_referent : Cond) ∈ fy_T := fy_mem (i := 417) rfl rfl
theorem g_Wa_38 : GoodIn fy_T (wsV R_Wa 38 R_Sp y_Sp_referent w_Sp_referent) := fy_good (fy_w5 k_m_Wa_38 k_i_Sp_referent k_sel_Sp_referent k_ini_Sp k_c_Sp_referent)
set_option maxRecDepth 20000 in
theorem k_m_La_123 : (.methodLink "ForwardYardLaw" 123 y_La_collect : Cond) ∈ fy_T := fy_mem (i := 418) rfl rfl
set_option maxRecDepth 20000 in
theorem k_m_La_63 : (.methodLink "ForwardYardLaw" 63 y_Yd_collect : Cond) ∈ fy_T := fy_mem (i := 421) rfl rfl
theorem g_La_63 : GoodIn fy_T (wsV R_La 63 R_Yd y_Yd_collect w_Yd_collect) := fy_good (fy_w5 k_m_La_63 k_i_Yd_collect k_sel_Yd_collect k_ini_Yd k_c_Yd_collect)
set_option maxRecDepth 20000 in
theorem k_m_Yd_119 : (.methodLink "ForwardYard" 119 y_Sp_objects : Cond) ∈ fy_T := fy_mem (i := 426) rfl rfl
theorem g_Yd_119 : GoodIn fy_T (wsV R_Yd 119 R_Sp y_Sp_objects w_Sp_objects) := fy_good (fy_w5 k_m_Yd_119 k_i_Sp_objects k_sel_Sp_objects k_ini_Sp k_c_Sp_objects)
set_option maxRecDepth 20000 in
theorem k_m_Yd_123 : (.methodLink "ForwardYard" 123 y_Sp_makeEmpty : Cond) ∈ fy_T := fy_mem (i := 430) rfl rfl
theorem g_Yd_123 : GoodIn fy_T (wsV R_Yd 123 R_Sp y_Sp_makeEmpty w_Sp_makeEmpty) := fy_good (fy_w5 k_m_Yd_123 k_i_Sp_makeEmpty k_sel_Sp_makeEmpty k_ini_Sp k_c_Sp_makeEmpty)
set_option maxRecDepth 20000 in
theorem k_m_Yd_126 : (.methodLink "ForwardYard" 126 y_Cr_begin : Cond) ∈ fy_T := fy_mem (i := 434) rfl rfl
theorem g_Yd_126 : GoodIn fy_T (wsV R_Yd 126 R_Cr y_Cr_begin w_Cr_begin) := fy_good (fy_w5 k_m_Yd_126 k_i_Cr_begin k_sel_Cr_begin k_ini_Cr k_c_Cr_begin)
set_option maxRecDepth 20000 in
theorem k_m_Cr_32 : (.methodLink "ForwardYard$Crew" 32 y_Ar_fill : Cond) ∈ fy_T := fy_mem (i := 438) rfl rfl
theorem g_Cr_32 : GoodIn fy_T (va_wsS R_Cr 32 y_Ar_fill w_Ar_fill) := fy_good (fy_w4 k_m_Cr_32 k_s_Ar_fill k_ini_Ar k_c_Ar_fill)
set_option maxRecDepth 20000 in
theorem k_m_Yd_129 : (.methodLink "ForwardYard" 129 y_Cr_bringRoots : Cond) ∈ fy_T := fy_mem (i := 439) rfl rfl
theorem g_Yd_129 : GoodIn fy_T (wsV R_Yd 129 R_Cr y_Cr_bringRoots w_Cr_bringRoots) := fy_good (fy_w5 k_m_Yd_129 k_i_Cr_bringRoots k_sel_Cr_bringRoots k_ini_Cr k_c_Cr_bringRoots)
set_option maxRecDepth 20000 in
theorem k_m_Cr_38 : (.methodLink "ForwardYard$Crew" 38 y_Cr_whoseTurn : Cond) ∈ fy_T := fy_mem (i := 443) rfl rfl
theorem g_Cr_38 : GoodIn fy_T (wsV R_Cr 38 R_Cr y_Cr_whoseTurn w_Cr_whoseTurn) := fy_good (fy_w5 k_m_Cr_38 k_i_Cr_whoseTurn k_sel_Cr_whoseTurn k_ini_Cr k_c_Cr_whoseTurn)
set_option maxRecDepth 20000 in
theorem k_m_Cr_42 : (.methodLink "ForwardYard$Crew" 42 y_Cr_bring : Cond) ∈ fy_T := fy_mem (i := 447) rfl rfl
theorem g_Cr_42 : GoodIn fy_T (wsV R_Cr 42 R_Cr y_Cr_bring w_Cr_bring) := fy_good (fy_w5 k_m_Cr_42 k_i_Cr_bring k_sel_Cr_bring k_ini_Cr k_c_Cr_bring)
set_option maxRecDepth 20000 in
theorem k_m_Cr_73 : (.methodLink "ForwardYard$Crew" 73 y_Sp_takeOver : Cond) ∈ fy_T := fy_mem (i := 451) rfl rfl
theorem g_Cr_73 : GoodIn fy_T (wsV R_Cr 73 R_Sp y_Sp_takeOver w_Sp_takeOver) := fy_good (fy_w5 k_m_Cr_73 k_i_Sp_takeOver k_sel_Sp_takeOver k_ini_Sp k_c_Sp_takeOver)
set_option maxRecDepth 20000 in
theorem k_m_Sp_22 : (.methodLink "ForwardYard$Space" 22 y_Sp_fieldCountOf : Cond) ∈ fy_T := fy_mem (i := 455) rfl rfl
theorem g_Sp_22 : GoodIn fy_T (wsV R_Sp 22 R_Sp y_Sp_fieldCountOf w_Sp_fieldCountOf) := fy_good (fy_w5 k_m_Sp_22 k_i_Sp_fieldCountOf k_sel_Sp_fieldCountOf k_ini_Sp k_c_Sp_fieldCountOf)
set_option maxRecDepth 20000 in
theorem k_m_Cr_77 : (.methodLink "ForwardYard$Crew" 77 y_Wo_pileUp : Cond) ∈ fy_T := fy_mem (i := 459) rfl rfl
theorem g_Cr_77 : GoodIn fy_T (wsV R_Cr 77 R_Wo y_Wo_pileUp w_Wo_pileUp) := fy_good (fy_w5 k_m_Cr_77 k_i_Wo_pileUp k_sel_Wo_pileUp k_ini_Wo k_c_Wo_pileUp)
set_option maxRecDepth 20000 in
theorem k_m_Yd_133 : (.methodLink "ForwardYard" 133 y_Cr_bringAllReached : Cond) ∈ fy_T := fy_mem (i := 463) rfl rfl
theorem g_Yd_133 : GoodIn fy_T (wsV R_Yd 133 R_Cr y_Cr_bringAllReached w_Cr_bringAllReached) := fy_good (fy_w5 k_m_Yd_133 k_i_Cr_bringAllReached k_sel_Cr_bringAllReached k_ini_Cr k_c_Cr_bringAllReached)
set_option maxRecDepth 20000 in
theorem k_m_Cr_46 : (.methodLink "ForwardYard$Crew" 46 y_Sp_objects : Cond) ∈ fy_T := fy_mem (i := 467) rfl rfl
theorem g_Cr_46 : GoodIn fy_T (wsV R_Cr 46 R_Sp y_Sp_objects w_Sp_objects) := fy_good (fy_w5 k_m_Cr_46 k_i_Sp_objects k_sel_Sp_objects k_ini_Sp k_c_Sp_objects)
set_option maxRecDepth 20000 in
theorem k_m_Cr_51 : (.methodLink "ForwardYard$Crew" 51 y_Cr_takeFor : Cond) ∈ fy_T := fy_mem (i := 468) rfl rfl
theorem g_Cr_51 : GoodIn fy_T (wsV R_Cr 51 R_Cr y_Cr_takeFor w_Cr_takeFor) := fy_good (fy_w5 k_m_Cr_51 k_i_Cr_takeFor k_sel_Cr_takeFor k_ini_Cr k_c_Cr_takeFor)
set_option maxRecDepth 20000 in
theorem k_m_Cr_59 : (.methodLink "ForwardYard$Crew" 59 y_Wo_takeTop : Cond) ∈ fy_T := fy_mem (i := 472) rfl rfl
theorem g_Cr_59 : GoodIn fy_T (wsV R_Cr 59 R_Wo y_Wo_takeTop w_Wo_takeTop) := fy_good (fy_w5 k_m_Cr_59 k_i_Wo_takeTop k_sel_Wo_takeTop k_ini_Wo k_c_Wo_takeTop)
set_option maxRecDepth 20000 in
theorem k_m_Cr_55 : (.methodLink "ForwardYard$Crew" 55 y_Cr_bringFields : Cond) ∈ fy_T := fy_mem (i := 476) rfl rfl
theorem g_Cr_55 : GoodIn fy_T (wsV R_Cr 55 R_Cr y_Cr_bringFields w_Cr_bringFields) := fy_good (fy_w5 k_m_Cr_55 k_i_Cr_bringFields k_sel_Cr_bringFields k_ini_Cr k_c_Cr_bringFields)
set_option maxRecDepth 20000 in
theorem k_m_Cr_62 : (.methodLink "ForwardYard$Crew" 62 y_Sp_fieldCountOf : Cond) ∈ fy_T := fy_mem (i := 480) rfl rfl
theorem g_Cr_62 : GoodIn fy_T (wsV R_Cr 62 R_Sp y_Sp_fieldCountOf w_Sp_fieldCountOf) := fy_good (fy_w5 k_m_Cr_62 k_i_Sp_fieldCountOf k_sel_Sp_fieldCountOf k_ini_Sp k_c_Sp_fieldCountOf)
set_option maxRecDepth 20000 in
theorem k_m_Cr_65 : (.methodLink "ForwardYard$Crew" 65 y_Sp_referent : Cond) ∈ fy_T := fy_mem (i := 481) rfl rfl
theorem g_Cr_65 : GoodIn fy_T (wsV R_Cr 65 R_Sp y_Sp_referent w_Sp_referent) := fy_good (fy_w5 k_m_Cr_65 k_i_Sp_referent k_sel_Sp_referent k_ini_Sp k_c_Sp_referent)
set_option maxRecDepth 20000 in
theorem k_m_Cr_69 : (.methodLink "ForwardYard$Crew" 69 y_Sp_refer : Cond) ∈ fy_T := fy_mem (i := 482) rfl rfl
theorem g_Cr_69 : GoodIn fy_T (wsV R_Cr 69 R_Sp y_Sp_refer w_Sp_refer) := fy_good (fy_w5 k_m_Cr_69 k_i_Sp_refer k_sel_Sp_refer k_ini_Sp k_c_Sp_refer)
set_option maxRecDepth 20000 in
theorem k_m_Yd_137 : (.methodLink "ForwardYard" 137 y_Cr_followWeak : Cond) ∈ fy_T := fy_mem (i := 483) rfl rfl
theorem g_Yd_137 : GoodIn fy_T (wsV R_Yd 137 R_Cr y_Cr_followWeak w_Cr_followWeak) := fy_good (fy_w5 k_m_Yd_137 k_i_Cr_followWeak k_sel_Cr_followWeak k_ini_Cr k_c_Cr_followWeak)
set_option maxRecDepth 20000 in
theorem k_m_La_126 : (.methodLink "ForwardYardLaw" 126 y_La_figure : Cond) ∈ fy_T := fy_mem (i := 487) rfl rfl
set_option maxRecDepth 20000 in
theorem k_m_La_66 : (.methodLink "ForwardYardLaw" 66 y_Yd_figure : Cond) ∈ fy_T := fy_mem (i := 490) rfl rfl
theorem g_La_66 : GoodIn fy_T (wsV R_La 66 R_Yd y_Yd_figure w_Yd_figure) := fy_good (fy_w5 k_m_La_66 k_i_Yd_figure k_sel_Yd_figure k_ini_Yd k_c_Yd_figure)
set_option maxRecDepth 20000 in
theorem k_m_Yd_144 : (.methodLink "ForwardYard" 144 y_Sp_words : Cond) ∈ fy_T := fy_mem (i := 494) rfl rfl
theorem g_Yd_144 : GoodIn fy_T (wsV R_Yd 144 R_Sp y_Sp_words w_Sp_words) := fy_good (fy_w5 k_m_Yd_144 k_i_Sp_words k_sel_Sp_words k_ini_Sp k_c_Sp_words)
set_option maxRecDepth 20000 in
theorem k_m_La_72 : (.methodLink "ForwardYardLaw" 72 y_Mo_init : Cond) ∈ fy_T := fy_mem (i := 501) rfl rfl
set_option maxRecDepth 20000 in
theorem k_m_Mo_1 : (.methodLink "ForwardYardModel" 1 objectInit : Cond) ∈ fy_T := fy_mem (i := 504) rfl rfl
set_option maxRecDepth 20000 in
theorem k_m_La_79 : (.methodLink "ForwardYardLaw" 79 y_Mo_thrown : Cond) ∈ fy_T := fy_mem (i := 543) rfl rfl
theorem g_La_79 : GoodIn fy_T (wsV R_La 79 R_Mo y_Mo_thrown w_Mo_thrown) := fy_good (fy_w5 k_m_La_79 k_i_Mo_thrown k_sel_Mo_thrown k_ini_Mo k_c_Mo_thrown)
set_option maxRecDepth 20000 in
theorem k_m_La_78 : (.methodLink "ForwardYardLaw" 78 y_Mo_make : Cond) ∈ fy_T := fy_mem (i := 547) rfl rfl
theorem g_La_78 : GoodIn fy_T (wsV R_La 78 R_Mo y_Mo_make w_Mo_make) := fy_good (fy_w5 k_m_La_78 k_i_Mo_make k_sel_Mo_make k_ini_Mo k_c_Mo_make)
set_option maxRecDepth 20000 in
theorem k_m_Mo_42 : (.methodLink "ForwardYardModel" 42 y_Mo_isRegister : Cond) ∈ fy_T := fy_mem (i := 551) rfl rfl
theorem g_Mo_42 : GoodIn fy_T (va_wsS R_Mo 42 y_Mo_isRegister w_Mo_isRegister) := fy_good (fy_w4 k_m_Mo_42 k_s_Mo_isRegister k_ini_Mo k_c_Mo_isRegister)
set_option maxRecDepth 20000 in
theorem k_m_Mo_46 : (.methodLink "ForwardYardModel" 46 y_Mo_words : Cond) ∈ fy_T := fy_mem (i := 554) rfl rfl
theorem g_Mo_46 : GoodIn fy_T (wsV R_Mo 46 R_Mo y_Mo_words w_Mo_words) := fy_good (fy_w5 k_m_Mo_46 k_i_Mo_words k_sel_Mo_words k_ini_Mo k_c_Mo_words)
set_option maxRecDepth 20000 in
theorem k_m_La_86 : (.methodLink "ForwardYardLaw" 86 y_Mo_set : Cond) ∈ fy_T := fy_mem (i := 558) rfl rfl
theorem g_La_86 : GoodIn fy_T (wsV R_La 86 R_Mo y_Mo_set w_Mo_set) := fy_good (fy_w5 k_m_La_86 k_i_Mo_set k_sel_Mo_set k_ini_Mo k_c_Mo_set)
set_option maxRecDepth 20000 in
theorem k_m_Mo_57 : (.methodLink "ForwardYardModel" 57 y_Mo_fieldAt : Cond) ∈ fy_T := fy_mem (i := 562) rfl rfl
theorem g_Mo_57 : GoodIn fy_T (wsV R_Mo 57 R_Mo y_Mo_fieldAt w_Mo_fieldAt) := fy_good (fy_w5 k_m_Mo_57 k_i_Mo_fieldAt k_sel_Mo_fieldAt k_ini_Mo k_c_Mo_fieldAt)
set_option maxRecDepth 20000 in
theorem k_m_Mo_53 : (.methodLink "ForwardYardModel" 53 y_Mo_find : Cond) ∈ fy_T := fy_mem (i := 566) rfl rfl
theorem g_Mo_53 : GoodIn fy_T (wsV R_Mo 53 R_Mo y_Mo_find w_Mo_find) := fy_good (fy_w5 k_m_Mo_53 k_i_Mo_find k_sel_Mo_find k_ini_Mo k_c_Mo_find)
set_option maxRecDepth 20000 in
theorem k_m_La_89 : (.methodLink "ForwardYardLaw" 89 y_Mo_get : Cond) ∈ fy_T := fy_mem (i := 570) rfl rfl
theorem g_La_89 : GoodIn fy_T (wsV R_La 89 R_Mo y_Mo_get w_Mo_get) := fy_good (fy_w5 k_m_La_89 k_i_Mo_get k_sel_Mo_get k_ini_Mo k_c_Mo_get)
set_option maxRecDepth 20000 in
theorem k_m_La_93 : (.methodLink "ForwardYardLaw" 93 y_Mo_copy : Cond) ∈ fy_T := fy_mem (i := 574) rfl rfl
theorem g_La_93 : GoodIn fy_T (wsV R_La 93 R_Mo y_Mo_copy w_Mo_copy) := fy_good (fy_w5 k_m_La_93 k_i_Mo_copy k_sel_Mo_copy k_ini_Mo k_c_Mo_copy)
set_option maxRecDepth 20000 in
theorem k_m_La_97 : (.methodLink "ForwardYardLaw" 97 y_Mo_clear : Cond) ∈ fy_T := fy_mem (i := 578) rfl rfl
theorem g_La_97 : GoodIn fy_T (wsV R_La 97 R_Mo y_Mo_clear w_Mo_clear) := fy_good (fy_w5 k_m_La_97 k_i_Mo_clear k_sel_Mo_clear k_ini_Mo k_c_Mo_clear)
set_option maxRecDepth 20000 in
theorem k_m_La_101 : (.methodLink "ForwardYardLaw" 101 y_Mo_write : Cond) ∈ fy_T := fy_mem (i := 582) rfl rfl
theorem g_La_101 : GoodIn fy_T (wsV R_La 101 R_Mo y_Mo_write w_Mo_write) := fy_good (fy_w5 k_m_La_101 k_i_Mo_write k_sel_Mo_write k_ini_Mo k_c_Mo_write)
set_option maxRecDepth 20000 in
theorem k_m_La_104 : (.methodLink "ForwardYardLaw" 104 y_Mo_watch : Cond) ∈ fy_T := fy_mem (i := 586) rfl rfl
theorem g_La_104 : GoodIn fy_T (wsV R_La 104 R_Mo y_Mo_watch w_Mo_watch) := fy_good (fy_w5 k_m_La_104 k_i_Mo_watch k_sel_Mo_watch k_ini_Mo k_c_Mo_watch)
set_option maxRecDepth 20000 in
theorem k_m_Mo_61 : (.methodLink "ForwardYardModel" 61 y_Mo_isWeak : Cond) ∈ fy_T := fy_mem (i := 590) rfl rfl
theorem g_Mo_61 : GoodIn fy_T (va_wsS R_Mo 61 y_Mo_isWeak w_Mo_isWeak) := fy_good (fy_w4 k_m_Mo_61 k_s_Mo_isWeak k_ini_Mo k_c_Mo_isWeak)
set_option maxRecDepth 20000 in
theorem k_m_La_107 : (.methodLink "ForwardYardLaw" 107 y_Mo_revive : Cond) ∈ fy_T := fy_mem (i := 593) rfl rfl
theorem g_La_107 : GoodIn fy_T (wsV R_La 107 R_Mo y_Mo_revive w_Mo_revive) := fy_good (fy_w5 k_m_La_107 k_i_Mo_revive k_sel_Mo_revive k_ini_Mo k_c_Mo_revive)
set_option maxRecDepth 20000 in
theorem k_m_La_110 : (.methodLink "ForwardYardLaw" 110 y_Mo_watched : Cond) ∈ fy_T := fy_mem (i := 597) rfl rfl
theorem g_La_110 : GoodIn fy_T (wsV R_La 110 R_Mo y_Mo_watched w_Mo_watched) := fy_good (fy_w5 k_m_La_110 k_i_Mo_watched k_sel_Mo_watched k_ini_Mo k_c_Mo_watched)
set_option maxRecDepth 20000 in
theorem k_m_La_113 : (.methodLink "ForwardYardLaw" 113 y_Mo_about : Cond) ∈ fy_T := fy_mem (i := 601) rfl rfl
theorem g_La_113 : GoodIn fy_T (wsV R_La 113 R_Mo y_Mo_about w_Mo_about) := fy_good (fy_w5 k_m_La_113 k_i_Mo_about k_sel_Mo_about k_ini_Mo k_c_Mo_about)
set_option maxRecDepth 20000 in
theorem k_m_La_116 : (.methodLink "ForwardYardLaw" 116 y_Mo_field : Cond) ∈ fy_T := fy_mem (i := 605) rfl rfl
theorem g_La_116 : GoodIn fy_T (wsV R_La 116 R_Mo y_Mo_field w_Mo_field) := fy_good (fy_w5 k_m_La_116 k_i_Mo_field k_sel_Mo_field k_ini_Mo k_c_Mo_field)
set_option maxRecDepth 20000 in
theorem k_m_La_119 : (.methodLink "ForwardYardLaw" 119 y_Mo_same : Cond) ∈ fy_T := fy_mem (i := 609) rfl rfl
theorem g_La_119 : GoodIn fy_T (wsV R_La 119 R_Mo y_Mo_same w_Mo_same) := fy_good (fy_w5 k_m_La_119 k_i_Mo_same k_sel_Mo_same k_ini_Mo k_c_Mo_same)
set_option maxRecDepth 20000 in
theorem k_m_La_122 : (.methodLink "ForwardYardLaw" 122 y_Mo_reach : Cond) ∈ fy_T := fy_mem (i := 613) rfl rfl
theorem g_La_122 : GoodIn fy_T (wsV R_La 122 R_Mo y_Mo_reach w_Mo_reach) := fy_good (fy_w5 k_m_La_122 k_i_Mo_reach k_sel_Mo_reach k_ini_Mo k_c_Mo_reach)
set_option maxRecDepth 20000 in
theorem k_m_Mo_64 : (.methodLink "ForwardYardModel" 64 y_Mo_forget : Cond) ∈ fy_T := fy_mem (i := 617) rfl rfl
theorem g_Mo_64 : GoodIn fy_T (wsV R_Mo 64 R_Mo y_Mo_forget w_Mo_forget) := fy_good (fy_w5 k_m_Mo_64 k_i_Mo_forget k_sel_Mo_forget k_ini_Mo k_c_Mo_forget)
set_option maxRecDepth 20000 in
theorem k_m_Mo_67 : (.methodLink "ForwardYardModel" 67 y_Mo_begin : Cond) ∈ fy_T := fy_mem (i := 621) rfl rfl
theorem g_Mo_67 : GoodIn fy_T (wsV R_Mo 67 R_Mo y_Mo_begin w_Mo_begin) := fy_good (fy_w5 k_m_Mo_67 k_i_Mo_begin k_sel_Mo_begin k_ini_Mo k_c_Mo_begin)
set_option maxRecDepth 20000 in
theorem k_m_Mo_71 : (.methodLink "ForwardYardModel" 71 y_Mo_spread : Cond) ∈ fy_T := fy_mem (i := 625) rfl rfl
theorem g_Mo_71 : GoodIn fy_T (wsV R_Mo 71 R_Mo y_Mo_spread w_Mo_spread) := fy_good (fy_w5 k_m_Mo_71 k_i_Mo_spread k_sel_Mo_spread k_ini_Mo k_c_Mo_spread)
set_option maxRecDepth 20000 in
theorem k_m_Mo_74 : (.methodLink "ForwardYardModel" 74 y_Mo_marked : Cond) ∈ fy_T := fy_mem (i := 629) rfl rfl
theorem g_Mo_74 : GoodIn fy_T (wsV R_Mo 74 R_Mo y_Mo_marked w_Mo_marked) := fy_good (fy_w5 k_m_Mo_74 k_i_Mo_marked k_sel_Mo_marked k_ini_Mo k_c_Mo_marked)
set_option maxRecDepth 20000 in
theorem k_m_La_125 : (.methodLink "ForwardYardLaw" 125 y_Mo_collect : Cond) ∈ fy_T := fy_mem (i := 633) rfl rfl
theorem g_La_125 : GoodIn fy_T (wsV R_La 125 R_Mo y_Mo_collect w_Mo_collect) := fy_good (fy_w5 k_m_La_125 k_i_Mo_collect k_sel_Mo_collect k_ini_Mo k_c_Mo_collect)
set_option maxRecDepth 20000 in
theorem k_m_Mo_77 : (.methodLink "ForwardYardModel" 77 y_Mo_move : Cond) ∈ fy_T := fy_mem (i := 637) rfl rfl
theorem g_Mo_77 : GoodIn fy_T (wsV R_Mo 77 R_Mo y_Mo_move w_Mo_move) := fy_good (fy_w5 k_m_Mo_77 k_i_Mo_move k_sel_Mo_move k_ini_Mo k_c_Mo_move)
set_option maxRecDepth 20000 in
theorem k_m_La_128 : (.methodLink "ForwardYardLaw" 128 y_Mo_figure : Cond) ∈ fy_T := fy_mem (i := 641) rfl rfl
theorem g_La_128 : GoodIn fy_T (wsV R_La 128 R_Mo y_Mo_figure w_Mo_figure) := fy_good (fy_w5 k_m_La_128 k_i_Mo_figure k_sel_Mo_figure k_ini_Mo k_c_Mo_figure)
set_option maxRecDepth 20000 in
theorem k_ac_link : (.methodLink "ForwardYard$Space" 26 arraycopyName : Cond) ∈ fy_T := fy_mem (i := 456) rfl rfl
set_option maxRecDepth 20000 in
theorem k_ac_nat : (.native arraycopyName : Cond) ∈ fy_T := fy_mem (i := 458) rfl rfl
set_option maxRecDepth 20000 in
theorem k_ac_stat : (.static arraycopyName : Cond) ∈ fy_T := fy_mem (i := 457) rfl rfl
theorem gw_Yd_init : GoodIn fy_T w_Yd_init := fy_good (fy_w1 k_c_Yd_init)
theorem gw_Cr_init : GoodIn fy_T w_Cr_init := fy_good (fy_w1 k_c_Cr_init)
theorem gw_Wo_init : GoodIn fy_T w_Wo_init := fy_good (fy_w1 k_c_Wo_init)
theorem gw_Wa_init : GoodIn fy_T w_Wa_init := fy_good (fy_w1 k_c_Wa_init)
theorem gw_Sp_init : GoodIn fy_T w_Sp_init := fy_good (fy_w1 k_c_Sp_init)
theorem gw_Ar_fill : GoodIn fy_T w_Ar_fill := fy_good (fy_w1 k_c_Ar_fill)
theorem gw_Yd_make : GoodIn fy_T w_Yd_make := fy_good (fy_w1 k_c_Yd_make)
theorem gw_Yd_checkRegister : GoodIn fy_T w_Yd_checkRegister := fy_good (fy_w1 k_c_Yd_checkRegister)
theorem gw_Sp_hasRoomFor : GoodIn fy_T w_Sp_hasRoomFor := fy_good (fy_w1 k_c_Sp_hasRoomFor)
theorem gw_Sp_layDown : GoodIn fy_T w_Sp_layDown := fy_good (fy_w1 k_c_Sp_layDown)
theorem gw_Yd_set : GoodIn fy_T w_Yd_set := fy_good (fy_w1 k_c_Yd_set)
theorem gw_Yd_objectOf : GoodIn fy_T w_Yd_objectOf := fy_good (fy_w1 k_c_Yd_objectOf)
theorem gw_Yd_checkField : GoodIn fy_T w_Yd_checkField := fy_good (fy_w1 k_c_Yd_checkField)
theorem gw_Sp_fieldCountOf : GoodIn fy_T w_Sp_fieldCountOf := fy_good (fy_w1 k_c_Sp_fieldCountOf)
theorem gw_Sp_refer : GoodIn fy_T w_Sp_refer := fy_good (fy_w1 k_c_Sp_refer)
theorem gw_Yd_get : GoodIn fy_T w_Yd_get := fy_good (fy_w1 k_c_Yd_get)
theorem gw_Sp_referent : GoodIn fy_T w_Sp_referent := fy_good (fy_w1 k_c_Sp_referent)
theorem gw_Yd_copy : GoodIn fy_T w_Yd_copy := fy_good (fy_w1 k_c_Yd_copy)
theorem gw_Yd_clear : GoodIn fy_T w_Yd_clear := fy_good (fy_w1 k_c_Yd_clear)
theorem gw_Yd_write : GoodIn fy_T w_Yd_write := fy_good (fy_w1 k_c_Yd_write)
theorem gw_Sp_valueOf : GoodIn fy_T w_Sp_valueOf := fy_good (fy_w1 k_c_Sp_valueOf)
theorem gw_Sp_putValue : GoodIn fy_T w_Sp_putValue := fy_good (fy_w1 k_c_Sp_putValue)
theorem gw_Yd_watch : GoodIn fy_T w_Yd_watch := fy_good (fy_w1 k_c_Yd_watch)
theorem gw_Yd_checkWeakRegister : GoodIn fy_T w_Yd_checkWeakRegister := fy_good (fy_w1 k_c_Yd_checkWeakRegister)
theorem gw_Yd_revive : GoodIn fy_T w_Yd_revive := fy_good (fy_w1 k_c_Yd_revive)
theorem gw_Yd_watched : GoodIn fy_T w_Yd_watched := fy_good (fy_w1 k_c_Yd_watched)
theorem gw_Yd_numberOrNothing : GoodIn fy_T w_Yd_numberOrNothing := fy_good (fy_w1 k_c_Yd_numberOrNothing)
theorem gw_Sp_numberOf : GoodIn fy_T w_Sp_numberOf := fy_good (fy_w1 k_c_Sp_numberOf)
theorem gw_Yd_about : GoodIn fy_T w_Yd_about := fy_good (fy_w1 k_c_Yd_about)
theorem gw_Sp_ageOf : GoodIn fy_T w_Sp_ageOf := fy_good (fy_w1 k_c_Sp_ageOf)
theorem gw_Yd_field : GoodIn fy_T w_Yd_field := fy_good (fy_w1 k_c_Yd_field)
theorem gw_Yd_same : GoodIn fy_T w_Yd_same := fy_good (fy_w1 k_c_Yd_same)
theorem gw_Yd_reach : GoodIn fy_T w_Yd_reach := fy_good (fy_w1 k_c_Yd_reach)
theorem gw_Wa_countFrom : GoodIn fy_T w_Wa_countFrom := fy_good (fy_w1 k_c_Wa_countFrom)
theorem gw_Wa_find : GoodIn fy_T w_Wa_find := fy_good (fy_w1 k_c_Wa_find)
theorem gw_Yd_collect : GoodIn fy_T w_Yd_collect := fy_good (fy_w1 k_c_Yd_collect)
theorem gw_Sp_objects : GoodIn fy_T w_Sp_objects := fy_good (fy_w1 k_c_Sp_objects)
theorem gw_Sp_makeEmpty : GoodIn fy_T w_Sp_makeEmpty := fy_good (fy_w1 k_c_Sp_makeEmpty)
theorem gw_Cr_begin : GoodIn fy_T w_Cr_begin := fy_good (fy_w1 k_c_Cr_begin)
theorem gw_Cr_bringRoots : GoodIn fy_T w_Cr_bringRoots := fy_good (fy_w1 k_c_Cr_bringRoots)
theorem gw_Cr_whoseTurn : GoodIn fy_T w_Cr_whoseTurn := fy_good (fy_w1 k_c_Cr_whoseTurn)
theorem gw_Cr_bring : GoodIn fy_T w_Cr_bring := fy_good (fy_w1 k_c_Cr_bring)
theorem gw_Sp_takeOver : GoodIn fy_T w_Sp_takeOver := fy_good (fy_w1 k_c_Sp_takeOver)
theorem gw_Wo_pileUp : GoodIn fy_T w_Wo_pileUp := fy_good (fy_w1 k_c_Wo_pileUp)
theorem gw_Cr_bringAllReached : GoodIn fy_T w_Cr_bringAllReached := fy_good (fy_w1 k_c_Cr_bringAllReached)
theorem gw_Cr_takeFor : GoodIn fy_T w_Cr_takeFor := fy_good (fy_w1 k_c_Cr_takeFor)
theorem gw_Wo_takeTop : GoodIn fy_T w_Wo_takeTop := fy_good (fy_w1 k_c_Wo_takeTop)
theorem gw_Cr_bringFields : GoodIn fy_T w_Cr_bringFields := fy_good (fy_w1 k_c_Cr_bringFields)
theorem gw_Cr_followWeak : GoodIn fy_T w_Cr_followWeak := fy_good (fy_w1 k_c_Cr_followWeak)
theorem gw_Yd_figure : GoodIn fy_T w_Yd_figure := fy_good (fy_w1 k_c_Yd_figure)
theorem gw_Sp_words : GoodIn fy_T w_Sp_words := fy_good (fy_w1 k_c_Sp_words)
theorem gw_Mo_init : GoodIn fy_T w_Mo_init := fy_good (fy_w1 k_c_Mo_init)
theorem gw_Mo_thrown : GoodIn fy_T w_Mo_thrown := fy_good (fy_w1 k_c_Mo_thrown)
theorem gw_Mo_make : GoodIn fy_T w_Mo_make := fy_good (fy_w1 k_c_Mo_make)
theorem gw_Mo_isRegister : GoodIn fy_T w_Mo_isRegister := fy_good (fy_w1 k_c_Mo_isRegister)
theorem gw_Mo_words : GoodIn fy_T w_Mo_words := fy_good (fy_w1 k_c_Mo_words)
theorem gw_Mo_set : GoodIn fy_T w_Mo_set := fy_good (fy_w1 k_c_Mo_set)
theorem gw_Mo_fieldAt : GoodIn fy_T w_Mo_fieldAt := fy_good (fy_w1 k_c_Mo_fieldAt)
theorem gw_Mo_find : GoodIn fy_T w_Mo_find := fy_good (fy_w1 k_c_Mo_find)
theorem gw_Mo_get : GoodIn fy_T w_Mo_get := fy_good (fy_w1 k_c_Mo_get)
theorem gw_Mo_copy : GoodIn fy_T w_Mo_copy := fy_good (fy_w1 k_c_Mo_copy)
theorem gw_Mo_clear : GoodIn fy_T w_Mo_clear := fy_good (fy_w1 k_c_Mo_clear)
theorem gw_Mo_write : GoodIn fy_T w_Mo_write := fy_good (fy_w1 k_c_Mo_write)
theorem gw_Mo_watch : GoodIn fy_T w_Mo_watch := fy_good (fy_w1 k_c_Mo_watch)
theorem gw_Mo_isWeak : GoodIn fy_T w_Mo_isWeak := fy_good (fy_w1 k_c_Mo_isWeak)
theorem gw_Mo_revive : GoodIn fy_T w_Mo_revive := fy_good (fy_w1 k_c_Mo_revive)
theorem gw_Mo_watched : GoodIn fy_T w_Mo_watched := fy_good (fy_w1 k_c_Mo_watched)
theorem gw_Mo_about : GoodIn fy_T w_Mo_about := fy_good (fy_w1 k_c_Mo_about)
theorem gw_Mo_field : GoodIn fy_T w_Mo_field := fy_good (fy_w1 k_c_Mo_field)
theorem gw_Mo_same : GoodIn fy_T w_Mo_same := fy_good (fy_w1 k_c_Mo_same)
theorem gw_Mo_reach : GoodIn fy_T w_Mo_reach := fy_good (fy_w1 k_c_Mo_reach)
theorem gw_Mo_forget : GoodIn fy_T w_Mo_forget := fy_good (fy_w1 k_c_Mo_forget)
theorem gw_Mo_begin : GoodIn fy_T w_Mo_begin := fy_good (fy_w1 k_c_Mo_begin)
theorem gw_Mo_spread : GoodIn fy_T w_Mo_spread := fy_good (fy_w1 k_c_Mo_spread)
theorem gw_Mo_marked : GoodIn fy_T w_Mo_marked := fy_good (fy_w1 k_c_Mo_marked)
theorem gw_Mo_collect : GoodIn fy_T w_Mo_collect := fy_good (fy_w1 k_c_Mo_collect)
theorem gw_Mo_move : GoodIn fy_T w_Mo_move := fy_good (fy_w1 k_c_Mo_move)
theorem gw_Mo_figure : GoodIn fy_T w_Mo_figure := fy_good (fy_w1 k_c_Mo_figure)
