/-! names: tables' good words, classes, methods (laid by program) -/
def TB : List Cond := lw_tbl.filter goodWord
theorem TB_good : ∀ w ∈ TB, goodWord w = true := fun w h => (List.mem_filter.mp h).2
theorem tq (k : Nat) {w : Cond} (h : lw_tbl[k]? = some w) (g : goodWord w = true) : w ∈ TB := List.mem_filter.mpr ⟨List.mem_of_getElem? h, g⟩
def R_Bk : String := "ConditionText$Book"
def T_Bk : u_T := fun k => match k with
  | 0 => ("ConditionText$Book", "kinds", "[I", true)
  | 1 => ("ConditionText$Book", "values", "[I", true)
  | 2 => ("ConditionText$Book", "cells", "[I", true)
  | 3 => ("ConditionText$Book", "sizes", "[I", true)
  | 4 => ("ConditionText$Book", "modes", "[Z", true)
  | 5 => ("ConditionText$Book", "files", "[Z", true)
  | _ => ("ConditionText$Book", "bodyCount", "I", false)
def ty_Bk : Nat → FieldType := fun k => match k with
  | 0 => .array .int
  | 1 => .array .int
  | 2 => .array .int
  | 3 => .array .int
  | 4 => .array .boolean
  | 5 => .array .boolean
  | _ => .int
theorem nm_Bk : ∀ a, a < 7 → ∀ b, b < 7 → a ≠ b → (T_Bk a).2.1 ≠ (T_Bk b).2.1 := by decide +kernel
theorem ty_Bk_ok : ∀ k, k < 7 → parseFieldDescriptor (T_Bk k).2.2.1 = some (ty_Bk k) := by decide +kernel
theorem i_Bk : ∀ w ∈ u_ws R_Bk T_Bk 7, w ∈ TB := by decide +kernel
def R_Rd : String := "ConditionText$Reader"
def T_Rd : u_T := fun k => match k with
  | 0 => ("ConditionText$Reader", "book", "LConditionText$Book;", true)
  | 1 => ("ConditionText$Reader", "rows", "[I", true)
  | 2 => ("ConditionText$Reader", "places", "[I", true)
  | 3 => ("ConditionText$Reader", "top", "I", false)
  | 4 => ("ConditionText$Reader", "kept", "I", false)
  | _ => ("ConditionText$Reader", "steps", "I", false)
def ty_Rd : Nat → FieldType := fun k => match k with
  | 0 => .object "ConditionText$Book"
  | 1 => .array .int
  | 2 => .array .int
  | 3 => .int
  | 4 => .int
  | _ => .int
theorem nm_Rd : ∀ a, a < 6 → ∀ b, b < 6 → a ≠ b → (T_Rd a).2.1 ≠ (T_Rd b).2.1 := by decide +kernel
theorem ty_Rd_ok : ∀ k, k < 6 → parseFieldDescriptor (T_Rd k).2.2.1 = some (ty_Rd k) := by decide +kernel
theorem i_Rd : ∀ w ∈ u_ws R_Rd T_Rd 6, w ∈ TB := by decide +kernel
def R_Rn : String := "ConditionText$Runner"
def T_Rn : u_T := fun k => match k with
  | 0 => ("ConditionText$Runner", "book", "LConditionText$Book;", true)
  | 1 => ("ConditionText$Runner", "reader", "LConditionText$Reader;", true)
  | 2 => ("ConditionText$Runner", "out", "[I", true)
  | 3 => ("ConditionText$Runner", "decisions", "[I", true)
  | 4 => ("ConditionText$Runner", "isCase", "[Z", true)
  | 5 => ("ConditionText$Runner", "hadElse", "[Z", true)
  | 6 => ("ConditionText$Runner", "outSize", "I", false)
  | 7 => ("ConditionText$Runner", "openCount", "I", false)
  | 8 => ("ConditionText$Runner", "opened", "I", false)
  | 9 => ("ConditionText$Runner", "mostOpen", "I", false)
  | 10 => ("ConditionText$Runner", "skipped", "I", false)
  | _ => ("ConditionText$Runner", "fault", "I", false)
def ty_Rn : Nat → FieldType := fun k => match k with
  | 0 => .object "ConditionText$Book"
  | 1 => .object "ConditionText$Reader"
  | 2 => .array .int
  | 3 => .array .int
  | 4 => .array .boolean
  | 5 => .array .boolean
  | 6 => .int
  | 7 => .int
  | 8 => .int
  | 9 => .int
  | 10 => .int
  | _ => .int
theorem nm_Rn : ∀ a, a < 12 → ∀ b, b < 12 → a ≠ b → (T_Rn a).2.1 ≠ (T_Rn b).2.1 := by decide +kernel
theorem ty_Rn_ok : ∀ k, k < 12 → parseFieldDescriptor (T_Rn k).2.2.1 = some (ty_Rn k) := by decide +kernel
theorem i_Rn : ∀ w ∈ u_ws R_Rn T_Rn 12, w ∈ TB := by decide +kernel
def R_Ct : String := "ConditionText"
def T_Ct : u_T := fun k => match k with
  | 0 => ("ConditionText", "book", "LConditionText$Book;", true)
  | _ => ("ConditionText", "runner", "LConditionText$Runner;", true)
def ty_Ct : Nat → FieldType := fun k => match k with
  | 0 => .object "ConditionText$Book"
  | _ => .object "ConditionText$Runner"
theorem nm_Ct : ∀ a, a < 2 → ∀ b, b < 2 → a ≠ b → (T_Ct a).2.1 ≠ (T_Ct b).2.1 := by decide +kernel
theorem ty_Ct_ok : ∀ k, k < 2 → parseFieldDescriptor (T_Ct k).2.2.1 = some (ty_Ct k) := by decide +kernel
theorem i_Ct : ∀ w ∈ u_ws R_Ct T_Ct 2, w ∈ TB := by decide +kernel
def R_Md : String := "ConditionTextModel"
def T_Md : u_T := fun k => match k with
  | 0 => ("ConditionTextModel", "thrown", "I", false)
  | 1 => ("ConditionTextModel", "kinds", "[I", true)
  | 2 => ("ConditionTextModel", "values", "[I", true)
  | 3 => ("ConditionTextModel", "bodies", "I", false)
  | 4 => ("ConditionTextModel", "rows", "[I", true)
  | 5 => ("ConditionTextModel", "sizes", "[I", true)
  | 6 => ("ConditionTextModel", "modes", "[Z", true)
  | 7 => ("ConditionTextModel", "ends", "[Z", true)
  | 8 => ("ConditionTextModel", "pileRows", "[I", true)
  | 9 => ("ConditionTextModel", "pilePlaces", "[I", true)
  | 10 => ("ConditionTextModel", "pile", "I", false)
  | 11 => ("ConditionTextModel", "held", "I", false)
  | 12 => ("ConditionTextModel", "steps", "I", false)
  | 13 => ("ConditionTextModel", "fault", "I", false)
  | 14 => ("ConditionTextModel", "out", "[I", true)
  | 15 => ("ConditionTextModel", "outSize", "I", false)
  | 16 => ("ConditionTextModel", "opened", "I", false)
  | 17 => ("ConditionTextModel", "most", "I", false)
  | 18 => ("ConditionTextModel", "skipped", "I", false)
  | 19 => ("ConditionTextModel", "decided", "[I", true)
  | 20 => ("ConditionTextModel", "phases", "[I", true)
  | 21 => ("ConditionTextModel", "open", "I", false)
  | _ => ("ConditionTextModel", "hasRun", "Z", false)
def ty_Md : Nat → FieldType := fun k => match k with
  | 0 => .int
  | 1 => .array .int
  | 2 => .array .int
  | 3 => .int
  | 4 => .array .int
  | 5 => .array .int
  | 6 => .array .boolean
  | 7 => .array .boolean
  | 8 => .array .int
  | 9 => .array .int
  | 10 => .int
  | 11 => .int
  | 12 => .int
  | 13 => .int
  | 14 => .array .int
  | 15 => .int
  | 16 => .int
  | 17 => .int
  | 18 => .int
  | 19 => .array .int
  | 20 => .array .int
  | 21 => .int
  | _ => .boolean
theorem nm_Md : ∀ a, a < 23 → ∀ b, b < 23 → a ≠ b → (T_Md a).2.1 ≠ (T_Md b).2.1 := by decide +kernel
theorem ty_Md_ok : ∀ k, k < 23 → parseFieldDescriptor (T_Md k).2.2.1 = some (ty_Md k) := by decide +kernel
theorem i_Md : ∀ w ∈ u_ws R_Md T_Md 23, w ∈ TB := by decide +kernel
def R_Ar : String := "java/util/Arrays"
abbrev vwCl : List vw_C := [(R_Bk, T_Bk, 7), (R_Rd, T_Rd, 6), (R_Rn, T_Rn, 12), (R_Ct, T_Ct, 2), (R_Md, T_Md, 23)]
abbrev b_Ct_init : ByteArray := prog_1_method_1_code
def y_Ct_init : MethodName := ⟨R_Ct, "<init>", "()V"⟩
abbrev ws_Ct_init : List Cond := .code y_Ct_init b_Ct_init 1 (none : Option Jvm.ClassFile.FieldType) :: TB
theorem p_Ct_init : y_Ct_init.cls = R_Ct ∧ y_Ct_init.cls ≠ "java/lang/invoke/MethodHandle" ∧ y_Ct_init.cls ≠ "java/lang/invoke/VarHandle" ∧ (parseMethodDescriptor y_Ct_init.desc).map (fun d => d.parameters.length) = some 0 := by decide +kernel
abbrev b_Bk_init : ByteArray := prog_2_method_1_code
def y_Bk_init : MethodName := ⟨R_Bk, "<init>", "()V"⟩
abbrev ws_Bk_init : List Cond := .code y_Bk_init b_Bk_init 1 (none : Option Jvm.ClassFile.FieldType) :: TB
theorem p_Bk_init : y_Bk_init.cls = R_Bk ∧ y_Bk_init.cls ≠ "java/lang/invoke/MethodHandle" ∧ y_Bk_init.cls ≠ "java/lang/invoke/VarHandle" ∧ (parseMethodDescriptor y_Bk_init.desc).map (fun d => d.parameters.length) = some 0 := by decide +kernel
abbrev b_Rn_init : ByteArray := prog_4_method_1_code
def y_Rn_init : MethodName := ⟨R_Rn, "<init>", "(LConditionText$Book;)V"⟩
abbrev ws_Rn_init : List Cond := .code y_Rn_init b_Rn_init 2 (none : Option Jvm.ClassFile.FieldType) :: TB
theorem p_Rn_init : y_Rn_init.cls = R_Rn ∧ y_Rn_init.cls ≠ "java/lang/invoke/MethodHandle" ∧ y_Rn_init.cls ≠ "java/lang/invoke/VarHandle" ∧ (parseMethodDescriptor y_Rn_init.desc).map (fun d => d.parameters.length) = some 1 := by decide +kernel
abbrev b_Rd_init : ByteArray := prog_3_method_1_code
def y_Rd_init : MethodName := ⟨R_Rd, "<init>", "(LConditionText$Book;)V"⟩
abbrev ws_Rd_init : List Cond := .code y_Rd_init b_Rd_init 2 (none : Option Jvm.ClassFile.FieldType) :: TB
theorem p_Rd_init : y_Rd_init.cls = R_Rd ∧ y_Rd_init.cls ≠ "java/lang/invoke/MethodHandle" ∧ y_Rd_init.cls ≠ "java/lang/invoke/VarHandle" ∧ (parseMethodDescriptor y_Rd_init.desc).map (fun d => d.parameters.length) = some 1 := by decide +kernel
abbrev b_Rn_forget : ByteArray := prog_4_method_6_code
def y_Rn_forget : MethodName := ⟨R_Rn, "forget", "()V"⟩
abbrev ws_Rn_forget : List Cond := .code y_Rn_forget b_Rn_forget 1 (none : Option Jvm.ClassFile.FieldType) :: TB
theorem p_Rn_forget : y_Rn_forget.cls = R_Rn ∧ y_Rn_forget.cls ≠ "java/lang/invoke/MethodHandle" ∧ y_Rn_forget.cls ≠ "java/lang/invoke/VarHandle" ∧ (parseMethodDescriptor y_Rn_forget.desc).map (fun d => d.parameters.length) = some 0 := by decide +kernel
abbrev b_Ar_fill : ByteArray := prog_8_method_103_code
def y_Ar_fill : MethodName := ⟨R_Ar, "fill", "([II)V"⟩
abbrev ws_Ar_fill : List Cond := .code y_Ar_fill b_Ar_fill 4 (none : Option Jvm.ClassFile.FieldType) :: TB
theorem p_Ar_fill : y_Ar_fill.cls = R_Ar ∧ y_Ar_fill.cls ≠ "java/lang/invoke/MethodHandle" ∧ y_Ar_fill.cls ≠ "java/lang/invoke/VarHandle" ∧ (parseMethodDescriptor y_Ar_fill.desc).map (fun d => d.parameters.length) = some 2 := by decide +kernel
abbrev b_Ct_meaning : ByteArray := prog_1_method_2_code
def y_Ct_meaning : MethodName := ⟨R_Ct, "meaning", "(III)I"⟩
abbrev ws_Ct_meaning : List Cond := .code y_Ct_meaning b_Ct_meaning 4 (some .int) :: TB
theorem p_Ct_meaning : y_Ct_meaning.cls = R_Ct ∧ y_Ct_meaning.cls ≠ "java/lang/invoke/MethodHandle" ∧ y_Ct_meaning.cls ≠ "java/lang/invoke/VarHandle" ∧ (parseMethodDescriptor y_Ct_meaning.desc).map (fun d => d.parameters.length) = some 3 := by decide +kernel
abbrev b_Bk_hasBody : ByteArray := prog_2_method_2_code
def y_Bk_hasBody : MethodName := ⟨R_Bk, "hasBody", "(I)Z"⟩
abbrev ws_Bk_hasBody : List Cond := .code y_Bk_hasBody b_Bk_hasBody 2 (some .boolean) :: TB
theorem p_Bk_hasBody : y_Bk_hasBody.cls = R_Bk ∧ y_Bk_hasBody.cls ≠ "java/lang/invoke/MethodHandle" ∧ y_Bk_hasBody.cls ≠ "java/lang/invoke/VarHandle" ∧ (parseMethodDescriptor y_Bk_hasBody.desc).map (fun d => d.parameters.length) = some 1 := by decide +kernel
abbrev b_Ct_fitsKind : ByteArray := prog_1_method_15_code
def y_Ct_fitsKind : MethodName := ⟨R_Ct, "fitsKind", "(II)Z"⟩
abbrev ws_Ct_fitsKind : List Cond := .code y_Ct_fitsKind b_Ct_fitsKind 2 (some .boolean) :: TB
theorem p_Ct_fitsKind : y_Ct_fitsKind.cls = R_Ct ∧ y_Ct_fitsKind.cls ≠ "java/lang/invoke/MethodHandle" ∧ y_Ct_fitsKind.cls ≠ "java/lang/invoke/VarHandle" ∧ (parseMethodDescriptor y_Ct_fitsKind.desc).map (fun d => d.parameters.length) = some 2 := by decide +kernel
abbrev b_Ct_isSign : ByteArray := prog_1_method_16_code
def y_Ct_isSign : MethodName := ⟨R_Ct, "isSign", "(I)Z"⟩
abbrev ws_Ct_isSign : List Cond := .code y_Ct_isSign b_Ct_isSign 1 (some .boolean) :: TB
theorem p_Ct_isSign : y_Ct_isSign.cls = R_Ct ∧ y_Ct_isSign.cls ≠ "java/lang/invoke/MethodHandle" ∧ y_Ct_isSign.cls ≠ "java/lang/invoke/VarHandle" ∧ (parseMethodDescriptor y_Ct_isSign.desc).map (fun d => d.parameters.length) = some 1 := by decide +kernel
abbrev b_Bk_define : ByteArray := prog_2_method_4_code
def y_Bk_define : MethodName := ⟨R_Bk, "define", "(III)V"⟩
abbrev ws_Bk_define : List Cond := .code y_Bk_define b_Bk_define 4 (none : Option Jvm.ClassFile.FieldType) :: TB
theorem p_Bk_define : y_Bk_define.cls = R_Bk ∧ y_Bk_define.cls ≠ "java/lang/invoke/MethodHandle" ∧ y_Bk_define.cls ≠ "java/lang/invoke/VarHandle" ∧ (parseMethodDescriptor y_Bk_define.desc).map (fun d => d.parameters.length) = some 3 := by decide +kernel
abbrev b_Ct_body : ByteArray := prog_1_method_3_code
def y_Ct_body : MethodName := ⟨R_Ct, "body", "()I"⟩
abbrev ws_Ct_body : List Cond := .code y_Ct_body b_Ct_body 1 (some .int) :: TB
theorem p_Ct_body : y_Ct_body.cls = R_Ct ∧ y_Ct_body.cls ≠ "java/lang/invoke/MethodHandle" ∧ y_Ct_body.cls ≠ "java/lang/invoke/VarHandle" ∧ (parseMethodDescriptor y_Ct_body.desc).map (fun d => d.parameters.length) = some 0 := by decide +kernel
abbrev b_Bk_addBody : ByteArray := prog_2_method_3_code
def y_Bk_addBody : MethodName := ⟨R_Bk, "addBody", "()I"⟩
abbrev ws_Bk_addBody : List Cond := .code y_Bk_addBody b_Bk_addBody 1 (some .int) :: TB
theorem p_Bk_addBody : y_Bk_addBody.cls = R_Bk ∧ y_Bk_addBody.cls ≠ "java/lang/invoke/MethodHandle" ∧ y_Bk_addBody.cls ≠ "java/lang/invoke/VarHandle" ∧ (parseMethodDescriptor y_Bk_addBody.desc).map (fun d => d.parameters.length) = some 0 := by decide +kernel
abbrev b_Ct_token : ByteArray := prog_1_method_4_code
def y_Ct_token : MethodName := ⟨R_Ct, "token", "(II)I"⟩
abbrev ws_Ct_token : List Cond := .code y_Ct_token b_Ct_token 3 (some .int) :: TB
theorem p_Ct_token : y_Ct_token.cls = R_Ct ∧ y_Ct_token.cls ≠ "java/lang/invoke/MethodHandle" ∧ y_Ct_token.cls ≠ "java/lang/invoke/VarHandle" ∧ (parseMethodDescriptor y_Ct_token.desc).map (fun d => d.parameters.length) = some 2 := by decide +kernel
abbrev b_Ct_isToken : ByteArray := prog_1_method_18_code
def y_Ct_isToken : MethodName := ⟨R_Ct, "isToken", "(I)Z"⟩
abbrev ws_Ct_isToken : List Cond := .code y_Ct_isToken b_Ct_isToken 1 (some .boolean) :: TB
theorem p_Ct_isToken : y_Ct_isToken.cls = R_Ct ∧ y_Ct_isToken.cls ≠ "java/lang/invoke/MethodHandle" ∧ y_Ct_isToken.cls ≠ "java/lang/invoke/VarHandle" ∧ (parseMethodDescriptor y_Ct_isToken.desc).map (fun d => d.parameters.length) = some 1 := by decide +kernel
abbrev b_Ct_isName : ByteArray := prog_1_method_17_code
def y_Ct_isName : MethodName := ⟨R_Ct, "isName", "(I)Z"⟩
abbrev ws_Ct_isName : List Cond := .code y_Ct_isName b_Ct_isName 1 (some .boolean) :: TB
theorem p_Ct_isName : y_Ct_isName.cls = R_Ct ∧ y_Ct_isName.cls ≠ "java/lang/invoke/MethodHandle" ∧ y_Ct_isName.cls ≠ "java/lang/invoke/VarHandle" ∧ (parseMethodDescriptor y_Ct_isName.desc).map (fun d => d.parameters.length) = some 1 := by decide +kernel
abbrev b_Bk_append : ByteArray := prog_2_method_6_code
def y_Bk_append : MethodName := ⟨R_Bk, "append", "(II)I"⟩
abbrev ws_Bk_append : List Cond := .code y_Bk_append b_Bk_append 6 (some .int) :: TB
theorem p_Bk_append : y_Bk_append.cls = R_Bk ∧ y_Bk_append.cls ≠ "java/lang/invoke/MethodHandle" ∧ y_Bk_append.cls ≠ "java/lang/invoke/VarHandle" ∧ (parseMethodDescriptor y_Bk_append.desc).map (fun d => d.parameters.length) = some 2 := by decide +kernel
abbrev b_Bk_sizeOf : ByteArray := prog_2_method_5_code
def y_Bk_sizeOf : MethodName := ⟨R_Bk, "sizeOf", "(I)I"⟩
abbrev ws_Bk_sizeOf : List Cond := .code y_Bk_sizeOf b_Bk_sizeOf 2 (some .int) :: TB
theorem p_Bk_sizeOf : y_Bk_sizeOf.cls = R_Bk ∧ y_Bk_sizeOf.cls ≠ "java/lang/invoke/MethodHandle" ∧ y_Bk_sizeOf.cls ≠ "java/lang/invoke/VarHandle" ∧ (parseMethodDescriptor y_Bk_sizeOf.desc).map (fun d => d.parameters.length) = some 1 := by decide +kernel
abbrev b_Ct_clear : ByteArray := prog_1_method_5_code
def y_Ct_clear : MethodName := ⟨R_Ct, "clear", "()I"⟩
abbrev ws_Ct_clear : List Cond := .code y_Ct_clear b_Ct_clear 1 (some .int) :: TB
theorem p_Ct_clear : y_Ct_clear.cls = R_Ct ∧ y_Ct_clear.cls ≠ "java/lang/invoke/MethodHandle" ∧ y_Ct_clear.cls ≠ "java/lang/invoke/VarHandle" ∧ (parseMethodDescriptor y_Ct_clear.desc).map (fun d => d.parameters.length) = some 0 := by decide +kernel
abbrev b_Bk_emptyInput : ByteArray := prog_2_method_7_code
def y_Bk_emptyInput : MethodName := ⟨R_Bk, "emptyInput", "()I"⟩
abbrev ws_Bk_emptyInput : List Cond := .code y_Bk_emptyInput b_Bk_emptyInput 2 (some .int) :: TB
theorem p_Bk_emptyInput : y_Bk_emptyInput.cls = R_Bk ∧ y_Bk_emptyInput.cls ≠ "java/lang/invoke/MethodHandle" ∧ y_Bk_emptyInput.cls ≠ "java/lang/invoke/VarHandle" ∧ (parseMethodDescriptor y_Bk_emptyInput.desc).map (fun d => d.parameters.length) = some 0 := by decide +kernel
abbrev b_Ct_mode : ByteArray := prog_1_method_6_code
def y_Ct_mode : MethodName := ⟨R_Ct, "mode", "(IZ)I"⟩
abbrev ws_Ct_mode : List Cond := .code y_Ct_mode b_Ct_mode 3 (some .int) :: TB
theorem p_Ct_mode : y_Ct_mode.cls = R_Ct ∧ y_Ct_mode.cls ≠ "java/lang/invoke/MethodHandle" ∧ y_Ct_mode.cls ≠ "java/lang/invoke/VarHandle" ∧ (parseMethodDescriptor y_Ct_mode.desc).map (fun d => d.parameters.length) = some 2 := by decide +kernel
abbrev b_Ct_turn : ByteArray := prog_1_method_14_code
def y_Ct_turn : MethodName := ⟨R_Ct, "turn", "([ZIZ)I"⟩
abbrev ws_Ct_turn : List Cond := .code y_Ct_turn b_Ct_turn 3 (some .int) :: TB
theorem p_Ct_turn : y_Ct_turn.cls = R_Ct ∧ y_Ct_turn.cls ≠ "java/lang/invoke/MethodHandle" ∧ y_Ct_turn.cls ≠ "java/lang/invoke/VarHandle" ∧ (parseMethodDescriptor y_Ct_turn.desc).map (fun d => d.parameters.length) = some 3 := by decide +kernel
abbrev b_Ct_end : ByteArray := prog_1_method_7_code
def y_Ct_end : MethodName := ⟨R_Ct, "end", "(IZ)I"⟩
abbrev ws_Ct_end : List Cond := .code y_Ct_end b_Ct_end 3 (some .int) :: TB
theorem p_Ct_end : y_Ct_end.cls = R_Ct ∧ y_Ct_end.cls ≠ "java/lang/invoke/MethodHandle" ∧ y_Ct_end.cls ≠ "java/lang/invoke/VarHandle" ∧ (parseMethodDescriptor y_Ct_end.desc).map (fun d => d.parameters.length) = some 2 := by decide +kernel
abbrev b_Ct_run : ByteArray := prog_1_method_8_code
def y_Ct_run : MethodName := ⟨R_Ct, "run", "()I"⟩
abbrev ws_Ct_run : List Cond := .code y_Ct_run b_Ct_run 1 (some .int) :: TB
theorem p_Ct_run : y_Ct_run.cls = R_Ct ∧ y_Ct_run.cls ≠ "java/lang/invoke/MethodHandle" ∧ y_Ct_run.cls ≠ "java/lang/invoke/VarHandle" ∧ (parseMethodDescriptor y_Ct_run.desc).map (fun d => d.parameters.length) = some 0 := by decide +kernel
abbrev b_Rn_goThroughInput : ByteArray := prog_4_method_2_code
def y_Rn_goThroughInput : MethodName := ⟨R_Rn, "goThroughInput", "()I"⟩
abbrev ws_Rn_goThroughInput : List Cond := .code y_Rn_goThroughInput b_Rn_goThroughInput 3 (some .int) :: TB
theorem p_Rn_goThroughInput : y_Rn_goThroughInput.cls = R_Rn ∧ y_Rn_goThroughInput.cls ≠ "java/lang/invoke/MethodHandle" ∧ y_Rn_goThroughInput.cls ≠ "java/lang/invoke/VarHandle" ∧ (parseMethodDescriptor y_Rn_goThroughInput.desc).map (fun d => d.parameters.length) = some 0 := by decide +kernel
abbrev b_Rd_restart : ByteArray := prog_3_method_2_code
def y_Rd_restart : MethodName := ⟨R_Rd, "restart", "()V"⟩
abbrev ws_Rd_restart : List Cond := .code y_Rd_restart b_Rd_restart 1 (none : Option Jvm.ClassFile.FieldType) :: TB
theorem p_Rd_restart : y_Rd_restart.cls = R_Rd ∧ y_Rd_restart.cls ≠ "java/lang/invoke/MethodHandle" ∧ y_Rd_restart.cls ≠ "java/lang/invoke/VarHandle" ∧ (parseMethodDescriptor y_Rd_restart.desc).map (fun d => d.parameters.length) = some 0 := by decide +kernel
abbrev b_Rd_goOnWith : ByteArray := prog_3_method_3_code
def y_Rd_goOnWith : MethodName := ⟨R_Rd, "goOnWith", "(I)V"⟩
abbrev ws_Rd_goOnWith : List Cond := .code y_Rd_goOnWith b_Rd_goOnWith 2 (none : Option Jvm.ClassFile.FieldType) :: TB
theorem p_Rd_goOnWith : y_Rd_goOnWith.cls = R_Rd ∧ y_Rd_goOnWith.cls ≠ "java/lang/invoke/MethodHandle" ∧ y_Rd_goOnWith.cls ≠ "java/lang/invoke/VarHandle" ∧ (parseMethodDescriptor y_Rd_goOnWith.desc).map (fun d => d.parameters.length) = some 1 := by decide +kernel
abbrev b_Rd_look : ByteArray := prog_3_method_4_code
def y_Rd_look : MethodName := ⟨R_Rd, "look", "()I"⟩
abbrev ws_Rd_look : List Cond := .code y_Rd_look b_Rd_look 2 (some .int) :: TB
theorem p_Rd_look : y_Rd_look.cls = R_Rd ∧ y_Rd_look.cls ≠ "java/lang/invoke/MethodHandle" ∧ y_Rd_look.cls ≠ "java/lang/invoke/VarHandle" ∧ (parseMethodDescriptor y_Rd_look.desc).map (fun d => d.parameters.length) = some 0 := by decide +kernel
abbrev b_Bk_tokenIn : ByteArray := prog_2_method_9_code
def y_Bk_tokenIn : MethodName := ⟨R_Bk, "tokenIn", "(II)I"⟩
abbrev ws_Bk_tokenIn : List Cond := .code y_Bk_tokenIn b_Bk_tokenIn 4 (some .int) :: TB
theorem p_Bk_tokenIn : y_Bk_tokenIn.cls = R_Bk ∧ y_Bk_tokenIn.cls ≠ "java/lang/invoke/MethodHandle" ∧ y_Bk_tokenIn.cls ≠ "java/lang/invoke/VarHandle" ∧ (parseMethodDescriptor y_Bk_tokenIn.desc).map (fun d => d.parameters.length) = some 2 := by decide +kernel
abbrev b_Rn_fail : ByteArray := prog_4_method_7_code
def y_Rn_fail : MethodName := ⟨R_Rn, "fail", "(I)V"⟩
abbrev ws_Rn_fail : List Cond := .code y_Rn_fail b_Rn_fail 2 (none : Option Jvm.ClassFile.FieldType) :: TB
theorem p_Rn_fail : y_Rn_fail.cls = R_Rn ∧ y_Rn_fail.cls ≠ "java/lang/invoke/MethodHandle" ∧ y_Rn_fail.cls ≠ "java/lang/invoke/VarHandle" ∧ (parseMethodDescriptor y_Rn_fail.desc).map (fun d => d.parameters.length) = some 1 := by decide +kernel
abbrev b_Rn_takeIn : ByteArray := prog_4_method_10_code
def y_Rn_takeIn : MethodName := ⟨R_Rn, "takeIn", "(II)Z"⟩
abbrev ws_Rn_takeIn : List Cond := .code y_Rn_takeIn b_Rn_takeIn 4 (some .boolean) :: TB
theorem p_Rn_takeIn : y_Rn_takeIn.cls = R_Rn ∧ y_Rn_takeIn.cls ≠ "java/lang/invoke/MethodHandle" ∧ y_Rn_takeIn.cls ≠ "java/lang/invoke/VarHandle" ∧ (parseMethodDescriptor y_Rn_takeIn.desc).map (fun d => d.parameters.length) = some 2 := by decide +kernel
abbrev b_Bk_kindOf : ByteArray := prog_2_method_10_code
def y_Bk_kindOf : MethodName := ⟨R_Bk, "kindOf", "(I)I"⟩
abbrev ws_Bk_kindOf : List Cond := .code y_Bk_kindOf b_Bk_kindOf 2 (some .int) :: TB
theorem p_Bk_kindOf : y_Bk_kindOf.cls = R_Bk ∧ y_Bk_kindOf.cls ≠ "java/lang/invoke/MethodHandle" ∧ y_Bk_kindOf.cls ≠ "java/lang/invoke/VarHandle" ∧ (parseMethodDescriptor y_Bk_kindOf.desc).map (fun d => d.parameters.length) = some 1 := by decide +kernel
abbrev b_Ct_isMacro : ByteArray := prog_1_method_22_code
def y_Ct_isMacro : MethodName := ⟨R_Ct, "isMacro", "(I)Z"⟩
abbrev ws_Ct_isMacro : List Cond := .code y_Ct_isMacro b_Ct_isMacro 1 (some .boolean) :: TB
theorem p_Ct_isMacro : y_Ct_isMacro.cls = R_Ct ∧ y_Ct_isMacro.cls ≠ "java/lang/invoke/MethodHandle" ∧ y_Ct_isMacro.cls ≠ "java/lang/invoke/VarHandle" ∧ (parseMethodDescriptor y_Ct_isMacro.desc).map (fun d => d.parameters.length) = some 1 := by decide +kernel
abbrev b_Bk_valueOf : ByteArray := prog_2_method_11_code
def y_Bk_valueOf : MethodName := ⟨R_Bk, "valueOf", "(I)I"⟩
abbrev ws_Bk_valueOf : List Cond := .code y_Bk_valueOf b_Bk_valueOf 2 (some .int) :: TB
theorem p_Bk_valueOf : y_Bk_valueOf.cls = R_Bk ∧ y_Bk_valueOf.cls ≠ "java/lang/invoke/MethodHandle" ∧ y_Bk_valueOf.cls ≠ "java/lang/invoke/VarHandle" ∧ (parseMethodDescriptor y_Bk_valueOf.desc).map (fun d => d.parameters.length) = some 1 := by decide +kernel
abbrev b_Rn_open : ByteArray := prog_4_method_11_code
def y_Rn_open : MethodName := ⟨R_Rn, "open", "(I)V"⟩
abbrev ws_Rn_open : List Cond := .code y_Rn_open b_Rn_open 5 (none : Option Jvm.ClassFile.FieldType) :: TB
theorem p_Rn_open : y_Rn_open.cls = R_Rn ∧ y_Rn_open.cls ≠ "java/lang/invoke/MethodHandle" ∧ y_Rn_open.cls ≠ "java/lang/invoke/VarHandle" ∧ (parseMethodDescriptor y_Rn_open.desc).map (fun d => d.parameters.length) = some 1 := by decide +kernel
abbrev b_Rn_ask : ByteArray := prog_4_method_17_code
def y_Rn_ask : MethodName := ⟨R_Rn, "ask", "(II)I"⟩
abbrev ws_Rn_ask : List Cond := .code y_Rn_ask b_Rn_ask 3 (some .int) :: TB
theorem p_Rn_ask : y_Rn_ask.cls = R_Rn ∧ y_Rn_ask.cls ≠ "java/lang/invoke/MethodHandle" ∧ y_Rn_ask.cls ≠ "java/lang/invoke/VarHandle" ∧ (parseMethodDescriptor y_Rn_ask.desc).map (fun d => d.parameters.length) = some 2 := by decide +kernel
abbrev b_Rn_compareSigns : ByteArray := prog_4_method_18_code
def y_Rn_compareSigns : MethodName := ⟨R_Rn, "compareSigns", "(ZI)I"⟩
abbrev ws_Rn_compareSigns : List Cond := .code y_Rn_compareSigns b_Rn_compareSigns 6 (some .int) :: TB
theorem p_Rn_compareSigns : y_Rn_compareSigns.cls = R_Rn ∧ y_Rn_compareSigns.cls ≠ "java/lang/invoke/MethodHandle" ∧ y_Rn_compareSigns.cls ≠ "java/lang/invoke/VarHandle" ∧ (parseMethodDescriptor y_Rn_compareSigns.desc).map (fun d => d.parameters.length) = some 2 := by decide +kernel
abbrev b_Rn_readSign : ByteArray := prog_4_method_23_code
def y_Rn_readSign : MethodName := ⟨R_Rn, "readSign", "(I)I"⟩
abbrev ws_Rn_readSign : List Cond := .code y_Rn_readSign b_Rn_readSign 3 (some .int) :: TB
theorem p_Rn_readSign : y_Rn_readSign.cls = R_Rn ∧ y_Rn_readSign.cls ≠ "java/lang/invoke/MethodHandle" ∧ y_Rn_readSign.cls ≠ "java/lang/invoke/VarHandle" ∧ (parseMethodDescriptor y_Rn_readSign.desc).map (fun d => d.parameters.length) = some 1 := by decide +kernel
abbrev b_Rn_readGoneOnWith : ByteArray := prog_4_method_24_code
def y_Rn_readGoneOnWith : MethodName := ⟨R_Rn, "readGoneOnWith", "(I)I"⟩
abbrev ws_Rn_readGoneOnWith : List Cond := .code y_Rn_readGoneOnWith b_Rn_readGoneOnWith 4 (some .int) :: TB
theorem p_Rn_readGoneOnWith : y_Rn_readGoneOnWith.cls = R_Rn ∧ y_Rn_readGoneOnWith.cls ≠ "java/lang/invoke/MethodHandle" ∧ y_Rn_readGoneOnWith.cls ≠ "java/lang/invoke/VarHandle" ∧ (parseMethodDescriptor y_Rn_readGoneOnWith.desc).map (fun d => d.parameters.length) = some 1 := by decide +kernel
abbrev b_Rn_lookForMore : ByteArray := prog_4_method_9_code
def y_Rn_lookForMore : MethodName := ⟨R_Rn, "lookForMore", "()I"⟩
abbrev ws_Rn_lookForMore : List Cond := .code y_Rn_lookForMore b_Rn_lookForMore 2 (some .int) :: TB
theorem p_Rn_lookForMore : y_Rn_lookForMore.cls = R_Rn ∧ y_Rn_lookForMore.cls ≠ "java/lang/invoke/MethodHandle" ∧ y_Rn_lookForMore.cls ≠ "java/lang/invoke/VarHandle" ∧ (parseMethodDescriptor y_Rn_lookForMore.desc).map (fun d => d.parameters.length) = some 0 := by decide +kernel
abbrev b_Ct_isMark : ByteArray := prog_1_method_23_code
def y_Ct_isMark : MethodName := ⟨R_Ct, "isMark", "(I)Z"⟩
abbrev ws_Ct_isMark : List Cond := .code y_Ct_isMark b_Ct_isMark 1 (some .boolean) :: TB
theorem p_Ct_isMark : y_Ct_isMark.cls = R_Ct ∧ y_Ct_isMark.cls ≠ "java/lang/invoke/MethodHandle" ∧ y_Ct_isMark.cls ≠ "java/lang/invoke/VarHandle" ∧ (parseMethodDescriptor y_Ct_isMark.desc).map (fun d => d.parameters.length) = some 1 := by decide +kernel
abbrev b_Bk_codeOf : ByteArray := prog_2_method_12_code
def y_Bk_codeOf : MethodName := ⟨R_Bk, "codeOf", "(I)I"⟩
abbrev ws_Bk_codeOf : List Cond := .code y_Bk_codeOf b_Bk_codeOf 2 (some .int) :: TB
theorem p_Bk_codeOf : y_Bk_codeOf.cls = R_Bk ∧ y_Bk_codeOf.cls ≠ "java/lang/invoke/MethodHandle" ∧ y_Bk_codeOf.cls ≠ "java/lang/invoke/VarHandle" ∧ (parseMethodDescriptor y_Bk_codeOf.desc).map (fun d => d.parameters.length) = some 1 := by decide +kernel
abbrev b_Bk_categoryOf : ByteArray := prog_2_method_13_code
def y_Bk_categoryOf : MethodName := ⟨R_Bk, "categoryOf", "(I)I"⟩
abbrev ws_Bk_categoryOf : List Cond := .code y_Bk_categoryOf b_Bk_categoryOf 2 (some .int) :: TB
theorem p_Bk_categoryOf : y_Bk_categoryOf.cls = R_Bk ∧ y_Bk_categoryOf.cls ≠ "java/lang/invoke/MethodHandle" ∧ y_Bk_categoryOf.cls ≠ "java/lang/invoke/VarHandle" ∧ (parseMethodDescriptor y_Bk_categoryOf.desc).map (fun d => d.parameters.length) = some 1 := by decide +kernel
abbrev b_Rn_compareMeanings : ByteArray := prog_4_method_19_code
def y_Rn_compareMeanings : MethodName := ⟨R_Rn, "compareMeanings", "()I"⟩
abbrev ws_Rn_compareMeanings : List Cond := .code y_Rn_compareMeanings b_Rn_compareMeanings 3 (some .int) :: TB
theorem p_Rn_compareMeanings : y_Rn_compareMeanings.cls = R_Rn ∧ y_Rn_compareMeanings.cls ≠ "java/lang/invoke/MethodHandle" ∧ y_Rn_compareMeanings.cls ≠ "java/lang/invoke/VarHandle" ∧ (parseMethodDescriptor y_Rn_compareMeanings.desc).map (fun d => d.parameters.length) = some 0 := by decide +kernel
abbrev b_Bk_meanTheSame : ByteArray := prog_2_method_14_code
def y_Bk_meanTheSame : MethodName := ⟨R_Bk, "meanTheSame", "(II)Z"⟩
abbrev ws_Bk_meanTheSame : List Cond := .code y_Bk_meanTheSame b_Bk_meanTheSame 4 (some .boolean) :: TB
theorem p_Bk_meanTheSame : y_Bk_meanTheSame.cls = R_Bk ∧ y_Bk_meanTheSame.cls ≠ "java/lang/invoke/MethodHandle" ∧ y_Bk_meanTheSame.cls ≠ "java/lang/invoke/VarHandle" ∧ (parseMethodDescriptor y_Bk_meanTheSame.desc).map (fun d => d.parameters.length) = some 2 := by decide +kernel
abbrev b_Bk_haveTheSameTokens : ByteArray := prog_2_method_15_code
def y_Bk_haveTheSameTokens : MethodName := ⟨R_Bk, "haveTheSameTokens", "(II)Z"⟩
abbrev ws_Bk_haveTheSameTokens : List Cond := .code y_Bk_haveTheSameTokens b_Bk_haveTheSameTokens 5 (some .boolean) :: TB
theorem p_Bk_haveTheSameTokens : y_Bk_haveTheSameTokens.cls = R_Bk ∧ y_Bk_haveTheSameTokens.cls ≠ "java/lang/invoke/MethodHandle" ∧ y_Bk_haveTheSameTokens.cls ≠ "java/lang/invoke/VarHandle" ∧ (parseMethodDescriptor y_Bk_haveTheSameTokens.desc).map (fun d => d.parameters.length) = some 2 := by decide +kernel
abbrev b_Rn_compareNumbers : ByteArray := prog_4_method_20_code
def y_Rn_compareNumbers : MethodName := ⟨R_Rn, "compareNumbers", "(I)I"⟩
abbrev ws_Rn_compareNumbers : List Cond := .code y_Rn_compareNumbers b_Rn_compareNumbers 6 (some .int) :: TB
theorem p_Rn_compareNumbers : y_Rn_compareNumbers.cls = R_Rn ∧ y_Rn_compareNumbers.cls ≠ "java/lang/invoke/MethodHandle" ∧ y_Rn_compareNumbers.cls ≠ "java/lang/invoke/VarHandle" ∧ (parseMethodDescriptor y_Rn_compareNumbers.desc).map (fun d => d.parameters.length) = some 1 := by decide +kernel
abbrev b_Rn_readNumber : ByteArray := prog_4_method_25_code
def y_Rn_readNumber : MethodName := ⟨R_Rn, "readNumber", "(I)I"⟩
abbrev ws_Rn_readNumber : List Cond := .code y_Rn_readNumber b_Rn_readNumber 5 (some .int) :: TB
theorem p_Rn_readNumber : y_Rn_readNumber.cls = R_Rn ∧ y_Rn_readNumber.cls ≠ "java/lang/invoke/MethodHandle" ∧ y_Rn_readNumber.cls ≠ "java/lang/invoke/VarHandle" ∧ (parseMethodDescriptor y_Rn_readNumber.desc).map (fun d => d.parameters.length) = some 1 := by decide +kernel
abbrev b_Ct_isDigit : ByteArray := prog_1_method_19_code
def y_Ct_isDigit : MethodName := ⟨R_Ct, "isDigit", "(I)Z"⟩
abbrev ws_Ct_isDigit : List Cond := .code y_Ct_isDigit b_Ct_isDigit 1 (some .boolean) :: TB
theorem p_Ct_isDigit : y_Ct_isDigit.cls = R_Ct ∧ y_Ct_isDigit.cls ≠ "java/lang/invoke/MethodHandle" ∧ y_Ct_isDigit.cls ≠ "java/lang/invoke/VarHandle" ∧ (parseMethodDescriptor y_Ct_isDigit.desc).map (fun d => d.parameters.length) = some 1 := by decide +kernel
abbrev b_Rn_readDigits : ByteArray := prog_4_method_26_code
def y_Rn_readDigits : MethodName := ⟨R_Rn, "readDigits", "(II)I"⟩
abbrev ws_Rn_readDigits : List Cond := .code y_Rn_readDigits b_Rn_readDigits 6 (some .int) :: TB
theorem p_Rn_readDigits : y_Rn_readDigits.cls = R_Rn ∧ y_Rn_readDigits.cls ≠ "java/lang/invoke/MethodHandle" ∧ y_Rn_readDigits.cls ≠ "java/lang/invoke/VarHandle" ∧ (parseMethodDescriptor y_Rn_readDigits.desc).map (fun d => d.parameters.length) = some 2 := by decide +kernel
abbrev b_Ct_isBlank : ByteArray := prog_1_method_21_code
def y_Ct_isBlank : MethodName := ⟨R_Ct, "isBlank", "(I)Z"⟩
abbrev ws_Ct_isBlank : List Cond := .code y_Ct_isBlank b_Ct_isBlank 1 (some .boolean) :: TB
theorem p_Ct_isBlank : y_Ct_isBlank.cls = R_Ct ∧ y_Ct_isBlank.cls ≠ "java/lang/invoke/MethodHandle" ∧ y_Ct_isBlank.cls ≠ "java/lang/invoke/VarHandle" ∧ (parseMethodDescriptor y_Ct_isBlank.desc).map (fun d => d.parameters.length) = some 1 := by decide +kernel
abbrev b_Rd_keep : ByteArray := prog_3_method_5_code
def y_Rd_keep : MethodName := ⟨R_Rd, "keep", "(I)V"⟩
abbrev ws_Rd_keep : List Cond := .code y_Rd_keep b_Rd_keep 2 (none : Option Jvm.ClassFile.FieldType) :: TB
theorem p_Rd_keep : y_Rd_keep.cls = R_Rd ∧ y_Rd_keep.cls ≠ "java/lang/invoke/MethodHandle" ∧ y_Rd_keep.cls ≠ "java/lang/invoke/VarHandle" ∧ (parseMethodDescriptor y_Rd_keep.desc).map (fun d => d.parameters.length) = some 1 := by decide +kernel
abbrev b_Ct_isRelation : ByteArray := prog_1_method_20_code
def y_Ct_isRelation : MethodName := ⟨R_Ct, "isRelation", "(I)Z"⟩
abbrev ws_Ct_isRelation : List Cond := .code y_Ct_isRelation b_Ct_isRelation 1 (some .boolean) :: TB
theorem p_Ct_isRelation : y_Ct_isRelation.cls = R_Ct ∧ y_Ct_isRelation.cls ≠ "java/lang/invoke/MethodHandle" ∧ y_Ct_isRelation.cls ≠ "java/lang/invoke/VarHandle" ∧ (parseMethodDescriptor y_Ct_isRelation.desc).map (fun d => d.parameters.length) = some 1 := by decide +kernel
abbrev b_Rn_askWhetherKnown : ByteArray := prog_4_method_21_code
def y_Rn_askWhetherKnown : MethodName := ⟨R_Rn, "askWhetherKnown", "()I"⟩
abbrev ws_Rn_askWhetherKnown : List Cond := .code y_Rn_askWhetherKnown b_Rn_askWhetherKnown 2 (some .int) :: TB
theorem p_Rn_askWhetherKnown : y_Rn_askWhetherKnown.cls = R_Rn ∧ y_Rn_askWhetherKnown.cls ≠ "java/lang/invoke/MethodHandle" ∧ y_Rn_askWhetherKnown.cls ≠ "java/lang/invoke/VarHandle" ∧ (parseMethodDescriptor y_Rn_askWhetherKnown.desc).map (fun d => d.parameters.length) = some 0 := by decide +kernel
abbrev b_Rn_askWhetherOn : ByteArray := prog_4_method_22_code
def y_Rn_askWhetherOn : MethodName := ⟨R_Rn, "askWhetherOn", "([ZI)I"⟩
abbrev ws_Rn_askWhetherOn : List Cond := .code y_Rn_askWhetherOn b_Rn_askWhetherOn 4 (some .int) :: TB
theorem p_Rn_askWhetherOn : y_Rn_askWhetherOn.cls = R_Rn ∧ y_Rn_askWhetherOn.cls ≠ "java/lang/invoke/MethodHandle" ∧ y_Rn_askWhetherOn.cls ≠ "java/lang/invoke/VarHandle" ∧ (parseMethodDescriptor y_Rn_askWhetherOn.desc).map (fun d => d.parameters.length) = some 2 := by decide +kernel
abbrev b_Rn_decide : ByteArray := prog_4_method_12_code
def y_Rn_decide : MethodName := ⟨R_Rn, "decide", "(III)V"⟩
abbrev ws_Rn_decide : List Cond := .code y_Rn_decide b_Rn_decide 6 (none : Option Jvm.ClassFile.FieldType) :: TB
theorem p_Rn_decide : y_Rn_decide.cls = R_Rn ∧ y_Rn_decide.cls ≠ "java/lang/invoke/MethodHandle" ∧ y_Rn_decide.cls ≠ "java/lang/invoke/VarHandle" ∧ (parseMethodDescriptor y_Rn_decide.desc).map (fun d => d.parameters.length) = some 3 := by decide +kernel
abbrev b_Rn_skip : ByteArray := prog_4_method_16_code
def y_Rn_skip : MethodName := ⟨R_Rn, "skip", "(IZ)V"⟩
abbrev ws_Rn_skip : List Cond := .code y_Rn_skip b_Rn_skip 8 (none : Option Jvm.ClassFile.FieldType) :: TB
theorem p_Rn_skip : y_Rn_skip.cls = R_Rn ∧ y_Rn_skip.cls ≠ "java/lang/invoke/MethodHandle" ∧ y_Rn_skip.cls ≠ "java/lang/invoke/VarHandle" ∧ (parseMethodDescriptor y_Rn_skip.desc).map (fun d => d.parameters.length) = some 2 := by decide +kernel
abbrev b_Rn_isInPlace : ByteArray := prog_4_method_14_code
def y_Rn_isInPlace : MethodName := ⟨R_Rn, "isInPlace", "(I)Z"⟩
abbrev ws_Rn_isInPlace : List Cond := .code y_Rn_isInPlace b_Rn_isInPlace 3 (some .boolean) :: TB
theorem p_Rn_isInPlace : y_Rn_isInPlace.cls = R_Rn ∧ y_Rn_isInPlace.cls ≠ "java/lang/invoke/MethodHandle" ∧ y_Rn_isInPlace.cls ≠ "java/lang/invoke/VarHandle" ∧ (parseMethodDescriptor y_Rn_isInPlace.desc).map (fun d => d.parameters.length) = some 1 := by decide +kernel
abbrev b_Rn_passMark : ByteArray := prog_4_method_15_code
def y_Rn_passMark : MethodName := ⟨R_Rn, "passMark", "(I)V"⟩
abbrev ws_Rn_passMark : List Cond := .code y_Rn_passMark b_Rn_passMark 3 (none : Option Jvm.ClassFile.FieldType) :: TB
theorem p_Rn_passMark : y_Rn_passMark.cls = R_Rn ∧ y_Rn_passMark.cls ≠ "java/lang/invoke/MethodHandle" ∧ y_Rn_passMark.cls ≠ "java/lang/invoke/VarHandle" ∧ (parseMethodDescriptor y_Rn_passMark.desc).map (fun d => d.parameters.length) = some 1 := by decide +kernel
abbrev b_Rn_meetMark : ByteArray := prog_4_method_13_code
def y_Rn_meetMark : MethodName := ⟨R_Rn, "meetMark", "(I)V"⟩
abbrev ws_Rn_meetMark : List Cond := .code y_Rn_meetMark b_Rn_meetMark 2 (none : Option Jvm.ClassFile.FieldType) :: TB
theorem p_Rn_meetMark : y_Rn_meetMark.cls = R_Rn ∧ y_Rn_meetMark.cls ≠ "java/lang/invoke/MethodHandle" ∧ y_Rn_meetMark.cls ≠ "java/lang/invoke/VarHandle" ∧ (parseMethodDescriptor y_Rn_meetMark.desc).map (fun d => d.parameters.length) = some 1 := by decide +kernel
abbrev b_Rn_putOut : ByteArray := prog_4_method_8_code
def y_Rn_putOut : MethodName := ⟨R_Rn, "putOut", "(I)V"⟩
abbrev ws_Rn_putOut : List Cond := .code y_Rn_putOut b_Rn_putOut 2 (none : Option Jvm.ClassFile.FieldType) :: TB
theorem p_Rn_putOut : y_Rn_putOut.cls = R_Rn ∧ y_Rn_putOut.cls ≠ "java/lang/invoke/MethodHandle" ∧ y_Rn_putOut.cls ≠ "java/lang/invoke/VarHandle" ∧ (parseMethodDescriptor y_Rn_putOut.desc).map (fun d => d.parameters.length) = some 1 := by decide +kernel
abbrev b_Ct_at : ByteArray := prog_1_method_9_code
def y_Ct_at : MethodName := ⟨R_Ct, "at", "(I)I"⟩
abbrev ws_Ct_at : List Cond := .code y_Ct_at b_Ct_at 2 (some .int) :: TB
theorem p_Ct_at : y_Ct_at.cls = R_Ct ∧ y_Ct_at.cls ≠ "java/lang/invoke/MethodHandle" ∧ y_Ct_at.cls ≠ "java/lang/invoke/VarHandle" ∧ (parseMethodDescriptor y_Ct_at.desc).map (fun d => d.parameters.length) = some 1 := by decide +kernel
abbrev b_Rn_putOutAt : ByteArray := prog_4_method_3_code
def y_Rn_putOutAt : MethodName := ⟨R_Rn, "putOutAt", "(I)I"⟩
abbrev ws_Rn_putOutAt : List Cond := .code y_Rn_putOutAt b_Rn_putOutAt 2 (some .int) :: TB
theorem p_Rn_putOutAt : y_Rn_putOutAt.cls = R_Rn ∧ y_Rn_putOutAt.cls ≠ "java/lang/invoke/MethodHandle" ∧ y_Rn_putOutAt.cls ≠ "java/lang/invoke/VarHandle" ∧ (parseMethodDescriptor y_Rn_putOutAt.desc).map (fun d => d.parameters.length) = some 1 := by decide +kernel
abbrev b_Ct_told : ByteArray := prog_1_method_10_code
def y_Ct_told : MethodName := ⟨R_Ct, "told", "(I)I"⟩
abbrev ws_Ct_told : List Cond := .code y_Ct_told b_Ct_told 2 (some .int) :: TB
theorem p_Ct_told : y_Ct_told.cls = R_Ct ∧ y_Ct_told.cls ≠ "java/lang/invoke/MethodHandle" ∧ y_Ct_told.cls ≠ "java/lang/invoke/VarHandle" ∧ (parseMethodDescriptor y_Ct_told.desc).map (fun d => d.parameters.length) = some 1 := by decide +kernel
abbrev b_Rn_tell : ByteArray := prog_4_method_5_code
def y_Rn_tell : MethodName := ⟨R_Rn, "tell", "(I)I"⟩
abbrev ws_Rn_tell : List Cond := .code y_Rn_tell b_Rn_tell 2 (some .int) :: TB
theorem p_Rn_tell : y_Rn_tell.cls = R_Rn ∧ y_Rn_tell.cls ≠ "java/lang/invoke/MethodHandle" ∧ y_Rn_tell.cls ≠ "java/lang/invoke/VarHandle" ∧ (parseMethodDescriptor y_Rn_tell.desc).map (fun d => d.parameters.length) = some 1 := by decide +kernel
abbrev b_Rd_stepsMade : ByteArray := prog_3_method_6_code
def y_Rd_stepsMade : MethodName := ⟨R_Rd, "stepsMade", "()I"⟩
abbrev ws_Rd_stepsMade : List Cond := .code y_Rd_stepsMade b_Rd_stepsMade 1 (some .int) :: TB
theorem p_Rd_stepsMade : y_Rd_stepsMade.cls = R_Rd ∧ y_Rd_stepsMade.cls ≠ "java/lang/invoke/MethodHandle" ∧ y_Rd_stepsMade.cls ≠ "java/lang/invoke/VarHandle" ∧ (parseMethodDescriptor y_Rd_stepsMade.desc).map (fun d => d.parameters.length) = some 0 := by decide +kernel
abbrev b_Ct_decided : ByteArray := prog_1_method_11_code
def y_Ct_decided : MethodName := ⟨R_Ct, "decided", "(I)I"⟩
abbrev ws_Ct_decided : List Cond := .code y_Ct_decided b_Ct_decided 2 (some .int) :: TB
theorem p_Ct_decided : y_Ct_decided.cls = R_Ct ∧ y_Ct_decided.cls ≠ "java/lang/invoke/MethodHandle" ∧ y_Ct_decided.cls ≠ "java/lang/invoke/VarHandle" ∧ (parseMethodDescriptor y_Ct_decided.desc).map (fun d => d.parameters.length) = some 1 := by decide +kernel
abbrev b_Rn_decisionOf : ByteArray := prog_4_method_4_code
def y_Rn_decisionOf : MethodName := ⟨R_Rn, "decisionOf", "(I)I"⟩
abbrev ws_Rn_decisionOf : List Cond := .code y_Rn_decisionOf b_Rn_decisionOf 2 (some .int) :: TB
theorem p_Rn_decisionOf : y_Rn_decisionOf.cls = R_Rn ∧ y_Rn_decisionOf.cls ≠ "java/lang/invoke/MethodHandle" ∧ y_Rn_decisionOf.cls ≠ "java/lang/invoke/VarHandle" ∧ (parseMethodDescriptor y_Rn_decisionOf.desc).map (fun d => d.parameters.length) = some 1 := by decide +kernel
abbrev b_Ct_same : ByteArray := prog_1_method_12_code
def y_Ct_same : MethodName := ⟨R_Ct, "same", "(II)Z"⟩
abbrev ws_Ct_same : List Cond := .code y_Ct_same b_Ct_same 3 (some .boolean) :: TB
theorem p_Ct_same : y_Ct_same.cls = R_Ct ∧ y_Ct_same.cls ≠ "java/lang/invoke/MethodHandle" ∧ y_Ct_same.cls ≠ "java/lang/invoke/VarHandle" ∧ (parseMethodDescriptor y_Ct_same.desc).map (fun d => d.parameters.length) = some 2 := by decide +kernel
abbrev b_Ct_count : ByteArray := prog_1_method_13_code
def y_Ct_count : MethodName := ⟨R_Ct, "count", "(I)I"⟩
abbrev ws_Ct_count : List Cond := .code y_Ct_count b_Ct_count 2 (some .int) :: TB
theorem p_Ct_count : y_Ct_count.cls = R_Ct ∧ y_Ct_count.cls ≠ "java/lang/invoke/MethodHandle" ∧ y_Ct_count.cls ≠ "java/lang/invoke/VarHandle" ∧ (parseMethodDescriptor y_Ct_count.desc).map (fun d => d.parameters.length) = some 1 := by decide +kernel
abbrev b_Bk_tokensOfBodies : ByteArray := prog_2_method_8_code
def y_Bk_tokensOfBodies : MethodName := ⟨R_Bk, "tokensOfBodies", "()I"⟩
abbrev ws_Bk_tokensOfBodies : List Cond := .code y_Bk_tokensOfBodies b_Bk_tokensOfBodies 3 (some .int) :: TB
theorem p_Bk_tokensOfBodies : y_Bk_tokensOfBodies.cls = R_Bk ∧ y_Bk_tokensOfBodies.cls ≠ "java/lang/invoke/MethodHandle" ∧ y_Bk_tokensOfBodies.cls ≠ "java/lang/invoke/VarHandle" ∧ (parseMethodDescriptor y_Bk_tokensOfBodies.desc).map (fun d => d.parameters.length) = some 0 := by decide +kernel
abbrev b_Md_init : ByteArray := prog_6_method_1_code
def y_Md_init : MethodName := ⟨R_Md, "<init>", "()V"⟩
abbrev ws_Md_init : List Cond := .code y_Md_init b_Md_init 1 (none : Option Jvm.ClassFile.FieldType) :: TB
theorem p_Md_init : y_Md_init.cls = R_Md ∧ y_Md_init.cls ≠ "java/lang/invoke/MethodHandle" ∧ y_Md_init.cls ≠ "java/lang/invoke/VarHandle" ∧ (parseMethodDescriptor y_Md_init.desc).map (fun d => d.parameters.length) = some 0 := by decide +kernel
abbrev b_Md_meaning : ByteArray := prog_6_method_5_code
def y_Md_meaning : MethodName := ⟨R_Md, "meaning", "(III)I"⟩
abbrev ws_Md_meaning : List Cond := .code y_Md_meaning b_Md_meaning 5 (some .int) :: TB
theorem p_Md_meaning : y_Md_meaning.cls = R_Md ∧ y_Md_meaning.cls ≠ "java/lang/invoke/MethodHandle" ∧ y_Md_meaning.cls ≠ "java/lang/invoke/VarHandle" ∧ (parseMethodDescriptor y_Md_meaning.desc).map (fun d => d.parameters.length) = some 3 := by decide +kernel
abbrev b_Md_in : ByteArray := prog_6_method_3_code
def y_Md_in : MethodName := ⟨R_Md, "in", "(III)Z"⟩
abbrev ws_Md_in : List Cond := .code y_Md_in b_Md_in 3 (some .boolean) :: TB
theorem p_Md_in : y_Md_in.cls = R_Md ∧ y_Md_in.cls ≠ "java/lang/invoke/MethodHandle" ∧ y_Md_in.cls ≠ "java/lang/invoke/VarHandle" ∧ (parseMethodDescriptor y_Md_in.desc).map (fun d => d.parameters.length) = some 3 := by decide +kernel
abbrev b_Md_body : ByteArray := prog_6_method_6_code
def y_Md_body : MethodName := ⟨R_Md, "body", "()I"⟩
abbrev ws_Md_body : List Cond := .code y_Md_body b_Md_body 1 (some .int) :: TB
theorem p_Md_body : y_Md_body.cls = R_Md ∧ y_Md_body.cls ≠ "java/lang/invoke/MethodHandle" ∧ y_Md_body.cls ≠ "java/lang/invoke/VarHandle" ∧ (parseMethodDescriptor y_Md_body.desc).map (fun d => d.parameters.length) = some 0 := by decide +kernel
abbrev b_Md_token : ByteArray := prog_6_method_7_code
def y_Md_token : MethodName := ⟨R_Md, "token", "(II)I"⟩
abbrev ws_Md_token : List Cond := .code y_Md_token b_Md_token 4 (some .int) :: TB
theorem p_Md_token : y_Md_token.cls = R_Md ∧ y_Md_token.cls ≠ "java/lang/invoke/MethodHandle" ∧ y_Md_token.cls ≠ "java/lang/invoke/VarHandle" ∧ (parseMethodDescriptor y_Md_token.desc).map (fun d => d.parameters.length) = some 2 := by decide +kernel
abbrev b_Md_isToken : ByteArray := prog_6_method_4_code
def y_Md_isToken : MethodName := ⟨R_Md, "isToken", "(I)Z"⟩
abbrev ws_Md_isToken : List Cond := .code y_Md_isToken b_Md_isToken 1 (some .boolean) :: TB
theorem p_Md_isToken : y_Md_isToken.cls = R_Md ∧ y_Md_isToken.cls ≠ "java/lang/invoke/MethodHandle" ∧ y_Md_isToken.cls ≠ "java/lang/invoke/VarHandle" ∧ (parseMethodDescriptor y_Md_isToken.desc).map (fun d => d.parameters.length) = some 1 := by decide +kernel
abbrev b_Md_clear : ByteArray := prog_6_method_8_code
def y_Md_clear : MethodName := ⟨R_Md, "clear", "()I"⟩
abbrev ws_Md_clear : List Cond := .code y_Md_clear b_Md_clear 2 (some .int) :: TB
theorem p_Md_clear : y_Md_clear.cls = R_Md ∧ y_Md_clear.cls ≠ "java/lang/invoke/MethodHandle" ∧ y_Md_clear.cls ≠ "java/lang/invoke/VarHandle" ∧ (parseMethodDescriptor y_Md_clear.desc).map (fun d => d.parameters.length) = some 0 := by decide +kernel
abbrev b_Md_mode : ByteArray := prog_6_method_9_code
def y_Md_mode : MethodName := ⟨R_Md, "mode", "(IZ)I"⟩
abbrev ws_Md_mode : List Cond := .code y_Md_mode b_Md_mode 3 (some .int) :: TB
theorem p_Md_mode : y_Md_mode.cls = R_Md ∧ y_Md_mode.cls ≠ "java/lang/invoke/MethodHandle" ∧ y_Md_mode.cls ≠ "java/lang/invoke/VarHandle" ∧ (parseMethodDescriptor y_Md_mode.desc).map (fun d => d.parameters.length) = some 2 := by decide +kernel
abbrev b_Md_end : ByteArray := prog_6_method_10_code
def y_Md_end : MethodName := ⟨R_Md, "end", "(IZ)I"⟩
abbrev ws_Md_end : List Cond := .code y_Md_end b_Md_end 3 (some .int) :: TB
theorem p_Md_end : y_Md_end.cls = R_Md ∧ y_Md_end.cls ≠ "java/lang/invoke/MethodHandle" ∧ y_Md_end.cls ≠ "java/lang/invoke/VarHandle" ∧ (parseMethodDescriptor y_Md_end.desc).map (fun d => d.parameters.length) = some 2 := by decide +kernel
abbrev b_Md_same : ByteArray := prog_6_method_14_code
def y_Md_same : MethodName := ⟨R_Md, "same", "(II)Z"⟩
abbrev ws_Md_same : List Cond := .code y_Md_same b_Md_same 3 (some .boolean) :: TB
theorem p_Md_same : y_Md_same.cls = R_Md ∧ y_Md_same.cls ≠ "java/lang/invoke/MethodHandle" ∧ y_Md_same.cls ≠ "java/lang/invoke/VarHandle" ∧ (parseMethodDescriptor y_Md_same.desc).map (fun d => d.parameters.length) = some 2 := by decide +kernel
abbrev b_Md_areSame : ByteArray := prog_6_method_13_code
def y_Md_areSame : MethodName := ⟨R_Md, "areSame", "(II)Z"⟩
abbrev ws_Md_areSame : List Cond := .code y_Md_areSame b_Md_areSame 8 (some .boolean) :: TB
theorem p_Md_areSame : y_Md_areSame.cls = R_Md ∧ y_Md_areSame.cls ≠ "java/lang/invoke/MethodHandle" ∧ y_Md_areSame.cls ≠ "java/lang/invoke/VarHandle" ∧ (parseMethodDescriptor y_Md_areSame.desc).map (fun d => d.parameters.length) = some 2 := by decide +kernel
abbrev b_Md_kindOf : ByteArray := prog_6_method_11_code
def y_Md_kindOf : MethodName := ⟨R_Md, "kindOf", "(I)I"⟩
abbrev ws_Md_kindOf : List Cond := .code y_Md_kindOf b_Md_kindOf 2 (some .int) :: TB
theorem p_Md_kindOf : y_Md_kindOf.cls = R_Md ∧ y_Md_kindOf.cls ≠ "java/lang/invoke/MethodHandle" ∧ y_Md_kindOf.cls ≠ "java/lang/invoke/VarHandle" ∧ (parseMethodDescriptor y_Md_kindOf.desc).map (fun d => d.parameters.length) = some 1 := by decide +kernel
abbrev b_Md_valueOf : ByteArray := prog_6_method_12_code
def y_Md_valueOf : MethodName := ⟨R_Md, "valueOf", "(I)I"⟩
abbrev ws_Md_valueOf : List Cond := .code y_Md_valueOf b_Md_valueOf 2 (some .int) :: TB
theorem p_Md_valueOf : y_Md_valueOf.cls = R_Md ∧ y_Md_valueOf.cls ≠ "java/lang/invoke/MethodHandle" ∧ y_Md_valueOf.cls ≠ "java/lang/invoke/VarHandle" ∧ (parseMethodDescriptor y_Md_valueOf.desc).map (fun d => d.parameters.length) = some 1 := by decide +kernel
abbrev b_Md_run : ByteArray := prog_6_method_32_code
def y_Md_run : MethodName := ⟨R_Md, "run", "()I"⟩
abbrev ws_Md_run : List Cond := .code y_Md_run b_Md_run 3 (some .int) :: TB
theorem p_Md_run : y_Md_run.cls = R_Md ∧ y_Md_run.cls ≠ "java/lang/invoke/MethodHandle" ∧ y_Md_run.cls ≠ "java/lang/invoke/VarHandle" ∧ (parseMethodDescriptor y_Md_run.desc).map (fun d => d.parameters.length) = some 0 := by decide +kernel
abbrev b_Md_next : ByteArray := prog_6_method_16_code
def y_Md_next : MethodName := ⟨R_Md, "next", "()I"⟩
abbrev ws_Md_next : List Cond := .code y_Md_next b_Md_next 2 (some .int) :: TB
theorem p_Md_next : y_Md_next.cls = R_Md ∧ y_Md_next.cls ≠ "java/lang/invoke/MethodHandle" ∧ y_Md_next.cls ≠ "java/lang/invoke/VarHandle" ∧ (parseMethodDescriptor y_Md_next.desc).map (fun d => d.parameters.length) = some 0 := by decide +kernel
abbrev b_Md_fail : ByteArray := prog_6_method_15_code
def y_Md_fail : MethodName := ⟨R_Md, "fail", "(I)V"⟩
abbrev ws_Md_fail : List Cond := .code y_Md_fail b_Md_fail 2 (none : Option Jvm.ClassFile.FieldType) :: TB
theorem p_Md_fail : y_Md_fail.cls = R_Md ∧ y_Md_fail.cls ≠ "java/lang/invoke/MethodHandle" ∧ y_Md_fail.cls ≠ "java/lang/invoke/VarHandle" ∧ (parseMethodDescriptor y_Md_fail.desc).map (fun d => d.parameters.length) = some 1 := by decide +kernel
abbrev b_Md_isMacro : ByteArray := prog_6_method_19_code
def y_Md_isMacro : MethodName := ⟨R_Md, "isMacro", "(I)Z"⟩
abbrev ws_Md_isMacro : List Cond := .code y_Md_isMacro b_Md_isMacro 2 (some .boolean) :: TB
theorem p_Md_isMacro : y_Md_isMacro.cls = R_Md ∧ y_Md_isMacro.cls ≠ "java/lang/invoke/MethodHandle" ∧ y_Md_isMacro.cls ≠ "java/lang/invoke/VarHandle" ∧ (parseMethodDescriptor y_Md_isMacro.desc).map (fun d => d.parameters.length) = some 1 := by decide +kernel
abbrev b_Md_goOnWith : ByteArray := prog_6_method_18_code
def y_Md_goOnWith : MethodName := ⟨R_Md, "goOnWith", "(I)V"⟩
abbrev ws_Md_goOnWith : List Cond := .code y_Md_goOnWith b_Md_goOnWith 2 (none : Option Jvm.ClassFile.FieldType) :: TB
theorem p_Md_goOnWith : y_Md_goOnWith.cls = R_Md ∧ y_Md_goOnWith.cls ≠ "java/lang/invoke/MethodHandle" ∧ y_Md_goOnWith.cls ≠ "java/lang/invoke/VarHandle" ∧ (parseMethodDescriptor y_Md_goOnWith.desc).map (fun d => d.parameters.length) = some 1 := by decide +kernel
abbrev b_Md_open : ByteArray := prog_6_method_29_code
def y_Md_open : MethodName := ⟨R_Md, "open", "(I)V"⟩
abbrev ws_Md_open : List Cond := .code y_Md_open b_Md_open 6 (none : Option Jvm.ClassFile.FieldType) :: TB
theorem p_Md_open : y_Md_open.cls = R_Md ∧ y_Md_open.cls ≠ "java/lang/invoke/MethodHandle" ∧ y_Md_open.cls ≠ "java/lang/invoke/VarHandle" ∧ (parseMethodDescriptor y_Md_open.desc).map (fun d => d.parameters.length) = some 1 := by decide +kernel
abbrev b_Md_answer : ByteArray := prog_6_method_27_code
def y_Md_answer : MethodName := ⟨R_Md, "answer", "(II)I"⟩
abbrev ws_Md_answer : List Cond := .code y_Md_answer b_Md_answer 6 (some .int) :: TB
theorem p_Md_answer : y_Md_answer.cls = R_Md ∧ y_Md_answer.cls ≠ "java/lang/invoke/MethodHandle" ∧ y_Md_answer.cls ≠ "java/lang/invoke/VarHandle" ∧ (parseMethodDescriptor y_Md_answer.desc).map (fun d => d.parameters.length) = some 2 := by decide +kernel
abbrev b_Md_askedToken : ByteArray := prog_6_method_21_code
def y_Md_askedToken : MethodName := ⟨R_Md, "askedToken", "(I)I"⟩
abbrev ws_Md_askedToken : List Cond := .code y_Md_askedToken b_Md_askedToken 3 (some .int) :: TB
theorem p_Md_askedToken : y_Md_askedToken.cls = R_Md ∧ y_Md_askedToken.cls ≠ "java/lang/invoke/MethodHandle" ∧ y_Md_askedToken.cls ≠ "java/lang/invoke/VarHandle" ∧ (parseMethodDescriptor y_Md_askedToken.desc).map (fun d => d.parameters.length) = some 1 := by decide +kernel
abbrev b_Md_asked : ByteArray := prog_6_method_20_code
def y_Md_asked : MethodName := ⟨R_Md, "asked", "(I)I"⟩
abbrev ws_Md_asked : List Cond := .code y_Md_asked b_Md_asked 5 (some .int) :: TB
theorem p_Md_asked : y_Md_asked.cls = R_Md ∧ y_Md_asked.cls ≠ "java/lang/invoke/MethodHandle" ∧ y_Md_asked.cls ≠ "java/lang/invoke/VarHandle" ∧ (parseMethodDescriptor y_Md_asked.desc).map (fun d => d.parameters.length) = some 1 := by decide +kernel
abbrev b_Md_need : ByteArray := prog_6_method_17_code
def y_Md_need : MethodName := ⟨R_Md, "need", "()I"⟩
abbrev ws_Md_need : List Cond := .code y_Md_need b_Md_need 2 (some .int) :: TB
theorem p_Md_need : y_Md_need.cls = R_Md ∧ y_Md_need.cls ≠ "java/lang/invoke/MethodHandle" ∧ y_Md_need.cls ≠ "java/lang/invoke/VarHandle" ∧ (parseMethodDescriptor y_Md_need.desc).map (fun d => d.parameters.length) = some 0 := by decide +kernel
abbrev b_Md_belongs : ByteArray := prog_6_method_31_code
def y_Md_belongs : MethodName := ⟨R_Md, "belongs", "(I)V"⟩
abbrev ws_Md_belongs : List Cond := .code y_Md_belongs b_Md_belongs 3 (none : Option Jvm.ClassFile.FieldType) :: TB
theorem p_Md_belongs : y_Md_belongs.cls = R_Md ∧ y_Md_belongs.cls ≠ "java/lang/invoke/MethodHandle" ∧ y_Md_belongs.cls ≠ "java/lang/invoke/VarHandle" ∧ (parseMethodDescriptor y_Md_belongs.desc).map (fun d => d.parameters.length) = some 1 := by decide +kernel
abbrev b_Md_skip : ByteArray := prog_6_method_30_code
def y_Md_skip : MethodName := ⟨R_Md, "skip", "(ZZI)V"⟩
abbrev ws_Md_skip : List Cond := .code y_Md_skip b_Md_skip 9 (none : Option Jvm.ClassFile.FieldType) :: TB
theorem p_Md_skip : y_Md_skip.cls = R_Md ∧ y_Md_skip.cls ≠ "java/lang/invoke/MethodHandle" ∧ y_Md_skip.cls ≠ "java/lang/invoke/VarHandle" ∧ (parseMethodDescriptor y_Md_skip.desc).map (fun d => d.parameters.length) = some 3 := by decide +kernel
abbrev b_Md_code : ByteArray := prog_6_method_25_code
def y_Md_code : MethodName := ⟨R_Md, "code", "(I)I"⟩
abbrev ws_Md_code : List Cond := .code y_Md_code b_Md_code 2 (some .int) :: TB
theorem p_Md_code : y_Md_code.cls = R_Md ∧ y_Md_code.cls ≠ "java/lang/invoke/MethodHandle" ∧ y_Md_code.cls ≠ "java/lang/invoke/VarHandle" ∧ (parseMethodDescriptor y_Md_code.desc).map (fun d => d.parameters.length) = some 1 := by decide +kernel
abbrev b_Md_category : ByteArray := prog_6_method_26_code
def y_Md_category : MethodName := ⟨R_Md, "category", "(I)I"⟩
abbrev ws_Md_category : List Cond := .code y_Md_category b_Md_category 2 (some .int) :: TB
theorem p_Md_category : y_Md_category.cls = R_Md ∧ y_Md_category.cls ≠ "java/lang/invoke/MethodHandle" ∧ y_Md_category.cls ≠ "java/lang/invoke/VarHandle" ∧ (parseMethodDescriptor y_Md_category.desc).map (fun d => d.parameters.length) = some 1 := by decide +kernel
abbrev b_Md_yes : ByteArray := prog_6_method_28_code
def y_Md_yes : MethodName := ⟨R_Md, "yes", "(Z)I"⟩
abbrev ws_Md_yes : List Cond := .code y_Md_yes b_Md_yes 1 (some .int) :: TB
theorem p_Md_yes : y_Md_yes.cls = R_Md ∧ y_Md_yes.cls ≠ "java/lang/invoke/MethodHandle" ∧ y_Md_yes.cls ≠ "java/lang/invoke/VarHandle" ∧ (parseMethodDescriptor y_Md_yes.desc).map (fun d => d.parameters.length) = some 1 := by decide +kernel
abbrev b_Md_number : ByteArray := prog_6_method_24_code
def y_Md_number : MethodName := ⟨R_Md, "number", "(I)I"⟩
abbrev ws_Md_number : List Cond := .code y_Md_number b_Md_number 6 (some .int) :: TB
theorem p_Md_number : y_Md_number.cls = R_Md ∧ y_Md_number.cls ≠ "java/lang/invoke/MethodHandle" ∧ y_Md_number.cls ≠ "java/lang/invoke/VarHandle" ∧ (parseMethodDescriptor y_Md_number.desc).map (fun d => d.parameters.length) = some 1 := by decide +kernel
abbrev b_Md_isSignOf : ByteArray := prog_6_method_22_code
def y_Md_isSignOf : MethodName := ⟨R_Md, "isSignOf", "(III)Z"⟩
abbrev ws_Md_isSignOf : List Cond := .code y_Md_isSignOf b_Md_isSignOf 4 (some .boolean) :: TB
theorem p_Md_isSignOf : y_Md_isSignOf.cls = R_Md ∧ y_Md_isSignOf.cls ≠ "java/lang/invoke/MethodHandle" ∧ y_Md_isSignOf.cls ≠ "java/lang/invoke/VarHandle" ∧ (parseMethodDescriptor y_Md_isSignOf.desc).map (fun d => d.parameters.length) = some 3 := by decide +kernel
abbrev b_Md_isDigit : ByteArray := prog_6_method_23_code
def y_Md_isDigit : MethodName := ⟨R_Md, "isDigit", "(I)Z"⟩
abbrev ws_Md_isDigit : List Cond := .code y_Md_isDigit b_Md_isDigit 2 (some .boolean) :: TB
theorem p_Md_isDigit : y_Md_isDigit.cls = R_Md ∧ y_Md_isDigit.cls ≠ "java/lang/invoke/MethodHandle" ∧ y_Md_isDigit.cls ≠ "java/lang/invoke/VarHandle" ∧ (parseMethodDescriptor y_Md_isDigit.desc).map (fun d => d.parameters.length) = some 1 := by decide +kernel
abbrev b_Md_at : ByteArray := prog_6_method_33_code
def y_Md_at : MethodName := ⟨R_Md, "at", "(I)I"⟩
abbrev ws_Md_at : List Cond := .code y_Md_at b_Md_at 2 (some .int) :: TB
theorem p_Md_at : y_Md_at.cls = R_Md ∧ y_Md_at.cls ≠ "java/lang/invoke/MethodHandle" ∧ y_Md_at.cls ≠ "java/lang/invoke/VarHandle" ∧ (parseMethodDescriptor y_Md_at.desc).map (fun d => d.parameters.length) = some 1 := by decide +kernel
abbrev b_Md_told : ByteArray := prog_6_method_34_code
def y_Md_told : MethodName := ⟨R_Md, "told", "(I)I"⟩
abbrev ws_Md_told : List Cond := .code y_Md_told b_Md_told 2 (some .int) :: TB
theorem p_Md_told : y_Md_told.cls = R_Md ∧ y_Md_told.cls ≠ "java/lang/invoke/MethodHandle" ∧ y_Md_told.cls ≠ "java/lang/invoke/VarHandle" ∧ (parseMethodDescriptor y_Md_told.desc).map (fun d => d.parameters.length) = some 1 := by decide +kernel
abbrev b_Md_decided : ByteArray := prog_6_method_35_code
def y_Md_decided : MethodName := ⟨R_Md, "decided", "(I)I"⟩
abbrev ws_Md_decided : List Cond := .code y_Md_decided b_Md_decided 2 (some .int) :: TB
theorem p_Md_decided : y_Md_decided.cls = R_Md ∧ y_Md_decided.cls ≠ "java/lang/invoke/MethodHandle" ∧ y_Md_decided.cls ≠ "java/lang/invoke/VarHandle" ∧ (parseMethodDescriptor y_Md_decided.desc).map (fun d => d.parameters.length) = some 1 := by decide +kernel
abbrev b_Md_count : ByteArray := prog_6_method_36_code
def y_Md_count : MethodName := ⟨R_Md, "count", "(I)I"⟩
abbrev ws_Md_count : List Cond := .code y_Md_count b_Md_count 4 (some .int) :: TB
theorem p_Md_count : y_Md_count.cls = R_Md ∧ y_Md_count.cls ≠ "java/lang/invoke/MethodHandle" ∧ y_Md_count.cls ≠ "java/lang/invoke/VarHandle" ∧ (parseMethodDescriptor y_Md_count.desc).map (fun d => d.parameters.length) = some 1 := by decide +kernel
def nestL : List (String × Nat × MethodName × String) := [(R_Bk, 39, y_Ct_isName, R_Ct), (R_Rn, 98, y_Ct_isMacro, R_Ct), (R_Rn, 94, y_Ct_isMark, R_Ct), (R_Bk, 49, y_Ct_isMacro, R_Ct), (R_Rn, 183, y_Ct_isDigit, R_Ct), (R_Rn, 189, y_Ct_isBlank, R_Ct), (R_Rn, 177, y_Ct_isRelation, R_Ct)]
theorem nest_0 : (R_Bk, 39, y_Ct_isName, R_Ct) ∈ nestL := List.mem_of_getElem? (i := 0) rfl
theorem nest_1 : (R_Rn, 98, y_Ct_isMacro, R_Ct) ∈ nestL := List.mem_of_getElem? (i := 1) rfl
theorem nest_2 : (R_Rn, 94, y_Ct_isMark, R_Ct) ∈ nestL := List.mem_of_getElem? (i := 2) rfl
theorem nest_3 : (R_Bk, 49, y_Ct_isMacro, R_Ct) ∈ nestL := List.mem_of_getElem? (i := 3) rfl
theorem nest_4 : (R_Rn, 183, y_Ct_isDigit, R_Ct) ∈ nestL := List.mem_of_getElem? (i := 4) rfl
theorem nest_5 : (R_Rn, 189, y_Ct_isBlank, R_Ct) ∈ nestL := List.mem_of_getElem? (i := 5) rfl
theorem nest_6 : (R_Rn, 177, y_Ct_isRelation, R_Ct) ∈ nestL := List.mem_of_getElem? (i := 6) rfl
