def lw_g : List Cond := lw_tbl.filter goodWord
theorem lw_gin : ∀ w ∈ lw_g, w ∈ lw_tbl := fun _ h => (List.mem_filter.mp h).1
theorem jw {w : Cond} (i : Nat) (h : lw_tbl[i]? = some w) (g : goodWord w = true) : w ∈ lw_g := List.mem_filter.mpr ⟨List.mem_of_getElem? h, g⟩
def RX0 : String := "WordUnit"
def TX0 : u_T := fun k => match k with
  | 0 => ("WordUnit", "memory", "[I", true)
  | 1 => ("WordUnit", "registers", "[I", true)
  | 2 => ("WordUnit", "pc", "I", false)
  | 3 => ("WordUnit", "lastException", "I", false)
  | 4 => ("WordUnit", "lastValue", "I", false)
  | _ => ("WordUnit", "doneInAll", "I", false)
def tyX0 : Nat → FieldType := fun k => match k with
  | 0 => .array .int
  | 1 => .array .int
  | 2 => .int
  | 3 => .int
  | 4 => .int
  | _ => .int
theorem nmX0 : ∀ a, a < 6 → ∀ b, b < 6 → a ≠ b → (TX0 a).2.1 ≠ (TX0 b).2.1 := by decide +kernel
theorem tyX0_ok : ∀ k, k < 6 → parseFieldDescriptor (TX0 k).2.2.1 = some (tyX0 k) := by decide +kernel
theorem inX0 : ∀ w ∈ u_ws RX0 TX0 6, w ∈ lw_g := by decide +kernel
def RX1 : String := "WordUnitModel"
def TX1 : u_T := fun k => match k with
  | 0 => ("WordUnitModel", "memory", "[I", true)
  | 1 => ("WordUnitModel", "x", "[I", true)
  | 2 => ("WordUnitModel", "pc", "I", false)
  | 3 => ("WordUnitModel", "exception", "I", false)
  | 4 => ("WordUnitModel", "value", "I", false)
  | 5 => ("WordUnitModel", "done", "I", false)
  | _ => ("WordUnitModel", "thrown", "I", false)
def tyX1 : Nat → FieldType := fun k => match k with
  | 0 => .array .int
  | 1 => .array .int
  | 2 => .int
  | 3 => .int
  | 4 => .int
  | 5 => .int
  | _ => .int
theorem nmX1 : ∀ a, a < 7 → ∀ b, b < 7 → a ≠ b → (TX1 a).2.1 ≠ (TX1 b).2.1 := by decide +kernel
theorem tyX1_ok : ∀ k, k < 7 → parseFieldDescriptor (TX1 k).2.2.1 = some (tyX1 k) := by decide +kernel
theorem inX1 : ∀ w ∈ u_ws RX1 TX1 7, w ∈ lw_g := by decide +kernel
abbrev cX0_init : ByteArray := prog_1_method_1_code
def yX0_init : MethodName := ⟨RX0, "<init>", "()V"⟩
def wsX0_init : List Cond := .code yX0_init cX0_init 1 none :: lw_g
abbrev cX0_poke : ByteArray := prog_1_method_2_code
def yX0_poke : MethodName := ⟨RX0, "poke", "(IIIIII)I"⟩
def wsX0_poke : List Cond := .code yX0_poke cX0_poke 7 (some .int) :: lw_g
abbrev cX0_word : ByteArray := prog_1_method_3_code
def yX0_word : MethodName := ⟨RX0, "word", "(I)I"⟩
def wsX0_word : List Cond := .code yX0_word cX0_word 2 (some .int) :: lw_g
abbrev cX0_put : ByteArray := prog_1_method_4_code
def yX0_put : MethodName := ⟨RX0, "put", "(II)I"⟩
def wsX0_put : List Cond := .code yX0_put cX0_put 4 (some .int) :: lw_g
abbrev cX0_get : ByteArray := prog_1_method_5_code
def yX0_get : MethodName := ⟨RX0, "get", "(I)I"⟩
def wsX0_get : List Cond := .code yX0_get cX0_get 2 (some .int) :: lw_g
abbrev cX0_go : ByteArray := prog_1_method_6_code
def yX0_go : MethodName := ⟨RX0, "go", "(I)I"⟩
def wsX0_go : List Cond := .code yX0_go cX0_go 2 (some .int) :: lw_g
abbrev cX0_step : ByteArray := prog_1_method_7_code
def yX0_step : MethodName := ⟨RX0, "step", "()I"⟩
def wsX0_step : List Cond := .code yX0_step cX0_step 1 (some .int) :: lw_g
abbrev cX0_run : ByteArray := prog_1_method_8_code
def yX0_run : MethodName := ⟨RX0, "run", "(I)I"⟩
def wsX0_run : List Cond := .code yX0_run cX0_run 3 (some .int) :: lw_g
abbrev cX0_doWord : ByteArray := prog_1_method_9_code
def yX0_doWord : MethodName := ⟨RX0, "doWord", "(I)I"⟩
def wsX0_doWord : List Cond := .code yX0_doWord cX0_doWord 2 (some .int) :: lw_g
abbrev cX0_told : ByteArray := prog_1_method_10_code
def yX0_told : MethodName := ⟨RX0, "told", "(I)I"⟩
def wsX0_told : List Cond := .code yX0_told cX0_told 2 (some .int) :: lw_g
abbrev cX0_field : ByteArray := prog_1_method_11_code
def yX0_field : MethodName := ⟨RX0, "field", "(II)I"⟩
def wsX0_field : List Cond := .code yX0_field cX0_field 3 (some .int) :: lw_g
abbrev cX0_reckon : ByteArray := prog_1_method_12_code
def yX0_reckon : MethodName := ⟨RX0, "reckon", "(III)I"⟩
def wsX0_reckon : List Cond := .code yX0_reckon cX0_reckon 4 (some .int) :: lw_g
abbrev cX0_doStep : ByteArray := prog_1_method_13_code
def yX0_doStep : MethodName := ⟨RX0, "doStep", "()I"⟩
def wsX0_doStep : List Cond := .code yX0_doStep cX0_doStep 1 (some .int) :: lw_g
abbrev cX0_perform : ByteArray := prog_1_method_14_code
def yX0_perform : MethodName := ⟨RX0, "perform", "(I)I"⟩
def wsX0_perform : List Cond := .code yX0_perform cX0_perform 2 (some .int) :: lw_g
abbrev cX0_finish : ByteArray := prog_1_method_15_code
def yX0_finish : MethodName := ⟨RX0, "finish", "(I)I"⟩
def wsX0_finish : List Cond := .code yX0_finish cX0_finish 2 (some .int) :: lw_g
abbrev cX0_tell : ByteArray := prog_1_method_16_code
def yX0_tell : MethodName := ⟨RX0, "tell", "(II)I"⟩
def wsX0_tell : List Cond := .code yX0_tell cX0_tell 3 (some .int) :: lw_g
abbrev cX0_jump : ByteArray := prog_1_method_17_code
def yX0_jump : MethodName := ⟨RX0, "jump", "(II)I"⟩
def wsX0_jump : List Cond := .code yX0_jump cX0_jump 3 (some .int) :: lw_g
abbrev cX0_branch : ByteArray := prog_1_method_18_code
def yX0_branch : MethodName := ⟨RX0, "branch", "(I)I"⟩
def wsX0_branch : List Cond := .code yX0_branch cX0_branch 3 (some .int) :: lw_g
abbrev cX0_isTaken : ByteArray := prog_1_method_19_code
def yX0_isTaken : MethodName := ⟨RX0, "isTaken", "(III)Z"⟩
def wsX0_isTaken : List Cond := .code yX0_isTaken cX0_isTaken 3 (some .boolean) :: lw_g
abbrev cX0_load : ByteArray := prog_1_method_20_code
def yX0_load : MethodName := ⟨RX0, "load", "(I)I"⟩
def wsX0_load : List Cond := .code yX0_load cX0_load 3 (some .int) :: lw_g
abbrev cX0_loaded : ByteArray := prog_1_method_21_code
def yX0_loaded : MethodName := ⟨RX0, "loaded", "(II)I"⟩
def wsX0_loaded : List Cond := .code yX0_loaded cX0_loaded 2 (some .int) :: lw_g
abbrev cX0_store : ByteArray := prog_1_method_22_code
def yX0_store : MethodName := ⟨RX0, "store", "(I)I"⟩
def wsX0_store : List Cond := .code yX0_store cX0_store 5 (some .int) :: lw_g
abbrev cX0_storedMask : ByteArray := prog_1_method_23_code
def yX0_storedMask : MethodName := ⟨RX0, "storedMask", "(I)I"⟩
def wsX0_storedMask : List Cond := .code yX0_storedMask cX0_storedMask 1 (some .int) :: lw_g
abbrev cX0_register : ByteArray := prog_1_method_24_code
def yX0_register : MethodName := ⟨RX0, "register", "(I)I"⟩
def wsX0_register : List Cond := .code yX0_register cX0_register 2 (some .int) :: lw_g
abbrev cX0_setRegister : ByteArray := prog_1_method_25_code
def yX0_setRegister : MethodName := ⟨RX0, "setRegister", "(II)V"⟩
def wsX0_setRegister : List Cond := .code yX0_setRegister cX0_setRegister 3 none :: lw_g
abbrev cX0_isMultipleOf4 : ByteArray := prog_1_method_26_code
def yX0_isMultipleOf4 : MethodName := ⟨RX0, "isMultipleOf4", "(I)Z"⟩
def wsX0_isMultipleOf4 : List Cond := .code yX0_isMultipleOf4 cX0_isMultipleOf4 1 (some .boolean) :: lw_g
abbrev cX0_isOfMemory : ByteArray := prog_1_method_27_code
def yX0_isOfMemory : MethodName := ⟨RX0, "isOfMemory", "(I)Z"⟩
def wsX0_isOfMemory : List Cond := .code yX0_isOfMemory cX0_isOfMemory 1 (some .boolean) :: lw_g
abbrev cX0_isAligned : ByteArray := prog_1_method_28_code
def yX0_isAligned : MethodName := ⟨RX0, "isAligned", "(II)Z"⟩
def wsX0_isAligned : List Cond := .code yX0_isAligned cX0_isAligned 3 (some .boolean) :: lw_g
abbrev cX0_bitsBelow : ByteArray := prog_1_method_29_code
def yX0_bitsBelow : MethodName := ⟨RX0, "bitsBelow", "(I)I"⟩
def wsX0_bitsBelow : List Cond := .code yX0_bitsBelow cX0_bitsBelow 1 (some .int) :: lw_g
abbrev cX0_wordAround : ByteArray := prog_1_method_30_code
def yX0_wordAround : MethodName := ⟨RX0, "wordAround", "(I)I"⟩
def wsX0_wordAround : List Cond := .code yX0_wordAround cX0_wordAround 2 (some .int) :: lw_g
abbrev cX0_setWordAt : ByteArray := prog_1_method_31_code
def yX0_setWordAt : MethodName := ⟨RX0, "setWordAt", "(II)V"⟩
def wsX0_setWordAt : List Cond := .code yX0_setWordAt cX0_setWordAt 3 none :: lw_g
abbrev cX0_fieldOp : ByteArray := prog_1_method_32_code
def yX0_fieldOp : MethodName := ⟨RX0, "fieldOp", "(I)I"⟩
def wsX0_fieldOp : List Cond := .code yX0_fieldOp cX0_fieldOp 1 (some .int) :: lw_g
abbrev cX0_fieldD : ByteArray := prog_1_method_33_code
def yX0_fieldD : MethodName := ⟨RX0, "fieldD", "(I)I"⟩
def wsX0_fieldD : List Cond := .code yX0_fieldD cX0_fieldD 1 (some .int) :: lw_g
abbrev cX0_fieldF : ByteArray := prog_1_method_34_code
def yX0_fieldF : MethodName := ⟨RX0, "fieldF", "(I)I"⟩
def wsX0_fieldF : List Cond := .code yX0_fieldF cX0_fieldF 1 (some .int) :: lw_g
abbrev cX0_fieldA : ByteArray := prog_1_method_35_code
def yX0_fieldA : MethodName := ⟨RX0, "fieldA", "(I)I"⟩
def wsX0_fieldA : List Cond := .code yX0_fieldA cX0_fieldA 1 (some .int) :: lw_g
abbrev cX0_fieldB : ByteArray := prog_1_method_36_code
def yX0_fieldB : MethodName := ⟨RX0, "fieldB", "(I)I"⟩
def wsX0_fieldB : List Cond := .code yX0_fieldB cX0_fieldB 1 (some .int) :: lw_g
abbrev cX0_fieldG : ByteArray := prog_1_method_37_code
def yX0_fieldG : MethodName := ⟨RX0, "fieldG", "(I)I"⟩
def wsX0_fieldG : List Cond := .code yX0_fieldG cX0_fieldG 1 (some .int) :: lw_g
abbrev cX0_numberI : ByteArray := prog_1_method_38_code
def yX0_numberI : MethodName := ⟨RX0, "numberI", "(I)I"⟩
def wsX0_numberI : List Cond := .code yX0_numberI cX0_numberI 1 (some .int) :: lw_g
abbrev cX0_numberT : ByteArray := prog_1_method_39_code
def yX0_numberT : MethodName := ⟨RX0, "numberT", "(I)I"⟩
def wsX0_numberT : List Cond := .code yX0_numberT cX0_numberT 1 (some .int) :: lw_g
abbrev cX0_numberB : ByteArray := prog_1_method_40_code
def yX0_numberB : MethodName := ⟨RX0, "numberB", "(I)I"⟩
def wsX0_numberB : List Cond := .code yX0_numberB cX0_numberB 4 (some .int) :: lw_g
abbrev cX0_numberH : ByteArray := prog_1_method_41_code
def yX0_numberH : MethodName := ⟨RX0, "numberH", "(I)I"⟩
def wsX0_numberH : List Cond := .code yX0_numberH cX0_numberH 1 (some .int) :: lw_g
abbrev cX0_numberJ : ByteArray := prog_1_method_42_code
def yX0_numberJ : MethodName := ⟨RX0, "numberJ", "(I)I"⟩
def wsX0_numberJ : List Cond := .code yX0_numberJ cX0_numberJ 4 (some .int) :: lw_g
abbrev cX0_isNamed : ByteArray := prog_1_method_43_code
def yX0_isNamed : MethodName := ⟨RX0, "isNamed", "(I)Z"⟩
def wsX0_isNamed : List Cond := .code yX0_isNamed cX0_isNamed 2 (some .boolean) :: lw_g
abbrev cX0_isNamedWithNumber : ByteArray := prog_1_method_44_code
def yX0_isNamedWithNumber : MethodName := ⟨RX0, "isNamedWithNumber", "(II)Z"⟩
def wsX0_isNamedWithNumber : List Cond := .code yX0_isNamedWithNumber cX0_isNamedWithNumber 2 (some .boolean) :: lw_g
abbrev cX0_isNamedWithRegisters : ByteArray := prog_1_method_45_code
def yX0_isNamedWithRegisters : MethodName := ⟨RX0, "isNamedWithRegisters", "(II)Z"⟩
def wsX0_isNamedWithRegisters : List Cond := .code yX0_isNamedWithRegisters cX0_isNamedWithRegisters 2 (some .boolean) :: lw_g
abbrev cX0_result : ByteArray := prog_1_method_46_code
def yX0_result : MethodName := ⟨RX0, "result", "(IIII)I"⟩
def wsX0_result : List Cond := .code yX0_result cX0_result 4 (some .int) :: lw_g
abbrev cX0_resultWithNumber : ByteArray := prog_1_method_47_code
def yX0_resultWithNumber : MethodName := ⟨RX0, "resultWithNumber", "(II)I"⟩
def wsX0_resultWithNumber : List Cond := .code yX0_resultWithNumber cX0_resultWithNumber 4 (some .int) :: lw_g
abbrev cX0_resultWithRegisters : ByteArray := prog_1_method_48_code
def yX0_resultWithRegisters : MethodName := ⟨RX0, "resultWithRegisters", "(III)I"⟩
def wsX0_resultWithRegisters : List Cond := .code yX0_resultWithRegisters cX0_resultWithRegisters 3 (some .int) :: lw_g
abbrev cX0_plain : ByteArray := prog_1_method_49_code
def yX0_plain : MethodName := ⟨RX0, "plain", "(III)I"⟩
def wsX0_plain : List Cond := .code yX0_plain cX0_plain 3 (some .int) :: lw_g
abbrev cX0_productOrQuotient : ByteArray := prog_1_method_50_code
def yX0_productOrQuotient : MethodName := ⟨RX0, "productOrQuotient", "(III)I"⟩
def wsX0_productOrQuotient : List Cond := .code yX0_productOrQuotient cX0_productOrQuotient 3 (some .int) :: lw_g
abbrev cX0_upper : ByteArray := prog_1_method_51_code
def yX0_upper : MethodName := ⟨RX0, "upper", "(J)I"⟩
def wsX0_upper : List Cond := .code yX0_upper cX0_upper 2 (some .int) :: lw_g
abbrev cX0_quotient : ByteArray := prog_1_method_52_code
def yX0_quotient : MethodName := ⟨RX0, "quotient", "(JJ)J"⟩
def wsX0_quotient : List Cond := .code yX0_quotient cX0_quotient 4 (some .long) :: lw_g
abbrev cX0_rest : ByteArray := prog_1_method_53_code
def yX0_rest : MethodName := ⟨RX0, "rest", "(JJ)J"⟩
def wsX0_rest : List Cond := .code yX0_rest cX0_rest 4 (some .long) :: lw_g
abbrev cX0_unsigned : ByteArray := prog_1_method_54_code
def yX0_unsigned : MethodName := ⟨RX0, "unsigned", "(I)J"⟩
def wsX0_unsigned : List Cond := .code yX0_unsigned cX0_unsigned 1 (some .long) :: lw_g
abbrev cX0_isLessU : ByteArray := prog_1_method_55_code
def yX0_isLessU : MethodName := ⟨RX0, "isLessU", "(II)Z"⟩
def wsX0_isLessU : List Cond := .code yX0_isLessU cX0_isLessU 2 (some .boolean) :: lw_g
abbrev cX1_init : ByteArray := prog_3_method_1_code
def yX1_init : MethodName := ⟨RX1, "<init>", "()V"⟩
def wsX1_init : List Cond := .code yX1_init cX1_init 1 none :: lw_g
abbrev cX1_bits : ByteArray := prog_3_method_3_code
def yX1_bits : MethodName := ⟨RX1, "bits", "(III)I"⟩
def wsX1_bits : List Cond := .code yX1_bits cX1_bits 8 (some .int) :: lw_g
abbrev cX1_signed : ByteArray := prog_3_method_4_code
def yX1_signed : MethodName := ⟨RX1, "signed", "(II)I"⟩
def wsX1_signed : List Cond := .code yX1_signed cX1_signed 4 (some .int) :: lw_g
abbrev cX1_field : ByteArray := prog_3_method_5_code
def yX1_field : MethodName := ⟨RX1, "field", "(II)I"⟩
def wsX1_field : List Cond := .code yX1_field cX1_field 3 (some .int) :: lw_g
abbrev cX1_isNamed : ByteArray := prog_3_method_6_code
def yX1_isNamed : MethodName := ⟨RX1, "isNamed", "(I)Z"⟩
def wsX1_isNamed : List Cond := .code yX1_isNamed cX1_isNamed 4 (some .boolean) :: lw_g
abbrev cX1_unsigned : ByteArray := prog_3_method_7_code
def yX1_unsigned : MethodName := ⟨RX1, "unsigned", "(I)J"⟩
def wsX1_unsigned : List Cond := .code yX1_unsigned cX1_unsigned 1 (some .long) :: lw_g
abbrev cX1_left : ByteArray := prog_3_method_8_code
def yX1_left : MethodName := ⟨RX1, "left", "(II)I"⟩
def wsX1_left : List Cond := .code yX1_left cX1_left 5 (some .int) :: lw_g
abbrev cX1_right : ByteArray := prog_3_method_9_code
def yX1_right : MethodName := ⟨RX1, "right", "(IIZ)I"⟩
def wsX1_right : List Cond := .code yX1_right cX1_right 6 (some .int) :: lw_g
abbrev cX1_upper : ByteArray := prog_3_method_10_code
def yX1_upper : MethodName := ⟨RX1, "upper", "(JJ)I"⟩
def wsX1_upper : List Cond := .code yX1_upper cX1_upper 12 (some .int) :: lw_g
abbrev cX1_quotient : ByteArray := prog_3_method_11_code
def yX1_quotient : MethodName := ⟨RX1, "quotient", "(JJ)I"⟩
def wsX1_quotient : List Cond := .code yX1_quotient cX1_quotient 4 (some .int) :: lw_g
abbrev cX1_rest : ByteArray := prog_3_method_12_code
def yX1_rest : MethodName := ⟨RX1, "rest", "(JJ)I"⟩
def wsX1_rest : List Cond := .code yX1_rest cX1_rest 4 (some .int) :: lw_g
abbrev cX1_plain : ByteArray := prog_3_method_13_code
def yX1_plain : MethodName := ⟨RX1, "plain", "(III)I"⟩
def wsX1_plain : List Cond := .code yX1_plain cX1_plain 3 (some .int) :: lw_g
abbrev cX1_product : ByteArray := prog_3_method_14_code
def yX1_product : MethodName := ⟨RX1, "product", "(III)I"⟩
def wsX1_product : List Cond := .code yX1_product cX1_product 3 (some .int) :: lw_g
abbrev cX1_puts : ByteArray := prog_3_method_15_code
def yX1_puts : MethodName := ⟨RX1, "puts", "(IIII)I"⟩
def wsX1_puts : List Cond := .code yX1_puts cX1_puts 9 (some .int) :: lw_g
abbrev cX1_isArithmetic : ByteArray := prog_3_method_16_code
def yX1_isArithmetic : MethodName := ⟨RX1, "isArithmetic", "(I)Z"⟩
def wsX1_isArithmetic : List Cond := .code yX1_isArithmetic cX1_isArithmetic 1 (some .boolean) :: lw_g
abbrev cX1_reckon : ByteArray := prog_3_method_17_code
def yX1_reckon : MethodName := ⟨RX1, "reckon", "(III)I"⟩
def wsX1_reckon : List Cond := .code yX1_reckon cX1_reckon 4 (some .int) :: lw_g
abbrev cX1_isThere : ByteArray := prog_3_method_18_code
def yX1_isThere : MethodName := ⟨RX1, "isThere", "(JI)Z"⟩
def wsX1_isThere : List Cond := .code yX1_isThere cX1_isThere 3 (some .boolean) :: lw_g
abbrev cX1_read : ByteArray := prog_3_method_19_code
def yX1_read : MethodName := ⟨RX1, "read", "(II)I"⟩
def wsX1_read : List Cond := .code yX1_read cX1_read 6 (some .int) :: lw_g
abbrev cX1_write : ByteArray := prog_3_method_20_code
def yX1_write : MethodName := ⟨RX1, "write", "(III)V"⟩
def wsX1_write : List Cond := .code yX1_write cX1_write 5 none :: lw_g
abbrev cX1_poke : ByteArray := prog_3_method_21_code
def yX1_poke : MethodName := ⟨RX1, "poke", "(IIIIII)I"⟩
def wsX1_poke : List Cond := .code yX1_poke cX1_poke 7 (some .int) :: lw_g
abbrev cX1_word : ByteArray := prog_3_method_22_code
def yX1_word : MethodName := ⟨RX1, "word", "(I)I"⟩
def wsX1_word : List Cond := .code yX1_word cX1_word 2 (some .int) :: lw_g
abbrev cX1_put : ByteArray := prog_3_method_23_code
def yX1_put : MethodName := ⟨RX1, "put", "(II)I"⟩
def wsX1_put : List Cond := .code yX1_put cX1_put 4 (some .int) :: lw_g
abbrev cX1_set : ByteArray := prog_3_method_24_code
def yX1_set : MethodName := ⟨RX1, "set", "(II)V"⟩
def wsX1_set : List Cond := .code yX1_set cX1_set 3 none :: lw_g
abbrev cX1_get : ByteArray := prog_3_method_25_code
def yX1_get : MethodName := ⟨RX1, "get", "(I)I"⟩
def wsX1_get : List Cond := .code yX1_get cX1_get 2 (some .int) :: lw_g
abbrev cX1_go : ByteArray := prog_3_method_26_code
def yX1_go : MethodName := ⟨RX1, "go", "(I)I"⟩
def wsX1_go : List Cond := .code yX1_go cX1_go 2 (some .int) :: lw_g
abbrev cX1_fail : ByteArray := prog_3_method_27_code
def yX1_fail : MethodName := ⟨RX1, "fail", "(II)I"⟩
def wsX1_fail : List Cond := .code yX1_fail cX1_fail 3 (some .int) :: lw_g
abbrev cX1_finish : ByteArray := prog_3_method_28_code
def yX1_finish : MethodName := ⟨RX1, "finish", "(I)I"⟩
def wsX1_finish : List Cond := .code yX1_finish cX1_finish 2 (some .int) :: lw_g
abbrev cX1_holds : ByteArray := prog_3_method_29_code
def yX1_holds : MethodName := ⟨RX1, "holds", "(III)Z"⟩
def wsX1_holds : List Cond := .code yX1_holds cX1_holds 5 (some .boolean) :: lw_g
abbrev cX1_jump : ByteArray := prog_3_method_30_code
def yX1_jump : MethodName := ⟨RX1, "jump", "(II)I"⟩
def wsX1_jump : List Cond := .code yX1_jump cX1_jump 11 (some .int) :: lw_g
abbrev cX1_access : ByteArray := prog_3_method_31_code
def yX1_access : MethodName := ⟨RX1, "access", "(II)I"⟩
def wsX1_access : List Cond := .code yX1_access cX1_access 8 (some .int) :: lw_g
abbrev cX1_act : ByteArray := prog_3_method_32_code
def yX1_act : MethodName := ⟨RX1, "act", "(I)I"⟩
def wsX1_act : List Cond := .code yX1_act cX1_act 4 (some .int) :: lw_g
abbrev cX1_step : ByteArray := prog_3_method_33_code
def yX1_step : MethodName := ⟨RX1, "step", "()I"⟩
def wsX1_step : List Cond := .code yX1_step cX1_step 1 (some .int) :: lw_g
abbrev cX1_run : ByteArray := prog_3_method_34_code
def yX1_run : MethodName := ⟨RX1, "run", "(I)I"⟩
def wsX1_run : List Cond := .code yX1_run cX1_run 3 (some .int) :: lw_g
abbrev cX1_doWord : ByteArray := prog_3_method_35_code
def yX1_doWord : MethodName := ⟨RX1, "doWord", "(I)I"⟩
def wsX1_doWord : List Cond := .code yX1_doWord cX1_doWord 2 (some .int) :: lw_g
abbrev cX1_told : ByteArray := prog_3_method_36_code
def yX1_told : MethodName := ⟨RX1, "told", "(I)I"⟩
def wsX1_told : List Cond := .code yX1_told cX1_told 2 (some .int) :: lw_g
abbrev vwCl : List vw_C := [(RX0, TX0, 6), (RX1, TX1, 7)]
theorem lw_good : ∀ w ∈ lw_g, ((w.onTables && w.keeps) = true ∨ ∃ ty, w = .arrayClass ty) := fun w h => good_of_word (List.mem_filter.mp h).2
theorem jg_S {own : String} {idx : Nat} {y : MethodName} {c : Cond} (h1 : Cond.methodLink own idx y ∈ lw_g) (h2 : Cond.static y ∈ lw_g) (h3 : Cond.initialized y.cls ∈ lw_g) (h4 : c ∈ lw_g) : GoodIn lw_g (va_wsS own idx y (c :: lw_g)) := by
  have h : ∀ w ∈ va_wsS own idx y (c :: lw_g), w ∈ lw_g := by
    intro w hw
    rcases List.mem_append.mp hw with h | h
    · rcases List.mem_cons.mp h with rfl | h
      · exact h1
      · rcases List.mem_cons.mp h with rfl | h
        · exact h2
        · rcases List.mem_cons.mp h with rfl | h
          · exact h3
          · exact absurd h List.not_mem_nil
    · rcases List.mem_cons.mp h with rfl | h
      · exact h4
      · exact h
  exact fun w hw => ⟨h w hw, lw_good w (h w hw)⟩
theorem jg_V {own C : String} {idx : Nat} {y : MethodName} {c : Cond} (h1 : Cond.methodLink own idx y ∈ lw_g) (h2 : Cond.instanceMethod y ∈ lw_g) (h3 : Cond.selects C y y ∈ lw_g) (h5 : Cond.initialized C ∈ lw_g) (h4 : c ∈ lw_g) : GoodIn lw_g (wsV own idx C y (c :: lw_g)) := by
  have h : ∀ w ∈ wsV own idx C y (c :: lw_g), w ∈ lw_g := by
    intro w hw
    rcases List.mem_append.mp hw with h | h
    · rcases List.mem_cons.mp h with rfl | h
      · exact h1
      · rcases List.mem_cons.mp h with rfl | h
        · exact h2
        · rcases List.mem_cons.mp h with rfl | h
          · exact h3
          · rcases List.mem_cons.mp h with rfl | h
            · exact h5
            · exact absurd h List.not_mem_nil
    · rcases List.mem_cons.mp h with rfl | h
      · exact h4
      · exact h
  exact fun w hw => ⟨h w hw, lw_good w (h w hw)⟩
theorem jg_I {c : Cond} (h4 : c ∈ lw_g) : GoodIn lw_g (c :: lw_g) := by
  have h : ∀ w ∈ c :: lw_g, w ∈ lw_g := by
    intro w hw
    rcases List.mem_cons.mp hw with rfl | h
    · exact h4
    · exact h
  exact fun w hw => ⟨h w hw, lw_good w (h w hw)⟩
