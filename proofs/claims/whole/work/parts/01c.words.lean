theorem iw_ini_X0 : Cond.initialized RX0 ∈ lw_tbl := List.mem_of_getElem? (i := 24) (by decide +kernel)
theorem iw_ins_X0 : Cond.instantiable RX0 6 ∈ lw_tbl := List.mem_of_getElem? (i := 27) (by decide +kernel)
theorem iw_ini_X1 : Cond.initialized RX1 ∈ lw_tbl := List.mem_of_getElem? (i := 25) (by decide +kernel)
theorem iw_ins_X1 : Cond.instantiable RX1 7 ∈ lw_tbl := List.mem_of_getElem? (i := 244) (by decide +kernel)
theorem iw_arr : Cond.arrayClass .int ∈ lw_tbl := List.mem_of_getElem? (i := 53) (by decide +kernel)
theorem iw_oi : Cond.instanceMethod objectInit ∈ lw_tbl := List.mem_of_getElem? (i := 32) (by decide +kernel)
theorem iw_oc : Cond.code objectInit ⟨#[0xb1]⟩ 1 none ∈ lw_tbl := List.mem_of_getElem? (i := 33) (by decide +kernel)
theorem iw_c_yX0_init : Cond.code yX0_init cX0_init 1 none ∈ lw_tbl := List.mem_of_getElem? (i := 30) (by decide +kernel)
theorem iw_i_yX0_init : Cond.instanceMethod yX0_init ∈ lw_tbl := List.mem_of_getElem? (i := 29) (by decide +kernel)
theorem iw_c_yX0_poke : Cond.code yX0_poke cX0_poke 7 (some .int) ∈ lw_tbl := List.mem_of_getElem? (i := 57) (by decide +kernel)
theorem iw_i_yX0_poke : Cond.instanceMethod yX0_poke ∈ lw_tbl := List.mem_of_getElem? (i := 55) (by decide +kernel)
theorem iw_v_yX0_poke : Cond.selects RX0 yX0_poke yX0_poke ∈ lw_tbl := List.mem_of_getElem? (i := 56) (by decide +kernel)
theorem iw_c_yX0_word : Cond.code yX0_word cX0_word 2 (some .int) ∈ lw_tbl := List.mem_of_getElem? (i := 71) (by decide +kernel)
theorem iw_i_yX0_word : Cond.instanceMethod yX0_word ∈ lw_tbl := List.mem_of_getElem? (i := 69) (by decide +kernel)
theorem iw_v_yX0_word : Cond.selects RX0 yX0_word yX0_word ∈ lw_tbl := List.mem_of_getElem? (i := 70) (by decide +kernel)
theorem iw_c_yX0_put : Cond.code yX0_put cX0_put 4 (some .int) ∈ lw_tbl := List.mem_of_getElem? (i := 79) (by decide +kernel)
theorem iw_i_yX0_put : Cond.instanceMethod yX0_put ∈ lw_tbl := List.mem_of_getElem? (i := 77) (by decide +kernel)
theorem iw_v_yX0_put : Cond.selects RX0 yX0_put yX0_put ∈ lw_tbl := List.mem_of_getElem? (i := 78) (by decide +kernel)
theorem iw_c_yX0_get : Cond.code yX0_get cX0_get 2 (some .int) ∈ lw_tbl := List.mem_of_getElem? (i := 91) (by decide +kernel)
theorem iw_i_yX0_get : Cond.instanceMethod yX0_get ∈ lw_tbl := List.mem_of_getElem? (i := 89) (by decide +kernel)
theorem iw_v_yX0_get : Cond.selects RX0 yX0_get yX0_get ∈ lw_tbl := List.mem_of_getElem? (i := 90) (by decide +kernel)
theorem iw_c_yX0_go : Cond.code yX0_go cX0_go 2 (some .int) ∈ lw_tbl := List.mem_of_getElem? (i := 95) (by decide +kernel)
theorem iw_i_yX0_go : Cond.instanceMethod yX0_go ∈ lw_tbl := List.mem_of_getElem? (i := 93) (by decide +kernel)
theorem iw_v_yX0_go : Cond.selects RX0 yX0_go yX0_go ∈ lw_tbl := List.mem_of_getElem? (i := 94) (by decide +kernel)
theorem iw_c_yX0_step : Cond.code yX0_step cX0_step 1 (some .int) ∈ lw_tbl := List.mem_of_getElem? (i := 99) (by decide +kernel)
theorem iw_i_yX0_step : Cond.instanceMethod yX0_step ∈ lw_tbl := List.mem_of_getElem? (i := 97) (by decide +kernel)
theorem iw_v_yX0_step : Cond.selects RX0 yX0_step yX0_step ∈ lw_tbl := List.mem_of_getElem? (i := 98) (by decide +kernel)
theorem iw_c_yX0_run : Cond.code yX0_run cX0_run 3 (some .int) ∈ lw_tbl := List.mem_of_getElem? (i := 226) (by decide +kernel)
theorem iw_i_yX0_run : Cond.instanceMethod yX0_run ∈ lw_tbl := List.mem_of_getElem? (i := 224) (by decide +kernel)
theorem iw_v_yX0_run : Cond.selects RX0 yX0_run yX0_run ∈ lw_tbl := List.mem_of_getElem? (i := 225) (by decide +kernel)
theorem iw_c_yX0_doWord : Cond.code yX0_doWord cX0_doWord 2 (some .int) ∈ lw_tbl := List.mem_of_getElem? (i := 230) (by decide +kernel)
theorem iw_i_yX0_doWord : Cond.instanceMethod yX0_doWord ∈ lw_tbl := List.mem_of_getElem? (i := 228) (by decide +kernel)
theorem iw_v_yX0_doWord : Cond.selects RX0 yX0_doWord yX0_doWord ∈ lw_tbl := List.mem_of_getElem? (i := 229) (by decide +kernel)
theorem iw_c_yX0_told : Cond.code yX0_told cX0_told 2 (some .int) ∈ lw_tbl := List.mem_of_getElem? (i := 234) (by decide +kernel)
theorem iw_i_yX0_told : Cond.instanceMethod yX0_told ∈ lw_tbl := List.mem_of_getElem? (i := 232) (by decide +kernel)
theorem iw_v_yX0_told : Cond.selects RX0 yX0_told yX0_told ∈ lw_tbl := List.mem_of_getElem? (i := 233) (by decide +kernel)
theorem iw_c_yX0_field : Cond.code yX0_field cX0_field 3 (some .int) ∈ lw_tbl := List.mem_of_getElem? (i := 238) (by decide +kernel)
theorem iw_i_yX0_field : Cond.instanceMethod yX0_field ∈ lw_tbl := List.mem_of_getElem? (i := 236) (by decide +kernel)
theorem iw_v_yX0_field : Cond.selects RX0 yX0_field yX0_field ∈ lw_tbl := List.mem_of_getElem? (i := 237) (by decide +kernel)
theorem iw_c_yX0_reckon : Cond.code yX0_reckon cX0_reckon 4 (some .int) ∈ lw_tbl := List.mem_of_getElem? (i := 242) (by decide +kernel)
theorem iw_i_yX0_reckon : Cond.instanceMethod yX0_reckon ∈ lw_tbl := List.mem_of_getElem? (i := 240) (by decide +kernel)
theorem iw_v_yX0_reckon : Cond.selects RX0 yX0_reckon yX0_reckon ∈ lw_tbl := List.mem_of_getElem? (i := 241) (by decide +kernel)
theorem iw_c_yX0_doStep : Cond.code yX0_doStep cX0_doStep 1 (some .int) ∈ lw_tbl := List.mem_of_getElem? (i := 103) (by decide +kernel)
theorem iw_i_yX0_doStep : Cond.instanceMethod yX0_doStep ∈ lw_tbl := List.mem_of_getElem? (i := 102) (by decide +kernel)
theorem iw_v_yX0_doStep : Cond.selects RX0 yX0_doStep yX0_doStep ∈ lw_tbl := List.mem_of_getElem? (i := 4) (by decide +kernel)
theorem iw_c_yX0_perform : Cond.code yX0_perform cX0_perform 2 (some .int) ∈ lw_tbl := List.mem_of_getElem? (i := 111) (by decide +kernel)
theorem iw_i_yX0_perform : Cond.instanceMethod yX0_perform ∈ lw_tbl := List.mem_of_getElem? (i := 110) (by decide +kernel)
theorem iw_v_yX0_perform : Cond.selects RX0 yX0_perform yX0_perform ∈ lw_tbl := List.mem_of_getElem? (i := 6) (by decide +kernel)
theorem iw_c_yX0_finish : Cond.code yX0_finish cX0_finish 2 (some .int) ∈ lw_tbl := List.mem_of_getElem? (i := 143) (by decide +kernel)
theorem iw_i_yX0_finish : Cond.instanceMethod yX0_finish ∈ lw_tbl := List.mem_of_getElem? (i := 142) (by decide +kernel)
theorem iw_v_yX0_finish : Cond.selects RX0 yX0_finish yX0_finish ∈ lw_tbl := List.mem_of_getElem? (i := 8) (by decide +kernel)
theorem iw_c_yX0_tell : Cond.code yX0_tell cX0_tell 3 (some .int) ∈ lw_tbl := List.mem_of_getElem? (i := 107) (by decide +kernel)
theorem iw_i_yX0_tell : Cond.instanceMethod yX0_tell ∈ lw_tbl := List.mem_of_getElem? (i := 106) (by decide +kernel)
theorem iw_v_yX0_tell : Cond.selects RX0 yX0_tell yX0_tell ∈ lw_tbl := List.mem_of_getElem? (i := 5) (by decide +kernel)
theorem iw_c_yX0_jump : Cond.code yX0_jump cX0_jump 3 (some .int) ∈ lw_tbl := List.mem_of_getElem? (i := 136) (by decide +kernel)
theorem iw_i_yX0_jump : Cond.instanceMethod yX0_jump ∈ lw_tbl := List.mem_of_getElem? (i := 135) (by decide +kernel)
theorem iw_v_yX0_jump : Cond.selects RX0 yX0_jump yX0_jump ∈ lw_tbl := List.mem_of_getElem? (i := 7) (by decide +kernel)
theorem iw_c_yX0_branch : Cond.code yX0_branch cX0_branch 3 (some .int) ∈ lw_tbl := List.mem_of_getElem? (i := 153) (by decide +kernel)
theorem iw_i_yX0_branch : Cond.instanceMethod yX0_branch ∈ lw_tbl := List.mem_of_getElem? (i := 152) (by decide +kernel)
theorem iw_v_yX0_branch : Cond.selects RX0 yX0_branch yX0_branch ∈ lw_tbl := List.mem_of_getElem? (i := 9) (by decide +kernel)
theorem iw_c_yX0_isTaken : Cond.code yX0_isTaken cX0_isTaken 3 (some .boolean) ∈ lw_tbl := List.mem_of_getElem? (i := 159) (by decide +kernel)
theorem iw_s_yX0_isTaken : Cond.static yX0_isTaken ∈ lw_tbl := List.mem_of_getElem? (i := 158) (by decide +kernel)
theorem iw_c_yX0_load : Cond.code yX0_load cX0_load 3 (some .int) ∈ lw_tbl := List.mem_of_getElem? (i := 170) (by decide +kernel)
theorem iw_i_yX0_load : Cond.instanceMethod yX0_load ∈ lw_tbl := List.mem_of_getElem? (i := 169) (by decide +kernel)
theorem iw_v_yX0_load : Cond.selects RX0 yX0_load yX0_load ∈ lw_tbl := List.mem_of_getElem? (i := 10) (by decide +kernel)
theorem iw_c_yX0_loaded : Cond.code yX0_loaded cX0_loaded 2 (some .int) ∈ lw_tbl := List.mem_of_getElem? (i := 179) (by decide +kernel)
theorem iw_s_yX0_loaded : Cond.static yX0_loaded ∈ lw_tbl := List.mem_of_getElem? (i := 178) (by decide +kernel)
theorem iw_c_yX0_store : Cond.code yX0_store cX0_store 5 (some .int) ∈ lw_tbl := List.mem_of_getElem? (i := 184) (by decide +kernel)
theorem iw_i_yX0_store : Cond.instanceMethod yX0_store ∈ lw_tbl := List.mem_of_getElem? (i := 183) (by decide +kernel)
theorem iw_v_yX0_store : Cond.selects RX0 yX0_store yX0_store ∈ lw_tbl := List.mem_of_getElem? (i := 11) (by decide +kernel)
theorem iw_c_yX0_storedMask : Cond.code yX0_storedMask cX0_storedMask 1 (some .int) ∈ lw_tbl := List.mem_of_getElem? (i := 190) (by decide +kernel)
theorem iw_s_yX0_storedMask : Cond.static yX0_storedMask ∈ lw_tbl := List.mem_of_getElem? (i := 189) (by decide +kernel)
theorem iw_c_yX0_register : Cond.code yX0_register cX0_register 2 (some .int) ∈ lw_tbl := List.mem_of_getElem? (i := 83) (by decide +kernel)
theorem iw_i_yX0_register : Cond.instanceMethod yX0_register ∈ lw_tbl := List.mem_of_getElem? (i := 82) (by decide +kernel)
theorem iw_v_yX0_register : Cond.selects RX0 yX0_register yX0_register ∈ lw_tbl := List.mem_of_getElem? (i := 2) (by decide +kernel)
theorem iw_c_yX0_setRegister : Cond.code yX0_setRegister cX0_setRegister 3 none ∈ lw_tbl := List.mem_of_getElem? (i := 87) (by decide +kernel)
theorem iw_i_yX0_setRegister : Cond.instanceMethod yX0_setRegister ∈ lw_tbl := List.mem_of_getElem? (i := 86) (by decide +kernel)
theorem iw_v_yX0_setRegister : Cond.selects RX0 yX0_setRegister yX0_setRegister ∈ lw_tbl := List.mem_of_getElem? (i := 3) (by decide +kernel)
theorem iw_c_yX0_isMultipleOf4 : Cond.code yX0_isMultipleOf4 cX0_isMultipleOf4 1 (some .boolean) ∈ lw_tbl := List.mem_of_getElem? (i := 60) (by decide +kernel)
theorem iw_s_yX0_isMultipleOf4 : Cond.static yX0_isMultipleOf4 ∈ lw_tbl := List.mem_of_getElem? (i := 59) (by decide +kernel)
theorem iw_c_yX0_isOfMemory : Cond.code yX0_isOfMemory cX0_isOfMemory 1 (some .boolean) ∈ lw_tbl := List.mem_of_getElem? (i := 67) (by decide +kernel)
theorem iw_s_yX0_isOfMemory : Cond.static yX0_isOfMemory ∈ lw_tbl := List.mem_of_getElem? (i := 66) (by decide +kernel)
theorem iw_c_yX0_isAligned : Cond.code yX0_isAligned cX0_isAligned 3 (some .boolean) ∈ lw_tbl := List.mem_of_getElem? (i := 173) (by decide +kernel)
theorem iw_s_yX0_isAligned : Cond.static yX0_isAligned ∈ lw_tbl := List.mem_of_getElem? (i := 172) (by decide +kernel)
theorem iw_c_yX0_bitsBelow : Cond.code yX0_bitsBelow cX0_bitsBelow 1 (some .int) ∈ lw_tbl := List.mem_of_getElem? (i := 176) (by decide +kernel)
theorem iw_s_yX0_bitsBelow : Cond.static yX0_bitsBelow ∈ lw_tbl := List.mem_of_getElem? (i := 175) (by decide +kernel)
theorem iw_c_yX0_wordAround : Cond.code yX0_wordAround cX0_wordAround 2 (some .int) ∈ lw_tbl := List.mem_of_getElem? (i := 75) (by decide +kernel)
theorem iw_i_yX0_wordAround : Cond.instanceMethod yX0_wordAround ∈ lw_tbl := List.mem_of_getElem? (i := 74) (by decide +kernel)
theorem iw_v_yX0_wordAround : Cond.selects RX0 yX0_wordAround yX0_wordAround ∈ lw_tbl := List.mem_of_getElem? (i := 1) (by decide +kernel)
theorem iw_c_yX0_setWordAt : Cond.code yX0_setWordAt cX0_setWordAt 3 none ∈ lw_tbl := List.mem_of_getElem? (i := 64) (by decide +kernel)
theorem iw_i_yX0_setWordAt : Cond.instanceMethod yX0_setWordAt ∈ lw_tbl := List.mem_of_getElem? (i := 63) (by decide +kernel)
theorem iw_v_yX0_setWordAt : Cond.selects RX0 yX0_setWordAt yX0_setWordAt ∈ lw_tbl := List.mem_of_getElem? (i := 0) (by decide +kernel)
theorem iw_c_yX0_fieldOp : Cond.code yX0_fieldOp cX0_fieldOp 1 (some .int) ∈ lw_tbl := List.mem_of_getElem? (i := 120) (by decide +kernel)
theorem iw_s_yX0_fieldOp : Cond.static yX0_fieldOp ∈ lw_tbl := List.mem_of_getElem? (i := 119) (by decide +kernel)
theorem iw_c_yX0_fieldD : Cond.code yX0_fieldD cX0_fieldD 1 (some .int) ∈ lw_tbl := List.mem_of_getElem? (i := 139) (by decide +kernel)
theorem iw_s_yX0_fieldD : Cond.static yX0_fieldD ∈ lw_tbl := List.mem_of_getElem? (i := 138) (by decide +kernel)
theorem iw_c_yX0_fieldF : Cond.code yX0_fieldF cX0_fieldF 1 (some .int) ∈ lw_tbl := List.mem_of_getElem? (i := 117) (by decide +kernel)
theorem iw_s_yX0_fieldF : Cond.static yX0_fieldF ∈ lw_tbl := List.mem_of_getElem? (i := 116) (by decide +kernel)
theorem iw_c_yX0_fieldA : Cond.code yX0_fieldA cX0_fieldA 1 (some .int) ∈ lw_tbl := List.mem_of_getElem? (i := 146) (by decide +kernel)
theorem iw_s_yX0_fieldA : Cond.static yX0_fieldA ∈ lw_tbl := List.mem_of_getElem? (i := 145) (by decide +kernel)
theorem iw_c_yX0_fieldB : Cond.code yX0_fieldB cX0_fieldB 1 (some .int) ∈ lw_tbl := List.mem_of_getElem? (i := 156) (by decide +kernel)
theorem iw_s_yX0_fieldB : Cond.static yX0_fieldB ∈ lw_tbl := List.mem_of_getElem? (i := 155) (by decide +kernel)
theorem iw_c_yX0_fieldG : Cond.code yX0_fieldG cX0_fieldG 1 (some .int) ∈ lw_tbl := List.mem_of_getElem? (i := 123) (by decide +kernel)
theorem iw_s_yX0_fieldG : Cond.static yX0_fieldG ∈ lw_tbl := List.mem_of_getElem? (i := 122) (by decide +kernel)
theorem iw_c_yX0_numberI : Cond.code yX0_numberI cX0_numberI 1 (some .int) ∈ lw_tbl := List.mem_of_getElem? (i := 149) (by decide +kernel)
theorem iw_s_yX0_numberI : Cond.static yX0_numberI ∈ lw_tbl := List.mem_of_getElem? (i := 148) (by decide +kernel)
theorem iw_c_yX0_numberT : Cond.code yX0_numberT cX0_numberT 1 (some .int) ∈ lw_tbl := List.mem_of_getElem? (i := 187) (by decide +kernel)
theorem iw_s_yX0_numberT : Cond.static yX0_numberT ∈ lw_tbl := List.mem_of_getElem? (i := 186) (by decide +kernel)
theorem iw_c_yX0_numberB : Cond.code yX0_numberB cX0_numberB 4 (some .int) ∈ lw_tbl := List.mem_of_getElem? (i := 166) (by decide +kernel)
theorem iw_s_yX0_numberB : Cond.static yX0_numberB ∈ lw_tbl := List.mem_of_getElem? (i := 165) (by decide +kernel)
theorem iw_c_yX0_numberH : Cond.code yX0_numberH cX0_numberH 1 (some .int) ∈ lw_tbl := List.mem_of_getElem? (i := 196) (by decide +kernel)
theorem iw_s_yX0_numberH : Cond.static yX0_numberH ∈ lw_tbl := List.mem_of_getElem? (i := 195) (by decide +kernel)
theorem iw_c_yX0_numberJ : Cond.code yX0_numberJ cX0_numberJ 4 (some .int) ∈ lw_tbl := List.mem_of_getElem? (i := 132) (by decide +kernel)
theorem iw_s_yX0_numberJ : Cond.static yX0_numberJ ∈ lw_tbl := List.mem_of_getElem? (i := 131) (by decide +kernel)
theorem iw_c_yX0_isNamed : Cond.code yX0_isNamed cX0_isNamed 2 (some .boolean) ∈ lw_tbl := List.mem_of_getElem? (i := 114) (by decide +kernel)
theorem iw_s_yX0_isNamed : Cond.static yX0_isNamed ∈ lw_tbl := List.mem_of_getElem? (i := 113) (by decide +kernel)
theorem iw_c_yX0_isNamedWithNumber : Cond.code yX0_isNamedWithNumber cX0_isNamedWithNumber 2 (some .boolean) ∈ lw_tbl := List.mem_of_getElem? (i := 126) (by decide +kernel)
theorem iw_s_yX0_isNamedWithNumber : Cond.static yX0_isNamedWithNumber ∈ lw_tbl := List.mem_of_getElem? (i := 125) (by decide +kernel)
theorem iw_c_yX0_isNamedWithRegisters : Cond.code yX0_isNamedWithRegisters cX0_isNamedWithRegisters 2 (some .boolean) ∈ lw_tbl := List.mem_of_getElem? (i := 129) (by decide +kernel)
theorem iw_s_yX0_isNamedWithRegisters : Cond.static yX0_isNamedWithRegisters ∈ lw_tbl := List.mem_of_getElem? (i := 128) (by decide +kernel)
theorem iw_c_yX0_result : Cond.code yX0_result cX0_result 4 (some .int) ∈ lw_tbl := List.mem_of_getElem? (i := 193) (by decide +kernel)
theorem iw_s_yX0_result : Cond.static yX0_result ∈ lw_tbl := List.mem_of_getElem? (i := 192) (by decide +kernel)
theorem iw_c_yX0_resultWithNumber : Cond.code yX0_resultWithNumber cX0_resultWithNumber 4 (some .int) ∈ lw_tbl := List.mem_of_getElem? (i := 199) (by decide +kernel)
theorem iw_s_yX0_resultWithNumber : Cond.static yX0_resultWithNumber ∈ lw_tbl := List.mem_of_getElem? (i := 198) (by decide +kernel)
theorem iw_c_yX0_resultWithRegisters : Cond.code yX0_resultWithRegisters cX0_resultWithRegisters 3 (some .int) ∈ lw_tbl := List.mem_of_getElem? (i := 205) (by decide +kernel)
theorem iw_s_yX0_resultWithRegisters : Cond.static yX0_resultWithRegisters ∈ lw_tbl := List.mem_of_getElem? (i := 204) (by decide +kernel)
theorem iw_c_yX0_plain : Cond.code yX0_plain cX0_plain 3 (some .int) ∈ lw_tbl := List.mem_of_getElem? (i := 202) (by decide +kernel)
theorem iw_s_yX0_plain : Cond.static yX0_plain ∈ lw_tbl := List.mem_of_getElem? (i := 201) (by decide +kernel)
theorem iw_c_yX0_productOrQuotient : Cond.code yX0_productOrQuotient cX0_productOrQuotient 3 (some .int) ∈ lw_tbl := List.mem_of_getElem? (i := 208) (by decide +kernel)
theorem iw_s_yX0_productOrQuotient : Cond.static yX0_productOrQuotient ∈ lw_tbl := List.mem_of_getElem? (i := 207) (by decide +kernel)
theorem iw_c_yX0_upper : Cond.code yX0_upper cX0_upper 2 (some .int) ∈ lw_tbl := List.mem_of_getElem? (i := 211) (by decide +kernel)
theorem iw_s_yX0_upper : Cond.static yX0_upper ∈ lw_tbl := List.mem_of_getElem? (i := 210) (by decide +kernel)
theorem iw_c_yX0_quotient : Cond.code yX0_quotient cX0_quotient 4 (some .long) ∈ lw_tbl := List.mem_of_getElem? (i := 218) (by decide +kernel)
theorem iw_s_yX0_quotient : Cond.static yX0_quotient ∈ lw_tbl := List.mem_of_getElem? (i := 217) (by decide +kernel)
theorem iw_c_yX0_rest : Cond.code yX0_rest cX0_rest 4 (some .long) ∈ lw_tbl := List.mem_of_getElem? (i := 222) (by decide +kernel)
theorem iw_s_yX0_rest : Cond.static yX0_rest ∈ lw_tbl := List.mem_of_getElem? (i := 221) (by decide +kernel)
theorem iw_c_yX0_unsigned : Cond.code yX0_unsigned cX0_unsigned 1 (some .long) ∈ lw_tbl := List.mem_of_getElem? (i := 214) (by decide +kernel)
theorem iw_s_yX0_unsigned : Cond.static yX0_unsigned ∈ lw_tbl := List.mem_of_getElem? (i := 213) (by decide +kernel)
theorem iw_c_yX0_isLessU : Cond.code yX0_isLessU cX0_isLessU 2 (some .boolean) ∈ lw_tbl := List.mem_of_getElem? (i := 162) (by decide +kernel)
theorem iw_s_yX0_isLessU : Cond.static yX0_isLessU ∈ lw_tbl := List.mem_of_getElem? (i := 161) (by decide +kernel)
theorem iw_c_yX1_init : Cond.code yX1_init cX1_init 1 none ∈ lw_tbl := List.mem_of_getElem? (i := 247) (by decide +kernel)
theorem iw_i_yX1_init : Cond.instanceMethod yX1_init ∈ lw_tbl := List.mem_of_getElem? (i := 246) (by decide +kernel)
theorem iw_c_yX1_bits : Cond.code yX1_bits cX1_bits 8 (some .int) ∈ lw_tbl := List.mem_of_getElem? (i := 276) (by decide +kernel)
theorem iw_s_yX1_bits : Cond.static yX1_bits ∈ lw_tbl := List.mem_of_getElem? (i := 275) (by decide +kernel)
theorem iw_c_yX1_signed : Cond.code yX1_signed cX1_signed 4 (some .int) ∈ lw_tbl := List.mem_of_getElem? (i := 281) (by decide +kernel)
theorem iw_s_yX1_signed : Cond.static yX1_signed ∈ lw_tbl := List.mem_of_getElem? (i := 280) (by decide +kernel)
theorem iw_c_yX1_field : Cond.code yX1_field cX1_field 3 (some .int) ∈ lw_tbl := List.mem_of_getElem? (i := 273) (by decide +kernel)
theorem iw_i_yX1_field : Cond.instanceMethod yX1_field ∈ lw_tbl := List.mem_of_getElem? (i := 271) (by decide +kernel)
theorem iw_v_yX1_field : Cond.selects RX1 yX1_field yX1_field ∈ lw_tbl := List.mem_of_getElem? (i := 272) (by decide +kernel)
theorem iw_c_yX1_isNamed : Cond.code yX1_isNamed cX1_isNamed 4 (some .boolean) ∈ lw_tbl := List.mem_of_getElem? (i := 286) (by decide +kernel)
theorem iw_i_yX1_isNamed : Cond.instanceMethod yX1_isNamed ∈ lw_tbl := List.mem_of_getElem? (i := 285) (by decide +kernel)
theorem iw_v_yX1_isNamed : Cond.selects RX1 yX1_isNamed yX1_isNamed ∈ lw_tbl := List.mem_of_getElem? (i := 12) (by decide +kernel)
theorem iw_c_yX1_unsigned : Cond.code yX1_unsigned cX1_unsigned 1 (some .long) ∈ lw_tbl := List.mem_of_getElem? (i := 309) (by decide +kernel)
theorem iw_s_yX1_unsigned : Cond.static yX1_unsigned ∈ lw_tbl := List.mem_of_getElem? (i := 308) (by decide +kernel)
theorem iw_c_yX1_left : Cond.code yX1_left cX1_left 5 (some .int) ∈ lw_tbl := List.mem_of_getElem? (i := 320) (by decide +kernel)
theorem iw_s_yX1_left : Cond.static yX1_left ∈ lw_tbl := List.mem_of_getElem? (i := 319) (by decide +kernel)
theorem iw_c_yX1_right : Cond.code yX1_right cX1_right 6 (some .int) ∈ lw_tbl := List.mem_of_getElem? (i := 323) (by decide +kernel)
theorem iw_s_yX1_right : Cond.static yX1_right ∈ lw_tbl := List.mem_of_getElem? (i := 322) (by decide +kernel)
theorem iw_c_yX1_upper : Cond.code yX1_upper cX1_upper 12 (some .int) ∈ lw_tbl := List.mem_of_getElem? (i := 304) (by decide +kernel)
theorem iw_s_yX1_upper : Cond.static yX1_upper ∈ lw_tbl := List.mem_of_getElem? (i := 303) (by decide +kernel)
theorem iw_c_yX1_quotient : Cond.code yX1_quotient cX1_quotient 4 (some .int) ∈ lw_tbl := List.mem_of_getElem? (i := 313) (by decide +kernel)
theorem iw_s_yX1_quotient : Cond.static yX1_quotient ∈ lw_tbl := List.mem_of_getElem? (i := 312) (by decide +kernel)
theorem iw_c_yX1_rest : Cond.code yX1_rest cX1_rest 4 (some .int) ∈ lw_tbl := List.mem_of_getElem? (i := 316) (by decide +kernel)
theorem iw_s_yX1_rest : Cond.static yX1_rest ∈ lw_tbl := List.mem_of_getElem? (i := 315) (by decide +kernel)
theorem iw_c_yX1_plain : Cond.code yX1_plain cX1_plain 3 (some .int) ∈ lw_tbl := List.mem_of_getElem? (i := 326) (by decide +kernel)
theorem iw_s_yX1_plain : Cond.static yX1_plain ∈ lw_tbl := List.mem_of_getElem? (i := 325) (by decide +kernel)
theorem iw_c_yX1_product : Cond.code yX1_product cX1_product 3 (some .int) ∈ lw_tbl := List.mem_of_getElem? (i := 301) (by decide +kernel)
theorem iw_s_yX1_product : Cond.static yX1_product ∈ lw_tbl := List.mem_of_getElem? (i := 300) (by decide +kernel)
theorem iw_c_yX1_puts : Cond.code yX1_puts cX1_puts 9 (some .int) ∈ lw_tbl := List.mem_of_getElem? (i := 298) (by decide +kernel)
theorem iw_i_yX1_puts : Cond.instanceMethod yX1_puts ∈ lw_tbl := List.mem_of_getElem? (i := 297) (by decide +kernel)
theorem iw_v_yX1_puts : Cond.selects RX1 yX1_puts yX1_puts ∈ lw_tbl := List.mem_of_getElem? (i := 13) (by decide +kernel)
theorem iw_c_yX1_isArithmetic : Cond.code yX1_isArithmetic cX1_isArithmetic 1 (some .boolean) ∈ lw_tbl := List.mem_of_getElem? (i := 294) (by decide +kernel)
theorem iw_s_yX1_isArithmetic : Cond.static yX1_isArithmetic ∈ lw_tbl := List.mem_of_getElem? (i := 293) (by decide +kernel)
theorem iw_c_yX1_reckon : Cond.code yX1_reckon cX1_reckon 4 (some .int) ∈ lw_tbl := List.mem_of_getElem? (i := 291) (by decide +kernel)
theorem iw_i_yX1_reckon : Cond.instanceMethod yX1_reckon ∈ lw_tbl := List.mem_of_getElem? (i := 289) (by decide +kernel)
theorem iw_v_yX1_reckon : Cond.selects RX1 yX1_reckon yX1_reckon ∈ lw_tbl := List.mem_of_getElem? (i := 290) (by decide +kernel)
theorem iw_c_yX1_isThere : Cond.code yX1_isThere cX1_isThere 3 (some .boolean) ∈ lw_tbl := List.mem_of_getElem? (i := 333) (by decide +kernel)
theorem iw_s_yX1_isThere : Cond.static yX1_isThere ∈ lw_tbl := List.mem_of_getElem? (i := 332) (by decide +kernel)
theorem iw_c_yX1_read : Cond.code yX1_read cX1_read 6 (some .int) ∈ lw_tbl := List.mem_of_getElem? (i := 346) (by decide +kernel)
theorem iw_i_yX1_read : Cond.instanceMethod yX1_read ∈ lw_tbl := List.mem_of_getElem? (i := 345) (by decide +kernel)
theorem iw_v_yX1_read : Cond.selects RX1 yX1_read yX1_read ∈ lw_tbl := List.mem_of_getElem? (i := 15) (by decide +kernel)
theorem iw_c_yX1_write : Cond.code yX1_write cX1_write 5 none ∈ lw_tbl := List.mem_of_getElem? (i := 338) (by decide +kernel)
theorem iw_i_yX1_write : Cond.instanceMethod yX1_write ∈ lw_tbl := List.mem_of_getElem? (i := 337) (by decide +kernel)
theorem iw_v_yX1_write : Cond.selects RX1 yX1_write yX1_write ∈ lw_tbl := List.mem_of_getElem? (i := 14) (by decide +kernel)
theorem iw_c_yX1_poke : Cond.code yX1_poke cX1_poke 7 (some .int) ∈ lw_tbl := List.mem_of_getElem? (i := 330) (by decide +kernel)
theorem iw_i_yX1_poke : Cond.instanceMethod yX1_poke ∈ lw_tbl := List.mem_of_getElem? (i := 328) (by decide +kernel)
theorem iw_v_yX1_poke : Cond.selects RX1 yX1_poke yX1_poke ∈ lw_tbl := List.mem_of_getElem? (i := 329) (by decide +kernel)
theorem iw_c_yX1_word : Cond.code yX1_word cX1_word 2 (some .int) ∈ lw_tbl := List.mem_of_getElem? (i := 342) (by decide +kernel)
theorem iw_i_yX1_word : Cond.instanceMethod yX1_word ∈ lw_tbl := List.mem_of_getElem? (i := 340) (by decide +kernel)
theorem iw_v_yX1_word : Cond.selects RX1 yX1_word yX1_word ∈ lw_tbl := List.mem_of_getElem? (i := 341) (by decide +kernel)
theorem iw_c_yX1_put : Cond.code yX1_put cX1_put 4 (some .int) ∈ lw_tbl := List.mem_of_getElem? (i := 351) (by decide +kernel)
theorem iw_i_yX1_put : Cond.instanceMethod yX1_put ∈ lw_tbl := List.mem_of_getElem? (i := 349) (by decide +kernel)
theorem iw_v_yX1_put : Cond.selects RX1 yX1_put yX1_put ∈ lw_tbl := List.mem_of_getElem? (i := 350) (by decide +kernel)
theorem iw_c_yX1_set : Cond.code yX1_set cX1_set 3 none ∈ lw_tbl := List.mem_of_getElem? (i := 355) (by decide +kernel)
theorem iw_i_yX1_set : Cond.instanceMethod yX1_set ∈ lw_tbl := List.mem_of_getElem? (i := 354) (by decide +kernel)
theorem iw_v_yX1_set : Cond.selects RX1 yX1_set yX1_set ∈ lw_tbl := List.mem_of_getElem? (i := 16) (by decide +kernel)
theorem iw_c_yX1_get : Cond.code yX1_get cX1_get 2 (some .int) ∈ lw_tbl := List.mem_of_getElem? (i := 359) (by decide +kernel)
theorem iw_i_yX1_get : Cond.instanceMethod yX1_get ∈ lw_tbl := List.mem_of_getElem? (i := 357) (by decide +kernel)
theorem iw_v_yX1_get : Cond.selects RX1 yX1_get yX1_get ∈ lw_tbl := List.mem_of_getElem? (i := 358) (by decide +kernel)
theorem iw_c_yX1_go : Cond.code yX1_go cX1_go 2 (some .int) ∈ lw_tbl := List.mem_of_getElem? (i := 363) (by decide +kernel)
theorem iw_i_yX1_go : Cond.instanceMethod yX1_go ∈ lw_tbl := List.mem_of_getElem? (i := 361) (by decide +kernel)
theorem iw_v_yX1_go : Cond.selects RX1 yX1_go yX1_go ∈ lw_tbl := List.mem_of_getElem? (i := 362) (by decide +kernel)
theorem iw_c_yX1_fail : Cond.code yX1_fail cX1_fail 3 (some .int) ∈ lw_tbl := List.mem_of_getElem? (i := 376) (by decide +kernel)
theorem iw_i_yX1_fail : Cond.instanceMethod yX1_fail ∈ lw_tbl := List.mem_of_getElem? (i := 375) (by decide +kernel)
theorem iw_v_yX1_fail : Cond.selects RX1 yX1_fail yX1_fail ∈ lw_tbl := List.mem_of_getElem? (i := 18) (by decide +kernel)
theorem iw_c_yX1_finish : Cond.code yX1_finish cX1_finish 2 (some .int) ∈ lw_tbl := List.mem_of_getElem? (i := 388) (by decide +kernel)
theorem iw_i_yX1_finish : Cond.instanceMethod yX1_finish ∈ lw_tbl := List.mem_of_getElem? (i := 387) (by decide +kernel)
theorem iw_v_yX1_finish : Cond.selects RX1 yX1_finish yX1_finish ∈ lw_tbl := List.mem_of_getElem? (i := 21) (by decide +kernel)
theorem iw_c_yX1_holds : Cond.code yX1_holds cX1_holds 5 (some .boolean) ∈ lw_tbl := List.mem_of_getElem? (i := 384) (by decide +kernel)
theorem iw_i_yX1_holds : Cond.instanceMethod yX1_holds ∈ lw_tbl := List.mem_of_getElem? (i := 383) (by decide +kernel)
theorem iw_v_yX1_holds : Cond.selects RX1 yX1_holds yX1_holds ∈ lw_tbl := List.mem_of_getElem? (i := 20) (by decide +kernel)
theorem iw_c_yX1_jump : Cond.code yX1_jump cX1_jump 11 (some .int) ∈ lw_tbl := List.mem_of_getElem? (i := 380) (by decide +kernel)
theorem iw_i_yX1_jump : Cond.instanceMethod yX1_jump ∈ lw_tbl := List.mem_of_getElem? (i := 379) (by decide +kernel)
theorem iw_v_yX1_jump : Cond.selects RX1 yX1_jump yX1_jump ∈ lw_tbl := List.mem_of_getElem? (i := 19) (by decide +kernel)
theorem iw_c_yX1_access : Cond.code yX1_access cX1_access 8 (some .int) ∈ lw_tbl := List.mem_of_getElem? (i := 392) (by decide +kernel)
theorem iw_i_yX1_access : Cond.instanceMethod yX1_access ∈ lw_tbl := List.mem_of_getElem? (i := 391) (by decide +kernel)
theorem iw_v_yX1_access : Cond.selects RX1 yX1_access yX1_access ∈ lw_tbl := List.mem_of_getElem? (i := 22) (by decide +kernel)
theorem iw_c_yX1_act : Cond.code yX1_act cX1_act 4 (some .int) ∈ lw_tbl := List.mem_of_getElem? (i := 371) (by decide +kernel)
theorem iw_i_yX1_act : Cond.instanceMethod yX1_act ∈ lw_tbl := List.mem_of_getElem? (i := 370) (by decide +kernel)
theorem iw_v_yX1_act : Cond.selects RX1 yX1_act yX1_act ∈ lw_tbl := List.mem_of_getElem? (i := 17) (by decide +kernel)
theorem iw_c_yX1_step : Cond.code yX1_step cX1_step 1 (some .int) ∈ lw_tbl := List.mem_of_getElem? (i := 367) (by decide +kernel)
theorem iw_i_yX1_step : Cond.instanceMethod yX1_step ∈ lw_tbl := List.mem_of_getElem? (i := 365) (by decide +kernel)
theorem iw_v_yX1_step : Cond.selects RX1 yX1_step yX1_step ∈ lw_tbl := List.mem_of_getElem? (i := 366) (by decide +kernel)
theorem iw_c_yX1_run : Cond.code yX1_run cX1_run 3 (some .int) ∈ lw_tbl := List.mem_of_getElem? (i := 396) (by decide +kernel)
theorem iw_i_yX1_run : Cond.instanceMethod yX1_run ∈ lw_tbl := List.mem_of_getElem? (i := 394) (by decide +kernel)
theorem iw_v_yX1_run : Cond.selects RX1 yX1_run yX1_run ∈ lw_tbl := List.mem_of_getElem? (i := 395) (by decide +kernel)
theorem iw_c_yX1_doWord : Cond.code yX1_doWord cX1_doWord 2 (some .int) ∈ lw_tbl := List.mem_of_getElem? (i := 401) (by decide +kernel)
theorem iw_i_yX1_doWord : Cond.instanceMethod yX1_doWord ∈ lw_tbl := List.mem_of_getElem? (i := 399) (by decide +kernel)
theorem iw_v_yX1_doWord : Cond.selects RX1 yX1_doWord yX1_doWord ∈ lw_tbl := List.mem_of_getElem? (i := 400) (by decide +kernel)
theorem iw_c_yX1_told : Cond.code yX1_told cX1_told 2 (some .int) ∈ lw_tbl := List.mem_of_getElem? (i := 405) (by decide +kernel)
theorem iw_i_yX1_told : Cond.instanceMethod yX1_told ∈ lw_tbl := List.mem_of_getElem? (i := 403) (by decide +kernel)
theorem iw_v_yX1_told : Cond.selects RX1 yX1_told yX1_told ∈ lw_tbl := List.mem_of_getElem? (i := 404) (by decide +kernel)
theorem iw_m_X0_3 : Cond.methodLink RX0 3 objectInit ∈ lw_tbl := List.mem_of_getElem? (i := 31) (by decide +kernel)
theorem iw_f_X0_9 : Cond.fieldLink RX0 9 "WordUnit" "memory" "[I" ∈ lw_tbl := List.mem_of_getElem? (i := 34) (by decide +kernel)
theorem iw_f_X0_13 : Cond.fieldLink RX0 13 "WordUnit" "registers" "[I" ∈ lw_tbl := List.mem_of_getElem? (i := 35) (by decide +kernel)
theorem iw_f_X0_16 : Cond.fieldLink RX0 16 "WordUnit" "pc" "I" ∈ lw_tbl := List.mem_of_getElem? (i := 36) (by decide +kernel)
theorem iw_f_X0_20 : Cond.fieldLink RX0 20 "WordUnit" "lastException" "I" ∈ lw_tbl := List.mem_of_getElem? (i := 37) (by decide +kernel)
theorem iw_f_X0_23 : Cond.fieldLink RX0 23 "WordUnit" "lastValue" "I" ∈ lw_tbl := List.mem_of_getElem? (i := 38) (by decide +kernel)
theorem iw_f_X0_26 : Cond.fieldLink RX0 26 "WordUnit" "doneInAll" "I" ∈ lw_tbl := List.mem_of_getElem? (i := 39) (by decide +kernel)
theorem iw_m_X0_29 : Cond.methodLink RX0 29 yX0_isMultipleOf4 ∈ lw_tbl := List.mem_of_getElem? (i := 58) (by decide +kernel)
theorem iw_m_X0_33 : Cond.methodLink RX0 33 yX0_setWordAt ∈ lw_tbl := List.mem_of_getElem? (i := 61) (by decide +kernel)
theorem iw_m_X0_37 : Cond.methodLink RX0 37 yX0_wordAround ∈ lw_tbl := List.mem_of_getElem? (i := 72) (by decide +kernel)
theorem iw_m_X0_41 : Cond.methodLink RX0 41 yX0_register ∈ lw_tbl := List.mem_of_getElem? (i := 80) (by decide +kernel)
theorem iw_m_X0_44 : Cond.methodLink RX0 44 yX0_setRegister ∈ lw_tbl := List.mem_of_getElem? (i := 84) (by decide +kernel)
theorem iw_m_X0_47 : Cond.methodLink RX0 47 yX0_doStep ∈ lw_tbl := List.mem_of_getElem? (i := 100) (by decide +kernel)
theorem iw_m_X0_51 : Cond.methodLink RX0 51 yX0_perform ∈ lw_tbl := List.mem_of_getElem? (i := 108) (by decide +kernel)
theorem iw_m_X0_54 : Cond.methodLink RX0 54 yX0_fieldOp ∈ lw_tbl := List.mem_of_getElem? (i := 118) (by decide +kernel)
theorem iw_m_X0_57 : Cond.methodLink RX0 57 yX0_fieldD ∈ lw_tbl := List.mem_of_getElem? (i := 137) (by decide +kernel)
theorem iw_m_X0_60 : Cond.methodLink RX0 60 yX0_fieldF ∈ lw_tbl := List.mem_of_getElem? (i := 115) (by decide +kernel)
theorem iw_m_X0_63 : Cond.methodLink RX0 63 yX0_fieldA ∈ lw_tbl := List.mem_of_getElem? (i := 144) (by decide +kernel)
theorem iw_m_X0_66 : Cond.methodLink RX0 66 yX0_fieldB ∈ lw_tbl := List.mem_of_getElem? (i := 154) (by decide +kernel)
theorem iw_m_X0_69 : Cond.methodLink RX0 69 yX0_fieldG ∈ lw_tbl := List.mem_of_getElem? (i := 121) (by decide +kernel)
theorem iw_m_X0_72 : Cond.methodLink RX0 72 yX0_numberI ∈ lw_tbl := List.mem_of_getElem? (i := 147) (by decide +kernel)
theorem iw_m_X0_75 : Cond.methodLink RX0 75 yX0_numberT ∈ lw_tbl := List.mem_of_getElem? (i := 185) (by decide +kernel)
theorem iw_m_X0_78 : Cond.methodLink RX0 78 yX0_numberB ∈ lw_tbl := List.mem_of_getElem? (i := 164) (by decide +kernel)
theorem iw_m_X0_81 : Cond.methodLink RX0 81 yX0_numberH ∈ lw_tbl := List.mem_of_getElem? (i := 194) (by decide +kernel)
theorem iw_m_X0_84 : Cond.methodLink RX0 84 yX0_numberJ ∈ lw_tbl := List.mem_of_getElem? (i := 130) (by decide +kernel)
theorem iw_m_X0_87 : Cond.methodLink RX0 87 yX0_isNamed ∈ lw_tbl := List.mem_of_getElem? (i := 112) (by decide +kernel)
theorem iw_m_X0_90 : Cond.methodLink RX0 90 yX0_result ∈ lw_tbl := List.mem_of_getElem? (i := 191) (by decide +kernel)
theorem iw_m_X0_94 : Cond.methodLink RX0 94 yX0_isOfMemory ∈ lw_tbl := List.mem_of_getElem? (i := 65) (by decide +kernel)
theorem iw_m_X0_97 : Cond.methodLink RX0 97 yX0_tell ∈ lw_tbl := List.mem_of_getElem? (i := 104) (by decide +kernel)
theorem iw_m_X0_101 : Cond.methodLink RX0 101 yX0_jump ∈ lw_tbl := List.mem_of_getElem? (i := 133) (by decide +kernel)
theorem iw_m_X0_104 : Cond.methodLink RX0 104 yX0_branch ∈ lw_tbl := List.mem_of_getElem? (i := 150) (by decide +kernel)
theorem iw_m_X0_107 : Cond.methodLink RX0 107 yX0_load ∈ lw_tbl := List.mem_of_getElem? (i := 167) (by decide +kernel)
theorem iw_m_X0_110 : Cond.methodLink RX0 110 yX0_store ∈ lw_tbl := List.mem_of_getElem? (i := 181) (by decide +kernel)
theorem iw_m_X0_113 : Cond.methodLink RX0 113 yX0_finish ∈ lw_tbl := List.mem_of_getElem? (i := 140) (by decide +kernel)
theorem iw_m_X0_116 : Cond.methodLink RX0 116 yX0_isTaken ∈ lw_tbl := List.mem_of_getElem? (i := 157) (by decide +kernel)
theorem iw_m_X0_120 : Cond.methodLink RX0 120 yX0_isLessU ∈ lw_tbl := List.mem_of_getElem? (i := 160) (by decide +kernel)
theorem iw_m_X0_124 : Cond.methodLink RX0 124 yX0_isAligned ∈ lw_tbl := List.mem_of_getElem? (i := 171) (by decide +kernel)
theorem iw_m_X0_127 : Cond.methodLink RX0 127 yX0_bitsBelow ∈ lw_tbl := List.mem_of_getElem? (i := 174) (by decide +kernel)
theorem iw_m_X0_130 : Cond.methodLink RX0 130 yX0_loaded ∈ lw_tbl := List.mem_of_getElem? (i := 177) (by decide +kernel)
theorem iw_k_X0_133 : Cond.constant RX0 133 (65535) ∈ lw_tbl := List.mem_of_getElem? (i := 180) (by decide +kernel)
theorem iw_m_X0_134 : Cond.methodLink RX0 134 yX0_storedMask ∈ lw_tbl := List.mem_of_getElem? (i := 188) (by decide +kernel)
theorem iw_m_X0_137 : Cond.methodLink RX0 137 yX0_isNamedWithNumber ∈ lw_tbl := List.mem_of_getElem? (i := 124) (by decide +kernel)
theorem iw_m_X0_140 : Cond.methodLink RX0 140 yX0_isNamedWithRegisters ∈ lw_tbl := List.mem_of_getElem? (i := 127) (by decide +kernel)
theorem iw_m_X0_143 : Cond.methodLink RX0 143 yX0_resultWithNumber ∈ lw_tbl := List.mem_of_getElem? (i := 197) (by decide +kernel)
theorem iw_m_X0_146 : Cond.methodLink RX0 146 yX0_resultWithRegisters ∈ lw_tbl := List.mem_of_getElem? (i := 203) (by decide +kernel)
theorem iw_m_X0_150 : Cond.methodLink RX0 150 yX0_plain ∈ lw_tbl := List.mem_of_getElem? (i := 200) (by decide +kernel)
theorem iw_m_X0_153 : Cond.methodLink RX0 153 yX0_productOrQuotient ∈ lw_tbl := List.mem_of_getElem? (i := 206) (by decide +kernel)
theorem iw_m_X0_156 : Cond.methodLink RX0 156 yX0_upper ∈ lw_tbl := List.mem_of_getElem? (i := 209) (by decide +kernel)
theorem iw_m_X0_160 : Cond.methodLink RX0 160 yX0_unsigned ∈ lw_tbl := List.mem_of_getElem? (i := 212) (by decide +kernel)
theorem iw_m_X0_164 : Cond.methodLink RX0 164 yX0_quotient ∈ lw_tbl := List.mem_of_getElem? (i := 216) (by decide +kernel)
theorem iw_m_X0_168 : Cond.methodLink RX0 168 yX0_rest ∈ lw_tbl := List.mem_of_getElem? (i := 220) (by decide +kernel)
theorem iw_k_X0_171 : Cond.constantLong RX0 171 (-1) ∈ lw_tbl := List.mem_of_getElem? (i := 219) (by decide +kernel)
theorem iw_k_X0_173 : Cond.constantLong RX0 173 (4294967295) ∈ lw_tbl := List.mem_of_getElem? (i := 215) (by decide +kernel)
theorem iw_k_X0_175 : Cond.constant RX0 175 (-2147483648) ∈ lw_tbl := List.mem_of_getElem? (i := 163) (by decide +kernel)
theorem iw_m_X1_1 : Cond.methodLink RX1 1 objectInit ∈ lw_tbl := List.mem_of_getElem? (i := 248) (by decide +kernel)
theorem iw_f_X1_7 : Cond.fieldLink RX1 7 "WordUnitModel" "memory" "[I" ∈ lw_tbl := List.mem_of_getElem? (i := 249) (by decide +kernel)
theorem iw_f_X1_13 : Cond.fieldLink RX1 13 "WordUnitModel" "x" "[I" ∈ lw_tbl := List.mem_of_getElem? (i := 250) (by decide +kernel)
theorem iw_f_X1_16 : Cond.fieldLink RX1 16 "WordUnitModel" "exception" "I" ∈ lw_tbl := List.mem_of_getElem? (i := 252) (by decide +kernel)
theorem iw_k_X1_23 : Cond.constantLong RX1 23 (4294967295) ∈ lw_tbl := List.mem_of_getElem? (i := 277) (by decide +kernel)
theorem iw_k_X1_25 : Cond.constantLong RX1 25 (2) ∈ lw_tbl := List.mem_of_getElem? (i := 278) (by decide +kernel)
theorem iw_m_X1_27 : Cond.methodLink RX1 27 yX1_bits ∈ lw_tbl := List.mem_of_getElem? (i := 274) (by decide +kernel)
theorem iw_m_X1_31 : Cond.methodLink RX1 31 yX1_signed ∈ lw_tbl := List.mem_of_getElem? (i := 279) (by decide +kernel)
theorem iw_k_X1_35 : Cond.constant RX1 35 (1048576) ∈ lw_tbl := List.mem_of_getElem? (i := 282) (by decide +kernel)
theorem iw_m_X1_36 : Cond.methodLink RX1 36 yX1_isNamed ∈ lw_tbl := List.mem_of_getElem? (i := 283) (by decide +kernel)
theorem iw_m_X1_40 : Cond.methodLink RX1 40 yX1_field ∈ lw_tbl := List.mem_of_getElem? (i := 287) (by decide +kernel)
theorem iw_k_X1_43 : Cond.constantLong RX1 43 (4294967296) ∈ lw_tbl := List.mem_of_getElem? (i := 310) (by decide +kernel)
theorem iw_m_X1_45 : Cond.methodLink RX1 45 yX1_unsigned ∈ lw_tbl := List.mem_of_getElem? (i := 307) (by decide +kernel)
theorem iw_k_X1_49 : Cond.constantLong RX1 49 (65536) ∈ lw_tbl := List.mem_of_getElem? (i := 305) (by decide +kernel)
theorem iw_k_X1_51 : Cond.constantLong RX1 51 (65535) ∈ lw_tbl := List.mem_of_getElem? (i := 306) (by decide +kernel)
theorem iw_m_X1_53 : Cond.methodLink RX1 53 yX1_upper ∈ lw_tbl := List.mem_of_getElem? (i := 302) (by decide +kernel)
theorem iw_m_X1_57 : Cond.methodLink RX1 57 yX1_quotient ∈ lw_tbl := List.mem_of_getElem? (i := 311) (by decide +kernel)
theorem iw_m_X1_60 : Cond.methodLink RX1 60 yX1_rest ∈ lw_tbl := List.mem_of_getElem? (i := 314) (by decide +kernel)
theorem iw_m_X1_63 : Cond.methodLink RX1 63 yX1_product ∈ lw_tbl := List.mem_of_getElem? (i := 299) (by decide +kernel)
theorem iw_k_X1_66 : Cond.constantLong RX1 66 (32) ∈ lw_tbl := List.mem_of_getElem? (i := 317) (by decide +kernel)
theorem iw_m_X1_68 : Cond.methodLink RX1 68 yX1_left ∈ lw_tbl := List.mem_of_getElem? (i := 318) (by decide +kernel)
theorem iw_m_X1_71 : Cond.methodLink RX1 71 yX1_right ∈ lw_tbl := List.mem_of_getElem? (i := 321) (by decide +kernel)
theorem iw_m_X1_75 : Cond.methodLink RX1 75 yX1_plain ∈ lw_tbl := List.mem_of_getElem? (i := 324) (by decide +kernel)
theorem iw_m_X1_78 : Cond.methodLink RX1 78 yX1_isArithmetic ∈ lw_tbl := List.mem_of_getElem? (i := 292) (by decide +kernel)
theorem iw_m_X1_81 : Cond.methodLink RX1 81 yX1_puts ∈ lw_tbl := List.mem_of_getElem? (i := 295) (by decide +kernel)
theorem iw_k_X1_85 : Cond.constantLong RX1 85 (4096) ∈ lw_tbl := List.mem_of_getElem? (i := 334) (by decide +kernel)
theorem iw_k_X1_87 : Cond.constantLong RX1 87 (256) ∈ lw_tbl := List.mem_of_getElem? (i := 347) (by decide +kernel)
theorem iw_m_X1_89 : Cond.methodLink RX1 89 yX1_isThere ∈ lw_tbl := List.mem_of_getElem? (i := 331) (by decide +kernel)
theorem iw_m_X1_93 : Cond.methodLink RX1 93 yX1_write ∈ lw_tbl := List.mem_of_getElem? (i := 335) (by decide +kernel)
theorem iw_m_X1_97 : Cond.methodLink RX1 97 yX1_read ∈ lw_tbl := List.mem_of_getElem? (i := 343) (by decide +kernel)
theorem iw_m_X1_100 : Cond.methodLink RX1 100 yX1_set ∈ lw_tbl := List.mem_of_getElem? (i := 352) (by decide +kernel)
theorem iw_f_X1_104 : Cond.fieldLink RX1 104 "WordUnitModel" "pc" "I" ∈ lw_tbl := List.mem_of_getElem? (i := 251) (by decide +kernel)
theorem iw_f_X1_107 : Cond.fieldLink RX1 107 "WordUnitModel" "value" "I" ∈ lw_tbl := List.mem_of_getElem? (i := 253) (by decide +kernel)
theorem iw_f_X1_110 : Cond.fieldLink RX1 110 "WordUnitModel" "done" "I" ∈ lw_tbl := List.mem_of_getElem? (i := 254) (by decide +kernel)
theorem iw_m_X1_113 : Cond.methodLink RX1 113 yX1_holds ∈ lw_tbl := List.mem_of_getElem? (i := 381) (by decide +kernel)
theorem iw_m_X1_117 : Cond.methodLink RX1 117 yX1_finish ∈ lw_tbl := List.mem_of_getElem? (i := 385) (by decide +kernel)
theorem iw_m_X1_121 : Cond.methodLink RX1 121 yX1_fail ∈ lw_tbl := List.mem_of_getElem? (i := 373) (by decide +kernel)
theorem iw_k_X1_124 : Cond.constantLong RX1 124 (4) ∈ lw_tbl := List.mem_of_getElem? (i := 372) (by decide +kernel)
theorem iw_m_X1_126 : Cond.methodLink RX1 126 yX1_jump ∈ lw_tbl := List.mem_of_getElem? (i := 377) (by decide +kernel)
theorem iw_m_X1_129 : Cond.methodLink RX1 129 yX1_access ∈ lw_tbl := List.mem_of_getElem? (i := 389) (by decide +kernel)
theorem iw_m_X1_132 : Cond.methodLink RX1 132 yX1_act ∈ lw_tbl := List.mem_of_getElem? (i := 368) (by decide +kernel)
theorem iw_m_X1_135 : Cond.methodLink RX1 135 yX1_step ∈ lw_tbl := List.mem_of_getElem? (i := 397) (by decide +kernel)
theorem iw_n_L_7 : Cond.classLink R_law 7 RX0 ∈ lw_tbl := List.mem_of_getElem? (i := 26) (by decide +kernel)
theorem iw_m_L_9 : Cond.methodLink R_law 9 yX0_init ∈ lw_tbl := List.mem_of_getElem? (i := 28) (by decide +kernel)
theorem iw_n_L_10 : Cond.classLink R_law 10 RX1 ∈ lw_tbl := List.mem_of_getElem? (i := 243) (by decide +kernel)
theorem iw_m_L_12 : Cond.methodLink R_law 12 yX1_init ∈ lw_tbl := List.mem_of_getElem? (i := 245) (by decide +kernel)
theorem iw_m_L_13 : Cond.methodLink R_law 13 yX0_poke ∈ lw_tbl := List.mem_of_getElem? (i := 54) (by decide +kernel)
theorem iw_m_L_17 : Cond.methodLink R_law 17 yX1_poke ∈ lw_tbl := List.mem_of_getElem? (i := 327) (by decide +kernel)
theorem iw_m_L_18 : Cond.methodLink R_law 18 yX0_word ∈ lw_tbl := List.mem_of_getElem? (i := 68) (by decide +kernel)
theorem iw_m_L_22 : Cond.methodLink R_law 22 yX1_word ∈ lw_tbl := List.mem_of_getElem? (i := 339) (by decide +kernel)
theorem iw_m_L_23 : Cond.methodLink R_law 23 yX0_put ∈ lw_tbl := List.mem_of_getElem? (i := 76) (by decide +kernel)
theorem iw_m_L_27 : Cond.methodLink R_law 27 yX1_put ∈ lw_tbl := List.mem_of_getElem? (i := 348) (by decide +kernel)
theorem iw_m_L_28 : Cond.methodLink R_law 28 yX0_get ∈ lw_tbl := List.mem_of_getElem? (i := 88) (by decide +kernel)
theorem iw_m_L_31 : Cond.methodLink R_law 31 yX1_get ∈ lw_tbl := List.mem_of_getElem? (i := 356) (by decide +kernel)
theorem iw_m_L_32 : Cond.methodLink R_law 32 yX0_go ∈ lw_tbl := List.mem_of_getElem? (i := 92) (by decide +kernel)
theorem iw_m_L_35 : Cond.methodLink R_law 35 yX1_go ∈ lw_tbl := List.mem_of_getElem? (i := 360) (by decide +kernel)
theorem iw_m_L_36 : Cond.methodLink R_law 36 yX0_step ∈ lw_tbl := List.mem_of_getElem? (i := 96) (by decide +kernel)
theorem iw_m_L_40 : Cond.methodLink R_law 40 yX1_step ∈ lw_tbl := List.mem_of_getElem? (i := 364) (by decide +kernel)
theorem iw_m_L_41 : Cond.methodLink R_law 41 yX0_run ∈ lw_tbl := List.mem_of_getElem? (i := 223) (by decide +kernel)
theorem iw_m_L_44 : Cond.methodLink R_law 44 yX1_run ∈ lw_tbl := List.mem_of_getElem? (i := 393) (by decide +kernel)
theorem iw_m_L_45 : Cond.methodLink R_law 45 yX0_doWord ∈ lw_tbl := List.mem_of_getElem? (i := 227) (by decide +kernel)
theorem iw_m_L_48 : Cond.methodLink R_law 48 yX1_doWord ∈ lw_tbl := List.mem_of_getElem? (i := 398) (by decide +kernel)
theorem iw_m_L_49 : Cond.methodLink R_law 49 yX0_told ∈ lw_tbl := List.mem_of_getElem? (i := 231) (by decide +kernel)
theorem iw_m_L_52 : Cond.methodLink R_law 52 yX1_told ∈ lw_tbl := List.mem_of_getElem? (i := 402) (by decide +kernel)
theorem iw_m_L_53 : Cond.methodLink R_law 53 yX0_field ∈ lw_tbl := List.mem_of_getElem? (i := 235) (by decide +kernel)
theorem iw_m_L_56 : Cond.methodLink R_law 56 yX1_field ∈ lw_tbl := List.mem_of_getElem? (i := 270) (by decide +kernel)
theorem iw_m_L_57 : Cond.methodLink R_law 57 yX0_reckon ∈ lw_tbl := List.mem_of_getElem? (i := 239) (by decide +kernel)
theorem iw_m_L_61 : Cond.methodLink R_law 61 yX1_reckon ∈ lw_tbl := List.mem_of_getElem? (i := 288) (by decide +kernel)
theorem gw_X0_29 : GoodIn lw_tbl (va_wsS RX0 29 yX0_isMultipleOf4 wsX0_isMultipleOf4) := jg_S iw_m_X0_29 iw_s_yX0_isMultipleOf4 iw_ini_X0 iw_c_yX0_isMultipleOf4
theorem gw_X0_33 : GoodIn lw_tbl (wsV RX0 33 RX0 yX0_setWordAt wsX0_setWordAt) := jg_V iw_m_X0_33 iw_i_yX0_setWordAt iw_v_yX0_setWordAt iw_ini_X0 iw_c_yX0_setWordAt
theorem gw_X0_37 : GoodIn lw_tbl (wsV RX0 37 RX0 yX0_wordAround wsX0_wordAround) := jg_V iw_m_X0_37 iw_i_yX0_wordAround iw_v_yX0_wordAround iw_ini_X0 iw_c_yX0_wordAround
theorem gw_X0_41 : GoodIn lw_tbl (wsV RX0 41 RX0 yX0_register wsX0_register) := jg_V iw_m_X0_41 iw_i_yX0_register iw_v_yX0_register iw_ini_X0 iw_c_yX0_register
theorem gw_X0_44 : GoodIn lw_tbl (wsV RX0 44 RX0 yX0_setRegister wsX0_setRegister) := jg_V iw_m_X0_44 iw_i_yX0_setRegister iw_v_yX0_setRegister iw_ini_X0 iw_c_yX0_setRegister
theorem gw_X0_47 : GoodIn lw_tbl (wsV RX0 47 RX0 yX0_doStep wsX0_doStep) := jg_V iw_m_X0_47 iw_i_yX0_doStep iw_v_yX0_doStep iw_ini_X0 iw_c_yX0_doStep
theorem gw_X0_51 : GoodIn lw_tbl (wsV RX0 51 RX0 yX0_perform wsX0_perform) := jg_V iw_m_X0_51 iw_i_yX0_perform iw_v_yX0_perform iw_ini_X0 iw_c_yX0_perform
theorem gw_X0_54 : GoodIn lw_tbl (va_wsS RX0 54 yX0_fieldOp wsX0_fieldOp) := jg_S iw_m_X0_54 iw_s_yX0_fieldOp iw_ini_X0 iw_c_yX0_fieldOp
theorem gw_X0_57 : GoodIn lw_tbl (va_wsS RX0 57 yX0_fieldD wsX0_fieldD) := jg_S iw_m_X0_57 iw_s_yX0_fieldD iw_ini_X0 iw_c_yX0_fieldD
theorem gw_X0_60 : GoodIn lw_tbl (va_wsS RX0 60 yX0_fieldF wsX0_fieldF) := jg_S iw_m_X0_60 iw_s_yX0_fieldF iw_ini_X0 iw_c_yX0_fieldF
theorem gw_X0_63 : GoodIn lw_tbl (va_wsS RX0 63 yX0_fieldA wsX0_fieldA) := jg_S iw_m_X0_63 iw_s_yX0_fieldA iw_ini_X0 iw_c_yX0_fieldA
theorem gw_X0_66 : GoodIn lw_tbl (va_wsS RX0 66 yX0_fieldB wsX0_fieldB) := jg_S iw_m_X0_66 iw_s_yX0_fieldB iw_ini_X0 iw_c_yX0_fieldB
theorem gw_X0_69 : GoodIn lw_tbl (va_wsS RX0 69 yX0_fieldG wsX0_fieldG) := jg_S iw_m_X0_69 iw_s_yX0_fieldG iw_ini_X0 iw_c_yX0_fieldG
theorem gw_X0_72 : GoodIn lw_tbl (va_wsS RX0 72 yX0_numberI wsX0_numberI) := jg_S iw_m_X0_72 iw_s_yX0_numberI iw_ini_X0 iw_c_yX0_numberI
theorem gw_X0_75 : GoodIn lw_tbl (va_wsS RX0 75 yX0_numberT wsX0_numberT) := jg_S iw_m_X0_75 iw_s_yX0_numberT iw_ini_X0 iw_c_yX0_numberT
theorem gw_X0_78 : GoodIn lw_tbl (va_wsS RX0 78 yX0_numberB wsX0_numberB) := jg_S iw_m_X0_78 iw_s_yX0_numberB iw_ini_X0 iw_c_yX0_numberB
theorem gw_X0_81 : GoodIn lw_tbl (va_wsS RX0 81 yX0_numberH wsX0_numberH) := jg_S iw_m_X0_81 iw_s_yX0_numberH iw_ini_X0 iw_c_yX0_numberH
theorem gw_X0_84 : GoodIn lw_tbl (va_wsS RX0 84 yX0_numberJ wsX0_numberJ) := jg_S iw_m_X0_84 iw_s_yX0_numberJ iw_ini_X0 iw_c_yX0_numberJ
theorem gw_X0_87 : GoodIn lw_tbl (va_wsS RX0 87 yX0_isNamed wsX0_isNamed) := jg_S iw_m_X0_87 iw_s_yX0_isNamed iw_ini_X0 iw_c_yX0_isNamed
theorem gw_X0_90 : GoodIn lw_tbl (va_wsS RX0 90 yX0_result wsX0_result) := jg_S iw_m_X0_90 iw_s_yX0_result iw_ini_X0 iw_c_yX0_result
theorem gw_X0_94 : GoodIn lw_tbl (va_wsS RX0 94 yX0_isOfMemory wsX0_isOfMemory) := jg_S iw_m_X0_94 iw_s_yX0_isOfMemory iw_ini_X0 iw_c_yX0_isOfMemory
theorem gw_X0_97 : GoodIn lw_tbl (wsV RX0 97 RX0 yX0_tell wsX0_tell) := jg_V iw_m_X0_97 iw_i_yX0_tell iw_v_yX0_tell iw_ini_X0 iw_c_yX0_tell
theorem gw_X0_101 : GoodIn lw_tbl (wsV RX0 101 RX0 yX0_jump wsX0_jump) := jg_V iw_m_X0_101 iw_i_yX0_jump iw_v_yX0_jump iw_ini_X0 iw_c_yX0_jump
theorem gw_X0_104 : GoodIn lw_tbl (wsV RX0 104 RX0 yX0_branch wsX0_branch) := jg_V iw_m_X0_104 iw_i_yX0_branch iw_v_yX0_branch iw_ini_X0 iw_c_yX0_branch
theorem gw_X0_107 : GoodIn lw_tbl (wsV RX0 107 RX0 yX0_load wsX0_load) := jg_V iw_m_X0_107 iw_i_yX0_load iw_v_yX0_load iw_ini_X0 iw_c_yX0_load
theorem gw_X0_110 : GoodIn lw_tbl (wsV RX0 110 RX0 yX0_store wsX0_store) := jg_V iw_m_X0_110 iw_i_yX0_store iw_v_yX0_store iw_ini_X0 iw_c_yX0_store
theorem gw_X0_113 : GoodIn lw_tbl (wsV RX0 113 RX0 yX0_finish wsX0_finish) := jg_V iw_m_X0_113 iw_i_yX0_finish iw_v_yX0_finish iw_ini_X0 iw_c_yX0_finish
theorem gw_X0_116 : GoodIn lw_tbl (va_wsS RX0 116 yX0_isTaken wsX0_isTaken) := jg_S iw_m_X0_116 iw_s_yX0_isTaken iw_ini_X0 iw_c_yX0_isTaken
theorem gw_X0_120 : GoodIn lw_tbl (va_wsS RX0 120 yX0_isLessU wsX0_isLessU) := jg_S iw_m_X0_120 iw_s_yX0_isLessU iw_ini_X0 iw_c_yX0_isLessU
theorem gw_X0_124 : GoodIn lw_tbl (va_wsS RX0 124 yX0_isAligned wsX0_isAligned) := jg_S iw_m_X0_124 iw_s_yX0_isAligned iw_ini_X0 iw_c_yX0_isAligned
theorem gw_X0_127 : GoodIn lw_tbl (va_wsS RX0 127 yX0_bitsBelow wsX0_bitsBelow) := jg_S iw_m_X0_127 iw_s_yX0_bitsBelow iw_ini_X0 iw_c_yX0_bitsBelow
theorem gw_X0_130 : GoodIn lw_tbl (va_wsS RX0 130 yX0_loaded wsX0_loaded) := jg_S iw_m_X0_130 iw_s_yX0_loaded iw_ini_X0 iw_c_yX0_loaded
theorem gw_X0_134 : GoodIn lw_tbl (va_wsS RX0 134 yX0_storedMask wsX0_storedMask) := jg_S iw_m_X0_134 iw_s_yX0_storedMask iw_ini_X0 iw_c_yX0_storedMask
theorem gw_X0_137 : GoodIn lw_tbl (va_wsS RX0 137 yX0_isNamedWithNumber wsX0_isNamedWithNumber) := jg_S iw_m_X0_137 iw_s_yX0_isNamedWithNumber iw_ini_X0 iw_c_yX0_isNamedWithNumber
theorem gw_X0_140 : GoodIn lw_tbl (va_wsS RX0 140 yX0_isNamedWithRegisters wsX0_isNamedWithRegisters) := jg_S iw_m_X0_140 iw_s_yX0_isNamedWithRegisters iw_ini_X0 iw_c_yX0_isNamedWithRegisters
theorem gw_X0_143 : GoodIn lw_tbl (va_wsS RX0 143 yX0_resultWithNumber wsX0_resultWithNumber) := jg_S iw_m_X0_143 iw_s_yX0_resultWithNumber iw_ini_X0 iw_c_yX0_resultWithNumber
theorem gw_X0_146 : GoodIn lw_tbl (va_wsS RX0 146 yX0_resultWithRegisters wsX0_resultWithRegisters) := jg_S iw_m_X0_146 iw_s_yX0_resultWithRegisters iw_ini_X0 iw_c_yX0_resultWithRegisters
theorem gw_X0_150 : GoodIn lw_tbl (va_wsS RX0 150 yX0_plain wsX0_plain) := jg_S iw_m_X0_150 iw_s_yX0_plain iw_ini_X0 iw_c_yX0_plain
theorem gw_X0_153 : GoodIn lw_tbl (va_wsS RX0 153 yX0_productOrQuotient wsX0_productOrQuotient) := jg_S iw_m_X0_153 iw_s_yX0_productOrQuotient iw_ini_X0 iw_c_yX0_productOrQuotient
theorem gw_X0_156 : GoodIn lw_tbl (va_wsS RX0 156 yX0_upper wsX0_upper) := jg_S iw_m_X0_156 iw_s_yX0_upper iw_ini_X0 iw_c_yX0_upper
theorem gw_X0_160 : GoodIn lw_tbl (va_wsS RX0 160 yX0_unsigned wsX0_unsigned) := jg_S iw_m_X0_160 iw_s_yX0_unsigned iw_ini_X0 iw_c_yX0_unsigned
theorem gw_X0_164 : GoodIn lw_tbl (va_wsS RX0 164 yX0_quotient wsX0_quotient) := jg_S iw_m_X0_164 iw_s_yX0_quotient iw_ini_X0 iw_c_yX0_quotient
theorem gw_X0_168 : GoodIn lw_tbl (va_wsS RX0 168 yX0_rest wsX0_rest) := jg_S iw_m_X0_168 iw_s_yX0_rest iw_ini_X0 iw_c_yX0_rest
theorem gw_X1_27 : GoodIn lw_tbl (va_wsS RX1 27 yX1_bits wsX1_bits) := jg_S iw_m_X1_27 iw_s_yX1_bits iw_ini_X1 iw_c_yX1_bits
theorem gw_X1_31 : GoodIn lw_tbl (va_wsS RX1 31 yX1_signed wsX1_signed) := jg_S iw_m_X1_31 iw_s_yX1_signed iw_ini_X1 iw_c_yX1_signed
theorem gw_X1_36 : GoodIn lw_tbl (wsV RX1 36 RX1 yX1_isNamed wsX1_isNamed) := jg_V iw_m_X1_36 iw_i_yX1_isNamed iw_v_yX1_isNamed iw_ini_X1 iw_c_yX1_isNamed
theorem gw_X1_40 : GoodIn lw_tbl (wsV RX1 40 RX1 yX1_field wsX1_field) := jg_V iw_m_X1_40 iw_i_yX1_field iw_v_yX1_field iw_ini_X1 iw_c_yX1_field
theorem gw_X1_45 : GoodIn lw_tbl (va_wsS RX1 45 yX1_unsigned wsX1_unsigned) := jg_S iw_m_X1_45 iw_s_yX1_unsigned iw_ini_X1 iw_c_yX1_unsigned
theorem gw_X1_53 : GoodIn lw_tbl (va_wsS RX1 53 yX1_upper wsX1_upper) := jg_S iw_m_X1_53 iw_s_yX1_upper iw_ini_X1 iw_c_yX1_upper
theorem gw_X1_57 : GoodIn lw_tbl (va_wsS RX1 57 yX1_quotient wsX1_quotient) := jg_S iw_m_X1_57 iw_s_yX1_quotient iw_ini_X1 iw_c_yX1_quotient
theorem gw_X1_60 : GoodIn lw_tbl (va_wsS RX1 60 yX1_rest wsX1_rest) := jg_S iw_m_X1_60 iw_s_yX1_rest iw_ini_X1 iw_c_yX1_rest
theorem gw_X1_63 : GoodIn lw_tbl (va_wsS RX1 63 yX1_product wsX1_product) := jg_S iw_m_X1_63 iw_s_yX1_product iw_ini_X1 iw_c_yX1_product
theorem gw_X1_68 : GoodIn lw_tbl (va_wsS RX1 68 yX1_left wsX1_left) := jg_S iw_m_X1_68 iw_s_yX1_left iw_ini_X1 iw_c_yX1_left
theorem gw_X1_71 : GoodIn lw_tbl (va_wsS RX1 71 yX1_right wsX1_right) := jg_S iw_m_X1_71 iw_s_yX1_right iw_ini_X1 iw_c_yX1_right
theorem gw_X1_75 : GoodIn lw_tbl (va_wsS RX1 75 yX1_plain wsX1_plain) := jg_S iw_m_X1_75 iw_s_yX1_plain iw_ini_X1 iw_c_yX1_plain
theorem gw_X1_78 : GoodIn lw_tbl (va_wsS RX1 78 yX1_isArithmetic wsX1_isArithmetic) := jg_S iw_m_X1_78 iw_s_yX1_isArithmetic iw_ini_X1 iw_c_yX1_isArithmetic
theorem gw_X1_81 : GoodIn lw_tbl (wsV RX1 81 RX1 yX1_puts wsX1_puts) := jg_V iw_m_X1_81 iw_i_yX1_puts iw_v_yX1_puts iw_ini_X1 iw_c_yX1_puts
theorem gw_X1_89 : GoodIn lw_tbl (va_wsS RX1 89 yX1_isThere wsX1_isThere) := jg_S iw_m_X1_89 iw_s_yX1_isThere iw_ini_X1 iw_c_yX1_isThere
theorem gw_X1_93 : GoodIn lw_tbl (wsV RX1 93 RX1 yX1_write wsX1_write) := jg_V iw_m_X1_93 iw_i_yX1_write iw_v_yX1_write iw_ini_X1 iw_c_yX1_write
theorem gw_X1_97 : GoodIn lw_tbl (wsV RX1 97 RX1 yX1_read wsX1_read) := jg_V iw_m_X1_97 iw_i_yX1_read iw_v_yX1_read iw_ini_X1 iw_c_yX1_read
theorem gw_X1_100 : GoodIn lw_tbl (wsV RX1 100 RX1 yX1_set wsX1_set) := jg_V iw_m_X1_100 iw_i_yX1_set iw_v_yX1_set iw_ini_X1 iw_c_yX1_set
theorem gw_X1_113 : GoodIn lw_tbl (wsV RX1 113 RX1 yX1_holds wsX1_holds) := jg_V iw_m_X1_113 iw_i_yX1_holds iw_v_yX1_holds iw_ini_X1 iw_c_yX1_holds
theorem gw_X1_117 : GoodIn lw_tbl (wsV RX1 117 RX1 yX1_finish wsX1_finish) := jg_V iw_m_X1_117 iw_i_yX1_finish iw_v_yX1_finish iw_ini_X1 iw_c_yX1_finish
theorem gw_X1_121 : GoodIn lw_tbl (wsV RX1 121 RX1 yX1_fail wsX1_fail) := jg_V iw_m_X1_121 iw_i_yX1_fail iw_v_yX1_fail iw_ini_X1 iw_c_yX1_fail
theorem gw_X1_126 : GoodIn lw_tbl (wsV RX1 126 RX1 yX1_jump wsX1_jump) := jg_V iw_m_X1_126 iw_i_yX1_jump iw_v_yX1_jump iw_ini_X1 iw_c_yX1_jump
theorem gw_X1_129 : GoodIn lw_tbl (wsV RX1 129 RX1 yX1_access wsX1_access) := jg_V iw_m_X1_129 iw_i_yX1_access iw_v_yX1_access iw_ini_X1 iw_c_yX1_access
theorem gw_X1_132 : GoodIn lw_tbl (wsV RX1 132 RX1 yX1_act wsX1_act) := jg_V iw_m_X1_132 iw_i_yX1_act iw_v_yX1_act iw_ini_X1 iw_c_yX1_act
theorem gw_X1_135 : GoodIn lw_tbl (wsV RX1 135 RX1 yX1_step wsX1_step) := jg_V iw_m_X1_135 iw_i_yX1_step iw_v_yX1_step iw_ini_X1 iw_c_yX1_step
theorem gw_L_9 : GoodIn lw_tbl wsX0_init := jg_I iw_c_yX0_init
theorem gw_L_12 : GoodIn lw_tbl wsX1_init := jg_I iw_c_yX1_init
theorem gw_L_13 : GoodIn lw_tbl (wsV R_law 13 RX0 yX0_poke wsX0_poke) := jg_V iw_m_L_13 iw_i_yX0_poke iw_v_yX0_poke iw_ini_X0 iw_c_yX0_poke
theorem gw_L_17 : GoodIn lw_tbl (wsV R_law 17 RX1 yX1_poke wsX1_poke) := jg_V iw_m_L_17 iw_i_yX1_poke iw_v_yX1_poke iw_ini_X1 iw_c_yX1_poke
theorem gw_L_18 : GoodIn lw_tbl (wsV R_law 18 RX0 yX0_word wsX0_word) := jg_V iw_m_L_18 iw_i_yX0_word iw_v_yX0_word iw_ini_X0 iw_c_yX0_word
theorem gw_L_22 : GoodIn lw_tbl (wsV R_law 22 RX1 yX1_word wsX1_word) := jg_V iw_m_L_22 iw_i_yX1_word iw_v_yX1_word iw_ini_X1 iw_c_yX1_word
theorem gw_L_23 : GoodIn lw_tbl (wsV R_law 23 RX0 yX0_put wsX0_put) := jg_V iw_m_L_23 iw_i_yX0_put iw_v_yX0_put iw_ini_X0 iw_c_yX0_put
theorem gw_L_27 : GoodIn lw_tbl (wsV R_law 27 RX1 yX1_put wsX1_put) := jg_V iw_m_L_27 iw_i_yX1_put iw_v_yX1_put iw_ini_X1 iw_c_yX1_put
theorem gw_L_28 : GoodIn lw_tbl (wsV R_law 28 RX0 yX0_get wsX0_get) := jg_V iw_m_L_28 iw_i_yX0_get iw_v_yX0_get iw_ini_X0 iw_c_yX0_get
theorem gw_L_31 : GoodIn lw_tbl (wsV R_law 31 RX1 yX1_get wsX1_get) := jg_V iw_m_L_31 iw_i_yX1_get iw_v_yX1_get iw_ini_X1 iw_c_yX1_get
theorem gw_L_32 : GoodIn lw_tbl (wsV R_law 32 RX0 yX0_go wsX0_go) := jg_V iw_m_L_32 iw_i_yX0_go iw_v_yX0_go iw_ini_X0 iw_c_yX0_go
theorem gw_L_35 : GoodIn lw_tbl (wsV R_law 35 RX1 yX1_go wsX1_go) := jg_V iw_m_L_35 iw_i_yX1_go iw_v_yX1_go iw_ini_X1 iw_c_yX1_go
theorem gw_L_36 : GoodIn lw_tbl (wsV R_law 36 RX0 yX0_step wsX0_step) := jg_V iw_m_L_36 iw_i_yX0_step iw_v_yX0_step iw_ini_X0 iw_c_yX0_step
theorem gw_L_40 : GoodIn lw_tbl (wsV R_law 40 RX1 yX1_step wsX1_step) := jg_V iw_m_L_40 iw_i_yX1_step iw_v_yX1_step iw_ini_X1 iw_c_yX1_step
theorem gw_L_41 : GoodIn lw_tbl (wsV R_law 41 RX0 yX0_run wsX0_run) := jg_V iw_m_L_41 iw_i_yX0_run iw_v_yX0_run iw_ini_X0 iw_c_yX0_run
theorem gw_L_44 : GoodIn lw_tbl (wsV R_law 44 RX1 yX1_run wsX1_run) := jg_V iw_m_L_44 iw_i_yX1_run iw_v_yX1_run iw_ini_X1 iw_c_yX1_run
theorem gw_L_45 : GoodIn lw_tbl (wsV R_law 45 RX0 yX0_doWord wsX0_doWord) := jg_V iw_m_L_45 iw_i_yX0_doWord iw_v_yX0_doWord iw_ini_X0 iw_c_yX0_doWord
theorem gw_L_48 : GoodIn lw_tbl (wsV R_law 48 RX1 yX1_doWord wsX1_doWord) := jg_V iw_m_L_48 iw_i_yX1_doWord iw_v_yX1_doWord iw_ini_X1 iw_c_yX1_doWord
theorem gw_L_49 : GoodIn lw_tbl (wsV R_law 49 RX0 yX0_told wsX0_told) := jg_V iw_m_L_49 iw_i_yX0_told iw_v_yX0_told iw_ini_X0 iw_c_yX0_told
theorem gw_L_52 : GoodIn lw_tbl (wsV R_law 52 RX1 yX1_told wsX1_told) := jg_V iw_m_L_52 iw_i_yX1_told iw_v_yX1_told iw_ini_X1 iw_c_yX1_told
theorem gw_L_53 : GoodIn lw_tbl (wsV R_law 53 RX0 yX0_field wsX0_field) := jg_V iw_m_L_53 iw_i_yX0_field iw_v_yX0_field iw_ini_X0 iw_c_yX0_field
theorem gw_L_56 : GoodIn lw_tbl (wsV R_law 56 RX1 yX1_field wsX1_field) := jg_V iw_m_L_56 iw_i_yX1_field iw_v_yX1_field iw_ini_X1 iw_c_yX1_field
theorem gw_L_57 : GoodIn lw_tbl (wsV R_law 57 RX0 yX0_reckon wsX0_reckon) := jg_V iw_m_L_57 iw_i_yX0_reckon iw_v_yX0_reckon iw_ini_X0 iw_c_yX0_reckon
theorem gw_L_61 : GoodIn lw_tbl (wsV R_law 61 RX1 yX1_reckon wsX1_reckon) := jg_V iw_m_L_61 iw_i_yX1_reckon iw_v_yX1_reckon iw_ini_X1 iw_c_yX1_reckon
