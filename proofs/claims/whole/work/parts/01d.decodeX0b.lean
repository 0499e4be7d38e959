theorem dX0_numberB_24 : decode cX0_numberB 24 = .ok (.bipush 31, 2) := by decide +kernel
theorem dX0_numberB_26 : decode cX0_numberB 26 = .ok (.ishr, 1) := by decide +kernel
theorem dX0_numberB_27 : decode cX0_numberB 27 = .ok (.bipush 12, 2) := by decide +kernel
theorem dX0_numberB_29 : decode cX0_numberB 29 = .ok (.ishl, 1) := by decide +kernel
theorem dX0_numberB_30 : decode cX0_numberB 30 = .ok (.iload_n 1, 1) := by decide +kernel
theorem dX0_numberB_31 : decode cX0_numberB 31 = .ok (.bipush 11, 2) := by decide +kernel
theorem dX0_numberB_33 : decode cX0_numberB 33 = .ok (.ishl, 1) := by decide +kernel
theorem dX0_numberB_34 : decode cX0_numberB 34 = .ok (.ior, 1) := by decide +kernel
theorem dX0_numberB_35 : decode cX0_numberB 35 = .ok (.iload_n 2, 1) := by decide +kernel
theorem dX0_numberB_36 : decode cX0_numberB 36 = .ok (.iconst 5, 1) := by decide +kernel
theorem dX0_numberB_37 : decode cX0_numberB 37 = .ok (.ishl, 1) := by decide +kernel
theorem dX0_numberB_38 : decode cX0_numberB 38 = .ok (.ior, 1) := by decide +kernel
theorem dX0_numberB_39 : decode cX0_numberB 39 = .ok (.iload_n 3, 1) := by decide +kernel
theorem dX0_numberB_40 : decode cX0_numberB 40 = .ok (.iconst 1, 1) := by decide +kernel
theorem dX0_numberB_41 : decode cX0_numberB 41 = .ok (.ishl, 1) := by decide +kernel
theorem dX0_numberB_42 : decode cX0_numberB 42 = .ok (.ior, 1) := by decide +kernel
theorem dX0_numberB_43 : decode cX0_numberB 43 = .ok (.ireturn, 1) := by decide +kernel
theorem dX0_numberH_0 : decode cX0_numberH 0 = .ok (.iload_n 0, 1) := by decide +kernel
theorem dX0_numberH_1 : decode cX0_numberH 1 = .ok (.sipush (-4096), 3) := by decide +kernel
theorem dX0_numberH_4 : decode cX0_numberH 4 = .ok (.iand, 1) := by decide +kernel
theorem dX0_numberH_5 : decode cX0_numberH 5 = .ok (.ireturn, 1) := by decide +kernel
theorem dX0_numberJ_0 : decode cX0_numberJ 0 = .ok (.iload_n 0, 1) := by decide +kernel
theorem dX0_numberJ_1 : decode cX0_numberJ 1 = .ok (.bipush 12, 2) := by decide +kernel
theorem dX0_numberJ_3 : decode cX0_numberJ 3 = .ok (.iushr, 1) := by decide +kernel
theorem dX0_numberJ_4 : decode cX0_numberJ 4 = .ok (.sipush 255, 3) := by decide +kernel
theorem dX0_numberJ_7 : decode cX0_numberJ 7 = .ok (.iand, 1) := by decide +kernel
theorem dX0_numberJ_8 : decode cX0_numberJ 8 = .ok (.istore_n 1, 1) := by decide +kernel
theorem dX0_numberJ_9 : decode cX0_numberJ 9 = .ok (.iload_n 0, 1) := by decide +kernel
theorem dX0_numberJ_10 : decode cX0_numberJ 10 = .ok (.bipush 20, 2) := by decide +kernel
theorem dX0_numberJ_12 : decode cX0_numberJ 12 = .ok (.iushr, 1) := by decide +kernel
theorem dX0_numberJ_13 : decode cX0_numberJ 13 = .ok (.iconst 1, 1) := by decide +kernel
theorem dX0_numberJ_14 : decode cX0_numberJ 14 = .ok (.iand, 1) := by decide +kernel
theorem dX0_numberJ_15 : decode cX0_numberJ 15 = .ok (.istore_n 2, 1) := by decide +kernel
theorem dX0_numberJ_16 : decode cX0_numberJ 16 = .ok (.iload_n 0, 1) := by decide +kernel
theorem dX0_numberJ_17 : decode cX0_numberJ 17 = .ok (.bipush 21, 2) := by decide +kernel
theorem dX0_numberJ_19 : decode cX0_numberJ 19 = .ok (.iushr, 1) := by decide +kernel
theorem dX0_numberJ_20 : decode cX0_numberJ 20 = .ok (.sipush 1023, 3) := by decide +kernel
theorem dX0_numberJ_23 : decode cX0_numberJ 23 = .ok (.iand, 1) := by decide +kernel
theorem dX0_numberJ_24 : decode cX0_numberJ 24 = .ok (.istore_n 3, 1) := by decide +kernel
theorem dX0_numberJ_25 : decode cX0_numberJ 25 = .ok (.iload_n 0, 1) := by decide +kernel
theorem dX0_numberJ_26 : decode cX0_numberJ 26 = .ok (.bipush 31, 2) := by decide +kernel
theorem dX0_numberJ_28 : decode cX0_numberJ 28 = .ok (.ishr, 1) := by decide +kernel
theorem dX0_numberJ_29 : decode cX0_numberJ 29 = .ok (.bipush 20, 2) := by decide +kernel
theorem dX0_numberJ_31 : decode cX0_numberJ 31 = .ok (.ishl, 1) := by decide +kernel
theorem dX0_numberJ_32 : decode cX0_numberJ 32 = .ok (.iload_n 1, 1) := by decide +kernel
theorem dX0_numberJ_33 : decode cX0_numberJ 33 = .ok (.bipush 12, 2) := by decide +kernel
theorem dX0_numberJ_35 : decode cX0_numberJ 35 = .ok (.ishl, 1) := by decide +kernel
theorem dX0_numberJ_36 : decode cX0_numberJ 36 = .ok (.ior, 1) := by decide +kernel
theorem dX0_numberJ_37 : decode cX0_numberJ 37 = .ok (.iload_n 2, 1) := by decide +kernel
theorem dX0_numberJ_38 : decode cX0_numberJ 38 = .ok (.bipush 11, 2) := by decide +kernel
theorem dX0_numberJ_40 : decode cX0_numberJ 40 = .ok (.ishl, 1) := by decide +kernel
theorem dX0_numberJ_41 : decode cX0_numberJ 41 = .ok (.ior, 1) := by decide +kernel
theorem dX0_numberJ_42 : decode cX0_numberJ 42 = .ok (.iload_n 3, 1) := by decide +kernel
theorem dX0_numberJ_43 : decode cX0_numberJ 43 = .ok (.iconst 1, 1) := by decide +kernel
theorem dX0_numberJ_44 : decode cX0_numberJ 44 = .ok (.ishl, 1) := by decide +kernel
theorem dX0_numberJ_45 : decode cX0_numberJ 45 = .ok (.ior, 1) := by decide +kernel
theorem dX0_numberJ_46 : decode cX0_numberJ 46 = .ok (.ireturn, 1) := by decide +kernel
theorem dX0_isNamed_0 : decode cX0_isNamed 0 = .ok (.iload_n 0, 1) := by decide +kernel
theorem dX0_isNamed_1 : decode cX0_isNamed 1 = .ok (.invokestatic 60, 3) := by decide +kernel
theorem dX0_isNamed_4 : decode cX0_isNamed 4 = .ok (.istore_n 1, 1) := by decide +kernel
theorem dX0_isNamed_5 : decode cX0_isNamed 5 = .ok (.iload_n 0, 1) := by decide +kernel
theorem dX0_isNamed_6 : decode cX0_isNamed 6 = .ok (.invokestatic 54, 3) := by decide +kernel
theorem dX0_isNamed_9 : decode cX0_isNamed 9 = .ok (.lookupswitch 188 #[(3, 127), (15, 159), (19, 170), (23, 99), (35, 148), (51, 179), (55, 99), (99, 111), (103, 101), (111, 99), (115, 99)], 99) := by decide +kernel
theorem dX0_isNamed_108 : decode cX0_isNamed 108 = .ok (.iconst 1, 1) := by decide +kernel
theorem dX0_isNamed_109 : decode cX0_isNamed 109 = .ok (.ireturn, 1) := by decide +kernel
theorem dX0_isNamed_110 : decode cX0_isNamed 110 = .ok (.iload_n 1, 1) := by decide +kernel
theorem dX0_isNamed_111 : decode cX0_isNamed 111 = .ok (.ifCond .ne 7, 3) := by decide +kernel
theorem dX0_isNamed_114 : decode cX0_isNamed 114 = .ok (.iconst 1, 1) := by decide +kernel
theorem dX0_isNamed_115 : decode cX0_isNamed 115 = .ok (.goto 4, 3) := by decide +kernel
theorem dX0_isNamed_118 : decode cX0_isNamed 118 = .ok (.iconst 0, 1) := by decide +kernel
theorem dX0_isNamed_119 : decode cX0_isNamed 119 = .ok (.ireturn, 1) := by decide +kernel
theorem dX0_isNamed_120 : decode cX0_isNamed 120 = .ok (.iload_n 1, 1) := by decide +kernel
theorem dX0_isNamed_121 : decode cX0_isNamed 121 = .ok (.iconst 2, 1) := by decide +kernel
theorem dX0_isNamed_122 : decode cX0_isNamed 122 = .ok (.if_icmp .eq 12, 3) := by decide +kernel
theorem dX0_isNamed_125 : decode cX0_isNamed 125 = .ok (.iload_n 1, 1) := by decide +kernel
theorem dX0_isNamed_126 : decode cX0_isNamed 126 = .ok (.iconst 3, 1) := by decide +kernel
theorem dX0_isNamed_127 : decode cX0_isNamed 127 = .ok (.if_icmp .eq 7, 3) := by decide +kernel
theorem dX0_isNamed_130 : decode cX0_isNamed 130 = .ok (.iconst 1, 1) := by decide +kernel
theorem dX0_isNamed_131 : decode cX0_isNamed 131 = .ok (.goto 4, 3) := by decide +kernel
theorem dX0_isNamed_134 : decode cX0_isNamed 134 = .ok (.iconst 0, 1) := by decide +kernel
theorem dX0_isNamed_135 : decode cX0_isNamed 135 = .ok (.ireturn, 1) := by decide +kernel
theorem dX0_isNamed_136 : decode cX0_isNamed 136 = .ok (.iload_n 1, 1) := by decide +kernel
theorem dX0_isNamed_137 : decode cX0_isNamed 137 = .ok (.iconst 2, 1) := by decide +kernel
theorem dX0_isNamed_138 : decode cX0_isNamed 138 = .ok (.if_icmp .le 13, 3) := by decide +kernel
theorem dX0_isNamed_141 : decode cX0_isNamed 141 = .ok (.iload_n 1, 1) := by decide +kernel
theorem dX0_isNamed_142 : decode cX0_isNamed 142 = .ok (.iconst 4, 1) := by decide +kernel
theorem dX0_isNamed_143 : decode cX0_isNamed 143 = .ok (.if_icmp .eq 8, 3) := by decide +kernel
theorem dX0_isNamed_146 : decode cX0_isNamed 146 = .ok (.iload_n 1, 1) := by decide +kernel
theorem dX0_isNamed_147 : decode cX0_isNamed 147 = .ok (.iconst 5, 1) := by decide +kernel
theorem dX0_isNamed_148 : decode cX0_isNamed 148 = .ok (.if_icmp .ne 7, 3) := by decide +kernel
theorem dX0_isNamed_151 : decode cX0_isNamed 151 = .ok (.iconst 1, 1) := by decide +kernel
theorem dX0_isNamed_152 : decode cX0_isNamed 152 = .ok (.goto 4, 3) := by decide +kernel
theorem dX0_isNamed_155 : decode cX0_isNamed 155 = .ok (.iconst 0, 1) := by decide +kernel
theorem dX0_isNamed_156 : decode cX0_isNamed 156 = .ok (.ireturn, 1) := by decide +kernel
theorem dX0_isNamed_157 : decode cX0_isNamed 157 = .ok (.iload_n 1, 1) := by decide +kernel
theorem dX0_isNamed_158 : decode cX0_isNamed 158 = .ok (.iconst 2, 1) := by decide +kernel
theorem dX0_isNamed_159 : decode cX0_isNamed 159 = .ok (.if_icmp .gt 7, 3) := by decide +kernel
theorem dX0_isNamed_162 : decode cX0_isNamed 162 = .ok (.iconst 1, 1) := by decide +kernel
theorem dX0_isNamed_163 : decode cX0_isNamed 163 = .ok (.goto 4, 3) := by decide +kernel
theorem dX0_isNamed_166 : decode cX0_isNamed 166 = .ok (.iconst 0, 1) := by decide +kernel
theorem dX0_isNamed_167 : decode cX0_isNamed 167 = .ok (.ireturn, 1) := by decide +kernel
theorem dX0_isNamed_168 : decode cX0_isNamed 168 = .ok (.iload_n 1, 1) := by decide +kernel
theorem dX0_isNamed_169 : decode cX0_isNamed 169 = .ok (.iconst 1, 1) := by decide +kernel
theorem dX0_isNamed_170 : decode cX0_isNamed 170 = .ok (.if_icmp .gt 7, 3) := by decide +kernel
theorem dX0_isNamed_173 : decode cX0_isNamed 173 = .ok (.iconst 1, 1) := by decide +kernel
theorem dX0_isNamed_174 : decode cX0_isNamed 174 = .ok (.goto 4, 3) := by decide +kernel
theorem dX0_isNamed_177 : decode cX0_isNamed 177 = .ok (.iconst 0, 1) := by decide +kernel
theorem dX0_isNamed_178 : decode cX0_isNamed 178 = .ok (.ireturn, 1) := by decide +kernel
theorem dX0_isNamed_179 : decode cX0_isNamed 179 = .ok (.iload_n 1, 1) := by decide +kernel
theorem dX0_isNamed_180 : decode cX0_isNamed 180 = .ok (.iload_n 0, 1) := by decide +kernel
theorem dX0_isNamed_181 : decode cX0_isNamed 181 = .ok (.invokestatic 69, 3) := by decide +kernel
theorem dX0_isNamed_184 : decode cX0_isNamed 184 = .ok (.invokestatic 137, 3) := by decide +kernel
theorem dX0_isNamed_187 : decode cX0_isNamed 187 = .ok (.ireturn, 1) := by decide +kernel
theorem dX0_isNamed_188 : decode cX0_isNamed 188 = .ok (.iload_n 1, 1) := by decide +kernel
theorem dX0_isNamed_189 : decode cX0_isNamed 189 = .ok (.iload_n 0, 1) := by decide +kernel
theorem dX0_isNamed_190 : decode cX0_isNamed 190 = .ok (.invokestatic 69, 3) := by decide +kernel
theorem dX0_isNamed_193 : decode cX0_isNamed 193 = .ok (.invokestatic 140, 3) := by decide +kernel
theorem dX0_isNamed_196 : decode cX0_isNamed 196 = .ok (.ireturn, 1) := by decide +kernel
theorem dX0_isNamed_197 : decode cX0_isNamed 197 = .ok (.iconst 0, 1) := by decide +kernel
theorem dX0_isNamed_198 : decode cX0_isNamed 198 = .ok (.ireturn, 1) := by decide +kernel
theorem dX0_isNamedWithNumber_0 : decode cX0_isNamedWithNumber 0 = .ok (.iload_n 0, 1) := by decide +kernel
theorem dX0_isNamedWithNumber_1 : decode cX0_isNamedWithNumber 1 = .ok (.lookupswitch 53 #[(1, 27), (5, 37)], 27) := by decide +kernel
theorem dX0_isNamedWithNumber_28 : decode cX0_isNamedWithNumber 28 = .ok (.iload_n 1, 1) := by decide +kernel
theorem dX0_isNamedWithNumber_29 : decode cX0_isNamedWithNumber 29 = .ok (.ifCond .ne 7, 3) := by decide +kernel
theorem dX0_isNamedWithNumber_32 : decode cX0_isNamedWithNumber 32 = .ok (.iconst 1, 1) := by decide +kernel
theorem dX0_isNamedWithNumber_33 : decode cX0_isNamedWithNumber 33 = .ok (.goto 4, 3) := by decide +kernel
theorem dX0_isNamedWithNumber_36 : decode cX0_isNamedWithNumber 36 = .ok (.iconst 0, 1) := by decide +kernel
theorem dX0_isNamedWithNumber_37 : decode cX0_isNamedWithNumber 37 = .ok (.ireturn, 1) := by decide +kernel
theorem dX0_isNamedWithNumber_38 : decode cX0_isNamedWithNumber 38 = .ok (.iload_n 1, 1) := by decide +kernel
theorem dX0_isNamedWithNumber_39 : decode cX0_isNamedWithNumber 39 = .ok (.ifCond .eq 9, 3) := by decide +kernel
theorem dX0_isNamedWithNumber_42 : decode cX0_isNamedWithNumber 42 = .ok (.iload_n 1, 1) := by decide +kernel
theorem dX0_isNamedWithNumber_43 : decode cX0_isNamedWithNumber 43 = .ok (.bipush 32, 2) := by decide +kernel
theorem dX0_isNamedWithNumber_45 : decode cX0_isNamedWithNumber 45 = .ok (.if_icmp .ne 7, 3) := by decide +kernel
theorem dX0_isNamedWithNumber_48 : decode cX0_isNamedWithNumber 48 = .ok (.iconst 1, 1) := by decide +kernel
theorem dX0_isNamedWithNumber_49 : decode cX0_isNamedWithNumber 49 = .ok (.goto 4, 3) := by decide +kernel
theorem dX0_isNamedWithNumber_52 : decode cX0_isNamedWithNumber 52 = .ok (.iconst 0, 1) := by decide +kernel
theorem dX0_isNamedWithNumber_53 : decode cX0_isNamedWithNumber 53 = .ok (.ireturn, 1) := by decide +kernel
theorem dX0_isNamedWithNumber_54 : decode cX0_isNamedWithNumber 54 = .ok (.iconst 1, 1) := by decide +kernel
theorem dX0_isNamedWithNumber_55 : decode cX0_isNamedWithNumber 55 = .ok (.ireturn, 1) := by decide +kernel
theorem dX0_isNamedWithRegisters_0 : decode cX0_isNamedWithRegisters 0 = .ok (.iload_n 1, 1) := by decide +kernel
theorem dX0_isNamedWithRegisters_1 : decode cX0_isNamedWithRegisters 1 = .ok (.lookupswitch 52 #[(0, 35), (1, 35), (32, 37)], 35) := by decide +kernel
theorem dX0_isNamedWithRegisters_36 : decode cX0_isNamedWithRegisters 36 = .ok (.iconst 1, 1) := by decide +kernel
theorem dX0_isNamedWithRegisters_37 : decode cX0_isNamedWithRegisters 37 = .ok (.ireturn, 1) := by decide +kernel
theorem dX0_isNamedWithRegisters_38 : decode cX0_isNamedWithRegisters 38 = .ok (.iload_n 0, 1) := by decide +kernel
theorem dX0_isNamedWithRegisters_39 : decode cX0_isNamedWithRegisters 39 = .ok (.ifCond .eq 8, 3) := by decide +kernel
theorem dX0_isNamedWithRegisters_42 : decode cX0_isNamedWithRegisters 42 = .ok (.iload_n 0, 1) := by decide +kernel
theorem dX0_isNamedWithRegisters_43 : decode cX0_isNamedWithRegisters 43 = .ok (.iconst 5, 1) := by decide +kernel
theorem dX0_isNamedWithRegisters_44 : decode cX0_isNamedWithRegisters 44 = .ok (.if_icmp .ne 7, 3) := by decide +kernel
theorem dX0_isNamedWithRegisters_47 : decode cX0_isNamedWithRegisters 47 = .ok (.iconst 1, 1) := by decide +kernel
theorem dX0_isNamedWithRegisters_48 : decode cX0_isNamedWithRegisters 48 = .ok (.goto 4, 3) := by decide +kernel
theorem dX0_isNamedWithRegisters_51 : decode cX0_isNamedWithRegisters 51 = .ok (.iconst 0, 1) := by decide +kernel
theorem dX0_isNamedWithRegisters_52 : decode cX0_isNamedWithRegisters 52 = .ok (.ireturn, 1) := by decide +kernel
theorem dX0_isNamedWithRegisters_53 : decode cX0_isNamedWithRegisters 53 = .ok (.iconst 0, 1) := by decide +kernel
theorem dX0_isNamedWithRegisters_54 : decode cX0_isNamedWithRegisters 54 = .ok (.ireturn, 1) := by decide +kernel
theorem dX0_result_0 : decode cX0_result 0 = .ok (.iload_n 0, 1) := by decide +kernel
theorem dX0_result_1 : decode cX0_result 1 = .ok (.invokestatic 54, 3) := by decide +kernel
theorem dX0_result_4 : decode cX0_result 4 = .ok (.lookupswitch 69 #[(19, 56), (23, 49), (51, 62), (55, 44)], 44) := by decide +kernel
theorem dX0_result_48 : decode cX0_result 48 = .ok (.iload_n 0, 1) := by decide +kernel
theorem dX0_result_49 : decode cX0_result 49 = .ok (.invokestatic 81, 3) := by decide +kernel
theorem dX0_result_52 : decode cX0_result 52 = .ok (.ireturn, 1) := by decide +kernel
theorem dX0_result_53 : decode cX0_result 53 = .ok (.iload_n 3, 1) := by decide +kernel
theorem dX0_result_54 : decode cX0_result 54 = .ok (.iload_n 0, 1) := by decide +kernel
theorem dX0_result_55 : decode cX0_result 55 = .ok (.invokestatic 81, 3) := by decide +kernel
theorem dX0_result_58 : decode cX0_result 58 = .ok (.iadd, 1) := by decide +kernel
theorem dX0_result_59 : decode cX0_result 59 = .ok (.ireturn, 1) := by decide +kernel
theorem dX0_result_60 : decode cX0_result 60 = .ok (.iload_n 0, 1) := by decide +kernel
theorem dX0_result_61 : decode cX0_result 61 = .ok (.iload_n 1, 1) := by decide +kernel
theorem dX0_result_62 : decode cX0_result 62 = .ok (.invokestatic 143, 3) := by decide +kernel
theorem dX0_result_65 : decode cX0_result 65 = .ok (.ireturn, 1) := by decide +kernel
theorem dX0_result_66 : decode cX0_result 66 = .ok (.iload_n 0, 1) := by decide +kernel
theorem dX0_result_67 : decode cX0_result 67 = .ok (.iload_n 1, 1) := by decide +kernel
theorem dX0_result_68 : decode cX0_result 68 = .ok (.iload_n 2, 1) := by decide +kernel
theorem dX0_result_69 : decode cX0_result 69 = .ok (.invokestatic 146, 3) := by decide +kernel
theorem dX0_result_72 : decode cX0_result 72 = .ok (.ireturn, 1) := by decide +kernel
theorem dX0_result_73 : decode cX0_result 73 = .ok (.iconst 0, 1) := by decide +kernel
theorem dX0_result_74 : decode cX0_result 74 = .ok (.ireturn, 1) := by decide +kernel
theorem dX0_resultWithNumber_0 : decode cX0_resultWithNumber 0 = .ok (.iload_n 0, 1) := by decide +kernel
theorem dX0_resultWithNumber_1 : decode cX0_resultWithNumber 1 = .ok (.invokestatic 72, 3) := by decide +kernel
theorem dX0_resultWithNumber_4 : decode cX0_resultWithNumber 4 = .ok (.istore_n 2, 1) := by decide +kernel
theorem dX0_resultWithNumber_5 : decode cX0_resultWithNumber 5 = .ok (.iload_n 0, 1) := by decide +kernel
theorem dX0_resultWithNumber_6 : decode cX0_resultWithNumber 6 = .ok (.invokestatic 60, 3) := by decide +kernel
theorem dX0_resultWithNumber_9 : decode cX0_resultWithNumber 9 = .ok (.iconst 5, 1) := by decide +kernel
theorem dX0_resultWithNumber_10 : decode cX0_resultWithNumber 10 = .ok (.if_icmp .ne 16, 3) := by decide +kernel
theorem dX0_resultWithNumber_13 : decode cX0_resultWithNumber 13 = .ok (.iload_n 0, 1) := by decide +kernel
theorem dX0_resultWithNumber_14 : decode cX0_resultWithNumber 14 = .ok (.invokestatic 69, 3) := by decide +kernel
theorem dX0_resultWithNumber_17 : decode cX0_resultWithNumber 17 = .ok (.bipush 32, 2) := by decide +kernel
theorem dX0_resultWithNumber_19 : decode cX0_resultWithNumber 19 = .ok (.if_icmp .ne 7, 3) := by decide +kernel
theorem dX0_resultWithNumber_22 : decode cX0_resultWithNumber 22 = .ok (.iconst 1, 1) := by decide +kernel
theorem dX0_resultWithNumber_23 : decode cX0_resultWithNumber 23 = .ok (.goto 4, 3) := by decide +kernel
theorem dX0_resultWithNumber_26 : decode cX0_resultWithNumber 26 = .ok (.iconst 0, 1) := by decide +kernel
theorem dX0_resultWithNumber_27 : decode cX0_resultWithNumber 27 = .ok (.istore_n 3, 1) := by decide +kernel
theorem dX0_resultWithNumber_28 : decode cX0_resultWithNumber 28 = .ok (.iload_n 3, 1) := by decide +kernel
theorem dX0_resultWithNumber_29 : decode cX0_resultWithNumber 29 = .ok (.ifCond .eq 12, 3) := by decide +kernel
theorem dX0_resultWithNumber_32 : decode cX0_resultWithNumber 32 = .ok (.iload_n 1, 1) := by decide +kernel
theorem dX0_resultWithNumber_33 : decode cX0_resultWithNumber 33 = .ok (.iload_n 2, 1) := by decide +kernel
theorem dX0_resultWithNumber_34 : decode cX0_resultWithNumber 34 = .ok (.bipush 31, 2) := by decide +kernel
theorem dX0_resultWithNumber_36 : decode cX0_resultWithNumber 36 = .ok (.iand, 1) := by decide +kernel
theorem dX0_resultWithNumber_37 : decode cX0_resultWithNumber 37 = .ok (.ishr, 1) := by decide +kernel
theorem dX0_resultWithNumber_38 : decode cX0_resultWithNumber 38 = .ok (.goto 12, 3) := by decide +kernel
theorem dX0_resultWithNumber_41 : decode cX0_resultWithNumber 41 = .ok (.iload_n 0, 1) := by decide +kernel
theorem dX0_resultWithNumber_42 : decode cX0_resultWithNumber 42 = .ok (.invokestatic 60, 3) := by decide +kernel
theorem dX0_resultWithNumber_45 : decode cX0_resultWithNumber 45 = .ok (.iload_n 1, 1) := by decide +kernel
theorem dX0_resultWithNumber_46 : decode cX0_resultWithNumber 46 = .ok (.iload_n 2, 1) := by decide +kernel
theorem dX0_resultWithNumber_47 : decode cX0_resultWithNumber 47 = .ok (.invokestatic 150, 3) := by decide +kernel
theorem dX0_resultWithNumber_50 : decode cX0_resultWithNumber 50 = .ok (.ireturn, 1) := by decide +kernel
theorem dX0_resultWithRegisters_0 : decode cX0_resultWithRegisters 0 = .ok (.iload_n 0, 1) := by decide +kernel
theorem dX0_resultWithRegisters_1 : decode cX0_resultWithRegisters 1 = .ok (.invokestatic 69, 3) := by decide +kernel
theorem dX0_resultWithRegisters_4 : decode cX0_resultWithRegisters 4 = .ok (.lookupswitch 58 #[(1, 28), (32, 38)], 28) := by decide +kernel
theorem dX0_resultWithRegisters_32 : decode cX0_resultWithRegisters 32 = .ok (.iload_n 0, 1) := by decide +kernel
theorem dX0_resultWithRegisters_33 : decode cX0_resultWithRegisters 33 = .ok (.invokestatic 60, 3) := by decide +kernel
theorem dX0_resultWithRegisters_36 : decode cX0_resultWithRegisters 36 = .ok (.iload_n 1, 1) := by decide +kernel
theorem dX0_resultWithRegisters_37 : decode cX0_resultWithRegisters 37 = .ok (.iload_n 2, 1) := by decide +kernel
theorem dX0_resultWithRegisters_38 : decode cX0_resultWithRegisters 38 = .ok (.invokestatic 153, 3) := by decide +kernel
theorem dX0_resultWithRegisters_41 : decode cX0_resultWithRegisters 41 = .ok (.ireturn, 1) := by decide +kernel
theorem dX0_resultWithRegisters_42 : decode cX0_resultWithRegisters 42 = .ok (.iload_n 0, 1) := by decide +kernel
theorem dX0_resultWithRegisters_43 : decode cX0_resultWithRegisters 43 = .ok (.invokestatic 60, 3) := by decide +kernel
theorem dX0_resultWithRegisters_46 : decode cX0_resultWithRegisters 46 = .ok (.ifCond .ne 9, 3) := by decide +kernel
theorem dX0_resultWithRegisters_49 : decode cX0_resultWithRegisters 49 = .ok (.iload_n 1, 1) := by decide +kernel
theorem dX0_resultWithRegisters_50 : decode cX0_resultWithRegisters 50 = .ok (.iload_n 2, 1) := by decide +kernel
theorem dX0_resultWithRegisters_51 : decode cX0_resultWithRegisters 51 = .ok (.isub, 1) := by decide +kernel
theorem dX0_resultWithRegisters_52 : decode cX0_resultWithRegisters 52 = .ok (.goto 9, 3) := by decide +kernel
theorem dX0_resultWithRegisters_55 : decode cX0_resultWithRegisters 55 = .ok (.iload_n 1, 1) := by decide +kernel
theorem dX0_resultWithRegisters_56 : decode cX0_resultWithRegisters 56 = .ok (.iload_n 2, 1) := by decide +kernel
theorem dX0_resultWithRegisters_57 : decode cX0_resultWithRegisters 57 = .ok (.bipush 31, 2) := by decide +kernel
theorem dX0_resultWithRegisters_59 : decode cX0_resultWithRegisters 59 = .ok (.iand, 1) := by decide +kernel
theorem dX0_resultWithRegisters_60 : decode cX0_resultWithRegisters 60 = .ok (.ishr, 1) := by decide +kernel
theorem dX0_resultWithRegisters_61 : decode cX0_resultWithRegisters 61 = .ok (.ireturn, 1) := by decide +kernel
theorem dX0_resultWithRegisters_62 : decode cX0_resultWithRegisters 62 = .ok (.iload_n 0, 1) := by decide +kernel
theorem dX0_resultWithRegisters_63 : decode cX0_resultWithRegisters 63 = .ok (.invokestatic 60, 3) := by decide +kernel
theorem dX0_resultWithRegisters_66 : decode cX0_resultWithRegisters 66 = .ok (.iload_n 1, 1) := by decide +kernel
theorem dX0_resultWithRegisters_67 : decode cX0_resultWithRegisters 67 = .ok (.iload_n 2, 1) := by decide +kernel
theorem dX0_resultWithRegisters_68 : decode cX0_resultWithRegisters 68 = .ok (.invokestatic 150, 3) := by decide +kernel
theorem dX0_resultWithRegisters_71 : decode cX0_resultWithRegisters 71 = .ok (.ireturn, 1) := by decide +kernel
theorem dX0_plain_0 : decode cX0_plain 0 = .ok (.iload_n 0, 1) := by decide +kernel
theorem dX0_plain_1 : decode cX0_plain 1 = .ok (.tableswitch 94 0 6 #[43, 47, 54, 65, 79, 83, 90], 43) := by decide +kernel
theorem dX0_plain_44 : decode cX0_plain 44 = .ok (.iload_n 1, 1) := by decide +kernel
theorem dX0_plain_45 : decode cX0_plain 45 = .ok (.iload_n 2, 1) := by decide +kernel
theorem dX0_plain_46 : decode cX0_plain 46 = .ok (.iadd, 1) := by decide +kernel
theorem dX0_plain_47 : decode cX0_plain 47 = .ok (.ireturn, 1) := by decide +kernel
theorem dX0_plain_48 : decode cX0_plain 48 = .ok (.iload_n 1, 1) := by decide +kernel
theorem dX0_plain_49 : decode cX0_plain 49 = .ok (.iload_n 2, 1) := by decide +kernel
theorem dX0_plain_50 : decode cX0_plain 50 = .ok (.bipush 31, 2) := by decide +kernel
theorem dX0_plain_52 : decode cX0_plain 52 = .ok (.iand, 1) := by decide +kernel
theorem dX0_plain_53 : decode cX0_plain 53 = .ok (.ishl, 1) := by decide +kernel
theorem dX0_plain_54 : decode cX0_plain 54 = .ok (.ireturn, 1) := by decide +kernel
theorem dX0_plain_55 : decode cX0_plain 55 = .ok (.iload_n 1, 1) := by decide +kernel
theorem dX0_plain_56 : decode cX0_plain 56 = .ok (.iload_n 2, 1) := by decide +kernel
theorem dX0_plain_57 : decode cX0_plain 57 = .ok (.if_icmp .ge 7, 3) := by decide +kernel
theorem dX0_plain_60 : decode cX0_plain 60 = .ok (.iconst 1, 1) := by decide +kernel
theorem dX0_plain_61 : decode cX0_plain 61 = .ok (.goto 4, 3) := by decide +kernel
theorem dX0_plain_64 : decode cX0_plain 64 = .ok (.iconst 0, 1) := by decide +kernel
theorem dX0_plain_65 : decode cX0_plain 65 = .ok (.ireturn, 1) := by decide +kernel
theorem dX0_plain_66 : decode cX0_plain 66 = .ok (.iload_n 1, 1) := by decide +kernel
theorem dX0_plain_67 : decode cX0_plain 67 = .ok (.iload_n 2, 1) := by decide +kernel
theorem dX0_plain_68 : decode cX0_plain 68 = .ok (.invokestatic 120, 3) := by decide +kernel
theorem dX0_plain_71 : decode cX0_plain 71 = .ok (.ifCond .eq 7, 3) := by decide +kernel
theorem dX0_plain_74 : decode cX0_plain 74 = .ok (.iconst 1, 1) := by decide +kernel
theorem dX0_plain_75 : decode cX0_plain 75 = .ok (.goto 4, 3) := by decide +kernel
theorem dX0_plain_78 : decode cX0_plain 78 = .ok (.iconst 0, 1) := by decide +kernel
theorem dX0_plain_79 : decode cX0_plain 79 = .ok (.ireturn, 1) := by decide +kernel
theorem dX0_plain_80 : decode cX0_plain 80 = .ok (.iload_n 1, 1) := by decide +kernel
theorem dX0_plain_81 : decode cX0_plain 81 = .ok (.iload_n 2, 1) := by decide +kernel
theorem dX0_plain_82 : decode cX0_plain 82 = .ok (.ixor, 1) := by decide +kernel
theorem dX0_plain_83 : decode cX0_plain 83 = .ok (.ireturn, 1) := by decide +kernel
theorem dX0_plain_84 : decode cX0_plain 84 = .ok (.iload_n 1, 1) := by decide +kernel
theorem dX0_plain_85 : decode cX0_plain 85 = .ok (.iload_n 2, 1) := by decide +kernel
theorem dX0_plain_86 : decode cX0_plain 86 = .ok (.bipush 31, 2) := by decide +kernel
theorem dX0_plain_88 : decode cX0_plain 88 = .ok (.iand, 1) := by decide +kernel
theorem dX0_plain_89 : decode cX0_plain 89 = .ok (.iushr, 1) := by decide +kernel
theorem dX0_plain_90 : decode cX0_plain 90 = .ok (.ireturn, 1) := by decide +kernel
theorem dX0_plain_91 : decode cX0_plain 91 = .ok (.iload_n 1, 1) := by decide +kernel
theorem dX0_plain_92 : decode cX0_plain 92 = .ok (.iload_n 2, 1) := by decide +kernel
theorem dX0_plain_93 : decode cX0_plain 93 = .ok (.ior, 1) := by decide +kernel
theorem dX0_plain_94 : decode cX0_plain 94 = .ok (.ireturn, 1) := by decide +kernel
theorem dX0_plain_95 : decode cX0_plain 95 = .ok (.iload_n 1, 1) := by decide +kernel
theorem dX0_plain_96 : decode cX0_plain 96 = .ok (.iload_n 2, 1) := by decide +kernel
theorem dX0_plain_97 : decode cX0_plain 97 = .ok (.iand, 1) := by decide +kernel
theorem dX0_plain_98 : decode cX0_plain 98 = .ok (.ireturn, 1) := by decide +kernel
theorem dX0_productOrQuotient_0 : decode cX0_productOrQuotient 0 = .ok (.iload_n 0, 1) := by decide +kernel
theorem dX0_productOrQuotient_1 : decode cX0_productOrQuotient 1 = .ok (.tableswitch 111 0 6 #[43, 47, 56, 67, 80, 89, 102], 43) := by decide +kernel
theorem dX0_productOrQuotient_44 : decode cX0_productOrQuotient 44 = .ok (.iload_n 1, 1) := by decide +kernel
theorem dX0_productOrQuotient_45 : decode cX0_productOrQuotient 45 = .ok (.iload_n 2, 1) := by decide +kernel
theorem dX0_productOrQuotient_46 : decode cX0_productOrQuotient 46 = .ok (.imul, 1) := by decide +kernel
theorem dX0_productOrQuotient_47 : decode cX0_productOrQuotient 47 = .ok (.ireturn, 1) := by decide +kernel
theorem dX0_productOrQuotient_48 : decode cX0_productOrQuotient 48 = .ok (.iload_n 1, 1) := by decide +kernel
theorem dX0_productOrQuotient_49 : decode cX0_productOrQuotient 49 = .ok (.i2l, 1) := by decide +kernel
theorem dX0_productOrQuotient_50 : decode cX0_productOrQuotient 50 = .ok (.iload_n 2, 1) := by decide +kernel
theorem dX0_productOrQuotient_51 : decode cX0_productOrQuotient 51 = .ok (.i2l, 1) := by decide +kernel
theorem dX0_productOrQuotient_52 : decode cX0_productOrQuotient 52 = .ok (.lmul, 1) := by decide +kernel
theorem dX0_productOrQuotient_53 : decode cX0_productOrQuotient 53 = .ok (.invokestatic 156, 3) := by decide +kernel
theorem dX0_productOrQuotient_56 : decode cX0_productOrQuotient 56 = .ok (.ireturn, 1) := by decide +kernel
theorem dX0_productOrQuotient_57 : decode cX0_productOrQuotient 57 = .ok (.iload_n 1, 1) := by decide +kernel
theorem dX0_productOrQuotient_58 : decode cX0_productOrQuotient 58 = .ok (.i2l, 1) := by decide +kernel
theorem dX0_productOrQuotient_59 : decode cX0_productOrQuotient 59 = .ok (.iload_n 2, 1) := by decide +kernel
theorem dX0_productOrQuotient_60 : decode cX0_productOrQuotient 60 = .ok (.invokestatic 160, 3) := by decide +kernel
theorem dX0_productOrQuotient_63 : decode cX0_productOrQuotient 63 = .ok (.lmul, 1) := by decide +kernel
theorem dX0_productOrQuotient_64 : decode cX0_productOrQuotient 64 = .ok (.invokestatic 156, 3) := by decide +kernel
theorem dX0_productOrQuotient_67 : decode cX0_productOrQuotient 67 = .ok (.ireturn, 1) := by decide +kernel
theorem dX0_productOrQuotient_68 : decode cX0_productOrQuotient 68 = .ok (.iload_n 1, 1) := by decide +kernel
theorem dX0_productOrQuotient_69 : decode cX0_productOrQuotient 69 = .ok (.invokestatic 160, 3) := by decide +kernel
theorem dX0_productOrQuotient_72 : decode cX0_productOrQuotient 72 = .ok (.iload_n 2, 1) := by decide +kernel
theorem dX0_productOrQuotient_73 : decode cX0_productOrQuotient 73 = .ok (.invokestatic 160, 3) := by decide +kernel
theorem dX0_productOrQuotient_76 : decode cX0_productOrQuotient 76 = .ok (.lmul, 1) := by decide +kernel
theorem dX0_productOrQuotient_77 : decode cX0_productOrQuotient 77 = .ok (.invokestatic 156, 3) := by decide +kernel
theorem dX0_productOrQuotient_80 : decode cX0_productOrQuotient 80 = .ok (.ireturn, 1) := by decide +kernel
theorem dX0_productOrQuotient_81 : decode cX0_productOrQuotient 81 = .ok (.iload_n 1, 1) := by decide +kernel
theorem dX0_productOrQuotient_82 : decode cX0_productOrQuotient 82 = .ok (.i2l, 1) := by decide +kernel
theorem dX0_productOrQuotient_83 : decode cX0_productOrQuotient 83 = .ok (.iload_n 2, 1) := by decide +kernel
theorem dX0_productOrQuotient_84 : decode cX0_productOrQuotient 84 = .ok (.i2l, 1) := by decide +kernel
theorem dX0_productOrQuotient_85 : decode cX0_productOrQuotient 85 = .ok (.invokestatic 164, 3) := by decide +kernel
theorem dX0_productOrQuotient_88 : decode cX0_productOrQuotient 88 = .ok (.l2i, 1) := by decide +kernel
theorem dX0_productOrQuotient_89 : decode cX0_productOrQuotient 89 = .ok (.ireturn, 1) := by decide +kernel
theorem dX0_productOrQuotient_90 : decode cX0_productOrQuotient 90 = .ok (.iload_n 1, 1) := by decide +kernel
theorem dX0_productOrQuotient_91 : decode cX0_productOrQuotient 91 = .ok (.invokestatic 160, 3) := by decide +kernel
theorem dX0_productOrQuotient_94 : decode cX0_productOrQuotient 94 = .ok (.iload_n 2, 1) := by decide +kernel
theorem dX0_productOrQuotient_95 : decode cX0_productOrQuotient 95 = .ok (.invokestatic 160, 3) := by decide +kernel
theorem dX0_productOrQuotient_98 : decode cX0_productOrQuotient 98 = .ok (.invokestatic 164, 3) := by decide +kernel
theorem dX0_productOrQuotient_101 : decode cX0_productOrQuotient 101 = .ok (.l2i, 1) := by decide +kernel
theorem dX0_productOrQuotient_102 : decode cX0_productOrQuotient 102 = .ok (.ireturn, 1) := by decide +kernel
theorem dX0_productOrQuotient_103 : decode cX0_productOrQuotient 103 = .ok (.iload_n 1, 1) := by decide +kernel
theorem dX0_productOrQuotient_104 : decode cX0_productOrQuotient 104 = .ok (.i2l, 1) := by decide +kernel
theorem dX0_productOrQuotient_105 : decode cX0_productOrQuotient 105 = .ok (.iload_n 2, 1) := by decide +kernel
theorem dX0_productOrQuotient_106 : decode cX0_productOrQuotient 106 = .ok (.i2l, 1) := by decide +kernel
theorem dX0_productOrQuotient_107 : decode cX0_productOrQuotient 107 = .ok (.invokestatic 168, 3) := by decide +kernel
theorem dX0_productOrQuotient_110 : decode cX0_productOrQuotient 110 = .ok (.l2i, 1) := by decide +kernel
theorem dX0_productOrQuotient_111 : decode cX0_productOrQuotient 111 = .ok (.ireturn, 1) := by decide +kernel
theorem dX0_productOrQuotient_112 : decode cX0_productOrQuotient 112 = .ok (.iload_n 1, 1) := by decide +kernel
theorem dX0_productOrQuotient_113 : decode cX0_productOrQuotient 113 = .ok (.invokestatic 160, 3) := by decide +kernel
theorem dX0_productOrQuotient_116 : decode cX0_productOrQuotient 116 = .ok (.iload_n 2, 1) := by decide +kernel
theorem dX0_productOrQuotient_117 : decode cX0_productOrQuotient 117 = .ok (.invokestatic 160, 3) := by decide +kernel
theorem dX0_productOrQuotient_120 : decode cX0_productOrQuotient 120 = .ok (.invokestatic 168, 3) := by decide +kernel
theorem dX0_productOrQuotient_123 : decode cX0_productOrQuotient 123 = .ok (.l2i, 1) := by decide +kernel
theorem dX0_productOrQuotient_124 : decode cX0_productOrQuotient 124 = .ok (.ireturn, 1) := by decide +kernel
theorem dX0_upper_0 : decode cX0_upper 0 = .ok (.lload_n 0, 1) := by decide +kernel
theorem dX0_upper_1 : decode cX0_upper 1 = .ok (.bipush 32, 2) := by decide +kernel
theorem dX0_upper_3 : decode cX0_upper 3 = .ok (.lushr, 1) := by decide +kernel
theorem dX0_upper_4 : decode cX0_upper 4 = .ok (.l2i, 1) := by decide +kernel
theorem dX0_upper_5 : decode cX0_upper 5 = .ok (.ireturn, 1) := by decide +kernel
theorem dX0_quotient_0 : decode cX0_quotient 0 = .ok (.lload_n 2, 1) := by decide +kernel
theorem dX0_quotient_1 : decode cX0_quotient 1 = .ok (.lconst 0, 1) := by decide +kernel
theorem dX0_quotient_2 : decode cX0_quotient 2 = .ok (.lcmp, 1) := by decide +kernel
theorem dX0_quotient_3 : decode cX0_quotient 3 = .ok (.ifCond .ne 9, 3) := by decide +kernel
theorem dX0_quotient_6 : decode cX0_quotient 6 = .ok (.ldc2_w 171, 3) := by decide +kernel
theorem dX0_quotient_9 : decode cX0_quotient 9 = .ok (.goto 6, 3) := by decide +kernel
theorem dX0_quotient_12 : decode cX0_quotient 12 = .ok (.lload_n 0, 1) := by decide +kernel
theorem dX0_quotient_13 : decode cX0_quotient 13 = .ok (.lload_n 2, 1) := by decide +kernel
theorem dX0_quotient_14 : decode cX0_quotient 14 = .ok (.ldiv, 1) := by decide +kernel
theorem dX0_quotient_15 : decode cX0_quotient 15 = .ok (.lreturn, 1) := by decide +kernel
theorem dX0_rest_0 : decode cX0_rest 0 = .ok (.lload_n 2, 1) := by decide +kernel
theorem dX0_rest_1 : decode cX0_rest 1 = .ok (.lconst 0, 1) := by decide +kernel
theorem dX0_rest_2 : decode cX0_rest 2 = .ok (.lcmp, 1) := by decide +kernel
theorem dX0_rest_3 : decode cX0_rest 3 = .ok (.ifCond .ne 7, 3) := by decide +kernel
theorem dX0_rest_6 : decode cX0_rest 6 = .ok (.lload_n 0, 1) := by decide +kernel
theorem dX0_rest_7 : decode cX0_rest 7 = .ok (.goto 6, 3) := by decide +kernel
theorem dX0_rest_10 : decode cX0_rest 10 = .ok (.lload_n 0, 1) := by decide +kernel
theorem dX0_rest_11 : decode cX0_rest 11 = .ok (.lload_n 2, 1) := by decide +kernel
theorem dX0_rest_12 : decode cX0_rest 12 = .ok (.lrem, 1) := by decide +kernel
theorem dX0_rest_13 : decode cX0_rest 13 = .ok (.lreturn, 1) := by decide +kernel
theorem dX0_unsigned_0 : decode cX0_unsigned 0 = .ok (.iload_n 0, 1) := by decide +kernel
theorem dX0_unsigned_1 : decode cX0_unsigned 1 = .ok (.i2l, 1) := by decide +kernel
theorem dX0_unsigned_2 : decode cX0_unsigned 2 = .ok (.ldc2_w 173, 3) := by decide +kernel
theorem dX0_unsigned_5 : decode cX0_unsigned 5 = .ok (.land, 1) := by decide +kernel
theorem dX0_unsigned_6 : decode cX0_unsigned 6 = .ok (.lreturn, 1) := by decide +kernel
theorem dX0_isLessU_0 : decode cX0_isLessU 0 = .ok (.iload_n 0, 1) := by decide +kernel
theorem dX0_isLessU_1 : decode cX0_isLessU 1 = .ok (.ldc 175, 2) := by decide +kernel
theorem dX0_isLessU_3 : decode cX0_isLessU 3 = .ok (.ixor, 1) := by decide +kernel
theorem dX0_isLessU_4 : decode cX0_isLessU 4 = .ok (.iload_n 1, 1) := by decide +kernel
theorem dX0_isLessU_5 : decode cX0_isLessU 5 = .ok (.ldc 175, 2) := by decide +kernel
theorem dX0_isLessU_7 : decode cX0_isLessU 7 = .ok (.ixor, 1) := by decide +kernel
theorem dX0_isLessU_8 : decode cX0_isLessU 8 = .ok (.if_icmp .ge 7, 3) := by decide +kernel
theorem dX0_isLessU_11 : decode cX0_isLessU 11 = .ok (.iconst 1, 1) := by decide +kernel
theorem dX0_isLessU_12 : decode cX0_isLessU 12 = .ok (.goto 4, 3) := by decide +kernel
theorem dX0_isLessU_15 : decode cX0_isLessU 15 = .ok (.iconst 0, 1) := by decide +kernel
theorem dX0_isLessU_16 : decode cX0_isLessU 16 = .ok (.ireturn, 1) := by decide +kernel
