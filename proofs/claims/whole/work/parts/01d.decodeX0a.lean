theorem dX0_init_0 : decode cX0_init 0 = .ok (.aload_n 0, 1) := by decide +kernel
theorem dX0_init_1 : decode cX0_init 1 = .ok (.invokespecial 3, 3) := by decide +kernel
theorem dX0_init_4 : decode cX0_init 4 = .ok (.aload_n 0, 1) := by decide +kernel
theorem dX0_init_5 : decode cX0_init 5 = .ok (.sipush 1024, 3) := by decide +kernel
theorem dX0_init_8 : decode cX0_init 8 = .ok (.newarray .int, 2) := by decide +kernel
theorem dX0_init_10 : decode cX0_init 10 = .ok (.putfield 9, 3) := by decide +kernel
theorem dX0_init_13 : decode cX0_init 13 = .ok (.aload_n 0, 1) := by decide +kernel
theorem dX0_init_14 : decode cX0_init 14 = .ok (.bipush 32, 2) := by decide +kernel
theorem dX0_init_16 : decode cX0_init 16 = .ok (.newarray .int, 2) := by decide +kernel
theorem dX0_init_18 : decode cX0_init 18 = .ok (.putfield 13, 3) := by decide +kernel
theorem dX0_init_21 : decode cX0_init 21 = .ok (.aload_n 0, 1) := by decide +kernel
theorem dX0_init_22 : decode cX0_init 22 = .ok (.iconst 0, 1) := by decide +kernel
theorem dX0_init_23 : decode cX0_init 23 = .ok (.putfield 16, 3) := by decide +kernel
theorem dX0_init_26 : decode cX0_init 26 = .ok (.aload_n 0, 1) := by decide +kernel
theorem dX0_init_27 : decode cX0_init 27 = .ok (.iconst (-1), 1) := by decide +kernel
theorem dX0_init_28 : decode cX0_init 28 = .ok (.putfield 20, 3) := by decide +kernel
theorem dX0_init_31 : decode cX0_init 31 = .ok (.aload_n 0, 1) := by decide +kernel
theorem dX0_init_32 : decode cX0_init 32 = .ok (.iconst 0, 1) := by decide +kernel
theorem dX0_init_33 : decode cX0_init 33 = .ok (.putfield 23, 3) := by decide +kernel
theorem dX0_init_36 : decode cX0_init 36 = .ok (.aload_n 0, 1) := by decide +kernel
theorem dX0_init_37 : decode cX0_init 37 = .ok (.iconst 0, 1) := by decide +kernel
theorem dX0_init_38 : decode cX0_init 38 = .ok (.putfield 26, 3) := by decide +kernel
theorem dX0_init_41 : decode cX0_init 41 = .ok (.return_, 1) := by decide +kernel
theorem dX0_poke_0 : decode cX0_poke 0 = .ok (.iload_n 1, 1) := by decide +kernel
theorem dX0_poke_1 : decode cX0_poke 1 = .ok (.invokestatic 29, 3) := by decide +kernel
theorem dX0_poke_4 : decode cX0_poke 4 = .ok (.ifCond .eq 14, 3) := by decide +kernel
theorem dX0_poke_7 : decode cX0_poke 7 = .ok (.iload_n 1, 1) := by decide +kernel
theorem dX0_poke_8 : decode cX0_poke 8 = .ok (.ifCond .lt 10, 3) := by decide +kernel
theorem dX0_poke_11 : decode cX0_poke 11 = .ok (.iload_n 1, 1) := by decide +kernel
theorem dX0_poke_12 : decode cX0_poke 12 = .ok (.sipush 4076, 3) := by decide +kernel
theorem dX0_poke_15 : decode cX0_poke 15 = .ok (.if_icmp .le 5, 3) := by decide +kernel
theorem dX0_poke_18 : decode cX0_poke 18 = .ok (.iconst (-1), 1) := by decide +kernel
theorem dX0_poke_19 : decode cX0_poke 19 = .ok (.ireturn, 1) := by decide +kernel
theorem dX0_poke_20 : decode cX0_poke 20 = .ok (.aload_n 0, 1) := by decide +kernel
theorem dX0_poke_21 : decode cX0_poke 21 = .ok (.iload_n 1, 1) := by decide +kernel
theorem dX0_poke_22 : decode cX0_poke 22 = .ok (.iload_n 2, 1) := by decide +kernel
theorem dX0_poke_23 : decode cX0_poke 23 = .ok (.invokevirtual 33, 3) := by decide +kernel
theorem dX0_poke_26 : decode cX0_poke 26 = .ok (.aload_n 0, 1) := by decide +kernel
theorem dX0_poke_27 : decode cX0_poke 27 = .ok (.iload_n 1, 1) := by decide +kernel
theorem dX0_poke_28 : decode cX0_poke 28 = .ok (.iconst 4, 1) := by decide +kernel
theorem dX0_poke_29 : decode cX0_poke 29 = .ok (.iadd, 1) := by decide +kernel
theorem dX0_poke_30 : decode cX0_poke 30 = .ok (.iload_n 3, 1) := by decide +kernel
theorem dX0_poke_31 : decode cX0_poke 31 = .ok (.invokevirtual 33, 3) := by decide +kernel
theorem dX0_poke_34 : decode cX0_poke 34 = .ok (.aload_n 0, 1) := by decide +kernel
theorem dX0_poke_35 : decode cX0_poke 35 = .ok (.iload_n 1, 1) := by decide +kernel
theorem dX0_poke_36 : decode cX0_poke 36 = .ok (.bipush 8, 2) := by decide +kernel
theorem dX0_poke_38 : decode cX0_poke 38 = .ok (.iadd, 1) := by decide +kernel
theorem dX0_poke_39 : decode cX0_poke 39 = .ok (.iload 4, 2) := by decide +kernel
theorem dX0_poke_41 : decode cX0_poke 41 = .ok (.invokevirtual 33, 3) := by decide +kernel
theorem dX0_poke_44 : decode cX0_poke 44 = .ok (.aload_n 0, 1) := by decide +kernel
theorem dX0_poke_45 : decode cX0_poke 45 = .ok (.iload_n 1, 1) := by decide +kernel
theorem dX0_poke_46 : decode cX0_poke 46 = .ok (.bipush 12, 2) := by decide +kernel
theorem dX0_poke_48 : decode cX0_poke 48 = .ok (.iadd, 1) := by decide +kernel
theorem dX0_poke_49 : decode cX0_poke 49 = .ok (.iload 5, 2) := by decide +kernel
theorem dX0_poke_51 : decode cX0_poke 51 = .ok (.invokevirtual 33, 3) := by decide +kernel
theorem dX0_poke_54 : decode cX0_poke 54 = .ok (.aload_n 0, 1) := by decide +kernel
theorem dX0_poke_55 : decode cX0_poke 55 = .ok (.iload_n 1, 1) := by decide +kernel
theorem dX0_poke_56 : decode cX0_poke 56 = .ok (.bipush 16, 2) := by decide +kernel
theorem dX0_poke_58 : decode cX0_poke 58 = .ok (.iadd, 1) := by decide +kernel
theorem dX0_poke_59 : decode cX0_poke 59 = .ok (.iload 6, 2) := by decide +kernel
theorem dX0_poke_61 : decode cX0_poke 61 = .ok (.invokevirtual 33, 3) := by decide +kernel
theorem dX0_poke_64 : decode cX0_poke 64 = .ok (.iconst 0, 1) := by decide +kernel
theorem dX0_poke_65 : decode cX0_poke 65 = .ok (.ireturn, 1) := by decide +kernel
theorem dX0_word_0 : decode cX0_word 0 = .ok (.iload_n 1, 1) := by decide +kernel
theorem dX0_word_1 : decode cX0_word 1 = .ok (.invokestatic 29, 3) := by decide +kernel
theorem dX0_word_4 : decode cX0_word 4 = .ok (.ifCond .eq 11, 3) := by decide +kernel
theorem dX0_word_7 : decode cX0_word 7 = .ok (.aload_n 0, 1) := by decide +kernel
theorem dX0_word_8 : decode cX0_word 8 = .ok (.iload_n 1, 1) := by decide +kernel
theorem dX0_word_9 : decode cX0_word 9 = .ok (.invokevirtual 37, 3) := by decide +kernel
theorem dX0_word_12 : decode cX0_word 12 = .ok (.goto 4, 3) := by decide +kernel
theorem dX0_word_15 : decode cX0_word 15 = .ok (.iconst 0, 1) := by decide +kernel
theorem dX0_word_16 : decode cX0_word 16 = .ok (.ireturn, 1) := by decide +kernel
theorem dX0_put_0 : decode cX0_put 0 = .ok (.aload_n 0, 1) := by decide +kernel
theorem dX0_put_1 : decode cX0_put 1 = .ok (.iload_n 1, 1) := by decide +kernel
theorem dX0_put_2 : decode cX0_put 2 = .ok (.invokevirtual 41, 3) := by decide +kernel
theorem dX0_put_5 : decode cX0_put 5 = .ok (.istore_n 3, 1) := by decide +kernel
theorem dX0_put_6 : decode cX0_put 6 = .ok (.aload_n 0, 1) := by decide +kernel
theorem dX0_put_7 : decode cX0_put 7 = .ok (.iload_n 1, 1) := by decide +kernel
theorem dX0_put_8 : decode cX0_put 8 = .ok (.iload_n 2, 1) := by decide +kernel
theorem dX0_put_9 : decode cX0_put 9 = .ok (.invokevirtual 44, 3) := by decide +kernel
theorem dX0_put_12 : decode cX0_put 12 = .ok (.iload_n 3, 1) := by decide +kernel
theorem dX0_put_13 : decode cX0_put 13 = .ok (.ireturn, 1) := by decide +kernel
theorem dX0_get_0 : decode cX0_get 0 = .ok (.aload_n 0, 1) := by decide +kernel
theorem dX0_get_1 : decode cX0_get 1 = .ok (.iload_n 1, 1) := by decide +kernel
theorem dX0_get_2 : decode cX0_get 2 = .ok (.invokevirtual 41, 3) := by decide +kernel
theorem dX0_get_5 : decode cX0_get 5 = .ok (.ireturn, 1) := by decide +kernel
theorem dX0_go_0 : decode cX0_go 0 = .ok (.iload_n 1, 1) := by decide +kernel
theorem dX0_go_1 : decode cX0_go 1 = .ok (.invokestatic 29, 3) := by decide +kernel
theorem dX0_go_4 : decode cX0_go 4 = .ok (.ifCond .ne 5, 3) := by decide +kernel
theorem dX0_go_7 : decode cX0_go 7 = .ok (.iconst (-1), 1) := by decide +kernel
theorem dX0_go_8 : decode cX0_go 8 = .ok (.ireturn, 1) := by decide +kernel
theorem dX0_go_9 : decode cX0_go 9 = .ok (.aload_n 0, 1) := by decide +kernel
theorem dX0_go_10 : decode cX0_go 10 = .ok (.iload_n 1, 1) := by decide +kernel
theorem dX0_go_11 : decode cX0_go 11 = .ok (.putfield 16, 3) := by decide +kernel
theorem dX0_go_14 : decode cX0_go 14 = .ok (.iconst 0, 1) := by decide +kernel
theorem dX0_go_15 : decode cX0_go 15 = .ok (.ireturn, 1) := by decide +kernel
theorem dX0_step_0 : decode cX0_step 0 = .ok (.aload_n 0, 1) := by decide +kernel
theorem dX0_step_1 : decode cX0_step 1 = .ok (.invokevirtual 47, 3) := by decide +kernel
theorem dX0_step_4 : decode cX0_step 4 = .ok (.ireturn, 1) := by decide +kernel
theorem dX0_run_0 : decode cX0_run 0 = .ok (.iload_n 1, 1) := by decide +kernel
theorem dX0_run_1 : decode cX0_run 1 = .ok (.ifCond .lt 10, 3) := by decide +kernel
theorem dX0_run_4 : decode cX0_run 4 = .ok (.iload_n 1, 1) := by decide +kernel
theorem dX0_run_5 : decode cX0_run 5 = .ok (.sipush 2000, 3) := by decide +kernel
theorem dX0_run_8 : decode cX0_run 8 = .ok (.if_icmp .le 5, 3) := by decide +kernel
theorem dX0_run_11 : decode cX0_run 11 = .ok (.iconst (-1), 1) := by decide +kernel
theorem dX0_run_12 : decode cX0_run 12 = .ok (.ireturn, 1) := by decide +kernel
theorem dX0_run_13 : decode cX0_run 13 = .ok (.iconst 0, 1) := by decide +kernel
theorem dX0_run_14 : decode cX0_run 14 = .ok (.istore_n 2, 1) := by decide +kernel
theorem dX0_run_15 : decode cX0_run 15 = .ok (.iload_n 2, 1) := by decide +kernel
theorem dX0_run_16 : decode cX0_run 16 = .ok (.iload_n 1, 1) := by decide +kernel
theorem dX0_run_17 : decode cX0_run 17 = .ok (.if_icmp .ge 19, 3) := by decide +kernel
theorem dX0_run_20 : decode cX0_run 20 = .ok (.aload_n 0, 1) := by decide +kernel
theorem dX0_run_21 : decode cX0_run 21 = .ok (.invokevirtual 47, 3) := by decide +kernel
theorem dX0_run_24 : decode cX0_run 24 = .ok (.iconst (-1), 1) := by decide +kernel
theorem dX0_run_25 : decode cX0_run 25 = .ok (.if_icmp .eq 5, 3) := by decide +kernel
theorem dX0_run_28 : decode cX0_run 28 = .ok (.iload_n 2, 1) := by decide +kernel
theorem dX0_run_29 : decode cX0_run 29 = .ok (.ireturn, 1) := by decide +kernel
theorem dX0_run_30 : decode cX0_run 30 = .ok (.iinc 2 1, 3) := by decide +kernel
theorem dX0_run_33 : decode cX0_run 33 = .ok (.goto (-18), 3) := by decide +kernel
theorem dX0_run_36 : decode cX0_run 36 = .ok (.iload_n 1, 1) := by decide +kernel
theorem dX0_run_37 : decode cX0_run 37 = .ok (.ireturn, 1) := by decide +kernel
theorem dX0_doWord_0 : decode cX0_doWord 0 = .ok (.aload_n 0, 1) := by decide +kernel
theorem dX0_doWord_1 : decode cX0_doWord 1 = .ok (.iload_n 1, 1) := by decide +kernel
theorem dX0_doWord_2 : decode cX0_doWord 2 = .ok (.invokevirtual 51, 3) := by decide +kernel
theorem dX0_doWord_5 : decode cX0_doWord 5 = .ok (.ireturn, 1) := by decide +kernel
theorem dX0_told_0 : decode cX0_told 0 = .ok (.iload_n 1, 1) := by decide +kernel
theorem dX0_told_1 : decode cX0_told 1 = .ok (.tableswitch 51 0 3 #[31, 36, 41, 46], 31) := by decide +kernel
theorem dX0_told_32 : decode cX0_told 32 = .ok (.aload_n 0, 1) := by decide +kernel
theorem dX0_told_33 : decode cX0_told 33 = .ok (.getfield 16, 3) := by decide +kernel
theorem dX0_told_36 : decode cX0_told 36 = .ok (.ireturn, 1) := by decide +kernel
theorem dX0_told_37 : decode cX0_told 37 = .ok (.aload_n 0, 1) := by decide +kernel
theorem dX0_told_38 : decode cX0_told 38 = .ok (.getfield 20, 3) := by decide +kernel
theorem dX0_told_41 : decode cX0_told 41 = .ok (.ireturn, 1) := by decide +kernel
theorem dX0_told_42 : decode cX0_told 42 = .ok (.aload_n 0, 1) := by decide +kernel
theorem dX0_told_43 : decode cX0_told 43 = .ok (.getfield 23, 3) := by decide +kernel
theorem dX0_told_46 : decode cX0_told 46 = .ok (.ireturn, 1) := by decide +kernel
theorem dX0_told_47 : decode cX0_told 47 = .ok (.aload_n 0, 1) := by decide +kernel
theorem dX0_told_48 : decode cX0_told 48 = .ok (.getfield 26, 3) := by decide +kernel
theorem dX0_told_51 : decode cX0_told 51 = .ok (.ireturn, 1) := by decide +kernel
theorem dX0_told_52 : decode cX0_told 52 = .ok (.iconst (-1), 1) := by decide +kernel
theorem dX0_told_53 : decode cX0_told 53 = .ok (.ireturn, 1) := by decide +kernel
theorem dX0_field_0 : decode cX0_field 0 = .ok (.iload_n 2, 1) := by decide +kernel
theorem dX0_field_1 : decode cX0_field 1 = .ok (.tableswitch 131 0 11 #[63, 68, 73, 78, 83, 88, 93, 98, 103, 108, 113, 118], 63) := by decide +kernel
theorem dX0_field_64 : decode cX0_field 64 = .ok (.iload_n 1, 1) := by decide +kernel
theorem dX0_field_65 : decode cX0_field 65 = .ok (.invokestatic 54, 3) := by decide +kernel
theorem dX0_field_68 : decode cX0_field 68 = .ok (.ireturn, 1) := by decide +kernel
theorem dX0_field_69 : decode cX0_field 69 = .ok (.iload_n 1, 1) := by decide +kernel
theorem dX0_field_70 : decode cX0_field 70 = .ok (.invokestatic 57, 3) := by decide +kernel
theorem dX0_field_73 : decode cX0_field 73 = .ok (.ireturn, 1) := by decide +kernel
theorem dX0_field_74 : decode cX0_field 74 = .ok (.iload_n 1, 1) := by decide +kernel
theorem dX0_field_75 : decode cX0_field 75 = .ok (.invokestatic 60, 3) := by decide +kernel
theorem dX0_field_78 : decode cX0_field 78 = .ok (.ireturn, 1) := by decide +kernel
theorem dX0_field_79 : decode cX0_field 79 = .ok (.iload_n 1, 1) := by decide +kernel
theorem dX0_field_80 : decode cX0_field 80 = .ok (.invokestatic 63, 3) := by decide +kernel
theorem dX0_field_83 : decode cX0_field 83 = .ok (.ireturn, 1) := by decide +kernel
theorem dX0_field_84 : decode cX0_field 84 = .ok (.iload_n 1, 1) := by decide +kernel
theorem dX0_field_85 : decode cX0_field 85 = .ok (.invokestatic 66, 3) := by decide +kernel
theorem dX0_field_88 : decode cX0_field 88 = .ok (.ireturn, 1) := by decide +kernel
theorem dX0_field_89 : decode cX0_field 89 = .ok (.iload_n 1, 1) := by decide +kernel
theorem dX0_field_90 : decode cX0_field 90 = .ok (.invokestatic 69, 3) := by decide +kernel
theorem dX0_field_93 : decode cX0_field 93 = .ok (.ireturn, 1) := by decide +kernel
theorem dX0_field_94 : decode cX0_field 94 = .ok (.iload_n 1, 1) := by decide +kernel
theorem dX0_field_95 : decode cX0_field 95 = .ok (.invokestatic 72, 3) := by decide +kernel
theorem dX0_field_98 : decode cX0_field 98 = .ok (.ireturn, 1) := by decide +kernel
theorem dX0_field_99 : decode cX0_field 99 = .ok (.iload_n 1, 1) := by decide +kernel
theorem dX0_field_100 : decode cX0_field 100 = .ok (.invokestatic 75, 3) := by decide +kernel
theorem dX0_field_103 : decode cX0_field 103 = .ok (.ireturn, 1) := by decide +kernel
theorem dX0_field_104 : decode cX0_field 104 = .ok (.iload_n 1, 1) := by decide +kernel
theorem dX0_field_105 : decode cX0_field 105 = .ok (.invokestatic 78, 3) := by decide +kernel
theorem dX0_field_108 : decode cX0_field 108 = .ok (.ireturn, 1) := by decide +kernel
theorem dX0_field_109 : decode cX0_field 109 = .ok (.iload_n 1, 1) := by decide +kernel
theorem dX0_field_110 : decode cX0_field 110 = .ok (.invokestatic 81, 3) := by decide +kernel
theorem dX0_field_113 : decode cX0_field 113 = .ok (.ireturn, 1) := by decide +kernel
theorem dX0_field_114 : decode cX0_field 114 = .ok (.iload_n 1, 1) := by decide +kernel
theorem dX0_field_115 : decode cX0_field 115 = .ok (.invokestatic 84, 3) := by decide +kernel
theorem dX0_field_118 : decode cX0_field 118 = .ok (.ireturn, 1) := by decide +kernel
theorem dX0_field_119 : decode cX0_field 119 = .ok (.iload_n 1, 1) := by decide +kernel
theorem dX0_field_120 : decode cX0_field 120 = .ok (.invokestatic 87, 3) := by decide +kernel
theorem dX0_field_123 : decode cX0_field 123 = .ok (.ifCond .eq 7, 3) := by decide +kernel
theorem dX0_field_126 : decode cX0_field 126 = .ok (.iconst 1, 1) := by decide +kernel
theorem dX0_field_127 : decode cX0_field 127 = .ok (.goto 4, 3) := by decide +kernel
theorem dX0_field_130 : decode cX0_field 130 = .ok (.iconst 0, 1) := by decide +kernel
theorem dX0_field_131 : decode cX0_field 131 = .ok (.ireturn, 1) := by decide +kernel
theorem dX0_field_132 : decode cX0_field 132 = .ok (.iconst 0, 1) := by decide +kernel
theorem dX0_field_133 : decode cX0_field 133 = .ok (.ireturn, 1) := by decide +kernel
theorem dX0_reckon_0 : decode cX0_reckon 0 = .ok (.iload_n 1, 1) := by decide +kernel
theorem dX0_reckon_1 : decode cX0_reckon 1 = .ok (.invokestatic 87, 3) := by decide +kernel
theorem dX0_reckon_4 : decode cX0_reckon 4 = .ok (.ifCond .eq 13, 3) := by decide +kernel
theorem dX0_reckon_7 : decode cX0_reckon 7 = .ok (.iload_n 1, 1) := by decide +kernel
theorem dX0_reckon_8 : decode cX0_reckon 8 = .ok (.iload_n 2, 1) := by decide +kernel
theorem dX0_reckon_9 : decode cX0_reckon 9 = .ok (.iload_n 3, 1) := by decide +kernel
theorem dX0_reckon_10 : decode cX0_reckon 10 = .ok (.iconst 0, 1) := by decide +kernel
theorem dX0_reckon_11 : decode cX0_reckon 11 = .ok (.invokestatic 90, 3) := by decide +kernel
theorem dX0_reckon_14 : decode cX0_reckon 14 = .ok (.goto 4, 3) := by decide +kernel
theorem dX0_reckon_17 : decode cX0_reckon 17 = .ok (.iconst 0, 1) := by decide +kernel
theorem dX0_reckon_18 : decode cX0_reckon 18 = .ok (.ireturn, 1) := by decide +kernel
theorem dX0_doStep_0 : decode cX0_doStep 0 = .ok (.aload_n 0, 1) := by decide +kernel
theorem dX0_doStep_1 : decode cX0_doStep 1 = .ok (.getfield 16, 3) := by decide +kernel
theorem dX0_doStep_4 : decode cX0_doStep 4 = .ok (.invokestatic 94, 3) := by decide +kernel
theorem dX0_doStep_7 : decode cX0_doStep 7 = .ok (.ifCond .ne 13, 3) := by decide +kernel
theorem dX0_doStep_10 : decode cX0_doStep 10 = .ok (.aload_n 0, 1) := by decide +kernel
theorem dX0_doStep_11 : decode cX0_doStep 11 = .ok (.iconst 1, 1) := by decide +kernel
theorem dX0_doStep_12 : decode cX0_doStep 12 = .ok (.aload_n 0, 1) := by decide +kernel
theorem dX0_doStep_13 : decode cX0_doStep 13 = .ok (.getfield 16, 3) := by decide +kernel
theorem dX0_doStep_16 : decode cX0_doStep 16 = .ok (.invokevirtual 97, 3) := by decide +kernel
theorem dX0_doStep_19 : decode cX0_doStep 19 = .ok (.ireturn, 1) := by decide +kernel
theorem dX0_doStep_20 : decode cX0_doStep 20 = .ok (.aload_n 0, 1) := by decide +kernel
theorem dX0_doStep_21 : decode cX0_doStep 21 = .ok (.aload_n 0, 1) := by decide +kernel
theorem dX0_doStep_22 : decode cX0_doStep 22 = .ok (.aload_n 0, 1) := by decide +kernel
theorem dX0_doStep_23 : decode cX0_doStep 23 = .ok (.getfield 16, 3) := by decide +kernel
theorem dX0_doStep_26 : decode cX0_doStep 26 = .ok (.invokevirtual 37, 3) := by decide +kernel
theorem dX0_doStep_29 : decode cX0_doStep 29 = .ok (.invokevirtual 51, 3) := by decide +kernel
theorem dX0_doStep_32 : decode cX0_doStep 32 = .ok (.ireturn, 1) := by decide +kernel
theorem dX0_perform_0 : decode cX0_perform 0 = .ok (.iload_n 1, 1) := by decide +kernel
theorem dX0_perform_1 : decode cX0_perform 1 = .ok (.invokestatic 87, 3) := by decide +kernel
theorem dX0_perform_4 : decode cX0_perform 4 = .ok (.ifCond .ne 10, 3) := by decide +kernel
theorem dX0_perform_7 : decode cX0_perform 7 = .ok (.aload_n 0, 1) := by decide +kernel
theorem dX0_perform_8 : decode cX0_perform 8 = .ok (.iconst 2, 1) := by decide +kernel
theorem dX0_perform_9 : decode cX0_perform 9 = .ok (.iload_n 1, 1) := by decide +kernel
theorem dX0_perform_10 : decode cX0_perform 10 = .ok (.invokevirtual 97, 3) := by decide +kernel
theorem dX0_perform_13 : decode cX0_perform 13 = .ok (.ireturn, 1) := by decide +kernel
theorem dX0_perform_14 : decode cX0_perform 14 = .ok (.iload_n 1, 1) := by decide +kernel
theorem dX0_perform_15 : decode cX0_perform 15 = .ok (.invokestatic 54, 3) := by decide +kernel
theorem dX0_perform_18 : decode cX0_perform 18 = .ok (.lookupswitch 140 #[(3, 117), (15, 129), (35, 123), (99, 111), (103, 89), (111, 74), (115, 66)], 66) := by decide +kernel
theorem dX0_perform_84 : decode cX0_perform 84 = .ok (.aload_n 0, 1) := by decide +kernel
theorem dX0_perform_85 : decode cX0_perform 85 = .ok (.bipush 100, 2) := by decide +kernel
theorem dX0_perform_87 : decode cX0_perform 87 = .ok (.iload_n 1, 1) := by decide +kernel
theorem dX0_perform_88 : decode cX0_perform 88 = .ok (.invokevirtual 97, 3) := by decide +kernel
theorem dX0_perform_91 : decode cX0_perform 91 = .ok (.ireturn, 1) := by decide +kernel
theorem dX0_perform_92 : decode cX0_perform 92 = .ok (.aload_n 0, 1) := by decide +kernel
theorem dX0_perform_93 : decode cX0_perform 93 = .ok (.iload_n 1, 1) := by decide +kernel
theorem dX0_perform_94 : decode cX0_perform 94 = .ok (.aload_n 0, 1) := by decide +kernel
theorem dX0_perform_95 : decode cX0_perform 95 = .ok (.getfield 16, 3) := by decide +kernel
theorem dX0_perform_98 : decode cX0_perform 98 = .ok (.iload_n 1, 1) := by decide +kernel
theorem dX0_perform_99 : decode cX0_perform 99 = .ok (.invokestatic 84, 3) := by decide +kernel
theorem dX0_perform_102 : decode cX0_perform 102 = .ok (.iadd, 1) := by decide +kernel
theorem dX0_perform_103 : decode cX0_perform 103 = .ok (.invokevirtual 101, 3) := by decide +kernel
theorem dX0_perform_106 : decode cX0_perform 106 = .ok (.ireturn, 1) := by decide +kernel
theorem dX0_perform_107 : decode cX0_perform 107 = .ok (.aload_n 0, 1) := by decide +kernel
theorem dX0_perform_108 : decode cX0_perform 108 = .ok (.iload_n 1, 1) := by decide +kernel
theorem dX0_perform_109 : decode cX0_perform 109 = .ok (.aload_n 0, 1) := by decide +kernel
theorem dX0_perform_110 : decode cX0_perform 110 = .ok (.iload_n 1, 1) := by decide +kernel
theorem dX0_perform_111 : decode cX0_perform 111 = .ok (.invokestatic 63, 3) := by decide +kernel
theorem dX0_perform_114 : decode cX0_perform 114 = .ok (.invokevirtual 41, 3) := by decide +kernel
theorem dX0_perform_117 : decode cX0_perform 117 = .ok (.iload_n 1, 1) := by decide +kernel
theorem dX0_perform_118 : decode cX0_perform 118 = .ok (.invokestatic 72, 3) := by decide +kernel
theorem dX0_perform_121 : decode cX0_perform 121 = .ok (.iadd, 1) := by decide +kernel
theorem dX0_perform_122 : decode cX0_perform 122 = .ok (.bipush (-2), 2) := by decide +kernel
theorem dX0_perform_124 : decode cX0_perform 124 = .ok (.iand, 1) := by decide +kernel
theorem dX0_perform_125 : decode cX0_perform 125 = .ok (.invokevirtual 101, 3) := by decide +kernel
theorem dX0_perform_128 : decode cX0_perform 128 = .ok (.ireturn, 1) := by decide +kernel
theorem dX0_perform_129 : decode cX0_perform 129 = .ok (.aload_n 0, 1) := by decide +kernel
theorem dX0_perform_130 : decode cX0_perform 130 = .ok (.iload_n 1, 1) := by decide +kernel
theorem dX0_perform_131 : decode cX0_perform 131 = .ok (.invokevirtual 104, 3) := by decide +kernel
theorem dX0_perform_134 : decode cX0_perform 134 = .ok (.ireturn, 1) := by decide +kernel
theorem dX0_perform_135 : decode cX0_perform 135 = .ok (.aload_n 0, 1) := by decide +kernel
theorem dX0_perform_136 : decode cX0_perform 136 = .ok (.iload_n 1, 1) := by decide +kernel
theorem dX0_perform_137 : decode cX0_perform 137 = .ok (.invokevirtual 107, 3) := by decide +kernel
theorem dX0_perform_140 : decode cX0_perform 140 = .ok (.ireturn, 1) := by decide +kernel
theorem dX0_perform_141 : decode cX0_perform 141 = .ok (.aload_n 0, 1) := by decide +kernel
theorem dX0_perform_142 : decode cX0_perform 142 = .ok (.iload_n 1, 1) := by decide +kernel
theorem dX0_perform_143 : decode cX0_perform 143 = .ok (.invokevirtual 110, 3) := by decide +kernel
theorem dX0_perform_146 : decode cX0_perform 146 = .ok (.ireturn, 1) := by decide +kernel
theorem dX0_perform_147 : decode cX0_perform 147 = .ok (.aload_n 0, 1) := by decide +kernel
theorem dX0_perform_148 : decode cX0_perform 148 = .ok (.aload_n 0, 1) := by decide +kernel
theorem dX0_perform_149 : decode cX0_perform 149 = .ok (.getfield 16, 3) := by decide +kernel
theorem dX0_perform_152 : decode cX0_perform 152 = .ok (.iconst 4, 1) := by decide +kernel
theorem dX0_perform_153 : decode cX0_perform 153 = .ok (.iadd, 1) := by decide +kernel
theorem dX0_perform_154 : decode cX0_perform 154 = .ok (.invokevirtual 113, 3) := by decide +kernel
theorem dX0_perform_157 : decode cX0_perform 157 = .ok (.ireturn, 1) := by decide +kernel
theorem dX0_perform_158 : decode cX0_perform 158 = .ok (.aload_n 0, 1) := by decide +kernel
theorem dX0_perform_159 : decode cX0_perform 159 = .ok (.iload_n 1, 1) := by decide +kernel
theorem dX0_perform_160 : decode cX0_perform 160 = .ok (.invokestatic 57, 3) := by decide +kernel
theorem dX0_perform_163 : decode cX0_perform 163 = .ok (.iload_n 1, 1) := by decide +kernel
theorem dX0_perform_164 : decode cX0_perform 164 = .ok (.aload_n 0, 1) := by decide +kernel
theorem dX0_perform_165 : decode cX0_perform 165 = .ok (.iload_n 1, 1) := by decide +kernel
theorem dX0_perform_166 : decode cX0_perform 166 = .ok (.invokestatic 63, 3) := by decide +kernel
theorem dX0_perform_169 : decode cX0_perform 169 = .ok (.invokevirtual 41, 3) := by decide +kernel
theorem dX0_perform_172 : decode cX0_perform 172 = .ok (.aload_n 0, 1) := by decide +kernel
theorem dX0_perform_173 : decode cX0_perform 173 = .ok (.iload_n 1, 1) := by decide +kernel
theorem dX0_perform_174 : decode cX0_perform 174 = .ok (.invokestatic 66, 3) := by decide +kernel
theorem dX0_perform_177 : decode cX0_perform 177 = .ok (.invokevirtual 41, 3) := by decide +kernel
theorem dX0_perform_180 : decode cX0_perform 180 = .ok (.aload_n 0, 1) := by decide +kernel
theorem dX0_perform_181 : decode cX0_perform 181 = .ok (.getfield 16, 3) := by decide +kernel
theorem dX0_perform_184 : decode cX0_perform 184 = .ok (.invokestatic 90, 3) := by decide +kernel
theorem dX0_perform_187 : decode cX0_perform 187 = .ok (.invokevirtual 44, 3) := by decide +kernel
theorem dX0_perform_190 : decode cX0_perform 190 = .ok (.aload_n 0, 1) := by decide +kernel
theorem dX0_perform_191 : decode cX0_perform 191 = .ok (.aload_n 0, 1) := by decide +kernel
theorem dX0_perform_192 : decode cX0_perform 192 = .ok (.getfield 16, 3) := by decide +kernel
theorem dX0_perform_195 : decode cX0_perform 195 = .ok (.iconst 4, 1) := by decide +kernel
theorem dX0_perform_196 : decode cX0_perform 196 = .ok (.iadd, 1) := by decide +kernel
theorem dX0_perform_197 : decode cX0_perform 197 = .ok (.invokevirtual 113, 3) := by decide +kernel
theorem dX0_perform_200 : decode cX0_perform 200 = .ok (.ireturn, 1) := by decide +kernel
theorem dX0_finish_0 : decode cX0_finish 0 = .ok (.aload_n 0, 1) := by decide +kernel
theorem dX0_finish_1 : decode cX0_finish 1 = .ok (.iload_n 1, 1) := by decide +kernel
theorem dX0_finish_2 : decode cX0_finish 2 = .ok (.putfield 16, 3) := by decide +kernel
theorem dX0_finish_5 : decode cX0_finish 5 = .ok (.aload_n 0, 1) := by decide +kernel
theorem dX0_finish_6 : decode cX0_finish 6 = .ok (.iconst (-1), 1) := by decide +kernel
theorem dX0_finish_7 : decode cX0_finish 7 = .ok (.putfield 20, 3) := by decide +kernel
theorem dX0_finish_10 : decode cX0_finish 10 = .ok (.aload_n 0, 1) := by decide +kernel
theorem dX0_finish_11 : decode cX0_finish 11 = .ok (.iconst 0, 1) := by decide +kernel
theorem dX0_finish_12 : decode cX0_finish 12 = .ok (.putfield 23, 3) := by decide +kernel
theorem dX0_finish_15 : decode cX0_finish 15 = .ok (.aload_n 0, 1) := by decide +kernel
theorem dX0_finish_16 : decode cX0_finish 16 = .ok (.dup, 1) := by decide +kernel
theorem dX0_finish_17 : decode cX0_finish 17 = .ok (.getfield 26, 3) := by decide +kernel
theorem dX0_finish_20 : decode cX0_finish 20 = .ok (.iconst 1, 1) := by decide +kernel
theorem dX0_finish_21 : decode cX0_finish 21 = .ok (.iadd, 1) := by decide +kernel
theorem dX0_finish_22 : decode cX0_finish 22 = .ok (.putfield 26, 3) := by decide +kernel
theorem dX0_finish_25 : decode cX0_finish 25 = .ok (.iconst (-1), 1) := by decide +kernel
theorem dX0_finish_26 : decode cX0_finish 26 = .ok (.ireturn, 1) := by decide +kernel
theorem dX0_tell_0 : decode cX0_tell 0 = .ok (.aload_n 0, 1) := by decide +kernel
theorem dX0_tell_1 : decode cX0_tell 1 = .ok (.iload_n 1, 1) := by decide +kernel
theorem dX0_tell_2 : decode cX0_tell 2 = .ok (.putfield 20, 3) := by decide +kernel
theorem dX0_tell_5 : decode cX0_tell 5 = .ok (.aload_n 0, 1) := by decide +kernel
theorem dX0_tell_6 : decode cX0_tell 6 = .ok (.iload_n 2, 1) := by decide +kernel
theorem dX0_tell_7 : decode cX0_tell 7 = .ok (.putfield 23, 3) := by decide +kernel
theorem dX0_tell_10 : decode cX0_tell 10 = .ok (.iload_n 1, 1) := by decide +kernel
theorem dX0_tell_11 : decode cX0_tell 11 = .ok (.ireturn, 1) := by decide +kernel
theorem dX0_jump_0 : decode cX0_jump 0 = .ok (.iload_n 2, 1) := by decide +kernel
theorem dX0_jump_1 : decode cX0_jump 1 = .ok (.invokestatic 29, 3) := by decide +kernel
theorem dX0_jump_4 : decode cX0_jump 4 = .ok (.ifCond .ne 10, 3) := by decide +kernel
theorem dX0_jump_7 : decode cX0_jump 7 = .ok (.aload_n 0, 1) := by decide +kernel
theorem dX0_jump_8 : decode cX0_jump 8 = .ok (.iconst 0, 1) := by decide +kernel
theorem dX0_jump_9 : decode cX0_jump 9 = .ok (.iload_n 2, 1) := by decide +kernel
theorem dX0_jump_10 : decode cX0_jump 10 = .ok (.invokevirtual 97, 3) := by decide +kernel
theorem dX0_jump_13 : decode cX0_jump 13 = .ok (.ireturn, 1) := by decide +kernel
theorem dX0_jump_14 : decode cX0_jump 14 = .ok (.aload_n 0, 1) := by decide +kernel
theorem dX0_jump_15 : decode cX0_jump 15 = .ok (.iload_n 1, 1) := by decide +kernel
theorem dX0_jump_16 : decode cX0_jump 16 = .ok (.invokestatic 57, 3) := by decide +kernel
theorem dX0_jump_19 : decode cX0_jump 19 = .ok (.aload_n 0, 1) := by decide +kernel
theorem dX0_jump_20 : decode cX0_jump 20 = .ok (.getfield 16, 3) := by decide +kernel
theorem dX0_jump_23 : decode cX0_jump 23 = .ok (.iconst 4, 1) := by decide +kernel
theorem dX0_jump_24 : decode cX0_jump 24 = .ok (.iadd, 1) := by decide +kernel
theorem dX0_jump_25 : decode cX0_jump 25 = .ok (.invokevirtual 44, 3) := by decide +kernel
theorem dX0_jump_28 : decode cX0_jump 28 = .ok (.aload_n 0, 1) := by decide +kernel
theorem dX0_jump_29 : decode cX0_jump 29 = .ok (.iload_n 2, 1) := by decide +kernel
theorem dX0_jump_30 : decode cX0_jump 30 = .ok (.invokevirtual 113, 3) := by decide +kernel
theorem dX0_jump_33 : decode cX0_jump 33 = .ok (.ireturn, 1) := by decide +kernel
theorem dX0_branch_0 : decode cX0_branch 0 = .ok (.iload_n 1, 1) := by decide +kernel
theorem dX0_branch_1 : decode cX0_branch 1 = .ok (.invokestatic 60, 3) := by decide +kernel
theorem dX0_branch_4 : decode cX0_branch 4 = .ok (.aload_n 0, 1) := by decide +kernel
theorem dX0_branch_5 : decode cX0_branch 5 = .ok (.iload_n 1, 1) := by decide +kernel
theorem dX0_branch_6 : decode cX0_branch 6 = .ok (.invokestatic 63, 3) := by decide +kernel
theorem dX0_branch_9 : decode cX0_branch 9 = .ok (.invokevirtual 41, 3) := by decide +kernel
theorem dX0_branch_12 : decode cX0_branch 12 = .ok (.aload_n 0, 1) := by decide +kernel
theorem dX0_branch_13 : decode cX0_branch 13 = .ok (.iload_n 1, 1) := by decide +kernel
theorem dX0_branch_14 : decode cX0_branch 14 = .ok (.invokestatic 66, 3) := by decide +kernel
theorem dX0_branch_17 : decode cX0_branch 17 = .ok (.invokevirtual 41, 3) := by decide +kernel
theorem dX0_branch_20 : decode cX0_branch 20 = .ok (.invokestatic 116, 3) := by decide +kernel
theorem dX0_branch_23 : decode cX0_branch 23 = .ok (.ifCond .ne 14, 3) := by decide +kernel
theorem dX0_branch_26 : decode cX0_branch 26 = .ok (.aload_n 0, 1) := by decide +kernel
theorem dX0_branch_27 : decode cX0_branch 27 = .ok (.aload_n 0, 1) := by decide +kernel
theorem dX0_branch_28 : decode cX0_branch 28 = .ok (.getfield 16, 3) := by decide +kernel
theorem dX0_branch_31 : decode cX0_branch 31 = .ok (.iconst 4, 1) := by decide +kernel
theorem dX0_branch_32 : decode cX0_branch 32 = .ok (.iadd, 1) := by decide +kernel
theorem dX0_branch_33 : decode cX0_branch 33 = .ok (.invokevirtual 113, 3) := by decide +kernel
theorem dX0_branch_36 : decode cX0_branch 36 = .ok (.ireturn, 1) := by decide +kernel
theorem dX0_branch_37 : decode cX0_branch 37 = .ok (.aload_n 0, 1) := by decide +kernel
theorem dX0_branch_38 : decode cX0_branch 38 = .ok (.getfield 16, 3) := by decide +kernel
theorem dX0_branch_41 : decode cX0_branch 41 = .ok (.iload_n 1, 1) := by decide +kernel
theorem dX0_branch_42 : decode cX0_branch 42 = .ok (.invokestatic 78, 3) := by decide +kernel
theorem dX0_branch_45 : decode cX0_branch 45 = .ok (.iadd, 1) := by decide +kernel
theorem dX0_branch_46 : decode cX0_branch 46 = .ok (.istore_n 2, 1) := by decide +kernel
theorem dX0_branch_47 : decode cX0_branch 47 = .ok (.iload_n 2, 1) := by decide +kernel
theorem dX0_branch_48 : decode cX0_branch 48 = .ok (.invokestatic 29, 3) := by decide +kernel
theorem dX0_branch_51 : decode cX0_branch 51 = .ok (.ifCond .eq 11, 3) := by decide +kernel
theorem dX0_branch_54 : decode cX0_branch 54 = .ok (.aload_n 0, 1) := by decide +kernel
theorem dX0_branch_55 : decode cX0_branch 55 = .ok (.iload_n 2, 1) := by decide +kernel
theorem dX0_branch_56 : decode cX0_branch 56 = .ok (.invokevirtual 113, 3) := by decide +kernel
theorem dX0_branch_59 : decode cX0_branch 59 = .ok (.goto 9, 3) := by decide +kernel
theorem dX0_branch_62 : decode cX0_branch 62 = .ok (.aload_n 0, 1) := by decide +kernel
theorem dX0_branch_63 : decode cX0_branch 63 = .ok (.iconst 0, 1) := by decide +kernel
theorem dX0_branch_64 : decode cX0_branch 64 = .ok (.iload_n 2, 1) := by decide +kernel
theorem dX0_branch_65 : decode cX0_branch 65 = .ok (.invokevirtual 97, 3) := by decide +kernel
theorem dX0_branch_68 : decode cX0_branch 68 = .ok (.ireturn, 1) := by decide +kernel
theorem dX0_isTaken_0 : decode cX0_isTaken 0 = .ok (.iload_n 0, 1) := by decide +kernel
theorem dX0_isTaken_1 : decode cX0_isTaken 1 = .ok (.tableswitch 93 0 6 #[43, 54, 93, 93, 65, 76, 87], 43) := by decide +kernel
theorem dX0_isTaken_44 : decode cX0_isTaken 44 = .ok (.iload_n 1, 1) := by decide +kernel
theorem dX0_isTaken_45 : decode cX0_isTaken 45 = .ok (.iload_n 2, 1) := by decide +kernel
theorem dX0_isTaken_46 : decode cX0_isTaken 46 = .ok (.if_icmp .ne 7, 3) := by decide +kernel
theorem dX0_isTaken_49 : decode cX0_isTaken 49 = .ok (.iconst 1, 1) := by decide +kernel
theorem dX0_isTaken_50 : decode cX0_isTaken 50 = .ok (.goto 4, 3) := by decide +kernel
theorem dX0_isTaken_53 : decode cX0_isTaken 53 = .ok (.iconst 0, 1) := by decide +kernel
theorem dX0_isTaken_54 : decode cX0_isTaken 54 = .ok (.ireturn, 1) := by decide +kernel
theorem dX0_isTaken_55 : decode cX0_isTaken 55 = .ok (.iload_n 1, 1) := by decide +kernel
theorem dX0_isTaken_56 : decode cX0_isTaken 56 = .ok (.iload_n 2, 1) := by decide +kernel
theorem dX0_isTaken_57 : decode cX0_isTaken 57 = .ok (.if_icmp .eq 7, 3) := by decide +kernel
theorem dX0_isTaken_60 : decode cX0_isTaken 60 = .ok (.iconst 1, 1) := by decide +kernel
theorem dX0_isTaken_61 : decode cX0_isTaken 61 = .ok (.goto 4, 3) := by decide +kernel
theorem dX0_isTaken_64 : decode cX0_isTaken 64 = .ok (.iconst 0, 1) := by decide +kernel
theorem dX0_isTaken_65 : decode cX0_isTaken 65 = .ok (.ireturn, 1) := by decide +kernel
theorem dX0_isTaken_66 : decode cX0_isTaken 66 = .ok (.iload_n 1, 1) := by decide +kernel
theorem dX0_isTaken_67 : decode cX0_isTaken 67 = .ok (.iload_n 2, 1) := by decide +kernel
theorem dX0_isTaken_68 : decode cX0_isTaken 68 = .ok (.if_icmp .ge 7, 3) := by decide +kernel
theorem dX0_isTaken_71 : decode cX0_isTaken 71 = .ok (.iconst 1, 1) := by decide +kernel
theorem dX0_isTaken_72 : decode cX0_isTaken 72 = .ok (.goto 4, 3) := by decide +kernel
theorem dX0_isTaken_75 : decode cX0_isTaken 75 = .ok (.iconst 0, 1) := by decide +kernel
theorem dX0_isTaken_76 : decode cX0_isTaken 76 = .ok (.ireturn, 1) := by decide +kernel
theorem dX0_isTaken_77 : decode cX0_isTaken 77 = .ok (.iload_n 1, 1) := by decide +kernel
theorem dX0_isTaken_78 : decode cX0_isTaken 78 = .ok (.iload_n 2, 1) := by decide +kernel
theorem dX0_isTaken_79 : decode cX0_isTaken 79 = .ok (.if_icmp .lt 7, 3) := by decide +kernel
theorem dX0_isTaken_82 : decode cX0_isTaken 82 = .ok (.iconst 1, 1) := by decide +kernel
theorem dX0_isTaken_83 : decode cX0_isTaken 83 = .ok (.goto 4, 3) := by decide +kernel
theorem dX0_isTaken_86 : decode cX0_isTaken 86 = .ok (.iconst 0, 1) := by decide +kernel
theorem dX0_isTaken_87 : decode cX0_isTaken 87 = .ok (.ireturn, 1) := by decide +kernel
theorem dX0_isTaken_88 : decode cX0_isTaken 88 = .ok (.iload_n 1, 1) := by decide +kernel
theorem dX0_isTaken_89 : decode cX0_isTaken 89 = .ok (.iload_n 2, 1) := by decide +kernel
theorem dX0_isTaken_90 : decode cX0_isTaken 90 = .ok (.invokestatic 120, 3) := by decide +kernel
theorem dX0_isTaken_93 : decode cX0_isTaken 93 = .ok (.ireturn, 1) := by decide +kernel
theorem dX0_isTaken_94 : decode cX0_isTaken 94 = .ok (.iload_n 1, 1) := by decide +kernel
theorem dX0_isTaken_95 : decode cX0_isTaken 95 = .ok (.iload_n 2, 1) := by decide +kernel
theorem dX0_isTaken_96 : decode cX0_isTaken 96 = .ok (.invokestatic 120, 3) := by decide +kernel
theorem dX0_isTaken_99 : decode cX0_isTaken 99 = .ok (.ifCond .ne 7, 3) := by decide +kernel
theorem dX0_isTaken_102 : decode cX0_isTaken 102 = .ok (.iconst 1, 1) := by decide +kernel
theorem dX0_isTaken_103 : decode cX0_isTaken 103 = .ok (.goto 4, 3) := by decide +kernel
theorem dX0_isTaken_106 : decode cX0_isTaken 106 = .ok (.iconst 0, 1) := by decide +kernel
theorem dX0_isTaken_107 : decode cX0_isTaken 107 = .ok (.ireturn, 1) := by decide +kernel
theorem dX0_load_0 : decode cX0_load 0 = .ok (.aload_n 0, 1) := by decide +kernel
theorem dX0_load_1 : decode cX0_load 1 = .ok (.iload_n 1, 1) := by decide +kernel
theorem dX0_load_2 : decode cX0_load 2 = .ok (.invokestatic 63, 3) := by decide +kernel
theorem dX0_load_5 : decode cX0_load 5 = .ok (.invokevirtual 41, 3) := by decide +kernel
theorem dX0_load_8 : decode cX0_load 8 = .ok (.iload_n 1, 1) := by decide +kernel
theorem dX0_load_9 : decode cX0_load 9 = .ok (.invokestatic 72, 3) := by decide +kernel
theorem dX0_load_12 : decode cX0_load 12 = .ok (.iadd, 1) := by decide +kernel
theorem dX0_load_13 : decode cX0_load 13 = .ok (.istore_n 2, 1) := by decide +kernel
theorem dX0_load_14 : decode cX0_load 14 = .ok (.iload_n 2, 1) := by decide +kernel
theorem dX0_load_15 : decode cX0_load 15 = .ok (.iload_n 1, 1) := by decide +kernel
theorem dX0_load_16 : decode cX0_load 16 = .ok (.invokestatic 60, 3) := by decide +kernel
theorem dX0_load_19 : decode cX0_load 19 = .ok (.invokestatic 124, 3) := by decide +kernel
theorem dX0_load_22 : decode cX0_load 22 = .ok (.ifCond .ne 10, 3) := by decide +kernel
theorem dX0_load_25 : decode cX0_load 25 = .ok (.aload_n 0, 1) := by decide +kernel
theorem dX0_load_26 : decode cX0_load 26 = .ok (.iconst 4, 1) := by decide +kernel
theorem dX0_load_27 : decode cX0_load 27 = .ok (.iload_n 2, 1) := by decide +kernel
theorem dX0_load_28 : decode cX0_load 28 = .ok (.invokevirtual 97, 3) := by decide +kernel
theorem dX0_load_31 : decode cX0_load 31 = .ok (.ireturn, 1) := by decide +kernel
theorem dX0_load_32 : decode cX0_load 32 = .ok (.iload_n 2, 1) := by decide +kernel
theorem dX0_load_33 : decode cX0_load 33 = .ok (.invokestatic 94, 3) := by decide +kernel
theorem dX0_load_36 : decode cX0_load 36 = .ok (.ifCond .ne 10, 3) := by decide +kernel
theorem dX0_load_39 : decode cX0_load 39 = .ok (.aload_n 0, 1) := by decide +kernel
theorem dX0_load_40 : decode cX0_load 40 = .ok (.iconst 5, 1) := by decide +kernel
theorem dX0_load_41 : decode cX0_load 41 = .ok (.iload_n 2, 1) := by decide +kernel
theorem dX0_load_42 : decode cX0_load 42 = .ok (.invokevirtual 97, 3) := by decide +kernel
theorem dX0_load_45 : decode cX0_load 45 = .ok (.ireturn, 1) := by decide +kernel
theorem dX0_load_46 : decode cX0_load 46 = .ok (.aload_n 0, 1) := by decide +kernel
theorem dX0_load_47 : decode cX0_load 47 = .ok (.iload_n 1, 1) := by decide +kernel
theorem dX0_load_48 : decode cX0_load 48 = .ok (.invokestatic 57, 3) := by decide +kernel
theorem dX0_load_51 : decode cX0_load 51 = .ok (.iload_n 1, 1) := by decide +kernel
theorem dX0_load_52 : decode cX0_load 52 = .ok (.invokestatic 60, 3) := by decide +kernel
theorem dX0_load_55 : decode cX0_load 55 = .ok (.aload_n 0, 1) := by decide +kernel
theorem dX0_load_56 : decode cX0_load 56 = .ok (.iload_n 2, 1) := by decide +kernel
theorem dX0_load_57 : decode cX0_load 57 = .ok (.invokevirtual 37, 3) := by decide +kernel
theorem dX0_load_60 : decode cX0_load 60 = .ok (.iload_n 2, 1) := by decide +kernel
theorem dX0_load_61 : decode cX0_load 61 = .ok (.invokestatic 127, 3) := by decide +kernel
theorem dX0_load_64 : decode cX0_load 64 = .ok (.iushr, 1) := by decide +kernel
theorem dX0_load_65 : decode cX0_load 65 = .ok (.invokestatic 130, 3) := by decide +kernel
theorem dX0_load_68 : decode cX0_load 68 = .ok (.invokevirtual 44, 3) := by decide +kernel
theorem dX0_load_71 : decode cX0_load 71 = .ok (.aload_n 0, 1) := by decide +kernel
theorem dX0_load_72 : decode cX0_load 72 = .ok (.aload_n 0, 1) := by decide +kernel
theorem dX0_load_73 : decode cX0_load 73 = .ok (.getfield 16, 3) := by decide +kernel
theorem dX0_load_76 : decode cX0_load 76 = .ok (.iconst 4, 1) := by decide +kernel
theorem dX0_load_77 : decode cX0_load 77 = .ok (.iadd, 1) := by decide +kernel
theorem dX0_load_78 : decode cX0_load 78 = .ok (.invokevirtual 113, 3) := by decide +kernel
theorem dX0_load_81 : decode cX0_load 81 = .ok (.ireturn, 1) := by decide +kernel
theorem dX0_loaded_0 : decode cX0_loaded 0 = .ok (.iload_n 0, 1) := by decide +kernel
theorem dX0_loaded_1 : decode cX0_loaded 1 = .ok (.tableswitch 56 0 5 #[39, 42, 56, 56, 45, 51], 39) := by decide +kernel
theorem dX0_loaded_40 : decode cX0_loaded 40 = .ok (.iload_n 1, 1) := by decide +kernel
theorem dX0_loaded_41 : decode cX0_loaded 41 = .ok (.i2b, 1) := by decide +kernel
theorem dX0_loaded_42 : decode cX0_loaded 42 = .ok (.ireturn, 1) := by decide +kernel
theorem dX0_loaded_43 : decode cX0_loaded 43 = .ok (.iload_n 1, 1) := by decide +kernel
theorem dX0_loaded_44 : decode cX0_loaded 44 = .ok (.i2s, 1) := by decide +kernel
theorem dX0_loaded_45 : decode cX0_loaded 45 = .ok (.ireturn, 1) := by decide +kernel
theorem dX0_loaded_46 : decode cX0_loaded 46 = .ok (.iload_n 1, 1) := by decide +kernel
theorem dX0_loaded_47 : decode cX0_loaded 47 = .ok (.sipush 255, 3) := by decide +kernel
theorem dX0_loaded_50 : decode cX0_loaded 50 = .ok (.iand, 1) := by decide +kernel
theorem dX0_loaded_51 : decode cX0_loaded 51 = .ok (.ireturn, 1) := by decide +kernel
theorem dX0_loaded_52 : decode cX0_loaded 52 = .ok (.iload_n 1, 1) := by decide +kernel
theorem dX0_loaded_53 : decode cX0_loaded 53 = .ok (.ldc 133, 2) := by decide +kernel
theorem dX0_loaded_55 : decode cX0_loaded 55 = .ok (.iand, 1) := by decide +kernel
theorem dX0_loaded_56 : decode cX0_loaded 56 = .ok (.ireturn, 1) := by decide +kernel
theorem dX0_loaded_57 : decode cX0_loaded 57 = .ok (.iload_n 1, 1) := by decide +kernel
theorem dX0_loaded_58 : decode cX0_loaded 58 = .ok (.ireturn, 1) := by decide +kernel
theorem dX0_store_0 : decode cX0_store 0 = .ok (.aload_n 0, 1) := by decide +kernel
theorem dX0_store_1 : decode cX0_store 1 = .ok (.iload_n 1, 1) := by decide +kernel
theorem dX0_store_2 : decode cX0_store 2 = .ok (.invokestatic 63, 3) := by decide +kernel
theorem dX0_store_5 : decode cX0_store 5 = .ok (.invokevirtual 41, 3) := by decide +kernel
theorem dX0_store_8 : decode cX0_store 8 = .ok (.iload_n 1, 1) := by decide +kernel
theorem dX0_store_9 : decode cX0_store 9 = .ok (.invokestatic 75, 3) := by decide +kernel
theorem dX0_store_12 : decode cX0_store 12 = .ok (.iadd, 1) := by decide +kernel
theorem dX0_store_13 : decode cX0_store 13 = .ok (.istore_n 2, 1) := by decide +kernel
theorem dX0_store_14 : decode cX0_store 14 = .ok (.iload_n 2, 1) := by decide +kernel
theorem dX0_store_15 : decode cX0_store 15 = .ok (.iload_n 1, 1) := by decide +kernel
theorem dX0_store_16 : decode cX0_store 16 = .ok (.invokestatic 60, 3) := by decide +kernel
theorem dX0_store_19 : decode cX0_store 19 = .ok (.invokestatic 124, 3) := by decide +kernel
theorem dX0_store_22 : decode cX0_store 22 = .ok (.ifCond .ne 11, 3) := by decide +kernel
theorem dX0_store_25 : decode cX0_store 25 = .ok (.aload_n 0, 1) := by decide +kernel
theorem dX0_store_26 : decode cX0_store 26 = .ok (.bipush 6, 2) := by decide +kernel
theorem dX0_store_28 : decode cX0_store 28 = .ok (.iload_n 2, 1) := by decide +kernel
theorem dX0_store_29 : decode cX0_store 29 = .ok (.invokevirtual 97, 3) := by decide +kernel
theorem dX0_store_32 : decode cX0_store 32 = .ok (.ireturn, 1) := by decide +kernel
theorem dX0_store_33 : decode cX0_store 33 = .ok (.iload_n 2, 1) := by decide +kernel
theorem dX0_store_34 : decode cX0_store 34 = .ok (.invokestatic 94, 3) := by decide +kernel
theorem dX0_store_37 : decode cX0_store 37 = .ok (.ifCond .ne 11, 3) := by decide +kernel
theorem dX0_store_40 : decode cX0_store 40 = .ok (.aload_n 0, 1) := by decide +kernel
theorem dX0_store_41 : decode cX0_store 41 = .ok (.bipush 7, 2) := by decide +kernel
theorem dX0_store_43 : decode cX0_store 43 = .ok (.iload_n 2, 1) := by decide +kernel
theorem dX0_store_44 : decode cX0_store 44 = .ok (.invokevirtual 97, 3) := by decide +kernel
theorem dX0_store_47 : decode cX0_store 47 = .ok (.ireturn, 1) := by decide +kernel
theorem dX0_store_48 : decode cX0_store 48 = .ok (.iload_n 1, 1) := by decide +kernel
theorem dX0_store_49 : decode cX0_store 49 = .ok (.invokestatic 60, 3) := by decide +kernel
theorem dX0_store_52 : decode cX0_store 52 = .ok (.invokestatic 134, 3) := by decide +kernel
theorem dX0_store_55 : decode cX0_store 55 = .ok (.iload_n 2, 1) := by decide +kernel
theorem dX0_store_56 : decode cX0_store 56 = .ok (.invokestatic 127, 3) := by decide +kernel
theorem dX0_store_59 : decode cX0_store 59 = .ok (.ishl, 1) := by decide +kernel
theorem dX0_store_60 : decode cX0_store 60 = .ok (.istore_n 3, 1) := by decide +kernel
theorem dX0_store_61 : decode cX0_store 61 = .ok (.aload_n 0, 1) := by decide +kernel
theorem dX0_store_62 : decode cX0_store 62 = .ok (.iload_n 1, 1) := by decide +kernel
theorem dX0_store_63 : decode cX0_store 63 = .ok (.invokestatic 66, 3) := by decide +kernel
theorem dX0_store_66 : decode cX0_store 66 = .ok (.invokevirtual 41, 3) := by decide +kernel
theorem dX0_store_69 : decode cX0_store 69 = .ok (.iload_n 2, 1) := by decide +kernel
theorem dX0_store_70 : decode cX0_store 70 = .ok (.invokestatic 127, 3) := by decide +kernel
theorem dX0_store_73 : decode cX0_store 73 = .ok (.ishl, 1) := by decide +kernel
theorem dX0_store_74 : decode cX0_store 74 = .ok (.istore 4, 2) := by decide +kernel
theorem dX0_store_76 : decode cX0_store 76 = .ok (.aload_n 0, 1) := by decide +kernel
theorem dX0_store_77 : decode cX0_store 77 = .ok (.iload_n 2, 1) := by decide +kernel
theorem dX0_store_78 : decode cX0_store 78 = .ok (.aload_n 0, 1) := by decide +kernel
theorem dX0_store_79 : decode cX0_store 79 = .ok (.iload_n 2, 1) := by decide +kernel
theorem dX0_store_80 : decode cX0_store 80 = .ok (.invokevirtual 37, 3) := by decide +kernel
theorem dX0_store_83 : decode cX0_store 83 = .ok (.iload_n 3, 1) := by decide +kernel
theorem dX0_store_84 : decode cX0_store 84 = .ok (.iconst (-1), 1) := by decide +kernel
theorem dX0_store_85 : decode cX0_store 85 = .ok (.ixor, 1) := by decide +kernel
theorem dX0_store_86 : decode cX0_store 86 = .ok (.iand, 1) := by decide +kernel
theorem dX0_store_87 : decode cX0_store 87 = .ok (.iload 4, 2) := by decide +kernel
theorem dX0_store_89 : decode cX0_store 89 = .ok (.iload_n 3, 1) := by decide +kernel
theorem dX0_store_90 : decode cX0_store 90 = .ok (.iand, 1) := by decide +kernel
theorem dX0_store_91 : decode cX0_store 91 = .ok (.ior, 1) := by decide +kernel
theorem dX0_store_92 : decode cX0_store 92 = .ok (.invokevirtual 33, 3) := by decide +kernel
theorem dX0_store_95 : decode cX0_store 95 = .ok (.aload_n 0, 1) := by decide +kernel
theorem dX0_store_96 : decode cX0_store 96 = .ok (.aload_n 0, 1) := by decide +kernel
theorem dX0_store_97 : decode cX0_store 97 = .ok (.getfield 16, 3) := by decide +kernel
theorem dX0_store_100 : decode cX0_store 100 = .ok (.iconst 4, 1) := by decide +kernel
theorem dX0_store_101 : decode cX0_store 101 = .ok (.iadd, 1) := by decide +kernel
theorem dX0_store_102 : decode cX0_store 102 = .ok (.invokevirtual 113, 3) := by decide +kernel
theorem dX0_store_105 : decode cX0_store 105 = .ok (.ireturn, 1) := by decide +kernel
theorem dX0_storedMask_0 : decode cX0_storedMask 0 = .ok (.iload_n 0, 1) := by decide +kernel
theorem dX0_storedMask_1 : decode cX0_storedMask 1 = .ok (.lookupswitch 34 #[(0, 27), (1, 31)], 27) := by decide +kernel
theorem dX0_storedMask_28 : decode cX0_storedMask 28 = .ok (.sipush 255, 3) := by decide +kernel
theorem dX0_storedMask_31 : decode cX0_storedMask 31 = .ok (.ireturn, 1) := by decide +kernel
theorem dX0_storedMask_32 : decode cX0_storedMask 32 = .ok (.ldc 133, 2) := by decide +kernel
theorem dX0_storedMask_34 : decode cX0_storedMask 34 = .ok (.ireturn, 1) := by decide +kernel
theorem dX0_storedMask_35 : decode cX0_storedMask 35 = .ok (.iconst (-1), 1) := by decide +kernel
theorem dX0_storedMask_36 : decode cX0_storedMask 36 = .ok (.ireturn, 1) := by decide +kernel
theorem dX0_register_0 : decode cX0_register 0 = .ok (.iload_n 1, 1) := by decide +kernel
theorem dX0_register_1 : decode cX0_register 1 = .ok (.ifCond .lt 18, 3) := by decide +kernel
theorem dX0_register_4 : decode cX0_register 4 = .ok (.iload_n 1, 1) := by decide +kernel
theorem dX0_register_5 : decode cX0_register 5 = .ok (.bipush 32, 2) := by decide +kernel
theorem dX0_register_7 : decode cX0_register 7 = .ok (.if_icmp .ge 12, 3) := by decide +kernel
theorem dX0_register_10 : decode cX0_register 10 = .ok (.aload_n 0, 1) := by decide +kernel
theorem dX0_register_11 : decode cX0_register 11 = .ok (.getfield 13, 3) := by decide +kernel
theorem dX0_register_14 : decode cX0_register 14 = .ok (.iload_n 1, 1) := by decide +kernel
theorem dX0_register_15 : decode cX0_register 15 = .ok (.iaload, 1) := by decide +kernel
theorem dX0_register_16 : decode cX0_register 16 = .ok (.goto 4, 3) := by decide +kernel
theorem dX0_register_19 : decode cX0_register 19 = .ok (.iconst 0, 1) := by decide +kernel
theorem dX0_register_20 : decode cX0_register 20 = .ok (.ireturn, 1) := by decide +kernel
theorem dX0_setRegister_0 : decode cX0_setRegister 0 = .ok (.iload_n 1, 1) := by decide +kernel
theorem dX0_setRegister_1 : decode cX0_setRegister 1 = .ok (.ifCond .le 16, 3) := by decide +kernel
theorem dX0_setRegister_4 : decode cX0_setRegister 4 = .ok (.iload_n 1, 1) := by decide +kernel
theorem dX0_setRegister_5 : decode cX0_setRegister 5 = .ok (.bipush 32, 2) := by decide +kernel
theorem dX0_setRegister_7 : decode cX0_setRegister 7 = .ok (.if_icmp .ge 10, 3) := by decide +kernel
theorem dX0_setRegister_10 : decode cX0_setRegister 10 = .ok (.aload_n 0, 1) := by decide +kernel
theorem dX0_setRegister_11 : decode cX0_setRegister 11 = .ok (.getfield 13, 3) := by decide +kernel
theorem dX0_setRegister_14 : decode cX0_setRegister 14 = .ok (.iload_n 1, 1) := by decide +kernel
theorem dX0_setRegister_15 : decode cX0_setRegister 15 = .ok (.iload_n 2, 1) := by decide +kernel
theorem dX0_setRegister_16 : decode cX0_setRegister 16 = .ok (.iastore, 1) := by decide +kernel
theorem dX0_setRegister_17 : decode cX0_setRegister 17 = .ok (.return_, 1) := by decide +kernel
theorem dX0_isMultipleOf4_0 : decode cX0_isMultipleOf4 0 = .ok (.iload_n 0, 1) := by decide +kernel
theorem dX0_isMultipleOf4_1 : decode cX0_isMultipleOf4 1 = .ok (.iconst 3, 1) := by decide +kernel
theorem dX0_isMultipleOf4_2 : decode cX0_isMultipleOf4 2 = .ok (.iand, 1) := by decide +kernel
theorem dX0_isMultipleOf4_3 : decode cX0_isMultipleOf4 3 = .ok (.ifCond .ne 7, 3) := by decide +kernel
theorem dX0_isMultipleOf4_6 : decode cX0_isMultipleOf4 6 = .ok (.iconst 1, 1) := by decide +kernel
theorem dX0_isMultipleOf4_7 : decode cX0_isMultipleOf4 7 = .ok (.goto 4, 3) := by decide +kernel
theorem dX0_isMultipleOf4_10 : decode cX0_isMultipleOf4 10 = .ok (.iconst 0, 1) := by decide +kernel
theorem dX0_isMultipleOf4_11 : decode cX0_isMultipleOf4 11 = .ok (.ireturn, 1) := by decide +kernel
theorem dX0_isOfMemory_0 : decode cX0_isOfMemory 0 = .ok (.iload_n 0, 1) := by decide +kernel
theorem dX0_isOfMemory_1 : decode cX0_isOfMemory 1 = .ok (.ifCond .lt 14, 3) := by decide +kernel
theorem dX0_isOfMemory_4 : decode cX0_isOfMemory 4 = .ok (.iload_n 0, 1) := by decide +kernel
theorem dX0_isOfMemory_5 : decode cX0_isOfMemory 5 = .ok (.sipush 4096, 3) := by decide +kernel
theorem dX0_isOfMemory_8 : decode cX0_isOfMemory 8 = .ok (.if_icmp .ge 7, 3) := by decide +kernel
theorem dX0_isOfMemory_11 : decode cX0_isOfMemory 11 = .ok (.iconst 1, 1) := by decide +kernel
theorem dX0_isOfMemory_12 : decode cX0_isOfMemory 12 = .ok (.goto 4, 3) := by decide +kernel
theorem dX0_isOfMemory_15 : decode cX0_isOfMemory 15 = .ok (.iconst 0, 1) := by decide +kernel
theorem dX0_isOfMemory_16 : decode cX0_isOfMemory 16 = .ok (.ireturn, 1) := by decide +kernel
theorem dX0_isAligned_0 : decode cX0_isAligned 0 = .ok (.iconst 1, 1) := by decide +kernel
theorem dX0_isAligned_1 : decode cX0_isAligned 1 = .ok (.iload_n 1, 1) := by decide +kernel
theorem dX0_isAligned_2 : decode cX0_isAligned 2 = .ok (.iconst 3, 1) := by decide +kernel
theorem dX0_isAligned_3 : decode cX0_isAligned 3 = .ok (.iand, 1) := by decide +kernel
theorem dX0_isAligned_4 : decode cX0_isAligned 4 = .ok (.ishl, 1) := by decide +kernel
theorem dX0_isAligned_5 : decode cX0_isAligned 5 = .ok (.istore_n 2, 1) := by decide +kernel
theorem dX0_isAligned_6 : decode cX0_isAligned 6 = .ok (.iload_n 0, 1) := by decide +kernel
theorem dX0_isAligned_7 : decode cX0_isAligned 7 = .ok (.iload_n 2, 1) := by decide +kernel
theorem dX0_isAligned_8 : decode cX0_isAligned 8 = .ok (.iconst 1, 1) := by decide +kernel
theorem dX0_isAligned_9 : decode cX0_isAligned 9 = .ok (.isub, 1) := by decide +kernel
theorem dX0_isAligned_10 : decode cX0_isAligned 10 = .ok (.iand, 1) := by decide +kernel
theorem dX0_isAligned_11 : decode cX0_isAligned 11 = .ok (.ifCond .ne 7, 3) := by decide +kernel
theorem dX0_isAligned_14 : decode cX0_isAligned 14 = .ok (.iconst 1, 1) := by decide +kernel
theorem dX0_isAligned_15 : decode cX0_isAligned 15 = .ok (.goto 4, 3) := by decide +kernel
theorem dX0_isAligned_18 : decode cX0_isAligned 18 = .ok (.iconst 0, 1) := by decide +kernel
theorem dX0_isAligned_19 : decode cX0_isAligned 19 = .ok (.ireturn, 1) := by decide +kernel
theorem dX0_bitsBelow_0 : decode cX0_bitsBelow 0 = .ok (.bipush 8, 2) := by decide +kernel
theorem dX0_bitsBelow_2 : decode cX0_bitsBelow 2 = .ok (.iload_n 0, 1) := by decide +kernel
theorem dX0_bitsBelow_3 : decode cX0_bitsBelow 3 = .ok (.iconst 3, 1) := by decide +kernel
theorem dX0_bitsBelow_4 : decode cX0_bitsBelow 4 = .ok (.iand, 1) := by decide +kernel
theorem dX0_bitsBelow_5 : decode cX0_bitsBelow 5 = .ok (.imul, 1) := by decide +kernel
theorem dX0_bitsBelow_6 : decode cX0_bitsBelow 6 = .ok (.ireturn, 1) := by decide +kernel
theorem dX0_wordAround_0 : decode cX0_wordAround 0 = .ok (.iload_n 1, 1) := by decide +kernel
theorem dX0_wordAround_1 : decode cX0_wordAround 1 = .ok (.invokestatic 94, 3) := by decide +kernel
theorem dX0_wordAround_4 : decode cX0_wordAround 4 = .ok (.ifCond .eq 14, 3) := by decide +kernel
theorem dX0_wordAround_7 : decode cX0_wordAround 7 = .ok (.aload_n 0, 1) := by decide +kernel
theorem dX0_wordAround_8 : decode cX0_wordAround 8 = .ok (.getfield 9, 3) := by decide +kernel
theorem dX0_wordAround_11 : decode cX0_wordAround 11 = .ok (.iload_n 1, 1) := by decide +kernel
theorem dX0_wordAround_12 : decode cX0_wordAround 12 = .ok (.iconst 2, 1) := by decide +kernel
theorem dX0_wordAround_13 : decode cX0_wordAround 13 = .ok (.iushr, 1) := by decide +kernel
theorem dX0_wordAround_14 : decode cX0_wordAround 14 = .ok (.iaload, 1) := by decide +kernel
theorem dX0_wordAround_15 : decode cX0_wordAround 15 = .ok (.goto 4, 3) := by decide +kernel
theorem dX0_wordAround_18 : decode cX0_wordAround 18 = .ok (.iconst 0, 1) := by decide +kernel
theorem dX0_wordAround_19 : decode cX0_wordAround 19 = .ok (.ireturn, 1) := by decide +kernel
theorem dX0_setWordAt_0 : decode cX0_setWordAt 0 = .ok (.iload_n 1, 1) := by decide +kernel
theorem dX0_setWordAt_1 : decode cX0_setWordAt 1 = .ok (.invokestatic 94, 3) := by decide +kernel
theorem dX0_setWordAt_4 : decode cX0_setWordAt 4 = .ok (.ifCond .eq 12, 3) := by decide +kernel
theorem dX0_setWordAt_7 : decode cX0_setWordAt 7 = .ok (.aload_n 0, 1) := by decide +kernel
theorem dX0_setWordAt_8 : decode cX0_setWordAt 8 = .ok (.getfield 9, 3) := by decide +kernel
theorem dX0_setWordAt_11 : decode cX0_setWordAt 11 = .ok (.iload_n 1, 1) := by decide +kernel
theorem dX0_setWordAt_12 : decode cX0_setWordAt 12 = .ok (.iconst 2, 1) := by decide +kernel
theorem dX0_setWordAt_13 : decode cX0_setWordAt 13 = .ok (.iushr, 1) := by decide +kernel
theorem dX0_setWordAt_14 : decode cX0_setWordAt 14 = .ok (.iload_n 2, 1) := by decide +kernel
theorem dX0_setWordAt_15 : decode cX0_setWordAt 15 = .ok (.iastore, 1) := by decide +kernel
theorem dX0_setWordAt_16 : decode cX0_setWordAt 16 = .ok (.return_, 1) := by decide +kernel
theorem dX0_fieldOp_0 : decode cX0_fieldOp 0 = .ok (.iload_n 0, 1) := by decide +kernel
theorem dX0_fieldOp_1 : decode cX0_fieldOp 1 = .ok (.bipush 127, 2) := by decide +kernel
theorem dX0_fieldOp_3 : decode cX0_fieldOp 3 = .ok (.iand, 1) := by decide +kernel
theorem dX0_fieldOp_4 : decode cX0_fieldOp 4 = .ok (.ireturn, 1) := by decide +kernel
theorem dX0_fieldD_0 : decode cX0_fieldD 0 = .ok (.iload_n 0, 1) := by decide +kernel
theorem dX0_fieldD_1 : decode cX0_fieldD 1 = .ok (.bipush 7, 2) := by decide +kernel
theorem dX0_fieldD_3 : decode cX0_fieldD 3 = .ok (.iushr, 1) := by decide +kernel
theorem dX0_fieldD_4 : decode cX0_fieldD 4 = .ok (.bipush 31, 2) := by decide +kernel
theorem dX0_fieldD_6 : decode cX0_fieldD 6 = .ok (.iand, 1) := by decide +kernel
theorem dX0_fieldD_7 : decode cX0_fieldD 7 = .ok (.ireturn, 1) := by decide +kernel
theorem dX0_fieldF_0 : decode cX0_fieldF 0 = .ok (.iload_n 0, 1) := by decide +kernel
theorem dX0_fieldF_1 : decode cX0_fieldF 1 = .ok (.bipush 12, 2) := by decide +kernel
theorem dX0_fieldF_3 : decode cX0_fieldF 3 = .ok (.iushr, 1) := by decide +kernel
theorem dX0_fieldF_4 : decode cX0_fieldF 4 = .ok (.bipush 7, 2) := by decide +kernel
theorem dX0_fieldF_6 : decode cX0_fieldF 6 = .ok (.iand, 1) := by decide +kernel
theorem dX0_fieldF_7 : decode cX0_fieldF 7 = .ok (.ireturn, 1) := by decide +kernel
theorem dX0_fieldA_0 : decode cX0_fieldA 0 = .ok (.iload_n 0, 1) := by decide +kernel
theorem dX0_fieldA_1 : decode cX0_fieldA 1 = .ok (.bipush 15, 2) := by decide +kernel
theorem dX0_fieldA_3 : decode cX0_fieldA 3 = .ok (.iushr, 1) := by decide +kernel
theorem dX0_fieldA_4 : decode cX0_fieldA 4 = .ok (.bipush 31, 2) := by decide +kernel
theorem dX0_fieldA_6 : decode cX0_fieldA 6 = .ok (.iand, 1) := by decide +kernel
theorem dX0_fieldA_7 : decode cX0_fieldA 7 = .ok (.ireturn, 1) := by decide +kernel
theorem dX0_fieldB_0 : decode cX0_fieldB 0 = .ok (.iload_n 0, 1) := by decide +kernel
theorem dX0_fieldB_1 : decode cX0_fieldB 1 = .ok (.bipush 20, 2) := by decide +kernel
theorem dX0_fieldB_3 : decode cX0_fieldB 3 = .ok (.iushr, 1) := by decide +kernel
theorem dX0_fieldB_4 : decode cX0_fieldB 4 = .ok (.bipush 31, 2) := by decide +kernel
theorem dX0_fieldB_6 : decode cX0_fieldB 6 = .ok (.iand, 1) := by decide +kernel
theorem dX0_fieldB_7 : decode cX0_fieldB 7 = .ok (.ireturn, 1) := by decide +kernel
theorem dX0_fieldG_0 : decode cX0_fieldG 0 = .ok (.iload_n 0, 1) := by decide +kernel
theorem dX0_fieldG_1 : decode cX0_fieldG 1 = .ok (.bipush 25, 2) := by decide +kernel
theorem dX0_fieldG_3 : decode cX0_fieldG 3 = .ok (.iushr, 1) := by decide +kernel
theorem dX0_fieldG_4 : decode cX0_fieldG 4 = .ok (.ireturn, 1) := by decide +kernel
theorem dX0_numberI_0 : decode cX0_numberI 0 = .ok (.iload_n 0, 1) := by decide +kernel
theorem dX0_numberI_1 : decode cX0_numberI 1 = .ok (.bipush 20, 2) := by decide +kernel
theorem dX0_numberI_3 : decode cX0_numberI 3 = .ok (.ishr, 1) := by decide +kernel
theorem dX0_numberI_4 : decode cX0_numberI 4 = .ok (.ireturn, 1) := by decide +kernel
theorem dX0_numberT_0 : decode cX0_numberT 0 = .ok (.iload_n 0, 1) := by decide +kernel
theorem dX0_numberT_1 : decode cX0_numberT 1 = .ok (.bipush 25, 2) := by decide +kernel
theorem dX0_numberT_3 : decode cX0_numberT 3 = .ok (.ishr, 1) := by decide +kernel
theorem dX0_numberT_4 : decode cX0_numberT 4 = .ok (.iconst 5, 1) := by decide +kernel
theorem dX0_numberT_5 : decode cX0_numberT 5 = .ok (.ishl, 1) := by decide +kernel
theorem dX0_numberT_6 : decode cX0_numberT 6 = .ok (.iload_n 0, 1) := by decide +kernel
theorem dX0_numberT_7 : decode cX0_numberT 7 = .ok (.invokestatic 57, 3) := by decide +kernel
theorem dX0_numberT_10 : decode cX0_numberT 10 = .ok (.ior, 1) := by decide +kernel
theorem dX0_numberT_11 : decode cX0_numberT 11 = .ok (.ireturn, 1) := by decide +kernel
theorem dX0_numberB_0 : decode cX0_numberB 0 = .ok (.iload_n 0, 1) := by decide +kernel
theorem dX0_numberB_1 : decode cX0_numberB 1 = .ok (.bipush 7, 2) := by decide +kernel
theorem dX0_numberB_3 : decode cX0_numberB 3 = .ok (.iushr, 1) := by decide +kernel
theorem dX0_numberB_4 : decode cX0_numberB 4 = .ok (.iconst 1, 1) := by decide +kernel
theorem dX0_numberB_5 : decode cX0_numberB 5 = .ok (.iand, 1) := by decide +kernel
theorem dX0_numberB_6 : decode cX0_numberB 6 = .ok (.istore_n 1, 1) := by decide +kernel
theorem dX0_numberB_7 : decode cX0_numberB 7 = .ok (.iload_n 0, 1) := by decide +kernel
theorem dX0_numberB_8 : decode cX0_numberB 8 = .ok (.bipush 25, 2) := by decide +kernel
theorem dX0_numberB_10 : decode cX0_numberB 10 = .ok (.iushr, 1) := by decide +kernel
theorem dX0_numberB_11 : decode cX0_numberB 11 = .ok (.bipush 63, 2) := by decide +kernel
theorem dX0_numberB_13 : decode cX0_numberB 13 = .ok (.iand, 1) := by decide +kernel
theorem dX0_numberB_14 : decode cX0_numberB 14 = .ok (.istore_n 2, 1) := by decide +kernel
theorem dX0_numberB_15 : decode cX0_numberB 15 = .ok (.iload_n 0, 1) := by decide +kernel
theorem dX0_numberB_16 : decode cX0_numberB 16 = .ok (.bipush 8, 2) := by decide +kernel
theorem dX0_numberB_18 : decode cX0_numberB 18 = .ok (.iushr, 1) := by decide +kernel
theorem dX0_numberB_19 : decode cX0_numberB 19 = .ok (.bipush 15, 2) := by decide +kernel
theorem dX0_numberB_21 : decode cX0_numberB 21 = .ok (.iand, 1) := by decide +kernel
theorem dX0_numberB_22 : decode cX0_numberB 22 = .ok (.istore_n 3, 1) := by decide +kernel
theorem dX0_numberB_23 : decode cX0_numberB 23 = .ok (.iload_n 0, 1) := by decide +kernel
