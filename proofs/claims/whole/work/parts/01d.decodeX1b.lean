theorem dX1_read_12 : decode cX1_read 12 = .ok (.ldc2_w 87, 3) := by decide +kernel
theorem dX1_read_15 : decode cX1_read 15 = .ok (.lload_n 3, 1) := by decide +kernel
theorem dX1_read_16 : decode cX1_read 16 = .ok (.lmul, 1) := by decide +kernel
theorem dX1_read_17 : decode cX1_read 17 = .ok (.aload_n 0, 1) := by decide +kernel
theorem dX1_read_18 : decode cX1_read 18 = .ok (.getfield 7, 3) := by decide +kernel
theorem dX1_read_21 : decode cX1_read 21 = .ok (.iload_n 1, 1) := by decide +kernel
theorem dX1_read_22 : decode cX1_read 22 = .ok (.iload 5, 2) := by decide +kernel
theorem dX1_read_24 : decode cX1_read 24 = .ok (.iadd, 1) := by decide +kernel
theorem dX1_read_25 : decode cX1_read 25 = .ok (.iaload, 1) := by decide +kernel
theorem dX1_read_26 : decode cX1_read 26 = .ok (.i2l, 1) := by decide +kernel
theorem dX1_read_27 : decode cX1_read 27 = .ok (.ladd, 1) := by decide +kernel
theorem dX1_read_28 : decode cX1_read 28 = .ok (.lstore_n 3, 1) := by decide +kernel
theorem dX1_read_29 : decode cX1_read 29 = .ok (.iinc 5 (-1), 3) := by decide +kernel
theorem dX1_read_32 : decode cX1_read 32 = .ok (.goto (-25), 3) := by decide +kernel
theorem dX1_read_35 : decode cX1_read 35 = .ok (.lload_n 3, 1) := by decide +kernel
theorem dX1_read_36 : decode cX1_read 36 = .ok (.l2i, 1) := by decide +kernel
theorem dX1_read_37 : decode cX1_read 37 = .ok (.ireturn, 1) := by decide +kernel
theorem dX1_write_0 : decode cX1_write 0 = .ok (.iconst 0, 1) := by decide +kernel
theorem dX1_write_1 : decode cX1_write 1 = .ok (.istore 4, 2) := by decide +kernel
theorem dX1_write_3 : decode cX1_write 3 = .ok (.iload 4, 2) := by decide +kernel
theorem dX1_write_5 : decode cX1_write 5 = .ok (.iload_n 2, 1) := by decide +kernel
theorem dX1_write_6 : decode cX1_write 6 = .ok (.if_icmp .ge 35, 3) := by decide +kernel
theorem dX1_write_9 : decode cX1_write 9 = .ok (.aload_n 0, 1) := by decide +kernel
theorem dX1_write_10 : decode cX1_write 10 = .ok (.getfield 7, 3) := by decide +kernel
theorem dX1_write_13 : decode cX1_write 13 = .ok (.iload_n 1, 1) := by decide +kernel
theorem dX1_write_14 : decode cX1_write 14 = .ok (.iload 4, 2) := by decide +kernel
theorem dX1_write_16 : decode cX1_write 16 = .ok (.iadd, 1) := by decide +kernel
theorem dX1_write_17 : decode cX1_write 17 = .ok (.iload_n 3, 1) := by decide +kernel
theorem dX1_write_18 : decode cX1_write 18 = .ok (.bipush 8, 2) := by decide +kernel
theorem dX1_write_20 : decode cX1_write 20 = .ok (.iload 4, 2) := by decide +kernel
theorem dX1_write_22 : decode cX1_write 22 = .ok (.imul, 1) := by decide +kernel
theorem dX1_write_23 : decode cX1_write 23 = .ok (.bipush 7, 2) := by decide +kernel
theorem dX1_write_25 : decode cX1_write 25 = .ok (.iadd, 1) := by decide +kernel
theorem dX1_write_26 : decode cX1_write 26 = .ok (.bipush 8, 2) := by decide +kernel
theorem dX1_write_28 : decode cX1_write 28 = .ok (.iload 4, 2) := by decide +kernel
theorem dX1_write_30 : decode cX1_write 30 = .ok (.imul, 1) := by decide +kernel
theorem dX1_write_31 : decode cX1_write 31 = .ok (.invokestatic 27, 3) := by decide +kernel
theorem dX1_write_34 : decode cX1_write 34 = .ok (.iastore, 1) := by decide +kernel
theorem dX1_write_35 : decode cX1_write 35 = .ok (.iinc 4 1, 3) := by decide +kernel
theorem dX1_write_38 : decode cX1_write 38 = .ok (.goto (-35), 3) := by decide +kernel
theorem dX1_write_41 : decode cX1_write 41 = .ok (.return_, 1) := by decide +kernel
theorem dX1_poke_0 : decode cX1_poke 0 = .ok (.iload_n 1, 1) := by decide +kernel
theorem dX1_poke_1 : decode cX1_poke 1 = .ok (.iconst 4, 1) := by decide +kernel
theorem dX1_poke_2 : decode cX1_poke 2 = .ok (.irem, 1) := by decide +kernel
theorem dX1_poke_3 : decode cX1_poke 3 = .ok (.ifCond .ne 13, 3) := by decide +kernel
theorem dX1_poke_6 : decode cX1_poke 6 = .ok (.iload_n 1, 1) := by decide +kernel
theorem dX1_poke_7 : decode cX1_poke 7 = .ok (.i2l, 1) := by decide +kernel
theorem dX1_poke_8 : decode cX1_poke 8 = .ok (.bipush 20, 2) := by decide +kernel
theorem dX1_poke_10 : decode cX1_poke 10 = .ok (.invokestatic 89, 3) := by decide +kernel
theorem dX1_poke_13 : decode cX1_poke 13 = .ok (.ifCond .ne 5, 3) := by decide +kernel
theorem dX1_poke_16 : decode cX1_poke 16 = .ok (.iconst (-1), 1) := by decide +kernel
theorem dX1_poke_17 : decode cX1_poke 17 = .ok (.ireturn, 1) := by decide +kernel
theorem dX1_poke_18 : decode cX1_poke 18 = .ok (.aload_n 0, 1) := by decide +kernel
theorem dX1_poke_19 : decode cX1_poke 19 = .ok (.iload_n 1, 1) := by decide +kernel
theorem dX1_poke_20 : decode cX1_poke 20 = .ok (.iconst 4, 1) := by decide +kernel
theorem dX1_poke_21 : decode cX1_poke 21 = .ok (.iload_n 2, 1) := by decide +kernel
theorem dX1_poke_22 : decode cX1_poke 22 = .ok (.invokevirtual 93, 3) := by decide +kernel
theorem dX1_poke_25 : decode cX1_poke 25 = .ok (.aload_n 0, 1) := by decide +kernel
theorem dX1_poke_26 : decode cX1_poke 26 = .ok (.iload_n 1, 1) := by decide +kernel
theorem dX1_poke_27 : decode cX1_poke 27 = .ok (.iconst 4, 1) := by decide +kernel
theorem dX1_poke_28 : decode cX1_poke 28 = .ok (.iadd, 1) := by decide +kernel
theorem dX1_poke_29 : decode cX1_poke 29 = .ok (.iconst 4, 1) := by decide +kernel
theorem dX1_poke_30 : decode cX1_poke 30 = .ok (.iload_n 3, 1) := by decide +kernel
theorem dX1_poke_31 : decode cX1_poke 31 = .ok (.invokevirtual 93, 3) := by decide +kernel
theorem dX1_poke_34 : decode cX1_poke 34 = .ok (.aload_n 0, 1) := by decide +kernel
theorem dX1_poke_35 : decode cX1_poke 35 = .ok (.iload_n 1, 1) := by decide +kernel
theorem dX1_poke_36 : decode cX1_poke 36 = .ok (.bipush 8, 2) := by decide +kernel
theorem dX1_poke_38 : decode cX1_poke 38 = .ok (.iadd, 1) := by decide +kernel
theorem dX1_poke_39 : decode cX1_poke 39 = .ok (.iconst 4, 1) := by decide +kernel
theorem dX1_poke_40 : decode cX1_poke 40 = .ok (.iload 4, 2) := by decide +kernel
theorem dX1_poke_42 : decode cX1_poke 42 = .ok (.invokevirtual 93, 3) := by decide +kernel
theorem dX1_poke_45 : decode cX1_poke 45 = .ok (.aload_n 0, 1) := by decide +kernel
theorem dX1_poke_46 : decode cX1_poke 46 = .ok (.iload_n 1, 1) := by decide +kernel
theorem dX1_poke_47 : decode cX1_poke 47 = .ok (.bipush 12, 2) := by decide +kernel
theorem dX1_poke_49 : decode cX1_poke 49 = .ok (.iadd, 1) := by decide +kernel
theorem dX1_poke_50 : decode cX1_poke 50 = .ok (.iconst 4, 1) := by decide +kernel
theorem dX1_poke_51 : decode cX1_poke 51 = .ok (.iload 5, 2) := by decide +kernel
theorem dX1_poke_53 : decode cX1_poke 53 = .ok (.invokevirtual 93, 3) := by decide +kernel
theorem dX1_poke_56 : decode cX1_poke 56 = .ok (.aload_n 0, 1) := by decide +kernel
theorem dX1_poke_57 : decode cX1_poke 57 = .ok (.iload_n 1, 1) := by decide +kernel
theorem dX1_poke_58 : decode cX1_poke 58 = .ok (.bipush 16, 2) := by decide +kernel
theorem dX1_poke_60 : decode cX1_poke 60 = .ok (.iadd, 1) := by decide +kernel
theorem dX1_poke_61 : decode cX1_poke 61 = .ok (.iconst 4, 1) := by decide +kernel
theorem dX1_poke_62 : decode cX1_poke 62 = .ok (.iload 6, 2) := by decide +kernel
theorem dX1_poke_64 : decode cX1_poke 64 = .ok (.invokevirtual 93, 3) := by decide +kernel
theorem dX1_poke_67 : decode cX1_poke 67 = .ok (.iconst 0, 1) := by decide +kernel
theorem dX1_poke_68 : decode cX1_poke 68 = .ok (.ireturn, 1) := by decide +kernel
theorem dX1_word_0 : decode cX1_word 0 = .ok (.iload_n 1, 1) := by decide +kernel
theorem dX1_word_1 : decode cX1_word 1 = .ok (.iconst 4, 1) := by decide +kernel
theorem dX1_word_2 : decode cX1_word 2 = .ok (.irem, 1) := by decide +kernel
theorem dX1_word_3 : decode cX1_word 3 = .ok (.ifCond .ne 12, 3) := by decide +kernel
theorem dX1_word_6 : decode cX1_word 6 = .ok (.iload_n 1, 1) := by decide +kernel
theorem dX1_word_7 : decode cX1_word 7 = .ok (.i2l, 1) := by decide +kernel
theorem dX1_word_8 : decode cX1_word 8 = .ok (.iconst 4, 1) := by decide +kernel
theorem dX1_word_9 : decode cX1_word 9 = .ok (.invokestatic 89, 3) := by decide +kernel
theorem dX1_word_12 : decode cX1_word 12 = .ok (.ifCond .ne 7, 3) := by decide +kernel
theorem dX1_word_15 : decode cX1_word 15 = .ok (.iconst 0, 1) := by decide +kernel
theorem dX1_word_16 : decode cX1_word 16 = .ok (.goto 9, 3) := by decide +kernel
theorem dX1_word_19 : decode cX1_word 19 = .ok (.aload_n 0, 1) := by decide +kernel
theorem dX1_word_20 : decode cX1_word 20 = .ok (.iload_n 1, 1) := by decide +kernel
theorem dX1_word_21 : decode cX1_word 21 = .ok (.iconst 4, 1) := by decide +kernel
theorem dX1_word_22 : decode cX1_word 22 = .ok (.invokevirtual 97, 3) := by decide +kernel
theorem dX1_word_25 : decode cX1_word 25 = .ok (.ireturn, 1) := by decide +kernel
theorem dX1_put_0 : decode cX1_put 0 = .ok (.iload_n 1, 1) := by decide +kernel
theorem dX1_put_1 : decode cX1_put 1 = .ok (.ifCond .lt 9, 3) := by decide +kernel
theorem dX1_put_4 : decode cX1_put 4 = .ok (.iload_n 1, 1) := by decide +kernel
theorem dX1_put_5 : decode cX1_put 5 = .ok (.bipush 31, 2) := by decide +kernel
theorem dX1_put_7 : decode cX1_put 7 = .ok (.if_icmp .le 5, 3) := by decide +kernel
theorem dX1_put_10 : decode cX1_put 10 = .ok (.iconst 0, 1) := by decide +kernel
theorem dX1_put_11 : decode cX1_put 11 = .ok (.ireturn, 1) := by decide +kernel
theorem dX1_put_12 : decode cX1_put 12 = .ok (.aload_n 0, 1) := by decide +kernel
theorem dX1_put_13 : decode cX1_put 13 = .ok (.getfield 13, 3) := by decide +kernel
theorem dX1_put_16 : decode cX1_put 16 = .ok (.iload_n 1, 1) := by decide +kernel
theorem dX1_put_17 : decode cX1_put 17 = .ok (.iaload, 1) := by decide +kernel
theorem dX1_put_18 : decode cX1_put 18 = .ok (.istore_n 3, 1) := by decide +kernel
theorem dX1_put_19 : decode cX1_put 19 = .ok (.aload_n 0, 1) := by decide +kernel
theorem dX1_put_20 : decode cX1_put 20 = .ok (.iload_n 1, 1) := by decide +kernel
theorem dX1_put_21 : decode cX1_put 21 = .ok (.iload_n 2, 1) := by decide +kernel
theorem dX1_put_22 : decode cX1_put 22 = .ok (.invokevirtual 100, 3) := by decide +kernel
theorem dX1_put_25 : decode cX1_put 25 = .ok (.iload_n 3, 1) := by decide +kernel
theorem dX1_put_26 : decode cX1_put 26 = .ok (.ireturn, 1) := by decide +kernel
theorem dX1_set_0 : decode cX1_set 0 = .ok (.aload_n 0, 1) := by decide +kernel
theorem dX1_set_1 : decode cX1_set 1 = .ok (.getfield 13, 3) := by decide +kernel
theorem dX1_set_4 : decode cX1_set 4 = .ok (.iload_n 1, 1) := by decide +kernel
theorem dX1_set_5 : decode cX1_set 5 = .ok (.iload_n 1, 1) := by decide +kernel
theorem dX1_set_6 : decode cX1_set 6 = .ok (.ifCond .ne 7, 3) := by decide +kernel
theorem dX1_set_9 : decode cX1_set 9 = .ok (.iconst 0, 1) := by decide +kernel
theorem dX1_set_10 : decode cX1_set 10 = .ok (.goto 4, 3) := by decide +kernel
theorem dX1_set_13 : decode cX1_set 13 = .ok (.iload_n 2, 1) := by decide +kernel
theorem dX1_set_14 : decode cX1_set 14 = .ok (.iastore, 1) := by decide +kernel
theorem dX1_set_15 : decode cX1_set 15 = .ok (.return_, 1) := by decide +kernel
theorem dX1_get_0 : decode cX1_get 0 = .ok (.iload_n 1, 1) := by decide +kernel
theorem dX1_get_1 : decode cX1_get 1 = .ok (.ifCond .lt 9, 3) := by decide +kernel
theorem dX1_get_4 : decode cX1_get 4 = .ok (.iload_n 1, 1) := by decide +kernel
theorem dX1_get_5 : decode cX1_get 5 = .ok (.bipush 31, 2) := by decide +kernel
theorem dX1_get_7 : decode cX1_get 7 = .ok (.if_icmp .le 7, 3) := by decide +kernel
theorem dX1_get_10 : decode cX1_get 10 = .ok (.iconst 0, 1) := by decide +kernel
theorem dX1_get_11 : decode cX1_get 11 = .ok (.goto 9, 3) := by decide +kernel
theorem dX1_get_14 : decode cX1_get 14 = .ok (.aload_n 0, 1) := by decide +kernel
theorem dX1_get_15 : decode cX1_get 15 = .ok (.getfield 13, 3) := by decide +kernel
theorem dX1_get_18 : decode cX1_get 18 = .ok (.iload_n 1, 1) := by decide +kernel
theorem dX1_get_19 : decode cX1_get 19 = .ok (.iaload, 1) := by decide +kernel
theorem dX1_get_20 : decode cX1_get 20 = .ok (.ireturn, 1) := by decide +kernel
theorem dX1_go_0 : decode cX1_go 0 = .ok (.iload_n 1, 1) := by decide +kernel
theorem dX1_go_1 : decode cX1_go 1 = .ok (.iconst 4, 1) := by decide +kernel
theorem dX1_go_2 : decode cX1_go 2 = .ok (.irem, 1) := by decide +kernel
theorem dX1_go_3 : decode cX1_go 3 = .ok (.ifCond .eq 5, 3) := by decide +kernel
theorem dX1_go_6 : decode cX1_go 6 = .ok (.iconst (-1), 1) := by decide +kernel
theorem dX1_go_7 : decode cX1_go 7 = .ok (.ireturn, 1) := by decide +kernel
theorem dX1_go_8 : decode cX1_go 8 = .ok (.aload_n 0, 1) := by decide +kernel
theorem dX1_go_9 : decode cX1_go 9 = .ok (.iload_n 1, 1) := by decide +kernel
theorem dX1_go_10 : decode cX1_go 10 = .ok (.putfield 104, 3) := by decide +kernel
theorem dX1_go_13 : decode cX1_go 13 = .ok (.iconst 0, 1) := by decide +kernel
theorem dX1_go_14 : decode cX1_go 14 = .ok (.ireturn, 1) := by decide +kernel
theorem dX1_fail_0 : decode cX1_fail 0 = .ok (.aload_n 0, 1) := by decide +kernel
theorem dX1_fail_1 : decode cX1_fail 1 = .ok (.iload_n 1, 1) := by decide +kernel
theorem dX1_fail_2 : decode cX1_fail 2 = .ok (.putfield 16, 3) := by decide +kernel
theorem dX1_fail_5 : decode cX1_fail 5 = .ok (.aload_n 0, 1) := by decide +kernel
theorem dX1_fail_6 : decode cX1_fail 6 = .ok (.iload_n 2, 1) := by decide +kernel
theorem dX1_fail_7 : decode cX1_fail 7 = .ok (.putfield 107, 3) := by decide +kernel
theorem dX1_fail_10 : decode cX1_fail 10 = .ok (.iload_n 1, 1) := by decide +kernel
theorem dX1_fail_11 : decode cX1_fail 11 = .ok (.ireturn, 1) := by decide +kernel
theorem dX1_finish_0 : decode cX1_finish 0 = .ok (.aload_n 0, 1) := by decide +kernel
theorem dX1_finish_1 : decode cX1_finish 1 = .ok (.iload_n 1, 1) := by decide +kernel
theorem dX1_finish_2 : decode cX1_finish 2 = .ok (.putfield 104, 3) := by decide +kernel
theorem dX1_finish_5 : decode cX1_finish 5 = .ok (.aload_n 0, 1) := by decide +kernel
theorem dX1_finish_6 : decode cX1_finish 6 = .ok (.iconst (-1), 1) := by decide +kernel
theorem dX1_finish_7 : decode cX1_finish 7 = .ok (.putfield 16, 3) := by decide +kernel
theorem dX1_finish_10 : decode cX1_finish 10 = .ok (.aload_n 0, 1) := by decide +kernel
theorem dX1_finish_11 : decode cX1_finish 11 = .ok (.iconst 0, 1) := by decide +kernel
theorem dX1_finish_12 : decode cX1_finish 12 = .ok (.putfield 107, 3) := by decide +kernel
theorem dX1_finish_15 : decode cX1_finish 15 = .ok (.aload_n 0, 1) := by decide +kernel
theorem dX1_finish_16 : decode cX1_finish 16 = .ok (.dup, 1) := by decide +kernel
theorem dX1_finish_17 : decode cX1_finish 17 = .ok (.getfield 110, 3) := by decide +kernel
theorem dX1_finish_20 : decode cX1_finish 20 = .ok (.iconst 1, 1) := by decide +kernel
theorem dX1_finish_21 : decode cX1_finish 21 = .ok (.iadd, 1) := by decide +kernel
theorem dX1_finish_22 : decode cX1_finish 22 = .ok (.putfield 110, 3) := by decide +kernel
theorem dX1_finish_25 : decode cX1_finish 25 = .ok (.iconst (-1), 1) := by decide +kernel
theorem dX1_finish_26 : decode cX1_finish 26 = .ok (.ireturn, 1) := by decide +kernel
theorem dX1_holds_0 : decode cX1_holds 0 = .ok (.iload_n 1, 1) := by decide +kernel
theorem dX1_holds_1 : decode cX1_holds 1 = .ok (.iconst 2, 1) := by decide +kernel
theorem dX1_holds_2 : decode cX1_holds 2 = .ok (.if_icmp .ge 16, 3) := by decide +kernel
theorem dX1_holds_5 : decode cX1_holds 5 = .ok (.iload_n 2, 1) := by decide +kernel
theorem dX1_holds_6 : decode cX1_holds 6 = .ok (.iload_n 3, 1) := by decide +kernel
theorem dX1_holds_7 : decode cX1_holds 7 = .ok (.if_icmp .ne 7, 3) := by decide +kernel
theorem dX1_holds_10 : decode cX1_holds 10 = .ok (.iconst 1, 1) := by decide +kernel
theorem dX1_holds_11 : decode cX1_holds 11 = .ok (.goto 43, 3) := by decide +kernel
theorem dX1_holds_14 : decode cX1_holds 14 = .ok (.iconst 0, 1) := by decide +kernel
theorem dX1_holds_15 : decode cX1_holds 15 = .ok (.goto 39, 3) := by decide +kernel
theorem dX1_holds_18 : decode cX1_holds 18 = .ok (.iload_n 1, 1) := by decide +kernel
theorem dX1_holds_19 : decode cX1_holds 19 = .ok (.bipush 6, 2) := by decide +kernel
theorem dX1_holds_21 : decode cX1_holds 21 = .ok (.if_icmp .ge 16, 3) := by decide +kernel
theorem dX1_holds_24 : decode cX1_holds 24 = .ok (.iload_n 2, 1) := by decide +kernel
theorem dX1_holds_25 : decode cX1_holds 25 = .ok (.iload_n 3, 1) := by decide +kernel
theorem dX1_holds_26 : decode cX1_holds 26 = .ok (.if_icmp .ge 7, 3) := by decide +kernel
theorem dX1_holds_29 : decode cX1_holds 29 = .ok (.iconst 1, 1) := by decide +kernel
theorem dX1_holds_30 : decode cX1_holds 30 = .ok (.goto 24, 3) := by decide +kernel
theorem dX1_holds_33 : decode cX1_holds 33 = .ok (.iconst 0, 1) := by decide +kernel
theorem dX1_holds_34 : decode cX1_holds 34 = .ok (.goto 20, 3) := by decide +kernel
theorem dX1_holds_37 : decode cX1_holds 37 = .ok (.iload_n 2, 1) := by decide +kernel
theorem dX1_holds_38 : decode cX1_holds 38 = .ok (.invokestatic 45, 3) := by decide +kernel
theorem dX1_holds_41 : decode cX1_holds 41 = .ok (.iload_n 3, 1) := by decide +kernel
theorem dX1_holds_42 : decode cX1_holds 42 = .ok (.invokestatic 45, 3) := by decide +kernel
theorem dX1_holds_45 : decode cX1_holds 45 = .ok (.lcmp, 1) := by decide +kernel
theorem dX1_holds_46 : decode cX1_holds 46 = .ok (.ifCond .ge 7, 3) := by decide +kernel
theorem dX1_holds_49 : decode cX1_holds 49 = .ok (.iconst 1, 1) := by decide +kernel
theorem dX1_holds_50 : decode cX1_holds 50 = .ok (.goto 4, 3) := by decide +kernel
theorem dX1_holds_53 : decode cX1_holds 53 = .ok (.iconst 0, 1) := by decide +kernel
theorem dX1_holds_54 : decode cX1_holds 54 = .ok (.istore 4, 2) := by decide +kernel
theorem dX1_holds_56 : decode cX1_holds 56 = .ok (.iload 4, 2) := by decide +kernel
theorem dX1_holds_58 : decode cX1_holds 58 = .ok (.iload_n 1, 1) := by decide +kernel
theorem dX1_holds_59 : decode cX1_holds 59 = .ok (.iconst 2, 1) := by decide +kernel
theorem dX1_holds_60 : decode cX1_holds 60 = .ok (.irem, 1) := by decide +kernel
theorem dX1_holds_61 : decode cX1_holds 61 = .ok (.ifCond .ne 7, 3) := by decide +kernel
theorem dX1_holds_64 : decode cX1_holds 64 = .ok (.iconst 1, 1) := by decide +kernel
theorem dX1_holds_65 : decode cX1_holds 65 = .ok (.goto 4, 3) := by decide +kernel
theorem dX1_holds_68 : decode cX1_holds 68 = .ok (.iconst 0, 1) := by decide +kernel
theorem dX1_holds_69 : decode cX1_holds 69 = .ok (.if_icmp .ne 7, 3) := by decide +kernel
theorem dX1_holds_72 : decode cX1_holds 72 = .ok (.iconst 1, 1) := by decide +kernel
theorem dX1_holds_73 : decode cX1_holds 73 = .ok (.goto 4, 3) := by decide +kernel
theorem dX1_holds_76 : decode cX1_holds 76 = .ok (.iconst 0, 1) := by decide +kernel
theorem dX1_holds_77 : decode cX1_holds 77 = .ok (.ireturn, 1) := by decide +kernel
theorem dX1_jump_0 : decode cX1_jump 0 = .ok (.aload_n 0, 1) := by decide +kernel
theorem dX1_jump_1 : decode cX1_jump 1 = .ok (.iload_n 1, 1) := by decide +kernel
theorem dX1_jump_2 : decode cX1_jump 2 = .ok (.iconst 0, 1) := by decide +kernel
theorem dX1_jump_3 : decode cX1_jump 3 = .ok (.invokevirtual 40, 3) := by decide +kernel
theorem dX1_jump_6 : decode cX1_jump 6 = .ok (.istore_n 3, 1) := by decide +kernel
theorem dX1_jump_7 : decode cX1_jump 7 = .ok (.aload_n 0, 1) := by decide +kernel
theorem dX1_jump_8 : decode cX1_jump 8 = .ok (.iload_n 1, 1) := by decide +kernel
theorem dX1_jump_9 : decode cX1_jump 9 = .ok (.iconst 1, 1) := by decide +kernel
theorem dX1_jump_10 : decode cX1_jump 10 = .ok (.invokevirtual 40, 3) := by decide +kernel
theorem dX1_jump_13 : decode cX1_jump 13 = .ok (.istore 4, 2) := by decide +kernel
theorem dX1_jump_15 : decode cX1_jump 15 = .ok (.aload_n 0, 1) := by decide +kernel
theorem dX1_jump_16 : decode cX1_jump 16 = .ok (.getfield 13, 3) := by decide +kernel
theorem dX1_jump_19 : decode cX1_jump 19 = .ok (.aload_n 0, 1) := by decide +kernel
theorem dX1_jump_20 : decode cX1_jump 20 = .ok (.iload_n 1, 1) := by decide +kernel
theorem dX1_jump_21 : decode cX1_jump 21 = .ok (.iconst 3, 1) := by decide +kernel
theorem dX1_jump_22 : decode cX1_jump 22 = .ok (.invokevirtual 40, 3) := by decide +kernel
theorem dX1_jump_25 : decode cX1_jump 25 = .ok (.iaload, 1) := by decide +kernel
theorem dX1_jump_26 : decode cX1_jump 26 = .ok (.i2l, 1) := by decide +kernel
theorem dX1_jump_27 : decode cX1_jump 27 = .ok (.lstore 5, 2) := by decide +kernel
theorem dX1_jump_29 : decode cX1_jump 29 = .ok (.aload_n 0, 1) := by decide +kernel
theorem dX1_jump_30 : decode cX1_jump 30 = .ok (.iload_n 1, 1) := by decide +kernel
theorem dX1_jump_31 : decode cX1_jump 31 = .ok (.iconst 2, 1) := by decide +kernel
theorem dX1_jump_32 : decode cX1_jump 32 = .ok (.invokevirtual 40, 3) := by decide +kernel
theorem dX1_jump_35 : decode cX1_jump 35 = .ok (.istore 7, 2) := by decide +kernel
theorem dX1_jump_37 : decode cX1_jump 37 = .ok (.iload_n 3, 1) := by decide +kernel
theorem dX1_jump_38 : decode cX1_jump 38 = .ok (.bipush 111, 2) := by decide +kernel
theorem dX1_jump_40 : decode cX1_jump 40 = .ok (.if_icmp .ne 20, 3) := by decide +kernel
theorem dX1_jump_43 : decode cX1_jump 43 = .ok (.aload_n 0, 1) := by decide +kernel
theorem dX1_jump_44 : decode cX1_jump 44 = .ok (.getfield 104, 3) := by decide +kernel
theorem dX1_jump_47 : decode cX1_jump 47 = .ok (.i2l, 1) := by decide +kernel
theorem dX1_jump_48 : decode cX1_jump 48 = .ok (.aload_n 0, 1) := by decide +kernel
theorem dX1_jump_49 : decode cX1_jump 49 = .ok (.iload_n 1, 1) := by decide +kernel
theorem dX1_jump_50 : decode cX1_jump 50 = .ok (.bipush 10, 2) := by decide +kernel
theorem dX1_jump_52 : decode cX1_jump 52 = .ok (.invokevirtual 40, 3) := by decide +kernel
theorem dX1_jump_55 : decode cX1_jump 55 = .ok (.i2l, 1) := by decide +kernel
theorem dX1_jump_56 : decode cX1_jump 56 = .ok (.ladd, 1) := by decide +kernel
theorem dX1_jump_57 : decode cX1_jump 57 = .ok (.goto 37, 3) := by decide +kernel
theorem dX1_jump_60 : decode cX1_jump 60 = .ok (.iload_n 3, 1) := by decide +kernel
theorem dX1_jump_61 : decode cX1_jump 61 = .ok (.bipush 99, 2) := by decide +kernel
theorem dX1_jump_63 : decode cX1_jump 63 = .ok (.if_icmp .ne 20, 3) := by decide +kernel
theorem dX1_jump_66 : decode cX1_jump 66 = .ok (.aload_n 0, 1) := by decide +kernel
theorem dX1_jump_67 : decode cX1_jump 67 = .ok (.getfield 104, 3) := by decide +kernel
theorem dX1_jump_70 : decode cX1_jump 70 = .ok (.i2l, 1) := by decide +kernel
theorem dX1_jump_71 : decode cX1_jump 71 = .ok (.aload_n 0, 1) := by decide +kernel
theorem dX1_jump_72 : decode cX1_jump 72 = .ok (.iload_n 1, 1) := by decide +kernel
theorem dX1_jump_73 : decode cX1_jump 73 = .ok (.bipush 8, 2) := by decide +kernel
theorem dX1_jump_75 : decode cX1_jump 75 = .ok (.invokevirtual 40, 3) := by decide +kernel
theorem dX1_jump_78 : decode cX1_jump 78 = .ok (.i2l, 1) := by decide +kernel
theorem dX1_jump_79 : decode cX1_jump 79 = .ok (.ladd, 1) := by decide +kernel
theorem dX1_jump_80 : decode cX1_jump 80 = .ok (.goto 14, 3) := by decide +kernel
theorem dX1_jump_83 : decode cX1_jump 83 = .ok (.lload 5, 2) := by decide +kernel
theorem dX1_jump_85 : decode cX1_jump 85 = .ok (.aload_n 0, 1) := by decide +kernel
theorem dX1_jump_86 : decode cX1_jump 86 = .ok (.iload_n 1, 1) := by decide +kernel
theorem dX1_jump_87 : decode cX1_jump 87 = .ok (.bipush 6, 2) := by decide +kernel
theorem dX1_jump_89 : decode cX1_jump 89 = .ok (.invokevirtual 40, 3) := by decide +kernel
theorem dX1_jump_92 : decode cX1_jump 92 = .ok (.i2l, 1) := by decide +kernel
theorem dX1_jump_93 : decode cX1_jump 93 = .ok (.ladd, 1) := by decide +kernel
theorem dX1_jump_94 : decode cX1_jump 94 = .ok (.lstore 8, 2) := by decide +kernel
theorem dX1_jump_96 : decode cX1_jump 96 = .ok (.lload 8, 2) := by decide +kernel
theorem dX1_jump_98 : decode cX1_jump 98 = .ok (.l2i, 1) := by decide +kernel
theorem dX1_jump_99 : decode cX1_jump 99 = .ok (.istore 10, 2) := by decide +kernel
theorem dX1_jump_101 : decode cX1_jump 101 = .ok (.iload_n 3, 1) := by decide +kernel
theorem dX1_jump_102 : decode cX1_jump 102 = .ok (.bipush 103, 2) := by decide +kernel
theorem dX1_jump_104 : decode cX1_jump 104 = .ok (.if_icmp .ne 19, 3) := by decide +kernel
theorem dX1_jump_107 : decode cX1_jump 107 = .ok (.iload 10, 2) := by decide +kernel
theorem dX1_jump_109 : decode cX1_jump 109 = .ok (.iconst 2, 1) := by decide +kernel
theorem dX1_jump_110 : decode cX1_jump 110 = .ok (.irem, 1) := by decide +kernel
theorem dX1_jump_111 : decode cX1_jump 111 = .ok (.ifCond .eq 12, 3) := by decide +kernel
theorem dX1_jump_114 : decode cX1_jump 114 = .ok (.iload 10, 2) := by decide +kernel
theorem dX1_jump_116 : decode cX1_jump 116 = .ok (.i2l, 1) := by decide +kernel
theorem dX1_jump_117 : decode cX1_jump 117 = .ok (.lconst 1, 1) := by decide +kernel
theorem dX1_jump_118 : decode cX1_jump 118 = .ok (.lsub, 1) := by decide +kernel
theorem dX1_jump_119 : decode cX1_jump 119 = .ok (.l2i, 1) := by decide +kernel
theorem dX1_jump_120 : decode cX1_jump 120 = .ok (.goto 5, 3) := by decide +kernel
theorem dX1_jump_123 : decode cX1_jump 123 = .ok (.iload 10, 2) := by decide +kernel
theorem dX1_jump_125 : decode cX1_jump 125 = .ok (.istore 10, 2) := by decide +kernel
theorem dX1_jump_127 : decode cX1_jump 127 = .ok (.iload_n 3, 1) := by decide +kernel
theorem dX1_jump_128 : decode cX1_jump 128 = .ok (.bipush 99, 2) := by decide +kernel
theorem dX1_jump_130 : decode cX1_jump 130 = .ok (.if_icmp .ne 40, 3) := by decide +kernel
theorem dX1_jump_133 : decode cX1_jump 133 = .ok (.aload_n 0, 1) := by decide +kernel
theorem dX1_jump_134 : decode cX1_jump 134 = .ok (.iload 7, 2) := by decide +kernel
theorem dX1_jump_136 : decode cX1_jump 136 = .ok (.aload_n 0, 1) := by decide +kernel
theorem dX1_jump_137 : decode cX1_jump 137 = .ok (.getfield 13, 3) := by decide +kernel
theorem dX1_jump_140 : decode cX1_jump 140 = .ok (.aload_n 0, 1) := by decide +kernel
theorem dX1_jump_141 : decode cX1_jump 141 = .ok (.iload_n 1, 1) := by decide +kernel
theorem dX1_jump_142 : decode cX1_jump 142 = .ok (.iconst 3, 1) := by decide +kernel
theorem dX1_jump_143 : decode cX1_jump 143 = .ok (.invokevirtual 40, 3) := by decide +kernel
theorem dX1_jump_146 : decode cX1_jump 146 = .ok (.iaload, 1) := by decide +kernel
theorem dX1_jump_147 : decode cX1_jump 147 = .ok (.aload_n 0, 1) := by decide +kernel
theorem dX1_jump_148 : decode cX1_jump 148 = .ok (.getfield 13, 3) := by decide +kernel
theorem dX1_jump_151 : decode cX1_jump 151 = .ok (.aload_n 0, 1) := by decide +kernel
theorem dX1_jump_152 : decode cX1_jump 152 = .ok (.iload_n 1, 1) := by decide +kernel
theorem dX1_jump_153 : decode cX1_jump 153 = .ok (.iconst 4, 1) := by decide +kernel
theorem dX1_jump_154 : decode cX1_jump 154 = .ok (.invokevirtual 40, 3) := by decide +kernel
theorem dX1_jump_157 : decode cX1_jump 157 = .ok (.iaload, 1) := by decide +kernel
theorem dX1_jump_158 : decode cX1_jump 158 = .ok (.invokevirtual 113, 3) := by decide +kernel
theorem dX1_jump_161 : decode cX1_jump 161 = .ok (.ifCond .ne 9, 3) := by decide +kernel
theorem dX1_jump_164 : decode cX1_jump 164 = .ok (.aload_n 0, 1) := by decide +kernel
theorem dX1_jump_165 : decode cX1_jump 165 = .ok (.iload_n 2, 1) := by decide +kernel
theorem dX1_jump_166 : decode cX1_jump 166 = .ok (.invokevirtual 117, 3) := by decide +kernel
theorem dX1_jump_169 : decode cX1_jump 169 = .ok (.ireturn, 1) := by decide +kernel
theorem dX1_jump_170 : decode cX1_jump 170 = .ok (.iload 10, 2) := by decide +kernel
theorem dX1_jump_172 : decode cX1_jump 172 = .ok (.iconst 4, 1) := by decide +kernel
theorem dX1_jump_173 : decode cX1_jump 173 = .ok (.irem, 1) := by decide +kernel
theorem dX1_jump_174 : decode cX1_jump 174 = .ok (.ifCond .eq 11, 3) := by decide +kernel
theorem dX1_jump_177 : decode cX1_jump 177 = .ok (.aload_n 0, 1) := by decide +kernel
theorem dX1_jump_178 : decode cX1_jump 178 = .ok (.iconst 0, 1) := by decide +kernel
theorem dX1_jump_179 : decode cX1_jump 179 = .ok (.iload 10, 2) := by decide +kernel
theorem dX1_jump_181 : decode cX1_jump 181 = .ok (.invokevirtual 121, 3) := by decide +kernel
theorem dX1_jump_184 : decode cX1_jump 184 = .ok (.ireturn, 1) := by decide +kernel
theorem dX1_jump_185 : decode cX1_jump 185 = .ok (.iload_n 3, 1) := by decide +kernel
theorem dX1_jump_186 : decode cX1_jump 186 = .ok (.bipush 99, 2) := by decide +kernel
theorem dX1_jump_188 : decode cX1_jump 188 = .ok (.if_icmp .eq 10, 3) := by decide +kernel
theorem dX1_jump_191 : decode cX1_jump 191 = .ok (.aload_n 0, 1) := by decide +kernel
theorem dX1_jump_192 : decode cX1_jump 192 = .ok (.iload 4, 2) := by decide +kernel
theorem dX1_jump_194 : decode cX1_jump 194 = .ok (.iload_n 2, 1) := by decide +kernel
theorem dX1_jump_195 : decode cX1_jump 195 = .ok (.invokevirtual 100, 3) := by decide +kernel
theorem dX1_jump_198 : decode cX1_jump 198 = .ok (.aload_n 0, 1) := by decide +kernel
theorem dX1_jump_199 : decode cX1_jump 199 = .ok (.iload 10, 2) := by decide +kernel
theorem dX1_jump_201 : decode cX1_jump 201 = .ok (.invokevirtual 117, 3) := by decide +kernel
theorem dX1_jump_204 : decode cX1_jump 204 = .ok (.ireturn, 1) := by decide +kernel
theorem dX1_access_0 : decode cX1_access 0 = .ok (.aload_n 0, 1) := by decide +kernel
theorem dX1_access_1 : decode cX1_access 1 = .ok (.iload_n 1, 1) := by decide +kernel
theorem dX1_access_2 : decode cX1_access 2 = .ok (.iconst 0, 1) := by decide +kernel
theorem dX1_access_3 : decode cX1_access 3 = .ok (.invokevirtual 40, 3) := by decide +kernel
theorem dX1_access_6 : decode cX1_access 6 = .ok (.bipush 35, 2) := by decide +kernel
theorem dX1_access_8 : decode cX1_access 8 = .ok (.if_icmp .ne 7, 3) := by decide +kernel
theorem dX1_access_11 : decode cX1_access 11 = .ok (.iconst 1, 1) := by decide +kernel
theorem dX1_access_12 : decode cX1_access 12 = .ok (.goto 4, 3) := by decide +kernel
theorem dX1_access_15 : decode cX1_access 15 = .ok (.iconst 0, 1) := by decide +kernel
theorem dX1_access_16 : decode cX1_access 16 = .ok (.istore_n 3, 1) := by decide +kernel
theorem dX1_access_17 : decode cX1_access 17 = .ok (.aload_n 0, 1) := by decide +kernel
theorem dX1_access_18 : decode cX1_access 18 = .ok (.iload_n 1, 1) := by decide +kernel
theorem dX1_access_19 : decode cX1_access 19 = .ok (.iconst 2, 1) := by decide +kernel
theorem dX1_access_20 : decode cX1_access 20 = .ok (.invokevirtual 40, 3) := by decide +kernel
theorem dX1_access_23 : decode cX1_access 23 = .ok (.istore 4, 2) := by decide +kernel
theorem dX1_access_25 : decode cX1_access 25 = .ok (.iload 4, 2) := by decide +kernel
theorem dX1_access_27 : decode cX1_access 27 = .ok (.iconst 4, 1) := by decide +kernel
theorem dX1_access_28 : decode cX1_access 28 = .ok (.irem, 1) := by decide +kernel
theorem dX1_access_29 : decode cX1_access 29 = .ok (.ifCond .ne 7, 3) := by decide +kernel
theorem dX1_access_32 : decode cX1_access 32 = .ok (.iconst 1, 1) := by decide +kernel
theorem dX1_access_33 : decode cX1_access 33 = .ok (.goto 16, 3) := by decide +kernel
theorem dX1_access_36 : decode cX1_access 36 = .ok (.iload 4, 2) := by decide +kernel
theorem dX1_access_38 : decode cX1_access 38 = .ok (.iconst 4, 1) := by decide +kernel
theorem dX1_access_39 : decode cX1_access 39 = .ok (.irem, 1) := by decide +kernel
theorem dX1_access_40 : decode cX1_access 40 = .ok (.iconst 1, 1) := by decide +kernel
theorem dX1_access_41 : decode cX1_access 41 = .ok (.if_icmp .ne 7, 3) := by decide +kernel
theorem dX1_access_44 : decode cX1_access 44 = .ok (.iconst 2, 1) := by decide +kernel
theorem dX1_access_45 : decode cX1_access 45 = .ok (.goto 4, 3) := by decide +kernel
theorem dX1_access_48 : decode cX1_access 48 = .ok (.iconst 4, 1) := by decide +kernel
theorem dX1_access_49 : decode cX1_access 49 = .ok (.istore 5, 2) := by decide +kernel
theorem dX1_access_51 : decode cX1_access 51 = .ok (.aload_n 0, 1) := by decide +kernel
theorem dX1_access_52 : decode cX1_access 52 = .ok (.getfield 13, 3) := by decide +kernel
theorem dX1_access_55 : decode cX1_access 55 = .ok (.aload_n 0, 1) := by decide +kernel
theorem dX1_access_56 : decode cX1_access 56 = .ok (.iload_n 1, 1) := by decide +kernel
theorem dX1_access_57 : decode cX1_access 57 = .ok (.iconst 3, 1) := by decide +kernel
theorem dX1_access_58 : decode cX1_access 58 = .ok (.invokevirtual 40, 3) := by decide +kernel
theorem dX1_access_61 : decode cX1_access 61 = .ok (.iaload, 1) := by decide +kernel
theorem dX1_access_62 : decode cX1_access 62 = .ok (.i2l, 1) := by decide +kernel
theorem dX1_access_63 : decode cX1_access 63 = .ok (.aload_n 0, 1) := by decide +kernel
theorem dX1_access_64 : decode cX1_access 64 = .ok (.iload_n 1, 1) := by decide +kernel
theorem dX1_access_65 : decode cX1_access 65 = .ok (.iload_n 3, 1) := by decide +kernel
theorem dX1_access_66 : decode cX1_access 66 = .ok (.ifCond .eq 8, 3) := by decide +kernel
theorem dX1_access_69 : decode cX1_access 69 = .ok (.bipush 7, 2) := by decide +kernel
theorem dX1_access_71 : decode cX1_access 71 = .ok (.goto 5, 3) := by decide +kernel
theorem dX1_access_74 : decode cX1_access 74 = .ok (.bipush 6, 2) := by decide +kernel
theorem dX1_access_76 : decode cX1_access 76 = .ok (.invokevirtual 40, 3) := by decide +kernel
theorem dX1_access_79 : decode cX1_access 79 = .ok (.i2l, 1) := by decide +kernel
theorem dX1_access_80 : decode cX1_access 80 = .ok (.ladd, 1) := by decide +kernel
theorem dX1_access_81 : decode cX1_access 81 = .ok (.l2i, 1) := by decide +kernel
theorem dX1_access_82 : decode cX1_access 82 = .ok (.istore 6, 2) := by decide +kernel
theorem dX1_access_84 : decode cX1_access 84 = .ok (.iload 6, 2) := by decide +kernel
theorem dX1_access_86 : decode cX1_access 86 = .ok (.iload 5, 2) := by decide +kernel
theorem dX1_access_88 : decode cX1_access 88 = .ok (.irem, 1) := by decide +kernel
theorem dX1_access_89 : decode cX1_access 89 = .ok (.ifCond .eq 20, 3) := by decide +kernel
theorem dX1_access_92 : decode cX1_access 92 = .ok (.aload_n 0, 1) := by decide +kernel
theorem dX1_access_93 : decode cX1_access 93 = .ok (.iload_n 3, 1) := by decide +kernel
theorem dX1_access_94 : decode cX1_access 94 = .ok (.ifCond .eq 8, 3) := by decide +kernel
theorem dX1_access_97 : decode cX1_access 97 = .ok (.bipush 6, 2) := by decide +kernel
theorem dX1_access_99 : decode cX1_access 99 = .ok (.goto 4, 3) := by decide +kernel
theorem dX1_access_102 : decode cX1_access 102 = .ok (.iconst 4, 1) := by decide +kernel
theorem dX1_access_103 : decode cX1_access 103 = .ok (.iload 6, 2) := by decide +kernel
theorem dX1_access_105 : decode cX1_access 105 = .ok (.invokevirtual 121, 3) := by decide +kernel
theorem dX1_access_108 : decode cX1_access 108 = .ok (.ireturn, 1) := by decide +kernel
theorem dX1_access_109 : decode cX1_access 109 = .ok (.iload 6, 2) := by decide +kernel
theorem dX1_access_111 : decode cX1_access 111 = .ok (.i2l, 1) := by decide +kernel
theorem dX1_access_112 : decode cX1_access 112 = .ok (.iload 5, 2) := by decide +kernel
theorem dX1_access_114 : decode cX1_access 114 = .ok (.invokestatic 89, 3) := by decide +kernel
theorem dX1_access_117 : decode cX1_access 117 = .ok (.ifCond .ne 20, 3) := by decide +kernel
theorem dX1_access_120 : decode cX1_access 120 = .ok (.aload_n 0, 1) := by decide +kernel
theorem dX1_access_121 : decode cX1_access 121 = .ok (.iload_n 3, 1) := by decide +kernel
theorem dX1_access_122 : decode cX1_access 122 = .ok (.ifCond .eq 8, 3) := by decide +kernel
theorem dX1_access_125 : decode cX1_access 125 = .ok (.bipush 7, 2) := by decide +kernel
theorem dX1_access_127 : decode cX1_access 127 = .ok (.goto 4, 3) := by decide +kernel
theorem dX1_access_130 : decode cX1_access 130 = .ok (.iconst 5, 1) := by decide +kernel
theorem dX1_access_131 : decode cX1_access 131 = .ok (.iload 6, 2) := by decide +kernel
theorem dX1_access_133 : decode cX1_access 133 = .ok (.invokevirtual 121, 3) := by decide +kernel
theorem dX1_access_136 : decode cX1_access 136 = .ok (.ireturn, 1) := by decide +kernel
theorem dX1_access_137 : decode cX1_access 137 = .ok (.iload_n 3, 1) := by decide +kernel
theorem dX1_access_138 : decode cX1_access 138 = .ok (.ifCond .eq 25, 3) := by decide +kernel
theorem dX1_access_141 : decode cX1_access 141 = .ok (.aload_n 0, 1) := by decide +kernel
theorem dX1_access_142 : decode cX1_access 142 = .ok (.iload 6, 2) := by decide +kernel
theorem dX1_access_144 : decode cX1_access 144 = .ok (.iload 5, 2) := by decide +kernel
theorem dX1_access_146 : decode cX1_access 146 = .ok (.aload_n 0, 1) := by decide +kernel
theorem dX1_access_147 : decode cX1_access 147 = .ok (.getfield 13, 3) := by decide +kernel
theorem dX1_access_150 : decode cX1_access 150 = .ok (.aload_n 0, 1) := by decide +kernel
theorem dX1_access_151 : decode cX1_access 151 = .ok (.iload_n 1, 1) := by decide +kernel
theorem dX1_access_152 : decode cX1_access 152 = .ok (.iconst 4, 1) := by decide +kernel
theorem dX1_access_153 : decode cX1_access 153 = .ok (.invokevirtual 40, 3) := by decide +kernel
theorem dX1_access_156 : decode cX1_access 156 = .ok (.iaload, 1) := by decide +kernel
theorem dX1_access_157 : decode cX1_access 157 = .ok (.invokevirtual 93, 3) := by decide +kernel
theorem dX1_access_160 : decode cX1_access 160 = .ok (.goto 44, 3) := by decide +kernel
theorem dX1_access_163 : decode cX1_access 163 = .ok (.aload_n 0, 1) := by decide +kernel
theorem dX1_access_164 : decode cX1_access 164 = .ok (.iload 6, 2) := by decide +kernel
theorem dX1_access_166 : decode cX1_access 166 = .ok (.iload 5, 2) := by decide +kernel
theorem dX1_access_168 : decode cX1_access 168 = .ok (.invokevirtual 97, 3) := by decide +kernel
theorem dX1_access_171 : decode cX1_access 171 = .ok (.istore 7, 2) := by decide +kernel
theorem dX1_access_173 : decode cX1_access 173 = .ok (.aload_n 0, 1) := by decide +kernel
theorem dX1_access_174 : decode cX1_access 174 = .ok (.aload_n 0, 1) := by decide +kernel
theorem dX1_access_175 : decode cX1_access 175 = .ok (.iload_n 1, 1) := by decide +kernel
theorem dX1_access_176 : decode cX1_access 176 = .ok (.iconst 1, 1) := by decide +kernel
theorem dX1_access_177 : decode cX1_access 177 = .ok (.invokevirtual 40, 3) := by decide +kernel
theorem dX1_access_180 : decode cX1_access 180 = .ok (.iload 4, 2) := by decide +kernel
theorem dX1_access_182 : decode cX1_access 182 = .ok (.iconst 2, 1) := by decide +kernel
theorem dX1_access_183 : decode cX1_access 183 = .ok (.if_icmp .ge 16, 3) := by decide +kernel
theorem dX1_access_186 : decode cX1_access 186 = .ok (.iload 7, 2) := by decide +kernel
theorem dX1_access_188 : decode cX1_access 188 = .ok (.bipush 8, 2) := by decide +kernel
theorem dX1_access_190 : decode cX1_access 190 = .ok (.iload 5, 2) := by decide +kernel
theorem dX1_access_192 : decode cX1_access 192 = .ok (.imul, 1) := by decide +kernel
theorem dX1_access_193 : decode cX1_access 193 = .ok (.invokestatic 31, 3) := by decide +kernel
theorem dX1_access_196 : decode cX1_access 196 = .ok (.goto 5, 3) := by decide +kernel
theorem dX1_access_199 : decode cX1_access 199 = .ok (.iload 7, 2) := by decide +kernel
theorem dX1_access_201 : decode cX1_access 201 = .ok (.invokevirtual 100, 3) := by decide +kernel
theorem dX1_access_204 : decode cX1_access 204 = .ok (.aload_n 0, 1) := by decide +kernel
theorem dX1_access_205 : decode cX1_access 205 = .ok (.iload_n 2, 1) := by decide +kernel
theorem dX1_access_206 : decode cX1_access 206 = .ok (.invokevirtual 117, 3) := by decide +kernel
theorem dX1_access_209 : decode cX1_access 209 = .ok (.ireturn, 1) := by decide +kernel
theorem dX1_act_0 : decode cX1_act 0 = .ok (.aload_n 0, 1) := by decide +kernel
theorem dX1_act_1 : decode cX1_act 1 = .ok (.iload_n 1, 1) := by decide +kernel
theorem dX1_act_2 : decode cX1_act 2 = .ok (.iconst 0, 1) := by decide +kernel
theorem dX1_act_3 : decode cX1_act 3 = .ok (.invokevirtual 40, 3) := by decide +kernel
theorem dX1_act_6 : decode cX1_act 6 = .ok (.istore_n 2, 1) := by decide +kernel
theorem dX1_act_7 : decode cX1_act 7 = .ok (.aload_n 0, 1) := by decide +kernel
theorem dX1_act_8 : decode cX1_act 8 = .ok (.getfield 104, 3) := by decide +kernel
theorem dX1_act_11 : decode cX1_act 11 = .ok (.i2l, 1) := by decide +kernel
theorem dX1_act_12 : decode cX1_act 12 = .ok (.ldc2_w 124, 3) := by decide +kernel
theorem dX1_act_15 : decode cX1_act 15 = .ok (.ladd, 1) := by decide +kernel
theorem dX1_act_16 : decode cX1_act 16 = .ok (.l2i, 1) := by decide +kernel
theorem dX1_act_17 : decode cX1_act 17 = .ok (.istore_n 3, 1) := by decide +kernel
theorem dX1_act_18 : decode cX1_act 18 = .ok (.aload_n 0, 1) := by decide +kernel
theorem dX1_act_19 : decode cX1_act 19 = .ok (.iload_n 1, 1) := by decide +kernel
theorem dX1_act_20 : decode cX1_act 20 = .ok (.invokevirtual 36, 3) := by decide +kernel
theorem dX1_act_23 : decode cX1_act 23 = .ok (.ifCond .ne 10, 3) := by decide +kernel
theorem dX1_act_26 : decode cX1_act 26 = .ok (.aload_n 0, 1) := by decide +kernel
theorem dX1_act_27 : decode cX1_act 27 = .ok (.iconst 2, 1) := by decide +kernel
theorem dX1_act_28 : decode cX1_act 28 = .ok (.iload_n 1, 1) := by decide +kernel
theorem dX1_act_29 : decode cX1_act 29 = .ok (.invokevirtual 121, 3) := by decide +kernel
theorem dX1_act_32 : decode cX1_act 32 = .ok (.ireturn, 1) := by decide +kernel
theorem dX1_act_33 : decode cX1_act 33 = .ok (.iload_n 2, 1) := by decide +kernel
theorem dX1_act_34 : decode cX1_act 34 = .ok (.bipush 115, 2) := by decide +kernel
theorem dX1_act_36 : decode cX1_act 36 = .ok (.if_icmp .ne 11, 3) := by decide +kernel
theorem dX1_act_39 : decode cX1_act 39 = .ok (.aload_n 0, 1) := by decide +kernel
theorem dX1_act_40 : decode cX1_act 40 = .ok (.bipush 100, 2) := by decide +kernel
theorem dX1_act_42 : decode cX1_act 42 = .ok (.iload_n 1, 1) := by decide +kernel
theorem dX1_act_43 : decode cX1_act 43 = .ok (.invokevirtual 121, 3) := by decide +kernel
theorem dX1_act_46 : decode cX1_act 46 = .ok (.ireturn, 1) := by decide +kernel
theorem dX1_act_47 : decode cX1_act 47 = .ok (.iload_n 2, 1) := by decide +kernel
theorem dX1_act_48 : decode cX1_act 48 = .ok (.bipush 111, 2) := by decide +kernel
theorem dX1_act_50 : decode cX1_act 50 = .ok (.if_icmp .eq 15, 3) := by decide +kernel
theorem dX1_act_53 : decode cX1_act 53 = .ok (.iload_n 2, 1) := by decide +kernel
theorem dX1_act_54 : decode cX1_act 54 = .ok (.bipush 103, 2) := by decide +kernel
theorem dX1_act_56 : decode cX1_act 56 = .ok (.if_icmp .eq 9, 3) := by decide +kernel
theorem dX1_act_59 : decode cX1_act 59 = .ok (.iload_n 2, 1) := by decide +kernel
theorem dX1_act_60 : decode cX1_act 60 = .ok (.bipush 99, 2) := by decide +kernel
theorem dX1_act_62 : decode cX1_act 62 = .ok (.if_icmp .ne 10, 3) := by decide +kernel
theorem dX1_act_65 : decode cX1_act 65 = .ok (.aload_n 0, 1) := by decide +kernel
theorem dX1_act_66 : decode cX1_act 66 = .ok (.iload_n 1, 1) := by decide +kernel
theorem dX1_act_67 : decode cX1_act 67 = .ok (.iload_n 3, 1) := by decide +kernel
theorem dX1_act_68 : decode cX1_act 68 = .ok (.invokevirtual 126, 3) := by decide +kernel
theorem dX1_act_71 : decode cX1_act 71 = .ok (.ireturn, 1) := by decide +kernel
theorem dX1_act_72 : decode cX1_act 72 = .ok (.iload_n 2, 1) := by decide +kernel
theorem dX1_act_73 : decode cX1_act 73 = .ok (.iconst 3, 1) := by decide +kernel
theorem dX1_act_74 : decode cX1_act 74 = .ok (.if_icmp .eq 9, 3) := by decide +kernel
theorem dX1_act_77 : decode cX1_act 77 = .ok (.iload_n 2, 1) := by decide +kernel
theorem dX1_act_78 : decode cX1_act 78 = .ok (.bipush 35, 2) := by decide +kernel
theorem dX1_act_80 : decode cX1_act 80 = .ok (.if_icmp .ne 10, 3) := by decide +kernel
theorem dX1_act_83 : decode cX1_act 83 = .ok (.aload_n 0, 1) := by decide +kernel
theorem dX1_act_84 : decode cX1_act 84 = .ok (.iload_n 1, 1) := by decide +kernel
theorem dX1_act_85 : decode cX1_act 85 = .ok (.iload_n 3, 1) := by decide +kernel
theorem dX1_act_86 : decode cX1_act 86 = .ok (.invokevirtual 129, 3) := by decide +kernel
theorem dX1_act_89 : decode cX1_act 89 = .ok (.ireturn, 1) := by decide +kernel
theorem dX1_act_90 : decode cX1_act 90 = .ok (.iload_n 2, 1) := by decide +kernel
theorem dX1_act_91 : decode cX1_act 91 = .ok (.bipush 15, 2) := by decide +kernel
theorem dX1_act_93 : decode cX1_act 93 = .ok (.if_icmp .eq 44, 3) := by decide +kernel
theorem dX1_act_96 : decode cX1_act 96 = .ok (.aload_n 0, 1) := by decide +kernel
theorem dX1_act_97 : decode cX1_act 97 = .ok (.aload_n 0, 1) := by decide +kernel
theorem dX1_act_98 : decode cX1_act 98 = .ok (.iload_n 1, 1) := by decide +kernel
theorem dX1_act_99 : decode cX1_act 99 = .ok (.iconst 1, 1) := by decide +kernel
theorem dX1_act_100 : decode cX1_act 100 = .ok (.invokevirtual 40, 3) := by decide +kernel
theorem dX1_act_103 : decode cX1_act 103 = .ok (.aload_n 0, 1) := by decide +kernel
theorem dX1_act_104 : decode cX1_act 104 = .ok (.iload_n 1, 1) := by decide +kernel
theorem dX1_act_105 : decode cX1_act 105 = .ok (.aload_n 0, 1) := by decide +kernel
theorem dX1_act_106 : decode cX1_act 106 = .ok (.getfield 13, 3) := by decide +kernel
theorem dX1_act_109 : decode cX1_act 109 = .ok (.aload_n 0, 1) := by decide +kernel
theorem dX1_act_110 : decode cX1_act 110 = .ok (.iload_n 1, 1) := by decide +kernel
theorem dX1_act_111 : decode cX1_act 111 = .ok (.iconst 3, 1) := by decide +kernel
theorem dX1_act_112 : decode cX1_act 112 = .ok (.invokevirtual 40, 3) := by decide +kernel
theorem dX1_act_115 : decode cX1_act 115 = .ok (.iaload, 1) := by decide +kernel
theorem dX1_act_116 : decode cX1_act 116 = .ok (.aload_n 0, 1) := by decide +kernel
theorem dX1_act_117 : decode cX1_act 117 = .ok (.getfield 13, 3) := by decide +kernel
theorem dX1_act_120 : decode cX1_act 120 = .ok (.aload_n 0, 1) := by decide +kernel
theorem dX1_act_121 : decode cX1_act 121 = .ok (.iload_n 1, 1) := by decide +kernel
theorem dX1_act_122 : decode cX1_act 122 = .ok (.iconst 4, 1) := by decide +kernel
theorem dX1_act_123 : decode cX1_act 123 = .ok (.invokevirtual 40, 3) := by decide +kernel
theorem dX1_act_126 : decode cX1_act 126 = .ok (.iaload, 1) := by decide +kernel
theorem dX1_act_127 : decode cX1_act 127 = .ok (.aload_n 0, 1) := by decide +kernel
theorem dX1_act_128 : decode cX1_act 128 = .ok (.getfield 104, 3) := by decide +kernel
theorem dX1_act_131 : decode cX1_act 131 = .ok (.invokevirtual 81, 3) := by decide +kernel
theorem dX1_act_134 : decode cX1_act 134 = .ok (.invokevirtual 100, 3) := by decide +kernel
theorem dX1_act_137 : decode cX1_act 137 = .ok (.aload_n 0, 1) := by decide +kernel
theorem dX1_act_138 : decode cX1_act 138 = .ok (.iload_n 3, 1) := by decide +kernel
theorem dX1_act_139 : decode cX1_act 139 = .ok (.invokevirtual 117, 3) := by decide +kernel
theorem dX1_act_142 : decode cX1_act 142 = .ok (.ireturn, 1) := by decide +kernel
theorem dX1_step_0 : decode cX1_step 0 = .ok (.aload_n 0, 1) := by decide +kernel
theorem dX1_step_1 : decode cX1_step 1 = .ok (.getfield 104, 3) := by decide +kernel
theorem dX1_step_4 : decode cX1_step 4 = .ok (.i2l, 1) := by decide +kernel
theorem dX1_step_5 : decode cX1_step 5 = .ok (.iconst 4, 1) := by decide +kernel
theorem dX1_step_6 : decode cX1_step 6 = .ok (.invokestatic 89, 3) := by decide +kernel
theorem dX1_step_9 : decode cX1_step 9 = .ok (.ifCond .eq 19, 3) := by decide +kernel
theorem dX1_step_12 : decode cX1_step 12 = .ok (.aload_n 0, 1) := by decide +kernel
theorem dX1_step_13 : decode cX1_step 13 = .ok (.aload_n 0, 1) := by decide +kernel
theorem dX1_step_14 : decode cX1_step 14 = .ok (.aload_n 0, 1) := by decide +kernel
theorem dX1_step_15 : decode cX1_step 15 = .ok (.getfield 104, 3) := by decide +kernel
theorem dX1_step_18 : decode cX1_step 18 = .ok (.iconst 4, 1) := by decide +kernel
theorem dX1_step_19 : decode cX1_step 19 = .ok (.invokevirtual 97, 3) := by decide +kernel
theorem dX1_step_22 : decode cX1_step 22 = .ok (.invokevirtual 132, 3) := by decide +kernel
theorem dX1_step_25 : decode cX1_step 25 = .ok (.goto 12, 3) := by decide +kernel
theorem dX1_step_28 : decode cX1_step 28 = .ok (.aload_n 0, 1) := by decide +kernel
theorem dX1_step_29 : decode cX1_step 29 = .ok (.iconst 1, 1) := by decide +kernel
theorem dX1_step_30 : decode cX1_step 30 = .ok (.aload_n 0, 1) := by decide +kernel
theorem dX1_step_31 : decode cX1_step 31 = .ok (.getfield 104, 3) := by decide +kernel
theorem dX1_step_34 : decode cX1_step 34 = .ok (.invokevirtual 121, 3) := by decide +kernel
theorem dX1_step_37 : decode cX1_step 37 = .ok (.ireturn, 1) := by decide +kernel
theorem dX1_run_0 : decode cX1_run 0 = .ok (.iload_n 1, 1) := by decide +kernel
theorem dX1_run_1 : decode cX1_run 1 = .ok (.ifCond .lt 10, 3) := by decide +kernel
theorem dX1_run_4 : decode cX1_run 4 = .ok (.iload_n 1, 1) := by decide +kernel
theorem dX1_run_5 : decode cX1_run 5 = .ok (.sipush 2000, 3) := by decide +kernel
theorem dX1_run_8 : decode cX1_run 8 = .ok (.if_icmp .le 5, 3) := by decide +kernel
theorem dX1_run_11 : decode cX1_run 11 = .ok (.iconst (-1), 1) := by decide +kernel
theorem dX1_run_12 : decode cX1_run 12 = .ok (.ireturn, 1) := by decide +kernel
theorem dX1_run_13 : decode cX1_run 13 = .ok (.iconst 0, 1) := by decide +kernel
theorem dX1_run_14 : decode cX1_run 14 = .ok (.istore_n 2, 1) := by decide +kernel
theorem dX1_run_15 : decode cX1_run 15 = .ok (.iload_n 2, 1) := by decide +kernel
theorem dX1_run_16 : decode cX1_run 16 = .ok (.iload_n 1, 1) := by decide +kernel
theorem dX1_run_17 : decode cX1_run 17 = .ok (.if_icmp .ge 17, 3) := by decide +kernel
theorem dX1_run_20 : decode cX1_run 20 = .ok (.aload_n 0, 1) := by decide +kernel
theorem dX1_run_21 : decode cX1_run 21 = .ok (.invokevirtual 135, 3) := by decide +kernel
theorem dX1_run_24 : decode cX1_run 24 = .ok (.iconst (-1), 1) := by decide +kernel
theorem dX1_run_25 : decode cX1_run 25 = .ok (.if_icmp .ne 9, 3) := by decide +kernel
theorem dX1_run_28 : decode cX1_run 28 = .ok (.iinc 2 1, 3) := by decide +kernel
theorem dX1_run_31 : decode cX1_run 31 = .ok (.goto (-16), 3) := by decide +kernel
theorem dX1_run_34 : decode cX1_run 34 = .ok (.iload_n 2, 1) := by decide +kernel
theorem dX1_run_35 : decode cX1_run 35 = .ok (.ireturn, 1) := by decide +kernel
theorem dX1_doWord_0 : decode cX1_doWord 0 = .ok (.aload_n 0, 1) := by decide +kernel
theorem dX1_doWord_1 : decode cX1_doWord 1 = .ok (.iload_n 1, 1) := by decide +kernel
theorem dX1_doWord_2 : decode cX1_doWord 2 = .ok (.invokevirtual 132, 3) := by decide +kernel
theorem dX1_doWord_5 : decode cX1_doWord 5 = .ok (.ireturn, 1) := by decide +kernel
theorem dX1_told_0 : decode cX1_told 0 = .ok (.iload_n 1, 1) := by decide +kernel
theorem dX1_told_1 : decode cX1_told 1 = .ok (.tableswitch 51 0 3 #[31, 36, 41, 46], 31) := by decide +kernel
theorem dX1_told_32 : decode cX1_told 32 = .ok (.aload_n 0, 1) := by decide +kernel
theorem dX1_told_33 : decode cX1_told 33 = .ok (.getfield 104, 3) := by decide +kernel
theorem dX1_told_36 : decode cX1_told 36 = .ok (.ireturn, 1) := by decide +kernel
theorem dX1_told_37 : decode cX1_told 37 = .ok (.aload_n 0, 1) := by decide +kernel
theorem dX1_told_38 : decode cX1_told 38 = .ok (.getfield 16, 3) := by decide +kernel
theorem dX1_told_41 : decode cX1_told 41 = .ok (.ireturn, 1) := by decide +kernel
theorem dX1_told_42 : decode cX1_told 42 = .ok (.aload_n 0, 1) := by decide +kernel
theorem dX1_told_43 : decode cX1_told 43 = .ok (.getfield 107, 3) := by decide +kernel
theorem dX1_told_46 : decode cX1_told 46 = .ok (.ireturn, 1) := by decide +kernel
theorem dX1_told_47 : decode cX1_told 47 = .ok (.aload_n 0, 1) := by decide +kernel
theorem dX1_told_48 : decode cX1_told 48 = .ok (.getfield 110, 3) := by decide +kernel
theorem dX1_told_51 : decode cX1_told 51 = .ok (.ireturn, 1) := by decide +kernel
theorem dX1_told_52 : decode cX1_told 52 = .ok (.iconst (-1), 1) := by decide +kernel
theorem dX1_told_53 : decode cX1_told 53 = .ok (.ireturn, 1) := by decide +kernel
