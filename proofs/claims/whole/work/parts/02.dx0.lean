theorem dX0_init_0 : decode cX0_init 0 = .ok (.aload_n 0, 1) := by decide +kernel
theorem dX0_init_1 : decode cX0_init 1 = .ok (.invokespecial 3, 3) := by decide +kernel
theorem dX0_init_4 : decode cX0_init 4 = .ok (.aload_n 0, 1) := by decide +kernel
theorem dX0_init_5 : decode cX0_init 5 = .ok (.sipush 400, 3) := by decide +kernel
theorem dX0_init_8 : decode cX0_init 8 = .ok (.newarray .int, 2) := by decide +kernel
theorem dX0_init_10 : decode cX0_init 10 = .ok (.putfield 9, 3) := by decide +kernel
theorem dX0_init_13 : decode cX0_init 13 = .ok (.aload_n 0, 1) := by decide +kernel
theorem dX0_init_14 : decode cX0_init 14 = .ok (.sipush 400, 3) := by decide +kernel
theorem dX0_init_17 : decode cX0_init 17 = .ok (.newarray .int, 2) := by decide +kernel
theorem dX0_init_19 : decode cX0_init 19 = .ok (.putfield 15, 3) := by decide +kernel
theorem dX0_init_22 : decode cX0_init 22 = .ok (.aload_n 0, 1) := by decide +kernel
theorem dX0_init_23 : decode cX0_init 23 = .ok (.sipush 400, 3) := by decide +kernel
theorem dX0_init_26 : decode cX0_init 26 = .ok (.newarray .int, 2) := by decide +kernel
theorem dX0_init_28 : decode cX0_init 28 = .ok (.putfield 18, 3) := by decide +kernel
theorem dX0_init_31 : decode cX0_init 31 = .ok (.aload_n 0, 1) := by decide +kernel
theorem dX0_init_32 : decode cX0_init 32 = .ok (.sipush 400, 3) := by decide +kernel
theorem dX0_init_35 : decode cX0_init 35 = .ok (.newarray .int, 2) := by decide +kernel
theorem dX0_init_37 : decode cX0_init 37 = .ok (.putfield 21, 3) := by decide +kernel
theorem dX0_init_40 : decode cX0_init 40 = .ok (.return_, 1) := by decide +kernel
theorem dX0_forget_0 : decode cX0_forget 0 = .ok (.aload_n 0, 1) := by decide +kernel
theorem dX0_forget_1 : decode cX0_forget 1 = .ok (.iconst 0, 1) := by decide +kernel
theorem dX0_forget_2 : decode cX0_forget 2 = .ok (.putfield 24, 3) := by decide +kernel
theorem dX0_forget_5 : decode cX0_forget 5 = .ok (.return_, 1) := by decide +kernel
theorem dX0_size_0 : decode cX0_size 0 = .ok (.aload_n 0, 1) := by decide +kernel
theorem dX0_size_1 : decode cX0_size 1 = .ok (.getfield 24, 3) := by decide +kernel
theorem dX0_size_4 : decode cX0_size 4 = .ok (.ireturn, 1) := by decide +kernel
theorem dX0_failed_0 : decode cX0_failed 0 = .ok (.aload_n 0, 1) := by decide +kernel
theorem dX0_failed_1 : decode cX0_failed 1 = .ok (.getfield 24, 3) := by decide +kernel
theorem dX0_failed_4 : decode cX0_failed 4 = .ok (.ifCond .le 21, 3) := by decide +kernel
theorem dX0_failed_7 : decode cX0_failed 7 = .ok (.aload_n 0, 1) := by decide +kernel
theorem dX0_failed_8 : decode cX0_failed 8 = .ok (.getfield 15, 3) := by decide +kernel
theorem dX0_failed_11 : decode cX0_failed 11 = .ok (.aload_n 0, 1) := by decide +kernel
theorem dX0_failed_12 : decode cX0_failed 12 = .ok (.getfield 24, 3) := by decide +kernel
theorem dX0_failed_15 : decode cX0_failed 15 = .ok (.iconst 1, 1) := by decide +kernel
theorem dX0_failed_16 : decode cX0_failed 16 = .ok (.isub, 1) := by decide +kernel
theorem dX0_failed_17 : decode cX0_failed 17 = .ok (.iaload, 1) := by decide +kernel
theorem dX0_failed_18 : decode cX0_failed 18 = .ok (.ifCond .ne 7, 3) := by decide +kernel
theorem dX0_failed_21 : decode cX0_failed 21 = .ok (.iconst 1, 1) := by decide +kernel
theorem dX0_failed_22 : decode cX0_failed 22 = .ok (.goto 4, 3) := by decide +kernel
theorem dX0_failed_25 : decode cX0_failed 25 = .ok (.iconst 0, 1) := by decide +kernel
theorem dX0_failed_26 : decode cX0_failed 26 = .ok (.ireturn, 1) := by decide +kernel
theorem dX0_tokens_0 : decode cX0_tokens 0 = .ok (.aload_n 0, 1) := by decide +kernel
theorem dX0_tokens_1 : decode cX0_tokens 1 = .ok (.invokevirtual 28, 3) := by decide +kernel
theorem dX0_tokens_4 : decode cX0_tokens 4 = .ok (.ifCond .eq 12, 3) := by decide +kernel
theorem dX0_tokens_7 : decode cX0_tokens 7 = .ok (.aload_n 0, 1) := by decide +kernel
theorem dX0_tokens_8 : decode cX0_tokens 8 = .ok (.getfield 24, 3) := by decide +kernel
theorem dX0_tokens_11 : decode cX0_tokens 11 = .ok (.iconst 1, 1) := by decide +kernel
theorem dX0_tokens_12 : decode cX0_tokens 12 = .ok (.isub, 1) := by decide +kernel
theorem dX0_tokens_13 : decode cX0_tokens 13 = .ok (.goto 7, 3) := by decide +kernel
theorem dX0_tokens_16 : decode cX0_tokens 16 = .ok (.aload_n 0, 1) := by decide +kernel
theorem dX0_tokens_17 : decode cX0_tokens 17 = .ok (.getfield 24, 3) := by decide +kernel
theorem dX0_tokens_20 : decode cX0_tokens 20 = .ok (.ireturn, 1) := by decide +kernel
theorem dX0_begin_0 : decode cX0_begin 0 = .ok (.aload_n 0, 1) := by decide +kernel
theorem dX0_begin_1 : decode cX0_begin 1 = .ok (.iload_n 1, 1) := by decide +kernel
theorem dX0_begin_2 : decode cX0_begin 2 = .ok (.invokevirtual 32, 3) := by decide +kernel
theorem dX0_begin_5 : decode cX0_begin 5 = .ok (.ifCond .eq 12, 3) := by decide +kernel
theorem dX0_begin_8 : decode cX0_begin 8 = .ok (.aload_n 0, 1) := by decide +kernel
theorem dX0_begin_9 : decode cX0_begin 9 = .ok (.getfield 9, 3) := by decide +kernel
theorem dX0_begin_12 : decode cX0_begin 12 = .ok (.iload_n 1, 1) := by decide +kernel
theorem dX0_begin_13 : decode cX0_begin 13 = .ok (.iaload, 1) := by decide +kernel
theorem dX0_begin_14 : decode cX0_begin 14 = .ok (.goto 4, 3) := by decide +kernel
theorem dX0_begin_17 : decode cX0_begin 17 = .ok (.iconst (-1), 1) := by decide +kernel
theorem dX0_begin_18 : decode cX0_begin 18 = .ok (.ireturn, 1) := by decide +kernel
theorem dX0_length_0 : decode cX0_length 0 = .ok (.aload_n 0, 1) := by decide +kernel
theorem dX0_length_1 : decode cX0_length 1 = .ok (.iload_n 1, 1) := by decide +kernel
theorem dX0_length_2 : decode cX0_length 2 = .ok (.invokevirtual 32, 3) := by decide +kernel
theorem dX0_length_5 : decode cX0_length 5 = .ok (.ifCond .eq 12, 3) := by decide +kernel
theorem dX0_length_8 : decode cX0_length 8 = .ok (.aload_n 0, 1) := by decide +kernel
theorem dX0_length_9 : decode cX0_length 9 = .ok (.getfield 15, 3) := by decide +kernel
theorem dX0_length_12 : decode cX0_length 12 = .ok (.iload_n 1, 1) := by decide +kernel
theorem dX0_length_13 : decode cX0_length 13 = .ok (.iaload, 1) := by decide +kernel
theorem dX0_length_14 : decode cX0_length 14 = .ok (.goto 4, 3) := by decide +kernel
theorem dX0_length_17 : decode cX0_length 17 = .ok (.iconst (-1), 1) := by decide +kernel
theorem dX0_length_18 : decode cX0_length 18 = .ok (.ireturn, 1) := by decide +kernel
theorem dX0_kindFound_0 : decode cX0_kindFound 0 = .ok (.aload_n 0, 1) := by decide +kernel
theorem dX0_kindFound_1 : decode cX0_kindFound 1 = .ok (.iload_n 1, 1) := by decide +kernel
theorem dX0_kindFound_2 : decode cX0_kindFound 2 = .ok (.invokevirtual 32, 3) := by decide +kernel
theorem dX0_kindFound_5 : decode cX0_kindFound 5 = .ok (.ifCond .eq 12, 3) := by decide +kernel
theorem dX0_kindFound_8 : decode cX0_kindFound 8 = .ok (.aload_n 0, 1) := by decide +kernel
theorem dX0_kindFound_9 : decode cX0_kindFound 9 = .ok (.getfield 18, 3) := by decide +kernel
theorem dX0_kindFound_12 : decode cX0_kindFound 12 = .ok (.iload_n 1, 1) := by decide +kernel
theorem dX0_kindFound_13 : decode cX0_kindFound 13 = .ok (.iaload, 1) := by decide +kernel
theorem dX0_kindFound_14 : decode cX0_kindFound 14 = .ok (.goto 4, 3) := by decide +kernel
theorem dX0_kindFound_17 : decode cX0_kindFound 17 = .ok (.iconst (-1), 1) := by decide +kernel
theorem dX0_kindFound_18 : decode cX0_kindFound 18 = .ok (.ireturn, 1) := by decide +kernel
theorem dX0_looked_0 : decode cX0_looked 0 = .ok (.aload_n 0, 1) := by decide +kernel
theorem dX0_looked_1 : decode cX0_looked 1 = .ok (.iload_n 1, 1) := by decide +kernel
theorem dX0_looked_2 : decode cX0_looked 2 = .ok (.invokevirtual 32, 3) := by decide +kernel
theorem dX0_looked_5 : decode cX0_looked 5 = .ok (.ifCond .eq 12, 3) := by decide +kernel
theorem dX0_looked_8 : decode cX0_looked 8 = .ok (.aload_n 0, 1) := by decide +kernel
theorem dX0_looked_9 : decode cX0_looked 9 = .ok (.getfield 21, 3) := by decide +kernel
theorem dX0_looked_12 : decode cX0_looked 12 = .ok (.iload_n 1, 1) := by decide +kernel
theorem dX0_looked_13 : decode cX0_looked 13 = .ok (.iaload, 1) := by decide +kernel
theorem dX0_looked_14 : decode cX0_looked 14 = .ok (.goto 4, 3) := by decide +kernel
theorem dX0_looked_17 : decode cX0_looked 17 = .ok (.iconst (-1), 1) := by decide +kernel
theorem dX0_looked_18 : decode cX0_looked 18 = .ok (.ireturn, 1) := by decide +kernel
theorem dX0_nextBegin_0 : decode cX0_nextBegin 0 = .ok (.aload_n 0, 1) := by decide +kernel
theorem dX0_nextBegin_1 : decode cX0_nextBegin 1 = .ok (.getfield 24, 3) := by decide +kernel
theorem dX0_nextBegin_4 : decode cX0_nextBegin 4 = .ok (.ifCond .le 29, 3) := by decide +kernel
theorem dX0_nextBegin_7 : decode cX0_nextBegin 7 = .ok (.aload_n 0, 1) := by decide +kernel
theorem dX0_nextBegin_8 : decode cX0_nextBegin 8 = .ok (.getfield 9, 3) := by decide +kernel
theorem dX0_nextBegin_11 : decode cX0_nextBegin 11 = .ok (.aload_n 0, 1) := by decide +kernel
theorem dX0_nextBegin_12 : decode cX0_nextBegin 12 = .ok (.getfield 24, 3) := by decide +kernel
theorem dX0_nextBegin_15 : decode cX0_nextBegin 15 = .ok (.iconst 1, 1) := by decide +kernel
theorem dX0_nextBegin_16 : decode cX0_nextBegin 16 = .ok (.isub, 1) := by decide +kernel
theorem dX0_nextBegin_17 : decode cX0_nextBegin 17 = .ok (.iaload, 1) := by decide +kernel
theorem dX0_nextBegin_18 : decode cX0_nextBegin 18 = .ok (.aload_n 0, 1) := by decide +kernel
theorem dX0_nextBegin_19 : decode cX0_nextBegin 19 = .ok (.getfield 15, 3) := by decide +kernel
theorem dX0_nextBegin_22 : decode cX0_nextBegin 22 = .ok (.aload_n 0, 1) := by decide +kernel
theorem dX0_nextBegin_23 : decode cX0_nextBegin 23 = .ok (.getfield 24, 3) := by decide +kernel
theorem dX0_nextBegin_26 : decode cX0_nextBegin 26 = .ok (.iconst 1, 1) := by decide +kernel
theorem dX0_nextBegin_27 : decode cX0_nextBegin 27 = .ok (.isub, 1) := by decide +kernel
theorem dX0_nextBegin_28 : decode cX0_nextBegin 28 = .ok (.iaload, 1) := by decide +kernel
theorem dX0_nextBegin_29 : decode cX0_nextBegin 29 = .ok (.iadd, 1) := by decide +kernel
theorem dX0_nextBegin_30 : decode cX0_nextBegin 30 = .ok (.goto 4, 3) := by decide +kernel
theorem dX0_nextBegin_33 : decode cX0_nextBegin 33 = .ok (.iconst 0, 1) := by decide +kernel
theorem dX0_nextBegin_34 : decode cX0_nextBegin 34 = .ok (.ireturn, 1) := by decide +kernel
theorem dX0_tokenAround_0 : decode cX0_tokenAround 0 = .ok (.iconst 0, 1) := by decide +kernel
theorem dX0_tokenAround_1 : decode cX0_tokenAround 1 = .ok (.istore_n 2, 1) := by decide +kernel
theorem dX0_tokenAround_2 : decode cX0_tokenAround 2 = .ok (.iload_n 2, 1) := by decide +kernel
theorem dX0_tokenAround_3 : decode cX0_tokenAround 3 = .ok (.aload_n 0, 1) := by decide +kernel
theorem dX0_tokenAround_4 : decode cX0_tokenAround 4 = .ok (.getfield 24, 3) := by decide +kernel
theorem dX0_tokenAround_7 : decode cX0_tokenAround 7 = .ok (.if_icmp .ge 38, 3) := by decide +kernel
theorem dX0_tokenAround_10 : decode cX0_tokenAround 10 = .ok (.iload_n 1, 1) := by decide +kernel
theorem dX0_tokenAround_11 : decode cX0_tokenAround 11 = .ok (.aload_n 0, 1) := by decide +kernel
theorem dX0_tokenAround_12 : decode cX0_tokenAround 12 = .ok (.getfield 9, 3) := by decide +kernel
theorem dX0_tokenAround_15 : decode cX0_tokenAround 15 = .ok (.iload_n 2, 1) := by decide +kernel
theorem dX0_tokenAround_16 : decode cX0_tokenAround 16 = .ok (.iaload, 1) := by decide +kernel
theorem dX0_tokenAround_17 : decode cX0_tokenAround 17 = .ok (.if_icmp .lt 22, 3) := by decide +kernel
theorem dX0_tokenAround_20 : decode cX0_tokenAround 20 = .ok (.iload_n 1, 1) := by decide +kernel
theorem dX0_tokenAround_21 : decode cX0_tokenAround 21 = .ok (.aload_n 0, 1) := by decide +kernel
theorem dX0_tokenAround_22 : decode cX0_tokenAround 22 = .ok (.getfield 9, 3) := by decide +kernel
theorem dX0_tokenAround_25 : decode cX0_tokenAround 25 = .ok (.iload_n 2, 1) := by decide +kernel
theorem dX0_tokenAround_26 : decode cX0_tokenAround 26 = .ok (.iaload, 1) := by decide +kernel
theorem dX0_tokenAround_27 : decode cX0_tokenAround 27 = .ok (.aload_n 0, 1) := by decide +kernel
theorem dX0_tokenAround_28 : decode cX0_tokenAround 28 = .ok (.getfield 15, 3) := by decide +kernel
theorem dX0_tokenAround_31 : decode cX0_tokenAround 31 = .ok (.iload_n 2, 1) := by decide +kernel
theorem dX0_tokenAround_32 : decode cX0_tokenAround 32 = .ok (.iaload, 1) := by decide +kernel
theorem dX0_tokenAround_33 : decode cX0_tokenAround 33 = .ok (.iadd, 1) := by decide +kernel
theorem dX0_tokenAround_34 : decode cX0_tokenAround 34 = .ok (.if_icmp .ge 5, 3) := by decide +kernel
theorem dX0_tokenAround_37 : decode cX0_tokenAround 37 = .ok (.iload_n 2, 1) := by decide +kernel
theorem dX0_tokenAround_38 : decode cX0_tokenAround 38 = .ok (.ireturn, 1) := by decide +kernel
theorem dX0_tokenAround_39 : decode cX0_tokenAround 39 = .ok (.iinc 2 1, 3) := by decide +kernel
theorem dX0_tokenAround_42 : decode cX0_tokenAround 42 = .ok (.goto (-40), 3) := by decide +kernel
theorem dX0_tokenAround_45 : decode cX0_tokenAround 45 = .ok (.iconst (-1), 1) := by decide +kernel
theorem dX0_tokenAround_46 : decode cX0_tokenAround 46 = .ok (.ireturn, 1) := by decide +kernel
theorem dX0_firstThatLookedAt_0 : decode cX0_firstThatLookedAt 0 = .ok (.iconst 0, 1) := by decide +kernel
theorem dX0_firstThatLookedAt_1 : decode cX0_firstThatLookedAt 1 = .ok (.istore_n 2, 1) := by decide +kernel
theorem dX0_firstThatLookedAt_2 : decode cX0_firstThatLookedAt 2 = .ok (.iload_n 2, 1) := by decide +kernel
theorem dX0_firstThatLookedAt_3 : decode cX0_firstThatLookedAt 3 = .ok (.aload_n 0, 1) := by decide +kernel
theorem dX0_firstThatLookedAt_4 : decode cX0_firstThatLookedAt 4 = .ok (.getfield 24, 3) := by decide +kernel
theorem dX0_firstThatLookedAt_7 : decode cX0_firstThatLookedAt 7 = .ok (.if_icmp .ge 28, 3) := by decide +kernel
theorem dX0_firstThatLookedAt_10 : decode cX0_firstThatLookedAt 10 = .ok (.aload_n 0, 1) := by decide +kernel
theorem dX0_firstThatLookedAt_11 : decode cX0_firstThatLookedAt 11 = .ok (.getfield 9, 3) := by decide +kernel
theorem dX0_firstThatLookedAt_14 : decode cX0_firstThatLookedAt 14 = .ok (.iload_n 2, 1) := by decide +kernel
theorem dX0_firstThatLookedAt_15 : decode cX0_firstThatLookedAt 15 = .ok (.iaload, 1) := by decide +kernel
theorem dX0_firstThatLookedAt_16 : decode cX0_firstThatLookedAt 16 = .ok (.aload_n 0, 1) := by decide +kernel
theorem dX0_firstThatLookedAt_17 : decode cX0_firstThatLookedAt 17 = .ok (.getfield 21, 3) := by decide +kernel
theorem dX0_firstThatLookedAt_20 : decode cX0_firstThatLookedAt 20 = .ok (.iload_n 2, 1) := by decide +kernel
theorem dX0_firstThatLookedAt_21 : decode cX0_firstThatLookedAt 21 = .ok (.iaload, 1) := by decide +kernel
theorem dX0_firstThatLookedAt_22 : decode cX0_firstThatLookedAt 22 = .ok (.iadd, 1) := by decide +kernel
theorem dX0_firstThatLookedAt_23 : decode cX0_firstThatLookedAt 23 = .ok (.iload_n 1, 1) := by decide +kernel
theorem dX0_firstThatLookedAt_24 : decode cX0_firstThatLookedAt 24 = .ok (.if_icmp .le 5, 3) := by decide +kernel
theorem dX0_firstThatLookedAt_27 : decode cX0_firstThatLookedAt 27 = .ok (.iload_n 2, 1) := by decide +kernel
theorem dX0_firstThatLookedAt_28 : decode cX0_firstThatLookedAt 28 = .ok (.ireturn, 1) := by decide +kernel
theorem dX0_firstThatLookedAt_29 : decode cX0_firstThatLookedAt 29 = .ok (.iinc 2 1, 3) := by decide +kernel
theorem dX0_firstThatLookedAt_32 : decode cX0_firstThatLookedAt 32 = .ok (.goto (-30), 3) := by decide +kernel
theorem dX0_firstThatLookedAt_35 : decode cX0_firstThatLookedAt 35 = .ok (.aload_n 0, 1) := by decide +kernel
theorem dX0_firstThatLookedAt_36 : decode cX0_firstThatLookedAt 36 = .ok (.getfield 24, 3) := by decide +kernel
theorem dX0_firstThatLookedAt_39 : decode cX0_firstThatLookedAt 39 = .ok (.ireturn, 1) := by decide +kernel
theorem dX0_firstFrom_0 : decode cX0_firstFrom 0 = .ok (.iload_n 1, 1) := by decide +kernel
theorem dX0_firstFrom_1 : decode cX0_firstFrom 1 = .ok (.iconst 0, 1) := by decide +kernel
theorem dX0_firstFrom_2 : decode cX0_firstFrom 2 = .ok (.invokestatic 36, 3) := by decide +kernel
theorem dX0_firstFrom_5 : decode cX0_firstFrom 5 = .ok (.istore_n 3, 1) := by decide +kernel
theorem dX0_firstFrom_6 : decode cX0_firstFrom 6 = .ok (.iload_n 3, 1) := by decide +kernel
theorem dX0_firstFrom_7 : decode cX0_firstFrom 7 = .ok (.aload_n 0, 1) := by decide +kernel
theorem dX0_firstFrom_8 : decode cX0_firstFrom 8 = .ok (.getfield 24, 3) := by decide +kernel
theorem dX0_firstFrom_11 : decode cX0_firstFrom 11 = .ok (.if_icmp .ge 21, 3) := by decide +kernel
theorem dX0_firstFrom_14 : decode cX0_firstFrom 14 = .ok (.aload_n 0, 1) := by decide +kernel
theorem dX0_firstFrom_15 : decode cX0_firstFrom 15 = .ok (.getfield 9, 3) := by decide +kernel
theorem dX0_firstFrom_18 : decode cX0_firstFrom 18 = .ok (.iload_n 3, 1) := by decide +kernel
theorem dX0_firstFrom_19 : decode cX0_firstFrom 19 = .ok (.iaload, 1) := by decide +kernel
theorem dX0_firstFrom_20 : decode cX0_firstFrom 20 = .ok (.iload_n 2, 1) := by decide +kernel
theorem dX0_firstFrom_21 : decode cX0_firstFrom 21 = .ok (.if_icmp .lt 5, 3) := by decide +kernel
theorem dX0_firstFrom_24 : decode cX0_firstFrom 24 = .ok (.iload_n 3, 1) := by decide +kernel
theorem dX0_firstFrom_25 : decode cX0_firstFrom 25 = .ok (.ireturn, 1) := by decide +kernel
theorem dX0_firstFrom_26 : decode cX0_firstFrom 26 = .ok (.iinc 3 1, 3) := by decide +kernel
theorem dX0_firstFrom_29 : decode cX0_firstFrom 29 = .ok (.goto (-23), 3) := by decide +kernel
theorem dX0_firstFrom_32 : decode cX0_firstFrom 32 = .ok (.aload_n 0, 1) := by decide +kernel
theorem dX0_firstFrom_33 : decode cX0_firstFrom 33 = .ok (.getfield 24, 3) := by decide +kernel
theorem dX0_firstFrom_36 : decode cX0_firstFrom 36 = .ok (.ireturn, 1) := by decide +kernel
theorem dX0_add_0 : decode cX0_add 0 = .ok (.aload_n 0, 1) := by decide +kernel
theorem dX0_add_1 : decode cX0_add 1 = .ok (.getfield 24, 3) := by decide +kernel
theorem dX0_add_4 : decode cX0_add 4 = .ok (.sipush 400, 3) := by decide +kernel
theorem dX0_add_7 : decode cX0_add 7 = .ok (.if_icmp .lt 4, 3) := by decide +kernel
theorem dX0_add_10 : decode cX0_add 10 = .ok (.return_, 1) := by decide +kernel
theorem dX0_add_11 : decode cX0_add 11 = .ok (.aload_n 0, 1) := by decide +kernel
theorem dX0_add_12 : decode cX0_add 12 = .ok (.getfield 9, 3) := by decide +kernel
theorem dX0_add_15 : decode cX0_add 15 = .ok (.aload_n 0, 1) := by decide +kernel
theorem dX0_add_16 : decode cX0_add 16 = .ok (.getfield 24, 3) := by decide +kernel
theorem dX0_add_19 : decode cX0_add 19 = .ok (.iload_n 1, 1) := by decide +kernel
theorem dX0_add_20 : decode cX0_add 20 = .ok (.iastore, 1) := by decide +kernel
theorem dX0_add_21 : decode cX0_add 21 = .ok (.aload_n 0, 1) := by decide +kernel
theorem dX0_add_22 : decode cX0_add 22 = .ok (.getfield 15, 3) := by decide +kernel
theorem dX0_add_25 : decode cX0_add 25 = .ok (.aload_n 0, 1) := by decide +kernel
theorem dX0_add_26 : decode cX0_add 26 = .ok (.getfield 24, 3) := by decide +kernel
theorem dX0_add_29 : decode cX0_add 29 = .ok (.iload_n 2, 1) := by decide +kernel
theorem dX0_add_30 : decode cX0_add 30 = .ok (.iastore, 1) := by decide +kernel
theorem dX0_add_31 : decode cX0_add 31 = .ok (.aload_n 0, 1) := by decide +kernel
theorem dX0_add_32 : decode cX0_add 32 = .ok (.getfield 18, 3) := by decide +kernel
theorem dX0_add_35 : decode cX0_add 35 = .ok (.aload_n 0, 1) := by decide +kernel
theorem dX0_add_36 : decode cX0_add 36 = .ok (.getfield 24, 3) := by decide +kernel
theorem dX0_add_39 : decode cX0_add 39 = .ok (.iload_n 3, 1) := by decide +kernel
theorem dX0_add_40 : decode cX0_add 40 = .ok (.iastore, 1) := by decide +kernel
theorem dX0_add_41 : decode cX0_add 41 = .ok (.aload_n 0, 1) := by decide +kernel
theorem dX0_add_42 : decode cX0_add 42 = .ok (.getfield 21, 3) := by decide +kernel
theorem dX0_add_45 : decode cX0_add 45 = .ok (.aload_n 0, 1) := by decide +kernel
theorem dX0_add_46 : decode cX0_add 46 = .ok (.getfield 24, 3) := by decide +kernel
theorem dX0_add_49 : decode cX0_add 49 = .ok (.iload 4, 2) := by decide +kernel
theorem dX0_add_51 : decode cX0_add 51 = .ok (.iastore, 1) := by decide +kernel
theorem dX0_add_52 : decode cX0_add 52 = .ok (.aload_n 0, 1) := by decide +kernel
theorem dX0_add_53 : decode cX0_add 53 = .ok (.dup, 1) := by decide +kernel
theorem dX0_add_54 : decode cX0_add 54 = .ok (.getfield 24, 3) := by decide +kernel
theorem dX0_add_57 : decode cX0_add 57 = .ok (.iconst 1, 1) := by decide +kernel
theorem dX0_add_58 : decode cX0_add 58 = .ok (.iadd, 1) := by decide +kernel
theorem dX0_add_59 : decode cX0_add 59 = .ok (.putfield 24, 3) := by decide +kernel
theorem dX0_add_62 : decode cX0_add 62 = .ok (.return_, 1) := by decide +kernel
theorem dX0_takeUpTo_0 : decode cX0_takeUpTo 0 = .ok (.aload_n 0, 1) := by decide +kernel
theorem dX0_takeUpTo_1 : decode cX0_takeUpTo 1 = .ok (.iconst 0, 1) := by decide +kernel
theorem dX0_takeUpTo_2 : decode cX0_takeUpTo 2 = .ok (.putfield 24, 3) := by decide +kernel
theorem dX0_takeUpTo_5 : decode cX0_takeUpTo 5 = .ok (.iconst 0, 1) := by decide +kernel
theorem dX0_takeUpTo_6 : decode cX0_takeUpTo 6 = .ok (.istore_n 3, 1) := by decide +kernel
theorem dX0_takeUpTo_7 : decode cX0_takeUpTo 7 = .ok (.iload_n 3, 1) := by decide +kernel
theorem dX0_takeUpTo_8 : decode cX0_takeUpTo 8 = .ok (.iload_n 2, 1) := by decide +kernel
theorem dX0_takeUpTo_9 : decode cX0_takeUpTo 9 = .ok (.if_icmp .ge 45, 3) := by decide +kernel
theorem dX0_takeUpTo_12 : decode cX0_takeUpTo 12 = .ok (.iload_n 3, 1) := by decide +kernel
theorem dX0_takeUpTo_13 : decode cX0_takeUpTo 13 = .ok (.aload_n 1, 1) := by decide +kernel
theorem dX0_takeUpTo_14 : decode cX0_takeUpTo 14 = .ok (.getfield 24, 3) := by decide +kernel
theorem dX0_takeUpTo_17 : decode cX0_takeUpTo 17 = .ok (.if_icmp .ge 37, 3) := by decide +kernel
theorem dX0_takeUpTo_20 : decode cX0_takeUpTo 20 = .ok (.aload_n 0, 1) := by decide +kernel
theorem dX0_takeUpTo_21 : decode cX0_takeUpTo 21 = .ok (.aload_n 1, 1) := by decide +kernel
theorem dX0_takeUpTo_22 : decode cX0_takeUpTo 22 = .ok (.getfield 9, 3) := by decide +kernel
theorem dX0_takeUpTo_25 : decode cX0_takeUpTo 25 = .ok (.iload_n 3, 1) := by decide +kernel
theorem dX0_takeUpTo_26 : decode cX0_takeUpTo 26 = .ok (.iaload, 1) := by decide +kernel
theorem dX0_takeUpTo_27 : decode cX0_takeUpTo 27 = .ok (.aload_n 1, 1) := by decide +kernel
theorem dX0_takeUpTo_28 : decode cX0_takeUpTo 28 = .ok (.getfield 15, 3) := by decide +kernel
theorem dX0_takeUpTo_31 : decode cX0_takeUpTo 31 = .ok (.iload_n 3, 1) := by decide +kernel
theorem dX0_takeUpTo_32 : decode cX0_takeUpTo 32 = .ok (.iaload, 1) := by decide +kernel
theorem dX0_takeUpTo_33 : decode cX0_takeUpTo 33 = .ok (.aload_n 1, 1) := by decide +kernel
theorem dX0_takeUpTo_34 : decode cX0_takeUpTo 34 = .ok (.getfield 18, 3) := by decide +kernel
theorem dX0_takeUpTo_37 : decode cX0_takeUpTo 37 = .ok (.iload_n 3, 1) := by decide +kernel
theorem dX0_takeUpTo_38 : decode cX0_takeUpTo 38 = .ok (.iaload, 1) := by decide +kernel
theorem dX0_takeUpTo_39 : decode cX0_takeUpTo 39 = .ok (.aload_n 1, 1) := by decide +kernel
theorem dX0_takeUpTo_40 : decode cX0_takeUpTo 40 = .ok (.getfield 21, 3) := by decide +kernel
theorem dX0_takeUpTo_43 : decode cX0_takeUpTo 43 = .ok (.iload_n 3, 1) := by decide +kernel
theorem dX0_takeUpTo_44 : decode cX0_takeUpTo 44 = .ok (.iaload, 1) := by decide +kernel
theorem dX0_takeUpTo_45 : decode cX0_takeUpTo 45 = .ok (.invokevirtual 42, 3) := by decide +kernel
theorem dX0_takeUpTo_48 : decode cX0_takeUpTo 48 = .ok (.iinc 3 1, 3) := by decide +kernel
theorem dX0_takeUpTo_51 : decode cX0_takeUpTo 51 = .ok (.goto (-44), 3) := by decide +kernel
theorem dX0_takeUpTo_54 : decode cX0_takeUpTo 54 = .ok (.return_, 1) := by decide +kernel
theorem dX0_takeMoved_0 : decode cX0_takeMoved 0 = .ok (.iload_n 2, 1) := by decide +kernel
theorem dX0_takeMoved_1 : decode cX0_takeMoved 1 = .ok (.iconst 0, 1) := by decide +kernel
theorem dX0_takeMoved_2 : decode cX0_takeMoved 2 = .ok (.invokestatic 36, 3) := by decide +kernel
theorem dX0_takeMoved_5 : decode cX0_takeMoved 5 = .ok (.istore 4, 2) := by decide +kernel
theorem dX0_takeMoved_7 : decode cX0_takeMoved 7 = .ok (.iload 4, 2) := by decide +kernel
theorem dX0_takeMoved_9 : decode cX0_takeMoved 9 = .ok (.aload_n 1, 1) := by decide +kernel
theorem dX0_takeMoved_10 : decode cX0_takeMoved 10 = .ok (.getfield 24, 3) := by decide +kernel
theorem dX0_takeMoved_13 : decode cX0_takeMoved 13 = .ok (.if_icmp .ge 43, 3) := by decide +kernel
theorem dX0_takeMoved_16 : decode cX0_takeMoved 16 = .ok (.aload_n 0, 1) := by decide +kernel
theorem dX0_takeMoved_17 : decode cX0_takeMoved 17 = .ok (.aload_n 1, 1) := by decide +kernel
theorem dX0_takeMoved_18 : decode cX0_takeMoved 18 = .ok (.getfield 9, 3) := by decide +kernel
theorem dX0_takeMoved_21 : decode cX0_takeMoved 21 = .ok (.iload 4, 2) := by decide +kernel
theorem dX0_takeMoved_23 : decode cX0_takeMoved 23 = .ok (.iaload, 1) := by decide +kernel
theorem dX0_takeMoved_24 : decode cX0_takeMoved 24 = .ok (.iload_n 3, 1) := by decide +kernel
theorem dX0_takeMoved_25 : decode cX0_takeMoved 25 = .ok (.iadd, 1) := by decide +kernel
theorem dX0_takeMoved_26 : decode cX0_takeMoved 26 = .ok (.aload_n 1, 1) := by decide +kernel
theorem dX0_takeMoved_27 : decode cX0_takeMoved 27 = .ok (.getfield 15, 3) := by decide +kernel
theorem dX0_takeMoved_30 : decode cX0_takeMoved 30 = .ok (.iload 4, 2) := by decide +kernel
theorem dX0_takeMoved_32 : decode cX0_takeMoved 32 = .ok (.iaload, 1) := by decide +kernel
theorem dX0_takeMoved_33 : decode cX0_takeMoved 33 = .ok (.aload_n 1, 1) := by decide +kernel
theorem dX0_takeMoved_34 : decode cX0_takeMoved 34 = .ok (.getfield 18, 3) := by decide +kernel
theorem dX0_takeMoved_37 : decode cX0_takeMoved 37 = .ok (.iload 4, 2) := by decide +kernel
theorem dX0_takeMoved_39 : decode cX0_takeMoved 39 = .ok (.iaload, 1) := by decide +kernel
theorem dX0_takeMoved_40 : decode cX0_takeMoved 40 = .ok (.aload_n 1, 1) := by decide +kernel
theorem dX0_takeMoved_41 : decode cX0_takeMoved 41 = .ok (.getfield 21, 3) := by decide +kernel
theorem dX0_takeMoved_44 : decode cX0_takeMoved 44 = .ok (.iload 4, 2) := by decide +kernel
theorem dX0_takeMoved_46 : decode cX0_takeMoved 46 = .ok (.iaload, 1) := by decide +kernel
theorem dX0_takeMoved_47 : decode cX0_takeMoved 47 = .ok (.invokevirtual 42, 3) := by decide +kernel
theorem dX0_takeMoved_50 : decode cX0_takeMoved 50 = .ok (.iinc 4 1, 3) := by decide +kernel
theorem dX0_takeMoved_53 : decode cX0_takeMoved 53 = .ok (.goto (-46), 3) := by decide +kernel
theorem dX0_takeMoved_56 : decode cX0_takeMoved 56 = .ok (.return_, 1) := by decide +kernel
theorem dX0_has_0 : decode cX0_has 0 = .ok (.iload_n 1, 1) := by decide +kernel
theorem dX0_has_1 : decode cX0_has 1 = .ok (.ifCond .lt 15, 3) := by decide +kernel
theorem dX0_has_4 : decode cX0_has 4 = .ok (.iload_n 1, 1) := by decide +kernel
theorem dX0_has_5 : decode cX0_has 5 = .ok (.aload_n 0, 1) := by decide +kernel
theorem dX0_has_6 : decode cX0_has 6 = .ok (.getfield 24, 3) := by decide +kernel
theorem dX0_has_9 : decode cX0_has 9 = .ok (.if_icmp .ge 7, 3) := by decide +kernel
theorem dX0_has_12 : decode cX0_has 12 = .ok (.iconst 1, 1) := by decide +kernel
theorem dX0_has_13 : decode cX0_has 13 = .ok (.goto 4, 3) := by decide +kernel
theorem dX0_has_16 : decode cX0_has 16 = .ok (.iconst 0, 1) := by decide +kernel
theorem dX0_has_17 : decode cX0_has 17 = .ok (.ireturn, 1) := by decide +kernel
theorem dX1_init_0 : decode cX1_init 0 = .ok (.aload_n 0, 1) := by decide +kernel
theorem dX1_init_1 : decode cX1_init 1 = .ok (.invokespecial 3, 3) := by decide +kernel
theorem dX1_init_4 : decode cX1_init 4 = .ok (.aload_n 0, 1) := by decide +kernel
theorem dX1_init_5 : decode cX1_init 5 = .ok (.sipush 200, 3) := by decide +kernel
theorem dX1_init_8 : decode cX1_init 8 = .ok (.newarray .int, 2) := by decide +kernel
theorem dX1_init_10 : decode cX1_init 10 = .ok (.putfield 9, 3) := by decide +kernel
theorem dX1_init_13 : decode cX1_init 13 = .ok (.aload_n 0, 1) := by decide +kernel
theorem dX1_init_14 : decode cX1_init 14 = .ok (.bipush 20, 2) := by decide +kernel
theorem dX1_init_16 : decode cX1_init 16 = .ok (.newarray .int, 2) := by decide +kernel
theorem dX1_init_18 : decode cX1_init 18 = .ok (.putfield 15, 3) := by decide +kernel
theorem dX1_init_21 : decode cX1_init 21 = .ok (.aload_n 0, 1) := by decide +kernel
theorem dX1_init_22 : decode cX1_init 22 = .ok (.invokevirtual 18, 3) := by decide +kernel
theorem dX1_init_25 : decode cX1_init 25 = .ok (.return_, 1) := by decide +kernel
theorem dX1_forget_0 : decode cX1_forget 0 = .ok (.aload_n 0, 1) := by decide +kernel
theorem dX1_forget_1 : decode cX1_forget 1 = .ok (.getfield 9, 3) := by decide +kernel
theorem dX1_forget_4 : decode cX1_forget 4 = .ok (.iconst (-1), 1) := by decide +kernel
theorem dX1_forget_5 : decode cX1_forget 5 = .ok (.invokestatic 21, 3) := by decide +kernel
theorem dX1_forget_8 : decode cX1_forget 8 = .ok (.aload_n 0, 1) := by decide +kernel
theorem dX1_forget_9 : decode cX1_forget 9 = .ok (.getfield 15, 3) := by decide +kernel
theorem dX1_forget_12 : decode cX1_forget 12 = .ok (.iconst (-1), 1) := by decide +kernel
theorem dX1_forget_13 : decode cX1_forget 13 = .ok (.invokestatic 21, 3) := by decide +kernel
theorem dX1_forget_16 : decode cX1_forget 16 = .ok (.return_, 1) := by decide +kernel
theorem dX1_setArrow_0 : decode cX1_setArrow 0 = .ok (.iload_n 1, 1) := by decide +kernel
theorem dX1_setArrow_1 : decode cX1_setArrow 1 = .ok (.invokestatic 27, 3) := by decide +kernel
theorem dX1_setArrow_4 : decode cX1_setArrow 4 = .ok (.ifCond .eq 22, 3) := by decide +kernel
theorem dX1_setArrow_7 : decode cX1_setArrow 7 = .ok (.iload_n 2, 1) := by decide +kernel
theorem dX1_setArrow_8 : decode cX1_setArrow 8 = .ok (.invokestatic 31, 3) := by decide +kernel
theorem dX1_setArrow_11 : decode cX1_setArrow 11 = .ok (.ifCond .eq 15, 3) := by decide +kernel
theorem dX1_setArrow_14 : decode cX1_setArrow 14 = .ok (.iload_n 3, 1) := by decide +kernel
theorem dX1_setArrow_15 : decode cX1_setArrow 15 = .ok (.iconst (-1), 1) := by decide +kernel
theorem dX1_setArrow_16 : decode cX1_setArrow 16 = .ok (.if_icmp .eq 12, 3) := by decide +kernel
theorem dX1_setArrow_19 : decode cX1_setArrow 19 = .ok (.iload_n 3, 1) := by decide +kernel
theorem dX1_setArrow_20 : decode cX1_setArrow 20 = .ok (.invokestatic 27, 3) := by decide +kernel
theorem dX1_setArrow_23 : decode cX1_setArrow 23 = .ok (.ifCond .ne 5, 3) := by decide +kernel
theorem dX1_setArrow_26 : decode cX1_setArrow 26 = .ok (.iconst 0, 1) := by decide +kernel
theorem dX1_setArrow_27 : decode cX1_setArrow 27 = .ok (.ireturn, 1) := by decide +kernel
theorem dX1_setArrow_28 : decode cX1_setArrow 28 = .ok (.aload_n 0, 1) := by decide +kernel
theorem dX1_setArrow_29 : decode cX1_setArrow 29 = .ok (.getfield 9, 3) := by decide +kernel
theorem dX1_setArrow_32 : decode cX1_setArrow 32 = .ok (.iload_n 1, 1) := by decide +kernel
theorem dX1_setArrow_33 : decode cX1_setArrow 33 = .ok (.bipush 10, 2) := by decide +kernel
theorem dX1_setArrow_35 : decode cX1_setArrow 35 = .ok (.imul, 1) := by decide +kernel
theorem dX1_setArrow_36 : decode cX1_setArrow 36 = .ok (.iload_n 2, 1) := by decide +kernel
theorem dX1_setArrow_37 : decode cX1_setArrow 37 = .ok (.iadd, 1) := by decide +kernel
theorem dX1_setArrow_38 : decode cX1_setArrow 38 = .ok (.iload_n 3, 1) := by decide +kernel
theorem dX1_setArrow_39 : decode cX1_setArrow 39 = .ok (.iastore, 1) := by decide +kernel
theorem dX1_setArrow_40 : decode cX1_setArrow 40 = .ok (.iconst 1, 1) := by decide +kernel
theorem dX1_setArrow_41 : decode cX1_setArrow 41 = .ok (.ireturn, 1) := by decide +kernel
theorem dX1_setKind_0 : decode cX1_setKind 0 = .ok (.iload_n 1, 1) := by decide +kernel
theorem dX1_setKind_1 : decode cX1_setKind 1 = .ok (.invokestatic 27, 3) := by decide +kernel
theorem dX1_setKind_4 : decode cX1_setKind 4 = .ok (.ifCond .eq 14, 3) := by decide +kernel
theorem dX1_setKind_7 : decode cX1_setKind 7 = .ok (.iload_n 2, 1) := by decide +kernel
theorem dX1_setKind_8 : decode cX1_setKind 8 = .ok (.iconst (-1), 1) := by decide +kernel
theorem dX1_setKind_9 : decode cX1_setKind 9 = .ok (.if_icmp .lt 9, 3) := by decide +kernel
theorem dX1_setKind_12 : decode cX1_setKind 12 = .ok (.iload_n 2, 1) := by decide +kernel
theorem dX1_setKind_13 : decode cX1_setKind 13 = .ok (.bipush 100, 2) := by decide +kernel
theorem dX1_setKind_15 : decode cX1_setKind 15 = .ok (.if_icmp .lt 5, 3) := by decide +kernel
theorem dX1_setKind_18 : decode cX1_setKind 18 = .ok (.iconst 0, 1) := by decide +kernel
theorem dX1_setKind_19 : decode cX1_setKind 19 = .ok (.ireturn, 1) := by decide +kernel
theorem dX1_setKind_20 : decode cX1_setKind 20 = .ok (.aload_n 0, 1) := by decide +kernel
theorem dX1_setKind_21 : decode cX1_setKind 21 = .ok (.getfield 15, 3) := by decide +kernel
theorem dX1_setKind_24 : decode cX1_setKind 24 = .ok (.iload_n 1, 1) := by decide +kernel
theorem dX1_setKind_25 : decode cX1_setKind 25 = .ok (.iload_n 2, 1) := by decide +kernel
theorem dX1_setKind_26 : decode cX1_setKind 26 = .ok (.iastore, 1) := by decide +kernel
theorem dX1_setKind_27 : decode cX1_setKind 27 = .ok (.iconst 1, 1) := by decide +kernel
theorem dX1_setKind_28 : decode cX1_setKind 28 = .ok (.ireturn, 1) := by decide +kernel
theorem dX1_next_0 : decode cX1_next 0 = .ok (.iload_n 1, 1) := by decide +kernel
theorem dX1_next_1 : decode cX1_next 1 = .ok (.invokestatic 27, 3) := by decide +kernel
theorem dX1_next_4 : decode cX1_next 4 = .ok (.ifCond .eq 24, 3) := by decide +kernel
theorem dX1_next_7 : decode cX1_next 7 = .ok (.iload_n 2, 1) := by decide +kernel
theorem dX1_next_8 : decode cX1_next 8 = .ok (.invokestatic 31, 3) := by decide +kernel
theorem dX1_next_11 : decode cX1_next 11 = .ok (.ifCond .eq 17, 3) := by decide +kernel
theorem dX1_next_14 : decode cX1_next 14 = .ok (.aload_n 0, 1) := by decide +kernel
theorem dX1_next_15 : decode cX1_next 15 = .ok (.getfield 9, 3) := by decide +kernel
theorem dX1_next_18 : decode cX1_next 18 = .ok (.iload_n 1, 1) := by decide +kernel
theorem dX1_next_19 : decode cX1_next 19 = .ok (.bipush 10, 2) := by decide +kernel
theorem dX1_next_21 : decode cX1_next 21 = .ok (.imul, 1) := by decide +kernel
theorem dX1_next_22 : decode cX1_next 22 = .ok (.iload_n 2, 1) := by decide +kernel
theorem dX1_next_23 : decode cX1_next 23 = .ok (.iadd, 1) := by decide +kernel
theorem dX1_next_24 : decode cX1_next 24 = .ok (.iaload, 1) := by decide +kernel
theorem dX1_next_25 : decode cX1_next 25 = .ok (.goto 4, 3) := by decide +kernel
theorem dX1_next_28 : decode cX1_next 28 = .ok (.iconst (-1), 1) := by decide +kernel
theorem dX1_next_29 : decode cX1_next 29 = .ok (.ireturn, 1) := by decide +kernel
theorem dX1_kindOf_0 : decode cX1_kindOf 0 = .ok (.iload_n 1, 1) := by decide +kernel
theorem dX1_kindOf_1 : decode cX1_kindOf 1 = .ok (.invokestatic 27, 3) := by decide +kernel
theorem dX1_kindOf_4 : decode cX1_kindOf 4 = .ok (.ifCond .eq 12, 3) := by decide +kernel
theorem dX1_kindOf_7 : decode cX1_kindOf 7 = .ok (.aload_n 0, 1) := by decide +kernel
theorem dX1_kindOf_8 : decode cX1_kindOf 8 = .ok (.getfield 15, 3) := by decide +kernel
theorem dX1_kindOf_11 : decode cX1_kindOf 11 = .ok (.iload_n 1, 1) := by decide +kernel
theorem dX1_kindOf_12 : decode cX1_kindOf 12 = .ok (.iaload, 1) := by decide +kernel
theorem dX1_kindOf_13 : decode cX1_kindOf 13 = .ok (.goto 4, 3) := by decide +kernel
theorem dX1_kindOf_16 : decode cX1_kindOf 16 = .ok (.iconst (-1), 1) := by decide +kernel
theorem dX1_kindOf_17 : decode cX1_kindOf 17 = .ok (.ireturn, 1) := by decide +kernel
theorem dX1_isState_0 : decode cX1_isState 0 = .ok (.iload_n 0, 1) := by decide +kernel
theorem dX1_isState_1 : decode cX1_isState 1 = .ok (.ifCond .lt 13, 3) := by decide +kernel
theorem dX1_isState_4 : decode cX1_isState 4 = .ok (.iload_n 0, 1) := by decide +kernel
theorem dX1_isState_5 : decode cX1_isState 5 = .ok (.bipush 20, 2) := by decide +kernel
theorem dX1_isState_7 : decode cX1_isState 7 = .ok (.if_icmp .ge 7, 3) := by decide +kernel
theorem dX1_isState_10 : decode cX1_isState 10 = .ok (.iconst 1, 1) := by decide +kernel
theorem dX1_isState_11 : decode cX1_isState 11 = .ok (.goto 4, 3) := by decide +kernel
theorem dX1_isState_14 : decode cX1_isState 14 = .ok (.iconst 0, 1) := by decide +kernel
theorem dX1_isState_15 : decode cX1_isState 15 = .ok (.ireturn, 1) := by decide +kernel
theorem dX1_isSymbol_0 : decode cX1_isSymbol 0 = .ok (.iload_n 0, 1) := by decide +kernel
theorem dX1_isSymbol_1 : decode cX1_isSymbol 1 = .ok (.ifCond .lt 13, 3) := by decide +kernel
theorem dX1_isSymbol_4 : decode cX1_isSymbol 4 = .ok (.iload_n 0, 1) := by decide +kernel
theorem dX1_isSymbol_5 : decode cX1_isSymbol 5 = .ok (.bipush 10, 2) := by decide +kernel
theorem dX1_isSymbol_7 : decode cX1_isSymbol 7 = .ok (.if_icmp .ge 7, 3) := by decide +kernel
theorem dX1_isSymbol_10 : decode cX1_isSymbol 10 = .ok (.iconst 1, 1) := by decide +kernel
theorem dX1_isSymbol_11 : decode cX1_isSymbol 11 = .ok (.goto 4, 3) := by decide +kernel
theorem dX1_isSymbol_14 : decode cX1_isSymbol 14 = .ok (.iconst 0, 1) := by decide +kernel
theorem dX1_isSymbol_15 : decode cX1_isSymbol 15 = .ok (.ireturn, 1) := by decide +kernel
theorem dX2_init_0 : decode cX2_init 0 = .ok (.aload_n 0, 1) := by decide +kernel
theorem dX2_init_1 : decode cX2_init 1 = .ok (.invokespecial 3, 3) := by decide +kernel
theorem dX2_init_4 : decode cX2_init 4 = .ok (.aload_n 0, 1) := by decide +kernel
theorem dX2_init_5 : decode cX2_init 5 = .ok (.sipush 400, 3) := by decide +kernel
theorem dX2_init_8 : decode cX2_init 8 = .ok (.newarray .int, 2) := by decide +kernel
theorem dX2_init_10 : decode cX2_init 10 = .ok (.putfield 9, 3) := by decide +kernel
theorem dX2_init_13 : decode cX2_init 13 = .ok (.return_, 1) := by decide +kernel
theorem dX2_forget_0 : decode cX2_forget 0 = .ok (.aload_n 0, 1) := by decide +kernel
theorem dX2_forget_1 : decode cX2_forget 1 = .ok (.iconst 0, 1) := by decide +kernel
theorem dX2_forget_2 : decode cX2_forget 2 = .ok (.putfield 15, 3) := by decide +kernel
theorem dX2_forget_5 : decode cX2_forget 5 = .ok (.return_, 1) := by decide +kernel
theorem dX2_size_0 : decode cX2_size 0 = .ok (.aload_n 0, 1) := by decide +kernel
theorem dX2_size_1 : decode cX2_size 1 = .ok (.getfield 15, 3) := by decide +kernel
theorem dX2_size_4 : decode cX2_size 4 = .ok (.ireturn, 1) := by decide +kernel
theorem dX2_isEmpty_0 : decode cX2_isEmpty 0 = .ok (.aload_n 0, 1) := by decide +kernel
theorem dX2_isEmpty_1 : decode cX2_isEmpty 1 = .ok (.getfield 15, 3) := by decide +kernel
theorem dX2_isEmpty_4 : decode cX2_isEmpty 4 = .ok (.ifCond .ne 7, 3) := by decide +kernel
theorem dX2_isEmpty_7 : decode cX2_isEmpty 7 = .ok (.iconst 1, 1) := by decide +kernel
theorem dX2_isEmpty_8 : decode cX2_isEmpty 8 = .ok (.goto 4, 3) := by decide +kernel
theorem dX2_isEmpty_11 : decode cX2_isEmpty 11 = .ok (.iconst 0, 1) := by decide +kernel
theorem dX2_isEmpty_12 : decode cX2_isEmpty 12 = .ok (.ireturn, 1) := by decide +kernel
theorem dX2_at_0 : decode cX2_at 0 = .ok (.iload_n 1, 1) := by decide +kernel
theorem dX2_at_1 : decode cX2_at 1 = .ok (.ifCond .lt 20, 3) := by decide +kernel
theorem dX2_at_4 : decode cX2_at 4 = .ok (.iload_n 1, 1) := by decide +kernel
theorem dX2_at_5 : decode cX2_at 5 = .ok (.aload_n 0, 1) := by decide +kernel
theorem dX2_at_6 : decode cX2_at 6 = .ok (.getfield 15, 3) := by decide +kernel
theorem dX2_at_9 : decode cX2_at 9 = .ok (.if_icmp .ge 12, 3) := by decide +kernel
theorem dX2_at_12 : decode cX2_at 12 = .ok (.aload_n 0, 1) := by decide +kernel
theorem dX2_at_13 : decode cX2_at 13 = .ok (.getfield 9, 3) := by decide +kernel
theorem dX2_at_16 : decode cX2_at 16 = .ok (.iload_n 1, 1) := by decide +kernel
theorem dX2_at_17 : decode cX2_at 17 = .ok (.iaload, 1) := by decide +kernel
theorem dX2_at_18 : decode cX2_at 18 = .ok (.goto 4, 3) := by decide +kernel
theorem dX2_at_21 : decode cX2_at 21 = .ok (.iconst (-1), 1) := by decide +kernel
theorem dX2_at_22 : decode cX2_at 22 = .ok (.ireturn, 1) := by decide +kernel
theorem dX2_canReplace_0 : decode cX2_canReplace 0 = .ok (.iload_n 3, 1) := by decide +kernel
theorem dX2_canReplace_1 : decode cX2_canReplace 1 = .ok (.ifCond .lt 53, 3) := by decide +kernel
theorem dX2_canReplace_4 : decode cX2_canReplace 4 = .ok (.iload_n 3, 1) := by decide +kernel
theorem dX2_canReplace_5 : decode cX2_canReplace 5 = .ok (.bipush 16, 2) := by decide +kernel
theorem dX2_canReplace_7 : decode cX2_canReplace 7 = .ok (.if_icmp .gt 47, 3) := by decide +kernel
theorem dX2_canReplace_10 : decode cX2_canReplace 10 = .ok (.iload_n 1, 1) := by decide +kernel
theorem dX2_canReplace_11 : decode cX2_canReplace 11 = .ok (.ifCond .lt 43, 3) := by decide +kernel
theorem dX2_canReplace_14 : decode cX2_canReplace 14 = .ok (.iload_n 1, 1) := by decide +kernel
theorem dX2_canReplace_15 : decode cX2_canReplace 15 = .ok (.aload_n 0, 1) := by decide +kernel
theorem dX2_canReplace_16 : decode cX2_canReplace 16 = .ok (.getfield 15, 3) := by decide +kernel
theorem dX2_canReplace_19 : decode cX2_canReplace 19 = .ok (.if_icmp .gt 35, 3) := by decide +kernel
theorem dX2_canReplace_22 : decode cX2_canReplace 22 = .ok (.iload_n 2, 1) := by decide +kernel
theorem dX2_canReplace_23 : decode cX2_canReplace 23 = .ok (.ifCond .lt 31, 3) := by decide +kernel
theorem dX2_canReplace_26 : decode cX2_canReplace 26 = .ok (.iload_n 2, 1) := by decide +kernel
theorem dX2_canReplace_27 : decode cX2_canReplace 27 = .ok (.aload_n 0, 1) := by decide +kernel
theorem dX2_canReplace_28 : decode cX2_canReplace 28 = .ok (.getfield 15, 3) := by decide +kernel
theorem dX2_canReplace_31 : decode cX2_canReplace 31 = .ok (.iload_n 1, 1) := by decide +kernel
theorem dX2_canReplace_32 : decode cX2_canReplace 32 = .ok (.isub, 1) := by decide +kernel
theorem dX2_canReplace_33 : decode cX2_canReplace 33 = .ok (.if_icmp .gt 21, 3) := by decide +kernel
theorem dX2_canReplace_36 : decode cX2_canReplace 36 = .ok (.aload_n 0, 1) := by decide +kernel
theorem dX2_canReplace_37 : decode cX2_canReplace 37 = .ok (.getfield 15, 3) := by decide +kernel
theorem dX2_canReplace_40 : decode cX2_canReplace 40 = .ok (.iload_n 2, 1) := by decide +kernel
theorem dX2_canReplace_41 : decode cX2_canReplace 41 = .ok (.isub, 1) := by decide +kernel
theorem dX2_canReplace_42 : decode cX2_canReplace 42 = .ok (.iload_n 3, 1) := by decide +kernel
theorem dX2_canReplace_43 : decode cX2_canReplace 43 = .ok (.iadd, 1) := by decide +kernel
theorem dX2_canReplace_44 : decode cX2_canReplace 44 = .ok (.sipush 400, 3) := by decide +kernel
theorem dX2_canReplace_47 : decode cX2_canReplace 47 = .ok (.if_icmp .gt 7, 3) := by decide +kernel
theorem dX2_canReplace_50 : decode cX2_canReplace 50 = .ok (.iconst 1, 1) := by decide +kernel
theorem dX2_canReplace_51 : decode cX2_canReplace 51 = .ok (.goto 4, 3) := by decide +kernel
theorem dX2_canReplace_54 : decode cX2_canReplace 54 = .ok (.iconst 0, 1) := by decide +kernel
theorem dX2_canReplace_55 : decode cX2_canReplace 55 = .ok (.ireturn, 1) := by decide +kernel
theorem dX2_replace_0 : decode cX2_replace 0 = .ok (.aload_n 0, 1) := by decide +kernel
theorem dX2_replace_1 : decode cX2_replace 1 = .ok (.iload_n 1, 1) := by decide +kernel
theorem dX2_replace_2 : decode cX2_replace 2 = .ok (.iload_n 2, 1) := by decide +kernel
theorem dX2_replace_3 : decode cX2_replace 3 = .ok (.iload 5, 2) := by decide +kernel
theorem dX2_replace_5 : decode cX2_replace 5 = .ok (.invokevirtual 19, 3) := by decide +kernel
theorem dX2_replace_8 : decode cX2_replace 8 = .ok (.ifCond .ne 4, 3) := by decide +kernel
theorem dX2_replace_11 : decode cX2_replace 11 = .ok (.return_, 1) := by decide +kernel
theorem dX2_replace_12 : decode cX2_replace 12 = .ok (.aload_n 0, 1) := by decide +kernel
theorem dX2_replace_13 : decode cX2_replace 13 = .ok (.getfield 9, 3) := by decide +kernel
theorem dX2_replace_16 : decode cX2_replace 16 = .ok (.iload_n 1, 1) := by decide +kernel
theorem dX2_replace_17 : decode cX2_replace 17 = .ok (.iload_n 2, 1) := by decide +kernel
theorem dX2_replace_18 : decode cX2_replace 18 = .ok (.iadd, 1) := by decide +kernel
theorem dX2_replace_19 : decode cX2_replace 19 = .ok (.aload_n 0, 1) := by decide +kernel
theorem dX2_replace_20 : decode cX2_replace 20 = .ok (.getfield 9, 3) := by decide +kernel
theorem dX2_replace_23 : decode cX2_replace 23 = .ok (.iload_n 1, 1) := by decide +kernel
theorem dX2_replace_24 : decode cX2_replace 24 = .ok (.iload 5, 2) := by decide +kernel
theorem dX2_replace_26 : decode cX2_replace 26 = .ok (.iadd, 1) := by decide +kernel
theorem dX2_replace_27 : decode cX2_replace 27 = .ok (.aload_n 0, 1) := by decide +kernel
theorem dX2_replace_28 : decode cX2_replace 28 = .ok (.getfield 15, 3) := by decide +kernel
theorem dX2_replace_31 : decode cX2_replace 31 = .ok (.iload_n 1, 1) := by decide +kernel
theorem dX2_replace_32 : decode cX2_replace 32 = .ok (.isub, 1) := by decide +kernel
theorem dX2_replace_33 : decode cX2_replace 33 = .ok (.iload_n 2, 1) := by decide +kernel
theorem dX2_replace_34 : decode cX2_replace 34 = .ok (.isub, 1) := by decide +kernel
theorem dX2_replace_35 : decode cX2_replace 35 = .ok (.invokestatic 23, 3) := by decide +kernel
theorem dX2_replace_38 : decode cX2_replace 38 = .ok (.iconst 0, 1) := by decide +kernel
theorem dX2_replace_39 : decode cX2_replace 39 = .ok (.istore 6, 2) := by decide +kernel
theorem dX2_replace_41 : decode cX2_replace 41 = .ok (.iload 6, 2) := by decide +kernel
theorem dX2_replace_43 : decode cX2_replace 43 = .ok (.iload 5, 2) := by decide +kernel
theorem dX2_replace_45 : decode cX2_replace 45 = .ok (.if_icmp .ge 26, 3) := by decide +kernel
theorem dX2_replace_48 : decode cX2_replace 48 = .ok (.aload_n 0, 1) := by decide +kernel
theorem dX2_replace_49 : decode cX2_replace 49 = .ok (.getfield 9, 3) := by decide +kernel
theorem dX2_replace_52 : decode cX2_replace 52 = .ok (.iload_n 1, 1) := by decide +kernel
theorem dX2_replace_53 : decode cX2_replace 53 = .ok (.iload 6, 2) := by decide +kernel
theorem dX2_replace_55 : decode cX2_replace 55 = .ok (.iadd, 1) := by decide +kernel
theorem dX2_replace_56 : decode cX2_replace 56 = .ok (.lload_n 3, 1) := by decide +kernel
theorem dX2_replace_57 : decode cX2_replace 57 = .ok (.iload 5, 2) := by decide +kernel
theorem dX2_replace_59 : decode cX2_replace 59 = .ok (.iload 6, 2) := by decide +kernel
theorem dX2_replace_61 : decode cX2_replace 61 = .ok (.invokestatic 29, 3) := by decide +kernel
theorem dX2_replace_64 : decode cX2_replace 64 = .ok (.iastore, 1) := by decide +kernel
theorem dX2_replace_65 : decode cX2_replace 65 = .ok (.iinc 6 1, 3) := by decide +kernel
theorem dX2_replace_68 : decode cX2_replace 68 = .ok (.goto (-27), 3) := by decide +kernel
theorem dX2_replace_71 : decode cX2_replace 71 = .ok (.aload_n 0, 1) := by decide +kernel
theorem dX2_replace_72 : decode cX2_replace 72 = .ok (.dup, 1) := by decide +kernel
theorem dX2_replace_73 : decode cX2_replace 73 = .ok (.getfield 15, 3) := by decide +kernel
theorem dX2_replace_76 : decode cX2_replace 76 = .ok (.iload 5, 2) := by decide +kernel
theorem dX2_replace_78 : decode cX2_replace 78 = .ok (.iload_n 2, 1) := by decide +kernel
theorem dX2_replace_79 : decode cX2_replace 79 = .ok (.isub, 1) := by decide +kernel
theorem dX2_replace_80 : decode cX2_replace 80 = .ok (.iadd, 1) := by decide +kernel
theorem dX2_replace_81 : decode cX2_replace 81 = .ok (.putfield 15, 3) := by decide +kernel
theorem dX2_replace_84 : decode cX2_replace 84 = .ok (.return_, 1) := by decide +kernel
theorem dJ7_fill_53178_0 : decode cJ7_fill_53178 0 = .ok (.iconst 0, 1) := by decide +kernel
theorem dJ7_fill_53178_1 : decode cJ7_fill_53178 1 = .ok (.istore_n 2, 1) := by decide +kernel
theorem dJ7_fill_53178_2 : decode cJ7_fill_53178 2 = .ok (.aload_n 0, 1) := by decide +kernel
theorem dJ7_fill_53178_3 : decode cJ7_fill_53178 3 = .ok (.arraylength, 1) := by decide +kernel
theorem dJ7_fill_53178_4 : decode cJ7_fill_53178 4 = .ok (.istore_n 3, 1) := by decide +kernel
theorem dJ7_fill_53178_5 : decode cJ7_fill_53178 5 = .ok (.iload_n 2, 1) := by decide +kernel
theorem dJ7_fill_53178_6 : decode cJ7_fill_53178 6 = .ok (.iload_n 3, 1) := by decide +kernel
theorem dJ7_fill_53178_7 : decode cJ7_fill_53178 7 = .ok (.if_icmp .ge 13, 3) := by decide +kernel
theorem dJ7_fill_53178_10 : decode cJ7_fill_53178 10 = .ok (.aload_n 0, 1) := by decide +kernel
theorem dJ7_fill_53178_11 : decode cJ7_fill_53178 11 = .ok (.iload_n 2, 1) := by decide +kernel
theorem dJ7_fill_53178_12 : decode cJ7_fill_53178 12 = .ok (.iload_n 1, 1) := by decide +kernel
theorem dJ7_fill_53178_13 : decode cJ7_fill_53178 13 = .ok (.iastore, 1) := by decide +kernel
theorem dJ7_fill_53178_14 : decode cJ7_fill_53178 14 = .ok (.iinc 2 1, 3) := by decide +kernel
theorem dJ7_fill_53178_17 : decode cJ7_fill_53178 17 = .ok (.goto (-12), 3) := by decide +kernel
theorem dJ7_fill_53178_20 : decode cJ7_fill_53178 20 = .ok (.return_, 1) := by decide +kernel
