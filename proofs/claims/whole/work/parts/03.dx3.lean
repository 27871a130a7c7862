theorem dX3_init_0 : decode cX3_init 0 = .ok (.aload_n 0, 1) := by decide +kernel
theorem dX3_init_1 : decode cX3_init 1 = .ok (.invokespecial 1, 3) := by decide +kernel
theorem dX3_init_4 : decode cX3_init 4 = .ok (.aload_n 0, 1) := by decide +kernel
theorem dX3_init_5 : decode cX3_init 5 = .ok (.new 7, 3) := by decide +kernel
theorem dX3_init_8 : decode cX3_init 8 = .ok (.dup, 1) := by decide +kernel
theorem dX3_init_9 : decode cX3_init 9 = .ok (.invokespecial 9, 3) := by decide +kernel
theorem dX3_init_12 : decode cX3_init 12 = .ok (.putfield 10, 3) := by decide +kernel
theorem dX3_init_15 : decode cX3_init 15 = .ok (.aload_n 0, 1) := by decide +kernel
theorem dX3_init_16 : decode cX3_init 16 = .ok (.new 16, 3) := by decide +kernel
theorem dX3_init_19 : decode cX3_init 19 = .ok (.dup, 1) := by decide +kernel
theorem dX3_init_20 : decode cX3_init 20 = .ok (.invokespecial 18, 3) := by decide +kernel
theorem dX3_init_23 : decode cX3_init 23 = .ok (.putfield 19, 3) := by decide +kernel
theorem dX3_init_26 : decode cX3_init 26 = .ok (.aload_n 0, 1) := by decide +kernel
theorem dX3_init_27 : decode cX3_init 27 = .ok (.new 23, 3) := by decide +kernel
theorem dX3_init_30 : decode cX3_init 30 = .ok (.dup, 1) := by decide +kernel
theorem dX3_init_31 : decode cX3_init 31 = .ok (.invokespecial 25, 3) := by decide +kernel
theorem dX3_init_34 : decode cX3_init 34 = .ok (.putfield 26, 3) := by decide +kernel
theorem dX3_init_37 : decode cX3_init 37 = .ok (.aload_n 0, 1) := by decide +kernel
theorem dX3_init_38 : decode cX3_init 38 = .ok (.new 23, 3) := by decide +kernel
theorem dX3_init_41 : decode cX3_init 41 = .ok (.dup, 1) := by decide +kernel
theorem dX3_init_42 : decode cX3_init 42 = .ok (.invokespecial 25, 3) := by decide +kernel
theorem dX3_init_45 : decode cX3_init 45 = .ok (.putfield 30, 3) := by decide +kernel
theorem dX3_init_48 : decode cX3_init 48 = .ok (.return_, 1) := by decide +kernel
theorem dX3_arrow_0 : decode cX3_arrow 0 = .ok (.aload_n 0, 1) := by decide +kernel
theorem dX3_arrow_1 : decode cX3_arrow 1 = .ok (.getfield 19, 3) := by decide +kernel
theorem dX3_arrow_4 : decode cX3_arrow 4 = .ok (.invokevirtual 33, 3) := by decide +kernel
theorem dX3_arrow_7 : decode cX3_arrow 7 = .ok (.ifCond .eq 20, 3) := by decide +kernel
theorem dX3_arrow_10 : decode cX3_arrow 10 = .ok (.aload_n 0, 1) := by decide +kernel
theorem dX3_arrow_11 : decode cX3_arrow 11 = .ok (.getfield 10, 3) := by decide +kernel
theorem dX3_arrow_14 : decode cX3_arrow 14 = .ok (.iload_n 1, 1) := by decide +kernel
theorem dX3_arrow_15 : decode cX3_arrow 15 = .ok (.iload_n 2, 1) := by decide +kernel
theorem dX3_arrow_16 : decode cX3_arrow 16 = .ok (.iload_n 3, 1) := by decide +kernel
theorem dX3_arrow_17 : decode cX3_arrow 17 = .ok (.invokevirtual 37, 3) := by decide +kernel
theorem dX3_arrow_20 : decode cX3_arrow 20 = .ok (.ifCond .eq 7, 3) := by decide +kernel
theorem dX3_arrow_23 : decode cX3_arrow 23 = .ok (.iconst 1, 1) := by decide +kernel
theorem dX3_arrow_24 : decode cX3_arrow 24 = .ok (.goto 4, 3) := by decide +kernel
theorem dX3_arrow_27 : decode cX3_arrow 27 = .ok (.iconst 0, 1) := by decide +kernel
theorem dX3_arrow_28 : decode cX3_arrow 28 = .ok (.ireturn, 1) := by decide +kernel
theorem dX3_kind_0 : decode cX3_kind 0 = .ok (.aload_n 0, 1) := by decide +kernel
theorem dX3_kind_1 : decode cX3_kind 1 = .ok (.getfield 19, 3) := by decide +kernel
theorem dX3_kind_4 : decode cX3_kind 4 = .ok (.invokevirtual 33, 3) := by decide +kernel
theorem dX3_kind_7 : decode cX3_kind 7 = .ok (.ifCond .eq 19, 3) := by decide +kernel
theorem dX3_kind_10 : decode cX3_kind 10 = .ok (.aload_n 0, 1) := by decide +kernel
theorem dX3_kind_11 : decode cX3_kind 11 = .ok (.getfield 10, 3) := by decide +kernel
theorem dX3_kind_14 : decode cX3_kind 14 = .ok (.iload_n 1, 1) := by decide +kernel
theorem dX3_kind_15 : decode cX3_kind 15 = .ok (.iload_n 2, 1) := by decide +kernel
theorem dX3_kind_16 : decode cX3_kind 16 = .ok (.invokevirtual 41, 3) := by decide +kernel
theorem dX3_kind_19 : decode cX3_kind 19 = .ok (.ifCond .eq 7, 3) := by decide +kernel
theorem dX3_kind_22 : decode cX3_kind 22 = .ok (.iconst 1, 1) := by decide +kernel
theorem dX3_kind_23 : decode cX3_kind 23 = .ok (.goto 4, 3) := by decide +kernel
theorem dX3_kind_26 : decode cX3_kind 26 = .ok (.iconst 0, 1) := by decide +kernel
theorem dX3_kind_27 : decode cX3_kind 27 = .ok (.ireturn, 1) := by decide +kernel
theorem dX3_edit_0 : decode cX3_edit 0 = .ok (.aload_n 0, 1) := by decide +kernel
theorem dX3_edit_1 : decode cX3_edit 1 = .ok (.getfield 19, 3) := by decide +kernel
theorem dX3_edit_4 : decode cX3_edit 4 = .ok (.iload_n 1, 1) := by decide +kernel
theorem dX3_edit_5 : decode cX3_edit 5 = .ok (.iload_n 2, 1) := by decide +kernel
theorem dX3_edit_6 : decode cX3_edit 6 = .ok (.iload 5, 2) := by decide +kernel
theorem dX3_edit_8 : decode cX3_edit 8 = .ok (.invokevirtual 45, 3) := by decide +kernel
theorem dX3_edit_11 : decode cX3_edit 11 = .ok (.ifCond .eq 12, 3) := by decide +kernel
theorem dX3_edit_14 : decode cX3_edit 14 = .ok (.lload_n 3, 1) := by decide +kernel
theorem dX3_edit_15 : decode cX3_edit 15 = .ok (.iload 5, 2) := by decide +kernel
theorem dX3_edit_17 : decode cX3_edit 17 = .ok (.invokestatic 48, 3) := by decide +kernel
theorem dX3_edit_20 : decode cX3_edit 20 = .ok (.ifCond .ne 5, 3) := by decide +kernel
theorem dX3_edit_23 : decode cX3_edit 23 = .ok (.iconst (-1), 1) := by decide +kernel
theorem dX3_edit_24 : decode cX3_edit 24 = .ok (.ireturn, 1) := by decide +kernel
theorem dX3_edit_25 : decode cX3_edit 25 = .ok (.aload_n 0, 1) := by decide +kernel
theorem dX3_edit_26 : decode cX3_edit 26 = .ok (.getfield 26, 3) := by decide +kernel
theorem dX3_edit_29 : decode cX3_edit 29 = .ok (.iload_n 1, 1) := by decide +kernel
theorem dX3_edit_30 : decode cX3_edit 30 = .ok (.invokevirtual 52, 3) := by decide +kernel
theorem dX3_edit_33 : decode cX3_edit 33 = .ok (.istore 6, 2) := by decide +kernel
theorem dX3_edit_35 : decode cX3_edit 35 = .ok (.aload_n 0, 1) := by decide +kernel
theorem dX3_edit_36 : decode cX3_edit 36 = .ok (.getfield 19, 3) := by decide +kernel
theorem dX3_edit_39 : decode cX3_edit 39 = .ok (.invokevirtual 33, 3) := by decide +kernel
theorem dX3_edit_42 : decode cX3_edit 42 = .ok (.ifCond .ne 15, 3) := by decide +kernel
theorem dX3_edit_45 : decode cX3_edit 45 = .ok (.iload 6, 2) := by decide +kernel
theorem dX3_edit_47 : decode cX3_edit 47 = .ok (.aload_n 0, 1) := by decide +kernel
theorem dX3_edit_48 : decode cX3_edit 48 = .ok (.getfield 26, 3) := by decide +kernel
theorem dX3_edit_51 : decode cX3_edit 51 = .ok (.invokevirtual 56, 3) := by decide +kernel
theorem dX3_edit_54 : decode cX3_edit 54 = .ok (.if_icmp .ge 7, 3) := by decide +kernel
theorem dX3_edit_57 : decode cX3_edit 57 = .ok (.iconst 1, 1) := by decide +kernel
theorem dX3_edit_58 : decode cX3_edit 58 = .ok (.goto 4, 3) := by decide +kernel
theorem dX3_edit_61 : decode cX3_edit 61 = .ok (.iconst 0, 1) := by decide +kernel
theorem dX3_edit_62 : decode cX3_edit 62 = .ok (.istore 7, 2) := by decide +kernel
theorem dX3_edit_64 : decode cX3_edit 64 = .ok (.aload_n 0, 1) := by decide +kernel
theorem dX3_edit_65 : decode cX3_edit 65 = .ok (.getfield 19, 3) := by decide +kernel
theorem dX3_edit_68 : decode cX3_edit 68 = .ok (.iload_n 1, 1) := by decide +kernel
theorem dX3_edit_69 : decode cX3_edit 69 = .ok (.iload_n 2, 1) := by decide +kernel
theorem dX3_edit_70 : decode cX3_edit 70 = .ok (.lload_n 3, 1) := by decide +kernel
theorem dX3_edit_71 : decode cX3_edit 71 = .ok (.iload 5, 2) := by decide +kernel
theorem dX3_edit_73 : decode cX3_edit 73 = .ok (.invokevirtual 60, 3) := by decide +kernel
theorem dX3_edit_76 : decode cX3_edit 76 = .ok (.aload_n 0, 1) := by decide +kernel
theorem dX3_edit_77 : decode cX3_edit 77 = .ok (.iconst 0, 1) := by decide +kernel
theorem dX3_edit_78 : decode cX3_edit 78 = .ok (.putfield 64, 3) := by decide +kernel
theorem dX3_edit_81 : decode cX3_edit 81 = .ok (.aload_n 0, 1) := by decide +kernel
theorem dX3_edit_82 : decode cX3_edit 82 = .ok (.iconst 0, 1) := by decide +kernel
theorem dX3_edit_83 : decode cX3_edit 83 = .ok (.putfield 68, 3) := by decide +kernel
theorem dX3_edit_86 : decode cX3_edit 86 = .ok (.aload_n 0, 1) := by decide +kernel
theorem dX3_edit_87 : decode cX3_edit 87 = .ok (.dup, 1) := by decide +kernel
theorem dX3_edit_88 : decode cX3_edit 88 = .ok (.getfield 71, 3) := by decide +kernel
theorem dX3_edit_91 : decode cX3_edit 91 = .ok (.iconst 1, 1) := by decide +kernel
theorem dX3_edit_92 : decode cX3_edit 92 = .ok (.iadd, 1) := by decide +kernel
theorem dX3_edit_93 : decode cX3_edit 93 = .ok (.putfield 71, 3) := by decide +kernel
theorem dX3_edit_96 : decode cX3_edit 96 = .ok (.iload 7, 2) := by decide +kernel
theorem dX3_edit_98 : decode cX3_edit 98 = .ok (.ifCond .eq 17, 3) := by decide +kernel
theorem dX3_edit_101 : decode cX3_edit 101 = .ok (.aload_n 0, 1) := by decide +kernel
theorem dX3_edit_102 : decode cX3_edit 102 = .ok (.iload 6, 2) := by decide +kernel
theorem dX3_edit_104 : decode cX3_edit 104 = .ok (.iload_n 1, 1) := by decide +kernel
theorem dX3_edit_105 : decode cX3_edit 105 = .ok (.iload 5, 2) := by decide +kernel
theorem dX3_edit_107 : decode cX3_edit 107 = .ok (.iadd, 1) := by decide +kernel
theorem dX3_edit_108 : decode cX3_edit 108 = .ok (.iload 5, 2) := by decide +kernel
theorem dX3_edit_110 : decode cX3_edit 110 = .ok (.iload_n 2, 1) := by decide +kernel
theorem dX3_edit_111 : decode cX3_edit 111 = .ok (.isub, 1) := by decide +kernel
theorem dX3_edit_112 : decode cX3_edit 112 = .ok (.invokevirtual 74, 3) := by decide +kernel
theorem dX3_edit_115 : decode cX3_edit 115 = .ok (.aload_n 0, 1) := by decide +kernel
theorem dX3_edit_116 : decode cX3_edit 116 = .ok (.getfield 64, 3) := by decide +kernel
theorem dX3_edit_119 : decode cX3_edit 119 = .ok (.ireturn, 1) := by decide +kernel
theorem dX3_token_0 : decode cX3_token 0 = .ok (.iload_n 1, 1) := by decide +kernel
theorem dX3_token_1 : decode cX3_token 1 = .ok (.ifCond .lt 14, 3) := by decide +kernel
theorem dX3_token_4 : decode cX3_token 4 = .ok (.iload_n 1, 1) := by decide +kernel
theorem dX3_token_5 : decode cX3_token 5 = .ok (.aload_n 0, 1) := by decide +kernel
theorem dX3_token_6 : decode cX3_token 6 = .ok (.getfield 26, 3) := by decide +kernel
theorem dX3_token_9 : decode cX3_token 9 = .ok (.invokevirtual 78, 3) := by decide +kernel
theorem dX3_token_12 : decode cX3_token 12 = .ok (.if_icmp .lt 5, 3) := by decide +kernel
theorem dX3_token_15 : decode cX3_token 15 = .ok (.iconst (-1), 1) := by decide +kernel
theorem dX3_token_16 : decode cX3_token 16 = .ok (.ireturn, 1) := by decide +kernel
theorem dX3_token_17 : decode cX3_token 17 = .ok (.iload_n 2, 1) := by decide +kernel
theorem dX3_token_18 : decode cX3_token 18 = .ok (.tableswitch 66 0 3 #[30, 39, 48, 57], 30) := by decide +kernel
theorem dX3_token_48 : decode cX3_token 48 = .ok (.aload_n 0, 1) := by decide +kernel
theorem dX3_token_49 : decode cX3_token 49 = .ok (.getfield 26, 3) := by decide +kernel
theorem dX3_token_52 : decode cX3_token 52 = .ok (.iload_n 1, 1) := by decide +kernel
theorem dX3_token_53 : decode cX3_token 53 = .ok (.invokevirtual 81, 3) := by decide +kernel
theorem dX3_token_56 : decode cX3_token 56 = .ok (.ireturn, 1) := by decide +kernel
theorem dX3_token_57 : decode cX3_token 57 = .ok (.aload_n 0, 1) := by decide +kernel
theorem dX3_token_58 : decode cX3_token 58 = .ok (.getfield 26, 3) := by decide +kernel
theorem dX3_token_61 : decode cX3_token 61 = .ok (.iload_n 1, 1) := by decide +kernel
theorem dX3_token_62 : decode cX3_token 62 = .ok (.invokevirtual 84, 3) := by decide +kernel
theorem dX3_token_65 : decode cX3_token 65 = .ok (.ireturn, 1) := by decide +kernel
theorem dX3_token_66 : decode cX3_token 66 = .ok (.aload_n 0, 1) := by decide +kernel
theorem dX3_token_67 : decode cX3_token 67 = .ok (.getfield 26, 3) := by decide +kernel
theorem dX3_token_70 : decode cX3_token 70 = .ok (.iload_n 1, 1) := by decide +kernel
theorem dX3_token_71 : decode cX3_token 71 = .ok (.invokevirtual 87, 3) := by decide +kernel
theorem dX3_token_74 : decode cX3_token 74 = .ok (.ireturn, 1) := by decide +kernel
theorem dX3_token_75 : decode cX3_token 75 = .ok (.aload_n 0, 1) := by decide +kernel
theorem dX3_token_76 : decode cX3_token 76 = .ok (.getfield 26, 3) := by decide +kernel
theorem dX3_token_79 : decode cX3_token 79 = .ok (.iload_n 1, 1) := by decide +kernel
theorem dX3_token_80 : decode cX3_token 80 = .ok (.invokevirtual 90, 3) := by decide +kernel
theorem dX3_token_83 : decode cX3_token 83 = .ok (.ireturn, 1) := by decide +kernel
theorem dX3_token_84 : decode cX3_token 84 = .ok (.iconst (-1), 1) := by decide +kernel
theorem dX3_token_85 : decode cX3_token 85 = .ok (.ireturn, 1) := by decide +kernel
theorem dX3_tokenAt_0 : decode cX3_tokenAt 0 = .ok (.aload_n 0, 1) := by decide +kernel
theorem dX3_tokenAt_1 : decode cX3_tokenAt 1 = .ok (.getfield 26, 3) := by decide +kernel
theorem dX3_tokenAt_4 : decode cX3_tokenAt 4 = .ok (.iload_n 1, 1) := by decide +kernel
theorem dX3_tokenAt_5 : decode cX3_tokenAt 5 = .ok (.invokevirtual 93, 3) := by decide +kernel
theorem dX3_tokenAt_8 : decode cX3_tokenAt 8 = .ok (.ireturn, 1) := by decide +kernel
theorem dX3_symbol_0 : decode cX3_symbol 0 = .ok (.aload_n 0, 1) := by decide +kernel
theorem dX3_symbol_1 : decode cX3_symbol 1 = .ok (.getfield 19, 3) := by decide +kernel
theorem dX3_symbol_4 : decode cX3_symbol 4 = .ok (.iload_n 1, 1) := by decide +kernel
theorem dX3_symbol_5 : decode cX3_symbol 5 = .ok (.invokevirtual 96, 3) := by decide +kernel
theorem dX3_symbol_8 : decode cX3_symbol 8 = .ok (.ireturn, 1) := by decide +kernel
theorem dX3_count_0 : decode cX3_count 0 = .ok (.iload_n 1, 1) := by decide +kernel
theorem dX3_count_1 : decode cX3_count 1 = .ok (.tableswitch 132 0 6 #[43, 51, 59, 88, 117, 122, 127], 43) := by decide +kernel
theorem dX3_count_44 : decode cX3_count 44 = .ok (.aload_n 0, 1) := by decide +kernel
theorem dX3_count_45 : decode cX3_count 45 = .ok (.getfield 26, 3) := by decide +kernel
theorem dX3_count_48 : decode cX3_count 48 = .ok (.invokevirtual 78, 3) := by decide +kernel
theorem dX3_count_51 : decode cX3_count 51 = .ok (.ireturn, 1) := by decide +kernel
theorem dX3_count_52 : decode cX3_count 52 = .ok (.aload_n 0, 1) := by decide +kernel
theorem dX3_count_53 : decode cX3_count 53 = .ok (.getfield 19, 3) := by decide +kernel
theorem dX3_count_56 : decode cX3_count 56 = .ok (.invokevirtual 99, 3) := by decide +kernel
theorem dX3_count_59 : decode cX3_count 59 = .ok (.ireturn, 1) := by decide +kernel
theorem dX3_count_60 : decode cX3_count 60 = .ok (.aload_n 0, 1) := by decide +kernel
theorem dX3_count_61 : decode cX3_count 61 = .ok (.getfield 26, 3) := by decide +kernel
theorem dX3_count_64 : decode cX3_count 64 = .ok (.invokevirtual 100, 3) := by decide +kernel
theorem dX3_count_67 : decode cX3_count 67 = .ok (.ifCond .eq 20, 3) := by decide +kernel
theorem dX3_count_70 : decode cX3_count 70 = .ok (.aload_n 0, 1) := by decide +kernel
theorem dX3_count_71 : decode cX3_count 71 = .ok (.getfield 26, 3) := by decide +kernel
theorem dX3_count_74 : decode cX3_count 74 = .ok (.aload_n 0, 1) := by decide +kernel
theorem dX3_count_75 : decode cX3_count 75 = .ok (.getfield 26, 3) := by decide +kernel
theorem dX3_count_78 : decode cX3_count 78 = .ok (.invokevirtual 78, 3) := by decide +kernel
theorem dX3_count_81 : decode cX3_count 81 = .ok (.invokevirtual 81, 3) := by decide +kernel
theorem dX3_count_84 : decode cX3_count 84 = .ok (.goto 4, 3) := by decide +kernel
theorem dX3_count_87 : decode cX3_count 87 = .ok (.iconst (-1), 1) := by decide +kernel
theorem dX3_count_88 : decode cX3_count 88 = .ok (.ireturn, 1) := by decide +kernel
theorem dX3_count_89 : decode cX3_count 89 = .ok (.aload_n 0, 1) := by decide +kernel
theorem dX3_count_90 : decode cX3_count 90 = .ok (.getfield 26, 3) := by decide +kernel
theorem dX3_count_93 : decode cX3_count 93 = .ok (.invokevirtual 100, 3) := by decide +kernel
theorem dX3_count_96 : decode cX3_count 96 = .ok (.ifCond .eq 20, 3) := by decide +kernel
theorem dX3_count_99 : decode cX3_count 99 = .ok (.aload_n 0, 1) := by decide +kernel
theorem dX3_count_100 : decode cX3_count 100 = .ok (.getfield 26, 3) := by decide +kernel
theorem dX3_count_103 : decode cX3_count 103 = .ok (.aload_n 0, 1) := by decide +kernel
theorem dX3_count_104 : decode cX3_count 104 = .ok (.getfield 26, 3) := by decide +kernel
theorem dX3_count_107 : decode cX3_count 107 = .ok (.invokevirtual 78, 3) := by decide +kernel
theorem dX3_count_110 : decode cX3_count 110 = .ok (.invokevirtual 90, 3) := by decide +kernel
theorem dX3_count_113 : decode cX3_count 113 = .ok (.goto 4, 3) := by decide +kernel
theorem dX3_count_116 : decode cX3_count 116 = .ok (.iconst 0, 1) := by decide +kernel
theorem dX3_count_117 : decode cX3_count 117 = .ok (.ireturn, 1) := by decide +kernel
theorem dX3_count_118 : decode cX3_count 118 = .ok (.aload_n 0, 1) := by decide +kernel
theorem dX3_count_119 : decode cX3_count 119 = .ok (.getfield 64, 3) := by decide +kernel
theorem dX3_count_122 : decode cX3_count 122 = .ok (.ireturn, 1) := by decide +kernel
theorem dX3_count_123 : decode cX3_count 123 = .ok (.aload_n 0, 1) := by decide +kernel
theorem dX3_count_124 : decode cX3_count 124 = .ok (.getfield 68, 3) := by decide +kernel
theorem dX3_count_127 : decode cX3_count 127 = .ok (.ireturn, 1) := by decide +kernel
theorem dX3_count_128 : decode cX3_count 128 = .ok (.aload_n 0, 1) := by decide +kernel
theorem dX3_count_129 : decode cX3_count 129 = .ok (.getfield 71, 3) := by decide +kernel
theorem dX3_count_132 : decode cX3_count 132 = .ok (.ireturn, 1) := by decide +kernel
theorem dX3_count_133 : decode cX3_count 133 = .ok (.iconst (-1), 1) := by decide +kernel
theorem dX3_count_134 : decode cX3_count 134 = .ok (.ireturn, 1) := by decide +kernel
theorem dX3_clear_0 : decode cX3_clear 0 = .ok (.aload_n 0, 1) := by decide +kernel
theorem dX3_clear_1 : decode cX3_clear 1 = .ok (.getfield 26, 3) := by decide +kernel
theorem dX3_clear_4 : decode cX3_clear 4 = .ok (.invokevirtual 78, 3) := by decide +kernel
theorem dX3_clear_7 : decode cX3_clear 7 = .ok (.istore_n 1, 1) := by decide +kernel
theorem dX3_clear_8 : decode cX3_clear 8 = .ok (.aload_n 0, 1) := by decide +kernel
theorem dX3_clear_9 : decode cX3_clear 9 = .ok (.getfield 10, 3) := by decide +kernel
theorem dX3_clear_12 : decode cX3_clear 12 = .ok (.invokevirtual 103, 3) := by decide +kernel
theorem dX3_clear_15 : decode cX3_clear 15 = .ok (.aload_n 0, 1) := by decide +kernel
theorem dX3_clear_16 : decode cX3_clear 16 = .ok (.getfield 19, 3) := by decide +kernel
theorem dX3_clear_19 : decode cX3_clear 19 = .ok (.invokevirtual 106, 3) := by decide +kernel
theorem dX3_clear_22 : decode cX3_clear 22 = .ok (.aload_n 0, 1) := by decide +kernel
theorem dX3_clear_23 : decode cX3_clear 23 = .ok (.getfield 26, 3) := by decide +kernel
theorem dX3_clear_26 : decode cX3_clear 26 = .ok (.invokevirtual 107, 3) := by decide +kernel
theorem dX3_clear_29 : decode cX3_clear 29 = .ok (.aload_n 0, 1) := by decide +kernel
theorem dX3_clear_30 : decode cX3_clear 30 = .ok (.iconst 0, 1) := by decide +kernel
theorem dX3_clear_31 : decode cX3_clear 31 = .ok (.putfield 64, 3) := by decide +kernel
theorem dX3_clear_34 : decode cX3_clear 34 = .ok (.aload_n 0, 1) := by decide +kernel
theorem dX3_clear_35 : decode cX3_clear 35 = .ok (.iconst 0, 1) := by decide +kernel
theorem dX3_clear_36 : decode cX3_clear 36 = .ok (.putfield 68, 3) := by decide +kernel
theorem dX3_clear_39 : decode cX3_clear 39 = .ok (.aload_n 0, 1) := by decide +kernel
theorem dX3_clear_40 : decode cX3_clear 40 = .ok (.iconst 0, 1) := by decide +kernel
theorem dX3_clear_41 : decode cX3_clear 41 = .ok (.putfield 71, 3) := by decide +kernel
theorem dX3_clear_44 : decode cX3_clear 44 = .ok (.iload_n 1, 1) := by decide +kernel
theorem dX3_clear_45 : decode cX3_clear 45 = .ok (.ireturn, 1) := by decide +kernel
theorem dX3_areSymbols_0 : decode cX3_areSymbols 0 = .ok (.iconst 0, 1) := by decide +kernel
theorem dX3_areSymbols_1 : decode cX3_areSymbols 1 = .ok (.istore_n 3, 1) := by decide +kernel
theorem dX3_areSymbols_2 : decode cX3_areSymbols 2 = .ok (.iload_n 3, 1) := by decide +kernel
theorem dX3_areSymbols_3 : decode cX3_areSymbols 3 = .ok (.iload_n 2, 1) := by decide +kernel
theorem dX3_areSymbols_4 : decode cX3_areSymbols 4 = .ok (.if_icmp .ge 22, 3) := by decide +kernel
theorem dX3_areSymbols_7 : decode cX3_areSymbols 7 = .ok (.lload_n 0, 1) := by decide +kernel
theorem dX3_areSymbols_8 : decode cX3_areSymbols 8 = .ok (.iload_n 2, 1) := by decide +kernel
theorem dX3_areSymbols_9 : decode cX3_areSymbols 9 = .ok (.iload_n 3, 1) := by decide +kernel
theorem dX3_areSymbols_10 : decode cX3_areSymbols 10 = .ok (.invokestatic 108, 3) := by decide +kernel
theorem dX3_areSymbols_13 : decode cX3_areSymbols 13 = .ok (.bipush 10, 2) := by decide +kernel
theorem dX3_areSymbols_15 : decode cX3_areSymbols 15 = .ok (.if_icmp .lt 5, 3) := by decide +kernel
theorem dX3_areSymbols_18 : decode cX3_areSymbols 18 = .ok (.iconst 0, 1) := by decide +kernel
theorem dX3_areSymbols_19 : decode cX3_areSymbols 19 = .ok (.ireturn, 1) := by decide +kernel
theorem dX3_areSymbols_20 : decode cX3_areSymbols 20 = .ok (.iinc 3 1, 3) := by decide +kernel
theorem dX3_areSymbols_23 : decode cX3_areSymbols 23 = .ok (.goto (-21), 3) := by decide +kernel
theorem dX3_areSymbols_26 : decode cX3_areSymbols 26 = .ok (.iconst 1, 1) := by decide +kernel
theorem dX3_areSymbols_27 : decode cX3_areSymbols 27 = .ok (.ireturn, 1) := by decide +kernel
theorem dX3_unpack_0 : decode cX3_unpack 0 = .ok (.lload_n 0, 1) := by decide +kernel
theorem dX3_unpack_1 : decode cX3_unpack 1 = .ok (.iconst 4, 1) := by decide +kernel
theorem dX3_unpack_2 : decode cX3_unpack 2 = .ok (.iload_n 2, 1) := by decide +kernel
theorem dX3_unpack_3 : decode cX3_unpack 3 = .ok (.iconst 1, 1) := by decide +kernel
theorem dX3_unpack_4 : decode cX3_unpack 4 = .ok (.isub, 1) := by decide +kernel
theorem dX3_unpack_5 : decode cX3_unpack 5 = .ok (.iload_n 3, 1) := by decide +kernel
theorem dX3_unpack_6 : decode cX3_unpack 6 = .ok (.isub, 1) := by decide +kernel
theorem dX3_unpack_7 : decode cX3_unpack 7 = .ok (.imul, 1) := by decide +kernel
theorem dX3_unpack_8 : decode cX3_unpack 8 = .ok (.lushr, 1) := by decide +kernel
theorem dX3_unpack_9 : decode cX3_unpack 9 = .ok (.l2i, 1) := by decide +kernel
theorem dX3_unpack_10 : decode cX3_unpack 10 = .ok (.bipush 15, 2) := by decide +kernel
theorem dX3_unpack_12 : decode cX3_unpack 12 = .ok (.iand, 1) := by decide +kernel
theorem dX3_unpack_13 : decode cX3_unpack 13 = .ok (.ireturn, 1) := by decide +kernel
theorem dX3_scanAnew_0 : decode cX3_scanAnew 0 = .ok (.aload_n 0, 1) := by decide +kernel
theorem dX3_scanAnew_1 : decode cX3_scanAnew 1 = .ok (.getfield 30, 3) := by decide +kernel
theorem dX3_scanAnew_4 : decode cX3_scanAnew 4 = .ok (.aload_n 0, 1) := by decide +kernel
theorem dX3_scanAnew_5 : decode cX3_scanAnew 5 = .ok (.getfield 26, 3) := by decide +kernel
theorem dX3_scanAnew_8 : decode cX3_scanAnew 8 = .ok (.iload_n 1, 1) := by decide +kernel
theorem dX3_scanAnew_9 : decode cX3_scanAnew 9 = .ok (.invokevirtual 112, 3) := by decide +kernel
theorem dX3_scanAnew_12 : decode cX3_scanAnew 12 = .ok (.iload_n 1, 1) := by decide +kernel
theorem dX3_scanAnew_13 : decode cX3_scanAnew 13 = .ok (.istore 4, 2) := by decide +kernel
theorem dX3_scanAnew_15 : decode cX3_scanAnew 15 = .ok (.aload_n 0, 1) := by decide +kernel
theorem dX3_scanAnew_16 : decode cX3_scanAnew 16 = .ok (.getfield 30, 3) := by decide +kernel
theorem dX3_scanAnew_19 : decode cX3_scanAnew 19 = .ok (.invokevirtual 116, 3) := by decide +kernel
theorem dX3_scanAnew_22 : decode cX3_scanAnew 22 = .ok (.istore 5, 2) := by decide +kernel
theorem dX3_scanAnew_24 : decode cX3_scanAnew 24 = .ok (.iconst 0, 1) := by decide +kernel
theorem dX3_scanAnew_25 : decode cX3_scanAnew 25 = .ok (.istore 6, 2) := by decide +kernel
theorem dX3_scanAnew_27 : decode cX3_scanAnew 27 = .ok (.iload 6, 2) := by decide +kernel
theorem dX3_scanAnew_29 : decode cX3_scanAnew 29 = .ok (.sipush 400, 3) := by decide +kernel
theorem dX3_scanAnew_32 : decode cX3_scanAnew 32 = .ok (.if_icmp .ge 103, 3) := by decide +kernel
theorem dX3_scanAnew_35 : decode cX3_scanAnew 35 = .ok (.iload 5, 2) := by decide +kernel
theorem dX3_scanAnew_37 : decode cX3_scanAnew 37 = .ok (.aload_n 0, 1) := by decide +kernel
theorem dX3_scanAnew_38 : decode cX3_scanAnew 38 = .ok (.getfield 19, 3) := by decide +kernel
theorem dX3_scanAnew_41 : decode cX3_scanAnew 41 = .ok (.invokevirtual 99, 3) := by decide +kernel
theorem dX3_scanAnew_44 : decode cX3_scanAnew 44 = .ok (.if_icmp .ge 91, 3) := by decide +kernel
theorem dX3_scanAnew_47 : decode cX3_scanAnew 47 = .ok (.iload 5, 2) := by decide +kernel
theorem dX3_scanAnew_49 : decode cX3_scanAnew 49 = .ok (.iload_n 2, 1) := by decide +kernel
theorem dX3_scanAnew_50 : decode cX3_scanAnew 50 = .ok (.if_icmp .lt 51, 3) := by decide +kernel
theorem dX3_scanAnew_53 : decode cX3_scanAnew 53 = .ok (.aload_n 0, 1) := by decide +kernel
theorem dX3_scanAnew_54 : decode cX3_scanAnew 54 = .ok (.getfield 26, 3) := by decide +kernel
theorem dX3_scanAnew_57 : decode cX3_scanAnew 57 = .ok (.iload 4, 2) := by decide +kernel
theorem dX3_scanAnew_59 : decode cX3_scanAnew 59 = .ok (.iload 5, 2) := by decide +kernel
theorem dX3_scanAnew_61 : decode cX3_scanAnew 61 = .ok (.iload_n 3, 1) := by decide +kernel
theorem dX3_scanAnew_62 : decode cX3_scanAnew 62 = .ok (.isub, 1) := by decide +kernel
theorem dX3_scanAnew_63 : decode cX3_scanAnew 63 = .ok (.invokevirtual 119, 3) := by decide +kernel
theorem dX3_scanAnew_66 : decode cX3_scanAnew 66 = .ok (.istore 4, 2) := by decide +kernel
theorem dX3_scanAnew_68 : decode cX3_scanAnew 68 = .ok (.aload_n 0, 1) := by decide +kernel
theorem dX3_scanAnew_69 : decode cX3_scanAnew 69 = .ok (.getfield 26, 3) := by decide +kernel
theorem dX3_scanAnew_72 : decode cX3_scanAnew 72 = .ok (.iload 4, 2) := by decide +kernel
theorem dX3_scanAnew_74 : decode cX3_scanAnew 74 = .ok (.invokevirtual 81, 3) := by decide +kernel
theorem dX3_scanAnew_77 : decode cX3_scanAnew 77 = .ok (.iload 5, 2) := by decide +kernel
theorem dX3_scanAnew_79 : decode cX3_scanAnew 79 = .ok (.iload_n 3, 1) := by decide +kernel
theorem dX3_scanAnew_80 : decode cX3_scanAnew 80 = .ok (.isub, 1) := by decide +kernel
theorem dX3_scanAnew_81 : decode cX3_scanAnew 81 = .ok (.if_icmp .ne 20, 3) := by decide +kernel
theorem dX3_scanAnew_84 : decode cX3_scanAnew 84 = .ok (.aload_n 0, 1) := by decide +kernel
theorem dX3_scanAnew_85 : decode cX3_scanAnew 85 = .ok (.getfield 30, 3) := by decide +kernel
theorem dX3_scanAnew_88 : decode cX3_scanAnew 88 = .ok (.aload_n 0, 1) := by decide +kernel
theorem dX3_scanAnew_89 : decode cX3_scanAnew 89 = .ok (.getfield 26, 3) := by decide +kernel
theorem dX3_scanAnew_92 : decode cX3_scanAnew 92 = .ok (.iload 4, 2) := by decide +kernel
theorem dX3_scanAnew_94 : decode cX3_scanAnew 94 = .ok (.iload_n 3, 1) := by decide +kernel
theorem dX3_scanAnew_95 : decode cX3_scanAnew 95 = .ok (.invokevirtual 123, 3) := by decide +kernel
theorem dX3_scanAnew_98 : decode cX3_scanAnew 98 = .ok (.goto 37, 3) := by decide +kernel
theorem dX3_scanAnew_101 : decode cX3_scanAnew 101 = .ok (.aload_n 0, 1) := by decide +kernel
theorem dX3_scanAnew_102 : decode cX3_scanAnew 102 = .ok (.iload 5, 2) := by decide +kernel
theorem dX3_scanAnew_104 : decode cX3_scanAnew 104 = .ok (.invokevirtual 127, 3) := by decide +kernel
theorem dX3_scanAnew_107 : decode cX3_scanAnew 107 = .ok (.aload_n 0, 1) := by decide +kernel
theorem dX3_scanAnew_108 : decode cX3_scanAnew 108 = .ok (.getfield 30, 3) := by decide +kernel
theorem dX3_scanAnew_111 : decode cX3_scanAnew 111 = .ok (.invokevirtual 100, 3) := by decide +kernel
theorem dX3_scanAnew_114 : decode cX3_scanAnew 114 = .ok (.ifCond .eq 6, 3) := by decide +kernel
theorem dX3_scanAnew_117 : decode cX3_scanAnew 117 = .ok (.goto 18, 3) := by decide +kernel
theorem dX3_scanAnew_120 : decode cX3_scanAnew 120 = .ok (.aload_n 0, 1) := by decide +kernel
theorem dX3_scanAnew_121 : decode cX3_scanAnew 121 = .ok (.getfield 30, 3) := by decide +kernel
theorem dX3_scanAnew_124 : decode cX3_scanAnew 124 = .ok (.invokevirtual 116, 3) := by decide +kernel
theorem dX3_scanAnew_127 : decode cX3_scanAnew 127 = .ok (.istore 5, 2) := by decide +kernel
theorem dX3_scanAnew_129 : decode cX3_scanAnew 129 = .ok (.iinc 6 1, 3) := by decide +kernel
theorem dX3_scanAnew_132 : decode cX3_scanAnew 132 = .ok (.goto (-105), 3) := by decide +kernel
theorem dX3_scanAnew_135 : decode cX3_scanAnew 135 = .ok (.aload_n 0, 1) := by decide +kernel
theorem dX3_scanAnew_136 : decode cX3_scanAnew 136 = .ok (.getfield 26, 3) := by decide +kernel
theorem dX3_scanAnew_139 : decode cX3_scanAnew 139 = .ok (.astore 6, 2) := by decide +kernel
theorem dX3_scanAnew_141 : decode cX3_scanAnew 141 = .ok (.aload_n 0, 1) := by decide +kernel
theorem dX3_scanAnew_142 : decode cX3_scanAnew 142 = .ok (.aload_n 0, 1) := by decide +kernel
theorem dX3_scanAnew_143 : decode cX3_scanAnew 143 = .ok (.getfield 30, 3) := by decide +kernel
theorem dX3_scanAnew_146 : decode cX3_scanAnew 146 = .ok (.putfield 26, 3) := by decide +kernel
theorem dX3_scanAnew_149 : decode cX3_scanAnew 149 = .ok (.aload_n 0, 1) := by decide +kernel
theorem dX3_scanAnew_150 : decode cX3_scanAnew 150 = .ok (.aload 6, 2) := by decide +kernel
theorem dX3_scanAnew_152 : decode cX3_scanAnew 152 = .ok (.putfield 30, 3) := by decide +kernel
theorem dX3_scanAnew_155 : decode cX3_scanAnew 155 = .ok (.return_, 1) := by decide +kernel
theorem dX3_scanOne_0 : decode cX3_scanOne 0 = .ok (.iconst 0, 1) := by decide +kernel
theorem dX3_scanOne_1 : decode cX3_scanOne 1 = .ok (.istore_n 2, 1) := by decide +kernel
theorem dX3_scanOne_2 : decode cX3_scanOne 2 = .ok (.iconst 0, 1) := by decide +kernel
theorem dX3_scanOne_3 : decode cX3_scanOne 3 = .ok (.istore_n 3, 1) := by decide +kernel
theorem dX3_scanOne_4 : decode cX3_scanOne 4 = .ok (.iconst 0, 1) := by decide +kernel
theorem dX3_scanOne_5 : decode cX3_scanOne 5 = .ok (.istore 4, 2) := by decide +kernel
theorem dX3_scanOne_7 : decode cX3_scanOne 7 = .ok (.iconst (-1), 1) := by decide +kernel
theorem dX3_scanOne_8 : decode cX3_scanOne 8 = .ok (.istore 5, 2) := by decide +kernel
theorem dX3_scanOne_10 : decode cX3_scanOne 10 = .ok (.iload_n 2, 1) := by decide +kernel
theorem dX3_scanOne_11 : decode cX3_scanOne 11 = .ok (.iconst (-1), 1) := by decide +kernel
theorem dX3_scanOne_12 : decode cX3_scanOne 12 = .ok (.if_icmp .eq 60, 3) := by decide +kernel
theorem dX3_scanOne_15 : decode cX3_scanOne 15 = .ok (.iload_n 3, 1) := by decide +kernel
theorem dX3_scanOne_16 : decode cX3_scanOne 16 = .ok (.sipush 400, 3) := by decide +kernel
theorem dX3_scanOne_19 : decode cX3_scanOne 19 = .ok (.if_icmp .gt 53, 3) := by decide +kernel
theorem dX3_scanOne_22 : decode cX3_scanOne 22 = .ok (.aload_n 0, 1) := by decide +kernel
theorem dX3_scanOne_23 : decode cX3_scanOne 23 = .ok (.getfield 10, 3) := by decide +kernel
theorem dX3_scanOne_26 : decode cX3_scanOne 26 = .ok (.iload_n 2, 1) := by decide +kernel
theorem dX3_scanOne_27 : decode cX3_scanOne 27 = .ok (.aload_n 0, 1) := by decide +kernel
theorem dX3_scanOne_28 : decode cX3_scanOne 28 = .ok (.getfield 19, 3) := by decide +kernel
theorem dX3_scanOne_31 : decode cX3_scanOne 31 = .ok (.iload_n 1, 1) := by decide +kernel
theorem dX3_scanOne_32 : decode cX3_scanOne 32 = .ok (.iload_n 3, 1) := by decide +kernel
theorem dX3_scanOne_33 : decode cX3_scanOne 33 = .ok (.iadd, 1) := by decide +kernel
theorem dX3_scanOne_34 : decode cX3_scanOne 34 = .ok (.invokevirtual 96, 3) := by decide +kernel
theorem dX3_scanOne_37 : decode cX3_scanOne 37 = .ok (.invokevirtual 131, 3) := by decide +kernel
theorem dX3_scanOne_40 : decode cX3_scanOne 40 = .ok (.istore_n 2, 1) := by decide +kernel
theorem dX3_scanOne_41 : decode cX3_scanOne 41 = .ok (.iinc 3 1, 3) := by decide +kernel
theorem dX3_scanOne_44 : decode cX3_scanOne 44 = .ok (.aload_n 0, 1) := by decide +kernel
theorem dX3_scanOne_45 : decode cX3_scanOne 45 = .ok (.getfield 10, 3) := by decide +kernel
theorem dX3_scanOne_48 : decode cX3_scanOne 48 = .ok (.iload_n 2, 1) := by decide +kernel
theorem dX3_scanOne_49 : decode cX3_scanOne 49 = .ok (.invokevirtual 134, 3) := by decide +kernel
theorem dX3_scanOne_52 : decode cX3_scanOne 52 = .ok (.iconst (-1), 1) := by decide +kernel
theorem dX3_scanOne_53 : decode cX3_scanOne 53 = .ok (.if_icmp .eq (-43), 3) := by decide +kernel
theorem dX3_scanOne_56 : decode cX3_scanOne 56 = .ok (.iload_n 3, 1) := by decide +kernel
theorem dX3_scanOne_57 : decode cX3_scanOne 57 = .ok (.istore 4, 2) := by decide +kernel
theorem dX3_scanOne_59 : decode cX3_scanOne 59 = .ok (.aload_n 0, 1) := by decide +kernel
theorem dX3_scanOne_60 : decode cX3_scanOne 60 = .ok (.getfield 10, 3) := by decide +kernel
theorem dX3_scanOne_63 : decode cX3_scanOne 63 = .ok (.iload_n 2, 1) := by decide +kernel
theorem dX3_scanOne_64 : decode cX3_scanOne 64 = .ok (.invokevirtual 134, 3) := by decide +kernel
theorem dX3_scanOne_67 : decode cX3_scanOne 67 = .ok (.istore 5, 2) := by decide +kernel
theorem dX3_scanOne_69 : decode cX3_scanOne 69 = .ok (.goto (-59), 3) := by decide +kernel
theorem dX3_scanOne_72 : decode cX3_scanOne 72 = .ok (.aload_n 0, 1) := by decide +kernel
theorem dX3_scanOne_73 : decode cX3_scanOne 73 = .ok (.getfield 30, 3) := by decide +kernel
theorem dX3_scanOne_76 : decode cX3_scanOne 76 = .ok (.iload_n 1, 1) := by decide +kernel
theorem dX3_scanOne_77 : decode cX3_scanOne 77 = .ok (.iload 4, 2) := by decide +kernel
theorem dX3_scanOne_79 : decode cX3_scanOne 79 = .ok (.iload 5, 2) := by decide +kernel
theorem dX3_scanOne_81 : decode cX3_scanOne 81 = .ok (.iload_n 3, 1) := by decide +kernel
theorem dX3_scanOne_82 : decode cX3_scanOne 82 = .ok (.invokevirtual 137, 3) := by decide +kernel
theorem dX3_scanOne_85 : decode cX3_scanOne 85 = .ok (.aload_n 0, 1) := by decide +kernel
theorem dX3_scanOne_86 : decode cX3_scanOne 86 = .ok (.dup, 1) := by decide +kernel
theorem dX3_scanOne_87 : decode cX3_scanOne 87 = .ok (.getfield 64, 3) := by decide +kernel
theorem dX3_scanOne_90 : decode cX3_scanOne 90 = .ok (.iload_n 3, 1) := by decide +kernel
theorem dX3_scanOne_91 : decode cX3_scanOne 91 = .ok (.iadd, 1) := by decide +kernel
theorem dX3_scanOne_92 : decode cX3_scanOne 92 = .ok (.putfield 64, 3) := by decide +kernel
theorem dX3_scanOne_95 : decode cX3_scanOne 95 = .ok (.iload 4, 2) := by decide +kernel
theorem dX3_scanOne_97 : decode cX3_scanOne 97 = .ok (.ifCond .le 13, 3) := by decide +kernel
theorem dX3_scanOne_100 : decode cX3_scanOne 100 = .ok (.aload_n 0, 1) := by decide +kernel
theorem dX3_scanOne_101 : decode cX3_scanOne 101 = .ok (.dup, 1) := by decide +kernel
theorem dX3_scanOne_102 : decode cX3_scanOne 102 = .ok (.getfield 68, 3) := by decide +kernel
theorem dX3_scanOne_105 : decode cX3_scanOne 105 = .ok (.iconst 1, 1) := by decide +kernel
theorem dX3_scanOne_106 : decode cX3_scanOne 106 = .ok (.iadd, 1) := by decide +kernel
theorem dX3_scanOne_107 : decode cX3_scanOne 107 = .ok (.putfield 68, 3) := by decide +kernel
theorem dX3_scanOne_110 : decode cX3_scanOne 110 = .ok (.return_, 1) := by decide +kernel
