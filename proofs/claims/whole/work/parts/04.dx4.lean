theorem dX4_init_0 : decode cX4_init 0 = .ok (.aload_n 0, 1) := by decide +kernel
theorem dX4_init_1 : decode cX4_init 1 = .ok (.invokespecial 1, 3) := by decide +kernel
theorem dX4_init_4 : decode cX4_init 4 = .ok (.aload_n 0, 1) := by decide +kernel
theorem dX4_init_5 : decode cX4_init 5 = .ok (.sipush 200, 3) := by decide +kernel
theorem dX4_init_8 : decode cX4_init 8 = .ok (.newarray .int, 2) := by decide +kernel
theorem dX4_init_10 : decode cX4_init 10 = .ok (.putfield 7, 3) := by decide +kernel
theorem dX4_init_13 : decode cX4_init 13 = .ok (.aload_n 0, 1) := by decide +kernel
theorem dX4_init_14 : decode cX4_init 14 = .ok (.bipush 20, 2) := by decide +kernel
theorem dX4_init_16 : decode cX4_init 16 = .ok (.newarray .int, 2) := by decide +kernel
theorem dX4_init_18 : decode cX4_init 18 = .ok (.putfield 13, 3) := by decide +kernel
theorem dX4_init_21 : decode cX4_init 21 = .ok (.aload_n 0, 1) := by decide +kernel
theorem dX4_init_22 : decode cX4_init 22 = .ok (.sipush 400, 3) := by decide +kernel
theorem dX4_init_25 : decode cX4_init 25 = .ok (.newarray .int, 2) := by decide +kernel
theorem dX4_init_27 : decode cX4_init 27 = .ok (.putfield 16, 3) := by decide +kernel
theorem dX4_init_30 : decode cX4_init 30 = .ok (.aload_n 0, 1) := by decide +kernel
theorem dX4_init_31 : decode cX4_init 31 = .ok (.sipush 400, 3) := by decide +kernel
theorem dX4_init_34 : decode cX4_init 34 = .ok (.newarray .int, 2) := by decide +kernel
theorem dX4_init_36 : decode cX4_init 36 = .ok (.putfield 19, 3) := by decide +kernel
theorem dX4_init_39 : decode cX4_init 39 = .ok (.aload_n 0, 1) := by decide +kernel
theorem dX4_init_40 : decode cX4_init 40 = .ok (.sipush 400, 3) := by decide +kernel
theorem dX4_init_43 : decode cX4_init 43 = .ok (.newarray .int, 2) := by decide +kernel
theorem dX4_init_45 : decode cX4_init 45 = .ok (.putfield 22, 3) := by decide +kernel
theorem dX4_init_48 : decode cX4_init 48 = .ok (.aload_n 0, 1) := by decide +kernel
theorem dX4_init_49 : decode cX4_init 49 = .ok (.sipush 400, 3) := by decide +kernel
theorem dX4_init_52 : decode cX4_init 52 = .ok (.newarray .int, 2) := by decide +kernel
theorem dX4_init_54 : decode cX4_init 54 = .ok (.putfield 25, 3) := by decide +kernel
theorem dX4_init_57 : decode cX4_init 57 = .ok (.aload_n 0, 1) := by decide +kernel
theorem dX4_init_58 : decode cX4_init 58 = .ok (.sipush 400, 3) := by decide +kernel
theorem dX4_init_61 : decode cX4_init 61 = .ok (.newarray .int, 2) := by decide +kernel
theorem dX4_init_63 : decode cX4_init 63 = .ok (.putfield 28, 3) := by decide +kernel
theorem dX4_init_66 : decode cX4_init 66 = .ok (.aload_n 0, 1) := by decide +kernel
theorem dX4_init_67 : decode cX4_init 67 = .ok (.iconst (-1), 1) := by decide +kernel
theorem dX4_init_68 : decode cX4_init 68 = .ok (.putfield 31, 3) := by decide +kernel
theorem dX4_init_71 : decode cX4_init 71 = .ok (.aload_n 0, 1) := by decide +kernel
theorem dX4_init_72 : decode cX4_init 72 = .ok (.sipush 400, 3) := by decide +kernel
theorem dX4_init_75 : decode cX4_init 75 = .ok (.newarray .int, 2) := by decide +kernel
theorem dX4_init_77 : decode cX4_init 77 = .ok (.putfield 35, 3) := by decide +kernel
theorem dX4_init_80 : decode cX4_init 80 = .ok (.aload_n 0, 1) := by decide +kernel
theorem dX4_init_81 : decode cX4_init 81 = .ok (.invokevirtual 38, 3) := by decide +kernel
theorem dX4_init_84 : decode cX4_init 84 = .ok (.return_, 1) := by decide +kernel
theorem dX4_forget_0 : decode cX4_forget 0 = .ok (.iconst 0, 1) := by decide +kernel
theorem dX4_forget_1 : decode cX4_forget 1 = .ok (.istore_n 1, 1) := by decide +kernel
theorem dX4_forget_2 : decode cX4_forget 2 = .ok (.iload_n 1, 1) := by decide +kernel
theorem dX4_forget_3 : decode cX4_forget 3 = .ok (.sipush 200, 3) := by decide +kernel
theorem dX4_forget_6 : decode cX4_forget 6 = .ok (.if_icmp .ge 16, 3) := by decide +kernel
theorem dX4_forget_9 : decode cX4_forget 9 = .ok (.aload_n 0, 1) := by decide +kernel
theorem dX4_forget_10 : decode cX4_forget 10 = .ok (.getfield 7, 3) := by decide +kernel
theorem dX4_forget_13 : decode cX4_forget 13 = .ok (.iload_n 1, 1) := by decide +kernel
theorem dX4_forget_14 : decode cX4_forget 14 = .ok (.iconst (-1), 1) := by decide +kernel
theorem dX4_forget_15 : decode cX4_forget 15 = .ok (.iastore, 1) := by decide +kernel
theorem dX4_forget_16 : decode cX4_forget 16 = .ok (.iinc 1 1, 3) := by decide +kernel
theorem dX4_forget_19 : decode cX4_forget 19 = .ok (.goto (-17), 3) := by decide +kernel
theorem dX4_forget_22 : decode cX4_forget 22 = .ok (.iconst 0, 1) := by decide +kernel
theorem dX4_forget_23 : decode cX4_forget 23 = .ok (.istore_n 1, 1) := by decide +kernel
theorem dX4_forget_24 : decode cX4_forget 24 = .ok (.iload_n 1, 1) := by decide +kernel
theorem dX4_forget_25 : decode cX4_forget 25 = .ok (.bipush 20, 2) := by decide +kernel
theorem dX4_forget_27 : decode cX4_forget 27 = .ok (.if_icmp .ge 16, 3) := by decide +kernel
theorem dX4_forget_30 : decode cX4_forget 30 = .ok (.aload_n 0, 1) := by decide +kernel
theorem dX4_forget_31 : decode cX4_forget 31 = .ok (.getfield 13, 3) := by decide +kernel
theorem dX4_forget_34 : decode cX4_forget 34 = .ok (.iload_n 1, 1) := by decide +kernel
theorem dX4_forget_35 : decode cX4_forget 35 = .ok (.iconst (-1), 1) := by decide +kernel
theorem dX4_forget_36 : decode cX4_forget 36 = .ok (.iastore, 1) := by decide +kernel
theorem dX4_forget_37 : decode cX4_forget 37 = .ok (.iinc 1 1, 3) := by decide +kernel
theorem dX4_forget_40 : decode cX4_forget 40 = .ok (.goto (-16), 3) := by decide +kernel
theorem dX4_forget_43 : decode cX4_forget 43 = .ok (.aload_n 0, 1) := by decide +kernel
theorem dX4_forget_44 : decode cX4_forget 44 = .ok (.iconst 0, 1) := by decide +kernel
theorem dX4_forget_45 : decode cX4_forget 45 = .ok (.putfield 41, 3) := by decide +kernel
theorem dX4_forget_48 : decode cX4_forget 48 = .ok (.aload_n 0, 1) := by decide +kernel
theorem dX4_forget_49 : decode cX4_forget 49 = .ok (.iconst 0, 1) := by decide +kernel
theorem dX4_forget_50 : decode cX4_forget 50 = .ok (.putfield 44, 3) := by decide +kernel
theorem dX4_forget_53 : decode cX4_forget 53 = .ok (.aload_n 0, 1) := by decide +kernel
theorem dX4_forget_54 : decode cX4_forget 54 = .ok (.iconst (-1), 1) := by decide +kernel
theorem dX4_forget_55 : decode cX4_forget 55 = .ok (.putfield 31, 3) := by decide +kernel
theorem dX4_forget_58 : decode cX4_forget 58 = .ok (.aload_n 0, 1) := by decide +kernel
theorem dX4_forget_59 : decode cX4_forget 59 = .ok (.iconst 0, 1) := by decide +kernel
theorem dX4_forget_60 : decode cX4_forget 60 = .ok (.putfield 47, 3) := by decide +kernel
theorem dX4_forget_63 : decode cX4_forget 63 = .ok (.aload_n 0, 1) := by decide +kernel
theorem dX4_forget_64 : decode cX4_forget 64 = .ok (.iconst 0, 1) := by decide +kernel
theorem dX4_forget_65 : decode cX4_forget 65 = .ok (.putfield 50, 3) := by decide +kernel
theorem dX4_forget_68 : decode cX4_forget 68 = .ok (.aload_n 0, 1) := by decide +kernel
theorem dX4_forget_69 : decode cX4_forget 69 = .ok (.iconst 0, 1) := by decide +kernel
theorem dX4_forget_70 : decode cX4_forget 70 = .ok (.putfield 53, 3) := by decide +kernel
theorem dX4_forget_73 : decode cX4_forget 73 = .ok (.aload_n 0, 1) := by decide +kernel
theorem dX4_forget_74 : decode cX4_forget 74 = .ok (.iconst 0, 1) := by decide +kernel
theorem dX4_forget_75 : decode cX4_forget 75 = .ok (.putfield 56, 3) := by decide +kernel
theorem dX4_forget_78 : decode cX4_forget 78 = .ok (.return_, 1) := by decide +kernel
theorem dX4_arrow_0 : decode cX4_arrow 0 = .ok (.aload_n 0, 1) := by decide +kernel
theorem dX4_arrow_1 : decode cX4_arrow 1 = .ok (.getfield 41, 3) := by decide +kernel
theorem dX4_arrow_4 : decode cX4_arrow 4 = .ok (.ifCond .gt 34, 3) := by decide +kernel
theorem dX4_arrow_7 : decode cX4_arrow 7 = .ok (.iload_n 1, 1) := by decide +kernel
theorem dX4_arrow_8 : decode cX4_arrow 8 = .ok (.ifCond .lt 30, 3) := by decide +kernel
theorem dX4_arrow_11 : decode cX4_arrow 11 = .ok (.iload_n 1, 1) := by decide +kernel
theorem dX4_arrow_12 : decode cX4_arrow 12 = .ok (.bipush 20, 2) := by decide +kernel
theorem dX4_arrow_14 : decode cX4_arrow 14 = .ok (.if_icmp .ge 24, 3) := by decide +kernel
theorem dX4_arrow_17 : decode cX4_arrow 17 = .ok (.iload_n 2, 1) := by decide +kernel
theorem dX4_arrow_18 : decode cX4_arrow 18 = .ok (.ifCond .lt 20, 3) := by decide +kernel
theorem dX4_arrow_21 : decode cX4_arrow 21 = .ok (.iload_n 2, 1) := by decide +kernel
theorem dX4_arrow_22 : decode cX4_arrow 22 = .ok (.bipush 10, 2) := by decide +kernel
theorem dX4_arrow_24 : decode cX4_arrow 24 = .ok (.if_icmp .ge 14, 3) := by decide +kernel
theorem dX4_arrow_27 : decode cX4_arrow 27 = .ok (.iload_n 3, 1) := by decide +kernel
theorem dX4_arrow_28 : decode cX4_arrow 28 = .ok (.iconst (-1), 1) := by decide +kernel
theorem dX4_arrow_29 : decode cX4_arrow 29 = .ok (.if_icmp .lt 9, 3) := by decide +kernel
theorem dX4_arrow_32 : decode cX4_arrow 32 = .ok (.iload_n 3, 1) := by decide +kernel
theorem dX4_arrow_33 : decode cX4_arrow 33 = .ok (.bipush 20, 2) := by decide +kernel
theorem dX4_arrow_35 : decode cX4_arrow 35 = .ok (.if_icmp .lt 5, 3) := by decide +kernel
theorem dX4_arrow_38 : decode cX4_arrow 38 = .ok (.iconst 0, 1) := by decide +kernel
theorem dX4_arrow_39 : decode cX4_arrow 39 = .ok (.ireturn, 1) := by decide +kernel
theorem dX4_arrow_40 : decode cX4_arrow 40 = .ok (.aload_n 0, 1) := by decide +kernel
theorem dX4_arrow_41 : decode cX4_arrow 41 = .ok (.getfield 7, 3) := by decide +kernel
theorem dX4_arrow_44 : decode cX4_arrow 44 = .ok (.bipush 10, 2) := by decide +kernel
theorem dX4_arrow_46 : decode cX4_arrow 46 = .ok (.iload_n 1, 1) := by decide +kernel
theorem dX4_arrow_47 : decode cX4_arrow 47 = .ok (.imul, 1) := by decide +kernel
theorem dX4_arrow_48 : decode cX4_arrow 48 = .ok (.iload_n 2, 1) := by decide +kernel
theorem dX4_arrow_49 : decode cX4_arrow 49 = .ok (.iadd, 1) := by decide +kernel
theorem dX4_arrow_50 : decode cX4_arrow 50 = .ok (.iload_n 3, 1) := by decide +kernel
theorem dX4_arrow_51 : decode cX4_arrow 51 = .ok (.iastore, 1) := by decide +kernel
theorem dX4_arrow_52 : decode cX4_arrow 52 = .ok (.iconst 1, 1) := by decide +kernel
theorem dX4_arrow_53 : decode cX4_arrow 53 = .ok (.ireturn, 1) := by decide +kernel
theorem dX4_kind_0 : decode cX4_kind 0 = .ok (.aload_n 0, 1) := by decide +kernel
theorem dX4_kind_1 : decode cX4_kind 1 = .ok (.getfield 41, 3) := by decide +kernel
theorem dX4_kind_4 : decode cX4_kind 4 = .ok (.ifCond .gt 24, 3) := by decide +kernel
theorem dX4_kind_7 : decode cX4_kind 7 = .ok (.iload_n 1, 1) := by decide +kernel
theorem dX4_kind_8 : decode cX4_kind 8 = .ok (.ifCond .lt 20, 3) := by decide +kernel
theorem dX4_kind_11 : decode cX4_kind 11 = .ok (.iload_n 1, 1) := by decide +kernel
theorem dX4_kind_12 : decode cX4_kind 12 = .ok (.bipush 20, 2) := by decide +kernel
theorem dX4_kind_14 : decode cX4_kind 14 = .ok (.if_icmp .ge 14, 3) := by decide +kernel
theorem dX4_kind_17 : decode cX4_kind 17 = .ok (.iload_n 2, 1) := by decide +kernel
theorem dX4_kind_18 : decode cX4_kind 18 = .ok (.iconst (-1), 1) := by decide +kernel
theorem dX4_kind_19 : decode cX4_kind 19 = .ok (.if_icmp .lt 9, 3) := by decide +kernel
theorem dX4_kind_22 : decode cX4_kind 22 = .ok (.iload_n 2, 1) := by decide +kernel
theorem dX4_kind_23 : decode cX4_kind 23 = .ok (.bipush 99, 2) := by decide +kernel
theorem dX4_kind_25 : decode cX4_kind 25 = .ok (.if_icmp .le 5, 3) := by decide +kernel
theorem dX4_kind_28 : decode cX4_kind 28 = .ok (.iconst 0, 1) := by decide +kernel
theorem dX4_kind_29 : decode cX4_kind 29 = .ok (.ireturn, 1) := by decide +kernel
theorem dX4_kind_30 : decode cX4_kind 30 = .ok (.aload_n 0, 1) := by decide +kernel
theorem dX4_kind_31 : decode cX4_kind 31 = .ok (.getfield 13, 3) := by decide +kernel
theorem dX4_kind_34 : decode cX4_kind 34 = .ok (.iload_n 1, 1) := by decide +kernel
theorem dX4_kind_35 : decode cX4_kind 35 = .ok (.iload_n 2, 1) := by decide +kernel
theorem dX4_kind_36 : decode cX4_kind 36 = .ok (.iastore, 1) := by decide +kernel
theorem dX4_kind_37 : decode cX4_kind 37 = .ok (.iconst 1, 1) := by decide +kernel
theorem dX4_kind_38 : decode cX4_kind 38 = .ok (.ireturn, 1) := by decide +kernel
theorem dX4_scan_0 : decode cX4_scan 0 = .ok (.aload_n 0, 1) := by decide +kernel
theorem dX4_scan_1 : decode cX4_scan 1 = .ok (.iconst 0, 1) := by decide +kernel
theorem dX4_scan_2 : decode cX4_scan 2 = .ok (.putfield 59, 3) := by decide +kernel
theorem dX4_scan_5 : decode cX4_scan 5 = .ok (.aload_n 0, 1) := by decide +kernel
theorem dX4_scan_6 : decode cX4_scan 6 = .ok (.iconst (-1), 1) := by decide +kernel
theorem dX4_scan_7 : decode cX4_scan 7 = .ok (.putfield 62, 3) := by decide +kernel
theorem dX4_scan_10 : decode cX4_scan 10 = .ok (.aload_n 0, 1) := by decide +kernel
theorem dX4_scan_11 : decode cX4_scan 11 = .ok (.iconst 0, 1) := by decide +kernel
theorem dX4_scan_12 : decode cX4_scan 12 = .ok (.putfield 65, 3) := by decide +kernel
theorem dX4_scan_15 : decode cX4_scan 15 = .ok (.iconst 0, 1) := by decide +kernel
theorem dX4_scan_16 : decode cX4_scan 16 = .ok (.istore_n 2, 1) := by decide +kernel
theorem dX4_scan_17 : decode cX4_scan 17 = .ok (.iload_n 1, 1) := by decide +kernel
theorem dX4_scan_18 : decode cX4_scan 18 = .ok (.istore_n 3, 1) := by decide +kernel
theorem dX4_scan_19 : decode cX4_scan 19 = .ok (.iload_n 2, 1) := by decide +kernel
theorem dX4_scan_20 : decode cX4_scan 20 = .ok (.ifCond .lt 78, 3) := by decide +kernel
theorem dX4_scan_23 : decode cX4_scan 23 = .ok (.aload_n 0, 1) := by decide +kernel
theorem dX4_scan_24 : decode cX4_scan 24 = .ok (.dup, 1) := by decide +kernel
theorem dX4_scan_25 : decode cX4_scan 25 = .ok (.getfield 65, 3) := by decide +kernel
theorem dX4_scan_28 : decode cX4_scan 28 = .ok (.iconst 1, 1) := by decide +kernel
theorem dX4_scan_29 : decode cX4_scan 29 = .ok (.iadd, 1) := by decide +kernel
theorem dX4_scan_30 : decode cX4_scan 30 = .ok (.putfield 65, 3) := by decide +kernel
theorem dX4_scan_33 : decode cX4_scan 33 = .ok (.iload_n 3, 1) := by decide +kernel
theorem dX4_scan_34 : decode cX4_scan 34 = .ok (.aload_n 0, 1) := by decide +kernel
theorem dX4_scan_35 : decode cX4_scan 35 = .ok (.getfield 41, 3) := by decide +kernel
theorem dX4_scan_38 : decode cX4_scan 38 = .ok (.if_icmp .ge 22, 3) := by decide +kernel
theorem dX4_scan_41 : decode cX4_scan 41 = .ok (.aload_n 0, 1) := by decide +kernel
theorem dX4_scan_42 : decode cX4_scan 42 = .ok (.getfield 7, 3) := by decide +kernel
theorem dX4_scan_45 : decode cX4_scan 45 = .ok (.bipush 10, 2) := by decide +kernel
theorem dX4_scan_47 : decode cX4_scan 47 = .ok (.iload_n 2, 1) := by decide +kernel
theorem dX4_scan_48 : decode cX4_scan 48 = .ok (.imul, 1) := by decide +kernel
theorem dX4_scan_49 : decode cX4_scan 49 = .ok (.aload_n 0, 1) := by decide +kernel
theorem dX4_scan_50 : decode cX4_scan 50 = .ok (.getfield 16, 3) := by decide +kernel
theorem dX4_scan_53 : decode cX4_scan 53 = .ok (.iload_n 3, 1) := by decide +kernel
theorem dX4_scan_54 : decode cX4_scan 54 = .ok (.iaload, 1) := by decide +kernel
theorem dX4_scan_55 : decode cX4_scan 55 = .ok (.iadd, 1) := by decide +kernel
theorem dX4_scan_56 : decode cX4_scan 56 = .ok (.iaload, 1) := by decide +kernel
theorem dX4_scan_57 : decode cX4_scan 57 = .ok (.goto 4, 3) := by decide +kernel
theorem dX4_scan_60 : decode cX4_scan 60 = .ok (.iconst (-1), 1) := by decide +kernel
theorem dX4_scan_61 : decode cX4_scan 61 = .ok (.istore_n 2, 1) := by decide +kernel
theorem dX4_scan_62 : decode cX4_scan 62 = .ok (.iinc 3 1, 3) := by decide +kernel
theorem dX4_scan_65 : decode cX4_scan 65 = .ok (.iload_n 2, 1) := by decide +kernel
theorem dX4_scan_66 : decode cX4_scan 66 = .ok (.ifCond .lt (-47), 3) := by decide +kernel
theorem dX4_scan_69 : decode cX4_scan 69 = .ok (.aload_n 0, 1) := by decide +kernel
theorem dX4_scan_70 : decode cX4_scan 70 = .ok (.getfield 13, 3) := by decide +kernel
theorem dX4_scan_73 : decode cX4_scan 73 = .ok (.iload_n 2, 1) := by decide +kernel
theorem dX4_scan_74 : decode cX4_scan 74 = .ok (.iaload, 1) := by decide +kernel
theorem dX4_scan_75 : decode cX4_scan 75 = .ok (.ifCond .lt (-56), 3) := by decide +kernel
theorem dX4_scan_78 : decode cX4_scan 78 = .ok (.aload_n 0, 1) := by decide +kernel
theorem dX4_scan_79 : decode cX4_scan 79 = .ok (.iload_n 3, 1) := by decide +kernel
theorem dX4_scan_80 : decode cX4_scan 80 = .ok (.iload_n 1, 1) := by decide +kernel
theorem dX4_scan_81 : decode cX4_scan 81 = .ok (.isub, 1) := by decide +kernel
theorem dX4_scan_82 : decode cX4_scan 82 = .ok (.putfield 59, 3) := by decide +kernel
theorem dX4_scan_85 : decode cX4_scan 85 = .ok (.aload_n 0, 1) := by decide +kernel
theorem dX4_scan_86 : decode cX4_scan 86 = .ok (.aload_n 0, 1) := by decide +kernel
theorem dX4_scan_87 : decode cX4_scan 87 = .ok (.getfield 13, 3) := by decide +kernel
theorem dX4_scan_90 : decode cX4_scan 90 = .ok (.iload_n 2, 1) := by decide +kernel
theorem dX4_scan_91 : decode cX4_scan 91 = .ok (.iaload, 1) := by decide +kernel
theorem dX4_scan_92 : decode cX4_scan 92 = .ok (.putfield 62, 3) := by decide +kernel
theorem dX4_scan_95 : decode cX4_scan 95 = .ok (.goto (-76), 3) := by decide +kernel
theorem dX4_scan_98 : decode cX4_scan 98 = .ok (.aload_n 0, 1) := by decide +kernel
theorem dX4_scan_99 : decode cX4_scan 99 = .ok (.getfield 59, 3) := by decide +kernel
theorem dX4_scan_102 : decode cX4_scan 102 = .ok (.ifCond .le 7, 3) := by decide +kernel
theorem dX4_scan_105 : decode cX4_scan 105 = .ok (.iconst 1, 1) := by decide +kernel
theorem dX4_scan_106 : decode cX4_scan 106 = .ok (.goto 4, 3) := by decide +kernel
theorem dX4_scan_109 : decode cX4_scan 109 = .ok (.iconst 0, 1) := by decide +kernel
theorem dX4_scan_110 : decode cX4_scan 110 = .ok (.ireturn, 1) := by decide +kernel
theorem dX4_scanAll_0 : decode cX4_scanAll 0 = .ok (.aload_n 0, 1) := by decide +kernel
theorem dX4_scanAll_1 : decode cX4_scanAll 1 = .ok (.iconst 0, 1) := by decide +kernel
theorem dX4_scanAll_2 : decode cX4_scanAll 2 = .ok (.putfield 44, 3) := by decide +kernel
theorem dX4_scanAll_5 : decode cX4_scanAll 5 = .ok (.aload_n 0, 1) := by decide +kernel
theorem dX4_scanAll_6 : decode cX4_scanAll 6 = .ok (.iconst (-1), 1) := by decide +kernel
theorem dX4_scanAll_7 : decode cX4_scanAll 7 = .ok (.putfield 31, 3) := by decide +kernel
theorem dX4_scanAll_10 : decode cX4_scanAll 10 = .ok (.aload_n 0, 1) := by decide +kernel
theorem dX4_scanAll_11 : decode cX4_scanAll 11 = .ok (.iconst 0, 1) := by decide +kernel
theorem dX4_scanAll_12 : decode cX4_scanAll 12 = .ok (.putfield 47, 3) := by decide +kernel
theorem dX4_scanAll_15 : decode cX4_scanAll 15 = .ok (.iconst 0, 1) := by decide +kernel
theorem dX4_scanAll_16 : decode cX4_scanAll 16 = .ok (.istore_n 1, 1) := by decide +kernel
theorem dX4_scanAll_17 : decode cX4_scanAll 17 = .ok (.iload_n 1, 1) := by decide +kernel
theorem dX4_scanAll_18 : decode cX4_scanAll 18 = .ok (.aload_n 0, 1) := by decide +kernel
theorem dX4_scanAll_19 : decode cX4_scanAll 19 = .ok (.getfield 41, 3) := by decide +kernel
theorem dX4_scanAll_22 : decode cX4_scanAll 22 = .ok (.if_icmp .ge 103, 3) := by decide +kernel
theorem dX4_scanAll_25 : decode cX4_scanAll 25 = .ok (.aload_n 0, 1) := by decide +kernel
theorem dX4_scanAll_26 : decode cX4_scanAll 26 = .ok (.getfield 31, 3) := by decide +kernel
theorem dX4_scanAll_29 : decode cX4_scanAll 29 = .ok (.ifCond .ge 96, 3) := by decide +kernel
theorem dX4_scanAll_32 : decode cX4_scanAll 32 = .ok (.aload_n 0, 1) := by decide +kernel
theorem dX4_scanAll_33 : decode cX4_scanAll 33 = .ok (.iload_n 1, 1) := by decide +kernel
theorem dX4_scanAll_34 : decode cX4_scanAll 34 = .ok (.invokevirtual 68, 3) := by decide +kernel
theorem dX4_scanAll_37 : decode cX4_scanAll 37 = .ok (.ifCond .eq 72, 3) := by decide +kernel
theorem dX4_scanAll_40 : decode cX4_scanAll 40 = .ok (.aload_n 0, 1) := by decide +kernel
theorem dX4_scanAll_41 : decode cX4_scanAll 41 = .ok (.getfield 19, 3) := by decide +kernel
theorem dX4_scanAll_44 : decode cX4_scanAll 44 = .ok (.aload_n 0, 1) := by decide +kernel
theorem dX4_scanAll_45 : decode cX4_scanAll 45 = .ok (.getfield 44, 3) := by decide +kernel
theorem dX4_scanAll_48 : decode cX4_scanAll 48 = .ok (.iload_n 1, 1) := by decide +kernel
theorem dX4_scanAll_49 : decode cX4_scanAll 49 = .ok (.iastore, 1) := by decide +kernel
theorem dX4_scanAll_50 : decode cX4_scanAll 50 = .ok (.aload_n 0, 1) := by decide +kernel
theorem dX4_scanAll_51 : decode cX4_scanAll 51 = .ok (.getfield 22, 3) := by decide +kernel
theorem dX4_scanAll_54 : decode cX4_scanAll 54 = .ok (.aload_n 0, 1) := by decide +kernel
theorem dX4_scanAll_55 : decode cX4_scanAll 55 = .ok (.getfield 44, 3) := by decide +kernel
theorem dX4_scanAll_58 : decode cX4_scanAll 58 = .ok (.aload_n 0, 1) := by decide +kernel
theorem dX4_scanAll_59 : decode cX4_scanAll 59 = .ok (.getfield 59, 3) := by decide +kernel
theorem dX4_scanAll_62 : decode cX4_scanAll 62 = .ok (.iastore, 1) := by decide +kernel
theorem dX4_scanAll_63 : decode cX4_scanAll 63 = .ok (.aload_n 0, 1) := by decide +kernel
theorem dX4_scanAll_64 : decode cX4_scanAll 64 = .ok (.getfield 25, 3) := by decide +kernel
theorem dX4_scanAll_67 : decode cX4_scanAll 67 = .ok (.aload_n 0, 1) := by decide +kernel
theorem dX4_scanAll_68 : decode cX4_scanAll 68 = .ok (.getfield 44, 3) := by decide +kernel
theorem dX4_scanAll_71 : decode cX4_scanAll 71 = .ok (.aload_n 0, 1) := by decide +kernel
theorem dX4_scanAll_72 : decode cX4_scanAll 72 = .ok (.getfield 62, 3) := by decide +kernel
theorem dX4_scanAll_75 : decode cX4_scanAll 75 = .ok (.iastore, 1) := by decide +kernel
theorem dX4_scanAll_76 : decode cX4_scanAll 76 = .ok (.aload_n 0, 1) := by decide +kernel
theorem dX4_scanAll_77 : decode cX4_scanAll 77 = .ok (.getfield 28, 3) := by decide +kernel
theorem dX4_scanAll_80 : decode cX4_scanAll 80 = .ok (.aload_n 0, 1) := by decide +kernel
theorem dX4_scanAll_81 : decode cX4_scanAll 81 = .ok (.getfield 44, 3) := by decide +kernel
theorem dX4_scanAll_84 : decode cX4_scanAll 84 = .ok (.aload_n 0, 1) := by decide +kernel
theorem dX4_scanAll_85 : decode cX4_scanAll 85 = .ok (.getfield 65, 3) := by decide +kernel
theorem dX4_scanAll_88 : decode cX4_scanAll 88 = .ok (.iastore, 1) := by decide +kernel
theorem dX4_scanAll_89 : decode cX4_scanAll 89 = .ok (.aload_n 0, 1) := by decide +kernel
theorem dX4_scanAll_90 : decode cX4_scanAll 90 = .ok (.dup, 1) := by decide +kernel
theorem dX4_scanAll_91 : decode cX4_scanAll 91 = .ok (.getfield 44, 3) := by decide +kernel
theorem dX4_scanAll_94 : decode cX4_scanAll 94 = .ok (.iconst 1, 1) := by decide +kernel
theorem dX4_scanAll_95 : decode cX4_scanAll 95 = .ok (.iadd, 1) := by decide +kernel
theorem dX4_scanAll_96 : decode cX4_scanAll 96 = .ok (.putfield 44, 3) := by decide +kernel
theorem dX4_scanAll_99 : decode cX4_scanAll 99 = .ok (.iload_n 1, 1) := by decide +kernel
theorem dX4_scanAll_100 : decode cX4_scanAll 100 = .ok (.aload_n 0, 1) := by decide +kernel
theorem dX4_scanAll_101 : decode cX4_scanAll 101 = .ok (.getfield 59, 3) := by decide +kernel
theorem dX4_scanAll_104 : decode cX4_scanAll 104 = .ok (.iadd, 1) := by decide +kernel
theorem dX4_scanAll_105 : decode cX4_scanAll 105 = .ok (.istore_n 1, 1) := by decide +kernel
theorem dX4_scanAll_106 : decode cX4_scanAll 106 = .ok (.goto (-89), 3) := by decide +kernel
theorem dX4_scanAll_109 : decode cX4_scanAll 109 = .ok (.aload_n 0, 1) := by decide +kernel
theorem dX4_scanAll_110 : decode cX4_scanAll 110 = .ok (.iload_n 1, 1) := by decide +kernel
theorem dX4_scanAll_111 : decode cX4_scanAll 111 = .ok (.putfield 31, 3) := by decide +kernel
theorem dX4_scanAll_114 : decode cX4_scanAll 114 = .ok (.aload_n 0, 1) := by decide +kernel
theorem dX4_scanAll_115 : decode cX4_scanAll 115 = .ok (.aload_n 0, 1) := by decide +kernel
theorem dX4_scanAll_116 : decode cX4_scanAll 116 = .ok (.getfield 65, 3) := by decide +kernel
theorem dX4_scanAll_119 : decode cX4_scanAll 119 = .ok (.putfield 47, 3) := by decide +kernel
theorem dX4_scanAll_122 : decode cX4_scanAll 122 = .ok (.goto (-105), 3) := by decide +kernel
theorem dX4_scanAll_125 : decode cX4_scanAll 125 = .ok (.return_, 1) := by decide +kernel
theorem dX4_began_0 : decode cX4_began 0 = .ok (.iload_n 1, 1) := by decide +kernel
theorem dX4_began_1 : decode cX4_began 1 = .ok (.aload_n 0, 1) := by decide +kernel
theorem dX4_began_2 : decode cX4_began 2 = .ok (.getfield 72, 3) := by decide +kernel
theorem dX4_began_5 : decode cX4_began 5 = .ok (.if_icmp .eq 11, 3) := by decide +kernel
theorem dX4_began_8 : decode cX4_began 8 = .ok (.iload_n 1, 1) := by decide +kernel
theorem dX4_began_9 : decode cX4_began 9 = .ok (.aload_n 0, 1) := by decide +kernel
theorem dX4_began_10 : decode cX4_began 10 = .ok (.getfield 75, 3) := by decide +kernel
theorem dX4_began_13 : decode cX4_began 13 = .ok (.if_icmp .ne 7, 3) := by decide +kernel
theorem dX4_began_16 : decode cX4_began 16 = .ok (.iconst 1, 1) := by decide +kernel
theorem dX4_began_17 : decode cX4_began 17 = .ok (.goto 4, 3) := by decide +kernel
theorem dX4_began_20 : decode cX4_began 20 = .ok (.iconst 0, 1) := by decide +kernel
theorem dX4_began_21 : decode cX4_began 21 = .ok (.istore_n 2, 1) := by decide +kernel
theorem dX4_began_22 : decode cX4_began 22 = .ok (.iconst 0, 1) := by decide +kernel
theorem dX4_began_23 : decode cX4_began 23 = .ok (.istore_n 3, 1) := by decide +kernel
theorem dX4_began_24 : decode cX4_began 24 = .ok (.iload_n 3, 1) := by decide +kernel
theorem dX4_began_25 : decode cX4_began 25 = .ok (.aload_n 0, 1) := by decide +kernel
theorem dX4_began_26 : decode cX4_began 26 = .ok (.getfield 78, 3) := by decide +kernel
theorem dX4_began_29 : decode cX4_began 29 = .ok (.if_icmp .ge 29, 3) := by decide +kernel
theorem dX4_began_32 : decode cX4_began 32 = .ok (.iload_n 2, 1) := by decide +kernel
theorem dX4_began_33 : decode cX4_began 33 = .ok (.ifCond .ne 13, 3) := by decide +kernel
theorem dX4_began_36 : decode cX4_began 36 = .ok (.aload_n 0, 1) := by decide +kernel
theorem dX4_began_37 : decode cX4_began 37 = .ok (.getfield 35, 3) := by decide +kernel
theorem dX4_began_40 : decode cX4_began 40 = .ok (.iload_n 3, 1) := by decide +kernel
theorem dX4_began_41 : decode cX4_began 41 = .ok (.iaload, 1) := by decide +kernel
theorem dX4_began_42 : decode cX4_began 42 = .ok (.iload_n 1, 1) := by decide +kernel
theorem dX4_began_43 : decode cX4_began 43 = .ok (.if_icmp .ne 7, 3) := by decide +kernel
theorem dX4_began_46 : decode cX4_began 46 = .ok (.iconst 1, 1) := by decide +kernel
theorem dX4_began_47 : decode cX4_began 47 = .ok (.goto 4, 3) := by decide +kernel
theorem dX4_began_50 : decode cX4_began 50 = .ok (.iconst 0, 1) := by decide +kernel
theorem dX4_began_51 : decode cX4_began 51 = .ok (.istore_n 2, 1) := by decide +kernel
theorem dX4_began_52 : decode cX4_began 52 = .ok (.iinc 3 1, 3) := by decide +kernel
theorem dX4_began_55 : decode cX4_began 55 = .ok (.goto (-31), 3) := by decide +kernel
theorem dX4_began_58 : decode cX4_began 58 = .ok (.iload_n 2, 1) := by decide +kernel
theorem dX4_began_59 : decode cX4_began 59 = .ok (.ireturn, 1) := by decide +kernel
theorem dX4_edit_0 : decode cX4_edit 0 = .ok (.iload 5, 2) := by decide +kernel
theorem dX4_edit_2 : decode cX4_edit 2 = .ok (.ifCond .lt 55, 3) := by decide +kernel
theorem dX4_edit_5 : decode cX4_edit 5 = .ok (.iload 5, 2) := by decide +kernel
theorem dX4_edit_7 : decode cX4_edit 7 = .ok (.bipush 16, 2) := by decide +kernel
theorem dX4_edit_9 : decode cX4_edit 9 = .ok (.if_icmp .gt 48, 3) := by decide +kernel
theorem dX4_edit_12 : decode cX4_edit 12 = .ok (.iload_n 1, 1) := by decide +kernel
theorem dX4_edit_13 : decode cX4_edit 13 = .ok (.ifCond .lt 44, 3) := by decide +kernel
theorem dX4_edit_16 : decode cX4_edit 16 = .ok (.iload_n 2, 1) := by decide +kernel
theorem dX4_edit_17 : decode cX4_edit 17 = .ok (.ifCond .lt 40, 3) := by decide +kernel
theorem dX4_edit_20 : decode cX4_edit 20 = .ok (.iload_n 1, 1) := by decide +kernel
theorem dX4_edit_21 : decode cX4_edit 21 = .ok (.aload_n 0, 1) := by decide +kernel
theorem dX4_edit_22 : decode cX4_edit 22 = .ok (.getfield 41, 3) := by decide +kernel
theorem dX4_edit_25 : decode cX4_edit 25 = .ok (.if_icmp .gt 32, 3) := by decide +kernel
theorem dX4_edit_28 : decode cX4_edit 28 = .ok (.iload_n 2, 1) := by decide +kernel
theorem dX4_edit_29 : decode cX4_edit 29 = .ok (.aload_n 0, 1) := by decide +kernel
theorem dX4_edit_30 : decode cX4_edit 30 = .ok (.getfield 41, 3) := by decide +kernel
theorem dX4_edit_33 : decode cX4_edit 33 = .ok (.iload_n 1, 1) := by decide +kernel
theorem dX4_edit_34 : decode cX4_edit 34 = .ok (.isub, 1) := by decide +kernel
theorem dX4_edit_35 : decode cX4_edit 35 = .ok (.if_icmp .gt 22, 3) := by decide +kernel
theorem dX4_edit_38 : decode cX4_edit 38 = .ok (.aload_n 0, 1) := by decide +kernel
theorem dX4_edit_39 : decode cX4_edit 39 = .ok (.getfield 41, 3) := by decide +kernel
theorem dX4_edit_42 : decode cX4_edit 42 = .ok (.iload_n 2, 1) := by decide +kernel
theorem dX4_edit_43 : decode cX4_edit 43 = .ok (.isub, 1) := by decide +kernel
theorem dX4_edit_44 : decode cX4_edit 44 = .ok (.iload 5, 2) := by decide +kernel
theorem dX4_edit_46 : decode cX4_edit 46 = .ok (.iadd, 1) := by decide +kernel
theorem dX4_edit_47 : decode cX4_edit 47 = .ok (.sipush 400, 3) := by decide +kernel
theorem dX4_edit_50 : decode cX4_edit 50 = .ok (.if_icmp .gt 7, 3) := by decide +kernel
theorem dX4_edit_53 : decode cX4_edit 53 = .ok (.iconst 1, 1) := by decide +kernel
theorem dX4_edit_54 : decode cX4_edit 54 = .ok (.goto 4, 3) := by decide +kernel
theorem dX4_edit_57 : decode cX4_edit 57 = .ok (.iconst 0, 1) := by decide +kernel
theorem dX4_edit_58 : decode cX4_edit 58 = .ok (.istore 6, 2) := by decide +kernel
theorem dX4_edit_60 : decode cX4_edit 60 = .ok (.iconst 0, 1) := by decide +kernel
theorem dX4_edit_61 : decode cX4_edit 61 = .ok (.istore 7, 2) := by decide +kernel
theorem dX4_edit_63 : decode cX4_edit 63 = .ok (.iload 7, 2) := by decide +kernel
theorem dX4_edit_65 : decode cX4_edit 65 = .ok (.iload 5, 2) := by decide +kernel
theorem dX4_edit_67 : decode cX4_edit 67 = .ok (.if_icmp .ge 38, 3) := by decide +kernel
theorem dX4_edit_70 : decode cX4_edit 70 = .ok (.iload 6, 2) := by decide +kernel
theorem dX4_edit_72 : decode cX4_edit 72 = .ok (.ifCond .eq 33, 3) := by decide +kernel
theorem dX4_edit_75 : decode cX4_edit 75 = .ok (.lload_n 3, 1) := by decide +kernel
theorem dX4_edit_76 : decode cX4_edit 76 = .ok (.iconst 4, 1) := by decide +kernel
theorem dX4_edit_77 : decode cX4_edit 77 = .ok (.iload 7, 2) := by decide +kernel
theorem dX4_edit_79 : decode cX4_edit 79 = .ok (.imul, 1) := by decide +kernel
theorem dX4_edit_80 : decode cX4_edit 80 = .ok (.lshr, 1) := by decide +kernel
theorem dX4_edit_81 : decode cX4_edit 81 = .ok (.ldc2_w 81, 3) := by decide +kernel
theorem dX4_edit_84 : decode cX4_edit 84 = .ok (.land, 1) := by decide +kernel
theorem dX4_edit_85 : decode cX4_edit 85 = .ok (.ldc2_w 83, 3) := by decide +kernel
theorem dX4_edit_88 : decode cX4_edit 88 = .ok (.lcmp, 1) := by decide +kernel
theorem dX4_edit_89 : decode cX4_edit 89 = .ok (.ifCond .ge 7, 3) := by decide +kernel
theorem dX4_edit_92 : decode cX4_edit 92 = .ok (.iconst 1, 1) := by decide +kernel
theorem dX4_edit_93 : decode cX4_edit 93 = .ok (.goto 4, 3) := by decide +kernel
theorem dX4_edit_96 : decode cX4_edit 96 = .ok (.iconst 0, 1) := by decide +kernel
theorem dX4_edit_97 : decode cX4_edit 97 = .ok (.istore 6, 2) := by decide +kernel
theorem dX4_edit_99 : decode cX4_edit 99 = .ok (.iinc 7 1, 3) := by decide +kernel
theorem dX4_edit_102 : decode cX4_edit 102 = .ok (.goto (-39), 3) := by decide +kernel
theorem dX4_edit_105 : decode cX4_edit 105 = .ok (.iload 6, 2) := by decide +kernel
theorem dX4_edit_107 : decode cX4_edit 107 = .ok (.ifCond .ne 5, 3) := by decide +kernel
theorem dX4_edit_110 : decode cX4_edit 110 = .ok (.iconst (-1), 1) := by decide +kernel
theorem dX4_edit_111 : decode cX4_edit 111 = .ok (.ireturn, 1) := by decide +kernel
theorem dX4_edit_112 : decode cX4_edit 112 = .ok (.aload_n 0, 1) := by decide +kernel
theorem dX4_edit_113 : decode cX4_edit 113 = .ok (.getfield 41, 3) := by decide +kernel
theorem dX4_edit_116 : decode cX4_edit 116 = .ok (.ifCond .ne 7, 3) := by decide +kernel
theorem dX4_edit_119 : decode cX4_edit 119 = .ok (.iconst 0, 1) := by decide +kernel
theorem dX4_edit_120 : decode cX4_edit 120 = .ok (.goto 4, 3) := by decide +kernel
theorem dX4_edit_123 : decode cX4_edit 123 = .ok (.iconst (-1), 1) := by decide +kernel
theorem dX4_edit_124 : decode cX4_edit 124 = .ok (.istore 7, 2) := by decide +kernel
theorem dX4_edit_126 : decode cX4_edit 126 = .ok (.aload_n 0, 1) := by decide +kernel
theorem dX4_edit_127 : decode cX4_edit 127 = .ok (.getfield 31, 3) := by decide +kernel
theorem dX4_edit_130 : decode cX4_edit 130 = .ok (.ifCond .lt 22, 3) := by decide +kernel
theorem dX4_edit_133 : decode cX4_edit 133 = .ok (.aload_n 0, 1) := by decide +kernel
theorem dX4_edit_134 : decode cX4_edit 134 = .ok (.getfield 31, 3) := by decide +kernel
theorem dX4_edit_137 : decode cX4_edit 137 = .ok (.aload_n 0, 1) := by decide +kernel
theorem dX4_edit_138 : decode cX4_edit 138 = .ok (.getfield 47, 3) := by decide +kernel
theorem dX4_edit_141 : decode cX4_edit 141 = .ok (.iadd, 1) := by decide +kernel
theorem dX4_edit_142 : decode cX4_edit 142 = .ok (.iload_n 1, 1) := by decide +kernel
theorem dX4_edit_143 : decode cX4_edit 143 = .ok (.if_icmp .le 9, 3) := by decide +kernel
theorem dX4_edit_146 : decode cX4_edit 146 = .ok (.aload_n 0, 1) := by decide +kernel
theorem dX4_edit_147 : decode cX4_edit 147 = .ok (.getfield 31, 3) := by decide +kernel
theorem dX4_edit_150 : decode cX4_edit 150 = .ok (.istore 7, 2) := by decide +kernel
theorem dX4_edit_152 : decode cX4_edit 152 = .ok (.aload_n 0, 1) := by decide +kernel
theorem dX4_edit_153 : decode cX4_edit 153 = .ok (.getfield 44, 3) := by decide +kernel
theorem dX4_edit_156 : decode cX4_edit 156 = .ok (.iconst 1, 1) := by decide +kernel
theorem dX4_edit_157 : decode cX4_edit 157 = .ok (.isub, 1) := by decide +kernel
theorem dX4_edit_158 : decode cX4_edit 158 = .ok (.istore 8, 2) := by decide +kernel
theorem dX4_edit_160 : decode cX4_edit 160 = .ok (.iload 8, 2) := by decide +kernel
theorem dX4_edit_162 : decode cX4_edit 162 = .ok (.ifCond .lt 42, 3) := by decide +kernel
theorem dX4_edit_165 : decode cX4_edit 165 = .ok (.aload_n 0, 1) := by decide +kernel
theorem dX4_edit_166 : decode cX4_edit 166 = .ok (.getfield 19, 3) := by decide +kernel
theorem dX4_edit_169 : decode cX4_edit 169 = .ok (.iload 8, 2) := by decide +kernel
theorem dX4_edit_171 : decode cX4_edit 171 = .ok (.iaload, 1) := by decide +kernel
theorem dX4_edit_172 : decode cX4_edit 172 = .ok (.aload_n 0, 1) := by decide +kernel
theorem dX4_edit_173 : decode cX4_edit 173 = .ok (.getfield 28, 3) := by decide +kernel
theorem dX4_edit_176 : decode cX4_edit 176 = .ok (.iload 8, 2) := by decide +kernel
theorem dX4_edit_178 : decode cX4_edit 178 = .ok (.iaload, 1) := by decide +kernel
theorem dX4_edit_179 : decode cX4_edit 179 = .ok (.iadd, 1) := by decide +kernel
theorem dX4_edit_180 : decode cX4_edit 180 = .ok (.iload_n 1, 1) := by decide +kernel
theorem dX4_edit_181 : decode cX4_edit 181 = .ok (.if_icmp .le 13, 3) := by decide +kernel
theorem dX4_edit_184 : decode cX4_edit 184 = .ok (.aload_n 0, 1) := by decide +kernel
theorem dX4_edit_185 : decode cX4_edit 185 = .ok (.getfield 19, 3) := by decide +kernel
theorem dX4_edit_188 : decode cX4_edit 188 = .ok (.iload 8, 2) := by decide +kernel
theorem dX4_edit_190 : decode cX4_edit 190 = .ok (.iaload, 1) := by decide +kernel
theorem dX4_edit_191 : decode cX4_edit 191 = .ok (.goto 5, 3) := by decide +kernel
theorem dX4_edit_194 : decode cX4_edit 194 = .ok (.iload 7, 2) := by decide +kernel
theorem dX4_edit_196 : decode cX4_edit 196 = .ok (.istore 7, 2) := by decide +kernel
theorem dX4_edit_198 : decode cX4_edit 198 = .ok (.iinc 8 (-1), 3) := by decide +kernel
theorem dX4_edit_201 : decode cX4_edit 201 = .ok (.goto (-41), 3) := by decide +kernel
theorem dX4_edit_204 : decode cX4_edit 204 = .ok (.aload_n 0, 1) := by decide +kernel
theorem dX4_edit_205 : decode cX4_edit 205 = .ok (.aload_n 0, 1) := by decide +kernel
theorem dX4_edit_206 : decode cX4_edit 206 = .ok (.getfield 44, 3) := by decide +kernel
theorem dX4_edit_209 : decode cX4_edit 209 = .ok (.putfield 78, 3) := by decide +kernel
theorem dX4_edit_212 : decode cX4_edit 212 = .ok (.iconst 0, 1) := by decide +kernel
theorem dX4_edit_213 : decode cX4_edit 213 = .ok (.istore 8, 2) := by decide +kernel
theorem dX4_edit_215 : decode cX4_edit 215 = .ok (.iload 8, 2) := by decide +kernel
theorem dX4_edit_217 : decode cX4_edit 217 = .ok (.aload_n 0, 1) := by decide +kernel
theorem dX4_edit_218 : decode cX4_edit 218 = .ok (.getfield 44, 3) := by decide +kernel
theorem dX4_edit_221 : decode cX4_edit 221 = .ok (.if_icmp .ge 23, 3) := by decide +kernel
theorem dX4_edit_224 : decode cX4_edit 224 = .ok (.aload_n 0, 1) := by decide +kernel
theorem dX4_edit_225 : decode cX4_edit 225 = .ok (.getfield 35, 3) := by decide +kernel
theorem dX4_edit_228 : decode cX4_edit 228 = .ok (.iload 8, 2) := by decide +kernel
theorem dX4_edit_230 : decode cX4_edit 230 = .ok (.aload_n 0, 1) := by decide +kernel
theorem dX4_edit_231 : decode cX4_edit 231 = .ok (.getfield 19, 3) := by decide +kernel
theorem dX4_edit_234 : decode cX4_edit 234 = .ok (.iload 8, 2) := by decide +kernel
theorem dX4_edit_236 : decode cX4_edit 236 = .ok (.iaload, 1) := by decide +kernel
theorem dX4_edit_237 : decode cX4_edit 237 = .ok (.iastore, 1) := by decide +kernel
theorem dX4_edit_238 : decode cX4_edit 238 = .ok (.iinc 8 1, 3) := by decide +kernel
theorem dX4_edit_241 : decode cX4_edit 241 = .ok (.goto (-26), 3) := by decide +kernel
theorem dX4_edit_244 : decode cX4_edit 244 = .ok (.aload_n 0, 1) := by decide +kernel
theorem dX4_edit_245 : decode cX4_edit 245 = .ok (.aload_n 0, 1) := by decide +kernel
theorem dX4_edit_246 : decode cX4_edit 246 = .ok (.getfield 31, 3) := by decide +kernel
theorem dX4_edit_249 : decode cX4_edit 249 = .ok (.putfield 72, 3) := by decide +kernel
theorem dX4_edit_252 : decode cX4_edit 252 = .ok (.aload_n 0, 1) := by decide +kernel
theorem dX4_edit_253 : decode cX4_edit 253 = .ok (.aload_n 0, 1) := by decide +kernel
theorem dX4_edit_254 : decode cX4_edit 254 = .ok (.getfield 41, 3) := by decide +kernel
theorem dX4_edit_257 : decode cX4_edit 257 = .ok (.putfield 75, 3) := by decide +kernel
theorem dX4_edit_260 : decode cX4_edit 260 = .ok (.aload_n 0, 1) := by decide +kernel
theorem dX4_edit_261 : decode cX4_edit 261 = .ok (.iload_n 1, 1) := by decide +kernel
theorem dX4_edit_262 : decode cX4_edit 262 = .ok (.iload_n 2, 1) := by decide +kernel
theorem dX4_edit_263 : decode cX4_edit 263 = .ok (.lload_n 3, 1) := by decide +kernel
theorem dX4_edit_264 : decode cX4_edit 264 = .ok (.iload 5, 2) := by decide +kernel
theorem dX4_edit_266 : decode cX4_edit 266 = .ok (.invokevirtual 85, 3) := by decide +kernel
theorem dX4_edit_269 : decode cX4_edit 269 = .ok (.aload_n 0, 1) := by decide +kernel
theorem dX4_edit_270 : decode cX4_edit 270 = .ok (.dup, 1) := by decide +kernel
theorem dX4_edit_271 : decode cX4_edit 271 = .ok (.getfield 56, 3) := by decide +kernel
theorem dX4_edit_274 : decode cX4_edit 274 = .ok (.iconst 1, 1) := by decide +kernel
theorem dX4_edit_275 : decode cX4_edit 275 = .ok (.iadd, 1) := by decide +kernel
theorem dX4_edit_276 : decode cX4_edit 276 = .ok (.putfield 56, 3) := by decide +kernel
theorem dX4_edit_279 : decode cX4_edit 279 = .ok (.aload_n 0, 1) := by decide +kernel
theorem dX4_edit_280 : decode cX4_edit 280 = .ok (.iconst 0, 1) := by decide +kernel
theorem dX4_edit_281 : decode cX4_edit 281 = .ok (.putfield 50, 3) := by decide +kernel
theorem dX4_edit_284 : decode cX4_edit 284 = .ok (.aload_n 0, 1) := by decide +kernel
theorem dX4_edit_285 : decode cX4_edit 285 = .ok (.iconst 0, 1) := by decide +kernel
theorem dX4_edit_286 : decode cX4_edit 286 = .ok (.putfield 53, 3) := by decide +kernel
theorem dX4_edit_289 : decode cX4_edit 289 = .ok (.iload 7, 2) := by decide +kernel
theorem dX4_edit_291 : decode cX4_edit 291 = .ok (.ifCond .lt 13, 3) := by decide +kernel
theorem dX4_edit_294 : decode cX4_edit 294 = .ok (.aload_n 0, 1) := by decide +kernel
theorem dX4_edit_295 : decode cX4_edit 295 = .ok (.iload 7, 2) := by decide +kernel
theorem dX4_edit_297 : decode cX4_edit 297 = .ok (.iload_n 1, 1) := by decide +kernel
theorem dX4_edit_298 : decode cX4_edit 298 = .ok (.iload_n 2, 1) := by decide +kernel
theorem dX4_edit_299 : decode cX4_edit 299 = .ok (.iload 5, 2) := by decide +kernel
theorem dX4_edit_301 : decode cX4_edit 301 = .ok (.invokevirtual 89, 3) := by decide +kernel
theorem dX4_edit_304 : decode cX4_edit 304 = .ok (.aload_n 0, 1) := by decide +kernel
theorem dX4_edit_305 : decode cX4_edit 305 = .ok (.invokevirtual 93, 3) := by decide +kernel
theorem dX4_edit_308 : decode cX4_edit 308 = .ok (.aload_n 0, 1) := by decide +kernel
theorem dX4_edit_309 : decode cX4_edit 309 = .ok (.getfield 50, 3) := by decide +kernel
theorem dX4_edit_312 : decode cX4_edit 312 = .ok (.ireturn, 1) := by decide +kernel
theorem dX4_change_0 : decode cX4_change 0 = .ok (.aload_n 0, 1) := by decide +kernel
theorem dX4_change_1 : decode cX4_change 1 = .ok (.getfield 41, 3) := by decide +kernel
theorem dX4_change_4 : decode cX4_change 4 = .ok (.iload_n 2, 1) := by decide +kernel
theorem dX4_change_5 : decode cX4_change 5 = .ok (.isub, 1) := by decide +kernel
theorem dX4_change_6 : decode cX4_change 6 = .ok (.iload 5, 2) := by decide +kernel
theorem dX4_change_8 : decode cX4_change 8 = .ok (.iadd, 1) := by decide +kernel
theorem dX4_change_9 : decode cX4_change 9 = .ok (.istore 6, 2) := by decide +kernel
theorem dX4_change_11 : decode cX4_change 11 = .ok (.iload 5, 2) := by decide +kernel
theorem dX4_change_13 : decode cX4_change 13 = .ok (.iload_n 2, 1) := by decide +kernel
theorem dX4_change_14 : decode cX4_change 14 = .ok (.if_icmp .le 46, 3) := by decide +kernel
theorem dX4_change_17 : decode cX4_change 17 = .ok (.iload 6, 2) := by decide +kernel
theorem dX4_change_19 : decode cX4_change 19 = .ok (.iconst 1, 1) := by decide +kernel
theorem dX4_change_20 : decode cX4_change 20 = .ok (.isub, 1) := by decide +kernel
theorem dX4_change_21 : decode cX4_change 21 = .ok (.istore 7, 2) := by decide +kernel
theorem dX4_change_23 : decode cX4_change 23 = .ok (.iload 7, 2) := by decide +kernel
theorem dX4_change_25 : decode cX4_change 25 = .ok (.iload_n 1, 1) := by decide +kernel
theorem dX4_change_26 : decode cX4_change 26 = .ok (.iload 5, 2) := by decide +kernel
theorem dX4_change_28 : decode cX4_change 28 = .ok (.iadd, 1) := by decide +kernel
theorem dX4_change_29 : decode cX4_change 29 = .ok (.if_icmp .lt 28, 3) := by decide +kernel
theorem dX4_change_32 : decode cX4_change 32 = .ok (.aload_n 0, 1) := by decide +kernel
theorem dX4_change_33 : decode cX4_change 33 = .ok (.getfield 16, 3) := by decide +kernel
theorem dX4_change_36 : decode cX4_change 36 = .ok (.iload 7, 2) := by decide +kernel
theorem dX4_change_38 : decode cX4_change 38 = .ok (.aload_n 0, 1) := by decide +kernel
theorem dX4_change_39 : decode cX4_change 39 = .ok (.getfield 16, 3) := by decide +kernel
theorem dX4_change_42 : decode cX4_change 42 = .ok (.iload 7, 2) := by decide +kernel
theorem dX4_change_44 : decode cX4_change 44 = .ok (.iload 5, 2) := by decide +kernel
theorem dX4_change_46 : decode cX4_change 46 = .ok (.isub, 1) := by decide +kernel
theorem dX4_change_47 : decode cX4_change 47 = .ok (.iload_n 2, 1) := by decide +kernel
theorem dX4_change_48 : decode cX4_change 48 = .ok (.iadd, 1) := by decide +kernel
theorem dX4_change_49 : decode cX4_change 49 = .ok (.iaload, 1) := by decide +kernel
theorem dX4_change_50 : decode cX4_change 50 = .ok (.iastore, 1) := by decide +kernel
theorem dX4_change_51 : decode cX4_change 51 = .ok (.iinc 7 (-1), 3) := by decide +kernel
theorem dX4_change_54 : decode cX4_change 54 = .ok (.goto (-31), 3) := by decide +kernel
theorem dX4_change_57 : decode cX4_change 57 = .ok (.goto 41, 3) := by decide +kernel
theorem dX4_change_60 : decode cX4_change 60 = .ok (.iload_n 1, 1) := by decide +kernel
theorem dX4_change_61 : decode cX4_change 61 = .ok (.iload 5, 2) := by decide +kernel
theorem dX4_change_63 : decode cX4_change 63 = .ok (.iadd, 1) := by decide +kernel
theorem dX4_change_64 : decode cX4_change 64 = .ok (.istore 7, 2) := by decide +kernel
theorem dX4_change_66 : decode cX4_change 66 = .ok (.iload 7, 2) := by decide +kernel
theorem dX4_change_68 : decode cX4_change 68 = .ok (.iload 6, 2) := by decide +kernel
theorem dX4_change_70 : decode cX4_change 70 = .ok (.if_icmp .ge 28, 3) := by decide +kernel
theorem dX4_change_73 : decode cX4_change 73 = .ok (.aload_n 0, 1) := by decide +kernel
theorem dX4_change_74 : decode cX4_change 74 = .ok (.getfield 16, 3) := by decide +kernel
theorem dX4_change_77 : decode cX4_change 77 = .ok (.iload 7, 2) := by decide +kernel
theorem dX4_change_79 : decode cX4_change 79 = .ok (.aload_n 0, 1) := by decide +kernel
theorem dX4_change_80 : decode cX4_change 80 = .ok (.getfield 16, 3) := by decide +kernel
theorem dX4_change_83 : decode cX4_change 83 = .ok (.iload 7, 2) := by decide +kernel
theorem dX4_change_85 : decode cX4_change 85 = .ok (.iload 5, 2) := by decide +kernel
theorem dX4_change_87 : decode cX4_change 87 = .ok (.isub, 1) := by decide +kernel
theorem dX4_change_88 : decode cX4_change 88 = .ok (.iload_n 2, 1) := by decide +kernel
theorem dX4_change_89 : decode cX4_change 89 = .ok (.iadd, 1) := by decide +kernel
theorem dX4_change_90 : decode cX4_change 90 = .ok (.iaload, 1) := by decide +kernel
theorem dX4_change_91 : decode cX4_change 91 = .ok (.iastore, 1) := by decide +kernel
theorem dX4_change_92 : decode cX4_change 92 = .ok (.iinc 7 1, 3) := by decide +kernel
theorem dX4_change_95 : decode cX4_change 95 = .ok (.goto (-29), 3) := by decide +kernel
theorem dX4_change_98 : decode cX4_change 98 = .ok (.iconst 0, 1) := by decide +kernel
theorem dX4_change_99 : decode cX4_change 99 = .ok (.istore 7, 2) := by decide +kernel
theorem dX4_change_101 : decode cX4_change 101 = .ok (.iload 7, 2) := by decide +kernel
theorem dX4_change_103 : decode cX4_change 103 = .ok (.iload 5, 2) := by decide +kernel
theorem dX4_change_105 : decode cX4_change 105 = .ok (.if_icmp .ge 34, 3) := by decide +kernel
theorem dX4_change_108 : decode cX4_change 108 = .ok (.aload_n 0, 1) := by decide +kernel
theorem dX4_change_109 : decode cX4_change 109 = .ok (.getfield 16, 3) := by decide +kernel
theorem dX4_change_112 : decode cX4_change 112 = .ok (.iload_n 1, 1) := by decide +kernel
theorem dX4_change_113 : decode cX4_change 113 = .ok (.iload 7, 2) := by decide +kernel
theorem dX4_change_115 : decode cX4_change 115 = .ok (.iadd, 1) := by decide +kernel
theorem dX4_change_116 : decode cX4_change 116 = .ok (.lload_n 3, 1) := by decide +kernel
theorem dX4_change_117 : decode cX4_change 117 = .ok (.iconst 4, 1) := by decide +kernel
theorem dX4_change_118 : decode cX4_change 118 = .ok (.iload 5, 2) := by decide +kernel
theorem dX4_change_120 : decode cX4_change 120 = .ok (.iconst 1, 1) := by decide +kernel
theorem dX4_change_121 : decode cX4_change 121 = .ok (.isub, 1) := by decide +kernel
theorem dX4_change_122 : decode cX4_change 122 = .ok (.iload 7, 2) := by decide +kernel
theorem dX4_change_124 : decode cX4_change 124 = .ok (.isub, 1) := by decide +kernel
theorem dX4_change_125 : decode cX4_change 125 = .ok (.imul, 1) := by decide +kernel
theorem dX4_change_126 : decode cX4_change 126 = .ok (.lshr, 1) := by decide +kernel
theorem dX4_change_127 : decode cX4_change 127 = .ok (.ldc2_w 81, 3) := by decide +kernel
theorem dX4_change_130 : decode cX4_change 130 = .ok (.land, 1) := by decide +kernel
theorem dX4_change_131 : decode cX4_change 131 = .ok (.l2i, 1) := by decide +kernel
theorem dX4_change_132 : decode cX4_change 132 = .ok (.iastore, 1) := by decide +kernel
theorem dX4_change_133 : decode cX4_change 133 = .ok (.iinc 7 1, 3) := by decide +kernel
theorem dX4_change_136 : decode cX4_change 136 = .ok (.goto (-35), 3) := by decide +kernel
theorem dX4_change_139 : decode cX4_change 139 = .ok (.aload_n 0, 1) := by decide +kernel
theorem dX4_change_140 : decode cX4_change 140 = .ok (.iload 6, 2) := by decide +kernel
theorem dX4_change_142 : decode cX4_change 142 = .ok (.putfield 41, 3) := by decide +kernel
theorem dX4_change_145 : decode cX4_change 145 = .ok (.return_, 1) := by decide +kernel
theorem dX4_goOver_0 : decode cX4_goOver 0 = .ok (.iload_n 1, 1) := by decide +kernel
theorem dX4_goOver_1 : decode cX4_goOver 1 = .ok (.istore 5, 2) := by decide +kernel
theorem dX4_goOver_3 : decode cX4_goOver 3 = .ok (.iconst 1, 1) := by decide +kernel
theorem dX4_goOver_4 : decode cX4_goOver 4 = .ok (.istore 6, 2) := by decide +kernel
theorem dX4_goOver_6 : decode cX4_goOver 6 = .ok (.iload 6, 2) := by decide +kernel
theorem dX4_goOver_8 : decode cX4_goOver 8 = .ok (.ifCond .eq 90, 3) := by decide +kernel
theorem dX4_goOver_11 : decode cX4_goOver 11 = .ok (.iload 5, 2) := by decide +kernel
theorem dX4_goOver_13 : decode cX4_goOver 13 = .ok (.aload_n 0, 1) := by decide +kernel
theorem dX4_goOver_14 : decode cX4_goOver 14 = .ok (.getfield 41, 3) := by decide +kernel
theorem dX4_goOver_17 : decode cX4_goOver 17 = .ok (.if_icmp .ge 81, 3) := by decide +kernel
theorem dX4_goOver_20 : decode cX4_goOver 20 = .ok (.iload 5, 2) := by decide +kernel
theorem dX4_goOver_22 : decode cX4_goOver 22 = .ok (.iload_n 2, 1) := by decide +kernel
theorem dX4_goOver_23 : decode cX4_goOver 23 = .ok (.iload 4, 2) := by decide +kernel
theorem dX4_goOver_25 : decode cX4_goOver 25 = .ok (.iadd, 1) := by decide +kernel
theorem dX4_goOver_26 : decode cX4_goOver 26 = .ok (.if_icmp .lt 17, 3) := by decide +kernel
theorem dX4_goOver_29 : decode cX4_goOver 29 = .ok (.aload_n 0, 1) := by decide +kernel
theorem dX4_goOver_30 : decode cX4_goOver 30 = .ok (.iload 5, 2) := by decide +kernel
theorem dX4_goOver_32 : decode cX4_goOver 32 = .ok (.iload 4, 2) := by decide +kernel
theorem dX4_goOver_34 : decode cX4_goOver 34 = .ok (.isub, 1) := by decide +kernel
theorem dX4_goOver_35 : decode cX4_goOver 35 = .ok (.iload_n 3, 1) := by decide +kernel
theorem dX4_goOver_36 : decode cX4_goOver 36 = .ok (.iadd, 1) := by decide +kernel
theorem dX4_goOver_37 : decode cX4_goOver 37 = .ok (.invokevirtual 96, 3) := by decide +kernel
theorem dX4_goOver_40 : decode cX4_goOver 40 = .ok (.ifCond .ne 58, 3) := by decide +kernel
theorem dX4_goOver_43 : decode cX4_goOver 43 = .ok (.aload_n 0, 1) := by decide +kernel
theorem dX4_goOver_44 : decode cX4_goOver 44 = .ok (.iload 5, 2) := by decide +kernel
theorem dX4_goOver_46 : decode cX4_goOver 46 = .ok (.invokevirtual 68, 3) := by decide +kernel
theorem dX4_goOver_49 : decode cX4_goOver 49 = .ok (.istore 6, 2) := by decide +kernel
theorem dX4_goOver_51 : decode cX4_goOver 51 = .ok (.aload_n 0, 1) := by decide +kernel
theorem dX4_goOver_52 : decode cX4_goOver 52 = .ok (.aload_n 0, 1) := by decide +kernel
theorem dX4_goOver_53 : decode cX4_goOver 53 = .ok (.getfield 50, 3) := by decide +kernel
theorem dX4_goOver_56 : decode cX4_goOver 56 = .ok (.aload_n 0, 1) := by decide +kernel
theorem dX4_goOver_57 : decode cX4_goOver 57 = .ok (.getfield 65, 3) := by decide +kernel
theorem dX4_goOver_60 : decode cX4_goOver 60 = .ok (.iadd, 1) := by decide +kernel
theorem dX4_goOver_61 : decode cX4_goOver 61 = .ok (.putfield 50, 3) := by decide +kernel
theorem dX4_goOver_64 : decode cX4_goOver 64 = .ok (.aload_n 0, 1) := by decide +kernel
theorem dX4_goOver_65 : decode cX4_goOver 65 = .ok (.iload 6, 2) := by decide +kernel
theorem dX4_goOver_67 : decode cX4_goOver 67 = .ok (.ifCond .eq 12, 3) := by decide +kernel
theorem dX4_goOver_70 : decode cX4_goOver 70 = .ok (.aload_n 0, 1) := by decide +kernel
theorem dX4_goOver_71 : decode cX4_goOver 71 = .ok (.getfield 53, 3) := by decide +kernel
theorem dX4_goOver_74 : decode cX4_goOver 74 = .ok (.iconst 1, 1) := by decide +kernel
theorem dX4_goOver_75 : decode cX4_goOver 75 = .ok (.iadd, 1) := by decide +kernel
theorem dX4_goOver_76 : decode cX4_goOver 76 = .ok (.goto 7, 3) := by decide +kernel
theorem dX4_goOver_79 : decode cX4_goOver 79 = .ok (.aload_n 0, 1) := by decide +kernel
theorem dX4_goOver_80 : decode cX4_goOver 80 = .ok (.getfield 53, 3) := by decide +kernel
theorem dX4_goOver_83 : decode cX4_goOver 83 = .ok (.putfield 53, 3) := by decide +kernel
theorem dX4_goOver_86 : decode cX4_goOver 86 = .ok (.iload 5, 2) := by decide +kernel
theorem dX4_goOver_88 : decode cX4_goOver 88 = .ok (.aload_n 0, 1) := by decide +kernel
theorem dX4_goOver_89 : decode cX4_goOver 89 = .ok (.getfield 59, 3) := by decide +kernel
theorem dX4_goOver_92 : decode cX4_goOver 92 = .ok (.iadd, 1) := by decide +kernel
theorem dX4_goOver_93 : decode cX4_goOver 93 = .ok (.istore 5, 2) := by decide +kernel
theorem dX4_goOver_95 : decode cX4_goOver 95 = .ok (.goto (-89), 3) := by decide +kernel
theorem dX4_goOver_98 : decode cX4_goOver 98 = .ok (.return_, 1) := by decide +kernel
theorem dX4_token_0 : decode cX4_token 0 = .ok (.iload_n 1, 1) := by decide +kernel
theorem dX4_token_1 : decode cX4_token 1 = .ok (.ifCond .lt 11, 3) := by decide +kernel
theorem dX4_token_4 : decode cX4_token 4 = .ok (.iload_n 1, 1) := by decide +kernel
theorem dX4_token_5 : decode cX4_token 5 = .ok (.aload_n 0, 1) := by decide +kernel
theorem dX4_token_6 : decode cX4_token 6 = .ok (.getfield 44, 3) := by decide +kernel
theorem dX4_token_9 : decode cX4_token 9 = .ok (.if_icmp .lt 5, 3) := by decide +kernel
theorem dX4_token_12 : decode cX4_token 12 = .ok (.iconst (-1), 1) := by decide +kernel
theorem dX4_token_13 : decode cX4_token 13 = .ok (.ireturn, 1) := by decide +kernel
theorem dX4_token_14 : decode cX4_token 14 = .ok (.iload_n 2, 1) := by decide +kernel
theorem dX4_token_15 : decode cX4_token 15 = .ok (.ifCond .ne 12, 3) := by decide +kernel
theorem dX4_token_18 : decode cX4_token 18 = .ok (.aload_n 0, 1) := by decide +kernel
theorem dX4_token_19 : decode cX4_token 19 = .ok (.getfield 19, 3) := by decide +kernel
theorem dX4_token_22 : decode cX4_token 22 = .ok (.iload_n 1, 1) := by decide +kernel
theorem dX4_token_23 : decode cX4_token 23 = .ok (.iaload, 1) := by decide +kernel
theorem dX4_token_24 : decode cX4_token 24 = .ok (.goto 46, 3) := by decide +kernel
theorem dX4_token_27 : decode cX4_token 27 = .ok (.iload_n 2, 1) := by decide +kernel
theorem dX4_token_28 : decode cX4_token 28 = .ok (.iconst 1, 1) := by decide +kernel
theorem dX4_token_29 : decode cX4_token 29 = .ok (.if_icmp .ne 12, 3) := by decide +kernel
theorem dX4_token_32 : decode cX4_token 32 = .ok (.aload_n 0, 1) := by decide +kernel
theorem dX4_token_33 : decode cX4_token 33 = .ok (.getfield 22, 3) := by decide +kernel
theorem dX4_token_36 : decode cX4_token 36 = .ok (.iload_n 1, 1) := by decide +kernel
theorem dX4_token_37 : decode cX4_token 37 = .ok (.iaload, 1) := by decide +kernel
theorem dX4_token_38 : decode cX4_token 38 = .ok (.goto 32, 3) := by decide +kernel
theorem dX4_token_41 : decode cX4_token 41 = .ok (.iload_n 2, 1) := by decide +kernel
theorem dX4_token_42 : decode cX4_token 42 = .ok (.iconst 2, 1) := by decide +kernel
theorem dX4_token_43 : decode cX4_token 43 = .ok (.if_icmp .ne 12, 3) := by decide +kernel
theorem dX4_token_46 : decode cX4_token 46 = .ok (.aload_n 0, 1) := by decide +kernel
theorem dX4_token_47 : decode cX4_token 47 = .ok (.getfield 25, 3) := by decide +kernel
theorem dX4_token_50 : decode cX4_token 50 = .ok (.iload_n 1, 1) := by decide +kernel
theorem dX4_token_51 : decode cX4_token 51 = .ok (.iaload, 1) := by decide +kernel
theorem dX4_token_52 : decode cX4_token 52 = .ok (.goto 18, 3) := by decide +kernel
theorem dX4_token_55 : decode cX4_token 55 = .ok (.iload_n 2, 1) := by decide +kernel
theorem dX4_token_56 : decode cX4_token 56 = .ok (.iconst 3, 1) := by decide +kernel
theorem dX4_token_57 : decode cX4_token 57 = .ok (.if_icmp .ne 12, 3) := by decide +kernel
theorem dX4_token_60 : decode cX4_token 60 = .ok (.aload_n 0, 1) := by decide +kernel
theorem dX4_token_61 : decode cX4_token 61 = .ok (.getfield 28, 3) := by decide +kernel
theorem dX4_token_64 : decode cX4_token 64 = .ok (.iload_n 1, 1) := by decide +kernel
theorem dX4_token_65 : decode cX4_token 65 = .ok (.iaload, 1) := by decide +kernel
theorem dX4_token_66 : decode cX4_token 66 = .ok (.goto 4, 3) := by decide +kernel
theorem dX4_token_69 : decode cX4_token 69 = .ok (.iconst (-1), 1) := by decide +kernel
theorem dX4_token_70 : decode cX4_token 70 = .ok (.ireturn, 1) := by decide +kernel
theorem dX4_tokenAt_0 : decode cX4_tokenAt 0 = .ok (.iconst (-1), 1) := by decide +kernel
theorem dX4_tokenAt_1 : decode cX4_tokenAt 1 = .ok (.istore_n 2, 1) := by decide +kernel
theorem dX4_tokenAt_2 : decode cX4_tokenAt 2 = .ok (.iconst 0, 1) := by decide +kernel
theorem dX4_tokenAt_3 : decode cX4_tokenAt 3 = .ok (.istore_n 3, 1) := by decide +kernel
theorem dX4_tokenAt_4 : decode cX4_tokenAt 4 = .ok (.iload_n 3, 1) := by decide +kernel
theorem dX4_tokenAt_5 : decode cX4_tokenAt 5 = .ok (.aload_n 0, 1) := by decide +kernel
theorem dX4_tokenAt_6 : decode cX4_tokenAt 6 = .ok (.getfield 44, 3) := by decide +kernel
theorem dX4_tokenAt_9 : decode cX4_tokenAt 9 = .ok (.if_icmp .ge 42, 3) := by decide +kernel
theorem dX4_tokenAt_12 : decode cX4_tokenAt 12 = .ok (.iload_n 1, 1) := by decide +kernel
theorem dX4_tokenAt_13 : decode cX4_tokenAt 13 = .ok (.aload_n 0, 1) := by decide +kernel
theorem dX4_tokenAt_14 : decode cX4_tokenAt 14 = .ok (.getfield 19, 3) := by decide +kernel
theorem dX4_tokenAt_17 : decode cX4_tokenAt 17 = .ok (.iload_n 3, 1) := by decide +kernel
theorem dX4_tokenAt_18 : decode cX4_tokenAt 18 = .ok (.iaload, 1) := by decide +kernel
theorem dX4_tokenAt_19 : decode cX4_tokenAt 19 = .ok (.if_icmp .lt 24, 3) := by decide +kernel
theorem dX4_tokenAt_22 : decode cX4_tokenAt 22 = .ok (.iload_n 1, 1) := by decide +kernel
theorem dX4_tokenAt_23 : decode cX4_tokenAt 23 = .ok (.aload_n 0, 1) := by decide +kernel
theorem dX4_tokenAt_24 : decode cX4_tokenAt 24 = .ok (.getfield 19, 3) := by decide +kernel
theorem dX4_tokenAt_27 : decode cX4_tokenAt 27 = .ok (.iload_n 3, 1) := by decide +kernel
theorem dX4_tokenAt_28 : decode cX4_tokenAt 28 = .ok (.iaload, 1) := by decide +kernel
theorem dX4_tokenAt_29 : decode cX4_tokenAt 29 = .ok (.aload_n 0, 1) := by decide +kernel
theorem dX4_tokenAt_30 : decode cX4_tokenAt 30 = .ok (.getfield 22, 3) := by decide +kernel
theorem dX4_tokenAt_33 : decode cX4_tokenAt 33 = .ok (.iload_n 3, 1) := by decide +kernel
theorem dX4_tokenAt_34 : decode cX4_tokenAt 34 = .ok (.iaload, 1) := by decide +kernel
theorem dX4_tokenAt_35 : decode cX4_tokenAt 35 = .ok (.iadd, 1) := by decide +kernel
theorem dX4_tokenAt_36 : decode cX4_tokenAt 36 = .ok (.if_icmp .ge 7, 3) := by decide +kernel
theorem dX4_tokenAt_39 : decode cX4_tokenAt 39 = .ok (.iload_n 3, 1) := by decide +kernel
theorem dX4_tokenAt_40 : decode cX4_tokenAt 40 = .ok (.goto 4, 3) := by decide +kernel
theorem dX4_tokenAt_43 : decode cX4_tokenAt 43 = .ok (.iload_n 2, 1) := by decide +kernel
theorem dX4_tokenAt_44 : decode cX4_tokenAt 44 = .ok (.istore_n 2, 1) := by decide +kernel
theorem dX4_tokenAt_45 : decode cX4_tokenAt 45 = .ok (.iinc 3 1, 3) := by decide +kernel
theorem dX4_tokenAt_48 : decode cX4_tokenAt 48 = .ok (.goto (-44), 3) := by decide +kernel
theorem dX4_tokenAt_51 : decode cX4_tokenAt 51 = .ok (.iload_n 2, 1) := by decide +kernel
theorem dX4_tokenAt_52 : decode cX4_tokenAt 52 = .ok (.ireturn, 1) := by decide +kernel
theorem dX4_symbol_0 : decode cX4_symbol 0 = .ok (.iload_n 1, 1) := by decide +kernel
theorem dX4_symbol_1 : decode cX4_symbol 1 = .ok (.ifCond .lt 20, 3) := by decide +kernel
theorem dX4_symbol_4 : decode cX4_symbol 4 = .ok (.iload_n 1, 1) := by decide +kernel
theorem dX4_symbol_5 : decode cX4_symbol 5 = .ok (.aload_n 0, 1) := by decide +kernel
theorem dX4_symbol_6 : decode cX4_symbol 6 = .ok (.getfield 41, 3) := by decide +kernel
theorem dX4_symbol_9 : decode cX4_symbol 9 = .ok (.if_icmp .ge 12, 3) := by decide +kernel
theorem dX4_symbol_12 : decode cX4_symbol 12 = .ok (.aload_n 0, 1) := by decide +kernel
theorem dX4_symbol_13 : decode cX4_symbol 13 = .ok (.getfield 16, 3) := by decide +kernel
theorem dX4_symbol_16 : decode cX4_symbol 16 = .ok (.iload_n 1, 1) := by decide +kernel
theorem dX4_symbol_17 : decode cX4_symbol 17 = .ok (.iaload, 1) := by decide +kernel
theorem dX4_symbol_18 : decode cX4_symbol 18 = .ok (.goto 4, 3) := by decide +kernel
theorem dX4_symbol_21 : decode cX4_symbol 21 = .ok (.iconst (-1), 1) := by decide +kernel
theorem dX4_symbol_22 : decode cX4_symbol 22 = .ok (.ireturn, 1) := by decide +kernel
theorem dX4_count_0 : decode cX4_count 0 = .ok (.iload_n 1, 1) := by decide +kernel
theorem dX4_count_1 : decode cX4_count 1 = .ok (.ifCond .ne 10, 3) := by decide +kernel
theorem dX4_count_4 : decode cX4_count 4 = .ok (.aload_n 0, 1) := by decide +kernel
theorem dX4_count_5 : decode cX4_count 5 = .ok (.getfield 44, 3) := by decide +kernel
theorem dX4_count_8 : decode cX4_count 8 = .ok (.goto 77, 3) := by decide +kernel
theorem dX4_count_11 : decode cX4_count 11 = .ok (.iload_n 1, 1) := by decide +kernel
theorem dX4_count_12 : decode cX4_count 12 = .ok (.iconst 1, 1) := by decide +kernel
theorem dX4_count_13 : decode cX4_count 13 = .ok (.if_icmp .ne 10, 3) := by decide +kernel
theorem dX4_count_16 : decode cX4_count 16 = .ok (.aload_n 0, 1) := by decide +kernel
theorem dX4_count_17 : decode cX4_count 17 = .ok (.getfield 41, 3) := by decide +kernel
theorem dX4_count_20 : decode cX4_count 20 = .ok (.goto 65, 3) := by decide +kernel
theorem dX4_count_23 : decode cX4_count 23 = .ok (.iload_n 1, 1) := by decide +kernel
theorem dX4_count_24 : decode cX4_count 24 = .ok (.iconst 2, 1) := by decide +kernel
theorem dX4_count_25 : decode cX4_count 25 = .ok (.if_icmp .ne 10, 3) := by decide +kernel
theorem dX4_count_28 : decode cX4_count 28 = .ok (.aload_n 0, 1) := by decide +kernel
theorem dX4_count_29 : decode cX4_count 29 = .ok (.getfield 31, 3) := by decide +kernel
theorem dX4_count_32 : decode cX4_count 32 = .ok (.goto 53, 3) := by decide +kernel
theorem dX4_count_35 : decode cX4_count 35 = .ok (.iload_n 1, 1) := by decide +kernel
theorem dX4_count_36 : decode cX4_count 36 = .ok (.iconst 3, 1) := by decide +kernel
theorem dX4_count_37 : decode cX4_count 37 = .ok (.if_icmp .ne 10, 3) := by decide +kernel
theorem dX4_count_40 : decode cX4_count 40 = .ok (.aload_n 0, 1) := by decide +kernel
theorem dX4_count_41 : decode cX4_count 41 = .ok (.getfield 47, 3) := by decide +kernel
theorem dX4_count_44 : decode cX4_count 44 = .ok (.goto 41, 3) := by decide +kernel
theorem dX4_count_47 : decode cX4_count 47 = .ok (.iload_n 1, 1) := by decide +kernel
theorem dX4_count_48 : decode cX4_count 48 = .ok (.iconst 4, 1) := by decide +kernel
theorem dX4_count_49 : decode cX4_count 49 = .ok (.if_icmp .ne 10, 3) := by decide +kernel
theorem dX4_count_52 : decode cX4_count 52 = .ok (.aload_n 0, 1) := by decide +kernel
theorem dX4_count_53 : decode cX4_count 53 = .ok (.getfield 50, 3) := by decide +kernel
theorem dX4_count_56 : decode cX4_count 56 = .ok (.goto 29, 3) := by decide +kernel
theorem dX4_count_59 : decode cX4_count 59 = .ok (.iload_n 1, 1) := by decide +kernel
theorem dX4_count_60 : decode cX4_count 60 = .ok (.iconst 5, 1) := by decide +kernel
theorem dX4_count_61 : decode cX4_count 61 = .ok (.if_icmp .ne 10, 3) := by decide +kernel
theorem dX4_count_64 : decode cX4_count 64 = .ok (.aload_n 0, 1) := by decide +kernel
theorem dX4_count_65 : decode cX4_count 65 = .ok (.getfield 53, 3) := by decide +kernel
theorem dX4_count_68 : decode cX4_count 68 = .ok (.goto 17, 3) := by decide +kernel
theorem dX4_count_71 : decode cX4_count 71 = .ok (.iload_n 1, 1) := by decide +kernel
theorem dX4_count_72 : decode cX4_count 72 = .ok (.bipush 6, 2) := by decide +kernel
theorem dX4_count_74 : decode cX4_count 74 = .ok (.if_icmp .ne 10, 3) := by decide +kernel
theorem dX4_count_77 : decode cX4_count 77 = .ok (.aload_n 0, 1) := by decide +kernel
theorem dX4_count_78 : decode cX4_count 78 = .ok (.getfield 56, 3) := by decide +kernel
theorem dX4_count_81 : decode cX4_count 81 = .ok (.goto 4, 3) := by decide +kernel
theorem dX4_count_84 : decode cX4_count 84 = .ok (.iconst (-1), 1) := by decide +kernel
theorem dX4_count_85 : decode cX4_count 85 = .ok (.ireturn, 1) := by decide +kernel
theorem dX4_clear_0 : decode cX4_clear 0 = .ok (.aload_n 0, 1) := by decide +kernel
theorem dX4_clear_1 : decode cX4_clear 1 = .ok (.getfield 44, 3) := by decide +kernel
theorem dX4_clear_4 : decode cX4_clear 4 = .ok (.istore_n 1, 1) := by decide +kernel
theorem dX4_clear_5 : decode cX4_clear 5 = .ok (.aload_n 0, 1) := by decide +kernel
theorem dX4_clear_6 : decode cX4_clear 6 = .ok (.invokevirtual 38, 3) := by decide +kernel
theorem dX4_clear_9 : decode cX4_clear 9 = .ok (.iload_n 1, 1) := by decide +kernel
theorem dX4_clear_10 : decode cX4_clear 10 = .ok (.ireturn, 1) := by decide +kernel
