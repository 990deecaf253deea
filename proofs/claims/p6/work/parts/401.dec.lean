theorem dX11_init_0 : decode cX11_init 0 = .ok (.aload_n 0, 1) := by decide +kernel
theorem dX11_init_1 : decode cX11_init 1 = .ok (.invokespecial 1, 3) := by decide +kernel
theorem dX11_init_4 : decode cX11_init 4 = .ok (.aload_n 0, 1) := by decide +kernel
theorem dX11_init_5 : decode cX11_init 5 = .ok (.sipush 334, 3) := by decide +kernel
theorem dX11_init_8 : decode cX11_init 8 = .ok (.newarray .long, 2) := by decide +kernel
theorem dX11_init_10 : decode cX11_init 10 = .ok (.putfield 7, 3) := by decide +kernel
theorem dX11_init_13 : decode cX11_init 13 = .ok (.aload_n 0, 1) := by decide +kernel
theorem dX11_init_14 : decode cX11_init 14 = .ok (.sipush 334, 3) := by decide +kernel
theorem dX11_init_17 : decode cX11_init 17 = .ok (.newarray .long, 2) := by decide +kernel
theorem dX11_init_19 : decode cX11_init 19 = .ok (.putfield 13, 3) := by decide +kernel
theorem dX11_init_22 : decode cX11_init 22 = .ok (.aload_n 0, 1) := by decide +kernel
theorem dX11_init_23 : decode cX11_init 23 = .ok (.sipush 334, 3) := by decide +kernel
theorem dX11_init_26 : decode cX11_init 26 = .ok (.newarray .long, 2) := by decide +kernel
theorem dX11_init_28 : decode cX11_init 28 = .ok (.putfield 16, 3) := by decide +kernel
theorem dX11_init_31 : decode cX11_init 31 = .ok (.aload_n 0, 1) := by decide +kernel
theorem dX11_init_32 : decode cX11_init 32 = .ok (.sipush 334, 3) := by decide +kernel
theorem dX11_init_35 : decode cX11_init 35 = .ok (.newarray .long, 2) := by decide +kernel
theorem dX11_init_37 : decode cX11_init 37 = .ok (.putfield 19, 3) := by decide +kernel
theorem dX11_init_40 : decode cX11_init 40 = .ok (.aload_n 0, 1) := by decide +kernel
theorem dX11_init_41 : decode cX11_init 41 = .ok (.sipush 334, 3) := by decide +kernel
theorem dX11_init_44 : decode cX11_init 44 = .ok (.newarray .long, 2) := by decide +kernel
theorem dX11_init_46 : decode cX11_init 46 = .ok (.putfield 22, 3) := by decide +kernel
theorem dX11_init_49 : decode cX11_init 49 = .ok (.aload_n 0, 1) := by decide +kernel
theorem dX11_init_50 : decode cX11_init 50 = .ok (.sipush 3340, 3) := by decide +kernel
theorem dX11_init_53 : decode cX11_init 53 = .ok (.newarray .long, 2) := by decide +kernel
theorem dX11_init_55 : decode cX11_init 55 = .ok (.putfield 25, 3) := by decide +kernel
theorem dX11_init_58 : decode cX11_init 58 = .ok (.aload_n 0, 1) := by decide +kernel
theorem dX11_init_59 : decode cX11_init 59 = .ok (.bipush 12, 2) := by decide +kernel
theorem dX11_init_61 : decode cX11_init 61 = .ok (.newarray .long, 2) := by decide +kernel
theorem dX11_init_63 : decode cX11_init 63 = .ok (.putfield 28, 3) := by decide +kernel
theorem dX11_init_66 : decode cX11_init 66 = .ok (.aload_n 0, 1) := by decide +kernel
theorem dX11_init_67 : decode cX11_init 67 = .ok (.bipush 12, 2) := by decide +kernel
theorem dX11_init_69 : decode cX11_init 69 = .ok (.newarray .boolean, 2) := by decide +kernel
theorem dX11_init_71 : decode cX11_init 71 = .ok (.putfield 31, 3) := by decide +kernel
theorem dX11_init_74 : decode cX11_init 74 = .ok (.aload_n 0, 1) := by decide +kernel
theorem dX11_init_75 : decode cX11_init 75 = .ok (.sipush 400, 3) := by decide +kernel
theorem dX11_init_78 : decode cX11_init 78 = .ok (.newarray .byte, 2) := by decide +kernel
theorem dX11_init_80 : decode cX11_init 80 = .ok (.putfield 35, 3) := by decide +kernel
theorem dX11_init_83 : decode cX11_init 83 = .ok (.aload_n 0, 1) := by decide +kernel
theorem dX11_init_84 : decode cX11_init 84 = .ok (.iconst (-1), 1) := by decide +kernel
theorem dX11_init_85 : decode cX11_init 85 = .ok (.putfield 39, 3) := by decide +kernel
theorem dX11_init_88 : decode cX11_init 88 = .ok (.aload_n 0, 1) := by decide +kernel
theorem dX11_init_89 : decode cX11_init 89 = .ok (.bipush 6, 2) := by decide +kernel
theorem dX11_init_91 : decode cX11_init 91 = .ok (.newarray .long, 2) := by decide +kernel
theorem dX11_init_93 : decode cX11_init 93 = .ok (.putfield 43, 3) := by decide +kernel
theorem dX11_init_96 : decode cX11_init 96 = .ok (.aload_n 0, 1) := by decide +kernel
theorem dX11_init_97 : decode cX11_init 97 = .ok (.bipush 6, 2) := by decide +kernel
theorem dX11_init_99 : decode cX11_init 99 = .ok (.newarray .long, 2) := by decide +kernel
theorem dX11_init_101 : decode cX11_init 101 = .ok (.putfield 46, 3) := by decide +kernel
theorem dX11_init_104 : decode cX11_init 104 = .ok (.aload_n 0, 1) := by decide +kernel
theorem dX11_init_105 : decode cX11_init 105 = .ok (.sipush 2400, 3) := by decide +kernel
theorem dX11_init_108 : decode cX11_init 108 = .ok (.newarray .byte, 2) := by decide +kernel
theorem dX11_init_110 : decode cX11_init 110 = .ok (.putfield 49, 3) := by decide +kernel
theorem dX11_init_113 : decode cX11_init 113 = .ok (.aload_n 0, 1) := by decide +kernel
theorem dX11_init_114 : decode cX11_init 114 = .ok (.getfield 7, 3) := by decide +kernel
theorem dX11_init_117 : decode cX11_init 117 = .ok (.invokestatic 52, 3) := by decide +kernel
theorem dX11_init_120 : decode cX11_init 120 = .ok (.return_, 1) := by decide +kernel
theorem dX11_lay_0 : decode cX11_lay 0 = .ok (.iconst 0, 1) := by decide +kernel
theorem dX11_lay_1 : decode cX11_lay 1 = .ok (.istore_n 1, 1) := by decide +kernel
theorem dX11_lay_2 : decode cX11_lay 2 = .ok (.iload_n 1, 1) := by decide +kernel
theorem dX11_lay_3 : decode cX11_lay 3 = .ok (.sipush 334, 3) := by decide +kernel
theorem dX11_lay_6 : decode cX11_lay 6 = .ok (.if_icmp .ge 13, 3) := by decide +kernel
theorem dX11_lay_9 : decode cX11_lay 9 = .ok (.aload_n 0, 1) := by decide +kernel
theorem dX11_lay_10 : decode cX11_lay 10 = .ok (.iload_n 1, 1) := by decide +kernel
theorem dX11_lay_11 : decode cX11_lay 11 = .ok (.lconst 0, 1) := by decide +kernel
theorem dX11_lay_12 : decode cX11_lay 12 = .ok (.lastore, 1) := by decide +kernel
theorem dX11_lay_13 : decode cX11_lay 13 = .ok (.iinc 1 1, 3) := by decide +kernel
theorem dX11_lay_16 : decode cX11_lay 16 = .ok (.goto (-14), 3) := by decide +kernel
theorem dX11_lay_19 : decode cX11_lay 19 = .ok (.aload_n 0, 1) := by decide +kernel
theorem dX11_lay_20 : decode cX11_lay 20 = .ok (.iconst 0, 1) := by decide +kernel
theorem dX11_lay_21 : decode cX11_lay 21 = .ok (.lconst 1, 1) := by decide +kernel
theorem dX11_lay_22 : decode cX11_lay 22 = .ok (.lastore, 1) := by decide +kernel
theorem dX11_lay_23 : decode cX11_lay 23 = .ok (.aload_n 0, 1) := by decide +kernel
theorem dX11_lay_24 : decode cX11_lay 24 = .ok (.iconst 4, 1) := by decide +kernel
theorem dX11_lay_25 : decode cX11_lay 25 = .ok (.ldc2_w 56, 3) := by decide +kernel
theorem dX11_lay_28 : decode cX11_lay 28 = .ok (.lastore, 1) := by decide +kernel
theorem dX11_lay_29 : decode cX11_lay 29 = .ok (.return_, 1) := by decide +kernel
theorem dX11_in_0 : decode cX11_in 0 = .ok (.lload_n 0, 1) := by decide +kernel
theorem dX11_in_1 : decode cX11_in 1 = .ok (.lload_n 2, 1) := by decide +kernel
theorem dX11_in_2 : decode cX11_in 2 = .ok (.lcmp, 1) := by decide +kernel
theorem dX11_in_3 : decode cX11_in 3 = .ok (.ifCond .lt 14, 3) := by decide +kernel
theorem dX11_in_6 : decode cX11_in 6 = .ok (.lload_n 0, 1) := by decide +kernel
theorem dX11_in_7 : decode cX11_in 7 = .ok (.lload 4, 2) := by decide +kernel
theorem dX11_in_9 : decode cX11_in 9 = .ok (.lcmp, 1) := by decide +kernel
theorem dX11_in_10 : decode cX11_in 10 = .ok (.ifCond .gt 7, 3) := by decide +kernel
theorem dX11_in_13 : decode cX11_in 13 = .ok (.iconst 1, 1) := by decide +kernel
theorem dX11_in_14 : decode cX11_in 14 = .ok (.goto 4, 3) := by decide +kernel
theorem dX11_in_17 : decode cX11_in 17 = .ok (.iconst 0, 1) := by decide +kernel
theorem dX11_in_18 : decode cX11_in 18 = .ok (.ireturn, 1) := by decide +kernel
theorem dX11_no_0 : decode cX11_no 0 = .ok (.aload_n 0, 1) := by decide +kernel
theorem dX11_no_1 : decode cX11_no 1 = .ok (.iload_n 1, 1) := by decide +kernel
theorem dX11_no_2 : decode cX11_no 2 = .ok (.putfield 58, 3) := by decide +kernel
theorem dX11_no_5 : decode cX11_no 5 = .ok (.iconst 0, 1) := by decide +kernel
theorem dX11_no_6 : decode cX11_no 6 = .ok (.ireturn, 1) := by decide +kernel
theorem dX11_fails_0 : decode cX11_fails 0 = .ok (.aload_n 0, 1) := by decide +kernel
theorem dX11_fails_1 : decode cX11_fails 1 = .ok (.iload_n 1, 1) := by decide +kernel
theorem dX11_fails_2 : decode cX11_fails 2 = .ok (.ifCond .eq 7, 3) := by decide +kernel
theorem dX11_fails_5 : decode cX11_fails 5 = .ok (.iload_n 2, 1) := by decide +kernel
theorem dX11_fails_6 : decode cX11_fails 6 = .ok (.goto 4, 3) := by decide +kernel
theorem dX11_fails_9 : decode cX11_fails 9 = .ok (.iconst 0, 1) := by decide +kernel
theorem dX11_fails_10 : decode cX11_fails 10 = .ok (.putfield 58, 3) := by decide +kernel
theorem dX11_fails_13 : decode cX11_fails 13 = .ok (.iload_n 1, 1) := by decide +kernel
theorem dX11_fails_14 : decode cX11_fails 14 = .ok (.ireturn, 1) := by decide +kernel
theorem dX11_isInvestor_0 : decode cX11_isInvestor 0 = .ok (.iload_n 1, 1) := by decide +kernel
theorem dX11_isInvestor_1 : decode cX11_isInvestor 1 = .ok (.i2l, 1) := by decide +kernel
theorem dX11_isInvestor_2 : decode cX11_isInvestor 2 = .ok (.lconst 0, 1) := by decide +kernel
theorem dX11_isInvestor_3 : decode cX11_isInvestor 3 = .ok (.aload_n 0, 1) := by decide +kernel
theorem dX11_isInvestor_4 : decode cX11_isInvestor 4 = .ok (.getfield 7, 3) := by decide +kernel
theorem dX11_isInvestor_7 : decode cX11_isInvestor 7 = .ok (.iconst 0, 1) := by decide +kernel
theorem dX11_isInvestor_8 : decode cX11_isInvestor 8 = .ok (.laload, 1) := by decide +kernel
theorem dX11_isInvestor_9 : decode cX11_isInvestor 9 = .ok (.lconst 1, 1) := by decide +kernel
theorem dX11_isInvestor_10 : decode cX11_isInvestor 10 = .ok (.lsub, 1) := by decide +kernel
theorem dX11_isInvestor_11 : decode cX11_isInvestor 11 = .ok (.invokestatic 61, 3) := by decide +kernel
theorem dX11_isInvestor_14 : decode cX11_isInvestor 14 = .ok (.ireturn, 1) := by decide +kernel
theorem dX11_isNoInvestor_0 : decode cX11_isNoInvestor 0 = .ok (.aload_n 0, 1) := by decide +kernel
theorem dX11_isNoInvestor_1 : decode cX11_isNoInvestor 1 = .ok (.aload_n 0, 1) := by decide +kernel
theorem dX11_isNoInvestor_2 : decode cX11_isNoInvestor 2 = .ok (.iload_n 1, 1) := by decide +kernel
theorem dX11_isNoInvestor_3 : decode cX11_isNoInvestor 3 = .ok (.invokevirtual 65, 3) := by decide +kernel
theorem dX11_isNoInvestor_6 : decode cX11_isNoInvestor 6 = .ok (.ifCond .ne 7, 3) := by decide +kernel
theorem dX11_isNoInvestor_9 : decode cX11_isNoInvestor 9 = .ok (.iconst 1, 1) := by decide +kernel
theorem dX11_isNoInvestor_10 : decode cX11_isNoInvestor 10 = .ok (.goto 4, 3) := by decide +kernel
theorem dX11_isNoInvestor_13 : decode cX11_isNoInvestor 13 = .ok (.iconst 0, 1) := by decide +kernel
theorem dX11_isNoInvestor_14 : decode cX11_isNoInvestor 14 = .ok (.iconst 1, 1) := by decide +kernel
theorem dX11_isNoInvestor_15 : decode cX11_isNoInvestor 15 = .ok (.invokevirtual 69, 3) := by decide +kernel
theorem dX11_isNoInvestor_18 : decode cX11_isNoInvestor 18 = .ok (.ireturn, 1) := by decide +kernel
theorem dX11_isNoRequest_0 : decode cX11_isNoRequest 0 = .ok (.aload_n 0, 1) := by decide +kernel
theorem dX11_isNoRequest_1 : decode cX11_isNoRequest 1 = .ok (.iload_n 1, 1) := by decide +kernel
theorem dX11_isNoRequest_2 : decode cX11_isNoRequest 2 = .ok (.i2l, 1) := by decide +kernel
theorem dX11_isNoRequest_3 : decode cX11_isNoRequest 3 = .ok (.lconst 0, 1) := by decide +kernel
theorem dX11_isNoRequest_4 : decode cX11_isNoRequest 4 = .ok (.aload_n 0, 1) := by decide +kernel
theorem dX11_isNoRequest_5 : decode cX11_isNoRequest 5 = .ok (.getfield 7, 3) := by decide +kernel
theorem dX11_isNoRequest_8 : decode cX11_isNoRequest 8 = .ok (.bipush 8, 2) := by decide +kernel
theorem dX11_isNoRequest_10 : decode cX11_isNoRequest 10 = .ok (.laload, 1) := by decide +kernel
theorem dX11_isNoRequest_11 : decode cX11_isNoRequest 11 = .ok (.lconst 1, 1) := by decide +kernel
theorem dX11_isNoRequest_12 : decode cX11_isNoRequest 12 = .ok (.lsub, 1) := by decide +kernel
theorem dX11_isNoRequest_13 : decode cX11_isNoRequest 13 = .ok (.invokestatic 61, 3) := by decide +kernel
theorem dX11_isNoRequest_16 : decode cX11_isNoRequest 16 = .ok (.ifCond .ne 7, 3) := by decide +kernel
theorem dX11_isNoRequest_19 : decode cX11_isNoRequest 19 = .ok (.iconst 1, 1) := by decide +kernel
theorem dX11_isNoRequest_20 : decode cX11_isNoRequest 20 = .ok (.goto 4, 3) := by decide +kernel
theorem dX11_isNoRequest_23 : decode cX11_isNoRequest 23 = .ok (.iconst 0, 1) := by decide +kernel
theorem dX11_isNoRequest_24 : decode cX11_isNoRequest 24 = .ok (.iconst 1, 1) := by decide +kernel
theorem dX11_isNoRequest_25 : decode cX11_isNoRequest 25 = .ok (.invokevirtual 69, 3) := by decide +kernel
theorem dX11_isNoRequest_28 : decode cX11_isNoRequest 28 = .ok (.ireturn, 1) := by decide +kernel
theorem dX11_copy_0 : decode cX11_copy 0 = .ok (.iconst 0, 1) := by decide +kernel
theorem dX11_copy_1 : decode cX11_copy 1 = .ok (.istore_n 2, 1) := by decide +kernel
theorem dX11_copy_2 : decode cX11_copy 2 = .ok (.iload_n 2, 1) := by decide +kernel
theorem dX11_copy_3 : decode cX11_copy 3 = .ok (.sipush 334, 3) := by decide +kernel
theorem dX11_copy_6 : decode cX11_copy 6 = .ok (.if_icmp .ge 15, 3) := by decide +kernel
theorem dX11_copy_9 : decode cX11_copy 9 = .ok (.aload_n 1, 1) := by decide +kernel
theorem dX11_copy_10 : decode cX11_copy 10 = .ok (.iload_n 2, 1) := by decide +kernel
theorem dX11_copy_11 : decode cX11_copy 11 = .ok (.aload_n 0, 1) := by decide +kernel
theorem dX11_copy_12 : decode cX11_copy 12 = .ok (.iload_n 2, 1) := by decide +kernel
theorem dX11_copy_13 : decode cX11_copy 13 = .ok (.laload, 1) := by decide +kernel
theorem dX11_copy_14 : decode cX11_copy 14 = .ok (.lastore, 1) := by decide +kernel
theorem dX11_copy_15 : decode cX11_copy 15 = .ok (.iinc 2 1, 3) := by decide +kernel
theorem dX11_copy_18 : decode cX11_copy 18 = .ok (.goto (-16), 3) := by decide +kernel
theorem dX11_copy_21 : decode cX11_copy 21 = .ok (.return_, 1) := by decide +kernel
theorem dX11_push_0 : decode cX11_push 0 = .ok (.aload_n 0, 1) := by decide +kernel
theorem dX11_push_1 : decode cX11_push 1 = .ok (.getfield 73, 3) := by decide +kernel
theorem dX11_push_4 : decode cX11_push 4 = .ok (.bipush 10, 2) := by decide +kernel
theorem dX11_push_6 : decode cX11_push 6 = .ok (.if_icmp .ne 46, 3) := by decide +kernel
theorem dX11_push_9 : decode cX11_push 9 = .ok (.sipush 334, 3) := by decide +kernel
theorem dX11_push_12 : decode cX11_push 12 = .ok (.istore_n 1, 1) := by decide +kernel
theorem dX11_push_13 : decode cX11_push 13 = .ok (.iload_n 1, 1) := by decide +kernel
theorem dX11_push_14 : decode cX11_push 14 = .ok (.sipush 3340, 3) := by decide +kernel
theorem dX11_push_17 : decode cX11_push 17 = .ok (.if_icmp .ge 25, 3) := by decide +kernel
theorem dX11_push_20 : decode cX11_push 20 = .ok (.aload_n 0, 1) := by decide +kernel
theorem dX11_push_21 : decode cX11_push 21 = .ok (.getfield 25, 3) := by decide +kernel
theorem dX11_push_24 : decode cX11_push 24 = .ok (.iload_n 1, 1) := by decide +kernel
theorem dX11_push_25 : decode cX11_push 25 = .ok (.sipush 334, 3) := by decide +kernel
theorem dX11_push_28 : decode cX11_push 28 = .ok (.isub, 1) := by decide +kernel
theorem dX11_push_29 : decode cX11_push 29 = .ok (.aload_n 0, 1) := by decide +kernel
theorem dX11_push_30 : decode cX11_push 30 = .ok (.getfield 25, 3) := by decide +kernel
theorem dX11_push_33 : decode cX11_push 33 = .ok (.iload_n 1, 1) := by decide +kernel
theorem dX11_push_34 : decode cX11_push 34 = .ok (.laload, 1) := by decide +kernel
theorem dX11_push_35 : decode cX11_push 35 = .ok (.lastore, 1) := by decide +kernel
theorem dX11_push_36 : decode cX11_push 36 = .ok (.iinc 1 1, 3) := by decide +kernel
theorem dX11_push_39 : decode cX11_push 39 = .ok (.goto (-26), 3) := by decide +kernel
theorem dX11_push_42 : decode cX11_push 42 = .ok (.aload_n 0, 1) := by decide +kernel
theorem dX11_push_43 : decode cX11_push 43 = .ok (.dup, 1) := by decide +kernel
theorem dX11_push_44 : decode cX11_push 44 = .ok (.getfield 73, 3) := by decide +kernel
theorem dX11_push_47 : decode cX11_push 47 = .ok (.iconst 1, 1) := by decide +kernel
theorem dX11_push_48 : decode cX11_push 48 = .ok (.isub, 1) := by decide +kernel
theorem dX11_push_49 : decode cX11_push 49 = .ok (.putfield 73, 3) := by decide +kernel
theorem dX11_push_52 : decode cX11_push 52 = .ok (.iconst 0, 1) := by decide +kernel
theorem dX11_push_53 : decode cX11_push 53 = .ok (.istore_n 1, 1) := by decide +kernel
theorem dX11_push_54 : decode cX11_push 54 = .ok (.iload_n 1, 1) := by decide +kernel
theorem dX11_push_55 : decode cX11_push 55 = .ok (.sipush 334, 3) := by decide +kernel
theorem dX11_push_58 : decode cX11_push 58 = .ok (.if_icmp .ge 30, 3) := by decide +kernel
theorem dX11_push_61 : decode cX11_push 61 = .ok (.aload_n 0, 1) := by decide +kernel
theorem dX11_push_62 : decode cX11_push 62 = .ok (.getfield 25, 3) := by decide +kernel
theorem dX11_push_65 : decode cX11_push 65 = .ok (.sipush 334, 3) := by decide +kernel
theorem dX11_push_68 : decode cX11_push 68 = .ok (.aload_n 0, 1) := by decide +kernel
theorem dX11_push_69 : decode cX11_push 69 = .ok (.getfield 73, 3) := by decide +kernel
theorem dX11_push_72 : decode cX11_push 72 = .ok (.imul, 1) := by decide +kernel
theorem dX11_push_73 : decode cX11_push 73 = .ok (.iload_n 1, 1) := by decide +kernel
theorem dX11_push_74 : decode cX11_push 74 = .ok (.iadd, 1) := by decide +kernel
theorem dX11_push_75 : decode cX11_push 75 = .ok (.aload_n 0, 1) := by decide +kernel
theorem dX11_push_76 : decode cX11_push 76 = .ok (.getfield 13, 3) := by decide +kernel
theorem dX11_push_79 : decode cX11_push 79 = .ok (.iload_n 1, 1) := by decide +kernel
theorem dX11_push_80 : decode cX11_push 80 = .ok (.laload, 1) := by decide +kernel
theorem dX11_push_81 : decode cX11_push 81 = .ok (.lastore, 1) := by decide +kernel
theorem dX11_push_82 : decode cX11_push 82 = .ok (.iinc 1 1, 3) := by decide +kernel
theorem dX11_push_85 : decode cX11_push 85 = .ok (.goto (-31), 3) := by decide +kernel
theorem dX11_push_88 : decode cX11_push 88 = .ok (.aload_n 0, 1) := by decide +kernel
theorem dX11_push_89 : decode cX11_push 89 = .ok (.dup, 1) := by decide +kernel
theorem dX11_push_90 : decode cX11_push 90 = .ok (.getfield 73, 3) := by decide +kernel
theorem dX11_push_93 : decode cX11_push 93 = .ok (.iconst 1, 1) := by decide +kernel
theorem dX11_push_94 : decode cX11_push 94 = .ok (.iadd, 1) := by decide +kernel
theorem dX11_push_95 : decode cX11_push 95 = .ok (.putfield 73, 3) := by decide +kernel
theorem dX11_push_98 : decode cX11_push 98 = .ok (.return_, 1) := by decide +kernel
theorem dX11_remember_0 : decode cX11_remember 0 = .ok (.aload_n 0, 1) := by decide +kernel
theorem dX11_remember_1 : decode cX11_remember 1 = .ok (.getfield 7, 3) := by decide +kernel
theorem dX11_remember_4 : decode cX11_remember 4 = .ok (.aload_n 0, 1) := by decide +kernel
theorem dX11_remember_5 : decode cX11_remember 5 = .ok (.getfield 13, 3) := by decide +kernel
theorem dX11_remember_8 : decode cX11_remember 8 = .ok (.invokestatic 76, 3) := by decide +kernel
theorem dX11_remember_11 : decode cX11_remember 11 = .ok (.aload_n 0, 1) := by decide +kernel
theorem dX11_remember_12 : decode cX11_remember 12 = .ok (.invokevirtual 80, 3) := by decide +kernel
theorem dX11_remember_15 : decode cX11_remember 15 = .ok (.return_, 1) := by decide +kernel
theorem dX11_undo_0 : decode cX11_undo 0 = .ok (.aload_n 0, 1) := by decide +kernel
theorem dX11_undo_1 : decode cX11_undo 1 = .ok (.getfield 73, 3) := by decide +kernel
theorem dX11_undo_4 : decode cX11_undo 4 = .ok (.ifCond .ne 9, 3) := by decide +kernel
theorem dX11_undo_7 : decode cX11_undo 7 = .ok (.aload_n 0, 1) := by decide +kernel
theorem dX11_undo_8 : decode cX11_undo 8 = .ok (.iconst 1, 1) := by decide +kernel
theorem dX11_undo_9 : decode cX11_undo 9 = .ok (.invokevirtual 83, 3) := by decide +kernel
theorem dX11_undo_12 : decode cX11_undo 12 = .ok (.ireturn, 1) := by decide +kernel
theorem dX11_undo_13 : decode cX11_undo 13 = .ok (.aload_n 0, 1) := by decide +kernel
theorem dX11_undo_14 : decode cX11_undo 14 = .ok (.iconst 0, 1) := by decide +kernel
theorem dX11_undo_15 : decode cX11_undo 15 = .ok (.putfield 58, 3) := by decide +kernel
theorem dX11_undo_18 : decode cX11_undo 18 = .ok (.aload_n 0, 1) := by decide +kernel
theorem dX11_undo_19 : decode cX11_undo 19 = .ok (.dup, 1) := by decide +kernel
theorem dX11_undo_20 : decode cX11_undo 20 = .ok (.getfield 73, 3) := by decide +kernel
theorem dX11_undo_23 : decode cX11_undo 23 = .ok (.iconst 1, 1) := by decide +kernel
theorem dX11_undo_24 : decode cX11_undo 24 = .ok (.isub, 1) := by decide +kernel
theorem dX11_undo_25 : decode cX11_undo 25 = .ok (.putfield 73, 3) := by decide +kernel
theorem dX11_undo_28 : decode cX11_undo 28 = .ok (.iconst 0, 1) := by decide +kernel
theorem dX11_undo_29 : decode cX11_undo 29 = .ok (.istore_n 1, 1) := by decide +kernel
theorem dX11_undo_30 : decode cX11_undo 30 = .ok (.iload_n 1, 1) := by decide +kernel
theorem dX11_undo_31 : decode cX11_undo 31 = .ok (.sipush 334, 3) := by decide +kernel
theorem dX11_undo_34 : decode cX11_undo 34 = .ok (.if_icmp .ge 30, 3) := by decide +kernel
theorem dX11_undo_37 : decode cX11_undo 37 = .ok (.aload_n 0, 1) := by decide +kernel
theorem dX11_undo_38 : decode cX11_undo 38 = .ok (.getfield 7, 3) := by decide +kernel
theorem dX11_undo_41 : decode cX11_undo 41 = .ok (.iload_n 1, 1) := by decide +kernel
theorem dX11_undo_42 : decode cX11_undo 42 = .ok (.aload_n 0, 1) := by decide +kernel
theorem dX11_undo_43 : decode cX11_undo 43 = .ok (.getfield 25, 3) := by decide +kernel
theorem dX11_undo_46 : decode cX11_undo 46 = .ok (.sipush 334, 3) := by decide +kernel
theorem dX11_undo_49 : decode cX11_undo 49 = .ok (.aload_n 0, 1) := by decide +kernel
theorem dX11_undo_50 : decode cX11_undo 50 = .ok (.getfield 73, 3) := by decide +kernel
theorem dX11_undo_53 : decode cX11_undo 53 = .ok (.imul, 1) := by decide +kernel
theorem dX11_undo_54 : decode cX11_undo 54 = .ok (.iload_n 1, 1) := by decide +kernel
theorem dX11_undo_55 : decode cX11_undo 55 = .ok (.iadd, 1) := by decide +kernel
theorem dX11_undo_56 : decode cX11_undo 56 = .ok (.laload, 1) := by decide +kernel
theorem dX11_undo_57 : decode cX11_undo 57 = .ok (.lastore, 1) := by decide +kernel
theorem dX11_undo_58 : decode cX11_undo 58 = .ok (.iinc 1 1, 3) := by decide +kernel
theorem dX11_undo_61 : decode cX11_undo 61 = .ok (.goto (-31), 3) := by decide +kernel
theorem dX11_undo_64 : decode cX11_undo 64 = .ok (.aload_n 0, 1) := by decide +kernel
theorem dX11_undo_65 : decode cX11_undo 65 = .ok (.getfield 73, 3) := by decide +kernel
theorem dX11_undo_68 : decode cX11_undo 68 = .ok (.ireturn, 1) := by decide +kernel
theorem dX11_undoDepth_0 : decode cX11_undoDepth 0 = .ok (.aload_n 0, 1) := by decide +kernel
theorem dX11_undoDepth_1 : decode cX11_undoDepth 1 = .ok (.iconst 0, 1) := by decide +kernel
theorem dX11_undoDepth_2 : decode cX11_undoDepth 2 = .ok (.putfield 58, 3) := by decide +kernel
theorem dX11_undoDepth_5 : decode cX11_undoDepth 5 = .ok (.aload_n 0, 1) := by decide +kernel
theorem dX11_undoDepth_6 : decode cX11_undoDepth 6 = .ok (.getfield 73, 3) := by decide +kernel
theorem dX11_undoDepth_9 : decode cX11_undoDepth 9 = .ok (.ireturn, 1) := by decide +kernel
theorem dX11_seriesAt_0 : decode cX11_seriesAt 0 = .ok (.bipush 16, 2) := by decide +kernel
theorem dX11_seriesAt_2 : decode cX11_seriesAt 2 = .ok (.iconst 5, 1) := by decide +kernel
theorem dX11_seriesAt_3 : decode cX11_seriesAt 3 = .ok (.iload_n 0, 1) := by decide +kernel
theorem dX11_seriesAt_4 : decode cX11_seriesAt 4 = .ok (.imul, 1) := by decide +kernel
theorem dX11_seriesAt_5 : decode cX11_seriesAt 5 = .ok (.iadd, 1) := by decide +kernel
theorem dX11_seriesAt_6 : decode cX11_seriesAt 6 = .ok (.ireturn, 1) := by decide +kernel
theorem dX11_lotAt_0 : decode cX11_lotAt 0 = .ok (.bipush 46, 2) := by decide +kernel
theorem dX11_lotAt_2 : decode cX11_lotAt 2 = .ok (.bipush 6, 2) := by decide +kernel
theorem dX11_lotAt_4 : decode cX11_lotAt 4 = .ok (.iload_n 0, 1) := by decide +kernel
theorem dX11_lotAt_5 : decode cX11_lotAt 5 = .ok (.imul, 1) := by decide +kernel
theorem dX11_lotAt_6 : decode cX11_lotAt 6 = .ok (.iadd, 1) := by decide +kernel
theorem dX11_lotAt_7 : decode cX11_lotAt 7 = .ok (.ireturn, 1) := by decide +kernel
theorem dX11_requestAt_0 : decode cX11_requestAt 0 = .ok (.sipush 286, 3) := by decide +kernel
theorem dX11_requestAt_3 : decode cX11_requestAt 3 = .ok (.iconst 4, 1) := by decide +kernel
theorem dX11_requestAt_4 : decode cX11_requestAt 4 = .ok (.iload_n 0, 1) := by decide +kernel
theorem dX11_requestAt_5 : decode cX11_requestAt 5 = .ok (.imul, 1) := by decide +kernel
theorem dX11_requestAt_6 : decode cX11_requestAt 6 = .ok (.iadd, 1) := by decide +kernel
theorem dX11_requestAt_7 : decode cX11_requestAt 7 = .ok (.ireturn, 1) := by decide +kernel
theorem dX11_placeOf_0 : decode cX11_placeOf 0 = .ok (.iconst 0, 1) := by decide +kernel
theorem dX11_placeOf_1 : decode cX11_placeOf 1 = .ok (.istore_n 3, 1) := by decide +kernel
theorem dX11_placeOf_2 : decode cX11_placeOf 2 = .ok (.iload_n 3, 1) := by decide +kernel
theorem dX11_placeOf_3 : decode cX11_placeOf 3 = .ok (.i2l, 1) := by decide +kernel
theorem dX11_placeOf_4 : decode cX11_placeOf 4 = .ok (.aload_n 0, 1) := by decide +kernel
theorem dX11_placeOf_5 : decode cX11_placeOf 5 = .ok (.getfield 7, 3) := by decide +kernel
theorem dX11_placeOf_8 : decode cX11_placeOf 8 = .ok (.bipush 6, 2) := by decide +kernel
theorem dX11_placeOf_10 : decode cX11_placeOf 10 = .ok (.laload, 1) := by decide +kernel
theorem dX11_placeOf_11 : decode cX11_placeOf 11 = .ok (.lcmp, 1) := by decide +kernel
theorem dX11_placeOf_12 : decode cX11_placeOf 12 = .ok (.ifCond .ge 30, 3) := by decide +kernel
theorem dX11_placeOf_15 : decode cX11_placeOf 15 = .ok (.aload_n 0, 1) := by decide +kernel
theorem dX11_placeOf_16 : decode cX11_placeOf 16 = .ok (.getfield 7, 3) := by decide +kernel
theorem dX11_placeOf_19 : decode cX11_placeOf 19 = .ok (.iload_n 3, 1) := by decide +kernel
theorem dX11_placeOf_20 : decode cX11_placeOf 20 = .ok (.invokestatic 87, 3) := by decide +kernel
theorem dX11_placeOf_23 : decode cX11_placeOf 23 = .ok (.iconst 0, 1) := by decide +kernel
theorem dX11_placeOf_24 : decode cX11_placeOf 24 = .ok (.iadd, 1) := by decide +kernel
theorem dX11_placeOf_25 : decode cX11_placeOf 25 = .ok (.laload, 1) := by decide +kernel
theorem dX11_placeOf_26 : decode cX11_placeOf 26 = .ok (.lload_n 1, 1) := by decide +kernel
theorem dX11_placeOf_27 : decode cX11_placeOf 27 = .ok (.lcmp, 1) := by decide +kernel
theorem dX11_placeOf_28 : decode cX11_placeOf 28 = .ok (.ifCond .ne 8, 3) := by decide +kernel
theorem dX11_placeOf_31 : decode cX11_placeOf 31 = .ok (.iload_n 3, 1) := by decide +kernel
theorem dX11_placeOf_32 : decode cX11_placeOf 32 = .ok (.invokestatic 87, 3) := by decide +kernel
theorem dX11_placeOf_35 : decode cX11_placeOf 35 = .ok (.ireturn, 1) := by decide +kernel
theorem dX11_placeOf_36 : decode cX11_placeOf 36 = .ok (.iinc 3 1, 3) := by decide +kernel
theorem dX11_placeOf_39 : decode cX11_placeOf 39 = .ok (.goto (-37), 3) := by decide +kernel
theorem dX11_placeOf_42 : decode cX11_placeOf 42 = .ok (.iconst (-1), 1) := by decide +kernel
theorem dX11_placeOf_43 : decode cX11_placeOf 43 = .ok (.ireturn, 1) := by decide +kernel
theorem dX11_seriesOf_0 : decode cX11_seriesOf 0 = .ok (.aload_n 0, 1) := by decide +kernel
theorem dX11_seriesOf_1 : decode cX11_seriesOf 1 = .ok (.aload_n 0, 1) := by decide +kernel
theorem dX11_seriesOf_2 : decode cX11_seriesOf 2 = .ok (.getfield 7, 3) := by decide +kernel
theorem dX11_seriesOf_5 : decode cX11_seriesOf 5 = .ok (.iload_n 1, 1) := by decide +kernel
theorem dX11_seriesOf_6 : decode cX11_seriesOf 6 = .ok (.iconst 1, 1) := by decide +kernel
theorem dX11_seriesOf_7 : decode cX11_seriesOf 7 = .ok (.iadd, 1) := by decide +kernel
theorem dX11_seriesOf_8 : decode cX11_seriesOf 8 = .ok (.laload, 1) := by decide +kernel
theorem dX11_seriesOf_9 : decode cX11_seriesOf 9 = .ok (.invokevirtual 90, 3) := by decide +kernel
theorem dX11_seriesOf_12 : decode cX11_seriesOf 12 = .ok (.ireturn, 1) := by decide +kernel
theorem dX11_gross_0 : decode cX11_gross 0 = .ok (.aload_n 0, 1) := by decide +kernel
theorem dX11_gross_1 : decode cX11_gross 1 = .ok (.getfield 7, 3) := by decide +kernel
theorem dX11_gross_4 : decode cX11_gross 4 = .ok (.iload_n 1, 1) := by decide +kernel
theorem dX11_gross_5 : decode cX11_gross 5 = .ok (.iconst 2, 1) := by decide +kernel
theorem dX11_gross_6 : decode cX11_gross 6 = .ok (.iadd, 1) := by decide +kernel
theorem dX11_gross_7 : decode cX11_gross 7 = .ok (.laload, 1) := by decide +kernel
theorem dX11_gross_8 : decode cX11_gross 8 = .ok (.ldc2_w 94, 3) := by decide +kernel
theorem dX11_gross_11 : decode cX11_gross 11 = .ok (.lmul, 1) := by decide +kernel
theorem dX11_gross_12 : decode cX11_gross 12 = .ok (.aload_n 0, 1) := by decide +kernel
theorem dX11_gross_13 : decode cX11_gross 13 = .ok (.getfield 7, 3) := by decide +kernel
theorem dX11_gross_16 : decode cX11_gross 16 = .ok (.iload_n 1, 1) := by decide +kernel
theorem dX11_gross_17 : decode cX11_gross 17 = .ok (.iconst 3, 1) := by decide +kernel
theorem dX11_gross_18 : decode cX11_gross 18 = .ok (.iadd, 1) := by decide +kernel
theorem dX11_gross_19 : decode cX11_gross 19 = .ok (.laload, 1) := by decide +kernel
theorem dX11_gross_20 : decode cX11_gross 20 = .ok (.ldiv, 1) := by decide +kernel
theorem dX11_gross_21 : decode cX11_gross 21 = .ok (.lreturn, 1) := by decide +kernel
theorem dX11_worthAt_0 : decode cX11_worthAt 0 = .ok (.lload_n 0, 1) := by decide +kernel
theorem dX11_worthAt_1 : decode cX11_worthAt 1 = .ok (.ldc2_w 94, 3) := by decide +kernel
theorem dX11_worthAt_4 : decode cX11_worthAt 4 = .ok (.ldiv, 1) := by decide +kernel
theorem dX11_worthAt_5 : decode cX11_worthAt 5 = .ok (.lload_n 2, 1) := by decide +kernel
theorem dX11_worthAt_6 : decode cX11_worthAt 6 = .ok (.lmul, 1) := by decide +kernel
theorem dX11_worthAt_7 : decode cX11_worthAt 7 = .ok (.lload_n 0, 1) := by decide +kernel
theorem dX11_worthAt_8 : decode cX11_worthAt 8 = .ok (.ldc2_w 94, 3) := by decide +kernel
theorem dX11_worthAt_11 : decode cX11_worthAt 11 = .ok (.lrem, 1) := by decide +kernel
theorem dX11_worthAt_12 : decode cX11_worthAt 12 = .ok (.lload_n 2, 1) := by decide +kernel
theorem dX11_worthAt_13 : decode cX11_worthAt 13 = .ok (.lmul, 1) := by decide +kernel
theorem dX11_worthAt_14 : decode cX11_worthAt 14 = .ok (.ldc2_w 94, 3) := by decide +kernel
theorem dX11_worthAt_17 : decode cX11_worthAt 17 = .ok (.ldiv, 1) := by decide +kernel
theorem dX11_worthAt_18 : decode cX11_worthAt 18 = .ok (.ladd, 1) := by decide +kernel
theorem dX11_worthAt_19 : decode cX11_worthAt 19 = .ok (.lreturn, 1) := by decide +kernel
theorem dX11_partOf_0 : decode cX11_partOf 0 = .ok (.lconst 0, 1) := by decide +kernel
theorem dX11_partOf_1 : decode cX11_partOf 1 = .ok (.lstore 6, 2) := by decide +kernel
theorem dX11_partOf_3 : decode cX11_partOf 3 = .ok (.lconst 0, 1) := by decide +kernel
theorem dX11_partOf_4 : decode cX11_partOf 4 = .ok (.lstore 8, 2) := by decide +kernel
theorem dX11_partOf_6 : decode cX11_partOf 6 = .ok (.bipush 62, 2) := by decide +kernel
theorem dX11_partOf_8 : decode cX11_partOf 8 = .ok (.istore 10, 2) := by decide +kernel
theorem dX11_partOf_10 : decode cX11_partOf 10 = .ok (.iload 10, 2) := by decide +kernel
theorem dX11_partOf_12 : decode cX11_partOf 12 = .ok (.ifCond .lt 59, 3) := by decide +kernel
theorem dX11_partOf_15 : decode cX11_partOf 15 = .ok (.lload 6, 2) := by decide +kernel
theorem dX11_partOf_17 : decode cX11_partOf 17 = .ok (.ldc2_w 96, 3) := by decide +kernel
theorem dX11_partOf_20 : decode cX11_partOf 20 = .ok (.lmul, 1) := by decide +kernel
theorem dX11_partOf_21 : decode cX11_partOf 21 = .ok (.lstore 6, 2) := by decide +kernel
theorem dX11_partOf_23 : decode cX11_partOf 23 = .ok (.ldc2_w 96, 3) := by decide +kernel
theorem dX11_partOf_26 : decode cX11_partOf 26 = .ok (.lload 8, 2) := by decide +kernel
theorem dX11_partOf_28 : decode cX11_partOf 28 = .ok (.lmul, 1) := by decide +kernel
theorem dX11_partOf_29 : decode cX11_partOf 29 = .ok (.lload_n 0, 1) := by decide +kernel
theorem dX11_partOf_30 : decode cX11_partOf 30 = .ok (.iload 10, 2) := by decide +kernel
theorem dX11_partOf_32 : decode cX11_partOf 32 = .ok (.lshr, 1) := by decide +kernel
theorem dX11_partOf_33 : decode cX11_partOf 33 = .ok (.lconst 1, 1) := by decide +kernel
theorem dX11_partOf_34 : decode cX11_partOf 34 = .ok (.land, 1) := by decide +kernel
theorem dX11_partOf_35 : decode cX11_partOf 35 = .ok (.lconst 1, 1) := by decide +kernel
theorem dX11_partOf_36 : decode cX11_partOf 36 = .ok (.lcmp, 1) := by decide +kernel
theorem dX11_partOf_37 : decode cX11_partOf 37 = .ok (.ifCond .ne 7, 3) := by decide +kernel
theorem dX11_partOf_40 : decode cX11_partOf 40 = .ok (.lload_n 2, 1) := by decide +kernel
theorem dX11_partOf_41 : decode cX11_partOf 41 = .ok (.goto 4, 3) := by decide +kernel
theorem dX11_partOf_44 : decode cX11_partOf 44 = .ok (.lconst 0, 1) := by decide +kernel
theorem dX11_partOf_45 : decode cX11_partOf 45 = .ok (.ladd, 1) := by decide +kernel
theorem dX11_partOf_46 : decode cX11_partOf 46 = .ok (.lstore 8, 2) := by decide +kernel
theorem dX11_partOf_48 : decode cX11_partOf 48 = .ok (.lload 6, 2) := by decide +kernel
theorem dX11_partOf_50 : decode cX11_partOf 50 = .ok (.lload 8, 2) := by decide +kernel
theorem dX11_partOf_52 : decode cX11_partOf 52 = .ok (.lload 4, 2) := by decide +kernel
theorem dX11_partOf_54 : decode cX11_partOf 54 = .ok (.ldiv, 1) := by decide +kernel
theorem dX11_partOf_55 : decode cX11_partOf 55 = .ok (.ladd, 1) := by decide +kernel
theorem dX11_partOf_56 : decode cX11_partOf 56 = .ok (.lstore 6, 2) := by decide +kernel
theorem dX11_partOf_58 : decode cX11_partOf 58 = .ok (.lload 8, 2) := by decide +kernel
theorem dX11_partOf_60 : decode cX11_partOf 60 = .ok (.lload 4, 2) := by decide +kernel
theorem dX11_partOf_62 : decode cX11_partOf 62 = .ok (.lrem, 1) := by decide +kernel
theorem dX11_partOf_63 : decode cX11_partOf 63 = .ok (.lstore 8, 2) := by decide +kernel
theorem dX11_partOf_65 : decode cX11_partOf 65 = .ok (.iinc 10 (-1), 3) := by decide +kernel
theorem dX11_partOf_68 : decode cX11_partOf 68 = .ok (.goto (-58), 3) := by decide +kernel
theorem dX11_partOf_71 : decode cX11_partOf 71 = .ok (.lload 6, 2) := by decide +kernel
theorem dX11_partOf_73 : decode cX11_partOf 73 = .ok (.lreturn, 1) := by decide +kernel
theorem dX11_accrued_0 : decode cX11_accrued 0 = .ok (.aload_n 0, 1) := by decide +kernel
theorem dX11_accrued_1 : decode cX11_accrued 1 = .ok (.getfield 7, 3) := by decide +kernel
theorem dX11_accrued_4 : decode cX11_accrued 4 = .ok (.iload_n 1, 1) := by decide +kernel
theorem dX11_accrued_5 : decode cX11_accrued 5 = .ok (.iconst 2, 1) := by decide +kernel
theorem dX11_accrued_6 : decode cX11_accrued 6 = .ok (.iadd, 1) := by decide +kernel
theorem dX11_accrued_7 : decode cX11_accrued 7 = .ok (.laload, 1) := by decide +kernel
theorem dX11_accrued_8 : decode cX11_accrued 8 = .ok (.aload_n 0, 1) := by decide +kernel
theorem dX11_accrued_9 : decode cX11_accrued 9 = .ok (.getfield 7, 3) := by decide +kernel
theorem dX11_accrued_12 : decode cX11_accrued 12 = .ok (.iload_n 1, 1) := by decide +kernel
theorem dX11_accrued_13 : decode cX11_accrued 13 = .ok (.iconst 4, 1) := by decide +kernel
theorem dX11_accrued_14 : decode cX11_accrued 14 = .ok (.iadd, 1) := by decide +kernel
theorem dX11_accrued_15 : decode cX11_accrued 15 = .ok (.laload, 1) := by decide +kernel
theorem dX11_accrued_16 : decode cX11_accrued 16 = .ok (.aload_n 0, 1) := by decide +kernel
theorem dX11_accrued_17 : decode cX11_accrued 17 = .ok (.getfield 7, 3) := by decide +kernel
theorem dX11_accrued_20 : decode cX11_accrued 20 = .ok (.iload_n 1, 1) := by decide +kernel
theorem dX11_accrued_21 : decode cX11_accrued 21 = .ok (.iconst 3, 1) := by decide +kernel
theorem dX11_accrued_22 : decode cX11_accrued 22 = .ok (.iadd, 1) := by decide +kernel
theorem dX11_accrued_23 : decode cX11_accrued 23 = .ok (.laload, 1) := by decide +kernel
theorem dX11_accrued_24 : decode cX11_accrued 24 = .ok (.invokestatic 98, 3) := by decide +kernel
theorem dX11_accrued_27 : decode cX11_accrued 27 = .ok (.lsub, 1) := by decide +kernel
theorem dX11_accrued_28 : decode cX11_accrued 28 = .ok (.lstore_n 2, 1) := by decide +kernel
theorem dX11_accrued_29 : decode cX11_accrued 29 = .ok (.lload_n 2, 1) := by decide +kernel
theorem dX11_accrued_30 : decode cX11_accrued 30 = .ok (.lconst 0, 1) := by decide +kernel
theorem dX11_accrued_31 : decode cX11_accrued 31 = .ok (.lcmp, 1) := by decide +kernel
theorem dX11_accrued_32 : decode cX11_accrued 32 = .ok (.ifCond .le 18, 3) := by decide +kernel
theorem dX11_accrued_35 : decode cX11_accrued 35 = .ok (.lload_n 2, 1) := by decide +kernel
theorem dX11_accrued_36 : decode cX11_accrued 36 = .ok (.aload_n 0, 1) := by decide +kernel
theorem dX11_accrued_37 : decode cX11_accrued 37 = .ok (.getfield 7, 3) := by decide +kernel
theorem dX11_accrued_40 : decode cX11_accrued 40 = .ok (.iconst 3, 1) := by decide +kernel
theorem dX11_accrued_41 : decode cX11_accrued 41 = .ok (.laload, 1) := by decide +kernel
theorem dX11_accrued_42 : decode cX11_accrued 42 = .ok (.lmul, 1) := by decide +kernel
theorem dX11_accrued_43 : decode cX11_accrued 43 = .ok (.ldc2_w 56, 3) := by decide +kernel
theorem dX11_accrued_46 : decode cX11_accrued 46 = .ok (.ldiv, 1) := by decide +kernel
theorem dX11_accrued_47 : decode cX11_accrued 47 = .ok (.goto 4, 3) := by decide +kernel
theorem dX11_accrued_50 : decode cX11_accrued 50 = .ok (.lconst 0, 1) := by decide +kernel
theorem dX11_accrued_51 : decode cX11_accrued 51 = .ok (.lreturn, 1) := by decide +kernel
theorem dX11_net_0 : decode cX11_net 0 = .ok (.aload_n 0, 1) := by decide +kernel
theorem dX11_net_1 : decode cX11_net 1 = .ok (.getfield 7, 3) := by decide +kernel
theorem dX11_net_4 : decode cX11_net 4 = .ok (.iload_n 1, 1) := by decide +kernel
theorem dX11_net_5 : decode cX11_net 5 = .ok (.iconst 2, 1) := by decide +kernel
theorem dX11_net_6 : decode cX11_net 6 = .ok (.iadd, 1) := by decide +kernel
theorem dX11_net_7 : decode cX11_net 7 = .ok (.laload, 1) := by decide +kernel
theorem dX11_net_8 : decode cX11_net 8 = .ok (.aload_n 0, 1) := by decide +kernel
theorem dX11_net_9 : decode cX11_net 9 = .ok (.iload_n 1, 1) := by decide +kernel
theorem dX11_net_10 : decode cX11_net 10 = .ok (.invokevirtual 102, 3) := by decide +kernel
theorem dX11_net_13 : decode cX11_net 13 = .ok (.lsub, 1) := by decide +kernel
theorem dX11_net_14 : decode cX11_net 14 = .ok (.lreturn, 1) := by decide +kernel
theorem dX11_netAll_0 : decode cX11_netAll 0 = .ok (.lconst 0, 1) := by decide +kernel
theorem dX11_netAll_1 : decode cX11_netAll 1 = .ok (.lstore_n 1, 1) := by decide +kernel
theorem dX11_netAll_2 : decode cX11_netAll 2 = .ok (.iconst 0, 1) := by decide +kernel
theorem dX11_netAll_3 : decode cX11_netAll 3 = .ok (.istore_n 3, 1) := by decide +kernel
theorem dX11_netAll_4 : decode cX11_netAll 4 = .ok (.iload_n 3, 1) := by decide +kernel
theorem dX11_netAll_5 : decode cX11_netAll 5 = .ok (.i2l, 1) := by decide +kernel
theorem dX11_netAll_6 : decode cX11_netAll 6 = .ok (.aload_n 0, 1) := by decide +kernel
theorem dX11_netAll_7 : decode cX11_netAll 7 = .ok (.getfield 7, 3) := by decide +kernel
theorem dX11_netAll_10 : decode cX11_netAll 10 = .ok (.bipush 6, 2) := by decide +kernel
theorem dX11_netAll_12 : decode cX11_netAll 12 = .ok (.laload, 1) := by decide +kernel
theorem dX11_netAll_13 : decode cX11_netAll 13 = .ok (.lcmp, 1) := by decide +kernel
theorem dX11_netAll_14 : decode cX11_netAll 14 = .ok (.ifCond .ge 20, 3) := by decide +kernel
theorem dX11_netAll_17 : decode cX11_netAll 17 = .ok (.lload_n 1, 1) := by decide +kernel
theorem dX11_netAll_18 : decode cX11_netAll 18 = .ok (.aload_n 0, 1) := by decide +kernel
theorem dX11_netAll_19 : decode cX11_netAll 19 = .ok (.iload_n 3, 1) := by decide +kernel
theorem dX11_netAll_20 : decode cX11_netAll 20 = .ok (.invokestatic 87, 3) := by decide +kernel
theorem dX11_netAll_23 : decode cX11_netAll 23 = .ok (.invokevirtual 106, 3) := by decide +kernel
theorem dX11_netAll_26 : decode cX11_netAll 26 = .ok (.ladd, 1) := by decide +kernel
theorem dX11_netAll_27 : decode cX11_netAll 27 = .ok (.lstore_n 1, 1) := by decide +kernel
theorem dX11_netAll_28 : decode cX11_netAll 28 = .ok (.iinc 3 1, 3) := by decide +kernel
theorem dX11_netAll_31 : decode cX11_netAll 31 = .ok (.goto (-27), 3) := by decide +kernel
theorem dX11_netAll_34 : decode cX11_netAll 34 = .ok (.lload_n 1, 1) := by decide +kernel
theorem dX11_netAll_35 : decode cX11_netAll 35 = .ok (.lreturn, 1) := by decide +kernel
theorem dX11_accruedAll_0 : decode cX11_accruedAll 0 = .ok (.lconst 0, 1) := by decide +kernel
theorem dX11_accruedAll_1 : decode cX11_accruedAll 1 = .ok (.lstore_n 1, 1) := by decide +kernel
theorem dX11_accruedAll_2 : decode cX11_accruedAll 2 = .ok (.iconst 0, 1) := by decide +kernel
theorem dX11_accruedAll_3 : decode cX11_accruedAll 3 = .ok (.istore_n 3, 1) := by decide +kernel
theorem dX11_accruedAll_4 : decode cX11_accruedAll 4 = .ok (.iload_n 3, 1) := by decide +kernel
theorem dX11_accruedAll_5 : decode cX11_accruedAll 5 = .ok (.i2l, 1) := by decide +kernel
theorem dX11_accruedAll_6 : decode cX11_accruedAll 6 = .ok (.aload_n 0, 1) := by decide +kernel
theorem dX11_accruedAll_7 : decode cX11_accruedAll 7 = .ok (.getfield 7, 3) := by decide +kernel
theorem dX11_accruedAll_10 : decode cX11_accruedAll 10 = .ok (.bipush 6, 2) := by decide +kernel
theorem dX11_accruedAll_12 : decode cX11_accruedAll 12 = .ok (.laload, 1) := by decide +kernel
theorem dX11_accruedAll_13 : decode cX11_accruedAll 13 = .ok (.lcmp, 1) := by decide +kernel
theorem dX11_accruedAll_14 : decode cX11_accruedAll 14 = .ok (.ifCond .ge 20, 3) := by decide +kernel
theorem dX11_accruedAll_17 : decode cX11_accruedAll 17 = .ok (.lload_n 1, 1) := by decide +kernel
theorem dX11_accruedAll_18 : decode cX11_accruedAll 18 = .ok (.aload_n 0, 1) := by decide +kernel
theorem dX11_accruedAll_19 : decode cX11_accruedAll 19 = .ok (.iload_n 3, 1) := by decide +kernel
theorem dX11_accruedAll_20 : decode cX11_accruedAll 20 = .ok (.invokestatic 87, 3) := by decide +kernel
theorem dX11_accruedAll_23 : decode cX11_accruedAll 23 = .ok (.invokevirtual 102, 3) := by decide +kernel
theorem dX11_accruedAll_26 : decode cX11_accruedAll 26 = .ok (.ladd, 1) := by decide +kernel
theorem dX11_accruedAll_27 : decode cX11_accruedAll 27 = .ok (.lstore_n 1, 1) := by decide +kernel
theorem dX11_accruedAll_28 : decode cX11_accruedAll 28 = .ok (.iinc 3 1, 3) := by decide +kernel
theorem dX11_accruedAll_31 : decode cX11_accruedAll 31 = .ok (.goto (-27), 3) := by decide +kernel
theorem dX11_accruedAll_34 : decode cX11_accruedAll 34 = .ok (.lload_n 1, 1) := by decide +kernel
theorem dX11_accruedAll_35 : decode cX11_accruedAll 35 = .ok (.lreturn, 1) := by decide +kernel
theorem dX11_openOne_0 : decode cX11_openOne 0 = .ok (.aload_n 0, 1) := by decide +kernel
theorem dX11_openOne_1 : decode cX11_openOne 1 = .ok (.getfield 7, 3) := by decide +kernel
theorem dX11_openOne_4 : decode cX11_openOne 4 = .ok (.bipush 6, 2) := by decide +kernel
theorem dX11_openOne_6 : decode cX11_openOne 6 = .ok (.laload, 1) := by decide +kernel
theorem dX11_openOne_7 : decode cX11_openOne 7 = .ok (.l2i, 1) := by decide +kernel
theorem dX11_openOne_8 : decode cX11_openOne 8 = .ok (.invokestatic 87, 3) := by decide +kernel
theorem dX11_openOne_11 : decode cX11_openOne 11 = .ok (.istore_n 1, 1) := by decide +kernel
theorem dX11_openOne_12 : decode cX11_openOne 12 = .ok (.aload_n 0, 1) := by decide +kernel
theorem dX11_openOne_13 : decode cX11_openOne 13 = .ok (.getfield 7, 3) := by decide +kernel
theorem dX11_openOne_16 : decode cX11_openOne 16 = .ok (.iload_n 1, 1) := by decide +kernel
theorem dX11_openOne_17 : decode cX11_openOne 17 = .ok (.iconst 0, 1) := by decide +kernel
theorem dX11_openOne_18 : decode cX11_openOne 18 = .ok (.iadd, 1) := by decide +kernel
theorem dX11_openOne_19 : decode cX11_openOne 19 = .ok (.aload_n 0, 1) := by decide +kernel
theorem dX11_openOne_20 : decode cX11_openOne 20 = .ok (.getfield 7, 3) := by decide +kernel
theorem dX11_openOne_23 : decode cX11_openOne 23 = .ok (.bipush 9, 2) := by decide +kernel
theorem dX11_openOne_25 : decode cX11_openOne 25 = .ok (.laload, 1) := by decide +kernel
theorem dX11_openOne_26 : decode cX11_openOne 26 = .ok (.lastore, 1) := by decide +kernel
theorem dX11_openOne_27 : decode cX11_openOne 27 = .ok (.aload_n 0, 1) := by decide +kernel
theorem dX11_openOne_28 : decode cX11_openOne 28 = .ok (.getfield 7, 3) := by decide +kernel
theorem dX11_openOne_31 : decode cX11_openOne 31 = .ok (.iload_n 1, 1) := by decide +kernel
theorem dX11_openOne_32 : decode cX11_openOne 32 = .ok (.iconst 1, 1) := by decide +kernel
theorem dX11_openOne_33 : decode cX11_openOne 33 = .ok (.iadd, 1) := by decide +kernel
theorem dX11_openOne_34 : decode cX11_openOne 34 = .ok (.aload_n 0, 1) := by decide +kernel
theorem dX11_openOne_35 : decode cX11_openOne 35 = .ok (.getfield 7, 3) := by decide +kernel
theorem dX11_openOne_38 : decode cX11_openOne 38 = .ok (.iconst 5, 1) := by decide +kernel
theorem dX11_openOne_39 : decode cX11_openOne 39 = .ok (.laload, 1) := by decide +kernel
theorem dX11_openOne_40 : decode cX11_openOne 40 = .ok (.lastore, 1) := by decide +kernel
theorem dX11_openOne_41 : decode cX11_openOne 41 = .ok (.aload_n 0, 1) := by decide +kernel
theorem dX11_openOne_42 : decode cX11_openOne 42 = .ok (.getfield 7, 3) := by decide +kernel
theorem dX11_openOne_45 : decode cX11_openOne 45 = .ok (.iload_n 1, 1) := by decide +kernel
theorem dX11_openOne_46 : decode cX11_openOne 46 = .ok (.iconst 2, 1) := by decide +kernel
theorem dX11_openOne_47 : decode cX11_openOne 47 = .ok (.iadd, 1) := by decide +kernel
theorem dX11_openOne_48 : decode cX11_openOne 48 = .ok (.lconst 0, 1) := by decide +kernel
theorem dX11_openOne_49 : decode cX11_openOne 49 = .ok (.lastore, 1) := by decide +kernel
theorem dX11_openOne_50 : decode cX11_openOne 50 = .ok (.aload_n 0, 1) := by decide +kernel
theorem dX11_openOne_51 : decode cX11_openOne 51 = .ok (.getfield 7, 3) := by decide +kernel
theorem dX11_openOne_54 : decode cX11_openOne 54 = .ok (.iload_n 1, 1) := by decide +kernel
theorem dX11_openOne_55 : decode cX11_openOne 55 = .ok (.iconst 3, 1) := by decide +kernel
theorem dX11_openOne_56 : decode cX11_openOne 56 = .ok (.iadd, 1) := by decide +kernel
theorem dX11_openOne_57 : decode cX11_openOne 57 = .ok (.lconst 0, 1) := by decide +kernel
theorem dX11_openOne_58 : decode cX11_openOne 58 = .ok (.lastore, 1) := by decide +kernel
theorem dX11_openOne_59 : decode cX11_openOne 59 = .ok (.aload_n 0, 1) := by decide +kernel
theorem dX11_openOne_60 : decode cX11_openOne 60 = .ok (.getfield 7, 3) := by decide +kernel
theorem dX11_openOne_63 : decode cX11_openOne 63 = .ok (.iload_n 1, 1) := by decide +kernel
theorem dX11_openOne_64 : decode cX11_openOne 64 = .ok (.iconst 4, 1) := by decide +kernel
theorem dX11_openOne_65 : decode cX11_openOne 65 = .ok (.iadd, 1) := by decide +kernel
theorem dX11_openOne_66 : decode cX11_openOne 66 = .ok (.ldc2_w 109, 3) := by decide +kernel
theorem dX11_openOne_69 : decode cX11_openOne 69 = .ok (.lastore, 1) := by decide +kernel
theorem dX11_openOne_70 : decode cX11_openOne 70 = .ok (.aload_n 0, 1) := by decide +kernel
theorem dX11_openOne_71 : decode cX11_openOne 71 = .ok (.getfield 7, 3) := by decide +kernel
theorem dX11_openOne_74 : decode cX11_openOne 74 = .ok (.bipush 6, 2) := by decide +kernel
theorem dX11_openOne_76 : decode cX11_openOne 76 = .ok (.dup2, 1) := by decide +kernel
theorem dX11_openOne_77 : decode cX11_openOne 77 = .ok (.laload, 1) := by decide +kernel
theorem dX11_openOne_78 : decode cX11_openOne 78 = .ok (.lconst 1, 1) := by decide +kernel
theorem dX11_openOne_79 : decode cX11_openOne 79 = .ok (.ladd, 1) := by decide +kernel
theorem dX11_openOne_80 : decode cX11_openOne 80 = .ok (.lastore, 1) := by decide +kernel
theorem dX11_openOne_81 : decode cX11_openOne 81 = .ok (.aload_n 0, 1) := by decide +kernel
theorem dX11_openOne_82 : decode cX11_openOne 82 = .ok (.getfield 7, 3) := by decide +kernel
theorem dX11_openOne_85 : decode cX11_openOne 85 = .ok (.bipush 9, 2) := by decide +kernel
theorem dX11_openOne_87 : decode cX11_openOne 87 = .ok (.dup2, 1) := by decide +kernel
theorem dX11_openOne_88 : decode cX11_openOne 88 = .ok (.laload, 1) := by decide +kernel
theorem dX11_openOne_89 : decode cX11_openOne 89 = .ok (.lconst 1, 1) := by decide +kernel
theorem dX11_openOne_90 : decode cX11_openOne 90 = .ok (.ladd, 1) := by decide +kernel
theorem dX11_openOne_91 : decode cX11_openOne 91 = .ok (.lastore, 1) := by decide +kernel
theorem dX11_openOne_92 : decode cX11_openOne 92 = .ok (.iload_n 1, 1) := by decide +kernel
theorem dX11_openOne_93 : decode cX11_openOne 93 = .ok (.ireturn, 1) := by decide +kernel
theorem dX11_dropSeries_0 : decode cX11_dropSeries 0 = .ok (.iload_n 1, 1) := by decide +kernel
theorem dX11_dropSeries_1 : decode cX11_dropSeries 1 = .ok (.istore_n 2, 1) := by decide +kernel
theorem dX11_dropSeries_2 : decode cX11_dropSeries 2 = .ok (.iload_n 2, 1) := by decide +kernel
theorem dX11_dropSeries_3 : decode cX11_dropSeries 3 = .ok (.iconst 5, 1) := by decide +kernel
theorem dX11_dropSeries_4 : decode cX11_dropSeries 4 = .ok (.iadd, 1) := by decide +kernel
theorem dX11_dropSeries_5 : decode cX11_dropSeries 5 = .ok (.bipush 46, 2) := by decide +kernel
theorem dX11_dropSeries_7 : decode cX11_dropSeries 7 = .ok (.if_icmp .ge 23, 3) := by decide +kernel
theorem dX11_dropSeries_10 : decode cX11_dropSeries 10 = .ok (.aload_n 0, 1) := by decide +kernel
theorem dX11_dropSeries_11 : decode cX11_dropSeries 11 = .ok (.getfield 7, 3) := by decide +kernel
theorem dX11_dropSeries_14 : decode cX11_dropSeries 14 = .ok (.iload_n 2, 1) := by decide +kernel
theorem dX11_dropSeries_15 : decode cX11_dropSeries 15 = .ok (.aload_n 0, 1) := by decide +kernel
theorem dX11_dropSeries_16 : decode cX11_dropSeries 16 = .ok (.getfield 7, 3) := by decide +kernel
theorem dX11_dropSeries_19 : decode cX11_dropSeries 19 = .ok (.iload_n 2, 1) := by decide +kernel
theorem dX11_dropSeries_20 : decode cX11_dropSeries 20 = .ok (.iconst 5, 1) := by decide +kernel
theorem dX11_dropSeries_21 : decode cX11_dropSeries 21 = .ok (.iadd, 1) := by decide +kernel
theorem dX11_dropSeries_22 : decode cX11_dropSeries 22 = .ok (.laload, 1) := by decide +kernel
theorem dX11_dropSeries_23 : decode cX11_dropSeries 23 = .ok (.lastore, 1) := by decide +kernel
theorem dX11_dropSeries_24 : decode cX11_dropSeries 24 = .ok (.iinc 2 1, 3) := by decide +kernel
theorem dX11_dropSeries_27 : decode cX11_dropSeries 27 = .ok (.goto (-25), 3) := by decide +kernel
theorem dX11_dropSeries_30 : decode cX11_dropSeries 30 = .ok (.aload_n 0, 1) := by decide +kernel
theorem dX11_dropSeries_31 : decode cX11_dropSeries 31 = .ok (.getfield 7, 3) := by decide +kernel
theorem dX11_dropSeries_34 : decode cX11_dropSeries 34 = .ok (.bipush 6, 2) := by decide +kernel
theorem dX11_dropSeries_36 : decode cX11_dropSeries 36 = .ok (.dup2, 1) := by decide +kernel
theorem dX11_dropSeries_37 : decode cX11_dropSeries 37 = .ok (.laload, 1) := by decide +kernel
theorem dX11_dropSeries_38 : decode cX11_dropSeries 38 = .ok (.lconst 1, 1) := by decide +kernel
theorem dX11_dropSeries_39 : decode cX11_dropSeries 39 = .ok (.lsub, 1) := by decide +kernel
theorem dX11_dropSeries_40 : decode cX11_dropSeries 40 = .ok (.lastore, 1) := by decide +kernel
theorem dX11_dropSeries_41 : decode cX11_dropSeries 41 = .ok (.return_, 1) := by decide +kernel
theorem dX11_dropLot_0 : decode cX11_dropLot 0 = .ok (.iload_n 1, 1) := by decide +kernel
theorem dX11_dropLot_1 : decode cX11_dropLot 1 = .ok (.istore_n 2, 1) := by decide +kernel
theorem dX11_dropLot_2 : decode cX11_dropLot 2 = .ok (.iload_n 2, 1) := by decide +kernel
theorem dX11_dropLot_3 : decode cX11_dropLot 3 = .ok (.bipush 6, 2) := by decide +kernel
theorem dX11_dropLot_5 : decode cX11_dropLot 5 = .ok (.iadd, 1) := by decide +kernel
theorem dX11_dropLot_6 : decode cX11_dropLot 6 = .ok (.sipush 286, 3) := by decide +kernel
theorem dX11_dropLot_9 : decode cX11_dropLot 9 = .ok (.if_icmp .ge 24, 3) := by decide +kernel
theorem dX11_dropLot_12 : decode cX11_dropLot 12 = .ok (.aload_n 0, 1) := by decide +kernel
theorem dX11_dropLot_13 : decode cX11_dropLot 13 = .ok (.getfield 7, 3) := by decide +kernel
theorem dX11_dropLot_16 : decode cX11_dropLot 16 = .ok (.iload_n 2, 1) := by decide +kernel
theorem dX11_dropLot_17 : decode cX11_dropLot 17 = .ok (.aload_n 0, 1) := by decide +kernel
theorem dX11_dropLot_18 : decode cX11_dropLot 18 = .ok (.getfield 7, 3) := by decide +kernel
theorem dX11_dropLot_21 : decode cX11_dropLot 21 = .ok (.iload_n 2, 1) := by decide +kernel
theorem dX11_dropLot_22 : decode cX11_dropLot 22 = .ok (.bipush 6, 2) := by decide +kernel
theorem dX11_dropLot_24 : decode cX11_dropLot 24 = .ok (.iadd, 1) := by decide +kernel
theorem dX11_dropLot_25 : decode cX11_dropLot 25 = .ok (.laload, 1) := by decide +kernel
theorem dX11_dropLot_26 : decode cX11_dropLot 26 = .ok (.lastore, 1) := by decide +kernel
theorem dX11_dropLot_27 : decode cX11_dropLot 27 = .ok (.iinc 2 1, 3) := by decide +kernel
theorem dX11_dropLot_30 : decode cX11_dropLot 30 = .ok (.goto (-28), 3) := by decide +kernel
theorem dX11_dropLot_33 : decode cX11_dropLot 33 = .ok (.aload_n 0, 1) := by decide +kernel
theorem dX11_dropLot_34 : decode cX11_dropLot 34 = .ok (.getfield 7, 3) := by decide +kernel
theorem dX11_dropLot_37 : decode cX11_dropLot 37 = .ok (.bipush 7, 2) := by decide +kernel
theorem dX11_dropLot_39 : decode cX11_dropLot 39 = .ok (.dup2, 1) := by decide +kernel
theorem dX11_dropLot_40 : decode cX11_dropLot 40 = .ok (.laload, 1) := by decide +kernel
theorem dX11_dropLot_41 : decode cX11_dropLot 41 = .ok (.lconst 1, 1) := by decide +kernel
theorem dX11_dropLot_42 : decode cX11_dropLot 42 = .ok (.lsub, 1) := by decide +kernel
theorem dX11_dropLot_43 : decode cX11_dropLot 43 = .ok (.lastore, 1) := by decide +kernel
theorem dX11_dropLot_44 : decode cX11_dropLot 44 = .ok (.return_, 1) := by decide +kernel
theorem dX11_closeEmpty_0 : decode cX11_closeEmpty 0 = .ok (.aload_n 0, 1) := by decide +kernel
theorem dX11_closeEmpty_1 : decode cX11_closeEmpty 1 = .ok (.getfield 7, 3) := by decide +kernel
theorem dX11_closeEmpty_4 : decode cX11_closeEmpty 4 = .ok (.bipush 6, 2) := by decide +kernel
theorem dX11_closeEmpty_6 : decode cX11_closeEmpty 6 = .ok (.laload, 1) := by decide +kernel
theorem dX11_closeEmpty_7 : decode cX11_closeEmpty 7 = .ok (.l2i, 1) := by decide +kernel
theorem dX11_closeEmpty_8 : decode cX11_closeEmpty 8 = .ok (.iconst 1, 1) := by decide +kernel
theorem dX11_closeEmpty_9 : decode cX11_closeEmpty 9 = .ok (.isub, 1) := by decide +kernel
theorem dX11_closeEmpty_10 : decode cX11_closeEmpty 10 = .ok (.istore_n 1, 1) := by decide +kernel
theorem dX11_closeEmpty_11 : decode cX11_closeEmpty 11 = .ok (.iload_n 1, 1) := by decide +kernel
theorem dX11_closeEmpty_12 : decode cX11_closeEmpty 12 = .ok (.ifCond .lt 53, 3) := by decide +kernel
theorem dX11_closeEmpty_15 : decode cX11_closeEmpty 15 = .ok (.iload_n 1, 1) := by decide +kernel
theorem dX11_closeEmpty_16 : decode cX11_closeEmpty 16 = .ok (.invokestatic 87, 3) := by decide +kernel
theorem dX11_closeEmpty_19 : decode cX11_closeEmpty 19 = .ok (.istore_n 2, 1) := by decide +kernel
theorem dX11_closeEmpty_20 : decode cX11_closeEmpty 20 = .ok (.aload_n 0, 1) := by decide +kernel
theorem dX11_closeEmpty_21 : decode cX11_closeEmpty 21 = .ok (.getfield 7, 3) := by decide +kernel
theorem dX11_closeEmpty_24 : decode cX11_closeEmpty 24 = .ok (.iload_n 2, 1) := by decide +kernel
theorem dX11_closeEmpty_25 : decode cX11_closeEmpty 25 = .ok (.iconst 3, 1) := by decide +kernel
theorem dX11_closeEmpty_26 : decode cX11_closeEmpty 26 = .ok (.iadd, 1) := by decide +kernel
theorem dX11_closeEmpty_27 : decode cX11_closeEmpty 27 = .ok (.laload, 1) := by decide +kernel
theorem dX11_closeEmpty_28 : decode cX11_closeEmpty 28 = .ok (.lconst 0, 1) := by decide +kernel
theorem dX11_closeEmpty_29 : decode cX11_closeEmpty 29 = .ok (.lcmp, 1) := by decide +kernel
theorem dX11_closeEmpty_30 : decode cX11_closeEmpty 30 = .ok (.ifCond .le 6, 3) := by decide +kernel
theorem dX11_closeEmpty_33 : decode cX11_closeEmpty 33 = .ok (.goto 26, 3) := by decide +kernel
theorem dX11_closeEmpty_36 : decode cX11_closeEmpty 36 = .ok (.aload_n 0, 1) := by decide +kernel
theorem dX11_closeEmpty_37 : decode cX11_closeEmpty 37 = .ok (.getfield 7, 3) := by decide +kernel
theorem dX11_closeEmpty_40 : decode cX11_closeEmpty 40 = .ok (.bipush 11, 2) := by decide +kernel
theorem dX11_closeEmpty_42 : decode cX11_closeEmpty 42 = .ok (.dup2, 1) := by decide +kernel
theorem dX11_closeEmpty_43 : decode cX11_closeEmpty 43 = .ok (.laload, 1) := by decide +kernel
theorem dX11_closeEmpty_44 : decode cX11_closeEmpty 44 = .ok (.aload_n 0, 1) := by decide +kernel
theorem dX11_closeEmpty_45 : decode cX11_closeEmpty 45 = .ok (.getfield 7, 3) := by decide +kernel
theorem dX11_closeEmpty_48 : decode cX11_closeEmpty 48 = .ok (.iload_n 2, 1) := by decide +kernel
theorem dX11_closeEmpty_49 : decode cX11_closeEmpty 49 = .ok (.iconst 2, 1) := by decide +kernel
theorem dX11_closeEmpty_50 : decode cX11_closeEmpty 50 = .ok (.iadd, 1) := by decide +kernel
theorem dX11_closeEmpty_51 : decode cX11_closeEmpty 51 = .ok (.laload, 1) := by decide +kernel
theorem dX11_closeEmpty_52 : decode cX11_closeEmpty 52 = .ok (.ladd, 1) := by decide +kernel
theorem dX11_closeEmpty_53 : decode cX11_closeEmpty 53 = .ok (.lastore, 1) := by decide +kernel
theorem dX11_closeEmpty_54 : decode cX11_closeEmpty 54 = .ok (.aload_n 0, 1) := by decide +kernel
theorem dX11_closeEmpty_55 : decode cX11_closeEmpty 55 = .ok (.iload_n 2, 1) := by decide +kernel
theorem dX11_closeEmpty_56 : decode cX11_closeEmpty 56 = .ok (.invokevirtual 111, 3) := by decide +kernel
theorem dX11_closeEmpty_59 : decode cX11_closeEmpty 59 = .ok (.iinc 1 (-1), 3) := by decide +kernel
theorem dX11_closeEmpty_62 : decode cX11_closeEmpty 62 = .ok (.goto (-51), 3) := by decide +kernel
theorem dX11_closeEmpty_65 : decode cX11_closeEmpty 65 = .ok (.return_, 1) := by decide +kernel
theorem dX11_dropEmptyLots_0 : decode cX11_dropEmptyLots 0 = .ok (.aload_n 0, 1) := by decide +kernel
theorem dX11_dropEmptyLots_1 : decode cX11_dropEmptyLots 1 = .ok (.getfield 7, 3) := by decide +kernel
theorem dX11_dropEmptyLots_4 : decode cX11_dropEmptyLots 4 = .ok (.bipush 7, 2) := by decide +kernel
theorem dX11_dropEmptyLots_6 : decode cX11_dropEmptyLots 6 = .ok (.laload, 1) := by decide +kernel
theorem dX11_dropEmptyLots_7 : decode cX11_dropEmptyLots 7 = .ok (.l2i, 1) := by decide +kernel
theorem dX11_dropEmptyLots_8 : decode cX11_dropEmptyLots 8 = .ok (.iconst 1, 1) := by decide +kernel
theorem dX11_dropEmptyLots_9 : decode cX11_dropEmptyLots 9 = .ok (.isub, 1) := by decide +kernel
theorem dX11_dropEmptyLots_10 : decode cX11_dropEmptyLots 10 = .ok (.istore_n 1, 1) := by decide +kernel
theorem dX11_dropEmptyLots_11 : decode cX11_dropEmptyLots 11 = .ok (.iload_n 1, 1) := by decide +kernel
theorem dX11_dropEmptyLots_12 : decode cX11_dropEmptyLots 12 = .ok (.ifCond .lt 33, 3) := by decide +kernel
theorem dX11_dropEmptyLots_15 : decode cX11_dropEmptyLots 15 = .ok (.aload_n 0, 1) := by decide +kernel
theorem dX11_dropEmptyLots_16 : decode cX11_dropEmptyLots 16 = .ok (.getfield 7, 3) := by decide +kernel
theorem dX11_dropEmptyLots_19 : decode cX11_dropEmptyLots 19 = .ok (.iload_n 1, 1) := by decide +kernel
theorem dX11_dropEmptyLots_20 : decode cX11_dropEmptyLots 20 = .ok (.invokestatic 115, 3) := by decide +kernel
theorem dX11_dropEmptyLots_23 : decode cX11_dropEmptyLots 23 = .ok (.iconst 2, 1) := by decide +kernel
theorem dX11_dropEmptyLots_24 : decode cX11_dropEmptyLots 24 = .ok (.iadd, 1) := by decide +kernel
theorem dX11_dropEmptyLots_25 : decode cX11_dropEmptyLots 25 = .ok (.laload, 1) := by decide +kernel
theorem dX11_dropEmptyLots_26 : decode cX11_dropEmptyLots 26 = .ok (.lconst 0, 1) := by decide +kernel
theorem dX11_dropEmptyLots_27 : decode cX11_dropEmptyLots 27 = .ok (.lcmp, 1) := by decide +kernel
theorem dX11_dropEmptyLots_28 : decode cX11_dropEmptyLots 28 = .ok (.ifCond .ne 11, 3) := by decide +kernel
theorem dX11_dropEmptyLots_31 : decode cX11_dropEmptyLots 31 = .ok (.aload_n 0, 1) := by decide +kernel
theorem dX11_dropEmptyLots_32 : decode cX11_dropEmptyLots 32 = .ok (.iload_n 1, 1) := by decide +kernel
theorem dX11_dropEmptyLots_33 : decode cX11_dropEmptyLots 33 = .ok (.invokestatic 115, 3) := by decide +kernel
theorem dX11_dropEmptyLots_36 : decode cX11_dropEmptyLots 36 = .ok (.invokevirtual 118, 3) := by decide +kernel
theorem dX11_dropEmptyLots_39 : decode cX11_dropEmptyLots 39 = .ok (.iinc 1 (-1), 3) := by decide +kernel
theorem dX11_dropEmptyLots_42 : decode cX11_dropEmptyLots 42 = .ok (.goto (-31), 3) := by decide +kernel
theorem dX11_dropEmptyLots_45 : decode cX11_dropEmptyLots 45 = .ok (.return_, 1) := by decide +kernel
theorem dX11_unitsBy_0 : decode cX11_unitsBy 0 = .ok (.lconst 0, 1) := by decide +kernel
theorem dX11_unitsBy_1 : decode cX11_unitsBy 1 = .ok (.lstore_n 2, 1) := by decide +kernel
theorem dX11_unitsBy_2 : decode cX11_unitsBy 2 = .ok (.iconst 0, 1) := by decide +kernel
theorem dX11_unitsBy_3 : decode cX11_unitsBy 3 = .ok (.istore 4, 2) := by decide +kernel
theorem dX11_unitsBy_5 : decode cX11_unitsBy 5 = .ok (.iload 4, 2) := by decide +kernel
theorem dX11_unitsBy_7 : decode cX11_unitsBy 7 = .ok (.i2l, 1) := by decide +kernel
theorem dX11_unitsBy_8 : decode cX11_unitsBy 8 = .ok (.aload_n 0, 1) := by decide +kernel
theorem dX11_unitsBy_9 : decode cX11_unitsBy 9 = .ok (.getfield 7, 3) := by decide +kernel
theorem dX11_unitsBy_12 : decode cX11_unitsBy 12 = .ok (.bipush 7, 2) := by decide +kernel
theorem dX11_unitsBy_14 : decode cX11_unitsBy 14 = .ok (.laload, 1) := by decide +kernel
theorem dX11_unitsBy_15 : decode cX11_unitsBy 15 = .ok (.lcmp, 1) := by decide +kernel
theorem dX11_unitsBy_16 : decode cX11_unitsBy 16 = .ok (.ifCond .ge 42, 3) := by decide +kernel
theorem dX11_unitsBy_19 : decode cX11_unitsBy 19 = .ok (.aload_n 0, 1) := by decide +kernel
theorem dX11_unitsBy_20 : decode cX11_unitsBy 20 = .ok (.getfield 7, 3) := by decide +kernel
theorem dX11_unitsBy_23 : decode cX11_unitsBy 23 = .ok (.iload 4, 2) := by decide +kernel
theorem dX11_unitsBy_25 : decode cX11_unitsBy 25 = .ok (.invokestatic 115, 3) := by decide +kernel
theorem dX11_unitsBy_28 : decode cX11_unitsBy 28 = .ok (.iconst 0, 1) := by decide +kernel
theorem dX11_unitsBy_29 : decode cX11_unitsBy 29 = .ok (.iadd, 1) := by decide +kernel
theorem dX11_unitsBy_30 : decode cX11_unitsBy 30 = .ok (.laload, 1) := by decide +kernel
theorem dX11_unitsBy_31 : decode cX11_unitsBy 31 = .ok (.iload_n 1, 1) := by decide +kernel
theorem dX11_unitsBy_32 : decode cX11_unitsBy 32 = .ok (.i2l, 1) := by decide +kernel
theorem dX11_unitsBy_33 : decode cX11_unitsBy 33 = .ok (.lcmp, 1) := by decide +kernel
theorem dX11_unitsBy_34 : decode cX11_unitsBy 34 = .ok (.ifCond .ne 18, 3) := by decide +kernel
theorem dX11_unitsBy_37 : decode cX11_unitsBy 37 = .ok (.lload_n 2, 1) := by decide +kernel
theorem dX11_unitsBy_38 : decode cX11_unitsBy 38 = .ok (.aload_n 0, 1) := by decide +kernel
theorem dX11_unitsBy_39 : decode cX11_unitsBy 39 = .ok (.getfield 7, 3) := by decide +kernel
theorem dX11_unitsBy_42 : decode cX11_unitsBy 42 = .ok (.iload 4, 2) := by decide +kernel
theorem dX11_unitsBy_44 : decode cX11_unitsBy 44 = .ok (.invokestatic 115, 3) := by decide +kernel
theorem dX11_unitsBy_47 : decode cX11_unitsBy 47 = .ok (.iconst 2, 1) := by decide +kernel
theorem dX11_unitsBy_48 : decode cX11_unitsBy 48 = .ok (.iadd, 1) := by decide +kernel
theorem dX11_unitsBy_49 : decode cX11_unitsBy 49 = .ok (.laload, 1) := by decide +kernel
theorem dX11_unitsBy_50 : decode cX11_unitsBy 50 = .ok (.ladd, 1) := by decide +kernel
theorem dX11_unitsBy_51 : decode cX11_unitsBy 51 = .ok (.lstore_n 2, 1) := by decide +kernel
theorem dX11_unitsBy_52 : decode cX11_unitsBy 52 = .ok (.iinc 4 1, 3) := by decide +kernel
theorem dX11_unitsBy_55 : decode cX11_unitsBy 55 = .ok (.goto (-50), 3) := by decide +kernel
theorem dX11_unitsBy_58 : decode cX11_unitsBy 58 = .ok (.lload_n 2, 1) := by decide +kernel
theorem dX11_unitsBy_59 : decode cX11_unitsBy 59 = .ok (.lreturn, 1) := by decide +kernel
theorem dX11_dueOf_0 : decode cX11_dueOf 0 = .ok (.aload_n 0, 1) := by decide +kernel
theorem dX11_dueOf_1 : decode cX11_dueOf 1 = .ok (.iload_n 1, 1) := by decide +kernel
theorem dX11_dueOf_2 : decode cX11_dueOf 2 = .ok (.invokevirtual 121, 3) := by decide +kernel
theorem dX11_dueOf_5 : decode cX11_dueOf 5 = .ok (.aload_n 0, 1) := by decide +kernel
theorem dX11_dueOf_6 : decode cX11_dueOf 6 = .ok (.getfield 7, 3) := by decide +kernel
theorem dX11_dueOf_9 : decode cX11_dueOf 9 = .ok (.iload_n 1, 1) := by decide +kernel
theorem dX11_dueOf_10 : decode cX11_dueOf 10 = .ok (.iconst 4, 1) := by decide +kernel
theorem dX11_dueOf_11 : decode cX11_dueOf 11 = .ok (.iadd, 1) := by decide +kernel
theorem dX11_dueOf_12 : decode cX11_dueOf 12 = .ok (.laload, 1) := by decide +kernel
theorem dX11_dueOf_13 : decode cX11_dueOf 13 = .ok (.invokestatic 124, 3) := by decide +kernel
theorem dX11_dueOf_16 : decode cX11_dueOf 16 = .ok (.aload_n 0, 1) := by decide +kernel
theorem dX11_dueOf_17 : decode cX11_dueOf 17 = .ok (.getfield 7, 3) := by decide +kernel
theorem dX11_dueOf_20 : decode cX11_dueOf 20 = .ok (.iload_n 2, 1) := by decide +kernel
theorem dX11_dueOf_21 : decode cX11_dueOf 21 = .ok (.iconst 3, 1) := by decide +kernel
theorem dX11_dueOf_22 : decode cX11_dueOf 22 = .ok (.iadd, 1) := by decide +kernel
theorem dX11_dueOf_23 : decode cX11_dueOf 23 = .ok (.laload, 1) := by decide +kernel
theorem dX11_dueOf_24 : decode cX11_dueOf 24 = .ok (.lsub, 1) := by decide +kernel
theorem dX11_dueOf_25 : decode cX11_dueOf 25 = .ok (.lstore 5, 2) := by decide +kernel
theorem dX11_dueOf_27 : decode cX11_dueOf 27 = .ok (.aload_n 0, 1) := by decide +kernel
theorem dX11_dueOf_28 : decode cX11_dueOf 28 = .ok (.getfield 7, 3) := by decide +kernel
theorem dX11_dueOf_31 : decode cX11_dueOf 31 = .ok (.iconst 1, 1) := by decide +kernel
theorem dX11_dueOf_32 : decode cX11_dueOf 32 = .ok (.laload, 1) := by decide +kernel
theorem dX11_dueOf_33 : decode cX11_dueOf 33 = .ok (.lconst 0, 1) := by decide +kernel
theorem dX11_dueOf_34 : decode cX11_dueOf 34 = .ok (.lcmp, 1) := by decide +kernel
theorem dX11_dueOf_35 : decode cX11_dueOf 35 = .ok (.ifCond .eq 10, 3) := by decide +kernel
theorem dX11_dueOf_38 : decode cX11_dueOf 38 = .ok (.lload 5, 2) := by decide +kernel
theorem dX11_dueOf_40 : decode cX11_dueOf 40 = .ok (.lconst 0, 1) := by decide +kernel
theorem dX11_dueOf_41 : decode cX11_dueOf 41 = .ok (.lcmp, 1) := by decide +kernel
theorem dX11_dueOf_42 : decode cX11_dueOf 42 = .ok (.ifCond .gt 7, 3) := by decide +kernel
theorem dX11_dueOf_45 : decode cX11_dueOf 45 = .ok (.lconst 0, 1) := by decide +kernel
theorem dX11_dueOf_46 : decode cX11_dueOf 46 = .ok (.goto 22, 3) := by decide +kernel
theorem dX11_dueOf_49 : decode cX11_dueOf 49 = .ok (.lload_n 3, 1) := by decide +kernel
theorem dX11_dueOf_50 : decode cX11_dueOf 50 = .ok (.lload 5, 2) := by decide +kernel
theorem dX11_dueOf_52 : decode cX11_dueOf 52 = .ok (.lmul, 1) := by decide +kernel
theorem dX11_dueOf_53 : decode cX11_dueOf 53 = .ok (.aload_n 0, 1) := by decide +kernel
theorem dX11_dueOf_54 : decode cX11_dueOf 54 = .ok (.getfield 7, 3) := by decide +kernel
theorem dX11_dueOf_57 : decode cX11_dueOf 57 = .ok (.iconst 3, 1) := by decide +kernel
theorem dX11_dueOf_58 : decode cX11_dueOf 58 = .ok (.laload, 1) := by decide +kernel
theorem dX11_dueOf_59 : decode cX11_dueOf 59 = .ok (.lmul, 1) := by decide +kernel
theorem dX11_dueOf_60 : decode cX11_dueOf 60 = .ok (.ldc2_w 56, 3) := by decide +kernel
theorem dX11_dueOf_63 : decode cX11_dueOf 63 = .ok (.ldiv, 1) := by decide +kernel
theorem dX11_dueOf_64 : decode cX11_dueOf 64 = .ok (.ldc2_w 94, 3) := by decide +kernel
theorem dX11_dueOf_67 : decode cX11_dueOf 67 = .ok (.ldiv, 1) := by decide +kernel
theorem dX11_dueOf_68 : decode cX11_dueOf 68 = .ok (.lreturn, 1) := by decide +kernel
theorem dX11_use_0 : decode cX11_use 0 = .ok (.aload_n 0, 1) := by decide +kernel
theorem dX11_use_1 : decode cX11_use 1 = .ok (.iload_n 1, 1) := by decide +kernel
theorem dX11_use_2 : decode cX11_use 2 = .ok (.invokevirtual 129, 3) := by decide +kernel
theorem dX11_use_5 : decode cX11_use 5 = .ok (.istore 4, 2) := by decide +kernel
theorem dX11_use_7 : decode cX11_use 7 = .ok (.aload_n 0, 1) := by decide +kernel
theorem dX11_use_8 : decode cX11_use 8 = .ok (.iload 4, 2) := by decide +kernel
theorem dX11_use_10 : decode cX11_use 10 = .ok (.invokevirtual 106, 3) := by decide +kernel
theorem dX11_use_13 : decode cX11_use 13 = .ok (.lload_n 2, 1) := by decide +kernel
theorem dX11_use_14 : decode cX11_use 14 = .ok (.lmul, 1) := by decide +kernel
theorem dX11_use_15 : decode cX11_use 15 = .ok (.aload_n 0, 1) := by decide +kernel
theorem dX11_use_16 : decode cX11_use 16 = .ok (.getfield 7, 3) := by decide +kernel
theorem dX11_use_19 : decode cX11_use 19 = .ok (.iload 4, 2) := by decide +kernel
theorem dX11_use_21 : decode cX11_use 21 = .ok (.iconst 3, 1) := by decide +kernel
theorem dX11_use_22 : decode cX11_use 22 = .ok (.iadd, 1) := by decide +kernel
theorem dX11_use_23 : decode cX11_use 23 = .ok (.laload, 1) := by decide +kernel
theorem dX11_use_24 : decode cX11_use 24 = .ok (.ldiv, 1) := by decide +kernel
theorem dX11_use_25 : decode cX11_use 25 = .ok (.lstore 5, 2) := by decide +kernel
theorem dX11_use_27 : decode cX11_use 27 = .ok (.aload_n 0, 1) := by decide +kernel
theorem dX11_use_28 : decode cX11_use 28 = .ok (.iload 4, 2) := by decide +kernel
theorem dX11_use_30 : decode cX11_use 30 = .ok (.invokevirtual 102, 3) := by decide +kernel
theorem dX11_use_33 : decode cX11_use 33 = .ok (.lload_n 2, 1) := by decide +kernel
theorem dX11_use_34 : decode cX11_use 34 = .ok (.lmul, 1) := by decide +kernel
theorem dX11_use_35 : decode cX11_use 35 = .ok (.aload_n 0, 1) := by decide +kernel
theorem dX11_use_36 : decode cX11_use 36 = .ok (.getfield 7, 3) := by decide +kernel
theorem dX11_use_39 : decode cX11_use 39 = .ok (.iload 4, 2) := by decide +kernel
theorem dX11_use_41 : decode cX11_use 41 = .ok (.iconst 3, 1) := by decide +kernel
theorem dX11_use_42 : decode cX11_use 42 = .ok (.iadd, 1) := by decide +kernel
theorem dX11_use_43 : decode cX11_use 43 = .ok (.laload, 1) := by decide +kernel
theorem dX11_use_44 : decode cX11_use 44 = .ok (.ldiv, 1) := by decide +kernel
theorem dX11_use_45 : decode cX11_use 45 = .ok (.lstore 7, 2) := by decide +kernel
theorem dX11_use_47 : decode cX11_use 47 = .ok (.aload_n 0, 1) := by decide +kernel
theorem dX11_use_48 : decode cX11_use 48 = .ok (.getfield 7, 3) := by decide +kernel
theorem dX11_use_51 : decode cX11_use 51 = .ok (.iload_n 1, 1) := by decide +kernel
theorem dX11_use_52 : decode cX11_use 52 = .ok (.iconst 4, 1) := by decide +kernel
theorem dX11_use_53 : decode cX11_use 53 = .ok (.iadd, 1) := by decide +kernel
theorem dX11_use_54 : decode cX11_use 54 = .ok (.laload, 1) := by decide +kernel
theorem dX11_use_55 : decode cX11_use 55 = .ok (.lload_n 2, 1) := by decide +kernel
theorem dX11_use_56 : decode cX11_use 56 = .ok (.lmul, 1) := by decide +kernel
theorem dX11_use_57 : decode cX11_use 57 = .ok (.aload_n 0, 1) := by decide +kernel
theorem dX11_use_58 : decode cX11_use 58 = .ok (.getfield 7, 3) := by decide +kernel
theorem dX11_use_61 : decode cX11_use 61 = .ok (.iload_n 1, 1) := by decide +kernel
theorem dX11_use_62 : decode cX11_use 62 = .ok (.iconst 2, 1) := by decide +kernel
theorem dX11_use_63 : decode cX11_use 63 = .ok (.iadd, 1) := by decide +kernel
theorem dX11_use_64 : decode cX11_use 64 = .ok (.laload, 1) := by decide +kernel
theorem dX11_use_65 : decode cX11_use 65 = .ok (.ldiv, 1) := by decide +kernel
theorem dX11_use_66 : decode cX11_use 66 = .ok (.lstore 9, 2) := by decide +kernel
theorem dX11_use_68 : decode cX11_use 68 = .ok (.lload 7, 2) := by decide +kernel
theorem dX11_use_70 : decode cX11_use 70 = .ok (.lload 9, 2) := by decide +kernel
theorem dX11_use_72 : decode cX11_use 72 = .ok (.invokestatic 124, 3) := by decide +kernel
theorem dX11_use_75 : decode cX11_use 75 = .ok (.lstore 11, 2) := by decide +kernel
theorem dX11_use_77 : decode cX11_use 77 = .ok (.aload_n 0, 1) := by decide +kernel
theorem dX11_use_78 : decode cX11_use 78 = .ok (.iload 4, 2) := by decide +kernel
theorem dX11_use_80 : decode cX11_use 80 = .ok (.iload_n 1, 1) := by decide +kernel
theorem dX11_use_81 : decode cX11_use 81 = .ok (.lload_n 2, 1) := by decide +kernel
theorem dX11_use_82 : decode cX11_use 82 = .ok (.invokevirtual 132, 3) := by decide +kernel
theorem dX11_use_85 : decode cX11_use 85 = .ok (.lstore 13, 2) := by decide +kernel
theorem dX11_use_87 : decode cX11_use 87 = .ok (.aload_n 0, 1) := by decide +kernel
theorem dX11_use_88 : decode cX11_use 88 = .ok (.dup, 1) := by decide +kernel
theorem dX11_use_89 : decode cX11_use 89 = .ok (.getfield 136, 3) := by decide +kernel
theorem dX11_use_92 : decode cX11_use 92 = .ok (.lload 5, 2) := by decide +kernel
theorem dX11_use_94 : decode cX11_use 94 = .ok (.ladd, 1) := by decide +kernel
theorem dX11_use_95 : decode cX11_use 95 = .ok (.putfield 136, 3) := by decide +kernel
theorem dX11_use_98 : decode cX11_use 98 = .ok (.aload_n 0, 1) := by decide +kernel
theorem dX11_use_99 : decode cX11_use 99 = .ok (.dup, 1) := by decide +kernel
theorem dX11_use_100 : decode cX11_use 100 = .ok (.getfield 140, 3) := by decide +kernel
theorem dX11_use_103 : decode cX11_use 103 = .ok (.lload 5, 2) := by decide +kernel
theorem dX11_use_105 : decode cX11_use 105 = .ok (.lload 11, 2) := by decide +kernel
theorem dX11_use_107 : decode cX11_use 107 = .ok (.ladd, 1) := by decide +kernel
theorem dX11_use_108 : decode cX11_use 108 = .ok (.lload 13, 2) := by decide +kernel
theorem dX11_use_110 : decode cX11_use 110 = .ok (.lsub, 1) := by decide +kernel
theorem dX11_use_111 : decode cX11_use 111 = .ok (.ladd, 1) := by decide +kernel
theorem dX11_use_112 : decode cX11_use 112 = .ok (.putfield 140, 3) := by decide +kernel
theorem dX11_use_115 : decode cX11_use 115 = .ok (.aload_n 0, 1) := by decide +kernel
theorem dX11_use_116 : decode cX11_use 116 = .ok (.getfield 7, 3) := by decide +kernel
theorem dX11_use_119 : decode cX11_use 119 = .ok (.bipush 13, 2) := by decide +kernel
theorem dX11_use_121 : decode cX11_use 121 = .ok (.dup2, 1) := by decide +kernel
theorem dX11_use_122 : decode cX11_use 122 = .ok (.laload, 1) := by decide +kernel
theorem dX11_use_123 : decode cX11_use 123 = .ok (.lload 5, 2) := by decide +kernel
theorem dX11_use_125 : decode cX11_use 125 = .ok (.lload 11, 2) := by decide +kernel
theorem dX11_use_127 : decode cX11_use 127 = .ok (.ladd, 1) := by decide +kernel
theorem dX11_use_128 : decode cX11_use 128 = .ok (.lload 13, 2) := by decide +kernel
theorem dX11_use_130 : decode cX11_use 130 = .ok (.lsub, 1) := by decide +kernel
theorem dX11_use_131 : decode cX11_use 131 = .ok (.ladd, 1) := by decide +kernel
theorem dX11_use_132 : decode cX11_use 132 = .ok (.lastore, 1) := by decide +kernel
theorem dX11_use_133 : decode cX11_use 133 = .ok (.aload_n 0, 1) := by decide +kernel
theorem dX11_use_134 : decode cX11_use 134 = .ok (.getfield 7, 3) := by decide +kernel
theorem dX11_use_137 : decode cX11_use 137 = .ok (.bipush 10, 2) := by decide +kernel
theorem dX11_use_139 : decode cX11_use 139 = .ok (.dup2, 1) := by decide +kernel
theorem dX11_use_140 : decode cX11_use 140 = .ok (.laload, 1) := by decide +kernel
theorem dX11_use_141 : decode cX11_use 141 = .ok (.lload 7, 2) := by decide +kernel
theorem dX11_use_143 : decode cX11_use 143 = .ok (.lload 11, 2) := by decide +kernel
theorem dX11_use_145 : decode cX11_use 145 = .ok (.lsub, 1) := by decide +kernel
theorem dX11_use_146 : decode cX11_use 146 = .ok (.lload 13, 2) := by decide +kernel
theorem dX11_use_148 : decode cX11_use 148 = .ok (.ladd, 1) := by decide +kernel
theorem dX11_use_149 : decode cX11_use 149 = .ok (.ladd, 1) := by decide +kernel
theorem dX11_use_150 : decode cX11_use 150 = .ok (.lastore, 1) := by decide +kernel
theorem dX11_use_151 : decode cX11_use 151 = .ok (.aload_n 0, 1) := by decide +kernel
theorem dX11_use_152 : decode cX11_use 152 = .ok (.getfield 7, 3) := by decide +kernel
theorem dX11_use_155 : decode cX11_use 155 = .ok (.iload 4, 2) := by decide +kernel
theorem dX11_use_157 : decode cX11_use 157 = .ok (.iconst 2, 1) := by decide +kernel
theorem dX11_use_158 : decode cX11_use 158 = .ok (.iadd, 1) := by decide +kernel
theorem dX11_use_159 : decode cX11_use 159 = .ok (.dup2, 1) := by decide +kernel
theorem dX11_use_160 : decode cX11_use 160 = .ok (.laload, 1) := by decide +kernel
theorem dX11_use_161 : decode cX11_use 161 = .ok (.lload 5, 2) := by decide +kernel
theorem dX11_use_163 : decode cX11_use 163 = .ok (.lload 7, 2) := by decide +kernel
theorem dX11_use_165 : decode cX11_use 165 = .ok (.ladd, 1) := by decide +kernel
theorem dX11_use_166 : decode cX11_use 166 = .ok (.lsub, 1) := by decide +kernel
theorem dX11_use_167 : decode cX11_use 167 = .ok (.lastore, 1) := by decide +kernel
theorem dX11_use_168 : decode cX11_use 168 = .ok (.aload_n 0, 1) := by decide +kernel
theorem dX11_use_169 : decode cX11_use 169 = .ok (.getfield 7, 3) := by decide +kernel
theorem dX11_use_172 : decode cX11_use 172 = .ok (.iload 4, 2) := by decide +kernel
theorem dX11_use_174 : decode cX11_use 174 = .ok (.iconst 3, 1) := by decide +kernel
theorem dX11_use_175 : decode cX11_use 175 = .ok (.iadd, 1) := by decide +kernel
theorem dX11_use_176 : decode cX11_use 176 = .ok (.dup2, 1) := by decide +kernel
theorem dX11_use_177 : decode cX11_use 177 = .ok (.laload, 1) := by decide +kernel
theorem dX11_use_178 : decode cX11_use 178 = .ok (.lload_n 2, 1) := by decide +kernel
theorem dX11_use_179 : decode cX11_use 179 = .ok (.lsub, 1) := by decide +kernel
theorem dX11_use_180 : decode cX11_use 180 = .ok (.lastore, 1) := by decide +kernel
theorem dX11_use_181 : decode cX11_use 181 = .ok (.aload_n 0, 1) := by decide +kernel
theorem dX11_use_182 : decode cX11_use 182 = .ok (.getfield 7, 3) := by decide +kernel
theorem dX11_use_185 : decode cX11_use 185 = .ok (.iload_n 1, 1) := by decide +kernel
theorem dX11_use_186 : decode cX11_use 186 = .ok (.iconst 2, 1) := by decide +kernel
theorem dX11_use_187 : decode cX11_use 187 = .ok (.iadd, 1) := by decide +kernel
theorem dX11_use_188 : decode cX11_use 188 = .ok (.dup2, 1) := by decide +kernel
theorem dX11_use_189 : decode cX11_use 189 = .ok (.laload, 1) := by decide +kernel
theorem dX11_use_190 : decode cX11_use 190 = .ok (.lload_n 2, 1) := by decide +kernel
theorem dX11_use_191 : decode cX11_use 191 = .ok (.lsub, 1) := by decide +kernel
theorem dX11_use_192 : decode cX11_use 192 = .ok (.lastore, 1) := by decide +kernel
theorem dX11_use_193 : decode cX11_use 193 = .ok (.aload_n 0, 1) := by decide +kernel
theorem dX11_use_194 : decode cX11_use 194 = .ok (.getfield 7, 3) := by decide +kernel
theorem dX11_use_197 : decode cX11_use 197 = .ok (.iload_n 1, 1) := by decide +kernel
theorem dX11_use_198 : decode cX11_use 198 = .ok (.iconst 4, 1) := by decide +kernel
theorem dX11_use_199 : decode cX11_use 199 = .ok (.iadd, 1) := by decide +kernel
theorem dX11_use_200 : decode cX11_use 200 = .ok (.dup2, 1) := by decide +kernel
theorem dX11_use_201 : decode cX11_use 201 = .ok (.laload, 1) := by decide +kernel
theorem dX11_use_202 : decode cX11_use 202 = .ok (.lload 9, 2) := by decide +kernel
theorem dX11_use_204 : decode cX11_use 204 = .ok (.lsub, 1) := by decide +kernel
theorem dX11_use_205 : decode cX11_use 205 = .ok (.lastore, 1) := by decide +kernel
theorem dX11_use_206 : decode cX11_use 206 = .ok (.return_, 1) := by decide +kernel
theorem dX11_redeemFrom_0 : decode cX11_redeemFrom 0 = .ok (.lload_n 2, 1) := by decide +kernel
theorem dX11_redeemFrom_1 : decode cX11_redeemFrom 1 = .ok (.lstore 4, 2) := by decide +kernel
theorem dX11_redeemFrom_3 : decode cX11_redeemFrom 3 = .ok (.iconst 0, 1) := by decide +kernel
theorem dX11_redeemFrom_4 : decode cX11_redeemFrom 4 = .ok (.istore 6, 2) := by decide +kernel
theorem dX11_redeemFrom_6 : decode cX11_redeemFrom 6 = .ok (.iload 6, 2) := by decide +kernel
theorem dX11_redeemFrom_8 : decode cX11_redeemFrom 8 = .ok (.i2l, 1) := by decide +kernel
theorem dX11_redeemFrom_9 : decode cX11_redeemFrom 9 = .ok (.aload_n 0, 1) := by decide +kernel
theorem dX11_redeemFrom_10 : decode cX11_redeemFrom 10 = .ok (.getfield 7, 3) := by decide +kernel
theorem dX11_redeemFrom_13 : decode cX11_redeemFrom 13 = .ok (.bipush 7, 2) := by decide +kernel
theorem dX11_redeemFrom_15 : decode cX11_redeemFrom 15 = .ok (.laload, 1) := by decide +kernel
theorem dX11_redeemFrom_16 : decode cX11_redeemFrom 16 = .ok (.lcmp, 1) := by decide +kernel
theorem dX11_redeemFrom_17 : decode cX11_redeemFrom 17 = .ok (.ifCond .ge 72, 3) := by decide +kernel
theorem dX11_redeemFrom_20 : decode cX11_redeemFrom 20 = .ok (.lload 4, 2) := by decide +kernel
theorem dX11_redeemFrom_22 : decode cX11_redeemFrom 22 = .ok (.lconst 0, 1) := by decide +kernel
theorem dX11_redeemFrom_23 : decode cX11_redeemFrom 23 = .ok (.lcmp, 1) := by decide +kernel
theorem dX11_redeemFrom_24 : decode cX11_redeemFrom 24 = .ok (.ifCond .le 65, 3) := by decide +kernel
theorem dX11_redeemFrom_27 : decode cX11_redeemFrom 27 = .ok (.iload 6, 2) := by decide +kernel
theorem dX11_redeemFrom_29 : decode cX11_redeemFrom 29 = .ok (.invokestatic 115, 3) := by decide +kernel
theorem dX11_redeemFrom_32 : decode cX11_redeemFrom 32 = .ok (.istore 7, 2) := by decide +kernel
theorem dX11_redeemFrom_34 : decode cX11_redeemFrom 34 = .ok (.aload_n 0, 1) := by decide +kernel
theorem dX11_redeemFrom_35 : decode cX11_redeemFrom 35 = .ok (.getfield 7, 3) := by decide +kernel
theorem dX11_redeemFrom_38 : decode cX11_redeemFrom 38 = .ok (.iload 7, 2) := by decide +kernel
theorem dX11_redeemFrom_40 : decode cX11_redeemFrom 40 = .ok (.iconst 0, 1) := by decide +kernel
theorem dX11_redeemFrom_41 : decode cX11_redeemFrom 41 = .ok (.iadd, 1) := by decide +kernel
theorem dX11_redeemFrom_42 : decode cX11_redeemFrom 42 = .ok (.laload, 1) := by decide +kernel
theorem dX11_redeemFrom_43 : decode cX11_redeemFrom 43 = .ok (.iload_n 1, 1) := by decide +kernel
theorem dX11_redeemFrom_44 : decode cX11_redeemFrom 44 = .ok (.i2l, 1) := by decide +kernel
theorem dX11_redeemFrom_45 : decode cX11_redeemFrom 45 = .ok (.lcmp, 1) := by decide +kernel
theorem dX11_redeemFrom_46 : decode cX11_redeemFrom 46 = .ok (.ifCond .eq 6, 3) := by decide +kernel
theorem dX11_redeemFrom_49 : decode cX11_redeemFrom 49 = .ok (.goto 34, 3) := by decide +kernel
theorem dX11_redeemFrom_52 : decode cX11_redeemFrom 52 = .ok (.lload 4, 2) := by decide +kernel
theorem dX11_redeemFrom_54 : decode cX11_redeemFrom 54 = .ok (.aload_n 0, 1) := by decide +kernel
theorem dX11_redeemFrom_55 : decode cX11_redeemFrom 55 = .ok (.getfield 7, 3) := by decide +kernel
theorem dX11_redeemFrom_58 : decode cX11_redeemFrom 58 = .ok (.iload 7, 2) := by decide +kernel
theorem dX11_redeemFrom_60 : decode cX11_redeemFrom 60 = .ok (.iconst 2, 1) := by decide +kernel
theorem dX11_redeemFrom_61 : decode cX11_redeemFrom 61 = .ok (.iadd, 1) := by decide +kernel
theorem dX11_redeemFrom_62 : decode cX11_redeemFrom 62 = .ok (.laload, 1) := by decide +kernel
theorem dX11_redeemFrom_63 : decode cX11_redeemFrom 63 = .ok (.invokestatic 124, 3) := by decide +kernel
theorem dX11_redeemFrom_66 : decode cX11_redeemFrom 66 = .ok (.lstore 8, 2) := by decide +kernel
theorem dX11_redeemFrom_68 : decode cX11_redeemFrom 68 = .ok (.aload_n 0, 1) := by decide +kernel
theorem dX11_redeemFrom_69 : decode cX11_redeemFrom 69 = .ok (.iload 7, 2) := by decide +kernel
theorem dX11_redeemFrom_71 : decode cX11_redeemFrom 71 = .ok (.lload 8, 2) := by decide +kernel
theorem dX11_redeemFrom_73 : decode cX11_redeemFrom 73 = .ok (.invokevirtual 143, 3) := by decide +kernel
theorem dX11_redeemFrom_76 : decode cX11_redeemFrom 76 = .ok (.lload 4, 2) := by decide +kernel
theorem dX11_redeemFrom_78 : decode cX11_redeemFrom 78 = .ok (.lload 8, 2) := by decide +kernel
theorem dX11_redeemFrom_80 : decode cX11_redeemFrom 80 = .ok (.lsub, 1) := by decide +kernel
theorem dX11_redeemFrom_81 : decode cX11_redeemFrom 81 = .ok (.lstore 4, 2) := by decide +kernel
theorem dX11_redeemFrom_83 : decode cX11_redeemFrom 83 = .ok (.iinc 6 1, 3) := by decide +kernel
theorem dX11_redeemFrom_86 : decode cX11_redeemFrom 86 = .ok (.goto (-80), 3) := by decide +kernel
theorem dX11_redeemFrom_89 : decode cX11_redeemFrom 89 = .ok (.aload_n 0, 1) := by decide +kernel
theorem dX11_redeemFrom_90 : decode cX11_redeemFrom 90 = .ok (.invokevirtual 147, 3) := by decide +kernel
theorem dX11_redeemFrom_93 : decode cX11_redeemFrom 93 = .ok (.aload_n 0, 1) := by decide +kernel
theorem dX11_redeemFrom_94 : decode cX11_redeemFrom 94 = .ok (.invokevirtual 150, 3) := by decide +kernel
theorem dX11_redeemFrom_97 : decode cX11_redeemFrom 97 = .ok (.lload_n 2, 1) := by decide +kernel
theorem dX11_redeemFrom_98 : decode cX11_redeemFrom 98 = .ok (.lload 4, 2) := by decide +kernel
theorem dX11_redeemFrom_100 : decode cX11_redeemFrom 100 = .ok (.lsub, 1) := by decide +kernel
theorem dX11_redeemFrom_101 : decode cX11_redeemFrom 101 = .ok (.lreturn, 1) := by decide +kernel
theorem dX11_worthOf_0 : decode cX11_worthOf 0 = .ok (.aload_n 0, 1) := by decide +kernel
theorem dX11_worthOf_1 : decode cX11_worthOf 1 = .ok (.getfield 7, 3) := by decide +kernel
theorem dX11_worthOf_4 : decode cX11_worthOf 4 = .ok (.aload_n 0, 1) := by decide +kernel
theorem dX11_worthOf_5 : decode cX11_worthOf 5 = .ok (.getfield 19, 3) := by decide +kernel
theorem dX11_worthOf_8 : decode cX11_worthOf 8 = .ok (.invokestatic 76, 3) := by decide +kernel
theorem dX11_worthOf_11 : decode cX11_worthOf 11 = .ok (.aload_n 0, 1) := by decide +kernel
theorem dX11_worthOf_12 : decode cX11_worthOf 12 = .ok (.lconst 0, 1) := by decide +kernel
theorem dX11_worthOf_13 : decode cX11_worthOf 13 = .ok (.putfield 140, 3) := by decide +kernel
theorem dX11_worthOf_16 : decode cX11_worthOf 16 = .ok (.aload_n 0, 1) := by decide +kernel
theorem dX11_worthOf_17 : decode cX11_worthOf 17 = .ok (.iload_n 1, 1) := by decide +kernel
theorem dX11_worthOf_18 : decode cX11_worthOf 18 = .ok (.aload_n 0, 1) := by decide +kernel
theorem dX11_worthOf_19 : decode cX11_worthOf 19 = .ok (.iload_n 1, 1) := by decide +kernel
theorem dX11_worthOf_20 : decode cX11_worthOf 20 = .ok (.invokevirtual 153, 3) := by decide +kernel
theorem dX11_worthOf_23 : decode cX11_worthOf 23 = .ok (.invokevirtual 156, 3) := by decide +kernel
theorem dX11_worthOf_26 : decode cX11_worthOf 26 = .ok (.lstore_n 2, 1) := by decide +kernel
theorem dX11_worthOf_27 : decode cX11_worthOf 27 = .ok (.aload_n 0, 1) := by decide +kernel
theorem dX11_worthOf_28 : decode cX11_worthOf 28 = .ok (.getfield 19, 3) := by decide +kernel
theorem dX11_worthOf_31 : decode cX11_worthOf 31 = .ok (.aload_n 0, 1) := by decide +kernel
theorem dX11_worthOf_32 : decode cX11_worthOf 32 = .ok (.getfield 7, 3) := by decide +kernel
theorem dX11_worthOf_35 : decode cX11_worthOf 35 = .ok (.invokestatic 76, 3) := by decide +kernel
theorem dX11_worthOf_38 : decode cX11_worthOf 38 = .ok (.aload_n 0, 1) := by decide +kernel
theorem dX11_worthOf_39 : decode cX11_worthOf 39 = .ok (.getfield 140, 3) := by decide +kernel
theorem dX11_worthOf_42 : decode cX11_worthOf 42 = .ok (.lreturn, 1) := by decide +kernel
theorem dX11_requestedBy_0 : decode cX11_requestedBy 0 = .ok (.aload_n 0, 1) := by decide +kernel
theorem dX11_requestedBy_1 : decode cX11_requestedBy 1 = .ok (.getfield 7, 3) := by decide +kernel
theorem dX11_requestedBy_4 : decode cX11_requestedBy 4 = .ok (.aload_n 0, 1) := by decide +kernel
theorem dX11_requestedBy_5 : decode cX11_requestedBy 5 = .ok (.getfield 19, 3) := by decide +kernel
theorem dX11_requestedBy_8 : decode cX11_requestedBy 8 = .ok (.invokestatic 76, 3) := by decide +kernel
theorem dX11_requestedBy_11 : decode cX11_requestedBy 11 = .ok (.aload_n 0, 1) := by decide +kernel
theorem dX11_requestedBy_12 : decode cX11_requestedBy 12 = .ok (.lconst 0, 1) := by decide +kernel
theorem dX11_requestedBy_13 : decode cX11_requestedBy 13 = .ok (.putfield 136, 3) := by decide +kernel
theorem dX11_requestedBy_16 : decode cX11_requestedBy 16 = .ok (.aload_n 0, 1) := by decide +kernel
theorem dX11_requestedBy_17 : decode cX11_requestedBy 17 = .ok (.aload_n 0, 1) := by decide +kernel
theorem dX11_requestedBy_18 : decode cX11_requestedBy 18 = .ok (.getfield 7, 3) := by decide +kernel
theorem dX11_requestedBy_21 : decode cX11_requestedBy 21 = .ok (.iload_n 1, 1) := by decide +kernel
theorem dX11_requestedBy_22 : decode cX11_requestedBy 22 = .ok (.invokestatic 160, 3) := by decide +kernel
theorem dX11_requestedBy_25 : decode cX11_requestedBy 25 = .ok (.iconst 0, 1) := by decide +kernel
theorem dX11_requestedBy_26 : decode cX11_requestedBy 26 = .ok (.iadd, 1) := by decide +kernel
theorem dX11_requestedBy_27 : decode cX11_requestedBy 27 = .ok (.laload, 1) := by decide +kernel
theorem dX11_requestedBy_28 : decode cX11_requestedBy 28 = .ok (.l2i, 1) := by decide +kernel
theorem dX11_requestedBy_29 : decode cX11_requestedBy 29 = .ok (.aload_n 0, 1) := by decide +kernel
theorem dX11_requestedBy_30 : decode cX11_requestedBy 30 = .ok (.getfield 7, 3) := by decide +kernel
theorem dX11_requestedBy_33 : decode cX11_requestedBy 33 = .ok (.iload_n 1, 1) := by decide +kernel
theorem dX11_requestedBy_34 : decode cX11_requestedBy 34 = .ok (.invokestatic 160, 3) := by decide +kernel
theorem dX11_requestedBy_37 : decode cX11_requestedBy 37 = .ok (.iconst 2, 1) := by decide +kernel
theorem dX11_requestedBy_38 : decode cX11_requestedBy 38 = .ok (.iadd, 1) := by decide +kernel
theorem dX11_requestedBy_39 : decode cX11_requestedBy 39 = .ok (.laload, 1) := by decide +kernel
theorem dX11_requestedBy_40 : decode cX11_requestedBy 40 = .ok (.invokevirtual 156, 3) := by decide +kernel
theorem dX11_requestedBy_43 : decode cX11_requestedBy 43 = .ok (.lstore_n 2, 1) := by decide +kernel
theorem dX11_requestedBy_44 : decode cX11_requestedBy 44 = .ok (.aload_n 0, 1) := by decide +kernel
theorem dX11_requestedBy_45 : decode cX11_requestedBy 45 = .ok (.getfield 19, 3) := by decide +kernel
theorem dX11_requestedBy_48 : decode cX11_requestedBy 48 = .ok (.aload_n 0, 1) := by decide +kernel
theorem dX11_requestedBy_49 : decode cX11_requestedBy 49 = .ok (.getfield 7, 3) := by decide +kernel
theorem dX11_requestedBy_52 : decode cX11_requestedBy 52 = .ok (.invokestatic 76, 3) := by decide +kernel
theorem dX11_requestedBy_55 : decode cX11_requestedBy 55 = .ok (.aload_n 0, 1) := by decide +kernel
theorem dX11_requestedBy_56 : decode cX11_requestedBy 56 = .ok (.getfield 136, 3) := by decide +kernel
theorem dX11_requestedBy_59 : decode cX11_requestedBy 59 = .ok (.lreturn, 1) := by decide +kernel
theorem dX11_isRedemption_0 : decode cX11_isRedemption 0 = .ok (.aload_n 0, 1) := by decide +kernel
theorem dX11_isRedemption_1 : decode cX11_isRedemption 1 = .ok (.getfield 7, 3) := by decide +kernel
theorem dX11_isRedemption_4 : decode cX11_isRedemption 4 = .ok (.iload_n 1, 1) := by decide +kernel
theorem dX11_isRedemption_5 : decode cX11_isRedemption 5 = .ok (.invokestatic 160, 3) := by decide +kernel
theorem dX11_isRedemption_8 : decode cX11_isRedemption 8 = .ok (.iconst 1, 1) := by decide +kernel
theorem dX11_isRedemption_9 : decode cX11_isRedemption 9 = .ok (.iadd, 1) := by decide +kernel
theorem dX11_isRedemption_10 : decode cX11_isRedemption 10 = .ok (.laload, 1) := by decide +kernel
theorem dX11_isRedemption_11 : decode cX11_isRedemption 11 = .ok (.lconst 1, 1) := by decide +kernel
theorem dX11_isRedemption_12 : decode cX11_isRedemption 12 = .ok (.lcmp, 1) := by decide +kernel
theorem dX11_isRedemption_13 : decode cX11_isRedemption 13 = .ok (.ifCond .ne 7, 3) := by decide +kernel
theorem dX11_isRedemption_16 : decode cX11_isRedemption 16 = .ok (.iconst 1, 1) := by decide +kernel
theorem dX11_isRedemption_17 : decode cX11_isRedemption 17 = .ok (.goto 4, 3) := by decide +kernel
theorem dX11_isRedemption_20 : decode cX11_isRedemption 20 = .ok (.iconst 0, 1) := by decide +kernel
theorem dX11_isRedemption_21 : decode cX11_isRedemption 21 = .ok (.ireturn, 1) := by decide +kernel
theorem dX11_requested_0 : decode cX11_requested 0 = .ok (.lconst 0, 1) := by decide +kernel
theorem dX11_requested_1 : decode cX11_requested 1 = .ok (.lstore_n 1, 1) := by decide +kernel
theorem dX11_requested_2 : decode cX11_requested 2 = .ok (.iconst 0, 1) := by decide +kernel
theorem dX11_requested_3 : decode cX11_requested 3 = .ok (.istore_n 3, 1) := by decide +kernel
theorem dX11_requested_4 : decode cX11_requested 4 = .ok (.iload_n 3, 1) := by decide +kernel
theorem dX11_requested_5 : decode cX11_requested 5 = .ok (.i2l, 1) := by decide +kernel
theorem dX11_requested_6 : decode cX11_requested 6 = .ok (.aload_n 0, 1) := by decide +kernel
theorem dX11_requested_7 : decode cX11_requested 7 = .ok (.getfield 7, 3) := by decide +kernel
theorem dX11_requested_10 : decode cX11_requested 10 = .ok (.bipush 8, 2) := by decide +kernel
theorem dX11_requested_12 : decode cX11_requested 12 = .ok (.laload, 1) := by decide +kernel
theorem dX11_requested_13 : decode cX11_requested 13 = .ok (.lcmp, 1) := by decide +kernel
theorem dX11_requested_14 : decode cX11_requested 14 = .ok (.ifCond .ge 29, 3) := by decide +kernel
theorem dX11_requested_17 : decode cX11_requested 17 = .ok (.lload_n 1, 1) := by decide +kernel
theorem dX11_requested_18 : decode cX11_requested 18 = .ok (.aload_n 0, 1) := by decide +kernel
theorem dX11_requested_19 : decode cX11_requested 19 = .ok (.iload_n 3, 1) := by decide +kernel
theorem dX11_requested_20 : decode cX11_requested 20 = .ok (.invokevirtual 163, 3) := by decide +kernel
theorem dX11_requested_23 : decode cX11_requested 23 = .ok (.ifCond .eq 11, 3) := by decide +kernel
theorem dX11_requested_26 : decode cX11_requested 26 = .ok (.aload_n 0, 1) := by decide +kernel
theorem dX11_requested_27 : decode cX11_requested 27 = .ok (.iload_n 3, 1) := by decide +kernel
theorem dX11_requested_28 : decode cX11_requested 28 = .ok (.invokevirtual 166, 3) := by decide +kernel
theorem dX11_requested_31 : decode cX11_requested 31 = .ok (.goto 4, 3) := by decide +kernel
theorem dX11_requested_34 : decode cX11_requested 34 = .ok (.lconst 0, 1) := by decide +kernel
theorem dX11_requested_35 : decode cX11_requested 35 = .ok (.ladd, 1) := by decide +kernel
theorem dX11_requested_36 : decode cX11_requested 36 = .ok (.lstore_n 1, 1) := by decide +kernel
theorem dX11_requested_37 : decode cX11_requested 37 = .ok (.iinc 3 1, 3) := by decide +kernel
theorem dX11_requested_40 : decode cX11_requested 40 = .ok (.goto (-36), 3) := by decide +kernel
theorem dX11_requested_43 : decode cX11_requested 43 = .ok (.lload_n 1, 1) := by decide +kernel
theorem dX11_requested_44 : decode cX11_requested 44 = .ok (.lreturn, 1) := by decide +kernel
theorem dX11_limit_0 : decode cX11_limit 0 = .ok (.aload_n 0, 1) := by decide +kernel
theorem dX11_limit_1 : decode cX11_limit 1 = .ok (.invokevirtual 169, 3) := by decide +kernel
theorem dX11_limit_4 : decode cX11_limit 4 = .ok (.aload_n 0, 1) := by decide +kernel
theorem dX11_limit_5 : decode cX11_limit 5 = .ok (.getfield 7, 3) := by decide +kernel
theorem dX11_limit_8 : decode cX11_limit 8 = .ok (.iconst 4, 1) := by decide +kernel
theorem dX11_limit_9 : decode cX11_limit 9 = .ok (.laload, 1) := by decide +kernel
theorem dX11_limit_10 : decode cX11_limit 10 = .ok (.lmul, 1) := by decide +kernel
theorem dX11_limit_11 : decode cX11_limit 11 = .ok (.ldc2_w 56, 3) := by decide +kernel
theorem dX11_limit_14 : decode cX11_limit 14 = .ok (.ldiv, 1) := by decide +kernel
theorem dX11_limit_15 : decode cX11_limit 15 = .ok (.lreturn, 1) := by decide +kernel
theorem dX11_redeemAll_0 : decode cX11_redeemAll 0 = .ok (.aload_n 0, 1) := by decide +kernel
theorem dX11_redeemAll_1 : decode cX11_redeemAll 1 = .ok (.invokevirtual 173, 3) := by decide +kernel
theorem dX11_redeemAll_4 : decode cX11_redeemAll 4 = .ok (.lstore_n 1, 1) := by decide +kernel
theorem dX11_redeemAll_5 : decode cX11_redeemAll 5 = .ok (.aload_n 0, 1) := by decide +kernel
theorem dX11_redeemAll_6 : decode cX11_redeemAll 6 = .ok (.invokevirtual 176, 3) := by decide +kernel
theorem dX11_redeemAll_9 : decode cX11_redeemAll 9 = .ok (.lstore_n 3, 1) := by decide +kernel
theorem dX11_redeemAll_10 : decode cX11_redeemAll 10 = .ok (.iconst 0, 1) := by decide +kernel
theorem dX11_redeemAll_11 : decode cX11_redeemAll 11 = .ok (.istore 5, 2) := by decide +kernel
theorem dX11_redeemAll_13 : decode cX11_redeemAll 13 = .ok (.iload 5, 2) := by decide +kernel
theorem dX11_redeemAll_15 : decode cX11_redeemAll 15 = .ok (.i2l, 1) := by decide +kernel
theorem dX11_redeemAll_16 : decode cX11_redeemAll 16 = .ok (.aload_n 0, 1) := by decide +kernel
theorem dX11_redeemAll_17 : decode cX11_redeemAll 17 = .ok (.getfield 7, 3) := by decide +kernel
theorem dX11_redeemAll_20 : decode cX11_redeemAll 20 = .ok (.bipush 8, 2) := by decide +kernel
theorem dX11_redeemAll_22 : decode cX11_redeemAll 22 = .ok (.laload, 1) := by decide +kernel
theorem dX11_redeemAll_23 : decode cX11_redeemAll 23 = .ok (.lcmp, 1) := by decide +kernel
theorem dX11_redeemAll_24 : decode cX11_redeemAll 24 = .ok (.ifCond .ge 146, 3) := by decide +kernel
theorem dX11_redeemAll_27 : decode cX11_redeemAll 27 = .ok (.aload_n 0, 1) := by decide +kernel
theorem dX11_redeemAll_28 : decode cX11_redeemAll 28 = .ok (.getfield 28, 3) := by decide +kernel
theorem dX11_redeemAll_31 : decode cX11_redeemAll 31 = .ok (.iload 5, 2) := by decide +kernel
theorem dX11_redeemAll_33 : decode cX11_redeemAll 33 = .ok (.lconst 0, 1) := by decide +kernel
theorem dX11_redeemAll_34 : decode cX11_redeemAll 34 = .ok (.lastore, 1) := by decide +kernel
theorem dX11_redeemAll_35 : decode cX11_redeemAll 35 = .ok (.aload_n 0, 1) := by decide +kernel
theorem dX11_redeemAll_36 : decode cX11_redeemAll 36 = .ok (.getfield 31, 3) := by decide +kernel
theorem dX11_redeemAll_39 : decode cX11_redeemAll 39 = .ok (.iload 5, 2) := by decide +kernel
theorem dX11_redeemAll_41 : decode cX11_redeemAll 41 = .ok (.iconst 0, 1) := by decide +kernel
theorem dX11_redeemAll_42 : decode cX11_redeemAll 42 = .ok (.bastore, 1) := by decide +kernel
theorem dX11_redeemAll_43 : decode cX11_redeemAll 43 = .ok (.aload_n 0, 1) := by decide +kernel
theorem dX11_redeemAll_44 : decode cX11_redeemAll 44 = .ok (.iload 5, 2) := by decide +kernel
theorem dX11_redeemAll_46 : decode cX11_redeemAll 46 = .ok (.invokevirtual 163, 3) := by decide +kernel
theorem dX11_redeemAll_49 : decode cX11_redeemAll 49 = .ok (.ifCond .ne 6, 3) := by decide +kernel
theorem dX11_redeemAll_52 : decode cX11_redeemAll 52 = .ok (.goto 112, 3) := by decide +kernel
theorem dX11_redeemAll_55 : decode cX11_redeemAll 55 = .ok (.aload_n 0, 1) := by decide +kernel
theorem dX11_redeemAll_56 : decode cX11_redeemAll 56 = .ok (.getfield 7, 3) := by decide +kernel
theorem dX11_redeemAll_59 : decode cX11_redeemAll 59 = .ok (.iload 5, 2) := by decide +kernel
theorem dX11_redeemAll_61 : decode cX11_redeemAll 61 = .ok (.invokestatic 160, 3) := by decide +kernel
theorem dX11_redeemAll_64 : decode cX11_redeemAll 64 = .ok (.iconst 0, 1) := by decide +kernel
theorem dX11_redeemAll_65 : decode cX11_redeemAll 65 = .ok (.iadd, 1) := by decide +kernel
theorem dX11_redeemAll_66 : decode cX11_redeemAll 66 = .ok (.laload, 1) := by decide +kernel
theorem dX11_redeemAll_67 : decode cX11_redeemAll 67 = .ok (.l2i, 1) := by decide +kernel
theorem dX11_redeemAll_68 : decode cX11_redeemAll 68 = .ok (.istore 6, 2) := by decide +kernel
theorem dX11_redeemAll_70 : decode cX11_redeemAll 70 = .ok (.aload_n 0, 1) := by decide +kernel
theorem dX11_redeemAll_71 : decode cX11_redeemAll 71 = .ok (.getfield 7, 3) := by decide +kernel
theorem dX11_redeemAll_74 : decode cX11_redeemAll 74 = .ok (.iload 5, 2) := by decide +kernel
theorem dX11_redeemAll_76 : decode cX11_redeemAll 76 = .ok (.invokestatic 160, 3) := by decide +kernel
theorem dX11_redeemAll_79 : decode cX11_redeemAll 79 = .ok (.iconst 2, 1) := by decide +kernel
theorem dX11_redeemAll_80 : decode cX11_redeemAll 80 = .ok (.iadd, 1) := by decide +kernel
theorem dX11_redeemAll_81 : decode cX11_redeemAll 81 = .ok (.laload, 1) := by decide +kernel
theorem dX11_redeemAll_82 : decode cX11_redeemAll 82 = .ok (.lstore 7, 2) := by decide +kernel
theorem dX11_redeemAll_84 : decode cX11_redeemAll 84 = .ok (.lload_n 1, 1) := by decide +kernel
theorem dX11_redeemAll_85 : decode cX11_redeemAll 85 = .ok (.lload_n 3, 1) := by decide +kernel
theorem dX11_redeemAll_86 : decode cX11_redeemAll 86 = .ok (.lcmp, 1) := by decide +kernel
theorem dX11_redeemAll_87 : decode cX11_redeemAll 87 = .ok (.ifCond .gt 8, 3) := by decide +kernel
theorem dX11_redeemAll_90 : decode cX11_redeemAll 90 = .ok (.lload 7, 2) := by decide +kernel
theorem dX11_redeemAll_92 : decode cX11_redeemAll 92 = .ok (.goto 9, 3) := by decide +kernel
theorem dX11_redeemAll_95 : decode cX11_redeemAll 95 = .ok (.lload 7, 2) := by decide +kernel
theorem dX11_redeemAll_97 : decode cX11_redeemAll 97 = .ok (.lload_n 3, 1) := by decide +kernel
theorem dX11_redeemAll_98 : decode cX11_redeemAll 98 = .ok (.lmul, 1) := by decide +kernel
theorem dX11_redeemAll_99 : decode cX11_redeemAll 99 = .ok (.lload_n 1, 1) := by decide +kernel
theorem dX11_redeemAll_100 : decode cX11_redeemAll 100 = .ok (.ldiv, 1) := by decide +kernel
theorem dX11_redeemAll_101 : decode cX11_redeemAll 101 = .ok (.lstore 9, 2) := by decide +kernel
theorem dX11_redeemAll_103 : decode cX11_redeemAll 103 = .ok (.aload_n 0, 1) := by decide +kernel
theorem dX11_redeemAll_104 : decode cX11_redeemAll 104 = .ok (.getfield 28, 3) := by decide +kernel
theorem dX11_redeemAll_107 : decode cX11_redeemAll 107 = .ok (.iload 5, 2) := by decide +kernel
theorem dX11_redeemAll_109 : decode cX11_redeemAll 109 = .ok (.aload_n 0, 1) := by decide +kernel
theorem dX11_redeemAll_110 : decode cX11_redeemAll 110 = .ok (.iload 6, 2) := by decide +kernel
theorem dX11_redeemAll_112 : decode cX11_redeemAll 112 = .ok (.lload 9, 2) := by decide +kernel
theorem dX11_redeemAll_114 : decode cX11_redeemAll 114 = .ok (.invokevirtual 156, 3) := by decide +kernel
theorem dX11_redeemAll_117 : decode cX11_redeemAll 117 = .ok (.lastore, 1) := by decide +kernel
theorem dX11_redeemAll_118 : decode cX11_redeemAll 118 = .ok (.aload_n 0, 1) := by decide +kernel
theorem dX11_redeemAll_119 : decode cX11_redeemAll 119 = .ok (.getfield 31, 3) := by decide +kernel
theorem dX11_redeemAll_122 : decode cX11_redeemAll 122 = .ok (.iload 5, 2) := by decide +kernel
theorem dX11_redeemAll_124 : decode cX11_redeemAll 124 = .ok (.lload_n 1, 1) := by decide +kernel
theorem dX11_redeemAll_125 : decode cX11_redeemAll 125 = .ok (.lload_n 3, 1) := by decide +kernel
theorem dX11_redeemAll_126 : decode cX11_redeemAll 126 = .ok (.lcmp, 1) := by decide +kernel
theorem dX11_redeemAll_127 : decode cX11_redeemAll 127 = .ok (.ifCond .le 14, 3) := by decide +kernel
theorem dX11_redeemAll_130 : decode cX11_redeemAll 130 = .ok (.aload_n 0, 1) := by decide +kernel
theorem dX11_redeemAll_131 : decode cX11_redeemAll 131 = .ok (.iload 6, 2) := by decide +kernel
theorem dX11_redeemAll_133 : decode cX11_redeemAll 133 = .ok (.invokevirtual 153, 3) := by decide +kernel
theorem dX11_redeemAll_136 : decode cX11_redeemAll 136 = .ok (.lconst 0, 1) := by decide +kernel
theorem dX11_redeemAll_137 : decode cX11_redeemAll 137 = .ok (.lcmp, 1) := by decide +kernel
theorem dX11_redeemAll_138 : decode cX11_redeemAll 138 = .ok (.ifCond .ne 7, 3) := by decide +kernel
theorem dX11_redeemAll_141 : decode cX11_redeemAll 141 = .ok (.iconst 1, 1) := by decide +kernel
theorem dX11_redeemAll_142 : decode cX11_redeemAll 142 = .ok (.goto 4, 3) := by decide +kernel
theorem dX11_redeemAll_145 : decode cX11_redeemAll 145 = .ok (.iconst 0, 1) := by decide +kernel
theorem dX11_redeemAll_146 : decode cX11_redeemAll 146 = .ok (.bastore, 1) := by decide +kernel
theorem dX11_redeemAll_147 : decode cX11_redeemAll 147 = .ok (.aload_n 0, 1) := by decide +kernel
theorem dX11_redeemAll_148 : decode cX11_redeemAll 148 = .ok (.getfield 7, 3) := by decide +kernel
theorem dX11_redeemAll_151 : decode cX11_redeemAll 151 = .ok (.iload 5, 2) := by decide +kernel
theorem dX11_redeemAll_153 : decode cX11_redeemAll 153 = .ok (.invokestatic 160, 3) := by decide +kernel
theorem dX11_redeemAll_156 : decode cX11_redeemAll 156 = .ok (.iconst 2, 1) := by decide +kernel
theorem dX11_redeemAll_157 : decode cX11_redeemAll 157 = .ok (.iadd, 1) := by decide +kernel
theorem dX11_redeemAll_158 : decode cX11_redeemAll 158 = .ok (.lload 7, 2) := by decide +kernel
theorem dX11_redeemAll_160 : decode cX11_redeemAll 160 = .ok (.lload 9, 2) := by decide +kernel
theorem dX11_redeemAll_162 : decode cX11_redeemAll 162 = .ok (.lsub, 1) := by decide +kernel
theorem dX11_redeemAll_163 : decode cX11_redeemAll 163 = .ok (.lastore, 1) := by decide +kernel
theorem dX11_redeemAll_164 : decode cX11_redeemAll 164 = .ok (.iinc 5 1, 3) := by decide +kernel
theorem dX11_redeemAll_167 : decode cX11_redeemAll 167 = .ok (.goto (-154), 3) := by decide +kernel
theorem dX11_redeemAll_170 : decode cX11_redeemAll 170 = .ok (.return_, 1) := by decide +kernel
theorem dX11_subscribeTo_0 : decode cX11_subscribeTo 0 = .ok (.iload_n 2, 1) := by decide +kernel
theorem dX11_subscribeTo_1 : decode cX11_subscribeTo 1 = .ok (.invokestatic 160, 3) := by decide +kernel
theorem dX11_subscribeTo_4 : decode cX11_subscribeTo 4 = .ok (.istore_n 3, 1) := by decide +kernel
theorem dX11_subscribeTo_5 : decode cX11_subscribeTo 5 = .ok (.aload_n 0, 1) := by decide +kernel
theorem dX11_subscribeTo_6 : decode cX11_subscribeTo 6 = .ok (.getfield 7, 3) := by decide +kernel
theorem dX11_subscribeTo_9 : decode cX11_subscribeTo 9 = .ok (.iload_n 3, 1) := by decide +kernel
theorem dX11_subscribeTo_10 : decode cX11_subscribeTo 10 = .ok (.iconst 2, 1) := by decide +kernel
theorem dX11_subscribeTo_11 : decode cX11_subscribeTo 11 = .ok (.iadd, 1) := by decide +kernel
theorem dX11_subscribeTo_12 : decode cX11_subscribeTo 12 = .ok (.laload, 1) := by decide +kernel
theorem dX11_subscribeTo_13 : decode cX11_subscribeTo 13 = .ok (.lstore 4, 2) := by decide +kernel
theorem dX11_subscribeTo_15 : decode cX11_subscribeTo 15 = .ok (.iload_n 1, 1) := by decide +kernel
theorem dX11_subscribeTo_16 : decode cX11_subscribeTo 16 = .ok (.iconst (-1), 1) := by decide +kernel
theorem dX11_subscribeTo_17 : decode cX11_subscribeTo 17 = .ok (.if_icmp .eq 14, 3) := by decide +kernel
theorem dX11_subscribeTo_20 : decode cX11_subscribeTo 20 = .ok (.aload_n 0, 1) := by decide +kernel
theorem dX11_subscribeTo_21 : decode cX11_subscribeTo 21 = .ok (.getfield 7, 3) := by decide +kernel
theorem dX11_subscribeTo_24 : decode cX11_subscribeTo 24 = .ok (.iconst 1, 1) := by decide +kernel
theorem dX11_subscribeTo_25 : decode cX11_subscribeTo 25 = .ok (.laload, 1) := by decide +kernel
theorem dX11_subscribeTo_26 : decode cX11_subscribeTo 26 = .ok (.lconst 0, 1) := by decide +kernel
theorem dX11_subscribeTo_27 : decode cX11_subscribeTo 27 = .ok (.lcmp, 1) := by decide +kernel
theorem dX11_subscribeTo_28 : decode cX11_subscribeTo 28 = .ok (.ifCond .ne 9, 3) := by decide +kernel
theorem dX11_subscribeTo_31 : decode cX11_subscribeTo 31 = .ok (.ldc2_w 109, 3) := by decide +kernel
theorem dX11_subscribeTo_34 : decode cX11_subscribeTo 34 = .ok (.goto 8, 3) := by decide +kernel
theorem dX11_subscribeTo_37 : decode cX11_subscribeTo 37 = .ok (.aload_n 0, 1) := by decide +kernel
theorem dX11_subscribeTo_38 : decode cX11_subscribeTo 38 = .ok (.iload_n 1, 1) := by decide +kernel
theorem dX11_subscribeTo_39 : decode cX11_subscribeTo 39 = .ok (.invokevirtual 121, 3) := by decide +kernel
theorem dX11_subscribeTo_42 : decode cX11_subscribeTo 42 = .ok (.lstore 6, 2) := by decide +kernel
theorem dX11_subscribeTo_44 : decode cX11_subscribeTo 44 = .ok (.lload 6, 2) := by decide +kernel
theorem dX11_subscribeTo_46 : decode cX11_subscribeTo 46 = .ok (.lconst 0, 1) := by decide +kernel
theorem dX11_subscribeTo_47 : decode cX11_subscribeTo 47 = .ok (.lcmp, 1) := by decide +kernel
theorem dX11_subscribeTo_48 : decode cX11_subscribeTo 48 = .ok (.ifCond .ne 7, 3) := by decide +kernel
theorem dX11_subscribeTo_51 : decode cX11_subscribeTo 51 = .ok (.lconst 0, 1) := by decide +kernel
theorem dX11_subscribeTo_52 : decode cX11_subscribeTo 52 = .ok (.goto 12, 3) := by decide +kernel
theorem dX11_subscribeTo_55 : decode cX11_subscribeTo 55 = .ok (.lload 4, 2) := by decide +kernel
theorem dX11_subscribeTo_57 : decode cX11_subscribeTo 57 = .ok (.ldc2_w 94, 3) := by decide +kernel
theorem dX11_subscribeTo_60 : decode cX11_subscribeTo 60 = .ok (.lmul, 1) := by decide +kernel
theorem dX11_subscribeTo_61 : decode cX11_subscribeTo 61 = .ok (.lload 6, 2) := by decide +kernel
theorem dX11_subscribeTo_63 : decode cX11_subscribeTo 63 = .ok (.ldiv, 1) := by decide +kernel
theorem dX11_subscribeTo_64 : decode cX11_subscribeTo 64 = .ok (.lstore 8, 2) := by decide +kernel
theorem dX11_subscribeTo_66 : decode cX11_subscribeTo 66 = .ok (.lload 8, 2) := by decide +kernel
theorem dX11_subscribeTo_68 : decode cX11_subscribeTo 68 = .ok (.lconst 1, 1) := by decide +kernel
theorem dX11_subscribeTo_69 : decode cX11_subscribeTo 69 = .ok (.ldc2_w 179, 3) := by decide +kernel
theorem dX11_subscribeTo_72 : decode cX11_subscribeTo 72 = .ok (.invokestatic 61, 3) := by decide +kernel
theorem dX11_subscribeTo_75 : decode cX11_subscribeTo 75 = .ok (.ifCond .eq 36, 3) := by decide +kernel
theorem dX11_subscribeTo_78 : decode cX11_subscribeTo 78 = .ok (.aload_n 0, 1) := by decide +kernel
theorem dX11_subscribeTo_79 : decode cX11_subscribeTo 79 = .ok (.getfield 7, 3) := by decide +kernel
theorem dX11_subscribeTo_82 : decode cX11_subscribeTo 82 = .ok (.bipush 7, 2) := by decide +kernel
theorem dX11_subscribeTo_84 : decode cX11_subscribeTo 84 = .ok (.laload, 1) := by decide +kernel
theorem dX11_subscribeTo_85 : decode cX11_subscribeTo 85 = .ok (.ldc2_w 181, 3) := by decide +kernel
theorem dX11_subscribeTo_88 : decode cX11_subscribeTo 88 = .ok (.lcmp, 1) := by decide +kernel
theorem dX11_subscribeTo_89 : decode cX11_subscribeTo 89 = .ok (.ifCond .eq 22, 3) := by decide +kernel
theorem dX11_subscribeTo_92 : decode cX11_subscribeTo 92 = .ok (.iload_n 1, 1) := by decide +kernel
theorem dX11_subscribeTo_93 : decode cX11_subscribeTo 93 = .ok (.iconst (-1), 1) := by decide +kernel
theorem dX11_subscribeTo_94 : decode cX11_subscribeTo 94 = .ok (.if_icmp .ne 19, 3) := by decide +kernel
theorem dX11_subscribeTo_97 : decode cX11_subscribeTo 97 = .ok (.aload_n 0, 1) := by decide +kernel
theorem dX11_subscribeTo_98 : decode cX11_subscribeTo 98 = .ok (.getfield 7, 3) := by decide +kernel
theorem dX11_subscribeTo_101 : decode cX11_subscribeTo 101 = .ok (.bipush 6, 2) := by decide +kernel
theorem dX11_subscribeTo_103 : decode cX11_subscribeTo 103 = .ok (.laload, 1) := by decide +kernel
theorem dX11_subscribeTo_104 : decode cX11_subscribeTo 104 = .ok (.ldc2_w 183, 3) := by decide +kernel
theorem dX11_subscribeTo_107 : decode cX11_subscribeTo 107 = .ok (.lcmp, 1) := by decide +kernel
theorem dX11_subscribeTo_108 : decode cX11_subscribeTo 108 = .ok (.ifCond .ne 5, 3) := by decide +kernel
theorem dX11_subscribeTo_111 : decode cX11_subscribeTo 111 = .ok (.iconst (-1), 1) := by decide +kernel
theorem dX11_subscribeTo_112 : decode cX11_subscribeTo 112 = .ok (.ireturn, 1) := by decide +kernel
theorem dX11_subscribeTo_113 : decode cX11_subscribeTo 113 = .ok (.iload_n 1, 1) := by decide +kernel
theorem dX11_subscribeTo_114 : decode cX11_subscribeTo 114 = .ok (.iconst (-1), 1) := by decide +kernel
theorem dX11_subscribeTo_115 : decode cX11_subscribeTo 115 = .ok (.if_icmp .ne 10, 3) := by decide +kernel
theorem dX11_subscribeTo_118 : decode cX11_subscribeTo 118 = .ok (.aload_n 0, 1) := by decide +kernel
theorem dX11_subscribeTo_119 : decode cX11_subscribeTo 119 = .ok (.invokevirtual 185, 3) := by decide +kernel
theorem dX11_subscribeTo_122 : decode cX11_subscribeTo 122 = .ok (.goto 4, 3) := by decide +kernel
theorem dX11_subscribeTo_125 : decode cX11_subscribeTo 125 = .ok (.iload_n 1, 1) := by decide +kernel
theorem dX11_subscribeTo_126 : decode cX11_subscribeTo 126 = .ok (.istore 10, 2) := by decide +kernel
theorem dX11_subscribeTo_128 : decode cX11_subscribeTo 128 = .ok (.lload 6, 2) := by decide +kernel
theorem dX11_subscribeTo_130 : decode cX11_subscribeTo 130 = .ok (.aload_n 0, 1) := by decide +kernel
theorem dX11_subscribeTo_131 : decode cX11_subscribeTo 131 = .ok (.getfield 7, 3) := by decide +kernel
theorem dX11_subscribeTo_134 : decode cX11_subscribeTo 134 = .ok (.iload 10, 2) := by decide +kernel
theorem dX11_subscribeTo_136 : decode cX11_subscribeTo 136 = .ok (.iconst 4, 1) := by decide +kernel
theorem dX11_subscribeTo_137 : decode cX11_subscribeTo 137 = .ok (.iadd, 1) := by decide +kernel
theorem dX11_subscribeTo_138 : decode cX11_subscribeTo 138 = .ok (.laload, 1) := by decide +kernel
theorem dX11_subscribeTo_139 : decode cX11_subscribeTo 139 = .ok (.lsub, 1) := by decide +kernel
theorem dX11_subscribeTo_140 : decode cX11_subscribeTo 140 = .ok (.lstore 11, 2) := by decide +kernel
theorem dX11_subscribeTo_142 : decode cX11_subscribeTo 142 = .ok (.aload_n 0, 1) := by decide +kernel
theorem dX11_subscribeTo_143 : decode cX11_subscribeTo 143 = .ok (.getfield 7, 3) := by decide +kernel
theorem dX11_subscribeTo_146 : decode cX11_subscribeTo 146 = .ok (.bipush 7, 2) := by decide +kernel
theorem dX11_subscribeTo_148 : decode cX11_subscribeTo 148 = .ok (.laload, 1) := by decide +kernel
theorem dX11_subscribeTo_149 : decode cX11_subscribeTo 149 = .ok (.l2i, 1) := by decide +kernel
theorem dX11_subscribeTo_150 : decode cX11_subscribeTo 150 = .ok (.invokestatic 115, 3) := by decide +kernel
theorem dX11_subscribeTo_153 : decode cX11_subscribeTo 153 = .ok (.istore 13, 2) := by decide +kernel
theorem dX11_subscribeTo_155 : decode cX11_subscribeTo 155 = .ok (.aload_n 0, 1) := by decide +kernel
theorem dX11_subscribeTo_156 : decode cX11_subscribeTo 156 = .ok (.getfield 7, 3) := by decide +kernel
theorem dX11_subscribeTo_159 : decode cX11_subscribeTo 159 = .ok (.iload 13, 2) := by decide +kernel
theorem dX11_subscribeTo_161 : decode cX11_subscribeTo 161 = .ok (.iconst 0, 1) := by decide +kernel
theorem dX11_subscribeTo_162 : decode cX11_subscribeTo 162 = .ok (.iadd, 1) := by decide +kernel
theorem dX11_subscribeTo_163 : decode cX11_subscribeTo 163 = .ok (.aload_n 0, 1) := by decide +kernel
theorem dX11_subscribeTo_164 : decode cX11_subscribeTo 164 = .ok (.getfield 7, 3) := by decide +kernel
theorem dX11_subscribeTo_167 : decode cX11_subscribeTo 167 = .ok (.iload_n 3, 1) := by decide +kernel
theorem dX11_subscribeTo_168 : decode cX11_subscribeTo 168 = .ok (.iconst 0, 1) := by decide +kernel
theorem dX11_subscribeTo_169 : decode cX11_subscribeTo 169 = .ok (.iadd, 1) := by decide +kernel
theorem dX11_subscribeTo_170 : decode cX11_subscribeTo 170 = .ok (.laload, 1) := by decide +kernel
theorem dX11_subscribeTo_171 : decode cX11_subscribeTo 171 = .ok (.lastore, 1) := by decide +kernel
theorem dX11_subscribeTo_172 : decode cX11_subscribeTo 172 = .ok (.aload_n 0, 1) := by decide +kernel
theorem dX11_subscribeTo_173 : decode cX11_subscribeTo 173 = .ok (.getfield 7, 3) := by decide +kernel
theorem dX11_subscribeTo_176 : decode cX11_subscribeTo 176 = .ok (.iload 13, 2) := by decide +kernel
theorem dX11_subscribeTo_178 : decode cX11_subscribeTo 178 = .ok (.iconst 1, 1) := by decide +kernel
theorem dX11_subscribeTo_179 : decode cX11_subscribeTo 179 = .ok (.iadd, 1) := by decide +kernel
theorem dX11_subscribeTo_180 : decode cX11_subscribeTo 180 = .ok (.aload_n 0, 1) := by decide +kernel
theorem dX11_subscribeTo_181 : decode cX11_subscribeTo 181 = .ok (.getfield 7, 3) := by decide +kernel
theorem dX11_subscribeTo_184 : decode cX11_subscribeTo 184 = .ok (.iload 10, 2) := by decide +kernel
theorem dX11_subscribeTo_186 : decode cX11_subscribeTo 186 = .ok (.iconst 0, 1) := by decide +kernel
theorem dX11_subscribeTo_187 : decode cX11_subscribeTo 187 = .ok (.iadd, 1) := by decide +kernel
theorem dX11_subscribeTo_188 : decode cX11_subscribeTo 188 = .ok (.laload, 1) := by decide +kernel
theorem dX11_subscribeTo_189 : decode cX11_subscribeTo 189 = .ok (.lastore, 1) := by decide +kernel
theorem dX11_subscribeTo_190 : decode cX11_subscribeTo 190 = .ok (.aload_n 0, 1) := by decide +kernel
theorem dX11_subscribeTo_191 : decode cX11_subscribeTo 191 = .ok (.getfield 7, 3) := by decide +kernel
theorem dX11_subscribeTo_194 : decode cX11_subscribeTo 194 = .ok (.iload 13, 2) := by decide +kernel
theorem dX11_subscribeTo_196 : decode cX11_subscribeTo 196 = .ok (.iconst 2, 1) := by decide +kernel
theorem dX11_subscribeTo_197 : decode cX11_subscribeTo 197 = .ok (.iadd, 1) := by decide +kernel
theorem dX11_subscribeTo_198 : decode cX11_subscribeTo 198 = .ok (.lload 8, 2) := by decide +kernel
theorem dX11_subscribeTo_200 : decode cX11_subscribeTo 200 = .ok (.lastore, 1) := by decide +kernel
theorem dX11_subscribeTo_201 : decode cX11_subscribeTo 201 = .ok (.aload_n 0, 1) := by decide +kernel
theorem dX11_subscribeTo_202 : decode cX11_subscribeTo 202 = .ok (.getfield 7, 3) := by decide +kernel
theorem dX11_subscribeTo_205 : decode cX11_subscribeTo 205 = .ok (.iload 13, 2) := by decide +kernel
theorem dX11_subscribeTo_207 : decode cX11_subscribeTo 207 = .ok (.iconst 3, 1) := by decide +kernel
theorem dX11_subscribeTo_208 : decode cX11_subscribeTo 208 = .ok (.iadd, 1) := by decide +kernel
theorem dX11_subscribeTo_209 : decode cX11_subscribeTo 209 = .ok (.lload 6, 2) := by decide +kernel
theorem dX11_subscribeTo_211 : decode cX11_subscribeTo 211 = .ok (.lastore, 1) := by decide +kernel
theorem dX11_subscribeTo_212 : decode cX11_subscribeTo 212 = .ok (.aload_n 0, 1) := by decide +kernel
theorem dX11_subscribeTo_213 : decode cX11_subscribeTo 213 = .ok (.getfield 7, 3) := by decide +kernel
theorem dX11_subscribeTo_216 : decode cX11_subscribeTo 216 = .ok (.iload 13, 2) := by decide +kernel
theorem dX11_subscribeTo_218 : decode cX11_subscribeTo 218 = .ok (.iconst 4, 1) := by decide +kernel
theorem dX11_subscribeTo_219 : decode cX11_subscribeTo 219 = .ok (.iadd, 1) := by decide +kernel
theorem dX11_subscribeTo_220 : decode cX11_subscribeTo 220 = .ok (.aload_n 0, 1) := by decide +kernel
theorem dX11_subscribeTo_221 : decode cX11_subscribeTo 221 = .ok (.getfield 7, 3) := by decide +kernel
theorem dX11_subscribeTo_224 : decode cX11_subscribeTo 224 = .ok (.iconst 1, 1) := by decide +kernel
theorem dX11_subscribeTo_225 : decode cX11_subscribeTo 225 = .ok (.laload, 1) := by decide +kernel
theorem dX11_subscribeTo_226 : decode cX11_subscribeTo 226 = .ok (.lconst 1, 1) := by decide +kernel
theorem dX11_subscribeTo_227 : decode cX11_subscribeTo 227 = .ok (.lcmp, 1) := by decide +kernel
theorem dX11_subscribeTo_228 : decode cX11_subscribeTo 228 = .ok (.ifCond .ne 33, 3) := by decide +kernel
theorem dX11_subscribeTo_231 : decode cX11_subscribeTo 231 = .ok (.lload 11, 2) := by decide +kernel
theorem dX11_subscribeTo_233 : decode cX11_subscribeTo 233 = .ok (.lconst 0, 1) := by decide +kernel
theorem dX11_subscribeTo_234 : decode cX11_subscribeTo 234 = .ok (.lcmp, 1) := by decide +kernel
theorem dX11_subscribeTo_235 : decode cX11_subscribeTo 235 = .ok (.ifCond .le 26, 3) := by decide +kernel
theorem dX11_subscribeTo_238 : decode cX11_subscribeTo 238 = .ok (.lload 8, 2) := by decide +kernel
theorem dX11_subscribeTo_240 : decode cX11_subscribeTo 240 = .ok (.lload 11, 2) := by decide +kernel
theorem dX11_subscribeTo_242 : decode cX11_subscribeTo 242 = .ok (.lmul, 1) := by decide +kernel
theorem dX11_subscribeTo_243 : decode cX11_subscribeTo 243 = .ok (.aload_n 0, 1) := by decide +kernel
theorem dX11_subscribeTo_244 : decode cX11_subscribeTo 244 = .ok (.getfield 7, 3) := by decide +kernel
theorem dX11_subscribeTo_247 : decode cX11_subscribeTo 247 = .ok (.iconst 3, 1) := by decide +kernel
theorem dX11_subscribeTo_248 : decode cX11_subscribeTo 248 = .ok (.laload, 1) := by decide +kernel
theorem dX11_subscribeTo_249 : decode cX11_subscribeTo 249 = .ok (.lmul, 1) := by decide +kernel
theorem dX11_subscribeTo_250 : decode cX11_subscribeTo 250 = .ok (.ldc2_w 56, 3) := by decide +kernel
theorem dX11_subscribeTo_253 : decode cX11_subscribeTo 253 = .ok (.ldiv, 1) := by decide +kernel
theorem dX11_subscribeTo_254 : decode cX11_subscribeTo 254 = .ok (.ldc2_w 94, 3) := by decide +kernel
theorem dX11_subscribeTo_257 : decode cX11_subscribeTo 257 = .ok (.ldiv, 1) := by decide +kernel
theorem dX11_subscribeTo_258 : decode cX11_subscribeTo 258 = .ok (.goto 4, 3) := by decide +kernel
theorem dX11_subscribeTo_261 : decode cX11_subscribeTo 261 = .ok (.lconst 0, 1) := by decide +kernel
theorem dX11_subscribeTo_262 : decode cX11_subscribeTo 262 = .ok (.lastore, 1) := by decide +kernel
theorem dX11_subscribeTo_263 : decode cX11_subscribeTo 263 = .ok (.aload_n 0, 1) := by decide +kernel
theorem dX11_subscribeTo_264 : decode cX11_subscribeTo 264 = .ok (.getfield 7, 3) := by decide +kernel
theorem dX11_subscribeTo_267 : decode cX11_subscribeTo 267 = .ok (.iload 13, 2) := by decide +kernel
theorem dX11_subscribeTo_269 : decode cX11_subscribeTo 269 = .ok (.iconst 5, 1) := by decide +kernel
theorem dX11_subscribeTo_270 : decode cX11_subscribeTo 270 = .ok (.iadd, 1) := by decide +kernel
theorem dX11_subscribeTo_271 : decode cX11_subscribeTo 271 = .ok (.aload_n 0, 1) := by decide +kernel
theorem dX11_subscribeTo_272 : decode cX11_subscribeTo 272 = .ok (.getfield 7, 3) := by decide +kernel
theorem dX11_subscribeTo_275 : decode cX11_subscribeTo 275 = .ok (.iconst 5, 1) := by decide +kernel
theorem dX11_subscribeTo_276 : decode cX11_subscribeTo 276 = .ok (.laload, 1) := by decide +kernel
theorem dX11_subscribeTo_277 : decode cX11_subscribeTo 277 = .ok (.lastore, 1) := by decide +kernel
theorem dX11_subscribeTo_278 : decode cX11_subscribeTo 278 = .ok (.aload_n 0, 1) := by decide +kernel
theorem dX11_subscribeTo_279 : decode cX11_subscribeTo 279 = .ok (.getfield 7, 3) := by decide +kernel
theorem dX11_subscribeTo_282 : decode cX11_subscribeTo 282 = .ok (.bipush 7, 2) := by decide +kernel
theorem dX11_subscribeTo_284 : decode cX11_subscribeTo 284 = .ok (.dup2, 1) := by decide +kernel
theorem dX11_subscribeTo_285 : decode cX11_subscribeTo 285 = .ok (.laload, 1) := by decide +kernel
theorem dX11_subscribeTo_286 : decode cX11_subscribeTo 286 = .ok (.lconst 1, 1) := by decide +kernel
theorem dX11_subscribeTo_287 : decode cX11_subscribeTo 287 = .ok (.ladd, 1) := by decide +kernel
theorem dX11_subscribeTo_288 : decode cX11_subscribeTo 288 = .ok (.lastore, 1) := by decide +kernel
theorem dX11_subscribeTo_289 : decode cX11_subscribeTo 289 = .ok (.aload_n 0, 1) := by decide +kernel
theorem dX11_subscribeTo_290 : decode cX11_subscribeTo 290 = .ok (.getfield 7, 3) := by decide +kernel
theorem dX11_subscribeTo_293 : decode cX11_subscribeTo 293 = .ok (.iload 10, 2) := by decide +kernel
theorem dX11_subscribeTo_295 : decode cX11_subscribeTo 295 = .ok (.iconst 2, 1) := by decide +kernel
theorem dX11_subscribeTo_296 : decode cX11_subscribeTo 296 = .ok (.iadd, 1) := by decide +kernel
theorem dX11_subscribeTo_297 : decode cX11_subscribeTo 297 = .ok (.dup2, 1) := by decide +kernel
theorem dX11_subscribeTo_298 : decode cX11_subscribeTo 298 = .ok (.laload, 1) := by decide +kernel
theorem dX11_subscribeTo_299 : decode cX11_subscribeTo 299 = .ok (.lload 4, 2) := by decide +kernel
theorem dX11_subscribeTo_301 : decode cX11_subscribeTo 301 = .ok (.ladd, 1) := by decide +kernel
theorem dX11_subscribeTo_302 : decode cX11_subscribeTo 302 = .ok (.lastore, 1) := by decide +kernel
theorem dX11_subscribeTo_303 : decode cX11_subscribeTo 303 = .ok (.aload_n 0, 1) := by decide +kernel
theorem dX11_subscribeTo_304 : decode cX11_subscribeTo 304 = .ok (.getfield 7, 3) := by decide +kernel
theorem dX11_subscribeTo_307 : decode cX11_subscribeTo 307 = .ok (.iload 10, 2) := by decide +kernel
theorem dX11_subscribeTo_309 : decode cX11_subscribeTo 309 = .ok (.iconst 3, 1) := by decide +kernel
theorem dX11_subscribeTo_310 : decode cX11_subscribeTo 310 = .ok (.iadd, 1) := by decide +kernel
theorem dX11_subscribeTo_311 : decode cX11_subscribeTo 311 = .ok (.dup2, 1) := by decide +kernel
theorem dX11_subscribeTo_312 : decode cX11_subscribeTo 312 = .ok (.laload, 1) := by decide +kernel
theorem dX11_subscribeTo_313 : decode cX11_subscribeTo 313 = .ok (.lload 8, 2) := by decide +kernel
theorem dX11_subscribeTo_315 : decode cX11_subscribeTo 315 = .ok (.ladd, 1) := by decide +kernel
theorem dX11_subscribeTo_316 : decode cX11_subscribeTo 316 = .ok (.lastore, 1) := by decide +kernel
theorem dX11_subscribeTo_317 : decode cX11_subscribeTo 317 = .ok (.aload_n 0, 1) := by decide +kernel
theorem dX11_subscribeTo_318 : decode cX11_subscribeTo 318 = .ok (.getfield 7, 3) := by decide +kernel
theorem dX11_subscribeTo_321 : decode cX11_subscribeTo 321 = .ok (.bipush 12, 2) := by decide +kernel
theorem dX11_subscribeTo_323 : decode cX11_subscribeTo 323 = .ok (.dup2, 1) := by decide +kernel
theorem dX11_subscribeTo_324 : decode cX11_subscribeTo 324 = .ok (.laload, 1) := by decide +kernel
theorem dX11_subscribeTo_325 : decode cX11_subscribeTo 325 = .ok (.lload 4, 2) := by decide +kernel
theorem dX11_subscribeTo_327 : decode cX11_subscribeTo 327 = .ok (.ladd, 1) := by decide +kernel
theorem dX11_subscribeTo_328 : decode cX11_subscribeTo 328 = .ok (.lastore, 1) := by decide +kernel
theorem dX11_subscribeTo_329 : decode cX11_subscribeTo 329 = .ok (.iload 10, 2) := by decide +kernel
theorem dX11_subscribeTo_331 : decode cX11_subscribeTo 331 = .ok (.ireturn, 1) := by decide +kernel
theorem dX11_subscribeAll_0 : decode cX11_subscribeAll 0 = .ok (.aload_n 0, 1) := by decide +kernel
theorem dX11_subscribeAll_1 : decode cX11_subscribeAll 1 = .ok (.getfield 7, 3) := by decide +kernel
theorem dX11_subscribeAll_4 : decode cX11_subscribeAll 4 = .ok (.iconst 1, 1) := by decide +kernel
theorem dX11_subscribeAll_5 : decode cX11_subscribeAll 5 = .ok (.laload, 1) := by decide +kernel
theorem dX11_subscribeAll_6 : decode cX11_subscribeAll 6 = .ok (.lconst 1, 1) := by decide +kernel
theorem dX11_subscribeAll_7 : decode cX11_subscribeAll 7 = .ok (.lcmp, 1) := by decide +kernel
theorem dX11_subscribeAll_8 : decode cX11_subscribeAll 8 = .ok (.ifCond .ne 22, 3) := by decide +kernel
theorem dX11_subscribeAll_11 : decode cX11_subscribeAll 11 = .ok (.aload_n 0, 1) := by decide +kernel
theorem dX11_subscribeAll_12 : decode cX11_subscribeAll 12 = .ok (.getfield 7, 3) := by decide +kernel
theorem dX11_subscribeAll_15 : decode cX11_subscribeAll 15 = .ok (.bipush 6, 2) := by decide +kernel
theorem dX11_subscribeAll_17 : decode cX11_subscribeAll 17 = .ok (.laload, 1) := by decide +kernel
theorem dX11_subscribeAll_18 : decode cX11_subscribeAll 18 = .ok (.lconst 0, 1) := by decide +kernel
theorem dX11_subscribeAll_19 : decode cX11_subscribeAll 19 = .ok (.lcmp, 1) := by decide +kernel
theorem dX11_subscribeAll_20 : decode cX11_subscribeAll 20 = .ok (.ifCond .le 10, 3) := by decide +kernel
theorem dX11_subscribeAll_23 : decode cX11_subscribeAll 23 = .ok (.iconst 0, 1) := by decide +kernel
theorem dX11_subscribeAll_24 : decode cX11_subscribeAll 24 = .ok (.invokestatic 87, 3) := by decide +kernel
theorem dX11_subscribeAll_27 : decode cX11_subscribeAll 27 = .ok (.goto 4, 3) := by decide +kernel
theorem dX11_subscribeAll_30 : decode cX11_subscribeAll 30 = .ok (.iconst (-1), 1) := by decide +kernel
theorem dX11_subscribeAll_31 : decode cX11_subscribeAll 31 = .ok (.istore_n 1, 1) := by decide +kernel
theorem dX11_subscribeAll_32 : decode cX11_subscribeAll 32 = .ok (.iconst 0, 1) := by decide +kernel
theorem dX11_subscribeAll_33 : decode cX11_subscribeAll 33 = .ok (.istore_n 2, 1) := by decide +kernel
theorem dX11_subscribeAll_34 : decode cX11_subscribeAll 34 = .ok (.iload_n 2, 1) := by decide +kernel
theorem dX11_subscribeAll_35 : decode cX11_subscribeAll 35 = .ok (.i2l, 1) := by decide +kernel
theorem dX11_subscribeAll_36 : decode cX11_subscribeAll 36 = .ok (.aload_n 0, 1) := by decide +kernel
theorem dX11_subscribeAll_37 : decode cX11_subscribeAll 37 = .ok (.getfield 7, 3) := by decide +kernel
theorem dX11_subscribeAll_40 : decode cX11_subscribeAll 40 = .ok (.bipush 8, 2) := by decide +kernel
theorem dX11_subscribeAll_42 : decode cX11_subscribeAll 42 = .ok (.laload, 1) := by decide +kernel
theorem dX11_subscribeAll_43 : decode cX11_subscribeAll 43 = .ok (.lcmp, 1) := by decide +kernel
theorem dX11_subscribeAll_44 : decode cX11_subscribeAll 44 = .ok (.ifCond .ge 44, 3) := by decide +kernel
theorem dX11_subscribeAll_47 : decode cX11_subscribeAll 47 = .ok (.aload_n 0, 1) := by decide +kernel
theorem dX11_subscribeAll_48 : decode cX11_subscribeAll 48 = .ok (.iload_n 2, 1) := by decide +kernel
theorem dX11_subscribeAll_49 : decode cX11_subscribeAll 49 = .ok (.invokevirtual 163, 3) := by decide +kernel
theorem dX11_subscribeAll_52 : decode cX11_subscribeAll 52 = .ok (.ifCond .eq 6, 3) := by decide +kernel
theorem dX11_subscribeAll_55 : decode cX11_subscribeAll 55 = .ok (.goto 27, 3) := by decide +kernel
theorem dX11_subscribeAll_58 : decode cX11_subscribeAll 58 = .ok (.aload_n 0, 1) := by decide +kernel
theorem dX11_subscribeAll_59 : decode cX11_subscribeAll 59 = .ok (.iload_n 1, 1) := by decide +kernel
theorem dX11_subscribeAll_60 : decode cX11_subscribeAll 60 = .ok (.iload_n 2, 1) := by decide +kernel
theorem dX11_subscribeAll_61 : decode cX11_subscribeAll 61 = .ok (.invokevirtual 189, 3) := by decide +kernel
theorem dX11_subscribeAll_64 : decode cX11_subscribeAll 64 = .ok (.istore_n 3, 1) := by decide +kernel
theorem dX11_subscribeAll_65 : decode cX11_subscribeAll 65 = .ok (.iload_n 3, 1) := by decide +kernel
theorem dX11_subscribeAll_66 : decode cX11_subscribeAll 66 = .ok (.iconst (-1), 1) := by decide +kernel
theorem dX11_subscribeAll_67 : decode cX11_subscribeAll 67 = .ok (.if_icmp .ne 6, 3) := by decide +kernel
theorem dX11_subscribeAll_70 : decode cX11_subscribeAll 70 = .ok (.goto 12, 3) := by decide +kernel
theorem dX11_subscribeAll_73 : decode cX11_subscribeAll 73 = .ok (.iload_n 3, 1) := by decide +kernel
theorem dX11_subscribeAll_74 : decode cX11_subscribeAll 74 = .ok (.istore_n 1, 1) := by decide +kernel
theorem dX11_subscribeAll_75 : decode cX11_subscribeAll 75 = .ok (.aload_n 0, 1) := by decide +kernel
theorem dX11_subscribeAll_76 : decode cX11_subscribeAll 76 = .ok (.getfield 31, 3) := by decide +kernel
theorem dX11_subscribeAll_79 : decode cX11_subscribeAll 79 = .ok (.iload_n 2, 1) := by decide +kernel
theorem dX11_subscribeAll_80 : decode cX11_subscribeAll 80 = .ok (.iconst 1, 1) := by decide +kernel
theorem dX11_subscribeAll_81 : decode cX11_subscribeAll 81 = .ok (.bastore, 1) := by decide +kernel
theorem dX11_subscribeAll_82 : decode cX11_subscribeAll 82 = .ok (.iinc 2 1, 3) := by decide +kernel
theorem dX11_subscribeAll_85 : decode cX11_subscribeAll 85 = .ok (.goto (-51), 3) := by decide +kernel
theorem dX11_subscribeAll_88 : decode cX11_subscribeAll 88 = .ok (.return_, 1) := by decide +kernel
theorem dX11_dropRequest_0 : decode cX11_dropRequest 0 = .ok (.iload_n 1, 1) := by decide +kernel
theorem dX11_dropRequest_1 : decode cX11_dropRequest 1 = .ok (.invokestatic 160, 3) := by decide +kernel
theorem dX11_dropRequest_4 : decode cX11_dropRequest 4 = .ok (.istore_n 2, 1) := by decide +kernel
theorem dX11_dropRequest_5 : decode cX11_dropRequest 5 = .ok (.iload_n 2, 1) := by decide +kernel
theorem dX11_dropRequest_6 : decode cX11_dropRequest 6 = .ok (.iconst 4, 1) := by decide +kernel
theorem dX11_dropRequest_7 : decode cX11_dropRequest 7 = .ok (.iadd, 1) := by decide +kernel
theorem dX11_dropRequest_8 : decode cX11_dropRequest 8 = .ok (.sipush 334, 3) := by decide +kernel
theorem dX11_dropRequest_11 : decode cX11_dropRequest 11 = .ok (.if_icmp .ge 23, 3) := by decide +kernel
theorem dX11_dropRequest_14 : decode cX11_dropRequest 14 = .ok (.aload_n 0, 1) := by decide +kernel
theorem dX11_dropRequest_15 : decode cX11_dropRequest 15 = .ok (.getfield 7, 3) := by decide +kernel
theorem dX11_dropRequest_18 : decode cX11_dropRequest 18 = .ok (.iload_n 2, 1) := by decide +kernel
theorem dX11_dropRequest_19 : decode cX11_dropRequest 19 = .ok (.aload_n 0, 1) := by decide +kernel
theorem dX11_dropRequest_20 : decode cX11_dropRequest 20 = .ok (.getfield 7, 3) := by decide +kernel
theorem dX11_dropRequest_23 : decode cX11_dropRequest 23 = .ok (.iload_n 2, 1) := by decide +kernel
theorem dX11_dropRequest_24 : decode cX11_dropRequest 24 = .ok (.iconst 4, 1) := by decide +kernel
theorem dX11_dropRequest_25 : decode cX11_dropRequest 25 = .ok (.iadd, 1) := by decide +kernel
theorem dX11_dropRequest_26 : decode cX11_dropRequest 26 = .ok (.laload, 1) := by decide +kernel
theorem dX11_dropRequest_27 : decode cX11_dropRequest 27 = .ok (.lastore, 1) := by decide +kernel
theorem dX11_dropRequest_28 : decode cX11_dropRequest 28 = .ok (.iinc 2 1, 3) := by decide +kernel
theorem dX11_dropRequest_31 : decode cX11_dropRequest 31 = .ok (.goto (-26), 3) := by decide +kernel
theorem dX11_dropRequest_34 : decode cX11_dropRequest 34 = .ok (.aload_n 0, 1) := by decide +kernel
theorem dX11_dropRequest_35 : decode cX11_dropRequest 35 = .ok (.getfield 7, 3) := by decide +kernel
theorem dX11_dropRequest_38 : decode cX11_dropRequest 38 = .ok (.bipush 8, 2) := by decide +kernel
theorem dX11_dropRequest_40 : decode cX11_dropRequest 40 = .ok (.dup2, 1) := by decide +kernel
theorem dX11_dropRequest_41 : decode cX11_dropRequest 41 = .ok (.laload, 1) := by decide +kernel
theorem dX11_dropRequest_42 : decode cX11_dropRequest 42 = .ok (.lconst 1, 1) := by decide +kernel
theorem dX11_dropRequest_43 : decode cX11_dropRequest 43 = .ok (.lsub, 1) := by decide +kernel
theorem dX11_dropRequest_44 : decode cX11_dropRequest 44 = .ok (.lastore, 1) := by decide +kernel
theorem dX11_dropRequest_45 : decode cX11_dropRequest 45 = .ok (.return_, 1) := by decide +kernel
theorem dX11_dealNow_0 : decode cX11_dealNow 0 = .ok (.aload_n 0, 1) := by decide +kernel
theorem dX11_dealNow_1 : decode cX11_dealNow 1 = .ok (.invokevirtual 193, 3) := by decide +kernel
theorem dX11_dealNow_4 : decode cX11_dealNow 4 = .ok (.aload_n 0, 1) := by decide +kernel
theorem dX11_dealNow_5 : decode cX11_dealNow 5 = .ok (.invokevirtual 196, 3) := by decide +kernel
theorem dX11_dealNow_8 : decode cX11_dealNow 8 = .ok (.iconst 0, 1) := by decide +kernel
theorem dX11_dealNow_9 : decode cX11_dealNow 9 = .ok (.istore_n 1, 1) := by decide +kernel
theorem dX11_dealNow_10 : decode cX11_dealNow 10 = .ok (.aload_n 0, 1) := by decide +kernel
theorem dX11_dealNow_11 : decode cX11_dealNow 11 = .ok (.getfield 7, 3) := by decide +kernel
theorem dX11_dealNow_14 : decode cX11_dealNow 14 = .ok (.bipush 8, 2) := by decide +kernel
theorem dX11_dealNow_16 : decode cX11_dealNow 16 = .ok (.laload, 1) := by decide +kernel
theorem dX11_dealNow_17 : decode cX11_dealNow 17 = .ok (.l2i, 1) := by decide +kernel
theorem dX11_dealNow_18 : decode cX11_dealNow 18 = .ok (.iconst 1, 1) := by decide +kernel
theorem dX11_dealNow_19 : decode cX11_dealNow 19 = .ok (.isub, 1) := by decide +kernel
theorem dX11_dealNow_20 : decode cX11_dealNow 20 = .ok (.istore_n 2, 1) := by decide +kernel
theorem dX11_dealNow_21 : decode cX11_dealNow 21 = .ok (.iload_n 2, 1) := by decide +kernel
theorem dX11_dealNow_22 : decode cX11_dealNow 22 = .ok (.ifCond .lt 29, 3) := by decide +kernel
theorem dX11_dealNow_25 : decode cX11_dealNow 25 = .ok (.aload_n 0, 1) := by decide +kernel
theorem dX11_dealNow_26 : decode cX11_dealNow 26 = .ok (.getfield 31, 3) := by decide +kernel
theorem dX11_dealNow_29 : decode cX11_dealNow 29 = .ok (.iload_n 2, 1) := by decide +kernel
theorem dX11_dealNow_30 : decode cX11_dealNow 30 = .ok (.baload, 1) := by decide +kernel
theorem dX11_dealNow_31 : decode cX11_dealNow 31 = .ok (.ifCond .ne 6, 3) := by decide +kernel
theorem dX11_dealNow_34 : decode cX11_dealNow 34 = .ok (.goto 11, 3) := by decide +kernel
theorem dX11_dealNow_37 : decode cX11_dealNow 37 = .ok (.aload_n 0, 1) := by decide +kernel
theorem dX11_dealNow_38 : decode cX11_dealNow 38 = .ok (.iload_n 2, 1) := by decide +kernel
theorem dX11_dealNow_39 : decode cX11_dealNow 39 = .ok (.invokevirtual 199, 3) := by decide +kernel
theorem dX11_dealNow_42 : decode cX11_dealNow 42 = .ok (.iinc 1 1, 3) := by decide +kernel
theorem dX11_dealNow_45 : decode cX11_dealNow 45 = .ok (.iinc 2 (-1), 3) := by decide +kernel
theorem dX11_dealNow_48 : decode cX11_dealNow 48 = .ok (.goto (-27), 3) := by decide +kernel
theorem dX11_dealNow_51 : decode cX11_dealNow 51 = .ok (.iload_n 1, 1) := by decide +kernel
theorem dX11_dealNow_52 : decode cX11_dealNow 52 = .ok (.ireturn, 1) := by decide +kernel
theorem dX11_deal_0 : decode cX11_deal 0 = .ok (.aload_n 0, 1) := by decide +kernel
theorem dX11_deal_1 : decode cX11_deal 1 = .ok (.iconst 0, 1) := by decide +kernel
theorem dX11_deal_2 : decode cX11_deal 2 = .ok (.putfield 58, 3) := by decide +kernel
theorem dX11_deal_5 : decode cX11_deal 5 = .ok (.aload_n 0, 1) := by decide +kernel
theorem dX11_deal_6 : decode cX11_deal 6 = .ok (.invokevirtual 202, 3) := by decide +kernel
theorem dX11_deal_9 : decode cX11_deal 9 = .ok (.aload_n 0, 1) := by decide +kernel
theorem dX11_deal_10 : decode cX11_deal 10 = .ok (.invokevirtual 205, 3) := by decide +kernel
theorem dX11_deal_13 : decode cX11_deal 13 = .ok (.ireturn, 1) := by decide +kernel
theorem dX11_ask_0 : decode cX11_ask 0 = .ok (.aload_n 1, 1) := by decide +kernel
theorem dX11_ask_1 : decode cX11_ask 1 = .ok (.bipush 8, 2) := by decide +kernel
theorem dX11_ask_3 : decode cX11_ask 3 = .ok (.laload, 1) := by decide +kernel
theorem dX11_ask_4 : decode cX11_ask 4 = .ok (.l2i, 1) := by decide +kernel
theorem dX11_ask_5 : decode cX11_ask 5 = .ok (.invokestatic 160, 3) := by decide +kernel
theorem dX11_ask_8 : decode cX11_ask 8 = .ok (.istore 7, 2) := by decide +kernel
theorem dX11_ask_10 : decode cX11_ask 10 = .ok (.aload_n 1, 1) := by decide +kernel
theorem dX11_ask_11 : decode cX11_ask 11 = .ok (.iload 7, 2) := by decide +kernel
theorem dX11_ask_13 : decode cX11_ask 13 = .ok (.iconst 0, 1) := by decide +kernel
theorem dX11_ask_14 : decode cX11_ask 14 = .ok (.iadd, 1) := by decide +kernel
theorem dX11_ask_15 : decode cX11_ask 15 = .ok (.iload_n 2, 1) := by decide +kernel
theorem dX11_ask_16 : decode cX11_ask 16 = .ok (.i2l, 1) := by decide +kernel
theorem dX11_ask_17 : decode cX11_ask 17 = .ok (.lastore, 1) := by decide +kernel
theorem dX11_ask_18 : decode cX11_ask 18 = .ok (.aload_n 1, 1) := by decide +kernel
theorem dX11_ask_19 : decode cX11_ask 19 = .ok (.iload 7, 2) := by decide +kernel
theorem dX11_ask_21 : decode cX11_ask 21 = .ok (.iconst 1, 1) := by decide +kernel
theorem dX11_ask_22 : decode cX11_ask 22 = .ok (.iadd, 1) := by decide +kernel
theorem dX11_ask_23 : decode cX11_ask 23 = .ok (.lload_n 3, 1) := by decide +kernel
theorem dX11_ask_24 : decode cX11_ask 24 = .ok (.lastore, 1) := by decide +kernel
theorem dX11_ask_25 : decode cX11_ask 25 = .ok (.aload_n 1, 1) := by decide +kernel
theorem dX11_ask_26 : decode cX11_ask 26 = .ok (.iload 7, 2) := by decide +kernel
theorem dX11_ask_28 : decode cX11_ask 28 = .ok (.iconst 2, 1) := by decide +kernel
theorem dX11_ask_29 : decode cX11_ask 29 = .ok (.iadd, 1) := by decide +kernel
theorem dX11_ask_30 : decode cX11_ask 30 = .ok (.lload 5, 2) := by decide +kernel
theorem dX11_ask_32 : decode cX11_ask 32 = .ok (.lastore, 1) := by decide +kernel
theorem dX11_ask_33 : decode cX11_ask 33 = .ok (.aload_n 1, 1) := by decide +kernel
theorem dX11_ask_34 : decode cX11_ask 34 = .ok (.iload 7, 2) := by decide +kernel
theorem dX11_ask_36 : decode cX11_ask 36 = .ok (.iconst 3, 1) := by decide +kernel
theorem dX11_ask_37 : decode cX11_ask 37 = .ok (.iadd, 1) := by decide +kernel
theorem dX11_ask_38 : decode cX11_ask 38 = .ok (.aload_n 1, 1) := by decide +kernel
theorem dX11_ask_39 : decode cX11_ask 39 = .ok (.iconst 5, 1) := by decide +kernel
theorem dX11_ask_40 : decode cX11_ask 40 = .ok (.laload, 1) := by decide +kernel
theorem dX11_ask_41 : decode cX11_ask 41 = .ok (.lastore, 1) := by decide +kernel
theorem dX11_ask_42 : decode cX11_ask 42 = .ok (.aload_n 1, 1) := by decide +kernel
theorem dX11_ask_43 : decode cX11_ask 43 = .ok (.bipush 8, 2) := by decide +kernel
theorem dX11_ask_45 : decode cX11_ask 45 = .ok (.dup2, 1) := by decide +kernel
theorem dX11_ask_46 : decode cX11_ask 46 = .ok (.laload, 1) := by decide +kernel
theorem dX11_ask_47 : decode cX11_ask 47 = .ok (.lconst 1, 1) := by decide +kernel
theorem dX11_ask_48 : decode cX11_ask 48 = .ok (.ladd, 1) := by decide +kernel
theorem dX11_ask_49 : decode cX11_ask 49 = .ok (.lastore, 1) := by decide +kernel
theorem dX11_ask_50 : decode cX11_ask 50 = .ok (.return_, 1) := by decide +kernel
theorem dX11_isAmount_0 : decode cX11_isAmount 0 = .ok (.iload_n 0, 1) := by decide +kernel
theorem dX11_isAmount_1 : decode cX11_isAmount 1 = .ok (.i2l, 1) := by decide +kernel
theorem dX11_isAmount_2 : decode cX11_isAmount 2 = .ok (.lconst 1, 1) := by decide +kernel
theorem dX11_isAmount_3 : decode cX11_isAmount 3 = .ok (.ldc2_w 208, 3) := by decide +kernel
theorem dX11_isAmount_6 : decode cX11_isAmount 6 = .ok (.invokestatic 61, 3) := by decide +kernel
theorem dX11_isAmount_9 : decode cX11_isAmount 9 = .ok (.ireturn, 1) := by decide +kernel
theorem dX11_isUnits_0 : decode cX11_isUnits 0 = .ok (.iload_n 0, 1) := by decide +kernel
theorem dX11_isUnits_1 : decode cX11_isUnits 1 = .ok (.i2l, 1) := by decide +kernel
theorem dX11_isUnits_2 : decode cX11_isUnits 2 = .ok (.lconst 1, 1) := by decide +kernel
theorem dX11_isUnits_3 : decode cX11_isUnits 3 = .ok (.ldc2_w 210, 3) := by decide +kernel
theorem dX11_isUnits_6 : decode cX11_isUnits 6 = .ok (.invokestatic 61, 3) := by decide +kernel
theorem dX11_isUnits_9 : decode cX11_isUnits 9 = .ok (.ireturn, 1) := by decide +kernel
theorem dX11_isFull_0 : decode cX11_isFull 0 = .ok (.aload_n 0, 1) := by decide +kernel
theorem dX11_isFull_1 : decode cX11_isFull 1 = .ok (.getfield 7, 3) := by decide +kernel
theorem dX11_isFull_4 : decode cX11_isFull 4 = .ok (.bipush 8, 2) := by decide +kernel
theorem dX11_isFull_6 : decode cX11_isFull 6 = .ok (.laload, 1) := by decide +kernel
theorem dX11_isFull_7 : decode cX11_isFull 7 = .ok (.ldc2_w 212, 3) := by decide +kernel
theorem dX11_isFull_10 : decode cX11_isFull 10 = .ok (.lcmp, 1) := by decide +kernel
theorem dX11_isFull_11 : decode cX11_isFull 11 = .ok (.ifCond .ne 7, 3) := by decide +kernel
theorem dX11_isFull_14 : decode cX11_isFull 14 = .ok (.iconst 1, 1) := by decide +kernel
theorem dX11_isFull_15 : decode cX11_isFull 15 = .ok (.goto 4, 3) := by decide +kernel
theorem dX11_isFull_18 : decode cX11_isFull 18 = .ok (.iconst 0, 1) := by decide +kernel
theorem dX11_isFull_19 : decode cX11_isFull 19 = .ok (.ireturn, 1) := by decide +kernel
theorem dX11_subscribe_0 : decode cX11_subscribe 0 = .ok (.aload_n 0, 1) := by decide +kernel
theorem dX11_subscribe_1 : decode cX11_subscribe 1 = .ok (.iload_n 1, 1) := by decide +kernel
theorem dX11_subscribe_2 : decode cX11_subscribe 2 = .ok (.invokevirtual 214, 3) := by decide +kernel
theorem dX11_subscribe_5 : decode cX11_subscribe 5 = .ok (.ifCond .ne 35, 3) := by decide +kernel
theorem dX11_subscribe_8 : decode cX11_subscribe 8 = .ok (.aload_n 0, 1) := by decide +kernel
theorem dX11_subscribe_9 : decode cX11_subscribe 9 = .ok (.iload_n 2, 1) := by decide +kernel
theorem dX11_subscribe_10 : decode cX11_subscribe 10 = .ok (.invokestatic 217, 3) := by decide +kernel
theorem dX11_subscribe_13 : decode cX11_subscribe 13 = .ok (.ifCond .ne 7, 3) := by decide +kernel
theorem dX11_subscribe_16 : decode cX11_subscribe 16 = .ok (.iconst 1, 1) := by decide +kernel
theorem dX11_subscribe_17 : decode cX11_subscribe 17 = .ok (.goto 4, 3) := by decide +kernel
theorem dX11_subscribe_20 : decode cX11_subscribe 20 = .ok (.iconst 0, 1) := by decide +kernel
theorem dX11_subscribe_21 : decode cX11_subscribe 21 = .ok (.iconst 2, 1) := by decide +kernel
theorem dX11_subscribe_22 : decode cX11_subscribe 22 = .ok (.invokevirtual 69, 3) := by decide +kernel
theorem dX11_subscribe_25 : decode cX11_subscribe 25 = .ok (.ifCond .ne 15, 3) := by decide +kernel
theorem dX11_subscribe_28 : decode cX11_subscribe 28 = .ok (.aload_n 0, 1) := by decide +kernel
theorem dX11_subscribe_29 : decode cX11_subscribe 29 = .ok (.aload_n 0, 1) := by decide +kernel
theorem dX11_subscribe_30 : decode cX11_subscribe 30 = .ok (.invokevirtual 220, 3) := by decide +kernel
theorem dX11_subscribe_33 : decode cX11_subscribe 33 = .ok (.iconst 3, 1) := by decide +kernel
theorem dX11_subscribe_34 : decode cX11_subscribe 34 = .ok (.invokevirtual 69, 3) := by decide +kernel
theorem dX11_subscribe_37 : decode cX11_subscribe 37 = .ok (.ifCond .eq 5, 3) := by decide +kernel
theorem dX11_subscribe_40 : decode cX11_subscribe 40 = .ok (.iconst 0, 1) := by decide +kernel
theorem dX11_subscribe_41 : decode cX11_subscribe 41 = .ok (.ireturn, 1) := by decide +kernel
theorem dX11_subscribe_42 : decode cX11_subscribe 42 = .ok (.aload_n 0, 1) := by decide +kernel
theorem dX11_subscribe_43 : decode cX11_subscribe 43 = .ok (.invokevirtual 202, 3) := by decide +kernel
theorem dX11_subscribe_46 : decode cX11_subscribe 46 = .ok (.aload_n 0, 1) := by decide +kernel
theorem dX11_subscribe_47 : decode cX11_subscribe 47 = .ok (.aload_n 0, 1) := by decide +kernel
theorem dX11_subscribe_48 : decode cX11_subscribe 48 = .ok (.getfield 7, 3) := by decide +kernel
theorem dX11_subscribe_51 : decode cX11_subscribe 51 = .ok (.iload_n 1, 1) := by decide +kernel
theorem dX11_subscribe_52 : decode cX11_subscribe 52 = .ok (.lconst 0, 1) := by decide +kernel
theorem dX11_subscribe_53 : decode cX11_subscribe 53 = .ok (.iload_n 2, 1) := by decide +kernel
theorem dX11_subscribe_54 : decode cX11_subscribe 54 = .ok (.i2l, 1) := by decide +kernel
theorem dX11_subscribe_55 : decode cX11_subscribe 55 = .ok (.invokevirtual 224, 3) := by decide +kernel
theorem dX11_subscribe_58 : decode cX11_subscribe 58 = .ok (.aload_n 0, 1) := by decide +kernel
theorem dX11_subscribe_59 : decode cX11_subscribe 59 = .ok (.getfield 7, 3) := by decide +kernel
theorem dX11_subscribe_62 : decode cX11_subscribe 62 = .ok (.bipush 8, 2) := by decide +kernel
theorem dX11_subscribe_64 : decode cX11_subscribe 64 = .ok (.laload, 1) := by decide +kernel
theorem dX11_subscribe_65 : decode cX11_subscribe 65 = .ok (.l2i, 1) := by decide +kernel
theorem dX11_subscribe_66 : decode cX11_subscribe 66 = .ok (.iconst 1, 1) := by decide +kernel
theorem dX11_subscribe_67 : decode cX11_subscribe 67 = .ok (.isub, 1) := by decide +kernel
theorem dX11_subscribe_68 : decode cX11_subscribe 68 = .ok (.ireturn, 1) := by decide +kernel
theorem dX11_waitingOf_0 : decode cX11_waitingOf 0 = .ok (.lconst 0, 1) := by decide +kernel
theorem dX11_waitingOf_1 : decode cX11_waitingOf 1 = .ok (.lstore_n 2, 1) := by decide +kernel
theorem dX11_waitingOf_2 : decode cX11_waitingOf 2 = .ok (.iconst 0, 1) := by decide +kernel
theorem dX11_waitingOf_3 : decode cX11_waitingOf 3 = .ok (.istore 4, 2) := by decide +kernel
theorem dX11_waitingOf_5 : decode cX11_waitingOf 5 = .ok (.iload 4, 2) := by decide +kernel
theorem dX11_waitingOf_7 : decode cX11_waitingOf 7 = .ok (.i2l, 1) := by decide +kernel
theorem dX11_waitingOf_8 : decode cX11_waitingOf 8 = .ok (.aload_n 0, 1) := by decide +kernel
theorem dX11_waitingOf_9 : decode cX11_waitingOf 9 = .ok (.getfield 7, 3) := by decide +kernel
theorem dX11_waitingOf_12 : decode cX11_waitingOf 12 = .ok (.bipush 8, 2) := by decide +kernel
theorem dX11_waitingOf_14 : decode cX11_waitingOf 14 = .ok (.laload, 1) := by decide +kernel
theorem dX11_waitingOf_15 : decode cX11_waitingOf 15 = .ok (.lcmp, 1) := by decide +kernel
theorem dX11_waitingOf_16 : decode cX11_waitingOf 16 = .ok (.ifCond .ge 51, 3) := by decide +kernel
theorem dX11_waitingOf_19 : decode cX11_waitingOf 19 = .ok (.aload_n 0, 1) := by decide +kernel
theorem dX11_waitingOf_20 : decode cX11_waitingOf 20 = .ok (.iload 4, 2) := by decide +kernel
theorem dX11_waitingOf_22 : decode cX11_waitingOf 22 = .ok (.invokevirtual 163, 3) := by decide +kernel
theorem dX11_waitingOf_25 : decode cX11_waitingOf 25 = .ok (.ifCond .eq 36, 3) := by decide +kernel
theorem dX11_waitingOf_28 : decode cX11_waitingOf 28 = .ok (.aload_n 0, 1) := by decide +kernel
theorem dX11_waitingOf_29 : decode cX11_waitingOf 29 = .ok (.getfield 7, 3) := by decide +kernel
theorem dX11_waitingOf_32 : decode cX11_waitingOf 32 = .ok (.iload 4, 2) := by decide +kernel
theorem dX11_waitingOf_34 : decode cX11_waitingOf 34 = .ok (.invokestatic 160, 3) := by decide +kernel
theorem dX11_waitingOf_37 : decode cX11_waitingOf 37 = .ok (.iconst 0, 1) := by decide +kernel
theorem dX11_waitingOf_38 : decode cX11_waitingOf 38 = .ok (.iadd, 1) := by decide +kernel
theorem dX11_waitingOf_39 : decode cX11_waitingOf 39 = .ok (.laload, 1) := by decide +kernel
theorem dX11_waitingOf_40 : decode cX11_waitingOf 40 = .ok (.iload_n 1, 1) := by decide +kernel
theorem dX11_waitingOf_41 : decode cX11_waitingOf 41 = .ok (.i2l, 1) := by decide +kernel
theorem dX11_waitingOf_42 : decode cX11_waitingOf 42 = .ok (.lcmp, 1) := by decide +kernel
theorem dX11_waitingOf_43 : decode cX11_waitingOf 43 = .ok (.ifCond .ne 18, 3) := by decide +kernel
theorem dX11_waitingOf_46 : decode cX11_waitingOf 46 = .ok (.lload_n 2, 1) := by decide +kernel
theorem dX11_waitingOf_47 : decode cX11_waitingOf 47 = .ok (.aload_n 0, 1) := by decide +kernel
theorem dX11_waitingOf_48 : decode cX11_waitingOf 48 = .ok (.getfield 7, 3) := by decide +kernel
theorem dX11_waitingOf_51 : decode cX11_waitingOf 51 = .ok (.iload 4, 2) := by decide +kernel
theorem dX11_waitingOf_53 : decode cX11_waitingOf 53 = .ok (.invokestatic 160, 3) := by decide +kernel
theorem dX11_waitingOf_56 : decode cX11_waitingOf 56 = .ok (.iconst 2, 1) := by decide +kernel
theorem dX11_waitingOf_57 : decode cX11_waitingOf 57 = .ok (.iadd, 1) := by decide +kernel
theorem dX11_waitingOf_58 : decode cX11_waitingOf 58 = .ok (.laload, 1) := by decide +kernel
theorem dX11_waitingOf_59 : decode cX11_waitingOf 59 = .ok (.ladd, 1) := by decide +kernel
theorem dX11_waitingOf_60 : decode cX11_waitingOf 60 = .ok (.lstore_n 2, 1) := by decide +kernel
theorem dX11_waitingOf_61 : decode cX11_waitingOf 61 = .ok (.iinc 4 1, 3) := by decide +kernel
theorem dX11_waitingOf_64 : decode cX11_waitingOf 64 = .ok (.goto (-59), 3) := by decide +kernel
theorem dX11_waitingOf_67 : decode cX11_waitingOf 67 = .ok (.lload_n 2, 1) := by decide +kernel
theorem dX11_waitingOf_68 : decode cX11_waitingOf 68 = .ok (.lreturn, 1) := by decide +kernel
theorem dX11_canRedeem_0 : decode cX11_canRedeem 0 = .ok (.aload_n 0, 1) := by decide +kernel
theorem dX11_canRedeem_1 : decode cX11_canRedeem 1 = .ok (.invokevirtual 220, 3) := by decide +kernel
theorem dX11_canRedeem_4 : decode cX11_canRedeem 4 = .ok (.ifCond .ne 24, 3) := by decide +kernel
theorem dX11_canRedeem_7 : decode cX11_canRedeem 7 = .ok (.aload_n 0, 1) := by decide +kernel
theorem dX11_canRedeem_8 : decode cX11_canRedeem 8 = .ok (.iload_n 1, 1) := by decide +kernel
theorem dX11_canRedeem_9 : decode cX11_canRedeem 9 = .ok (.invokevirtual 228, 3) := by decide +kernel
theorem dX11_canRedeem_12 : decode cX11_canRedeem 12 = .ok (.iload_n 2, 1) := by decide +kernel
theorem dX11_canRedeem_13 : decode cX11_canRedeem 13 = .ok (.i2l, 1) := by decide +kernel
theorem dX11_canRedeem_14 : decode cX11_canRedeem 14 = .ok (.ladd, 1) := by decide +kernel
theorem dX11_canRedeem_15 : decode cX11_canRedeem 15 = .ok (.aload_n 0, 1) := by decide +kernel
theorem dX11_canRedeem_16 : decode cX11_canRedeem 16 = .ok (.iload_n 1, 1) := by decide +kernel
theorem dX11_canRedeem_17 : decode cX11_canRedeem 17 = .ok (.invokevirtual 153, 3) := by decide +kernel
theorem dX11_canRedeem_20 : decode cX11_canRedeem 20 = .ok (.lcmp, 1) := by decide +kernel
theorem dX11_canRedeem_21 : decode cX11_canRedeem 21 = .ok (.ifCond .gt 7, 3) := by decide +kernel
theorem dX11_canRedeem_24 : decode cX11_canRedeem 24 = .ok (.iconst 1, 1) := by decide +kernel
theorem dX11_canRedeem_25 : decode cX11_canRedeem 25 = .ok (.goto 4, 3) := by decide +kernel
theorem dX11_canRedeem_28 : decode cX11_canRedeem 28 = .ok (.iconst 0, 1) := by decide +kernel
theorem dX11_canRedeem_29 : decode cX11_canRedeem 29 = .ok (.ireturn, 1) := by decide +kernel
theorem dX11_redeem_0 : decode cX11_redeem 0 = .ok (.aload_n 0, 1) := by decide +kernel
theorem dX11_redeem_1 : decode cX11_redeem 1 = .ok (.iload_n 1, 1) := by decide +kernel
theorem dX11_redeem_2 : decode cX11_redeem 2 = .ok (.invokevirtual 214, 3) := by decide +kernel
theorem dX11_redeem_5 : decode cX11_redeem 5 = .ok (.ifCond .ne 45, 3) := by decide +kernel
theorem dX11_redeem_8 : decode cX11_redeem 8 = .ok (.aload_n 0, 1) := by decide +kernel
theorem dX11_redeem_9 : decode cX11_redeem 9 = .ok (.iload_n 2, 1) := by decide +kernel
theorem dX11_redeem_10 : decode cX11_redeem 10 = .ok (.invokestatic 231, 3) := by decide +kernel
theorem dX11_redeem_13 : decode cX11_redeem 13 = .ok (.ifCond .ne 7, 3) := by decide +kernel
theorem dX11_redeem_16 : decode cX11_redeem 16 = .ok (.iconst 1, 1) := by decide +kernel
theorem dX11_redeem_17 : decode cX11_redeem 17 = .ok (.goto 4, 3) := by decide +kernel
theorem dX11_redeem_20 : decode cX11_redeem 20 = .ok (.iconst 0, 1) := by decide +kernel
theorem dX11_redeem_21 : decode cX11_redeem 21 = .ok (.iconst 2, 1) := by decide +kernel
theorem dX11_redeem_22 : decode cX11_redeem 22 = .ok (.invokevirtual 69, 3) := by decide +kernel
theorem dX11_redeem_25 : decode cX11_redeem 25 = .ok (.ifCond .ne 25, 3) := by decide +kernel
theorem dX11_redeem_28 : decode cX11_redeem 28 = .ok (.aload_n 0, 1) := by decide +kernel
theorem dX11_redeem_29 : decode cX11_redeem 29 = .ok (.aload_n 0, 1) := by decide +kernel
theorem dX11_redeem_30 : decode cX11_redeem 30 = .ok (.iload_n 1, 1) := by decide +kernel
theorem dX11_redeem_31 : decode cX11_redeem 31 = .ok (.iload_n 2, 1) := by decide +kernel
theorem dX11_redeem_32 : decode cX11_redeem 32 = .ok (.invokevirtual 234, 3) := by decide +kernel
theorem dX11_redeem_35 : decode cX11_redeem 35 = .ok (.ifCond .ne 7, 3) := by decide +kernel
theorem dX11_redeem_38 : decode cX11_redeem 38 = .ok (.iconst 1, 1) := by decide +kernel
theorem dX11_redeem_39 : decode cX11_redeem 39 = .ok (.goto 4, 3) := by decide +kernel
theorem dX11_redeem_42 : decode cX11_redeem 42 = .ok (.iconst 0, 1) := by decide +kernel
theorem dX11_redeem_43 : decode cX11_redeem 43 = .ok (.iconst 3, 1) := by decide +kernel
theorem dX11_redeem_44 : decode cX11_redeem 44 = .ok (.invokevirtual 69, 3) := by decide +kernel
theorem dX11_redeem_47 : decode cX11_redeem 47 = .ok (.ifCond .eq 5, 3) := by decide +kernel
theorem dX11_redeem_50 : decode cX11_redeem 50 = .ok (.iconst 0, 1) := by decide +kernel
theorem dX11_redeem_51 : decode cX11_redeem 51 = .ok (.ireturn, 1) := by decide +kernel
theorem dX11_redeem_52 : decode cX11_redeem 52 = .ok (.aload_n 0, 1) := by decide +kernel
theorem dX11_redeem_53 : decode cX11_redeem 53 = .ok (.invokevirtual 202, 3) := by decide +kernel
theorem dX11_redeem_56 : decode cX11_redeem 56 = .ok (.aload_n 0, 1) := by decide +kernel
theorem dX11_redeem_57 : decode cX11_redeem 57 = .ok (.aload_n 0, 1) := by decide +kernel
theorem dX11_redeem_58 : decode cX11_redeem 58 = .ok (.getfield 7, 3) := by decide +kernel
theorem dX11_redeem_61 : decode cX11_redeem 61 = .ok (.iload_n 1, 1) := by decide +kernel
theorem dX11_redeem_62 : decode cX11_redeem 62 = .ok (.lconst 1, 1) := by decide +kernel
theorem dX11_redeem_63 : decode cX11_redeem 63 = .ok (.iload_n 2, 1) := by decide +kernel
theorem dX11_redeem_64 : decode cX11_redeem 64 = .ok (.i2l, 1) := by decide +kernel
theorem dX11_redeem_65 : decode cX11_redeem 65 = .ok (.invokevirtual 224, 3) := by decide +kernel
theorem dX11_redeem_68 : decode cX11_redeem 68 = .ok (.aload_n 0, 1) := by decide +kernel
theorem dX11_redeem_69 : decode cX11_redeem 69 = .ok (.getfield 7, 3) := by decide +kernel
theorem dX11_redeem_72 : decode cX11_redeem 72 = .ok (.bipush 8, 2) := by decide +kernel
theorem dX11_redeem_74 : decode cX11_redeem 74 = .ok (.laload, 1) := by decide +kernel
theorem dX11_redeem_75 : decode cX11_redeem 75 = .ok (.l2i, 1) := by decide +kernel
theorem dX11_redeem_76 : decode cX11_redeem 76 = .ok (.iconst 1, 1) := by decide +kernel
theorem dX11_redeem_77 : decode cX11_redeem 77 = .ok (.isub, 1) := by decide +kernel
theorem dX11_redeem_78 : decode cX11_redeem 78 = .ok (.ireturn, 1) := by decide +kernel
theorem dX11_withdraw_0 : decode cX11_withdraw 0 = .ok (.aload_n 0, 1) := by decide +kernel
theorem dX11_withdraw_1 : decode cX11_withdraw 1 = .ok (.iload_n 1, 1) := by decide +kernel
theorem dX11_withdraw_2 : decode cX11_withdraw 2 = .ok (.invokevirtual 238, 3) := by decide +kernel
theorem dX11_withdraw_5 : decode cX11_withdraw 5 = .ok (.ifCond .eq 5, 3) := by decide +kernel
theorem dX11_withdraw_8 : decode cX11_withdraw 8 = .ok (.lconst 0, 1) := by decide +kernel
theorem dX11_withdraw_9 : decode cX11_withdraw 9 = .ok (.lreturn, 1) := by decide +kernel
theorem dX11_withdraw_10 : decode cX11_withdraw 10 = .ok (.aload_n 0, 1) := by decide +kernel
theorem dX11_withdraw_11 : decode cX11_withdraw 11 = .ok (.invokevirtual 202, 3) := by decide +kernel
theorem dX11_withdraw_14 : decode cX11_withdraw 14 = .ok (.aload_n 0, 1) := by decide +kernel
theorem dX11_withdraw_15 : decode cX11_withdraw 15 = .ok (.getfield 7, 3) := by decide +kernel
theorem dX11_withdraw_18 : decode cX11_withdraw 18 = .ok (.iload_n 1, 1) := by decide +kernel
theorem dX11_withdraw_19 : decode cX11_withdraw 19 = .ok (.invokestatic 160, 3) := by decide +kernel
theorem dX11_withdraw_22 : decode cX11_withdraw 22 = .ok (.iconst 2, 1) := by decide +kernel
theorem dX11_withdraw_23 : decode cX11_withdraw 23 = .ok (.iadd, 1) := by decide +kernel
theorem dX11_withdraw_24 : decode cX11_withdraw 24 = .ok (.laload, 1) := by decide +kernel
theorem dX11_withdraw_25 : decode cX11_withdraw 25 = .ok (.lstore_n 2, 1) := by decide +kernel
theorem dX11_withdraw_26 : decode cX11_withdraw 26 = .ok (.aload_n 0, 1) := by decide +kernel
theorem dX11_withdraw_27 : decode cX11_withdraw 27 = .ok (.iload_n 1, 1) := by decide +kernel
theorem dX11_withdraw_28 : decode cX11_withdraw 28 = .ok (.invokevirtual 199, 3) := by decide +kernel
theorem dX11_withdraw_31 : decode cX11_withdraw 31 = .ok (.lload_n 2, 1) := by decide +kernel
theorem dX11_withdraw_32 : decode cX11_withdraw 32 = .ok (.lreturn, 1) := by decide +kernel
theorem dX11_gain_0 : decode cX11_gain 0 = .ok (.lconst 0, 1) := by decide +kernel
theorem dX11_gain_1 : decode cX11_gain 1 = .ok (.lstore_n 2, 1) := by decide +kernel
theorem dX11_gain_2 : decode cX11_gain 2 = .ok (.iconst 0, 1) := by decide +kernel
theorem dX11_gain_3 : decode cX11_gain 3 = .ok (.istore 4, 2) := by decide +kernel
theorem dX11_gain_5 : decode cX11_gain 5 = .ok (.iload 4, 2) := by decide +kernel
theorem dX11_gain_7 : decode cX11_gain 7 = .ok (.i2l, 1) := by decide +kernel
theorem dX11_gain_8 : decode cX11_gain 8 = .ok (.aload_n 0, 1) := by decide +kernel
theorem dX11_gain_9 : decode cX11_gain 9 = .ok (.getfield 7, 3) := by decide +kernel
theorem dX11_gain_12 : decode cX11_gain 12 = .ok (.bipush 6, 2) := by decide +kernel
theorem dX11_gain_14 : decode cX11_gain 14 = .ok (.laload, 1) := by decide +kernel
theorem dX11_gain_15 : decode cX11_gain 15 = .ok (.lcmp, 1) := by decide +kernel
theorem dX11_gain_16 : decode cX11_gain 16 = .ok (.ifCond .ge 53, 3) := by decide +kernel
theorem dX11_gain_19 : decode cX11_gain 19 = .ok (.iload 4, 2) := by decide +kernel
theorem dX11_gain_21 : decode cX11_gain 21 = .ok (.invokestatic 87, 3) := by decide +kernel
theorem dX11_gain_24 : decode cX11_gain 24 = .ok (.istore 5, 2) := by decide +kernel
theorem dX11_gain_26 : decode cX11_gain 26 = .ok (.aload_n 0, 1) := by decide +kernel
theorem dX11_gain_27 : decode cX11_gain 27 = .ok (.getfield 7, 3) := by decide +kernel
theorem dX11_gain_30 : decode cX11_gain 30 = .ok (.iload 5, 2) := by decide +kernel
theorem dX11_gain_32 : decode cX11_gain 32 = .ok (.iconst 2, 1) := by decide +kernel
theorem dX11_gain_33 : decode cX11_gain 33 = .ok (.iadd, 1) := by decide +kernel
theorem dX11_gain_34 : decode cX11_gain 34 = .ok (.laload, 1) := by decide +kernel
theorem dX11_gain_35 : decode cX11_gain 35 = .ok (.iload_n 1, 1) := by decide +kernel
theorem dX11_gain_36 : decode cX11_gain 36 = .ok (.i2l, 1) := by decide +kernel
theorem dX11_gain_37 : decode cX11_gain 37 = .ok (.lmul, 1) := by decide +kernel
theorem dX11_gain_38 : decode cX11_gain 38 = .ok (.ldc2_w 241, 3) := by decide +kernel
theorem dX11_gain_41 : decode cX11_gain 41 = .ok (.ldiv, 1) := by decide +kernel
theorem dX11_gain_42 : decode cX11_gain 42 = .ok (.lstore 6, 2) := by decide +kernel
theorem dX11_gain_44 : decode cX11_gain 44 = .ok (.aload_n 0, 1) := by decide +kernel
theorem dX11_gain_45 : decode cX11_gain 45 = .ok (.getfield 7, 3) := by decide +kernel
theorem dX11_gain_48 : decode cX11_gain 48 = .ok (.iload 5, 2) := by decide +kernel
theorem dX11_gain_50 : decode cX11_gain 50 = .ok (.iconst 2, 1) := by decide +kernel
theorem dX11_gain_51 : decode cX11_gain 51 = .ok (.iadd, 1) := by decide +kernel
theorem dX11_gain_52 : decode cX11_gain 52 = .ok (.dup2, 1) := by decide +kernel
theorem dX11_gain_53 : decode cX11_gain 53 = .ok (.laload, 1) := by decide +kernel
theorem dX11_gain_54 : decode cX11_gain 54 = .ok (.lload 6, 2) := by decide +kernel
theorem dX11_gain_56 : decode cX11_gain 56 = .ok (.ladd, 1) := by decide +kernel
theorem dX11_gain_57 : decode cX11_gain 57 = .ok (.lastore, 1) := by decide +kernel
theorem dX11_gain_58 : decode cX11_gain 58 = .ok (.lload_n 2, 1) := by decide +kernel
theorem dX11_gain_59 : decode cX11_gain 59 = .ok (.lload 6, 2) := by decide +kernel
theorem dX11_gain_61 : decode cX11_gain 61 = .ok (.ladd, 1) := by decide +kernel
theorem dX11_gain_62 : decode cX11_gain 62 = .ok (.lstore_n 2, 1) := by decide +kernel
theorem dX11_gain_63 : decode cX11_gain 63 = .ok (.iinc 4 1, 3) := by decide +kernel
theorem dX11_gain_66 : decode cX11_gain 66 = .ok (.goto (-61), 3) := by decide +kernel
theorem dX11_gain_69 : decode cX11_gain 69 = .ok (.aload_n 0, 1) := by decide +kernel
theorem dX11_gain_70 : decode cX11_gain 70 = .ok (.getfield 7, 3) := by decide +kernel
theorem dX11_gain_73 : decode cX11_gain 73 = .ok (.bipush 14, 2) := by decide +kernel
theorem dX11_gain_75 : decode cX11_gain 75 = .ok (.dup2, 1) := by decide +kernel
theorem dX11_gain_76 : decode cX11_gain 76 = .ok (.laload, 1) := by decide +kernel
theorem dX11_gain_77 : decode cX11_gain 77 = .ok (.lload_n 2, 1) := by decide +kernel
theorem dX11_gain_78 : decode cX11_gain 78 = .ok (.ladd, 1) := by decide +kernel
theorem dX11_gain_79 : decode cX11_gain 79 = .ok (.lastore, 1) := by decide +kernel
theorem dX11_gain_80 : decode cX11_gain 80 = .ok (.lload_n 2, 1) := by decide +kernel
theorem dX11_gain_81 : decode cX11_gain 81 = .ok (.lreturn, 1) := by decide +kernel
theorem dX11_isTooMuch_0 : decode cX11_isTooMuch 0 = .ok (.iconst 0, 1) := by decide +kernel
theorem dX11_isTooMuch_1 : decode cX11_isTooMuch 1 = .ok (.istore_n 2, 1) := by decide +kernel
theorem dX11_isTooMuch_2 : decode cX11_isTooMuch 2 = .ok (.iload_n 2, 1) := by decide +kernel
theorem dX11_isTooMuch_3 : decode cX11_isTooMuch 3 = .ok (.i2l, 1) := by decide +kernel
theorem dX11_isTooMuch_4 : decode cX11_isTooMuch 4 = .ok (.aload_n 0, 1) := by decide +kernel
theorem dX11_isTooMuch_5 : decode cX11_isTooMuch 5 = .ok (.getfield 7, 3) := by decide +kernel
theorem dX11_isTooMuch_8 : decode cX11_isTooMuch 8 = .ok (.bipush 6, 2) := by decide +kernel
theorem dX11_isTooMuch_10 : decode cX11_isTooMuch 10 = .ok (.laload, 1) := by decide +kernel
theorem dX11_isTooMuch_11 : decode cX11_isTooMuch 11 = .ok (.lcmp, 1) := by decide +kernel
theorem dX11_isTooMuch_12 : decode cX11_isTooMuch 12 = .ok (.ifCond .ge 77, 3) := by decide +kernel
theorem dX11_isTooMuch_15 : decode cX11_isTooMuch 15 = .ok (.iload_n 1, 1) := by decide +kernel
theorem dX11_isTooMuch_16 : decode cX11_isTooMuch 16 = .ok (.ifCond .le 73, 3) := by decide +kernel
theorem dX11_isTooMuch_19 : decode cX11_isTooMuch 19 = .ok (.iload_n 2, 1) := by decide +kernel
theorem dX11_isTooMuch_20 : decode cX11_isTooMuch 20 = .ok (.invokestatic 87, 3) := by decide +kernel
theorem dX11_isTooMuch_23 : decode cX11_isTooMuch 23 = .ok (.istore_n 3, 1) := by decide +kernel
theorem dX11_isTooMuch_24 : decode cX11_isTooMuch 24 = .ok (.aload_n 0, 1) := by decide +kernel
theorem dX11_isTooMuch_25 : decode cX11_isTooMuch 25 = .ok (.getfield 7, 3) := by decide +kernel
theorem dX11_isTooMuch_28 : decode cX11_isTooMuch 28 = .ok (.iload_n 3, 1) := by decide +kernel
theorem dX11_isTooMuch_29 : decode cX11_isTooMuch 29 = .ok (.iconst 2, 1) := by decide +kernel
theorem dX11_isTooMuch_30 : decode cX11_isTooMuch 30 = .ok (.iadd, 1) := by decide +kernel
theorem dX11_isTooMuch_31 : decode cX11_isTooMuch 31 = .ok (.laload, 1) := by decide +kernel
theorem dX11_isTooMuch_32 : decode cX11_isTooMuch 32 = .ok (.aload_n 0, 1) := by decide +kernel
theorem dX11_isTooMuch_33 : decode cX11_isTooMuch 33 = .ok (.getfield 7, 3) := by decide +kernel
theorem dX11_isTooMuch_36 : decode cX11_isTooMuch 36 = .ok (.iload_n 3, 1) := by decide +kernel
theorem dX11_isTooMuch_37 : decode cX11_isTooMuch 37 = .ok (.iconst 2, 1) := by decide +kernel
theorem dX11_isTooMuch_38 : decode cX11_isTooMuch 38 = .ok (.iadd, 1) := by decide +kernel
theorem dX11_isTooMuch_39 : decode cX11_isTooMuch 39 = .ok (.laload, 1) := by decide +kernel
theorem dX11_isTooMuch_40 : decode cX11_isTooMuch 40 = .ok (.iload_n 1, 1) := by decide +kernel
theorem dX11_isTooMuch_41 : decode cX11_isTooMuch 41 = .ok (.i2l, 1) := by decide +kernel
theorem dX11_isTooMuch_42 : decode cX11_isTooMuch 42 = .ok (.lmul, 1) := by decide +kernel
theorem dX11_isTooMuch_43 : decode cX11_isTooMuch 43 = .ok (.ldc2_w 241, 3) := by decide +kernel
theorem dX11_isTooMuch_46 : decode cX11_isTooMuch 46 = .ok (.ldiv, 1) := by decide +kernel
theorem dX11_isTooMuch_47 : decode cX11_isTooMuch 47 = .ok (.ladd, 1) := by decide +kernel
theorem dX11_isTooMuch_48 : decode cX11_isTooMuch 48 = .ok (.lstore 4, 2) := by decide +kernel
theorem dX11_isTooMuch_50 : decode cX11_isTooMuch 50 = .ok (.lload 4, 2) := by decide +kernel
theorem dX11_isTooMuch_52 : decode cX11_isTooMuch 52 = .ok (.ldc2_w 243, 3) := by decide +kernel
theorem dX11_isTooMuch_55 : decode cX11_isTooMuch 55 = .ok (.lcmp, 1) := by decide +kernel
theorem dX11_isTooMuch_56 : decode cX11_isTooMuch 56 = .ok (.ifCond .gt 25, 3) := by decide +kernel
theorem dX11_isTooMuch_59 : decode cX11_isTooMuch 59 = .ok (.lload 4, 2) := by decide +kernel
theorem dX11_isTooMuch_61 : decode cX11_isTooMuch 61 = .ok (.ldc2_w 94, 3) := by decide +kernel
theorem dX11_isTooMuch_64 : decode cX11_isTooMuch 64 = .ok (.lmul, 1) := by decide +kernel
theorem dX11_isTooMuch_65 : decode cX11_isTooMuch 65 = .ok (.aload_n 0, 1) := by decide +kernel
theorem dX11_isTooMuch_66 : decode cX11_isTooMuch 66 = .ok (.getfield 7, 3) := by decide +kernel
theorem dX11_isTooMuch_69 : decode cX11_isTooMuch 69 = .ok (.iload_n 3, 1) := by decide +kernel
theorem dX11_isTooMuch_70 : decode cX11_isTooMuch 70 = .ok (.iconst 3, 1) := by decide +kernel
theorem dX11_isTooMuch_71 : decode cX11_isTooMuch 71 = .ok (.iadd, 1) := by decide +kernel
theorem dX11_isTooMuch_72 : decode cX11_isTooMuch 72 = .ok (.laload, 1) := by decide +kernel
theorem dX11_isTooMuch_73 : decode cX11_isTooMuch 73 = .ok (.ldiv, 1) := by decide +kernel
theorem dX11_isTooMuch_74 : decode cX11_isTooMuch 74 = .ok (.ldc2_w 245, 3) := by decide +kernel
theorem dX11_isTooMuch_77 : decode cX11_isTooMuch 77 = .ok (.lcmp, 1) := by decide +kernel
theorem dX11_isTooMuch_78 : decode cX11_isTooMuch 78 = .ok (.ifCond .le 5, 3) := by decide +kernel
theorem dX11_isTooMuch_81 : decode cX11_isTooMuch 81 = .ok (.iconst 1, 1) := by decide +kernel
theorem dX11_isTooMuch_82 : decode cX11_isTooMuch 82 = .ok (.ireturn, 1) := by decide +kernel
theorem dX11_isTooMuch_83 : decode cX11_isTooMuch 83 = .ok (.iinc 2 1, 3) := by decide +kernel
theorem dX11_isTooMuch_86 : decode cX11_isTooMuch 86 = .ok (.goto (-84), 3) := by decide +kernel
theorem dX11_isTooMuch_89 : decode cX11_isTooMuch 89 = .ok (.iconst 0, 1) := by decide +kernel
theorem dX11_isTooMuch_90 : decode cX11_isTooMuch 90 = .ok (.ireturn, 1) := by decide +kernel
theorem dX11_isRate_0 : decode cX11_isRate 0 = .ok (.iload_n 0, 1) := by decide +kernel
theorem dX11_isRate_1 : decode cX11_isRate 1 = .ok (.i2l, 1) := by decide +kernel
theorem dX11_isRate_2 : decode cX11_isRate 2 = .ok (.ldc2_w 247, 3) := by decide +kernel
theorem dX11_isRate_5 : decode cX11_isRate 5 = .ok (.ldc2_w 249, 3) := by decide +kernel
theorem dX11_isRate_8 : decode cX11_isRate 8 = .ok (.invokestatic 61, 3) := by decide +kernel
theorem dX11_isRate_11 : decode cX11_isRate 11 = .ok (.ireturn, 1) := by decide +kernel
theorem dX11_earn_0 : decode cX11_earn 0 = .ok (.aload_n 0, 1) := by decide +kernel
theorem dX11_earn_1 : decode cX11_earn 1 = .ok (.iload_n 1, 1) := by decide +kernel
theorem dX11_earn_2 : decode cX11_earn 2 = .ok (.invokestatic 251, 3) := by decide +kernel
theorem dX11_earn_5 : decode cX11_earn 5 = .ok (.ifCond .ne 7, 3) := by decide +kernel
theorem dX11_earn_8 : decode cX11_earn 8 = .ok (.iconst 1, 1) := by decide +kernel
theorem dX11_earn_9 : decode cX11_earn 9 = .ok (.goto 4, 3) := by decide +kernel
theorem dX11_earn_12 : decode cX11_earn 12 = .ok (.iconst 0, 1) := by decide +kernel
theorem dX11_earn_13 : decode cX11_earn 13 = .ok (.iconst 1, 1) := by decide +kernel
theorem dX11_earn_14 : decode cX11_earn 14 = .ok (.invokevirtual 69, 3) := by decide +kernel
theorem dX11_earn_17 : decode cX11_earn 17 = .ok (.ifCond .ne 16, 3) := by decide +kernel
theorem dX11_earn_20 : decode cX11_earn 20 = .ok (.aload_n 0, 1) := by decide +kernel
theorem dX11_earn_21 : decode cX11_earn 21 = .ok (.aload_n 0, 1) := by decide +kernel
theorem dX11_earn_22 : decode cX11_earn 22 = .ok (.iload_n 1, 1) := by decide +kernel
theorem dX11_earn_23 : decode cX11_earn 23 = .ok (.invokevirtual 254, 3) := by decide +kernel
theorem dX11_earn_26 : decode cX11_earn 26 = .ok (.iconst 2, 1) := by decide +kernel
theorem dX11_earn_27 : decode cX11_earn 27 = .ok (.invokevirtual 69, 3) := by decide +kernel
theorem dX11_earn_30 : decode cX11_earn 30 = .ok (.ifCond .eq 5, 3) := by decide +kernel
theorem dX11_earn_33 : decode cX11_earn 33 = .ok (.lconst 0, 1) := by decide +kernel
theorem dX11_earn_34 : decode cX11_earn 34 = .ok (.lreturn, 1) := by decide +kernel
theorem dX11_earn_35 : decode cX11_earn 35 = .ok (.aload_n 0, 1) := by decide +kernel
theorem dX11_earn_36 : decode cX11_earn 36 = .ok (.invokevirtual 202, 3) := by decide +kernel
theorem dX11_earn_39 : decode cX11_earn 39 = .ok (.aload_n 0, 1) := by decide +kernel
theorem dX11_earn_40 : decode cX11_earn 40 = .ok (.iload_n 1, 1) := by decide +kernel
theorem dX11_earn_41 : decode cX11_earn 41 = .ok (.invokevirtual 257, 3) := by decide +kernel
theorem dX11_earn_44 : decode cX11_earn 44 = .ok (.lreturn, 1) := by decide +kernel
theorem dX11_goDays_0 : decode cX11_goDays 0 = .ok (.lconst 0, 1) := by decide +kernel
theorem dX11_goDays_1 : decode cX11_goDays 1 = .ok (.lstore_n 2, 1) := by decide +kernel
theorem dX11_goDays_2 : decode cX11_goDays 2 = .ok (.iconst 0, 1) := by decide +kernel
theorem dX11_goDays_3 : decode cX11_goDays 3 = .ok (.istore 4, 2) := by decide +kernel
theorem dX11_goDays_5 : decode cX11_goDays 5 = .ok (.iload 4, 2) := by decide +kernel
theorem dX11_goDays_7 : decode cX11_goDays 7 = .ok (.iload_n 1, 1) := by decide +kernel
theorem dX11_goDays_8 : decode cX11_goDays 8 = .ok (.if_icmp .ge 89, 3) := by decide +kernel
theorem dX11_goDays_11 : decode cX11_goDays 11 = .ok (.iconst 0, 1) := by decide +kernel
theorem dX11_goDays_12 : decode cX11_goDays 12 = .ok (.istore 5, 2) := by decide +kernel
theorem dX11_goDays_14 : decode cX11_goDays 14 = .ok (.iload 5, 2) := by decide +kernel
theorem dX11_goDays_16 : decode cX11_goDays 16 = .ok (.i2l, 1) := by decide +kernel
theorem dX11_goDays_17 : decode cX11_goDays 17 = .ok (.aload_n 0, 1) := by decide +kernel
theorem dX11_goDays_18 : decode cX11_goDays 18 = .ok (.getfield 7, 3) := by decide +kernel
theorem dX11_goDays_21 : decode cX11_goDays 21 = .ok (.bipush 6, 2) := by decide +kernel
theorem dX11_goDays_23 : decode cX11_goDays 23 = .ok (.laload, 1) := by decide +kernel
theorem dX11_goDays_24 : decode cX11_goDays 24 = .ok (.lcmp, 1) := by decide +kernel
theorem dX11_goDays_25 : decode cX11_goDays 25 = .ok (.ifCond .ge 56, 3) := by decide +kernel
theorem dX11_goDays_28 : decode cX11_goDays 28 = .ok (.aload_n 0, 1) := by decide +kernel
theorem dX11_goDays_29 : decode cX11_goDays 29 = .ok (.getfield 7, 3) := by decide +kernel
theorem dX11_goDays_32 : decode cX11_goDays 32 = .ok (.iload 5, 2) := by decide +kernel
theorem dX11_goDays_34 : decode cX11_goDays 34 = .ok (.invokestatic 87, 3) := by decide +kernel
theorem dX11_goDays_37 : decode cX11_goDays 37 = .ok (.iconst 2, 1) := by decide +kernel
theorem dX11_goDays_38 : decode cX11_goDays 38 = .ok (.iadd, 1) := by decide +kernel
theorem dX11_goDays_39 : decode cX11_goDays 39 = .ok (.laload, 1) := by decide +kernel
theorem dX11_goDays_40 : decode cX11_goDays 40 = .ok (.aload_n 0, 1) := by decide +kernel
theorem dX11_goDays_41 : decode cX11_goDays 41 = .ok (.getfield 7, 3) := by decide +kernel
theorem dX11_goDays_44 : decode cX11_goDays 44 = .ok (.iconst 2, 1) := by decide +kernel
theorem dX11_goDays_45 : decode cX11_goDays 45 = .ok (.laload, 1) := by decide +kernel
theorem dX11_goDays_46 : decode cX11_goDays 46 = .ok (.lmul, 1) := by decide +kernel
theorem dX11_goDays_47 : decode cX11_goDays 47 = .ok (.ldc2_w 260, 3) := by decide +kernel
theorem dX11_goDays_50 : decode cX11_goDays 50 = .ok (.ldiv, 1) := by decide +kernel
theorem dX11_goDays_51 : decode cX11_goDays 51 = .ok (.lstore 6, 2) := by decide +kernel
theorem dX11_goDays_53 : decode cX11_goDays 53 = .ok (.aload_n 0, 1) := by decide +kernel
theorem dX11_goDays_54 : decode cX11_goDays 54 = .ok (.getfield 7, 3) := by decide +kernel
theorem dX11_goDays_57 : decode cX11_goDays 57 = .ok (.iload 5, 2) := by decide +kernel
theorem dX11_goDays_59 : decode cX11_goDays 59 = .ok (.invokestatic 87, 3) := by decide +kernel
theorem dX11_goDays_62 : decode cX11_goDays 62 = .ok (.iconst 2, 1) := by decide +kernel
theorem dX11_goDays_63 : decode cX11_goDays 63 = .ok (.iadd, 1) := by decide +kernel
theorem dX11_goDays_64 : decode cX11_goDays 64 = .ok (.dup2, 1) := by decide +kernel
theorem dX11_goDays_65 : decode cX11_goDays 65 = .ok (.laload, 1) := by decide +kernel
theorem dX11_goDays_66 : decode cX11_goDays 66 = .ok (.lload 6, 2) := by decide +kernel
theorem dX11_goDays_68 : decode cX11_goDays 68 = .ok (.lsub, 1) := by decide +kernel
theorem dX11_goDays_69 : decode cX11_goDays 69 = .ok (.lastore, 1) := by decide +kernel
theorem dX11_goDays_70 : decode cX11_goDays 70 = .ok (.lload_n 2, 1) := by decide +kernel
theorem dX11_goDays_71 : decode cX11_goDays 71 = .ok (.lload 6, 2) := by decide +kernel
theorem dX11_goDays_73 : decode cX11_goDays 73 = .ok (.ladd, 1) := by decide +kernel
theorem dX11_goDays_74 : decode cX11_goDays 74 = .ok (.lstore_n 2, 1) := by decide +kernel
theorem dX11_goDays_75 : decode cX11_goDays 75 = .ok (.iinc 5 1, 3) := by decide +kernel
theorem dX11_goDays_78 : decode cX11_goDays 78 = .ok (.goto (-64), 3) := by decide +kernel
theorem dX11_goDays_81 : decode cX11_goDays 81 = .ok (.aload_n 0, 1) := by decide +kernel
theorem dX11_goDays_82 : decode cX11_goDays 82 = .ok (.getfield 7, 3) := by decide +kernel
theorem dX11_goDays_85 : decode cX11_goDays 85 = .ok (.iconst 5, 1) := by decide +kernel
theorem dX11_goDays_86 : decode cX11_goDays 86 = .ok (.dup2, 1) := by decide +kernel
theorem dX11_goDays_87 : decode cX11_goDays 87 = .ok (.laload, 1) := by decide +kernel
theorem dX11_goDays_88 : decode cX11_goDays 88 = .ok (.lconst 1, 1) := by decide +kernel
theorem dX11_goDays_89 : decode cX11_goDays 89 = .ok (.ladd, 1) := by decide +kernel
theorem dX11_goDays_90 : decode cX11_goDays 90 = .ok (.lastore, 1) := by decide +kernel
theorem dX11_goDays_91 : decode cX11_goDays 91 = .ok (.iinc 4 1, 3) := by decide +kernel
theorem dX11_goDays_94 : decode cX11_goDays 94 = .ok (.goto (-89), 3) := by decide +kernel
theorem dX11_goDays_97 : decode cX11_goDays 97 = .ok (.aload_n 0, 1) := by decide +kernel
theorem dX11_goDays_98 : decode cX11_goDays 98 = .ok (.getfield 7, 3) := by decide +kernel
theorem dX11_goDays_101 : decode cX11_goDays 101 = .ok (.bipush 15, 2) := by decide +kernel
theorem dX11_goDays_103 : decode cX11_goDays 103 = .ok (.dup2, 1) := by decide +kernel
theorem dX11_goDays_104 : decode cX11_goDays 104 = .ok (.laload, 1) := by decide +kernel
theorem dX11_goDays_105 : decode cX11_goDays 105 = .ok (.lload_n 2, 1) := by decide +kernel
theorem dX11_goDays_106 : decode cX11_goDays 106 = .ok (.ladd, 1) := by decide +kernel
theorem dX11_goDays_107 : decode cX11_goDays 107 = .ok (.lastore, 1) := by decide +kernel
theorem dX11_goDays_108 : decode cX11_goDays 108 = .ok (.aload_n 0, 1) := by decide +kernel
theorem dX11_goDays_109 : decode cX11_goDays 109 = .ok (.getfield 7, 3) := by decide +kernel
theorem dX11_goDays_112 : decode cX11_goDays 112 = .ok (.bipush 10, 2) := by decide +kernel
theorem dX11_goDays_114 : decode cX11_goDays 114 = .ok (.dup2, 1) := by decide +kernel
theorem dX11_goDays_115 : decode cX11_goDays 115 = .ok (.laload, 1) := by decide +kernel
theorem dX11_goDays_116 : decode cX11_goDays 116 = .ok (.lload_n 2, 1) := by decide +kernel
theorem dX11_goDays_117 : decode cX11_goDays 117 = .ok (.ladd, 1) := by decide +kernel
theorem dX11_goDays_118 : decode cX11_goDays 118 = .ok (.lastore, 1) := by decide +kernel
theorem dX11_goDays_119 : decode cX11_goDays 119 = .ok (.lload_n 2, 1) := by decide +kernel
theorem dX11_goDays_120 : decode cX11_goDays 120 = .ok (.lreturn, 1) := by decide +kernel
theorem dX11_passDays_0 : decode cX11_passDays 0 = .ok (.aload_n 0, 1) := by decide +kernel
theorem dX11_passDays_1 : decode cX11_passDays 1 = .ok (.iload_n 1, 1) := by decide +kernel
theorem dX11_passDays_2 : decode cX11_passDays 2 = .ok (.i2l, 1) := by decide +kernel
theorem dX11_passDays_3 : decode cX11_passDays 3 = .ok (.lconst 1, 1) := by decide +kernel
theorem dX11_passDays_4 : decode cX11_passDays 4 = .ok (.ldc2_w 262, 3) := by decide +kernel
theorem dX11_passDays_7 : decode cX11_passDays 7 = .ok (.invokestatic 61, 3) := by decide +kernel
theorem dX11_passDays_10 : decode cX11_passDays 10 = .ok (.ifCond .ne 7, 3) := by decide +kernel
theorem dX11_passDays_13 : decode cX11_passDays 13 = .ok (.iconst 1, 1) := by decide +kernel
theorem dX11_passDays_14 : decode cX11_passDays 14 = .ok (.goto 4, 3) := by decide +kernel
theorem dX11_passDays_17 : decode cX11_passDays 17 = .ok (.iconst 0, 1) := by decide +kernel
theorem dX11_passDays_18 : decode cX11_passDays 18 = .ok (.iconst 1, 1) := by decide +kernel
theorem dX11_passDays_19 : decode cX11_passDays 19 = .ok (.invokevirtual 69, 3) := by decide +kernel
theorem dX11_passDays_22 : decode cX11_passDays 22 = .ok (.ifCond .eq 5, 3) := by decide +kernel
theorem dX11_passDays_25 : decode cX11_passDays 25 = .ok (.lconst 0, 1) := by decide +kernel
theorem dX11_passDays_26 : decode cX11_passDays 26 = .ok (.lreturn, 1) := by decide +kernel
theorem dX11_passDays_27 : decode cX11_passDays 27 = .ok (.aload_n 0, 1) := by decide +kernel
theorem dX11_passDays_28 : decode cX11_passDays 28 = .ok (.invokevirtual 202, 3) := by decide +kernel
theorem dX11_passDays_31 : decode cX11_passDays 31 = .ok (.aload_n 0, 1) := by decide +kernel
theorem dX11_passDays_32 : decode cX11_passDays 32 = .ok (.iload_n 1, 1) := by decide +kernel
theorem dX11_passDays_33 : decode cX11_passDays 33 = .ok (.invokevirtual 264, 3) := by decide +kernel
theorem dX11_passDays_36 : decode cX11_passDays 36 = .ok (.lreturn, 1) := by decide +kernel
theorem dX11_moves_0 : decode cX11_moves 0 = .ok (.aload_n 0, 1) := by decide +kernel
theorem dX11_moves_1 : decode cX11_moves 1 = .ok (.getfield 7, 3) := by decide +kernel
theorem dX11_moves_4 : decode cX11_moves 4 = .ok (.iload_n 1, 1) := by decide +kernel
theorem dX11_moves_5 : decode cX11_moves 5 = .ok (.iconst 2, 1) := by decide +kernel
theorem dX11_moves_6 : decode cX11_moves 6 = .ok (.iadd, 1) := by decide +kernel
theorem dX11_moves_7 : decode cX11_moves 7 = .ok (.dup2, 1) := by decide +kernel
theorem dX11_moves_8 : decode cX11_moves 8 = .ok (.laload, 1) := by decide +kernel
theorem dX11_moves_9 : decode cX11_moves 9 = .ok (.lload_n 3, 1) := by decide +kernel
theorem dX11_moves_10 : decode cX11_moves 10 = .ok (.ladd, 1) := by decide +kernel
theorem dX11_moves_11 : decode cX11_moves 11 = .ok (.lastore, 1) := by decide +kernel
theorem dX11_moves_12 : decode cX11_moves 12 = .ok (.aload_n 0, 1) := by decide +kernel
theorem dX11_moves_13 : decode cX11_moves 13 = .ok (.getfield 7, 3) := by decide +kernel
theorem dX11_moves_16 : decode cX11_moves 16 = .ok (.bipush 10, 2) := by decide +kernel
theorem dX11_moves_18 : decode cX11_moves 18 = .ok (.dup2, 1) := by decide +kernel
theorem dX11_moves_19 : decode cX11_moves 19 = .ok (.laload, 1) := by decide +kernel
theorem dX11_moves_20 : decode cX11_moves 20 = .ok (.lload_n 3, 1) := by decide +kernel
theorem dX11_moves_21 : decode cX11_moves 21 = .ok (.lsub, 1) := by decide +kernel
theorem dX11_moves_22 : decode cX11_moves 22 = .ok (.lastore, 1) := by decide +kernel
theorem dX11_moves_23 : decode cX11_moves 23 = .ok (.aload_n 0, 1) := by decide +kernel
theorem dX11_moves_24 : decode cX11_moves 24 = .ok (.getfield 7, 3) := by decide +kernel
theorem dX11_moves_27 : decode cX11_moves 27 = .ok (.iload_n 2, 1) := by decide +kernel
theorem dX11_moves_28 : decode cX11_moves 28 = .ok (.iconst 2, 1) := by decide +kernel
theorem dX11_moves_29 : decode cX11_moves 29 = .ok (.iadd, 1) := by decide +kernel
theorem dX11_moves_30 : decode cX11_moves 30 = .ok (.dup2, 1) := by decide +kernel
theorem dX11_moves_31 : decode cX11_moves 31 = .ok (.laload, 1) := by decide +kernel
theorem dX11_moves_32 : decode cX11_moves 32 = .ok (.lload 5, 2) := by decide +kernel
theorem dX11_moves_34 : decode cX11_moves 34 = .ok (.ladd, 1) := by decide +kernel
theorem dX11_moves_35 : decode cX11_moves 35 = .ok (.lastore, 1) := by decide +kernel
theorem dX11_moves_36 : decode cX11_moves 36 = .ok (.aload_n 0, 1) := by decide +kernel
theorem dX11_moves_37 : decode cX11_moves 37 = .ok (.getfield 7, 3) := by decide +kernel
theorem dX11_moves_40 : decode cX11_moves 40 = .ok (.iload_n 1, 1) := by decide +kernel
theorem dX11_moves_41 : decode cX11_moves 41 = .ok (.iconst 3, 1) := by decide +kernel
theorem dX11_moves_42 : decode cX11_moves 42 = .ok (.iadd, 1) := by decide +kernel
theorem dX11_moves_43 : decode cX11_moves 43 = .ok (.dup2, 1) := by decide +kernel
theorem dX11_moves_44 : decode cX11_moves 44 = .ok (.laload, 1) := by decide +kernel
theorem dX11_moves_45 : decode cX11_moves 45 = .ok (.lload 5, 2) := by decide +kernel
theorem dX11_moves_47 : decode cX11_moves 47 = .ok (.ladd, 1) := by decide +kernel
theorem dX11_moves_48 : decode cX11_moves 48 = .ok (.lastore, 1) := by decide +kernel
theorem dX11_moves_49 : decode cX11_moves 49 = .ok (.return_, 1) := by decide +kernel
theorem dX11_equalize_0 : decode cX11_equalize 0 = .ok (.aload_n 0, 1) := by decide +kernel
theorem dX11_equalize_1 : decode cX11_equalize 1 = .ok (.getfield 7, 3) := by decide +kernel
theorem dX11_equalize_4 : decode cX11_equalize 4 = .ok (.iload_n 1, 1) := by decide +kernel
theorem dX11_equalize_5 : decode cX11_equalize 5 = .ok (.iconst 4, 1) := by decide +kernel
theorem dX11_equalize_6 : decode cX11_equalize 6 = .ok (.iadd, 1) := by decide +kernel
theorem dX11_equalize_7 : decode cX11_equalize 7 = .ok (.laload, 1) := by decide +kernel
theorem dX11_equalize_8 : decode cX11_equalize 8 = .ok (.lstore 7, 2) := by decide +kernel
theorem dX11_equalize_10 : decode cX11_equalize 10 = .ok (.aload_n 0, 1) := by decide +kernel
theorem dX11_equalize_11 : decode cX11_equalize 11 = .ok (.getfield 7, 3) := by decide +kernel
theorem dX11_equalize_14 : decode cX11_equalize 14 = .ok (.iload_n 2, 1) := by decide +kernel
theorem dX11_equalize_15 : decode cX11_equalize 15 = .ok (.iconst 3, 1) := by decide +kernel
theorem dX11_equalize_16 : decode cX11_equalize 16 = .ok (.iadd, 1) := by decide +kernel
theorem dX11_equalize_17 : decode cX11_equalize 17 = .ok (.laload, 1) := by decide +kernel
theorem dX11_equalize_18 : decode cX11_equalize 18 = .ok (.lstore 9, 2) := by decide +kernel
theorem dX11_equalize_20 : decode cX11_equalize 20 = .ok (.lload 9, 2) := by decide +kernel
theorem dX11_equalize_22 : decode cX11_equalize 22 = .ok (.lload 7, 2) := by decide +kernel
theorem dX11_equalize_24 : decode cX11_equalize 24 = .ok (.lcmp, 1) := by decide +kernel
theorem dX11_equalize_25 : decode cX11_equalize 25 = .ok (.ifCond .le 57, 3) := by decide +kernel
theorem dX11_equalize_28 : decode cX11_equalize 28 = .ok (.lload_n 3, 1) := by decide +kernel
theorem dX11_equalize_29 : decode cX11_equalize 29 = .ok (.lload 7, 2) := by decide +kernel
theorem dX11_equalize_31 : decode cX11_equalize 31 = .ok (.lcmp, 1) := by decide +kernel
theorem dX11_equalize_32 : decode cX11_equalize 32 = .ok (.ifCond .le 50, 3) := by decide +kernel
theorem dX11_equalize_35 : decode cX11_equalize 35 = .ok (.aload_n 0, 1) := by decide +kernel
theorem dX11_equalize_36 : decode cX11_equalize 36 = .ok (.getfield 7, 3) := by decide +kernel
theorem dX11_equalize_39 : decode cX11_equalize 39 = .ok (.iload_n 2, 1) := by decide +kernel
theorem dX11_equalize_40 : decode cX11_equalize 40 = .ok (.iconst 4, 1) := by decide +kernel
theorem dX11_equalize_41 : decode cX11_equalize 41 = .ok (.iadd, 1) := by decide +kernel
theorem dX11_equalize_42 : decode cX11_equalize 42 = .ok (.laload, 1) := by decide +kernel
theorem dX11_equalize_43 : decode cX11_equalize 43 = .ok (.lload_n 3, 1) := by decide +kernel
theorem dX11_equalize_44 : decode cX11_equalize 44 = .ok (.lload 7, 2) := by decide +kernel
theorem dX11_equalize_46 : decode cX11_equalize 46 = .ok (.lsub, 1) := by decide +kernel
theorem dX11_equalize_47 : decode cX11_equalize 47 = .ok (.lload 9, 2) := by decide +kernel
theorem dX11_equalize_49 : decode cX11_equalize 49 = .ok (.lload 7, 2) := by decide +kernel
theorem dX11_equalize_51 : decode cX11_equalize 51 = .ok (.lsub, 1) := by decide +kernel
theorem dX11_equalize_52 : decode cX11_equalize 52 = .ok (.invokestatic 124, 3) := by decide +kernel
theorem dX11_equalize_55 : decode cX11_equalize 55 = .ok (.lload 9, 2) := by decide +kernel
theorem dX11_equalize_57 : decode cX11_equalize 57 = .ok (.lload 7, 2) := by decide +kernel
theorem dX11_equalize_59 : decode cX11_equalize 59 = .ok (.lsub, 1) := by decide +kernel
theorem dX11_equalize_60 : decode cX11_equalize 60 = .ok (.invokestatic 267, 3) := by decide +kernel
theorem dX11_equalize_63 : decode cX11_equalize 63 = .ok (.lstore 11, 2) := by decide +kernel
theorem dX11_equalize_65 : decode cX11_equalize 65 = .ok (.aload_n 0, 1) := by decide +kernel
theorem dX11_equalize_66 : decode cX11_equalize 66 = .ok (.iload_n 1, 1) := by decide +kernel
theorem dX11_equalize_67 : decode cX11_equalize 67 = .ok (.iload_n 2, 1) := by decide +kernel
theorem dX11_equalize_68 : decode cX11_equalize 68 = .ok (.lload 11, 2) := by decide +kernel
theorem dX11_equalize_70 : decode cX11_equalize 70 = .ok (.lload 11, 2) := by decide +kernel
theorem dX11_equalize_72 : decode cX11_equalize 72 = .ok (.ldc2_w 94, 3) := by decide +kernel
theorem dX11_equalize_75 : decode cX11_equalize 75 = .ok (.lmul, 1) := by decide +kernel
theorem dX11_equalize_76 : decode cX11_equalize 76 = .ok (.lload 5, 2) := by decide +kernel
theorem dX11_equalize_78 : decode cX11_equalize 78 = .ok (.ldiv, 1) := by decide +kernel
theorem dX11_equalize_79 : decode cX11_equalize 79 = .ok (.invokevirtual 271, 3) := by decide +kernel
theorem dX11_equalize_82 : decode cX11_equalize 82 = .ok (.lload 9, 2) := by decide +kernel
theorem dX11_equalize_84 : decode cX11_equalize 84 = .ok (.lload 7, 2) := by decide +kernel
theorem dX11_equalize_86 : decode cX11_equalize 86 = .ok (.lcmp, 1) := by decide +kernel
theorem dX11_equalize_87 : decode cX11_equalize 87 = .ok (.ifCond .ge 75, 3) := by decide +kernel
theorem dX11_equalize_90 : decode cX11_equalize 90 = .ok (.lload 9, 2) := by decide +kernel
theorem dX11_equalize_92 : decode cX11_equalize 92 = .ok (.lload_n 3, 1) := by decide +kernel
theorem dX11_equalize_93 : decode cX11_equalize 93 = .ok (.lcmp, 1) := by decide +kernel
theorem dX11_equalize_94 : decode cX11_equalize 94 = .ok (.ifCond .ge 68, 3) := by decide +kernel
theorem dX11_equalize_97 : decode cX11_equalize 97 = .ok (.aload_n 0, 1) := by decide +kernel
theorem dX11_equalize_98 : decode cX11_equalize 98 = .ok (.getfield 7, 3) := by decide +kernel
theorem dX11_equalize_101 : decode cX11_equalize 101 = .ok (.iload_n 2, 1) := by decide +kernel
theorem dX11_equalize_102 : decode cX11_equalize 102 = .ok (.iconst 2, 1) := by decide +kernel
theorem dX11_equalize_103 : decode cX11_equalize 103 = .ok (.iadd, 1) := by decide +kernel
theorem dX11_equalize_104 : decode cX11_equalize 104 = .ok (.laload, 1) := by decide +kernel
theorem dX11_equalize_105 : decode cX11_equalize 105 = .ok (.lload_n 3, 1) := by decide +kernel
theorem dX11_equalize_106 : decode cX11_equalize 106 = .ok (.lload 7, 2) := by decide +kernel
theorem dX11_equalize_108 : decode cX11_equalize 108 = .ok (.invokestatic 124, 3) := by decide +kernel
theorem dX11_equalize_111 : decode cX11_equalize 111 = .ok (.lload 9, 2) := by decide +kernel
theorem dX11_equalize_113 : decode cX11_equalize 113 = .ok (.lsub, 1) := by decide +kernel
theorem dX11_equalize_114 : decode cX11_equalize 114 = .ok (.lmul, 1) := by decide +kernel
theorem dX11_equalize_115 : decode cX11_equalize 115 = .ok (.aload_n 0, 1) := by decide +kernel
theorem dX11_equalize_116 : decode cX11_equalize 116 = .ok (.getfield 7, 3) := by decide +kernel
theorem dX11_equalize_119 : decode cX11_equalize 119 = .ok (.iconst 3, 1) := by decide +kernel
theorem dX11_equalize_120 : decode cX11_equalize 120 = .ok (.laload, 1) := by decide +kernel
theorem dX11_equalize_121 : decode cX11_equalize 121 = .ok (.lmul, 1) := by decide +kernel
theorem dX11_equalize_122 : decode cX11_equalize 122 = .ok (.ldc2_w 56, 3) := by decide +kernel
theorem dX11_equalize_125 : decode cX11_equalize 125 = .ok (.ldiv, 1) := by decide +kernel
theorem dX11_equalize_126 : decode cX11_equalize 126 = .ok (.ldc2_w 94, 3) := by decide +kernel
theorem dX11_equalize_129 : decode cX11_equalize 129 = .ok (.ldiv, 1) := by decide +kernel
theorem dX11_equalize_130 : decode cX11_equalize 130 = .ok (.lstore 11, 2) := by decide +kernel
theorem dX11_equalize_132 : decode cX11_equalize 132 = .ok (.aload_n 0, 1) := by decide +kernel
theorem dX11_equalize_133 : decode cX11_equalize 133 = .ok (.iload_n 1, 1) := by decide +kernel
theorem dX11_equalize_134 : decode cX11_equalize 134 = .ok (.iload_n 2, 1) := by decide +kernel
theorem dX11_equalize_135 : decode cX11_equalize 135 = .ok (.lload 11, 2) := by decide +kernel
theorem dX11_equalize_137 : decode cX11_equalize 137 = .ok (.lneg, 1) := by decide +kernel
theorem dX11_equalize_138 : decode cX11_equalize 138 = .ok (.aload_n 0, 1) := by decide +kernel
theorem dX11_equalize_139 : decode cX11_equalize 139 = .ok (.getfield 7, 3) := by decide +kernel
theorem dX11_equalize_142 : decode cX11_equalize 142 = .ok (.iload_n 2, 1) := by decide +kernel
theorem dX11_equalize_143 : decode cX11_equalize 143 = .ok (.iconst 2, 1) := by decide +kernel
theorem dX11_equalize_144 : decode cX11_equalize 144 = .ok (.iadd, 1) := by decide +kernel
theorem dX11_equalize_145 : decode cX11_equalize 145 = .ok (.laload, 1) := by decide +kernel
theorem dX11_equalize_146 : decode cX11_equalize 146 = .ok (.lload 11, 2) := by decide +kernel
theorem dX11_equalize_148 : decode cX11_equalize 148 = .ok (.ldc2_w 94, 3) := by decide +kernel
theorem dX11_equalize_151 : decode cX11_equalize 151 = .ok (.lmul, 1) := by decide +kernel
theorem dX11_equalize_152 : decode cX11_equalize 152 = .ok (.lload 5, 2) := by decide +kernel
theorem dX11_equalize_154 : decode cX11_equalize 154 = .ok (.ldiv, 1) := by decide +kernel
theorem dX11_equalize_155 : decode cX11_equalize 155 = .ok (.invokestatic 124, 3) := by decide +kernel
theorem dX11_equalize_158 : decode cX11_equalize 158 = .ok (.lneg, 1) := by decide +kernel
theorem dX11_equalize_159 : decode cX11_equalize 159 = .ok (.invokevirtual 271, 3) := by decide +kernel
theorem dX11_equalize_162 : decode cX11_equalize 162 = .ok (.return_, 1) := by decide +kernel
theorem dX11_crystallizeOne_0 : decode cX11_crystallizeOne 0 = .ok (.aload_n 0, 1) := by decide +kernel
theorem dX11_crystallizeOne_1 : decode cX11_crystallizeOne 1 = .ok (.iload_n 1, 1) := by decide +kernel
theorem dX11_crystallizeOne_2 : decode cX11_crystallizeOne 2 = .ok (.invokevirtual 121, 3) := by decide +kernel
theorem dX11_crystallizeOne_5 : decode cX11_crystallizeOne 5 = .ok (.lstore_n 2, 1) := by decide +kernel
theorem dX11_crystallizeOne_6 : decode cX11_crystallizeOne 6 = .ok (.aload_n 0, 1) := by decide +kernel
theorem dX11_crystallizeOne_7 : decode cX11_crystallizeOne 7 = .ok (.iload_n 1, 1) := by decide +kernel
theorem dX11_crystallizeOne_8 : decode cX11_crystallizeOne 8 = .ok (.invokevirtual 102, 3) := by decide +kernel
theorem dX11_crystallizeOne_11 : decode cX11_crystallizeOne 11 = .ok (.lstore 4, 2) := by decide +kernel
theorem dX11_crystallizeOne_13 : decode cX11_crystallizeOne 13 = .ok (.aload_n 0, 1) := by decide +kernel
theorem dX11_crystallizeOne_14 : decode cX11_crystallizeOne 14 = .ok (.getfield 7, 3) := by decide +kernel
theorem dX11_crystallizeOne_17 : decode cX11_crystallizeOne 17 = .ok (.iload_n 1, 1) := by decide +kernel
theorem dX11_crystallizeOne_18 : decode cX11_crystallizeOne 18 = .ok (.iconst 2, 1) := by decide +kernel
theorem dX11_crystallizeOne_19 : decode cX11_crystallizeOne 19 = .ok (.iadd, 1) := by decide +kernel
theorem dX11_crystallizeOne_20 : decode cX11_crystallizeOne 20 = .ok (.dup2, 1) := by decide +kernel
theorem dX11_crystallizeOne_21 : decode cX11_crystallizeOne 21 = .ok (.laload, 1) := by decide +kernel
theorem dX11_crystallizeOne_22 : decode cX11_crystallizeOne 22 = .ok (.lload 4, 2) := by decide +kernel
theorem dX11_crystallizeOne_24 : decode cX11_crystallizeOne 24 = .ok (.lsub, 1) := by decide +kernel
theorem dX11_crystallizeOne_25 : decode cX11_crystallizeOne 25 = .ok (.lastore, 1) := by decide +kernel
theorem dX11_crystallizeOne_26 : decode cX11_crystallizeOne 26 = .ok (.aload_n 0, 1) := by decide +kernel
theorem dX11_crystallizeOne_27 : decode cX11_crystallizeOne 27 = .ok (.getfield 7, 3) := by decide +kernel
theorem dX11_crystallizeOne_30 : decode cX11_crystallizeOne 30 = .ok (.bipush 10, 2) := by decide +kernel
theorem dX11_crystallizeOne_32 : decode cX11_crystallizeOne 32 = .ok (.dup2, 1) := by decide +kernel
theorem dX11_crystallizeOne_33 : decode cX11_crystallizeOne 33 = .ok (.laload, 1) := by decide +kernel
theorem dX11_crystallizeOne_34 : decode cX11_crystallizeOne 34 = .ok (.lload 4, 2) := by decide +kernel
theorem dX11_crystallizeOne_36 : decode cX11_crystallizeOne 36 = .ok (.ladd, 1) := by decide +kernel
theorem dX11_crystallizeOne_37 : decode cX11_crystallizeOne 37 = .ok (.lastore, 1) := by decide +kernel
theorem dX11_crystallizeOne_38 : decode cX11_crystallizeOne 38 = .ok (.aload_n 0, 1) := by decide +kernel
theorem dX11_crystallizeOne_39 : decode cX11_crystallizeOne 39 = .ok (.iload_n 1, 1) := by decide +kernel
theorem dX11_crystallizeOne_40 : decode cX11_crystallizeOne 40 = .ok (.invokevirtual 121, 3) := by decide +kernel
theorem dX11_crystallizeOne_43 : decode cX11_crystallizeOne 43 = .ok (.lstore 6, 2) := by decide +kernel
theorem dX11_crystallizeOne_45 : decode cX11_crystallizeOne 45 = .ok (.iconst 0, 1) := by decide +kernel
theorem dX11_crystallizeOne_46 : decode cX11_crystallizeOne 46 = .ok (.istore 8, 2) := by decide +kernel
theorem dX11_crystallizeOne_48 : decode cX11_crystallizeOne 48 = .ok (.iload 8, 2) := by decide +kernel
theorem dX11_crystallizeOne_50 : decode cX11_crystallizeOne 50 = .ok (.i2l, 1) := by decide +kernel
theorem dX11_crystallizeOne_51 : decode cX11_crystallizeOne 51 = .ok (.aload_n 0, 1) := by decide +kernel
theorem dX11_crystallizeOne_52 : decode cX11_crystallizeOne 52 = .ok (.getfield 7, 3) := by decide +kernel
theorem dX11_crystallizeOne_55 : decode cX11_crystallizeOne 55 = .ok (.bipush 7, 2) := by decide +kernel
theorem dX11_crystallizeOne_57 : decode cX11_crystallizeOne 57 = .ok (.laload, 1) := by decide +kernel
theorem dX11_crystallizeOne_58 : decode cX11_crystallizeOne 58 = .ok (.lcmp, 1) := by decide +kernel
theorem dX11_crystallizeOne_59 : decode cX11_crystallizeOne 59 = .ok (.ifCond .ge 82, 3) := by decide +kernel
theorem dX11_crystallizeOne_62 : decode cX11_crystallizeOne 62 = .ok (.iload 8, 2) := by decide +kernel
theorem dX11_crystallizeOne_64 : decode cX11_crystallizeOne 64 = .ok (.invokestatic 115, 3) := by decide +kernel
theorem dX11_crystallizeOne_67 : decode cX11_crystallizeOne 67 = .ok (.istore 9, 2) := by decide +kernel
theorem dX11_crystallizeOne_69 : decode cX11_crystallizeOne 69 = .ok (.aload_n 0, 1) := by decide +kernel
theorem dX11_crystallizeOne_70 : decode cX11_crystallizeOne 70 = .ok (.getfield 7, 3) := by decide +kernel
theorem dX11_crystallizeOne_73 : decode cX11_crystallizeOne 73 = .ok (.iload 9, 2) := by decide +kernel
theorem dX11_crystallizeOne_75 : decode cX11_crystallizeOne 75 = .ok (.iconst 1, 1) := by decide +kernel
theorem dX11_crystallizeOne_76 : decode cX11_crystallizeOne 76 = .ok (.iadd, 1) := by decide +kernel
theorem dX11_crystallizeOne_77 : decode cX11_crystallizeOne 77 = .ok (.laload, 1) := by decide +kernel
theorem dX11_crystallizeOne_78 : decode cX11_crystallizeOne 78 = .ok (.aload_n 0, 1) := by decide +kernel
theorem dX11_crystallizeOne_79 : decode cX11_crystallizeOne 79 = .ok (.getfield 7, 3) := by decide +kernel
theorem dX11_crystallizeOne_82 : decode cX11_crystallizeOne 82 = .ok (.iload_n 1, 1) := by decide +kernel
theorem dX11_crystallizeOne_83 : decode cX11_crystallizeOne 83 = .ok (.iconst 0, 1) := by decide +kernel
theorem dX11_crystallizeOne_84 : decode cX11_crystallizeOne 84 = .ok (.iadd, 1) := by decide +kernel
theorem dX11_crystallizeOne_85 : decode cX11_crystallizeOne 85 = .ok (.laload, 1) := by decide +kernel
theorem dX11_crystallizeOne_86 : decode cX11_crystallizeOne 86 = .ok (.lcmp, 1) := by decide +kernel
theorem dX11_crystallizeOne_87 : decode cX11_crystallizeOne 87 = .ok (.ifCond .eq 6, 3) := by decide +kernel
theorem dX11_crystallizeOne_90 : decode cX11_crystallizeOne 90 = .ok (.goto 45, 3) := by decide +kernel
theorem dX11_crystallizeOne_93 : decode cX11_crystallizeOne 93 = .ok (.aload_n 0, 1) := by decide +kernel
theorem dX11_crystallizeOne_94 : decode cX11_crystallizeOne 94 = .ok (.getfield 7, 3) := by decide +kernel
theorem dX11_crystallizeOne_97 : decode cX11_crystallizeOne 97 = .ok (.iconst 1, 1) := by decide +kernel
theorem dX11_crystallizeOne_98 : decode cX11_crystallizeOne 98 = .ok (.laload, 1) := by decide +kernel
theorem dX11_crystallizeOne_99 : decode cX11_crystallizeOne 99 = .ok (.lconst 1, 1) := by decide +kernel
theorem dX11_crystallizeOne_100 : decode cX11_crystallizeOne 100 = .ok (.lcmp, 1) := by decide +kernel
theorem dX11_crystallizeOne_101 : decode cX11_crystallizeOne 101 = .ok (.ifCond .ne 13, 3) := by decide +kernel
theorem dX11_crystallizeOne_104 : decode cX11_crystallizeOne 104 = .ok (.aload_n 0, 1) := by decide +kernel
theorem dX11_crystallizeOne_105 : decode cX11_crystallizeOne 105 = .ok (.iload_n 1, 1) := by decide +kernel
theorem dX11_crystallizeOne_106 : decode cX11_crystallizeOne 106 = .ok (.iload 9, 2) := by decide +kernel
theorem dX11_crystallizeOne_108 : decode cX11_crystallizeOne 108 = .ok (.lload_n 2, 1) := by decide +kernel
theorem dX11_crystallizeOne_109 : decode cX11_crystallizeOne 109 = .ok (.lload 6, 2) := by decide +kernel
theorem dX11_crystallizeOne_111 : decode cX11_crystallizeOne 111 = .ok (.invokevirtual 275, 3) := by decide +kernel
theorem dX11_crystallizeOne_114 : decode cX11_crystallizeOne 114 = .ok (.aload_n 0, 1) := by decide +kernel
theorem dX11_crystallizeOne_115 : decode cX11_crystallizeOne 115 = .ok (.getfield 7, 3) := by decide +kernel
theorem dX11_crystallizeOne_118 : decode cX11_crystallizeOne 118 = .ok (.iload 9, 2) := by decide +kernel
theorem dX11_crystallizeOne_120 : decode cX11_crystallizeOne 120 = .ok (.iconst 3, 1) := by decide +kernel
theorem dX11_crystallizeOne_121 : decode cX11_crystallizeOne 121 = .ok (.iadd, 1) := by decide +kernel
theorem dX11_crystallizeOne_122 : decode cX11_crystallizeOne 122 = .ok (.lload 6, 2) := by decide +kernel
theorem dX11_crystallizeOne_124 : decode cX11_crystallizeOne 124 = .ok (.lastore, 1) := by decide +kernel
theorem dX11_crystallizeOne_125 : decode cX11_crystallizeOne 125 = .ok (.aload_n 0, 1) := by decide +kernel
theorem dX11_crystallizeOne_126 : decode cX11_crystallizeOne 126 = .ok (.getfield 7, 3) := by decide +kernel
theorem dX11_crystallizeOne_129 : decode cX11_crystallizeOne 129 = .ok (.iload 9, 2) := by decide +kernel
theorem dX11_crystallizeOne_131 : decode cX11_crystallizeOne 131 = .ok (.iconst 4, 1) := by decide +kernel
theorem dX11_crystallizeOne_132 : decode cX11_crystallizeOne 132 = .ok (.iadd, 1) := by decide +kernel
theorem dX11_crystallizeOne_133 : decode cX11_crystallizeOne 133 = .ok (.lconst 0, 1) := by decide +kernel
theorem dX11_crystallizeOne_134 : decode cX11_crystallizeOne 134 = .ok (.lastore, 1) := by decide +kernel
theorem dX11_crystallizeOne_135 : decode cX11_crystallizeOne 135 = .ok (.iinc 8 1, 3) := by decide +kernel
theorem dX11_crystallizeOne_138 : decode cX11_crystallizeOne 138 = .ok (.goto (-90), 3) := by decide +kernel
theorem dX11_crystallizeOne_141 : decode cX11_crystallizeOne 141 = .ok (.lload 4, 2) := by decide +kernel
theorem dX11_crystallizeOne_143 : decode cX11_crystallizeOne 143 = .ok (.lconst 0, 1) := by decide +kernel
theorem dX11_crystallizeOne_144 : decode cX11_crystallizeOne 144 = .ok (.lcmp, 1) := by decide +kernel
theorem dX11_crystallizeOne_145 : decode cX11_crystallizeOne 145 = .ok (.ifCond .le 13, 3) := by decide +kernel
theorem dX11_crystallizeOne_148 : decode cX11_crystallizeOne 148 = .ok (.aload_n 0, 1) := by decide +kernel
theorem dX11_crystallizeOne_149 : decode cX11_crystallizeOne 149 = .ok (.getfield 7, 3) := by decide +kernel
theorem dX11_crystallizeOne_152 : decode cX11_crystallizeOne 152 = .ok (.iload_n 1, 1) := by decide +kernel
theorem dX11_crystallizeOne_153 : decode cX11_crystallizeOne 153 = .ok (.iconst 4, 1) := by decide +kernel
theorem dX11_crystallizeOne_154 : decode cX11_crystallizeOne 154 = .ok (.iadd, 1) := by decide +kernel
theorem dX11_crystallizeOne_155 : decode cX11_crystallizeOne 155 = .ok (.lload 6, 2) := by decide +kernel
theorem dX11_crystallizeOne_157 : decode cX11_crystallizeOne 157 = .ok (.lastore, 1) := by decide +kernel
theorem dX11_crystallizeOne_158 : decode cX11_crystallizeOne 158 = .ok (.return_, 1) := by decide +kernel
theorem dX11_crystallizeAll_0 : decode cX11_crystallizeAll 0 = .ok (.aload_n 0, 1) := by decide +kernel
theorem dX11_crystallizeAll_1 : decode cX11_crystallizeAll 1 = .ok (.getfield 7, 3) := by decide +kernel
theorem dX11_crystallizeAll_4 : decode cX11_crystallizeAll 4 = .ok (.bipush 10, 2) := by decide +kernel
theorem dX11_crystallizeAll_6 : decode cX11_crystallizeAll 6 = .ok (.laload, 1) := by decide +kernel
theorem dX11_crystallizeAll_7 : decode cX11_crystallizeAll 7 = .ok (.lstore_n 1, 1) := by decide +kernel
theorem dX11_crystallizeAll_8 : decode cX11_crystallizeAll 8 = .ok (.iconst 0, 1) := by decide +kernel
theorem dX11_crystallizeAll_9 : decode cX11_crystallizeAll 9 = .ok (.istore_n 3, 1) := by decide +kernel
theorem dX11_crystallizeAll_10 : decode cX11_crystallizeAll 10 = .ok (.iload_n 3, 1) := by decide +kernel
theorem dX11_crystallizeAll_11 : decode cX11_crystallizeAll 11 = .ok (.i2l, 1) := by decide +kernel
theorem dX11_crystallizeAll_12 : decode cX11_crystallizeAll 12 = .ok (.aload_n 0, 1) := by decide +kernel
theorem dX11_crystallizeAll_13 : decode cX11_crystallizeAll 13 = .ok (.getfield 7, 3) := by decide +kernel
theorem dX11_crystallizeAll_16 : decode cX11_crystallizeAll 16 = .ok (.bipush 6, 2) := by decide +kernel
theorem dX11_crystallizeAll_18 : decode cX11_crystallizeAll 18 = .ok (.laload, 1) := by decide +kernel
theorem dX11_crystallizeAll_19 : decode cX11_crystallizeAll 19 = .ok (.lcmp, 1) := by decide +kernel
theorem dX11_crystallizeAll_20 : decode cX11_crystallizeAll 20 = .ok (.ifCond .ge 17, 3) := by decide +kernel
theorem dX11_crystallizeAll_23 : decode cX11_crystallizeAll 23 = .ok (.aload_n 0, 1) := by decide +kernel
theorem dX11_crystallizeAll_24 : decode cX11_crystallizeAll 24 = .ok (.iload_n 3, 1) := by decide +kernel
theorem dX11_crystallizeAll_25 : decode cX11_crystallizeAll 25 = .ok (.invokestatic 87, 3) := by decide +kernel
theorem dX11_crystallizeAll_28 : decode cX11_crystallizeAll 28 = .ok (.invokevirtual 278, 3) := by decide +kernel
theorem dX11_crystallizeAll_31 : decode cX11_crystallizeAll 31 = .ok (.iinc 3 1, 3) := by decide +kernel
theorem dX11_crystallizeAll_34 : decode cX11_crystallizeAll 34 = .ok (.goto (-24), 3) := by decide +kernel
theorem dX11_crystallizeAll_37 : decode cX11_crystallizeAll 37 = .ok (.aload_n 0, 1) := by decide +kernel
theorem dX11_crystallizeAll_38 : decode cX11_crystallizeAll 38 = .ok (.invokevirtual 147, 3) := by decide +kernel
theorem dX11_crystallizeAll_41 : decode cX11_crystallizeAll 41 = .ok (.aload_n 0, 1) := by decide +kernel
theorem dX11_crystallizeAll_42 : decode cX11_crystallizeAll 42 = .ok (.invokevirtual 150, 3) := by decide +kernel
theorem dX11_crystallizeAll_45 : decode cX11_crystallizeAll 45 = .ok (.aload_n 0, 1) := by decide +kernel
theorem dX11_crystallizeAll_46 : decode cX11_crystallizeAll 46 = .ok (.getfield 7, 3) := by decide +kernel
theorem dX11_crystallizeAll_49 : decode cX11_crystallizeAll 49 = .ok (.bipush 10, 2) := by decide +kernel
theorem dX11_crystallizeAll_51 : decode cX11_crystallizeAll 51 = .ok (.laload, 1) := by decide +kernel
theorem dX11_crystallizeAll_52 : decode cX11_crystallizeAll 52 = .ok (.lload_n 1, 1) := by decide +kernel
theorem dX11_crystallizeAll_53 : decode cX11_crystallizeAll 53 = .ok (.lsub, 1) := by decide +kernel
theorem dX11_crystallizeAll_54 : decode cX11_crystallizeAll 54 = .ok (.lreturn, 1) := by decide +kernel
theorem dX11_crystallize_0 : decode cX11_crystallize 0 = .ok (.aload_n 0, 1) := by decide +kernel
theorem dX11_crystallize_1 : decode cX11_crystallize 1 = .ok (.iconst 0, 1) := by decide +kernel
theorem dX11_crystallize_2 : decode cX11_crystallize 2 = .ok (.putfield 58, 3) := by decide +kernel
theorem dX11_crystallize_5 : decode cX11_crystallize 5 = .ok (.aload_n 0, 1) := by decide +kernel
theorem dX11_crystallize_6 : decode cX11_crystallize 6 = .ok (.invokevirtual 202, 3) := by decide +kernel
theorem dX11_crystallize_9 : decode cX11_crystallize 9 = .ok (.aload_n 0, 1) := by decide +kernel
theorem dX11_crystallize_10 : decode cX11_crystallize 10 = .ok (.invokevirtual 281, 3) := by decide +kernel
theorem dX11_crystallize_13 : decode cX11_crystallize 13 = .ok (.lreturn, 1) := by decide +kernel
theorem dX11_mergeOne_0 : decode cX11_mergeOne 0 = .ok (.iconst 0, 1) := by decide +kernel
theorem dX11_mergeOne_1 : decode cX11_mergeOne 1 = .ok (.istore 7, 2) := by decide +kernel
theorem dX11_mergeOne_3 : decode cX11_mergeOne 3 = .ok (.iload 7, 2) := by decide +kernel
theorem dX11_mergeOne_5 : decode cX11_mergeOne 5 = .ok (.i2l, 1) := by decide +kernel
theorem dX11_mergeOne_6 : decode cX11_mergeOne 6 = .ok (.aload_n 0, 1) := by decide +kernel
theorem dX11_mergeOne_7 : decode cX11_mergeOne 7 = .ok (.getfield 7, 3) := by decide +kernel
theorem dX11_mergeOne_10 : decode cX11_mergeOne 10 = .ok (.bipush 7, 2) := by decide +kernel
theorem dX11_mergeOne_12 : decode cX11_mergeOne 12 = .ok (.laload, 1) := by decide +kernel
theorem dX11_mergeOne_13 : decode cX11_mergeOne 13 = .ok (.lcmp, 1) := by decide +kernel
theorem dX11_mergeOne_14 : decode cX11_mergeOne 14 = .ok (.ifCond .ge 111, 3) := by decide +kernel
theorem dX11_mergeOne_17 : decode cX11_mergeOne 17 = .ok (.iload 7, 2) := by decide +kernel
theorem dX11_mergeOne_19 : decode cX11_mergeOne 19 = .ok (.invokestatic 115, 3) := by decide +kernel
theorem dX11_mergeOne_22 : decode cX11_mergeOne 22 = .ok (.istore 8, 2) := by decide +kernel
theorem dX11_mergeOne_24 : decode cX11_mergeOne 24 = .ok (.aload_n 0, 1) := by decide +kernel
theorem dX11_mergeOne_25 : decode cX11_mergeOne 25 = .ok (.getfield 7, 3) := by decide +kernel
theorem dX11_mergeOne_28 : decode cX11_mergeOne 28 = .ok (.iload 8, 2) := by decide +kernel
theorem dX11_mergeOne_30 : decode cX11_mergeOne 30 = .ok (.iconst 1, 1) := by decide +kernel
theorem dX11_mergeOne_31 : decode cX11_mergeOne 31 = .ok (.iadd, 1) := by decide +kernel
theorem dX11_mergeOne_32 : decode cX11_mergeOne 32 = .ok (.laload, 1) := by decide +kernel
theorem dX11_mergeOne_33 : decode cX11_mergeOne 33 = .ok (.aload_n 0, 1) := by decide +kernel
theorem dX11_mergeOne_34 : decode cX11_mergeOne 34 = .ok (.getfield 7, 3) := by decide +kernel
theorem dX11_mergeOne_37 : decode cX11_mergeOne 37 = .ok (.iload_n 1, 1) := by decide +kernel
theorem dX11_mergeOne_38 : decode cX11_mergeOne 38 = .ok (.iconst 0, 1) := by decide +kernel
theorem dX11_mergeOne_39 : decode cX11_mergeOne 39 = .ok (.iadd, 1) := by decide +kernel
theorem dX11_mergeOne_40 : decode cX11_mergeOne 40 = .ok (.laload, 1) := by decide +kernel
theorem dX11_mergeOne_41 : decode cX11_mergeOne 41 = .ok (.lcmp, 1) := by decide +kernel
theorem dX11_mergeOne_42 : decode cX11_mergeOne 42 = .ok (.ifCond .eq 6, 3) := by decide +kernel
theorem dX11_mergeOne_45 : decode cX11_mergeOne 45 = .ok (.goto 74, 3) := by decide +kernel
theorem dX11_mergeOne_48 : decode cX11_mergeOne 48 = .ok (.aload_n 0, 1) := by decide +kernel
theorem dX11_mergeOne_49 : decode cX11_mergeOne 49 = .ok (.getfield 7, 3) := by decide +kernel
theorem dX11_mergeOne_52 : decode cX11_mergeOne 52 = .ok (.iload 8, 2) := by decide +kernel
theorem dX11_mergeOne_54 : decode cX11_mergeOne 54 = .ok (.iconst 2, 1) := by decide +kernel
theorem dX11_mergeOne_55 : decode cX11_mergeOne 55 = .ok (.iadd, 1) := by decide +kernel
theorem dX11_mergeOne_56 : decode cX11_mergeOne 56 = .ok (.aload_n 0, 1) := by decide +kernel
theorem dX11_mergeOne_57 : decode cX11_mergeOne 57 = .ok (.getfield 7, 3) := by decide +kernel
theorem dX11_mergeOne_60 : decode cX11_mergeOne 60 = .ok (.iload 8, 2) := by decide +kernel
theorem dX11_mergeOne_62 : decode cX11_mergeOne 62 = .ok (.iconst 2, 1) := by decide +kernel
theorem dX11_mergeOne_63 : decode cX11_mergeOne 63 = .ok (.iadd, 1) := by decide +kernel
theorem dX11_mergeOne_64 : decode cX11_mergeOne 64 = .ok (.laload, 1) := by decide +kernel
theorem dX11_mergeOne_65 : decode cX11_mergeOne 65 = .ok (.lload_n 3, 1) := by decide +kernel
theorem dX11_mergeOne_66 : decode cX11_mergeOne 66 = .ok (.lmul, 1) := by decide +kernel
theorem dX11_mergeOne_67 : decode cX11_mergeOne 67 = .ok (.lload 5, 2) := by decide +kernel
theorem dX11_mergeOne_69 : decode cX11_mergeOne 69 = .ok (.ldiv, 1) := by decide +kernel
theorem dX11_mergeOne_70 : decode cX11_mergeOne 70 = .ok (.lastore, 1) := by decide +kernel
theorem dX11_mergeOne_71 : decode cX11_mergeOne 71 = .ok (.aload_n 0, 1) := by decide +kernel
theorem dX11_mergeOne_72 : decode cX11_mergeOne 72 = .ok (.getfield 7, 3) := by decide +kernel
theorem dX11_mergeOne_75 : decode cX11_mergeOne 75 = .ok (.iload 8, 2) := by decide +kernel
theorem dX11_mergeOne_77 : decode cX11_mergeOne 77 = .ok (.iconst 1, 1) := by decide +kernel
theorem dX11_mergeOne_78 : decode cX11_mergeOne 78 = .ok (.iadd, 1) := by decide +kernel
theorem dX11_mergeOne_79 : decode cX11_mergeOne 79 = .ok (.aload_n 0, 1) := by decide +kernel
theorem dX11_mergeOne_80 : decode cX11_mergeOne 80 = .ok (.getfield 7, 3) := by decide +kernel
theorem dX11_mergeOne_83 : decode cX11_mergeOne 83 = .ok (.iload_n 2, 1) := by decide +kernel
theorem dX11_mergeOne_84 : decode cX11_mergeOne 84 = .ok (.iconst 0, 1) := by decide +kernel
theorem dX11_mergeOne_85 : decode cX11_mergeOne 85 = .ok (.iadd, 1) := by decide +kernel
theorem dX11_mergeOne_86 : decode cX11_mergeOne 86 = .ok (.laload, 1) := by decide +kernel
theorem dX11_mergeOne_87 : decode cX11_mergeOne 87 = .ok (.lastore, 1) := by decide +kernel
theorem dX11_mergeOne_88 : decode cX11_mergeOne 88 = .ok (.aload_n 0, 1) := by decide +kernel
theorem dX11_mergeOne_89 : decode cX11_mergeOne 89 = .ok (.getfield 7, 3) := by decide +kernel
theorem dX11_mergeOne_92 : decode cX11_mergeOne 92 = .ok (.iload 8, 2) := by decide +kernel
theorem dX11_mergeOne_94 : decode cX11_mergeOne 94 = .ok (.iconst 3, 1) := by decide +kernel
theorem dX11_mergeOne_95 : decode cX11_mergeOne 95 = .ok (.iadd, 1) := by decide +kernel
theorem dX11_mergeOne_96 : decode cX11_mergeOne 96 = .ok (.lload 5, 2) := by decide +kernel
theorem dX11_mergeOne_98 : decode cX11_mergeOne 98 = .ok (.lastore, 1) := by decide +kernel
theorem dX11_mergeOne_99 : decode cX11_mergeOne 99 = .ok (.aload_n 0, 1) := by decide +kernel
theorem dX11_mergeOne_100 : decode cX11_mergeOne 100 = .ok (.getfield 7, 3) := by decide +kernel
theorem dX11_mergeOne_103 : decode cX11_mergeOne 103 = .ok (.iload_n 2, 1) := by decide +kernel
theorem dX11_mergeOne_104 : decode cX11_mergeOne 104 = .ok (.iconst 3, 1) := by decide +kernel
theorem dX11_mergeOne_105 : decode cX11_mergeOne 105 = .ok (.iadd, 1) := by decide +kernel
theorem dX11_mergeOne_106 : decode cX11_mergeOne 106 = .ok (.dup2, 1) := by decide +kernel
theorem dX11_mergeOne_107 : decode cX11_mergeOne 107 = .ok (.laload, 1) := by decide +kernel
theorem dX11_mergeOne_108 : decode cX11_mergeOne 108 = .ok (.aload_n 0, 1) := by decide +kernel
theorem dX11_mergeOne_109 : decode cX11_mergeOne 109 = .ok (.getfield 7, 3) := by decide +kernel
theorem dX11_mergeOne_112 : decode cX11_mergeOne 112 = .ok (.iload 8, 2) := by decide +kernel
theorem dX11_mergeOne_114 : decode cX11_mergeOne 114 = .ok (.iconst 2, 1) := by decide +kernel
theorem dX11_mergeOne_115 : decode cX11_mergeOne 115 = .ok (.iadd, 1) := by decide +kernel
theorem dX11_mergeOne_116 : decode cX11_mergeOne 116 = .ok (.laload, 1) := by decide +kernel
theorem dX11_mergeOne_117 : decode cX11_mergeOne 117 = .ok (.ladd, 1) := by decide +kernel
theorem dX11_mergeOne_118 : decode cX11_mergeOne 118 = .ok (.lastore, 1) := by decide +kernel
theorem dX11_mergeOne_119 : decode cX11_mergeOne 119 = .ok (.iinc 7 1, 3) := by decide +kernel
theorem dX11_mergeOne_122 : decode cX11_mergeOne 122 = .ok (.goto (-119), 3) := by decide +kernel
theorem dX11_mergeOne_125 : decode cX11_mergeOne 125 = .ok (.aload_n 0, 1) := by decide +kernel
theorem dX11_mergeOne_126 : decode cX11_mergeOne 126 = .ok (.getfield 7, 3) := by decide +kernel
theorem dX11_mergeOne_129 : decode cX11_mergeOne 129 = .ok (.iload_n 2, 1) := by decide +kernel
theorem dX11_mergeOne_130 : decode cX11_mergeOne 130 = .ok (.iconst 2, 1) := by decide +kernel
theorem dX11_mergeOne_131 : decode cX11_mergeOne 131 = .ok (.iadd, 1) := by decide +kernel
theorem dX11_mergeOne_132 : decode cX11_mergeOne 132 = .ok (.dup2, 1) := by decide +kernel
theorem dX11_mergeOne_133 : decode cX11_mergeOne 133 = .ok (.laload, 1) := by decide +kernel
theorem dX11_mergeOne_134 : decode cX11_mergeOne 134 = .ok (.aload_n 0, 1) := by decide +kernel
theorem dX11_mergeOne_135 : decode cX11_mergeOne 135 = .ok (.getfield 7, 3) := by decide +kernel
theorem dX11_mergeOne_138 : decode cX11_mergeOne 138 = .ok (.iload_n 1, 1) := by decide +kernel
theorem dX11_mergeOne_139 : decode cX11_mergeOne 139 = .ok (.iconst 2, 1) := by decide +kernel
theorem dX11_mergeOne_140 : decode cX11_mergeOne 140 = .ok (.iadd, 1) := by decide +kernel
theorem dX11_mergeOne_141 : decode cX11_mergeOne 141 = .ok (.laload, 1) := by decide +kernel
theorem dX11_mergeOne_142 : decode cX11_mergeOne 142 = .ok (.ladd, 1) := by decide +kernel
theorem dX11_mergeOne_143 : decode cX11_mergeOne 143 = .ok (.lastore, 1) := by decide +kernel
theorem dX11_mergeOne_144 : decode cX11_mergeOne 144 = .ok (.return_, 1) := by decide +kernel
theorem dX11_mergeAll_0 : decode cX11_mergeAll 0 = .ok (.aload_n 0, 1) := by decide +kernel
theorem dX11_mergeAll_1 : decode cX11_mergeAll 1 = .ok (.getfield 7, 3) := by decide +kernel
theorem dX11_mergeAll_4 : decode cX11_mergeAll 4 = .ok (.iconst 1, 1) := by decide +kernel
theorem dX11_mergeAll_5 : decode cX11_mergeAll 5 = .ok (.laload, 1) := by decide +kernel
theorem dX11_mergeAll_6 : decode cX11_mergeAll 6 = .ok (.lconst 1, 1) := by decide +kernel
theorem dX11_mergeAll_7 : decode cX11_mergeAll 7 = .ok (.lcmp, 1) := by decide +kernel
theorem dX11_mergeAll_8 : decode cX11_mergeAll 8 = .ok (.ifCond .eq 15, 3) := by decide +kernel
theorem dX11_mergeAll_11 : decode cX11_mergeAll 11 = .ok (.aload_n 0, 1) := by decide +kernel
theorem dX11_mergeAll_12 : decode cX11_mergeAll 12 = .ok (.getfield 7, 3) := by decide +kernel
theorem dX11_mergeAll_15 : decode cX11_mergeAll 15 = .ok (.bipush 6, 2) := by decide +kernel
theorem dX11_mergeAll_17 : decode cX11_mergeAll 17 = .ok (.laload, 1) := by decide +kernel
theorem dX11_mergeAll_18 : decode cX11_mergeAll 18 = .ok (.lconst 0, 1) := by decide +kernel
theorem dX11_mergeAll_19 : decode cX11_mergeAll 19 = .ok (.lcmp, 1) := by decide +kernel
theorem dX11_mergeAll_20 : decode cX11_mergeAll 20 = .ok (.ifCond .ne 5, 3) := by decide +kernel
theorem dX11_mergeAll_23 : decode cX11_mergeAll 23 = .ok (.iconst 0, 1) := by decide +kernel
theorem dX11_mergeAll_24 : decode cX11_mergeAll 24 = .ok (.ireturn, 1) := by decide +kernel
theorem dX11_mergeAll_25 : decode cX11_mergeAll 25 = .ok (.iconst 0, 1) := by decide +kernel
theorem dX11_mergeAll_26 : decode cX11_mergeAll 26 = .ok (.invokestatic 87, 3) := by decide +kernel
theorem dX11_mergeAll_29 : decode cX11_mergeAll 29 = .ok (.istore_n 1, 1) := by decide +kernel
theorem dX11_mergeAll_30 : decode cX11_mergeAll 30 = .ok (.aload_n 0, 1) := by decide +kernel
theorem dX11_mergeAll_31 : decode cX11_mergeAll 31 = .ok (.iload_n 1, 1) := by decide +kernel
theorem dX11_mergeAll_32 : decode cX11_mergeAll 32 = .ok (.invokevirtual 121, 3) := by decide +kernel
theorem dX11_mergeAll_35 : decode cX11_mergeAll 35 = .ok (.lstore_n 2, 1) := by decide +kernel
theorem dX11_mergeAll_36 : decode cX11_mergeAll 36 = .ok (.lload_n 2, 1) := by decide +kernel
theorem dX11_mergeAll_37 : decode cX11_mergeAll 37 = .ok (.aload_n 0, 1) := by decide +kernel
theorem dX11_mergeAll_38 : decode cX11_mergeAll 38 = .ok (.getfield 7, 3) := by decide +kernel
theorem dX11_mergeAll_41 : decode cX11_mergeAll 41 = .ok (.iload_n 1, 1) := by decide +kernel
theorem dX11_mergeAll_42 : decode cX11_mergeAll 42 = .ok (.iconst 4, 1) := by decide +kernel
theorem dX11_mergeAll_43 : decode cX11_mergeAll 43 = .ok (.iadd, 1) := by decide +kernel
theorem dX11_mergeAll_44 : decode cX11_mergeAll 44 = .ok (.laload, 1) := by decide +kernel
theorem dX11_mergeAll_45 : decode cX11_mergeAll 45 = .ok (.lcmp, 1) := by decide +kernel
theorem dX11_mergeAll_46 : decode cX11_mergeAll 46 = .ok (.ifCond .eq 5, 3) := by decide +kernel
theorem dX11_mergeAll_49 : decode cX11_mergeAll 49 = .ok (.iconst 0, 1) := by decide +kernel
theorem dX11_mergeAll_50 : decode cX11_mergeAll 50 = .ok (.ireturn, 1) := by decide +kernel
theorem dX11_mergeAll_51 : decode cX11_mergeAll 51 = .ok (.iconst 0, 1) := by decide +kernel
theorem dX11_mergeAll_52 : decode cX11_mergeAll 52 = .ok (.istore 4, 2) := by decide +kernel
theorem dX11_mergeAll_54 : decode cX11_mergeAll 54 = .ok (.iconst 1, 1) := by decide +kernel
theorem dX11_mergeAll_55 : decode cX11_mergeAll 55 = .ok (.istore 5, 2) := by decide +kernel
theorem dX11_mergeAll_57 : decode cX11_mergeAll 57 = .ok (.iload 5, 2) := by decide +kernel
theorem dX11_mergeAll_59 : decode cX11_mergeAll 59 = .ok (.i2l, 1) := by decide +kernel
theorem dX11_mergeAll_60 : decode cX11_mergeAll 60 = .ok (.aload_n 0, 1) := by decide +kernel
theorem dX11_mergeAll_61 : decode cX11_mergeAll 61 = .ok (.getfield 7, 3) := by decide +kernel
theorem dX11_mergeAll_64 : decode cX11_mergeAll 64 = .ok (.bipush 6, 2) := by decide +kernel
theorem dX11_mergeAll_66 : decode cX11_mergeAll 66 = .ok (.laload, 1) := by decide +kernel
theorem dX11_mergeAll_67 : decode cX11_mergeAll 67 = .ok (.lcmp, 1) := by decide +kernel
theorem dX11_mergeAll_68 : decode cX11_mergeAll 68 = .ok (.ifCond .ge 61, 3) := by decide +kernel
theorem dX11_mergeAll_71 : decode cX11_mergeAll 71 = .ok (.iload 5, 2) := by decide +kernel
theorem dX11_mergeAll_73 : decode cX11_mergeAll 73 = .ok (.invokestatic 87, 3) := by decide +kernel
theorem dX11_mergeAll_76 : decode cX11_mergeAll 76 = .ok (.istore 6, 2) := by decide +kernel
theorem dX11_mergeAll_78 : decode cX11_mergeAll 78 = .ok (.aload_n 0, 1) := by decide +kernel
theorem dX11_mergeAll_79 : decode cX11_mergeAll 79 = .ok (.iload 6, 2) := by decide +kernel
theorem dX11_mergeAll_81 : decode cX11_mergeAll 81 = .ok (.invokevirtual 121, 3) := by decide +kernel
theorem dX11_mergeAll_84 : decode cX11_mergeAll 84 = .ok (.aload_n 0, 1) := by decide +kernel
theorem dX11_mergeAll_85 : decode cX11_mergeAll 85 = .ok (.getfield 7, 3) := by decide +kernel
theorem dX11_mergeAll_88 : decode cX11_mergeAll 88 = .ok (.iload 6, 2) := by decide +kernel
theorem dX11_mergeAll_90 : decode cX11_mergeAll 90 = .ok (.iconst 4, 1) := by decide +kernel
theorem dX11_mergeAll_91 : decode cX11_mergeAll 91 = .ok (.iadd, 1) := by decide +kernel
theorem dX11_mergeAll_92 : decode cX11_mergeAll 92 = .ok (.laload, 1) := by decide +kernel
theorem dX11_mergeAll_93 : decode cX11_mergeAll 93 = .ok (.lcmp, 1) := by decide +kernel
theorem dX11_mergeAll_94 : decode cX11_mergeAll 94 = .ok (.ifCond .ne 29, 3) := by decide +kernel
theorem dX11_mergeAll_97 : decode cX11_mergeAll 97 = .ok (.aload_n 0, 1) := by decide +kernel
theorem dX11_mergeAll_98 : decode cX11_mergeAll 98 = .ok (.iload 6, 2) := by decide +kernel
theorem dX11_mergeAll_100 : decode cX11_mergeAll 100 = .ok (.iload_n 1, 1) := by decide +kernel
theorem dX11_mergeAll_101 : decode cX11_mergeAll 101 = .ok (.aload_n 0, 1) := by decide +kernel
theorem dX11_mergeAll_102 : decode cX11_mergeAll 102 = .ok (.iload 6, 2) := by decide +kernel
theorem dX11_mergeAll_104 : decode cX11_mergeAll 104 = .ok (.invokevirtual 121, 3) := by decide +kernel
theorem dX11_mergeAll_107 : decode cX11_mergeAll 107 = .ok (.lload_n 2, 1) := by decide +kernel
theorem dX11_mergeAll_108 : decode cX11_mergeAll 108 = .ok (.invokevirtual 284, 3) := by decide +kernel
theorem dX11_mergeAll_111 : decode cX11_mergeAll 111 = .ok (.aload_n 0, 1) := by decide +kernel
theorem dX11_mergeAll_112 : decode cX11_mergeAll 112 = .ok (.iload 6, 2) := by decide +kernel
theorem dX11_mergeAll_114 : decode cX11_mergeAll 114 = .ok (.invokevirtual 111, 3) := by decide +kernel
theorem dX11_mergeAll_117 : decode cX11_mergeAll 117 = .ok (.iinc 4 1, 3) := by decide +kernel
theorem dX11_mergeAll_120 : decode cX11_mergeAll 120 = .ok (.goto 6, 3) := by decide +kernel
theorem dX11_mergeAll_123 : decode cX11_mergeAll 123 = .ok (.iinc 5 1, 3) := by decide +kernel
theorem dX11_mergeAll_126 : decode cX11_mergeAll 126 = .ok (.goto (-69), 3) := by decide +kernel
theorem dX11_mergeAll_129 : decode cX11_mergeAll 129 = .ok (.aload_n 0, 1) := by decide +kernel
theorem dX11_mergeAll_130 : decode cX11_mergeAll 130 = .ok (.invokevirtual 147, 3) := by decide +kernel
theorem dX11_mergeAll_133 : decode cX11_mergeAll 133 = .ok (.iload 4, 2) := by decide +kernel
theorem dX11_mergeAll_135 : decode cX11_mergeAll 135 = .ok (.ireturn, 1) := by decide +kernel
theorem dX11_merge_0 : decode cX11_merge 0 = .ok (.aload_n 0, 1) := by decide +kernel
theorem dX11_merge_1 : decode cX11_merge 1 = .ok (.iconst 0, 1) := by decide +kernel
theorem dX11_merge_2 : decode cX11_merge 2 = .ok (.putfield 58, 3) := by decide +kernel
theorem dX11_merge_5 : decode cX11_merge 5 = .ok (.aload_n 0, 1) := by decide +kernel
theorem dX11_merge_6 : decode cX11_merge 6 = .ok (.invokevirtual 202, 3) := by decide +kernel
theorem dX11_merge_9 : decode cX11_merge 9 = .ok (.aload_n 0, 1) := by decide +kernel
theorem dX11_merge_10 : decode cX11_merge 10 = .ok (.invokevirtual 287, 3) := by decide +kernel
theorem dX11_merge_13 : decode cX11_merge 13 = .ok (.ireturn, 1) := by decide +kernel
theorem dX11_splits_0 : decode cX11_splits 0 = .ok (.lload_n 2, 1) := by decide +kernel
theorem dX11_splits_1 : decode cX11_splits 1 = .ok (.lstore 4, 2) := by decide +kernel
theorem dX11_splits_3 : decode cX11_splits 3 = .ok (.iconst 0, 1) := by decide +kernel
theorem dX11_splits_4 : decode cX11_splits 4 = .ok (.istore 6, 2) := by decide +kernel
theorem dX11_splits_6 : decode cX11_splits 6 = .ok (.iload 6, 2) := by decide +kernel
theorem dX11_splits_8 : decode cX11_splits 8 = .ok (.i2l, 1) := by decide +kernel
theorem dX11_splits_9 : decode cX11_splits 9 = .ok (.aload_n 0, 1) := by decide +kernel
theorem dX11_splits_10 : decode cX11_splits 10 = .ok (.getfield 7, 3) := by decide +kernel
theorem dX11_splits_13 : decode cX11_splits 13 = .ok (.bipush 7, 2) := by decide +kernel
theorem dX11_splits_15 : decode cX11_splits 15 = .ok (.laload, 1) := by decide +kernel
theorem dX11_splits_16 : decode cX11_splits 16 = .ok (.lcmp, 1) := by decide +kernel
theorem dX11_splits_17 : decode cX11_splits 17 = .ok (.ifCond .ge 74, 3) := by decide +kernel
theorem dX11_splits_20 : decode cX11_splits 20 = .ok (.lload 4, 2) := by decide +kernel
theorem dX11_splits_22 : decode cX11_splits 22 = .ok (.lconst 0, 1) := by decide +kernel
theorem dX11_splits_23 : decode cX11_splits 23 = .ok (.lcmp, 1) := by decide +kernel
theorem dX11_splits_24 : decode cX11_splits 24 = .ok (.ifCond .le 67, 3) := by decide +kernel
theorem dX11_splits_27 : decode cX11_splits 27 = .ok (.aload_n 0, 1) := by decide +kernel
theorem dX11_splits_28 : decode cX11_splits 28 = .ok (.getfield 7, 3) := by decide +kernel
theorem dX11_splits_31 : decode cX11_splits 31 = .ok (.iload 6, 2) := by decide +kernel
theorem dX11_splits_33 : decode cX11_splits 33 = .ok (.invokestatic 115, 3) := by decide +kernel
theorem dX11_splits_36 : decode cX11_splits 36 = .ok (.iconst 0, 1) := by decide +kernel
theorem dX11_splits_37 : decode cX11_splits 37 = .ok (.iadd, 1) := by decide +kernel
theorem dX11_splits_38 : decode cX11_splits 38 = .ok (.laload, 1) := by decide +kernel
theorem dX11_splits_39 : decode cX11_splits 39 = .ok (.iload_n 1, 1) := by decide +kernel
theorem dX11_splits_40 : decode cX11_splits 40 = .ok (.i2l, 1) := by decide +kernel
theorem dX11_splits_41 : decode cX11_splits 41 = .ok (.lcmp, 1) := by decide +kernel
theorem dX11_splits_42 : decode cX11_splits 42 = .ok (.ifCond .eq 6, 3) := by decide +kernel
theorem dX11_splits_45 : decode cX11_splits 45 = .ok (.goto 40, 3) := by decide +kernel
theorem dX11_splits_48 : decode cX11_splits 48 = .ok (.lload 4, 2) := by decide +kernel
theorem dX11_splits_50 : decode cX11_splits 50 = .ok (.aload_n 0, 1) := by decide +kernel
theorem dX11_splits_51 : decode cX11_splits 51 = .ok (.getfield 7, 3) := by decide +kernel
theorem dX11_splits_54 : decode cX11_splits 54 = .ok (.iload 6, 2) := by decide +kernel
theorem dX11_splits_56 : decode cX11_splits 56 = .ok (.invokestatic 115, 3) := by decide +kernel
theorem dX11_splits_59 : decode cX11_splits 59 = .ok (.iconst 2, 1) := by decide +kernel
theorem dX11_splits_60 : decode cX11_splits 60 = .ok (.iadd, 1) := by decide +kernel
theorem dX11_splits_61 : decode cX11_splits 61 = .ok (.laload, 1) := by decide +kernel
theorem dX11_splits_62 : decode cX11_splits 62 = .ok (.lcmp, 1) := by decide +kernel
theorem dX11_splits_63 : decode cX11_splits 63 = .ok (.ifCond .ge 5, 3) := by decide +kernel
theorem dX11_splits_66 : decode cX11_splits 66 = .ok (.iconst 1, 1) := by decide +kernel
theorem dX11_splits_67 : decode cX11_splits 67 = .ok (.ireturn, 1) := by decide +kernel
theorem dX11_splits_68 : decode cX11_splits 68 = .ok (.lload 4, 2) := by decide +kernel
theorem dX11_splits_70 : decode cX11_splits 70 = .ok (.aload_n 0, 1) := by decide +kernel
theorem dX11_splits_71 : decode cX11_splits 71 = .ok (.getfield 7, 3) := by decide +kernel
theorem dX11_splits_74 : decode cX11_splits 74 = .ok (.iload 6, 2) := by decide +kernel
theorem dX11_splits_76 : decode cX11_splits 76 = .ok (.invokestatic 115, 3) := by decide +kernel
theorem dX11_splits_79 : decode cX11_splits 79 = .ok (.iconst 2, 1) := by decide +kernel
theorem dX11_splits_80 : decode cX11_splits 80 = .ok (.iadd, 1) := by decide +kernel
theorem dX11_splits_81 : decode cX11_splits 81 = .ok (.laload, 1) := by decide +kernel
theorem dX11_splits_82 : decode cX11_splits 82 = .ok (.lsub, 1) := by decide +kernel
theorem dX11_splits_83 : decode cX11_splits 83 = .ok (.lstore 4, 2) := by decide +kernel
theorem dX11_splits_85 : decode cX11_splits 85 = .ok (.iinc 6 1, 3) := by decide +kernel
theorem dX11_splits_88 : decode cX11_splits 88 = .ok (.goto (-82), 3) := by decide +kernel
theorem dX11_splits_91 : decode cX11_splits 91 = .ok (.iconst 0, 1) := by decide +kernel
theorem dX11_splits_92 : decode cX11_splits 92 = .ok (.ireturn, 1) := by decide +kernel
theorem dX11_cannotMove_0 : decode cX11_cannotMove 0 = .ok (.aload_n 0, 1) := by decide +kernel
theorem dX11_cannotMove_1 : decode cX11_cannotMove 1 = .ok (.iload_n 1, 1) := by decide +kernel
theorem dX11_cannotMove_2 : decode cX11_cannotMove 2 = .ok (.invokevirtual 153, 3) := by decide +kernel
theorem dX11_cannotMove_5 : decode cX11_cannotMove 5 = .ok (.iload_n 2, 1) := by decide +kernel
theorem dX11_cannotMove_6 : decode cX11_cannotMove 6 = .ok (.i2l, 1) := by decide +kernel
theorem dX11_cannotMove_7 : decode cX11_cannotMove 7 = .ok (.aload_n 0, 1) := by decide +kernel
theorem dX11_cannotMove_8 : decode cX11_cannotMove 8 = .ok (.iload_n 1, 1) := by decide +kernel
theorem dX11_cannotMove_9 : decode cX11_cannotMove 9 = .ok (.invokevirtual 228, 3) := by decide +kernel
theorem dX11_cannotMove_12 : decode cX11_cannotMove 12 = .ok (.ladd, 1) := by decide +kernel
theorem dX11_cannotMove_13 : decode cX11_cannotMove 13 = .ok (.lcmp, 1) := by decide +kernel
theorem dX11_cannotMove_14 : decode cX11_cannotMove 14 = .ok (.ifCond .lt 27, 3) := by decide +kernel
theorem dX11_cannotMove_17 : decode cX11_cannotMove 17 = .ok (.aload_n 0, 1) := by decide +kernel
theorem dX11_cannotMove_18 : decode cX11_cannotMove 18 = .ok (.getfield 7, 3) := by decide +kernel
theorem dX11_cannotMove_21 : decode cX11_cannotMove 21 = .ok (.bipush 7, 2) := by decide +kernel
theorem dX11_cannotMove_23 : decode cX11_cannotMove 23 = .ok (.laload, 1) := by decide +kernel
theorem dX11_cannotMove_24 : decode cX11_cannotMove 24 = .ok (.ldc2_w 181, 3) := by decide +kernel
theorem dX11_cannotMove_27 : decode cX11_cannotMove 27 = .ok (.lcmp, 1) := by decide +kernel
theorem dX11_cannotMove_28 : decode cX11_cannotMove 28 = .ok (.ifCond .ne 17, 3) := by decide +kernel
theorem dX11_cannotMove_31 : decode cX11_cannotMove 31 = .ok (.aload_n 0, 1) := by decide +kernel
theorem dX11_cannotMove_32 : decode cX11_cannotMove 32 = .ok (.iload_n 1, 1) := by decide +kernel
theorem dX11_cannotMove_33 : decode cX11_cannotMove 33 = .ok (.iload_n 2, 1) := by decide +kernel
theorem dX11_cannotMove_34 : decode cX11_cannotMove 34 = .ok (.i2l, 1) := by decide +kernel
theorem dX11_cannotMove_35 : decode cX11_cannotMove 35 = .ok (.invokevirtual 290, 3) := by decide +kernel
theorem dX11_cannotMove_38 : decode cX11_cannotMove 38 = .ok (.ifCond .eq 7, 3) := by decide +kernel
theorem dX11_cannotMove_41 : decode cX11_cannotMove 41 = .ok (.iconst 1, 1) := by decide +kernel
theorem dX11_cannotMove_42 : decode cX11_cannotMove 42 = .ok (.goto 4, 3) := by decide +kernel
theorem dX11_cannotMove_45 : decode cX11_cannotMove 45 = .ok (.iconst 0, 1) := by decide +kernel
theorem dX11_cannotMove_46 : decode cX11_cannotMove 46 = .ok (.ireturn, 1) := by decide +kernel
theorem dX11_split_0 : decode cX11_split 0 = .ok (.aload_n 0, 1) := by decide +kernel
theorem dX11_split_1 : decode cX11_split 1 = .ok (.getfield 7, 3) := by decide +kernel
theorem dX11_split_4 : decode cX11_split 4 = .ok (.bipush 7, 2) := by decide +kernel
theorem dX11_split_6 : decode cX11_split 6 = .ok (.laload, 1) := by decide +kernel
theorem dX11_split_7 : decode cX11_split 7 = .ok (.l2i, 1) := by decide +kernel
theorem dX11_split_8 : decode cX11_split 8 = .ok (.invokestatic 115, 3) := by decide +kernel
theorem dX11_split_11 : decode cX11_split 11 = .ok (.istore 5, 2) := by decide +kernel
theorem dX11_split_13 : decode cX11_split 13 = .ok (.iconst 0, 1) := by decide +kernel
theorem dX11_split_14 : decode cX11_split 14 = .ok (.istore 6, 2) := by decide +kernel
theorem dX11_split_16 : decode cX11_split 16 = .ok (.iload 6, 2) := by decide +kernel
theorem dX11_split_18 : decode cX11_split 18 = .ok (.bipush 6, 2) := by decide +kernel
theorem dX11_split_20 : decode cX11_split 20 = .ok (.if_icmp .ge 28, 3) := by decide +kernel
theorem dX11_split_23 : decode cX11_split 23 = .ok (.aload_n 0, 1) := by decide +kernel
theorem dX11_split_24 : decode cX11_split 24 = .ok (.getfield 7, 3) := by decide +kernel
theorem dX11_split_27 : decode cX11_split 27 = .ok (.iload 5, 2) := by decide +kernel
theorem dX11_split_29 : decode cX11_split 29 = .ok (.iload 6, 2) := by decide +kernel
theorem dX11_split_31 : decode cX11_split 31 = .ok (.iadd, 1) := by decide +kernel
theorem dX11_split_32 : decode cX11_split 32 = .ok (.aload_n 0, 1) := by decide +kernel
theorem dX11_split_33 : decode cX11_split 33 = .ok (.getfield 7, 3) := by decide +kernel
theorem dX11_split_36 : decode cX11_split 36 = .ok (.iload_n 1, 1) := by decide +kernel
theorem dX11_split_37 : decode cX11_split 37 = .ok (.iload 6, 2) := by decide +kernel
theorem dX11_split_39 : decode cX11_split 39 = .ok (.iadd, 1) := by decide +kernel
theorem dX11_split_40 : decode cX11_split 40 = .ok (.laload, 1) := by decide +kernel
theorem dX11_split_41 : decode cX11_split 41 = .ok (.lastore, 1) := by decide +kernel
theorem dX11_split_42 : decode cX11_split 42 = .ok (.iinc 6 1, 3) := by decide +kernel
theorem dX11_split_45 : decode cX11_split 45 = .ok (.goto (-29), 3) := by decide +kernel
theorem dX11_split_48 : decode cX11_split 48 = .ok (.aload_n 0, 1) := by decide +kernel
theorem dX11_split_49 : decode cX11_split 49 = .ok (.getfield 7, 3) := by decide +kernel
theorem dX11_split_52 : decode cX11_split 52 = .ok (.iload_n 1, 1) := by decide +kernel
theorem dX11_split_53 : decode cX11_split 53 = .ok (.iconst 4, 1) := by decide +kernel
theorem dX11_split_54 : decode cX11_split 54 = .ok (.iadd, 1) := by decide +kernel
theorem dX11_split_55 : decode cX11_split 55 = .ok (.laload, 1) := by decide +kernel
theorem dX11_split_56 : decode cX11_split 56 = .ok (.lload_n 3, 1) := by decide +kernel
theorem dX11_split_57 : decode cX11_split 57 = .ok (.lmul, 1) := by decide +kernel
theorem dX11_split_58 : decode cX11_split 58 = .ok (.aload_n 0, 1) := by decide +kernel
theorem dX11_split_59 : decode cX11_split 59 = .ok (.getfield 7, 3) := by decide +kernel
theorem dX11_split_62 : decode cX11_split 62 = .ok (.iload_n 1, 1) := by decide +kernel
theorem dX11_split_63 : decode cX11_split 63 = .ok (.iconst 2, 1) := by decide +kernel
theorem dX11_split_64 : decode cX11_split 64 = .ok (.iadd, 1) := by decide +kernel
theorem dX11_split_65 : decode cX11_split 65 = .ok (.laload, 1) := by decide +kernel
theorem dX11_split_66 : decode cX11_split 66 = .ok (.ldiv, 1) := by decide +kernel
theorem dX11_split_67 : decode cX11_split 67 = .ok (.lstore 6, 2) := by decide +kernel
theorem dX11_split_69 : decode cX11_split 69 = .ok (.aload_n 0, 1) := by decide +kernel
theorem dX11_split_70 : decode cX11_split 70 = .ok (.getfield 7, 3) := by decide +kernel
theorem dX11_split_73 : decode cX11_split 73 = .ok (.iload 5, 2) := by decide +kernel
theorem dX11_split_75 : decode cX11_split 75 = .ok (.iconst 0, 1) := by decide +kernel
theorem dX11_split_76 : decode cX11_split 76 = .ok (.iadd, 1) := by decide +kernel
theorem dX11_split_77 : decode cX11_split 77 = .ok (.iload_n 2, 1) := by decide +kernel
theorem dX11_split_78 : decode cX11_split 78 = .ok (.i2l, 1) := by decide +kernel
theorem dX11_split_79 : decode cX11_split 79 = .ok (.lastore, 1) := by decide +kernel
theorem dX11_split_80 : decode cX11_split 80 = .ok (.aload_n 0, 1) := by decide +kernel
theorem dX11_split_81 : decode cX11_split 81 = .ok (.getfield 7, 3) := by decide +kernel
theorem dX11_split_84 : decode cX11_split 84 = .ok (.iload 5, 2) := by decide +kernel
theorem dX11_split_86 : decode cX11_split 86 = .ok (.iconst 2, 1) := by decide +kernel
theorem dX11_split_87 : decode cX11_split 87 = .ok (.iadd, 1) := by decide +kernel
theorem dX11_split_88 : decode cX11_split 88 = .ok (.lload_n 3, 1) := by decide +kernel
theorem dX11_split_89 : decode cX11_split 89 = .ok (.lastore, 1) := by decide +kernel
theorem dX11_split_90 : decode cX11_split 90 = .ok (.aload_n 0, 1) := by decide +kernel
theorem dX11_split_91 : decode cX11_split 91 = .ok (.getfield 7, 3) := by decide +kernel
theorem dX11_split_94 : decode cX11_split 94 = .ok (.iload 5, 2) := by decide +kernel
theorem dX11_split_96 : decode cX11_split 96 = .ok (.iconst 4, 1) := by decide +kernel
theorem dX11_split_97 : decode cX11_split 97 = .ok (.iadd, 1) := by decide +kernel
theorem dX11_split_98 : decode cX11_split 98 = .ok (.lload 6, 2) := by decide +kernel
theorem dX11_split_100 : decode cX11_split 100 = .ok (.lastore, 1) := by decide +kernel
theorem dX11_split_101 : decode cX11_split 101 = .ok (.aload_n 0, 1) := by decide +kernel
theorem dX11_split_102 : decode cX11_split 102 = .ok (.getfield 7, 3) := by decide +kernel
theorem dX11_split_105 : decode cX11_split 105 = .ok (.iload_n 1, 1) := by decide +kernel
theorem dX11_split_106 : decode cX11_split 106 = .ok (.iconst 2, 1) := by decide +kernel
theorem dX11_split_107 : decode cX11_split 107 = .ok (.iadd, 1) := by decide +kernel
theorem dX11_split_108 : decode cX11_split 108 = .ok (.dup2, 1) := by decide +kernel
theorem dX11_split_109 : decode cX11_split 109 = .ok (.laload, 1) := by decide +kernel
theorem dX11_split_110 : decode cX11_split 110 = .ok (.lload_n 3, 1) := by decide +kernel
theorem dX11_split_111 : decode cX11_split 111 = .ok (.lsub, 1) := by decide +kernel
theorem dX11_split_112 : decode cX11_split 112 = .ok (.lastore, 1) := by decide +kernel
theorem dX11_split_113 : decode cX11_split 113 = .ok (.aload_n 0, 1) := by decide +kernel
theorem dX11_split_114 : decode cX11_split 114 = .ok (.getfield 7, 3) := by decide +kernel
theorem dX11_split_117 : decode cX11_split 117 = .ok (.iload_n 1, 1) := by decide +kernel
theorem dX11_split_118 : decode cX11_split 118 = .ok (.iconst 4, 1) := by decide +kernel
theorem dX11_split_119 : decode cX11_split 119 = .ok (.iadd, 1) := by decide +kernel
theorem dX11_split_120 : decode cX11_split 120 = .ok (.dup2, 1) := by decide +kernel
theorem dX11_split_121 : decode cX11_split 121 = .ok (.laload, 1) := by decide +kernel
theorem dX11_split_122 : decode cX11_split 122 = .ok (.lload 6, 2) := by decide +kernel
theorem dX11_split_124 : decode cX11_split 124 = .ok (.lsub, 1) := by decide +kernel
theorem dX11_split_125 : decode cX11_split 125 = .ok (.lastore, 1) := by decide +kernel
theorem dX11_split_126 : decode cX11_split 126 = .ok (.aload_n 0, 1) := by decide +kernel
theorem dX11_split_127 : decode cX11_split 127 = .ok (.getfield 7, 3) := by decide +kernel
theorem dX11_split_130 : decode cX11_split 130 = .ok (.bipush 7, 2) := by decide +kernel
theorem dX11_split_132 : decode cX11_split 132 = .ok (.dup2, 1) := by decide +kernel
theorem dX11_split_133 : decode cX11_split 133 = .ok (.laload, 1) := by decide +kernel
theorem dX11_split_134 : decode cX11_split 134 = .ok (.lconst 1, 1) := by decide +kernel
theorem dX11_split_135 : decode cX11_split 135 = .ok (.ladd, 1) := by decide +kernel
theorem dX11_split_136 : decode cX11_split 136 = .ok (.lastore, 1) := by decide +kernel
theorem dX11_split_137 : decode cX11_split 137 = .ok (.return_, 1) := by decide +kernel
theorem dX11_transfer_0 : decode cX11_transfer 0 = .ok (.aload_n 0, 1) := by decide +kernel
theorem dX11_transfer_1 : decode cX11_transfer 1 = .ok (.aload_n 0, 1) := by decide +kernel
theorem dX11_transfer_2 : decode cX11_transfer 2 = .ok (.iload_n 1, 1) := by decide +kernel
theorem dX11_transfer_3 : decode cX11_transfer 3 = .ok (.invokevirtual 65, 3) := by decide +kernel
theorem dX11_transfer_6 : decode cX11_transfer 6 = .ok (.ifCond .eq 11, 3) := by decide +kernel
theorem dX11_transfer_9 : decode cX11_transfer 9 = .ok (.aload_n 0, 1) := by decide +kernel
theorem dX11_transfer_10 : decode cX11_transfer 10 = .ok (.iload_n 2, 1) := by decide +kernel
theorem dX11_transfer_11 : decode cX11_transfer 11 = .ok (.invokevirtual 65, 3) := by decide +kernel
theorem dX11_transfer_14 : decode cX11_transfer 14 = .ok (.ifCond .ne 7, 3) := by decide +kernel
theorem dX11_transfer_17 : decode cX11_transfer 17 = .ok (.iconst 1, 1) := by decide +kernel
theorem dX11_transfer_18 : decode cX11_transfer 18 = .ok (.goto 4, 3) := by decide +kernel
theorem dX11_transfer_21 : decode cX11_transfer 21 = .ok (.iconst 0, 1) := by decide +kernel
theorem dX11_transfer_22 : decode cX11_transfer 22 = .ok (.iconst 1, 1) := by decide +kernel
theorem dX11_transfer_23 : decode cX11_transfer 23 = .ok (.invokevirtual 69, 3) := by decide +kernel
theorem dX11_transfer_26 : decode cX11_transfer 26 = .ok (.ifCond .ne 42, 3) := by decide +kernel
theorem dX11_transfer_29 : decode cX11_transfer 29 = .ok (.aload_n 0, 1) := by decide +kernel
theorem dX11_transfer_30 : decode cX11_transfer 30 = .ok (.iload_n 1, 1) := by decide +kernel
theorem dX11_transfer_31 : decode cX11_transfer 31 = .ok (.iload_n 2, 1) := by decide +kernel
theorem dX11_transfer_32 : decode cX11_transfer 32 = .ok (.if_icmp .eq 10, 3) := by decide +kernel
theorem dX11_transfer_35 : decode cX11_transfer 35 = .ok (.iload_n 3, 1) := by decide +kernel
theorem dX11_transfer_36 : decode cX11_transfer 36 = .ok (.invokestatic 231, 3) := by decide +kernel
theorem dX11_transfer_39 : decode cX11_transfer 39 = .ok (.ifCond .ne 7, 3) := by decide +kernel
theorem dX11_transfer_42 : decode cX11_transfer 42 = .ok (.iconst 1, 1) := by decide +kernel
theorem dX11_transfer_43 : decode cX11_transfer 43 = .ok (.goto 4, 3) := by decide +kernel
theorem dX11_transfer_46 : decode cX11_transfer 46 = .ok (.iconst 0, 1) := by decide +kernel
theorem dX11_transfer_47 : decode cX11_transfer 47 = .ok (.iconst 2, 1) := by decide +kernel
theorem dX11_transfer_48 : decode cX11_transfer 48 = .ok (.invokevirtual 69, 3) := by decide +kernel
theorem dX11_transfer_51 : decode cX11_transfer 51 = .ok (.ifCond .ne 17, 3) := by decide +kernel
theorem dX11_transfer_54 : decode cX11_transfer 54 = .ok (.aload_n 0, 1) := by decide +kernel
theorem dX11_transfer_55 : decode cX11_transfer 55 = .ok (.aload_n 0, 1) := by decide +kernel
theorem dX11_transfer_56 : decode cX11_transfer 56 = .ok (.iload_n 1, 1) := by decide +kernel
theorem dX11_transfer_57 : decode cX11_transfer 57 = .ok (.iload_n 3, 1) := by decide +kernel
theorem dX11_transfer_58 : decode cX11_transfer 58 = .ok (.invokevirtual 294, 3) := by decide +kernel
theorem dX11_transfer_61 : decode cX11_transfer 61 = .ok (.iconst 3, 1) := by decide +kernel
theorem dX11_transfer_62 : decode cX11_transfer 62 = .ok (.invokevirtual 69, 3) := by decide +kernel
theorem dX11_transfer_65 : decode cX11_transfer 65 = .ok (.ifCond .eq 5, 3) := by decide +kernel
theorem dX11_transfer_68 : decode cX11_transfer 68 = .ok (.lconst 0, 1) := by decide +kernel
theorem dX11_transfer_69 : decode cX11_transfer 69 = .ok (.lreturn, 1) := by decide +kernel
theorem dX11_transfer_70 : decode cX11_transfer 70 = .ok (.aload_n 0, 1) := by decide +kernel
theorem dX11_transfer_71 : decode cX11_transfer 71 = .ok (.invokevirtual 202, 3) := by decide +kernel
theorem dX11_transfer_74 : decode cX11_transfer 74 = .ok (.iload_n 3, 1) := by decide +kernel
theorem dX11_transfer_75 : decode cX11_transfer 75 = .ok (.i2l, 1) := by decide +kernel
theorem dX11_transfer_76 : decode cX11_transfer 76 = .ok (.lstore 4, 2) := by decide +kernel
theorem dX11_transfer_78 : decode cX11_transfer 78 = .ok (.aload_n 0, 1) := by decide +kernel
theorem dX11_transfer_79 : decode cX11_transfer 79 = .ok (.getfield 7, 3) := by decide +kernel
theorem dX11_transfer_82 : decode cX11_transfer 82 = .ok (.bipush 7, 2) := by decide +kernel
theorem dX11_transfer_84 : decode cX11_transfer 84 = .ok (.laload, 1) := by decide +kernel
theorem dX11_transfer_85 : decode cX11_transfer 85 = .ok (.l2i, 1) := by decide +kernel
theorem dX11_transfer_86 : decode cX11_transfer 86 = .ok (.istore 6, 2) := by decide +kernel
theorem dX11_transfer_88 : decode cX11_transfer 88 = .ok (.iconst 0, 1) := by decide +kernel
theorem dX11_transfer_89 : decode cX11_transfer 89 = .ok (.istore 7, 2) := by decide +kernel
theorem dX11_transfer_91 : decode cX11_transfer 91 = .ok (.iload 7, 2) := by decide +kernel
theorem dX11_transfer_93 : decode cX11_transfer 93 = .ok (.iload 6, 2) := by decide +kernel
theorem dX11_transfer_95 : decode cX11_transfer 95 = .ok (.if_icmp .ge 102, 3) := by decide +kernel
theorem dX11_transfer_98 : decode cX11_transfer 98 = .ok (.lload 4, 2) := by decide +kernel
theorem dX11_transfer_100 : decode cX11_transfer 100 = .ok (.lconst 0, 1) := by decide +kernel
theorem dX11_transfer_101 : decode cX11_transfer 101 = .ok (.lcmp, 1) := by decide +kernel
theorem dX11_transfer_102 : decode cX11_transfer 102 = .ok (.ifCond .le 95, 3) := by decide +kernel
theorem dX11_transfer_105 : decode cX11_transfer 105 = .ok (.iload 7, 2) := by decide +kernel
theorem dX11_transfer_107 : decode cX11_transfer 107 = .ok (.invokestatic 115, 3) := by decide +kernel
theorem dX11_transfer_110 : decode cX11_transfer 110 = .ok (.istore 8, 2) := by decide +kernel
theorem dX11_transfer_112 : decode cX11_transfer 112 = .ok (.aload_n 0, 1) := by decide +kernel
theorem dX11_transfer_113 : decode cX11_transfer 113 = .ok (.getfield 7, 3) := by decide +kernel
theorem dX11_transfer_116 : decode cX11_transfer 116 = .ok (.iload 8, 2) := by decide +kernel
theorem dX11_transfer_118 : decode cX11_transfer 118 = .ok (.iconst 0, 1) := by decide +kernel
theorem dX11_transfer_119 : decode cX11_transfer 119 = .ok (.iadd, 1) := by decide +kernel
theorem dX11_transfer_120 : decode cX11_transfer 120 = .ok (.laload, 1) := by decide +kernel
theorem dX11_transfer_121 : decode cX11_transfer 121 = .ok (.iload_n 1, 1) := by decide +kernel
theorem dX11_transfer_122 : decode cX11_transfer 122 = .ok (.i2l, 1) := by decide +kernel
theorem dX11_transfer_123 : decode cX11_transfer 123 = .ok (.lcmp, 1) := by decide +kernel
theorem dX11_transfer_124 : decode cX11_transfer 124 = .ok (.ifCond .eq 6, 3) := by decide +kernel
theorem dX11_transfer_127 : decode cX11_transfer 127 = .ok (.goto 64, 3) := by decide +kernel
theorem dX11_transfer_130 : decode cX11_transfer 130 = .ok (.lload 4, 2) := by decide +kernel
theorem dX11_transfer_132 : decode cX11_transfer 132 = .ok (.aload_n 0, 1) := by decide +kernel
theorem dX11_transfer_133 : decode cX11_transfer 133 = .ok (.getfield 7, 3) := by decide +kernel
theorem dX11_transfer_136 : decode cX11_transfer 136 = .ok (.iload 8, 2) := by decide +kernel
theorem dX11_transfer_138 : decode cX11_transfer 138 = .ok (.iconst 2, 1) := by decide +kernel
theorem dX11_transfer_139 : decode cX11_transfer 139 = .ok (.iadd, 1) := by decide +kernel
theorem dX11_transfer_140 : decode cX11_transfer 140 = .ok (.laload, 1) := by decide +kernel
theorem dX11_transfer_141 : decode cX11_transfer 141 = .ok (.invokestatic 124, 3) := by decide +kernel
theorem dX11_transfer_144 : decode cX11_transfer 144 = .ok (.lstore 9, 2) := by decide +kernel
theorem dX11_transfer_146 : decode cX11_transfer 146 = .ok (.lload 9, 2) := by decide +kernel
theorem dX11_transfer_148 : decode cX11_transfer 148 = .ok (.aload_n 0, 1) := by decide +kernel
theorem dX11_transfer_149 : decode cX11_transfer 149 = .ok (.getfield 7, 3) := by decide +kernel
theorem dX11_transfer_152 : decode cX11_transfer 152 = .ok (.iload 8, 2) := by decide +kernel
theorem dX11_transfer_154 : decode cX11_transfer 154 = .ok (.iconst 2, 1) := by decide +kernel
theorem dX11_transfer_155 : decode cX11_transfer 155 = .ok (.iadd, 1) := by decide +kernel
theorem dX11_transfer_156 : decode cX11_transfer 156 = .ok (.laload, 1) := by decide +kernel
theorem dX11_transfer_157 : decode cX11_transfer 157 = .ok (.lcmp, 1) := by decide +kernel
theorem dX11_transfer_158 : decode cX11_transfer 158 = .ok (.ifCond .ne 17, 3) := by decide +kernel
theorem dX11_transfer_161 : decode cX11_transfer 161 = .ok (.aload_n 0, 1) := by decide +kernel
theorem dX11_transfer_162 : decode cX11_transfer 162 = .ok (.getfield 7, 3) := by decide +kernel
theorem dX11_transfer_165 : decode cX11_transfer 165 = .ok (.iload 8, 2) := by decide +kernel
theorem dX11_transfer_167 : decode cX11_transfer 167 = .ok (.iconst 0, 1) := by decide +kernel
theorem dX11_transfer_168 : decode cX11_transfer 168 = .ok (.iadd, 1) := by decide +kernel
theorem dX11_transfer_169 : decode cX11_transfer 169 = .ok (.iload_n 2, 1) := by decide +kernel
theorem dX11_transfer_170 : decode cX11_transfer 170 = .ok (.i2l, 1) := by decide +kernel
theorem dX11_transfer_171 : decode cX11_transfer 171 = .ok (.lastore, 1) := by decide +kernel
theorem dX11_transfer_172 : decode cX11_transfer 172 = .ok (.goto 12, 3) := by decide +kernel
theorem dX11_transfer_175 : decode cX11_transfer 175 = .ok (.aload_n 0, 1) := by decide +kernel
theorem dX11_transfer_176 : decode cX11_transfer 176 = .ok (.iload 8, 2) := by decide +kernel
theorem dX11_transfer_178 : decode cX11_transfer 178 = .ok (.iload_n 2, 1) := by decide +kernel
theorem dX11_transfer_179 : decode cX11_transfer 179 = .ok (.lload 9, 2) := by decide +kernel
theorem dX11_transfer_181 : decode cX11_transfer 181 = .ok (.invokevirtual 297, 3) := by decide +kernel
theorem dX11_transfer_184 : decode cX11_transfer 184 = .ok (.lload 4, 2) := by decide +kernel
theorem dX11_transfer_186 : decode cX11_transfer 186 = .ok (.lload 9, 2) := by decide +kernel
theorem dX11_transfer_188 : decode cX11_transfer 188 = .ok (.lsub, 1) := by decide +kernel
theorem dX11_transfer_189 : decode cX11_transfer 189 = .ok (.lstore 4, 2) := by decide +kernel
theorem dX11_transfer_191 : decode cX11_transfer 191 = .ok (.iinc 7 1, 3) := by decide +kernel
theorem dX11_transfer_194 : decode cX11_transfer 194 = .ok (.goto (-103), 3) := by decide +kernel
theorem dX11_transfer_197 : decode cX11_transfer 197 = .ok (.aload_n 0, 1) := by decide +kernel
theorem dX11_transfer_198 : decode cX11_transfer 198 = .ok (.iload_n 1, 1) := by decide +kernel
theorem dX11_transfer_199 : decode cX11_transfer 199 = .ok (.invokevirtual 153, 3) := by decide +kernel
theorem dX11_transfer_202 : decode cX11_transfer 202 = .ok (.lreturn, 1) := by decide +kernel
theorem dX11_setGate_0 : decode cX11_setGate 0 = .ok (.aload_n 0, 1) := by decide +kernel
theorem dX11_setGate_1 : decode cX11_setGate 1 = .ok (.iload_n 1, 1) := by decide +kernel
theorem dX11_setGate_2 : decode cX11_setGate 2 = .ok (.i2l, 1) := by decide +kernel
theorem dX11_setGate_3 : decode cX11_setGate 3 = .ok (.lconst 1, 1) := by decide +kernel
theorem dX11_setGate_4 : decode cX11_setGate 4 = .ok (.ldc2_w 56, 3) := by decide +kernel
theorem dX11_setGate_7 : decode cX11_setGate 7 = .ok (.invokestatic 61, 3) := by decide +kernel
theorem dX11_setGate_10 : decode cX11_setGate 10 = .ok (.ifCond .ne 7, 3) := by decide +kernel
theorem dX11_setGate_13 : decode cX11_setGate 13 = .ok (.iconst 1, 1) := by decide +kernel
theorem dX11_setGate_14 : decode cX11_setGate 14 = .ok (.goto 4, 3) := by decide +kernel
theorem dX11_setGate_17 : decode cX11_setGate 17 = .ok (.iconst 0, 1) := by decide +kernel
theorem dX11_setGate_18 : decode cX11_setGate 18 = .ok (.iconst 1, 1) := by decide +kernel
theorem dX11_setGate_19 : decode cX11_setGate 19 = .ok (.invokevirtual 69, 3) := by decide +kernel
theorem dX11_setGate_22 : decode cX11_setGate 22 = .ok (.ifCond .eq 5, 3) := by decide +kernel
theorem dX11_setGate_25 : decode cX11_setGate 25 = .ok (.iconst 0, 1) := by decide +kernel
theorem dX11_setGate_26 : decode cX11_setGate 26 = .ok (.ireturn, 1) := by decide +kernel
theorem dX11_setGate_27 : decode cX11_setGate 27 = .ok (.aload_n 0, 1) := by decide +kernel
theorem dX11_setGate_28 : decode cX11_setGate 28 = .ok (.invokevirtual 202, 3) := by decide +kernel
theorem dX11_setGate_31 : decode cX11_setGate 31 = .ok (.aload_n 0, 1) := by decide +kernel
theorem dX11_setGate_32 : decode cX11_setGate 32 = .ok (.getfield 7, 3) := by decide +kernel
theorem dX11_setGate_35 : decode cX11_setGate 35 = .ok (.iconst 4, 1) := by decide +kernel
theorem dX11_setGate_36 : decode cX11_setGate 36 = .ok (.laload, 1) := by decide +kernel
theorem dX11_setGate_37 : decode cX11_setGate 37 = .ok (.l2i, 1) := by decide +kernel
theorem dX11_setGate_38 : decode cX11_setGate 38 = .ok (.istore_n 2, 1) := by decide +kernel
theorem dX11_setGate_39 : decode cX11_setGate 39 = .ok (.aload_n 0, 1) := by decide +kernel
theorem dX11_setGate_40 : decode cX11_setGate 40 = .ok (.getfield 7, 3) := by decide +kernel
theorem dX11_setGate_43 : decode cX11_setGate 43 = .ok (.iconst 4, 1) := by decide +kernel
theorem dX11_setGate_44 : decode cX11_setGate 44 = .ok (.iload_n 1, 1) := by decide +kernel
theorem dX11_setGate_45 : decode cX11_setGate 45 = .ok (.i2l, 1) := by decide +kernel
theorem dX11_setGate_46 : decode cX11_setGate 46 = .ok (.lastore, 1) := by decide +kernel
theorem dX11_setGate_47 : decode cX11_setGate 47 = .ok (.iload_n 2, 1) := by decide +kernel
theorem dX11_setGate_48 : decode cX11_setGate 48 = .ok (.ireturn, 1) := by decide +kernel
theorem dX11_bring_0 : decode cX11_bring 0 = .ok (.iconst 3, 1) := by decide +kernel
theorem dX11_bring_1 : decode cX11_bring 1 = .ok (.istore_n 2, 1) := by decide +kernel
theorem dX11_bring_2 : decode cX11_bring 2 = .ok (.iload_n 2, 1) := by decide +kernel
theorem dX11_bring_3 : decode cX11_bring 3 = .ok (.ifCond .lt 32, 3) := by decide +kernel
theorem dX11_bring_6 : decode cX11_bring 6 = .ok (.aload_n 0, 1) := by decide +kernel
theorem dX11_bring_7 : decode cX11_bring 7 = .ok (.getfield 35, 3) := by decide +kernel
theorem dX11_bring_10 : decode cX11_bring 10 = .ok (.aload_n 0, 1) := by decide +kernel
theorem dX11_bring_11 : decode cX11_bring 11 = .ok (.dup, 1) := by decide +kernel
theorem dX11_bring_12 : decode cX11_bring 12 = .ok (.getfield 301, 3) := by decide +kernel
theorem dX11_bring_15 : decode cX11_bring 15 = .ok (.dup_x1, 1) := by decide +kernel
theorem dX11_bring_16 : decode cX11_bring 16 = .ok (.iconst 1, 1) := by decide +kernel
theorem dX11_bring_17 : decode cX11_bring 17 = .ok (.iadd, 1) := by decide +kernel
theorem dX11_bring_18 : decode cX11_bring 18 = .ok (.putfield 301, 3) := by decide +kernel
theorem dX11_bring_21 : decode cX11_bring 21 = .ok (.iload_n 1, 1) := by decide +kernel
theorem dX11_bring_22 : decode cX11_bring 22 = .ok (.bipush 8, 2) := by decide +kernel
theorem dX11_bring_24 : decode cX11_bring 24 = .ok (.iload_n 2, 1) := by decide +kernel
theorem dX11_bring_25 : decode cX11_bring 25 = .ok (.imul, 1) := by decide +kernel
theorem dX11_bring_26 : decode cX11_bring 26 = .ok (.ishr, 1) := by decide +kernel
theorem dX11_bring_27 : decode cX11_bring 27 = .ok (.i2b, 1) := by decide +kernel
theorem dX11_bring_28 : decode cX11_bring 28 = .ok (.bastore, 1) := by decide +kernel
theorem dX11_bring_29 : decode cX11_bring 29 = .ok (.iinc 2 (-1), 3) := by decide +kernel
theorem dX11_bring_32 : decode cX11_bring 32 = .ok (.goto (-30), 3) := by decide +kernel
theorem dX11_bring_35 : decode cX11_bring 35 = .ok (.return_, 1) := by decide +kernel
theorem dX11_appendText_0 : decode cX11_appendText 0 = .ok (.aload_n 0, 1) := by decide +kernel
theorem dX11_appendText_1 : decode cX11_appendText 1 = .ok (.getfield 301, 3) := by decide +kernel
theorem dX11_appendText_4 : decode cX11_appendText 4 = .ok (.bipush 20, 2) := by decide +kernel
theorem dX11_appendText_6 : decode cX11_appendText 6 = .ok (.iadd, 1) := by decide +kernel
theorem dX11_appendText_7 : decode cX11_appendText 7 = .ok (.sipush 400, 3) := by decide +kernel
theorem dX11_appendText_10 : decode cX11_appendText 10 = .ok (.if_icmp .le 9, 3) := by decide +kernel
theorem dX11_appendText_13 : decode cX11_appendText 13 = .ok (.aload_n 0, 1) := by decide +kernel
theorem dX11_appendText_14 : decode cX11_appendText 14 = .ok (.iconst 1, 1) := by decide +kernel
theorem dX11_appendText_15 : decode cX11_appendText 15 = .ok (.invokevirtual 83, 3) := by decide +kernel
theorem dX11_appendText_18 : decode cX11_appendText 18 = .ok (.ireturn, 1) := by decide +kernel
theorem dX11_appendText_19 : decode cX11_appendText 19 = .ok (.aload_n 0, 1) := by decide +kernel
theorem dX11_appendText_20 : decode cX11_appendText 20 = .ok (.iconst 0, 1) := by decide +kernel
theorem dX11_appendText_21 : decode cX11_appendText 21 = .ok (.putfield 58, 3) := by decide +kernel
theorem dX11_appendText_24 : decode cX11_appendText 24 = .ok (.aload_n 0, 1) := by decide +kernel
theorem dX11_appendText_25 : decode cX11_appendText 25 = .ok (.iload_n 1, 1) := by decide +kernel
theorem dX11_appendText_26 : decode cX11_appendText 26 = .ok (.invokevirtual 304, 3) := by decide +kernel
theorem dX11_appendText_29 : decode cX11_appendText 29 = .ok (.aload_n 0, 1) := by decide +kernel
theorem dX11_appendText_30 : decode cX11_appendText 30 = .ok (.iload_n 2, 1) := by decide +kernel
theorem dX11_appendText_31 : decode cX11_appendText 31 = .ok (.invokevirtual 304, 3) := by decide +kernel
theorem dX11_appendText_34 : decode cX11_appendText 34 = .ok (.aload_n 0, 1) := by decide +kernel
theorem dX11_appendText_35 : decode cX11_appendText 35 = .ok (.iload_n 3, 1) := by decide +kernel
theorem dX11_appendText_36 : decode cX11_appendText 36 = .ok (.invokevirtual 304, 3) := by decide +kernel
theorem dX11_appendText_39 : decode cX11_appendText 39 = .ok (.aload_n 0, 1) := by decide +kernel
theorem dX11_appendText_40 : decode cX11_appendText 40 = .ok (.iload 4, 2) := by decide +kernel
theorem dX11_appendText_42 : decode cX11_appendText 42 = .ok (.invokevirtual 304, 3) := by decide +kernel
theorem dX11_appendText_45 : decode cX11_appendText 45 = .ok (.aload_n 0, 1) := by decide +kernel
theorem dX11_appendText_46 : decode cX11_appendText 46 = .ok (.iload 5, 2) := by decide +kernel
theorem dX11_appendText_48 : decode cX11_appendText 48 = .ok (.invokevirtual 304, 3) := by decide +kernel
theorem dX11_appendText_51 : decode cX11_appendText 51 = .ok (.aload_n 0, 1) := by decide +kernel
theorem dX11_appendText_52 : decode cX11_appendText 52 = .ok (.getfield 301, 3) := by decide +kernel
theorem dX11_appendText_55 : decode cX11_appendText 55 = .ok (.ireturn, 1) := by decide +kernel
theorem dX11_truncateText_0 : decode cX11_truncateText 0 = .ok (.iload_n 1, 1) := by decide +kernel
theorem dX11_truncateText_1 : decode cX11_truncateText 1 = .ok (.i2l, 1) := by decide +kernel
theorem dX11_truncateText_2 : decode cX11_truncateText 2 = .ok (.lconst 0, 1) := by decide +kernel
theorem dX11_truncateText_3 : decode cX11_truncateText 3 = .ok (.aload_n 0, 1) := by decide +kernel
theorem dX11_truncateText_4 : decode cX11_truncateText 4 = .ok (.getfield 301, 3) := by decide +kernel
theorem dX11_truncateText_7 : decode cX11_truncateText 7 = .ok (.i2l, 1) := by decide +kernel
theorem dX11_truncateText_8 : decode cX11_truncateText 8 = .ok (.invokestatic 61, 3) := by decide +kernel
theorem dX11_truncateText_11 : decode cX11_truncateText 11 = .ok (.ifCond .ne 9, 3) := by decide +kernel
theorem dX11_truncateText_14 : decode cX11_truncateText 14 = .ok (.aload_n 0, 1) := by decide +kernel
theorem dX11_truncateText_15 : decode cX11_truncateText 15 = .ok (.iconst 1, 1) := by decide +kernel
theorem dX11_truncateText_16 : decode cX11_truncateText 16 = .ok (.invokevirtual 83, 3) := by decide +kernel
theorem dX11_truncateText_19 : decode cX11_truncateText 19 = .ok (.ireturn, 1) := by decide +kernel
theorem dX11_truncateText_20 : decode cX11_truncateText 20 = .ok (.aload_n 0, 1) := by decide +kernel
theorem dX11_truncateText_21 : decode cX11_truncateText 21 = .ok (.iconst 0, 1) := by decide +kernel
theorem dX11_truncateText_22 : decode cX11_truncateText 22 = .ok (.putfield 58, 3) := by decide +kernel
theorem dX11_truncateText_25 : decode cX11_truncateText 25 = .ok (.aload_n 0, 1) := by decide +kernel
theorem dX11_truncateText_26 : decode cX11_truncateText 26 = .ok (.iload_n 1, 1) := by decide +kernel
theorem dX11_truncateText_27 : decode cX11_truncateText 27 = .ok (.putfield 301, 3) := by decide +kernel
theorem dX11_truncateText_30 : decode cX11_truncateText 30 = .ok (.iload_n 1, 1) := by decide +kernel
theorem dX11_truncateText_31 : decode cX11_truncateText 31 = .ok (.ireturn, 1) := by decide +kernel
theorem dX11_byteAt_0 : decode cX11_byteAt 0 = .ok (.iload_n 1, 1) := by decide +kernel
theorem dX11_byteAt_1 : decode cX11_byteAt 1 = .ok (.aload_n 0, 1) := by decide +kernel
theorem dX11_byteAt_2 : decode cX11_byteAt 2 = .ok (.getfield 307, 3) := by decide +kernel
theorem dX11_byteAt_5 : decode cX11_byteAt 5 = .ok (.if_icmp .ge 16, 3) := by decide +kernel
theorem dX11_byteAt_8 : decode cX11_byteAt 8 = .ok (.aload_n 0, 1) := by decide +kernel
theorem dX11_byteAt_9 : decode cX11_byteAt 9 = .ok (.getfield 35, 3) := by decide +kernel
theorem dX11_byteAt_12 : decode cX11_byteAt 12 = .ok (.iload_n 1, 1) := by decide +kernel
theorem dX11_byteAt_13 : decode cX11_byteAt 13 = .ok (.baload, 1) := by decide +kernel
theorem dX11_byteAt_14 : decode cX11_byteAt 14 = .ok (.sipush 255, 3) := by decide +kernel
theorem dX11_byteAt_17 : decode cX11_byteAt 17 = .ok (.iand, 1) := by decide +kernel
theorem dX11_byteAt_18 : decode cX11_byteAt 18 = .ok (.goto 4, 3) := by decide +kernel
theorem dX11_byteAt_21 : decode cX11_byteAt 21 = .ok (.iconst (-1), 1) := by decide +kernel
theorem dX11_byteAt_22 : decode cX11_byteAt 22 = .ok (.ireturn, 1) := by decide +kernel
theorem dX11_next_0 : decode cX11_next 0 = .ok (.aload_n 0, 1) := by decide +kernel
theorem dX11_next_1 : decode cX11_next 1 = .ok (.aload_n 0, 1) := by decide +kernel
theorem dX11_next_2 : decode cX11_next 2 = .ok (.getfield 310, 3) := by decide +kernel
theorem dX11_next_5 : decode cX11_next 5 = .ok (.putfield 313, 3) := by decide +kernel
theorem dX11_next_8 : decode cX11_next 8 = .ok (.aload_n 0, 1) := by decide +kernel
theorem dX11_next_9 : decode cX11_next 9 = .ok (.aload_n 0, 1) := by decide +kernel
theorem dX11_next_10 : decode cX11_next 10 = .ok (.getfield 313, 3) := by decide +kernel
theorem dX11_next_13 : decode cX11_next 13 = .ok (.invokevirtual 316, 3) := by decide +kernel
theorem dX11_next_16 : decode cX11_next 16 = .ok (.bipush 32, 2) := by decide +kernel
theorem dX11_next_18 : decode cX11_next 18 = .ok (.if_icmp .eq 16, 3) := by decide +kernel
theorem dX11_next_21 : decode cX11_next 21 = .ok (.aload_n 0, 1) := by decide +kernel
theorem dX11_next_22 : decode cX11_next 22 = .ok (.aload_n 0, 1) := by decide +kernel
theorem dX11_next_23 : decode cX11_next 23 = .ok (.getfield 313, 3) := by decide +kernel
theorem dX11_next_26 : decode cX11_next 26 = .ok (.invokevirtual 316, 3) := by decide +kernel
theorem dX11_next_29 : decode cX11_next 29 = .ok (.bipush 10, 2) := by decide +kernel
theorem dX11_next_31 : decode cX11_next 31 = .ok (.if_icmp .ne 16, 3) := by decide +kernel
theorem dX11_next_34 : decode cX11_next 34 = .ok (.aload_n 0, 1) := by decide +kernel
theorem dX11_next_35 : decode cX11_next 35 = .ok (.dup, 1) := by decide +kernel
theorem dX11_next_36 : decode cX11_next 36 = .ok (.getfield 313, 3) := by decide +kernel
theorem dX11_next_39 : decode cX11_next 39 = .ok (.iconst 1, 1) := by decide +kernel
theorem dX11_next_40 : decode cX11_next 40 = .ok (.iadd, 1) := by decide +kernel
theorem dX11_next_41 : decode cX11_next 41 = .ok (.putfield 313, 3) := by decide +kernel
theorem dX11_next_44 : decode cX11_next 44 = .ok (.goto (-36), 3) := by decide +kernel
theorem dX11_next_47 : decode cX11_next 47 = .ok (.aload_n 0, 1) := by decide +kernel
theorem dX11_next_48 : decode cX11_next 48 = .ok (.aload_n 0, 1) := by decide +kernel
theorem dX11_next_49 : decode cX11_next 49 = .ok (.getfield 313, 3) := by decide +kernel
theorem dX11_next_52 : decode cX11_next 52 = .ok (.putfield 310, 3) := by decide +kernel
theorem dX11_next_55 : decode cX11_next 55 = .ok (.aload_n 0, 1) := by decide +kernel
theorem dX11_next_56 : decode cX11_next 56 = .ok (.aload_n 0, 1) := by decide +kernel
theorem dX11_next_57 : decode cX11_next 57 = .ok (.getfield 310, 3) := by decide +kernel
theorem dX11_next_60 : decode cX11_next 60 = .ok (.invokevirtual 316, 3) := by decide +kernel
theorem dX11_next_63 : decode cX11_next 63 = .ok (.i2l, 1) := by decide +kernel
theorem dX11_next_64 : decode cX11_next 64 = .ok (.ldc2_w 319, 3) := by decide +kernel
theorem dX11_next_67 : decode cX11_next 67 = .ok (.ldc2_w 321, 3) := by decide +kernel
theorem dX11_next_70 : decode cX11_next 70 = .ok (.invokestatic 61, 3) := by decide +kernel
theorem dX11_next_73 : decode cX11_next 73 = .ok (.ifCond .eq 37, 3) := by decide +kernel
theorem dX11_next_76 : decode cX11_next 76 = .ok (.aload_n 0, 1) := by decide +kernel
theorem dX11_next_77 : decode cX11_next 77 = .ok (.aload_n 0, 1) := by decide +kernel
theorem dX11_next_78 : decode cX11_next 78 = .ok (.getfield 310, 3) := by decide +kernel
theorem dX11_next_81 : decode cX11_next 81 = .ok (.invokevirtual 316, 3) := by decide +kernel
theorem dX11_next_84 : decode cX11_next 84 = .ok (.i2l, 1) := by decide +kernel
theorem dX11_next_85 : decode cX11_next 85 = .ok (.ldc2_w 319, 3) := by decide +kernel
theorem dX11_next_88 : decode cX11_next 88 = .ok (.ldc2_w 321, 3) := by decide +kernel
theorem dX11_next_91 : decode cX11_next 91 = .ok (.invokestatic 61, 3) := by decide +kernel
theorem dX11_next_94 : decode cX11_next 94 = .ok (.ifCond .eq 92, 3) := by decide +kernel
theorem dX11_next_97 : decode cX11_next 97 = .ok (.aload_n 0, 1) := by decide +kernel
theorem dX11_next_98 : decode cX11_next 98 = .ok (.dup, 1) := by decide +kernel
theorem dX11_next_99 : decode cX11_next 99 = .ok (.getfield 310, 3) := by decide +kernel
theorem dX11_next_102 : decode cX11_next 102 = .ok (.iconst 1, 1) := by decide +kernel
theorem dX11_next_103 : decode cX11_next 103 = .ok (.iadd, 1) := by decide +kernel
theorem dX11_next_104 : decode cX11_next 104 = .ok (.putfield 310, 3) := by decide +kernel
theorem dX11_next_107 : decode cX11_next 107 = .ok (.goto (-31), 3) := by decide +kernel
theorem dX11_next_110 : decode cX11_next 110 = .ok (.aload_n 0, 1) := by decide +kernel
theorem dX11_next_111 : decode cX11_next 111 = .ok (.aload_n 0, 1) := by decide +kernel
theorem dX11_next_112 : decode cX11_next 112 = .ok (.getfield 310, 3) := by decide +kernel
theorem dX11_next_115 : decode cX11_next 115 = .ok (.invokevirtual 316, 3) := by decide +kernel
theorem dX11_next_118 : decode cX11_next 118 = .ok (.i2l, 1) := by decide +kernel
theorem dX11_next_119 : decode cX11_next 119 = .ok (.ldc2_w 323, 3) := by decide +kernel
theorem dX11_next_122 : decode cX11_next 122 = .ok (.ldc2_w 325, 3) := by decide +kernel
theorem dX11_next_125 : decode cX11_next 125 = .ok (.invokestatic 61, 3) := by decide +kernel
theorem dX11_next_128 : decode cX11_next 128 = .ok (.ifCond .eq 37, 3) := by decide +kernel
theorem dX11_next_131 : decode cX11_next 131 = .ok (.aload_n 0, 1) := by decide +kernel
theorem dX11_next_132 : decode cX11_next 132 = .ok (.aload_n 0, 1) := by decide +kernel
theorem dX11_next_133 : decode cX11_next 133 = .ok (.getfield 310, 3) := by decide +kernel
theorem dX11_next_136 : decode cX11_next 136 = .ok (.invokevirtual 316, 3) := by decide +kernel
theorem dX11_next_139 : decode cX11_next 139 = .ok (.i2l, 1) := by decide +kernel
theorem dX11_next_140 : decode cX11_next 140 = .ok (.ldc2_w 323, 3) := by decide +kernel
theorem dX11_next_143 : decode cX11_next 143 = .ok (.ldc2_w 325, 3) := by decide +kernel
theorem dX11_next_146 : decode cX11_next 146 = .ok (.invokestatic 61, 3) := by decide +kernel
theorem dX11_next_149 : decode cX11_next 149 = .ok (.ifCond .eq 37, 3) := by decide +kernel
theorem dX11_next_152 : decode cX11_next 152 = .ok (.aload_n 0, 1) := by decide +kernel
theorem dX11_next_153 : decode cX11_next 153 = .ok (.dup, 1) := by decide +kernel
theorem dX11_next_154 : decode cX11_next 154 = .ok (.getfield 310, 3) := by decide +kernel
theorem dX11_next_157 : decode cX11_next 157 = .ok (.iconst 1, 1) := by decide +kernel
theorem dX11_next_158 : decode cX11_next 158 = .ok (.iadd, 1) := by decide +kernel
theorem dX11_next_159 : decode cX11_next 159 = .ok (.putfield 310, 3) := by decide +kernel
theorem dX11_next_162 : decode cX11_next 162 = .ok (.goto (-31), 3) := by decide +kernel
theorem dX11_next_165 : decode cX11_next 165 = .ok (.aload_n 0, 1) := by decide +kernel
theorem dX11_next_166 : decode cX11_next 166 = .ok (.getfield 310, 3) := by decide +kernel
theorem dX11_next_169 : decode cX11_next 169 = .ok (.aload_n 0, 1) := by decide +kernel
theorem dX11_next_170 : decode cX11_next 170 = .ok (.getfield 307, 3) := by decide +kernel
theorem dX11_next_173 : decode cX11_next 173 = .ok (.if_icmp .ge 13, 3) := by decide +kernel
theorem dX11_next_176 : decode cX11_next 176 = .ok (.aload_n 0, 1) := by decide +kernel
theorem dX11_next_177 : decode cX11_next 177 = .ok (.dup, 1) := by decide +kernel
theorem dX11_next_178 : decode cX11_next 178 = .ok (.getfield 310, 3) := by decide +kernel
theorem dX11_next_181 : decode cX11_next 181 = .ok (.iconst 1, 1) := by decide +kernel
theorem dX11_next_182 : decode cX11_next 182 = .ok (.iadd, 1) := by decide +kernel
theorem dX11_next_183 : decode cX11_next 183 = .ok (.putfield 310, 3) := by decide +kernel
theorem dX11_next_186 : decode cX11_next 186 = .ok (.return_, 1) := by decide +kernel
theorem dX11_wrong_0 : decode cX11_wrong 0 = .ok (.aload_n 0, 1) := by decide +kernel
theorem dX11_wrong_1 : decode cX11_wrong 1 = .ok (.getfield 327, 3) := by decide +kernel
theorem dX11_wrong_4 : decode cX11_wrong 4 = .ok (.ifCond .le 4, 3) := by decide +kernel
theorem dX11_wrong_7 : decode cX11_wrong 7 = .ok (.return_, 1) := by decide +kernel
theorem dX11_wrong_8 : decode cX11_wrong 8 = .ok (.aload_n 0, 1) := by decide +kernel
theorem dX11_wrong_9 : decode cX11_wrong 9 = .ok (.iload_n 1, 1) := by decide +kernel
theorem dX11_wrong_10 : decode cX11_wrong 10 = .ok (.putfield 327, 3) := by decide +kernel
theorem dX11_wrong_13 : decode cX11_wrong 13 = .ok (.aload_n 0, 1) := by decide +kernel
theorem dX11_wrong_14 : decode cX11_wrong 14 = .ok (.aload_n 0, 1) := by decide +kernel
theorem dX11_wrong_15 : decode cX11_wrong 15 = .ok (.getfield 313, 3) := by decide +kernel
theorem dX11_wrong_18 : decode cX11_wrong 18 = .ok (.putfield 39, 3) := by decide +kernel
theorem dX11_wrong_21 : decode cX11_wrong 21 = .ok (.return_, 1) := by decide +kernel
theorem dX11_isWord_0 : decode cX11_isWord 0 = .ok (.aload_n 0, 1) := by decide +kernel
theorem dX11_isWord_1 : decode cX11_isWord 1 = .ok (.getfield 310, 3) := by decide +kernel
theorem dX11_isWord_4 : decode cX11_isWord 4 = .ok (.aload_n 0, 1) := by decide +kernel
theorem dX11_isWord_5 : decode cX11_isWord 5 = .ok (.getfield 313, 3) := by decide +kernel
theorem dX11_isWord_8 : decode cX11_isWord 8 = .ok (.isub, 1) := by decide +kernel
theorem dX11_isWord_9 : decode cX11_isWord 9 = .ok (.aload_n 1, 1) := by decide +kernel
theorem dX11_isWord_10 : decode cX11_isWord 10 = .ok (.invokevirtual 330, 3) := by decide +kernel
theorem dX11_isWord_13 : decode cX11_isWord 13 = .ok (.if_icmp .ne 7, 3) := by decide +kernel
theorem dX11_isWord_16 : decode cX11_isWord 16 = .ok (.iconst 1, 1) := by decide +kernel
theorem dX11_isWord_17 : decode cX11_isWord 17 = .ok (.goto 4, 3) := by decide +kernel
theorem dX11_isWord_20 : decode cX11_isWord 20 = .ok (.iconst 0, 1) := by decide +kernel
theorem dX11_isWord_21 : decode cX11_isWord 21 = .ok (.istore_n 2, 1) := by decide +kernel
theorem dX11_isWord_22 : decode cX11_isWord 22 = .ok (.iconst 0, 1) := by decide +kernel
theorem dX11_isWord_23 : decode cX11_isWord 23 = .ok (.istore_n 3, 1) := by decide +kernel
theorem dX11_isWord_24 : decode cX11_isWord 24 = .ok (.iload_n 3, 1) := by decide +kernel
theorem dX11_isWord_25 : decode cX11_isWord 25 = .ok (.aload_n 1, 1) := by decide +kernel
theorem dX11_isWord_26 : decode cX11_isWord 26 = .ok (.invokevirtual 330, 3) := by decide +kernel
theorem dX11_isWord_29 : decode cX11_isWord 29 = .ok (.if_icmp .ge 37, 3) := by decide +kernel
theorem dX11_isWord_32 : decode cX11_isWord 32 = .ok (.iload_n 2, 1) := by decide +kernel
theorem dX11_isWord_33 : decode cX11_isWord 33 = .ok (.ifCond .eq 33, 3) := by decide +kernel
theorem dX11_isWord_36 : decode cX11_isWord 36 = .ok (.aload_n 0, 1) := by decide +kernel
theorem dX11_isWord_37 : decode cX11_isWord 37 = .ok (.aload_n 0, 1) := by decide +kernel
theorem dX11_isWord_38 : decode cX11_isWord 38 = .ok (.getfield 313, 3) := by decide +kernel
theorem dX11_isWord_41 : decode cX11_isWord 41 = .ok (.iload_n 3, 1) := by decide +kernel
theorem dX11_isWord_42 : decode cX11_isWord 42 = .ok (.iadd, 1) := by decide +kernel
theorem dX11_isWord_43 : decode cX11_isWord 43 = .ok (.invokevirtual 316, 3) := by decide +kernel
theorem dX11_isWord_46 : decode cX11_isWord 46 = .ok (.aload_n 1, 1) := by decide +kernel
theorem dX11_isWord_47 : decode cX11_isWord 47 = .ok (.iload_n 3, 1) := by decide +kernel
theorem dX11_isWord_48 : decode cX11_isWord 48 = .ok (.invokevirtual 334, 3) := by decide +kernel
theorem dX11_isWord_51 : decode cX11_isWord 51 = .ok (.if_icmp .ne 7, 3) := by decide +kernel
theorem dX11_isWord_54 : decode cX11_isWord 54 = .ok (.iconst 1, 1) := by decide +kernel
theorem dX11_isWord_55 : decode cX11_isWord 55 = .ok (.goto 4, 3) := by decide +kernel
theorem dX11_isWord_58 : decode cX11_isWord 58 = .ok (.iconst 0, 1) := by decide +kernel
theorem dX11_isWord_59 : decode cX11_isWord 59 = .ok (.istore_n 2, 1) := by decide +kernel
theorem dX11_isWord_60 : decode cX11_isWord 60 = .ok (.iinc 3 1, 3) := by decide +kernel
theorem dX11_isWord_63 : decode cX11_isWord 63 = .ok (.goto (-39), 3) := by decide +kernel
theorem dX11_isWord_66 : decode cX11_isWord 66 = .ok (.iload_n 2, 1) := by decide +kernel
theorem dX11_isWord_67 : decode cX11_isWord 67 = .ok (.ireturn, 1) := by decide +kernel
theorem dX11_pass_0 : decode cX11_pass 0 = .ok (.aload_n 0, 1) := by decide +kernel
theorem dX11_pass_1 : decode cX11_pass 1 = .ok (.getfield 327, 3) := by decide +kernel
theorem dX11_pass_4 : decode cX11_pass 4 = .ok (.ifCond .ne 7, 3) := by decide +kernel
theorem dX11_pass_7 : decode cX11_pass 7 = .ok (.aload_n 0, 1) := by decide +kernel
theorem dX11_pass_8 : decode cX11_pass 8 = .ok (.invokevirtual 338, 3) := by decide +kernel
theorem dX11_pass_11 : decode cX11_pass 11 = .ok (.return_, 1) := by decide +kernel
theorem dX11_number_0 : decode cX11_number 0 = .ok (.aload_n 0, 1) := by decide +kernel
theorem dX11_number_1 : decode cX11_number 1 = .ok (.getfield 327, 3) := by decide +kernel
theorem dX11_number_4 : decode cX11_number 4 = .ok (.ifCond .le 5, 3) := by decide +kernel
theorem dX11_number_7 : decode cX11_number 7 = .ok (.iconst 0, 1) := by decide +kernel
theorem dX11_number_8 : decode cX11_number 8 = .ok (.ireturn, 1) := by decide +kernel
theorem dX11_number_9 : decode cX11_number 9 = .ok (.iconst 0, 1) := by decide +kernel
theorem dX11_number_10 : decode cX11_number 10 = .ok (.istore 5, 2) := by decide +kernel
theorem dX11_number_12 : decode cX11_number 12 = .ok (.aload_n 0, 1) := by decide +kernel
theorem dX11_number_13 : decode cX11_number 13 = .ok (.aload_n 0, 1) := by decide +kernel
theorem dX11_number_14 : decode cX11_number 14 = .ok (.getfield 313, 3) := by decide +kernel
theorem dX11_number_17 : decode cX11_number 17 = .ok (.invokevirtual 316, 3) := by decide +kernel
theorem dX11_number_20 : decode cX11_number 20 = .ok (.i2l, 1) := by decide +kernel
theorem dX11_number_21 : decode cX11_number 21 = .ok (.ldc2_w 323, 3) := by decide +kernel
theorem dX11_number_24 : decode cX11_number 24 = .ok (.ldc2_w 325, 3) := by decide +kernel
theorem dX11_number_27 : decode cX11_number 27 = .ok (.invokestatic 61, 3) := by decide +kernel
theorem dX11_number_30 : decode cX11_number 30 = .ok (.ifCond .ne 11, 3) := by decide +kernel
theorem dX11_number_33 : decode cX11_number 33 = .ok (.aload_n 0, 1) := by decide +kernel
theorem dX11_number_34 : decode cX11_number 34 = .ok (.iconst 1, 1) := by decide +kernel
theorem dX11_number_35 : decode cX11_number 35 = .ok (.invokevirtual 341, 3) := by decide +kernel
theorem dX11_number_38 : decode cX11_number 38 = .ok (.goto 22, 3) := by decide +kernel
theorem dX11_number_41 : decode cX11_number 41 = .ok (.aload_n 0, 1) := by decide +kernel
theorem dX11_number_42 : decode cX11_number 42 = .ok (.getfield 310, 3) := by decide +kernel
theorem dX11_number_45 : decode cX11_number 45 = .ok (.aload_n 0, 1) := by decide +kernel
theorem dX11_number_46 : decode cX11_number 46 = .ok (.getfield 313, 3) := by decide +kernel
theorem dX11_number_49 : decode cX11_number 49 = .ok (.isub, 1) := by decide +kernel
theorem dX11_number_50 : decode cX11_number 50 = .ok (.bipush 7, 2) := by decide +kernel
theorem dX11_number_52 : decode cX11_number 52 = .ok (.if_icmp .le 8, 3) := by decide +kernel
theorem dX11_number_55 : decode cX11_number 55 = .ok (.aload_n 0, 1) := by decide +kernel
theorem dX11_number_56 : decode cX11_number 56 = .ok (.iconst 2, 1) := by decide +kernel
theorem dX11_number_57 : decode cX11_number 57 = .ok (.invokevirtual 341, 3) := by decide +kernel
theorem dX11_number_60 : decode cX11_number 60 = .ok (.aload_n 0, 1) := by decide +kernel
theorem dX11_number_61 : decode cX11_number 61 = .ok (.getfield 313, 3) := by decide +kernel
theorem dX11_number_64 : decode cX11_number 64 = .ok (.istore 6, 2) := by decide +kernel
theorem dX11_number_66 : decode cX11_number 66 = .ok (.iload 6, 2) := by decide +kernel
theorem dX11_number_68 : decode cX11_number 68 = .ok (.aload_n 0, 1) := by decide +kernel
theorem dX11_number_69 : decode cX11_number 69 = .ok (.getfield 310, 3) := by decide +kernel
theorem dX11_number_72 : decode cX11_number 72 = .ok (.if_icmp .ge 33, 3) := by decide +kernel
theorem dX11_number_75 : decode cX11_number 75 = .ok (.aload_n 0, 1) := by decide +kernel
theorem dX11_number_76 : decode cX11_number 76 = .ok (.getfield 327, 3) := by decide +kernel
theorem dX11_number_79 : decode cX11_number 79 = .ok (.ifCond .ne 26, 3) := by decide +kernel
theorem dX11_number_82 : decode cX11_number 82 = .ok (.bipush 10, 2) := by decide +kernel
theorem dX11_number_84 : decode cX11_number 84 = .ok (.iload 5, 2) := by decide +kernel
theorem dX11_number_86 : decode cX11_number 86 = .ok (.imul, 1) := by decide +kernel
theorem dX11_number_87 : decode cX11_number 87 = .ok (.aload_n 0, 1) := by decide +kernel
theorem dX11_number_88 : decode cX11_number 88 = .ok (.iload 6, 2) := by decide +kernel
theorem dX11_number_90 : decode cX11_number 90 = .ok (.invokevirtual 316, 3) := by decide +kernel
theorem dX11_number_93 : decode cX11_number 93 = .ok (.iadd, 1) := by decide +kernel
theorem dX11_number_94 : decode cX11_number 94 = .ok (.bipush 48, 2) := by decide +kernel
theorem dX11_number_96 : decode cX11_number 96 = .ok (.isub, 1) := by decide +kernel
theorem dX11_number_97 : decode cX11_number 97 = .ok (.istore 5, 2) := by decide +kernel
theorem dX11_number_99 : decode cX11_number 99 = .ok (.iinc 6 1, 3) := by decide +kernel
theorem dX11_number_102 : decode cX11_number 102 = .ok (.goto (-36), 3) := by decide +kernel
theorem dX11_number_105 : decode cX11_number 105 = .ok (.aload_n 0, 1) := by decide +kernel
theorem dX11_number_106 : decode cX11_number 106 = .ok (.getfield 327, 3) := by decide +kernel
theorem dX11_number_109 : decode cX11_number 109 = .ok (.ifCond .ne 19, 3) := by decide +kernel
theorem dX11_number_112 : decode cX11_number 112 = .ok (.iload 5, 2) := by decide +kernel
theorem dX11_number_114 : decode cX11_number 114 = .ok (.i2l, 1) := by decide +kernel
theorem dX11_number_115 : decode cX11_number 115 = .ok (.lload_n 1, 1) := by decide +kernel
theorem dX11_number_116 : decode cX11_number 116 = .ok (.lload_n 3, 1) := by decide +kernel
theorem dX11_number_117 : decode cX11_number 117 = .ok (.invokestatic 61, 3) := by decide +kernel
theorem dX11_number_120 : decode cX11_number 120 = .ok (.ifCond .ne 8, 3) := by decide +kernel
theorem dX11_number_123 : decode cX11_number 123 = .ok (.aload_n 0, 1) := by decide +kernel
theorem dX11_number_124 : decode cX11_number 124 = .ok (.iconst 2, 1) := by decide +kernel
theorem dX11_number_125 : decode cX11_number 125 = .ok (.invokevirtual 341, 3) := by decide +kernel
theorem dX11_number_128 : decode cX11_number 128 = .ok (.aload_n 0, 1) := by decide +kernel
theorem dX11_number_129 : decode cX11_number 129 = .ok (.invokevirtual 344, 3) := by decide +kernel
theorem dX11_number_132 : decode cX11_number 132 = .ok (.iload 5, 2) := by decide +kernel
theorem dX11_number_134 : decode cX11_number 134 = .ok (.ireturn, 1) := by decide +kernel
theorem dX11_must_0 : decode cX11_must 0 = .ok (.aload_n 0, 1) := by decide +kernel
theorem dX11_must_1 : decode cX11_must 1 = .ok (.aload_n 1, 1) := by decide +kernel
theorem dX11_must_2 : decode cX11_must 2 = .ok (.invokevirtual 347, 3) := by decide +kernel
theorem dX11_must_5 : decode cX11_must 5 = .ok (.ifCond .ne 8, 3) := by decide +kernel
theorem dX11_must_8 : decode cX11_must 8 = .ok (.aload_n 0, 1) := by decide +kernel
theorem dX11_must_9 : decode cX11_must 9 = .ok (.iconst 1, 1) := by decide +kernel
theorem dX11_must_10 : decode cX11_must 10 = .ok (.invokevirtual 341, 3) := by decide +kernel
theorem dX11_must_13 : decode cX11_must 13 = .ok (.aload_n 0, 1) := by decide +kernel
theorem dX11_must_14 : decode cX11_must 14 = .ok (.invokevirtual 344, 3) := by decide +kernel
theorem dX11_must_17 : decode cX11_must 17 = .ok (.return_, 1) := by decide +kernel
theorem dX11_begin_0 : decode cX11_begin 0 = .ok (.aload_n 0, 1) := by decide +kernel
theorem dX11_begin_1 : decode cX11_begin 1 = .ok (.aload_n 0, 1) := by decide +kernel
theorem dX11_begin_2 : decode cX11_begin 2 = .ok (.getfield 301, 3) := by decide +kernel
theorem dX11_begin_5 : decode cX11_begin 5 = .ok (.putfield 307, 3) := by decide +kernel
theorem dX11_begin_8 : decode cX11_begin 8 = .ok (.aload_n 0, 1) := by decide +kernel
theorem dX11_begin_9 : decode cX11_begin 9 = .ok (.iconst 0, 1) := by decide +kernel
theorem dX11_begin_10 : decode cX11_begin 10 = .ok (.putfield 301, 3) := by decide +kernel
theorem dX11_begin_13 : decode cX11_begin 13 = .ok (.aload_n 0, 1) := by decide +kernel
theorem dX11_begin_14 : decode cX11_begin 14 = .ok (.iconst 0, 1) := by decide +kernel
theorem dX11_begin_15 : decode cX11_begin 15 = .ok (.putfield 310, 3) := by decide +kernel
theorem dX11_begin_18 : decode cX11_begin 18 = .ok (.aload_n 0, 1) := by decide +kernel
theorem dX11_begin_19 : decode cX11_begin 19 = .ok (.iconst 0, 1) := by decide +kernel
theorem dX11_begin_20 : decode cX11_begin 20 = .ok (.putfield 327, 3) := by decide +kernel
theorem dX11_begin_23 : decode cX11_begin 23 = .ok (.aload_n 0, 1) := by decide +kernel
theorem dX11_begin_24 : decode cX11_begin 24 = .ok (.invokevirtual 338, 3) := by decide +kernel
theorem dX11_begin_27 : decode cX11_begin 27 = .ok (.return_, 1) := by decide +kernel
theorem dX11_readHead_0 : decode cX11_readHead 0 = .ok (.aload_n 0, 1) := by decide +kernel
theorem dX11_readHead_1 : decode cX11_readHead 1 = .ok (.ldc_w 351, 3) := by decide +kernel
theorem dX11_readHead_4 : decode cX11_readHead 4 = .ok (.invokevirtual 353, 3) := by decide +kernel
theorem dX11_readHead_7 : decode cX11_readHead 7 = .ok (.aload_n 0, 1) := by decide +kernel
theorem dX11_readHead_8 : decode cX11_readHead 8 = .ok (.ldc_w 357, 3) := by decide +kernel
theorem dX11_readHead_11 : decode cX11_readHead 11 = .ok (.invokevirtual 347, 3) := by decide +kernel
theorem dX11_readHead_14 : decode cX11_readHead 14 = .ok (.ifCond .eq 13, 3) := by decide +kernel
theorem dX11_readHead_17 : decode cX11_readHead 17 = .ok (.aload_n 0, 1) := by decide +kernel
theorem dX11_readHead_18 : decode cX11_readHead 18 = .ok (.getfield 22, 3) := by decide +kernel
theorem dX11_readHead_21 : decode cX11_readHead 21 = .ok (.iconst 1, 1) := by decide +kernel
theorem dX11_readHead_22 : decode cX11_readHead 22 = .ok (.lconst 1, 1) := by decide +kernel
theorem dX11_readHead_23 : decode cX11_readHead 23 = .ok (.lastore, 1) := by decide +kernel
theorem dX11_readHead_24 : decode cX11_readHead 24 = .ok (.goto 18, 3) := by decide +kernel
theorem dX11_readHead_27 : decode cX11_readHead 27 = .ok (.aload_n 0, 1) := by decide +kernel
theorem dX11_readHead_28 : decode cX11_readHead 28 = .ok (.ldc_w 359, 3) := by decide +kernel
theorem dX11_readHead_31 : decode cX11_readHead 31 = .ok (.invokevirtual 347, 3) := by decide +kernel
theorem dX11_readHead_34 : decode cX11_readHead 34 = .ok (.ifCond .ne 8, 3) := by decide +kernel
theorem dX11_readHead_37 : decode cX11_readHead 37 = .ok (.aload_n 0, 1) := by decide +kernel
theorem dX11_readHead_38 : decode cX11_readHead 38 = .ok (.iconst 1, 1) := by decide +kernel
theorem dX11_readHead_39 : decode cX11_readHead 39 = .ok (.invokevirtual 341, 3) := by decide +kernel
theorem dX11_readHead_42 : decode cX11_readHead 42 = .ok (.aload_n 0, 1) := by decide +kernel
theorem dX11_readHead_43 : decode cX11_readHead 43 = .ok (.invokevirtual 344, 3) := by decide +kernel
theorem dX11_readHead_46 : decode cX11_readHead 46 = .ok (.aload_n 0, 1) := by decide +kernel
theorem dX11_readHead_47 : decode cX11_readHead 47 = .ok (.getfield 22, 3) := by decide +kernel
theorem dX11_readHead_50 : decode cX11_readHead 50 = .ok (.iconst 2, 1) := by decide +kernel
theorem dX11_readHead_51 : decode cX11_readHead 51 = .ok (.aload_n 0, 1) := by decide +kernel
theorem dX11_readHead_52 : decode cX11_readHead 52 = .ok (.lconst 0, 1) := by decide +kernel
theorem dX11_readHead_53 : decode cX11_readHead 53 = .ok (.ldc2_w 249, 3) := by decide +kernel
theorem dX11_readHead_56 : decode cX11_readHead 56 = .ok (.invokevirtual 361, 3) := by decide +kernel
theorem dX11_readHead_59 : decode cX11_readHead 59 = .ok (.i2l, 1) := by decide +kernel
theorem dX11_readHead_60 : decode cX11_readHead 60 = .ok (.lastore, 1) := by decide +kernel
theorem dX11_readHead_61 : decode cX11_readHead 61 = .ok (.aload_n 0, 1) := by decide +kernel
theorem dX11_readHead_62 : decode cX11_readHead 62 = .ok (.getfield 22, 3) := by decide +kernel
theorem dX11_readHead_65 : decode cX11_readHead 65 = .ok (.iconst 3, 1) := by decide +kernel
theorem dX11_readHead_66 : decode cX11_readHead 66 = .ok (.aload_n 0, 1) := by decide +kernel
theorem dX11_readHead_67 : decode cX11_readHead 67 = .ok (.lconst 0, 1) := by decide +kernel
theorem dX11_readHead_68 : decode cX11_readHead 68 = .ok (.ldc2_w 365, 3) := by decide +kernel
theorem dX11_readHead_71 : decode cX11_readHead 71 = .ok (.invokevirtual 361, 3) := by decide +kernel
theorem dX11_readHead_74 : decode cX11_readHead 74 = .ok (.i2l, 1) := by decide +kernel
theorem dX11_readHead_75 : decode cX11_readHead 75 = .ok (.lastore, 1) := by decide +kernel
theorem dX11_readHead_76 : decode cX11_readHead 76 = .ok (.aload_n 0, 1) := by decide +kernel
theorem dX11_readHead_77 : decode cX11_readHead 77 = .ok (.getfield 22, 3) := by decide +kernel
theorem dX11_readHead_80 : decode cX11_readHead 80 = .ok (.iconst 4, 1) := by decide +kernel
theorem dX11_readHead_81 : decode cX11_readHead 81 = .ok (.aload_n 0, 1) := by decide +kernel
theorem dX11_readHead_82 : decode cX11_readHead 82 = .ok (.lconst 1, 1) := by decide +kernel
theorem dX11_readHead_83 : decode cX11_readHead 83 = .ok (.ldc2_w 56, 3) := by decide +kernel
theorem dX11_readHead_86 : decode cX11_readHead 86 = .ok (.invokevirtual 361, 3) := by decide +kernel
theorem dX11_readHead_89 : decode cX11_readHead 89 = .ok (.i2l, 1) := by decide +kernel
theorem dX11_readHead_90 : decode cX11_readHead 90 = .ok (.lastore, 1) := by decide +kernel
theorem dX11_readHead_91 : decode cX11_readHead 91 = .ok (.aload_n 0, 1) := by decide +kernel
theorem dX11_readHead_92 : decode cX11_readHead 92 = .ok (.ldc_w 367, 3) := by decide +kernel
theorem dX11_readHead_95 : decode cX11_readHead 95 = .ok (.invokevirtual 353, 3) := by decide +kernel
theorem dX11_readHead_98 : decode cX11_readHead 98 = .ok (.aload_n 0, 1) := by decide +kernel
theorem dX11_readHead_99 : decode cX11_readHead 99 = .ok (.ldc_w 369, 3) := by decide +kernel
theorem dX11_readHead_102 : decode cX11_readHead 102 = .ok (.invokevirtual 353, 3) := by decide +kernel
theorem dX11_readHead_105 : decode cX11_readHead 105 = .ok (.aload_n 0, 1) := by decide +kernel
theorem dX11_readHead_106 : decode cX11_readHead 106 = .ok (.getfield 22, 3) := by decide +kernel
theorem dX11_readHead_109 : decode cX11_readHead 109 = .ok (.iconst 0, 1) := by decide +kernel
theorem dX11_readHead_110 : decode cX11_readHead 110 = .ok (.aload_n 0, 1) := by decide +kernel
theorem dX11_readHead_111 : decode cX11_readHead 111 = .ok (.lconst 1, 1) := by decide +kernel
theorem dX11_readHead_112 : decode cX11_readHead 112 = .ok (.ldc2_w 183, 3) := by decide +kernel
theorem dX11_readHead_115 : decode cX11_readHead 115 = .ok (.invokevirtual 361, 3) := by decide +kernel
theorem dX11_readHead_118 : decode cX11_readHead 118 = .ok (.i2l, 1) := by decide +kernel
theorem dX11_readHead_119 : decode cX11_readHead 119 = .ok (.lastore, 1) := by decide +kernel
theorem dX11_readHead_120 : decode cX11_readHead 120 = .ok (.aload_n 0, 1) := by decide +kernel
theorem dX11_readHead_121 : decode cX11_readHead 121 = .ok (.ldc_w 367, 3) := by decide +kernel
theorem dX11_readHead_124 : decode cX11_readHead 124 = .ok (.invokevirtual 353, 3) := by decide +kernel
theorem dX11_readHead_127 : decode cX11_readHead 127 = .ok (.return_, 1) := by decide +kernel
theorem dX11_readSubscription_0 : decode cX11_readSubscription 0 = .ok (.aload_n 0, 1) := by decide +kernel
theorem dX11_readSubscription_1 : decode cX11_readSubscription 1 = .ok (.ldc_w 371, 3) := by decide +kernel
theorem dX11_readSubscription_4 : decode cX11_readSubscription 4 = .ok (.invokevirtual 347, 3) := by decide +kernel
theorem dX11_readSubscription_7 : decode cX11_readSubscription 7 = .ok (.ifCond .ne 8, 3) := by decide +kernel
theorem dX11_readSubscription_10 : decode cX11_readSubscription 10 = .ok (.aload_n 0, 1) := by decide +kernel
theorem dX11_readSubscription_11 : decode cX11_readSubscription 11 = .ok (.iconst 1, 1) := by decide +kernel
theorem dX11_readSubscription_12 : decode cX11_readSubscription 12 = .ok (.invokevirtual 341, 3) := by decide +kernel
theorem dX11_readSubscription_15 : decode cX11_readSubscription 15 = .ok (.aload_n 0, 1) := by decide +kernel
theorem dX11_readSubscription_16 : decode cX11_readSubscription 16 = .ok (.getfield 22, 3) := by decide +kernel
theorem dX11_readSubscription_19 : decode cX11_readSubscription 19 = .ok (.bipush 8, 2) := by decide +kernel
theorem dX11_readSubscription_21 : decode cX11_readSubscription 21 = .ok (.laload, 1) := by decide +kernel
theorem dX11_readSubscription_22 : decode cX11_readSubscription 22 = .ok (.ldc2_w 212, 3) := by decide +kernel
theorem dX11_readSubscription_25 : decode cX11_readSubscription 25 = .ok (.lcmp, 1) := by decide +kernel
theorem dX11_readSubscription_26 : decode cX11_readSubscription 26 = .ok (.ifCond .ne 8, 3) := by decide +kernel
theorem dX11_readSubscription_29 : decode cX11_readSubscription 29 = .ok (.aload_n 0, 1) := by decide +kernel
theorem dX11_readSubscription_30 : decode cX11_readSubscription 30 = .ok (.iconst 3, 1) := by decide +kernel
theorem dX11_readSubscription_31 : decode cX11_readSubscription 31 = .ok (.invokevirtual 341, 3) := by decide +kernel
theorem dX11_readSubscription_34 : decode cX11_readSubscription 34 = .ok (.aload_n 0, 1) := by decide +kernel
theorem dX11_readSubscription_35 : decode cX11_readSubscription 35 = .ok (.invokevirtual 344, 3) := by decide +kernel
theorem dX11_readSubscription_38 : decode cX11_readSubscription 38 = .ok (.aload_n 0, 1) := by decide +kernel
theorem dX11_readSubscription_39 : decode cX11_readSubscription 39 = .ok (.lconst 0, 1) := by decide +kernel
theorem dX11_readSubscription_40 : decode cX11_readSubscription 40 = .ok (.aload_n 0, 1) := by decide +kernel
theorem dX11_readSubscription_41 : decode cX11_readSubscription 41 = .ok (.getfield 22, 3) := by decide +kernel
theorem dX11_readSubscription_44 : decode cX11_readSubscription 44 = .ok (.iconst 0, 1) := by decide +kernel
theorem dX11_readSubscription_45 : decode cX11_readSubscription 45 = .ok (.laload, 1) := by decide +kernel
theorem dX11_readSubscription_46 : decode cX11_readSubscription 46 = .ok (.lconst 1, 1) := by decide +kernel
theorem dX11_readSubscription_47 : decode cX11_readSubscription 47 = .ok (.lsub, 1) := by decide +kernel
theorem dX11_readSubscription_48 : decode cX11_readSubscription 48 = .ok (.invokevirtual 361, 3) := by decide +kernel
theorem dX11_readSubscription_51 : decode cX11_readSubscription 51 = .ok (.istore_n 1, 1) := by decide +kernel
theorem dX11_readSubscription_52 : decode cX11_readSubscription 52 = .ok (.aload_n 0, 1) := by decide +kernel
theorem dX11_readSubscription_53 : decode cX11_readSubscription 53 = .ok (.lconst 1, 1) := by decide +kernel
theorem dX11_readSubscription_54 : decode cX11_readSubscription 54 = .ok (.ldc2_w 208, 3) := by decide +kernel
theorem dX11_readSubscription_57 : decode cX11_readSubscription 57 = .ok (.invokevirtual 361, 3) := by decide +kernel
theorem dX11_readSubscription_60 : decode cX11_readSubscription 60 = .ok (.istore_n 2, 1) := by decide +kernel
theorem dX11_readSubscription_61 : decode cX11_readSubscription 61 = .ok (.aload_n 0, 1) := by decide +kernel
theorem dX11_readSubscription_62 : decode cX11_readSubscription 62 = .ok (.ldc_w 367, 3) := by decide +kernel
theorem dX11_readSubscription_65 : decode cX11_readSubscription 65 = .ok (.invokevirtual 353, 3) := by decide +kernel
theorem dX11_readSubscription_68 : decode cX11_readSubscription 68 = .ok (.aload_n 0, 1) := by decide +kernel
theorem dX11_readSubscription_69 : decode cX11_readSubscription 69 = .ok (.getfield 327, 3) := by decide +kernel
theorem dX11_readSubscription_72 : decode cX11_readSubscription 72 = .ok (.ifCond .ne 15, 3) := by decide +kernel
theorem dX11_readSubscription_75 : decode cX11_readSubscription 75 = .ok (.aload_n 0, 1) := by decide +kernel
theorem dX11_readSubscription_76 : decode cX11_readSubscription 76 = .ok (.aload_n 0, 1) := by decide +kernel
theorem dX11_readSubscription_77 : decode cX11_readSubscription 77 = .ok (.getfield 22, 3) := by decide +kernel
theorem dX11_readSubscription_80 : decode cX11_readSubscription 80 = .ok (.iload_n 1, 1) := by decide +kernel
theorem dX11_readSubscription_81 : decode cX11_readSubscription 81 = .ok (.lconst 0, 1) := by decide +kernel
theorem dX11_readSubscription_82 : decode cX11_readSubscription 82 = .ok (.iload_n 2, 1) := by decide +kernel
theorem dX11_readSubscription_83 : decode cX11_readSubscription 83 = .ok (.i2l, 1) := by decide +kernel
theorem dX11_readSubscription_84 : decode cX11_readSubscription 84 = .ok (.invokevirtual 224, 3) := by decide +kernel
theorem dX11_readSubscription_87 : decode cX11_readSubscription 87 = .ok (.return_, 1) := by decide +kernel
theorem dX11_parseFund_0 : decode cX11_parseFund 0 = .ok (.aload_n 0, 1) := by decide +kernel
theorem dX11_parseFund_1 : decode cX11_parseFund 1 = .ok (.iconst 0, 1) := by decide +kernel
theorem dX11_parseFund_2 : decode cX11_parseFund 2 = .ok (.putfield 58, 3) := by decide +kernel
theorem dX11_parseFund_5 : decode cX11_parseFund 5 = .ok (.aload_n 0, 1) := by decide +kernel
theorem dX11_parseFund_6 : decode cX11_parseFund 6 = .ok (.iconst (-1), 1) := by decide +kernel
theorem dX11_parseFund_7 : decode cX11_parseFund 7 = .ok (.putfield 39, 3) := by decide +kernel
theorem dX11_parseFund_10 : decode cX11_parseFund 10 = .ok (.aload_n 0, 1) := by decide +kernel
theorem dX11_parseFund_11 : decode cX11_parseFund 11 = .ok (.getfield 22, 3) := by decide +kernel
theorem dX11_parseFund_14 : decode cX11_parseFund 14 = .ok (.invokestatic 52, 3) := by decide +kernel
theorem dX11_parseFund_17 : decode cX11_parseFund 17 = .ok (.aload_n 0, 1) := by decide +kernel
theorem dX11_parseFund_18 : decode cX11_parseFund 18 = .ok (.invokevirtual 373, 3) := by decide +kernel
theorem dX11_parseFund_21 : decode cX11_parseFund 21 = .ok (.aload_n 0, 1) := by decide +kernel
theorem dX11_parseFund_22 : decode cX11_parseFund 22 = .ok (.invokevirtual 376, 3) := by decide +kernel
theorem dX11_parseFund_25 : decode cX11_parseFund 25 = .ok (.aload_n 0, 1) := by decide +kernel
theorem dX11_parseFund_26 : decode cX11_parseFund 26 = .ok (.getfield 327, 3) := by decide +kernel
theorem dX11_parseFund_29 : decode cX11_parseFund 29 = .ok (.ifCond .ne 21, 3) := by decide +kernel
theorem dX11_parseFund_32 : decode cX11_parseFund 32 = .ok (.aload_n 0, 1) := by decide +kernel
theorem dX11_parseFund_33 : decode cX11_parseFund 33 = .ok (.getfield 313, 3) := by decide +kernel
theorem dX11_parseFund_36 : decode cX11_parseFund 36 = .ok (.aload_n 0, 1) := by decide +kernel
theorem dX11_parseFund_37 : decode cX11_parseFund 37 = .ok (.getfield 307, 3) := by decide +kernel
theorem dX11_parseFund_40 : decode cX11_parseFund 40 = .ok (.if_icmp .ge 10, 3) := by decide +kernel
theorem dX11_parseFund_43 : decode cX11_parseFund 43 = .ok (.aload_n 0, 1) := by decide +kernel
theorem dX11_parseFund_44 : decode cX11_parseFund 44 = .ok (.invokevirtual 379, 3) := by decide +kernel
theorem dX11_parseFund_47 : decode cX11_parseFund 47 = .ok (.goto (-22), 3) := by decide +kernel
theorem dX11_parseFund_50 : decode cX11_parseFund 50 = .ok (.aload_n 0, 1) := by decide +kernel
theorem dX11_parseFund_51 : decode cX11_parseFund 51 = .ok (.getfield 327, 3) := by decide +kernel
theorem dX11_parseFund_54 : decode cX11_parseFund 54 = .ok (.ifCond .le 5, 3) := by decide +kernel
theorem dX11_parseFund_57 : decode cX11_parseFund 57 = .ok (.iconst (-1), 1) := by decide +kernel
theorem dX11_parseFund_58 : decode cX11_parseFund 58 = .ok (.ireturn, 1) := by decide +kernel
theorem dX11_parseFund_59 : decode cX11_parseFund 59 = .ok (.aload_n 0, 1) := by decide +kernel
theorem dX11_parseFund_60 : decode cX11_parseFund 60 = .ok (.getfield 22, 3) := by decide +kernel
theorem dX11_parseFund_63 : decode cX11_parseFund 63 = .ok (.aload_n 0, 1) := by decide +kernel
theorem dX11_parseFund_64 : decode cX11_parseFund 64 = .ok (.getfield 7, 3) := by decide +kernel
theorem dX11_parseFund_67 : decode cX11_parseFund 67 = .ok (.invokestatic 76, 3) := by decide +kernel
theorem dX11_parseFund_70 : decode cX11_parseFund 70 = .ok (.aload_n 0, 1) := by decide +kernel
theorem dX11_parseFund_71 : decode cX11_parseFund 71 = .ok (.iconst 0, 1) := by decide +kernel
theorem dX11_parseFund_72 : decode cX11_parseFund 72 = .ok (.putfield 73, 3) := by decide +kernel
theorem dX11_parseFund_75 : decode cX11_parseFund 75 = .ok (.aload_n 0, 1) := by decide +kernel
theorem dX11_parseFund_76 : decode cX11_parseFund 76 = .ok (.getfield 7, 3) := by decide +kernel
theorem dX11_parseFund_79 : decode cX11_parseFund 79 = .ok (.bipush 8, 2) := by decide +kernel
theorem dX11_parseFund_81 : decode cX11_parseFund 81 = .ok (.laload, 1) := by decide +kernel
theorem dX11_parseFund_82 : decode cX11_parseFund 82 = .ok (.l2i, 1) := by decide +kernel
theorem dX11_parseFund_83 : decode cX11_parseFund 83 = .ok (.istore_n 1, 1) := by decide +kernel
theorem dX11_parseFund_84 : decode cX11_parseFund 84 = .ok (.aload_n 0, 1) := by decide +kernel
theorem dX11_parseFund_85 : decode cX11_parseFund 85 = .ok (.invokevirtual 205, 3) := by decide +kernel
theorem dX11_parseFund_88 : decode cX11_parseFund 88 = .ok (.istore_n 2, 1) := by decide +kernel
theorem dX11_parseFund_89 : decode cX11_parseFund 89 = .ok (.iload_n 1, 1) := by decide +kernel
theorem dX11_parseFund_90 : decode cX11_parseFund 90 = .ok (.ireturn, 1) := by decide +kernel
theorem dX11_errorCode_0 : decode cX11_errorCode 0 = .ok (.aload_n 0, 1) := by decide +kernel
theorem dX11_errorCode_1 : decode cX11_errorCode 1 = .ok (.iconst 0, 1) := by decide +kernel
theorem dX11_errorCode_2 : decode cX11_errorCode 2 = .ok (.putfield 58, 3) := by decide +kernel
theorem dX11_errorCode_5 : decode cX11_errorCode 5 = .ok (.aload_n 0, 1) := by decide +kernel
theorem dX11_errorCode_6 : decode cX11_errorCode 6 = .ok (.getfield 327, 3) := by decide +kernel
theorem dX11_errorCode_9 : decode cX11_errorCode 9 = .ok (.ireturn, 1) := by decide +kernel
theorem dX11_errorPosition_0 : decode cX11_errorPosition 0 = .ok (.aload_n 0, 1) := by decide +kernel
theorem dX11_errorPosition_1 : decode cX11_errorPosition 1 = .ok (.iconst 0, 1) := by decide +kernel
theorem dX11_errorPosition_2 : decode cX11_errorPosition 2 = .ok (.putfield 58, 3) := by decide +kernel
theorem dX11_errorPosition_5 : decode cX11_errorPosition 5 = .ok (.aload_n 0, 1) := by decide +kernel
theorem dX11_errorPosition_6 : decode cX11_errorPosition 6 = .ok (.getfield 39, 3) := by decide +kernel
theorem dX11_errorPosition_9 : decode cX11_errorPosition 9 = .ok (.ireturn, 1) := by decide +kernel
theorem dX11_operation_0 : decode cX11_operation 0 = .ok (.aload_n 0, 1) := by decide +kernel
theorem dX11_operation_1 : decode cX11_operation 1 = .ok (.ldc_w 371, 3) := by decide +kernel
theorem dX11_operation_4 : decode cX11_operation 4 = .ok (.invokevirtual 347, 3) := by decide +kernel
theorem dX11_operation_7 : decode cX11_operation 7 = .ok (.ifCond .eq 5, 3) := by decide +kernel
theorem dX11_operation_10 : decode cX11_operation 10 = .ok (.iconst 0, 1) := by decide +kernel
theorem dX11_operation_11 : decode cX11_operation 11 = .ok (.ireturn, 1) := by decide +kernel
theorem dX11_operation_12 : decode cX11_operation 12 = .ok (.aload_n 0, 1) := by decide +kernel
theorem dX11_operation_13 : decode cX11_operation 13 = .ok (.ldc_w 382, 3) := by decide +kernel
theorem dX11_operation_16 : decode cX11_operation 16 = .ok (.invokevirtual 347, 3) := by decide +kernel
theorem dX11_operation_19 : decode cX11_operation 19 = .ok (.ifCond .eq 5, 3) := by decide +kernel
theorem dX11_operation_22 : decode cX11_operation 22 = .ok (.iconst 1, 1) := by decide +kernel
theorem dX11_operation_23 : decode cX11_operation 23 = .ok (.ireturn, 1) := by decide +kernel
theorem dX11_operation_24 : decode cX11_operation 24 = .ok (.aload_n 0, 1) := by decide +kernel
theorem dX11_operation_25 : decode cX11_operation 25 = .ok (.ldc_w 384, 3) := by decide +kernel
theorem dX11_operation_28 : decode cX11_operation 28 = .ok (.invokevirtual 347, 3) := by decide +kernel
theorem dX11_operation_31 : decode cX11_operation 31 = .ok (.ifCond .eq 5, 3) := by decide +kernel
theorem dX11_operation_34 : decode cX11_operation 34 = .ok (.iconst 2, 1) := by decide +kernel
theorem dX11_operation_35 : decode cX11_operation 35 = .ok (.ireturn, 1) := by decide +kernel
theorem dX11_operation_36 : decode cX11_operation 36 = .ok (.aload_n 0, 1) := by decide +kernel
theorem dX11_operation_37 : decode cX11_operation 37 = .ok (.ldc_w 386, 3) := by decide +kernel
theorem dX11_operation_40 : decode cX11_operation 40 = .ok (.invokevirtual 347, 3) := by decide +kernel
theorem dX11_operation_43 : decode cX11_operation 43 = .ok (.ifCond .eq 5, 3) := by decide +kernel
theorem dX11_operation_46 : decode cX11_operation 46 = .ok (.iconst 3, 1) := by decide +kernel
theorem dX11_operation_47 : decode cX11_operation 47 = .ok (.ireturn, 1) := by decide +kernel
theorem dX11_operation_48 : decode cX11_operation 48 = .ok (.aload_n 0, 1) := by decide +kernel
theorem dX11_operation_49 : decode cX11_operation 49 = .ok (.ldc_w 387, 3) := by decide +kernel
theorem dX11_operation_52 : decode cX11_operation 52 = .ok (.invokevirtual 347, 3) := by decide +kernel
theorem dX11_operation_55 : decode cX11_operation 55 = .ok (.ifCond .eq 5, 3) := by decide +kernel
theorem dX11_operation_58 : decode cX11_operation 58 = .ok (.iconst 4, 1) := by decide +kernel
theorem dX11_operation_59 : decode cX11_operation 59 = .ok (.ireturn, 1) := by decide +kernel
theorem dX11_operation_60 : decode cX11_operation 60 = .ok (.aload_n 0, 1) := by decide +kernel
theorem dX11_operation_61 : decode cX11_operation 61 = .ok (.ldc_w 389, 3) := by decide +kernel
theorem dX11_operation_64 : decode cX11_operation 64 = .ok (.invokevirtual 347, 3) := by decide +kernel
theorem dX11_operation_67 : decode cX11_operation 67 = .ok (.ifCond .eq 5, 3) := by decide +kernel
theorem dX11_operation_70 : decode cX11_operation 70 = .ok (.iconst 5, 1) := by decide +kernel
theorem dX11_operation_71 : decode cX11_operation 71 = .ok (.ireturn, 1) := by decide +kernel
theorem dX11_operation_72 : decode cX11_operation 72 = .ok (.aload_n 0, 1) := by decide +kernel
theorem dX11_operation_73 : decode cX11_operation 73 = .ok (.ldc_w 390, 3) := by decide +kernel
theorem dX11_operation_76 : decode cX11_operation 76 = .ok (.invokevirtual 347, 3) := by decide +kernel
theorem dX11_operation_79 : decode cX11_operation 79 = .ok (.ifCond .eq 8, 3) := by decide +kernel
theorem dX11_operation_82 : decode cX11_operation 82 = .ok (.bipush 6, 2) := by decide +kernel
theorem dX11_operation_84 : decode cX11_operation 84 = .ok (.goto 19, 3) := by decide +kernel
theorem dX11_operation_87 : decode cX11_operation 87 = .ok (.aload_n 0, 1) := by decide +kernel
theorem dX11_operation_88 : decode cX11_operation 88 = .ok (.ldc_w 392, 3) := by decide +kernel
theorem dX11_operation_91 : decode cX11_operation 91 = .ok (.invokevirtual 347, 3) := by decide +kernel
theorem dX11_operation_94 : decode cX11_operation 94 = .ok (.ifCond .eq 8, 3) := by decide +kernel
theorem dX11_operation_97 : decode cX11_operation 97 = .ok (.bipush 7, 2) := by decide +kernel
theorem dX11_operation_99 : decode cX11_operation 99 = .ok (.goto 4, 3) := by decide +kernel
theorem dX11_operation_102 : decode cX11_operation 102 = .ok (.iconst (-1), 1) := by decide +kernel
theorem dX11_operation_103 : decode cX11_operation 103 = .ok (.ireturn, 1) := by decide +kernel
theorem dX11_doesEarn_0 : decode cX11_doesEarn 0 = .ok (.iload_n 1, 1) := by decide +kernel
theorem dX11_doesEarn_1 : decode cX11_doesEarn 1 = .ok (.invokestatic 251, 3) := by decide +kernel
theorem dX11_doesEarn_4 : decode cX11_doesEarn 4 = .ok (.ifCond .eq 27, 3) := by decide +kernel
theorem dX11_doesEarn_7 : decode cX11_doesEarn 7 = .ok (.aload_n 0, 1) := by decide +kernel
theorem dX11_doesEarn_8 : decode cX11_doesEarn 8 = .ok (.iload_n 1, 1) := by decide +kernel
theorem dX11_doesEarn_9 : decode cX11_doesEarn 9 = .ok (.invokevirtual 254, 3) := by decide +kernel
theorem dX11_doesEarn_12 : decode cX11_doesEarn 12 = .ok (.ifCond .ne 19, 3) := by decide +kernel
theorem dX11_doesEarn_15 : decode cX11_doesEarn 15 = .ok (.aload_n 0, 1) := by decide +kernel
theorem dX11_doesEarn_16 : decode cX11_doesEarn 16 = .ok (.iload_n 1, 1) := by decide +kernel
theorem dX11_doesEarn_17 : decode cX11_doesEarn 17 = .ok (.invokevirtual 257, 3) := by decide +kernel
theorem dX11_doesEarn_20 : decode cX11_doesEarn 20 = .ok (.ldc2_w 396, 3) := by decide +kernel
theorem dX11_doesEarn_23 : decode cX11_doesEarn 23 = .ok (.lcmp, 1) := by decide +kernel
theorem dX11_doesEarn_24 : decode cX11_doesEarn 24 = .ok (.ifCond .ge 7, 3) := by decide +kernel
theorem dX11_doesEarn_27 : decode cX11_doesEarn 27 = .ok (.iconst 1, 1) := by decide +kernel
theorem dX11_doesEarn_28 : decode cX11_doesEarn 28 = .ok (.goto 4, 3) := by decide +kernel
theorem dX11_doesEarn_31 : decode cX11_doesEarn 31 = .ok (.iconst 0, 1) := by decide +kernel
theorem dX11_doesEarn_32 : decode cX11_doesEarn 32 = .ok (.ireturn, 1) := by decide +kernel
theorem dX11_doesAsk_0 : decode cX11_doesAsk 0 = .ok (.aload_n 0, 1) := by decide +kernel
theorem dX11_doesAsk_1 : decode cX11_doesAsk 1 = .ok (.aload_n 0, 1) := by decide +kernel
theorem dX11_doesAsk_2 : decode cX11_doesAsk 2 = .ok (.getfield 398, 3) := by decide +kernel
theorem dX11_doesAsk_5 : decode cX11_doesAsk 5 = .ok (.invokevirtual 65, 3) := by decide +kernel
theorem dX11_doesAsk_8 : decode cX11_doesAsk 8 = .ok (.ifCond .eq 56, 3) := by decide +kernel
theorem dX11_doesAsk_11 : decode cX11_doesAsk 11 = .ok (.iload_n 1, 1) := by decide +kernel
theorem dX11_doesAsk_12 : decode cX11_doesAsk 12 = .ok (.ifCond .eq 31, 3) := by decide +kernel
theorem dX11_doesAsk_15 : decode cX11_doesAsk 15 = .ok (.aload_n 0, 1) := by decide +kernel
theorem dX11_doesAsk_16 : decode cX11_doesAsk 16 = .ok (.getfield 401, 3) := by decide +kernel
theorem dX11_doesAsk_19 : decode cX11_doesAsk 19 = .ok (.invokestatic 231, 3) := by decide +kernel
theorem dX11_doesAsk_22 : decode cX11_doesAsk 22 = .ok (.ifCond .eq 42, 3) := by decide +kernel
theorem dX11_doesAsk_25 : decode cX11_doesAsk 25 = .ok (.aload_n 0, 1) := by decide +kernel
theorem dX11_doesAsk_26 : decode cX11_doesAsk 26 = .ok (.aload_n 0, 1) := by decide +kernel
theorem dX11_doesAsk_27 : decode cX11_doesAsk 27 = .ok (.getfield 398, 3) := by decide +kernel
theorem dX11_doesAsk_30 : decode cX11_doesAsk 30 = .ok (.aload_n 0, 1) := by decide +kernel
theorem dX11_doesAsk_31 : decode cX11_doesAsk 31 = .ok (.getfield 401, 3) := by decide +kernel
theorem dX11_doesAsk_34 : decode cX11_doesAsk 34 = .ok (.invokevirtual 234, 3) := by decide +kernel
theorem dX11_doesAsk_37 : decode cX11_doesAsk 37 = .ok (.ifCond .eq 27, 3) := by decide +kernel
theorem dX11_doesAsk_40 : decode cX11_doesAsk 40 = .ok (.goto 20, 3) := by decide +kernel
theorem dX11_doesAsk_43 : decode cX11_doesAsk 43 = .ok (.aload_n 0, 1) := by decide +kernel
theorem dX11_doesAsk_44 : decode cX11_doesAsk 44 = .ok (.getfield 401, 3) := by decide +kernel
theorem dX11_doesAsk_47 : decode cX11_doesAsk 47 = .ok (.invokestatic 217, 3) := by decide +kernel
theorem dX11_doesAsk_50 : decode cX11_doesAsk 50 = .ok (.ifCond .eq 14, 3) := by decide +kernel
theorem dX11_doesAsk_53 : decode cX11_doesAsk 53 = .ok (.aload_n 0, 1) := by decide +kernel
theorem dX11_doesAsk_54 : decode cX11_doesAsk 54 = .ok (.invokevirtual 220, 3) := by decide +kernel
theorem dX11_doesAsk_57 : decode cX11_doesAsk 57 = .ok (.ifCond .ne 7, 3) := by decide +kernel
theorem dX11_doesAsk_60 : decode cX11_doesAsk 60 = .ok (.iconst 1, 1) := by decide +kernel
theorem dX11_doesAsk_61 : decode cX11_doesAsk 61 = .ok (.goto 4, 3) := by decide +kernel
theorem dX11_doesAsk_64 : decode cX11_doesAsk 64 = .ok (.iconst 0, 1) := by decide +kernel
theorem dX11_doesAsk_65 : decode cX11_doesAsk 65 = .ok (.istore_n 2, 1) := by decide +kernel
theorem dX11_doesAsk_66 : decode cX11_doesAsk 66 = .ok (.iload_n 2, 1) := by decide +kernel
theorem dX11_doesAsk_67 : decode cX11_doesAsk 67 = .ok (.ifCond .eq 29, 3) := by decide +kernel
theorem dX11_doesAsk_70 : decode cX11_doesAsk 70 = .ok (.aload_n 0, 1) := by decide +kernel
theorem dX11_doesAsk_71 : decode cX11_doesAsk 71 = .ok (.aload_n 0, 1) := by decide +kernel
theorem dX11_doesAsk_72 : decode cX11_doesAsk 72 = .ok (.getfield 7, 3) := by decide +kernel
theorem dX11_doesAsk_75 : decode cX11_doesAsk 75 = .ok (.aload_n 0, 1) := by decide +kernel
theorem dX11_doesAsk_76 : decode cX11_doesAsk 76 = .ok (.getfield 398, 3) := by decide +kernel
theorem dX11_doesAsk_79 : decode cX11_doesAsk 79 = .ok (.iload_n 1, 1) := by decide +kernel
theorem dX11_doesAsk_80 : decode cX11_doesAsk 80 = .ok (.ifCond .eq 7, 3) := by decide +kernel
theorem dX11_doesAsk_83 : decode cX11_doesAsk 83 = .ok (.lconst 1, 1) := by decide +kernel
theorem dX11_doesAsk_84 : decode cX11_doesAsk 84 = .ok (.goto 4, 3) := by decide +kernel
theorem dX11_doesAsk_87 : decode cX11_doesAsk 87 = .ok (.lconst 0, 1) := by decide +kernel
theorem dX11_doesAsk_88 : decode cX11_doesAsk 88 = .ok (.aload_n 0, 1) := by decide +kernel
theorem dX11_doesAsk_89 : decode cX11_doesAsk 89 = .ok (.getfield 401, 3) := by decide +kernel
theorem dX11_doesAsk_92 : decode cX11_doesAsk 92 = .ok (.i2l, 1) := by decide +kernel
theorem dX11_doesAsk_93 : decode cX11_doesAsk 93 = .ok (.invokevirtual 224, 3) := by decide +kernel
theorem dX11_doesAsk_96 : decode cX11_doesAsk 96 = .ok (.iload_n 2, 1) := by decide +kernel
theorem dX11_doesAsk_97 : decode cX11_doesAsk 97 = .ok (.ireturn, 1) := by decide +kernel
theorem dX11_does_0 : decode cX11_does 0 = .ok (.iload_n 1, 1) := by decide +kernel
theorem dX11_does_1 : decode cX11_does 1 = .ok (.tableswitch 128 0 6 #[43, 49, 55, 68, 77, 87, 121], 43) := by decide +kernel
theorem dX11_does_44 : decode cX11_does 44 = .ok (.aload_n 0, 1) := by decide +kernel
theorem dX11_does_45 : decode cX11_does 45 = .ok (.iconst 0, 1) := by decide +kernel
theorem dX11_does_46 : decode cX11_does 46 = .ok (.invokevirtual 404, 3) := by decide +kernel
theorem dX11_does_49 : decode cX11_does 49 = .ok (.ireturn, 1) := by decide +kernel
theorem dX11_does_50 : decode cX11_does 50 = .ok (.aload_n 0, 1) := by decide +kernel
theorem dX11_does_51 : decode cX11_does 51 = .ok (.iconst 1, 1) := by decide +kernel
theorem dX11_does_52 : decode cX11_does 52 = .ok (.invokevirtual 404, 3) := by decide +kernel
theorem dX11_does_55 : decode cX11_does 55 = .ok (.ireturn, 1) := by decide +kernel
theorem dX11_does_56 : decode cX11_does 56 = .ok (.aload_n 0, 1) := by decide +kernel
theorem dX11_does_57 : decode cX11_does 57 = .ok (.invokevirtual 205, 3) := by decide +kernel
theorem dX11_does_60 : decode cX11_does 60 = .ok (.ifCond .lt 7, 3) := by decide +kernel
theorem dX11_does_63 : decode cX11_does 63 = .ok (.iconst 1, 1) := by decide +kernel
theorem dX11_does_64 : decode cX11_does 64 = .ok (.goto 4, 3) := by decide +kernel
theorem dX11_does_67 : decode cX11_does 67 = .ok (.iconst 0, 1) := by decide +kernel
theorem dX11_does_68 : decode cX11_does 68 = .ok (.ireturn, 1) := by decide +kernel
theorem dX11_does_69 : decode cX11_does 69 = .ok (.aload_n 0, 1) := by decide +kernel
theorem dX11_does_70 : decode cX11_does 70 = .ok (.aload_n 0, 1) := by decide +kernel
theorem dX11_does_71 : decode cX11_does 71 = .ok (.getfield 398, 3) := by decide +kernel
theorem dX11_does_74 : decode cX11_does 74 = .ok (.invokevirtual 408, 3) := by decide +kernel
theorem dX11_does_77 : decode cX11_does 77 = .ok (.ireturn, 1) := by decide +kernel
theorem dX11_does_78 : decode cX11_does 78 = .ok (.aload_n 0, 1) := by decide +kernel
theorem dX11_does_79 : decode cX11_does 79 = .ok (.aload_n 0, 1) := by decide +kernel
theorem dX11_does_80 : decode cX11_does 80 = .ok (.getfield 398, 3) := by decide +kernel
theorem dX11_does_83 : decode cX11_does 83 = .ok (.ineg, 1) := by decide +kernel
theorem dX11_does_84 : decode cX11_does 84 = .ok (.invokevirtual 408, 3) := by decide +kernel
theorem dX11_does_87 : decode cX11_does 87 = .ok (.ireturn, 1) := by decide +kernel
theorem dX11_does_88 : decode cX11_does 88 = .ok (.aload_n 0, 1) := by decide +kernel
theorem dX11_does_89 : decode cX11_does 89 = .ok (.getfield 398, 3) := by decide +kernel
theorem dX11_does_92 : decode cX11_does 92 = .ok (.i2l, 1) := by decide +kernel
theorem dX11_does_93 : decode cX11_does 93 = .ok (.lconst 1, 1) := by decide +kernel
theorem dX11_does_94 : decode cX11_does 94 = .ok (.ldc2_w 262, 3) := by decide +kernel
theorem dX11_does_97 : decode cX11_does 97 = .ok (.invokestatic 61, 3) := by decide +kernel
theorem dX11_does_100 : decode cX11_does 100 = .ok (.ifCond .eq 20, 3) := by decide +kernel
theorem dX11_does_103 : decode cX11_does 103 = .ok (.aload_n 0, 1) := by decide +kernel
theorem dX11_does_104 : decode cX11_does 104 = .ok (.aload_n 0, 1) := by decide +kernel
theorem dX11_does_105 : decode cX11_does 105 = .ok (.getfield 398, 3) := by decide +kernel
theorem dX11_does_108 : decode cX11_does 108 = .ok (.invokevirtual 264, 3) := by decide +kernel
theorem dX11_does_111 : decode cX11_does 111 = .ok (.lconst 0, 1) := by decide +kernel
theorem dX11_does_112 : decode cX11_does 112 = .ok (.lcmp, 1) := by decide +kernel
theorem dX11_does_113 : decode cX11_does 113 = .ok (.ifCond .lt 7, 3) := by decide +kernel
theorem dX11_does_116 : decode cX11_does 116 = .ok (.iconst 1, 1) := by decide +kernel
theorem dX11_does_117 : decode cX11_does 117 = .ok (.goto 4, 3) := by decide +kernel
theorem dX11_does_120 : decode cX11_does 120 = .ok (.iconst 0, 1) := by decide +kernel
theorem dX11_does_121 : decode cX11_does 121 = .ok (.ireturn, 1) := by decide +kernel
theorem dX11_does_122 : decode cX11_does 122 = .ok (.aload_n 0, 1) := by decide +kernel
theorem dX11_does_123 : decode cX11_does 123 = .ok (.invokevirtual 281, 3) := by decide +kernel
theorem dX11_does_126 : decode cX11_does 126 = .ok (.lstore_n 2, 1) := by decide +kernel
theorem dX11_does_127 : decode cX11_does 127 = .ok (.iconst 1, 1) := by decide +kernel
theorem dX11_does_128 : decode cX11_does 128 = .ok (.ireturn, 1) := by decide +kernel
theorem dX11_does_129 : decode cX11_does 129 = .ok (.aload_n 0, 1) := by decide +kernel
theorem dX11_does_130 : decode cX11_does 130 = .ok (.invokevirtual 287, 3) := by decide +kernel
theorem dX11_does_133 : decode cX11_does 133 = .ok (.ifCond .lt 7, 3) := by decide +kernel
theorem dX11_does_136 : decode cX11_does 136 = .ok (.iconst 1, 1) := by decide +kernel
theorem dX11_does_137 : decode cX11_does 137 = .ok (.goto 4, 3) := by decide +kernel
theorem dX11_does_140 : decode cX11_does 140 = .ok (.iconst 0, 1) := by decide +kernel
theorem dX11_does_141 : decode cX11_does 141 = .ok (.ireturn, 1) := by decide +kernel
theorem dX11_goesThrough_0 : decode cX11_goesThrough 0 = .ok (.aload_n 0, 1) := by decide +kernel
theorem dX11_goesThrough_1 : decode cX11_goesThrough 1 = .ok (.getfield 313, 3) := by decide +kernel
theorem dX11_goesThrough_4 : decode cX11_goesThrough 4 = .ok (.istore_n 1, 1) := by decide +kernel
theorem dX11_goesThrough_5 : decode cX11_goesThrough 5 = .ok (.aload_n 0, 1) := by decide +kernel
theorem dX11_goesThrough_6 : decode cX11_goesThrough 6 = .ok (.invokevirtual 411, 3) := by decide +kernel
theorem dX11_goesThrough_9 : decode cX11_goesThrough 9 = .ok (.istore_n 2, 1) := by decide +kernel
theorem dX11_goesThrough_10 : decode cX11_goesThrough 10 = .ok (.iload_n 2, 1) := by decide +kernel
theorem dX11_goesThrough_11 : decode cX11_goesThrough 11 = .ok (.iconst (-1), 1) := by decide +kernel
theorem dX11_goesThrough_12 : decode cX11_goesThrough 12 = .ok (.if_icmp .ne 8, 3) := by decide +kernel
theorem dX11_goesThrough_15 : decode cX11_goesThrough 15 = .ok (.aload_n 0, 1) := by decide +kernel
theorem dX11_goesThrough_16 : decode cX11_goesThrough 16 = .ok (.iconst 1, 1) := by decide +kernel
theorem dX11_goesThrough_17 : decode cX11_goesThrough 17 = .ok (.invokevirtual 341, 3) := by decide +kernel
theorem dX11_goesThrough_20 : decode cX11_goesThrough 20 = .ok (.aload_n 0, 1) := by decide +kernel
theorem dX11_goesThrough_21 : decode cX11_goesThrough 21 = .ok (.invokevirtual 344, 3) := by decide +kernel
theorem dX11_goesThrough_24 : decode cX11_goesThrough 24 = .ok (.iload_n 2, 1) := by decide +kernel
theorem dX11_goesThrough_25 : decode cX11_goesThrough 25 = .ok (.iconst 1, 1) := by decide +kernel
theorem dX11_goesThrough_26 : decode cX11_goesThrough 26 = .ok (.if_icmp .le 17, 3) := by decide +kernel
theorem dX11_goesThrough_29 : decode cX11_goesThrough 29 = .ok (.iload_n 2, 1) := by decide +kernel
theorem dX11_goesThrough_30 : decode cX11_goesThrough 30 = .ok (.i2l, 1) := by decide +kernel
theorem dX11_goesThrough_31 : decode cX11_goesThrough 31 = .ok (.ldc2_w 414, 3) := by decide +kernel
theorem dX11_goesThrough_34 : decode cX11_goesThrough 34 = .ok (.ldc2_w 416, 3) := by decide +kernel
theorem dX11_goesThrough_37 : decode cX11_goesThrough 37 = .ok (.invokestatic 61, 3) := by decide +kernel
theorem dX11_goesThrough_40 : decode cX11_goesThrough 40 = .ok (.ifCond .eq 15, 3) := by decide +kernel
theorem dX11_goesThrough_43 : decode cX11_goesThrough 43 = .ok (.aload_n 0, 1) := by decide +kernel
theorem dX11_goesThrough_44 : decode cX11_goesThrough 44 = .ok (.aload_n 0, 1) := by decide +kernel
theorem dX11_goesThrough_45 : decode cX11_goesThrough 45 = .ok (.lconst 0, 1) := by decide +kernel
theorem dX11_goesThrough_46 : decode cX11_goesThrough 46 = .ok (.ldc2_w 208, 3) := by decide +kernel
theorem dX11_goesThrough_49 : decode cX11_goesThrough 49 = .ok (.invokevirtual 361, 3) := by decide +kernel
theorem dX11_goesThrough_52 : decode cX11_goesThrough 52 = .ok (.putfield 398, 3) := by decide +kernel
theorem dX11_goesThrough_55 : decode cX11_goesThrough 55 = .ok (.iload_n 2, 1) := by decide +kernel
theorem dX11_goesThrough_56 : decode cX11_goesThrough 56 = .ok (.iconst 1, 1) := by decide +kernel
theorem dX11_goesThrough_57 : decode cX11_goesThrough 57 = .ok (.if_icmp .gt 15, 3) := by decide +kernel
theorem dX11_goesThrough_60 : decode cX11_goesThrough 60 = .ok (.aload_n 0, 1) := by decide +kernel
theorem dX11_goesThrough_61 : decode cX11_goesThrough 61 = .ok (.aload_n 0, 1) := by decide +kernel
theorem dX11_goesThrough_62 : decode cX11_goesThrough 62 = .ok (.lconst 0, 1) := by decide +kernel
theorem dX11_goesThrough_63 : decode cX11_goesThrough 63 = .ok (.ldc2_w 208, 3) := by decide +kernel
theorem dX11_goesThrough_66 : decode cX11_goesThrough 66 = .ok (.invokevirtual 361, 3) := by decide +kernel
theorem dX11_goesThrough_69 : decode cX11_goesThrough 69 = .ok (.putfield 401, 3) := by decide +kernel
theorem dX11_goesThrough_72 : decode cX11_goesThrough 72 = .ok (.aload_n 0, 1) := by decide +kernel
theorem dX11_goesThrough_73 : decode cX11_goesThrough 73 = .ok (.getfield 327, 3) := by decide +kernel
theorem dX11_goesThrough_76 : decode cX11_goesThrough 76 = .ok (.ifCond .ne 18, 3) := by decide +kernel
theorem dX11_goesThrough_79 : decode cX11_goesThrough 79 = .ok (.aload_n 0, 1) := by decide +kernel
theorem dX11_goesThrough_80 : decode cX11_goesThrough 80 = .ok (.ldc_w 367, 3) := by decide +kernel
theorem dX11_goesThrough_83 : decode cX11_goesThrough 83 = .ok (.invokevirtual 347, 3) := by decide +kernel
theorem dX11_goesThrough_86 : decode cX11_goesThrough 86 = .ok (.ifCond .ne 8, 3) := by decide +kernel
theorem dX11_goesThrough_89 : decode cX11_goesThrough 89 = .ok (.aload_n 0, 1) := by decide +kernel
theorem dX11_goesThrough_90 : decode cX11_goesThrough 90 = .ok (.iconst 1, 1) := by decide +kernel
theorem dX11_goesThrough_91 : decode cX11_goesThrough 91 = .ok (.invokevirtual 341, 3) := by decide +kernel
theorem dX11_goesThrough_94 : decode cX11_goesThrough 94 = .ok (.aload_n 0, 1) := by decide +kernel
theorem dX11_goesThrough_95 : decode cX11_goesThrough 95 = .ok (.getfield 327, 3) := by decide +kernel
theorem dX11_goesThrough_98 : decode cX11_goesThrough 98 = .ok (.ifCond .gt 11, 3) := by decide +kernel
theorem dX11_goesThrough_101 : decode cX11_goesThrough 101 = .ok (.aload_n 0, 1) := by decide +kernel
theorem dX11_goesThrough_102 : decode cX11_goesThrough 102 = .ok (.iload_n 2, 1) := by decide +kernel
theorem dX11_goesThrough_103 : decode cX11_goesThrough 103 = .ok (.invokevirtual 418, 3) := by decide +kernel
theorem dX11_goesThrough_106 : decode cX11_goesThrough 106 = .ok (.ifCond .eq 4, 3) := by decide +kernel
theorem dX11_goesThrough_109 : decode cX11_goesThrough 109 = .ok (.return_, 1) := by decide +kernel
theorem dX11_goesThrough_110 : decode cX11_goesThrough 110 = .ok (.aload_n 0, 1) := by decide +kernel
theorem dX11_goesThrough_111 : decode cX11_goesThrough 111 = .ok (.iconst 1, 1) := by decide +kernel
theorem dX11_goesThrough_112 : decode cX11_goesThrough 112 = .ok (.putfield 327, 3) := by decide +kernel
theorem dX11_goesThrough_115 : decode cX11_goesThrough 115 = .ok (.aload_n 0, 1) := by decide +kernel
theorem dX11_goesThrough_116 : decode cX11_goesThrough 116 = .ok (.iload_n 1, 1) := by decide +kernel
theorem dX11_goesThrough_117 : decode cX11_goesThrough 117 = .ok (.putfield 39, 3) := by decide +kernel
theorem dX11_goesThrough_120 : decode cX11_goesThrough 120 = .ok (.return_, 1) := by decide +kernel
theorem dX11_runScript_0 : decode cX11_runScript 0 = .ok (.aload_n 0, 1) := by decide +kernel
theorem dX11_runScript_1 : decode cX11_runScript 1 = .ok (.iconst 0, 1) := by decide +kernel
theorem dX11_runScript_2 : decode cX11_runScript 2 = .ok (.putfield 58, 3) := by decide +kernel
theorem dX11_runScript_5 : decode cX11_runScript 5 = .ok (.aload_n 0, 1) := by decide +kernel
theorem dX11_runScript_6 : decode cX11_runScript 6 = .ok (.getfield 327, 3) := by decide +kernel
theorem dX11_runScript_9 : decode cX11_runScript 9 = .ok (.istore_n 1, 1) := by decide +kernel
theorem dX11_runScript_10 : decode cX11_runScript 10 = .ok (.aload_n 0, 1) := by decide +kernel
theorem dX11_runScript_11 : decode cX11_runScript 11 = .ok (.getfield 39, 3) := by decide +kernel
theorem dX11_runScript_14 : decode cX11_runScript 14 = .ok (.istore_n 2, 1) := by decide +kernel
theorem dX11_runScript_15 : decode cX11_runScript 15 = .ok (.aload_n 0, 1) := by decide +kernel
theorem dX11_runScript_16 : decode cX11_runScript 16 = .ok (.getfield 7, 3) := by decide +kernel
theorem dX11_runScript_19 : decode cX11_runScript 19 = .ok (.aload_n 0, 1) := by decide +kernel
theorem dX11_runScript_20 : decode cX11_runScript 20 = .ok (.getfield 13, 3) := by decide +kernel
theorem dX11_runScript_23 : decode cX11_runScript 23 = .ok (.invokestatic 76, 3) := by decide +kernel
theorem dX11_runScript_26 : decode cX11_runScript 26 = .ok (.aload_n 0, 1) := by decide +kernel
theorem dX11_runScript_27 : decode cX11_runScript 27 = .ok (.invokevirtual 373, 3) := by decide +kernel
theorem dX11_runScript_30 : decode cX11_runScript 30 = .ok (.iconst 0, 1) := by decide +kernel
theorem dX11_runScript_31 : decode cX11_runScript 31 = .ok (.istore_n 3, 1) := by decide +kernel
theorem dX11_runScript_32 : decode cX11_runScript 32 = .ok (.aload_n 0, 1) := by decide +kernel
theorem dX11_runScript_33 : decode cX11_runScript 33 = .ok (.getfield 327, 3) := by decide +kernel
theorem dX11_runScript_36 : decode cX11_runScript 36 = .ok (.ifCond .ne 28, 3) := by decide +kernel
theorem dX11_runScript_39 : decode cX11_runScript 39 = .ok (.aload_n 0, 1) := by decide +kernel
theorem dX11_runScript_40 : decode cX11_runScript 40 = .ok (.getfield 313, 3) := by decide +kernel
theorem dX11_runScript_43 : decode cX11_runScript 43 = .ok (.aload_n 0, 1) := by decide +kernel
theorem dX11_runScript_44 : decode cX11_runScript 44 = .ok (.getfield 307, 3) := by decide +kernel
theorem dX11_runScript_47 : decode cX11_runScript 47 = .ok (.if_icmp .ge 17, 3) := by decide +kernel
theorem dX11_runScript_50 : decode cX11_runScript 50 = .ok (.aload_n 0, 1) := by decide +kernel
theorem dX11_runScript_51 : decode cX11_runScript 51 = .ok (.invokevirtual 421, 3) := by decide +kernel
theorem dX11_runScript_54 : decode cX11_runScript 54 = .ok (.aload_n 0, 1) := by decide +kernel
theorem dX11_runScript_55 : decode cX11_runScript 55 = .ok (.invokevirtual 344, 3) := by decide +kernel
theorem dX11_runScript_58 : decode cX11_runScript 58 = .ok (.iinc 3 1, 3) := by decide +kernel
theorem dX11_runScript_61 : decode cX11_runScript 61 = .ok (.goto (-29), 3) := by decide +kernel
theorem dX11_runScript_64 : decode cX11_runScript 64 = .ok (.aload_n 0, 1) := by decide +kernel
theorem dX11_runScript_65 : decode cX11_runScript 65 = .ok (.getfield 327, 3) := by decide +kernel
theorem dX11_runScript_68 : decode cX11_runScript 68 = .ok (.ifCond .ne 7, 3) := by decide +kernel
theorem dX11_runScript_71 : decode cX11_runScript 71 = .ok (.iload_n 3, 1) := by decide +kernel
theorem dX11_runScript_72 : decode cX11_runScript 72 = .ok (.goto 9, 3) := by decide +kernel
theorem dX11_runScript_75 : decode cX11_runScript 75 = .ok (.iconst (-1), 1) := by decide +kernel
theorem dX11_runScript_76 : decode cX11_runScript 76 = .ok (.aload_n 0, 1) := by decide +kernel
theorem dX11_runScript_77 : decode cX11_runScript 77 = .ok (.getfield 39, 3) := by decide +kernel
theorem dX11_runScript_80 : decode cX11_runScript 80 = .ok (.isub, 1) := by decide +kernel
theorem dX11_runScript_81 : decode cX11_runScript 81 = .ok (.istore 4, 2) := by decide +kernel
theorem dX11_runScript_83 : decode cX11_runScript 83 = .ok (.aload_n 0, 1) := by decide +kernel
theorem dX11_runScript_84 : decode cX11_runScript 84 = .ok (.getfield 327, 3) := by decide +kernel
theorem dX11_runScript_87 : decode cX11_runScript 87 = .ok (.ifCond .ne 10, 3) := by decide +kernel
theorem dX11_runScript_90 : decode cX11_runScript 90 = .ok (.aload_n 0, 1) := by decide +kernel
theorem dX11_runScript_91 : decode cX11_runScript 91 = .ok (.invokevirtual 80, 3) := by decide +kernel
theorem dX11_runScript_94 : decode cX11_runScript 94 = .ok (.goto 14, 3) := by decide +kernel
theorem dX11_runScript_97 : decode cX11_runScript 97 = .ok (.aload_n 0, 1) := by decide +kernel
theorem dX11_runScript_98 : decode cX11_runScript 98 = .ok (.getfield 13, 3) := by decide +kernel
theorem dX11_runScript_101 : decode cX11_runScript 101 = .ok (.aload_n 0, 1) := by decide +kernel
theorem dX11_runScript_102 : decode cX11_runScript 102 = .ok (.getfield 7, 3) := by decide +kernel
theorem dX11_runScript_105 : decode cX11_runScript 105 = .ok (.invokestatic 76, 3) := by decide +kernel
theorem dX11_runScript_108 : decode cX11_runScript 108 = .ok (.aload_n 0, 1) := by decide +kernel
theorem dX11_runScript_109 : decode cX11_runScript 109 = .ok (.iload_n 1, 1) := by decide +kernel
theorem dX11_runScript_110 : decode cX11_runScript 110 = .ok (.putfield 327, 3) := by decide +kernel
theorem dX11_runScript_113 : decode cX11_runScript 113 = .ok (.aload_n 0, 1) := by decide +kernel
theorem dX11_runScript_114 : decode cX11_runScript 114 = .ok (.iload_n 2, 1) := by decide +kernel
theorem dX11_runScript_115 : decode cX11_runScript 115 = .ok (.putfield 39, 3) := by decide +kernel
theorem dX11_runScript_118 : decode cX11_runScript 118 = .ok (.iload 4, 2) := by decide +kernel
theorem dX11_runScript_120 : decode cX11_runScript 120 = .ok (.ireturn, 1) := by decide +kernel
theorem dX11_count_0 : decode cX11_count 0 = .ok (.aload_n 0, 1) := by decide +kernel
theorem dX11_count_1 : decode cX11_count 1 = .ok (.iload_n 1, 1) := by decide +kernel
theorem dX11_count_2 : decode cX11_count 2 = .ok (.i2l, 1) := by decide +kernel
theorem dX11_count_3 : decode cX11_count 3 = .ok (.lconst 0, 1) := by decide +kernel
theorem dX11_count_4 : decode cX11_count 4 = .ok (.ldc2_w 424, 3) := by decide +kernel
theorem dX11_count_7 : decode cX11_count 7 = .ok (.invokestatic 61, 3) := by decide +kernel
theorem dX11_count_10 : decode cX11_count 10 = .ok (.ifCond .ne 7, 3) := by decide +kernel
theorem dX11_count_13 : decode cX11_count 13 = .ok (.iconst 1, 1) := by decide +kernel
theorem dX11_count_14 : decode cX11_count 14 = .ok (.goto 4, 3) := by decide +kernel
theorem dX11_count_17 : decode cX11_count 17 = .ok (.iconst 0, 1) := by decide +kernel
theorem dX11_count_18 : decode cX11_count 18 = .ok (.iconst 1, 1) := by decide +kernel
theorem dX11_count_19 : decode cX11_count 19 = .ok (.invokevirtual 69, 3) := by decide +kernel
theorem dX11_count_22 : decode cX11_count 22 = .ok (.ifCond .eq 7, 3) := by decide +kernel
theorem dX11_count_25 : decode cX11_count 25 = .ok (.iconst 0, 1) := by decide +kernel
theorem dX11_count_26 : decode cX11_count 26 = .ok (.goto 10, 3) := by decide +kernel
theorem dX11_count_29 : decode cX11_count 29 = .ok (.aload_n 0, 1) := by decide +kernel
theorem dX11_count_30 : decode cX11_count 30 = .ok (.getfield 7, 3) := by decide +kernel
theorem dX11_count_33 : decode cX11_count 33 = .ok (.iload_n 1, 1) := by decide +kernel
theorem dX11_count_34 : decode cX11_count 34 = .ok (.laload, 1) := by decide +kernel
theorem dX11_count_35 : decode cX11_count 35 = .ok (.l2i, 1) := by decide +kernel
theorem dX11_count_36 : decode cX11_count 36 = .ok (.ireturn, 1) := by decide +kernel
theorem dX11_netAssets_0 : decode cX11_netAssets 0 = .ok (.aload_n 0, 1) := by decide +kernel
theorem dX11_netAssets_1 : decode cX11_netAssets 1 = .ok (.iconst 0, 1) := by decide +kernel
theorem dX11_netAssets_2 : decode cX11_netAssets 2 = .ok (.putfield 58, 3) := by decide +kernel
theorem dX11_netAssets_5 : decode cX11_netAssets 5 = .ok (.aload_n 0, 1) := by decide +kernel
theorem dX11_netAssets_6 : decode cX11_netAssets 6 = .ok (.invokevirtual 169, 3) := by decide +kernel
theorem dX11_netAssets_9 : decode cX11_netAssets 9 = .ok (.lreturn, 1) := by decide +kernel
theorem dX11_account_0 : decode cX11_account 0 = .ok (.aload_n 0, 1) := by decide +kernel
theorem dX11_account_1 : decode cX11_account 1 = .ok (.iload_n 1, 1) := by decide +kernel
theorem dX11_account_2 : decode cX11_account 2 = .ok (.i2l, 1) := by decide +kernel
theorem dX11_account_3 : decode cX11_account 3 = .ok (.lconst 0, 1) := by decide +kernel
theorem dX11_account_4 : decode cX11_account 4 = .ok (.ldc2_w 416, 3) := by decide +kernel
theorem dX11_account_7 : decode cX11_account 7 = .ok (.invokestatic 61, 3) := by decide +kernel
theorem dX11_account_10 : decode cX11_account 10 = .ok (.ifCond .ne 7, 3) := by decide +kernel
theorem dX11_account_13 : decode cX11_account 13 = .ok (.iconst 1, 1) := by decide +kernel
theorem dX11_account_14 : decode cX11_account 14 = .ok (.goto 4, 3) := by decide +kernel
theorem dX11_account_17 : decode cX11_account 17 = .ok (.iconst 0, 1) := by decide +kernel
theorem dX11_account_18 : decode cX11_account 18 = .ok (.iconst 1, 1) := by decide +kernel
theorem dX11_account_19 : decode cX11_account 19 = .ok (.invokevirtual 69, 3) := by decide +kernel
theorem dX11_account_22 : decode cX11_account 22 = .ok (.ifCond .eq 7, 3) := by decide +kernel
theorem dX11_account_25 : decode cX11_account 25 = .ok (.lconst 0, 1) := by decide +kernel
theorem dX11_account_26 : decode cX11_account 26 = .ok (.goto 12, 3) := by decide +kernel
theorem dX11_account_29 : decode cX11_account 29 = .ok (.aload_n 0, 1) := by decide +kernel
theorem dX11_account_30 : decode cX11_account 30 = .ok (.getfield 7, 3) := by decide +kernel
theorem dX11_account_33 : decode cX11_account 33 = .ok (.bipush 10, 2) := by decide +kernel
theorem dX11_account_35 : decode cX11_account 35 = .ok (.iload_n 1, 1) := by decide +kernel
theorem dX11_account_36 : decode cX11_account 36 = .ok (.iadd, 1) := by decide +kernel
theorem dX11_account_37 : decode cX11_account 37 = .ok (.laload, 1) := by decide +kernel
theorem dX11_account_38 : decode cX11_account 38 = .ok (.lreturn, 1) := by decide +kernel
theorem dX11_openSeries_0 : decode cX11_openSeries 0 = .ok (.aload_n 0, 1) := by decide +kernel
theorem dX11_openSeries_1 : decode cX11_openSeries 1 = .ok (.iload_n 1, 1) := by decide +kernel
theorem dX11_openSeries_2 : decode cX11_openSeries 2 = .ok (.i2l, 1) := by decide +kernel
theorem dX11_openSeries_3 : decode cX11_openSeries 3 = .ok (.lconst 0, 1) := by decide +kernel
theorem dX11_openSeries_4 : decode cX11_openSeries 4 = .ok (.aload_n 0, 1) := by decide +kernel
theorem dX11_openSeries_5 : decode cX11_openSeries 5 = .ok (.getfield 7, 3) := by decide +kernel
theorem dX11_openSeries_8 : decode cX11_openSeries 8 = .ok (.bipush 6, 2) := by decide +kernel
theorem dX11_openSeries_10 : decode cX11_openSeries 10 = .ok (.laload, 1) := by decide +kernel
theorem dX11_openSeries_11 : decode cX11_openSeries 11 = .ok (.lconst 1, 1) := by decide +kernel
theorem dX11_openSeries_12 : decode cX11_openSeries 12 = .ok (.lsub, 1) := by decide +kernel
theorem dX11_openSeries_13 : decode cX11_openSeries 13 = .ok (.invokestatic 61, 3) := by decide +kernel
theorem dX11_openSeries_16 : decode cX11_openSeries 16 = .ok (.ifCond .ne 7, 3) := by decide +kernel
theorem dX11_openSeries_19 : decode cX11_openSeries 19 = .ok (.iconst 1, 1) := by decide +kernel
theorem dX11_openSeries_20 : decode cX11_openSeries 20 = .ok (.goto 4, 3) := by decide +kernel
theorem dX11_openSeries_23 : decode cX11_openSeries 23 = .ok (.iconst 0, 1) := by decide +kernel
theorem dX11_openSeries_24 : decode cX11_openSeries 24 = .ok (.iconst 1, 1) := by decide +kernel
theorem dX11_openSeries_25 : decode cX11_openSeries 25 = .ok (.invokevirtual 69, 3) := by decide +kernel
theorem dX11_openSeries_28 : decode cX11_openSeries 28 = .ok (.ifCond .eq 7, 3) := by decide +kernel
theorem dX11_openSeries_31 : decode cX11_openSeries 31 = .ok (.iconst 0, 1) := by decide +kernel
theorem dX11_openSeries_32 : decode cX11_openSeries 32 = .ok (.goto 15, 3) := by decide +kernel
theorem dX11_openSeries_35 : decode cX11_openSeries 35 = .ok (.aload_n 0, 1) := by decide +kernel
theorem dX11_openSeries_36 : decode cX11_openSeries 36 = .ok (.getfield 7, 3) := by decide +kernel
theorem dX11_openSeries_39 : decode cX11_openSeries 39 = .ok (.iload_n 1, 1) := by decide +kernel
theorem dX11_openSeries_40 : decode cX11_openSeries 40 = .ok (.invokestatic 87, 3) := by decide +kernel
theorem dX11_openSeries_43 : decode cX11_openSeries 43 = .ok (.iconst 0, 1) := by decide +kernel
theorem dX11_openSeries_44 : decode cX11_openSeries 44 = .ok (.iadd, 1) := by decide +kernel
theorem dX11_openSeries_45 : decode cX11_openSeries 45 = .ok (.laload, 1) := by decide +kernel
theorem dX11_openSeries_46 : decode cX11_openSeries 46 = .ok (.l2i, 1) := by decide +kernel
theorem dX11_openSeries_47 : decode cX11_openSeries 47 = .ok (.ireturn, 1) := by decide +kernel
theorem dX11_lotsIn_0 : decode cX11_lotsIn 0 = .ok (.lconst 0, 1) := by decide +kernel
theorem dX11_lotsIn_1 : decode cX11_lotsIn 1 = .ok (.lstore_n 2, 1) := by decide +kernel
theorem dX11_lotsIn_2 : decode cX11_lotsIn 2 = .ok (.iconst 0, 1) := by decide +kernel
theorem dX11_lotsIn_3 : decode cX11_lotsIn 3 = .ok (.istore 4, 2) := by decide +kernel
theorem dX11_lotsIn_5 : decode cX11_lotsIn 5 = .ok (.iload 4, 2) := by decide +kernel
theorem dX11_lotsIn_7 : decode cX11_lotsIn 7 = .ok (.i2l, 1) := by decide +kernel
theorem dX11_lotsIn_8 : decode cX11_lotsIn 8 = .ok (.aload_n 0, 1) := by decide +kernel
theorem dX11_lotsIn_9 : decode cX11_lotsIn 9 = .ok (.getfield 7, 3) := by decide +kernel
theorem dX11_lotsIn_12 : decode cX11_lotsIn 12 = .ok (.bipush 7, 2) := by decide +kernel
theorem dX11_lotsIn_14 : decode cX11_lotsIn 14 = .ok (.laload, 1) := by decide +kernel
theorem dX11_lotsIn_15 : decode cX11_lotsIn 15 = .ok (.lcmp, 1) := by decide +kernel
theorem dX11_lotsIn_16 : decode cX11_lotsIn 16 = .ok (.ifCond .ge 41, 3) := by decide +kernel
theorem dX11_lotsIn_19 : decode cX11_lotsIn 19 = .ok (.lload_n 2, 1) := by decide +kernel
theorem dX11_lotsIn_20 : decode cX11_lotsIn 20 = .ok (.aload_n 0, 1) := by decide +kernel
theorem dX11_lotsIn_21 : decode cX11_lotsIn 21 = .ok (.getfield 7, 3) := by decide +kernel
theorem dX11_lotsIn_24 : decode cX11_lotsIn 24 = .ok (.iload 4, 2) := by decide +kernel
theorem dX11_lotsIn_26 : decode cX11_lotsIn 26 = .ok (.invokestatic 115, 3) := by decide +kernel
theorem dX11_lotsIn_29 : decode cX11_lotsIn 29 = .ok (.iconst 1, 1) := by decide +kernel
theorem dX11_lotsIn_30 : decode cX11_lotsIn 30 = .ok (.iadd, 1) := by decide +kernel
theorem dX11_lotsIn_31 : decode cX11_lotsIn 31 = .ok (.laload, 1) := by decide +kernel
theorem dX11_lotsIn_32 : decode cX11_lotsIn 32 = .ok (.aload_n 0, 1) := by decide +kernel
theorem dX11_lotsIn_33 : decode cX11_lotsIn 33 = .ok (.getfield 7, 3) := by decide +kernel
theorem dX11_lotsIn_36 : decode cX11_lotsIn 36 = .ok (.iload_n 1, 1) := by decide +kernel
theorem dX11_lotsIn_37 : decode cX11_lotsIn 37 = .ok (.iconst 0, 1) := by decide +kernel
theorem dX11_lotsIn_38 : decode cX11_lotsIn 38 = .ok (.iadd, 1) := by decide +kernel
theorem dX11_lotsIn_39 : decode cX11_lotsIn 39 = .ok (.laload, 1) := by decide +kernel
theorem dX11_lotsIn_40 : decode cX11_lotsIn 40 = .ok (.lcmp, 1) := by decide +kernel
theorem dX11_lotsIn_41 : decode cX11_lotsIn 41 = .ok (.ifCond .ne 7, 3) := by decide +kernel
theorem dX11_lotsIn_44 : decode cX11_lotsIn 44 = .ok (.lconst 1, 1) := by decide +kernel
theorem dX11_lotsIn_45 : decode cX11_lotsIn 45 = .ok (.goto 4, 3) := by decide +kernel
theorem dX11_lotsIn_48 : decode cX11_lotsIn 48 = .ok (.lconst 0, 1) := by decide +kernel
theorem dX11_lotsIn_49 : decode cX11_lotsIn 49 = .ok (.ladd, 1) := by decide +kernel
theorem dX11_lotsIn_50 : decode cX11_lotsIn 50 = .ok (.lstore_n 2, 1) := by decide +kernel
theorem dX11_lotsIn_51 : decode cX11_lotsIn 51 = .ok (.iinc 4 1, 3) := by decide +kernel
theorem dX11_lotsIn_54 : decode cX11_lotsIn 54 = .ok (.goto (-49), 3) := by decide +kernel
theorem dX11_lotsIn_57 : decode cX11_lotsIn 57 = .ok (.lload_n 2, 1) := by decide +kernel
theorem dX11_lotsIn_58 : decode cX11_lotsIn 58 = .ok (.lreturn, 1) := by decide +kernel
theorem dX11_seriesValue_0 : decode cX11_seriesValue 0 = .ok (.aload_n 0, 1) := by decide +kernel
theorem dX11_seriesValue_1 : decode cX11_seriesValue 1 = .ok (.iload_n 1, 1) := by decide +kernel
theorem dX11_seriesValue_2 : decode cX11_seriesValue 2 = .ok (.i2l, 1) := by decide +kernel
theorem dX11_seriesValue_3 : decode cX11_seriesValue 3 = .ok (.invokevirtual 90, 3) := by decide +kernel
theorem dX11_seriesValue_6 : decode cX11_seriesValue 6 = .ok (.istore_n 3, 1) := by decide +kernel
theorem dX11_seriesValue_7 : decode cX11_seriesValue 7 = .ok (.aload_n 0, 1) := by decide +kernel
theorem dX11_seriesValue_8 : decode cX11_seriesValue 8 = .ok (.iload_n 3, 1) := by decide +kernel
theorem dX11_seriesValue_9 : decode cX11_seriesValue 9 = .ok (.iconst (-1), 1) := by decide +kernel
theorem dX11_seriesValue_10 : decode cX11_seriesValue 10 = .ok (.if_icmp .ne 7, 3) := by decide +kernel
theorem dX11_seriesValue_13 : decode cX11_seriesValue 13 = .ok (.iconst 1, 1) := by decide +kernel
theorem dX11_seriesValue_14 : decode cX11_seriesValue 14 = .ok (.goto 4, 3) := by decide +kernel
theorem dX11_seriesValue_17 : decode cX11_seriesValue 17 = .ok (.iconst 0, 1) := by decide +kernel
theorem dX11_seriesValue_18 : decode cX11_seriesValue 18 = .ok (.iconst 1, 1) := by decide +kernel
theorem dX11_seriesValue_19 : decode cX11_seriesValue 19 = .ok (.invokevirtual 69, 3) := by decide +kernel
theorem dX11_seriesValue_22 : decode cX11_seriesValue 22 = .ok (.ifCond .ne 28, 3) := by decide +kernel
theorem dX11_seriesValue_25 : decode cX11_seriesValue 25 = .ok (.aload_n 0, 1) := by decide +kernel
theorem dX11_seriesValue_26 : decode cX11_seriesValue 26 = .ok (.iload_n 2, 1) := by decide +kernel
theorem dX11_seriesValue_27 : decode cX11_seriesValue 27 = .ok (.i2l, 1) := by decide +kernel
theorem dX11_seriesValue_28 : decode cX11_seriesValue 28 = .ok (.lconst 0, 1) := by decide +kernel
theorem dX11_seriesValue_29 : decode cX11_seriesValue 29 = .ok (.ldc2_w 426, 3) := by decide +kernel
theorem dX11_seriesValue_32 : decode cX11_seriesValue 32 = .ok (.invokestatic 61, 3) := by decide +kernel
theorem dX11_seriesValue_35 : decode cX11_seriesValue 35 = .ok (.ifCond .ne 7, 3) := by decide +kernel
theorem dX11_seriesValue_38 : decode cX11_seriesValue 38 = .ok (.iconst 1, 1) := by decide +kernel
theorem dX11_seriesValue_39 : decode cX11_seriesValue 39 = .ok (.goto 4, 3) := by decide +kernel
theorem dX11_seriesValue_42 : decode cX11_seriesValue 42 = .ok (.iconst 0, 1) := by decide +kernel
theorem dX11_seriesValue_43 : decode cX11_seriesValue 43 = .ok (.iconst 2, 1) := by decide +kernel
theorem dX11_seriesValue_44 : decode cX11_seriesValue 44 = .ok (.invokevirtual 69, 3) := by decide +kernel
theorem dX11_seriesValue_47 : decode cX11_seriesValue 47 = .ok (.ifCond .eq 5, 3) := by decide +kernel
theorem dX11_seriesValue_50 : decode cX11_seriesValue 50 = .ok (.lconst 0, 1) := by decide +kernel
theorem dX11_seriesValue_51 : decode cX11_seriesValue 51 = .ok (.lreturn, 1) := by decide +kernel
theorem dX11_seriesValue_52 : decode cX11_seriesValue 52 = .ok (.iload_n 2, 1) := by decide +kernel
theorem dX11_seriesValue_53 : decode cX11_seriesValue 53 = .ok (.tableswitch 110 0 6 #[43, 52, 61, 70, 76, 82, 101], 43) := by decide +kernel
theorem dX11_seriesValue_96 : decode cX11_seriesValue 96 = .ok (.aload_n 0, 1) := by decide +kernel
theorem dX11_seriesValue_97 : decode cX11_seriesValue 97 = .ok (.getfield 7, 3) := by decide +kernel
theorem dX11_seriesValue_100 : decode cX11_seriesValue 100 = .ok (.iload_n 3, 1) := by decide +kernel
theorem dX11_seriesValue_101 : decode cX11_seriesValue 101 = .ok (.iconst 2, 1) := by decide +kernel
theorem dX11_seriesValue_102 : decode cX11_seriesValue 102 = .ok (.iadd, 1) := by decide +kernel
theorem dX11_seriesValue_103 : decode cX11_seriesValue 103 = .ok (.laload, 1) := by decide +kernel
theorem dX11_seriesValue_104 : decode cX11_seriesValue 104 = .ok (.lreturn, 1) := by decide +kernel
theorem dX11_seriesValue_105 : decode cX11_seriesValue 105 = .ok (.aload_n 0, 1) := by decide +kernel
theorem dX11_seriesValue_106 : decode cX11_seriesValue 106 = .ok (.getfield 7, 3) := by decide +kernel
theorem dX11_seriesValue_109 : decode cX11_seriesValue 109 = .ok (.iload_n 3, 1) := by decide +kernel
theorem dX11_seriesValue_110 : decode cX11_seriesValue 110 = .ok (.iconst 3, 1) := by decide +kernel
theorem dX11_seriesValue_111 : decode cX11_seriesValue 111 = .ok (.iadd, 1) := by decide +kernel
theorem dX11_seriesValue_112 : decode cX11_seriesValue 112 = .ok (.laload, 1) := by decide +kernel
theorem dX11_seriesValue_113 : decode cX11_seriesValue 113 = .ok (.lreturn, 1) := by decide +kernel
theorem dX11_seriesValue_114 : decode cX11_seriesValue 114 = .ok (.aload_n 0, 1) := by decide +kernel
theorem dX11_seriesValue_115 : decode cX11_seriesValue 115 = .ok (.getfield 7, 3) := by decide +kernel
theorem dX11_seriesValue_118 : decode cX11_seriesValue 118 = .ok (.iload_n 3, 1) := by decide +kernel
theorem dX11_seriesValue_119 : decode cX11_seriesValue 119 = .ok (.iconst 4, 1) := by decide +kernel
theorem dX11_seriesValue_120 : decode cX11_seriesValue 120 = .ok (.iadd, 1) := by decide +kernel
theorem dX11_seriesValue_121 : decode cX11_seriesValue 121 = .ok (.laload, 1) := by decide +kernel
theorem dX11_seriesValue_122 : decode cX11_seriesValue 122 = .ok (.lreturn, 1) := by decide +kernel
theorem dX11_seriesValue_123 : decode cX11_seriesValue 123 = .ok (.aload_n 0, 1) := by decide +kernel
theorem dX11_seriesValue_124 : decode cX11_seriesValue 124 = .ok (.iload_n 3, 1) := by decide +kernel
theorem dX11_seriesValue_125 : decode cX11_seriesValue 125 = .ok (.invokevirtual 102, 3) := by decide +kernel
theorem dX11_seriesValue_128 : decode cX11_seriesValue 128 = .ok (.lreturn, 1) := by decide +kernel
theorem dX11_seriesValue_129 : decode cX11_seriesValue 129 = .ok (.aload_n 0, 1) := by decide +kernel
theorem dX11_seriesValue_130 : decode cX11_seriesValue 130 = .ok (.iload_n 3, 1) := by decide +kernel
theorem dX11_seriesValue_131 : decode cX11_seriesValue 131 = .ok (.invokevirtual 121, 3) := by decide +kernel
theorem dX11_seriesValue_134 : decode cX11_seriesValue 134 = .ok (.lreturn, 1) := by decide +kernel
theorem dX11_seriesValue_135 : decode cX11_seriesValue 135 = .ok (.aload_n 0, 1) := by decide +kernel
theorem dX11_seriesValue_136 : decode cX11_seriesValue 136 = .ok (.iload_n 3, 1) := by decide +kernel
theorem dX11_seriesValue_137 : decode cX11_seriesValue 137 = .ok (.invokevirtual 106, 3) := by decide +kernel
theorem dX11_seriesValue_140 : decode cX11_seriesValue 140 = .ok (.ldc2_w 94, 3) := by decide +kernel
theorem dX11_seriesValue_143 : decode cX11_seriesValue 143 = .ok (.lmul, 1) := by decide +kernel
theorem dX11_seriesValue_144 : decode cX11_seriesValue 144 = .ok (.aload_n 0, 1) := by decide +kernel
theorem dX11_seriesValue_145 : decode cX11_seriesValue 145 = .ok (.getfield 7, 3) := by decide +kernel
theorem dX11_seriesValue_148 : decode cX11_seriesValue 148 = .ok (.iload_n 3, 1) := by decide +kernel
theorem dX11_seriesValue_149 : decode cX11_seriesValue 149 = .ok (.iconst 3, 1) := by decide +kernel
theorem dX11_seriesValue_150 : decode cX11_seriesValue 150 = .ok (.iadd, 1) := by decide +kernel
theorem dX11_seriesValue_151 : decode cX11_seriesValue 151 = .ok (.laload, 1) := by decide +kernel
theorem dX11_seriesValue_152 : decode cX11_seriesValue 152 = .ok (.ldiv, 1) := by decide +kernel
theorem dX11_seriesValue_153 : decode cX11_seriesValue 153 = .ok (.lreturn, 1) := by decide +kernel
theorem dX11_seriesValue_154 : decode cX11_seriesValue 154 = .ok (.aload_n 0, 1) := by decide +kernel
theorem dX11_seriesValue_155 : decode cX11_seriesValue 155 = .ok (.getfield 7, 3) := by decide +kernel
theorem dX11_seriesValue_158 : decode cX11_seriesValue 158 = .ok (.iload_n 3, 1) := by decide +kernel
theorem dX11_seriesValue_159 : decode cX11_seriesValue 159 = .ok (.iconst 1, 1) := by decide +kernel
theorem dX11_seriesValue_160 : decode cX11_seriesValue 160 = .ok (.iadd, 1) := by decide +kernel
theorem dX11_seriesValue_161 : decode cX11_seriesValue 161 = .ok (.laload, 1) := by decide +kernel
theorem dX11_seriesValue_162 : decode cX11_seriesValue 162 = .ok (.lreturn, 1) := by decide +kernel
theorem dX11_seriesValue_163 : decode cX11_seriesValue 163 = .ok (.aload_n 0, 1) := by decide +kernel
theorem dX11_seriesValue_164 : decode cX11_seriesValue 164 = .ok (.iload_n 3, 1) := by decide +kernel
theorem dX11_seriesValue_165 : decode cX11_seriesValue 165 = .ok (.invokevirtual 428, 3) := by decide +kernel
theorem dX11_seriesValue_168 : decode cX11_seriesValue 168 = .ok (.lreturn, 1) := by decide +kernel
theorem dX11_lot_0 : decode cX11_lot 0 = .ok (.aload_n 0, 1) := by decide +kernel
theorem dX11_lot_1 : decode cX11_lot 1 = .ok (.iload_n 1, 1) := by decide +kernel
theorem dX11_lot_2 : decode cX11_lot 2 = .ok (.i2l, 1) := by decide +kernel
theorem dX11_lot_3 : decode cX11_lot 3 = .ok (.lconst 0, 1) := by decide +kernel
theorem dX11_lot_4 : decode cX11_lot 4 = .ok (.aload_n 0, 1) := by decide +kernel
theorem dX11_lot_5 : decode cX11_lot 5 = .ok (.getfield 7, 3) := by decide +kernel
theorem dX11_lot_8 : decode cX11_lot 8 = .ok (.bipush 7, 2) := by decide +kernel
theorem dX11_lot_10 : decode cX11_lot 10 = .ok (.laload, 1) := by decide +kernel
theorem dX11_lot_11 : decode cX11_lot 11 = .ok (.lconst 1, 1) := by decide +kernel
theorem dX11_lot_12 : decode cX11_lot 12 = .ok (.lsub, 1) := by decide +kernel
theorem dX11_lot_13 : decode cX11_lot 13 = .ok (.invokestatic 61, 3) := by decide +kernel
theorem dX11_lot_16 : decode cX11_lot 16 = .ok (.ifCond .ne 7, 3) := by decide +kernel
theorem dX11_lot_19 : decode cX11_lot 19 = .ok (.iconst 1, 1) := by decide +kernel
theorem dX11_lot_20 : decode cX11_lot 20 = .ok (.goto 4, 3) := by decide +kernel
theorem dX11_lot_23 : decode cX11_lot 23 = .ok (.iconst 0, 1) := by decide +kernel
theorem dX11_lot_24 : decode cX11_lot 24 = .ok (.iconst 1, 1) := by decide +kernel
theorem dX11_lot_25 : decode cX11_lot 25 = .ok (.invokevirtual 69, 3) := by decide +kernel
theorem dX11_lot_28 : decode cX11_lot 28 = .ok (.ifCond .ne 28, 3) := by decide +kernel
theorem dX11_lot_31 : decode cX11_lot 31 = .ok (.aload_n 0, 1) := by decide +kernel
theorem dX11_lot_32 : decode cX11_lot 32 = .ok (.iload_n 2, 1) := by decide +kernel
theorem dX11_lot_33 : decode cX11_lot 33 = .ok (.i2l, 1) := by decide +kernel
theorem dX11_lot_34 : decode cX11_lot 34 = .ok (.lconst 0, 1) := by decide +kernel
theorem dX11_lot_35 : decode cX11_lot 35 = .ok (.ldc2_w 416, 3) := by decide +kernel
theorem dX11_lot_38 : decode cX11_lot 38 = .ok (.invokestatic 61, 3) := by decide +kernel
theorem dX11_lot_41 : decode cX11_lot 41 = .ok (.ifCond .ne 7, 3) := by decide +kernel
theorem dX11_lot_44 : decode cX11_lot 44 = .ok (.iconst 1, 1) := by decide +kernel
theorem dX11_lot_45 : decode cX11_lot 45 = .ok (.goto 4, 3) := by decide +kernel
theorem dX11_lot_48 : decode cX11_lot 48 = .ok (.iconst 0, 1) := by decide +kernel
theorem dX11_lot_49 : decode cX11_lot 49 = .ok (.iconst 2, 1) := by decide +kernel
theorem dX11_lot_50 : decode cX11_lot 50 = .ok (.invokevirtual 69, 3) := by decide +kernel
theorem dX11_lot_53 : decode cX11_lot 53 = .ok (.ifCond .eq 7, 3) := by decide +kernel
theorem dX11_lot_56 : decode cX11_lot 56 = .ok (.lconst 0, 1) := by decide +kernel
theorem dX11_lot_57 : decode cX11_lot 57 = .ok (.goto 14, 3) := by decide +kernel
theorem dX11_lot_60 : decode cX11_lot 60 = .ok (.aload_n 0, 1) := by decide +kernel
theorem dX11_lot_61 : decode cX11_lot 61 = .ok (.getfield 7, 3) := by decide +kernel
theorem dX11_lot_64 : decode cX11_lot 64 = .ok (.iload_n 1, 1) := by decide +kernel
theorem dX11_lot_65 : decode cX11_lot 65 = .ok (.invokestatic 115, 3) := by decide +kernel
theorem dX11_lot_68 : decode cX11_lot 68 = .ok (.iload_n 2, 1) := by decide +kernel
theorem dX11_lot_69 : decode cX11_lot 69 = .ok (.iadd, 1) := by decide +kernel
theorem dX11_lot_70 : decode cX11_lot 70 = .ok (.laload, 1) := by decide +kernel
theorem dX11_lot_71 : decode cX11_lot 71 = .ok (.lreturn, 1) := by decide +kernel
theorem dX11_request_0 : decode cX11_request 0 = .ok (.aload_n 0, 1) := by decide +kernel
theorem dX11_request_1 : decode cX11_request 1 = .ok (.iload_n 1, 1) := by decide +kernel
theorem dX11_request_2 : decode cX11_request 2 = .ok (.invokevirtual 238, 3) := by decide +kernel
theorem dX11_request_5 : decode cX11_request 5 = .ok (.ifCond .ne 28, 3) := by decide +kernel
theorem dX11_request_8 : decode cX11_request 8 = .ok (.aload_n 0, 1) := by decide +kernel
theorem dX11_request_9 : decode cX11_request 9 = .ok (.iload_n 2, 1) := by decide +kernel
theorem dX11_request_10 : decode cX11_request 10 = .ok (.i2l, 1) := by decide +kernel
theorem dX11_request_11 : decode cX11_request 11 = .ok (.lconst 0, 1) := by decide +kernel
theorem dX11_request_12 : decode cX11_request 12 = .ok (.ldc2_w 414, 3) := by decide +kernel
theorem dX11_request_15 : decode cX11_request 15 = .ok (.invokestatic 61, 3) := by decide +kernel
theorem dX11_request_18 : decode cX11_request 18 = .ok (.ifCond .ne 7, 3) := by decide +kernel
theorem dX11_request_21 : decode cX11_request 21 = .ok (.iconst 1, 1) := by decide +kernel
theorem dX11_request_22 : decode cX11_request 22 = .ok (.goto 4, 3) := by decide +kernel
theorem dX11_request_25 : decode cX11_request 25 = .ok (.iconst 0, 1) := by decide +kernel
theorem dX11_request_26 : decode cX11_request 26 = .ok (.iconst 2, 1) := by decide +kernel
theorem dX11_request_27 : decode cX11_request 27 = .ok (.invokevirtual 69, 3) := by decide +kernel
theorem dX11_request_30 : decode cX11_request 30 = .ok (.ifCond .eq 7, 3) := by decide +kernel
theorem dX11_request_33 : decode cX11_request 33 = .ok (.lconst 0, 1) := by decide +kernel
theorem dX11_request_34 : decode cX11_request 34 = .ok (.goto 14, 3) := by decide +kernel
theorem dX11_request_37 : decode cX11_request 37 = .ok (.aload_n 0, 1) := by decide +kernel
theorem dX11_request_38 : decode cX11_request 38 = .ok (.getfield 7, 3) := by decide +kernel
theorem dX11_request_41 : decode cX11_request 41 = .ok (.iload_n 1, 1) := by decide +kernel
theorem dX11_request_42 : decode cX11_request 42 = .ok (.invokestatic 160, 3) := by decide +kernel
theorem dX11_request_45 : decode cX11_request 45 = .ok (.iload_n 2, 1) := by decide +kernel
theorem dX11_request_46 : decode cX11_request 46 = .ok (.iadd, 1) := by decide +kernel
theorem dX11_request_47 : decode cX11_request 47 = .ok (.laload, 1) := by decide +kernel
theorem dX11_request_48 : decode cX11_request 48 = .ok (.lreturn, 1) := by decide +kernel
theorem dX11_unitsOf_0 : decode cX11_unitsOf 0 = .ok (.aload_n 0, 1) := by decide +kernel
theorem dX11_unitsOf_1 : decode cX11_unitsOf 1 = .ok (.iload_n 1, 1) := by decide +kernel
theorem dX11_unitsOf_2 : decode cX11_unitsOf 2 = .ok (.invokevirtual 214, 3) := by decide +kernel
theorem dX11_unitsOf_5 : decode cX11_unitsOf 5 = .ok (.ifCond .eq 7, 3) := by decide +kernel
theorem dX11_unitsOf_8 : decode cX11_unitsOf 8 = .ok (.lconst 0, 1) := by decide +kernel
theorem dX11_unitsOf_9 : decode cX11_unitsOf 9 = .ok (.goto 8, 3) := by decide +kernel
theorem dX11_unitsOf_12 : decode cX11_unitsOf 12 = .ok (.aload_n 0, 1) := by decide +kernel
theorem dX11_unitsOf_13 : decode cX11_unitsOf 13 = .ok (.iload_n 1, 1) := by decide +kernel
theorem dX11_unitsOf_14 : decode cX11_unitsOf 14 = .ok (.invokevirtual 153, 3) := by decide +kernel
theorem dX11_unitsOf_17 : decode cX11_unitsOf 17 = .ok (.lreturn, 1) := by decide +kernel
theorem dX11_heldIn_0 : decode cX11_heldIn 0 = .ok (.lconst 0, 1) := by decide +kernel
theorem dX11_heldIn_1 : decode cX11_heldIn 1 = .ok (.lstore 4, 2) := by decide +kernel
theorem dX11_heldIn_3 : decode cX11_heldIn 3 = .ok (.iconst 0, 1) := by decide +kernel
theorem dX11_heldIn_4 : decode cX11_heldIn 4 = .ok (.istore 6, 2) := by decide +kernel
theorem dX11_heldIn_6 : decode cX11_heldIn 6 = .ok (.iload 6, 2) := by decide +kernel
theorem dX11_heldIn_8 : decode cX11_heldIn 8 = .ok (.i2l, 1) := by decide +kernel
theorem dX11_heldIn_9 : decode cX11_heldIn 9 = .ok (.aload_n 0, 1) := by decide +kernel
theorem dX11_heldIn_10 : decode cX11_heldIn 10 = .ok (.getfield 7, 3) := by decide +kernel
theorem dX11_heldIn_13 : decode cX11_heldIn 13 = .ok (.bipush 7, 2) := by decide +kernel
theorem dX11_heldIn_15 : decode cX11_heldIn 15 = .ok (.laload, 1) := by decide +kernel
theorem dX11_heldIn_16 : decode cX11_heldIn 16 = .ok (.lcmp, 1) := by decide +kernel
theorem dX11_heldIn_17 : decode cX11_heldIn 17 = .ok (.ifCond .ge 63, 3) := by decide +kernel
theorem dX11_heldIn_20 : decode cX11_heldIn 20 = .ok (.iload 6, 2) := by decide +kernel
theorem dX11_heldIn_22 : decode cX11_heldIn 22 = .ok (.invokestatic 115, 3) := by decide +kernel
theorem dX11_heldIn_25 : decode cX11_heldIn 25 = .ok (.istore 7, 2) := by decide +kernel
theorem dX11_heldIn_27 : decode cX11_heldIn 27 = .ok (.lload 4, 2) := by decide +kernel
theorem dX11_heldIn_29 : decode cX11_heldIn 29 = .ok (.aload_n 0, 1) := by decide +kernel
theorem dX11_heldIn_30 : decode cX11_heldIn 30 = .ok (.getfield 7, 3) := by decide +kernel
theorem dX11_heldIn_33 : decode cX11_heldIn 33 = .ok (.iload 7, 2) := by decide +kernel
theorem dX11_heldIn_35 : decode cX11_heldIn 35 = .ok (.iconst 0, 1) := by decide +kernel
theorem dX11_heldIn_36 : decode cX11_heldIn 36 = .ok (.iadd, 1) := by decide +kernel
theorem dX11_heldIn_37 : decode cX11_heldIn 37 = .ok (.laload, 1) := by decide +kernel
theorem dX11_heldIn_38 : decode cX11_heldIn 38 = .ok (.iload_n 1, 1) := by decide +kernel
theorem dX11_heldIn_39 : decode cX11_heldIn 39 = .ok (.i2l, 1) := by decide +kernel
theorem dX11_heldIn_40 : decode cX11_heldIn 40 = .ok (.lcmp, 1) := by decide +kernel
theorem dX11_heldIn_41 : decode cX11_heldIn 41 = .ok (.ifCond .ne 29, 3) := by decide +kernel
theorem dX11_heldIn_44 : decode cX11_heldIn 44 = .ok (.aload_n 0, 1) := by decide +kernel
theorem dX11_heldIn_45 : decode cX11_heldIn 45 = .ok (.getfield 7, 3) := by decide +kernel
theorem dX11_heldIn_48 : decode cX11_heldIn 48 = .ok (.iload 7, 2) := by decide +kernel
theorem dX11_heldIn_50 : decode cX11_heldIn 50 = .ok (.iconst 1, 1) := by decide +kernel
theorem dX11_heldIn_51 : decode cX11_heldIn 51 = .ok (.iadd, 1) := by decide +kernel
theorem dX11_heldIn_52 : decode cX11_heldIn 52 = .ok (.laload, 1) := by decide +kernel
theorem dX11_heldIn_53 : decode cX11_heldIn 53 = .ok (.lload_n 2, 1) := by decide +kernel
theorem dX11_heldIn_54 : decode cX11_heldIn 54 = .ok (.lcmp, 1) := by decide +kernel
theorem dX11_heldIn_55 : decode cX11_heldIn 55 = .ok (.ifCond .ne 15, 3) := by decide +kernel
theorem dX11_heldIn_58 : decode cX11_heldIn 58 = .ok (.aload_n 0, 1) := by decide +kernel
theorem dX11_heldIn_59 : decode cX11_heldIn 59 = .ok (.getfield 7, 3) := by decide +kernel
theorem dX11_heldIn_62 : decode cX11_heldIn 62 = .ok (.iload 7, 2) := by decide +kernel
theorem dX11_heldIn_64 : decode cX11_heldIn 64 = .ok (.iconst 2, 1) := by decide +kernel
theorem dX11_heldIn_65 : decode cX11_heldIn 65 = .ok (.iadd, 1) := by decide +kernel
theorem dX11_heldIn_66 : decode cX11_heldIn 66 = .ok (.laload, 1) := by decide +kernel
theorem dX11_heldIn_67 : decode cX11_heldIn 67 = .ok (.goto 4, 3) := by decide +kernel
theorem dX11_heldIn_70 : decode cX11_heldIn 70 = .ok (.lconst 0, 1) := by decide +kernel
theorem dX11_heldIn_71 : decode cX11_heldIn 71 = .ok (.ladd, 1) := by decide +kernel
theorem dX11_heldIn_72 : decode cX11_heldIn 72 = .ok (.lstore 4, 2) := by decide +kernel
theorem dX11_heldIn_74 : decode cX11_heldIn 74 = .ok (.iinc 6 1, 3) := by decide +kernel
theorem dX11_heldIn_77 : decode cX11_heldIn 77 = .ok (.goto (-71), 3) := by decide +kernel
theorem dX11_heldIn_80 : decode cX11_heldIn 80 = .ok (.lload 4, 2) := by decide +kernel
theorem dX11_heldIn_82 : decode cX11_heldIn 82 = .ok (.lreturn, 1) := by decide +kernel
theorem dX11_holding_0 : decode cX11_holding 0 = .ok (.aload_n 0, 1) := by decide +kernel
theorem dX11_holding_1 : decode cX11_holding 1 = .ok (.aload_n 0, 1) := by decide +kernel
theorem dX11_holding_2 : decode cX11_holding 2 = .ok (.iload_n 1, 1) := by decide +kernel
theorem dX11_holding_3 : decode cX11_holding 3 = .ok (.invokevirtual 65, 3) := by decide +kernel
theorem dX11_holding_6 : decode cX11_holding 6 = .ok (.ifCond .eq 13, 3) := by decide +kernel
theorem dX11_holding_9 : decode cX11_holding 9 = .ok (.aload_n 0, 1) := by decide +kernel
theorem dX11_holding_10 : decode cX11_holding 10 = .ok (.iload_n 2, 1) := by decide +kernel
theorem dX11_holding_11 : decode cX11_holding 11 = .ok (.i2l, 1) := by decide +kernel
theorem dX11_holding_12 : decode cX11_holding 12 = .ok (.invokevirtual 90, 3) := by decide +kernel
theorem dX11_holding_15 : decode cX11_holding 15 = .ok (.iconst (-1), 1) := by decide +kernel
theorem dX11_holding_16 : decode cX11_holding 16 = .ok (.if_icmp .ne 7, 3) := by decide +kernel
theorem dX11_holding_19 : decode cX11_holding 19 = .ok (.iconst 1, 1) := by decide +kernel
theorem dX11_holding_20 : decode cX11_holding 20 = .ok (.goto 4, 3) := by decide +kernel
theorem dX11_holding_23 : decode cX11_holding 23 = .ok (.iconst 0, 1) := by decide +kernel
theorem dX11_holding_24 : decode cX11_holding 24 = .ok (.iconst 1, 1) := by decide +kernel
theorem dX11_holding_25 : decode cX11_holding 25 = .ok (.invokevirtual 69, 3) := by decide +kernel
theorem dX11_holding_28 : decode cX11_holding 28 = .ok (.ifCond .eq 7, 3) := by decide +kernel
theorem dX11_holding_31 : decode cX11_holding 31 = .ok (.lconst 0, 1) := by decide +kernel
theorem dX11_holding_32 : decode cX11_holding 32 = .ok (.goto 10, 3) := by decide +kernel
theorem dX11_holding_35 : decode cX11_holding 35 = .ok (.aload_n 0, 1) := by decide +kernel
theorem dX11_holding_36 : decode cX11_holding 36 = .ok (.iload_n 1, 1) := by decide +kernel
theorem dX11_holding_37 : decode cX11_holding 37 = .ok (.iload_n 2, 1) := by decide +kernel
theorem dX11_holding_38 : decode cX11_holding 38 = .ok (.i2l, 1) := by decide +kernel
theorem dX11_holding_39 : decode cX11_holding 39 = .ok (.invokevirtual 431, 3) := by decide +kernel
theorem dX11_holding_42 : decode cX11_holding 42 = .ok (.lreturn, 1) := by decide +kernel
theorem dX11_valueOf_0 : decode cX11_valueOf 0 = .ok (.aload_n 0, 1) := by decide +kernel
theorem dX11_valueOf_1 : decode cX11_valueOf 1 = .ok (.iload_n 1, 1) := by decide +kernel
theorem dX11_valueOf_2 : decode cX11_valueOf 2 = .ok (.invokevirtual 214, 3) := by decide +kernel
theorem dX11_valueOf_5 : decode cX11_valueOf 5 = .ok (.ifCond .eq 7, 3) := by decide +kernel
theorem dX11_valueOf_8 : decode cX11_valueOf 8 = .ok (.lconst 0, 1) := by decide +kernel
theorem dX11_valueOf_9 : decode cX11_valueOf 9 = .ok (.goto 8, 3) := by decide +kernel
theorem dX11_valueOf_12 : decode cX11_valueOf 12 = .ok (.aload_n 0, 1) := by decide +kernel
theorem dX11_valueOf_13 : decode cX11_valueOf 13 = .ok (.iload_n 1, 1) := by decide +kernel
theorem dX11_valueOf_14 : decode cX11_valueOf 14 = .ok (.invokevirtual 434, 3) := by decide +kernel
theorem dX11_valueOf_17 : decode cX11_valueOf 17 = .ok (.lreturn, 1) := by decide +kernel
theorem dX11_richest_0 : decode cX11_richest 0 = .ok (.aload_n 0, 1) := by decide +kernel
theorem dX11_richest_1 : decode cX11_richest 1 = .ok (.iconst 0, 1) := by decide +kernel
theorem dX11_richest_2 : decode cX11_richest 2 = .ok (.putfield 58, 3) := by decide +kernel
theorem dX11_richest_5 : decode cX11_richest 5 = .ok (.iconst 0, 1) := by decide +kernel
theorem dX11_richest_6 : decode cX11_richest 6 = .ok (.istore_n 2, 1) := by decide +kernel
theorem dX11_richest_7 : decode cX11_richest 7 = .ok (.iload_n 2, 1) := by decide +kernel
theorem dX11_richest_8 : decode cX11_richest 8 = .ok (.i2l, 1) := by decide +kernel
theorem dX11_richest_9 : decode cX11_richest 9 = .ok (.aload_n 0, 1) := by decide +kernel
theorem dX11_richest_10 : decode cX11_richest 10 = .ok (.getfield 7, 3) := by decide +kernel
theorem dX11_richest_13 : decode cX11_richest 13 = .ok (.iconst 0, 1) := by decide +kernel
theorem dX11_richest_14 : decode cX11_richest 14 = .ok (.laload, 1) := by decide +kernel
theorem dX11_richest_15 : decode cX11_richest 15 = .ok (.lcmp, 1) := by decide +kernel
theorem dX11_richest_16 : decode cX11_richest 16 = .ok (.ifCond .ge 85, 3) := by decide +kernel
theorem dX11_richest_19 : decode cX11_richest 19 = .ok (.iconst 0, 1) := by decide +kernel
theorem dX11_richest_20 : decode cX11_richest 20 = .ok (.istore_n 3, 1) := by decide +kernel
theorem dX11_richest_21 : decode cX11_richest 21 = .ok (.aload_n 0, 1) := by decide +kernel
theorem dX11_richest_22 : decode cX11_richest 22 = .ok (.iload_n 2, 1) := by decide +kernel
theorem dX11_richest_23 : decode cX11_richest 23 = .ok (.invokevirtual 434, 3) := by decide +kernel
theorem dX11_richest_26 : decode cX11_richest 26 = .ok (.lstore 4, 2) := by decide +kernel
theorem dX11_richest_28 : decode cX11_richest 28 = .ok (.iconst 0, 1) := by decide +kernel
theorem dX11_richest_29 : decode cX11_richest 29 = .ok (.istore 6, 2) := by decide +kernel
theorem dX11_richest_31 : decode cX11_richest 31 = .ok (.iload 6, 2) := by decide +kernel
theorem dX11_richest_33 : decode cX11_richest 33 = .ok (.i2l, 1) := by decide +kernel
theorem dX11_richest_34 : decode cX11_richest 34 = .ok (.aload_n 0, 1) := by decide +kernel
theorem dX11_richest_35 : decode cX11_richest 35 = .ok (.getfield 7, 3) := by decide +kernel
theorem dX11_richest_38 : decode cX11_richest 38 = .ok (.iconst 0, 1) := by decide +kernel
theorem dX11_richest_39 : decode cX11_richest 39 = .ok (.laload, 1) := by decide +kernel
theorem dX11_richest_40 : decode cX11_richest 40 = .ok (.lcmp, 1) := by decide +kernel
theorem dX11_richest_41 : decode cX11_richest 41 = .ok (.ifCond .ge 47, 3) := by decide +kernel
theorem dX11_richest_44 : decode cX11_richest 44 = .ok (.aload_n 0, 1) := by decide +kernel
theorem dX11_richest_45 : decode cX11_richest 45 = .ok (.iload 6, 2) := by decide +kernel
theorem dX11_richest_47 : decode cX11_richest 47 = .ok (.invokevirtual 434, 3) := by decide +kernel
theorem dX11_richest_50 : decode cX11_richest 50 = .ok (.lstore 7, 2) := by decide +kernel
theorem dX11_richest_52 : decode cX11_richest 52 = .ok (.iload_n 3, 1) := by decide +kernel
theorem dX11_richest_53 : decode cX11_richest 53 = .ok (.lload 7, 2) := by decide +kernel
theorem dX11_richest_55 : decode cX11_richest 55 = .ok (.lload 4, 2) := by decide +kernel
theorem dX11_richest_57 : decode cX11_richest 57 = .ok (.lcmp, 1) := by decide +kernel
theorem dX11_richest_58 : decode cX11_richest 58 = .ok (.ifCond .gt 17, 3) := by decide +kernel
theorem dX11_richest_61 : decode cX11_richest 61 = .ok (.lload 7, 2) := by decide +kernel
theorem dX11_richest_63 : decode cX11_richest 63 = .ok (.lload 4, 2) := by decide +kernel
theorem dX11_richest_65 : decode cX11_richest 65 = .ok (.lcmp, 1) := by decide +kernel
theorem dX11_richest_66 : decode cX11_richest 66 = .ok (.ifCond .ne 13, 3) := by decide +kernel
theorem dX11_richest_69 : decode cX11_richest 69 = .ok (.iload 6, 2) := by decide +kernel
theorem dX11_richest_71 : decode cX11_richest 71 = .ok (.iload_n 2, 1) := by decide +kernel
theorem dX11_richest_72 : decode cX11_richest 72 = .ok (.if_icmp .ge 7, 3) := by decide +kernel
theorem dX11_richest_75 : decode cX11_richest 75 = .ok (.iconst 1, 1) := by decide +kernel
theorem dX11_richest_76 : decode cX11_richest 76 = .ok (.goto 4, 3) := by decide +kernel
theorem dX11_richest_79 : decode cX11_richest 79 = .ok (.iconst 0, 1) := by decide +kernel
theorem dX11_richest_80 : decode cX11_richest 80 = .ok (.iadd, 1) := by decide +kernel
theorem dX11_richest_81 : decode cX11_richest 81 = .ok (.istore_n 3, 1) := by decide +kernel
theorem dX11_richest_82 : decode cX11_richest 82 = .ok (.iinc 6 1, 3) := by decide +kernel
theorem dX11_richest_85 : decode cX11_richest 85 = .ok (.goto (-54), 3) := by decide +kernel
theorem dX11_richest_88 : decode cX11_richest 88 = .ok (.iload_n 3, 1) := by decide +kernel
theorem dX11_richest_89 : decode cX11_richest 89 = .ok (.iload_n 1, 1) := by decide +kernel
theorem dX11_richest_90 : decode cX11_richest 90 = .ok (.if_icmp .ne 5, 3) := by decide +kernel
theorem dX11_richest_93 : decode cX11_richest 93 = .ok (.iload_n 2, 1) := by decide +kernel
theorem dX11_richest_94 : decode cX11_richest 94 = .ok (.ireturn, 1) := by decide +kernel
theorem dX11_richest_95 : decode cX11_richest 95 = .ok (.iinc 2 1, 3) := by decide +kernel
theorem dX11_richest_98 : decode cX11_richest 98 = .ok (.goto (-91), 3) := by decide +kernel
theorem dX11_richest_101 : decode cX11_richest 101 = .ok (.aload_n 0, 1) := by decide +kernel
theorem dX11_richest_102 : decode cX11_richest 102 = .ok (.iconst 1, 1) := by decide +kernel
theorem dX11_richest_103 : decode cX11_richest 103 = .ok (.invokevirtual 83, 3) := by decide +kernel
theorem dX11_richest_106 : decode cX11_richest 106 = .ok (.ireturn, 1) := by decide +kernel
theorem dX11_share_0 : decode cX11_share 0 = .ok (.aload_n 0, 1) := by decide +kernel
theorem dX11_share_1 : decode cX11_share 1 = .ok (.iload_n 1, 1) := by decide +kernel
theorem dX11_share_2 : decode cX11_share 2 = .ok (.invokevirtual 214, 3) := by decide +kernel
theorem dX11_share_5 : decode cX11_share 5 = .ok (.ifCond .eq 5, 3) := by decide +kernel
theorem dX11_share_8 : decode cX11_share 8 = .ok (.dconst 0, 1) := by decide +kernel
theorem dX11_share_9 : decode cX11_share 9 = .ok (.dreturn, 1) := by decide +kernel
theorem dX11_share_10 : decode cX11_share 10 = .ok (.lconst 0, 1) := by decide +kernel
theorem dX11_share_11 : decode cX11_share 11 = .ok (.lstore_n 2, 1) := by decide +kernel
theorem dX11_share_12 : decode cX11_share 12 = .ok (.iconst 0, 1) := by decide +kernel
theorem dX11_share_13 : decode cX11_share 13 = .ok (.istore 4, 2) := by decide +kernel
theorem dX11_share_15 : decode cX11_share 15 = .ok (.iload 4, 2) := by decide +kernel
theorem dX11_share_17 : decode cX11_share 17 = .ok (.i2l, 1) := by decide +kernel
theorem dX11_share_18 : decode cX11_share 18 = .ok (.aload_n 0, 1) := by decide +kernel
theorem dX11_share_19 : decode cX11_share 19 = .ok (.getfield 7, 3) := by decide +kernel
theorem dX11_share_22 : decode cX11_share 22 = .ok (.iconst 0, 1) := by decide +kernel
theorem dX11_share_23 : decode cX11_share 23 = .ok (.laload, 1) := by decide +kernel
theorem dX11_share_24 : decode cX11_share 24 = .ok (.lcmp, 1) := by decide +kernel
theorem dX11_share_25 : decode cX11_share 25 = .ok (.ifCond .ge 18, 3) := by decide +kernel
theorem dX11_share_28 : decode cX11_share 28 = .ok (.lload_n 2, 1) := by decide +kernel
theorem dX11_share_29 : decode cX11_share 29 = .ok (.aload_n 0, 1) := by decide +kernel
theorem dX11_share_30 : decode cX11_share 30 = .ok (.iload 4, 2) := by decide +kernel
theorem dX11_share_32 : decode cX11_share 32 = .ok (.invokevirtual 434, 3) := by decide +kernel
theorem dX11_share_35 : decode cX11_share 35 = .ok (.ladd, 1) := by decide +kernel
theorem dX11_share_36 : decode cX11_share 36 = .ok (.lstore_n 2, 1) := by decide +kernel
theorem dX11_share_37 : decode cX11_share 37 = .ok (.iinc 4 1, 3) := by decide +kernel
theorem dX11_share_40 : decode cX11_share 40 = .ok (.goto (-25), 3) := by decide +kernel
theorem dX11_share_43 : decode cX11_share 43 = .ok (.aload_n 0, 1) := by decide +kernel
theorem dX11_share_44 : decode cX11_share 44 = .ok (.lload_n 2, 1) := by decide +kernel
theorem dX11_share_45 : decode cX11_share 45 = .ok (.lconst 0, 1) := by decide +kernel
theorem dX11_share_46 : decode cX11_share 46 = .ok (.lcmp, 1) := by decide +kernel
theorem dX11_share_47 : decode cX11_share 47 = .ok (.ifCond .ne 7, 3) := by decide +kernel
theorem dX11_share_50 : decode cX11_share 50 = .ok (.iconst 1, 1) := by decide +kernel
theorem dX11_share_51 : decode cX11_share 51 = .ok (.goto 4, 3) := by decide +kernel
theorem dX11_share_54 : decode cX11_share 54 = .ok (.iconst 0, 1) := by decide +kernel
theorem dX11_share_55 : decode cX11_share 55 = .ok (.iconst 2, 1) := by decide +kernel
theorem dX11_share_56 : decode cX11_share 56 = .ok (.invokevirtual 69, 3) := by decide +kernel
theorem dX11_share_59 : decode cX11_share 59 = .ok (.ifCond .eq 7, 3) := by decide +kernel
theorem dX11_share_62 : decode cX11_share 62 = .ok (.dconst 0, 1) := by decide +kernel
theorem dX11_share_63 : decode cX11_share 63 = .ok (.goto 12, 3) := by decide +kernel
theorem dX11_share_66 : decode cX11_share 66 = .ok (.aload_n 0, 1) := by decide +kernel
theorem dX11_share_67 : decode cX11_share 67 = .ok (.iload_n 1, 1) := by decide +kernel
theorem dX11_share_68 : decode cX11_share 68 = .ok (.invokevirtual 434, 3) := by decide +kernel
theorem dX11_share_71 : decode cX11_share 71 = .ok (.l2d, 1) := by decide +kernel
theorem dX11_share_72 : decode cX11_share 72 = .ok (.lload_n 2, 1) := by decide +kernel
theorem dX11_share_73 : decode cX11_share 73 = .ok (.l2d, 1) := by decide +kernel
theorem dX11_share_74 : decode cX11_share 74 = .ok (.ddiv, 1) := by decide +kernel
theorem dX11_share_75 : decode cX11_share 75 = .ok (.dreturn, 1) := by decide +kernel
theorem dX11_requestedValue_0 : decode cX11_requestedValue 0 = .ok (.aload_n 0, 1) := by decide +kernel
theorem dX11_requestedValue_1 : decode cX11_requestedValue 1 = .ok (.iconst 0, 1) := by decide +kernel
theorem dX11_requestedValue_2 : decode cX11_requestedValue 2 = .ok (.putfield 58, 3) := by decide +kernel
theorem dX11_requestedValue_5 : decode cX11_requestedValue 5 = .ok (.aload_n 0, 1) := by decide +kernel
theorem dX11_requestedValue_6 : decode cX11_requestedValue 6 = .ok (.invokevirtual 173, 3) := by decide +kernel
theorem dX11_requestedValue_9 : decode cX11_requestedValue 9 = .ok (.lreturn, 1) := by decide +kernel
theorem dX11_gateLimit_0 : decode cX11_gateLimit 0 = .ok (.aload_n 0, 1) := by decide +kernel
theorem dX11_gateLimit_1 : decode cX11_gateLimit 1 = .ok (.iconst 0, 1) := by decide +kernel
theorem dX11_gateLimit_2 : decode cX11_gateLimit 2 = .ok (.putfield 58, 3) := by decide +kernel
theorem dX11_gateLimit_5 : decode cX11_gateLimit 5 = .ok (.aload_n 0, 1) := by decide +kernel
theorem dX11_gateLimit_6 : decode cX11_gateLimit 6 = .ok (.invokevirtual 176, 3) := by decide +kernel
theorem dX11_gateLimit_9 : decode cX11_gateLimit 9 = .ok (.lreturn, 1) := by decide +kernel
theorem dX11_wouldRedeem_0 : decode cX11_wouldRedeem 0 = .ok (.aload_n 0, 1) := by decide +kernel
theorem dX11_wouldRedeem_1 : decode cX11_wouldRedeem 1 = .ok (.iload_n 1, 1) := by decide +kernel
theorem dX11_wouldRedeem_2 : decode cX11_wouldRedeem 2 = .ok (.invokevirtual 238, 3) := by decide +kernel
theorem dX11_wouldRedeem_5 : decode cX11_wouldRedeem 5 = .ok (.ifCond .eq 5, 3) := by decide +kernel
theorem dX11_wouldRedeem_8 : decode cX11_wouldRedeem 8 = .ok (.lconst 0, 1) := by decide +kernel
theorem dX11_wouldRedeem_9 : decode cX11_wouldRedeem 9 = .ok (.lreturn, 1) := by decide +kernel
theorem dX11_wouldRedeem_10 : decode cX11_wouldRedeem 10 = .ok (.aload_n 0, 1) := by decide +kernel
theorem dX11_wouldRedeem_11 : decode cX11_wouldRedeem 11 = .ok (.getfield 7, 3) := by decide +kernel
theorem dX11_wouldRedeem_14 : decode cX11_wouldRedeem 14 = .ok (.aload_n 0, 1) := by decide +kernel
theorem dX11_wouldRedeem_15 : decode cX11_wouldRedeem 15 = .ok (.getfield 16, 3) := by decide +kernel
theorem dX11_wouldRedeem_18 : decode cX11_wouldRedeem 18 = .ok (.invokestatic 76, 3) := by decide +kernel
theorem dX11_wouldRedeem_21 : decode cX11_wouldRedeem 21 = .ok (.aload_n 0, 1) := by decide +kernel
theorem dX11_wouldRedeem_22 : decode cX11_wouldRedeem 22 = .ok (.invokevirtual 193, 3) := by decide +kernel
theorem dX11_wouldRedeem_25 : decode cX11_wouldRedeem 25 = .ok (.aload_n 0, 1) := by decide +kernel
theorem dX11_wouldRedeem_26 : decode cX11_wouldRedeem 26 = .ok (.getfield 16, 3) := by decide +kernel
theorem dX11_wouldRedeem_29 : decode cX11_wouldRedeem 29 = .ok (.aload_n 0, 1) := by decide +kernel
theorem dX11_wouldRedeem_30 : decode cX11_wouldRedeem 30 = .ok (.getfield 7, 3) := by decide +kernel
theorem dX11_wouldRedeem_33 : decode cX11_wouldRedeem 33 = .ok (.invokestatic 76, 3) := by decide +kernel
theorem dX11_wouldRedeem_36 : decode cX11_wouldRedeem 36 = .ok (.aload_n 0, 1) := by decide +kernel
theorem dX11_wouldRedeem_37 : decode cX11_wouldRedeem 37 = .ok (.getfield 28, 3) := by decide +kernel
theorem dX11_wouldRedeem_40 : decode cX11_wouldRedeem 40 = .ok (.iload_n 1, 1) := by decide +kernel
theorem dX11_wouldRedeem_41 : decode cX11_wouldRedeem 41 = .ok (.laload, 1) := by decide +kernel
theorem dX11_wouldRedeem_42 : decode cX11_wouldRedeem 42 = .ok (.lreturn, 1) := by decide +kernel
theorem dX11_dealBy_0 : decode cX11_dealBy 0 = .ok (.aload_n 0, 1) := by decide +kernel
theorem dX11_dealBy_1 : decode cX11_dealBy 1 = .ok (.getfield 7, 3) := by decide +kernel
theorem dX11_dealBy_4 : decode cX11_dealBy 4 = .ok (.bipush 8, 2) := by decide +kernel
theorem dX11_dealBy_6 : decode cX11_dealBy 6 = .ok (.laload, 1) := by decide +kernel
theorem dX11_dealBy_7 : decode cX11_dealBy 7 = .ok (.l2i, 1) := by decide +kernel
theorem dX11_dealBy_8 : decode cX11_dealBy 8 = .ok (.istore_n 2, 1) := by decide +kernel
theorem dX11_dealBy_9 : decode cX11_dealBy 9 = .ok (.aload_n 0, 1) := by decide +kernel
theorem dX11_dealBy_10 : decode cX11_dealBy 10 = .ok (.invokevirtual 205, 3) := by decide +kernel
theorem dX11_dealBy_13 : decode cX11_dealBy 13 = .ok (.istore_n 3, 1) := by decide +kernel
theorem dX11_dealBy_14 : decode cX11_dealBy 14 = .ok (.aload_n 0, 1) := by decide +kernel
theorem dX11_dealBy_15 : decode cX11_dealBy 15 = .ok (.getfield 31, 3) := by decide +kernel
theorem dX11_dealBy_18 : decode cX11_dealBy 18 = .ok (.iload_n 1, 1) := by decide +kernel
theorem dX11_dealBy_19 : decode cX11_dealBy 19 = .ok (.baload, 1) := by decide +kernel
theorem dX11_dealBy_20 : decode cX11_dealBy 20 = .ok (.ifCond .eq 5, 3) := by decide +kernel
theorem dX11_dealBy_23 : decode cX11_dealBy 23 = .ok (.iconst (-1), 1) := by decide +kernel
theorem dX11_dealBy_24 : decode cX11_dealBy 24 = .ok (.ireturn, 1) := by decide +kernel
theorem dX11_dealBy_25 : decode cX11_dealBy 25 = .ok (.iload_n 1, 1) := by decide +kernel
theorem dX11_dealBy_26 : decode cX11_dealBy 26 = .ok (.istore 4, 2) := by decide +kernel
theorem dX11_dealBy_28 : decode cX11_dealBy 28 = .ok (.iconst 0, 1) := by decide +kernel
theorem dX11_dealBy_29 : decode cX11_dealBy 29 = .ok (.istore 5, 2) := by decide +kernel
theorem dX11_dealBy_31 : decode cX11_dealBy 31 = .ok (.iload 5, 2) := by decide +kernel
theorem dX11_dealBy_33 : decode cX11_dealBy 33 = .ok (.iload_n 1, 1) := by decide +kernel
theorem dX11_dealBy_34 : decode cX11_dealBy 34 = .ok (.if_icmp .ge 29, 3) := by decide +kernel
theorem dX11_dealBy_37 : decode cX11_dealBy 37 = .ok (.iload 4, 2) := by decide +kernel
theorem dX11_dealBy_39 : decode cX11_dealBy 39 = .ok (.aload_n 0, 1) := by decide +kernel
theorem dX11_dealBy_40 : decode cX11_dealBy 40 = .ok (.getfield 31, 3) := by decide +kernel
theorem dX11_dealBy_43 : decode cX11_dealBy 43 = .ok (.iload 5, 2) := by decide +kernel
theorem dX11_dealBy_45 : decode cX11_dealBy 45 = .ok (.baload, 1) := by decide +kernel
theorem dX11_dealBy_46 : decode cX11_dealBy 46 = .ok (.ifCond .eq 7, 3) := by decide +kernel
theorem dX11_dealBy_49 : decode cX11_dealBy 49 = .ok (.iconst 1, 1) := by decide +kernel
theorem dX11_dealBy_50 : decode cX11_dealBy 50 = .ok (.goto 4, 3) := by decide +kernel
theorem dX11_dealBy_53 : decode cX11_dealBy 53 = .ok (.iconst 0, 1) := by decide +kernel
theorem dX11_dealBy_54 : decode cX11_dealBy 54 = .ok (.isub, 1) := by decide +kernel
theorem dX11_dealBy_55 : decode cX11_dealBy 55 = .ok (.istore 4, 2) := by decide +kernel
theorem dX11_dealBy_57 : decode cX11_dealBy 57 = .ok (.iinc 5 1, 3) := by decide +kernel
theorem dX11_dealBy_60 : decode cX11_dealBy 60 = .ok (.goto (-29), 3) := by decide +kernel
theorem dX11_dealBy_63 : decode cX11_dealBy 63 = .ok (.iload_n 2, 1) := by decide +kernel
theorem dX11_dealBy_64 : decode cX11_dealBy 64 = .ok (.iload_n 3, 1) := by decide +kernel
theorem dX11_dealBy_65 : decode cX11_dealBy 65 = .ok (.isub, 1) := by decide +kernel
theorem dX11_dealBy_66 : decode cX11_dealBy 66 = .ok (.iload 4, 2) := by decide +kernel
theorem dX11_dealBy_68 : decode cX11_dealBy 68 = .ok (.if_icmp .le 8, 3) := by decide +kernel
theorem dX11_dealBy_71 : decode cX11_dealBy 71 = .ok (.iload 4, 2) := by decide +kernel
theorem dX11_dealBy_73 : decode cX11_dealBy 73 = .ok (.goto 4, 3) := by decide +kernel
theorem dX11_dealBy_76 : decode cX11_dealBy 76 = .ok (.iconst (-1), 1) := by decide +kernel
theorem dX11_dealBy_77 : decode cX11_dealBy 77 = .ok (.ireturn, 1) := by decide +kernel
theorem dX11_dealsUntilDone_0 : decode cX11_dealsUntilDone 0 = .ok (.aload_n 0, 1) := by decide +kernel
theorem dX11_dealsUntilDone_1 : decode cX11_dealsUntilDone 1 = .ok (.iload_n 1, 1) := by decide +kernel
theorem dX11_dealsUntilDone_2 : decode cX11_dealsUntilDone 2 = .ok (.invokevirtual 238, 3) := by decide +kernel
theorem dX11_dealsUntilDone_5 : decode cX11_dealsUntilDone 5 = .ok (.ifCond .eq 5, 3) := by decide +kernel
theorem dX11_dealsUntilDone_8 : decode cX11_dealsUntilDone 8 = .ok (.iconst 0, 1) := by decide +kernel
theorem dX11_dealsUntilDone_9 : decode cX11_dealsUntilDone 9 = .ok (.ireturn, 1) := by decide +kernel
theorem dX11_dealsUntilDone_10 : decode cX11_dealsUntilDone 10 = .ok (.aload_n 0, 1) := by decide +kernel
theorem dX11_dealsUntilDone_11 : decode cX11_dealsUntilDone 11 = .ok (.getfield 7, 3) := by decide +kernel
theorem dX11_dealsUntilDone_14 : decode cX11_dealsUntilDone 14 = .ok (.aload_n 0, 1) := by decide +kernel
theorem dX11_dealsUntilDone_15 : decode cX11_dealsUntilDone 15 = .ok (.getfield 16, 3) := by decide +kernel
theorem dX11_dealsUntilDone_18 : decode cX11_dealsUntilDone 18 = .ok (.invokestatic 76, 3) := by decide +kernel
theorem dX11_dealsUntilDone_21 : decode cX11_dealsUntilDone 21 = .ok (.iconst 0, 1) := by decide +kernel
theorem dX11_dealsUntilDone_22 : decode cX11_dealsUntilDone 22 = .ok (.istore_n 2, 1) := by decide +kernel
theorem dX11_dealsUntilDone_23 : decode cX11_dealsUntilDone 23 = .ok (.iload_n 1, 1) := by decide +kernel
theorem dX11_dealsUntilDone_24 : decode cX11_dealsUntilDone 24 = .ok (.istore_n 3, 1) := by decide +kernel
theorem dX11_dealsUntilDone_25 : decode cX11_dealsUntilDone 25 = .ok (.iload_n 3, 1) := by decide +kernel
theorem dX11_dealsUntilDone_26 : decode cX11_dealsUntilDone 26 = .ok (.iconst (-1), 1) := by decide +kernel
theorem dX11_dealsUntilDone_27 : decode cX11_dealsUntilDone 27 = .ok (.if_icmp .eq 21, 3) := by decide +kernel
theorem dX11_dealsUntilDone_30 : decode cX11_dealsUntilDone 30 = .ok (.iload_n 2, 1) := by decide +kernel
theorem dX11_dealsUntilDone_31 : decode cX11_dealsUntilDone 31 = .ok (.bipush 100, 2) := by decide +kernel
theorem dX11_dealsUntilDone_33 : decode cX11_dealsUntilDone 33 = .ok (.if_icmp .gt 15, 3) := by decide +kernel
theorem dX11_dealsUntilDone_36 : decode cX11_dealsUntilDone 36 = .ok (.aload_n 0, 1) := by decide +kernel
theorem dX11_dealsUntilDone_37 : decode cX11_dealsUntilDone 37 = .ok (.iload_n 3, 1) := by decide +kernel
theorem dX11_dealsUntilDone_38 : decode cX11_dealsUntilDone 38 = .ok (.invokevirtual 437, 3) := by decide +kernel
theorem dX11_dealsUntilDone_41 : decode cX11_dealsUntilDone 41 = .ok (.istore_n 3, 1) := by decide +kernel
theorem dX11_dealsUntilDone_42 : decode cX11_dealsUntilDone 42 = .ok (.iinc 2 1, 3) := by decide +kernel
theorem dX11_dealsUntilDone_45 : decode cX11_dealsUntilDone 45 = .ok (.goto (-20), 3) := by decide +kernel
theorem dX11_dealsUntilDone_48 : decode cX11_dealsUntilDone 48 = .ok (.aload_n 0, 1) := by decide +kernel
theorem dX11_dealsUntilDone_49 : decode cX11_dealsUntilDone 49 = .ok (.getfield 16, 3) := by decide +kernel
theorem dX11_dealsUntilDone_52 : decode cX11_dealsUntilDone 52 = .ok (.aload_n 0, 1) := by decide +kernel
theorem dX11_dealsUntilDone_53 : decode cX11_dealsUntilDone 53 = .ok (.getfield 7, 3) := by decide +kernel
theorem dX11_dealsUntilDone_56 : decode cX11_dealsUntilDone 56 = .ok (.invokestatic 76, 3) := by decide +kernel
theorem dX11_dealsUntilDone_59 : decode cX11_dealsUntilDone 59 = .ok (.iload_n 2, 1) := by decide +kernel
theorem dX11_dealsUntilDone_60 : decode cX11_dealsUntilDone 60 = .ok (.bipush 100, 2) := by decide +kernel
theorem dX11_dealsUntilDone_62 : decode cX11_dealsUntilDone 62 = .ok (.if_icmp .le 7, 3) := by decide +kernel
theorem dX11_dealsUntilDone_65 : decode cX11_dealsUntilDone 65 = .ok (.iconst (-1), 1) := by decide +kernel
theorem dX11_dealsUntilDone_66 : decode cX11_dealsUntilDone 66 = .ok (.goto 4, 3) := by decide +kernel
theorem dX11_dealsUntilDone_69 : decode cX11_dealsUntilDone 69 = .ok (.iload_n 2, 1) := by decide +kernel
theorem dX11_dealsUntilDone_70 : decode cX11_dealsUntilDone 70 = .ok (.ireturn, 1) := by decide +kernel
theorem dX11_feesIf_0 : decode cX11_feesIf 0 = .ok (.aload_n 0, 1) := by decide +kernel
theorem dX11_feesIf_1 : decode cX11_feesIf 1 = .ok (.iload_n 1, 1) := by decide +kernel
theorem dX11_feesIf_2 : decode cX11_feesIf 2 = .ok (.invokestatic 251, 3) := by decide +kernel
theorem dX11_feesIf_5 : decode cX11_feesIf 5 = .ok (.ifCond .ne 7, 3) := by decide +kernel
theorem dX11_feesIf_8 : decode cX11_feesIf 8 = .ok (.iconst 1, 1) := by decide +kernel
theorem dX11_feesIf_9 : decode cX11_feesIf 9 = .ok (.goto 4, 3) := by decide +kernel
theorem dX11_feesIf_12 : decode cX11_feesIf 12 = .ok (.iconst 0, 1) := by decide +kernel
theorem dX11_feesIf_13 : decode cX11_feesIf 13 = .ok (.iconst 1, 1) := by decide +kernel
theorem dX11_feesIf_14 : decode cX11_feesIf 14 = .ok (.invokevirtual 69, 3) := by decide +kernel
theorem dX11_feesIf_17 : decode cX11_feesIf 17 = .ok (.ifCond .eq 5, 3) := by decide +kernel
theorem dX11_feesIf_20 : decode cX11_feesIf 20 = .ok (.lconst 0, 1) := by decide +kernel
theorem dX11_feesIf_21 : decode cX11_feesIf 21 = .ok (.lreturn, 1) := by decide +kernel
theorem dX11_feesIf_22 : decode cX11_feesIf 22 = .ok (.aload_n 0, 1) := by decide +kernel
theorem dX11_feesIf_23 : decode cX11_feesIf 23 = .ok (.getfield 7, 3) := by decide +kernel
theorem dX11_feesIf_26 : decode cX11_feesIf 26 = .ok (.aload_n 0, 1) := by decide +kernel
theorem dX11_feesIf_27 : decode cX11_feesIf 27 = .ok (.getfield 16, 3) := by decide +kernel
theorem dX11_feesIf_30 : decode cX11_feesIf 30 = .ok (.invokestatic 76, 3) := by decide +kernel
theorem dX11_feesIf_33 : decode cX11_feesIf 33 = .ok (.aload_n 0, 1) := by decide +kernel
theorem dX11_feesIf_34 : decode cX11_feesIf 34 = .ok (.iload_n 1, 1) := by decide +kernel
theorem dX11_feesIf_35 : decode cX11_feesIf 35 = .ok (.invokevirtual 257, 3) := by decide +kernel
theorem dX11_feesIf_38 : decode cX11_feesIf 38 = .ok (.lstore_n 2, 1) := by decide +kernel
theorem dX11_feesIf_39 : decode cX11_feesIf 39 = .ok (.aload_n 0, 1) := by decide +kernel
theorem dX11_feesIf_40 : decode cX11_feesIf 40 = .ok (.invokevirtual 440, 3) := by decide +kernel
theorem dX11_feesIf_43 : decode cX11_feesIf 43 = .ok (.lstore 4, 2) := by decide +kernel
theorem dX11_feesIf_45 : decode cX11_feesIf 45 = .ok (.aload_n 0, 1) := by decide +kernel
theorem dX11_feesIf_46 : decode cX11_feesIf 46 = .ok (.getfield 16, 3) := by decide +kernel
theorem dX11_feesIf_49 : decode cX11_feesIf 49 = .ok (.aload_n 0, 1) := by decide +kernel
theorem dX11_feesIf_50 : decode cX11_feesIf 50 = .ok (.getfield 7, 3) := by decide +kernel
theorem dX11_feesIf_53 : decode cX11_feesIf 53 = .ok (.invokestatic 76, 3) := by decide +kernel
theorem dX11_feesIf_56 : decode cX11_feesIf 56 = .ok (.lload 4, 2) := by decide +kernel
theorem dX11_feesIf_58 : decode cX11_feesIf 58 = .ok (.lreturn, 1) := by decide +kernel
theorem dX11_breakEven_0 : decode cX11_breakEven 0 = .ok (.aload_n 0, 1) := by decide +kernel
theorem dX11_breakEven_1 : decode cX11_breakEven 1 = .ok (.iload_n 1, 1) := by decide +kernel
theorem dX11_breakEven_2 : decode cX11_breakEven 2 = .ok (.i2l, 1) := by decide +kernel
theorem dX11_breakEven_3 : decode cX11_breakEven 3 = .ok (.invokevirtual 90, 3) := by decide +kernel
theorem dX11_breakEven_6 : decode cX11_breakEven 6 = .ok (.istore_n 2, 1) := by decide +kernel
theorem dX11_breakEven_7 : decode cX11_breakEven 7 = .ok (.aload_n 0, 1) := by decide +kernel
theorem dX11_breakEven_8 : decode cX11_breakEven 8 = .ok (.iload_n 2, 1) := by decide +kernel
theorem dX11_breakEven_9 : decode cX11_breakEven 9 = .ok (.iconst (-1), 1) := by decide +kernel
theorem dX11_breakEven_10 : decode cX11_breakEven 10 = .ok (.if_icmp .ne 7, 3) := by decide +kernel
theorem dX11_breakEven_13 : decode cX11_breakEven 13 = .ok (.iconst 1, 1) := by decide +kernel
theorem dX11_breakEven_14 : decode cX11_breakEven 14 = .ok (.goto 4, 3) := by decide +kernel
theorem dX11_breakEven_17 : decode cX11_breakEven 17 = .ok (.iconst 0, 1) := by decide +kernel
theorem dX11_breakEven_18 : decode cX11_breakEven 18 = .ok (.iconst 1, 1) := by decide +kernel
theorem dX11_breakEven_19 : decode cX11_breakEven 19 = .ok (.invokevirtual 69, 3) := by decide +kernel
theorem dX11_breakEven_22 : decode cX11_breakEven 22 = .ok (.ifCond .eq 5, 3) := by decide +kernel
theorem dX11_breakEven_25 : decode cX11_breakEven 25 = .ok (.iconst 0, 1) := by decide +kernel
theorem dX11_breakEven_26 : decode cX11_breakEven 26 = .ok (.ireturn, 1) := by decide +kernel
theorem dX11_breakEven_27 : decode cX11_breakEven 27 = .ok (.sipush (-9000), 3) := by decide +kernel
theorem dX11_breakEven_30 : decode cX11_breakEven 30 = .ok (.istore_n 3, 1) := by decide +kernel
theorem dX11_breakEven_31 : decode cX11_breakEven 31 = .ok (.iload_n 3, 1) := by decide +kernel
theorem dX11_breakEven_32 : decode cX11_breakEven 32 = .ok (.sipush 9999, 3) := by decide +kernel
theorem dX11_breakEven_35 : decode cX11_breakEven 35 = .ok (.if_icmp .gt 64, 3) := by decide +kernel
theorem dX11_breakEven_38 : decode cX11_breakEven 38 = .ok (.aload_n 0, 1) := by decide +kernel
theorem dX11_breakEven_39 : decode cX11_breakEven 39 = .ok (.getfield 7, 3) := by decide +kernel
theorem dX11_breakEven_42 : decode cX11_breakEven 42 = .ok (.iload_n 2, 1) := by decide +kernel
theorem dX11_breakEven_43 : decode cX11_breakEven 43 = .ok (.iconst 2, 1) := by decide +kernel
theorem dX11_breakEven_44 : decode cX11_breakEven 44 = .ok (.iadd, 1) := by decide +kernel
theorem dX11_breakEven_45 : decode cX11_breakEven 45 = .ok (.laload, 1) := by decide +kernel
theorem dX11_breakEven_46 : decode cX11_breakEven 46 = .ok (.aload_n 0, 1) := by decide +kernel
theorem dX11_breakEven_47 : decode cX11_breakEven 47 = .ok (.getfield 7, 3) := by decide +kernel
theorem dX11_breakEven_50 : decode cX11_breakEven 50 = .ok (.iload_n 2, 1) := by decide +kernel
theorem dX11_breakEven_51 : decode cX11_breakEven 51 = .ok (.iconst 2, 1) := by decide +kernel
theorem dX11_breakEven_52 : decode cX11_breakEven 52 = .ok (.iadd, 1) := by decide +kernel
theorem dX11_breakEven_53 : decode cX11_breakEven 53 = .ok (.laload, 1) := by decide +kernel
theorem dX11_breakEven_54 : decode cX11_breakEven 54 = .ok (.iload_n 3, 1) := by decide +kernel
theorem dX11_breakEven_55 : decode cX11_breakEven 55 = .ok (.i2l, 1) := by decide +kernel
theorem dX11_breakEven_56 : decode cX11_breakEven 56 = .ok (.lmul, 1) := by decide +kernel
theorem dX11_breakEven_57 : decode cX11_breakEven 57 = .ok (.ldc2_w 241, 3) := by decide +kernel
theorem dX11_breakEven_60 : decode cX11_breakEven 60 = .ok (.ldiv, 1) := by decide +kernel
theorem dX11_breakEven_61 : decode cX11_breakEven 61 = .ok (.ladd, 1) := by decide +kernel
theorem dX11_breakEven_62 : decode cX11_breakEven 62 = .ok (.lstore 4, 2) := by decide +kernel
theorem dX11_breakEven_64 : decode cX11_breakEven 64 = .ok (.lload 4, 2) := by decide +kernel
theorem dX11_breakEven_66 : decode cX11_breakEven 66 = .ok (.ldc2_w 94, 3) := by decide +kernel
theorem dX11_breakEven_69 : decode cX11_breakEven 69 = .ok (.lmul, 1) := by decide +kernel
theorem dX11_breakEven_70 : decode cX11_breakEven 70 = .ok (.aload_n 0, 1) := by decide +kernel
theorem dX11_breakEven_71 : decode cX11_breakEven 71 = .ok (.getfield 7, 3) := by decide +kernel
theorem dX11_breakEven_74 : decode cX11_breakEven 74 = .ok (.iload_n 2, 1) := by decide +kernel
theorem dX11_breakEven_75 : decode cX11_breakEven 75 = .ok (.iconst 3, 1) := by decide +kernel
theorem dX11_breakEven_76 : decode cX11_breakEven 76 = .ok (.iadd, 1) := by decide +kernel
theorem dX11_breakEven_77 : decode cX11_breakEven 77 = .ok (.laload, 1) := by decide +kernel
theorem dX11_breakEven_78 : decode cX11_breakEven 78 = .ok (.ldiv, 1) := by decide +kernel
theorem dX11_breakEven_79 : decode cX11_breakEven 79 = .ok (.aload_n 0, 1) := by decide +kernel
theorem dX11_breakEven_80 : decode cX11_breakEven 80 = .ok (.getfield 7, 3) := by decide +kernel
theorem dX11_breakEven_83 : decode cX11_breakEven 83 = .ok (.iload_n 2, 1) := by decide +kernel
theorem dX11_breakEven_84 : decode cX11_breakEven 84 = .ok (.iconst 4, 1) := by decide +kernel
theorem dX11_breakEven_85 : decode cX11_breakEven 85 = .ok (.iadd, 1) := by decide +kernel
theorem dX11_breakEven_86 : decode cX11_breakEven 86 = .ok (.laload, 1) := by decide +kernel
theorem dX11_breakEven_87 : decode cX11_breakEven 87 = .ok (.lcmp, 1) := by decide +kernel
theorem dX11_breakEven_88 : decode cX11_breakEven 88 = .ok (.ifCond .lt 5, 3) := by decide +kernel
theorem dX11_breakEven_91 : decode cX11_breakEven 91 = .ok (.iload_n 3, 1) := by decide +kernel
theorem dX11_breakEven_92 : decode cX11_breakEven 92 = .ok (.ireturn, 1) := by decide +kernel
theorem dX11_breakEven_93 : decode cX11_breakEven 93 = .ok (.iinc 3 1, 3) := by decide +kernel
theorem dX11_breakEven_96 : decode cX11_breakEven 96 = .ok (.goto (-65), 3) := by decide +kernel
theorem dX11_breakEven_99 : decode cX11_breakEven 99 = .ok (.aload_n 0, 1) := by decide +kernel
theorem dX11_breakEven_100 : decode cX11_breakEven 100 = .ok (.iconst 2, 1) := by decide +kernel
theorem dX11_breakEven_101 : decode cX11_breakEven 101 = .ok (.invokevirtual 83, 3) := by decide +kernel
theorem dX11_breakEven_104 : decode cX11_breakEven 104 = .ok (.ireturn, 1) := by decide +kernel
theorem dX11_worthBy_0 : decode cX11_worthBy 0 = .ok (.iconst 0, 1) := by decide +kernel
theorem dX11_worthBy_1 : decode cX11_worthBy 1 = .ok (.istore_n 3, 1) := by decide +kernel
theorem dX11_worthBy_2 : decode cX11_worthBy 2 = .ok (.iload_n 3, 1) := by decide +kernel
theorem dX11_worthBy_3 : decode cX11_worthBy 3 = .ok (.i2l, 1) := by decide +kernel
theorem dX11_worthBy_4 : decode cX11_worthBy 4 = .ok (.aload_n 0, 1) := by decide +kernel
theorem dX11_worthBy_5 : decode cX11_worthBy 5 = .ok (.getfield 7, 3) := by decide +kernel
theorem dX11_worthBy_8 : decode cX11_worthBy 8 = .ok (.bipush 6, 2) := by decide +kernel
theorem dX11_worthBy_10 : decode cX11_worthBy 10 = .ok (.laload, 1) := by decide +kernel
theorem dX11_worthBy_11 : decode cX11_worthBy 11 = .ok (.lcmp, 1) := by decide +kernel
theorem dX11_worthBy_12 : decode cX11_worthBy 12 = .ok (.ifCond .ge 62, 3) := by decide +kernel
theorem dX11_worthBy_15 : decode cX11_worthBy 15 = .ok (.aload_n 0, 1) := by decide +kernel
theorem dX11_worthBy_16 : decode cX11_worthBy 16 = .ok (.getfield 43, 3) := by decide +kernel
theorem dX11_worthBy_19 : decode cX11_worthBy 19 = .ok (.iload_n 3, 1) := by decide +kernel
theorem dX11_worthBy_20 : decode cX11_worthBy 20 = .ok (.aload_n 0, 1) := by decide +kernel
theorem dX11_worthBy_21 : decode cX11_worthBy 21 = .ok (.getfield 7, 3) := by decide +kernel
theorem dX11_worthBy_24 : decode cX11_worthBy 24 = .ok (.iload_n 3, 1) := by decide +kernel
theorem dX11_worthBy_25 : decode cX11_worthBy 25 = .ok (.invokestatic 87, 3) := by decide +kernel
theorem dX11_worthBy_28 : decode cX11_worthBy 28 = .ok (.iconst 2, 1) := by decide +kernel
theorem dX11_worthBy_29 : decode cX11_worthBy 29 = .ok (.iadd, 1) := by decide +kernel
theorem dX11_worthBy_30 : decode cX11_worthBy 30 = .ok (.laload, 1) := by decide +kernel
theorem dX11_worthBy_31 : decode cX11_worthBy 31 = .ok (.aload_n 0, 1) := by decide +kernel
theorem dX11_worthBy_32 : decode cX11_worthBy 32 = .ok (.getfield 7, 3) := by decide +kernel
theorem dX11_worthBy_35 : decode cX11_worthBy 35 = .ok (.iload_n 3, 1) := by decide +kernel
theorem dX11_worthBy_36 : decode cX11_worthBy 36 = .ok (.invokestatic 87, 3) := by decide +kernel
theorem dX11_worthBy_39 : decode cX11_worthBy 39 = .ok (.iconst 2, 1) := by decide +kernel
theorem dX11_worthBy_40 : decode cX11_worthBy 40 = .ok (.iadd, 1) := by decide +kernel
theorem dX11_worthBy_41 : decode cX11_worthBy 41 = .ok (.laload, 1) := by decide +kernel
theorem dX11_worthBy_42 : decode cX11_worthBy 42 = .ok (.iload_n 2, 1) := by decide +kernel
theorem dX11_worthBy_43 : decode cX11_worthBy 43 = .ok (.i2l, 1) := by decide +kernel
theorem dX11_worthBy_44 : decode cX11_worthBy 44 = .ok (.lmul, 1) := by decide +kernel
theorem dX11_worthBy_45 : decode cX11_worthBy 45 = .ok (.ldc2_w 241, 3) := by decide +kernel
theorem dX11_worthBy_48 : decode cX11_worthBy 48 = .ok (.ldiv, 1) := by decide +kernel
theorem dX11_worthBy_49 : decode cX11_worthBy 49 = .ok (.ladd, 1) := by decide +kernel
theorem dX11_worthBy_50 : decode cX11_worthBy 50 = .ok (.lastore, 1) := by decide +kernel
theorem dX11_worthBy_51 : decode cX11_worthBy 51 = .ok (.aload_n 0, 1) := by decide +kernel
theorem dX11_worthBy_52 : decode cX11_worthBy 52 = .ok (.getfield 46, 3) := by decide +kernel
theorem dX11_worthBy_55 : decode cX11_worthBy 55 = .ok (.iload_n 3, 1) := by decide +kernel
theorem dX11_worthBy_56 : decode cX11_worthBy 56 = .ok (.aload_n 0, 1) := by decide +kernel
theorem dX11_worthBy_57 : decode cX11_worthBy 57 = .ok (.getfield 7, 3) := by decide +kernel
theorem dX11_worthBy_60 : decode cX11_worthBy 60 = .ok (.iload_n 3, 1) := by decide +kernel
theorem dX11_worthBy_61 : decode cX11_worthBy 61 = .ok (.invokestatic 87, 3) := by decide +kernel
theorem dX11_worthBy_64 : decode cX11_worthBy 64 = .ok (.iconst 3, 1) := by decide +kernel
theorem dX11_worthBy_65 : decode cX11_worthBy 65 = .ok (.iadd, 1) := by decide +kernel
theorem dX11_worthBy_66 : decode cX11_worthBy 66 = .ok (.laload, 1) := by decide +kernel
theorem dX11_worthBy_67 : decode cX11_worthBy 67 = .ok (.lastore, 1) := by decide +kernel
theorem dX11_worthBy_68 : decode cX11_worthBy 68 = .ok (.iinc 3 1, 3) := by decide +kernel
theorem dX11_worthBy_71 : decode cX11_worthBy 71 = .ok (.goto (-69), 3) := by decide +kernel
theorem dX11_worthBy_74 : decode cX11_worthBy 74 = .ok (.lconst 0, 1) := by decide +kernel
theorem dX11_worthBy_75 : decode cX11_worthBy 75 = .ok (.lstore_n 3, 1) := by decide +kernel
theorem dX11_worthBy_76 : decode cX11_worthBy 76 = .ok (.iconst 0, 1) := by decide +kernel
theorem dX11_worthBy_77 : decode cX11_worthBy 77 = .ok (.istore 5, 2) := by decide +kernel
theorem dX11_worthBy_79 : decode cX11_worthBy 79 = .ok (.iload 5, 2) := by decide +kernel
theorem dX11_worthBy_81 : decode cX11_worthBy 81 = .ok (.i2l, 1) := by decide +kernel
theorem dX11_worthBy_82 : decode cX11_worthBy 82 = .ok (.aload_n 0, 1) := by decide +kernel
theorem dX11_worthBy_83 : decode cX11_worthBy 83 = .ok (.getfield 7, 3) := by decide +kernel
theorem dX11_worthBy_86 : decode cX11_worthBy 86 = .ok (.bipush 7, 2) := by decide +kernel
theorem dX11_worthBy_88 : decode cX11_worthBy 88 = .ok (.laload, 1) := by decide +kernel
theorem dX11_worthBy_89 : decode cX11_worthBy 89 = .ok (.lcmp, 1) := by decide +kernel
theorem dX11_worthBy_90 : decode cX11_worthBy 90 = .ok (.ifCond .ge 39, 3) := by decide +kernel
theorem dX11_worthBy_93 : decode cX11_worthBy 93 = .ok (.aload_n 0, 1) := by decide +kernel
theorem dX11_worthBy_94 : decode cX11_worthBy 94 = .ok (.getfield 7, 3) := by decide +kernel
theorem dX11_worthBy_97 : decode cX11_worthBy 97 = .ok (.iload 5, 2) := by decide +kernel
theorem dX11_worthBy_99 : decode cX11_worthBy 99 = .ok (.invokestatic 115, 3) := by decide +kernel
theorem dX11_worthBy_102 : decode cX11_worthBy 102 = .ok (.iconst 0, 1) := by decide +kernel
theorem dX11_worthBy_103 : decode cX11_worthBy 103 = .ok (.iadd, 1) := by decide +kernel
theorem dX11_worthBy_104 : decode cX11_worthBy 104 = .ok (.laload, 1) := by decide +kernel
theorem dX11_worthBy_105 : decode cX11_worthBy 105 = .ok (.iload_n 1, 1) := by decide +kernel
theorem dX11_worthBy_106 : decode cX11_worthBy 106 = .ok (.i2l, 1) := by decide +kernel
theorem dX11_worthBy_107 : decode cX11_worthBy 107 = .ok (.lcmp, 1) := by decide +kernel
theorem dX11_worthBy_108 : decode cX11_worthBy 108 = .ok (.ifCond .ne 15, 3) := by decide +kernel
theorem dX11_worthBy_111 : decode cX11_worthBy 111 = .ok (.lload_n 3, 1) := by decide +kernel
theorem dX11_worthBy_112 : decode cX11_worthBy 112 = .ok (.aload_n 0, 1) := by decide +kernel
theorem dX11_worthBy_113 : decode cX11_worthBy 113 = .ok (.iload 5, 2) := by decide +kernel
theorem dX11_worthBy_115 : decode cX11_worthBy 115 = .ok (.invokestatic 115, 3) := by decide +kernel
theorem dX11_worthBy_118 : decode cX11_worthBy 118 = .ok (.invokevirtual 443, 3) := by decide +kernel
theorem dX11_worthBy_121 : decode cX11_worthBy 121 = .ok (.ladd, 1) := by decide +kernel
theorem dX11_worthBy_122 : decode cX11_worthBy 122 = .ok (.lstore_n 3, 1) := by decide +kernel
theorem dX11_worthBy_123 : decode cX11_worthBy 123 = .ok (.iinc 5 1, 3) := by decide +kernel
theorem dX11_worthBy_126 : decode cX11_worthBy 126 = .ok (.goto (-47), 3) := by decide +kernel
theorem dX11_worthBy_129 : decode cX11_worthBy 129 = .ok (.lload_n 3, 1) := by decide +kernel
theorem dX11_worthBy_130 : decode cX11_worthBy 130 = .ok (.lreturn, 1) := by decide +kernel
theorem dX11_usedUp_0 : decode cX11_usedUp 0 = .ok (.aload_n 0, 1) := by decide +kernel
theorem dX11_usedUp_1 : decode cX11_usedUp 1 = .ok (.iload_n 1, 1) := by decide +kernel
theorem dX11_usedUp_2 : decode cX11_usedUp 2 = .ok (.invokevirtual 129, 3) := by decide +kernel
theorem dX11_usedUp_5 : decode cX11_usedUp 5 = .ok (.istore_n 2, 1) := by decide +kernel
theorem dX11_usedUp_6 : decode cX11_usedUp 6 = .ok (.iload_n 2, 1) := by decide +kernel
theorem dX11_usedUp_7 : decode cX11_usedUp 7 = .ok (.bipush 16, 2) := by decide +kernel
theorem dX11_usedUp_9 : decode cX11_usedUp 9 = .ok (.isub, 1) := by decide +kernel
theorem dX11_usedUp_10 : decode cX11_usedUp 10 = .ok (.iconst 5, 1) := by decide +kernel
theorem dX11_usedUp_11 : decode cX11_usedUp 11 = .ok (.idiv, 1) := by decide +kernel
theorem dX11_usedUp_12 : decode cX11_usedUp 12 = .ok (.istore_n 3, 1) := by decide +kernel
theorem dX11_usedUp_13 : decode cX11_usedUp 13 = .ok (.aload_n 0, 1) := by decide +kernel
theorem dX11_usedUp_14 : decode cX11_usedUp 14 = .ok (.getfield 7, 3) := by decide +kernel
theorem dX11_usedUp_17 : decode cX11_usedUp 17 = .ok (.iload_n 1, 1) := by decide +kernel
theorem dX11_usedUp_18 : decode cX11_usedUp 18 = .ok (.iconst 2, 1) := by decide +kernel
theorem dX11_usedUp_19 : decode cX11_usedUp 19 = .ok (.iadd, 1) := by decide +kernel
theorem dX11_usedUp_20 : decode cX11_usedUp 20 = .ok (.laload, 1) := by decide +kernel
theorem dX11_usedUp_21 : decode cX11_usedUp 21 = .ok (.lstore 4, 2) := by decide +kernel
theorem dX11_usedUp_23 : decode cX11_usedUp 23 = .ok (.aload_n 0, 1) := by decide +kernel
theorem dX11_usedUp_24 : decode cX11_usedUp 24 = .ok (.getfield 43, 3) := by decide +kernel
theorem dX11_usedUp_27 : decode cX11_usedUp 27 = .ok (.iload_n 3, 1) := by decide +kernel
theorem dX11_usedUp_28 : decode cX11_usedUp 28 = .ok (.laload, 1) := by decide +kernel
theorem dX11_usedUp_29 : decode cX11_usedUp 29 = .ok (.aload_n 0, 1) := by decide +kernel
theorem dX11_usedUp_30 : decode cX11_usedUp 30 = .ok (.getfield 7, 3) := by decide +kernel
theorem dX11_usedUp_33 : decode cX11_usedUp 33 = .ok (.iload_n 2, 1) := by decide +kernel
theorem dX11_usedUp_34 : decode cX11_usedUp 34 = .ok (.iconst 4, 1) := by decide +kernel
theorem dX11_usedUp_35 : decode cX11_usedUp 35 = .ok (.iadd, 1) := by decide +kernel
theorem dX11_usedUp_36 : decode cX11_usedUp 36 = .ok (.laload, 1) := by decide +kernel
theorem dX11_usedUp_37 : decode cX11_usedUp 37 = .ok (.aload_n 0, 1) := by decide +kernel
theorem dX11_usedUp_38 : decode cX11_usedUp 38 = .ok (.getfield 46, 3) := by decide +kernel
theorem dX11_usedUp_41 : decode cX11_usedUp 41 = .ok (.iload_n 3, 1) := by decide +kernel
theorem dX11_usedUp_42 : decode cX11_usedUp 42 = .ok (.laload, 1) := by decide +kernel
theorem dX11_usedUp_43 : decode cX11_usedUp 43 = .ok (.invokestatic 98, 3) := by decide +kernel
theorem dX11_usedUp_46 : decode cX11_usedUp 46 = .ok (.lsub, 1) := by decide +kernel
theorem dX11_usedUp_47 : decode cX11_usedUp 47 = .ok (.lstore 6, 2) := by decide +kernel
theorem dX11_usedUp_49 : decode cX11_usedUp 49 = .ok (.lload 6, 2) := by decide +kernel
theorem dX11_usedUp_51 : decode cX11_usedUp 51 = .ok (.lconst 0, 1) := by decide +kernel
theorem dX11_usedUp_52 : decode cX11_usedUp 52 = .ok (.lcmp, 1) := by decide +kernel
theorem dX11_usedUp_53 : decode cX11_usedUp 53 = .ok (.ifCond .le 19, 3) := by decide +kernel
theorem dX11_usedUp_56 : decode cX11_usedUp 56 = .ok (.lload 6, 2) := by decide +kernel
theorem dX11_usedUp_58 : decode cX11_usedUp 58 = .ok (.aload_n 0, 1) := by decide +kernel
theorem dX11_usedUp_59 : decode cX11_usedUp 59 = .ok (.getfield 7, 3) := by decide +kernel
theorem dX11_usedUp_62 : decode cX11_usedUp 62 = .ok (.iconst 3, 1) := by decide +kernel
theorem dX11_usedUp_63 : decode cX11_usedUp 63 = .ok (.laload, 1) := by decide +kernel
theorem dX11_usedUp_64 : decode cX11_usedUp 64 = .ok (.lmul, 1) := by decide +kernel
theorem dX11_usedUp_65 : decode cX11_usedUp 65 = .ok (.ldc2_w 56, 3) := by decide +kernel
theorem dX11_usedUp_68 : decode cX11_usedUp 68 = .ok (.ldiv, 1) := by decide +kernel
theorem dX11_usedUp_69 : decode cX11_usedUp 69 = .ok (.goto 4, 3) := by decide +kernel
theorem dX11_usedUp_72 : decode cX11_usedUp 72 = .ok (.lconst 0, 1) := by decide +kernel
theorem dX11_usedUp_73 : decode cX11_usedUp 73 = .ok (.lstore 8, 2) := by decide +kernel
theorem dX11_usedUp_75 : decode cX11_usedUp 75 = .ok (.aload_n 0, 1) := by decide +kernel
theorem dX11_usedUp_76 : decode cX11_usedUp 76 = .ok (.getfield 43, 3) := by decide +kernel
theorem dX11_usedUp_79 : decode cX11_usedUp 79 = .ok (.iload_n 3, 1) := by decide +kernel
theorem dX11_usedUp_80 : decode cX11_usedUp 80 = .ok (.laload, 1) := by decide +kernel
theorem dX11_usedUp_81 : decode cX11_usedUp 81 = .ok (.lload 8, 2) := by decide +kernel
theorem dX11_usedUp_83 : decode cX11_usedUp 83 = .ok (.lsub, 1) := by decide +kernel
theorem dX11_usedUp_84 : decode cX11_usedUp 84 = .ok (.lload 4, 2) := by decide +kernel
theorem dX11_usedUp_86 : decode cX11_usedUp 86 = .ok (.lmul, 1) := by decide +kernel
theorem dX11_usedUp_87 : decode cX11_usedUp 87 = .ok (.aload_n 0, 1) := by decide +kernel
theorem dX11_usedUp_88 : decode cX11_usedUp 88 = .ok (.getfield 46, 3) := by decide +kernel
theorem dX11_usedUp_91 : decode cX11_usedUp 91 = .ok (.iload_n 3, 1) := by decide +kernel
theorem dX11_usedUp_92 : decode cX11_usedUp 92 = .ok (.laload, 1) := by decide +kernel
theorem dX11_usedUp_93 : decode cX11_usedUp 93 = .ok (.ldiv, 1) := by decide +kernel
theorem dX11_usedUp_94 : decode cX11_usedUp 94 = .ok (.lstore 10, 2) := by decide +kernel
theorem dX11_usedUp_96 : decode cX11_usedUp 96 = .ok (.lload 8, 2) := by decide +kernel
theorem dX11_usedUp_98 : decode cX11_usedUp 98 = .ok (.lload 4, 2) := by decide +kernel
theorem dX11_usedUp_100 : decode cX11_usedUp 100 = .ok (.lmul, 1) := by decide +kernel
theorem dX11_usedUp_101 : decode cX11_usedUp 101 = .ok (.aload_n 0, 1) := by decide +kernel
theorem dX11_usedUp_102 : decode cX11_usedUp 102 = .ok (.getfield 46, 3) := by decide +kernel
theorem dX11_usedUp_105 : decode cX11_usedUp 105 = .ok (.iload_n 3, 1) := by decide +kernel
theorem dX11_usedUp_106 : decode cX11_usedUp 106 = .ok (.laload, 1) := by decide +kernel
theorem dX11_usedUp_107 : decode cX11_usedUp 107 = .ok (.ldiv, 1) := by decide +kernel
theorem dX11_usedUp_108 : decode cX11_usedUp 108 = .ok (.lstore 12, 2) := by decide +kernel
theorem dX11_usedUp_110 : decode cX11_usedUp 110 = .ok (.aload_n 0, 1) := by decide +kernel
theorem dX11_usedUp_111 : decode cX11_usedUp 111 = .ok (.getfield 43, 3) := by decide +kernel
theorem dX11_usedUp_114 : decode cX11_usedUp 114 = .ok (.iload_n 3, 1) := by decide +kernel
theorem dX11_usedUp_115 : decode cX11_usedUp 115 = .ok (.laload, 1) := by decide +kernel
theorem dX11_usedUp_116 : decode cX11_usedUp 116 = .ok (.ldc2_w 94, 3) := by decide +kernel
theorem dX11_usedUp_119 : decode cX11_usedUp 119 = .ok (.lmul, 1) := by decide +kernel
theorem dX11_usedUp_120 : decode cX11_usedUp 120 = .ok (.aload_n 0, 1) := by decide +kernel
theorem dX11_usedUp_121 : decode cX11_usedUp 121 = .ok (.getfield 46, 3) := by decide +kernel
theorem dX11_usedUp_124 : decode cX11_usedUp 124 = .ok (.iload_n 3, 1) := by decide +kernel
theorem dX11_usedUp_125 : decode cX11_usedUp 125 = .ok (.laload, 1) := by decide +kernel
theorem dX11_usedUp_126 : decode cX11_usedUp 126 = .ok (.ldiv, 1) := by decide +kernel
theorem dX11_usedUp_127 : decode cX11_usedUp 127 = .ok (.lstore 14, 2) := by decide +kernel
theorem dX11_usedUp_129 : decode cX11_usedUp 129 = .ok (.lload 14, 2) := by decide +kernel
theorem dX11_usedUp_131 : decode cX11_usedUp 131 = .ok (.aload_n 0, 1) := by decide +kernel
theorem dX11_usedUp_132 : decode cX11_usedUp 132 = .ok (.getfield 7, 3) := by decide +kernel
theorem dX11_usedUp_135 : decode cX11_usedUp 135 = .ok (.iload_n 2, 1) := by decide +kernel
theorem dX11_usedUp_136 : decode cX11_usedUp 136 = .ok (.iconst 4, 1) := by decide +kernel
theorem dX11_usedUp_137 : decode cX11_usedUp 137 = .ok (.iadd, 1) := by decide +kernel
theorem dX11_usedUp_138 : decode cX11_usedUp 138 = .ok (.laload, 1) := by decide +kernel
theorem dX11_usedUp_139 : decode cX11_usedUp 139 = .ok (.invokestatic 124, 3) := by decide +kernel
theorem dX11_usedUp_142 : decode cX11_usedUp 142 = .ok (.aload_n 0, 1) := by decide +kernel
theorem dX11_usedUp_143 : decode cX11_usedUp 143 = .ok (.getfield 7, 3) := by decide +kernel
theorem dX11_usedUp_146 : decode cX11_usedUp 146 = .ok (.iload_n 1, 1) := by decide +kernel
theorem dX11_usedUp_147 : decode cX11_usedUp 147 = .ok (.iconst 3, 1) := by decide +kernel
theorem dX11_usedUp_148 : decode cX11_usedUp 148 = .ok (.iadd, 1) := by decide +kernel
theorem dX11_usedUp_149 : decode cX11_usedUp 149 = .ok (.laload, 1) := by decide +kernel
theorem dX11_usedUp_150 : decode cX11_usedUp 150 = .ok (.lsub, 1) := by decide +kernel
theorem dX11_usedUp_151 : decode cX11_usedUp 151 = .ok (.lstore 16, 2) := by decide +kernel
theorem dX11_usedUp_153 : decode cX11_usedUp 153 = .ok (.aload_n 0, 1) := by decide +kernel
theorem dX11_usedUp_154 : decode cX11_usedUp 154 = .ok (.getfield 7, 3) := by decide +kernel
theorem dX11_usedUp_157 : decode cX11_usedUp 157 = .ok (.iconst 1, 1) := by decide +kernel
theorem dX11_usedUp_158 : decode cX11_usedUp 158 = .ok (.laload, 1) := by decide +kernel
theorem dX11_usedUp_159 : decode cX11_usedUp 159 = .ok (.lconst 0, 1) := by decide +kernel
theorem dX11_usedUp_160 : decode cX11_usedUp 160 = .ok (.lcmp, 1) := by decide +kernel
theorem dX11_usedUp_161 : decode cX11_usedUp 161 = .ok (.ifCond .eq 10, 3) := by decide +kernel
theorem dX11_usedUp_164 : decode cX11_usedUp 164 = .ok (.lload 16, 2) := by decide +kernel
theorem dX11_usedUp_166 : decode cX11_usedUp 166 = .ok (.lconst 0, 1) := by decide +kernel
theorem dX11_usedUp_167 : decode cX11_usedUp 167 = .ok (.lcmp, 1) := by decide +kernel
theorem dX11_usedUp_168 : decode cX11_usedUp 168 = .ok (.ifCond .gt 7, 3) := by decide +kernel
theorem dX11_usedUp_171 : decode cX11_usedUp 171 = .ok (.lconst 0, 1) := by decide +kernel
theorem dX11_usedUp_172 : decode cX11_usedUp 172 = .ok (.goto 23, 3) := by decide +kernel
theorem dX11_usedUp_175 : decode cX11_usedUp 175 = .ok (.lload 4, 2) := by decide +kernel
theorem dX11_usedUp_177 : decode cX11_usedUp 177 = .ok (.lload 16, 2) := by decide +kernel
theorem dX11_usedUp_179 : decode cX11_usedUp 179 = .ok (.lmul, 1) := by decide +kernel
theorem dX11_usedUp_180 : decode cX11_usedUp 180 = .ok (.aload_n 0, 1) := by decide +kernel
theorem dX11_usedUp_181 : decode cX11_usedUp 181 = .ok (.getfield 7, 3) := by decide +kernel
theorem dX11_usedUp_184 : decode cX11_usedUp 184 = .ok (.iconst 3, 1) := by decide +kernel
theorem dX11_usedUp_185 : decode cX11_usedUp 185 = .ok (.laload, 1) := by decide +kernel
theorem dX11_usedUp_186 : decode cX11_usedUp 186 = .ok (.lmul, 1) := by decide +kernel
theorem dX11_usedUp_187 : decode cX11_usedUp 187 = .ok (.ldc2_w 56, 3) := by decide +kernel
theorem dX11_usedUp_190 : decode cX11_usedUp 190 = .ok (.ldiv, 1) := by decide +kernel
theorem dX11_usedUp_191 : decode cX11_usedUp 191 = .ok (.ldc2_w 94, 3) := by decide +kernel
theorem dX11_usedUp_194 : decode cX11_usedUp 194 = .ok (.ldiv, 1) := by decide +kernel
theorem dX11_usedUp_195 : decode cX11_usedUp 195 = .ok (.lstore 18, 2) := by decide +kernel
theorem dX11_usedUp_197 : decode cX11_usedUp 197 = .ok (.aload_n 0, 1) := by decide +kernel
theorem dX11_usedUp_198 : decode cX11_usedUp 198 = .ok (.getfield 43, 3) := by decide +kernel
theorem dX11_usedUp_201 : decode cX11_usedUp 201 = .ok (.iload_n 3, 1) := by decide +kernel
theorem dX11_usedUp_202 : decode cX11_usedUp 202 = .ok (.dup2, 1) := by decide +kernel
theorem dX11_usedUp_203 : decode cX11_usedUp 203 = .ok (.laload, 1) := by decide +kernel
theorem dX11_usedUp_204 : decode cX11_usedUp 204 = .ok (.lload 10, 2) := by decide +kernel
theorem dX11_usedUp_206 : decode cX11_usedUp 206 = .ok (.lload 12, 2) := by decide +kernel
theorem dX11_usedUp_208 : decode cX11_usedUp 208 = .ok (.ladd, 1) := by decide +kernel
theorem dX11_usedUp_209 : decode cX11_usedUp 209 = .ok (.lsub, 1) := by decide +kernel
theorem dX11_usedUp_210 : decode cX11_usedUp 210 = .ok (.lastore, 1) := by decide +kernel
theorem dX11_usedUp_211 : decode cX11_usedUp 211 = .ok (.aload_n 0, 1) := by decide +kernel
theorem dX11_usedUp_212 : decode cX11_usedUp 212 = .ok (.getfield 46, 3) := by decide +kernel
theorem dX11_usedUp_215 : decode cX11_usedUp 215 = .ok (.iload_n 3, 1) := by decide +kernel
theorem dX11_usedUp_216 : decode cX11_usedUp 216 = .ok (.dup2, 1) := by decide +kernel
theorem dX11_usedUp_217 : decode cX11_usedUp 217 = .ok (.laload, 1) := by decide +kernel
theorem dX11_usedUp_218 : decode cX11_usedUp 218 = .ok (.lload 4, 2) := by decide +kernel
theorem dX11_usedUp_220 : decode cX11_usedUp 220 = .ok (.lsub, 1) := by decide +kernel
theorem dX11_usedUp_221 : decode cX11_usedUp 221 = .ok (.lastore, 1) := by decide +kernel
theorem dX11_usedUp_222 : decode cX11_usedUp 222 = .ok (.lload 10, 2) := by decide +kernel
theorem dX11_usedUp_224 : decode cX11_usedUp 224 = .ok (.lload 12, 2) := by decide +kernel
theorem dX11_usedUp_226 : decode cX11_usedUp 226 = .ok (.aload_n 0, 1) := by decide +kernel
theorem dX11_usedUp_227 : decode cX11_usedUp 227 = .ok (.getfield 7, 3) := by decide +kernel
theorem dX11_usedUp_230 : decode cX11_usedUp 230 = .ok (.iload_n 1, 1) := by decide +kernel
theorem dX11_usedUp_231 : decode cX11_usedUp 231 = .ok (.iconst 4, 1) := by decide +kernel
theorem dX11_usedUp_232 : decode cX11_usedUp 232 = .ok (.iadd, 1) := by decide +kernel
theorem dX11_usedUp_233 : decode cX11_usedUp 233 = .ok (.laload, 1) := by decide +kernel
theorem dX11_usedUp_234 : decode cX11_usedUp 234 = .ok (.invokestatic 124, 3) := by decide +kernel
theorem dX11_usedUp_237 : decode cX11_usedUp 237 = .ok (.ladd, 1) := by decide +kernel
theorem dX11_usedUp_238 : decode cX11_usedUp 238 = .ok (.lload 18, 2) := by decide +kernel
theorem dX11_usedUp_240 : decode cX11_usedUp 240 = .ok (.lsub, 1) := by decide +kernel
theorem dX11_usedUp_241 : decode cX11_usedUp 241 = .ok (.lreturn, 1) := by decide +kernel
theorem dX11_rateFor_0 : decode cX11_rateFor 0 = .ok (.aload_n 0, 1) := by decide +kernel
theorem dX11_rateFor_1 : decode cX11_rateFor 1 = .ok (.iload_n 1, 1) := by decide +kernel
theorem dX11_rateFor_2 : decode cX11_rateFor 2 = .ok (.invokevirtual 214, 3) := by decide +kernel
theorem dX11_rateFor_5 : decode cX11_rateFor 5 = .ok (.ifCond .eq 5, 3) := by decide +kernel
theorem dX11_rateFor_8 : decode cX11_rateFor 8 = .ok (.iconst 0, 1) := by decide +kernel
theorem dX11_rateFor_9 : decode cX11_rateFor 9 = .ok (.ireturn, 1) := by decide +kernel
theorem dX11_rateFor_10 : decode cX11_rateFor 10 = .ok (.sipush (-9000), 3) := by decide +kernel
theorem dX11_rateFor_13 : decode cX11_rateFor 13 = .ok (.istore 4, 2) := by decide +kernel
theorem dX11_rateFor_15 : decode cX11_rateFor 15 = .ok (.iload 4, 2) := by decide +kernel
theorem dX11_rateFor_17 : decode cX11_rateFor 17 = .ok (.sipush 9999, 3) := by decide +kernel
theorem dX11_rateFor_20 : decode cX11_rateFor 20 = .ok (.if_icmp .gt 24, 3) := by decide +kernel
theorem dX11_rateFor_23 : decode cX11_rateFor 23 = .ok (.aload_n 0, 1) := by decide +kernel
theorem dX11_rateFor_24 : decode cX11_rateFor 24 = .ok (.iload_n 1, 1) := by decide +kernel
theorem dX11_rateFor_25 : decode cX11_rateFor 25 = .ok (.iload 4, 2) := by decide +kernel
theorem dX11_rateFor_27 : decode cX11_rateFor 27 = .ok (.invokevirtual 446, 3) := by decide +kernel
theorem dX11_rateFor_30 : decode cX11_rateFor 30 = .ok (.lload_n 2, 1) := by decide +kernel
theorem dX11_rateFor_31 : decode cX11_rateFor 31 = .ok (.lcmp, 1) := by decide +kernel
theorem dX11_rateFor_32 : decode cX11_rateFor 32 = .ok (.ifCond .lt 6, 3) := by decide +kernel
theorem dX11_rateFor_35 : decode cX11_rateFor 35 = .ok (.iload 4, 2) := by decide +kernel
theorem dX11_rateFor_37 : decode cX11_rateFor 37 = .ok (.ireturn, 1) := by decide +kernel
theorem dX11_rateFor_38 : decode cX11_rateFor 38 = .ok (.iinc 4 1, 3) := by decide +kernel
theorem dX11_rateFor_41 : decode cX11_rateFor 41 = .ok (.goto (-26), 3) := by decide +kernel
theorem dX11_rateFor_44 : decode cX11_rateFor 44 = .ok (.aload_n 0, 1) := by decide +kernel
theorem dX11_rateFor_45 : decode cX11_rateFor 45 = .ok (.iconst 2, 1) := by decide +kernel
theorem dX11_rateFor_46 : decode cX11_rateFor 46 = .ok (.invokevirtual 83, 3) := by decide +kernel
theorem dX11_rateFor_49 : decode cX11_rateFor 49 = .ok (.ireturn, 1) := by decide +kernel
theorem dX11_daysUntil_0 : decode cX11_daysUntil 0 = .ok (.aload_n 0, 1) := by decide +kernel
theorem dX11_daysUntil_1 : decode cX11_daysUntil 1 = .ok (.lload_n 1, 1) := by decide +kernel
theorem dX11_daysUntil_2 : decode cX11_daysUntil 2 = .ok (.lconst 0, 1) := by decide +kernel
theorem dX11_daysUntil_3 : decode cX11_daysUntil 3 = .ok (.lcmp, 1) := by decide +kernel
theorem dX11_daysUntil_4 : decode cX11_daysUntil 4 = .ok (.ifCond .ge 7, 3) := by decide +kernel
theorem dX11_daysUntil_7 : decode cX11_daysUntil 7 = .ok (.iconst 1, 1) := by decide +kernel
theorem dX11_daysUntil_8 : decode cX11_daysUntil 8 = .ok (.goto 4, 3) := by decide +kernel
theorem dX11_daysUntil_11 : decode cX11_daysUntil 11 = .ok (.iconst 0, 1) := by decide +kernel
theorem dX11_daysUntil_12 : decode cX11_daysUntil 12 = .ok (.iconst 1, 1) := by decide +kernel
theorem dX11_daysUntil_13 : decode cX11_daysUntil 13 = .ok (.invokevirtual 69, 3) := by decide +kernel
theorem dX11_daysUntil_16 : decode cX11_daysUntil 16 = .ok (.ifCond .eq 5, 3) := by decide +kernel
theorem dX11_daysUntil_19 : decode cX11_daysUntil 19 = .ok (.iconst 0, 1) := by decide +kernel
theorem dX11_daysUntil_20 : decode cX11_daysUntil 20 = .ok (.ireturn, 1) := by decide +kernel
theorem dX11_daysUntil_21 : decode cX11_daysUntil 21 = .ok (.aload_n 0, 1) := by decide +kernel
theorem dX11_daysUntil_22 : decode cX11_daysUntil 22 = .ok (.getfield 7, 3) := by decide +kernel
theorem dX11_daysUntil_25 : decode cX11_daysUntil 25 = .ok (.aload_n 0, 1) := by decide +kernel
theorem dX11_daysUntil_26 : decode cX11_daysUntil 26 = .ok (.getfield 16, 3) := by decide +kernel
theorem dX11_daysUntil_29 : decode cX11_daysUntil 29 = .ok (.invokestatic 76, 3) := by decide +kernel
theorem dX11_daysUntil_32 : decode cX11_daysUntil 32 = .ok (.iconst 0, 1) := by decide +kernel
theorem dX11_daysUntil_33 : decode cX11_daysUntil 33 = .ok (.istore_n 3, 1) := by decide +kernel
theorem dX11_daysUntil_34 : decode cX11_daysUntil 34 = .ok (.iload_n 3, 1) := by decide +kernel
theorem dX11_daysUntil_35 : decode cX11_daysUntil 35 = .ok (.sipush 400, 3) := by decide +kernel
theorem dX11_daysUntil_38 : decode cX11_daysUntil 38 = .ok (.if_icmp .gt 25, 3) := by decide +kernel
theorem dX11_daysUntil_41 : decode cX11_daysUntil 41 = .ok (.aload_n 0, 1) := by decide +kernel
theorem dX11_daysUntil_42 : decode cX11_daysUntil 42 = .ok (.invokevirtual 169, 3) := by decide +kernel
theorem dX11_daysUntil_45 : decode cX11_daysUntil 45 = .ok (.lload_n 1, 1) := by decide +kernel
theorem dX11_daysUntil_46 : decode cX11_daysUntil 46 = .ok (.lcmp, 1) := by decide +kernel
theorem dX11_daysUntil_47 : decode cX11_daysUntil 47 = .ok (.ifCond .le 16, 3) := by decide +kernel
theorem dX11_daysUntil_50 : decode cX11_daysUntil 50 = .ok (.aload_n 0, 1) := by decide +kernel
theorem dX11_daysUntil_51 : decode cX11_daysUntil 51 = .ok (.iconst 1, 1) := by decide +kernel
theorem dX11_daysUntil_52 : decode cX11_daysUntil 52 = .ok (.invokevirtual 264, 3) := by decide +kernel
theorem dX11_daysUntil_55 : decode cX11_daysUntil 55 = .ok (.lstore 4, 2) := by decide +kernel
theorem dX11_daysUntil_57 : decode cX11_daysUntil 57 = .ok (.iinc 3 1, 3) := by decide +kernel
theorem dX11_daysUntil_60 : decode cX11_daysUntil 60 = .ok (.goto (-26), 3) := by decide +kernel
theorem dX11_daysUntil_63 : decode cX11_daysUntil 63 = .ok (.aload_n 0, 1) := by decide +kernel
theorem dX11_daysUntil_64 : decode cX11_daysUntil 64 = .ok (.getfield 16, 3) := by decide +kernel
theorem dX11_daysUntil_67 : decode cX11_daysUntil 67 = .ok (.aload_n 0, 1) := by decide +kernel
theorem dX11_daysUntil_68 : decode cX11_daysUntil 68 = .ok (.getfield 7, 3) := by decide +kernel
theorem dX11_daysUntil_71 : decode cX11_daysUntil 71 = .ok (.invokestatic 76, 3) := by decide +kernel
theorem dX11_daysUntil_74 : decode cX11_daysUntil 74 = .ok (.iload_n 3, 1) := by decide +kernel
theorem dX11_daysUntil_75 : decode cX11_daysUntil 75 = .ok (.sipush 400, 3) := by decide +kernel
theorem dX11_daysUntil_78 : decode cX11_daysUntil 78 = .ok (.if_icmp .le 7, 3) := by decide +kernel
theorem dX11_daysUntil_81 : decode cX11_daysUntil 81 = .ok (.iconst (-1), 1) := by decide +kernel
theorem dX11_daysUntil_82 : decode cX11_daysUntil 82 = .ok (.goto 4, 3) := by decide +kernel
theorem dX11_daysUntil_85 : decode cX11_daysUntil 85 = .ok (.iload_n 3, 1) := by decide +kernel
theorem dX11_daysUntil_86 : decode cX11_daysUntil 86 = .ok (.ireturn, 1) := by decide +kernel
theorem dX11_wouldCrystallize_0 : decode cX11_wouldCrystallize 0 = .ok (.aload_n 0, 1) := by decide +kernel
theorem dX11_wouldCrystallize_1 : decode cX11_wouldCrystallize 1 = .ok (.iconst 0, 1) := by decide +kernel
theorem dX11_wouldCrystallize_2 : decode cX11_wouldCrystallize 2 = .ok (.putfield 58, 3) := by decide +kernel
theorem dX11_wouldCrystallize_5 : decode cX11_wouldCrystallize 5 = .ok (.aload_n 0, 1) := by decide +kernel
theorem dX11_wouldCrystallize_6 : decode cX11_wouldCrystallize 6 = .ok (.getfield 7, 3) := by decide +kernel
theorem dX11_wouldCrystallize_9 : decode cX11_wouldCrystallize 9 = .ok (.aload_n 0, 1) := by decide +kernel
theorem dX11_wouldCrystallize_10 : decode cX11_wouldCrystallize 10 = .ok (.getfield 16, 3) := by decide +kernel
theorem dX11_wouldCrystallize_13 : decode cX11_wouldCrystallize 13 = .ok (.invokestatic 76, 3) := by decide +kernel
theorem dX11_wouldCrystallize_16 : decode cX11_wouldCrystallize 16 = .ok (.aload_n 0, 1) := by decide +kernel
theorem dX11_wouldCrystallize_17 : decode cX11_wouldCrystallize 17 = .ok (.invokevirtual 281, 3) := by decide +kernel
theorem dX11_wouldCrystallize_20 : decode cX11_wouldCrystallize 20 = .ok (.lstore_n 1, 1) := by decide +kernel
theorem dX11_wouldCrystallize_21 : decode cX11_wouldCrystallize 21 = .ok (.aload_n 0, 1) := by decide +kernel
theorem dX11_wouldCrystallize_22 : decode cX11_wouldCrystallize 22 = .ok (.getfield 16, 3) := by decide +kernel
theorem dX11_wouldCrystallize_25 : decode cX11_wouldCrystallize 25 = .ok (.aload_n 0, 1) := by decide +kernel
theorem dX11_wouldCrystallize_26 : decode cX11_wouldCrystallize 26 = .ok (.getfield 7, 3) := by decide +kernel
theorem dX11_wouldCrystallize_29 : decode cX11_wouldCrystallize 29 = .ok (.invokestatic 76, 3) := by decide +kernel
theorem dX11_wouldCrystallize_32 : decode cX11_wouldCrystallize 32 = .ok (.lload_n 1, 1) := by decide +kernel
theorem dX11_wouldCrystallize_33 : decode cX11_wouldCrystallize 33 = .ok (.lreturn, 1) := by decide +kernel
theorem dX11_wouldMerge_0 : decode cX11_wouldMerge 0 = .ok (.aload_n 0, 1) := by decide +kernel
theorem dX11_wouldMerge_1 : decode cX11_wouldMerge 1 = .ok (.iconst 0, 1) := by decide +kernel
theorem dX11_wouldMerge_2 : decode cX11_wouldMerge 2 = .ok (.putfield 58, 3) := by decide +kernel
theorem dX11_wouldMerge_5 : decode cX11_wouldMerge 5 = .ok (.aload_n 0, 1) := by decide +kernel
theorem dX11_wouldMerge_6 : decode cX11_wouldMerge 6 = .ok (.getfield 7, 3) := by decide +kernel
theorem dX11_wouldMerge_9 : decode cX11_wouldMerge 9 = .ok (.aload_n 0, 1) := by decide +kernel
theorem dX11_wouldMerge_10 : decode cX11_wouldMerge 10 = .ok (.getfield 16, 3) := by decide +kernel
theorem dX11_wouldMerge_13 : decode cX11_wouldMerge 13 = .ok (.invokestatic 76, 3) := by decide +kernel
theorem dX11_wouldMerge_16 : decode cX11_wouldMerge 16 = .ok (.aload_n 0, 1) := by decide +kernel
theorem dX11_wouldMerge_17 : decode cX11_wouldMerge 17 = .ok (.invokevirtual 281, 3) := by decide +kernel
theorem dX11_wouldMerge_20 : decode cX11_wouldMerge 20 = .ok (.lstore_n 1, 1) := by decide +kernel
theorem dX11_wouldMerge_21 : decode cX11_wouldMerge 21 = .ok (.aload_n 0, 1) := by decide +kernel
theorem dX11_wouldMerge_22 : decode cX11_wouldMerge 22 = .ok (.invokevirtual 287, 3) := by decide +kernel
theorem dX11_wouldMerge_25 : decode cX11_wouldMerge 25 = .ok (.istore_n 3, 1) := by decide +kernel
theorem dX11_wouldMerge_26 : decode cX11_wouldMerge 26 = .ok (.aload_n 0, 1) := by decide +kernel
theorem dX11_wouldMerge_27 : decode cX11_wouldMerge 27 = .ok (.getfield 16, 3) := by decide +kernel
theorem dX11_wouldMerge_30 : decode cX11_wouldMerge 30 = .ok (.aload_n 0, 1) := by decide +kernel
theorem dX11_wouldMerge_31 : decode cX11_wouldMerge 31 = .ok (.getfield 7, 3) := by decide +kernel
theorem dX11_wouldMerge_34 : decode cX11_wouldMerge 34 = .ok (.invokestatic 76, 3) := by decide +kernel
theorem dX11_wouldMerge_37 : decode cX11_wouldMerge 37 = .ok (.iload_n 3, 1) := by decide +kernel
theorem dX11_wouldMerge_38 : decode cX11_wouldMerge 38 = .ok (.ireturn, 1) := by decide +kernel
theorem dX11_bestGate_0 : decode cX11_bestGate 0 = .ok (.aload_n 0, 1) := by decide +kernel
theorem dX11_bestGate_1 : decode cX11_bestGate 1 = .ok (.iload_n 1, 1) := by decide +kernel
theorem dX11_bestGate_2 : decode cX11_bestGate 2 = .ok (.invokevirtual 238, 3) := by decide +kernel
theorem dX11_bestGate_5 : decode cX11_bestGate 5 = .ok (.ifCond .eq 5, 3) := by decide +kernel
theorem dX11_bestGate_8 : decode cX11_bestGate 8 = .ok (.iconst 0, 1) := by decide +kernel
theorem dX11_bestGate_9 : decode cX11_bestGate 9 = .ok (.ireturn, 1) := by decide +kernel
theorem dX11_bestGate_10 : decode cX11_bestGate 10 = .ok (.aload_n 0, 1) := by decide +kernel
theorem dX11_bestGate_11 : decode cX11_bestGate 11 = .ok (.iload_n 1, 1) := by decide +kernel
theorem dX11_bestGate_12 : decode cX11_bestGate 12 = .ok (.invokevirtual 163, 3) := by decide +kernel
theorem dX11_bestGate_15 : decode cX11_bestGate 15 = .ok (.ifCond .ne 5, 3) := by decide +kernel
theorem dX11_bestGate_18 : decode cX11_bestGate 18 = .ok (.iconst (-1), 1) := by decide +kernel
theorem dX11_bestGate_19 : decode cX11_bestGate 19 = .ok (.ireturn, 1) := by decide +kernel
theorem dX11_bestGate_20 : decode cX11_bestGate 20 = .ok (.aload_n 0, 1) := by decide +kernel
theorem dX11_bestGate_21 : decode cX11_bestGate 21 = .ok (.getfield 7, 3) := by decide +kernel
theorem dX11_bestGate_24 : decode cX11_bestGate 24 = .ok (.aload_n 0, 1) := by decide +kernel
theorem dX11_bestGate_25 : decode cX11_bestGate 25 = .ok (.getfield 16, 3) := by decide +kernel
theorem dX11_bestGate_28 : decode cX11_bestGate 28 = .ok (.invokestatic 76, 3) := by decide +kernel
theorem dX11_bestGate_31 : decode cX11_bestGate 31 = .ok (.iconst 1, 1) := by decide +kernel
theorem dX11_bestGate_32 : decode cX11_bestGate 32 = .ok (.istore_n 2, 1) := by decide +kernel
theorem dX11_bestGate_33 : decode cX11_bestGate 33 = .ok (.iload_n 2, 1) := by decide +kernel
theorem dX11_bestGate_34 : decode cX11_bestGate 34 = .ok (.bipush 100, 2) := by decide +kernel
theorem dX11_bestGate_36 : decode cX11_bestGate 36 = .ok (.if_icmp .gt 43, 3) := by decide +kernel
theorem dX11_bestGate_39 : decode cX11_bestGate 39 = .ok (.aload_n 0, 1) := by decide +kernel
theorem dX11_bestGate_40 : decode cX11_bestGate 40 = .ok (.getfield 7, 3) := by decide +kernel
theorem dX11_bestGate_43 : decode cX11_bestGate 43 = .ok (.iconst 4, 1) := by decide +kernel
theorem dX11_bestGate_44 : decode cX11_bestGate 44 = .ok (.iload_n 2, 1) := by decide +kernel
theorem dX11_bestGate_45 : decode cX11_bestGate 45 = .ok (.i2l, 1) := by decide +kernel
theorem dX11_bestGate_46 : decode cX11_bestGate 46 = .ok (.lastore, 1) := by decide +kernel
theorem dX11_bestGate_47 : decode cX11_bestGate 47 = .ok (.aload_n 0, 1) := by decide +kernel
theorem dX11_bestGate_48 : decode cX11_bestGate 48 = .ok (.invokevirtual 193, 3) := by decide +kernel
theorem dX11_bestGate_51 : decode cX11_bestGate 51 = .ok (.aload_n 0, 1) := by decide +kernel
theorem dX11_bestGate_52 : decode cX11_bestGate 52 = .ok (.getfield 16, 3) := by decide +kernel
theorem dX11_bestGate_55 : decode cX11_bestGate 55 = .ok (.aload_n 0, 1) := by decide +kernel
theorem dX11_bestGate_56 : decode cX11_bestGate 56 = .ok (.getfield 7, 3) := by decide +kernel
theorem dX11_bestGate_59 : decode cX11_bestGate 59 = .ok (.invokestatic 76, 3) := by decide +kernel
theorem dX11_bestGate_62 : decode cX11_bestGate 62 = .ok (.aload_n 0, 1) := by decide +kernel
theorem dX11_bestGate_63 : decode cX11_bestGate 63 = .ok (.getfield 31, 3) := by decide +kernel
theorem dX11_bestGate_66 : decode cX11_bestGate 66 = .ok (.iload_n 1, 1) := by decide +kernel
theorem dX11_bestGate_67 : decode cX11_bestGate 67 = .ok (.baload, 1) := by decide +kernel
theorem dX11_bestGate_68 : decode cX11_bestGate 68 = .ok (.ifCond .eq 5, 3) := by decide +kernel
theorem dX11_bestGate_71 : decode cX11_bestGate 71 = .ok (.iload_n 2, 1) := by decide +kernel
theorem dX11_bestGate_72 : decode cX11_bestGate 72 = .ok (.ireturn, 1) := by decide +kernel
theorem dX11_bestGate_73 : decode cX11_bestGate 73 = .ok (.iinc 2 1, 3) := by decide +kernel
theorem dX11_bestGate_76 : decode cX11_bestGate 76 = .ok (.goto (-43), 3) := by decide +kernel
theorem dX11_bestGate_79 : decode cX11_bestGate 79 = .ok (.iconst (-1), 1) := by decide +kernel
theorem dX11_bestGate_80 : decode cX11_bestGate 80 = .ok (.ireturn, 1) := by decide +kernel
theorem dX11_print_0 : decode cX11_print 0 = .ok (.aload_n 0, 1) := by decide +kernel
theorem dX11_print_1 : decode cX11_print 1 = .ok (.getfield 49, 3) := by decide +kernel
theorem dX11_print_4 : decode cX11_print 4 = .ok (.aload_n 0, 1) := by decide +kernel
theorem dX11_print_5 : decode cX11_print 5 = .ok (.getfield 450, 3) := by decide +kernel
theorem dX11_print_8 : decode cX11_print 8 = .ok (.iload_n 1, 1) := by decide +kernel
theorem dX11_print_9 : decode cX11_print 9 = .ok (.i2b, 1) := by decide +kernel
theorem dX11_print_10 : decode cX11_print 10 = .ok (.bastore, 1) := by decide +kernel
theorem dX11_print_11 : decode cX11_print 11 = .ok (.aload_n 0, 1) := by decide +kernel
theorem dX11_print_12 : decode cX11_print 12 = .ok (.dup, 1) := by decide +kernel
theorem dX11_print_13 : decode cX11_print 13 = .ok (.getfield 450, 3) := by decide +kernel
theorem dX11_print_16 : decode cX11_print 16 = .ok (.iconst 1, 1) := by decide +kernel
theorem dX11_print_17 : decode cX11_print 17 = .ok (.iadd, 1) := by decide +kernel
theorem dX11_print_18 : decode cX11_print 18 = .ok (.putfield 450, 3) := by decide +kernel
theorem dX11_print_21 : decode cX11_print 21 = .ok (.return_, 1) := by decide +kernel
theorem dX11_printWord_0 : decode cX11_printWord 0 = .ok (.iconst 0, 1) := by decide +kernel
theorem dX11_printWord_1 : decode cX11_printWord 1 = .ok (.istore_n 2, 1) := by decide +kernel
theorem dX11_printWord_2 : decode cX11_printWord 2 = .ok (.iload_n 2, 1) := by decide +kernel
theorem dX11_printWord_3 : decode cX11_printWord 3 = .ok (.aload_n 1, 1) := by decide +kernel
theorem dX11_printWord_4 : decode cX11_printWord 4 = .ok (.invokevirtual 330, 3) := by decide +kernel
theorem dX11_printWord_7 : decode cX11_printWord 7 = .ok (.if_icmp .ge 18, 3) := by decide +kernel
theorem dX11_printWord_10 : decode cX11_printWord 10 = .ok (.aload_n 0, 1) := by decide +kernel
theorem dX11_printWord_11 : decode cX11_printWord 11 = .ok (.aload_n 1, 1) := by decide +kernel
theorem dX11_printWord_12 : decode cX11_printWord 12 = .ok (.iload_n 2, 1) := by decide +kernel
theorem dX11_printWord_13 : decode cX11_printWord 13 = .ok (.invokevirtual 334, 3) := by decide +kernel
theorem dX11_printWord_16 : decode cX11_printWord 16 = .ok (.invokevirtual 453, 3) := by decide +kernel
theorem dX11_printWord_19 : decode cX11_printWord 19 = .ok (.iinc 2 1, 3) := by decide +kernel
theorem dX11_printWord_22 : decode cX11_printWord 22 = .ok (.goto (-20), 3) := by decide +kernel
theorem dX11_printWord_25 : decode cX11_printWord 25 = .ok (.return_, 1) := by decide +kernel
theorem dX11_printNumber_0 : decode cX11_printNumber 0 = .ok (.lload_n 1, 1) := by decide +kernel
theorem dX11_printNumber_1 : decode cX11_printNumber 1 = .ok (.ldc2_w 424, 3) := by decide +kernel
theorem dX11_printNumber_4 : decode cX11_printNumber 4 = .ok (.lcmp, 1) := by decide +kernel
theorem dX11_printNumber_5 : decode cX11_printNumber 5 = .ok (.ifCond .le 12, 3) := by decide +kernel
theorem dX11_printNumber_8 : decode cX11_printNumber 8 = .ok (.aload_n 0, 1) := by decide +kernel
theorem dX11_printNumber_9 : decode cX11_printNumber 9 = .ok (.lload_n 1, 1) := by decide +kernel
theorem dX11_printNumber_10 : decode cX11_printNumber 10 = .ok (.ldc2_w 457, 3) := by decide +kernel
theorem dX11_printNumber_13 : decode cX11_printNumber 13 = .ok (.ldiv, 1) := by decide +kernel
theorem dX11_printNumber_14 : decode cX11_printNumber 14 = .ok (.invokevirtual 459, 3) := by decide +kernel
theorem dX11_printNumber_17 : decode cX11_printNumber 17 = .ok (.aload_n 0, 1) := by decide +kernel
theorem dX11_printNumber_18 : decode cX11_printNumber 18 = .ok (.ldc2_w 323, 3) := by decide +kernel
theorem dX11_printNumber_21 : decode cX11_printNumber 21 = .ok (.lload_n 1, 1) := by decide +kernel
theorem dX11_printNumber_22 : decode cX11_printNumber 22 = .ok (.ldc2_w 457, 3) := by decide +kernel
theorem dX11_printNumber_25 : decode cX11_printNumber 25 = .ok (.lrem, 1) := by decide +kernel
theorem dX11_printNumber_26 : decode cX11_printNumber 26 = .ok (.ladd, 1) := by decide +kernel
theorem dX11_printNumber_27 : decode cX11_printNumber 27 = .ok (.l2i, 1) := by decide +kernel
theorem dX11_printNumber_28 : decode cX11_printNumber 28 = .ok (.i2c, 1) := by decide +kernel
theorem dX11_printNumber_29 : decode cX11_printNumber 29 = .ok (.invokevirtual 453, 3) := by decide +kernel
theorem dX11_printNumber_32 : decode cX11_printNumber 32 = .ok (.return_, 1) := by decide +kernel
theorem dX11_printSeries_0 : decode cX11_printSeries 0 = .ok (.aload_n 0, 1) := by decide +kernel
theorem dX11_printSeries_1 : decode cX11_printSeries 1 = .ok (.ldc_w 463, 3) := by decide +kernel
theorem dX11_printSeries_4 : decode cX11_printSeries 4 = .ok (.invokevirtual 465, 3) := by decide +kernel
theorem dX11_printSeries_7 : decode cX11_printSeries 7 = .ok (.aload_n 0, 1) := by decide +kernel
theorem dX11_printSeries_8 : decode cX11_printSeries 8 = .ok (.aload_n 0, 1) := by decide +kernel
theorem dX11_printSeries_9 : decode cX11_printSeries 9 = .ok (.getfield 7, 3) := by decide +kernel
theorem dX11_printSeries_12 : decode cX11_printSeries 12 = .ok (.iload_n 1, 1) := by decide +kernel
theorem dX11_printSeries_13 : decode cX11_printSeries 13 = .ok (.iconst 0, 1) := by decide +kernel
theorem dX11_printSeries_14 : decode cX11_printSeries 14 = .ok (.iadd, 1) := by decide +kernel
theorem dX11_printSeries_15 : decode cX11_printSeries 15 = .ok (.laload, 1) := by decide +kernel
theorem dX11_printSeries_16 : decode cX11_printSeries 16 = .ok (.invokevirtual 459, 3) := by decide +kernel
theorem dX11_printSeries_19 : decode cX11_printSeries 19 = .ok (.aload_n 0, 1) := by decide +kernel
theorem dX11_printSeries_20 : decode cX11_printSeries 20 = .ok (.bipush 32, 2) := by decide +kernel
theorem dX11_printSeries_22 : decode cX11_printSeries 22 = .ok (.invokevirtual 453, 3) := by decide +kernel
theorem dX11_printSeries_25 : decode cX11_printSeries 25 = .ok (.aload_n 0, 1) := by decide +kernel
theorem dX11_printSeries_26 : decode cX11_printSeries 26 = .ok (.aload_n 0, 1) := by decide +kernel
theorem dX11_printSeries_27 : decode cX11_printSeries 27 = .ok (.iload_n 1, 1) := by decide +kernel
theorem dX11_printSeries_28 : decode cX11_printSeries 28 = .ok (.invokevirtual 106, 3) := by decide +kernel
theorem dX11_printSeries_31 : decode cX11_printSeries 31 = .ok (.ldc2_w 94, 3) := by decide +kernel
theorem dX11_printSeries_34 : decode cX11_printSeries 34 = .ok (.lmul, 1) := by decide +kernel
theorem dX11_printSeries_35 : decode cX11_printSeries 35 = .ok (.aload_n 0, 1) := by decide +kernel
theorem dX11_printSeries_36 : decode cX11_printSeries 36 = .ok (.getfield 7, 3) := by decide +kernel
theorem dX11_printSeries_39 : decode cX11_printSeries 39 = .ok (.iload_n 1, 1) := by decide +kernel
theorem dX11_printSeries_40 : decode cX11_printSeries 40 = .ok (.iconst 3, 1) := by decide +kernel
theorem dX11_printSeries_41 : decode cX11_printSeries 41 = .ok (.iadd, 1) := by decide +kernel
theorem dX11_printSeries_42 : decode cX11_printSeries 42 = .ok (.laload, 1) := by decide +kernel
theorem dX11_printSeries_43 : decode cX11_printSeries 43 = .ok (.ldiv, 1) := by decide +kernel
theorem dX11_printSeries_44 : decode cX11_printSeries 44 = .ok (.invokevirtual 459, 3) := by decide +kernel
theorem dX11_printSeries_47 : decode cX11_printSeries 47 = .ok (.aload_n 0, 1) := by decide +kernel
theorem dX11_printSeries_48 : decode cX11_printSeries 48 = .ok (.bipush 32, 2) := by decide +kernel
theorem dX11_printSeries_50 : decode cX11_printSeries 50 = .ok (.invokevirtual 453, 3) := by decide +kernel
theorem dX11_printSeries_53 : decode cX11_printSeries 53 = .ok (.aload_n 0, 1) := by decide +kernel
theorem dX11_printSeries_54 : decode cX11_printSeries 54 = .ok (.aload_n 0, 1) := by decide +kernel
theorem dX11_printSeries_55 : decode cX11_printSeries 55 = .ok (.getfield 7, 3) := by decide +kernel
theorem dX11_printSeries_58 : decode cX11_printSeries 58 = .ok (.iload_n 1, 1) := by decide +kernel
theorem dX11_printSeries_59 : decode cX11_printSeries 59 = .ok (.iconst 4, 1) := by decide +kernel
theorem dX11_printSeries_60 : decode cX11_printSeries 60 = .ok (.iadd, 1) := by decide +kernel
theorem dX11_printSeries_61 : decode cX11_printSeries 61 = .ok (.laload, 1) := by decide +kernel
theorem dX11_printSeries_62 : decode cX11_printSeries 62 = .ok (.invokevirtual 459, 3) := by decide +kernel
theorem dX11_printSeries_65 : decode cX11_printSeries 65 = .ok (.iconst 0, 1) := by decide +kernel
theorem dX11_printSeries_66 : decode cX11_printSeries 66 = .ok (.istore_n 2, 1) := by decide +kernel
theorem dX11_printSeries_67 : decode cX11_printSeries 67 = .ok (.iload_n 2, 1) := by decide +kernel
theorem dX11_printSeries_68 : decode cX11_printSeries 68 = .ok (.i2l, 1) := by decide +kernel
theorem dX11_printSeries_69 : decode cX11_printSeries 69 = .ok (.aload_n 0, 1) := by decide +kernel
theorem dX11_printSeries_70 : decode cX11_printSeries 70 = .ok (.getfield 7, 3) := by decide +kernel
theorem dX11_printSeries_73 : decode cX11_printSeries 73 = .ok (.iconst 0, 1) := by decide +kernel
theorem dX11_printSeries_74 : decode cX11_printSeries 74 = .ok (.laload, 1) := by decide +kernel
theorem dX11_printSeries_75 : decode cX11_printSeries 75 = .ok (.lcmp, 1) := by decide +kernel
theorem dX11_printSeries_76 : decode cX11_printSeries 76 = .ok (.ifCond .ge 55, 3) := by decide +kernel
theorem dX11_printSeries_79 : decode cX11_printSeries 79 = .ok (.aload_n 0, 1) := by decide +kernel
theorem dX11_printSeries_80 : decode cX11_printSeries 80 = .ok (.iload_n 2, 1) := by decide +kernel
theorem dX11_printSeries_81 : decode cX11_printSeries 81 = .ok (.aload_n 0, 1) := by decide +kernel
theorem dX11_printSeries_82 : decode cX11_printSeries 82 = .ok (.getfield 7, 3) := by decide +kernel
theorem dX11_printSeries_85 : decode cX11_printSeries 85 = .ok (.iload_n 1, 1) := by decide +kernel
theorem dX11_printSeries_86 : decode cX11_printSeries 86 = .ok (.iconst 0, 1) := by decide +kernel
theorem dX11_printSeries_87 : decode cX11_printSeries 87 = .ok (.iadd, 1) := by decide +kernel
theorem dX11_printSeries_88 : decode cX11_printSeries 88 = .ok (.laload, 1) := by decide +kernel
theorem dX11_printSeries_89 : decode cX11_printSeries 89 = .ok (.invokevirtual 431, 3) := by decide +kernel
theorem dX11_printSeries_92 : decode cX11_printSeries 92 = .ok (.lstore_n 3, 1) := by decide +kernel
theorem dX11_printSeries_93 : decode cX11_printSeries 93 = .ok (.lload_n 3, 1) := by decide +kernel
theorem dX11_printSeries_94 : decode cX11_printSeries 94 = .ok (.lconst 0, 1) := by decide +kernel
theorem dX11_printSeries_95 : decode cX11_printSeries 95 = .ok (.lcmp, 1) := by decide +kernel
theorem dX11_printSeries_96 : decode cX11_printSeries 96 = .ok (.ifCond .ne 6, 3) := by decide +kernel
theorem dX11_printSeries_99 : decode cX11_printSeries 99 = .ok (.goto 26, 3) := by decide +kernel
theorem dX11_printSeries_102 : decode cX11_printSeries 102 = .ok (.aload_n 0, 1) := by decide +kernel
theorem dX11_printSeries_103 : decode cX11_printSeries 103 = .ok (.bipush 32, 2) := by decide +kernel
theorem dX11_printSeries_105 : decode cX11_printSeries 105 = .ok (.invokevirtual 453, 3) := by decide +kernel
theorem dX11_printSeries_108 : decode cX11_printSeries 108 = .ok (.aload_n 0, 1) := by decide +kernel
theorem dX11_printSeries_109 : decode cX11_printSeries 109 = .ok (.iload_n 2, 1) := by decide +kernel
theorem dX11_printSeries_110 : decode cX11_printSeries 110 = .ok (.i2l, 1) := by decide +kernel
theorem dX11_printSeries_111 : decode cX11_printSeries 111 = .ok (.invokevirtual 459, 3) := by decide +kernel
theorem dX11_printSeries_114 : decode cX11_printSeries 114 = .ok (.aload_n 0, 1) := by decide +kernel
theorem dX11_printSeries_115 : decode cX11_printSeries 115 = .ok (.bipush 58, 2) := by decide +kernel
theorem dX11_printSeries_117 : decode cX11_printSeries 117 = .ok (.invokevirtual 453, 3) := by decide +kernel
theorem dX11_printSeries_120 : decode cX11_printSeries 120 = .ok (.aload_n 0, 1) := by decide +kernel
theorem dX11_printSeries_121 : decode cX11_printSeries 121 = .ok (.lload_n 3, 1) := by decide +kernel
theorem dX11_printSeries_122 : decode cX11_printSeries 122 = .ok (.invokevirtual 459, 3) := by decide +kernel
theorem dX11_printSeries_125 : decode cX11_printSeries 125 = .ok (.iinc 2 1, 3) := by decide +kernel
theorem dX11_printSeries_128 : decode cX11_printSeries 128 = .ok (.goto (-61), 3) := by decide +kernel
theorem dX11_printSeries_131 : decode cX11_printSeries 131 = .ok (.aload_n 0, 1) := by decide +kernel
theorem dX11_printSeries_132 : decode cX11_printSeries 132 = .ok (.bipush 10, 2) := by decide +kernel
theorem dX11_printSeries_134 : decode cX11_printSeries 134 = .ok (.invokevirtual 453, 3) := by decide +kernel
theorem dX11_printSeries_137 : decode cX11_printSeries 137 = .ok (.return_, 1) := by decide +kernel
theorem dX11_writeReport_0 : decode cX11_writeReport 0 = .ok (.aload_n 0, 1) := by decide +kernel
theorem dX11_writeReport_1 : decode cX11_writeReport 1 = .ok (.iconst 0, 1) := by decide +kernel
theorem dX11_writeReport_2 : decode cX11_writeReport 2 = .ok (.putfield 58, 3) := by decide +kernel
theorem dX11_writeReport_5 : decode cX11_writeReport 5 = .ok (.aload_n 0, 1) := by decide +kernel
theorem dX11_writeReport_6 : decode cX11_writeReport 6 = .ok (.iconst 0, 1) := by decide +kernel
theorem dX11_writeReport_7 : decode cX11_writeReport 7 = .ok (.putfield 450, 3) := by decide +kernel
theorem dX11_writeReport_10 : decode cX11_writeReport 10 = .ok (.aload_n 0, 1) := by decide +kernel
theorem dX11_writeReport_11 : decode cX11_writeReport 11 = .ok (.ldc_w 468, 3) := by decide +kernel
theorem dX11_writeReport_14 : decode cX11_writeReport 14 = .ok (.invokevirtual 465, 3) := by decide +kernel
theorem dX11_writeReport_17 : decode cX11_writeReport 17 = .ok (.aload_n 0, 1) := by decide +kernel
theorem dX11_writeReport_18 : decode cX11_writeReport 18 = .ok (.aload_n 0, 1) := by decide +kernel
theorem dX11_writeReport_19 : decode cX11_writeReport 19 = .ok (.getfield 7, 3) := by decide +kernel
theorem dX11_writeReport_22 : decode cX11_writeReport 22 = .ok (.iconst 5, 1) := by decide +kernel
theorem dX11_writeReport_23 : decode cX11_writeReport 23 = .ok (.laload, 1) := by decide +kernel
theorem dX11_writeReport_24 : decode cX11_writeReport 24 = .ok (.invokevirtual 459, 3) := by decide +kernel
theorem dX11_writeReport_27 : decode cX11_writeReport 27 = .ok (.aload_n 0, 1) := by decide +kernel
theorem dX11_writeReport_28 : decode cX11_writeReport 28 = .ok (.ldc_w 470, 3) := by decide +kernel
theorem dX11_writeReport_31 : decode cX11_writeReport 31 = .ok (.invokevirtual 465, 3) := by decide +kernel
theorem dX11_writeReport_34 : decode cX11_writeReport 34 = .ok (.aload_n 0, 1) := by decide +kernel
theorem dX11_writeReport_35 : decode cX11_writeReport 35 = .ok (.aload_n 0, 1) := by decide +kernel
theorem dX11_writeReport_36 : decode cX11_writeReport 36 = .ok (.invokevirtual 169, 3) := by decide +kernel
theorem dX11_writeReport_39 : decode cX11_writeReport 39 = .ok (.invokevirtual 459, 3) := by decide +kernel
theorem dX11_writeReport_42 : decode cX11_writeReport 42 = .ok (.aload_n 0, 1) := by decide +kernel
theorem dX11_writeReport_43 : decode cX11_writeReport 43 = .ok (.bipush 10, 2) := by decide +kernel
theorem dX11_writeReport_45 : decode cX11_writeReport 45 = .ok (.invokevirtual 453, 3) := by decide +kernel
theorem dX11_writeReport_48 : decode cX11_writeReport 48 = .ok (.iconst 0, 1) := by decide +kernel
theorem dX11_writeReport_49 : decode cX11_writeReport 49 = .ok (.istore_n 1, 1) := by decide +kernel
theorem dX11_writeReport_50 : decode cX11_writeReport 50 = .ok (.iload_n 1, 1) := by decide +kernel
theorem dX11_writeReport_51 : decode cX11_writeReport 51 = .ok (.i2l, 1) := by decide +kernel
theorem dX11_writeReport_52 : decode cX11_writeReport 52 = .ok (.aload_n 0, 1) := by decide +kernel
theorem dX11_writeReport_53 : decode cX11_writeReport 53 = .ok (.getfield 7, 3) := by decide +kernel
theorem dX11_writeReport_56 : decode cX11_writeReport 56 = .ok (.bipush 6, 2) := by decide +kernel
theorem dX11_writeReport_58 : decode cX11_writeReport 58 = .ok (.laload, 1) := by decide +kernel
theorem dX11_writeReport_59 : decode cX11_writeReport 59 = .ok (.lcmp, 1) := by decide +kernel
theorem dX11_writeReport_60 : decode cX11_writeReport 60 = .ok (.ifCond .ge 17, 3) := by decide +kernel
theorem dX11_writeReport_63 : decode cX11_writeReport 63 = .ok (.aload_n 0, 1) := by decide +kernel
theorem dX11_writeReport_64 : decode cX11_writeReport 64 = .ok (.iload_n 1, 1) := by decide +kernel
theorem dX11_writeReport_65 : decode cX11_writeReport 65 = .ok (.invokestatic 87, 3) := by decide +kernel
theorem dX11_writeReport_68 : decode cX11_writeReport 68 = .ok (.invokevirtual 472, 3) := by decide +kernel
theorem dX11_writeReport_71 : decode cX11_writeReport 71 = .ok (.iinc 1 1, 3) := by decide +kernel
theorem dX11_writeReport_74 : decode cX11_writeReport 74 = .ok (.goto (-24), 3) := by decide +kernel
theorem dX11_writeReport_77 : decode cX11_writeReport 77 = .ok (.aload_n 0, 1) := by decide +kernel
theorem dX11_writeReport_78 : decode cX11_writeReport 78 = .ok (.getfield 450, 3) := by decide +kernel
theorem dX11_writeReport_81 : decode cX11_writeReport 81 = .ok (.ireturn, 1) := by decide +kernel
theorem dX11_reportByte_0 : decode cX11_reportByte 0 = .ok (.aload_n 0, 1) := by decide +kernel
theorem dX11_reportByte_1 : decode cX11_reportByte 1 = .ok (.iload_n 1, 1) := by decide +kernel
theorem dX11_reportByte_2 : decode cX11_reportByte 2 = .ok (.i2l, 1) := by decide +kernel
theorem dX11_reportByte_3 : decode cX11_reportByte 3 = .ok (.lconst 0, 1) := by decide +kernel
theorem dX11_reportByte_4 : decode cX11_reportByte 4 = .ok (.aload_n 0, 1) := by decide +kernel
theorem dX11_reportByte_5 : decode cX11_reportByte 5 = .ok (.getfield 450, 3) := by decide +kernel
theorem dX11_reportByte_8 : decode cX11_reportByte 8 = .ok (.iconst 1, 1) := by decide +kernel
theorem dX11_reportByte_9 : decode cX11_reportByte 9 = .ok (.isub, 1) := by decide +kernel
theorem dX11_reportByte_10 : decode cX11_reportByte 10 = .ok (.i2l, 1) := by decide +kernel
theorem dX11_reportByte_11 : decode cX11_reportByte 11 = .ok (.invokestatic 61, 3) := by decide +kernel
theorem dX11_reportByte_14 : decode cX11_reportByte 14 = .ok (.ifCond .ne 7, 3) := by decide +kernel
theorem dX11_reportByte_17 : decode cX11_reportByte 17 = .ok (.iconst 1, 1) := by decide +kernel
theorem dX11_reportByte_18 : decode cX11_reportByte 18 = .ok (.goto 4, 3) := by decide +kernel
theorem dX11_reportByte_21 : decode cX11_reportByte 21 = .ok (.iconst 0, 1) := by decide +kernel
theorem dX11_reportByte_22 : decode cX11_reportByte 22 = .ok (.iconst 1, 1) := by decide +kernel
theorem dX11_reportByte_23 : decode cX11_reportByte 23 = .ok (.invokevirtual 69, 3) := by decide +kernel
theorem dX11_reportByte_26 : decode cX11_reportByte 26 = .ok (.ifCond .eq 7, 3) := by decide +kernel
theorem dX11_reportByte_29 : decode cX11_reportByte 29 = .ok (.iconst 0, 1) := by decide +kernel
theorem dX11_reportByte_30 : decode cX11_reportByte 30 = .ok (.goto 9, 3) := by decide +kernel
theorem dX11_reportByte_33 : decode cX11_reportByte 33 = .ok (.aload_n 0, 1) := by decide +kernel
theorem dX11_reportByte_34 : decode cX11_reportByte 34 = .ok (.getfield 49, 3) := by decide +kernel
theorem dX11_reportByte_37 : decode cX11_reportByte 37 = .ok (.iload_n 1, 1) := by decide +kernel
theorem dX11_reportByte_38 : decode cX11_reportByte 38 = .ok (.baload, 1) := by decide +kernel
theorem dX11_reportByte_39 : decode cX11_reportByte 39 = .ok (.ireturn, 1) := by decide +kernel
