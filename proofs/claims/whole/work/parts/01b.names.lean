theorem dX0_isKind_0 : decode cX0_isKind 0 = .ok (.iload_n 0, 1) := by decide +kernel
theorem dX0_isKind_1 : decode cX0_isKind 1 = .ok (.ifCond .lt 13, 3) := by decide +kernel
theorem dX0_isKind_4 : decode cX0_isKind 4 = .ok (.iload_n 0, 1) := by decide +kernel
theorem dX0_isKind_5 : decode cX0_isKind 5 = .ok (.bipush 6, 2) := by decide +kernel
theorem dX0_isKind_7 : decode cX0_isKind 7 = .ok (.if_icmp .ge 7, 3) := by decide +kernel
theorem dX0_isKind_10 : decode cX0_isKind 10 = .ok (.iconst 1, 1) := by decide +kernel
theorem dX0_isKind_11 : decode cX0_isKind 11 = .ok (.goto 4, 3) := by decide +kernel
theorem dX0_isKind_14 : decode cX0_isKind 14 = .ok (.iconst 0, 1) := by decide +kernel
theorem dX0_isKind_15 : decode cX0_isKind 15 = .ok (.ireturn, 1) := by decide +kernel
theorem dX0_kindAbove_0 : decode cX0_kindAbove 0 = .ok (.iload_n 0, 1) := by decide +kernel
theorem dX0_kindAbove_1 : decode cX0_kindAbove 1 = .ok (.tableswitch 41 1 5 #[35, 35, 35, 37, 39], 35) := by decide +kernel
theorem dX0_kindAbove_36 : decode cX0_kindAbove 36 = .ok (.iconst 0, 1) := by decide +kernel
theorem dX0_kindAbove_37 : decode cX0_kindAbove 37 = .ok (.ireturn, 1) := by decide +kernel
theorem dX0_kindAbove_38 : decode cX0_kindAbove 38 = .ok (.iconst 3, 1) := by decide +kernel
theorem dX0_kindAbove_39 : decode cX0_kindAbove 39 = .ok (.ireturn, 1) := by decide +kernel
theorem dX0_kindAbove_40 : decode cX0_kindAbove 40 = .ok (.iconst 2, 1) := by decide +kernel
theorem dX0_kindAbove_41 : decode cX0_kindAbove 41 = .ok (.ireturn, 1) := by decide +kernel
theorem dX0_kindAbove_42 : decode cX0_kindAbove 42 = .ok (.iconst (-1), 1) := by decide +kernel
theorem dX0_kindAbove_43 : decode cX0_kindAbove 43 = .ok (.ireturn, 1) := by decide +kernel
set_option maxRecDepth 20000 in
theorem ggX0_isUnder_X0_kindAbove : GoodIn wsX0_isUnder wsX0_kindAbove := goodIn_r _ [4] (by decide +kernel) (by decide +kernel)
set_option maxRecDepth 20000 in
theorem gX0_isUnder_X0_kindAbove : GoodIn wsX0_isUnder (va_wsS RX0 9 yX0_kindAbove wsX0_kindAbove) := goodIn_app (goodIn_of _ (by decide +kernel)) ggX0_isUnder_X0_kindAbove
theorem dX0_isUnder_0 : decode cX0_isUnder 0 = .ok (.iload_n 0, 1) := by decide +kernel
theorem dX0_isUnder_1 : decode cX0_isUnder 1 = .ok (.istore_n 2, 1) := by decide +kernel
theorem dX0_isUnder_2 : decode cX0_isUnder 2 = .ok (.iconst 0, 1) := by decide +kernel
theorem dX0_isUnder_3 : decode cX0_isUnder 3 = .ok (.istore_n 3, 1) := by decide +kernel
theorem dX0_isUnder_4 : decode cX0_isUnder 4 = .ok (.iload_n 3, 1) := by decide +kernel
theorem dX0_isUnder_5 : decode cX0_isUnder 5 = .ok (.bipush 6, 2) := by decide +kernel
theorem dX0_isUnder_7 : decode cX0_isUnder 7 = .ok (.if_icmp .ge 25, 3) := by decide +kernel
theorem dX0_isUnder_10 : decode cX0_isUnder 10 = .ok (.iload_n 2, 1) := by decide +kernel
theorem dX0_isUnder_11 : decode cX0_isUnder 11 = .ok (.ifCond .lt 21, 3) := by decide +kernel
theorem dX0_isUnder_14 : decode cX0_isUnder 14 = .ok (.iload_n 2, 1) := by decide +kernel
theorem dX0_isUnder_15 : decode cX0_isUnder 15 = .ok (.iload_n 1, 1) := by decide +kernel
theorem dX0_isUnder_16 : decode cX0_isUnder 16 = .ok (.if_icmp .ne 5, 3) := by decide +kernel
theorem dX0_isUnder_19 : decode cX0_isUnder 19 = .ok (.iconst 1, 1) := by decide +kernel
theorem dX0_isUnder_20 : decode cX0_isUnder 20 = .ok (.ireturn, 1) := by decide +kernel
theorem dX0_isUnder_21 : decode cX0_isUnder 21 = .ok (.iload_n 2, 1) := by decide +kernel
theorem dX0_isUnder_22 : decode cX0_isUnder 22 = .ok (.invokestatic 9, 3) := by decide +kernel
theorem dX0_isUnder_25 : decode cX0_isUnder 25 = .ok (.istore_n 2, 1) := by decide +kernel
theorem dX0_isUnder_26 : decode cX0_isUnder 26 = .ok (.iinc 3 1, 3) := by decide +kernel
theorem dX0_isUnder_29 : decode cX0_isUnder 29 = .ok (.goto (-25), 3) := by decide +kernel
theorem dX0_isUnder_32 : decode cX0_isUnder 32 = .ok (.iconst 0, 1) := by decide +kernel
theorem dX0_isUnder_33 : decode cX0_isUnder 33 = .ok (.ireturn, 1) := by decide +kernel
theorem dX0_nameOf_0 : decode cX0_nameOf 0 = .ok (.iload_n 0, 1) := by decide +kernel
theorem dX0_nameOf_1 : decode cX0_nameOf 1 = .ok (.tableswitch 50 0 4 #[35, 38, 41, 44, 47], 35) := by decide +kernel
theorem dX0_nameOf_36 : decode cX0_nameOf 36 = .ok (.ldc 13, 2) := by decide +kernel
theorem dX0_nameOf_38 : decode cX0_nameOf 38 = .ok (.areturn, 1) := by decide +kernel
theorem dX0_nameOf_39 : decode cX0_nameOf 39 = .ok (.ldc 15, 2) := by decide +kernel
theorem dX0_nameOf_41 : decode cX0_nameOf 41 = .ok (.areturn, 1) := by decide +kernel
theorem dX0_nameOf_42 : decode cX0_nameOf 42 = .ok (.ldc 17, 2) := by decide +kernel
theorem dX0_nameOf_44 : decode cX0_nameOf 44 = .ok (.areturn, 1) := by decide +kernel
theorem dX0_nameOf_45 : decode cX0_nameOf 45 = .ok (.ldc 19, 2) := by decide +kernel
theorem dX0_nameOf_47 : decode cX0_nameOf 47 = .ok (.areturn, 1) := by decide +kernel
theorem dX0_nameOf_48 : decode cX0_nameOf 48 = .ok (.ldc 21, 2) := by decide +kernel
theorem dX0_nameOf_50 : decode cX0_nameOf 50 = .ok (.areturn, 1) := by decide +kernel
theorem dX0_nameOf_51 : decode cX0_nameOf 51 = .ok (.ldc 23, 2) := by decide +kernel
theorem dX0_nameOf_53 : decode cX0_nameOf 53 = .ok (.areturn, 1) := by decide +kernel
set_option maxRecDepth 20000 in
theorem ggX0_goesOf_X0_strangerGoes : GoodIn wsX0_goesOf wsX0_strangerGoes := goodIn_r _ [8] (by decide +kernel) (by decide +kernel)
set_option maxRecDepth 20000 in
theorem gX0_goesOf_X0_strangerGoes : GoodIn wsX0_goesOf (va_wsS RX0 25 yX0_strangerGoes wsX0_strangerGoes) := goodIn_app (goodIn_of _ (by decide +kernel)) ggX0_goesOf_X0_strangerGoes
theorem dX0_goesOf_0 : decode cX0_goesOf 0 = .ok (.iload_n 0, 1) := by decide +kernel
theorem dX0_goesOf_1 : decode cX0_goesOf 1 = .ok (.tableswitch 56 2 5 #[31, 36, 45, 31], 31) := by decide +kernel
theorem dX0_goesOf_32 : decode cX0_goesOf 32 = .ok (.iconst 3, 1) := by decide +kernel
theorem dX0_goesOf_33 : decode cX0_goesOf 33 = .ok (.istore_n 3, 1) := by decide +kernel
theorem dX0_goesOf_34 : decode cX0_goesOf 34 = .ok (.goto 25, 3) := by decide +kernel
theorem dX0_goesOf_37 : decode cX0_goesOf 37 = .ok (.iload_n 1, 1) := by decide +kernel
theorem dX0_goesOf_38 : decode cX0_goesOf 38 = .ok (.iload_n 2, 1) := by decide +kernel
theorem dX0_goesOf_39 : decode cX0_goesOf 39 = .ok (.invokestatic 25, 3) := by decide +kernel
theorem dX0_goesOf_42 : decode cX0_goesOf 42 = .ok (.istore_n 3, 1) := by decide +kernel
theorem dX0_goesOf_43 : decode cX0_goesOf 43 = .ok (.goto 16, 3) := by decide +kernel
theorem dX0_goesOf_46 : decode cX0_goesOf 46 = .ok (.iload_n 1, 1) := by decide +kernel
theorem dX0_goesOf_47 : decode cX0_goesOf 47 = .ok (.iload_n 2, 1) := by decide +kernel
theorem dX0_goesOf_48 : decode cX0_goesOf 48 = .ok (.invokestatic 25, 3) := by decide +kernel
theorem dX0_goesOf_51 : decode cX0_goesOf 51 = .ok (.iconst 1, 1) := by decide +kernel
theorem dX0_goesOf_52 : decode cX0_goesOf 52 = .ok (.isub, 1) := by decide +kernel
theorem dX0_goesOf_53 : decode cX0_goesOf 53 = .ok (.istore_n 3, 1) := by decide +kernel
theorem dX0_goesOf_54 : decode cX0_goesOf 54 = .ok (.goto 5, 3) := by decide +kernel
theorem dX0_goesOf_57 : decode cX0_goesOf 57 = .ok (.iconst 4, 1) := by decide +kernel
theorem dX0_goesOf_58 : decode cX0_goesOf 58 = .ok (.istore_n 3, 1) := by decide +kernel
theorem dX0_goesOf_59 : decode cX0_goesOf 59 = .ok (.iload_n 1, 1) := by decide +kernel
theorem dX0_goesOf_60 : decode cX0_goesOf 60 = .ok (.iconst 5, 1) := by decide +kernel
theorem dX0_goesOf_61 : decode cX0_goesOf 61 = .ok (.if_icmp .lt 6, 3) := by decide +kernel
theorem dX0_goesOf_64 : decode cX0_goesOf 64 = .ok (.iinc 3 (-1), 3) := by decide +kernel
theorem dX0_goesOf_67 : decode cX0_goesOf 67 = .ok (.iload_n 3, 1) := by decide +kernel
theorem dX0_goesOf_68 : decode cX0_goesOf 68 = .ok (.iconst 1, 1) := by decide +kernel
theorem dX0_goesOf_69 : decode cX0_goesOf 69 = .ok (.invokestatic 29, 3) := by decide +kernel
theorem dX0_goesOf_72 : decode cX0_goesOf 72 = .ok (.ireturn, 1) := by decide +kernel
theorem dX0_strangerGoes_0 : decode cX0_strangerGoes 0 = .ok (.iload_n 1, 1) := by decide +kernel
theorem dX0_strangerGoes_1 : decode cX0_strangerGoes 1 = .ok (.ifCond .ne 5, 3) := by decide +kernel
theorem dX0_strangerGoes_4 : decode cX0_strangerGoes 4 = .ok (.iconst 4, 1) := by decide +kernel
theorem dX0_strangerGoes_5 : decode cX0_strangerGoes 5 = .ok (.ireturn, 1) := by decide +kernel
theorem dX0_strangerGoes_6 : decode cX0_strangerGoes 6 = .ok (.iload_n 0, 1) := by decide +kernel
theorem dX0_strangerGoes_7 : decode cX0_strangerGoes 7 = .ok (.ifCond .le 8, 3) := by decide +kernel
theorem dX0_strangerGoes_10 : decode cX0_strangerGoes 10 = .ok (.bipush 6, 2) := by decide +kernel
theorem dX0_strangerGoes_12 : decode cX0_strangerGoes 12 = .ok (.goto 5, 3) := by decide +kernel
theorem dX0_strangerGoes_15 : decode cX0_strangerGoes 15 = .ok (.bipush 7, 2) := by decide +kernel
theorem dX0_strangerGoes_17 : decode cX0_strangerGoes 17 = .ok (.ireturn, 1) := by decide +kernel
theorem dX0_holdsOf_0 : decode cX0_holdsOf 0 = .ok (.iload_n 1, 1) := by decide +kernel
theorem dX0_holdsOf_1 : decode cX0_holdsOf 1 = .ok (.bipush 12, 2) := by decide +kernel
theorem dX0_holdsOf_3 : decode cX0_holdsOf 3 = .ok (.if_icmp .lt 7, 3) := by decide +kernel
theorem dX0_holdsOf_6 : decode cX0_holdsOf 6 = .ok (.iconst 0, 1) := by decide +kernel
theorem dX0_holdsOf_7 : decode cX0_holdsOf 7 = .ok (.goto 8, 3) := by decide +kernel
theorem dX0_holdsOf_10 : decode cX0_holdsOf 10 = .ok (.iload_n 1, 1) := by decide +kernel
theorem dX0_holdsOf_11 : decode cX0_holdsOf 11 = .ok (.iconst 4, 1) := by decide +kernel
theorem dX0_holdsOf_12 : decode cX0_holdsOf 12 = .ok (.idiv, 1) := by decide +kernel
theorem dX0_holdsOf_13 : decode cX0_holdsOf 13 = .ok (.iconst 1, 1) := by decide +kernel
theorem dX0_holdsOf_14 : decode cX0_holdsOf 14 = .ok (.iadd, 1) := by decide +kernel
theorem dX0_holdsOf_15 : decode cX0_holdsOf 15 = .ok (.istore 4, 2) := by decide +kernel
theorem dX0_holdsOf_17 : decode cX0_holdsOf 17 = .ok (.iload_n 0, 1) := by decide +kernel
theorem dX0_holdsOf_18 : decode cX0_holdsOf 18 = .ok (.tableswitch 68 1 5 #[34, 45, 50, 53, 55], 34) := by decide +kernel
theorem dX0_holdsOf_52 : decode cX0_holdsOf 52 = .ok (.iload_n 2, 1) := by decide +kernel
theorem dX0_holdsOf_53 : decode cX0_holdsOf 53 = .ok (.ifCond .ne 7, 3) := by decide +kernel
theorem dX0_holdsOf_56 : decode cX0_holdsOf 56 = .ok (.iconst 0, 1) := by decide +kernel
theorem dX0_holdsOf_57 : decode cX0_holdsOf 57 = .ok (.goto 5, 3) := by decide +kernel
theorem dX0_holdsOf_60 : decode cX0_holdsOf 60 = .ok (.iload 4, 2) := by decide +kernel
theorem dX0_holdsOf_62 : decode cX0_holdsOf 62 = .ok (.ireturn, 1) := by decide +kernel
theorem dX0_holdsOf_63 : decode cX0_holdsOf 63 = .ok (.iload 4, 2) := by decide +kernel
theorem dX0_holdsOf_65 : decode cX0_holdsOf 65 = .ok (.iload_n 2, 1) := by decide +kernel
theorem dX0_holdsOf_66 : decode cX0_holdsOf 66 = .ok (.iadd, 1) := by decide +kernel
theorem dX0_holdsOf_67 : decode cX0_holdsOf 67 = .ok (.ireturn, 1) := by decide +kernel
theorem dX0_holdsOf_68 : decode cX0_holdsOf 68 = .ok (.bipush 9, 2) := by decide +kernel
theorem dX0_holdsOf_70 : decode cX0_holdsOf 70 = .ok (.ireturn, 1) := by decide +kernel
theorem dX0_holdsOf_71 : decode cX0_holdsOf 71 = .ok (.iconst 0, 1) := by decide +kernel
theorem dX0_holdsOf_72 : decode cX0_holdsOf 72 = .ok (.ireturn, 1) := by decide +kernel
theorem dX0_holdsOf_73 : decode cX0_holdsOf 73 = .ok (.iload_n 3, 1) := by decide +kernel
theorem dX0_holdsOf_74 : decode cX0_holdsOf 74 = .ok (.ifCond .ne 7, 3) := by decide +kernel
theorem dX0_holdsOf_77 : decode cX0_holdsOf 77 = .ok (.iconst 0, 1) := by decide +kernel
theorem dX0_holdsOf_78 : decode cX0_holdsOf 78 = .ok (.goto 7, 3) := by decide +kernel
theorem dX0_holdsOf_81 : decode cX0_holdsOf 81 = .ok (.iload 4, 2) := by decide +kernel
theorem dX0_holdsOf_83 : decode cX0_holdsOf 83 = .ok (.iload_n 2, 1) := by decide +kernel
theorem dX0_holdsOf_84 : decode cX0_holdsOf 84 = .ok (.iadd, 1) := by decide +kernel
theorem dX0_holdsOf_85 : decode cX0_holdsOf 85 = .ok (.ireturn, 1) := by decide +kernel
theorem dX0_holdsOf_86 : decode cX0_holdsOf 86 = .ok (.iload 4, 2) := by decide +kernel
theorem dX0_holdsOf_88 : decode cX0_holdsOf 88 = .ok (.ireturn, 1) := by decide +kernel
theorem dX0_asksOf_0 : decode cX0_asksOf 0 = .ok (.iload_n 0, 1) := by decide +kernel
theorem dX0_asksOf_1 : decode cX0_asksOf 1 = .ok (.tableswitch 73 1 5 #[35, 47, 59, 59, 61], 35) := by decide +kernel
theorem dX0_asksOf_36 : decode cX0_asksOf 36 = .ok (.iload_n 1, 1) := by decide +kernel
theorem dX0_asksOf_37 : decode cX0_asksOf 37 = .ok (.bipush 20, 2) := by decide +kernel
theorem dX0_asksOf_39 : decode cX0_asksOf 39 = .ok (.if_icmp .lt 7, 3) := by decide +kernel
theorem dX0_asksOf_42 : decode cX0_asksOf 42 = .ok (.iconst 1, 1) := by decide +kernel
theorem dX0_asksOf_43 : decode cX0_asksOf 43 = .ok (.goto 4, 3) := by decide +kernel
theorem dX0_asksOf_46 : decode cX0_asksOf 46 = .ok (.iconst 0, 1) := by decide +kernel
theorem dX0_asksOf_47 : decode cX0_asksOf 47 = .ok (.ireturn, 1) := by decide +kernel
theorem dX0_asksOf_48 : decode cX0_asksOf 48 = .ok (.iload_n 1, 1) := by decide +kernel
theorem dX0_asksOf_49 : decode cX0_asksOf 49 = .ok (.bipush 90, 2) := by decide +kernel
theorem dX0_asksOf_51 : decode cX0_asksOf 51 = .ok (.if_icmp .lt 7, 3) := by decide +kernel
theorem dX0_asksOf_54 : decode cX0_asksOf 54 = .ok (.iconst 1, 1) := by decide +kernel
theorem dX0_asksOf_55 : decode cX0_asksOf 55 = .ok (.goto 4, 3) := by decide +kernel
theorem dX0_asksOf_58 : decode cX0_asksOf 58 = .ok (.iconst 0, 1) := by decide +kernel
theorem dX0_asksOf_59 : decode cX0_asksOf 59 = .ok (.ireturn, 1) := by decide +kernel
theorem dX0_asksOf_60 : decode cX0_asksOf 60 = .ok (.iconst 0, 1) := by decide +kernel
theorem dX0_asksOf_61 : decode cX0_asksOf 61 = .ok (.ireturn, 1) := by decide +kernel
theorem dX0_asksOf_62 : decode cX0_asksOf 62 = .ok (.iload_n 1, 1) := by decide +kernel
theorem dX0_asksOf_63 : decode cX0_asksOf 63 = .ok (.bipush 10, 2) := by decide +kernel
theorem dX0_asksOf_65 : decode cX0_asksOf 65 = .ok (.if_icmp .lt 7, 3) := by decide +kernel
theorem dX0_asksOf_68 : decode cX0_asksOf 68 = .ok (.iconst 1, 1) := by decide +kernel
theorem dX0_asksOf_69 : decode cX0_asksOf 69 = .ok (.goto 4, 3) := by decide +kernel
theorem dX0_asksOf_72 : decode cX0_asksOf 72 = .ok (.iconst 0, 1) := by decide +kernel
theorem dX0_asksOf_73 : decode cX0_asksOf 73 = .ok (.ireturn, 1) := by decide +kernel
theorem dX0_asksOf_74 : decode cX0_asksOf 74 = .ok (.iload_n 1, 1) := by decide +kernel
theorem dX0_asksOf_75 : decode cX0_asksOf 75 = .ok (.bipush 50, 2) := by decide +kernel
theorem dX0_asksOf_77 : decode cX0_asksOf 77 = .ok (.if_icmp .lt 11, 3) := by decide +kernel
theorem dX0_asksOf_80 : decode cX0_asksOf 80 = .ok (.iload_n 2, 1) := by decide +kernel
theorem dX0_asksOf_81 : decode cX0_asksOf 81 = .ok (.ifCond .ne 7, 3) := by decide +kernel
theorem dX0_asksOf_84 : decode cX0_asksOf 84 = .ok (.iconst 1, 1) := by decide +kernel
theorem dX0_asksOf_85 : decode cX0_asksOf 85 = .ok (.goto 4, 3) := by decide +kernel
theorem dX0_asksOf_88 : decode cX0_asksOf 88 = .ok (.iconst 0, 1) := by decide +kernel
theorem dX0_asksOf_89 : decode cX0_asksOf 89 = .ok (.ireturn, 1) := by decide +kernel
theorem dX1_init_0 : decode cX1_init 0 = .ok (.aload_n 0, 1) := by decide +kernel
theorem dX1_init_1 : decode cX1_init 1 = .ok (.invokespecial 3, 3) := by decide +kernel
theorem dX1_init_4 : decode cX1_init 4 = .ok (.aload_n 0, 1) := by decide +kernel
theorem dX1_init_5 : decode cX1_init 5 = .ok (.iconst 0, 1) := by decide +kernel
theorem dX1_init_6 : decode cX1_init 6 = .ok (.putfield 9, 3) := by decide +kernel
theorem dX1_init_9 : decode cX1_init 9 = .ok (.aload_n 0, 1) := by decide +kernel
theorem dX1_init_10 : decode cX1_init 10 = .ok (.bipush 20, 2) := by decide +kernel
theorem dX1_init_12 : decode cX1_init 12 = .ok (.putfield 15, 3) := by decide +kernel
theorem dX1_init_15 : decode cX1_init 15 = .ok (.aload_n 0, 1) := by decide +kernel
theorem dX1_init_16 : decode cX1_init 16 = .ok (.iconst 0, 1) := by decide +kernel
theorem dX1_init_17 : decode cX1_init 17 = .ok (.putfield 18, 3) := by decide +kernel
theorem dX1_init_20 : decode cX1_init 20 = .ok (.aload_n 0, 1) := by decide +kernel
theorem dX1_init_21 : decode cX1_init 21 = .ok (.iconst (-1), 1) := by decide +kernel
theorem dX1_init_22 : decode cX1_init 22 = .ok (.putfield 21, 3) := by decide +kernel
theorem dX1_init_25 : decode cX1_init 25 = .ok (.aload_n 0, 1) := by decide +kernel
theorem dX1_init_26 : decode cX1_init 26 = .ok (.iconst 0, 1) := by decide +kernel
theorem dX1_init_27 : decode cX1_init 27 = .ok (.putfield 24, 3) := by decide +kernel
theorem dX1_init_30 : decode cX1_init 30 = .ok (.aload_n 0, 1) := by decide +kernel
theorem dX1_init_31 : decode cX1_init 31 = .ok (.bipush 8, 2) := by decide +kernel
theorem dX1_init_33 : decode cX1_init 33 = .ok (.newarray .int, 2) := by decide +kernel
theorem dX1_init_35 : decode cX1_init 35 = .ok (.putfield 27, 3) := by decide +kernel
theorem dX1_init_38 : decode cX1_init 38 = .ok (.aload_n 0, 1) := by decide +kernel
theorem dX1_init_39 : decode cX1_init 39 = .ok (.bipush 8, 2) := by decide +kernel
theorem dX1_init_41 : decode cX1_init 41 = .ok (.newarray .int, 2) := by decide +kernel
theorem dX1_init_43 : decode cX1_init 43 = .ok (.putfield 31, 3) := by decide +kernel
theorem dX1_init_46 : decode cX1_init 46 = .ok (.aload_n 0, 1) := by decide +kernel
theorem dX1_init_47 : decode cX1_init 47 = .ok (.bipush 8, 2) := by decide +kernel
theorem dX1_init_49 : decode cX1_init 49 = .ok (.newarray .int, 2) := by decide +kernel
theorem dX1_init_51 : decode cX1_init 51 = .ok (.putfield 34, 3) := by decide +kernel
theorem dX1_init_54 : decode cX1_init 54 = .ok (.aload_n 0, 1) := by decide +kernel
theorem dX1_init_55 : decode cX1_init 55 = .ok (.bipush 8, 2) := by decide +kernel
theorem dX1_init_57 : decode cX1_init 57 = .ok (.newarray .int, 2) := by decide +kernel
theorem dX1_init_59 : decode cX1_init 59 = .ok (.putfield 37, 3) := by decide +kernel
theorem dX1_init_62 : decode cX1_init 62 = .ok (.aload_n 0, 1) := by decide +kernel
theorem dX1_init_63 : decode cX1_init 63 = .ok (.bipush 8, 2) := by decide +kernel
theorem dX1_init_65 : decode cX1_init 65 = .ok (.newarray .int, 2) := by decide +kernel
theorem dX1_init_67 : decode cX1_init 67 = .ok (.putfield 40, 3) := by decide +kernel
theorem dX1_init_70 : decode cX1_init 70 = .ok (.aload_n 0, 1) := by decide +kernel
theorem dX1_init_71 : decode cX1_init 71 = .ok (.bipush 8, 2) := by decide +kernel
theorem dX1_init_73 : decode cX1_init 73 = .ok (.newarray .int, 2) := by decide +kernel
theorem dX1_init_75 : decode cX1_init 75 = .ok (.putfield 43, 3) := by decide +kernel
theorem dX1_init_78 : decode cX1_init 78 = .ok (.return_, 1) := by decide +kernel
theorem dX1_become_0 : decode cX1_become 0 = .ok (.aload_n 0, 1) := by decide +kernel
theorem dX1_become_1 : decode cX1_become 1 = .ok (.aload_n 1, 1) := by decide +kernel
theorem dX1_become_2 : decode cX1_become 2 = .ok (.getfield 9, 3) := by decide +kernel
theorem dX1_become_5 : decode cX1_become 5 = .ok (.putfield 9, 3) := by decide +kernel
theorem dX1_become_8 : decode cX1_become 8 = .ok (.aload_n 0, 1) := by decide +kernel
theorem dX1_become_9 : decode cX1_become 9 = .ok (.aload_n 1, 1) := by decide +kernel
theorem dX1_become_10 : decode cX1_become 10 = .ok (.getfield 15, 3) := by decide +kernel
theorem dX1_become_13 : decode cX1_become 13 = .ok (.putfield 15, 3) := by decide +kernel
theorem dX1_become_16 : decode cX1_become 16 = .ok (.aload_n 0, 1) := by decide +kernel
theorem dX1_become_17 : decode cX1_become 17 = .ok (.aload_n 1, 1) := by decide +kernel
theorem dX1_become_18 : decode cX1_become 18 = .ok (.getfield 18, 3) := by decide +kernel
theorem dX1_become_21 : decode cX1_become 21 = .ok (.putfield 18, 3) := by decide +kernel
theorem dX1_become_24 : decode cX1_become 24 = .ok (.aload_n 0, 1) := by decide +kernel
theorem dX1_become_25 : decode cX1_become 25 = .ok (.aload_n 1, 1) := by decide +kernel
theorem dX1_become_26 : decode cX1_become 26 = .ok (.getfield 21, 3) := by decide +kernel
theorem dX1_become_29 : decode cX1_become 29 = .ok (.putfield 21, 3) := by decide +kernel
theorem dX1_become_32 : decode cX1_become 32 = .ok (.aload_n 0, 1) := by decide +kernel
theorem dX1_become_33 : decode cX1_become 33 = .ok (.aload_n 1, 1) := by decide +kernel
theorem dX1_become_34 : decode cX1_become 34 = .ok (.getfield 24, 3) := by decide +kernel
theorem dX1_become_37 : decode cX1_become 37 = .ok (.putfield 24, 3) := by decide +kernel
theorem dX1_become_40 : decode cX1_become 40 = .ok (.aload_n 1, 1) := by decide +kernel
theorem dX1_become_41 : decode cX1_become 41 = .ok (.getfield 27, 3) := by decide +kernel
theorem dX1_become_44 : decode cX1_become 44 = .ok (.iconst 0, 1) := by decide +kernel
theorem dX1_become_45 : decode cX1_become 45 = .ok (.aload_n 0, 1) := by decide +kernel
theorem dX1_become_46 : decode cX1_become 46 = .ok (.getfield 27, 3) := by decide +kernel
theorem dX1_become_49 : decode cX1_become 49 = .ok (.iconst 0, 1) := by decide +kernel
theorem dX1_become_50 : decode cX1_become 50 = .ok (.bipush 8, 2) := by decide +kernel
theorem dX1_become_52 : decode cX1_become 52 = .ok (.invokestatic 46, 3) := by decide +kernel
theorem dX1_become_55 : decode cX1_become 55 = .ok (.aload_n 1, 1) := by decide +kernel
theorem dX1_become_56 : decode cX1_become 56 = .ok (.getfield 31, 3) := by decide +kernel
theorem dX1_become_59 : decode cX1_become 59 = .ok (.iconst 0, 1) := by decide +kernel
theorem dX1_become_60 : decode cX1_become 60 = .ok (.aload_n 0, 1) := by decide +kernel
theorem dX1_become_61 : decode cX1_become 61 = .ok (.getfield 31, 3) := by decide +kernel
theorem dX1_become_64 : decode cX1_become 64 = .ok (.iconst 0, 1) := by decide +kernel
theorem dX1_become_65 : decode cX1_become 65 = .ok (.bipush 8, 2) := by decide +kernel
theorem dX1_become_67 : decode cX1_become 67 = .ok (.invokestatic 46, 3) := by decide +kernel
theorem dX1_become_70 : decode cX1_become 70 = .ok (.aload_n 1, 1) := by decide +kernel
theorem dX1_become_71 : decode cX1_become 71 = .ok (.getfield 34, 3) := by decide +kernel
theorem dX1_become_74 : decode cX1_become 74 = .ok (.iconst 0, 1) := by decide +kernel
theorem dX1_become_75 : decode cX1_become 75 = .ok (.aload_n 0, 1) := by decide +kernel
theorem dX1_become_76 : decode cX1_become 76 = .ok (.getfield 34, 3) := by decide +kernel
theorem dX1_become_79 : decode cX1_become 79 = .ok (.iconst 0, 1) := by decide +kernel
theorem dX1_become_80 : decode cX1_become 80 = .ok (.bipush 8, 2) := by decide +kernel
theorem dX1_become_82 : decode cX1_become 82 = .ok (.invokestatic 46, 3) := by decide +kernel
theorem dX1_become_85 : decode cX1_become 85 = .ok (.aload_n 1, 1) := by decide +kernel
theorem dX1_become_86 : decode cX1_become 86 = .ok (.getfield 37, 3) := by decide +kernel
theorem dX1_become_89 : decode cX1_become 89 = .ok (.iconst 0, 1) := by decide +kernel
theorem dX1_become_90 : decode cX1_become 90 = .ok (.aload_n 0, 1) := by decide +kernel
theorem dX1_become_91 : decode cX1_become 91 = .ok (.getfield 37, 3) := by decide +kernel
theorem dX1_become_94 : decode cX1_become 94 = .ok (.iconst 0, 1) := by decide +kernel
theorem dX1_become_95 : decode cX1_become 95 = .ok (.bipush 8, 2) := by decide +kernel
theorem dX1_become_97 : decode cX1_become 97 = .ok (.invokestatic 46, 3) := by decide +kernel
theorem dX1_become_100 : decode cX1_become 100 = .ok (.aload_n 1, 1) := by decide +kernel
theorem dX1_become_101 : decode cX1_become 101 = .ok (.getfield 40, 3) := by decide +kernel
theorem dX1_become_104 : decode cX1_become 104 = .ok (.iconst 0, 1) := by decide +kernel
theorem dX1_become_105 : decode cX1_become 105 = .ok (.aload_n 0, 1) := by decide +kernel
theorem dX1_become_106 : decode cX1_become 106 = .ok (.getfield 40, 3) := by decide +kernel
theorem dX1_become_109 : decode cX1_become 109 = .ok (.iconst 0, 1) := by decide +kernel
theorem dX1_become_110 : decode cX1_become 110 = .ok (.bipush 8, 2) := by decide +kernel
theorem dX1_become_112 : decode cX1_become 112 = .ok (.invokestatic 46, 3) := by decide +kernel
theorem dX1_become_115 : decode cX1_become 115 = .ok (.aload_n 1, 1) := by decide +kernel
theorem dX1_become_116 : decode cX1_become 116 = .ok (.getfield 43, 3) := by decide +kernel
theorem dX1_become_119 : decode cX1_become 119 = .ok (.iconst 0, 1) := by decide +kernel
theorem dX1_become_120 : decode cX1_become 120 = .ok (.aload_n 0, 1) := by decide +kernel
theorem dX1_become_121 : decode cX1_become 121 = .ok (.getfield 43, 3) := by decide +kernel
theorem dX1_become_124 : decode cX1_become 124 = .ok (.iconst 0, 1) := by decide +kernel
theorem dX1_become_125 : decode cX1_become 125 = .ok (.bipush 8, 2) := by decide +kernel
theorem dX1_become_127 : decode cX1_become 127 = .ok (.invokestatic 46, 3) := by decide +kernel
theorem dX1_become_130 : decode cX1_become 130 = .ok (.return_, 1) := by decide +kernel
theorem dX1_isFull_0 : decode cX1_isFull 0 = .ok (.aload_n 0, 1) := by decide +kernel
theorem dX1_isFull_1 : decode cX1_isFull 1 = .ok (.getfield 24, 3) := by decide +kernel
theorem dX1_isFull_4 : decode cX1_isFull 4 = .ok (.bipush 8, 2) := by decide +kernel
theorem dX1_isFull_6 : decode cX1_isFull 6 = .ok (.if_icmp .lt 7, 3) := by decide +kernel
theorem dX1_isFull_9 : decode cX1_isFull 9 = .ok (.iconst 1, 1) := by decide +kernel
theorem dX1_isFull_10 : decode cX1_isFull 10 = .ok (.goto 4, 3) := by decide +kernel
theorem dX1_isFull_13 : decode cX1_isFull 13 = .ok (.iconst 0, 1) := by decide +kernel
theorem dX1_isFull_14 : decode cX1_isFull 14 = .ok (.ireturn, 1) := by decide +kernel
theorem dX1_add_0 : decode cX1_add 0 = .ok (.aload_n 0, 1) := by decide +kernel
theorem dX1_add_1 : decode cX1_add 1 = .ok (.getfield 24, 3) := by decide +kernel
theorem dX1_add_4 : decode cX1_add 4 = .ok (.istore_n 3, 1) := by decide +kernel
theorem dX1_add_5 : decode cX1_add 5 = .ok (.aload_n 0, 1) := by decide +kernel
theorem dX1_add_6 : decode cX1_add 6 = .ok (.getfield 27, 3) := by decide +kernel
theorem dX1_add_9 : decode cX1_add 9 = .ok (.iload_n 3, 1) := by decide +kernel
theorem dX1_add_10 : decode cX1_add 10 = .ok (.iload_n 1, 1) := by decide +kernel
theorem dX1_add_11 : decode cX1_add 11 = .ok (.iastore, 1) := by decide +kernel
theorem dX1_add_12 : decode cX1_add 12 = .ok (.aload_n 0, 1) := by decide +kernel
theorem dX1_add_13 : decode cX1_add 13 = .ok (.getfield 31, 3) := by decide +kernel
theorem dX1_add_16 : decode cX1_add 16 = .ok (.iload_n 3, 1) := by decide +kernel
theorem dX1_add_17 : decode cX1_add 17 = .ok (.iconst 1, 1) := by decide +kernel
theorem dX1_add_18 : decode cX1_add 18 = .ok (.iastore, 1) := by decide +kernel
theorem dX1_add_19 : decode cX1_add 19 = .ok (.aload_n 0, 1) := by decide +kernel
theorem dX1_add_20 : decode cX1_add 20 = .ok (.getfield 34, 3) := by decide +kernel
theorem dX1_add_23 : decode cX1_add 23 = .ok (.iload_n 3, 1) := by decide +kernel
theorem dX1_add_24 : decode cX1_add 24 = .ok (.iconst 0, 1) := by decide +kernel
theorem dX1_add_25 : decode cX1_add 25 = .ok (.iastore, 1) := by decide +kernel
theorem dX1_add_26 : decode cX1_add 26 = .ok (.aload_n 0, 1) := by decide +kernel
theorem dX1_add_27 : decode cX1_add 27 = .ok (.getfield 37, 3) := by decide +kernel
theorem dX1_add_30 : decode cX1_add 30 = .ok (.iload_n 3, 1) := by decide +kernel
theorem dX1_add_31 : decode cX1_add 31 = .ok (.iload_n 2, 1) := by decide +kernel
theorem dX1_add_32 : decode cX1_add 32 = .ok (.iastore, 1) := by decide +kernel
theorem dX1_add_33 : decode cX1_add 33 = .ok (.aload_n 0, 1) := by decide +kernel
theorem dX1_add_34 : decode cX1_add 34 = .ok (.getfield 40, 3) := by decide +kernel
theorem dX1_add_37 : decode cX1_add 37 = .ok (.iload_n 3, 1) := by decide +kernel
theorem dX1_add_38 : decode cX1_add 38 = .ok (.iconst 0, 1) := by decide +kernel
theorem dX1_add_39 : decode cX1_add 39 = .ok (.iastore, 1) := by decide +kernel
theorem dX1_add_40 : decode cX1_add 40 = .ok (.aload_n 0, 1) := by decide +kernel
theorem dX1_add_41 : decode cX1_add 41 = .ok (.getfield 43, 3) := by decide +kernel
theorem dX1_add_44 : decode cX1_add 44 = .ok (.iload_n 3, 1) := by decide +kernel
theorem dX1_add_45 : decode cX1_add 45 = .ok (.iconst 0, 1) := by decide +kernel
theorem dX1_add_46 : decode cX1_add 46 = .ok (.iastore, 1) := by decide +kernel
theorem dX1_add_47 : decode cX1_add 47 = .ok (.aload_n 0, 1) := by decide +kernel
theorem dX1_add_48 : decode cX1_add 48 = .ok (.dup, 1) := by decide +kernel
theorem dX1_add_49 : decode cX1_add 49 = .ok (.getfield 24, 3) := by decide +kernel
theorem dX1_add_52 : decode cX1_add 52 = .ok (.iconst 1, 1) := by decide +kernel
theorem dX1_add_53 : decode cX1_add 53 = .ok (.iadd, 1) := by decide +kernel
theorem dX1_add_54 : decode cX1_add 54 = .ok (.putfield 24, 3) := by decide +kernel
theorem dX1_add_57 : decode cX1_add 57 = .ok (.iload_n 3, 1) := by decide +kernel
theorem dX1_add_58 : decode cX1_add 58 = .ok (.ireturn, 1) := by decide +kernel
theorem dX1_rowOf_0 : decode cX1_rowOf 0 = .ok (.iload_n 1, 1) := by decide +kernel
theorem dX1_rowOf_1 : decode cX1_rowOf 1 = .ok (.tableswitch 69 0 5 #[39, 44, 49, 54, 59, 64], 39) := by decide +kernel
theorem dX1_rowOf_40 : decode cX1_rowOf 40 = .ok (.aload_n 0, 1) := by decide +kernel
theorem dX1_rowOf_41 : decode cX1_rowOf 41 = .ok (.getfield 27, 3) := by decide +kernel
theorem dX1_rowOf_44 : decode cX1_rowOf 44 = .ok (.areturn, 1) := by decide +kernel
theorem dX1_rowOf_45 : decode cX1_rowOf 45 = .ok (.aload_n 0, 1) := by decide +kernel
theorem dX1_rowOf_46 : decode cX1_rowOf 46 = .ok (.getfield 31, 3) := by decide +kernel
theorem dX1_rowOf_49 : decode cX1_rowOf 49 = .ok (.areturn, 1) := by decide +kernel
theorem dX1_rowOf_50 : decode cX1_rowOf 50 = .ok (.aload_n 0, 1) := by decide +kernel
theorem dX1_rowOf_51 : decode cX1_rowOf 51 = .ok (.getfield 34, 3) := by decide +kernel
theorem dX1_rowOf_54 : decode cX1_rowOf 54 = .ok (.areturn, 1) := by decide +kernel
theorem dX1_rowOf_55 : decode cX1_rowOf 55 = .ok (.aload_n 0, 1) := by decide +kernel
theorem dX1_rowOf_56 : decode cX1_rowOf 56 = .ok (.getfield 37, 3) := by decide +kernel
theorem dX1_rowOf_59 : decode cX1_rowOf 59 = .ok (.areturn, 1) := by decide +kernel
theorem dX1_rowOf_60 : decode cX1_rowOf 60 = .ok (.aload_n 0, 1) := by decide +kernel
theorem dX1_rowOf_61 : decode cX1_rowOf 61 = .ok (.getfield 40, 3) := by decide +kernel
theorem dX1_rowOf_64 : decode cX1_rowOf 64 = .ok (.areturn, 1) := by decide +kernel
theorem dX1_rowOf_65 : decode cX1_rowOf 65 = .ok (.aload_n 0, 1) := by decide +kernel
theorem dX1_rowOf_66 : decode cX1_rowOf 66 = .ok (.getfield 43, 3) := by decide +kernel
theorem dX1_rowOf_69 : decode cX1_rowOf 69 = .ok (.areturn, 1) := by decide +kernel
theorem dX1_rowOf_70 : decode cX1_rowOf 70 = .ok (.aconst_null, 1) := by decide +kernel
theorem dX1_rowOf_71 : decode cX1_rowOf 71 = .ok (.areturn, 1) := by decide +kernel
theorem dX1_sumOf_0 : decode cX1_sumOf 0 = .ok (.iconst 0, 1) := by decide +kernel
theorem dX1_sumOf_1 : decode cX1_sumOf 1 = .ok (.istore_n 2, 1) := by decide +kernel
theorem dX1_sumOf_2 : decode cX1_sumOf 2 = .ok (.iconst 0, 1) := by decide +kernel
theorem dX1_sumOf_3 : decode cX1_sumOf 3 = .ok (.istore_n 3, 1) := by decide +kernel
theorem dX1_sumOf_4 : decode cX1_sumOf 4 = .ok (.iload_n 3, 1) := by decide +kernel
theorem dX1_sumOf_5 : decode cX1_sumOf 5 = .ok (.aload_n 0, 1) := by decide +kernel
theorem dX1_sumOf_6 : decode cX1_sumOf 6 = .ok (.getfield 24, 3) := by decide +kernel
theorem dX1_sumOf_9 : decode cX1_sumOf 9 = .ok (.if_icmp .ge 15, 3) := by decide +kernel
theorem dX1_sumOf_12 : decode cX1_sumOf 12 = .ok (.iload_n 2, 1) := by decide +kernel
theorem dX1_sumOf_13 : decode cX1_sumOf 13 = .ok (.aload_n 1, 1) := by decide +kernel
theorem dX1_sumOf_14 : decode cX1_sumOf 14 = .ok (.iload_n 3, 1) := by decide +kernel
theorem dX1_sumOf_15 : decode cX1_sumOf 15 = .ok (.iaload, 1) := by decide +kernel
theorem dX1_sumOf_16 : decode cX1_sumOf 16 = .ok (.iadd, 1) := by decide +kernel
theorem dX1_sumOf_17 : decode cX1_sumOf 17 = .ok (.istore_n 2, 1) := by decide +kernel
theorem dX1_sumOf_18 : decode cX1_sumOf 18 = .ok (.iinc 3 1, 3) := by decide +kernel
theorem dX1_sumOf_21 : decode cX1_sumOf 21 = .ok (.goto (-17), 3) := by decide +kernel
theorem dX1_sumOf_24 : decode cX1_sumOf 24 = .ok (.iload_n 2, 1) := by decide +kernel
theorem dX1_sumOf_25 : decode cX1_sumOf 25 = .ok (.ireturn, 1) := by decide +kernel
theorem dX1_setOfIn_0 : decode cX1_setOfIn 0 = .ok (.iconst 0, 1) := by decide +kernel
theorem dX1_setOfIn_1 : decode cX1_setOfIn 1 = .ok (.istore_n 1, 1) := by decide +kernel
theorem dX1_setOfIn_2 : decode cX1_setOfIn 2 = .ok (.iconst 0, 1) := by decide +kernel
theorem dX1_setOfIn_3 : decode cX1_setOfIn 3 = .ok (.istore_n 2, 1) := by decide +kernel
theorem dX1_setOfIn_4 : decode cX1_setOfIn 4 = .ok (.iload_n 2, 1) := by decide +kernel
theorem dX1_setOfIn_5 : decode cX1_setOfIn 5 = .ok (.aload_n 0, 1) := by decide +kernel
theorem dX1_setOfIn_6 : decode cX1_setOfIn 6 = .ok (.getfield 24, 3) := by decide +kernel
theorem dX1_setOfIn_9 : decode cX1_setOfIn 9 = .ok (.if_icmp .ge 20, 3) := by decide +kernel
theorem dX1_setOfIn_12 : decode cX1_setOfIn 12 = .ok (.iload_n 1, 1) := by decide +kernel
theorem dX1_setOfIn_13 : decode cX1_setOfIn 13 = .ok (.aload_n 0, 1) := by decide +kernel
theorem dX1_setOfIn_14 : decode cX1_setOfIn 14 = .ok (.getfield 40, 3) := by decide +kernel
theorem dX1_setOfIn_17 : decode cX1_setOfIn 17 = .ok (.iload_n 2, 1) := by decide +kernel
theorem dX1_setOfIn_18 : decode cX1_setOfIn 18 = .ok (.iaload, 1) := by decide +kernel
theorem dX1_setOfIn_19 : decode cX1_setOfIn 19 = .ok (.iload_n 2, 1) := by decide +kernel
theorem dX1_setOfIn_20 : decode cX1_setOfIn 20 = .ok (.ishl, 1) := by decide +kernel
theorem dX1_setOfIn_21 : decode cX1_setOfIn 21 = .ok (.ior, 1) := by decide +kernel
theorem dX1_setOfIn_22 : decode cX1_setOfIn 22 = .ok (.istore_n 1, 1) := by decide +kernel
theorem dX1_setOfIn_23 : decode cX1_setOfIn 23 = .ok (.iinc 2 1, 3) := by decide +kernel
theorem dX1_setOfIn_26 : decode cX1_setOfIn 26 = .ok (.goto (-22), 3) := by decide +kernel
theorem dX1_setOfIn_29 : decode cX1_setOfIn 29 = .ok (.iload_n 1, 1) := by decide +kernel
theorem dX1_setOfIn_30 : decode cX1_setOfIn 30 = .ok (.ireturn, 1) := by decide +kernel
theorem dX1_setOfLoose_0 : decode cX1_setOfLoose 0 = .ok (.iconst 0, 1) := by decide +kernel
theorem dX1_setOfLoose_1 : decode cX1_setOfLoose 1 = .ok (.istore_n 1, 1) := by decide +kernel
theorem dX1_setOfLoose_2 : decode cX1_setOfLoose 2 = .ok (.iconst 0, 1) := by decide +kernel
theorem dX1_setOfLoose_3 : decode cX1_setOfLoose 3 = .ok (.istore_n 2, 1) := by decide +kernel
theorem dX1_setOfLoose_4 : decode cX1_setOfLoose 4 = .ok (.iload_n 2, 1) := by decide +kernel
theorem dX1_setOfLoose_5 : decode cX1_setOfLoose 5 = .ok (.aload_n 0, 1) := by decide +kernel
theorem dX1_setOfLoose_6 : decode cX1_setOfLoose 6 = .ok (.getfield 24, 3) := by decide +kernel
theorem dX1_setOfLoose_9 : decode cX1_setOfLoose 9 = .ok (.if_icmp .ge 29, 3) := by decide +kernel
theorem dX1_setOfLoose_12 : decode cX1_setOfLoose 12 = .ok (.aload_n 0, 1) := by decide +kernel
theorem dX1_setOfLoose_13 : decode cX1_setOfLoose 13 = .ok (.getfield 31, 3) := by decide +kernel
theorem dX1_setOfLoose_16 : decode cX1_setOfLoose 16 = .ok (.iload_n 2, 1) := by decide +kernel
theorem dX1_setOfLoose_17 : decode cX1_setOfLoose 17 = .ok (.iaload, 1) := by decide +kernel
theorem dX1_setOfLoose_18 : decode cX1_setOfLoose 18 = .ok (.ifCond .ne 14, 3) := by decide +kernel
theorem dX1_setOfLoose_21 : decode cX1_setOfLoose 21 = .ok (.iload_n 1, 1) := by decide +kernel
theorem dX1_setOfLoose_22 : decode cX1_setOfLoose 22 = .ok (.aload_n 0, 1) := by decide +kernel
theorem dX1_setOfLoose_23 : decode cX1_setOfLoose 23 = .ok (.getfield 40, 3) := by decide +kernel
theorem dX1_setOfLoose_26 : decode cX1_setOfLoose 26 = .ok (.iload_n 2, 1) := by decide +kernel
theorem dX1_setOfLoose_27 : decode cX1_setOfLoose 27 = .ok (.iaload, 1) := by decide +kernel
theorem dX1_setOfLoose_28 : decode cX1_setOfLoose 28 = .ok (.iload_n 2, 1) := by decide +kernel
theorem dX1_setOfLoose_29 : decode cX1_setOfLoose 29 = .ok (.ishl, 1) := by decide +kernel
theorem dX1_setOfLoose_30 : decode cX1_setOfLoose 30 = .ok (.ior, 1) := by decide +kernel
theorem dX1_setOfLoose_31 : decode cX1_setOfLoose 31 = .ok (.istore_n 1, 1) := by decide +kernel
theorem dX1_setOfLoose_32 : decode cX1_setOfLoose 32 = .ok (.iinc 2 1, 3) := by decide +kernel
theorem dX1_setOfLoose_35 : decode cX1_setOfLoose 35 = .ok (.goto (-31), 3) := by decide +kernel
theorem dX1_setOfLoose_38 : decode cX1_setOfLoose 38 = .ok (.iload_n 1, 1) := by decide +kernel
theorem dX1_setOfLoose_39 : decode cX1_setOfLoose 39 = .ok (.ireturn, 1) := by decide +kernel
set_option maxRecDepth 20000 in
theorem ggX1_countLoose_X1_setOfLoose : GoodIn wsX1_countLoose wsX1_setOfLoose := goodIn_r _ [5, 6, 7, 8, 16, 17, 18, 19, 20, 21, 22, 23, 24, 25, 26] (by decide +kernel) (by decide +kernel)
set_option maxRecDepth 20000 in
theorem gX1_countLoose_X1_setOfLoose : GoodIn wsX1_countLoose (wsV RX1 52 RX1 yX1_setOfLoose wsX1_setOfLoose) := goodIn_app (goodIn_of _ (by decide +kernel)) ggX1_countLoose_X1_setOfLoose
set_option maxRecDepth 20000 in
theorem ggX1_countLoose_J6_bitCount_0f7a4 : GoodIn wsX1_countLoose wsJ6_bitCount_0f7a4 := goodIn_r _ [12, 13, 14, 15] (by decide +kernel) (by decide +kernel)
set_option maxRecDepth 20000 in
theorem gX1_countLoose_J6_bitCount_0f7a4 : GoodIn wsX1_countLoose (va_wsS RX1 56 yJ6_bitCount_0f7a4 wsJ6_bitCount_0f7a4) := goodIn_app (goodIn_of _ (by decide +kernel)) ggX1_countLoose_J6_bitCount_0f7a4
theorem dX1_countLoose_0 : decode cX1_countLoose 0 = .ok (.aload_n 0, 1) := by decide +kernel
theorem dX1_countLoose_1 : decode cX1_countLoose 1 = .ok (.invokevirtual 52, 3) := by decide +kernel
theorem dX1_countLoose_4 : decode cX1_countLoose 4 = .ok (.invokestatic 56, 3) := by decide +kernel
theorem dX1_countLoose_7 : decode cX1_countLoose 7 = .ok (.ireturn, 1) := by decide +kernel
theorem dX1_changePlaces_0 : decode cX1_changePlaces 0 = .ok (.aload_n 0, 1) := by decide +kernel
theorem dX1_changePlaces_1 : decode cX1_changePlaces 1 = .ok (.getfield 37, 3) := by decide +kernel
theorem dX1_changePlaces_4 : decode cX1_changePlaces 4 = .ok (.iload_n 1, 1) := by decide +kernel
theorem dX1_changePlaces_5 : decode cX1_changePlaces 5 = .ok (.iaload, 1) := by decide +kernel
theorem dX1_changePlaces_6 : decode cX1_changePlaces 6 = .ok (.istore_n 3, 1) := by decide +kernel
theorem dX1_changePlaces_7 : decode cX1_changePlaces 7 = .ok (.aload_n 0, 1) := by decide +kernel
theorem dX1_changePlaces_8 : decode cX1_changePlaces 8 = .ok (.getfield 37, 3) := by decide +kernel
theorem dX1_changePlaces_11 : decode cX1_changePlaces 11 = .ok (.iload_n 1, 1) := by decide +kernel
theorem dX1_changePlaces_12 : decode cX1_changePlaces 12 = .ok (.aload_n 0, 1) := by decide +kernel
theorem dX1_changePlaces_13 : decode cX1_changePlaces 13 = .ok (.getfield 37, 3) := by decide +kernel
theorem dX1_changePlaces_16 : decode cX1_changePlaces 16 = .ok (.iload_n 2, 1) := by decide +kernel
theorem dX1_changePlaces_17 : decode cX1_changePlaces 17 = .ok (.iaload, 1) := by decide +kernel
theorem dX1_changePlaces_18 : decode cX1_changePlaces 18 = .ok (.iastore, 1) := by decide +kernel
theorem dX1_changePlaces_19 : decode cX1_changePlaces 19 = .ok (.aload_n 0, 1) := by decide +kernel
theorem dX1_changePlaces_20 : decode cX1_changePlaces 20 = .ok (.getfield 37, 3) := by decide +kernel
theorem dX1_changePlaces_23 : decode cX1_changePlaces 23 = .ok (.iload_n 2, 1) := by decide +kernel
theorem dX1_changePlaces_24 : decode cX1_changePlaces 24 = .ok (.iload_n 3, 1) := by decide +kernel
theorem dX1_changePlaces_25 : decode cX1_changePlaces 25 = .ok (.iastore, 1) := by decide +kernel
theorem dX1_changePlaces_26 : decode cX1_changePlaces 26 = .ok (.return_, 1) := by decide +kernel
set_option maxRecDepth 20000 in
theorem ggX1_goesNow_X0_goesOf : GoodIn wsX1_goesNow wsX0_goesOf := goodIn_r _ [7, 8, 9, 10, 11, 12, 13, 6, 14] (by decide +kernel) (by decide +kernel)
set_option maxRecDepth 20000 in
theorem gX1_goesNow_X0_goesOf : GoodIn wsX1_goesNow (va_wsS RX1 62 yX0_goesOf wsX0_goesOf) := goodIn_app (goodIn_of _ (by decide +kernel)) ggX1_goesNow_X0_goesOf
theorem dX1_goesNow_0 : decode cX1_goesNow 0 = .ok (.aload_n 0, 1) := by decide +kernel
theorem dX1_goesNow_1 : decode cX1_goesNow 1 = .ok (.getfield 27, 3) := by decide +kernel
theorem dX1_goesNow_4 : decode cX1_goesNow 4 = .ok (.iload_n 1, 1) := by decide +kernel
theorem dX1_goesNow_5 : decode cX1_goesNow 5 = .ok (.iaload, 1) := by decide +kernel
theorem dX1_goesNow_6 : decode cX1_goesNow 6 = .ok (.aload_n 0, 1) := by decide +kernel
theorem dX1_goesNow_7 : decode cX1_goesNow 7 = .ok (.getfield 34, 3) := by decide +kernel
theorem dX1_goesNow_10 : decode cX1_goesNow 10 = .ok (.iload_n 1, 1) := by decide +kernel
theorem dX1_goesNow_11 : decode cX1_goesNow 11 = .ok (.iaload, 1) := by decide +kernel
theorem dX1_goesNow_12 : decode cX1_goesNow 12 = .ok (.aload_n 0, 1) := by decide +kernel
theorem dX1_goesNow_13 : decode cX1_goesNow 13 = .ok (.getfield 18, 3) := by decide +kernel
theorem dX1_goesNow_16 : decode cX1_goesNow 16 = .ok (.ifCond .le 7, 3) := by decide +kernel
theorem dX1_goesNow_19 : decode cX1_goesNow 19 = .ok (.iconst 1, 1) := by decide +kernel
theorem dX1_goesNow_20 : decode cX1_goesNow 20 = .ok (.goto 4, 3) := by decide +kernel
theorem dX1_goesNow_23 : decode cX1_goesNow 23 = .ok (.iconst 0, 1) := by decide +kernel
theorem dX1_goesNow_24 : decode cX1_goesNow 24 = .ok (.invokestatic 62, 3) := by decide +kernel
theorem dX1_goesNow_27 : decode cX1_goesNow 27 = .ok (.ireturn, 1) := by decide +kernel
set_option maxRecDepth 20000 in
theorem ggX1_holdsFor_X0_holdsOf : GoodIn wsX1_holdsFor wsX0_holdsOf := goodIn_r _ [8] (by decide +kernel) (by decide +kernel)
set_option maxRecDepth 20000 in
theorem gX1_holdsFor_X0_holdsOf : GoodIn wsX1_holdsFor (va_wsS RX1 68 yX0_holdsOf wsX0_holdsOf) := goodIn_app (goodIn_of _ (by decide +kernel)) ggX1_holdsFor_X0_holdsOf
theorem dX1_holdsFor_0 : decode cX1_holdsFor 0 = .ok (.aload_n 0, 1) := by decide +kernel
theorem dX1_holdsFor_1 : decode cX1_holdsFor 1 = .ok (.getfield 27, 3) := by decide +kernel
theorem dX1_holdsFor_4 : decode cX1_holdsFor 4 = .ok (.iload_n 1, 1) := by decide +kernel
theorem dX1_holdsFor_5 : decode cX1_holdsFor 5 = .ok (.iaload, 1) := by decide +kernel
theorem dX1_holdsFor_6 : decode cX1_holdsFor 6 = .ok (.aload_n 0, 1) := by decide +kernel
theorem dX1_holdsFor_7 : decode cX1_holdsFor 7 = .ok (.getfield 37, 3) := by decide +kernel
theorem dX1_holdsFor_10 : decode cX1_holdsFor 10 = .ok (.iload_n 2, 1) := by decide +kernel
theorem dX1_holdsFor_11 : decode cX1_holdsFor 11 = .ok (.iaload, 1) := by decide +kernel
theorem dX1_holdsFor_12 : decode cX1_holdsFor 12 = .ok (.aload_n 0, 1) := by decide +kernel
theorem dX1_holdsFor_13 : decode cX1_holdsFor 13 = .ok (.getfield 34, 3) := by decide +kernel
theorem dX1_holdsFor_16 : decode cX1_holdsFor 16 = .ok (.iload_n 2, 1) := by decide +kernel
theorem dX1_holdsFor_17 : decode cX1_holdsFor 17 = .ok (.iaload, 1) := by decide +kernel
theorem dX1_holdsFor_18 : decode cX1_holdsFor 18 = .ok (.aload_n 0, 1) := by decide +kernel
theorem dX1_holdsFor_19 : decode cX1_holdsFor 19 = .ok (.getfield 31, 3) := by decide +kernel
theorem dX1_holdsFor_22 : decode cX1_holdsFor 22 = .ok (.iload_n 2, 1) := by decide +kernel
theorem dX1_holdsFor_23 : decode cX1_holdsFor 23 = .ok (.iaload, 1) := by decide +kernel
theorem dX1_holdsFor_24 : decode cX1_holdsFor 24 = .ok (.invokestatic 68, 3) := by decide +kernel
theorem dX1_holdsFor_27 : decode cX1_holdsFor 27 = .ok (.ireturn, 1) := by decide +kernel
set_option maxRecDepth 20000 in
theorem ggX1_isAsking_X0_asksOf : GoodIn wsX1_isAsking wsX0_asksOf := goodIn_r _ [7] (by decide +kernel) (by decide +kernel)
set_option maxRecDepth 20000 in
theorem gX1_isAsking_X0_asksOf : GoodIn wsX1_isAsking (va_wsS RX1 72 yX0_asksOf wsX0_asksOf) := goodIn_app (goodIn_of _ (by decide +kernel)) ggX1_isAsking_X0_asksOf
theorem dX1_isAsking_0 : decode cX1_isAsking 0 = .ok (.aload_n 0, 1) := by decide +kernel
theorem dX1_isAsking_1 : decode cX1_isAsking 1 = .ok (.getfield 27, 3) := by decide +kernel
theorem dX1_isAsking_4 : decode cX1_isAsking 4 = .ok (.iload_n 1, 1) := by decide +kernel
theorem dX1_isAsking_5 : decode cX1_isAsking 5 = .ok (.iaload, 1) := by decide +kernel
theorem dX1_isAsking_6 : decode cX1_isAsking 6 = .ok (.aload_n 0, 1) := by decide +kernel
theorem dX1_isAsking_7 : decode cX1_isAsking 7 = .ok (.getfield 15, 3) := by decide +kernel
theorem dX1_isAsking_10 : decode cX1_isAsking 10 = .ok (.aload_n 0, 1) := by decide +kernel
theorem dX1_isAsking_11 : decode cX1_isAsking 11 = .ok (.getfield 34, 3) := by decide +kernel
theorem dX1_isAsking_14 : decode cX1_isAsking 14 = .ok (.iload_n 2, 1) := by decide +kernel
theorem dX1_isAsking_15 : decode cX1_isAsking 15 = .ok (.iaload, 1) := by decide +kernel
theorem dX1_isAsking_16 : decode cX1_isAsking 16 = .ok (.invokestatic 72, 3) := by decide +kernel
theorem dX1_isAsking_19 : decode cX1_isAsking 19 = .ok (.ireturn, 1) := by decide +kernel
set_option maxRecDepth 20000 in
theorem ggX1_goOn_X1_isAtRest : GoodIn wsX1_goOn wsX1_isAtRest := goodIn_r _ [6, 7, 8, 9, 10, 11, 74, 75, 76, 77, 78, 79, 80, 81, 82, 83, 84] (by decide +kernel) (by decide +kernel)
set_option maxRecDepth 20000 in
theorem gX1_goOn_X1_isAtRest : GoodIn wsX1_goOn (wsV RX1 76 RX1 yX1_isAtRest wsX1_isAtRest) := goodIn_app (goodIn_of _ (by decide +kernel)) ggX1_goOn_X1_isAtRest
set_option maxRecDepth 20000 in
theorem ggX1_goOn_X1_goOneSecond : GoodIn wsX1_goOn wsX1_goOneSecond := goodIn_r _ [15, 8, 9, 10, 7, 16, 17, 18, 5, 19, 20, 21, 22, 23, 24, 25, 26, 27, 28, 29, 30, 31, 32, 33, 34, 35, 36, 37, 38, 39, 40, 41, 11, 42, 43, 44, 45, 46, 47, 48, 49, 50, 51, 52, 53, 54, 55, 56, 57, 58, 59, 60, 61, 62, 63, 64, 65, 66, 67, 68, 69, 70, 71, 72, 73, 74, 75, 76, 77, 78, 79, 80, 81, 82, 83, 84] (by decide +kernel) (by decide +kernel)
set_option maxRecDepth 20000 in
theorem gX1_goOn_X1_goOneSecond : GoodIn wsX1_goOn (wsV RX1 80 RX1 yX1_goOneSecond wsX1_goOneSecond) := goodIn_app (goodIn_of _ (by decide +kernel)) ggX1_goOn_X1_goOneSecond
theorem dX1_goOn_0 : decode cX1_goOn 0 = .ok (.iconst 0, 1) := by decide +kernel
theorem dX1_goOn_1 : decode cX1_goOn 1 = .ok (.istore_n 2, 1) := by decide +kernel
theorem dX1_goOn_2 : decode cX1_goOn 2 = .ok (.iload_n 2, 1) := by decide +kernel
theorem dX1_goOn_3 : decode cX1_goOn 3 = .ok (.iload_n 1, 1) := by decide +kernel
theorem dX1_goOn_4 : decode cX1_goOn 4 = .ok (.if_icmp .ge 20, 3) := by decide +kernel
theorem dX1_goOn_7 : decode cX1_goOn 7 = .ok (.aload_n 0, 1) := by decide +kernel
theorem dX1_goOn_8 : decode cX1_goOn 8 = .ok (.invokevirtual 76, 3) := by decide +kernel
theorem dX1_goOn_11 : decode cX1_goOn 11 = .ok (.ifCond .ne 13, 3) := by decide +kernel
theorem dX1_goOn_14 : decode cX1_goOn 14 = .ok (.aload_n 0, 1) := by decide +kernel
theorem dX1_goOn_15 : decode cX1_goOn 15 = .ok (.invokevirtual 80, 3) := by decide +kernel
theorem dX1_goOn_18 : decode cX1_goOn 18 = .ok (.iinc 2 1, 3) := by decide +kernel
theorem dX1_goOn_21 : decode cX1_goOn 21 = .ok (.goto (-19), 3) := by decide +kernel
theorem dX1_goOn_24 : decode cX1_goOn 24 = .ok (.aload_n 0, 1) := by decide +kernel
theorem dX1_goOn_25 : decode cX1_goOn 25 = .ok (.dup, 1) := by decide +kernel
theorem dX1_goOn_26 : decode cX1_goOn 26 = .ok (.getfield 9, 3) := by decide +kernel
theorem dX1_goOn_29 : decode cX1_goOn 29 = .ok (.iload_n 1, 1) := by decide +kernel
theorem dX1_goOn_30 : decode cX1_goOn 30 = .ok (.iadd, 1) := by decide +kernel
theorem dX1_goOn_31 : decode cX1_goOn 31 = .ok (.putfield 9, 3) := by decide +kernel
theorem dX1_goOn_34 : decode cX1_goOn 34 = .ok (.return_, 1) := by decide +kernel
set_option maxRecDepth 20000 in
theorem ggX1_goOneSecond_X1_walkAll : GoodIn wsX1_goOneSecond wsX1_walkAll := goodIn_r _ [9, 1, 2, 3, 10, 11, 12, 13, 14, 15, 16, 8, 17, 18, 19, 4, 20, 21, 22, 23, 24, 25, 26, 27, 65, 66, 67, 68, 69, 70, 71, 72, 73, 74, 75] (by decide +kernel) (by decide +kernel)
set_option maxRecDepth 20000 in
theorem gX1_goOneSecond_X1_walkAll : GoodIn wsX1_goOneSecond (wsV RX1 83 RX1 yX1_walkAll wsX1_walkAll) := goodIn_app (goodIn_of _ (by decide +kernel)) ggX1_goOneSecond_X1_walkAll
set_option maxRecDepth 20000 in
theorem ggX1_goOneSecond_X1_tryToEnter : GoodIn wsX1_goOneSecond wsX1_tryToEnter := goodIn_r _ [31, 4, 32, 33, 34, 35, 12, 36, 3, 37, 38, 39, 8, 40, 2, 41, 10, 11, 13, 42, 43, 44, 45, 1, 46, 47, 48, 49, 18, 19, 50, 51, 22, 52, 53, 54, 55, 56, 57, 58, 59, 60, 61, 62, 63, 64, 65, 66, 67, 68, 69, 70, 71, 72, 73, 74, 75] (by decide +kernel) (by decide +kernel)
set_option maxRecDepth 20000 in
theorem gX1_goOneSecond_X1_tryToEnter : GoodIn wsX1_goOneSecond (wsV RX1 86 RX1 yX1_tryToEnter wsX1_tryToEnter) := goodIn_app (goodIn_of _ (by decide +kernel)) ggX1_goOneSecond_X1_tryToEnter
theorem dX1_goOneSecond_0 : decode cX1_goOneSecond 0 = .ok (.aload_n 0, 1) := by decide +kernel
theorem dX1_goOneSecond_1 : decode cX1_goOneSecond 1 = .ok (.invokevirtual 83, 3) := by decide +kernel
theorem dX1_goOneSecond_4 : decode cX1_goOneSecond 4 = .ok (.iconst 0, 1) := by decide +kernel
theorem dX1_goOneSecond_5 : decode cX1_goOneSecond 5 = .ok (.istore_n 1, 1) := by decide +kernel
theorem dX1_goOneSecond_6 : decode cX1_goOneSecond 6 = .ok (.iload_n 1, 1) := by decide +kernel
theorem dX1_goOneSecond_7 : decode cX1_goOneSecond 7 = .ok (.aload_n 0, 1) := by decide +kernel
theorem dX1_goOneSecond_8 : decode cX1_goOneSecond 8 = .ok (.getfield 24, 3) := by decide +kernel
theorem dX1_goOneSecond_11 : decode cX1_goOneSecond 11 = .ok (.if_icmp .ge 32, 3) := by decide +kernel
theorem dX1_goOneSecond_14 : decode cX1_goOneSecond 14 = .ok (.aload_n 0, 1) := by decide +kernel
theorem dX1_goOneSecond_15 : decode cX1_goOneSecond 15 = .ok (.getfield 40, 3) := by decide +kernel
theorem dX1_goOneSecond_18 : decode cX1_goOneSecond 18 = .ok (.iload_n 1, 1) := by decide +kernel
theorem dX1_goOneSecond_19 : decode cX1_goOneSecond 19 = .ok (.iaload, 1) := by decide +kernel
theorem dX1_goOneSecond_20 : decode cX1_goOneSecond 20 = .ok (.ifCond .ne 17, 3) := by decide +kernel
theorem dX1_goOneSecond_23 : decode cX1_goOneSecond 23 = .ok (.aload_n 0, 1) := by decide +kernel
theorem dX1_goOneSecond_24 : decode cX1_goOneSecond 24 = .ok (.getfield 37, 3) := by decide +kernel
theorem dX1_goOneSecond_27 : decode cX1_goOneSecond 27 = .ok (.iload_n 1, 1) := by decide +kernel
theorem dX1_goOneSecond_28 : decode cX1_goOneSecond 28 = .ok (.iaload, 1) := by decide +kernel
theorem dX1_goOneSecond_29 : decode cX1_goOneSecond 29 = .ok (.ifCond .ne 8, 3) := by decide +kernel
theorem dX1_goOneSecond_32 : decode cX1_goOneSecond 32 = .ok (.aload_n 0, 1) := by decide +kernel
theorem dX1_goOneSecond_33 : decode cX1_goOneSecond 33 = .ok (.iload_n 1, 1) := by decide +kernel
theorem dX1_goOneSecond_34 : decode cX1_goOneSecond 34 = .ok (.invokevirtual 86, 3) := by decide +kernel
theorem dX1_goOneSecond_37 : decode cX1_goOneSecond 37 = .ok (.iinc 1 1, 3) := by decide +kernel
theorem dX1_goOneSecond_40 : decode cX1_goOneSecond 40 = .ok (.goto (-34), 3) := by decide +kernel
theorem dX1_goOneSecond_43 : decode cX1_goOneSecond 43 = .ok (.aload_n 0, 1) := by decide +kernel
theorem dX1_goOneSecond_44 : decode cX1_goOneSecond 44 = .ok (.getfield 18, 3) := by decide +kernel
theorem dX1_goOneSecond_47 : decode cX1_goOneSecond 47 = .ok (.ifCond .le 13, 3) := by decide +kernel
theorem dX1_goOneSecond_50 : decode cX1_goOneSecond 50 = .ok (.aload_n 0, 1) := by decide +kernel
theorem dX1_goOneSecond_51 : decode cX1_goOneSecond 51 = .ok (.dup, 1) := by decide +kernel
theorem dX1_goOneSecond_52 : decode cX1_goOneSecond 52 = .ok (.getfield 18, 3) := by decide +kernel
theorem dX1_goOneSecond_55 : decode cX1_goOneSecond 55 = .ok (.iconst 1, 1) := by decide +kernel
theorem dX1_goOneSecond_56 : decode cX1_goOneSecond 56 = .ok (.isub, 1) := by decide +kernel
theorem dX1_goOneSecond_57 : decode cX1_goOneSecond 57 = .ok (.putfield 18, 3) := by decide +kernel
theorem dX1_goOneSecond_60 : decode cX1_goOneSecond 60 = .ok (.return_, 1) := by decide +kernel
theorem dX1_isAtRest_0 : decode cX1_isAtRest 0 = .ok (.aload_n 0, 1) := by decide +kernel
theorem dX1_isAtRest_1 : decode cX1_isAtRest 1 = .ok (.getfield 18, 3) := by decide +kernel
theorem dX1_isAtRest_4 : decode cX1_isAtRest 4 = .ok (.ifCond .le 5, 3) := by decide +kernel
theorem dX1_isAtRest_7 : decode cX1_isAtRest 7 = .ok (.iconst 0, 1) := by decide +kernel
theorem dX1_isAtRest_8 : decode cX1_isAtRest 8 = .ok (.ireturn, 1) := by decide +kernel
theorem dX1_isAtRest_9 : decode cX1_isAtRest 9 = .ok (.iconst 0, 1) := by decide +kernel
theorem dX1_isAtRest_10 : decode cX1_isAtRest 10 = .ok (.istore_n 1, 1) := by decide +kernel
theorem dX1_isAtRest_11 : decode cX1_isAtRest 11 = .ok (.iload_n 1, 1) := by decide +kernel
theorem dX1_isAtRest_12 : decode cX1_isAtRest 12 = .ok (.aload_n 0, 1) := by decide +kernel
theorem dX1_isAtRest_13 : decode cX1_isAtRest 13 = .ok (.getfield 24, 3) := by decide +kernel
theorem dX1_isAtRest_16 : decode cX1_isAtRest 16 = .ok (.if_icmp .ge 39, 3) := by decide +kernel
theorem dX1_isAtRest_19 : decode cX1_isAtRest 19 = .ok (.aload_n 0, 1) := by decide +kernel
theorem dX1_isAtRest_20 : decode cX1_isAtRest 20 = .ok (.getfield 40, 3) := by decide +kernel
theorem dX1_isAtRest_23 : decode cX1_isAtRest 23 = .ok (.iload_n 1, 1) := by decide +kernel
theorem dX1_isAtRest_24 : decode cX1_isAtRest 24 = .ok (.iaload, 1) := by decide +kernel
theorem dX1_isAtRest_25 : decode cX1_isAtRest 25 = .ok (.ifCond .ne 24, 3) := by decide +kernel
theorem dX1_isAtRest_28 : decode cX1_isAtRest 28 = .ok (.aload_n 0, 1) := by decide +kernel
theorem dX1_isAtRest_29 : decode cX1_isAtRest 29 = .ok (.getfield 37, 3) := by decide +kernel
theorem dX1_isAtRest_32 : decode cX1_isAtRest 32 = .ok (.iload_n 1, 1) := by decide +kernel
theorem dX1_isAtRest_33 : decode cX1_isAtRest 33 = .ok (.iaload, 1) := by decide +kernel
theorem dX1_isAtRest_34 : decode cX1_isAtRest 34 = .ok (.ifCond .gt 13, 3) := by decide +kernel
theorem dX1_isAtRest_37 : decode cX1_isAtRest 37 = .ok (.aload_n 0, 1) := by decide +kernel
theorem dX1_isAtRest_38 : decode cX1_isAtRest 38 = .ok (.getfield 31, 3) := by decide +kernel
theorem dX1_isAtRest_41 : decode cX1_isAtRest 41 = .ok (.iload_n 1, 1) := by decide +kernel
theorem dX1_isAtRest_42 : decode cX1_isAtRest 42 = .ok (.iaload, 1) := by decide +kernel
theorem dX1_isAtRest_43 : decode cX1_isAtRest 43 = .ok (.iconst 1, 1) := by decide +kernel
theorem dX1_isAtRest_44 : decode cX1_isAtRest 44 = .ok (.if_icmp .ne 5, 3) := by decide +kernel
theorem dX1_isAtRest_47 : decode cX1_isAtRest 47 = .ok (.iconst 0, 1) := by decide +kernel
theorem dX1_isAtRest_48 : decode cX1_isAtRest 48 = .ok (.ireturn, 1) := by decide +kernel
theorem dX1_isAtRest_49 : decode cX1_isAtRest 49 = .ok (.iinc 1 1, 3) := by decide +kernel
theorem dX1_isAtRest_52 : decode cX1_isAtRest 52 = .ok (.goto (-41), 3) := by decide +kernel
theorem dX1_isAtRest_55 : decode cX1_isAtRest 55 = .ok (.iconst 1, 1) := by decide +kernel
theorem dX1_isAtRest_56 : decode cX1_isAtRest 56 = .ok (.ireturn, 1) := by decide +kernel
set_option maxRecDepth 20000 in
theorem ggX1_walkAll_X1_goesNow : GoodIn wsX1_walkAll wsX1_goesNow := goodIn_r _ [12, 13, 14, 15, 16, 17, 18, 19, 20, 5, 6, 7, 21, 22, 23, 24, 25, 26, 27, 28, 29, 30, 31, 32, 33, 34] (by decide +kernel) (by decide +kernel)
set_option maxRecDepth 20000 in
theorem gX1_walkAll_X1_goesNow : GoodIn wsX1_walkAll (wsV RX1 90 RX1 yX1_goesNow wsX1_goesNow) := goodIn_app (goodIn_of _ (by decide +kernel)) ggX1_walkAll_X1_goesNow
theorem dX1_walkAll_0 : decode cX1_walkAll 0 = .ok (.iconst 0, 1) := by decide +kernel
theorem dX1_walkAll_1 : decode cX1_walkAll 1 = .ok (.istore_n 1, 1) := by decide +kernel
theorem dX1_walkAll_2 : decode cX1_walkAll 2 = .ok (.iload_n 1, 1) := by decide +kernel
theorem dX1_walkAll_3 : decode cX1_walkAll 3 = .ok (.aload_n 0, 1) := by decide +kernel
theorem dX1_walkAll_4 : decode cX1_walkAll 4 = .ok (.getfield 24, 3) := by decide +kernel
theorem dX1_walkAll_7 : decode cX1_walkAll 7 = .ok (.if_icmp .ge 40, 3) := by decide +kernel
theorem dX1_walkAll_10 : decode cX1_walkAll 10 = .ok (.aload_n 0, 1) := by decide +kernel
theorem dX1_walkAll_11 : decode cX1_walkAll 11 = .ok (.getfield 40, 3) := by decide +kernel
theorem dX1_walkAll_14 : decode cX1_walkAll 14 = .ok (.iload_n 1, 1) := by decide +kernel
theorem dX1_walkAll_15 : decode cX1_walkAll 15 = .ok (.iaload, 1) := by decide +kernel
theorem dX1_walkAll_16 : decode cX1_walkAll 16 = .ok (.ifCond .ne 25, 3) := by decide +kernel
theorem dX1_walkAll_19 : decode cX1_walkAll 19 = .ok (.aload_n 0, 1) := by decide +kernel
theorem dX1_walkAll_20 : decode cX1_walkAll 20 = .ok (.getfield 37, 3) := by decide +kernel
theorem dX1_walkAll_23 : decode cX1_walkAll 23 = .ok (.iload_n 1, 1) := by decide +kernel
theorem dX1_walkAll_24 : decode cX1_walkAll 24 = .ok (.aload_n 0, 1) := by decide +kernel
theorem dX1_walkAll_25 : decode cX1_walkAll 25 = .ok (.getfield 37, 3) := by decide +kernel
theorem dX1_walkAll_28 : decode cX1_walkAll 28 = .ok (.iload_n 1, 1) := by decide +kernel
theorem dX1_walkAll_29 : decode cX1_walkAll 29 = .ok (.iaload, 1) := by decide +kernel
theorem dX1_walkAll_30 : decode cX1_walkAll 30 = .ok (.aload_n 0, 1) := by decide +kernel
theorem dX1_walkAll_31 : decode cX1_walkAll 31 = .ok (.iload_n 1, 1) := by decide +kernel
theorem dX1_walkAll_32 : decode cX1_walkAll 32 = .ok (.invokevirtual 90, 3) := by decide +kernel
theorem dX1_walkAll_35 : decode cX1_walkAll 35 = .ok (.isub, 1) := by decide +kernel
theorem dX1_walkAll_36 : decode cX1_walkAll 36 = .ok (.iconst 0, 1) := by decide +kernel
theorem dX1_walkAll_37 : decode cX1_walkAll 37 = .ok (.invokestatic 93, 3) := by decide +kernel
theorem dX1_walkAll_40 : decode cX1_walkAll 40 = .ok (.iastore, 1) := by decide +kernel
theorem dX1_walkAll_41 : decode cX1_walkAll 41 = .ok (.iinc 1 1, 3) := by decide +kernel
theorem dX1_walkAll_44 : decode cX1_walkAll 44 = .ok (.goto (-42), 3) := by decide +kernel
theorem dX1_walkAll_47 : decode cX1_walkAll 47 = .ok (.return_, 1) := by decide +kernel
set_option maxRecDepth 20000 in
theorem ggX1_tryToEnter_X1_comeIn : GoodIn wsX1_tryToEnter wsX1_comeIn := goodIn_r _ [13, 14, 15, 1, 16, 17, 6, 18, 4, 5, 7, 19, 20, 21, 12, 22, 23, 8, 24, 25, 26, 27, 28, 29, 2, 30, 31, 32, 33, 46, 47, 48, 49, 50, 51, 52, 53, 54, 55, 56] (by decide +kernel) (by decide +kernel)
set_option maxRecDepth 20000 in
theorem gX1_tryToEnter_X1_comeIn : GoodIn wsX1_tryToEnter (wsV RX1 99 RX1 yX1_comeIn wsX1_comeIn) := goodIn_app (goodIn_of _ (by decide +kernel)) ggX1_tryToEnter_X1_comeIn
set_option maxRecDepth 20000 in
theorem ggX1_tryToEnter_X1_isAskedByHolder : GoodIn wsX1_tryToEnter wsX1_isAskedByHolder := goodIn_r _ [37, 15, 23, 38, 39, 40, 12, 41, 28, 42, 29, 43, 44, 32, 45, 46, 47, 48, 49, 50, 51, 52, 53, 54, 55, 56] (by decide +kernel) (by decide +kernel)
set_option maxRecDepth 20000 in
theorem gX1_tryToEnter_X1_isAskedByHolder : GoodIn wsX1_tryToEnter (wsV RX1 102 RX1 yX1_isAskedByHolder wsX1_isAskedByHolder) := goodIn_app (goodIn_of _ (by decide +kernel)) ggX1_tryToEnter_X1_isAskedByHolder
theorem dX1_tryToEnter_0 : decode cX1_tryToEnter 0 = .ok (.aload_n 0, 1) := by decide +kernel
theorem dX1_tryToEnter_1 : decode cX1_tryToEnter 1 = .ok (.getfield 18, 3) := by decide +kernel
theorem dX1_tryToEnter_4 : decode cX1_tryToEnter 4 = .ok (.ifCond .ne 19, 3) := by decide +kernel
theorem dX1_tryToEnter_7 : decode cX1_tryToEnter 7 = .ok (.aload_n 0, 1) := by decide +kernel
theorem dX1_tryToEnter_8 : decode cX1_tryToEnter 8 = .ok (.getfield 31, 3) := by decide +kernel
theorem dX1_tryToEnter_11 : decode cX1_tryToEnter 11 = .ok (.iload_n 1, 1) := by decide +kernel
theorem dX1_tryToEnter_12 : decode cX1_tryToEnter 12 = .ok (.iaload, 1) := by decide +kernel
theorem dX1_tryToEnter_13 : decode cX1_tryToEnter 13 = .ok (.iconst 1, 1) := by decide +kernel
theorem dX1_tryToEnter_14 : decode cX1_tryToEnter 14 = .ok (.if_icmp .ne 8, 3) := by decide +kernel
theorem dX1_tryToEnter_17 : decode cX1_tryToEnter 17 = .ok (.aload_n 0, 1) := by decide +kernel
theorem dX1_tryToEnter_18 : decode cX1_tryToEnter 18 = .ok (.iload_n 1, 1) := by decide +kernel
theorem dX1_tryToEnter_19 : decode cX1_tryToEnter 19 = .ok (.invokevirtual 99, 3) := by decide +kernel
theorem dX1_tryToEnter_22 : decode cX1_tryToEnter 22 = .ok (.return_, 1) := by decide +kernel
theorem dX1_tryToEnter_23 : decode cX1_tryToEnter 23 = .ok (.aload_n 0, 1) := by decide +kernel
theorem dX1_tryToEnter_24 : decode cX1_tryToEnter 24 = .ok (.iload_n 1, 1) := by decide +kernel
theorem dX1_tryToEnter_25 : decode cX1_tryToEnter 25 = .ok (.invokevirtual 102, 3) := by decide +kernel
theorem dX1_tryToEnter_28 : decode cX1_tryToEnter 28 = .ok (.ifCond .eq 41, 3) := by decide +kernel
theorem dX1_tryToEnter_31 : decode cX1_tryToEnter 31 = .ok (.aload_n 0, 1) := by decide +kernel
theorem dX1_tryToEnter_32 : decode cX1_tryToEnter 32 = .ok (.getfield 43, 3) := by decide +kernel
theorem dX1_tryToEnter_35 : decode cX1_tryToEnter 35 = .ok (.iload_n 1, 1) := by decide +kernel
theorem dX1_tryToEnter_36 : decode cX1_tryToEnter 36 = .ok (.aload_n 0, 1) := by decide +kernel
theorem dX1_tryToEnter_37 : decode cX1_tryToEnter 37 = .ok (.getfield 43, 3) := by decide +kernel
theorem dX1_tryToEnter_40 : decode cX1_tryToEnter 40 = .ok (.iload_n 1, 1) := by decide +kernel
theorem dX1_tryToEnter_41 : decode cX1_tryToEnter 41 = .ok (.iaload, 1) := by decide +kernel
theorem dX1_tryToEnter_42 : decode cX1_tryToEnter 42 = .ok (.iconst 1, 1) := by decide +kernel
theorem dX1_tryToEnter_43 : decode cX1_tryToEnter 43 = .ok (.iadd, 1) := by decide +kernel
theorem dX1_tryToEnter_44 : decode cX1_tryToEnter 44 = .ok (.sipush 999, 3) := by decide +kernel
theorem dX1_tryToEnter_47 : decode cX1_tryToEnter 47 = .ok (.invokestatic 106, 3) := by decide +kernel
theorem dX1_tryToEnter_50 : decode cX1_tryToEnter 50 = .ok (.iastore, 1) := by decide +kernel
theorem dX1_tryToEnter_51 : decode cX1_tryToEnter 51 = .ok (.aload_n 0, 1) := by decide +kernel
theorem dX1_tryToEnter_52 : decode cX1_tryToEnter 52 = .ok (.getfield 31, 3) := by decide +kernel
theorem dX1_tryToEnter_55 : decode cX1_tryToEnter 55 = .ok (.iload_n 1, 1) := by decide +kernel
theorem dX1_tryToEnter_56 : decode cX1_tryToEnter 56 = .ok (.iaload, 1) := by decide +kernel
theorem dX1_tryToEnter_57 : decode cX1_tryToEnter 57 = .ok (.ifCond .ne 12, 3) := by decide +kernel
theorem dX1_tryToEnter_60 : decode cX1_tryToEnter 60 = .ok (.aload_n 0, 1) := by decide +kernel
theorem dX1_tryToEnter_61 : decode cX1_tryToEnter 61 = .ok (.getfield 37, 3) := by decide +kernel
theorem dX1_tryToEnter_64 : decode cX1_tryToEnter 64 = .ok (.iload_n 1, 1) := by decide +kernel
theorem dX1_tryToEnter_65 : decode cX1_tryToEnter 65 = .ok (.bipush 99, 2) := by decide +kernel
theorem dX1_tryToEnter_67 : decode cX1_tryToEnter 67 = .ok (.iastore, 1) := by decide +kernel
theorem dX1_tryToEnter_68 : decode cX1_tryToEnter 68 = .ok (.return_, 1) := by decide +kernel
theorem dX1_tryToEnter_69 : decode cX1_tryToEnter 69 = .ok (.aload_n 0, 1) := by decide +kernel
theorem dX1_tryToEnter_70 : decode cX1_tryToEnter 70 = .ok (.iload_n 1, 1) := by decide +kernel
theorem dX1_tryToEnter_71 : decode cX1_tryToEnter 71 = .ok (.invokevirtual 99, 3) := by decide +kernel
theorem dX1_tryToEnter_74 : decode cX1_tryToEnter 74 = .ok (.return_, 1) := by decide +kernel
set_option maxRecDepth 20000 in
theorem ggX1_isAskedByHolder_X1_isAsking : GoodIn wsX1_isAskedByHolder wsX1_isAsking := goodIn_r _ [7, 8, 9, 10, 11, 12, 13, 14, 15, 16, 17, 18, 19, 20, 21, 22, 23, 24, 25] (by decide +kernel) (by decide +kernel)
set_option maxRecDepth 20000 in
theorem gX1_isAskedByHolder_X1_isAsking : GoodIn wsX1_isAskedByHolder (wsV RX1 109 RX1 yX1_isAsking wsX1_isAsking) := goodIn_app (goodIn_of _ (by decide +kernel)) ggX1_isAskedByHolder_X1_isAsking
theorem dX1_isAskedByHolder_0 : decode cX1_isAskedByHolder 0 = .ok (.aload_n 0, 1) := by decide +kernel
theorem dX1_isAskedByHolder_1 : decode cX1_isAskedByHolder 1 = .ok (.getfield 21, 3) := by decide +kernel
theorem dX1_isAskedByHolder_4 : decode cX1_isAskedByHolder 4 = .ok (.ifCond .lt 30, 3) := by decide +kernel
theorem dX1_isAskedByHolder_7 : decode cX1_isAskedByHolder 7 = .ok (.aload_n 0, 1) := by decide +kernel
theorem dX1_isAskedByHolder_8 : decode cX1_isAskedByHolder 8 = .ok (.getfield 21, 3) := by decide +kernel
theorem dX1_isAskedByHolder_11 : decode cX1_isAskedByHolder 11 = .ok (.aload_n 0, 1) := by decide +kernel
theorem dX1_isAskedByHolder_12 : decode cX1_isAskedByHolder 12 = .ok (.getfield 24, 3) := by decide +kernel
theorem dX1_isAskedByHolder_15 : decode cX1_isAskedByHolder 15 = .ok (.if_icmp .ge 19, 3) := by decide +kernel
theorem dX1_isAskedByHolder_18 : decode cX1_isAskedByHolder 18 = .ok (.aload_n 0, 1) := by decide +kernel
theorem dX1_isAskedByHolder_19 : decode cX1_isAskedByHolder 19 = .ok (.aload_n 0, 1) := by decide +kernel
theorem dX1_isAskedByHolder_20 : decode cX1_isAskedByHolder 20 = .ok (.getfield 21, 3) := by decide +kernel
theorem dX1_isAskedByHolder_23 : decode cX1_isAskedByHolder 23 = .ok (.iload_n 1, 1) := by decide +kernel
theorem dX1_isAskedByHolder_24 : decode cX1_isAskedByHolder 24 = .ok (.invokevirtual 109, 3) := by decide +kernel
theorem dX1_isAskedByHolder_27 : decode cX1_isAskedByHolder 27 = .ok (.ifCond .eq 7, 3) := by decide +kernel
theorem dX1_isAskedByHolder_30 : decode cX1_isAskedByHolder 30 = .ok (.iconst 1, 1) := by decide +kernel
theorem dX1_isAskedByHolder_31 : decode cX1_isAskedByHolder 31 = .ok (.goto 4, 3) := by decide +kernel
theorem dX1_isAskedByHolder_34 : decode cX1_isAskedByHolder 34 = .ok (.iconst 0, 1) := by decide +kernel
theorem dX1_isAskedByHolder_35 : decode cX1_isAskedByHolder 35 = .ok (.ireturn, 1) := by decide +kernel
set_option maxRecDepth 20000 in
theorem ggX1_comeIn_X1_nearestOutside : GoodIn wsX1_comeIn wsX1_nearestOutside := goodIn_r _ [15, 16, 1, 17, 29, 30, 31, 32, 33, 34, 35, 36, 37, 38, 39] (by decide +kernel) (by decide +kernel)
set_option maxRecDepth 20000 in
theorem gX1_comeIn_X1_nearestOutside : GoodIn wsX1_comeIn (wsV RX1 113 RX1 yX1_nearestOutside wsX1_nearestOutside) := goodIn_app (goodIn_of _ (by decide +kernel)) ggX1_comeIn_X1_nearestOutside
set_option maxRecDepth 20000 in
theorem ggX1_comeIn_X1_holdsFor : GoodIn wsX1_comeIn wsX1_holdsFor := goodIn_r _ [21, 22, 17, 23, 24, 25, 26, 27, 28, 29, 30, 31, 32, 33, 34, 35, 36, 37, 38, 39] (by decide +kernel) (by decide +kernel)
set_option maxRecDepth 20000 in
theorem gX1_comeIn_X1_holdsFor : GoodIn wsX1_comeIn (wsV RX1 116 RX1 yX1_holdsFor wsX1_holdsFor) := goodIn_app (goodIn_of _ (by decide +kernel)) ggX1_comeIn_X1_holdsFor
theorem dX1_comeIn_0 : decode cX1_comeIn 0 = .ok (.aload_n 0, 1) := by decide +kernel
theorem dX1_comeIn_1 : decode cX1_comeIn 1 = .ok (.getfield 40, 3) := by decide +kernel
theorem dX1_comeIn_4 : decode cX1_comeIn 4 = .ok (.iload_n 1, 1) := by decide +kernel
theorem dX1_comeIn_5 : decode cX1_comeIn 5 = .ok (.iconst 1, 1) := by decide +kernel
theorem dX1_comeIn_6 : decode cX1_comeIn 6 = .ok (.iastore, 1) := by decide +kernel
theorem dX1_comeIn_7 : decode cX1_comeIn 7 = .ok (.aload_n 0, 1) := by decide +kernel
theorem dX1_comeIn_8 : decode cX1_comeIn 8 = .ok (.iload_n 1, 1) := by decide +kernel
theorem dX1_comeIn_9 : decode cX1_comeIn 9 = .ok (.putfield 21, 3) := by decide +kernel
theorem dX1_comeIn_12 : decode cX1_comeIn 12 = .ok (.aload_n 0, 1) := by decide +kernel
theorem dX1_comeIn_13 : decode cX1_comeIn 13 = .ok (.invokevirtual 113, 3) := by decide +kernel
theorem dX1_comeIn_16 : decode cX1_comeIn 16 = .ok (.istore_n 2, 1) := by decide +kernel
theorem dX1_comeIn_17 : decode cX1_comeIn 17 = .ok (.iload_n 2, 1) := by decide +kernel
theorem dX1_comeIn_18 : decode cX1_comeIn 18 = .ok (.ifCond .ge 7, 3) := by decide +kernel
theorem dX1_comeIn_21 : decode cX1_comeIn 21 = .ok (.iconst 0, 1) := by decide +kernel
theorem dX1_comeIn_22 : decode cX1_comeIn 22 = .ok (.goto 9, 3) := by decide +kernel
theorem dX1_comeIn_25 : decode cX1_comeIn 25 = .ok (.aload_n 0, 1) := by decide +kernel
theorem dX1_comeIn_26 : decode cX1_comeIn 26 = .ok (.iload_n 1, 1) := by decide +kernel
theorem dX1_comeIn_27 : decode cX1_comeIn 27 = .ok (.iload_n 2, 1) := by decide +kernel
theorem dX1_comeIn_28 : decode cX1_comeIn 28 = .ok (.invokevirtual 116, 3) := by decide +kernel
theorem dX1_comeIn_31 : decode cX1_comeIn 31 = .ok (.istore_n 3, 1) := by decide +kernel
theorem dX1_comeIn_32 : decode cX1_comeIn 32 = .ok (.aload_n 0, 1) := by decide +kernel
theorem dX1_comeIn_33 : decode cX1_comeIn 33 = .ok (.aload_n 0, 1) := by decide +kernel
theorem dX1_comeIn_34 : decode cX1_comeIn 34 = .ok (.getfield 18, 3) := by decide +kernel
theorem dX1_comeIn_37 : decode cX1_comeIn 37 = .ok (.iload_n 3, 1) := by decide +kernel
theorem dX1_comeIn_38 : decode cX1_comeIn 38 = .ok (.invokestatic 93, 3) := by decide +kernel
theorem dX1_comeIn_41 : decode cX1_comeIn 41 = .ok (.bipush 60, 2) := by decide +kernel
theorem dX1_comeIn_43 : decode cX1_comeIn 43 = .ok (.invokestatic 106, 3) := by decide +kernel
theorem dX1_comeIn_46 : decode cX1_comeIn 46 = .ok (.putfield 18, 3) := by decide +kernel
theorem dX1_comeIn_49 : decode cX1_comeIn 49 = .ok (.return_, 1) := by decide +kernel
theorem dX1_nearestOutside_0 : decode cX1_nearestOutside 0 = .ok (.iconst (-1), 1) := by decide +kernel
theorem dX1_nearestOutside_1 : decode cX1_nearestOutside 1 = .ok (.istore_n 1, 1) := by decide +kernel
theorem dX1_nearestOutside_2 : decode cX1_nearestOutside 2 = .ok (.sipush 1000, 3) := by decide +kernel
theorem dX1_nearestOutside_5 : decode cX1_nearestOutside 5 = .ok (.istore_n 2, 1) := by decide +kernel
theorem dX1_nearestOutside_6 : decode cX1_nearestOutside 6 = .ok (.iconst 0, 1) := by decide +kernel
theorem dX1_nearestOutside_7 : decode cX1_nearestOutside 7 = .ok (.istore_n 3, 1) := by decide +kernel
theorem dX1_nearestOutside_8 : decode cX1_nearestOutside 8 = .ok (.iload_n 3, 1) := by decide +kernel
theorem dX1_nearestOutside_9 : decode cX1_nearestOutside 9 = .ok (.aload_n 0, 1) := by decide +kernel
theorem dX1_nearestOutside_10 : decode cX1_nearestOutside 10 = .ok (.getfield 24, 3) := by decide +kernel
theorem dX1_nearestOutside_13 : decode cX1_nearestOutside 13 = .ok (.if_icmp .ge 37, 3) := by decide +kernel
theorem dX1_nearestOutside_16 : decode cX1_nearestOutside 16 = .ok (.aload_n 0, 1) := by decide +kernel
theorem dX1_nearestOutside_17 : decode cX1_nearestOutside 17 = .ok (.getfield 40, 3) := by decide +kernel
theorem dX1_nearestOutside_20 : decode cX1_nearestOutside 20 = .ok (.iload_n 3, 1) := by decide +kernel
theorem dX1_nearestOutside_21 : decode cX1_nearestOutside 21 = .ok (.iaload, 1) := by decide +kernel
theorem dX1_nearestOutside_22 : decode cX1_nearestOutside 22 = .ok (.ifCond .ne 22, 3) := by decide +kernel
theorem dX1_nearestOutside_25 : decode cX1_nearestOutside 25 = .ok (.aload_n 0, 1) := by decide +kernel
theorem dX1_nearestOutside_26 : decode cX1_nearestOutside 26 = .ok (.getfield 37, 3) := by decide +kernel
theorem dX1_nearestOutside_29 : decode cX1_nearestOutside 29 = .ok (.iload_n 3, 1) := by decide +kernel
theorem dX1_nearestOutside_30 : decode cX1_nearestOutside 30 = .ok (.iaload, 1) := by decide +kernel
theorem dX1_nearestOutside_31 : decode cX1_nearestOutside 31 = .ok (.iload_n 2, 1) := by decide +kernel
theorem dX1_nearestOutside_32 : decode cX1_nearestOutside 32 = .ok (.if_icmp .ge 12, 3) := by decide +kernel
theorem dX1_nearestOutside_35 : decode cX1_nearestOutside 35 = .ok (.aload_n 0, 1) := by decide +kernel
theorem dX1_nearestOutside_36 : decode cX1_nearestOutside 36 = .ok (.getfield 37, 3) := by decide +kernel
theorem dX1_nearestOutside_39 : decode cX1_nearestOutside 39 = .ok (.iload_n 3, 1) := by decide +kernel
theorem dX1_nearestOutside_40 : decode cX1_nearestOutside 40 = .ok (.iaload, 1) := by decide +kernel
theorem dX1_nearestOutside_41 : decode cX1_nearestOutside 41 = .ok (.istore_n 2, 1) := by decide +kernel
theorem dX1_nearestOutside_42 : decode cX1_nearestOutside 42 = .ok (.iload_n 3, 1) := by decide +kernel
theorem dX1_nearestOutside_43 : decode cX1_nearestOutside 43 = .ok (.istore_n 1, 1) := by decide +kernel
theorem dX1_nearestOutside_44 : decode cX1_nearestOutside 44 = .ok (.iinc 3 1, 3) := by decide +kernel
theorem dX1_nearestOutside_47 : decode cX1_nearestOutside 47 = .ok (.goto (-39), 3) := by decide +kernel
theorem dX1_nearestOutside_50 : decode cX1_nearestOutside 50 = .ok (.iload_n 1, 1) := by decide +kernel
theorem dX1_nearestOutside_51 : decode cX1_nearestOutside 51 = .ok (.ireturn, 1) := by decide +kernel
set_option maxRecDepth 20000 in
theorem ggX1_firstIn_X1_isAtRest : GoodIn wsX1_firstIn wsX1_isAtRest := goodIn_r _ [6, 7, 8, 1, 9, 10, 73, 74, 75, 76, 77, 78, 79, 80, 81, 82, 83] (by decide +kernel) (by decide +kernel)
set_option maxRecDepth 20000 in
theorem gX1_firstIn_X1_isAtRest : GoodIn wsX1_firstIn (wsV RX1 76 RX1 yX1_isAtRest wsX1_isAtRest) := goodIn_app (goodIn_of _ (by decide +kernel)) ggX1_firstIn_X1_isAtRest
set_option maxRecDepth 20000 in
theorem ggX1_firstIn_X1_goOneSecond : GoodIn wsX1_firstIn wsX1_goOneSecond := goodIn_r _ [14, 8, 1, 9, 7, 15, 16, 17, 5, 18, 19, 20, 21, 22, 23, 24, 25, 26, 27, 28, 29, 30, 31, 32, 33, 34, 35, 36, 37, 38, 39, 40, 10, 41, 42, 43, 44, 45, 46, 47, 48, 49, 50, 51, 52, 53, 54, 55, 56, 57, 58, 59, 60, 61, 62, 63, 64, 65, 66, 67, 68, 69, 70, 71, 72, 73, 74, 75, 76, 77, 78, 79, 80, 81, 82, 83] (by decide +kernel) (by decide +kernel)
set_option maxRecDepth 20000 in
theorem gX1_firstIn_X1_goOneSecond : GoodIn wsX1_firstIn (wsV RX1 80 RX1 yX1_goOneSecond wsX1_goOneSecond) := goodIn_app (goodIn_of _ (by decide +kernel)) ggX1_firstIn_X1_goOneSecond
theorem dX1_firstIn_0 : decode cX1_firstIn 0 = .ok (.iconst 0, 1) := by decide +kernel
theorem dX1_firstIn_1 : decode cX1_firstIn 1 = .ok (.istore_n 3, 1) := by decide +kernel
theorem dX1_firstIn_2 : decode cX1_firstIn 2 = .ok (.iload_n 3, 1) := by decide +kernel
theorem dX1_firstIn_3 : decode cX1_firstIn 3 = .ok (.iload_n 2, 1) := by decide +kernel
theorem dX1_firstIn_4 : decode cX1_firstIn 4 = .ok (.if_icmp .gt 34, 3) := by decide +kernel
theorem dX1_firstIn_7 : decode cX1_firstIn 7 = .ok (.aload_n 0, 1) := by decide +kernel
theorem dX1_firstIn_8 : decode cX1_firstIn 8 = .ok (.getfield 40, 3) := by decide +kernel
theorem dX1_firstIn_11 : decode cX1_firstIn 11 = .ok (.iload_n 1, 1) := by decide +kernel
theorem dX1_firstIn_12 : decode cX1_firstIn 12 = .ok (.iaload, 1) := by decide +kernel
theorem dX1_firstIn_13 : decode cX1_firstIn 13 = .ok (.iconst 1, 1) := by decide +kernel
theorem dX1_firstIn_14 : decode cX1_firstIn 14 = .ok (.if_icmp .ne 5, 3) := by decide +kernel
theorem dX1_firstIn_17 : decode cX1_firstIn 17 = .ok (.iload_n 3, 1) := by decide +kernel
theorem dX1_firstIn_18 : decode cX1_firstIn 18 = .ok (.ireturn, 1) := by decide +kernel
theorem dX1_firstIn_19 : decode cX1_firstIn 19 = .ok (.aload_n 0, 1) := by decide +kernel
theorem dX1_firstIn_20 : decode cX1_firstIn 20 = .ok (.invokevirtual 76, 3) := by decide +kernel
theorem dX1_firstIn_23 : decode cX1_firstIn 23 = .ok (.ifCond .eq 5, 3) := by decide +kernel
theorem dX1_firstIn_26 : decode cX1_firstIn 26 = .ok (.iconst (-1), 1) := by decide +kernel
theorem dX1_firstIn_27 : decode cX1_firstIn 27 = .ok (.ireturn, 1) := by decide +kernel
theorem dX1_firstIn_28 : decode cX1_firstIn 28 = .ok (.aload_n 0, 1) := by decide +kernel
theorem dX1_firstIn_29 : decode cX1_firstIn 29 = .ok (.invokevirtual 80, 3) := by decide +kernel
theorem dX1_firstIn_32 : decode cX1_firstIn 32 = .ok (.iinc 3 1, 3) := by decide +kernel
theorem dX1_firstIn_35 : decode cX1_firstIn 35 = .ok (.goto (-33), 3) := by decide +kernel
theorem dX1_firstIn_38 : decode cX1_firstIn 38 = .ok (.iconst (-1), 1) := by decide +kernel
theorem dX1_firstIn_39 : decode cX1_firstIn 39 = .ok (.ireturn, 1) := by decide +kernel
set_option maxRecDepth 20000 in
theorem ggX1_firstShut_X1_goOneSecond : GoodIn wsX1_firstShut wsX1_goOneSecond := goodIn_r _ [6, 7, 8, 9, 1, 10, 11, 12, 5, 13, 14, 15, 16, 17, 18, 19, 20, 21, 22, 23, 24, 25, 26, 27, 28, 29, 30, 31, 32, 33, 34, 35, 36, 37, 38, 39, 40, 41, 42, 43, 44, 45, 46, 47, 48, 49, 50, 51, 52, 53, 54, 55, 56, 57, 58, 59, 60, 61, 62, 63, 64, 65, 66, 67, 68, 69, 70, 71, 72, 73, 74, 75, 76, 77, 78, 79] (by decide +kernel) (by decide +kernel)
set_option maxRecDepth 20000 in
theorem gX1_firstShut_X1_goOneSecond : GoodIn wsX1_firstShut (wsV RX1 80 RX1 yX1_goOneSecond wsX1_goOneSecond) := goodIn_app (goodIn_of _ (by decide +kernel)) ggX1_firstShut_X1_goOneSecond
theorem dX1_firstShut_0 : decode cX1_firstShut 0 = .ok (.iconst 0, 1) := by decide +kernel
theorem dX1_firstShut_1 : decode cX1_firstShut 1 = .ok (.istore_n 2, 1) := by decide +kernel
theorem dX1_firstShut_2 : decode cX1_firstShut 2 = .ok (.iload_n 2, 1) := by decide +kernel
theorem dX1_firstShut_3 : decode cX1_firstShut 3 = .ok (.iload_n 1, 1) := by decide +kernel
theorem dX1_firstShut_4 : decode cX1_firstShut 4 = .ok (.if_icmp .gt 22, 3) := by decide +kernel
theorem dX1_firstShut_7 : decode cX1_firstShut 7 = .ok (.aload_n 0, 1) := by decide +kernel
theorem dX1_firstShut_8 : decode cX1_firstShut 8 = .ok (.getfield 18, 3) := by decide +kernel
theorem dX1_firstShut_11 : decode cX1_firstShut 11 = .ok (.ifCond .ne 5, 3) := by decide +kernel
theorem dX1_firstShut_14 : decode cX1_firstShut 14 = .ok (.iload_n 2, 1) := by decide +kernel
theorem dX1_firstShut_15 : decode cX1_firstShut 15 = .ok (.ireturn, 1) := by decide +kernel
theorem dX1_firstShut_16 : decode cX1_firstShut 16 = .ok (.aload_n 0, 1) := by decide +kernel
theorem dX1_firstShut_17 : decode cX1_firstShut 17 = .ok (.invokevirtual 80, 3) := by decide +kernel
theorem dX1_firstShut_20 : decode cX1_firstShut 20 = .ok (.iinc 2 1, 3) := by decide +kernel
theorem dX1_firstShut_23 : decode cX1_firstShut 23 = .ok (.goto (-21), 3) := by decide +kernel
theorem dX1_firstShut_26 : decode cX1_firstShut 26 = .ok (.iconst (-1), 1) := by decide +kernel
theorem dX1_firstShut_27 : decode cX1_firstShut 27 = .ok (.ireturn, 1) := by decide +kernel
set_option maxRecDepth 20000 in
theorem ggX1_firstAllIn_X1_sumOf : GoodIn wsX1_firstAllIn wsX1_sumOf := goodIn_r _ [7, 2, 77, 78, 79, 80, 81, 82, 83, 84, 85, 86, 87] (by decide +kernel) (by decide +kernel)
set_option maxRecDepth 20000 in
theorem gX1_firstAllIn_X1_sumOf : GoodIn wsX1_firstAllIn (wsV RX1 119 RX1 yX1_sumOf wsX1_sumOf) := goodIn_app (goodIn_of _ (by decide +kernel)) ggX1_firstAllIn_X1_sumOf
set_option maxRecDepth 20000 in
theorem ggX1_firstAllIn_X1_isAtRest : GoodIn wsX1_firstAllIn wsX1_isAtRest := goodIn_r _ [11, 12, 2, 1, 13, 14, 77, 78, 79, 80, 81, 82, 83, 84, 85, 86, 87] (by decide +kernel) (by decide +kernel)
set_option maxRecDepth 20000 in
theorem gX1_firstAllIn_X1_isAtRest : GoodIn wsX1_firstAllIn (wsV RX1 76 RX1 yX1_isAtRest wsX1_isAtRest) := goodIn_app (goodIn_of _ (by decide +kernel)) ggX1_firstAllIn_X1_isAtRest
set_option maxRecDepth 20000 in
theorem ggX1_firstAllIn_X1_goOneSecond : GoodIn wsX1_firstAllIn wsX1_goOneSecond := goodIn_r _ [18, 2, 1, 13, 12, 19, 20, 21, 6, 22, 23, 24, 25, 26, 27, 28, 29, 30, 31, 32, 33, 34, 35, 36, 37, 38, 39, 40, 41, 42, 43, 44, 14, 45, 46, 47, 48, 49, 50, 51, 52, 53, 54, 55, 56, 57, 58, 59, 60, 61, 62, 63, 64, 65, 66, 67, 68, 69, 70, 71, 72, 73, 74, 75, 76, 77, 78, 79, 80, 81, 82, 83, 84, 85, 86, 87] (by decide +kernel) (by decide +kernel)
set_option maxRecDepth 20000 in
theorem gX1_firstAllIn_X1_goOneSecond : GoodIn wsX1_firstAllIn (wsV RX1 80 RX1 yX1_goOneSecond wsX1_goOneSecond) := goodIn_app (goodIn_of _ (by decide +kernel)) ggX1_firstAllIn_X1_goOneSecond
theorem dX1_firstAllIn_0 : decode cX1_firstAllIn 0 = .ok (.iconst 0, 1) := by decide +kernel
theorem dX1_firstAllIn_1 : decode cX1_firstAllIn 1 = .ok (.istore_n 2, 1) := by decide +kernel
theorem dX1_firstAllIn_2 : decode cX1_firstAllIn 2 = .ok (.iload_n 2, 1) := by decide +kernel
theorem dX1_firstAllIn_3 : decode cX1_firstAllIn 3 = .ok (.iload_n 1, 1) := by decide +kernel
theorem dX1_firstAllIn_4 : decode cX1_firstAllIn 4 = .ok (.if_icmp .gt 39, 3) := by decide +kernel
theorem dX1_firstAllIn_7 : decode cX1_firstAllIn 7 = .ok (.aload_n 0, 1) := by decide +kernel
theorem dX1_firstAllIn_8 : decode cX1_firstAllIn 8 = .ok (.aload_n 0, 1) := by decide +kernel
theorem dX1_firstAllIn_9 : decode cX1_firstAllIn 9 = .ok (.getfield 40, 3) := by decide +kernel
theorem dX1_firstAllIn_12 : decode cX1_firstAllIn 12 = .ok (.invokevirtual 119, 3) := by decide +kernel
theorem dX1_firstAllIn_15 : decode cX1_firstAllIn 15 = .ok (.aload_n 0, 1) := by decide +kernel
theorem dX1_firstAllIn_16 : decode cX1_firstAllIn 16 = .ok (.getfield 24, 3) := by decide +kernel
theorem dX1_firstAllIn_19 : decode cX1_firstAllIn 19 = .ok (.if_icmp .ne 5, 3) := by decide +kernel
theorem dX1_firstAllIn_22 : decode cX1_firstAllIn 22 = .ok (.iload_n 2, 1) := by decide +kernel
theorem dX1_firstAllIn_23 : decode cX1_firstAllIn 23 = .ok (.ireturn, 1) := by decide +kernel
theorem dX1_firstAllIn_24 : decode cX1_firstAllIn 24 = .ok (.aload_n 0, 1) := by decide +kernel
theorem dX1_firstAllIn_25 : decode cX1_firstAllIn 25 = .ok (.invokevirtual 76, 3) := by decide +kernel
theorem dX1_firstAllIn_28 : decode cX1_firstAllIn 28 = .ok (.ifCond .eq 5, 3) := by decide +kernel
theorem dX1_firstAllIn_31 : decode cX1_firstAllIn 31 = .ok (.iconst (-1), 1) := by decide +kernel
theorem dX1_firstAllIn_32 : decode cX1_firstAllIn 32 = .ok (.ireturn, 1) := by decide +kernel
theorem dX1_firstAllIn_33 : decode cX1_firstAllIn 33 = .ok (.aload_n 0, 1) := by decide +kernel
theorem dX1_firstAllIn_34 : decode cX1_firstAllIn 34 = .ok (.invokevirtual 80, 3) := by decide +kernel
theorem dX1_firstAllIn_37 : decode cX1_firstAllIn 37 = .ok (.iinc 2 1, 3) := by decide +kernel
theorem dX1_firstAllIn_40 : decode cX1_firstAllIn 40 = .ok (.goto (-38), 3) := by decide +kernel
theorem dX1_firstAllIn_43 : decode cX1_firstAllIn 43 = .ok (.iconst (-1), 1) := by decide +kernel
theorem dX1_firstAllIn_44 : decode cX1_firstAllIn 44 = .ok (.ireturn, 1) := by decide +kernel
set_option maxRecDepth 20000 in
theorem ggX1_walksAs_X1_goOneSecond : GoodIn wsX1_walksAs wsX1_goOneSecond := goodIn_r _ [8, 9, 10, 3, 11, 12, 13, 14, 7, 15, 16, 17, 18, 19, 20, 21, 22, 23, 24, 25, 26, 27, 28, 29, 30, 31, 32, 33, 34, 35, 36, 37, 38, 39, 40, 41, 42, 43, 44, 45, 46, 47, 48, 49, 50, 51, 52, 53, 54, 55, 56, 57, 58, 59, 60, 61, 62, 63, 64, 65, 66, 67, 68, 69, 70, 74, 75, 76, 77, 78, 79, 80, 81, 82, 83, 84] (by decide +kernel) (by decide +kernel)
set_option maxRecDepth 20000 in
theorem gX1_walksAs_X1_goOneSecond : GoodIn wsX1_walksAs (wsV RX1 80 RX1 yX1_goOneSecond wsX1_goOneSecond) := goodIn_app (goodIn_of _ (by decide +kernel)) ggX1_walksAs_X1_goOneSecond
theorem dX1_walksAs_0 : decode cX1_walksAs 0 = .ok (.iconst 0, 1) := by decide +kernel
theorem dX1_walksAs_1 : decode cX1_walksAs 1 = .ok (.istore_n 3, 1) := by decide +kernel
theorem dX1_walksAs_2 : decode cX1_walksAs 2 = .ok (.iload_n 3, 1) := by decide +kernel
theorem dX1_walksAs_3 : decode cX1_walksAs 3 = .ok (.aload_n 1, 1) := by decide +kernel
theorem dX1_walksAs_4 : decode cX1_walksAs 4 = .ok (.getfield 123, 3) := by decide +kernel
theorem dX1_walksAs_7 : decode cX1_walksAs 7 = .ok (.if_icmp .ge 32, 3) := by decide +kernel
theorem dX1_walksAs_10 : decode cX1_walksAs 10 = .ok (.aload_n 1, 1) := by decide +kernel
theorem dX1_walksAs_11 : decode cX1_walksAs 11 = .ok (.getfield 128, 3) := by decide +kernel
theorem dX1_walksAs_14 : decode cX1_walksAs 14 = .ok (.iload_n 3, 1) := by decide +kernel
theorem dX1_walksAs_15 : decode cX1_walksAs 15 = .ok (.laload, 1) := by decide +kernel
theorem dX1_walksAs_16 : decode cX1_walksAs 16 = .ok (.aload_n 0, 1) := by decide +kernel
theorem dX1_walksAs_17 : decode cX1_walksAs 17 = .ok (.getfield 37, 3) := by decide +kernel
theorem dX1_walksAs_20 : decode cX1_walksAs 20 = .ok (.iload_n 2, 1) := by decide +kernel
theorem dX1_walksAs_21 : decode cX1_walksAs 21 = .ok (.iaload, 1) := by decide +kernel
theorem dX1_walksAs_22 : decode cX1_walksAs 22 = .ok (.i2l, 1) := by decide +kernel
theorem dX1_walksAs_23 : decode cX1_walksAs 23 = .ok (.lcmp, 1) := by decide +kernel
theorem dX1_walksAs_24 : decode cX1_walksAs 24 = .ok (.ifCond .eq 5, 3) := by decide +kernel
theorem dX1_walksAs_27 : decode cX1_walksAs 27 = .ok (.iconst 0, 1) := by decide +kernel
theorem dX1_walksAs_28 : decode cX1_walksAs 28 = .ok (.ireturn, 1) := by decide +kernel
theorem dX1_walksAs_29 : decode cX1_walksAs 29 = .ok (.aload_n 0, 1) := by decide +kernel
theorem dX1_walksAs_30 : decode cX1_walksAs 30 = .ok (.invokevirtual 80, 3) := by decide +kernel
theorem dX1_walksAs_33 : decode cX1_walksAs 33 = .ok (.iinc 3 1, 3) := by decide +kernel
theorem dX1_walksAs_36 : decode cX1_walksAs 36 = .ok (.goto (-34), 3) := by decide +kernel
theorem dX1_walksAs_39 : decode cX1_walksAs 39 = .ok (.iconst 1, 1) := by decide +kernel
theorem dX1_walksAs_40 : decode cX1_walksAs 40 = .ok (.ireturn, 1) := by decide +kernel
theorem dX2_init_0 : decode cX2_init 0 = .ok (.aload_n 0, 1) := by decide +kernel
theorem dX2_init_1 : decode cX2_init 1 = .ok (.invokespecial 3, 3) := by decide +kernel
theorem dX2_init_4 : decode cX2_init 4 = .ok (.aload_n 0, 1) := by decide +kernel
theorem dX2_init_5 : decode cX2_init 5 = .ok (.iconst 0, 1) := by decide +kernel
theorem dX2_init_6 : decode cX2_init 6 = .ok (.putfield 9, 3) := by decide +kernel
theorem dX2_init_9 : decode cX2_init 9 = .ok (.aload_n 0, 1) := by decide +kernel
theorem dX2_init_10 : decode cX2_init 10 = .ok (.iconst 0, 1) := by decide +kernel
theorem dX2_init_11 : decode cX2_init 11 = .ok (.putfield 15, 3) := by decide +kernel
theorem dX2_init_14 : decode cX2_init 14 = .ok (.aload_n 0, 1) := by decide +kernel
theorem dX2_init_15 : decode cX2_init 15 = .ok (.bipush 40, 2) := by decide +kernel
theorem dX2_init_17 : decode cX2_init 17 = .ok (.newarray .long, 2) := by decide +kernel
theorem dX2_init_19 : decode cX2_init 19 = .ok (.putfield 18, 3) := by decide +kernel
theorem dX2_init_22 : decode cX2_init 22 = .ok (.return_, 1) := by decide +kernel
theorem dX2_isWidth_0 : decode cX2_isWidth 0 = .ok (.iload_n 0, 1) := by decide +kernel
theorem dX2_isWidth_1 : decode cX2_isWidth 1 = .ok (.ifCond .eq 21, 3) := by decide +kernel
theorem dX2_isWidth_4 : decode cX2_isWidth 4 = .ok (.iload_n 0, 1) := by decide +kernel
theorem dX2_isWidth_5 : decode cX2_isWidth 5 = .ok (.bipush 8, 2) := by decide +kernel
theorem dX2_isWidth_7 : decode cX2_isWidth 7 = .ok (.if_icmp .eq 15, 3) := by decide +kernel
theorem dX2_isWidth_10 : decode cX2_isWidth 10 = .ok (.iload_n 0, 1) := by decide +kernel
theorem dX2_isWidth_11 : decode cX2_isWidth 11 = .ok (.bipush 16, 2) := by decide +kernel
theorem dX2_isWidth_13 : decode cX2_isWidth 13 = .ok (.if_icmp .eq 9, 3) := by decide +kernel
theorem dX2_isWidth_16 : decode cX2_isWidth 16 = .ok (.iload_n 0, 1) := by decide +kernel
theorem dX2_isWidth_17 : decode cX2_isWidth 17 = .ok (.bipush 64, 2) := by decide +kernel
theorem dX2_isWidth_19 : decode cX2_isWidth 19 = .ok (.if_icmp .ne 7, 3) := by decide +kernel
theorem dX2_isWidth_22 : decode cX2_isWidth 22 = .ok (.iconst 1, 1) := by decide +kernel
theorem dX2_isWidth_23 : decode cX2_isWidth 23 = .ok (.goto 4, 3) := by decide +kernel
theorem dX2_isWidth_26 : decode cX2_isWidth 26 = .ok (.iconst 0, 1) := by decide +kernel
theorem dX2_isWidth_27 : decode cX2_isWidth 27 = .ok (.ireturn, 1) := by decide +kernel
theorem dX2_isMissing_0 : decode cX2_isMissing 0 = .ok (.aload_n 0, 1) := by decide +kernel
theorem dX2_isMissing_1 : decode cX2_isMissing 1 = .ok (.getfield 9, 3) := by decide +kernel
theorem dX2_isMissing_4 : decode cX2_isMissing 4 = .ok (.ifCond .ne 7, 3) := by decide +kernel
theorem dX2_isMissing_7 : decode cX2_isMissing 7 = .ok (.iconst 1, 1) := by decide +kernel
theorem dX2_isMissing_8 : decode cX2_isMissing 8 = .ok (.goto 4, 3) := by decide +kernel
theorem dX2_isMissing_11 : decode cX2_isMissing 11 = .ok (.iconst 0, 1) := by decide +kernel
theorem dX2_isMissing_12 : decode cX2_isMissing 12 = .ok (.ireturn, 1) := by decide +kernel
theorem dX2_renew_0 : decode cX2_renew 0 = .ok (.aload_n 0, 1) := by decide +kernel
theorem dX2_renew_1 : decode cX2_renew 1 = .ok (.iload_n 1, 1) := by decide +kernel
theorem dX2_renew_2 : decode cX2_renew 2 = .ok (.putfield 9, 3) := by decide +kernel
theorem dX2_renew_5 : decode cX2_renew 5 = .ok (.aload_n 0, 1) := by decide +kernel
theorem dX2_renew_6 : decode cX2_renew 6 = .ok (.iload_n 1, 1) := by decide +kernel
theorem dX2_renew_7 : decode cX2_renew 7 = .ok (.ifCond .ne 7, 3) := by decide +kernel
theorem dX2_renew_10 : decode cX2_renew 10 = .ok (.iconst 0, 1) := by decide +kernel
theorem dX2_renew_11 : decode cX2_renew 11 = .ok (.goto 4, 3) := by decide +kernel
theorem dX2_renew_14 : decode cX2_renew 14 = .ok (.iload_n 2, 1) := by decide +kernel
theorem dX2_renew_15 : decode cX2_renew 15 = .ok (.putfield 15, 3) := by decide +kernel
theorem dX2_renew_18 : decode cX2_renew 18 = .ok (.iconst 0, 1) := by decide +kernel
theorem dX2_renew_19 : decode cX2_renew 19 = .ok (.istore_n 3, 1) := by decide +kernel
theorem dX2_renew_20 : decode cX2_renew 20 = .ok (.iload_n 3, 1) := by decide +kernel
theorem dX2_renew_21 : decode cX2_renew 21 = .ok (.bipush 40, 2) := by decide +kernel
theorem dX2_renew_23 : decode cX2_renew 23 = .ok (.if_icmp .ge 16, 3) := by decide +kernel
theorem dX2_renew_26 : decode cX2_renew 26 = .ok (.aload_n 0, 1) := by decide +kernel
theorem dX2_renew_27 : decode cX2_renew 27 = .ok (.getfield 18, 3) := by decide +kernel
theorem dX2_renew_30 : decode cX2_renew 30 = .ok (.iload_n 3, 1) := by decide +kernel
theorem dX2_renew_31 : decode cX2_renew 31 = .ok (.lconst 0, 1) := by decide +kernel
theorem dX2_renew_32 : decode cX2_renew 32 = .ok (.lastore, 1) := by decide +kernel
theorem dX2_renew_33 : decode cX2_renew 33 = .ok (.iinc 3 1, 3) := by decide +kernel
theorem dX2_renew_36 : decode cX2_renew 36 = .ok (.goto (-16), 3) := by decide +kernel
theorem dX2_renew_39 : decode cX2_renew 39 = .ok (.return_, 1) := by decide +kernel
theorem dX2_put_0 : decode cX2_put 0 = .ok (.aload_n 0, 1) := by decide +kernel
theorem dX2_put_1 : decode cX2_put 1 = .ok (.getfield 9, 3) := by decide +kernel
theorem dX2_put_4 : decode cX2_put 4 = .ok (.lookupswitch 54 #[(8, 28), (16, 41)], 28) := by decide +kernel
theorem dX2_put_32 : decode cX2_put 32 = .ok (.aload_n 0, 1) := by decide +kernel
theorem dX2_put_33 : decode cX2_put 33 = .ok (.getfield 18, 3) := by decide +kernel
theorem dX2_put_36 : decode cX2_put 36 = .ok (.iload_n 1, 1) := by decide +kernel
theorem dX2_put_37 : decode cX2_put 37 = .ok (.lload_n 2, 1) := by decide +kernel
theorem dX2_put_38 : decode cX2_put 38 = .ok (.l2i, 1) := by decide +kernel
theorem dX2_put_39 : decode cX2_put 39 = .ok (.i2b, 1) := by decide +kernel
theorem dX2_put_40 : decode cX2_put 40 = .ok (.i2l, 1) := by decide +kernel
theorem dX2_put_41 : decode cX2_put 41 = .ok (.lastore, 1) := by decide +kernel
theorem dX2_put_42 : decode cX2_put 42 = .ok (.goto 23, 3) := by decide +kernel
theorem dX2_put_45 : decode cX2_put 45 = .ok (.aload_n 0, 1) := by decide +kernel
theorem dX2_put_46 : decode cX2_put 46 = .ok (.getfield 18, 3) := by decide +kernel
theorem dX2_put_49 : decode cX2_put 49 = .ok (.iload_n 1, 1) := by decide +kernel
theorem dX2_put_50 : decode cX2_put 50 = .ok (.lload_n 2, 1) := by decide +kernel
theorem dX2_put_51 : decode cX2_put 51 = .ok (.l2i, 1) := by decide +kernel
theorem dX2_put_52 : decode cX2_put 52 = .ok (.i2s, 1) := by decide +kernel
theorem dX2_put_53 : decode cX2_put 53 = .ok (.i2l, 1) := by decide +kernel
theorem dX2_put_54 : decode cX2_put 54 = .ok (.lastore, 1) := by decide +kernel
theorem dX2_put_55 : decode cX2_put 55 = .ok (.goto 10, 3) := by decide +kernel
theorem dX2_put_58 : decode cX2_put 58 = .ok (.aload_n 0, 1) := by decide +kernel
theorem dX2_put_59 : decode cX2_put 59 = .ok (.getfield 18, 3) := by decide +kernel
theorem dX2_put_62 : decode cX2_put 62 = .ok (.iload_n 1, 1) := by decide +kernel
theorem dX2_put_63 : decode cX2_put 63 = .ok (.lload_n 2, 1) := by decide +kernel
theorem dX2_put_64 : decode cX2_put 64 = .ok (.lastore, 1) := by decide +kernel
theorem dX2_put_65 : decode cX2_put 65 = .ok (.return_, 1) := by decide +kernel
theorem dX2_hasRun_0 : decode cX2_hasRun 0 = .ok (.iload_n 1, 1) := by decide +kernel
theorem dX2_hasRun_1 : decode cX2_hasRun 1 = .ok (.ifCond .lt 29, 3) := by decide +kernel
theorem dX2_hasRun_4 : decode cX2_hasRun 4 = .ok (.iload_n 2, 1) := by decide +kernel
theorem dX2_hasRun_5 : decode cX2_hasRun 5 = .ok (.ifCond .lt 25, 3) := by decide +kernel
theorem dX2_hasRun_8 : decode cX2_hasRun 8 = .ok (.iload_n 2, 1) := by decide +kernel
theorem dX2_hasRun_9 : decode cX2_hasRun 9 = .ok (.aload_n 0, 1) := by decide +kernel
theorem dX2_hasRun_10 : decode cX2_hasRun 10 = .ok (.getfield 15, 3) := by decide +kernel
theorem dX2_hasRun_13 : decode cX2_hasRun 13 = .ok (.if_icmp .gt 17, 3) := by decide +kernel
theorem dX2_hasRun_16 : decode cX2_hasRun 16 = .ok (.iload_n 1, 1) := by decide +kernel
theorem dX2_hasRun_17 : decode cX2_hasRun 17 = .ok (.aload_n 0, 1) := by decide +kernel
theorem dX2_hasRun_18 : decode cX2_hasRun 18 = .ok (.getfield 15, 3) := by decide +kernel
theorem dX2_hasRun_21 : decode cX2_hasRun 21 = .ok (.iload_n 2, 1) := by decide +kernel
theorem dX2_hasRun_22 : decode cX2_hasRun 22 = .ok (.isub, 1) := by decide +kernel
theorem dX2_hasRun_23 : decode cX2_hasRun 23 = .ok (.if_icmp .gt 7, 3) := by decide +kernel
theorem dX2_hasRun_26 : decode cX2_hasRun 26 = .ok (.iconst 1, 1) := by decide +kernel
theorem dX2_hasRun_27 : decode cX2_hasRun 27 = .ok (.goto 4, 3) := by decide +kernel
theorem dX2_hasRun_30 : decode cX2_hasRun 30 = .ok (.iconst 0, 1) := by decide +kernel
theorem dX2_hasRun_31 : decode cX2_hasRun 31 = .ok (.ireturn, 1) := by decide +kernel
theorem dX3_init_0 : decode cX3_init 0 = .ok (.aload_n 0, 1) := by decide +kernel
theorem dX3_init_1 : decode cX3_init 1 = .ok (.invokespecial 3, 3) := by decide +kernel
theorem dX3_init_4 : decode cX3_init 4 = .ok (.aload_n 0, 1) := by decide +kernel
theorem dX3_init_5 : decode cX3_init 5 = .ok (.bipush 120, 2) := by decide +kernel
theorem dX3_init_7 : decode cX3_init 7 = .ok (.newarray .byte, 2) := by decide +kernel
theorem dX3_init_9 : decode cX3_init 9 = .ok (.putfield 9, 3) := by decide +kernel
theorem dX3_init_12 : decode cX3_init 12 = .ok (.aload_n 0, 1) := by decide +kernel
theorem dX3_init_13 : decode cX3_init 13 = .ok (.iconst 0, 1) := by decide +kernel
theorem dX3_init_14 : decode cX3_init 14 = .ok (.putfield 15, 3) := by decide +kernel
theorem dX3_init_17 : decode cX3_init 17 = .ok (.aload_n 0, 1) := by decide +kernel
theorem dX3_init_18 : decode cX3_init 18 = .ok (.iconst 0, 1) := by decide +kernel
theorem dX3_init_19 : decode cX3_init 19 = .ok (.putfield 19, 3) := by decide +kernel
theorem dX3_init_22 : decode cX3_init 22 = .ok (.aload_n 0, 1) := by decide +kernel
theorem dX3_init_23 : decode cX3_init 23 = .ok (.iconst 0, 1) := by decide +kernel
theorem dX3_init_24 : decode cX3_init 24 = .ok (.putfield 22, 3) := by decide +kernel
theorem dX3_init_27 : decode cX3_init 27 = .ok (.aload_n 0, 1) := by decide +kernel
theorem dX3_init_28 : decode cX3_init 28 = .ok (.iconst 0, 1) := by decide +kernel
theorem dX3_init_29 : decode cX3_init 29 = .ok (.putfield 25, 3) := by decide +kernel
theorem dX3_init_32 : decode cX3_init 32 = .ok (.aload_n 0, 1) := by decide +kernel
theorem dX3_init_33 : decode cX3_init 33 = .ok (.iconst 0, 1) := by decide +kernel
theorem dX3_init_34 : decode cX3_init 34 = .ok (.putfield 28, 3) := by decide +kernel
theorem dX3_init_37 : decode cX3_init 37 = .ok (.return_, 1) := by decide +kernel
theorem dX3_append_0 : decode cX3_append 0 = .ok (.iload_n 2, 1) := by decide +kernel
theorem dX3_append_1 : decode cX3_append 1 = .ok (.iconst 1, 1) := by decide +kernel
theorem dX3_append_2 : decode cX3_append 2 = .ok (.isub, 1) := by decide +kernel
theorem dX3_append_3 : decode cX3_append 3 = .ok (.istore_n 3, 1) := by decide +kernel
theorem dX3_append_4 : decode cX3_append 4 = .ok (.iload_n 3, 1) := by decide +kernel
theorem dX3_append_5 : decode cX3_append 5 = .ok (.ifCond .lt 35, 3) := by decide +kernel
theorem dX3_append_8 : decode cX3_append 8 = .ok (.aload_n 0, 1) := by decide +kernel
theorem dX3_append_9 : decode cX3_append 9 = .ok (.getfield 9, 3) := by decide +kernel
theorem dX3_append_12 : decode cX3_append 12 = .ok (.aload_n 0, 1) := by decide +kernel
theorem dX3_append_13 : decode cX3_append 13 = .ok (.getfield 15, 3) := by decide +kernel
theorem dX3_append_16 : decode cX3_append 16 = .ok (.iload_n 1, 1) := by decide +kernel
theorem dX3_append_17 : decode cX3_append 17 = .ok (.bipush 8, 2) := by decide +kernel
theorem dX3_append_19 : decode cX3_append 19 = .ok (.iload_n 3, 1) := by decide +kernel
theorem dX3_append_20 : decode cX3_append 20 = .ok (.imul, 1) := by decide +kernel
theorem dX3_append_21 : decode cX3_append 21 = .ok (.ishr, 1) := by decide +kernel
theorem dX3_append_22 : decode cX3_append 22 = .ok (.i2b, 1) := by decide +kernel
theorem dX3_append_23 : decode cX3_append 23 = .ok (.bastore, 1) := by decide +kernel
theorem dX3_append_24 : decode cX3_append 24 = .ok (.aload_n 0, 1) := by decide +kernel
theorem dX3_append_25 : decode cX3_append 25 = .ok (.dup, 1) := by decide +kernel
theorem dX3_append_26 : decode cX3_append 26 = .ok (.getfield 15, 3) := by decide +kernel
theorem dX3_append_29 : decode cX3_append 29 = .ok (.iconst 1, 1) := by decide +kernel
theorem dX3_append_30 : decode cX3_append 30 = .ok (.iadd, 1) := by decide +kernel
theorem dX3_append_31 : decode cX3_append 31 = .ok (.putfield 15, 3) := by decide +kernel
theorem dX3_append_34 : decode cX3_append 34 = .ok (.iinc 3 (-1), 3) := by decide +kernel
theorem dX3_append_37 : decode cX3_append 37 = .ok (.goto (-33), 3) := by decide +kernel
theorem dX3_append_40 : decode cX3_append 40 = .ok (.return_, 1) := by decide +kernel
set_option maxRecDepth 20000 in
theorem ggX3_tellTo_X3_nextToken : GoodIn wsX3_tellTo wsX3_nextToken := goodIn_r _ [8, 1, 9, 10, 2, 3, 11, 12, 7, 13, 14, 15, 16, 17, 18, 19, 20, 21, 22, 23, 24, 25, 26, 27, 28, 29, 123, 124, 125, 126, 127, 128] (by decide +kernel) (by decide +kernel)
set_option maxRecDepth 20000 in
theorem gX3_tellTo_X3_nextToken : GoodIn wsX3_tellTo (wsV RX3 31 RX3 yX3_nextToken wsX3_nextToken) := goodIn_app (goodIn_of _ (by decide +kernel)) ggX3_tellTo_X3_nextToken
set_option maxRecDepth 20000 in
theorem ggX3_tellTo_X3_kindNamed : GoodIn wsX3_tellTo wsX3_kindNamed := goodIn_r _ [33, 34, 35, 36, 37, 38, 39, 40, 7, 41, 3, 1, 2, 10, 42, 43, 44, 45, 46, 47, 48, 49, 50, 51, 52, 53, 54, 55, 56, 57, 58, 59, 60, 61, 62, 63, 64, 65, 66, 67, 68, 69, 70, 71, 72, 73, 74, 75, 76, 77, 78, 79, 80, 81, 82, 83, 84, 85, 86, 87, 88, 89, 90, 123, 124, 125, 126, 127, 128] (by decide +kernel) (by decide +kernel)
set_option maxRecDepth 20000 in
theorem gX3_tellTo_X3_kindNamed : GoodIn wsX3_tellTo (wsV RX3 34 RX3 yX3_kindNamed wsX3_kindNamed) := goodIn_app (goodIn_of _ (by decide +kernel)) ggX3_tellTo_X3_kindNamed
set_option maxRecDepth 20000 in
theorem ggX3_tellTo_X3_tellDoor : GoodIn wsX3_tellTo wsX3_tellDoor := goodIn_r _ [94, 25, 95, 96, 38, 39, 40, 7, 41, 3, 1, 2, 10, 42, 43, 44, 45, 46, 47, 48, 49, 50, 51, 52, 53, 54, 55, 56, 57, 58, 59, 60, 61, 62, 63, 64, 65, 66, 67, 68, 69, 70, 71, 72, 73, 74, 75, 76, 77, 78, 79, 80, 81, 82, 83, 84, 85, 86, 87, 88, 89, 90, 97, 98, 99, 100, 4, 5, 6, 8, 9, 11, 12, 13, 14, 15, 16, 17, 18, 19, 20, 21, 22, 23, 24, 26, 27, 28, 29, 123, 124, 125, 126, 127, 128, 129, 130, 131, 132, 133, 134, 135, 136, 137, 138, 139] (by decide +kernel) (by decide +kernel)
set_option maxRecDepth 20000 in
theorem gX3_tellTo_X3_tellDoor : GoodIn wsX3_tellTo (wsV RX3 38 RX3 yX3_tellDoor wsX3_tellDoor) := goodIn_app (goodIn_of _ (by decide +kernel)) ggX3_tellTo_X3_tellDoor
set_option maxRecDepth 20000 in
theorem ggX3_tellTo_X3_tellPerson : GoodIn wsX3_tellTo wsX3_tellPerson := goodIn_r _ [104, 25, 105, 106, 107, 108, 109, 110, 111, 112, 97, 98, 99, 7, 100, 3, 4, 5, 6, 8, 1, 9, 10, 2, 11, 12, 13, 14, 15, 16, 17, 18, 19, 20, 21, 22, 23, 24, 26, 27, 28, 29, 113, 114, 115, 116, 117, 118, 119, 120, 121, 122, 38, 39, 40, 41, 42, 43, 44, 45, 46, 47, 48, 49, 50, 51, 52, 53, 54, 55, 56, 57, 58, 59, 60, 61, 62, 63, 64, 65, 66, 67, 68, 69, 70, 71, 72, 73, 74, 75, 76, 77, 78, 79, 80, 81, 82, 83, 84, 85, 86, 87, 88, 89, 90, 123, 124, 125, 126, 127, 128, 129, 130, 131, 132, 133, 134, 135, 136, 137, 138, 139] (by decide +kernel) (by decide +kernel)
set_option maxRecDepth 20000 in
theorem gX3_tellTo_X3_tellPerson : GoodIn wsX3_tellTo (wsV RX3 42 RX3 yX3_tellPerson wsX3_tellPerson) := goodIn_app (goodIn_of _ (by decide +kernel)) ggX3_tellTo_X3_tellPerson
theorem dX3_tellTo_0 : decode cX3_tellTo 0 = .ok (.aload_n 0, 1) := by decide +kernel
theorem dX3_tellTo_1 : decode cX3_tellTo 1 = .ok (.iconst 0, 1) := by decide +kernel
theorem dX3_tellTo_2 : decode cX3_tellTo 2 = .ok (.putfield 25, 3) := by decide +kernel
theorem dX3_tellTo_5 : decode cX3_tellTo 5 = .ok (.aload_n 0, 1) := by decide +kernel
theorem dX3_tellTo_6 : decode cX3_tellTo 6 = .ok (.invokevirtual 31, 3) := by decide +kernel
theorem dX3_tellTo_9 : decode cX3_tellTo 9 = .ok (.iconst 1, 1) := by decide +kernel
theorem dX3_tellTo_10 : decode cX3_tellTo 10 = .ok (.istore_n 2, 1) := by decide +kernel
theorem dX3_tellTo_11 : decode cX3_tellTo 11 = .ok (.iload_n 2, 1) := by decide +kernel
theorem dX3_tellTo_12 : decode cX3_tellTo 12 = .ok (.bipush 120, 2) := by decide +kernel
theorem dX3_tellTo_14 : decode cX3_tellTo 14 = .ok (.if_icmp .gt 74, 3) := by decide +kernel
theorem dX3_tellTo_17 : decode cX3_tellTo 17 = .ok (.aload_n 0, 1) := by decide +kernel
theorem dX3_tellTo_18 : decode cX3_tellTo 18 = .ok (.invokevirtual 34, 3) := by decide +kernel
theorem dX3_tellTo_21 : decode cX3_tellTo 21 = .ok (.istore_n 3, 1) := by decide +kernel
theorem dX3_tellTo_22 : decode cX3_tellTo 22 = .ok (.iload_n 3, 1) := by decide +kernel
theorem dX3_tellTo_23 : decode cX3_tellTo 23 = .ok (.ifCond .ge 11, 3) := by decide +kernel
theorem dX3_tellTo_26 : decode cX3_tellTo 26 = .ok (.aload_n 0, 1) := by decide +kernel
theorem dX3_tellTo_27 : decode cX3_tellTo 27 = .ok (.aload_n 1, 1) := by decide +kernel
theorem dX3_tellTo_28 : decode cX3_tellTo 28 = .ok (.invokevirtual 38, 3) := by decide +kernel
theorem dX3_tellTo_31 : decode cX3_tellTo 31 = .ok (.goto 9, 3) := by decide +kernel
theorem dX3_tellTo_34 : decode cX3_tellTo 34 = .ok (.aload_n 0, 1) := by decide +kernel
theorem dX3_tellTo_35 : decode cX3_tellTo 35 = .ok (.aload_n 1, 1) := by decide +kernel
theorem dX3_tellTo_36 : decode cX3_tellTo 36 = .ok (.iload_n 3, 1) := by decide +kernel
theorem dX3_tellTo_37 : decode cX3_tellTo 37 = .ok (.invokevirtual 42, 3) := by decide +kernel
theorem dX3_tellTo_40 : decode cX3_tellTo 40 = .ok (.istore 4, 2) := by decide +kernel
theorem dX3_tellTo_42 : decode cX3_tellTo 42 = .ok (.iload 4, 2) := by decide +kernel
theorem dX3_tellTo_44 : decode cX3_tellTo 44 = .ok (.ifCond .ne 10, 3) := by decide +kernel
theorem dX3_tellTo_47 : decode cX3_tellTo 47 = .ok (.iconst (-1), 1) := by decide +kernel
theorem dX3_tellTo_48 : decode cX3_tellTo 48 = .ok (.aload_n 0, 1) := by decide +kernel
theorem dX3_tellTo_49 : decode cX3_tellTo 49 = .ok (.getfield 22, 3) := by decide +kernel
theorem dX3_tellTo_52 : decode cX3_tellTo 52 = .ok (.isub, 1) := by decide +kernel
theorem dX3_tellTo_53 : decode cX3_tellTo 53 = .ok (.ireturn, 1) := by decide +kernel
theorem dX3_tellTo_54 : decode cX3_tellTo 54 = .ok (.aload_n 0, 1) := by decide +kernel
theorem dX3_tellTo_55 : decode cX3_tellTo 55 = .ok (.getfield 19, 3) := by decide +kernel
theorem dX3_tellTo_58 : decode cX3_tellTo 58 = .ok (.ifCond .ne 5, 3) := by decide +kernel
theorem dX3_tellTo_61 : decode cX3_tellTo 61 = .ok (.iload_n 2, 1) := by decide +kernel
theorem dX3_tellTo_62 : decode cX3_tellTo 62 = .ok (.ireturn, 1) := by decide +kernel
theorem dX3_tellTo_63 : decode cX3_tellTo 63 = .ok (.aload_n 0, 1) := by decide +kernel
theorem dX3_tellTo_64 : decode cX3_tellTo 64 = .ok (.getfield 19, 3) := by decide +kernel
theorem dX3_tellTo_67 : decode cX3_tellTo 67 = .ok (.iconst 3, 1) := by decide +kernel
theorem dX3_tellTo_68 : decode cX3_tellTo 68 = .ok (.if_icmp .eq 10, 3) := by decide +kernel
theorem dX3_tellTo_71 : decode cX3_tellTo 71 = .ok (.iconst (-1), 1) := by decide +kernel
theorem dX3_tellTo_72 : decode cX3_tellTo 72 = .ok (.aload_n 0, 1) := by decide +kernel
theorem dX3_tellTo_73 : decode cX3_tellTo 73 = .ok (.getfield 22, 3) := by decide +kernel
theorem dX3_tellTo_76 : decode cX3_tellTo 76 = .ok (.isub, 1) := by decide +kernel
theorem dX3_tellTo_77 : decode cX3_tellTo 77 = .ok (.ireturn, 1) := by decide +kernel
theorem dX3_tellTo_78 : decode cX3_tellTo 78 = .ok (.aload_n 0, 1) := by decide +kernel
theorem dX3_tellTo_79 : decode cX3_tellTo 79 = .ok (.invokevirtual 31, 3) := by decide +kernel
theorem dX3_tellTo_82 : decode cX3_tellTo 82 = .ok (.iinc 2 1, 3) := by decide +kernel
theorem dX3_tellTo_85 : decode cX3_tellTo 85 = .ok (.goto (-74), 3) := by decide +kernel
theorem dX3_tellTo_88 : decode cX3_tellTo 88 = .ok (.iconst (-1), 1) := by decide +kernel
theorem dX3_tellTo_89 : decode cX3_tellTo 89 = .ok (.aload_n 0, 1) := by decide +kernel
theorem dX3_tellTo_90 : decode cX3_tellTo 90 = .ok (.getfield 22, 3) := by decide +kernel
theorem dX3_tellTo_93 : decode cX3_tellTo 93 = .ok (.isub, 1) := by decide +kernel
theorem dX3_tellTo_94 : decode cX3_tellTo 94 = .ok (.ireturn, 1) := by decide +kernel
set_option maxRecDepth 20000 in
theorem ggX3_tellDoor_X3_isWord : GoodIn wsX3_tellDoor wsX3_isWord := goodIn_r _ [8, 9, 10, 11, 12, 13, 14, 15, 16, 17, 18, 19, 20, 21, 22, 23, 24, 25, 26, 27, 28, 29, 30, 31, 32, 33, 34, 35, 36, 37, 38, 39, 40, 41, 42, 43, 44, 45, 46, 47, 48, 49, 50, 51, 52, 53, 54, 55, 56, 57, 58, 59, 60, 61, 89, 90, 91, 92, 93, 94] (by decide +kernel) (by decide +kernel)
set_option maxRecDepth 20000 in
theorem gX3_tellDoor_X3_isWord : GoodIn wsX3_tellDoor (wsV RX3 48 RX3 yX3_isWord wsX3_isWord) := goodIn_app (goodIn_of _ (by decide +kernel)) ggX3_tellDoor_X3_isWord
set_option maxRecDepth 20000 in
theorem ggX3_tellDoor_X3_isNumberNext : GoodIn wsX3_tellDoor wsX3_isNumberNext := goodIn_r _ [65, 9, 1, 66, 67, 68, 7, 69, 10, 70, 12, 11, 71, 72, 73, 74, 75, 76, 77, 78, 79, 80, 81, 82, 83, 84, 85, 86, 87, 88, 89, 90, 91, 92, 93, 94] (by decide +kernel) (by decide +kernel)
set_option maxRecDepth 20000 in
theorem gX3_tellDoor_X3_isNumberNext : GoodIn wsX3_tellDoor (wsV RX3 52 RX3 yX3_isNumberNext wsX3_isNumberNext) := goodIn_app (goodIn_of _ (by decide +kernel)) ggX3_tellDoor_X3_isNumberNext
set_option maxRecDepth 20000 in
theorem ggX3_tellDoor_X3_nextToken : GoodIn wsX3_tellDoor wsX3_nextToken := goodIn_r _ [69, 10, 70, 12, 11, 9, 71, 72, 7, 73, 74, 75, 76, 77, 78, 79, 80, 81, 82, 83, 84, 1, 85, 86, 87, 88, 89, 90, 91, 92, 93, 94] (by decide +kernel) (by decide +kernel)
set_option maxRecDepth 20000 in
theorem gX3_tellDoor_X3_nextToken : GoodIn wsX3_tellDoor (wsV RX3 31 RX3 yX3_nextToken wsX3_nextToken) := goodIn_app (goodIn_of _ (by decide +kernel)) ggX3_tellDoor_X3_nextToken
theorem dX3_tellDoor_0 : decode cX3_tellDoor 0 = .ok (.aload_n 0, 1) := by decide +kernel
theorem dX3_tellDoor_1 : decode cX3_tellDoor 1 = .ok (.ldc 46, 2) := by decide +kernel
theorem dX3_tellDoor_3 : decode cX3_tellDoor 3 = .ok (.invokevirtual 48, 3) := by decide +kernel
theorem dX3_tellDoor_6 : decode cX3_tellDoor 6 = .ok (.ifCond .eq 25, 3) := by decide +kernel
theorem dX3_tellDoor_9 : decode cX3_tellDoor 9 = .ok (.aload_n 0, 1) := by decide +kernel
theorem dX3_tellDoor_10 : decode cX3_tellDoor 10 = .ok (.bipush 99, 2) := by decide +kernel
theorem dX3_tellDoor_12 : decode cX3_tellDoor 12 = .ok (.invokevirtual 52, 3) := by decide +kernel
theorem dX3_tellDoor_15 : decode cX3_tellDoor 15 = .ok (.ifCond .ne 5, 3) := by decide +kernel
theorem dX3_tellDoor_18 : decode cX3_tellDoor 18 = .ok (.iconst 0, 1) := by decide +kernel
theorem dX3_tellDoor_19 : decode cX3_tellDoor 19 = .ok (.ireturn, 1) := by decide +kernel
theorem dX3_tellDoor_20 : decode cX3_tellDoor 20 = .ok (.aload_n 1, 1) := by decide +kernel
theorem dX3_tellDoor_21 : decode cX3_tellDoor 21 = .ok (.aload_n 0, 1) := by decide +kernel
theorem dX3_tellDoor_22 : decode cX3_tellDoor 22 = .ok (.getfield 28, 3) := by decide +kernel
theorem dX3_tellDoor_25 : decode cX3_tellDoor 25 = .ok (.putfield 56, 3) := by decide +kernel
theorem dX3_tellDoor_28 : decode cX3_tellDoor 28 = .ok (.goto 36, 3) := by decide +kernel
theorem dX3_tellDoor_31 : decode cX3_tellDoor 31 = .ok (.aload_n 0, 1) := by decide +kernel
theorem dX3_tellDoor_32 : decode cX3_tellDoor 32 = .ok (.ldc 60, 2) := by decide +kernel
theorem dX3_tellDoor_34 : decode cX3_tellDoor 34 = .ok (.invokevirtual 48, 3) := by decide +kernel
theorem dX3_tellDoor_37 : decode cX3_tellDoor 37 = .ok (.ifCond .eq 25, 3) := by decide +kernel
theorem dX3_tellDoor_40 : decode cX3_tellDoor 40 = .ok (.aload_n 0, 1) := by decide +kernel
theorem dX3_tellDoor_41 : decode cX3_tellDoor 41 = .ok (.bipush 60, 2) := by decide +kernel
theorem dX3_tellDoor_43 : decode cX3_tellDoor 43 = .ok (.invokevirtual 52, 3) := by decide +kernel
theorem dX3_tellDoor_46 : decode cX3_tellDoor 46 = .ok (.ifCond .ne 5, 3) := by decide +kernel
theorem dX3_tellDoor_49 : decode cX3_tellDoor 49 = .ok (.iconst 0, 1) := by decide +kernel
theorem dX3_tellDoor_50 : decode cX3_tellDoor 50 = .ok (.ireturn, 1) := by decide +kernel
theorem dX3_tellDoor_51 : decode cX3_tellDoor 51 = .ok (.aload_n 1, 1) := by decide +kernel
theorem dX3_tellDoor_52 : decode cX3_tellDoor 52 = .ok (.aload_n 0, 1) := by decide +kernel
theorem dX3_tellDoor_53 : decode cX3_tellDoor 53 = .ok (.getfield 28, 3) := by decide +kernel
theorem dX3_tellDoor_56 : decode cX3_tellDoor 56 = .ok (.putfield 62, 3) := by decide +kernel
theorem dX3_tellDoor_59 : decode cX3_tellDoor 59 = .ok (.goto 5, 3) := by decide +kernel
theorem dX3_tellDoor_62 : decode cX3_tellDoor 62 = .ok (.iconst 0, 1) := by decide +kernel
theorem dX3_tellDoor_63 : decode cX3_tellDoor 63 = .ok (.ireturn, 1) := by decide +kernel
theorem dX3_tellDoor_64 : decode cX3_tellDoor 64 = .ok (.aload_n 0, 1) := by decide +kernel
theorem dX3_tellDoor_65 : decode cX3_tellDoor 65 = .ok (.invokevirtual 31, 3) := by decide +kernel
theorem dX3_tellDoor_68 : decode cX3_tellDoor 68 = .ok (.iconst 1, 1) := by decide +kernel
theorem dX3_tellDoor_69 : decode cX3_tellDoor 69 = .ok (.ireturn, 1) := by decide +kernel
set_option maxRecDepth 20000 in
theorem ggX3_tellPerson_X1_isFull : GoodIn wsX3_tellPerson wsX1_isFull := goodIn_r _ [8, 9, 111, 112, 113, 114, 115, 116, 117, 118, 119, 120, 121] (by decide +kernel) (by decide +kernel)
set_option maxRecDepth 20000 in
theorem gX3_tellPerson_X1_isFull : GoodIn wsX3_tellPerson (wsV RX3 64 RX1 yX1_isFull wsX1_isFull) := goodIn_app (goodIn_of _ (by decide +kernel)) ggX3_tellPerson_X1_isFull
set_option maxRecDepth 20000 in
theorem ggX3_tellPerson_X3_isNumberNext : GoodIn wsX3_tellPerson wsX3_isNumberNext := goodIn_r _ [14, 15, 1, 16, 17, 18, 13, 19, 20, 21, 22, 23, 24, 25, 26, 27, 28, 29, 30, 31, 32, 33, 34, 35, 36, 37, 38, 39, 40, 41, 105, 106, 107, 108, 109, 110] (by decide +kernel) (by decide +kernel)
set_option maxRecDepth 20000 in
theorem gX3_tellPerson_X3_isNumberNext : GoodIn wsX3_tellPerson (wsV RX3 52 RX3 yX3_isNumberNext wsX3_isNumberNext) := goodIn_app (goodIn_of _ (by decide +kernel)) ggX3_tellPerson_X3_isNumberNext
set_option maxRecDepth 20000 in
theorem ggX3_tellPerson_X1_add : GoodIn wsX3_tellPerson wsX1_add := goodIn_r _ [45, 9, 46, 47, 48, 49, 50, 51, 111, 112, 113, 114, 115, 116, 117, 118, 119, 120, 121] (by decide +kernel) (by decide +kernel)
set_option maxRecDepth 20000 in
theorem gX3_tellPerson_X1_add : GoodIn wsX3_tellPerson (wsV RX3 68 RX1 yX1_add wsX1_add) := goodIn_app (goodIn_of _ (by decide +kernel)) ggX3_tellPerson_X1_add
set_option maxRecDepth 20000 in
theorem ggX3_tellPerson_X3_nextToken : GoodIn wsX3_tellPerson wsX3_nextToken := goodIn_r _ [19, 20, 21, 22, 23, 15, 24, 25, 13, 26, 27, 28, 29, 30, 31, 32, 33, 34, 35, 36, 37, 1, 38, 39, 40, 41, 105, 106, 107, 108, 109, 110] (by decide +kernel) (by decide +kernel)
set_option maxRecDepth 20000 in
theorem gX3_tellPerson_X3_nextToken : GoodIn wsX3_tellPerson (wsV RX3 31 RX3 yX3_nextToken wsX3_nextToken) := goodIn_app (goodIn_of _ (by decide +kernel)) ggX3_tellPerson_X3_nextToken
set_option maxRecDepth 20000 in
theorem ggX3_tellPerson_X3_isWord : GoodIn wsX3_tellPerson wsX3_isWord := goodIn_r _ [55, 15, 20, 23, 22, 56, 57, 58, 59, 60, 61, 62, 63, 64, 65, 66, 67, 68, 69, 70, 71, 72, 73, 74, 75, 76, 77, 78, 79, 80, 81, 82, 83, 84, 85, 86, 87, 88, 89, 90, 91, 92, 93, 94, 95, 96, 97, 98, 99, 100, 101, 102, 103, 104, 105, 106, 107, 108, 109, 110] (by decide +kernel) (by decide +kernel)
set_option maxRecDepth 20000 in
theorem gX3_tellPerson_X3_isWord : GoodIn wsX3_tellPerson (wsV RX3 48 RX3 yX3_isWord wsX3_isWord) := goodIn_app (goodIn_of _ (by decide +kernel)) ggX3_tellPerson_X3_isWord
theorem dX3_tellPerson_0 : decode cX3_tellPerson 0 = .ok (.aload_n 1, 1) := by decide +kernel
theorem dX3_tellPerson_1 : decode cX3_tellPerson 1 = .ok (.invokevirtual 64, 3) := by decide +kernel
theorem dX3_tellPerson_4 : decode cX3_tellPerson 4 = .ok (.ifCond .ne 13, 3) := by decide +kernel
theorem dX3_tellPerson_7 : decode cX3_tellPerson 7 = .ok (.aload_n 0, 1) := by decide +kernel
theorem dX3_tellPerson_8 : decode cX3_tellPerson 8 = .ok (.sipush 999, 3) := by decide +kernel
theorem dX3_tellPerson_11 : decode cX3_tellPerson 11 = .ok (.invokevirtual 52, 3) := by decide +kernel
theorem dX3_tellPerson_14 : decode cX3_tellPerson 14 = .ok (.ifCond .ne 5, 3) := by decide +kernel
theorem dX3_tellPerson_17 : decode cX3_tellPerson 17 = .ok (.iconst 0, 1) := by decide +kernel
theorem dX3_tellPerson_18 : decode cX3_tellPerson 18 = .ok (.ireturn, 1) := by decide +kernel
theorem dX3_tellPerson_19 : decode cX3_tellPerson 19 = .ok (.aload_n 1, 1) := by decide +kernel
theorem dX3_tellPerson_20 : decode cX3_tellPerson 20 = .ok (.iload_n 2, 1) := by decide +kernel
theorem dX3_tellPerson_21 : decode cX3_tellPerson 21 = .ok (.aload_n 0, 1) := by decide +kernel
theorem dX3_tellPerson_22 : decode cX3_tellPerson 22 = .ok (.getfield 28, 3) := by decide +kernel
theorem dX3_tellPerson_25 : decode cX3_tellPerson 25 = .ok (.invokevirtual 68, 3) := by decide +kernel
theorem dX3_tellPerson_28 : decode cX3_tellPerson 28 = .ok (.istore_n 3, 1) := by decide +kernel
theorem dX3_tellPerson_29 : decode cX3_tellPerson 29 = .ok (.aload_n 0, 1) := by decide +kernel
theorem dX3_tellPerson_30 : decode cX3_tellPerson 30 = .ok (.invokevirtual 31, 3) := by decide +kernel
theorem dX3_tellPerson_33 : decode cX3_tellPerson 33 = .ok (.aload_n 0, 1) := by decide +kernel
theorem dX3_tellPerson_34 : decode cX3_tellPerson 34 = .ok (.ldc 72, 2) := by decide +kernel
theorem dX3_tellPerson_36 : decode cX3_tellPerson 36 = .ok (.invokevirtual 48, 3) := by decide +kernel
theorem dX3_tellPerson_39 : decode cX3_tellPerson 39 = .ok (.ifCond .eq 28, 3) := by decide +kernel
theorem dX3_tellPerson_42 : decode cX3_tellPerson 42 = .ok (.aload_n 0, 1) := by decide +kernel
theorem dX3_tellPerson_43 : decode cX3_tellPerson 43 = .ok (.bipush 9, 2) := by decide +kernel
theorem dX3_tellPerson_45 : decode cX3_tellPerson 45 = .ok (.invokevirtual 52, 3) := by decide +kernel
theorem dX3_tellPerson_48 : decode cX3_tellPerson 48 = .ok (.ifCond .ne 5, 3) := by decide +kernel
theorem dX3_tellPerson_51 : decode cX3_tellPerson 51 = .ok (.iconst 0, 1) := by decide +kernel
theorem dX3_tellPerson_52 : decode cX3_tellPerson 52 = .ok (.ireturn, 1) := by decide +kernel
theorem dX3_tellPerson_53 : decode cX3_tellPerson 53 = .ok (.aload_n 1, 1) := by decide +kernel
theorem dX3_tellPerson_54 : decode cX3_tellPerson 54 = .ok (.getfield 74, 3) := by decide +kernel
theorem dX3_tellPerson_57 : decode cX3_tellPerson 57 = .ok (.iload_n 3, 1) := by decide +kernel
theorem dX3_tellPerson_58 : decode cX3_tellPerson 58 = .ok (.aload_n 0, 1) := by decide +kernel
theorem dX3_tellPerson_59 : decode cX3_tellPerson 59 = .ok (.getfield 28, 3) := by decide +kernel
theorem dX3_tellPerson_62 : decode cX3_tellPerson 62 = .ok (.iastore, 1) := by decide +kernel
theorem dX3_tellPerson_63 : decode cX3_tellPerson 63 = .ok (.aload_n 0, 1) := by decide +kernel
theorem dX3_tellPerson_64 : decode cX3_tellPerson 64 = .ok (.invokevirtual 31, 3) := by decide +kernel
theorem dX3_tellPerson_67 : decode cX3_tellPerson 67 = .ok (.aload_n 0, 1) := by decide +kernel
theorem dX3_tellPerson_68 : decode cX3_tellPerson 68 = .ok (.ldc 78, 2) := by decide +kernel
theorem dX3_tellPerson_70 : decode cX3_tellPerson 70 = .ok (.invokevirtual 48, 3) := by decide +kernel
theorem dX3_tellPerson_73 : decode cX3_tellPerson 73 = .ok (.ifCond .eq 14, 3) := by decide +kernel
theorem dX3_tellPerson_76 : decode cX3_tellPerson 76 = .ok (.aload_n 1, 1) := by decide +kernel
theorem dX3_tellPerson_77 : decode cX3_tellPerson 77 = .ok (.getfield 80, 3) := by decide +kernel
theorem dX3_tellPerson_80 : decode cX3_tellPerson 80 = .ok (.iload_n 3, 1) := by decide +kernel
theorem dX3_tellPerson_81 : decode cX3_tellPerson 81 = .ok (.iconst 0, 1) := by decide +kernel
theorem dX3_tellPerson_82 : decode cX3_tellPerson 82 = .ok (.iastore, 1) := by decide +kernel
theorem dX3_tellPerson_83 : decode cX3_tellPerson 83 = .ok (.aload_n 0, 1) := by decide +kernel
theorem dX3_tellPerson_84 : decode cX3_tellPerson 84 = .ok (.invokevirtual 31, 3) := by decide +kernel
theorem dX3_tellPerson_87 : decode cX3_tellPerson 87 = .ok (.iconst 1, 1) := by decide +kernel
theorem dX3_tellPerson_88 : decode cX3_tellPerson 88 = .ok (.ireturn, 1) := by decide +kernel
set_option maxRecDepth 20000 in
theorem ggX3_kindNamed_X0_nameOf : GoodIn wsX3_kindNamed wsX0_nameOf := goodIn_r _ [4] (by decide +kernel) (by decide +kernel)
set_option maxRecDepth 20000 in
theorem gX3_kindNamed_X0_nameOf : GoodIn wsX3_kindNamed (va_wsS RX3 85 yX0_nameOf wsX0_nameOf) := goodIn_app (goodIn_of _ (by decide +kernel)) ggX3_kindNamed_X0_nameOf
set_option maxRecDepth 20000 in
theorem ggX3_kindNamed_X3_isWord : GoodIn wsX3_kindNamed wsX3_isWord := goodIn_r _ [9, 10, 11, 12, 13, 14, 15, 16, 17, 18, 19, 20, 21, 22, 23, 24, 25, 26, 27, 28, 29, 30, 31, 32, 33, 34, 35, 36, 37, 38, 39, 40, 41, 42, 43, 44, 45, 46, 47, 48, 49, 50, 51, 52, 53, 54, 55, 56, 57, 58, 59, 60, 61, 62, 63, 64, 65, 66, 67, 68] (by decide +kernel) (by decide +kernel)
set_option maxRecDepth 20000 in
theorem gX3_kindNamed_X3_isWord : GoodIn wsX3_kindNamed (wsV RX3 48 RX3 yX3_isWord wsX3_isWord) := goodIn_app (goodIn_of _ (by decide +kernel)) ggX3_kindNamed_X3_isWord
theorem dX3_kindNamed_0 : decode cX3_kindNamed 0 = .ok (.iconst 0, 1) := by decide +kernel
theorem dX3_kindNamed_1 : decode cX3_kindNamed 1 = .ok (.istore_n 1, 1) := by decide +kernel
theorem dX3_kindNamed_2 : decode cX3_kindNamed 2 = .ok (.iload_n 1, 1) := by decide +kernel
theorem dX3_kindNamed_3 : decode cX3_kindNamed 3 = .ok (.bipush 6, 2) := by decide +kernel
theorem dX3_kindNamed_5 : decode cX3_kindNamed 5 = .ok (.if_icmp .ge 22, 3) := by decide +kernel
theorem dX3_kindNamed_8 : decode cX3_kindNamed 8 = .ok (.aload_n 0, 1) := by decide +kernel
theorem dX3_kindNamed_9 : decode cX3_kindNamed 9 = .ok (.iload_n 1, 1) := by decide +kernel
theorem dX3_kindNamed_10 : decode cX3_kindNamed 10 = .ok (.invokestatic 85, 3) := by decide +kernel
theorem dX3_kindNamed_13 : decode cX3_kindNamed 13 = .ok (.invokevirtual 48, 3) := by decide +kernel
theorem dX3_kindNamed_16 : decode cX3_kindNamed 16 = .ok (.ifCond .eq 5, 3) := by decide +kernel
theorem dX3_kindNamed_19 : decode cX3_kindNamed 19 = .ok (.iload_n 1, 1) := by decide +kernel
theorem dX3_kindNamed_20 : decode cX3_kindNamed 20 = .ok (.ireturn, 1) := by decide +kernel
theorem dX3_kindNamed_21 : decode cX3_kindNamed 21 = .ok (.iinc 1 1, 3) := by decide +kernel
theorem dX3_kindNamed_24 : decode cX3_kindNamed 24 = .ok (.goto (-22), 3) := by decide +kernel
theorem dX3_kindNamed_27 : decode cX3_kindNamed 27 = .ok (.iconst (-1), 1) := by decide +kernel
theorem dX3_kindNamed_28 : decode cX3_kindNamed 28 = .ok (.ireturn, 1) := by decide +kernel
set_option maxRecDepth 20000 in
theorem ggX3_isNumberNext_X3_nextToken : GoodIn wsX3_isNumberNext wsX3_nextToken := goodIn_r _ [7, 8, 9, 10, 11, 1, 12, 13, 6, 14, 15, 16, 17, 18, 19, 20, 21, 22, 23, 24, 25, 2, 26, 27, 28, 29, 30, 31, 32, 33, 34, 35] (by decide +kernel) (by decide +kernel)
set_option maxRecDepth 20000 in
theorem gX3_isNumberNext_X3_nextToken : GoodIn wsX3_isNumberNext (wsV RX3 31 RX3 yX3_nextToken wsX3_nextToken) := goodIn_app (goodIn_of _ (by decide +kernel)) ggX3_isNumberNext_X3_nextToken
theorem dX3_isNumberNext_0 : decode cX3_isNumberNext 0 = .ok (.aload_n 0, 1) := by decide +kernel
theorem dX3_isNumberNext_1 : decode cX3_isNumberNext 1 = .ok (.invokevirtual 31, 3) := by decide +kernel
theorem dX3_isNumberNext_4 : decode cX3_isNumberNext 4 = .ok (.aload_n 0, 1) := by decide +kernel
theorem dX3_isNumberNext_5 : decode cX3_isNumberNext 5 = .ok (.getfield 19, 3) := by decide +kernel
theorem dX3_isNumberNext_8 : decode cX3_isNumberNext 8 = .ok (.iconst 2, 1) := by decide +kernel
theorem dX3_isNumberNext_9 : decode cX3_isNumberNext 9 = .ok (.if_icmp .ne 15, 3) := by decide +kernel
theorem dX3_isNumberNext_12 : decode cX3_isNumberNext 12 = .ok (.aload_n 0, 1) := by decide +kernel
theorem dX3_isNumberNext_13 : decode cX3_isNumberNext 13 = .ok (.getfield 28, 3) := by decide +kernel
theorem dX3_isNumberNext_16 : decode cX3_isNumberNext 16 = .ok (.iload_n 1, 1) := by decide +kernel
theorem dX3_isNumberNext_17 : decode cX3_isNumberNext 17 = .ok (.if_icmp .gt 7, 3) := by decide +kernel
theorem dX3_isNumberNext_20 : decode cX3_isNumberNext 20 = .ok (.iconst 1, 1) := by decide +kernel
theorem dX3_isNumberNext_21 : decode cX3_isNumberNext 21 = .ok (.goto 4, 3) := by decide +kernel
theorem dX3_isNumberNext_24 : decode cX3_isNumberNext 24 = .ok (.iconst 0, 1) := by decide +kernel
theorem dX3_isNumberNext_25 : decode cX3_isNumberNext 25 = .ok (.ireturn, 1) := by decide +kernel
set_option maxRecDepth 20000 in
theorem ggX3_isWord_J0_length_8abf5 : GoodIn wsX3_isWord wsJ0_length_8abf5 := goodIn_r _ [9, 10, 11, 12, 13, 8, 14, 15, 16] (by decide +kernel) (by decide +kernel)
set_option maxRecDepth 20000 in
theorem gX3_isWord_J0_length_8abf5 : GoodIn wsX3_isWord (wsV RX3 89 RJ0 yJ0_length_8abf5 wsJ0_length_8abf5) := goodIn_app (goodIn_of _ (by decide +kernel)) ggX3_isWord_J0_length_8abf5
set_option maxRecDepth 20000 in
theorem ggX3_isWord_J0_charAt_5068e : GoodIn wsX3_isWord wsJ0_charAt_5068e := goodIn_r _ [20, 10, 21, 22, 23, 8, 24, 15, 16, 25, 26, 27, 28, 29, 30, 31, 32, 33, 34, 35, 36, 37, 38, 39, 40, 41, 42, 43, 44, 45, 46, 47, 48, 49, 50, 51, 52, 53] (by decide +kernel) (by decide +kernel)
set_option maxRecDepth 20000 in
theorem gX3_isWord_J0_charAt_5068e : GoodIn wsX3_isWord (wsV RX3 93 RJ0 yJ0_charAt_5068e wsJ0_charAt_5068e) := goodIn_app (goodIn_of _ (by decide +kernel)) ggX3_isWord_J0_charAt_5068e
theorem dX3_isWord_0 : decode cX3_isWord 0 = .ok (.aload_n 1, 1) := by decide +kernel
theorem dX3_isWord_1 : decode cX3_isWord 1 = .ok (.invokevirtual 89, 3) := by decide +kernel
theorem dX3_isWord_4 : decode cX3_isWord 4 = .ok (.istore_n 2, 1) := by decide +kernel
theorem dX3_isWord_5 : decode cX3_isWord 5 = .ok (.aload_n 0, 1) := by decide +kernel
theorem dX3_isWord_6 : decode cX3_isWord 6 = .ok (.getfield 19, 3) := by decide +kernel
theorem dX3_isWord_9 : decode cX3_isWord 9 = .ok (.iconst 1, 1) := by decide +kernel
theorem dX3_isWord_10 : decode cX3_isWord 10 = .ok (.if_icmp .ne 16, 3) := by decide +kernel
theorem dX3_isWord_13 : decode cX3_isWord 13 = .ok (.aload_n 0, 1) := by decide +kernel
theorem dX3_isWord_14 : decode cX3_isWord 14 = .ok (.getfield 25, 3) := by decide +kernel
theorem dX3_isWord_17 : decode cX3_isWord 17 = .ok (.aload_n 0, 1) := by decide +kernel
theorem dX3_isWord_18 : decode cX3_isWord 18 = .ok (.getfield 22, 3) := by decide +kernel
theorem dX3_isWord_21 : decode cX3_isWord 21 = .ok (.isub, 1) := by decide +kernel
theorem dX3_isWord_22 : decode cX3_isWord 22 = .ok (.iload_n 2, 1) := by decide +kernel
theorem dX3_isWord_23 : decode cX3_isWord 23 = .ok (.if_icmp .eq 5, 3) := by decide +kernel
theorem dX3_isWord_26 : decode cX3_isWord 26 = .ok (.iconst 0, 1) := by decide +kernel
theorem dX3_isWord_27 : decode cX3_isWord 27 = .ok (.ireturn, 1) := by decide +kernel
theorem dX3_isWord_28 : decode cX3_isWord 28 = .ok (.iconst 0, 1) := by decide +kernel
theorem dX3_isWord_29 : decode cX3_isWord 29 = .ok (.istore_n 3, 1) := by decide +kernel
theorem dX3_isWord_30 : decode cX3_isWord 30 = .ok (.iload_n 3, 1) := by decide +kernel
theorem dX3_isWord_31 : decode cX3_isWord 31 = .ok (.iload_n 2, 1) := by decide +kernel
theorem dX3_isWord_32 : decode cX3_isWord 32 = .ok (.if_icmp .ge 30, 3) := by decide +kernel
theorem dX3_isWord_35 : decode cX3_isWord 35 = .ok (.aload_n 0, 1) := by decide +kernel
theorem dX3_isWord_36 : decode cX3_isWord 36 = .ok (.getfield 9, 3) := by decide +kernel
theorem dX3_isWord_39 : decode cX3_isWord 39 = .ok (.aload_n 0, 1) := by decide +kernel
theorem dX3_isWord_40 : decode cX3_isWord 40 = .ok (.getfield 22, 3) := by decide +kernel
theorem dX3_isWord_43 : decode cX3_isWord 43 = .ok (.iload_n 3, 1) := by decide +kernel
theorem dX3_isWord_44 : decode cX3_isWord 44 = .ok (.iadd, 1) := by decide +kernel
theorem dX3_isWord_45 : decode cX3_isWord 45 = .ok (.baload, 1) := by decide +kernel
theorem dX3_isWord_46 : decode cX3_isWord 46 = .ok (.aload_n 1, 1) := by decide +kernel
theorem dX3_isWord_47 : decode cX3_isWord 47 = .ok (.iload_n 3, 1) := by decide +kernel
theorem dX3_isWord_48 : decode cX3_isWord 48 = .ok (.invokevirtual 93, 3) := by decide +kernel
theorem dX3_isWord_51 : decode cX3_isWord 51 = .ok (.if_icmp .eq 5, 3) := by decide +kernel
theorem dX3_isWord_54 : decode cX3_isWord 54 = .ok (.iconst 0, 1) := by decide +kernel
theorem dX3_isWord_55 : decode cX3_isWord 55 = .ok (.ireturn, 1) := by decide +kernel
theorem dX3_isWord_56 : decode cX3_isWord 56 = .ok (.iinc 3 1, 3) := by decide +kernel
theorem dX3_isWord_59 : decode cX3_isWord 59 = .ok (.goto (-29), 3) := by decide +kernel
theorem dX3_isWord_62 : decode cX3_isWord 62 = .ok (.iconst 1, 1) := by decide +kernel
theorem dX3_isWord_63 : decode cX3_isWord 63 = .ok (.ireturn, 1) := by decide +kernel
set_option maxRecDepth 20000 in
theorem ggX3_nextToken_X3_isLetter : GoodIn wsX3_nextToken wsX3_isLetter := goodIn_r _ [9] (by decide +kernel) (by decide +kernel)
set_option maxRecDepth 20000 in
theorem gX3_nextToken_X3_isLetter : GoodIn wsX3_nextToken (va_wsS RX3 97 yX3_isLetter wsX3_isLetter) := goodIn_app (goodIn_of _ (by decide +kernel)) ggX3_nextToken_X3_isLetter
set_option maxRecDepth 20000 in
theorem ggX3_nextToken_X3_passWord : GoodIn wsX3_nextToken wsX3_passWord := goodIn_r _ [13, 1, 2, 3, 6, 7, 8, 9, 26, 27, 28, 29, 30, 31] (by decide +kernel) (by decide +kernel)
set_option maxRecDepth 20000 in
theorem gX3_nextToken_X3_passWord : GoodIn wsX3_nextToken (wsV RX3 101 RX3 yX3_passWord wsX3_passWord) := goodIn_app (goodIn_of _ (by decide +kernel)) ggX3_nextToken_X3_passWord
set_option maxRecDepth 20000 in
theorem ggX3_nextToken_X3_isDigit : GoodIn wsX3_nextToken wsX3_isDigit := goodIn_r _ [16] (by decide +kernel) (by decide +kernel)
set_option maxRecDepth 20000 in
theorem gX3_nextToken_X3_isDigit : GoodIn wsX3_nextToken (va_wsS RX3 104 yX3_isDigit wsX3_isDigit) := goodIn_app (goodIn_of _ (by decide +kernel)) ggX3_nextToken_X3_isDigit
set_option maxRecDepth 20000 in
theorem ggX3_nextToken_X3_passNumber : GoodIn wsX3_nextToken wsX3_passNumber := goodIn_r _ [20, 21, 1, 2, 3, 22, 23, 24, 25, 14, 15, 8, 16, 26, 27, 28, 29, 30, 31] (by decide +kernel) (by decide +kernel)
set_option maxRecDepth 20000 in
theorem gX3_nextToken_X3_passNumber : GoodIn wsX3_nextToken (wsV RX3 107 RX3 yX3_passNumber wsX3_passNumber) := goodIn_app (goodIn_of _ (by decide +kernel)) ggX3_nextToken_X3_passNumber
theorem dX3_nextToken_0 : decode cX3_nextToken 0 = .ok (.aload_n 0, 1) := by decide +kernel
theorem dX3_nextToken_1 : decode cX3_nextToken 1 = .ok (.getfield 25, 3) := by decide +kernel
theorem dX3_nextToken_4 : decode cX3_nextToken 4 = .ok (.aload_n 0, 1) := by decide +kernel
theorem dX3_nextToken_5 : decode cX3_nextToken 5 = .ok (.getfield 15, 3) := by decide +kernel
theorem dX3_nextToken_8 : decode cX3_nextToken 8 = .ok (.if_icmp .ge 30, 3) := by decide +kernel
theorem dX3_nextToken_11 : decode cX3_nextToken 11 = .ok (.aload_n 0, 1) := by decide +kernel
theorem dX3_nextToken_12 : decode cX3_nextToken 12 = .ok (.getfield 9, 3) := by decide +kernel
theorem dX3_nextToken_15 : decode cX3_nextToken 15 = .ok (.aload_n 0, 1) := by decide +kernel
theorem dX3_nextToken_16 : decode cX3_nextToken 16 = .ok (.getfield 25, 3) := by decide +kernel
theorem dX3_nextToken_19 : decode cX3_nextToken 19 = .ok (.baload, 1) := by decide +kernel
theorem dX3_nextToken_20 : decode cX3_nextToken 20 = .ok (.bipush 32, 2) := by decide +kernel
theorem dX3_nextToken_22 : decode cX3_nextToken 22 = .ok (.if_icmp .ne 16, 3) := by decide +kernel
theorem dX3_nextToken_25 : decode cX3_nextToken 25 = .ok (.aload_n 0, 1) := by decide +kernel
theorem dX3_nextToken_26 : decode cX3_nextToken 26 = .ok (.dup, 1) := by decide +kernel
theorem dX3_nextToken_27 : decode cX3_nextToken 27 = .ok (.getfield 25, 3) := by decide +kernel
theorem dX3_nextToken_30 : decode cX3_nextToken 30 = .ok (.iconst 1, 1) := by decide +kernel
theorem dX3_nextToken_31 : decode cX3_nextToken 31 = .ok (.iadd, 1) := by decide +kernel
theorem dX3_nextToken_32 : decode cX3_nextToken 32 = .ok (.putfield 25, 3) := by decide +kernel
theorem dX3_nextToken_35 : decode cX3_nextToken 35 = .ok (.goto (-35), 3) := by decide +kernel
theorem dX3_nextToken_38 : decode cX3_nextToken 38 = .ok (.aload_n 0, 1) := by decide +kernel
theorem dX3_nextToken_39 : decode cX3_nextToken 39 = .ok (.aload_n 0, 1) := by decide +kernel
theorem dX3_nextToken_40 : decode cX3_nextToken 40 = .ok (.getfield 25, 3) := by decide +kernel
theorem dX3_nextToken_43 : decode cX3_nextToken 43 = .ok (.putfield 22, 3) := by decide +kernel
theorem dX3_nextToken_46 : decode cX3_nextToken 46 = .ok (.aload_n 0, 1) := by decide +kernel
theorem dX3_nextToken_47 : decode cX3_nextToken 47 = .ok (.getfield 25, 3) := by decide +kernel
theorem dX3_nextToken_50 : decode cX3_nextToken 50 = .ok (.aload_n 0, 1) := by decide +kernel
theorem dX3_nextToken_51 : decode cX3_nextToken 51 = .ok (.getfield 15, 3) := by decide +kernel
theorem dX3_nextToken_54 : decode cX3_nextToken 54 = .ok (.if_icmp .lt 11, 3) := by decide +kernel
theorem dX3_nextToken_57 : decode cX3_nextToken 57 = .ok (.aload_n 0, 1) := by decide +kernel
theorem dX3_nextToken_58 : decode cX3_nextToken 58 = .ok (.iconst 0, 1) := by decide +kernel
theorem dX3_nextToken_59 : decode cX3_nextToken 59 = .ok (.putfield 19, 3) := by decide +kernel
theorem dX3_nextToken_62 : decode cX3_nextToken 62 = .ok (.goto 94, 3) := by decide +kernel
theorem dX3_nextToken_65 : decode cX3_nextToken 65 = .ok (.aload_n 0, 1) := by decide +kernel
theorem dX3_nextToken_66 : decode cX3_nextToken 66 = .ok (.getfield 9, 3) := by decide +kernel
theorem dX3_nextToken_69 : decode cX3_nextToken 69 = .ok (.aload_n 0, 1) := by decide +kernel
theorem dX3_nextToken_70 : decode cX3_nextToken 70 = .ok (.getfield 25, 3) := by decide +kernel
theorem dX3_nextToken_73 : decode cX3_nextToken 73 = .ok (.baload, 1) := by decide +kernel
theorem dX3_nextToken_74 : decode cX3_nextToken 74 = .ok (.invokestatic 97, 3) := by decide +kernel
theorem dX3_nextToken_77 : decode cX3_nextToken 77 = .ok (.ifCond .eq 15, 3) := by decide +kernel
theorem dX3_nextToken_80 : decode cX3_nextToken 80 = .ok (.aload_n 0, 1) := by decide +kernel
theorem dX3_nextToken_81 : decode cX3_nextToken 81 = .ok (.iconst 1, 1) := by decide +kernel
theorem dX3_nextToken_82 : decode cX3_nextToken 82 = .ok (.putfield 19, 3) := by decide +kernel
theorem dX3_nextToken_85 : decode cX3_nextToken 85 = .ok (.aload_n 0, 1) := by decide +kernel
theorem dX3_nextToken_86 : decode cX3_nextToken 86 = .ok (.invokevirtual 101, 3) := by decide +kernel
theorem dX3_nextToken_89 : decode cX3_nextToken 89 = .ok (.goto 67, 3) := by decide +kernel
theorem dX3_nextToken_92 : decode cX3_nextToken 92 = .ok (.aload_n 0, 1) := by decide +kernel
theorem dX3_nextToken_93 : decode cX3_nextToken 93 = .ok (.getfield 9, 3) := by decide +kernel
theorem dX3_nextToken_96 : decode cX3_nextToken 96 = .ok (.aload_n 0, 1) := by decide +kernel
theorem dX3_nextToken_97 : decode cX3_nextToken 97 = .ok (.getfield 25, 3) := by decide +kernel
theorem dX3_nextToken_100 : decode cX3_nextToken 100 = .ok (.baload, 1) := by decide +kernel
theorem dX3_nextToken_101 : decode cX3_nextToken 101 = .ok (.invokestatic 104, 3) := by decide +kernel
theorem dX3_nextToken_104 : decode cX3_nextToken 104 = .ok (.ifCond .eq 15, 3) := by decide +kernel
theorem dX3_nextToken_107 : decode cX3_nextToken 107 = .ok (.aload_n 0, 1) := by decide +kernel
theorem dX3_nextToken_108 : decode cX3_nextToken 108 = .ok (.iconst 2, 1) := by decide +kernel
theorem dX3_nextToken_109 : decode cX3_nextToken 109 = .ok (.putfield 19, 3) := by decide +kernel
theorem dX3_nextToken_112 : decode cX3_nextToken 112 = .ok (.aload_n 0, 1) := by decide +kernel
theorem dX3_nextToken_113 : decode cX3_nextToken 113 = .ok (.invokevirtual 107, 3) := by decide +kernel
theorem dX3_nextToken_116 : decode cX3_nextToken 116 = .ok (.goto 40, 3) := by decide +kernel
theorem dX3_nextToken_119 : decode cX3_nextToken 119 = .ok (.aload_n 0, 1) := by decide +kernel
theorem dX3_nextToken_120 : decode cX3_nextToken 120 = .ok (.getfield 9, 3) := by decide +kernel
theorem dX3_nextToken_123 : decode cX3_nextToken 123 = .ok (.aload_n 0, 1) := by decide +kernel
theorem dX3_nextToken_124 : decode cX3_nextToken 124 = .ok (.getfield 25, 3) := by decide +kernel
theorem dX3_nextToken_127 : decode cX3_nextToken 127 = .ok (.baload, 1) := by decide +kernel
theorem dX3_nextToken_128 : decode cX3_nextToken 128 = .ok (.bipush 59, 2) := by decide +kernel
theorem dX3_nextToken_130 : decode cX3_nextToken 130 = .ok (.if_icmp .ne 21, 3) := by decide +kernel
theorem dX3_nextToken_133 : decode cX3_nextToken 133 = .ok (.aload_n 0, 1) := by decide +kernel
theorem dX3_nextToken_134 : decode cX3_nextToken 134 = .ok (.iconst 3, 1) := by decide +kernel
theorem dX3_nextToken_135 : decode cX3_nextToken 135 = .ok (.putfield 19, 3) := by decide +kernel
theorem dX3_nextToken_138 : decode cX3_nextToken 138 = .ok (.aload_n 0, 1) := by decide +kernel
theorem dX3_nextToken_139 : decode cX3_nextToken 139 = .ok (.dup, 1) := by decide +kernel
theorem dX3_nextToken_140 : decode cX3_nextToken 140 = .ok (.getfield 25, 3) := by decide +kernel
theorem dX3_nextToken_143 : decode cX3_nextToken 143 = .ok (.iconst 1, 1) := by decide +kernel
theorem dX3_nextToken_144 : decode cX3_nextToken 144 = .ok (.iadd, 1) := by decide +kernel
theorem dX3_nextToken_145 : decode cX3_nextToken 145 = .ok (.putfield 25, 3) := by decide +kernel
theorem dX3_nextToken_148 : decode cX3_nextToken 148 = .ok (.goto 8, 3) := by decide +kernel
theorem dX3_nextToken_151 : decode cX3_nextToken 151 = .ok (.aload_n 0, 1) := by decide +kernel
theorem dX3_nextToken_152 : decode cX3_nextToken 152 = .ok (.iconst 4, 1) := by decide +kernel
theorem dX3_nextToken_153 : decode cX3_nextToken 153 = .ok (.putfield 19, 3) := by decide +kernel
theorem dX3_nextToken_156 : decode cX3_nextToken 156 = .ok (.return_, 1) := by decide +kernel
set_option maxRecDepth 20000 in
theorem ggX3_passWord_X3_isLetter : GoodIn wsX3_passWord wsX3_isLetter := goodIn_r _ [7] (by decide +kernel) (by decide +kernel)
set_option maxRecDepth 20000 in
theorem gX3_passWord_X3_isLetter : GoodIn wsX3_passWord (va_wsS RX3 97 yX3_isLetter wsX3_isLetter) := goodIn_app (goodIn_of _ (by decide +kernel)) ggX3_passWord_X3_isLetter
theorem dX3_passWord_0 : decode cX3_passWord 0 = .ok (.aload_n 0, 1) := by decide +kernel
theorem dX3_passWord_1 : decode cX3_passWord 1 = .ok (.getfield 25, 3) := by decide +kernel
theorem dX3_passWord_4 : decode cX3_passWord 4 = .ok (.aload_n 0, 1) := by decide +kernel
theorem dX3_passWord_5 : decode cX3_passWord 5 = .ok (.getfield 15, 3) := by decide +kernel
theorem dX3_passWord_8 : decode cX3_passWord 8 = .ok (.if_icmp .ge 31, 3) := by decide +kernel
theorem dX3_passWord_11 : decode cX3_passWord 11 = .ok (.aload_n 0, 1) := by decide +kernel
theorem dX3_passWord_12 : decode cX3_passWord 12 = .ok (.getfield 9, 3) := by decide +kernel
theorem dX3_passWord_15 : decode cX3_passWord 15 = .ok (.aload_n 0, 1) := by decide +kernel
theorem dX3_passWord_16 : decode cX3_passWord 16 = .ok (.getfield 25, 3) := by decide +kernel
theorem dX3_passWord_19 : decode cX3_passWord 19 = .ok (.baload, 1) := by decide +kernel
theorem dX3_passWord_20 : decode cX3_passWord 20 = .ok (.invokestatic 97, 3) := by decide +kernel
theorem dX3_passWord_23 : decode cX3_passWord 23 = .ok (.ifCond .eq 16, 3) := by decide +kernel
theorem dX3_passWord_26 : decode cX3_passWord 26 = .ok (.aload_n 0, 1) := by decide +kernel
theorem dX3_passWord_27 : decode cX3_passWord 27 = .ok (.dup, 1) := by decide +kernel
theorem dX3_passWord_28 : decode cX3_passWord 28 = .ok (.getfield 25, 3) := by decide +kernel
theorem dX3_passWord_31 : decode cX3_passWord 31 = .ok (.iconst 1, 1) := by decide +kernel
theorem dX3_passWord_32 : decode cX3_passWord 32 = .ok (.iadd, 1) := by decide +kernel
theorem dX3_passWord_33 : decode cX3_passWord 33 = .ok (.putfield 25, 3) := by decide +kernel
theorem dX3_passWord_36 : decode cX3_passWord 36 = .ok (.goto (-36), 3) := by decide +kernel
theorem dX3_passWord_39 : decode cX3_passWord 39 = .ok (.return_, 1) := by decide +kernel
set_option maxRecDepth 20000 in
theorem ggX3_passNumber_X3_isDigit : GoodIn wsX3_passNumber wsX3_isDigit := goodIn_r _ [12] (by decide +kernel) (by decide +kernel)
set_option maxRecDepth 20000 in
theorem gX3_passNumber_X3_isDigit : GoodIn wsX3_passNumber (va_wsS RX3 104 yX3_isDigit wsX3_isDigit) := goodIn_app (goodIn_of _ (by decide +kernel)) ggX3_passNumber_X3_isDigit
theorem dX3_passNumber_0 : decode cX3_passNumber 0 = .ok (.aload_n 0, 1) := by decide +kernel
theorem dX3_passNumber_1 : decode cX3_passNumber 1 = .ok (.iconst 0, 1) := by decide +kernel
theorem dX3_passNumber_2 : decode cX3_passNumber 2 = .ok (.putfield 28, 3) := by decide +kernel
theorem dX3_passNumber_5 : decode cX3_passNumber 5 = .ok (.aload_n 0, 1) := by decide +kernel
theorem dX3_passNumber_6 : decode cX3_passNumber 6 = .ok (.getfield 25, 3) := by decide +kernel
theorem dX3_passNumber_9 : decode cX3_passNumber 9 = .ok (.aload_n 0, 1) := by decide +kernel
theorem dX3_passNumber_10 : decode cX3_passNumber 10 = .ok (.getfield 15, 3) := by decide +kernel
theorem dX3_passNumber_13 : decode cX3_passNumber 13 = .ok (.if_icmp .ge 61, 3) := by decide +kernel
theorem dX3_passNumber_16 : decode cX3_passNumber 16 = .ok (.aload_n 0, 1) := by decide +kernel
theorem dX3_passNumber_17 : decode cX3_passNumber 17 = .ok (.getfield 9, 3) := by decide +kernel
theorem dX3_passNumber_20 : decode cX3_passNumber 20 = .ok (.aload_n 0, 1) := by decide +kernel
theorem dX3_passNumber_21 : decode cX3_passNumber 21 = .ok (.getfield 25, 3) := by decide +kernel
theorem dX3_passNumber_24 : decode cX3_passNumber 24 = .ok (.baload, 1) := by decide +kernel
theorem dX3_passNumber_25 : decode cX3_passNumber 25 = .ok (.invokestatic 104, 3) := by decide +kernel
theorem dX3_passNumber_28 : decode cX3_passNumber 28 = .ok (.ifCond .eq 46, 3) := by decide +kernel
theorem dX3_passNumber_31 : decode cX3_passNumber 31 = .ok (.aload_n 0, 1) := by decide +kernel
theorem dX3_passNumber_32 : decode cX3_passNumber 32 = .ok (.bipush 10, 2) := by decide +kernel
theorem dX3_passNumber_34 : decode cX3_passNumber 34 = .ok (.aload_n 0, 1) := by decide +kernel
theorem dX3_passNumber_35 : decode cX3_passNumber 35 = .ok (.getfield 28, 3) := by decide +kernel
theorem dX3_passNumber_38 : decode cX3_passNumber 38 = .ok (.imul, 1) := by decide +kernel
theorem dX3_passNumber_39 : decode cX3_passNumber 39 = .ok (.aload_n 0, 1) := by decide +kernel
theorem dX3_passNumber_40 : decode cX3_passNumber 40 = .ok (.getfield 9, 3) := by decide +kernel
theorem dX3_passNumber_43 : decode cX3_passNumber 43 = .ok (.aload_n 0, 1) := by decide +kernel
theorem dX3_passNumber_44 : decode cX3_passNumber 44 = .ok (.getfield 25, 3) := by decide +kernel
theorem dX3_passNumber_47 : decode cX3_passNumber 47 = .ok (.baload, 1) := by decide +kernel
theorem dX3_passNumber_48 : decode cX3_passNumber 48 = .ok (.iadd, 1) := by decide +kernel
theorem dX3_passNumber_49 : decode cX3_passNumber 49 = .ok (.bipush 48, 2) := by decide +kernel
theorem dX3_passNumber_51 : decode cX3_passNumber 51 = .ok (.isub, 1) := by decide +kernel
theorem dX3_passNumber_52 : decode cX3_passNumber 52 = .ok (.sipush 1000, 3) := by decide +kernel
theorem dX3_passNumber_55 : decode cX3_passNumber 55 = .ok (.invokestatic 110, 3) := by decide +kernel
theorem dX3_passNumber_58 : decode cX3_passNumber 58 = .ok (.putfield 28, 3) := by decide +kernel
theorem dX3_passNumber_61 : decode cX3_passNumber 61 = .ok (.aload_n 0, 1) := by decide +kernel
theorem dX3_passNumber_62 : decode cX3_passNumber 62 = .ok (.dup, 1) := by decide +kernel
theorem dX3_passNumber_63 : decode cX3_passNumber 63 = .ok (.getfield 25, 3) := by decide +kernel
theorem dX3_passNumber_66 : decode cX3_passNumber 66 = .ok (.iconst 1, 1) := by decide +kernel
theorem dX3_passNumber_67 : decode cX3_passNumber 67 = .ok (.iadd, 1) := by decide +kernel
theorem dX3_passNumber_68 : decode cX3_passNumber 68 = .ok (.putfield 25, 3) := by decide +kernel
theorem dX3_passNumber_71 : decode cX3_passNumber 71 = .ok (.goto (-66), 3) := by decide +kernel
theorem dX3_passNumber_74 : decode cX3_passNumber 74 = .ok (.return_, 1) := by decide +kernel
theorem dX3_isLetter_0 : decode cX3_isLetter 0 = .ok (.iload_n 0, 1) := by decide +kernel
theorem dX3_isLetter_1 : decode cX3_isLetter 1 = .ok (.bipush 97, 2) := by decide +kernel
theorem dX3_isLetter_3 : decode cX3_isLetter 3 = .ok (.if_icmp .lt 13, 3) := by decide +kernel
theorem dX3_isLetter_6 : decode cX3_isLetter 6 = .ok (.iload_n 0, 1) := by decide +kernel
theorem dX3_isLetter_7 : decode cX3_isLetter 7 = .ok (.bipush 122, 2) := by decide +kernel
theorem dX3_isLetter_9 : decode cX3_isLetter 9 = .ok (.if_icmp .gt 7, 3) := by decide +kernel
theorem dX3_isLetter_12 : decode cX3_isLetter 12 = .ok (.iconst 1, 1) := by decide +kernel
theorem dX3_isLetter_13 : decode cX3_isLetter 13 = .ok (.goto 4, 3) := by decide +kernel
theorem dX3_isLetter_16 : decode cX3_isLetter 16 = .ok (.iconst 0, 1) := by decide +kernel
theorem dX3_isLetter_17 : decode cX3_isLetter 17 = .ok (.ireturn, 1) := by decide +kernel
theorem dX3_isDigit_0 : decode cX3_isDigit 0 = .ok (.iload_n 0, 1) := by decide +kernel
theorem dX3_isDigit_1 : decode cX3_isDigit 1 = .ok (.bipush 48, 2) := by decide +kernel
theorem dX3_isDigit_3 : decode cX3_isDigit 3 = .ok (.if_icmp .lt 13, 3) := by decide +kernel
theorem dX3_isDigit_6 : decode cX3_isDigit 6 = .ok (.iload_n 0, 1) := by decide +kernel
theorem dX3_isDigit_7 : decode cX3_isDigit 7 = .ok (.bipush 57, 2) := by decide +kernel
theorem dX3_isDigit_9 : decode cX3_isDigit 9 = .ok (.if_icmp .gt 7, 3) := by decide +kernel
theorem dX3_isDigit_12 : decode cX3_isDigit 12 = .ok (.iconst 1, 1) := by decide +kernel
theorem dX3_isDigit_13 : decode cX3_isDigit 13 = .ok (.goto 4, 3) := by decide +kernel
theorem dX3_isDigit_16 : decode cX3_isDigit 16 = .ok (.iconst 0, 1) := by decide +kernel
theorem dX3_isDigit_17 : decode cX3_isDigit 17 = .ok (.ireturn, 1) := by decide +kernel
